theorem goodV_bd {X Y Z : Int} (hX : 0 ≤ X ∧ X ≤ 9) (hY : 0 ≤ Y ∧ Y ≤ 9) (hZ : 0 ≤ Z ∧ Z ≤ 9) : 0 ≤ goodV X Y Z ∧ goodV X Y Z ≤ 39 := by
  unfold goodV
  omega
theorem film_bd {c G : Int} (hc : 1 ≤ c ∧ c ≤ 9) (hG : 0 ≤ G ∧ G ≤ 39) : 0 ≤ c * G ∧ c * G ≤ 351 := by
  have h1 := Int.mul_nonneg (show (0 : Int) ≤ c by omega) hG.1
  have h2 := Int.mul_le_mul hc.2 hG.2 hG.1 (by decide)
  omega
theorem c_goes {L : Nat} {d : Nat} {g : am_G} {fl : am_L} {P : Option Value → am_G → am_I → am_L → Prop} {fi : am_I} {sq : Option sq_T} {b m : Int32} {B : Nat} {kd v aim gust m0 cd X Y Z : Int} {row : Nat → Int} {calm : Bool} (hS : SF L g) (hq : SQs fi sq) (hb : b.toInt = (B : Int)) (hb5 : B < 5) (hkd : (fi 32 B).toInt = kd) (hv : (fi 33 B).toInt = v) (hcd : (fi 34 B).toInt = cd) (haim : (fi 35 B).toInt = aim) (hrow : ∀ j, j < 4 → (fi 37 (4 * B + j)).toInt = row j) (hcalm : fi 31 35 = bI calm) (hgust : (fi 31 36).toInt = gust) (hX : (fi 38 0).toInt = X) (hY : (fi 38 1).toInt = Y) (hZ : (fi 38 2).toInt = Z) (hm : m.toInt = m0) (hk6 : 0 ≤ kd ∧ kd ≤ 6) (hv9 : 0 ≤ v ∧ v ≤ 9) (ha6 : 1 ≤ aim ∧ aim ≤ 60) (hg9 : 0 ≤ gust ∧ gust ≤ 9) (hm9 : 0 ≤ m0 ∧ m0 ≤ 11000) (hr9 : ∀ j, j < 4 → 0 ≤ row j ∧ row j ≤ 9) (hc9 : 1 ≤ cd ∧ cd ≤ 9) (hX9 : 0 ≤ X ∧ X ≤ 9) (hY9 : 0 ≤ Y ∧ Y ≤ 9) (hZ9 : 0 ≤ Z ∧ Z ≤ 9) (kk : ∀ (R : go_T) (fi3 : am_I), R = goL (mkLk sq B kd v) kd v aim row gust calm 30 0 m0 0 (cd * goodV X Y Z) → gF fi fi3 → (fi3 31 30).toInt = gSz R → (fi3 31 31).toInt = gLf (mkLk sq B kd v) R → (fi3 31 32).toInt = gBr (mkLk sq B kd v) R → (fi3 31 33).toInt = gMn R → fi3 31 34 = bI (!R.1) → P none g fi3 fl) : WP (d + 6) 157 0 [some (.ref 31), some (.int b), some (.int m), none, none, none, none] [] g fi fl P := by
  have hGb := goodV_bd hX9 hY9 hZ9
  have hFb := film_bd hc9 hGb
  refine wi_aload_0 ct_157_0 ?_
  refine wi_iload_2 ct_157_1 ?_
  refine wi_pf ct_157_2 (sT_31 hS) rfl ?_
  refine wi_aload_0 ct_157_5 ?_
  refine wi_ic ct_157_6 kc_0 ?_
  refine wi_pf ct_157_7 (sT_31 hS) rfl ?_
  refine wi_aload_0 ct_157_10 ?_
  refine wi_aload_0 ct_157_11 ?_
  refine wi_gfr ct_157_12 (sT_31 hS) rfl (sR_31_4 hS) ?_
  refine wi_iload_1 ct_157_15 ?_
  refine wi_iald (x := fi 34 B) ct_157_16 (sT_34 hS) (sL_34 hS) (i_in hb (by omega)) (i_cl (k := B) hb (by omega)) (Eq.trans (up2_nq (by decide)) (up2_nq (by decide))) ?_
  refine wi_aload_0 ct_157_17 ?_
  refine wi_cv0 (ls' := [some _]) ct_157_18 (Nat.le_of_ble_eq_true rfl) (by decide) (sT_31 hS) rfl (by decide) rfl rfl (Nat.le_of_ble_eq_true rfl) ?_
  refine c_mgood (fi := (up2 (up2 fi 31 29 (m)) 31 27 (0))) hS ((congrArg Int32.toInt ((Eq.trans (up2_nq (by decide)) (up2_nq (by decide))))).trans hX) ((congrArg Int32.toInt ((Eq.trans (up2_nq (by decide)) (up2_nq (by decide))))).trans hY) ((congrArg Int32.toInt ((Eq.trans (up2_nq (by decide)) (up2_nq (by decide))))).trans hZ) hX9 hY9 hZ9 (fun zg hzg => wk_i ?_)
  have hfm := i_mul hcd hzg (by omega)
  refine wi_imul ct_157_21 rfl ?_
  refine wi_pf ct_157_22 (sT_31 hS) rfl ?_
  refine wi_aload_0 ct_157_25 ?_
  refine wi_ic ct_157_26 kc_0 ?_
  refine wi_pf ct_157_27 (sT_31 hS) rfl ?_
  refine wi_aload_0 ct_157_30 ?_
  refine wi_ic ct_157_31 kc_0 ?_
  refine wi_pf ct_157_32 (sT_31 hS) rfl ?_
  refine wi_aload_0 ct_157_35 ?_
  refine wi_ic ct_157_36 kc_0 ?_
  refine wi_pf ct_157_37 (sT_31 hS) rfl ?_
  refine wi_aload_0 ct_157_40 ?_
  refine wi_ic ct_157_41 kc_0 ?_
  refine wi_pfz ct_157_42 (sT_31 hS) rfl (by decide) ?_
  refine wi_ic ct_157_45 kc_0 ?_
  refine wi_istore_3 rfl ct_157_46 ?_
  refine wi_ic ct_157_47 kc_0 ?_
  refine wi_istore_4 rfl ct_157_48 ?_
  exact vl_goes hS hq hb hb5 hkd hv haim hrow hcalm hgust hk6 hv9 ha6 hg9 hm9 hr9 30 0 m0 0 (cd * goodV X Y Z) _ _ none none _ rfl rfl ⟨fun q h1 h2 => (Eq.trans (funext fun _ => up2_nq h2) (Eq.trans (funext fun _ => up2_nq h2) (Eq.trans (funext fun _ => up2_nq h2) (Eq.trans (funext fun _ => up2_nq h2) (Eq.trans (funext fun _ => up2_nq h2) (Eq.trans (funext fun _ => up2_nq h2) (funext fun _ => up2_nq h2))))))), fun j hj => (Eq.trans (up2_nj (by omega)) (Eq.trans (up2_nj (by omega)) (Eq.trans (up2_nj (by omega)) (Eq.trans (up2_nj (by omega)) (Eq.trans (up2_nj (by omega)) (Eq.trans (up2_nj (by omega)) (up2_nj (by omega))))))))⟩ rfl (by omega) (by omega) hFb ((congrArg Int32.toInt (Eq.trans (up2_nj (by decide)) (Eq.trans (up2_nj (by decide)) (Eq.trans (up2_nj (by decide)) (Eq.trans (up2_nj (by decide)) (Eq.trans (up2_nj (by decide)) (Eq.trans (up2_nj (by decide)) up2_eq))))))).trans hm) (congrArg Int32.toInt (Eq.trans (up2_nj (by decide)) (Eq.trans (up2_nj (by decide)) (Eq.trans (up2_nj (by decide)) (Eq.trans (up2_nj (by decide)) (Eq.trans (up2_nj (by decide)) up2_eq)))))) ((congrArg Int32.toInt (Eq.trans (up2_nj (by decide)) (Eq.trans (up2_nj (by decide)) (Eq.trans (up2_nj (by decide)) (Eq.trans (up2_nj (by decide)) up2_eq))))).trans hfm) up2_eq (Eq.trans (up2_nj (by decide)) (Eq.trans (up2_nj (by decide)) (Eq.trans (up2_nj (by decide)) up2_eq))) (Eq.trans (up2_nj (by decide)) (Eq.trans (up2_nj (by decide)) up2_eq)) (Eq.trans (up2_nj (by decide)) up2_eq) rfl rfl (kk _ · rfl)
def cF (fi fi2 : am_I) : Prop := (∀ q, q ≠ 15 → q ≠ 16 → fi2 q = fi q) ∧ ∀ j, (j < 4 ∨ j = 5 ∨ j = 6) → fi2 15 j = fi 15 j
theorem SQk.fr {g : am_G} {fi fi2 : am_I} {sq : Option sq_T} (h : SQk g fi sq) (e : ∀ q, 72 ≤ q → fi2 q = fi q) : SQk g fi2 sq := by
  cases sq with
  | none => exact h
  | some Q =>
    obtain ⟨q, a0, a1, a2, a4, a5, a6, h1, ⟨d, d0, d1, d2, d4, d5, d6⟩, h3, h4, h5⟩ := h
    exact ⟨q, a0, a1, a2, a4, a5, a6, h1, ⟨d, d0, d1, d2, d4, d5, d6⟩, h3, h4.fr (e _ d) (e _ d0) (e _ d1) (e _ d2) (e _ d4) (e _ d5) (e _ d6), h5⟩
theorem vtk_0 (kd : Int) : vtk 0 kd = 1 := by
  unfold vtk
  rcases kt_mem kd with e | e | e | e | e | e | e <;> rw [e] <;> rfl
set_option maxHeartbeats 2000000 in
theorem vl_run {L : Nat} {d : Nat} {g : am_G} {fl : am_L} {P : Option Value → am_G → am_I → am_L → Prop} {fi : am_I} {sq : Option sq_T} {p r : Nat} {Bi kd v aim gust m0 : Int} {row : Nat → Int} {calm : Bool} (hS : SF L g) (hq : SQk g fi sq) (hp72 : 72 ≤ p) (hp : g.1 p = am_kt kd) (hpv : (fi p 2).toInt = v) (haim : (fi 15 2).toInt = aim) (hrow : kd = 6 → g.2.2.1 p 6 = some r ∧ g.1 r = 20 ∧ g.2.1 r = 4 ∧ ∀ j, j < 4 → (fi r j).toInt = row j) (hr72 : kd = 6 → 72 ≤ r) (hcalm : fi 15 6 = bI calm) (hgust : (fi 15 5).toInt = gust) (hk6 : 0 ≤ kd ∧ kd ≤ 6) (hv9 : 0 ≤ v ∧ v ≤ 9) (ha6 : 1 ≤ aim ∧ aim ≤ 60) (hg9 : 0 ≤ gust ∧ gust ≤ 9) (hm9 : 0 ≤ m0 ∧ m0 ≤ 11000) (hr9 : ∀ j, j < 4 → 0 ≤ row j ∧ row j ≤ 9) : ∀ (n k : Nat) (clk sz fm : Int) (fi2 : am_I) (i : Int32) (R : go_T), k + n = 30 → goL (mkLk sq Bi kd v) kd v aim row gust calm n k clk sz fm = R → cF fi fi2 → i.toInt = (k : Int) + 1 → clk = m0 + k → (0 ≤ sz ∧ sz ≤ 3 * k) → (0 ≤ fm ∧ fm ≤ 351) → (fi2 15 4).toInt = clk → (fi2 15 7).toInt = sz → (fi2 15 8).toInt = fm → fi2 15 13 = 0 → (1 ≤ k → (fi2 15 10).toInt = (k : Int)) → (fi2 16 0).toInt = Bi → (fi2 16 1).toInt = kd → (fi2 16 2).toInt = v → (∀ fi3 : am_I, cF fi fi3 → (fi3 15 7).toInt = gSz R → (fi3 15 11).toInt = gLf (mkLk sq Bi kd v) R → (fi3 15 12).toInt = gBr (mkLk sq Bi kd v) R → (fi3 15 10).toInt = gMn R → (fi3 15 4).toInt = R.2.1 → fi3 15 13 = bI (!R.1) → P none g fi3 fl) → WP (d + 6) 17 33 [some (.ref 15), some (.ref p), some (.int i)] [] g fi2 fl P := by
  have hlk := mkLk_bd (b := Bi) (k := kd) (v := v) (SQk_v hq)
  intro n
  induction n with
  | zero =>
    intro k clk sz fm fi2 i R hkn hR hf hik hck hszb hfmb hclk hsz hfm h13 h10 hl0 hl1 hl2 kk
    refine wi_iload_2 ct_17_33 ?_
    refine wi_ic ct_17_34 kc_30 ?_
    refine wi_icgt_t ct_17_36 hik ki_30 (by omega) ?_
    refine wi_aload_0 ct_17_86 ?_
    refine wi_cv0 (ls' := [some _]) ct_17_87 (Nat.le_of_ble_eq_true rfl) (by decide) (sT_15 hS) rfl (by decide) rfl rfl (Nat.le_of_ble_eq_true rfl) ?_
    refine wi_aload_0 ct_20_0 ?_
    refine wi_ic ct_20_1 kc_1 ?_
    refine wi_pfz ct_20_2 (sT_15 hS) rfl (by decide) ?_
    refine wi_aload_0 ct_20_5 ?_
    refine wi_ic ct_20_6 kc_0 ?_
    refine wi_pf ct_20_7 (sT_15 hS) rfl ?_
    refine wi_aload_0 ct_20_10 ?_
    refine wi_ic ct_20_11 kc_0 ?_
    refine wi_pf ct_20_12 (sT_15 hS) rfl ?_
    refine wi_aload_0 ct_20_15 ?_
    refine wi_ic ct_20_16 kc_0 ?_
    refine wi_pf ct_20_17 (sT_15 hS) rfl ?_
    refine wi_ret ct_20_20 (wk_v ?_)
    refine wi_ret ct_17_90 ?_
    unfold goL at hR
    subst hR
    refine kk _ ⟨fun q h1 h2 => (Eq.trans (funext fun _ => up2_nq h1) (Eq.trans (funext fun _ => up2_nq h1) (Eq.trans (funext fun _ => up2_nq h1) (Eq.trans (funext fun _ => up2_nq h1) (hf.1 q h1 h2))))), fun j hj => (Eq.trans (up2_nj (by omega)) (Eq.trans (up2_nj (by omega)) (Eq.trans (up2_nj (by omega)) (Eq.trans (up2_nj (by omega)) (hf.2 j hj)))))⟩ ?_ ?_ ?_ ?_ ?_ ?_
    · exact ((congrArg Int32.toInt (Eq.trans (up2_nj (by decide)) (Eq.trans (up2_nj (by decide)) up2_eq))).trans ki_0)
    · exact ((congrArg Int32.toInt (Eq.trans (up2_nj (by decide)) up2_eq)).trans ki_0)
    · exact ((congrArg Int32.toInt up2_eq).trans ki_0)
    · exact ((congrArg Int32.toInt (Eq.trans (up2_nj (by decide)) (Eq.trans (up2_nj (by decide)) (Eq.trans (up2_nj (by decide)) (up2_nj (by decide)))))).trans (h10 (by omega)))
    · exact ((congrArg Int32.toInt (Eq.trans (up2_nj (by decide)) (Eq.trans (up2_nj (by decide)) (Eq.trans (up2_nj (by decide)) (up2_nj (by decide)))))).trans hclk)
    · exact (Eq.trans (up2_nj (by decide)) (Eq.trans (up2_nj (by decide)) (Eq.trans (up2_nj (by decide)) up2_eq)))
  | succ n ih =>
    intro k clk sz fm fi2 i R hkn hR hf hik hck hszb hfmb hclk hsz hfm h13 h10 hl0 hl1 hl2 kk
    rcases Decidable.em (k = 0) with hk0 | hk0
    · skip
      cases calm
      · skip
        refine wi_iload_2 ct_17_33 ?_
        refine wi_ic ct_17_34 kc_30 ?_
        refine wi_icgt_f ct_17_36 hik ki_30 (by omega) ?_
        refine wi_aload_0 ct_17_39 ?_
        refine wi_iload_2 ct_17_40 ?_
        refine wi_pf ct_17_41 (sT_15 hS) rfl ?_
        refine wi_aload_0 ct_17_44 ?_
        refine wi_aload_1 ct_17_45 ?_
        refine wi_cv1 (ls' := [some _, some _, none, none]) ct_17_46 (Nat.le_of_ble_eq_true rfl) (by decide) (sT_15 hS) rfl (by decide) rfl rfl (Nat.le_of_ble_eq_true rfl) ?_
        refine wi_aload_0 ct_18_0 ?_
        refine wi_gf (x := i) ct_18_1 (sT_15 hS) rfl rfl up2_eq ?_
        refine wi_ic ct_18_4 kc_1 ?_
        refine wi_icne_f ct_18_5 hik ki_1 (by omega) ?_
        refine wi_aload_0 ct_18_8 ?_
        refine wi_gf (x := fi 15 5) ct_18_9 (sT_15 hS) rfl rfl (Eq.trans (up2_nj (by decide)) (hf.2 5 (by decide))) ?_
        refine wi_goto ct_18_12 ?_
        refine wi_istore_2 rfl ct_18_16 ?_
        refine wi_aload_0 ct_18_17 ?_
        refine wi_aload_0 ct_18_18 ?_
        refine wi_gf (x := 0) ct_18_19 (sT_15 hS) rfl rfl (Eq.trans (up2_nj (by decide)) ((hf.2 6 (by decide)).trans hcalm)) ?_
        refine wi_ifeq_t ct_18_22 ki_0 (by decide) ?_
        refine wi_aload_0 ct_18_29 ?_
        refine wi_ic ct_18_30 kc_0 ?_
        refine wi_ic ct_18_31 kc_0 ?_
        refine wi_cv2 (ls' := [some _, some _, some _]) ct_18_32 (Nat.le_of_ble_eq_true rfl) (by decide) (sT_15 hS) rfl (by decide) rfl rfl (Nat.le_of_ble_eq_true rfl) ?_
        refine c_look (fi := (up2 fi2 15 10 (i))) (W0 := 0) (O0 := 0) (clk := clk) (sz := sz) (fm := fm) hS (hq.fr (fun q hq => (Eq.trans (funext fun _ => up2_nq (by omega)) (hf.1 q (by omega) (by omega))))) ((congrArg Int32.toInt (up2_nq (by decide))).trans hl0) ((congrArg Int32.toInt (up2_nq (by decide))).trans hl1) ((congrArg Int32.toInt (up2_nq (by decide))).trans hl2) ((congrArg Int32.toInt (up2_nj (by decide))).trans hclk) ((congrArg Int32.toInt (up2_nj (by decide))).trans hsz) ((congrArg Int32.toInt (up2_nj (by decide))).trans hfm) (by omega) (by omega) (by omega) ki_0 (by decide) ki_0 (fun z1 f2 hz1 hgf2 hjf2 => wk_i ?_)
        have hbz1 := hlk 0 0 (clk) (sz) (fm) (by decide) (by decide)
        unfold mkLk at hbz1
        refine wi_iload_2 ct_18_35 ?_
        refine wi_iadd ct_18_36 rfl ?_
        refine wi_pf ct_18_37 (sT_15 hS) rfl ?_
        refine wi_aload_1 ct_18_40 ?_
        refine wi_aload_0 ct_18_41 ?_
        refine wi_gf (x := fi2 15 7) ct_18_42 (sT_15 hS) rfl rfl (Eq.trans (up2_nj (by decide)) (Eq.trans (congrFun (hgf2 15 (by decide)) _) (up2_nj (by decide)))) ?_
        refine wi_cvK1 ct_18_45 (Nat.le_of_ble_eq_true rfl) hp (by decide) rfl ?_
        refine c_pace hk6 hsz (fun zpc hzpc => wk_i ?_)
        obtain ⟨pc, hpc⟩ : ∃ pc, paceV kd sz = pc := ⟨_, rfl⟩
        have hpb := paceV_bd kd sz
        rw [hpc] at hzpc hpb
        refine wi_istore_3 rfl ct_18_48 ?_
        refine wi_aload_0 ct_18_49 ?_
        refine wi_dup ct_18_50 rfl ?_
        refine wi_gf (x := fi2 15 7) ct_18_51 (sT_15 hS) rfl rfl (Eq.trans (up2_nj (by decide)) (Eq.trans (congrFun (hgf2 15 (by decide)) _) (up2_nj (by decide)))) ?_
        refine wi_iload_3 ct_18_54 ?_
        refine wi_iadd ct_18_55 rfl ?_
        refine wi_pf ct_18_56 (sT_15 hS) rfl ?_
        refine wi_aload_0 ct_18_59 ?_
        refine wi_dup ct_18_60 rfl ?_
        refine wi_gf (x := fi2 15 8) ct_18_61 (sT_15 hS) rfl rfl (Eq.trans (up2_nj (by decide)) (Eq.trans (up2_nj (by decide)) (Eq.trans (congrFun (hgf2 15 (by decide)) _) (up2_nj (by decide))))) ?_
        refine wi_iload_3 ct_18_64 ?_
        refine wi_aload_0 ct_18_65 ?_
        refine wi_gf (x := (z1 + fi 15 5)) ct_18_66 (sT_15 hS) rfl rfl (Eq.trans (up2_nj (by decide)) up2_eq) ?_
        refine wi_iadd ct_18_69 rfl ?_
        refine wi_isub ct_18_70 rfl ?_
        refine wi_pf ct_18_71 (sT_15 hS) rfl ?_
        refine wi_aload_0 ct_18_74 ?_
        refine wi_dup ct_18_75 rfl ?_
        refine wi_gf (x := fi2 15 4) ct_18_76 (sT_15 hS) rfl rfl (Eq.trans (up2_nj (by decide)) (Eq.trans (up2_nj (by decide)) (Eq.trans (up2_nj (by decide)) (Eq.trans (congrFun (hgf2 15 (by decide)) _) (up2_nj (by decide)))))) ?_
        refine wi_ic ct_18_79 kc_1 ?_
        refine wi_iadd ct_18_80 rfl ?_
        refine wi_pf ct_18_81 (sT_15 hS) rfl ?_
        refine wi_ret ct_18_84 (wk_v ?_)
        refine wi_aload_0 ct_17_49 ?_
        refine wi_gf (x := (fi2 15 8 - (zpc + (z1 + fi 15 5)))) ct_17_50 (sT_15 hS) rfl rfl (Eq.trans (up2_nj (by decide)) up2_eq) ?_
        refine wi_aload_0 ct_17_53 ?_
        refine wi_gf (x := (fi2 15 7 + zpc)) ct_17_54 (sT_15 hS) rfl rfl (Eq.trans (up2_nj (by decide)) (Eq.trans (up2_nj (by decide)) up2_eq)) ?_
        refine wi_ic ct_17_57 kc_2 ?_
        refine wi_idiv ct_17_58 (by decide) rfl ?_
        refine wi_icge ct_17_59 (i_sub hfm (i_add hzpc (i_add hz1 hgust (by omega)) (by omega)) (by omega)) (i_div (i_add hsz hzpc (by omega)) ki_2 (by omega) (by omega)) (fun h3 => ?_) (fun h3 => ?_)
        · skip
          refine wi_aload_1 ct_17_67 ?_
          refine wi_aload_0 ct_17_68 ?_
          refine wi_cvK1 ct_17_69 (Nat.le_of_ble_eq_true rfl) hp (by decide) rfl ?_
          refine c_shut (fi := (up2 (up2 (up2 (up2 f2 15 9 ((z1 + fi 15 5))) 15 7 ((fi2 15 7 + zpc))) 15 8 ((fi2 15 8 - (zpc + (z1 + fi 15 5))))) 15 4 ((fi2 15 4 + 1)))) (row := row) (r := r) hS hk6 hp ((congrArg Int32.toInt (congrFun (Eq.trans (funext fun _ => up2_nq (by omega)) (Eq.trans (funext fun _ => up2_nq (by omega)) (Eq.trans (funext fun _ => up2_nq (by omega)) (Eq.trans (funext fun _ => up2_nq (by omega)) (Eq.trans (hgf2 p (by omega)) (Eq.trans (funext fun _ => up2_nq (by omega)) (hf.1 p (by omega) (by omega)))))))) _)).trans hpv) ((congrArg Int32.toInt (Eq.trans (up2_nj (by decide)) (Eq.trans (up2_nj (by decide)) (Eq.trans (up2_nj (by decide)) (Eq.trans (up2_nj (by decide)) (Eq.trans (congrFun (hgf2 15 (by decide)) _) (Eq.trans (up2_nj (by decide)) (hf.2 2 (by decide))))))))).trans haim) ((congrArg Int32.toInt (Eq.trans (up2_nj (by decide)) (Eq.trans (up2_nj (by decide)) up2_eq))).trans (i_add hsz hzpc (by omega))) ((congrArg Int32.toInt (Eq.trans (up2_nj (by decide)) up2_eq)).trans (i_sub hfm (i_add hzpc (i_add hz1 hgust (by omega)) (by omega)) (by omega))) ((congrArg Int32.toInt (Eq.trans (up2_nj (by decide)) (Eq.trans (up2_nj (by decide)) (Eq.trans (up2_nj (by decide)) up2_eq)))).trans (i_add hz1 hgust (by omega))) ((congrArg Int32.toInt up2_eq).trans (i_add hclk ki_1 (by omega))) (fun h6 => ⟨(hrow h6).1, (hrow h6).2.1, (hrow h6).2.2.1, fun j hj => (congrArg Int32.toInt (congrFun (Eq.trans (funext fun _ => up2_nq (fun e => by have := hr72 h6; omega)) (Eq.trans (funext fun _ => up2_nq (fun e => by have := hr72 h6; omega)) (Eq.trans (funext fun _ => up2_nq (fun e => by have := hr72 h6; omega)) (Eq.trans (funext fun _ => up2_nq (fun e => by have := hr72 h6; omega)) (Eq.trans (hgf2 r (fun e => by have := hr72 h6; omega)) (Eq.trans (funext fun _ => up2_nq (fun e => by have := hr72 h6; omega)) (hf.1 r (fun e => by have := hr72 h6; omega) (fun e => by have := hr72 h6; omega)))))))) _)).trans ((hrow h6).2.2.2 j hj)⟩) hv9 ha6 (by omega) (by omega) (by omega) (by omega) hr9 (fun hs => wk_i ?_) (fun hs => wk_i ?_)
          · skip
            refine wi_ifeq_f ct_17_72 ki_1 (by decide) ?_
            refine wi_aload_0 ct_17_75 ?_
            refine wi_cv0 (ls' := [some _]) ct_17_76 (Nat.le_of_ble_eq_true rfl) (by decide) (sT_15 hS) rfl (by decide) rfl rfl (Nat.le_of_ble_eq_true rfl) ?_
            refine wi_aload_0 ct_19_0 ?_
            refine wi_ic ct_19_1 kc_10 ?_
            refine wi_aload_0 ct_19_3 ?_
            refine wi_gf (x := (fi2 15 8 - (zpc + (z1 + fi 15 5)))) ct_19_4 (sT_15 hS) rfl rfl (Eq.trans (up2_nj (by decide)) up2_eq) ?_
            refine wi_imul ct_19_7 rfl ?_
            refine wi_aload_0 ct_19_8 ?_
            refine wi_gf (x := (fi2 15 7 + zpc)) ct_19_9 (sT_15 hS) rfl rfl (Eq.trans (up2_nj (by decide)) (Eq.trans (up2_nj (by decide)) up2_eq)) ?_
            refine wi_ic ct_19_12 kc_1 ?_
            refine wi_iadd ct_19_13 rfl ?_
            refine wi_idiv ct_19_14 (i_nz (i_add (i_add hsz hzpc (by omega)) ki_1 (by omega)) (by omega)) rfl ?_
            have hd1 := i_div (i_mul ki_10 (i_sub hfm (i_add hzpc (i_add hz1 hgust (by omega)) (by omega)) (by omega)) (by omega)) (i_add (i_add hsz hzpc (by omega)) ki_1 (by omega)) (by omega) (by omega)
            have hd1b : 0 ≤ 10 * (fm - (pc + (lkV sq (FL Bi kd v (clk) (sz) (fm)) 0 0 + gust))) / (sz + pc + 1) := Int.ediv_nonneg (by omega) (by omega)
            have hd1c : 10 * (fm - (pc + (lkV sq (FL Bi kd v (clk) (sz) (fm)) 0 0 + gust))) / (sz + pc + 1) ≤ 10 * (fm - (pc + (lkV sq (FL Bi kd v (clk) (sz) (fm)) 0 0 + gust))) := Int.ediv_le_self _ (by omega)
            refine wi_aload_0 ct_19_15 ?_
            refine wi_ic ct_19_16 kc_1 ?_
            refine wi_ic ct_19_17 kc_1 ?_
            refine wi_cv2 (ls' := [some _, some _, some _]) ct_19_18 (Nat.le_of_ble_eq_true rfl) (by decide) (sT_15 hS) rfl (by decide) rfl rfl (Nat.le_of_ble_eq_true rfl) ?_
            refine c_look (fi := (up2 (up2 (up2 (up2 f2 15 9 ((z1 + fi 15 5))) 15 7 ((fi2 15 7 + zpc))) 15 8 ((fi2 15 8 - (zpc + (z1 + fi 15 5))))) 15 4 ((fi2 15 4 + 1)))) (W0 := 1) (O0 := 1) (clk := clk + 1) (sz := sz + pc) (fm := fm - (pc + (lkV sq (FL Bi kd v (clk) (sz) (fm)) 0 0 + gust))) hS (hq.fr (fun q hq => (Eq.trans (funext fun _ => up2_nq (by omega)) (Eq.trans (funext fun _ => up2_nq (by omega)) (Eq.trans (funext fun _ => up2_nq (by omega)) (Eq.trans (funext fun _ => up2_nq (by omega)) (Eq.trans (hgf2 q (by omega)) (Eq.trans (funext fun _ => up2_nq (by omega)) (hf.1 q (by omega) (by omega)))))))))) ((congrArg Int32.toInt (Eq.trans (up2_nq (by decide)) (Eq.trans (up2_nq (by decide)) (Eq.trans (up2_nq (by decide)) (Eq.trans (up2_nq (by decide)) (Eq.trans (hjf2 0 (by decide)) (up2_nq (by decide)))))))).trans hl0) ((congrArg Int32.toInt (Eq.trans (up2_nq (by decide)) (Eq.trans (up2_nq (by decide)) (Eq.trans (up2_nq (by decide)) (Eq.trans (up2_nq (by decide)) (Eq.trans (hjf2 1 (by decide)) (up2_nq (by decide)))))))).trans hl1) ((congrArg Int32.toInt (Eq.trans (up2_nq (by decide)) (Eq.trans (up2_nq (by decide)) (Eq.trans (up2_nq (by decide)) (Eq.trans (up2_nq (by decide)) (Eq.trans (hjf2 2 (by decide)) (up2_nq (by decide)))))))).trans hl2) (((congrArg Int32.toInt up2_eq).trans (i_add hclk ki_1 (by omega))).trans (by omega)) (((congrArg Int32.toInt (Eq.trans (up2_nj (by decide)) (Eq.trans (up2_nj (by decide)) up2_eq))).trans (i_add hsz hzpc (by omega))).trans (by omega)) (((congrArg Int32.toInt (Eq.trans (up2_nj (by decide)) up2_eq)).trans (i_sub hfm (i_add hzpc (i_add hz1 hgust (by omega)) (by omega)) (by omega))).trans (by omega)) (by omega) (by omega) (by omega) ki_1 (by decide) ki_1 (fun z4 f5 hz4 hgf5 hjf5 => wk_i ?_)
            have hbz4 := hlk 1 1 (clk + 1) (sz + pc) (fm - (pc + (lkV sq (FL Bi kd v (clk) (sz) (fm)) 0 0 + gust))) (by decide) (by decide)
            unfold mkLk at hbz4
            refine wi_ic ct_19_21 kc_1 ?_
            refine wi_iadd ct_19_22 rfl ?_
            refine wi_idiv ct_19_23 (i_nz (i_add hz4 ki_1 (by omega)) (by omega)) rfl ?_
            have hd2 := i_div hd1 (i_add hz4 ki_1 (by omega)) (by omega) (by omega)
            have hd3 : ((((10 * (fi2 15 8 - (zpc + (z1 + fi 15 5)))) / ((fi2 15 7 + zpc) + 1)) / (z4 + 1))).toInt = gLf (mkLk sq Bi kd v) ((true, clk + 1, sz + pc, fm - (pc + (lkV sq (FL Bi kd v (clk) (sz) (fm)) 0 0 + gust)), k + 1) : go_T) := hd2.trans (by unfold gLf mkLk; rw [if_pos rfl])
            have hlf := gLf_bd hlk (R := ((true, clk + 1, sz + pc, fm - (pc + (lkV sq (FL Bi kd v (clk) (sz) (fm)) 0 0 + gust)), k + 1) : go_T)) (fun _ => ⟨by dsimp only; omega, by dsimp only; omega⟩) (by dsimp only; omega)
            have hlf3 := hlf.2.2 rfl
            dsimp only at hlf3
            refine wi_pf ct_19_24 (sT_15 hS) rfl ?_
            refine wi_aload_0 ct_19_27 ?_
            refine wi_aload_0 ct_19_28 ?_
            refine wi_gf (x := (fi2 15 7 + zpc)) ct_19_29 (sT_15 hS) rfl rfl (Eq.trans (up2_nj (by decide)) (Eq.trans (congrFun (hgf5 15 (by decide)) _) (Eq.trans (up2_nj (by decide)) (Eq.trans (up2_nj (by decide)) up2_eq)))) ?_
            refine wi_aload_0 ct_19_32 ?_
            refine wi_gf (x := (((10 * (fi2 15 8 - (zpc + (z1 + fi 15 5)))) / ((fi2 15 7 + zpc) + 1)) / (z4 + 1))) ct_19_33 (sT_15 hS) rfl rfl up2_eq ?_
            refine wi_imul ct_19_36 rfl ?_
            have hm1 := i_mul (i_add hsz hzpc (by omega)) hd3 (by omega)
            refine wi_aload_0 ct_19_37 ?_
            refine wi_ic ct_19_38 kc_2 ?_
            refine wi_ic ct_19_39 kc_1 ?_
            refine wi_cv2 (ls' := [some _, some _, some _]) ct_19_40 (Nat.le_of_ble_eq_true rfl) (by decide) (sT_15 hS) rfl (by decide) rfl rfl (Nat.le_of_ble_eq_true rfl) ?_
            refine c_look (fi := (up2 f5 15 11 ((((10 * (fi2 15 8 - (zpc + (z1 + fi 15 5)))) / ((fi2 15 7 + zpc) + 1)) / (z4 + 1))))) (W0 := 2) (O0 := 1) (clk := clk + 1) (sz := sz + pc) (fm := fm - (pc + (lkV sq (FL Bi kd v (clk) (sz) (fm)) 0 0 + gust))) hS (hq.fr (fun q hq => (Eq.trans (funext fun _ => up2_nq (by omega)) (Eq.trans (hgf5 q (by omega)) (Eq.trans (funext fun _ => up2_nq (by omega)) (Eq.trans (funext fun _ => up2_nq (by omega)) (Eq.trans (funext fun _ => up2_nq (by omega)) (Eq.trans (funext fun _ => up2_nq (by omega)) (Eq.trans (hgf2 q (by omega)) (Eq.trans (funext fun _ => up2_nq (by omega)) (hf.1 q (by omega) (by omega)))))))))))) ((congrArg Int32.toInt (Eq.trans (up2_nq (by decide)) (Eq.trans (hjf5 0 (by decide)) (Eq.trans (up2_nq (by decide)) (Eq.trans (up2_nq (by decide)) (Eq.trans (up2_nq (by decide)) (Eq.trans (up2_nq (by decide)) (Eq.trans (hjf2 0 (by decide)) (up2_nq (by decide)))))))))).trans hl0) ((congrArg Int32.toInt (Eq.trans (up2_nq (by decide)) (Eq.trans (hjf5 1 (by decide)) (Eq.trans (up2_nq (by decide)) (Eq.trans (up2_nq (by decide)) (Eq.trans (up2_nq (by decide)) (Eq.trans (up2_nq (by decide)) (Eq.trans (hjf2 1 (by decide)) (up2_nq (by decide)))))))))).trans hl1) ((congrArg Int32.toInt (Eq.trans (up2_nq (by decide)) (Eq.trans (hjf5 2 (by decide)) (Eq.trans (up2_nq (by decide)) (Eq.trans (up2_nq (by decide)) (Eq.trans (up2_nq (by decide)) (Eq.trans (up2_nq (by decide)) (Eq.trans (hjf2 2 (by decide)) (up2_nq (by decide)))))))))).trans hl2) (((congrArg Int32.toInt (Eq.trans (up2_nj (by decide)) (Eq.trans (congrFun (hgf5 15 (by decide)) _) up2_eq))).trans (i_add hclk ki_1 (by omega))).trans (by omega)) (((congrArg Int32.toInt (Eq.trans (up2_nj (by decide)) (Eq.trans (congrFun (hgf5 15 (by decide)) _) (Eq.trans (up2_nj (by decide)) (Eq.trans (up2_nj (by decide)) up2_eq))))).trans (i_add hsz hzpc (by omega))).trans (by omega)) (((congrArg Int32.toInt (Eq.trans (up2_nj (by decide)) (Eq.trans (congrFun (hgf5 15 (by decide)) _) (Eq.trans (up2_nj (by decide)) up2_eq)))).trans (i_sub hfm (i_add hzpc (i_add hz1 hgust (by omega)) (by omega)) (by omega))).trans (by omega)) (by omega) (by omega) (by omega) ki_2 (by decide) ki_1 (fun z6 f7 hz6 hgf7 hjf7 => wk_i ?_)
            have hbz6 := hlk 2 1 (clk + 1) (sz + pc) (fm - (pc + (lkV sq (FL Bi kd v (clk) (sz) (fm)) 0 0 + gust))) (by decide) (by decide)
            unfold mkLk at hbz6
            refine wi_imul ct_19_43 rfl ?_
            have hm0 := Int.mul_nonneg hlf3.2 hbz6.1
            have hmx := Int.mul_le_mul hlf3.1 hbz6.2 hbz6.1 (by decide)
            have hm2 := i_mul hm1 hz6 (by omega)
            refine wi_ic ct_19_44 kc_99999 ?_
            refine wi_cs2 (ls' := [some _, some _]) ct_19_46 (Nat.le_of_ble_eq_true rfl) rfl (Nat.le_of_ble_eq_true rfl) ?_
            refine c_min hm2 ki_99999 (fun zb hzb => wk_i ?_)
            have hbr : zb.toInt = gBr (mkLk sq Bi kd v) ((true, clk + 1, sz + pc, fm - (pc + (lkV sq (FL Bi kd v (clk) (sz) (fm)) 0 0 + gust)), k + 1) : go_T) := hzb.trans (by unfold gBr; rw [if_pos rfl]; rfl)
            refine wi_pf ct_19_49 (sT_15 hS) rfl ?_
            refine wi_ret ct_19_52 (wk_v ?_)
            refine wi_ret ct_17_79 ?_
            rw [goL_2 hpc (show windV (mkLk sq Bi kd v) gust false k clk sz fm = lkV sq (FL Bi kd v (clk) (sz) (fm)) 0 0 + gust from by unfold windV mkLk; rw [if_pos hk0]; rfl) (by omega) hs] at hR
            subst hR
            refine kk _ ⟨fun q h1 h2 => (Eq.trans (funext fun _ => up2_nq h1) (Eq.trans (hgf7 q h2) (Eq.trans (funext fun _ => up2_nq h1) (Eq.trans (hgf5 q h2) (Eq.trans (funext fun _ => up2_nq h1) (Eq.trans (funext fun _ => up2_nq h1) (Eq.trans (funext fun _ => up2_nq h1) (Eq.trans (funext fun _ => up2_nq h1) (Eq.trans (hgf2 q h2) (Eq.trans (funext fun _ => up2_nq h1) (hf.1 q h1 h2))))))))))), fun j hj => (Eq.trans (up2_nj (by omega)) (Eq.trans (congrFun (hgf7 15 (by decide)) _) (Eq.trans (up2_nj (by omega)) (Eq.trans (congrFun (hgf5 15 (by decide)) _) (Eq.trans (up2_nj (by omega)) (Eq.trans (up2_nj (by omega)) (Eq.trans (up2_nj (by omega)) (Eq.trans (up2_nj (by omega)) (Eq.trans (congrFun (hgf2 15 (by decide)) _) (Eq.trans (up2_nj (by omega)) (hf.2 j hj)))))))))))⟩ ?_ ?_ ?_ ?_ ?_ ?_
            · exact ((congrArg Int32.toInt (Eq.trans (up2_nj (by decide)) (Eq.trans (congrFun (hgf7 15 (by decide)) _) (Eq.trans (up2_nj (by decide)) (Eq.trans (congrFun (hgf5 15 (by decide)) _) (Eq.trans (up2_nj (by decide)) (Eq.trans (up2_nj (by decide)) up2_eq))))))).trans (i_add hsz hzpc (by omega))).trans (by unfold gSz; rw [if_pos rfl])
            · exact ((congrArg Int32.toInt (Eq.trans (up2_nj (by decide)) (Eq.trans (congrFun (hgf7 15 (by decide)) _) up2_eq))).trans hd3)
            · exact ((congrArg Int32.toInt up2_eq).trans hbr)
            · exact ((congrArg Int32.toInt (Eq.trans (up2_nj (by decide)) (Eq.trans (congrFun (hgf7 15 (by decide)) _) (Eq.trans (up2_nj (by decide)) (Eq.trans (congrFun (hgf5 15 (by decide)) _) (Eq.trans (up2_nj (by decide)) (Eq.trans (up2_nj (by decide)) (Eq.trans (up2_nj (by decide)) (Eq.trans (up2_nj (by decide)) (Eq.trans (congrFun (hgf2 15 (by decide)) _) up2_eq)))))))))).trans hik).trans (by unfold gMn; dsimp only; omega)
            · exact ((congrArg Int32.toInt (Eq.trans (up2_nj (by decide)) (Eq.trans (congrFun (hgf7 15 (by decide)) _) (Eq.trans (up2_nj (by decide)) (Eq.trans (congrFun (hgf5 15 (by decide)) _) up2_eq))))).trans (i_add hclk ki_1 (by omega)))
            · exact (Eq.trans (up2_nj (by decide)) (Eq.trans (congrFun (hgf7 15 (by decide)) _) (Eq.trans (up2_nj (by decide)) (Eq.trans (congrFun (hgf5 15 (by decide)) _) (Eq.trans (up2_nj (by decide)) (Eq.trans (up2_nj (by decide)) (Eq.trans (up2_nj (by decide)) (Eq.trans (up2_nj (by decide)) (Eq.trans (congrFun (hgf2 15 (by decide)) _) (Eq.trans (up2_nj (by decide)) h13))))))))))
          · skip
            refine wi_ifeq_t ct_17_72 ki_0 (by decide) ?_
            refine wi_iinc_2 rfl (z := (i + 1)) ct_17_80 (by rw [kc_1]) ?_
            refine wi_goto ct_17_83 ?_
            rw [goL_3 hpc (show windV (mkLk sq Bi kd v) gust false k clk sz fm = lkV sq (FL Bi kd v (clk) (sz) (fm)) 0 0 + gust from by unfold windV mkLk; rw [if_pos hk0]; rfl) (by omega) hs] at hR
            exact ih (k + 1) _ _ _ _ _ R (by omega) hR ⟨fun q h1 h2 => (Eq.trans (funext fun _ => up2_nq h1) (Eq.trans (funext fun _ => up2_nq h1) (Eq.trans (funext fun _ => up2_nq h1) (Eq.trans (funext fun _ => up2_nq h1) (Eq.trans (hgf2 q h2) (Eq.trans (funext fun _ => up2_nq h1) (hf.1 q h1 h2))))))), fun j hj => (Eq.trans (up2_nj (by omega)) (Eq.trans (up2_nj (by omega)) (Eq.trans (up2_nj (by omega)) (Eq.trans (up2_nj (by omega)) (Eq.trans (congrFun (hgf2 15 (by decide)) _) (Eq.trans (up2_nj (by omega)) (hf.2 j hj)))))))⟩ ((i_add hik ki_1 (by omega)).trans (by omega)) (by omega) (by omega) (by omega) (((congrArg Int32.toInt up2_eq).trans (i_add hclk ki_1 (by omega))).trans (by omega)) (((congrArg Int32.toInt (Eq.trans (up2_nj (by decide)) (Eq.trans (up2_nj (by decide)) up2_eq))).trans (i_add hsz hzpc (by omega))).trans (by omega)) (((congrArg Int32.toInt (Eq.trans (up2_nj (by decide)) up2_eq)).trans (i_sub hfm (i_add hzpc (i_add hz1 hgust (by omega)) (by omega)) (by omega))).trans (by omega)) (Eq.trans (up2_nj (by decide)) (Eq.trans (up2_nj (by decide)) (Eq.trans (up2_nj (by decide)) (Eq.trans (up2_nj (by decide)) (Eq.trans (congrFun (hgf2 15 (by decide)) _) (Eq.trans (up2_nj (by decide)) h13)))))) (fun _ => ((congrArg Int32.toInt (Eq.trans (up2_nj (by decide)) (Eq.trans (up2_nj (by decide)) (Eq.trans (up2_nj (by decide)) (Eq.trans (up2_nj (by decide)) (Eq.trans (congrFun (hgf2 15 (by decide)) _) up2_eq)))))).trans hik).trans (by omega)) ((congrArg Int32.toInt (Eq.trans (up2_nq (by decide)) (Eq.trans (up2_nq (by decide)) (Eq.trans (up2_nq (by decide)) (Eq.trans (up2_nq (by decide)) (Eq.trans (hjf2 0 (by decide)) (up2_nq (by decide)))))))).trans hl0) ((congrArg Int32.toInt (Eq.trans (up2_nq (by decide)) (Eq.trans (up2_nq (by decide)) (Eq.trans (up2_nq (by decide)) (Eq.trans (up2_nq (by decide)) (Eq.trans (hjf2 1 (by decide)) (up2_nq (by decide)))))))).trans hl1) ((congrArg Int32.toInt (Eq.trans (up2_nq (by decide)) (Eq.trans (up2_nq (by decide)) (Eq.trans (up2_nq (by decide)) (Eq.trans (up2_nq (by decide)) (Eq.trans (hjf2 2 (by decide)) (up2_nq (by decide)))))))).trans hl2) kk
        · skip
          refine wi_aload_0 ct_17_62 ?_
          refine wi_cv0 (ls' := [some _]) ct_17_63 (Nat.le_of_ble_eq_true rfl) (by decide) (sT_15 hS) rfl (by decide) rfl rfl (Nat.le_of_ble_eq_true rfl) ?_
          refine wi_aload_0 ct_20_0 ?_
          refine wi_ic ct_20_1 kc_1 ?_
          refine wi_pfz ct_20_2 (sT_15 hS) rfl (by decide) ?_
          refine wi_aload_0 ct_20_5 ?_
          refine wi_ic ct_20_6 kc_0 ?_
          refine wi_pf ct_20_7 (sT_15 hS) rfl ?_
          refine wi_aload_0 ct_20_10 ?_
          refine wi_ic ct_20_11 kc_0 ?_
          refine wi_pf ct_20_12 (sT_15 hS) rfl ?_
          refine wi_aload_0 ct_20_15 ?_
          refine wi_ic ct_20_16 kc_0 ?_
          refine wi_pf ct_20_17 (sT_15 hS) rfl ?_
          refine wi_ret ct_20_20 (wk_v ?_)
          refine wi_ret ct_17_66 ?_
          rw [goL_1 hpc (show windV (mkLk sq Bi kd v) gust false k clk sz fm = lkV sq (FL Bi kd v (clk) (sz) (fm)) 0 0 + gust from by unfold windV mkLk; rw [if_pos hk0]; rfl) (by omega)] at hR
          subst hR
          refine kk _ ⟨fun q h1 h2 => (Eq.trans (funext fun _ => up2_nq h1) (Eq.trans (funext fun _ => up2_nq h1) (Eq.trans (funext fun _ => up2_nq h1) (Eq.trans (funext fun _ => up2_nq h1) (Eq.trans (funext fun _ => up2_nq h1) (Eq.trans (funext fun _ => up2_nq h1) (Eq.trans (funext fun _ => up2_nq h1) (Eq.trans (funext fun _ => up2_nq h1) (Eq.trans (hgf2 q h2) (Eq.trans (funext fun _ => up2_nq h1) (hf.1 q h1 h2))))))))))), fun j hj => (Eq.trans (up2_nj (by omega)) (Eq.trans (up2_nj (by omega)) (Eq.trans (up2_nj (by omega)) (Eq.trans (up2_nj (by omega)) (Eq.trans (up2_nj (by omega)) (Eq.trans (up2_nj (by omega)) (Eq.trans (up2_nj (by omega)) (Eq.trans (up2_nj (by omega)) (Eq.trans (congrFun (hgf2 15 (by decide)) _) (Eq.trans (up2_nj (by omega)) (hf.2 j hj)))))))))))⟩ ?_ ?_ ?_ ?_ ?_ ?_
          · exact ((congrArg Int32.toInt (Eq.trans (up2_nj (by decide)) (Eq.trans (up2_nj (by decide)) up2_eq))).trans ki_0)
          · exact ((congrArg Int32.toInt (Eq.trans (up2_nj (by decide)) up2_eq)).trans ki_0)
          · exact ((congrArg Int32.toInt up2_eq).trans ki_0)
          · exact ((congrArg Int32.toInt (Eq.trans (up2_nj (by decide)) (Eq.trans (up2_nj (by decide)) (Eq.trans (up2_nj (by decide)) (Eq.trans (up2_nj (by decide)) (Eq.trans (up2_nj (by decide)) (Eq.trans (up2_nj (by decide)) (Eq.trans (up2_nj (by decide)) (Eq.trans (up2_nj (by decide)) (Eq.trans (congrFun (hgf2 15 (by decide)) _) up2_eq)))))))))).trans hik).trans (by unfold gMn; dsimp only; omega)
          · exact ((congrArg Int32.toInt (Eq.trans (up2_nj (by decide)) (Eq.trans (up2_nj (by decide)) (Eq.trans (up2_nj (by decide)) (Eq.trans (up2_nj (by decide)) up2_eq))))).trans (i_add hclk ki_1 (by omega)))
          · exact (Eq.trans (up2_nj (by decide)) (Eq.trans (up2_nj (by decide)) (Eq.trans (up2_nj (by decide)) up2_eq)))
      · skip
        refine wi_iload_2 ct_17_33 ?_
        refine wi_ic ct_17_34 kc_30 ?_
        refine wi_icgt_f ct_17_36 hik ki_30 (by omega) ?_
        refine wi_aload_0 ct_17_39 ?_
        refine wi_iload_2 ct_17_40 ?_
        refine wi_pf ct_17_41 (sT_15 hS) rfl ?_
        refine wi_aload_0 ct_17_44 ?_
        refine wi_aload_1 ct_17_45 ?_
        refine wi_cv1 (ls' := [some _, some _, none, none]) ct_17_46 (Nat.le_of_ble_eq_true rfl) (by decide) (sT_15 hS) rfl (by decide) rfl rfl (Nat.le_of_ble_eq_true rfl) ?_
        refine wi_aload_0 ct_18_0 ?_
        refine wi_gf (x := i) ct_18_1 (sT_15 hS) rfl rfl up2_eq ?_
        refine wi_ic ct_18_4 kc_1 ?_
        refine wi_icne_f ct_18_5 hik ki_1 (by omega) ?_
        refine wi_aload_0 ct_18_8 ?_
        refine wi_gf (x := fi 15 5) ct_18_9 (sT_15 hS) rfl rfl (Eq.trans (up2_nj (by decide)) (hf.2 5 (by decide))) ?_
        refine wi_goto ct_18_12 ?_
        refine wi_istore_2 rfl ct_18_16 ?_
        refine wi_aload_0 ct_18_17 ?_
        refine wi_aload_0 ct_18_18 ?_
        refine wi_gf (x := 1) ct_18_19 (sT_15 hS) rfl rfl (Eq.trans (up2_nj (by decide)) ((hf.2 6 (by decide)).trans hcalm)) ?_
        refine wi_ifeq_f ct_18_22 ki_1 (by decide) ?_
        refine wi_ic ct_18_25 kc_0 ?_
        refine wi_goto ct_18_26 ?_
        refine wi_pf ct_18_37 (sT_15 hS) rfl ?_
        refine wi_aload_1 ct_18_40 ?_
        refine wi_aload_0 ct_18_41 ?_
        refine wi_gf (x := fi2 15 7) ct_18_42 (sT_15 hS) rfl rfl (Eq.trans (up2_nj (by decide)) (up2_nj (by decide))) ?_
        refine wi_cvK1 ct_18_45 (Nat.le_of_ble_eq_true rfl) hp (by decide) rfl ?_
        refine c_pace hk6 hsz (fun zpc hzpc => wk_i ?_)
        obtain ⟨pc, hpc⟩ : ∃ pc, paceV kd sz = pc := ⟨_, rfl⟩
        have hpb := paceV_bd kd sz
        rw [hpc] at hzpc hpb
        refine wi_istore_3 rfl ct_18_48 ?_
        refine wi_aload_0 ct_18_49 ?_
        refine wi_dup ct_18_50 rfl ?_
        refine wi_gf (x := fi2 15 7) ct_18_51 (sT_15 hS) rfl rfl (Eq.trans (up2_nj (by decide)) (up2_nj (by decide))) ?_
        refine wi_iload_3 ct_18_54 ?_
        refine wi_iadd ct_18_55 rfl ?_
        refine wi_pf ct_18_56 (sT_15 hS) rfl ?_
        refine wi_aload_0 ct_18_59 ?_
        refine wi_dup ct_18_60 rfl ?_
        refine wi_gf (x := fi2 15 8) ct_18_61 (sT_15 hS) rfl rfl (Eq.trans (up2_nj (by decide)) (Eq.trans (up2_nj (by decide)) (up2_nj (by decide)))) ?_
        refine wi_iload_3 ct_18_64 ?_
        refine wi_aload_0 ct_18_65 ?_
        refine wi_gf (x := 0) ct_18_66 (sT_15 hS) rfl rfl (Eq.trans (up2_nj (by decide)) up2_eq) ?_
        refine wi_iadd ct_18_69 rfl ?_
        refine wi_isub ct_18_70 rfl ?_
        refine wi_pf ct_18_71 (sT_15 hS) rfl ?_
        refine wi_aload_0 ct_18_74 ?_
        refine wi_dup ct_18_75 rfl ?_
        refine wi_gf (x := fi2 15 4) ct_18_76 (sT_15 hS) rfl rfl (Eq.trans (up2_nj (by decide)) (Eq.trans (up2_nj (by decide)) (Eq.trans (up2_nj (by decide)) (up2_nj (by decide))))) ?_
        refine wi_ic ct_18_79 kc_1 ?_
        refine wi_iadd ct_18_80 rfl ?_
        refine wi_pf ct_18_81 (sT_15 hS) rfl ?_
        refine wi_ret ct_18_84 (wk_v ?_)
        refine wi_aload_0 ct_17_49 ?_
        refine wi_gf (x := (fi2 15 8 - (zpc + 0))) ct_17_50 (sT_15 hS) rfl rfl (Eq.trans (up2_nj (by decide)) up2_eq) ?_
        refine wi_aload_0 ct_17_53 ?_
        refine wi_gf (x := (fi2 15 7 + zpc)) ct_17_54 (sT_15 hS) rfl rfl (Eq.trans (up2_nj (by decide)) (Eq.trans (up2_nj (by decide)) up2_eq)) ?_
        refine wi_ic ct_17_57 kc_2 ?_
        refine wi_idiv ct_17_58 (by decide) rfl ?_
        refine wi_icge ct_17_59 (i_sub hfm (i_add hzpc ki_0 (by omega)) (by omega)) (i_div (i_add hsz hzpc (by omega)) ki_2 (by omega) (by omega)) (fun h8 => ?_) (fun h8 => ?_)
        · skip
          refine wi_aload_1 ct_17_67 ?_
          refine wi_aload_0 ct_17_68 ?_
          refine wi_cvK1 ct_17_69 (Nat.le_of_ble_eq_true rfl) hp (by decide) rfl ?_
          refine c_shut (fi := (up2 (up2 (up2 (up2 (up2 fi2 15 10 (i)) 15 9 (0)) 15 7 ((fi2 15 7 + zpc))) 15 8 ((fi2 15 8 - (zpc + 0)))) 15 4 ((fi2 15 4 + 1)))) (row := row) (r := r) hS hk6 hp ((congrArg Int32.toInt (congrFun (Eq.trans (funext fun _ => up2_nq (by omega)) (Eq.trans (funext fun _ => up2_nq (by omega)) (Eq.trans (funext fun _ => up2_nq (by omega)) (Eq.trans (funext fun _ => up2_nq (by omega)) (Eq.trans (funext fun _ => up2_nq (by omega)) (hf.1 p (by omega) (by omega))))))) _)).trans hpv) ((congrArg Int32.toInt (Eq.trans (up2_nj (by decide)) (Eq.trans (up2_nj (by decide)) (Eq.trans (up2_nj (by decide)) (Eq.trans (up2_nj (by decide)) (Eq.trans (up2_nj (by decide)) (hf.2 2 (by decide)))))))).trans haim) ((congrArg Int32.toInt (Eq.trans (up2_nj (by decide)) (Eq.trans (up2_nj (by decide)) up2_eq))).trans (i_add hsz hzpc (by omega))) ((congrArg Int32.toInt (Eq.trans (up2_nj (by decide)) up2_eq)).trans (i_sub hfm (i_add hzpc ki_0 (by omega)) (by omega))) ((congrArg Int32.toInt (Eq.trans (up2_nj (by decide)) (Eq.trans (up2_nj (by decide)) (Eq.trans (up2_nj (by decide)) up2_eq)))).trans ki_0) ((congrArg Int32.toInt up2_eq).trans (i_add hclk ki_1 (by omega))) (fun h6 => ⟨(hrow h6).1, (hrow h6).2.1, (hrow h6).2.2.1, fun j hj => (congrArg Int32.toInt (congrFun (Eq.trans (funext fun _ => up2_nq (fun e => by have := hr72 h6; omega)) (Eq.trans (funext fun _ => up2_nq (fun e => by have := hr72 h6; omega)) (Eq.trans (funext fun _ => up2_nq (fun e => by have := hr72 h6; omega)) (Eq.trans (funext fun _ => up2_nq (fun e => by have := hr72 h6; omega)) (Eq.trans (funext fun _ => up2_nq (fun e => by have := hr72 h6; omega)) (hf.1 r (fun e => by have := hr72 h6; omega) (fun e => by have := hr72 h6; omega))))))) _)).trans ((hrow h6).2.2.2 j hj)⟩) hv9 ha6 (by omega) (by omega) (by omega) (by omega) hr9 (fun hs => wk_i ?_) (fun hs => wk_i ?_)
          · skip
            refine wi_ifeq_f ct_17_72 ki_1 (by decide) ?_
            refine wi_aload_0 ct_17_75 ?_
            refine wi_cv0 (ls' := [some _]) ct_17_76 (Nat.le_of_ble_eq_true rfl) (by decide) (sT_15 hS) rfl (by decide) rfl rfl (Nat.le_of_ble_eq_true rfl) ?_
            refine wi_aload_0 ct_19_0 ?_
            refine wi_ic ct_19_1 kc_10 ?_
            refine wi_aload_0 ct_19_3 ?_
            refine wi_gf (x := (fi2 15 8 - (zpc + 0))) ct_19_4 (sT_15 hS) rfl rfl (Eq.trans (up2_nj (by decide)) up2_eq) ?_
            refine wi_imul ct_19_7 rfl ?_
            refine wi_aload_0 ct_19_8 ?_
            refine wi_gf (x := (fi2 15 7 + zpc)) ct_19_9 (sT_15 hS) rfl rfl (Eq.trans (up2_nj (by decide)) (Eq.trans (up2_nj (by decide)) up2_eq)) ?_
            refine wi_ic ct_19_12 kc_1 ?_
            refine wi_iadd ct_19_13 rfl ?_
            refine wi_idiv ct_19_14 (i_nz (i_add (i_add hsz hzpc (by omega)) ki_1 (by omega)) (by omega)) rfl ?_
            have hd1 := i_div (i_mul ki_10 (i_sub hfm (i_add hzpc ki_0 (by omega)) (by omega)) (by omega)) (i_add (i_add hsz hzpc (by omega)) ki_1 (by omega)) (by omega) (by omega)
            have hd1b : 0 ≤ 10 * (fm - (pc + (0))) / (sz + pc + 1) := Int.ediv_nonneg (by omega) (by omega)
            have hd1c : 10 * (fm - (pc + (0))) / (sz + pc + 1) ≤ 10 * (fm - (pc + (0))) := Int.ediv_le_self _ (by omega)
            refine wi_aload_0 ct_19_15 ?_
            refine wi_ic ct_19_16 kc_1 ?_
            refine wi_ic ct_19_17 kc_1 ?_
            refine wi_cv2 (ls' := [some _, some _, some _]) ct_19_18 (Nat.le_of_ble_eq_true rfl) (by decide) (sT_15 hS) rfl (by decide) rfl rfl (Nat.le_of_ble_eq_true rfl) ?_
            refine c_look (fi := (up2 (up2 (up2 (up2 (up2 fi2 15 10 (i)) 15 9 (0)) 15 7 ((fi2 15 7 + zpc))) 15 8 ((fi2 15 8 - (zpc + 0)))) 15 4 ((fi2 15 4 + 1)))) (W0 := 1) (O0 := 1) (clk := clk + 1) (sz := sz + pc) (fm := fm - (pc + (0))) hS (hq.fr (fun q hq => (Eq.trans (funext fun _ => up2_nq (by omega)) (Eq.trans (funext fun _ => up2_nq (by omega)) (Eq.trans (funext fun _ => up2_nq (by omega)) (Eq.trans (funext fun _ => up2_nq (by omega)) (Eq.trans (funext fun _ => up2_nq (by omega)) (hf.1 q (by omega) (by omega))))))))) ((congrArg Int32.toInt (Eq.trans (up2_nq (by decide)) (Eq.trans (up2_nq (by decide)) (Eq.trans (up2_nq (by decide)) (Eq.trans (up2_nq (by decide)) (up2_nq (by decide))))))).trans hl0) ((congrArg Int32.toInt (Eq.trans (up2_nq (by decide)) (Eq.trans (up2_nq (by decide)) (Eq.trans (up2_nq (by decide)) (Eq.trans (up2_nq (by decide)) (up2_nq (by decide))))))).trans hl1) ((congrArg Int32.toInt (Eq.trans (up2_nq (by decide)) (Eq.trans (up2_nq (by decide)) (Eq.trans (up2_nq (by decide)) (Eq.trans (up2_nq (by decide)) (up2_nq (by decide))))))).trans hl2) (((congrArg Int32.toInt up2_eq).trans (i_add hclk ki_1 (by omega))).trans (by omega)) (((congrArg Int32.toInt (Eq.trans (up2_nj (by decide)) (Eq.trans (up2_nj (by decide)) up2_eq))).trans (i_add hsz hzpc (by omega))).trans (by omega)) (((congrArg Int32.toInt (Eq.trans (up2_nj (by decide)) up2_eq)).trans (i_sub hfm (i_add hzpc ki_0 (by omega)) (by omega))).trans (by omega)) (by omega) (by omega) (by omega) ki_1 (by decide) ki_1 (fun z9 f10 hz9 hgf10 hjf10 => wk_i ?_)
            have hbz9 := hlk 1 1 (clk + 1) (sz + pc) (fm - (pc + (0))) (by decide) (by decide)
            unfold mkLk at hbz9
            refine wi_ic ct_19_21 kc_1 ?_
            refine wi_iadd ct_19_22 rfl ?_
            refine wi_idiv ct_19_23 (i_nz (i_add hz9 ki_1 (by omega)) (by omega)) rfl ?_
            have hd2 := i_div hd1 (i_add hz9 ki_1 (by omega)) (by omega) (by omega)
            have hd3 : ((((10 * (fi2 15 8 - (zpc + 0))) / ((fi2 15 7 + zpc) + 1)) / (z9 + 1))).toInt = gLf (mkLk sq Bi kd v) ((true, clk + 1, sz + pc, fm - (pc + (0)), k + 1) : go_T) := hd2.trans (by unfold gLf mkLk; rw [if_pos rfl])
            have hlf := gLf_bd hlk (R := ((true, clk + 1, sz + pc, fm - (pc + (0)), k + 1) : go_T)) (fun _ => ⟨by dsimp only; omega, by dsimp only; omega⟩) (by dsimp only; omega)
            have hlf3 := hlf.2.2 rfl
            dsimp only at hlf3
            refine wi_pf ct_19_24 (sT_15 hS) rfl ?_
            refine wi_aload_0 ct_19_27 ?_
            refine wi_aload_0 ct_19_28 ?_
            refine wi_gf (x := (fi2 15 7 + zpc)) ct_19_29 (sT_15 hS) rfl rfl (Eq.trans (up2_nj (by decide)) (Eq.trans (congrFun (hgf10 15 (by decide)) _) (Eq.trans (up2_nj (by decide)) (Eq.trans (up2_nj (by decide)) up2_eq)))) ?_
            refine wi_aload_0 ct_19_32 ?_
            refine wi_gf (x := (((10 * (fi2 15 8 - (zpc + 0))) / ((fi2 15 7 + zpc) + 1)) / (z9 + 1))) ct_19_33 (sT_15 hS) rfl rfl up2_eq ?_
            refine wi_imul ct_19_36 rfl ?_
            have hm1 := i_mul (i_add hsz hzpc (by omega)) hd3 (by omega)
            refine wi_aload_0 ct_19_37 ?_
            refine wi_ic ct_19_38 kc_2 ?_
            refine wi_ic ct_19_39 kc_1 ?_
            refine wi_cv2 (ls' := [some _, some _, some _]) ct_19_40 (Nat.le_of_ble_eq_true rfl) (by decide) (sT_15 hS) rfl (by decide) rfl rfl (Nat.le_of_ble_eq_true rfl) ?_
            refine c_look (fi := (up2 f10 15 11 ((((10 * (fi2 15 8 - (zpc + 0))) / ((fi2 15 7 + zpc) + 1)) / (z9 + 1))))) (W0 := 2) (O0 := 1) (clk := clk + 1) (sz := sz + pc) (fm := fm - (pc + (0))) hS (hq.fr (fun q hq => (Eq.trans (funext fun _ => up2_nq (by omega)) (Eq.trans (hgf10 q (by omega)) (Eq.trans (funext fun _ => up2_nq (by omega)) (Eq.trans (funext fun _ => up2_nq (by omega)) (Eq.trans (funext fun _ => up2_nq (by omega)) (Eq.trans (funext fun _ => up2_nq (by omega)) (Eq.trans (funext fun _ => up2_nq (by omega)) (hf.1 q (by omega) (by omega))))))))))) ((congrArg Int32.toInt (Eq.trans (up2_nq (by decide)) (Eq.trans (hjf10 0 (by decide)) (Eq.trans (up2_nq (by decide)) (Eq.trans (up2_nq (by decide)) (Eq.trans (up2_nq (by decide)) (Eq.trans (up2_nq (by decide)) (up2_nq (by decide))))))))).trans hl0) ((congrArg Int32.toInt (Eq.trans (up2_nq (by decide)) (Eq.trans (hjf10 1 (by decide)) (Eq.trans (up2_nq (by decide)) (Eq.trans (up2_nq (by decide)) (Eq.trans (up2_nq (by decide)) (Eq.trans (up2_nq (by decide)) (up2_nq (by decide))))))))).trans hl1) ((congrArg Int32.toInt (Eq.trans (up2_nq (by decide)) (Eq.trans (hjf10 2 (by decide)) (Eq.trans (up2_nq (by decide)) (Eq.trans (up2_nq (by decide)) (Eq.trans (up2_nq (by decide)) (Eq.trans (up2_nq (by decide)) (up2_nq (by decide))))))))).trans hl2) (((congrArg Int32.toInt (Eq.trans (up2_nj (by decide)) (Eq.trans (congrFun (hgf10 15 (by decide)) _) up2_eq))).trans (i_add hclk ki_1 (by omega))).trans (by omega)) (((congrArg Int32.toInt (Eq.trans (up2_nj (by decide)) (Eq.trans (congrFun (hgf10 15 (by decide)) _) (Eq.trans (up2_nj (by decide)) (Eq.trans (up2_nj (by decide)) up2_eq))))).trans (i_add hsz hzpc (by omega))).trans (by omega)) (((congrArg Int32.toInt (Eq.trans (up2_nj (by decide)) (Eq.trans (congrFun (hgf10 15 (by decide)) _) (Eq.trans (up2_nj (by decide)) up2_eq)))).trans (i_sub hfm (i_add hzpc ki_0 (by omega)) (by omega))).trans (by omega)) (by omega) (by omega) (by omega) ki_2 (by decide) ki_1 (fun z11 f12 hz11 hgf12 hjf12 => wk_i ?_)
            have hbz11 := hlk 2 1 (clk + 1) (sz + pc) (fm - (pc + (0))) (by decide) (by decide)
            unfold mkLk at hbz11
            refine wi_imul ct_19_43 rfl ?_
            have hm0 := Int.mul_nonneg hlf3.2 hbz11.1
            have hmx := Int.mul_le_mul hlf3.1 hbz11.2 hbz11.1 (by decide)
            have hm2 := i_mul hm1 hz11 (by omega)
            refine wi_ic ct_19_44 kc_99999 ?_
            refine wi_cs2 (ls' := [some _, some _]) ct_19_46 (Nat.le_of_ble_eq_true rfl) rfl (Nat.le_of_ble_eq_true rfl) ?_
            refine c_min hm2 ki_99999 (fun zb hzb => wk_i ?_)
            have hbr : zb.toInt = gBr (mkLk sq Bi kd v) ((true, clk + 1, sz + pc, fm - (pc + (0)), k + 1) : go_T) := hzb.trans (by unfold gBr; rw [if_pos rfl]; rfl)
            refine wi_pf ct_19_49 (sT_15 hS) rfl ?_
            refine wi_ret ct_19_52 (wk_v ?_)
            refine wi_ret ct_17_79 ?_
            rw [goL_2 hpc (show windV (mkLk sq Bi kd v) gust true k clk sz fm = 0 from rfl) (by omega) hs] at hR
            subst hR
            refine kk _ ⟨fun q h1 h2 => (Eq.trans (funext fun _ => up2_nq h1) (Eq.trans (hgf12 q h2) (Eq.trans (funext fun _ => up2_nq h1) (Eq.trans (hgf10 q h2) (Eq.trans (funext fun _ => up2_nq h1) (Eq.trans (funext fun _ => up2_nq h1) (Eq.trans (funext fun _ => up2_nq h1) (Eq.trans (funext fun _ => up2_nq h1) (Eq.trans (funext fun _ => up2_nq h1) (hf.1 q h1 h2)))))))))), fun j hj => (Eq.trans (up2_nj (by omega)) (Eq.trans (congrFun (hgf12 15 (by decide)) _) (Eq.trans (up2_nj (by omega)) (Eq.trans (congrFun (hgf10 15 (by decide)) _) (Eq.trans (up2_nj (by omega)) (Eq.trans (up2_nj (by omega)) (Eq.trans (up2_nj (by omega)) (Eq.trans (up2_nj (by omega)) (Eq.trans (up2_nj (by omega)) (hf.2 j hj))))))))))⟩ ?_ ?_ ?_ ?_ ?_ ?_
            · exact ((congrArg Int32.toInt (Eq.trans (up2_nj (by decide)) (Eq.trans (congrFun (hgf12 15 (by decide)) _) (Eq.trans (up2_nj (by decide)) (Eq.trans (congrFun (hgf10 15 (by decide)) _) (Eq.trans (up2_nj (by decide)) (Eq.trans (up2_nj (by decide)) up2_eq))))))).trans (i_add hsz hzpc (by omega))).trans (by unfold gSz; rw [if_pos rfl])
            · exact ((congrArg Int32.toInt (Eq.trans (up2_nj (by decide)) (Eq.trans (congrFun (hgf12 15 (by decide)) _) up2_eq))).trans hd3)
            · exact ((congrArg Int32.toInt up2_eq).trans hbr)
            · exact ((congrArg Int32.toInt (Eq.trans (up2_nj (by decide)) (Eq.trans (congrFun (hgf12 15 (by decide)) _) (Eq.trans (up2_nj (by decide)) (Eq.trans (congrFun (hgf10 15 (by decide)) _) (Eq.trans (up2_nj (by decide)) (Eq.trans (up2_nj (by decide)) (Eq.trans (up2_nj (by decide)) (Eq.trans (up2_nj (by decide)) up2_eq))))))))).trans hik).trans (by unfold gMn; dsimp only; omega)
            · exact ((congrArg Int32.toInt (Eq.trans (up2_nj (by decide)) (Eq.trans (congrFun (hgf12 15 (by decide)) _) (Eq.trans (up2_nj (by decide)) (Eq.trans (congrFun (hgf10 15 (by decide)) _) up2_eq))))).trans (i_add hclk ki_1 (by omega)))
            · exact (Eq.trans (up2_nj (by decide)) (Eq.trans (congrFun (hgf12 15 (by decide)) _) (Eq.trans (up2_nj (by decide)) (Eq.trans (congrFun (hgf10 15 (by decide)) _) (Eq.trans (up2_nj (by decide)) (Eq.trans (up2_nj (by decide)) (Eq.trans (up2_nj (by decide)) (Eq.trans (up2_nj (by decide)) (Eq.trans (up2_nj (by decide)) h13)))))))))
          · skip
            refine wi_ifeq_t ct_17_72 ki_0 (by decide) ?_
            refine wi_iinc_2 rfl (z := (i + 1)) ct_17_80 (by rw [kc_1]) ?_
            refine wi_goto ct_17_83 ?_
            rw [goL_3 hpc (show windV (mkLk sq Bi kd v) gust true k clk sz fm = 0 from rfl) (by omega) hs] at hR
            exact ih (k + 1) _ _ _ _ _ R (by omega) hR ⟨fun q h1 h2 => (Eq.trans (funext fun _ => up2_nq h1) (Eq.trans (funext fun _ => up2_nq h1) (Eq.trans (funext fun _ => up2_nq h1) (Eq.trans (funext fun _ => up2_nq h1) (Eq.trans (funext fun _ => up2_nq h1) (hf.1 q h1 h2)))))), fun j hj => (Eq.trans (up2_nj (by omega)) (Eq.trans (up2_nj (by omega)) (Eq.trans (up2_nj (by omega)) (Eq.trans (up2_nj (by omega)) (Eq.trans (up2_nj (by omega)) (hf.2 j hj))))))⟩ ((i_add hik ki_1 (by omega)).trans (by omega)) (by omega) (by omega) (by omega) (((congrArg Int32.toInt up2_eq).trans (i_add hclk ki_1 (by omega))).trans (by omega)) (((congrArg Int32.toInt (Eq.trans (up2_nj (by decide)) (Eq.trans (up2_nj (by decide)) up2_eq))).trans (i_add hsz hzpc (by omega))).trans (by omega)) (((congrArg Int32.toInt (Eq.trans (up2_nj (by decide)) up2_eq)).trans (i_sub hfm (i_add hzpc ki_0 (by omega)) (by omega))).trans (by omega)) (Eq.trans (up2_nj (by decide)) (Eq.trans (up2_nj (by decide)) (Eq.trans (up2_nj (by decide)) (Eq.trans (up2_nj (by decide)) (Eq.trans (up2_nj (by decide)) h13))))) (fun _ => ((congrArg Int32.toInt (Eq.trans (up2_nj (by decide)) (Eq.trans (up2_nj (by decide)) (Eq.trans (up2_nj (by decide)) (Eq.trans (up2_nj (by decide)) up2_eq))))).trans hik).trans (by omega)) ((congrArg Int32.toInt (Eq.trans (up2_nq (by decide)) (Eq.trans (up2_nq (by decide)) (Eq.trans (up2_nq (by decide)) (Eq.trans (up2_nq (by decide)) (up2_nq (by decide))))))).trans hl0) ((congrArg Int32.toInt (Eq.trans (up2_nq (by decide)) (Eq.trans (up2_nq (by decide)) (Eq.trans (up2_nq (by decide)) (Eq.trans (up2_nq (by decide)) (up2_nq (by decide))))))).trans hl1) ((congrArg Int32.toInt (Eq.trans (up2_nq (by decide)) (Eq.trans (up2_nq (by decide)) (Eq.trans (up2_nq (by decide)) (Eq.trans (up2_nq (by decide)) (up2_nq (by decide))))))).trans hl2) kk
        · skip
          refine wi_aload_0 ct_17_62 ?_
          refine wi_cv0 (ls' := [some _]) ct_17_63 (Nat.le_of_ble_eq_true rfl) (by decide) (sT_15 hS) rfl (by decide) rfl rfl (Nat.le_of_ble_eq_true rfl) ?_
          refine wi_aload_0 ct_20_0 ?_
          refine wi_ic ct_20_1 kc_1 ?_
          refine wi_pfz ct_20_2 (sT_15 hS) rfl (by decide) ?_
          refine wi_aload_0 ct_20_5 ?_
          refine wi_ic ct_20_6 kc_0 ?_
          refine wi_pf ct_20_7 (sT_15 hS) rfl ?_
          refine wi_aload_0 ct_20_10 ?_
          refine wi_ic ct_20_11 kc_0 ?_
          refine wi_pf ct_20_12 (sT_15 hS) rfl ?_
          refine wi_aload_0 ct_20_15 ?_
          refine wi_ic ct_20_16 kc_0 ?_
          refine wi_pf ct_20_17 (sT_15 hS) rfl ?_
          refine wi_ret ct_20_20 (wk_v ?_)
          refine wi_ret ct_17_66 ?_
          rw [goL_1 hpc (show windV (mkLk sq Bi kd v) gust true k clk sz fm = 0 from rfl) (by omega)] at hR
          subst hR
          refine kk _ ⟨fun q h1 h2 => (Eq.trans (funext fun _ => up2_nq h1) (Eq.trans (funext fun _ => up2_nq h1) (Eq.trans (funext fun _ => up2_nq h1) (Eq.trans (funext fun _ => up2_nq h1) (Eq.trans (funext fun _ => up2_nq h1) (Eq.trans (funext fun _ => up2_nq h1) (Eq.trans (funext fun _ => up2_nq h1) (Eq.trans (funext fun _ => up2_nq h1) (Eq.trans (funext fun _ => up2_nq h1) (hf.1 q h1 h2)))))))))), fun j hj => (Eq.trans (up2_nj (by omega)) (Eq.trans (up2_nj (by omega)) (Eq.trans (up2_nj (by omega)) (Eq.trans (up2_nj (by omega)) (Eq.trans (up2_nj (by omega)) (Eq.trans (up2_nj (by omega)) (Eq.trans (up2_nj (by omega)) (Eq.trans (up2_nj (by omega)) (Eq.trans (up2_nj (by omega)) (hf.2 j hj))))))))))⟩ ?_ ?_ ?_ ?_ ?_ ?_
          · exact ((congrArg Int32.toInt (Eq.trans (up2_nj (by decide)) (Eq.trans (up2_nj (by decide)) up2_eq))).trans ki_0)
          · exact ((congrArg Int32.toInt (Eq.trans (up2_nj (by decide)) up2_eq)).trans ki_0)
          · exact ((congrArg Int32.toInt up2_eq).trans ki_0)
          · exact ((congrArg Int32.toInt (Eq.trans (up2_nj (by decide)) (Eq.trans (up2_nj (by decide)) (Eq.trans (up2_nj (by decide)) (Eq.trans (up2_nj (by decide)) (Eq.trans (up2_nj (by decide)) (Eq.trans (up2_nj (by decide)) (Eq.trans (up2_nj (by decide)) (Eq.trans (up2_nj (by decide)) up2_eq))))))))).trans hik).trans (by unfold gMn; dsimp only; omega)
          · exact ((congrArg Int32.toInt (Eq.trans (up2_nj (by decide)) (Eq.trans (up2_nj (by decide)) (Eq.trans (up2_nj (by decide)) (Eq.trans (up2_nj (by decide)) up2_eq))))).trans (i_add hclk ki_1 (by omega)))
          · exact (Eq.trans (up2_nj (by decide)) (Eq.trans (up2_nj (by decide)) (Eq.trans (up2_nj (by decide)) up2_eq)))
    · skip
      cases calm
      · skip
        refine wi_iload_2 ct_17_33 ?_
        refine wi_ic ct_17_34 kc_30 ?_
        refine wi_icgt_f ct_17_36 hik ki_30 (by omega) ?_
        refine wi_aload_0 ct_17_39 ?_
        refine wi_iload_2 ct_17_40 ?_
        refine wi_pf ct_17_41 (sT_15 hS) rfl ?_
        refine wi_aload_0 ct_17_44 ?_
        refine wi_aload_1 ct_17_45 ?_
        refine wi_cv1 (ls' := [some _, some _, none, none]) ct_17_46 (Nat.le_of_ble_eq_true rfl) (by decide) (sT_15 hS) rfl (by decide) rfl rfl (Nat.le_of_ble_eq_true rfl) ?_
        refine wi_aload_0 ct_18_0 ?_
        refine wi_gf (x := i) ct_18_1 (sT_15 hS) rfl rfl up2_eq ?_
        refine wi_ic ct_18_4 kc_1 ?_
        refine wi_icne_t ct_18_5 hik ki_1 (by omega) ?_
        refine wi_ic ct_18_15 kc_0 ?_
        refine wi_istore_2 rfl ct_18_16 ?_
        refine wi_aload_0 ct_18_17 ?_
        refine wi_aload_0 ct_18_18 ?_
        refine wi_gf (x := 0) ct_18_19 (sT_15 hS) rfl rfl (Eq.trans (up2_nj (by decide)) ((hf.2 6 (by decide)).trans hcalm)) ?_
        refine wi_ifeq_t ct_18_22 ki_0 (by decide) ?_
        refine wi_aload_0 ct_18_29 ?_
        refine wi_ic ct_18_30 kc_0 ?_
        refine wi_ic ct_18_31 kc_0 ?_
        refine wi_cv2 (ls' := [some _, some _, some _]) ct_18_32 (Nat.le_of_ble_eq_true rfl) (by decide) (sT_15 hS) rfl (by decide) rfl rfl (Nat.le_of_ble_eq_true rfl) ?_
        refine c_look (fi := (up2 fi2 15 10 (i))) (W0 := 0) (O0 := 0) (clk := clk) (sz := sz) (fm := fm) hS (hq.fr (fun q hq => (Eq.trans (funext fun _ => up2_nq (by omega)) (hf.1 q (by omega) (by omega))))) ((congrArg Int32.toInt (up2_nq (by decide))).trans hl0) ((congrArg Int32.toInt (up2_nq (by decide))).trans hl1) ((congrArg Int32.toInt (up2_nq (by decide))).trans hl2) ((congrArg Int32.toInt (up2_nj (by decide))).trans hclk) ((congrArg Int32.toInt (up2_nj (by decide))).trans hsz) ((congrArg Int32.toInt (up2_nj (by decide))).trans hfm) (by omega) (by omega) (by omega) ki_0 (by decide) ki_0 (fun z13 f14 hz13 hgf14 hjf14 => wk_i ?_)
        have hbz13 := hlk 0 0 (clk) (sz) (fm) (by decide) (by decide)
        unfold mkLk at hbz13
        refine wi_iload_2 ct_18_35 ?_
        refine wi_iadd ct_18_36 rfl ?_
        refine wi_pf ct_18_37 (sT_15 hS) rfl ?_
        refine wi_aload_1 ct_18_40 ?_
        refine wi_aload_0 ct_18_41 ?_
        refine wi_gf (x := fi2 15 7) ct_18_42 (sT_15 hS) rfl rfl (Eq.trans (up2_nj (by decide)) (Eq.trans (congrFun (hgf14 15 (by decide)) _) (up2_nj (by decide)))) ?_
        refine wi_cvK1 ct_18_45 (Nat.le_of_ble_eq_true rfl) hp (by decide) rfl ?_
        refine c_pace hk6 hsz (fun zpc hzpc => wk_i ?_)
        obtain ⟨pc, hpc⟩ : ∃ pc, paceV kd sz = pc := ⟨_, rfl⟩
        have hpb := paceV_bd kd sz
        rw [hpc] at hzpc hpb
        refine wi_istore_3 rfl ct_18_48 ?_
        refine wi_aload_0 ct_18_49 ?_
        refine wi_dup ct_18_50 rfl ?_
        refine wi_gf (x := fi2 15 7) ct_18_51 (sT_15 hS) rfl rfl (Eq.trans (up2_nj (by decide)) (Eq.trans (congrFun (hgf14 15 (by decide)) _) (up2_nj (by decide)))) ?_
        refine wi_iload_3 ct_18_54 ?_
        refine wi_iadd ct_18_55 rfl ?_
        refine wi_pf ct_18_56 (sT_15 hS) rfl ?_
        refine wi_aload_0 ct_18_59 ?_
        refine wi_dup ct_18_60 rfl ?_
        refine wi_gf (x := fi2 15 8) ct_18_61 (sT_15 hS) rfl rfl (Eq.trans (up2_nj (by decide)) (Eq.trans (up2_nj (by decide)) (Eq.trans (congrFun (hgf14 15 (by decide)) _) (up2_nj (by decide))))) ?_
        refine wi_iload_3 ct_18_64 ?_
        refine wi_aload_0 ct_18_65 ?_
        refine wi_gf (x := (z13 + 0)) ct_18_66 (sT_15 hS) rfl rfl (Eq.trans (up2_nj (by decide)) up2_eq) ?_
        refine wi_iadd ct_18_69 rfl ?_
        refine wi_isub ct_18_70 rfl ?_
        refine wi_pf ct_18_71 (sT_15 hS) rfl ?_
        refine wi_aload_0 ct_18_74 ?_
        refine wi_dup ct_18_75 rfl ?_
        refine wi_gf (x := fi2 15 4) ct_18_76 (sT_15 hS) rfl rfl (Eq.trans (up2_nj (by decide)) (Eq.trans (up2_nj (by decide)) (Eq.trans (up2_nj (by decide)) (Eq.trans (congrFun (hgf14 15 (by decide)) _) (up2_nj (by decide)))))) ?_
        refine wi_ic ct_18_79 kc_1 ?_
        refine wi_iadd ct_18_80 rfl ?_
        refine wi_pf ct_18_81 (sT_15 hS) rfl ?_
        refine wi_ret ct_18_84 (wk_v ?_)
        refine wi_aload_0 ct_17_49 ?_
        refine wi_gf (x := (fi2 15 8 - (zpc + (z13 + 0)))) ct_17_50 (sT_15 hS) rfl rfl (Eq.trans (up2_nj (by decide)) up2_eq) ?_
        refine wi_aload_0 ct_17_53 ?_
        refine wi_gf (x := (fi2 15 7 + zpc)) ct_17_54 (sT_15 hS) rfl rfl (Eq.trans (up2_nj (by decide)) (Eq.trans (up2_nj (by decide)) up2_eq)) ?_
        refine wi_ic ct_17_57 kc_2 ?_
        refine wi_idiv ct_17_58 (by decide) rfl ?_
        refine wi_icge ct_17_59 (i_sub hfm (i_add hzpc (i_add hz13 ki_0 (by omega)) (by omega)) (by omega)) (i_div (i_add hsz hzpc (by omega)) ki_2 (by omega) (by omega)) (fun h15 => ?_) (fun h15 => ?_)
        · skip
          refine wi_aload_1 ct_17_67 ?_
          refine wi_aload_0 ct_17_68 ?_
          refine wi_cvK1 ct_17_69 (Nat.le_of_ble_eq_true rfl) hp (by decide) rfl ?_
          refine c_shut (fi := (up2 (up2 (up2 (up2 f14 15 9 ((z13 + 0))) 15 7 ((fi2 15 7 + zpc))) 15 8 ((fi2 15 8 - (zpc + (z13 + 0))))) 15 4 ((fi2 15 4 + 1)))) (row := row) (r := r) hS hk6 hp ((congrArg Int32.toInt (congrFun (Eq.trans (funext fun _ => up2_nq (by omega)) (Eq.trans (funext fun _ => up2_nq (by omega)) (Eq.trans (funext fun _ => up2_nq (by omega)) (Eq.trans (funext fun _ => up2_nq (by omega)) (Eq.trans (hgf14 p (by omega)) (Eq.trans (funext fun _ => up2_nq (by omega)) (hf.1 p (by omega) (by omega)))))))) _)).trans hpv) ((congrArg Int32.toInt (Eq.trans (up2_nj (by decide)) (Eq.trans (up2_nj (by decide)) (Eq.trans (up2_nj (by decide)) (Eq.trans (up2_nj (by decide)) (Eq.trans (congrFun (hgf14 15 (by decide)) _) (Eq.trans (up2_nj (by decide)) (hf.2 2 (by decide))))))))).trans haim) ((congrArg Int32.toInt (Eq.trans (up2_nj (by decide)) (Eq.trans (up2_nj (by decide)) up2_eq))).trans (i_add hsz hzpc (by omega))) ((congrArg Int32.toInt (Eq.trans (up2_nj (by decide)) up2_eq)).trans (i_sub hfm (i_add hzpc (i_add hz13 ki_0 (by omega)) (by omega)) (by omega))) ((congrArg Int32.toInt (Eq.trans (up2_nj (by decide)) (Eq.trans (up2_nj (by decide)) (Eq.trans (up2_nj (by decide)) up2_eq)))).trans (i_add hz13 ki_0 (by omega))) ((congrArg Int32.toInt up2_eq).trans (i_add hclk ki_1 (by omega))) (fun h6 => ⟨(hrow h6).1, (hrow h6).2.1, (hrow h6).2.2.1, fun j hj => (congrArg Int32.toInt (congrFun (Eq.trans (funext fun _ => up2_nq (fun e => by have := hr72 h6; omega)) (Eq.trans (funext fun _ => up2_nq (fun e => by have := hr72 h6; omega)) (Eq.trans (funext fun _ => up2_nq (fun e => by have := hr72 h6; omega)) (Eq.trans (funext fun _ => up2_nq (fun e => by have := hr72 h6; omega)) (Eq.trans (hgf14 r (fun e => by have := hr72 h6; omega)) (Eq.trans (funext fun _ => up2_nq (fun e => by have := hr72 h6; omega)) (hf.1 r (fun e => by have := hr72 h6; omega) (fun e => by have := hr72 h6; omega)))))))) _)).trans ((hrow h6).2.2.2 j hj)⟩) hv9 ha6 (by omega) (by omega) (by omega) (by omega) hr9 (fun hs => wk_i ?_) (fun hs => wk_i ?_)
          · skip
            refine wi_ifeq_f ct_17_72 ki_1 (by decide) ?_
            refine wi_aload_0 ct_17_75 ?_
            refine wi_cv0 (ls' := [some _]) ct_17_76 (Nat.le_of_ble_eq_true rfl) (by decide) (sT_15 hS) rfl (by decide) rfl rfl (Nat.le_of_ble_eq_true rfl) ?_
            refine wi_aload_0 ct_19_0 ?_
            refine wi_ic ct_19_1 kc_10 ?_
            refine wi_aload_0 ct_19_3 ?_
            refine wi_gf (x := (fi2 15 8 - (zpc + (z13 + 0)))) ct_19_4 (sT_15 hS) rfl rfl (Eq.trans (up2_nj (by decide)) up2_eq) ?_
            refine wi_imul ct_19_7 rfl ?_
            refine wi_aload_0 ct_19_8 ?_
            refine wi_gf (x := (fi2 15 7 + zpc)) ct_19_9 (sT_15 hS) rfl rfl (Eq.trans (up2_nj (by decide)) (Eq.trans (up2_nj (by decide)) up2_eq)) ?_
            refine wi_ic ct_19_12 kc_1 ?_
            refine wi_iadd ct_19_13 rfl ?_
            refine wi_idiv ct_19_14 (i_nz (i_add (i_add hsz hzpc (by omega)) ki_1 (by omega)) (by omega)) rfl ?_
            have hd1 := i_div (i_mul ki_10 (i_sub hfm (i_add hzpc (i_add hz13 ki_0 (by omega)) (by omega)) (by omega)) (by omega)) (i_add (i_add hsz hzpc (by omega)) ki_1 (by omega)) (by omega) (by omega)
            have hd1b : 0 ≤ 10 * (fm - (pc + (lkV sq (FL Bi kd v (clk) (sz) (fm)) 0 0 + 0))) / (sz + pc + 1) := Int.ediv_nonneg (by omega) (by omega)
            have hd1c : 10 * (fm - (pc + (lkV sq (FL Bi kd v (clk) (sz) (fm)) 0 0 + 0))) / (sz + pc + 1) ≤ 10 * (fm - (pc + (lkV sq (FL Bi kd v (clk) (sz) (fm)) 0 0 + 0))) := Int.ediv_le_self _ (by omega)
            refine wi_aload_0 ct_19_15 ?_
            refine wi_ic ct_19_16 kc_1 ?_
            refine wi_ic ct_19_17 kc_1 ?_
            refine wi_cv2 (ls' := [some _, some _, some _]) ct_19_18 (Nat.le_of_ble_eq_true rfl) (by decide) (sT_15 hS) rfl (by decide) rfl rfl (Nat.le_of_ble_eq_true rfl) ?_
            refine c_look (fi := (up2 (up2 (up2 (up2 f14 15 9 ((z13 + 0))) 15 7 ((fi2 15 7 + zpc))) 15 8 ((fi2 15 8 - (zpc + (z13 + 0))))) 15 4 ((fi2 15 4 + 1)))) (W0 := 1) (O0 := 1) (clk := clk + 1) (sz := sz + pc) (fm := fm - (pc + (lkV sq (FL Bi kd v (clk) (sz) (fm)) 0 0 + 0))) hS (hq.fr (fun q hq => (Eq.trans (funext fun _ => up2_nq (by omega)) (Eq.trans (funext fun _ => up2_nq (by omega)) (Eq.trans (funext fun _ => up2_nq (by omega)) (Eq.trans (funext fun _ => up2_nq (by omega)) (Eq.trans (hgf14 q (by omega)) (Eq.trans (funext fun _ => up2_nq (by omega)) (hf.1 q (by omega) (by omega)))))))))) ((congrArg Int32.toInt (Eq.trans (up2_nq (by decide)) (Eq.trans (up2_nq (by decide)) (Eq.trans (up2_nq (by decide)) (Eq.trans (up2_nq (by decide)) (Eq.trans (hjf14 0 (by decide)) (up2_nq (by decide)))))))).trans hl0) ((congrArg Int32.toInt (Eq.trans (up2_nq (by decide)) (Eq.trans (up2_nq (by decide)) (Eq.trans (up2_nq (by decide)) (Eq.trans (up2_nq (by decide)) (Eq.trans (hjf14 1 (by decide)) (up2_nq (by decide)))))))).trans hl1) ((congrArg Int32.toInt (Eq.trans (up2_nq (by decide)) (Eq.trans (up2_nq (by decide)) (Eq.trans (up2_nq (by decide)) (Eq.trans (up2_nq (by decide)) (Eq.trans (hjf14 2 (by decide)) (up2_nq (by decide)))))))).trans hl2) (((congrArg Int32.toInt up2_eq).trans (i_add hclk ki_1 (by omega))).trans (by omega)) (((congrArg Int32.toInt (Eq.trans (up2_nj (by decide)) (Eq.trans (up2_nj (by decide)) up2_eq))).trans (i_add hsz hzpc (by omega))).trans (by omega)) (((congrArg Int32.toInt (Eq.trans (up2_nj (by decide)) up2_eq)).trans (i_sub hfm (i_add hzpc (i_add hz13 ki_0 (by omega)) (by omega)) (by omega))).trans (by omega)) (by omega) (by omega) (by omega) ki_1 (by decide) ki_1 (fun z16 f17 hz16 hgf17 hjf17 => wk_i ?_)
            have hbz16 := hlk 1 1 (clk + 1) (sz + pc) (fm - (pc + (lkV sq (FL Bi kd v (clk) (sz) (fm)) 0 0 + 0))) (by decide) (by decide)
            unfold mkLk at hbz16
            refine wi_ic ct_19_21 kc_1 ?_
            refine wi_iadd ct_19_22 rfl ?_
            refine wi_idiv ct_19_23 (i_nz (i_add hz16 ki_1 (by omega)) (by omega)) rfl ?_
            have hd2 := i_div hd1 (i_add hz16 ki_1 (by omega)) (by omega) (by omega)
            have hd3 : ((((10 * (fi2 15 8 - (zpc + (z13 + 0)))) / ((fi2 15 7 + zpc) + 1)) / (z16 + 1))).toInt = gLf (mkLk sq Bi kd v) ((true, clk + 1, sz + pc, fm - (pc + (lkV sq (FL Bi kd v (clk) (sz) (fm)) 0 0 + 0)), k + 1) : go_T) := hd2.trans (by unfold gLf mkLk; rw [if_pos rfl])
            have hlf := gLf_bd hlk (R := ((true, clk + 1, sz + pc, fm - (pc + (lkV sq (FL Bi kd v (clk) (sz) (fm)) 0 0 + 0)), k + 1) : go_T)) (fun _ => ⟨by dsimp only; omega, by dsimp only; omega⟩) (by dsimp only; omega)
            have hlf3 := hlf.2.2 rfl
            dsimp only at hlf3
            refine wi_pf ct_19_24 (sT_15 hS) rfl ?_
            refine wi_aload_0 ct_19_27 ?_
            refine wi_aload_0 ct_19_28 ?_
            refine wi_gf (x := (fi2 15 7 + zpc)) ct_19_29 (sT_15 hS) rfl rfl (Eq.trans (up2_nj (by decide)) (Eq.trans (congrFun (hgf17 15 (by decide)) _) (Eq.trans (up2_nj (by decide)) (Eq.trans (up2_nj (by decide)) up2_eq)))) ?_
            refine wi_aload_0 ct_19_32 ?_
            refine wi_gf (x := (((10 * (fi2 15 8 - (zpc + (z13 + 0)))) / ((fi2 15 7 + zpc) + 1)) / (z16 + 1))) ct_19_33 (sT_15 hS) rfl rfl up2_eq ?_
            refine wi_imul ct_19_36 rfl ?_
            have hm1 := i_mul (i_add hsz hzpc (by omega)) hd3 (by omega)
            refine wi_aload_0 ct_19_37 ?_
            refine wi_ic ct_19_38 kc_2 ?_
            refine wi_ic ct_19_39 kc_1 ?_
            refine wi_cv2 (ls' := [some _, some _, some _]) ct_19_40 (Nat.le_of_ble_eq_true rfl) (by decide) (sT_15 hS) rfl (by decide) rfl rfl (Nat.le_of_ble_eq_true rfl) ?_
            refine c_look (fi := (up2 f17 15 11 ((((10 * (fi2 15 8 - (zpc + (z13 + 0)))) / ((fi2 15 7 + zpc) + 1)) / (z16 + 1))))) (W0 := 2) (O0 := 1) (clk := clk + 1) (sz := sz + pc) (fm := fm - (pc + (lkV sq (FL Bi kd v (clk) (sz) (fm)) 0 0 + 0))) hS (hq.fr (fun q hq => (Eq.trans (funext fun _ => up2_nq (by omega)) (Eq.trans (hgf17 q (by omega)) (Eq.trans (funext fun _ => up2_nq (by omega)) (Eq.trans (funext fun _ => up2_nq (by omega)) (Eq.trans (funext fun _ => up2_nq (by omega)) (Eq.trans (funext fun _ => up2_nq (by omega)) (Eq.trans (hgf14 q (by omega)) (Eq.trans (funext fun _ => up2_nq (by omega)) (hf.1 q (by omega) (by omega)))))))))))) ((congrArg Int32.toInt (Eq.trans (up2_nq (by decide)) (Eq.trans (hjf17 0 (by decide)) (Eq.trans (up2_nq (by decide)) (Eq.trans (up2_nq (by decide)) (Eq.trans (up2_nq (by decide)) (Eq.trans (up2_nq (by decide)) (Eq.trans (hjf14 0 (by decide)) (up2_nq (by decide)))))))))).trans hl0) ((congrArg Int32.toInt (Eq.trans (up2_nq (by decide)) (Eq.trans (hjf17 1 (by decide)) (Eq.trans (up2_nq (by decide)) (Eq.trans (up2_nq (by decide)) (Eq.trans (up2_nq (by decide)) (Eq.trans (up2_nq (by decide)) (Eq.trans (hjf14 1 (by decide)) (up2_nq (by decide)))))))))).trans hl1) ((congrArg Int32.toInt (Eq.trans (up2_nq (by decide)) (Eq.trans (hjf17 2 (by decide)) (Eq.trans (up2_nq (by decide)) (Eq.trans (up2_nq (by decide)) (Eq.trans (up2_nq (by decide)) (Eq.trans (up2_nq (by decide)) (Eq.trans (hjf14 2 (by decide)) (up2_nq (by decide)))))))))).trans hl2) (((congrArg Int32.toInt (Eq.trans (up2_nj (by decide)) (Eq.trans (congrFun (hgf17 15 (by decide)) _) up2_eq))).trans (i_add hclk ki_1 (by omega))).trans (by omega)) (((congrArg Int32.toInt (Eq.trans (up2_nj (by decide)) (Eq.trans (congrFun (hgf17 15 (by decide)) _) (Eq.trans (up2_nj (by decide)) (Eq.trans (up2_nj (by decide)) up2_eq))))).trans (i_add hsz hzpc (by omega))).trans (by omega)) (((congrArg Int32.toInt (Eq.trans (up2_nj (by decide)) (Eq.trans (congrFun (hgf17 15 (by decide)) _) (Eq.trans (up2_nj (by decide)) up2_eq)))).trans (i_sub hfm (i_add hzpc (i_add hz13 ki_0 (by omega)) (by omega)) (by omega))).trans (by omega)) (by omega) (by omega) (by omega) ki_2 (by decide) ki_1 (fun z18 f19 hz18 hgf19 hjf19 => wk_i ?_)
            have hbz18 := hlk 2 1 (clk + 1) (sz + pc) (fm - (pc + (lkV sq (FL Bi kd v (clk) (sz) (fm)) 0 0 + 0))) (by decide) (by decide)
            unfold mkLk at hbz18
            refine wi_imul ct_19_43 rfl ?_
            have hm0 := Int.mul_nonneg hlf3.2 hbz18.1
            have hmx := Int.mul_le_mul hlf3.1 hbz18.2 hbz18.1 (by decide)
            have hm2 := i_mul hm1 hz18 (by omega)
            refine wi_ic ct_19_44 kc_99999 ?_
            refine wi_cs2 (ls' := [some _, some _]) ct_19_46 (Nat.le_of_ble_eq_true rfl) rfl (Nat.le_of_ble_eq_true rfl) ?_
            refine c_min hm2 ki_99999 (fun zb hzb => wk_i ?_)
            have hbr : zb.toInt = gBr (mkLk sq Bi kd v) ((true, clk + 1, sz + pc, fm - (pc + (lkV sq (FL Bi kd v (clk) (sz) (fm)) 0 0 + 0)), k + 1) : go_T) := hzb.trans (by unfold gBr; rw [if_pos rfl]; rfl)
            refine wi_pf ct_19_49 (sT_15 hS) rfl ?_
            refine wi_ret ct_19_52 (wk_v ?_)
            refine wi_ret ct_17_79 ?_
            rw [goL_2 hpc (show windV (mkLk sq Bi kd v) gust false k clk sz fm = lkV sq (FL Bi kd v (clk) (sz) (fm)) 0 0 + 0 from by unfold windV mkLk; rw [if_neg hk0]; rfl) (by omega) hs] at hR
            subst hR
            refine kk _ ⟨fun q h1 h2 => (Eq.trans (funext fun _ => up2_nq h1) (Eq.trans (hgf19 q h2) (Eq.trans (funext fun _ => up2_nq h1) (Eq.trans (hgf17 q h2) (Eq.trans (funext fun _ => up2_nq h1) (Eq.trans (funext fun _ => up2_nq h1) (Eq.trans (funext fun _ => up2_nq h1) (Eq.trans (funext fun _ => up2_nq h1) (Eq.trans (hgf14 q h2) (Eq.trans (funext fun _ => up2_nq h1) (hf.1 q h1 h2))))))))))), fun j hj => (Eq.trans (up2_nj (by omega)) (Eq.trans (congrFun (hgf19 15 (by decide)) _) (Eq.trans (up2_nj (by omega)) (Eq.trans (congrFun (hgf17 15 (by decide)) _) (Eq.trans (up2_nj (by omega)) (Eq.trans (up2_nj (by omega)) (Eq.trans (up2_nj (by omega)) (Eq.trans (up2_nj (by omega)) (Eq.trans (congrFun (hgf14 15 (by decide)) _) (Eq.trans (up2_nj (by omega)) (hf.2 j hj)))))))))))⟩ ?_ ?_ ?_ ?_ ?_ ?_
            · exact ((congrArg Int32.toInt (Eq.trans (up2_nj (by decide)) (Eq.trans (congrFun (hgf19 15 (by decide)) _) (Eq.trans (up2_nj (by decide)) (Eq.trans (congrFun (hgf17 15 (by decide)) _) (Eq.trans (up2_nj (by decide)) (Eq.trans (up2_nj (by decide)) up2_eq))))))).trans (i_add hsz hzpc (by omega))).trans (by unfold gSz; rw [if_pos rfl])
            · exact ((congrArg Int32.toInt (Eq.trans (up2_nj (by decide)) (Eq.trans (congrFun (hgf19 15 (by decide)) _) up2_eq))).trans hd3)
            · exact ((congrArg Int32.toInt up2_eq).trans hbr)
            · exact ((congrArg Int32.toInt (Eq.trans (up2_nj (by decide)) (Eq.trans (congrFun (hgf19 15 (by decide)) _) (Eq.trans (up2_nj (by decide)) (Eq.trans (congrFun (hgf17 15 (by decide)) _) (Eq.trans (up2_nj (by decide)) (Eq.trans (up2_nj (by decide)) (Eq.trans (up2_nj (by decide)) (Eq.trans (up2_nj (by decide)) (Eq.trans (congrFun (hgf14 15 (by decide)) _) up2_eq)))))))))).trans hik).trans (by unfold gMn; dsimp only; omega)
            · exact ((congrArg Int32.toInt (Eq.trans (up2_nj (by decide)) (Eq.trans (congrFun (hgf19 15 (by decide)) _) (Eq.trans (up2_nj (by decide)) (Eq.trans (congrFun (hgf17 15 (by decide)) _) up2_eq))))).trans (i_add hclk ki_1 (by omega)))
            · exact (Eq.trans (up2_nj (by decide)) (Eq.trans (congrFun (hgf19 15 (by decide)) _) (Eq.trans (up2_nj (by decide)) (Eq.trans (congrFun (hgf17 15 (by decide)) _) (Eq.trans (up2_nj (by decide)) (Eq.trans (up2_nj (by decide)) (Eq.trans (up2_nj (by decide)) (Eq.trans (up2_nj (by decide)) (Eq.trans (congrFun (hgf14 15 (by decide)) _) (Eq.trans (up2_nj (by decide)) h13))))))))))
          · skip
            refine wi_ifeq_t ct_17_72 ki_0 (by decide) ?_
            refine wi_iinc_2 rfl (z := (i + 1)) ct_17_80 (by rw [kc_1]) ?_
            refine wi_goto ct_17_83 ?_
            rw [goL_3 hpc (show windV (mkLk sq Bi kd v) gust false k clk sz fm = lkV sq (FL Bi kd v (clk) (sz) (fm)) 0 0 + 0 from by unfold windV mkLk; rw [if_neg hk0]; rfl) (by omega) hs] at hR
            exact ih (k + 1) _ _ _ _ _ R (by omega) hR ⟨fun q h1 h2 => (Eq.trans (funext fun _ => up2_nq h1) (Eq.trans (funext fun _ => up2_nq h1) (Eq.trans (funext fun _ => up2_nq h1) (Eq.trans (funext fun _ => up2_nq h1) (Eq.trans (hgf14 q h2) (Eq.trans (funext fun _ => up2_nq h1) (hf.1 q h1 h2))))))), fun j hj => (Eq.trans (up2_nj (by omega)) (Eq.trans (up2_nj (by omega)) (Eq.trans (up2_nj (by omega)) (Eq.trans (up2_nj (by omega)) (Eq.trans (congrFun (hgf14 15 (by decide)) _) (Eq.trans (up2_nj (by omega)) (hf.2 j hj)))))))⟩ ((i_add hik ki_1 (by omega)).trans (by omega)) (by omega) (by omega) (by omega) (((congrArg Int32.toInt up2_eq).trans (i_add hclk ki_1 (by omega))).trans (by omega)) (((congrArg Int32.toInt (Eq.trans (up2_nj (by decide)) (Eq.trans (up2_nj (by decide)) up2_eq))).trans (i_add hsz hzpc (by omega))).trans (by omega)) (((congrArg Int32.toInt (Eq.trans (up2_nj (by decide)) up2_eq)).trans (i_sub hfm (i_add hzpc (i_add hz13 ki_0 (by omega)) (by omega)) (by omega))).trans (by omega)) (Eq.trans (up2_nj (by decide)) (Eq.trans (up2_nj (by decide)) (Eq.trans (up2_nj (by decide)) (Eq.trans (up2_nj (by decide)) (Eq.trans (congrFun (hgf14 15 (by decide)) _) (Eq.trans (up2_nj (by decide)) h13)))))) (fun _ => ((congrArg Int32.toInt (Eq.trans (up2_nj (by decide)) (Eq.trans (up2_nj (by decide)) (Eq.trans (up2_nj (by decide)) (Eq.trans (up2_nj (by decide)) (Eq.trans (congrFun (hgf14 15 (by decide)) _) up2_eq)))))).trans hik).trans (by omega)) ((congrArg Int32.toInt (Eq.trans (up2_nq (by decide)) (Eq.trans (up2_nq (by decide)) (Eq.trans (up2_nq (by decide)) (Eq.trans (up2_nq (by decide)) (Eq.trans (hjf14 0 (by decide)) (up2_nq (by decide)))))))).trans hl0) ((congrArg Int32.toInt (Eq.trans (up2_nq (by decide)) (Eq.trans (up2_nq (by decide)) (Eq.trans (up2_nq (by decide)) (Eq.trans (up2_nq (by decide)) (Eq.trans (hjf14 1 (by decide)) (up2_nq (by decide)))))))).trans hl1) ((congrArg Int32.toInt (Eq.trans (up2_nq (by decide)) (Eq.trans (up2_nq (by decide)) (Eq.trans (up2_nq (by decide)) (Eq.trans (up2_nq (by decide)) (Eq.trans (hjf14 2 (by decide)) (up2_nq (by decide)))))))).trans hl2) kk
        · skip
          refine wi_aload_0 ct_17_62 ?_
          refine wi_cv0 (ls' := [some _]) ct_17_63 (Nat.le_of_ble_eq_true rfl) (by decide) (sT_15 hS) rfl (by decide) rfl rfl (Nat.le_of_ble_eq_true rfl) ?_
          refine wi_aload_0 ct_20_0 ?_
          refine wi_ic ct_20_1 kc_1 ?_
          refine wi_pfz ct_20_2 (sT_15 hS) rfl (by decide) ?_
          refine wi_aload_0 ct_20_5 ?_
          refine wi_ic ct_20_6 kc_0 ?_
          refine wi_pf ct_20_7 (sT_15 hS) rfl ?_
          refine wi_aload_0 ct_20_10 ?_
          refine wi_ic ct_20_11 kc_0 ?_
          refine wi_pf ct_20_12 (sT_15 hS) rfl ?_
          refine wi_aload_0 ct_20_15 ?_
          refine wi_ic ct_20_16 kc_0 ?_
          refine wi_pf ct_20_17 (sT_15 hS) rfl ?_
          refine wi_ret ct_20_20 (wk_v ?_)
          refine wi_ret ct_17_66 ?_
          rw [goL_1 hpc (show windV (mkLk sq Bi kd v) gust false k clk sz fm = lkV sq (FL Bi kd v (clk) (sz) (fm)) 0 0 + 0 from by unfold windV mkLk; rw [if_neg hk0]; rfl) (by omega)] at hR
          subst hR
          refine kk _ ⟨fun q h1 h2 => (Eq.trans (funext fun _ => up2_nq h1) (Eq.trans (funext fun _ => up2_nq h1) (Eq.trans (funext fun _ => up2_nq h1) (Eq.trans (funext fun _ => up2_nq h1) (Eq.trans (funext fun _ => up2_nq h1) (Eq.trans (funext fun _ => up2_nq h1) (Eq.trans (funext fun _ => up2_nq h1) (Eq.trans (funext fun _ => up2_nq h1) (Eq.trans (hgf14 q h2) (Eq.trans (funext fun _ => up2_nq h1) (hf.1 q h1 h2))))))))))), fun j hj => (Eq.trans (up2_nj (by omega)) (Eq.trans (up2_nj (by omega)) (Eq.trans (up2_nj (by omega)) (Eq.trans (up2_nj (by omega)) (Eq.trans (up2_nj (by omega)) (Eq.trans (up2_nj (by omega)) (Eq.trans (up2_nj (by omega)) (Eq.trans (up2_nj (by omega)) (Eq.trans (congrFun (hgf14 15 (by decide)) _) (Eq.trans (up2_nj (by omega)) (hf.2 j hj)))))))))))⟩ ?_ ?_ ?_ ?_ ?_ ?_
          · exact ((congrArg Int32.toInt (Eq.trans (up2_nj (by decide)) (Eq.trans (up2_nj (by decide)) up2_eq))).trans ki_0)
          · exact ((congrArg Int32.toInt (Eq.trans (up2_nj (by decide)) up2_eq)).trans ki_0)
          · exact ((congrArg Int32.toInt up2_eq).trans ki_0)
          · exact ((congrArg Int32.toInt (Eq.trans (up2_nj (by decide)) (Eq.trans (up2_nj (by decide)) (Eq.trans (up2_nj (by decide)) (Eq.trans (up2_nj (by decide)) (Eq.trans (up2_nj (by decide)) (Eq.trans (up2_nj (by decide)) (Eq.trans (up2_nj (by decide)) (Eq.trans (up2_nj (by decide)) (Eq.trans (congrFun (hgf14 15 (by decide)) _) up2_eq)))))))))).trans hik).trans (by unfold gMn; dsimp only; omega)
          · exact ((congrArg Int32.toInt (Eq.trans (up2_nj (by decide)) (Eq.trans (up2_nj (by decide)) (Eq.trans (up2_nj (by decide)) (Eq.trans (up2_nj (by decide)) up2_eq))))).trans (i_add hclk ki_1 (by omega)))
          · exact (Eq.trans (up2_nj (by decide)) (Eq.trans (up2_nj (by decide)) (Eq.trans (up2_nj (by decide)) up2_eq)))
      · skip
        refine wi_iload_2 ct_17_33 ?_
        refine wi_ic ct_17_34 kc_30 ?_
        refine wi_icgt_f ct_17_36 hik ki_30 (by omega) ?_
        refine wi_aload_0 ct_17_39 ?_
        refine wi_iload_2 ct_17_40 ?_
        refine wi_pf ct_17_41 (sT_15 hS) rfl ?_
        refine wi_aload_0 ct_17_44 ?_
        refine wi_aload_1 ct_17_45 ?_
        refine wi_cv1 (ls' := [some _, some _, none, none]) ct_17_46 (Nat.le_of_ble_eq_true rfl) (by decide) (sT_15 hS) rfl (by decide) rfl rfl (Nat.le_of_ble_eq_true rfl) ?_
        refine wi_aload_0 ct_18_0 ?_
        refine wi_gf (x := i) ct_18_1 (sT_15 hS) rfl rfl up2_eq ?_
        refine wi_ic ct_18_4 kc_1 ?_
        refine wi_icne_t ct_18_5 hik ki_1 (by omega) ?_
        refine wi_ic ct_18_15 kc_0 ?_
        refine wi_istore_2 rfl ct_18_16 ?_
        refine wi_aload_0 ct_18_17 ?_
        refine wi_aload_0 ct_18_18 ?_
        refine wi_gf (x := 1) ct_18_19 (sT_15 hS) rfl rfl (Eq.trans (up2_nj (by decide)) ((hf.2 6 (by decide)).trans hcalm)) ?_
        refine wi_ifeq_f ct_18_22 ki_1 (by decide) ?_
        refine wi_ic ct_18_25 kc_0 ?_
        refine wi_goto ct_18_26 ?_
        refine wi_pf ct_18_37 (sT_15 hS) rfl ?_
        refine wi_aload_1 ct_18_40 ?_
        refine wi_aload_0 ct_18_41 ?_
        refine wi_gf (x := fi2 15 7) ct_18_42 (sT_15 hS) rfl rfl (Eq.trans (up2_nj (by decide)) (up2_nj (by decide))) ?_
        refine wi_cvK1 ct_18_45 (Nat.le_of_ble_eq_true rfl) hp (by decide) rfl ?_
        refine c_pace hk6 hsz (fun zpc hzpc => wk_i ?_)
        obtain ⟨pc, hpc⟩ : ∃ pc, paceV kd sz = pc := ⟨_, rfl⟩
        have hpb := paceV_bd kd sz
        rw [hpc] at hzpc hpb
        refine wi_istore_3 rfl ct_18_48 ?_
        refine wi_aload_0 ct_18_49 ?_
        refine wi_dup ct_18_50 rfl ?_
        refine wi_gf (x := fi2 15 7) ct_18_51 (sT_15 hS) rfl rfl (Eq.trans (up2_nj (by decide)) (up2_nj (by decide))) ?_
        refine wi_iload_3 ct_18_54 ?_
        refine wi_iadd ct_18_55 rfl ?_
        refine wi_pf ct_18_56 (sT_15 hS) rfl ?_
        refine wi_aload_0 ct_18_59 ?_
        refine wi_dup ct_18_60 rfl ?_
        refine wi_gf (x := fi2 15 8) ct_18_61 (sT_15 hS) rfl rfl (Eq.trans (up2_nj (by decide)) (Eq.trans (up2_nj (by decide)) (up2_nj (by decide)))) ?_
        refine wi_iload_3 ct_18_64 ?_
        refine wi_aload_0 ct_18_65 ?_
        refine wi_gf (x := 0) ct_18_66 (sT_15 hS) rfl rfl (Eq.trans (up2_nj (by decide)) up2_eq) ?_
        refine wi_iadd ct_18_69 rfl ?_
        refine wi_isub ct_18_70 rfl ?_
        refine wi_pf ct_18_71 (sT_15 hS) rfl ?_
        refine wi_aload_0 ct_18_74 ?_
        refine wi_dup ct_18_75 rfl ?_
        refine wi_gf (x := fi2 15 4) ct_18_76 (sT_15 hS) rfl rfl (Eq.trans (up2_nj (by decide)) (Eq.trans (up2_nj (by decide)) (Eq.trans (up2_nj (by decide)) (up2_nj (by decide))))) ?_
        refine wi_ic ct_18_79 kc_1 ?_
        refine wi_iadd ct_18_80 rfl ?_
        refine wi_pf ct_18_81 (sT_15 hS) rfl ?_
        refine wi_ret ct_18_84 (wk_v ?_)
        refine wi_aload_0 ct_17_49 ?_
        refine wi_gf (x := (fi2 15 8 - (zpc + 0))) ct_17_50 (sT_15 hS) rfl rfl (Eq.trans (up2_nj (by decide)) up2_eq) ?_
        refine wi_aload_0 ct_17_53 ?_
        refine wi_gf (x := (fi2 15 7 + zpc)) ct_17_54 (sT_15 hS) rfl rfl (Eq.trans (up2_nj (by decide)) (Eq.trans (up2_nj (by decide)) up2_eq)) ?_
        refine wi_ic ct_17_57 kc_2 ?_
        refine wi_idiv ct_17_58 (by decide) rfl ?_
        refine wi_icge ct_17_59 (i_sub hfm (i_add hzpc ki_0 (by omega)) (by omega)) (i_div (i_add hsz hzpc (by omega)) ki_2 (by omega) (by omega)) (fun h20 => ?_) (fun h20 => ?_)
        · skip
          refine wi_aload_1 ct_17_67 ?_
          refine wi_aload_0 ct_17_68 ?_
          refine wi_cvK1 ct_17_69 (Nat.le_of_ble_eq_true rfl) hp (by decide) rfl ?_
          refine c_shut (fi := (up2 (up2 (up2 (up2 (up2 fi2 15 10 (i)) 15 9 (0)) 15 7 ((fi2 15 7 + zpc))) 15 8 ((fi2 15 8 - (zpc + 0)))) 15 4 ((fi2 15 4 + 1)))) (row := row) (r := r) hS hk6 hp ((congrArg Int32.toInt (congrFun (Eq.trans (funext fun _ => up2_nq (by omega)) (Eq.trans (funext fun _ => up2_nq (by omega)) (Eq.trans (funext fun _ => up2_nq (by omega)) (Eq.trans (funext fun _ => up2_nq (by omega)) (Eq.trans (funext fun _ => up2_nq (by omega)) (hf.1 p (by omega) (by omega))))))) _)).trans hpv) ((congrArg Int32.toInt (Eq.trans (up2_nj (by decide)) (Eq.trans (up2_nj (by decide)) (Eq.trans (up2_nj (by decide)) (Eq.trans (up2_nj (by decide)) (Eq.trans (up2_nj (by decide)) (hf.2 2 (by decide)))))))).trans haim) ((congrArg Int32.toInt (Eq.trans (up2_nj (by decide)) (Eq.trans (up2_nj (by decide)) up2_eq))).trans (i_add hsz hzpc (by omega))) ((congrArg Int32.toInt (Eq.trans (up2_nj (by decide)) up2_eq)).trans (i_sub hfm (i_add hzpc ki_0 (by omega)) (by omega))) ((congrArg Int32.toInt (Eq.trans (up2_nj (by decide)) (Eq.trans (up2_nj (by decide)) (Eq.trans (up2_nj (by decide)) up2_eq)))).trans ki_0) ((congrArg Int32.toInt up2_eq).trans (i_add hclk ki_1 (by omega))) (fun h6 => ⟨(hrow h6).1, (hrow h6).2.1, (hrow h6).2.2.1, fun j hj => (congrArg Int32.toInt (congrFun (Eq.trans (funext fun _ => up2_nq (fun e => by have := hr72 h6; omega)) (Eq.trans (funext fun _ => up2_nq (fun e => by have := hr72 h6; omega)) (Eq.trans (funext fun _ => up2_nq (fun e => by have := hr72 h6; omega)) (Eq.trans (funext fun _ => up2_nq (fun e => by have := hr72 h6; omega)) (Eq.trans (funext fun _ => up2_nq (fun e => by have := hr72 h6; omega)) (hf.1 r (fun e => by have := hr72 h6; omega) (fun e => by have := hr72 h6; omega))))))) _)).trans ((hrow h6).2.2.2 j hj)⟩) hv9 ha6 (by omega) (by omega) (by omega) (by omega) hr9 (fun hs => wk_i ?_) (fun hs => wk_i ?_)
          · skip
            refine wi_ifeq_f ct_17_72 ki_1 (by decide) ?_
            refine wi_aload_0 ct_17_75 ?_
            refine wi_cv0 (ls' := [some _]) ct_17_76 (Nat.le_of_ble_eq_true rfl) (by decide) (sT_15 hS) rfl (by decide) rfl rfl (Nat.le_of_ble_eq_true rfl) ?_
            refine wi_aload_0 ct_19_0 ?_
            refine wi_ic ct_19_1 kc_10 ?_
            refine wi_aload_0 ct_19_3 ?_
            refine wi_gf (x := (fi2 15 8 - (zpc + 0))) ct_19_4 (sT_15 hS) rfl rfl (Eq.trans (up2_nj (by decide)) up2_eq) ?_
            refine wi_imul ct_19_7 rfl ?_
            refine wi_aload_0 ct_19_8 ?_
            refine wi_gf (x := (fi2 15 7 + zpc)) ct_19_9 (sT_15 hS) rfl rfl (Eq.trans (up2_nj (by decide)) (Eq.trans (up2_nj (by decide)) up2_eq)) ?_
            refine wi_ic ct_19_12 kc_1 ?_
            refine wi_iadd ct_19_13 rfl ?_
            refine wi_idiv ct_19_14 (i_nz (i_add (i_add hsz hzpc (by omega)) ki_1 (by omega)) (by omega)) rfl ?_
            have hd1 := i_div (i_mul ki_10 (i_sub hfm (i_add hzpc ki_0 (by omega)) (by omega)) (by omega)) (i_add (i_add hsz hzpc (by omega)) ki_1 (by omega)) (by omega) (by omega)
            have hd1b : 0 ≤ 10 * (fm - (pc + (0))) / (sz + pc + 1) := Int.ediv_nonneg (by omega) (by omega)
            have hd1c : 10 * (fm - (pc + (0))) / (sz + pc + 1) ≤ 10 * (fm - (pc + (0))) := Int.ediv_le_self _ (by omega)
            refine wi_aload_0 ct_19_15 ?_
            refine wi_ic ct_19_16 kc_1 ?_
            refine wi_ic ct_19_17 kc_1 ?_
            refine wi_cv2 (ls' := [some _, some _, some _]) ct_19_18 (Nat.le_of_ble_eq_true rfl) (by decide) (sT_15 hS) rfl (by decide) rfl rfl (Nat.le_of_ble_eq_true rfl) ?_
            refine c_look (fi := (up2 (up2 (up2 (up2 (up2 fi2 15 10 (i)) 15 9 (0)) 15 7 ((fi2 15 7 + zpc))) 15 8 ((fi2 15 8 - (zpc + 0)))) 15 4 ((fi2 15 4 + 1)))) (W0 := 1) (O0 := 1) (clk := clk + 1) (sz := sz + pc) (fm := fm - (pc + (0))) hS (hq.fr (fun q hq => (Eq.trans (funext fun _ => up2_nq (by omega)) (Eq.trans (funext fun _ => up2_nq (by omega)) (Eq.trans (funext fun _ => up2_nq (by omega)) (Eq.trans (funext fun _ => up2_nq (by omega)) (Eq.trans (funext fun _ => up2_nq (by omega)) (hf.1 q (by omega) (by omega))))))))) ((congrArg Int32.toInt (Eq.trans (up2_nq (by decide)) (Eq.trans (up2_nq (by decide)) (Eq.trans (up2_nq (by decide)) (Eq.trans (up2_nq (by decide)) (up2_nq (by decide))))))).trans hl0) ((congrArg Int32.toInt (Eq.trans (up2_nq (by decide)) (Eq.trans (up2_nq (by decide)) (Eq.trans (up2_nq (by decide)) (Eq.trans (up2_nq (by decide)) (up2_nq (by decide))))))).trans hl1) ((congrArg Int32.toInt (Eq.trans (up2_nq (by decide)) (Eq.trans (up2_nq (by decide)) (Eq.trans (up2_nq (by decide)) (Eq.trans (up2_nq (by decide)) (up2_nq (by decide))))))).trans hl2) (((congrArg Int32.toInt up2_eq).trans (i_add hclk ki_1 (by omega))).trans (by omega)) (((congrArg Int32.toInt (Eq.trans (up2_nj (by decide)) (Eq.trans (up2_nj (by decide)) up2_eq))).trans (i_add hsz hzpc (by omega))).trans (by omega)) (((congrArg Int32.toInt (Eq.trans (up2_nj (by decide)) up2_eq)).trans (i_sub hfm (i_add hzpc ki_0 (by omega)) (by omega))).trans (by omega)) (by omega) (by omega) (by omega) ki_1 (by decide) ki_1 (fun z21 f22 hz21 hgf22 hjf22 => wk_i ?_)
            have hbz21 := hlk 1 1 (clk + 1) (sz + pc) (fm - (pc + (0))) (by decide) (by decide)
            unfold mkLk at hbz21
            refine wi_ic ct_19_21 kc_1 ?_
            refine wi_iadd ct_19_22 rfl ?_
            refine wi_idiv ct_19_23 (i_nz (i_add hz21 ki_1 (by omega)) (by omega)) rfl ?_
            have hd2 := i_div hd1 (i_add hz21 ki_1 (by omega)) (by omega) (by omega)
            have hd3 : ((((10 * (fi2 15 8 - (zpc + 0))) / ((fi2 15 7 + zpc) + 1)) / (z21 + 1))).toInt = gLf (mkLk sq Bi kd v) ((true, clk + 1, sz + pc, fm - (pc + (0)), k + 1) : go_T) := hd2.trans (by unfold gLf mkLk; rw [if_pos rfl])
            have hlf := gLf_bd hlk (R := ((true, clk + 1, sz + pc, fm - (pc + (0)), k + 1) : go_T)) (fun _ => ⟨by dsimp only; omega, by dsimp only; omega⟩) (by dsimp only; omega)
            have hlf3 := hlf.2.2 rfl
            dsimp only at hlf3
            refine wi_pf ct_19_24 (sT_15 hS) rfl ?_
            refine wi_aload_0 ct_19_27 ?_
            refine wi_aload_0 ct_19_28 ?_
            refine wi_gf (x := (fi2 15 7 + zpc)) ct_19_29 (sT_15 hS) rfl rfl (Eq.trans (up2_nj (by decide)) (Eq.trans (congrFun (hgf22 15 (by decide)) _) (Eq.trans (up2_nj (by decide)) (Eq.trans (up2_nj (by decide)) up2_eq)))) ?_
            refine wi_aload_0 ct_19_32 ?_
            refine wi_gf (x := (((10 * (fi2 15 8 - (zpc + 0))) / ((fi2 15 7 + zpc) + 1)) / (z21 + 1))) ct_19_33 (sT_15 hS) rfl rfl up2_eq ?_
            refine wi_imul ct_19_36 rfl ?_
            have hm1 := i_mul (i_add hsz hzpc (by omega)) hd3 (by omega)
            refine wi_aload_0 ct_19_37 ?_
            refine wi_ic ct_19_38 kc_2 ?_
            refine wi_ic ct_19_39 kc_1 ?_
            refine wi_cv2 (ls' := [some _, some _, some _]) ct_19_40 (Nat.le_of_ble_eq_true rfl) (by decide) (sT_15 hS) rfl (by decide) rfl rfl (Nat.le_of_ble_eq_true rfl) ?_
            refine c_look (fi := (up2 f22 15 11 ((((10 * (fi2 15 8 - (zpc + 0))) / ((fi2 15 7 + zpc) + 1)) / (z21 + 1))))) (W0 := 2) (O0 := 1) (clk := clk + 1) (sz := sz + pc) (fm := fm - (pc + (0))) hS (hq.fr (fun q hq => (Eq.trans (funext fun _ => up2_nq (by omega)) (Eq.trans (hgf22 q (by omega)) (Eq.trans (funext fun _ => up2_nq (by omega)) (Eq.trans (funext fun _ => up2_nq (by omega)) (Eq.trans (funext fun _ => up2_nq (by omega)) (Eq.trans (funext fun _ => up2_nq (by omega)) (Eq.trans (funext fun _ => up2_nq (by omega)) (hf.1 q (by omega) (by omega))))))))))) ((congrArg Int32.toInt (Eq.trans (up2_nq (by decide)) (Eq.trans (hjf22 0 (by decide)) (Eq.trans (up2_nq (by decide)) (Eq.trans (up2_nq (by decide)) (Eq.trans (up2_nq (by decide)) (Eq.trans (up2_nq (by decide)) (up2_nq (by decide))))))))).trans hl0) ((congrArg Int32.toInt (Eq.trans (up2_nq (by decide)) (Eq.trans (hjf22 1 (by decide)) (Eq.trans (up2_nq (by decide)) (Eq.trans (up2_nq (by decide)) (Eq.trans (up2_nq (by decide)) (Eq.trans (up2_nq (by decide)) (up2_nq (by decide))))))))).trans hl1) ((congrArg Int32.toInt (Eq.trans (up2_nq (by decide)) (Eq.trans (hjf22 2 (by decide)) (Eq.trans (up2_nq (by decide)) (Eq.trans (up2_nq (by decide)) (Eq.trans (up2_nq (by decide)) (Eq.trans (up2_nq (by decide)) (up2_nq (by decide))))))))).trans hl2) (((congrArg Int32.toInt (Eq.trans (up2_nj (by decide)) (Eq.trans (congrFun (hgf22 15 (by decide)) _) up2_eq))).trans (i_add hclk ki_1 (by omega))).trans (by omega)) (((congrArg Int32.toInt (Eq.trans (up2_nj (by decide)) (Eq.trans (congrFun (hgf22 15 (by decide)) _) (Eq.trans (up2_nj (by decide)) (Eq.trans (up2_nj (by decide)) up2_eq))))).trans (i_add hsz hzpc (by omega))).trans (by omega)) (((congrArg Int32.toInt (Eq.trans (up2_nj (by decide)) (Eq.trans (congrFun (hgf22 15 (by decide)) _) (Eq.trans (up2_nj (by decide)) up2_eq)))).trans (i_sub hfm (i_add hzpc ki_0 (by omega)) (by omega))).trans (by omega)) (by omega) (by omega) (by omega) ki_2 (by decide) ki_1 (fun z23 f24 hz23 hgf24 hjf24 => wk_i ?_)
            have hbz23 := hlk 2 1 (clk + 1) (sz + pc) (fm - (pc + (0))) (by decide) (by decide)
            unfold mkLk at hbz23
            refine wi_imul ct_19_43 rfl ?_
            have hm0 := Int.mul_nonneg hlf3.2 hbz23.1
            have hmx := Int.mul_le_mul hlf3.1 hbz23.2 hbz23.1 (by decide)
            have hm2 := i_mul hm1 hz23 (by omega)
            refine wi_ic ct_19_44 kc_99999 ?_
            refine wi_cs2 (ls' := [some _, some _]) ct_19_46 (Nat.le_of_ble_eq_true rfl) rfl (Nat.le_of_ble_eq_true rfl) ?_
            refine c_min hm2 ki_99999 (fun zb hzb => wk_i ?_)
            have hbr : zb.toInt = gBr (mkLk sq Bi kd v) ((true, clk + 1, sz + pc, fm - (pc + (0)), k + 1) : go_T) := hzb.trans (by unfold gBr; rw [if_pos rfl]; rfl)
            refine wi_pf ct_19_49 (sT_15 hS) rfl ?_
            refine wi_ret ct_19_52 (wk_v ?_)
            refine wi_ret ct_17_79 ?_
            rw [goL_2 hpc (show windV (mkLk sq Bi kd v) gust true k clk sz fm = 0 from rfl) (by omega) hs] at hR
            subst hR
            refine kk _ ⟨fun q h1 h2 => (Eq.trans (funext fun _ => up2_nq h1) (Eq.trans (hgf24 q h2) (Eq.trans (funext fun _ => up2_nq h1) (Eq.trans (hgf22 q h2) (Eq.trans (funext fun _ => up2_nq h1) (Eq.trans (funext fun _ => up2_nq h1) (Eq.trans (funext fun _ => up2_nq h1) (Eq.trans (funext fun _ => up2_nq h1) (Eq.trans (funext fun _ => up2_nq h1) (hf.1 q h1 h2)))))))))), fun j hj => (Eq.trans (up2_nj (by omega)) (Eq.trans (congrFun (hgf24 15 (by decide)) _) (Eq.trans (up2_nj (by omega)) (Eq.trans (congrFun (hgf22 15 (by decide)) _) (Eq.trans (up2_nj (by omega)) (Eq.trans (up2_nj (by omega)) (Eq.trans (up2_nj (by omega)) (Eq.trans (up2_nj (by omega)) (Eq.trans (up2_nj (by omega)) (hf.2 j hj))))))))))⟩ ?_ ?_ ?_ ?_ ?_ ?_
            · exact ((congrArg Int32.toInt (Eq.trans (up2_nj (by decide)) (Eq.trans (congrFun (hgf24 15 (by decide)) _) (Eq.trans (up2_nj (by decide)) (Eq.trans (congrFun (hgf22 15 (by decide)) _) (Eq.trans (up2_nj (by decide)) (Eq.trans (up2_nj (by decide)) up2_eq))))))).trans (i_add hsz hzpc (by omega))).trans (by unfold gSz; rw [if_pos rfl])
            · exact ((congrArg Int32.toInt (Eq.trans (up2_nj (by decide)) (Eq.trans (congrFun (hgf24 15 (by decide)) _) up2_eq))).trans hd3)
            · exact ((congrArg Int32.toInt up2_eq).trans hbr)
            · exact ((congrArg Int32.toInt (Eq.trans (up2_nj (by decide)) (Eq.trans (congrFun (hgf24 15 (by decide)) _) (Eq.trans (up2_nj (by decide)) (Eq.trans (congrFun (hgf22 15 (by decide)) _) (Eq.trans (up2_nj (by decide)) (Eq.trans (up2_nj (by decide)) (Eq.trans (up2_nj (by decide)) (Eq.trans (up2_nj (by decide)) up2_eq))))))))).trans hik).trans (by unfold gMn; dsimp only; omega)
            · exact ((congrArg Int32.toInt (Eq.trans (up2_nj (by decide)) (Eq.trans (congrFun (hgf24 15 (by decide)) _) (Eq.trans (up2_nj (by decide)) (Eq.trans (congrFun (hgf22 15 (by decide)) _) up2_eq))))).trans (i_add hclk ki_1 (by omega)))
            · exact (Eq.trans (up2_nj (by decide)) (Eq.trans (congrFun (hgf24 15 (by decide)) _) (Eq.trans (up2_nj (by decide)) (Eq.trans (congrFun (hgf22 15 (by decide)) _) (Eq.trans (up2_nj (by decide)) (Eq.trans (up2_nj (by decide)) (Eq.trans (up2_nj (by decide)) (Eq.trans (up2_nj (by decide)) (Eq.trans (up2_nj (by decide)) h13)))))))))
          · skip
            refine wi_ifeq_t ct_17_72 ki_0 (by decide) ?_
            refine wi_iinc_2 rfl (z := (i + 1)) ct_17_80 (by rw [kc_1]) ?_
            refine wi_goto ct_17_83 ?_
            rw [goL_3 hpc (show windV (mkLk sq Bi kd v) gust true k clk sz fm = 0 from rfl) (by omega) hs] at hR
            exact ih (k + 1) _ _ _ _ _ R (by omega) hR ⟨fun q h1 h2 => (Eq.trans (funext fun _ => up2_nq h1) (Eq.trans (funext fun _ => up2_nq h1) (Eq.trans (funext fun _ => up2_nq h1) (Eq.trans (funext fun _ => up2_nq h1) (Eq.trans (funext fun _ => up2_nq h1) (hf.1 q h1 h2)))))), fun j hj => (Eq.trans (up2_nj (by omega)) (Eq.trans (up2_nj (by omega)) (Eq.trans (up2_nj (by omega)) (Eq.trans (up2_nj (by omega)) (Eq.trans (up2_nj (by omega)) (hf.2 j hj))))))⟩ ((i_add hik ki_1 (by omega)).trans (by omega)) (by omega) (by omega) (by omega) (((congrArg Int32.toInt up2_eq).trans (i_add hclk ki_1 (by omega))).trans (by omega)) (((congrArg Int32.toInt (Eq.trans (up2_nj (by decide)) (Eq.trans (up2_nj (by decide)) up2_eq))).trans (i_add hsz hzpc (by omega))).trans (by omega)) (((congrArg Int32.toInt (Eq.trans (up2_nj (by decide)) up2_eq)).trans (i_sub hfm (i_add hzpc ki_0 (by omega)) (by omega))).trans (by omega)) (Eq.trans (up2_nj (by decide)) (Eq.trans (up2_nj (by decide)) (Eq.trans (up2_nj (by decide)) (Eq.trans (up2_nj (by decide)) (Eq.trans (up2_nj (by decide)) h13))))) (fun _ => ((congrArg Int32.toInt (Eq.trans (up2_nj (by decide)) (Eq.trans (up2_nj (by decide)) (Eq.trans (up2_nj (by decide)) (Eq.trans (up2_nj (by decide)) up2_eq))))).trans hik).trans (by omega)) ((congrArg Int32.toInt (Eq.trans (up2_nq (by decide)) (Eq.trans (up2_nq (by decide)) (Eq.trans (up2_nq (by decide)) (Eq.trans (up2_nq (by decide)) (up2_nq (by decide))))))).trans hl0) ((congrArg Int32.toInt (Eq.trans (up2_nq (by decide)) (Eq.trans (up2_nq (by decide)) (Eq.trans (up2_nq (by decide)) (Eq.trans (up2_nq (by decide)) (up2_nq (by decide))))))).trans hl1) ((congrArg Int32.toInt (Eq.trans (up2_nq (by decide)) (Eq.trans (up2_nq (by decide)) (Eq.trans (up2_nq (by decide)) (Eq.trans (up2_nq (by decide)) (up2_nq (by decide))))))).trans hl2) kk
        · skip
          refine wi_aload_0 ct_17_62 ?_
          refine wi_cv0 (ls' := [some _]) ct_17_63 (Nat.le_of_ble_eq_true rfl) (by decide) (sT_15 hS) rfl (by decide) rfl rfl (Nat.le_of_ble_eq_true rfl) ?_
          refine wi_aload_0 ct_20_0 ?_
          refine wi_ic ct_20_1 kc_1 ?_
          refine wi_pfz ct_20_2 (sT_15 hS) rfl (by decide) ?_
          refine wi_aload_0 ct_20_5 ?_
          refine wi_ic ct_20_6 kc_0 ?_
          refine wi_pf ct_20_7 (sT_15 hS) rfl ?_
          refine wi_aload_0 ct_20_10 ?_
          refine wi_ic ct_20_11 kc_0 ?_
          refine wi_pf ct_20_12 (sT_15 hS) rfl ?_
          refine wi_aload_0 ct_20_15 ?_
          refine wi_ic ct_20_16 kc_0 ?_
          refine wi_pf ct_20_17 (sT_15 hS) rfl ?_
          refine wi_ret ct_20_20 (wk_v ?_)
          refine wi_ret ct_17_66 ?_
          rw [goL_1 hpc (show windV (mkLk sq Bi kd v) gust true k clk sz fm = 0 from rfl) (by omega)] at hR
          subst hR
          refine kk _ ⟨fun q h1 h2 => (Eq.trans (funext fun _ => up2_nq h1) (Eq.trans (funext fun _ => up2_nq h1) (Eq.trans (funext fun _ => up2_nq h1) (Eq.trans (funext fun _ => up2_nq h1) (Eq.trans (funext fun _ => up2_nq h1) (Eq.trans (funext fun _ => up2_nq h1) (Eq.trans (funext fun _ => up2_nq h1) (Eq.trans (funext fun _ => up2_nq h1) (Eq.trans (funext fun _ => up2_nq h1) (hf.1 q h1 h2)))))))))), fun j hj => (Eq.trans (up2_nj (by omega)) (Eq.trans (up2_nj (by omega)) (Eq.trans (up2_nj (by omega)) (Eq.trans (up2_nj (by omega)) (Eq.trans (up2_nj (by omega)) (Eq.trans (up2_nj (by omega)) (Eq.trans (up2_nj (by omega)) (Eq.trans (up2_nj (by omega)) (Eq.trans (up2_nj (by omega)) (hf.2 j hj))))))))))⟩ ?_ ?_ ?_ ?_ ?_ ?_
          · exact ((congrArg Int32.toInt (Eq.trans (up2_nj (by decide)) (Eq.trans (up2_nj (by decide)) up2_eq))).trans ki_0)
          · exact ((congrArg Int32.toInt (Eq.trans (up2_nj (by decide)) up2_eq)).trans ki_0)
          · exact ((congrArg Int32.toInt up2_eq).trans ki_0)
          · exact ((congrArg Int32.toInt (Eq.trans (up2_nj (by decide)) (Eq.trans (up2_nj (by decide)) (Eq.trans (up2_nj (by decide)) (Eq.trans (up2_nj (by decide)) (Eq.trans (up2_nj (by decide)) (Eq.trans (up2_nj (by decide)) (Eq.trans (up2_nj (by decide)) (Eq.trans (up2_nj (by decide)) up2_eq))))))))).trans hik).trans (by unfold gMn; dsimp only; omega)
          · exact ((congrArg Int32.toInt (Eq.trans (up2_nj (by decide)) (Eq.trans (up2_nj (by decide)) (Eq.trans (up2_nj (by decide)) (Eq.trans (up2_nj (by decide)) up2_eq))))).trans (i_add hclk ki_1 (by omega)))
          · exact (Eq.trans (up2_nj (by decide)) (Eq.trans (up2_nj (by decide)) (Eq.trans (up2_nj (by decide)) up2_eq)))
theorem c_run {L : Nat} {d : Nat} {g : am_G} {fl : am_L} {P : Option Value → am_G → am_I → am_L → Prop} {fi : am_I} {sq : Option sq_T} {p r : Nat} {cd G : Int} {Bi kd v aim gust m0 : Int} {row : Nat → Int} {calm : Bool} (hS : SF L g) (hq : SQk g fi sq) (hp72 : 72 ≤ p) (hp : g.1 p = am_kt kd) (hpv : (fi p 2).toInt = v) (hpn : (fi p 1).toInt = Bi) (hpk : (fi p 0).toInt = kd) (hcd : (fi 15 1).toInt = cd) (hG : (fi 15 3).toInt = G) (hmi : (fi 15 4).toInt = m0) (haim : (fi 15 2).toInt = aim) (hrow : kd = 6 → g.2.2.1 p 6 = some r ∧ g.1 r = 20 ∧ g.2.1 r = 4 ∧ ∀ j, j < 4 → (fi r j).toInt = row j) (hr72 : kd = 6 → 72 ≤ r) (hcalm : fi 15 6 = bI calm) (hgust : (fi 15 5).toInt = gust) (hk6 : 0 ≤ kd ∧ kd ≤ 6) (hv9 : 0 ≤ v ∧ v ≤ 9) (ha6 : 1 ≤ aim ∧ aim ≤ 60) (hg9 : 0 ≤ gust ∧ gust ≤ 9) (hm9 : 0 ≤ m0 ∧ m0 ≤ 11000) (hr9 : ∀ j, j < 4 → 0 ≤ row j ∧ row j ≤ 9) (hc9 : 1 ≤ cd ∧ cd ≤ 9) (hG9 : 0 ≤ G ∧ G ≤ 39) (kk : ∀ (R : go_T) (fi3 : am_I), R = goL (mkLk sq Bi kd v) kd v aim row gust calm 30 0 m0 0 (cd * G) → cF fi fi3 → (fi3 15 7).toInt = gSz R → (fi3 15 11).toInt = gLf (mkLk sq Bi kd v) R → (fi3 15 12).toInt = gBr (mkLk sq Bi kd v) R → (fi3 15 10).toInt = gMn R → (fi3 15 4).toInt = R.2.1 → fi3 15 13 = bI (!R.1) → P none g fi3 fl) : WP (d + 6) 17 0 [some (.ref 15), some (.ref p), none] [] g fi fl P := by
  have hFb := film_bd hc9 hG9
  refine wi_aload_1 ct_17_0 ?_
  refine wi_aload_0 ct_17_1 ?_
  refine wi_gfr ct_17_2 (sT_15 hS) rfl (sR_15_14 hS) ?_
  refine wi_cvK1 ct_17_5 (Nat.le_of_ble_eq_true rfl) hp (by decide) rfl ?_
  rw [vtk_0]
  refine wi_aload_1 ct_1_0 ?_
  refine wi_ic ct_1_1 kc_0 ?_
  refine wi_aload_0 ct_1_2 ?_
  refine wi_gf (x := fi p 1) ct_1_3 hp (am_ktb _) rfl rfl ?_
  refine wi_iast ct_1_6 (sT_16 hS) (sL_16 hS) (by decide) kn_c0 ?_
  refine wi_aload_1 ct_1_7 ?_
  refine wi_ic ct_1_8 kc_1 ?_
  refine wi_aload_0 ct_1_9 ?_
  refine wi_gf (x := fi p 0) ct_1_10 hp (am_ktb _) rfl (up2_nq (dn hp72 (by decide))) ?_
  refine wi_iast ct_1_13 (sT_16 hS) (sL_16 hS) (by decide) kn_c1 ?_
  refine wi_aload_1 ct_1_14 ?_
  refine wi_ic ct_1_15 kc_2 ?_
  refine wi_aload_0 ct_1_16 ?_
  refine wi_gf (x := fi p 2) ct_1_17 hp (am_ktb _) rfl (Eq.trans (up2_nq (dn hp72 (by decide))) (up2_nq (dn hp72 (by decide)))) ?_
  refine wi_iast ct_1_20 (sT_16 hS) (sL_16 hS) (by decide) kn_c2 ?_
  refine wi_ret ct_1_21 (wk_v ?_)
  refine wi_aload_0 ct_17_8 ?_
  refine wi_ic ct_17_9 kc_0 ?_
  refine wi_pf ct_17_10 (sT_15 hS) rfl ?_
  refine wi_aload_0 ct_17_13 ?_
  refine wi_aload_0 ct_17_14 ?_
  refine wi_gf (x := fi 15 1) ct_17_15 (sT_15 hS) rfl rfl (Eq.trans (up2_nj (by decide)) (Eq.trans (up2_nq (by decide)) (Eq.trans (up2_nq (by decide)) (up2_nq (by decide))))) ?_
  refine wi_aload_0 ct_17_18 ?_
  refine wi_gf (x := fi 15 3) ct_17_19 (sT_15 hS) rfl rfl (Eq.trans (up2_nj (by decide)) (Eq.trans (up2_nq (by decide)) (Eq.trans (up2_nq (by decide)) (up2_nq (by decide))))) ?_
  have hfm := i_mul hcd hG (by omega)
  refine wi_imul ct_17_22 rfl ?_
  refine wi_pf ct_17_23 (sT_15 hS) rfl ?_
  refine wi_aload_0 ct_17_26 ?_
  refine wi_ic ct_17_27 kc_0 ?_
  refine wi_pfz ct_17_28 (sT_15 hS) rfl (by decide) ?_
  refine wi_ic ct_17_31 kc_1 ?_
  refine wi_istore_2 rfl ct_17_32 ?_
  exact vl_run hS hq hp72 hp hpv haim hrow hr72 hcalm hgust hk6 hv9 ha6 hg9 hm9 hr9 30 0 m0 0 (cd * G) _ _ _ rfl rfl ⟨fun q h1 h2 => (Eq.trans (funext fun _ => up2_nq h1) (Eq.trans (funext fun _ => up2_nq h1) (Eq.trans (funext fun _ => up2_nq h1) (Eq.trans (funext fun _ => up2_nq h2) (Eq.trans (funext fun _ => up2_nq h2) (funext fun _ => up2_nq h2)))))), fun j hj => (Eq.trans (up2_nj (by omega)) (Eq.trans (up2_nj (by omega)) (Eq.trans (up2_nj (by omega)) (Eq.trans (up2_nq (by decide)) (Eq.trans (up2_nq (by decide)) (up2_nq (by decide)))))))⟩ rfl (by omega) (by omega) hFb ((congrArg Int32.toInt (Eq.trans (up2_nj (by decide)) (Eq.trans (up2_nj (by decide)) (Eq.trans (up2_nj (by decide)) (Eq.trans (up2_nq (by decide)) (Eq.trans (up2_nq (by decide)) (up2_nq (by decide)))))))).trans hmi) (congrArg Int32.toInt (Eq.trans (up2_nj (by decide)) (Eq.trans (up2_nj (by decide)) up2_eq))) ((congrArg Int32.toInt (Eq.trans (up2_nj (by decide)) up2_eq)).trans hfm) up2_eq (fun h => absurd h (by decide)) ((congrArg Int32.toInt (Eq.trans (up2_nq (by decide)) (Eq.trans (up2_nq (by decide)) (Eq.trans (up2_nq (by decide)) (Eq.trans (up2_nj (by decide)) (Eq.trans (up2_nj (by decide)) up2_eq)))))).trans hpn) ((congrArg Int32.toInt (Eq.trans (up2_nq (by decide)) (Eq.trans (up2_nq (by decide)) (Eq.trans (up2_nq (by decide)) (Eq.trans (up2_nj (by decide)) up2_eq))))).trans hpk) ((congrArg Int32.toInt (Eq.trans (up2_nq (by decide)) (Eq.trans (up2_nq (by decide)) (Eq.trans (up2_nq (by decide)) up2_eq)))).trans hpv) (kk _ · rfl)
