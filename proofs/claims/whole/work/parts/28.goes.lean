theorem i_nz {y : Int32} {Y : Int} (hy : y.toInt = Y) (h : Y ≠ 0) : y ≠ 0 := fun e => h (by rw [← hy, e]; rfl)
theorem j_of {x : Int32} {X : Int} (hx : x.toInt = X) : x.toInt64.toInt = X := by
  rw [Int32.toInt_toInt64]
  exact hx
theorem j_mul {x y : Int64} {X Y : Int} (hx : x.toInt = X) (hy : y.toInt = Y) (h : -2147483648 ≤ X * Y ∧ X * Y ≤ 2147483647) : (x * y).toInt = X * Y := by
  subst hx; subst hy
  rw [Int64.toInt_mul]
  exact Int.bmod_eq_of_le (by omega) (by omega)
theorem j_l2i {x : Int64} {X : Int} (hx : x.toInt = X) (h : -2147483648 ≤ X ∧ X ≤ 2147483647) : x.toInt32.toInt = X := by
  rw [Int64.toInt_toInt32, hx]
  exact Int.bmod_eq_of_le (by omega) (by omega)
theorem lcmp_ge {x y : Int64} {X Y : Int} (hx : x.toInt = X) (hy : y.toInt = Y) (h : 0 ≤ (lg_cmp x y).toInt) : Y ≤ X := by
  subst hx; subst hy
  rcases Int.lt_or_le x.toInt y.toInt with e | e
  · exfalso
    have : lg_cmp x y = -1 := by
      unfold lg_cmp
      have hne : ¬ x = y := fun h => by
        rw [h] at e
        omega
      simp [Int64.lt_iff_toInt_lt, hne, show ¬ y.toInt < x.toInt by omega]
    rw [this] at h
    exact absurd h (by decide)
  · exact e
theorem lcmp_lt {x y : Int64} {X Y : Int} (hx : x.toInt = X) (hy : y.toInt = Y) (h : (lg_cmp x y).toInt < 0) : X < Y := by
  subst hx; subst hy
  rcases Int.lt_or_le x.toInt y.toInt with e | e
  · exact e
  · exfalso
    rcases Int.lt_or_le y.toInt x.toInt with e2 | e2
    · have : lg_cmp x y = 1 := by
        unfold lg_cmp
        simp [Int64.lt_iff_toInt_lt, e2, show ¬ x.toInt < y.toInt by omega]
      rw [this] at h
      exact absurd h (by decide)
    · have e3 : x = y := Int64.toInt.inj (by omega)
      rw [lcmp_eq e3] at h
      exact absurd h (by decide)
def gF (fi fi2 : am_I) : Prop := (∀ q, q ≠ 48 → q ≠ 31 → fi2 q = fi q) ∧ ∀ j, (j < 27 ∨ 34 < j) → fi2 31 j = fi 31 j
theorem SQs.fr {fi fi2 : am_I} {sq : Option sq_T} (h : SQs fi sq) (e : fi2 31 10 = fi 31 10) (e0 : fi2 40 = fi 40) (e1 : fi2 41 = fi 41) (e2 : fi2 42 = fi 42) (e3 : fi2 43 = fi 43) (e4 : fi2 44 = fi 44) (e5 : fi2 45 = fi 45) : SQs fi2 sq := by
  cases sq with
  | none =>
    show (fi2 31 10).toInt = -1
    rw [e]
    exact h
  | some Q =>
    obtain ⟨s0, h1, h2, h3, h4⟩ := h
    exact ⟨s0, h1, by rw [e]; exact h2, h3.fr e0 e1 e2 e3 e4 e5, h4⟩
set_option maxHeartbeats 2000000 in
theorem vl_goes {L : Nat} {d : Nat} {g : am_G} {fl : am_L} {P : Option Value → am_G → am_I → am_L → Prop} {fi : am_I} {sq : Option sq_T} {b m : Int32} {B : Nat} {kd v aim gust m0 : Int} {row : Nat → Int} {calm : Bool} (hS : SF L g) (hq : SQs fi sq) (hb : b.toInt = (B : Int)) (hb5 : B < 5) (hkd : (fi 32 B).toInt = kd) (hv : (fi 33 B).toInt = v) (haim : (fi 35 B).toInt = aim) (hrow : ∀ j, j < 4 → (fi 37 (4 * B + j)).toInt = row j) (hcalm : fi 31 35 = bI calm) (hgust : (fi 31 36).toInt = gust) (hk6 : 0 ≤ kd ∧ kd ≤ 6) (hv9 : 0 ≤ v ∧ v ≤ 9) (ha6 : 1 ≤ aim ∧ aim ≤ 60) (hg9 : 0 ≤ gust ∧ gust ≤ 9) (hm9 : 0 ≤ m0 ∧ m0 ≤ 11000) (hr9 : ∀ j, j < 4 → 0 ≤ row j ∧ row j ≤ 9) : ∀ (n k : Nat) (clk sz fm : Int) (fi2 : am_I) (i : Int32) (l5 l6 : Option Value) (R : go_T), k + n = 30 → goL (mkLk sq B kd v) kd v aim row gust calm n k clk sz fm = R → gF fi fi2 → i.toInt = (k : Int) → clk = m0 + k → (0 ≤ sz ∧ sz ≤ 3 * k) → (0 ≤ fm ∧ fm ≤ 351) → (fi2 31 29).toInt = clk → (fi2 31 27).toInt = sz → (fi2 31 28).toInt = fm → fi2 31 34 = 0 → fi2 31 30 = 0 → fi2 31 31 = 0 → fi2 31 32 = 0 → am_nl l5 = true → am_nl l6 = true → (∀ fi3 : am_I, gF fi fi3 → (fi3 31 30).toInt = gSz R → (fi3 31 31).toInt = gLf (mkLk sq B kd v) R → (fi3 31 32).toInt = gBr (mkLk sq B kd v) R → (fi3 31 33).toInt = gMn R → fi3 31 34 = bI (!R.1) → P none g fi3 fl) → WP (d + 6) 157 50 [some (.ref 31), some (.int b), some (.int m), some (.int 0), some (.int i), l5, l6] [] g fi2 fl P := by
  have hlk := mkLk_bd (b := B) (k := kd) (v := v) (SQs_v hq)
  intro n
  induction n with
  | zero =>
    intro k clk sz fm fi2 i l5 l6 R hkn hR hf hik hck hszb hfmb hclk hsz hfm h34 h30 h31 h32 h5 h6 kk
    refine wi_iload_4 ct_157_50 ?_
    refine wi_ic ct_157_52 kc_30 ?_
    refine wi_icge_t ct_157_54 hik ki_30 (by omega) ?_
    refine wi_aload_0 ct_157_195 ?_
    refine wi_iload_3 ct_157_196 ?_
    refine wi_ifne_f ct_157_197 ki_0 (by decide) ?_
    refine wi_ic ct_157_200 kc_1 ?_
    refine wi_goto ct_157_201 ?_
    refine wi_pfz ct_157_205 (sT_31 hS) rfl (by decide) ?_
    refine wi_aload_0 ct_157_208 ?_
    refine wi_iload_4 ct_157_209 ?_
    refine wi_pf ct_157_211 (sT_31 hS) rfl ?_
    refine wi_iload_3 ct_157_214 ?_
    refine wi_ifeq_t ct_157_215 ki_0 (by decide) ?_
    refine wi_aload_0 ct_157_223 ?_
    refine wi_ic ct_157_224 kc_0 ?_
    refine wi_pf ct_157_225 (sT_31 hS) rfl ?_
    refine wi_aload_0 ct_157_228 ?_
    refine wi_ic ct_157_229 kc_0 ?_
    refine wi_pf ct_157_230 (sT_31 hS) rfl ?_
    refine wi_ret ct_157_233 ?_
    unfold goL at hR
    subst hR
    refine kk _ ⟨fun q h1 h2 => (Eq.trans (funext fun _ => up2_nq h2) (Eq.trans (funext fun _ => up2_nq h2) (Eq.trans (funext fun _ => up2_nq h2) (Eq.trans (funext fun _ => up2_nq h2) (hf.1 q h1 h2))))), fun j hj => (Eq.trans (up2_nj (by omega)) (Eq.trans (up2_nj (by omega)) (Eq.trans (up2_nj (by omega)) (Eq.trans (up2_nj (by omega)) (hf.2 j hj)))))⟩ ?_ ?_ ?_ ?_ ?_
    · exact ((congrArg Int32.toInt (Eq.trans (up2_nj (by decide)) (Eq.trans (up2_nj (by decide)) (Eq.trans (up2_nj (by decide)) (Eq.trans (up2_nj (by decide)) h30))))).trans ki_0)
    · exact ((congrArg Int32.toInt (Eq.trans (up2_nj (by decide)) (Eq.trans (up2_nj (by decide)) (Eq.trans (up2_nj (by decide)) (Eq.trans (up2_nj (by decide)) h31))))).trans ki_0)
    · exact ((congrArg Int32.toInt (Eq.trans (up2_nj (by decide)) (Eq.trans (up2_nj (by decide)) (Eq.trans (up2_nj (by decide)) (Eq.trans (up2_nj (by decide)) h32))))).trans ki_0)
    · exact ((congrArg Int32.toInt (Eq.trans (up2_nj (by decide)) (Eq.trans (up2_nj (by decide)) up2_eq))).trans hik).trans (by unfold gMn; simp)
    · exact (Eq.trans (up2_nj (by decide)) (Eq.trans (up2_nj (by decide)) (Eq.trans (up2_nj (by decide)) up2_eq)))
  | succ n ih =>
    intro k clk sz fm fi2 i l5 l6 R hkn hR hf hik hck hszb hfmb hclk hsz hfm h34 h30 h31 h32 h5 h6 kk
    rcases Decidable.em (k = 0) with hk0 | hk0
    · skip
      cases calm
      · skip
        refine wi_iload_4 ct_157_50 ?_
        refine wi_ic ct_157_52 kc_30 ?_
        refine wi_icge_f ct_157_54 hik ki_30 (by omega) ?_
        refine wi_iload_3 ct_157_57 ?_
        refine wi_ifne_f ct_157_58 ki_0 (by decide) ?_
        refine wi_aload_0 ct_157_61 ?_
        refine wi_gf (x := 0) ct_157_62 (sT_31 hS) rfl rfl h34 ?_
        refine wi_ifne_f ct_157_65 ki_0 (by decide) ?_
        refine wi_aload_0 ct_157_68 ?_
        refine wi_gf (x := 0) ct_157_69 (sT_31 hS) rfl rfl ((hf.2 35 (Or.inr (by decide))).trans hcalm) ?_
        refine wi_ifeq_t ct_157_72 ki_0 (by decide) ?_
        refine wi_aload_0 ct_157_79 ?_
        refine wi_ic ct_157_80 kc_0 ?_
        refine wi_iload_1 ct_157_81 ?_
        refine wi_ic ct_157_82 kc_0 ?_
        refine wi_cv3 (ls' := [some _, some _, some _, some _, none, none, none]) ct_157_83 (Nat.le_of_ble_eq_true rfl) (by decide) (sT_31 hS) rfl (by decide) rfl rfl (Nat.le_of_ble_eq_true rfl) ?_
        refine c_sum (fi := fi2) (W0 := 0) (O0 := 0) hS (hq.fr (hf.2 10 (Or.inl (by decide))) (hf.1 40 (by decide) (by decide)) (hf.1 41 (by decide) (by decide)) (hf.1 42 (by decide) (by decide)) (hf.1 43 (by decide) (by decide)) (hf.1 44 (by decide) (by decide)) (hf.1 45 (by decide) (by decide))) ki_0 (by decide) ki_0 hb hb5 (clk) (sz) (fm) kd v hclk (by omega) hsz (by omega) hfm (by omega) ((congrArg Int32.toInt (congrFun (hf.1 32 (by decide) (by decide)) _)).trans hkd) ((congrArg Int32.toInt (congrFun (hf.1 33 (by decide) (by decide)) _)).trans hv) (fun z1 f2 hgf2 hz1 => wk_i ?_)
        have hbz1 := hlk 0 0 (clk) (sz) (fm) (by decide) (by decide)
        unfold mkLk at hbz1
        refine wi_iload_4 ct_157_86 ?_
        refine wi_ifne_f ct_157_88 hik (by omega) ?_
        refine wi_aload_0 ct_157_91 ?_
        refine wi_gf (x := fi 31 36) ct_157_92 (sT_31 hS) rfl rfl (Eq.trans (congrFun (hgf2 31 (by decide)) _) (hf.2 36 (Or.inr (by decide)))) ?_
        refine wi_goto ct_157_95 ?_
        refine wi_iadd ct_157_99 rfl ?_
        refine wi_istore_5 rfl ct_157_100 ?_
        refine wi_aload_0 ct_157_102 ?_
        refine wi_iload_1 ct_157_103 ?_
        refine wi_cv1 (ls' := [some _, some _]) ct_157_104 (Nat.le_of_ble_eq_true rfl) (by decide) (sT_31 hS) rfl (by decide) rfl rfl (Nat.le_of_ble_eq_true rfl) ?_
        refine c_mpace (fi := f2) hS hb hb5 hk6 ((congrArg Int32.toInt (congrFun (Eq.trans (hgf2 32 (by decide)) (hf.1 32 (by decide) (by decide))) _)).trans hkd) ((congrArg Int32.toInt (congrFun (hgf2 31 (by decide)) _)).trans hsz) (fun zpc hzpc => wk_i ?_)
        obtain ⟨pc, hpc⟩ : ∃ pc, paceV kd sz = pc := ⟨_, rfl⟩
        have hpb := paceV_bd kd sz
        rw [hpc] at hzpc hpb
        refine wi_istore_6 rfl ct_157_107 ?_
        refine wi_aload_0 ct_157_109 ?_
        refine wi_dup ct_157_110 rfl ?_
        refine wi_gf (x := fi2 31 27) ct_157_111 (sT_31 hS) rfl rfl (congrFun (hgf2 31 (by decide)) _) ?_
        refine wi_iload_6 ct_157_114 ?_
        refine wi_iadd ct_157_116 rfl ?_
        refine wi_pf ct_157_117 (sT_31 hS) rfl ?_
        refine wi_aload_0 ct_157_120 ?_
        refine wi_dup ct_157_121 rfl ?_
        refine wi_gf (x := fi2 31 28) ct_157_122 (sT_31 hS) rfl rfl (Eq.trans (up2_nj (by decide)) (congrFun (hgf2 31 (by decide)) _)) ?_
        refine wi_iload_6 ct_157_125 ?_
        refine wi_iload_5 ct_157_127 ?_
        refine wi_iadd ct_157_129 rfl ?_
        refine wi_isub ct_157_130 rfl ?_
        refine wi_pf ct_157_131 (sT_31 hS) rfl ?_
        refine wi_aload_0 ct_157_134 ?_
        refine wi_dup ct_157_135 rfl ?_
        refine wi_gf (x := fi2 31 29) ct_157_136 (sT_31 hS) rfl rfl (Eq.trans (up2_nj (by decide)) (Eq.trans (up2_nj (by decide)) (congrFun (hgf2 31 (by decide)) _))) ?_
        refine wi_ic ct_157_139 kc_1 ?_
        refine wi_iadd ct_157_140 rfl ?_
        refine wi_pf ct_157_141 (sT_31 hS) rfl ?_
        refine wi_iinc_4 rfl (z := (i + 1)) ct_157_144 (by rw [kc_1]) ?_
        refine wi_aload_0 ct_157_147 ?_
        refine wi_aload_0 ct_157_148 ?_
        refine wi_gf (x := (fi2 31 28 - (zpc + (z1 + fi 31 36)))) ct_157_149 (sT_31 hS) rfl rfl (Eq.trans (up2_nj (by decide)) up2_eq) ?_
        refine wi_aload_0 ct_157_152 ?_
        refine wi_gf (x := (fi2 31 27 + zpc)) ct_157_153 (sT_31 hS) rfl rfl (Eq.trans (up2_nj (by decide)) (Eq.trans (up2_nj (by decide)) up2_eq)) ?_
        refine wi_ic ct_157_156 kc_2 ?_
        refine wi_idiv ct_157_157 (by decide) rfl ?_
        refine wi_icge ct_157_158 (i_sub hfm (i_add hzpc (i_add hz1 hgust (by omega)) (by omega)) (by omega)) (i_div (i_add hsz hzpc (by omega)) ki_2 (by omega) (by omega)) (fun h3 => ?_) (fun h3 => ?_)
        · skip
          refine wi_ic ct_157_165 kc_0 ?_
          refine wi_pfz ct_157_166 (sT_31 hS) rfl (by decide) ?_
          refine wi_aload_0 ct_157_169 ?_
          refine wi_gf (x := 0) ct_157_170 (sT_31 hS) rfl rfl up2_eq ?_
          refine wi_ifne_f ct_157_173 ki_0 (by decide) ?_
          refine wi_aload_0 ct_157_176 ?_
          refine wi_iload_1 ct_157_177 ?_
          refine wi_iload_5 ct_157_178 ?_
          refine wi_cv2 (ls' := [some _, some _, some _]) ct_157_180 (Nat.le_of_ble_eq_true rfl) (by decide) (sT_31 hS) rfl (by decide) rfl rfl (Nat.le_of_ble_eq_true rfl) ?_
          refine c_mshut (fi := (up2 (up2 (up2 (up2 f2 31 27 ((fi2 31 27 + zpc))) 31 28 ((fi2 31 28 - (zpc + (z1 + fi 31 36))))) 31 29 ((fi2 31 29 + 1))) 31 34 (0))) (row := row) hS hb hb5 hk6 ((congrArg Int32.toInt (congrFun (Eq.trans (funext fun _ => up2_nq (by decide)) (Eq.trans (funext fun _ => up2_nq (by decide)) (Eq.trans (funext fun _ => up2_nq (by decide)) (Eq.trans (funext fun _ => up2_nq (by decide)) (Eq.trans (hgf2 32 (by decide)) (hf.1 32 (by decide) (by decide))))))) _)).trans hkd) ((congrArg Int32.toInt (congrFun (Eq.trans (funext fun _ => up2_nq (by decide)) (Eq.trans (funext fun _ => up2_nq (by decide)) (Eq.trans (funext fun _ => up2_nq (by decide)) (Eq.trans (funext fun _ => up2_nq (by decide)) (Eq.trans (hgf2 33 (by decide)) (hf.1 33 (by decide) (by decide))))))) _)).trans hv) ((congrArg Int32.toInt (congrFun (Eq.trans (funext fun _ => up2_nq (by decide)) (Eq.trans (funext fun _ => up2_nq (by decide)) (Eq.trans (funext fun _ => up2_nq (by decide)) (Eq.trans (funext fun _ => up2_nq (by decide)) (Eq.trans (hgf2 35 (by decide)) (hf.1 35 (by decide) (by decide))))))) _)).trans haim) ((congrArg Int32.toInt (Eq.trans (up2_nj (by decide)) (Eq.trans (up2_nj (by decide)) (Eq.trans (up2_nj (by decide)) up2_eq)))).trans (i_add hsz hzpc (by omega))) ((congrArg Int32.toInt (Eq.trans (up2_nj (by decide)) (Eq.trans (up2_nj (by decide)) up2_eq))).trans (i_sub hfm (i_add hzpc (i_add hz1 hgust (by omega)) (by omega)) (by omega))) (i_add hz1 hgust (by omega)) ((congrArg Int32.toInt (Eq.trans (up2_nj (by decide)) up2_eq)).trans (i_add hclk ki_1 (by omega))) (fun j hj => ((congrArg Int32.toInt (congrFun (Eq.trans (funext fun _ => up2_nq (by decide)) (Eq.trans (funext fun _ => up2_nq (by decide)) (Eq.trans (funext fun _ => up2_nq (by decide)) (Eq.trans (funext fun _ => up2_nq (by decide)) (Eq.trans (hgf2 37 (by decide)) (hf.1 37 (by decide) (by decide))))))) _)).trans (hrow j hj))) hv9 ha6 (by omega) (by omega) (by omega) (by omega) hr9 (fun hs => wk_i ?_) (fun hs => wk_i ?_)
          · skip
            refine wi_ifeq_f ct_157_183 ki_1 (by decide) ?_
            refine wi_ic ct_157_186 kc_1 ?_
            refine wi_goto ct_157_187 ?_
            refine wi_istore_3 rfl ct_157_191 ?_
            refine wi_goto ct_157_192 ?_
            refine wi_iload_4 ct_157_50 ?_
            refine wi_ic ct_157_52 kc_30 ?_
            refine wi_icge_f ct_157_54 (i_add hik ki_1 (by omega)) ki_30 (by omega) ?_
            refine wi_iload_3 ct_157_57 ?_
            refine wi_ifne_t ct_157_58 ki_1 (by decide) ?_
            refine wi_aload_0 ct_157_195 ?_
            refine wi_iload_3 ct_157_196 ?_
            refine wi_ifne_t ct_157_197 ki_1 (by decide) ?_
            refine wi_ic ct_157_204 kc_0 ?_
            refine wi_pfz ct_157_205 (sT_31 hS) rfl (by decide) ?_
            refine wi_aload_0 ct_157_208 ?_
            refine wi_iload_4 ct_157_209 ?_
            refine wi_pf ct_157_211 (sT_31 hS) rfl ?_
            refine wi_iload_3 ct_157_214 ?_
            refine wi_ifeq_f ct_157_215 ki_1 (by decide) ?_
            refine wi_aload_0 ct_157_218 ?_
            refine wi_iload_1 ct_157_219 ?_
            refine wi_cv1 (ls' := [some _, some _]) ct_157_220 (Nat.le_of_ble_eq_true rfl) (by decide) (sT_31 hS) rfl (by decide) rfl rfl (Nat.le_of_ble_eq_true rfl) ?_
            refine wi_aload_0 ct_155_0 ?_
            refine wi_aload_0 ct_155_1 ?_
            refine wi_gf (x := (fi2 31 27 + zpc)) ct_155_2 (sT_31 hS) rfl rfl (Eq.trans (up2_nj (by decide)) (Eq.trans (up2_nj (by decide)) (Eq.trans (up2_nj (by decide)) (Eq.trans (up2_nj (by decide)) (Eq.trans (up2_nj (by decide)) up2_eq))))) ?_
            refine wi_pf ct_155_5 (sT_31 hS) rfl ?_
            refine wi_aload_0 ct_155_8 ?_
            refine wi_ic ct_155_9 kc_10 ?_
            refine wi_aload_0 ct_155_11 ?_
            refine wi_gf (x := (fi2 31 28 - (zpc + (z1 + fi 31 36)))) ct_155_12 (sT_31 hS) rfl rfl (Eq.trans (up2_nj (by decide)) (Eq.trans (up2_nj (by decide)) (Eq.trans (up2_nj (by decide)) (Eq.trans (up2_nj (by decide)) (Eq.trans (up2_nj (by decide)) up2_eq))))) ?_
            refine wi_imul ct_155_15 rfl ?_
            refine wi_aload_0 ct_155_16 ?_
            refine wi_gf (x := (fi2 31 27 + zpc)) ct_155_17 (sT_31 hS) rfl rfl (Eq.trans (up2_nj (by decide)) (Eq.trans (up2_nj (by decide)) (Eq.trans (up2_nj (by decide)) (Eq.trans (up2_nj (by decide)) (Eq.trans (up2_nj (by decide)) (Eq.trans (up2_nj (by decide)) up2_eq)))))) ?_
            refine wi_ic ct_155_20 kc_1 ?_
            refine wi_iadd ct_155_21 rfl ?_
            refine wi_idiv ct_155_22 (i_nz (i_add (i_add hsz hzpc (by omega)) ki_1 (by omega)) (by omega)) rfl ?_
            have hd1 := i_div (i_mul ki_10 (i_sub hfm (i_add hzpc (i_add hz1 hgust (by omega)) (by omega)) (by omega)) (by omega)) (i_add (i_add hsz hzpc (by omega)) ki_1 (by omega)) (by omega) (by omega)
            have hd1b : 0 ≤ 10 * (fm - (pc + (lkV sq (FL B kd v (clk) (sz) (fm)) 0 0 + gust))) / (sz + pc + 1) := Int.ediv_nonneg (by omega) (by omega)
            have hd1c : 10 * (fm - (pc + (lkV sq (FL B kd v (clk) (sz) (fm)) 0 0 + gust))) / (sz + pc + 1) ≤ 10 * (fm - (pc + (lkV sq (FL B kd v (clk) (sz) (fm)) 0 0 + gust))) := Int.ediv_le_self _ (by omega)
            refine wi_aload_0 ct_155_23 ?_
            refine wi_ic ct_155_24 kc_1 ?_
            refine wi_iload_1 ct_155_25 ?_
            refine wi_ic ct_155_26 kc_1 ?_
            refine wi_cv3 (ls' := [some _, some _, some _, some _, none, none, none]) ct_155_27 (Nat.le_of_ble_eq_true rfl) (by decide) (sT_31 hS) rfl (by decide) rfl rfl (Nat.le_of_ble_eq_true rfl) ?_
            refine c_sum (fi := (up2 (up2 (up2 (up2 (up2 (up2 (up2 f2 31 27 ((fi2 31 27 + zpc))) 31 28 ((fi2 31 28 - (zpc + (z1 + fi 31 36))))) 31 29 ((fi2 31 29 + 1))) 31 34 (0)) 31 34 (0)) 31 33 ((i + 1))) 31 30 ((fi2 31 27 + zpc)))) (W0 := 1) (O0 := 1) hS (hq.fr (Eq.trans (up2_nj (by decide)) (Eq.trans (up2_nj (by decide)) (Eq.trans (up2_nj (by decide)) (Eq.trans (up2_nj (by decide)) (Eq.trans (up2_nj (by decide)) (Eq.trans (up2_nj (by decide)) (Eq.trans (up2_nj (by decide)) (Eq.trans (congrFun (hgf2 31 (by decide)) _) (hf.2 10 (Or.inl (by decide))))))))))) (Eq.trans (funext fun _ => up2_nq (by decide)) (Eq.trans (funext fun _ => up2_nq (by decide)) (Eq.trans (funext fun _ => up2_nq (by decide)) (Eq.trans (funext fun _ => up2_nq (by decide)) (Eq.trans (funext fun _ => up2_nq (by decide)) (Eq.trans (funext fun _ => up2_nq (by decide)) (Eq.trans (funext fun _ => up2_nq (by decide)) (Eq.trans (hgf2 40 (by decide)) (hf.1 40 (by decide) (by decide)))))))))) (Eq.trans (funext fun _ => up2_nq (by decide)) (Eq.trans (funext fun _ => up2_nq (by decide)) (Eq.trans (funext fun _ => up2_nq (by decide)) (Eq.trans (funext fun _ => up2_nq (by decide)) (Eq.trans (funext fun _ => up2_nq (by decide)) (Eq.trans (funext fun _ => up2_nq (by decide)) (Eq.trans (funext fun _ => up2_nq (by decide)) (Eq.trans (hgf2 41 (by decide)) (hf.1 41 (by decide) (by decide)))))))))) (Eq.trans (funext fun _ => up2_nq (by decide)) (Eq.trans (funext fun _ => up2_nq (by decide)) (Eq.trans (funext fun _ => up2_nq (by decide)) (Eq.trans (funext fun _ => up2_nq (by decide)) (Eq.trans (funext fun _ => up2_nq (by decide)) (Eq.trans (funext fun _ => up2_nq (by decide)) (Eq.trans (funext fun _ => up2_nq (by decide)) (Eq.trans (hgf2 42 (by decide)) (hf.1 42 (by decide) (by decide)))))))))) (Eq.trans (funext fun _ => up2_nq (by decide)) (Eq.trans (funext fun _ => up2_nq (by decide)) (Eq.trans (funext fun _ => up2_nq (by decide)) (Eq.trans (funext fun _ => up2_nq (by decide)) (Eq.trans (funext fun _ => up2_nq (by decide)) (Eq.trans (funext fun _ => up2_nq (by decide)) (Eq.trans (funext fun _ => up2_nq (by decide)) (Eq.trans (hgf2 43 (by decide)) (hf.1 43 (by decide) (by decide)))))))))) (Eq.trans (funext fun _ => up2_nq (by decide)) (Eq.trans (funext fun _ => up2_nq (by decide)) (Eq.trans (funext fun _ => up2_nq (by decide)) (Eq.trans (funext fun _ => up2_nq (by decide)) (Eq.trans (funext fun _ => up2_nq (by decide)) (Eq.trans (funext fun _ => up2_nq (by decide)) (Eq.trans (funext fun _ => up2_nq (by decide)) (Eq.trans (hgf2 44 (by decide)) (hf.1 44 (by decide) (by decide)))))))))) (Eq.trans (funext fun _ => up2_nq (by decide)) (Eq.trans (funext fun _ => up2_nq (by decide)) (Eq.trans (funext fun _ => up2_nq (by decide)) (Eq.trans (funext fun _ => up2_nq (by decide)) (Eq.trans (funext fun _ => up2_nq (by decide)) (Eq.trans (funext fun _ => up2_nq (by decide)) (Eq.trans (funext fun _ => up2_nq (by decide)) (Eq.trans (hgf2 45 (by decide)) (hf.1 45 (by decide) (by decide))))))))))) ki_1 (by decide) ki_1 hb hb5 (clk + 1) (sz + pc) (fm - (pc + (lkV sq (FL B kd v (clk) (sz) (fm)) 0 0 + gust))) kd v (((congrArg Int32.toInt (Eq.trans (up2_nj (by decide)) (Eq.trans (up2_nj (by decide)) (Eq.trans (up2_nj (by decide)) (Eq.trans (up2_nj (by decide)) up2_eq))))).trans (i_add hclk ki_1 (by omega))).trans (by omega)) (by omega) (((congrArg Int32.toInt (Eq.trans (up2_nj (by decide)) (Eq.trans (up2_nj (by decide)) (Eq.trans (up2_nj (by decide)) (Eq.trans (up2_nj (by decide)) (Eq.trans (up2_nj (by decide)) (Eq.trans (up2_nj (by decide)) up2_eq))))))).trans (i_add hsz hzpc (by omega))).trans (by omega)) (by omega) (((congrArg Int32.toInt (Eq.trans (up2_nj (by decide)) (Eq.trans (up2_nj (by decide)) (Eq.trans (up2_nj (by decide)) (Eq.trans (up2_nj (by decide)) (Eq.trans (up2_nj (by decide)) up2_eq)))))).trans (i_sub hfm (i_add hzpc (i_add hz1 hgust (by omega)) (by omega)) (by omega))).trans (by omega)) (by omega) ((congrArg Int32.toInt (congrFun (Eq.trans (funext fun _ => up2_nq (by decide)) (Eq.trans (funext fun _ => up2_nq (by decide)) (Eq.trans (funext fun _ => up2_nq (by decide)) (Eq.trans (funext fun _ => up2_nq (by decide)) (Eq.trans (funext fun _ => up2_nq (by decide)) (Eq.trans (funext fun _ => up2_nq (by decide)) (Eq.trans (funext fun _ => up2_nq (by decide)) (Eq.trans (hgf2 32 (by decide)) (hf.1 32 (by decide) (by decide)))))))))) _)).trans hkd) ((congrArg Int32.toInt (congrFun (Eq.trans (funext fun _ => up2_nq (by decide)) (Eq.trans (funext fun _ => up2_nq (by decide)) (Eq.trans (funext fun _ => up2_nq (by decide)) (Eq.trans (funext fun _ => up2_nq (by decide)) (Eq.trans (funext fun _ => up2_nq (by decide)) (Eq.trans (funext fun _ => up2_nq (by decide)) (Eq.trans (funext fun _ => up2_nq (by decide)) (Eq.trans (hgf2 33 (by decide)) (hf.1 33 (by decide) (by decide)))))))))) _)).trans hv) (fun z4 f5 hgf5 hz4 => wk_i ?_)
            have hbz4 := hlk 1 1 (clk + 1) (sz + pc) (fm - (pc + (lkV sq (FL B kd v (clk) (sz) (fm)) 0 0 + gust))) (by decide) (by decide)
            unfold mkLk at hbz4
            refine wi_ic ct_155_30 kc_1 ?_
            refine wi_iadd ct_155_31 rfl ?_
            refine wi_idiv ct_155_32 (i_nz (i_add hz4 ki_1 (by omega)) (by omega)) rfl ?_
            have hd2 := i_div hd1 (i_add hz4 ki_1 (by omega)) (by omega) (by omega)
            have hd3 : ((((10 * (fi2 31 28 - (zpc + (z1 + fi 31 36)))) / ((fi2 31 27 + zpc) + 1)) / (z4 + 1))).toInt = gLf (mkLk sq B kd v) ((true, clk + 1, sz + pc, fm - (pc + (lkV sq (FL B kd v (clk) (sz) (fm)) 0 0 + gust)), k + 1) : go_T) := hd2.trans (by unfold gLf mkLk; rw [if_pos rfl])
            have hlf := gLf_bd hlk (R := ((true, clk + 1, sz + pc, fm - (pc + (lkV sq (FL B kd v (clk) (sz) (fm)) 0 0 + gust)), k + 1) : go_T)) (fun _ => ⟨by dsimp only; omega, by dsimp only; omega⟩) (by dsimp only; omega)
            have hlf3 := hlf.2.2 rfl
            dsimp only at hlf3
            refine wi_pf ct_155_33 (sT_31 hS) rfl ?_
            refine wi_aload_0 ct_155_36 ?_
            refine wi_aload_0 ct_155_37 ?_
            refine wi_aload_0 ct_155_38 ?_
            refine wi_gf (x := (fi2 31 27 + zpc)) ct_155_39 (sT_31 hS) rfl rfl (Eq.trans (up2_nj (by decide)) (Eq.trans (congrFun (hgf5 31 (by decide)) _) (Eq.trans (up2_nj (by decide)) (Eq.trans (up2_nj (by decide)) (Eq.trans (up2_nj (by decide)) (Eq.trans (up2_nj (by decide)) (Eq.trans (up2_nj (by decide)) (Eq.trans (up2_nj (by decide)) up2_eq)))))))) ?_
            refine wi_i2l ct_155_42 rfl ?_
            refine wi_aload_0 ct_155_43 ?_
            refine wi_gf (x := (((10 * (fi2 31 28 - (zpc + (z1 + fi 31 36)))) / ((fi2 31 27 + zpc) + 1)) / (z4 + 1))) ct_155_44 (sT_31 hS) rfl rfl up2_eq ?_
            refine wi_i2l ct_155_47 rfl ?_
            refine wi_lmul ct_155_48 rfl ?_
            have hm1 := j_mul (j_of (i_add hsz hzpc (by omega))) (j_of hd3) (by omega)
            refine wi_aload_0 ct_155_49 ?_
            refine wi_ic ct_155_50 kc_2 ?_
            refine wi_iload_1 ct_155_51 ?_
            refine wi_ic ct_155_52 kc_1 ?_
            refine wi_cv3 (ls' := [some _, some _, some _, some _, none, none, none]) ct_155_53 (Nat.le_of_ble_eq_true rfl) (by decide) (sT_31 hS) rfl (by decide) rfl rfl (Nat.le_of_ble_eq_true rfl) ?_
            refine c_sum (fi := (up2 f5 31 31 ((((10 * (fi2 31 28 - (zpc + (z1 + fi 31 36)))) / ((fi2 31 27 + zpc) + 1)) / (z4 + 1))))) (W0 := 2) (O0 := 1) hS (hq.fr (Eq.trans (up2_nj (by decide)) (Eq.trans (congrFun (hgf5 31 (by decide)) _) (Eq.trans (up2_nj (by decide)) (Eq.trans (up2_nj (by decide)) (Eq.trans (up2_nj (by decide)) (Eq.trans (up2_nj (by decide)) (Eq.trans (up2_nj (by decide)) (Eq.trans (up2_nj (by decide)) (Eq.trans (up2_nj (by decide)) (Eq.trans (congrFun (hgf2 31 (by decide)) _) (hf.2 10 (Or.inl (by decide))))))))))))) (Eq.trans (funext fun _ => up2_nq (by decide)) (Eq.trans (hgf5 40 (by decide)) (Eq.trans (funext fun _ => up2_nq (by decide)) (Eq.trans (funext fun _ => up2_nq (by decide)) (Eq.trans (funext fun _ => up2_nq (by decide)) (Eq.trans (funext fun _ => up2_nq (by decide)) (Eq.trans (funext fun _ => up2_nq (by decide)) (Eq.trans (funext fun _ => up2_nq (by decide)) (Eq.trans (funext fun _ => up2_nq (by decide)) (Eq.trans (hgf2 40 (by decide)) (hf.1 40 (by decide) (by decide)))))))))))) (Eq.trans (funext fun _ => up2_nq (by decide)) (Eq.trans (hgf5 41 (by decide)) (Eq.trans (funext fun _ => up2_nq (by decide)) (Eq.trans (funext fun _ => up2_nq (by decide)) (Eq.trans (funext fun _ => up2_nq (by decide)) (Eq.trans (funext fun _ => up2_nq (by decide)) (Eq.trans (funext fun _ => up2_nq (by decide)) (Eq.trans (funext fun _ => up2_nq (by decide)) (Eq.trans (funext fun _ => up2_nq (by decide)) (Eq.trans (hgf2 41 (by decide)) (hf.1 41 (by decide) (by decide)))))))))))) (Eq.trans (funext fun _ => up2_nq (by decide)) (Eq.trans (hgf5 42 (by decide)) (Eq.trans (funext fun _ => up2_nq (by decide)) (Eq.trans (funext fun _ => up2_nq (by decide)) (Eq.trans (funext fun _ => up2_nq (by decide)) (Eq.trans (funext fun _ => up2_nq (by decide)) (Eq.trans (funext fun _ => up2_nq (by decide)) (Eq.trans (funext fun _ => up2_nq (by decide)) (Eq.trans (funext fun _ => up2_nq (by decide)) (Eq.trans (hgf2 42 (by decide)) (hf.1 42 (by decide) (by decide)))))))))))) (Eq.trans (funext fun _ => up2_nq (by decide)) (Eq.trans (hgf5 43 (by decide)) (Eq.trans (funext fun _ => up2_nq (by decide)) (Eq.trans (funext fun _ => up2_nq (by decide)) (Eq.trans (funext fun _ => up2_nq (by decide)) (Eq.trans (funext fun _ => up2_nq (by decide)) (Eq.trans (funext fun _ => up2_nq (by decide)) (Eq.trans (funext fun _ => up2_nq (by decide)) (Eq.trans (funext fun _ => up2_nq (by decide)) (Eq.trans (hgf2 43 (by decide)) (hf.1 43 (by decide) (by decide)))))))))))) (Eq.trans (funext fun _ => up2_nq (by decide)) (Eq.trans (hgf5 44 (by decide)) (Eq.trans (funext fun _ => up2_nq (by decide)) (Eq.trans (funext fun _ => up2_nq (by decide)) (Eq.trans (funext fun _ => up2_nq (by decide)) (Eq.trans (funext fun _ => up2_nq (by decide)) (Eq.trans (funext fun _ => up2_nq (by decide)) (Eq.trans (funext fun _ => up2_nq (by decide)) (Eq.trans (funext fun _ => up2_nq (by decide)) (Eq.trans (hgf2 44 (by decide)) (hf.1 44 (by decide) (by decide)))))))))))) (Eq.trans (funext fun _ => up2_nq (by decide)) (Eq.trans (hgf5 45 (by decide)) (Eq.trans (funext fun _ => up2_nq (by decide)) (Eq.trans (funext fun _ => up2_nq (by decide)) (Eq.trans (funext fun _ => up2_nq (by decide)) (Eq.trans (funext fun _ => up2_nq (by decide)) (Eq.trans (funext fun _ => up2_nq (by decide)) (Eq.trans (funext fun _ => up2_nq (by decide)) (Eq.trans (funext fun _ => up2_nq (by decide)) (Eq.trans (hgf2 45 (by decide)) (hf.1 45 (by decide) (by decide))))))))))))) ki_2 (by decide) ki_1 hb hb5 (clk + 1) (sz + pc) (fm - (pc + (lkV sq (FL B kd v (clk) (sz) (fm)) 0 0 + gust))) kd v (((congrArg Int32.toInt (Eq.trans (up2_nj (by decide)) (Eq.trans (congrFun (hgf5 31 (by decide)) _) (Eq.trans (up2_nj (by decide)) (Eq.trans (up2_nj (by decide)) (Eq.trans (up2_nj (by decide)) (Eq.trans (up2_nj (by decide)) up2_eq))))))).trans (i_add hclk ki_1 (by omega))).trans (by omega)) (by omega) (((congrArg Int32.toInt (Eq.trans (up2_nj (by decide)) (Eq.trans (congrFun (hgf5 31 (by decide)) _) (Eq.trans (up2_nj (by decide)) (Eq.trans (up2_nj (by decide)) (Eq.trans (up2_nj (by decide)) (Eq.trans (up2_nj (by decide)) (Eq.trans (up2_nj (by decide)) (Eq.trans (up2_nj (by decide)) up2_eq))))))))).trans (i_add hsz hzpc (by omega))).trans (by omega)) (by omega) (((congrArg Int32.toInt (Eq.trans (up2_nj (by decide)) (Eq.trans (congrFun (hgf5 31 (by decide)) _) (Eq.trans (up2_nj (by decide)) (Eq.trans (up2_nj (by decide)) (Eq.trans (up2_nj (by decide)) (Eq.trans (up2_nj (by decide)) (Eq.trans (up2_nj (by decide)) up2_eq)))))))).trans (i_sub hfm (i_add hzpc (i_add hz1 hgust (by omega)) (by omega)) (by omega))).trans (by omega)) (by omega) ((congrArg Int32.toInt (congrFun (Eq.trans (funext fun _ => up2_nq (by decide)) (Eq.trans (hgf5 32 (by decide)) (Eq.trans (funext fun _ => up2_nq (by decide)) (Eq.trans (funext fun _ => up2_nq (by decide)) (Eq.trans (funext fun _ => up2_nq (by decide)) (Eq.trans (funext fun _ => up2_nq (by decide)) (Eq.trans (funext fun _ => up2_nq (by decide)) (Eq.trans (funext fun _ => up2_nq (by decide)) (Eq.trans (funext fun _ => up2_nq (by decide)) (Eq.trans (hgf2 32 (by decide)) (hf.1 32 (by decide) (by decide)))))))))))) _)).trans hkd) ((congrArg Int32.toInt (congrFun (Eq.trans (funext fun _ => up2_nq (by decide)) (Eq.trans (hgf5 33 (by decide)) (Eq.trans (funext fun _ => up2_nq (by decide)) (Eq.trans (funext fun _ => up2_nq (by decide)) (Eq.trans (funext fun _ => up2_nq (by decide)) (Eq.trans (funext fun _ => up2_nq (by decide)) (Eq.trans (funext fun _ => up2_nq (by decide)) (Eq.trans (funext fun _ => up2_nq (by decide)) (Eq.trans (funext fun _ => up2_nq (by decide)) (Eq.trans (hgf2 33 (by decide)) (hf.1 33 (by decide) (by decide)))))))))))) _)).trans hv) (fun z6 f7 hgf7 hz6 => wk_i ?_)
            have hbz6 := hlk 2 1 (clk + 1) (sz + pc) (fm - (pc + (lkV sq (FL B kd v (clk) (sz) (fm)) 0 0 + gust))) (by decide) (by decide)
            unfold mkLk at hbz6
            refine wi_i2l ct_155_56 rfl ?_
            refine wi_lmul ct_155_57 rfl ?_
            have hm0 := Int.mul_nonneg hlf3.2 hbz6.1
            have hmx := Int.mul_le_mul hlf3.1 hbz6.2 hbz6.1 (by decide)
            have hm2 := j_mul hm1 (j_of hz6) (by omega)
            refine wi_cv1 (ls' := [some _, some _, none]) ct_155_58 (Nat.le_of_ble_eq_true rfl) (by decide) (sT_31 hS) rfl (by decide) rfl rfl (Nat.le_of_ble_eq_true rfl) ?_
            refine wi_lload_1 ct_156_0 ?_
            refine wi_lc ct_156_1 kl_99999 ?_
            refine wi_lcmp ct_156_4 rfl ?_
            refine wi_ifge ct_156_5 rfl (fun hcm => ?_) (fun hcm => ?_)
            · skip
              replace hcm := lcmp_ge hm2 (show (99999 : Int64).toInt = 99999 from rfl) hcm
              refine wi_lc ct_156_12 kl_99999 ?_
              refine wi_lret ct_156_15 (wk_j ?_)
              refine wi_l2i ct_155_61 rfl ?_
              have hbr : ((Int64.toInt32 99999)).toInt = gBr (mkLk sq B kd v) ((true, clk + 1, sz + pc, fm - (pc + (lkV sq (FL B kd v (clk) (sz) (fm)) 0 0 + gust)), k + 1) : go_T) := by unfold gBr; rw [if_pos rfl]; exact (show (99999 : Int64).toInt32.toInt = 99999 from rfl).trans (Int.min_eq_right hcm).symm
              refine wi_pf ct_155_62 (sT_31 hS) rfl ?_
              refine wi_ret ct_155_65 (wk_v ?_)
              refine wi_aload_0 ct_157_223 ?_
              refine wi_ic ct_157_224 kc_0 ?_
              refine wi_pf ct_157_225 (sT_31 hS) rfl ?_
              refine wi_aload_0 ct_157_228 ?_
              refine wi_ic ct_157_229 kc_0 ?_
              refine wi_pf ct_157_230 (sT_31 hS) rfl ?_
              refine wi_ret ct_157_233 ?_
              rw [goL_2 hpc (show windV (mkLk sq B kd v) gust false k clk sz fm = lkV sq (FL B kd v (clk) (sz) (fm)) 0 0 + gust from by unfold windV mkLk; rw [if_pos hk0]; rfl) (by omega) hs] at hR
              subst hR
              refine kk _ ⟨fun q h1 h2 => (Eq.trans (funext fun _ => up2_nq h2) (Eq.trans (funext fun _ => up2_nq h2) (Eq.trans (funext fun _ => up2_nq h2) (Eq.trans (hgf7 q h1) (Eq.trans (funext fun _ => up2_nq h2) (Eq.trans (hgf5 q h1) (Eq.trans (funext fun _ => up2_nq h2) (Eq.trans (funext fun _ => up2_nq h2) (Eq.trans (funext fun _ => up2_nq h2) (Eq.trans (funext fun _ => up2_nq h2) (Eq.trans (funext fun _ => up2_nq h2) (Eq.trans (funext fun _ => up2_nq h2) (Eq.trans (funext fun _ => up2_nq h2) (Eq.trans (hgf2 q h1) (hf.1 q h1 h2))))))))))))))), fun j hj => (Eq.trans (up2_nj (by omega)) (Eq.trans (up2_nj (by omega)) (Eq.trans (up2_nj (by omega)) (Eq.trans (congrFun (hgf7 31 (by decide)) _) (Eq.trans (up2_nj (by omega)) (Eq.trans (congrFun (hgf5 31 (by decide)) _) (Eq.trans (up2_nj (by omega)) (Eq.trans (up2_nj (by omega)) (Eq.trans (up2_nj (by omega)) (Eq.trans (up2_nj (by omega)) (Eq.trans (up2_nj (by omega)) (Eq.trans (up2_nj (by omega)) (Eq.trans (up2_nj (by omega)) (Eq.trans (congrFun (hgf2 31 (by decide)) _) (hf.2 j hj)))))))))))))))⟩ ?_ ?_ ?_ ?_ ?_
              · exact ((congrArg Int32.toInt (Eq.trans (up2_nj (by decide)) (Eq.trans (up2_nj (by decide)) (Eq.trans (up2_nj (by decide)) (Eq.trans (congrFun (hgf7 31 (by decide)) _) (Eq.trans (up2_nj (by decide)) (Eq.trans (congrFun (hgf5 31 (by decide)) _) up2_eq))))))).trans (i_add hsz hzpc (by omega))).trans (by unfold gSz; rw [if_pos rfl])
              · exact ((congrArg Int32.toInt (Eq.trans (up2_nj (by decide)) (Eq.trans (up2_nj (by decide)) (Eq.trans (up2_nj (by decide)) (Eq.trans (congrFun (hgf7 31 (by decide)) _) up2_eq))))).trans hd3)
              · exact ((congrArg Int32.toInt (Eq.trans (up2_nj (by decide)) (Eq.trans (up2_nj (by decide)) up2_eq))).trans hbr)
              · exact ((congrArg Int32.toInt (Eq.trans (up2_nj (by decide)) (Eq.trans (up2_nj (by decide)) (Eq.trans (up2_nj (by decide)) (Eq.trans (congrFun (hgf7 31 (by decide)) _) (Eq.trans (up2_nj (by decide)) (Eq.trans (congrFun (hgf5 31 (by decide)) _) (Eq.trans (up2_nj (by decide)) up2_eq)))))))).trans (i_add hik ki_1 (by omega))).trans (by unfold gMn; dsimp only; omega)
              · exact (Eq.trans (up2_nj (by decide)) (Eq.trans (up2_nj (by decide)) (Eq.trans (up2_nj (by decide)) (Eq.trans (congrFun (hgf7 31 (by decide)) _) (Eq.trans (up2_nj (by decide)) (Eq.trans (congrFun (hgf5 31 (by decide)) _) (Eq.trans (up2_nj (by decide)) (Eq.trans (up2_nj (by decide)) up2_eq))))))))
            · skip
              replace hcm := lcmp_lt hm2 (show (99999 : Int64).toInt = 99999 from rfl) hcm
              refine wi_lload_1 ct_156_8 ?_
              refine wi_goto ct_156_9 ?_
              refine wi_lret ct_156_15 (wk_j ?_)
              refine wi_l2i ct_155_61 rfl ?_
              have hbr : ((Int64.toInt32 (((Int32.toInt64 (fi2 31 27 + zpc)) * (Int32.toInt64 (((10 * (fi2 31 28 - (zpc + (z1 + fi 31 36)))) / ((fi2 31 27 + zpc) + 1)) / (z4 + 1)))) * (Int32.toInt64 z6)))).toInt = gBr (mkLk sq B kd v) ((true, clk + 1, sz + pc, fm - (pc + (lkV sq (FL B kd v (clk) (sz) (fm)) 0 0 + gust)), k + 1) : go_T) := (j_l2i hm2 (by omega)).trans (by unfold gBr; rw [if_pos rfl]; exact (Int.min_eq_left (Int.le_of_lt hcm)).symm)
              refine wi_pf ct_155_62 (sT_31 hS) rfl ?_
              refine wi_ret ct_155_65 (wk_v ?_)
              refine wi_aload_0 ct_157_223 ?_
              refine wi_ic ct_157_224 kc_0 ?_
              refine wi_pf ct_157_225 (sT_31 hS) rfl ?_
              refine wi_aload_0 ct_157_228 ?_
              refine wi_ic ct_157_229 kc_0 ?_
              refine wi_pf ct_157_230 (sT_31 hS) rfl ?_
              refine wi_ret ct_157_233 ?_
              rw [goL_2 hpc (show windV (mkLk sq B kd v) gust false k clk sz fm = lkV sq (FL B kd v (clk) (sz) (fm)) 0 0 + gust from by unfold windV mkLk; rw [if_pos hk0]; rfl) (by omega) hs] at hR
              subst hR
              refine kk _ ⟨fun q h1 h2 => (Eq.trans (funext fun _ => up2_nq h2) (Eq.trans (funext fun _ => up2_nq h2) (Eq.trans (funext fun _ => up2_nq h2) (Eq.trans (hgf7 q h1) (Eq.trans (funext fun _ => up2_nq h2) (Eq.trans (hgf5 q h1) (Eq.trans (funext fun _ => up2_nq h2) (Eq.trans (funext fun _ => up2_nq h2) (Eq.trans (funext fun _ => up2_nq h2) (Eq.trans (funext fun _ => up2_nq h2) (Eq.trans (funext fun _ => up2_nq h2) (Eq.trans (funext fun _ => up2_nq h2) (Eq.trans (funext fun _ => up2_nq h2) (Eq.trans (hgf2 q h1) (hf.1 q h1 h2))))))))))))))), fun j hj => (Eq.trans (up2_nj (by omega)) (Eq.trans (up2_nj (by omega)) (Eq.trans (up2_nj (by omega)) (Eq.trans (congrFun (hgf7 31 (by decide)) _) (Eq.trans (up2_nj (by omega)) (Eq.trans (congrFun (hgf5 31 (by decide)) _) (Eq.trans (up2_nj (by omega)) (Eq.trans (up2_nj (by omega)) (Eq.trans (up2_nj (by omega)) (Eq.trans (up2_nj (by omega)) (Eq.trans (up2_nj (by omega)) (Eq.trans (up2_nj (by omega)) (Eq.trans (up2_nj (by omega)) (Eq.trans (congrFun (hgf2 31 (by decide)) _) (hf.2 j hj)))))))))))))))⟩ ?_ ?_ ?_ ?_ ?_
              · exact ((congrArg Int32.toInt (Eq.trans (up2_nj (by decide)) (Eq.trans (up2_nj (by decide)) (Eq.trans (up2_nj (by decide)) (Eq.trans (congrFun (hgf7 31 (by decide)) _) (Eq.trans (up2_nj (by decide)) (Eq.trans (congrFun (hgf5 31 (by decide)) _) up2_eq))))))).trans (i_add hsz hzpc (by omega))).trans (by unfold gSz; rw [if_pos rfl])
              · exact ((congrArg Int32.toInt (Eq.trans (up2_nj (by decide)) (Eq.trans (up2_nj (by decide)) (Eq.trans (up2_nj (by decide)) (Eq.trans (congrFun (hgf7 31 (by decide)) _) up2_eq))))).trans hd3)
              · exact ((congrArg Int32.toInt (Eq.trans (up2_nj (by decide)) (Eq.trans (up2_nj (by decide)) up2_eq))).trans hbr)
              · exact ((congrArg Int32.toInt (Eq.trans (up2_nj (by decide)) (Eq.trans (up2_nj (by decide)) (Eq.trans (up2_nj (by decide)) (Eq.trans (congrFun (hgf7 31 (by decide)) _) (Eq.trans (up2_nj (by decide)) (Eq.trans (congrFun (hgf5 31 (by decide)) _) (Eq.trans (up2_nj (by decide)) up2_eq)))))))).trans (i_add hik ki_1 (by omega))).trans (by unfold gMn; dsimp only; omega)
              · exact (Eq.trans (up2_nj (by decide)) (Eq.trans (up2_nj (by decide)) (Eq.trans (up2_nj (by decide)) (Eq.trans (congrFun (hgf7 31 (by decide)) _) (Eq.trans (up2_nj (by decide)) (Eq.trans (congrFun (hgf5 31 (by decide)) _) (Eq.trans (up2_nj (by decide)) (Eq.trans (up2_nj (by decide)) up2_eq))))))))
          · skip
            refine wi_ifeq_t ct_157_183 ki_0 (by decide) ?_
            refine wi_ic ct_157_190 kc_0 ?_
            refine wi_istore_3 rfl ct_157_191 ?_
            refine wi_goto ct_157_192 ?_
            rw [goL_3 hpc (show windV (mkLk sq B kd v) gust false k clk sz fm = lkV sq (FL B kd v (clk) (sz) (fm)) 0 0 + gust from by unfold windV mkLk; rw [if_pos hk0]; rfl) (by omega) hs] at hR
            exact ih (k + 1) _ _ _ _ _ _ _ R (by omega) hR ⟨fun q h1 h2 => (Eq.trans (funext fun _ => up2_nq h2) (Eq.trans (funext fun _ => up2_nq h2) (Eq.trans (funext fun _ => up2_nq h2) (Eq.trans (funext fun _ => up2_nq h2) (Eq.trans (hgf2 q h1) (hf.1 q h1 h2)))))), fun j hj => (Eq.trans (up2_nj (by omega)) (Eq.trans (up2_nj (by omega)) (Eq.trans (up2_nj (by omega)) (Eq.trans (up2_nj (by omega)) (Eq.trans (congrFun (hgf2 31 (by decide)) _) (hf.2 j hj))))))⟩ (((i_add hik ki_1 (by omega))).trans (by omega)) (by omega) (by omega) (by omega) (((congrArg Int32.toInt (Eq.trans (up2_nj (by decide)) up2_eq)).trans (i_add hclk ki_1 (by omega))).trans (by omega)) (((congrArg Int32.toInt (Eq.trans (up2_nj (by decide)) (Eq.trans (up2_nj (by decide)) (Eq.trans (up2_nj (by decide)) up2_eq)))).trans (i_add hsz hzpc (by omega))).trans (by omega)) (((congrArg Int32.toInt (Eq.trans (up2_nj (by decide)) (Eq.trans (up2_nj (by decide)) up2_eq))).trans (i_sub hfm (i_add hzpc (i_add hz1 hgust (by omega)) (by omega)) (by omega))).trans (by omega)) up2_eq (Eq.trans (up2_nj (by decide)) (Eq.trans (up2_nj (by decide)) (Eq.trans (up2_nj (by decide)) (Eq.trans (up2_nj (by decide)) (Eq.trans (congrFun (hgf2 31 (by decide)) _) h30))))) (Eq.trans (up2_nj (by decide)) (Eq.trans (up2_nj (by decide)) (Eq.trans (up2_nj (by decide)) (Eq.trans (up2_nj (by decide)) (Eq.trans (congrFun (hgf2 31 (by decide)) _) h31))))) (Eq.trans (up2_nj (by decide)) (Eq.trans (up2_nj (by decide)) (Eq.trans (up2_nj (by decide)) (Eq.trans (up2_nj (by decide)) (Eq.trans (congrFun (hgf2 31 (by decide)) _) h32))))) rfl rfl kk
        · skip
          refine wi_ic ct_157_161 kc_1 ?_
          refine wi_goto ct_157_162 ?_
          refine wi_pfz ct_157_166 (sT_31 hS) rfl (by decide) ?_
          refine wi_aload_0 ct_157_169 ?_
          refine wi_gf (x := 1) ct_157_170 (sT_31 hS) rfl rfl up2_eq ?_
          refine wi_ifne_t ct_157_173 ki_1 (by decide) ?_
          refine wi_ic ct_157_190 kc_0 ?_
          refine wi_istore_3 rfl ct_157_191 ?_
          refine wi_goto ct_157_192 ?_
          refine wi_iload_4 ct_157_50 ?_
          refine wi_ic ct_157_52 kc_30 ?_
          refine wi_icge_f ct_157_54 (i_add hik ki_1 (by omega)) ki_30 (by omega) ?_
          refine wi_iload_3 ct_157_57 ?_
          refine wi_ifne_f ct_157_58 ki_0 (by decide) ?_
          refine wi_aload_0 ct_157_61 ?_
          refine wi_gf (x := 1) ct_157_62 (sT_31 hS) rfl rfl up2_eq ?_
          refine wi_ifne_t ct_157_65 ki_1 (by decide) ?_
          refine wi_aload_0 ct_157_195 ?_
          refine wi_iload_3 ct_157_196 ?_
          refine wi_ifne_f ct_157_197 ki_0 (by decide) ?_
          refine wi_ic ct_157_200 kc_1 ?_
          refine wi_goto ct_157_201 ?_
          refine wi_pfz ct_157_205 (sT_31 hS) rfl (by decide) ?_
          refine wi_aload_0 ct_157_208 ?_
          refine wi_iload_4 ct_157_209 ?_
          refine wi_pf ct_157_211 (sT_31 hS) rfl ?_
          refine wi_iload_3 ct_157_214 ?_
          refine wi_ifeq_t ct_157_215 ki_0 (by decide) ?_
          refine wi_aload_0 ct_157_223 ?_
          refine wi_ic ct_157_224 kc_0 ?_
          refine wi_pf ct_157_225 (sT_31 hS) rfl ?_
          refine wi_aload_0 ct_157_228 ?_
          refine wi_ic ct_157_229 kc_0 ?_
          refine wi_pf ct_157_230 (sT_31 hS) rfl ?_
          refine wi_ret ct_157_233 ?_
          rw [goL_1 hpc (show windV (mkLk sq B kd v) gust false k clk sz fm = lkV sq (FL B kd v (clk) (sz) (fm)) 0 0 + gust from by unfold windV mkLk; rw [if_pos hk0]; rfl) (by omega)] at hR
          subst hR
          refine kk _ ⟨fun q h1 h2 => (Eq.trans (funext fun _ => up2_nq h2) (Eq.trans (funext fun _ => up2_nq h2) (Eq.trans (funext fun _ => up2_nq h2) (Eq.trans (funext fun _ => up2_nq h2) (Eq.trans (funext fun _ => up2_nq h2) (Eq.trans (funext fun _ => up2_nq h2) (Eq.trans (funext fun _ => up2_nq h2) (Eq.trans (funext fun _ => up2_nq h2) (Eq.trans (hgf2 q h1) (hf.1 q h1 h2)))))))))), fun j hj => (Eq.trans (up2_nj (by omega)) (Eq.trans (up2_nj (by omega)) (Eq.trans (up2_nj (by omega)) (Eq.trans (up2_nj (by omega)) (Eq.trans (up2_nj (by omega)) (Eq.trans (up2_nj (by omega)) (Eq.trans (up2_nj (by omega)) (Eq.trans (up2_nj (by omega)) (Eq.trans (congrFun (hgf2 31 (by decide)) _) (hf.2 j hj))))))))))⟩ ?_ ?_ ?_ ?_ ?_
          · exact ((congrArg Int32.toInt (Eq.trans (up2_nj (by decide)) (Eq.trans (up2_nj (by decide)) (Eq.trans (up2_nj (by decide)) (Eq.trans (up2_nj (by decide)) (Eq.trans (up2_nj (by decide)) (Eq.trans (up2_nj (by decide)) (Eq.trans (up2_nj (by decide)) (Eq.trans (up2_nj (by decide)) (Eq.trans (congrFun (hgf2 31 (by decide)) _) h30)))))))))).trans ki_0)
          · exact ((congrArg Int32.toInt (Eq.trans (up2_nj (by decide)) (Eq.trans (up2_nj (by decide)) (Eq.trans (up2_nj (by decide)) (Eq.trans (up2_nj (by decide)) (Eq.trans (up2_nj (by decide)) (Eq.trans (up2_nj (by decide)) (Eq.trans (up2_nj (by decide)) (Eq.trans (up2_nj (by decide)) (Eq.trans (congrFun (hgf2 31 (by decide)) _) h31)))))))))).trans ki_0)
          · exact ((congrArg Int32.toInt (Eq.trans (up2_nj (by decide)) (Eq.trans (up2_nj (by decide)) (Eq.trans (up2_nj (by decide)) (Eq.trans (up2_nj (by decide)) (Eq.trans (up2_nj (by decide)) (Eq.trans (up2_nj (by decide)) (Eq.trans (up2_nj (by decide)) (Eq.trans (up2_nj (by decide)) (Eq.trans (congrFun (hgf2 31 (by decide)) _) h32)))))))))).trans ki_0)
          · exact ((congrArg Int32.toInt (Eq.trans (up2_nj (by decide)) (Eq.trans (up2_nj (by decide)) up2_eq))).trans (i_add hik ki_1 (by omega))).trans (by unfold gMn; dsimp only; omega)
          · exact (Eq.trans (up2_nj (by decide)) (Eq.trans (up2_nj (by decide)) (Eq.trans (up2_nj (by decide)) up2_eq)))
      · skip
        refine wi_iload_4 ct_157_50 ?_
        refine wi_ic ct_157_52 kc_30 ?_
        refine wi_icge_f ct_157_54 hik ki_30 (by omega) ?_
        refine wi_iload_3 ct_157_57 ?_
        refine wi_ifne_f ct_157_58 ki_0 (by decide) ?_
        refine wi_aload_0 ct_157_61 ?_
        refine wi_gf (x := 0) ct_157_62 (sT_31 hS) rfl rfl h34 ?_
        refine wi_ifne_f ct_157_65 ki_0 (by decide) ?_
        refine wi_aload_0 ct_157_68 ?_
        refine wi_gf (x := 1) ct_157_69 (sT_31 hS) rfl rfl ((hf.2 35 (Or.inr (by decide))).trans hcalm) ?_
        refine wi_ifeq_f ct_157_72 ki_1 (by decide) ?_
        refine wi_ic ct_157_75 kc_0 ?_
        refine wi_goto ct_157_76 ?_
        refine wi_istore_5 rfl ct_157_100 ?_
        refine wi_aload_0 ct_157_102 ?_
        refine wi_iload_1 ct_157_103 ?_
        refine wi_cv1 (ls' := [some _, some _]) ct_157_104 (Nat.le_of_ble_eq_true rfl) (by decide) (sT_31 hS) rfl (by decide) rfl rfl (Nat.le_of_ble_eq_true rfl) ?_
        refine c_mpace (fi := fi2) hS hb hb5 hk6 ((congrArg Int32.toInt (congrFun (hf.1 32 (by decide) (by decide)) _)).trans hkd) hsz (fun zpc hzpc => wk_i ?_)
        obtain ⟨pc, hpc⟩ : ∃ pc, paceV kd sz = pc := ⟨_, rfl⟩
        have hpb := paceV_bd kd sz
        rw [hpc] at hzpc hpb
        refine wi_istore_6 rfl ct_157_107 ?_
        refine wi_aload_0 ct_157_109 ?_
        refine wi_dup ct_157_110 rfl ?_
        refine wi_gf (x := fi2 31 27) ct_157_111 (sT_31 hS) rfl rfl rfl ?_
        refine wi_iload_6 ct_157_114 ?_
        refine wi_iadd ct_157_116 rfl ?_
        refine wi_pf ct_157_117 (sT_31 hS) rfl ?_
        refine wi_aload_0 ct_157_120 ?_
        refine wi_dup ct_157_121 rfl ?_
        refine wi_gf (x := fi2 31 28) ct_157_122 (sT_31 hS) rfl rfl (up2_nj (by decide)) ?_
        refine wi_iload_6 ct_157_125 ?_
        refine wi_iload_5 ct_157_127 ?_
        refine wi_iadd ct_157_129 rfl ?_
        refine wi_isub ct_157_130 rfl ?_
        refine wi_pf ct_157_131 (sT_31 hS) rfl ?_
        refine wi_aload_0 ct_157_134 ?_
        refine wi_dup ct_157_135 rfl ?_
        refine wi_gf (x := fi2 31 29) ct_157_136 (sT_31 hS) rfl rfl (Eq.trans (up2_nj (by decide)) (up2_nj (by decide))) ?_
        refine wi_ic ct_157_139 kc_1 ?_
        refine wi_iadd ct_157_140 rfl ?_
        refine wi_pf ct_157_141 (sT_31 hS) rfl ?_
        refine wi_iinc_4 rfl (z := (i + 1)) ct_157_144 (by rw [kc_1]) ?_
        refine wi_aload_0 ct_157_147 ?_
        refine wi_aload_0 ct_157_148 ?_
        refine wi_gf (x := (fi2 31 28 - (zpc + 0))) ct_157_149 (sT_31 hS) rfl rfl (Eq.trans (up2_nj (by decide)) up2_eq) ?_
        refine wi_aload_0 ct_157_152 ?_
        refine wi_gf (x := (fi2 31 27 + zpc)) ct_157_153 (sT_31 hS) rfl rfl (Eq.trans (up2_nj (by decide)) (Eq.trans (up2_nj (by decide)) up2_eq)) ?_
        refine wi_ic ct_157_156 kc_2 ?_
        refine wi_idiv ct_157_157 (by decide) rfl ?_
        refine wi_icge ct_157_158 (i_sub hfm (i_add hzpc ki_0 (by omega)) (by omega)) (i_div (i_add hsz hzpc (by omega)) ki_2 (by omega) (by omega)) (fun h8 => ?_) (fun h8 => ?_)
        · skip
          refine wi_ic ct_157_165 kc_0 ?_
          refine wi_pfz ct_157_166 (sT_31 hS) rfl (by decide) ?_
          refine wi_aload_0 ct_157_169 ?_
          refine wi_gf (x := 0) ct_157_170 (sT_31 hS) rfl rfl up2_eq ?_
          refine wi_ifne_f ct_157_173 ki_0 (by decide) ?_
          refine wi_aload_0 ct_157_176 ?_
          refine wi_iload_1 ct_157_177 ?_
          refine wi_iload_5 ct_157_178 ?_
          refine wi_cv2 (ls' := [some _, some _, some _]) ct_157_180 (Nat.le_of_ble_eq_true rfl) (by decide) (sT_31 hS) rfl (by decide) rfl rfl (Nat.le_of_ble_eq_true rfl) ?_
          refine c_mshut (fi := (up2 (up2 (up2 (up2 fi2 31 27 ((fi2 31 27 + zpc))) 31 28 ((fi2 31 28 - (zpc + 0)))) 31 29 ((fi2 31 29 + 1))) 31 34 (0))) (row := row) hS hb hb5 hk6 ((congrArg Int32.toInt (congrFun (Eq.trans (funext fun _ => up2_nq (by decide)) (Eq.trans (funext fun _ => up2_nq (by decide)) (Eq.trans (funext fun _ => up2_nq (by decide)) (Eq.trans (funext fun _ => up2_nq (by decide)) (hf.1 32 (by decide) (by decide)))))) _)).trans hkd) ((congrArg Int32.toInt (congrFun (Eq.trans (funext fun _ => up2_nq (by decide)) (Eq.trans (funext fun _ => up2_nq (by decide)) (Eq.trans (funext fun _ => up2_nq (by decide)) (Eq.trans (funext fun _ => up2_nq (by decide)) (hf.1 33 (by decide) (by decide)))))) _)).trans hv) ((congrArg Int32.toInt (congrFun (Eq.trans (funext fun _ => up2_nq (by decide)) (Eq.trans (funext fun _ => up2_nq (by decide)) (Eq.trans (funext fun _ => up2_nq (by decide)) (Eq.trans (funext fun _ => up2_nq (by decide)) (hf.1 35 (by decide) (by decide)))))) _)).trans haim) ((congrArg Int32.toInt (Eq.trans (up2_nj (by decide)) (Eq.trans (up2_nj (by decide)) (Eq.trans (up2_nj (by decide)) up2_eq)))).trans (i_add hsz hzpc (by omega))) ((congrArg Int32.toInt (Eq.trans (up2_nj (by decide)) (Eq.trans (up2_nj (by decide)) up2_eq))).trans (i_sub hfm (i_add hzpc ki_0 (by omega)) (by omega))) ki_0 ((congrArg Int32.toInt (Eq.trans (up2_nj (by decide)) up2_eq)).trans (i_add hclk ki_1 (by omega))) (fun j hj => ((congrArg Int32.toInt (congrFun (Eq.trans (funext fun _ => up2_nq (by decide)) (Eq.trans (funext fun _ => up2_nq (by decide)) (Eq.trans (funext fun _ => up2_nq (by decide)) (Eq.trans (funext fun _ => up2_nq (by decide)) (hf.1 37 (by decide) (by decide)))))) _)).trans (hrow j hj))) hv9 ha6 (by omega) (by omega) (by omega) (by omega) hr9 (fun hs => wk_i ?_) (fun hs => wk_i ?_)
          · skip
            refine wi_ifeq_f ct_157_183 ki_1 (by decide) ?_
            refine wi_ic ct_157_186 kc_1 ?_
            refine wi_goto ct_157_187 ?_
            refine wi_istore_3 rfl ct_157_191 ?_
            refine wi_goto ct_157_192 ?_
            refine wi_iload_4 ct_157_50 ?_
            refine wi_ic ct_157_52 kc_30 ?_
            refine wi_icge_f ct_157_54 (i_add hik ki_1 (by omega)) ki_30 (by omega) ?_
            refine wi_iload_3 ct_157_57 ?_
            refine wi_ifne_t ct_157_58 ki_1 (by decide) ?_
            refine wi_aload_0 ct_157_195 ?_
            refine wi_iload_3 ct_157_196 ?_
            refine wi_ifne_t ct_157_197 ki_1 (by decide) ?_
            refine wi_ic ct_157_204 kc_0 ?_
            refine wi_pfz ct_157_205 (sT_31 hS) rfl (by decide) ?_
            refine wi_aload_0 ct_157_208 ?_
            refine wi_iload_4 ct_157_209 ?_
            refine wi_pf ct_157_211 (sT_31 hS) rfl ?_
            refine wi_iload_3 ct_157_214 ?_
            refine wi_ifeq_f ct_157_215 ki_1 (by decide) ?_
            refine wi_aload_0 ct_157_218 ?_
            refine wi_iload_1 ct_157_219 ?_
            refine wi_cv1 (ls' := [some _, some _]) ct_157_220 (Nat.le_of_ble_eq_true rfl) (by decide) (sT_31 hS) rfl (by decide) rfl rfl (Nat.le_of_ble_eq_true rfl) ?_
            refine wi_aload_0 ct_155_0 ?_
            refine wi_aload_0 ct_155_1 ?_
            refine wi_gf (x := (fi2 31 27 + zpc)) ct_155_2 (sT_31 hS) rfl rfl (Eq.trans (up2_nj (by decide)) (Eq.trans (up2_nj (by decide)) (Eq.trans (up2_nj (by decide)) (Eq.trans (up2_nj (by decide)) (Eq.trans (up2_nj (by decide)) up2_eq))))) ?_
            refine wi_pf ct_155_5 (sT_31 hS) rfl ?_
            refine wi_aload_0 ct_155_8 ?_
            refine wi_ic ct_155_9 kc_10 ?_
            refine wi_aload_0 ct_155_11 ?_
            refine wi_gf (x := (fi2 31 28 - (zpc + 0))) ct_155_12 (sT_31 hS) rfl rfl (Eq.trans (up2_nj (by decide)) (Eq.trans (up2_nj (by decide)) (Eq.trans (up2_nj (by decide)) (Eq.trans (up2_nj (by decide)) (Eq.trans (up2_nj (by decide)) up2_eq))))) ?_
            refine wi_imul ct_155_15 rfl ?_
            refine wi_aload_0 ct_155_16 ?_
            refine wi_gf (x := (fi2 31 27 + zpc)) ct_155_17 (sT_31 hS) rfl rfl (Eq.trans (up2_nj (by decide)) (Eq.trans (up2_nj (by decide)) (Eq.trans (up2_nj (by decide)) (Eq.trans (up2_nj (by decide)) (Eq.trans (up2_nj (by decide)) (Eq.trans (up2_nj (by decide)) up2_eq)))))) ?_
            refine wi_ic ct_155_20 kc_1 ?_
            refine wi_iadd ct_155_21 rfl ?_
            refine wi_idiv ct_155_22 (i_nz (i_add (i_add hsz hzpc (by omega)) ki_1 (by omega)) (by omega)) rfl ?_
            have hd1 := i_div (i_mul ki_10 (i_sub hfm (i_add hzpc ki_0 (by omega)) (by omega)) (by omega)) (i_add (i_add hsz hzpc (by omega)) ki_1 (by omega)) (by omega) (by omega)
            have hd1b : 0 ≤ 10 * (fm - (pc + (0))) / (sz + pc + 1) := Int.ediv_nonneg (by omega) (by omega)
            have hd1c : 10 * (fm - (pc + (0))) / (sz + pc + 1) ≤ 10 * (fm - (pc + (0))) := Int.ediv_le_self _ (by omega)
            refine wi_aload_0 ct_155_23 ?_
            refine wi_ic ct_155_24 kc_1 ?_
            refine wi_iload_1 ct_155_25 ?_
            refine wi_ic ct_155_26 kc_1 ?_
            refine wi_cv3 (ls' := [some _, some _, some _, some _, none, none, none]) ct_155_27 (Nat.le_of_ble_eq_true rfl) (by decide) (sT_31 hS) rfl (by decide) rfl rfl (Nat.le_of_ble_eq_true rfl) ?_
            refine c_sum (fi := (up2 (up2 (up2 (up2 (up2 (up2 (up2 fi2 31 27 ((fi2 31 27 + zpc))) 31 28 ((fi2 31 28 - (zpc + 0)))) 31 29 ((fi2 31 29 + 1))) 31 34 (0)) 31 34 (0)) 31 33 ((i + 1))) 31 30 ((fi2 31 27 + zpc)))) (W0 := 1) (O0 := 1) hS (hq.fr (Eq.trans (up2_nj (by decide)) (Eq.trans (up2_nj (by decide)) (Eq.trans (up2_nj (by decide)) (Eq.trans (up2_nj (by decide)) (Eq.trans (up2_nj (by decide)) (Eq.trans (up2_nj (by decide)) (Eq.trans (up2_nj (by decide)) (hf.2 10 (Or.inl (by decide)))))))))) (Eq.trans (funext fun _ => up2_nq (by decide)) (Eq.trans (funext fun _ => up2_nq (by decide)) (Eq.trans (funext fun _ => up2_nq (by decide)) (Eq.trans (funext fun _ => up2_nq (by decide)) (Eq.trans (funext fun _ => up2_nq (by decide)) (Eq.trans (funext fun _ => up2_nq (by decide)) (Eq.trans (funext fun _ => up2_nq (by decide)) (hf.1 40 (by decide) (by decide))))))))) (Eq.trans (funext fun _ => up2_nq (by decide)) (Eq.trans (funext fun _ => up2_nq (by decide)) (Eq.trans (funext fun _ => up2_nq (by decide)) (Eq.trans (funext fun _ => up2_nq (by decide)) (Eq.trans (funext fun _ => up2_nq (by decide)) (Eq.trans (funext fun _ => up2_nq (by decide)) (Eq.trans (funext fun _ => up2_nq (by decide)) (hf.1 41 (by decide) (by decide))))))))) (Eq.trans (funext fun _ => up2_nq (by decide)) (Eq.trans (funext fun _ => up2_nq (by decide)) (Eq.trans (funext fun _ => up2_nq (by decide)) (Eq.trans (funext fun _ => up2_nq (by decide)) (Eq.trans (funext fun _ => up2_nq (by decide)) (Eq.trans (funext fun _ => up2_nq (by decide)) (Eq.trans (funext fun _ => up2_nq (by decide)) (hf.1 42 (by decide) (by decide))))))))) (Eq.trans (funext fun _ => up2_nq (by decide)) (Eq.trans (funext fun _ => up2_nq (by decide)) (Eq.trans (funext fun _ => up2_nq (by decide)) (Eq.trans (funext fun _ => up2_nq (by decide)) (Eq.trans (funext fun _ => up2_nq (by decide)) (Eq.trans (funext fun _ => up2_nq (by decide)) (Eq.trans (funext fun _ => up2_nq (by decide)) (hf.1 43 (by decide) (by decide))))))))) (Eq.trans (funext fun _ => up2_nq (by decide)) (Eq.trans (funext fun _ => up2_nq (by decide)) (Eq.trans (funext fun _ => up2_nq (by decide)) (Eq.trans (funext fun _ => up2_nq (by decide)) (Eq.trans (funext fun _ => up2_nq (by decide)) (Eq.trans (funext fun _ => up2_nq (by decide)) (Eq.trans (funext fun _ => up2_nq (by decide)) (hf.1 44 (by decide) (by decide))))))))) (Eq.trans (funext fun _ => up2_nq (by decide)) (Eq.trans (funext fun _ => up2_nq (by decide)) (Eq.trans (funext fun _ => up2_nq (by decide)) (Eq.trans (funext fun _ => up2_nq (by decide)) (Eq.trans (funext fun _ => up2_nq (by decide)) (Eq.trans (funext fun _ => up2_nq (by decide)) (Eq.trans (funext fun _ => up2_nq (by decide)) (hf.1 45 (by decide) (by decide)))))))))) ki_1 (by decide) ki_1 hb hb5 (clk + 1) (sz + pc) (fm - (pc + (0))) kd v (((congrArg Int32.toInt (Eq.trans (up2_nj (by decide)) (Eq.trans (up2_nj (by decide)) (Eq.trans (up2_nj (by decide)) (Eq.trans (up2_nj (by decide)) up2_eq))))).trans (i_add hclk ki_1 (by omega))).trans (by omega)) (by omega) (((congrArg Int32.toInt (Eq.trans (up2_nj (by decide)) (Eq.trans (up2_nj (by decide)) (Eq.trans (up2_nj (by decide)) (Eq.trans (up2_nj (by decide)) (Eq.trans (up2_nj (by decide)) (Eq.trans (up2_nj (by decide)) up2_eq))))))).trans (i_add hsz hzpc (by omega))).trans (by omega)) (by omega) (((congrArg Int32.toInt (Eq.trans (up2_nj (by decide)) (Eq.trans (up2_nj (by decide)) (Eq.trans (up2_nj (by decide)) (Eq.trans (up2_nj (by decide)) (Eq.trans (up2_nj (by decide)) up2_eq)))))).trans (i_sub hfm (i_add hzpc ki_0 (by omega)) (by omega))).trans (by omega)) (by omega) ((congrArg Int32.toInt (congrFun (Eq.trans (funext fun _ => up2_nq (by decide)) (Eq.trans (funext fun _ => up2_nq (by decide)) (Eq.trans (funext fun _ => up2_nq (by decide)) (Eq.trans (funext fun _ => up2_nq (by decide)) (Eq.trans (funext fun _ => up2_nq (by decide)) (Eq.trans (funext fun _ => up2_nq (by decide)) (Eq.trans (funext fun _ => up2_nq (by decide)) (hf.1 32 (by decide) (by decide))))))))) _)).trans hkd) ((congrArg Int32.toInt (congrFun (Eq.trans (funext fun _ => up2_nq (by decide)) (Eq.trans (funext fun _ => up2_nq (by decide)) (Eq.trans (funext fun _ => up2_nq (by decide)) (Eq.trans (funext fun _ => up2_nq (by decide)) (Eq.trans (funext fun _ => up2_nq (by decide)) (Eq.trans (funext fun _ => up2_nq (by decide)) (Eq.trans (funext fun _ => up2_nq (by decide)) (hf.1 33 (by decide) (by decide))))))))) _)).trans hv) (fun z9 f10 hgf10 hz9 => wk_i ?_)
            have hbz9 := hlk 1 1 (clk + 1) (sz + pc) (fm - (pc + (0))) (by decide) (by decide)
            unfold mkLk at hbz9
            refine wi_ic ct_155_30 kc_1 ?_
            refine wi_iadd ct_155_31 rfl ?_
            refine wi_idiv ct_155_32 (i_nz (i_add hz9 ki_1 (by omega)) (by omega)) rfl ?_
            have hd2 := i_div hd1 (i_add hz9 ki_1 (by omega)) (by omega) (by omega)
            have hd3 : ((((10 * (fi2 31 28 - (zpc + 0))) / ((fi2 31 27 + zpc) + 1)) / (z9 + 1))).toInt = gLf (mkLk sq B kd v) ((true, clk + 1, sz + pc, fm - (pc + (0)), k + 1) : go_T) := hd2.trans (by unfold gLf mkLk; rw [if_pos rfl])
            have hlf := gLf_bd hlk (R := ((true, clk + 1, sz + pc, fm - (pc + (0)), k + 1) : go_T)) (fun _ => ⟨by dsimp only; omega, by dsimp only; omega⟩) (by dsimp only; omega)
            have hlf3 := hlf.2.2 rfl
            dsimp only at hlf3
            refine wi_pf ct_155_33 (sT_31 hS) rfl ?_
            refine wi_aload_0 ct_155_36 ?_
            refine wi_aload_0 ct_155_37 ?_
            refine wi_aload_0 ct_155_38 ?_
            refine wi_gf (x := (fi2 31 27 + zpc)) ct_155_39 (sT_31 hS) rfl rfl (Eq.trans (up2_nj (by decide)) (Eq.trans (congrFun (hgf10 31 (by decide)) _) (Eq.trans (up2_nj (by decide)) (Eq.trans (up2_nj (by decide)) (Eq.trans (up2_nj (by decide)) (Eq.trans (up2_nj (by decide)) (Eq.trans (up2_nj (by decide)) (Eq.trans (up2_nj (by decide)) up2_eq)))))))) ?_
            refine wi_i2l ct_155_42 rfl ?_
            refine wi_aload_0 ct_155_43 ?_
            refine wi_gf (x := (((10 * (fi2 31 28 - (zpc + 0))) / ((fi2 31 27 + zpc) + 1)) / (z9 + 1))) ct_155_44 (sT_31 hS) rfl rfl up2_eq ?_
            refine wi_i2l ct_155_47 rfl ?_
            refine wi_lmul ct_155_48 rfl ?_
            have hm1 := j_mul (j_of (i_add hsz hzpc (by omega))) (j_of hd3) (by omega)
            refine wi_aload_0 ct_155_49 ?_
            refine wi_ic ct_155_50 kc_2 ?_
            refine wi_iload_1 ct_155_51 ?_
            refine wi_ic ct_155_52 kc_1 ?_
            refine wi_cv3 (ls' := [some _, some _, some _, some _, none, none, none]) ct_155_53 (Nat.le_of_ble_eq_true rfl) (by decide) (sT_31 hS) rfl (by decide) rfl rfl (Nat.le_of_ble_eq_true rfl) ?_
            refine c_sum (fi := (up2 f10 31 31 ((((10 * (fi2 31 28 - (zpc + 0))) / ((fi2 31 27 + zpc) + 1)) / (z9 + 1))))) (W0 := 2) (O0 := 1) hS (hq.fr (Eq.trans (up2_nj (by decide)) (Eq.trans (congrFun (hgf10 31 (by decide)) _) (Eq.trans (up2_nj (by decide)) (Eq.trans (up2_nj (by decide)) (Eq.trans (up2_nj (by decide)) (Eq.trans (up2_nj (by decide)) (Eq.trans (up2_nj (by decide)) (Eq.trans (up2_nj (by decide)) (Eq.trans (up2_nj (by decide)) (hf.2 10 (Or.inl (by decide)))))))))))) (Eq.trans (funext fun _ => up2_nq (by decide)) (Eq.trans (hgf10 40 (by decide)) (Eq.trans (funext fun _ => up2_nq (by decide)) (Eq.trans (funext fun _ => up2_nq (by decide)) (Eq.trans (funext fun _ => up2_nq (by decide)) (Eq.trans (funext fun _ => up2_nq (by decide)) (Eq.trans (funext fun _ => up2_nq (by decide)) (Eq.trans (funext fun _ => up2_nq (by decide)) (Eq.trans (funext fun _ => up2_nq (by decide)) (hf.1 40 (by decide) (by decide))))))))))) (Eq.trans (funext fun _ => up2_nq (by decide)) (Eq.trans (hgf10 41 (by decide)) (Eq.trans (funext fun _ => up2_nq (by decide)) (Eq.trans (funext fun _ => up2_nq (by decide)) (Eq.trans (funext fun _ => up2_nq (by decide)) (Eq.trans (funext fun _ => up2_nq (by decide)) (Eq.trans (funext fun _ => up2_nq (by decide)) (Eq.trans (funext fun _ => up2_nq (by decide)) (Eq.trans (funext fun _ => up2_nq (by decide)) (hf.1 41 (by decide) (by decide))))))))))) (Eq.trans (funext fun _ => up2_nq (by decide)) (Eq.trans (hgf10 42 (by decide)) (Eq.trans (funext fun _ => up2_nq (by decide)) (Eq.trans (funext fun _ => up2_nq (by decide)) (Eq.trans (funext fun _ => up2_nq (by decide)) (Eq.trans (funext fun _ => up2_nq (by decide)) (Eq.trans (funext fun _ => up2_nq (by decide)) (Eq.trans (funext fun _ => up2_nq (by decide)) (Eq.trans (funext fun _ => up2_nq (by decide)) (hf.1 42 (by decide) (by decide))))))))))) (Eq.trans (funext fun _ => up2_nq (by decide)) (Eq.trans (hgf10 43 (by decide)) (Eq.trans (funext fun _ => up2_nq (by decide)) (Eq.trans (funext fun _ => up2_nq (by decide)) (Eq.trans (funext fun _ => up2_nq (by decide)) (Eq.trans (funext fun _ => up2_nq (by decide)) (Eq.trans (funext fun _ => up2_nq (by decide)) (Eq.trans (funext fun _ => up2_nq (by decide)) (Eq.trans (funext fun _ => up2_nq (by decide)) (hf.1 43 (by decide) (by decide))))))))))) (Eq.trans (funext fun _ => up2_nq (by decide)) (Eq.trans (hgf10 44 (by decide)) (Eq.trans (funext fun _ => up2_nq (by decide)) (Eq.trans (funext fun _ => up2_nq (by decide)) (Eq.trans (funext fun _ => up2_nq (by decide)) (Eq.trans (funext fun _ => up2_nq (by decide)) (Eq.trans (funext fun _ => up2_nq (by decide)) (Eq.trans (funext fun _ => up2_nq (by decide)) (Eq.trans (funext fun _ => up2_nq (by decide)) (hf.1 44 (by decide) (by decide))))))))))) (Eq.trans (funext fun _ => up2_nq (by decide)) (Eq.trans (hgf10 45 (by decide)) (Eq.trans (funext fun _ => up2_nq (by decide)) (Eq.trans (funext fun _ => up2_nq (by decide)) (Eq.trans (funext fun _ => up2_nq (by decide)) (Eq.trans (funext fun _ => up2_nq (by decide)) (Eq.trans (funext fun _ => up2_nq (by decide)) (Eq.trans (funext fun _ => up2_nq (by decide)) (Eq.trans (funext fun _ => up2_nq (by decide)) (hf.1 45 (by decide) (by decide)))))))))))) ki_2 (by decide) ki_1 hb hb5 (clk + 1) (sz + pc) (fm - (pc + (0))) kd v (((congrArg Int32.toInt (Eq.trans (up2_nj (by decide)) (Eq.trans (congrFun (hgf10 31 (by decide)) _) (Eq.trans (up2_nj (by decide)) (Eq.trans (up2_nj (by decide)) (Eq.trans (up2_nj (by decide)) (Eq.trans (up2_nj (by decide)) up2_eq))))))).trans (i_add hclk ki_1 (by omega))).trans (by omega)) (by omega) (((congrArg Int32.toInt (Eq.trans (up2_nj (by decide)) (Eq.trans (congrFun (hgf10 31 (by decide)) _) (Eq.trans (up2_nj (by decide)) (Eq.trans (up2_nj (by decide)) (Eq.trans (up2_nj (by decide)) (Eq.trans (up2_nj (by decide)) (Eq.trans (up2_nj (by decide)) (Eq.trans (up2_nj (by decide)) up2_eq))))))))).trans (i_add hsz hzpc (by omega))).trans (by omega)) (by omega) (((congrArg Int32.toInt (Eq.trans (up2_nj (by decide)) (Eq.trans (congrFun (hgf10 31 (by decide)) _) (Eq.trans (up2_nj (by decide)) (Eq.trans (up2_nj (by decide)) (Eq.trans (up2_nj (by decide)) (Eq.trans (up2_nj (by decide)) (Eq.trans (up2_nj (by decide)) up2_eq)))))))).trans (i_sub hfm (i_add hzpc ki_0 (by omega)) (by omega))).trans (by omega)) (by omega) ((congrArg Int32.toInt (congrFun (Eq.trans (funext fun _ => up2_nq (by decide)) (Eq.trans (hgf10 32 (by decide)) (Eq.trans (funext fun _ => up2_nq (by decide)) (Eq.trans (funext fun _ => up2_nq (by decide)) (Eq.trans (funext fun _ => up2_nq (by decide)) (Eq.trans (funext fun _ => up2_nq (by decide)) (Eq.trans (funext fun _ => up2_nq (by decide)) (Eq.trans (funext fun _ => up2_nq (by decide)) (Eq.trans (funext fun _ => up2_nq (by decide)) (hf.1 32 (by decide) (by decide))))))))))) _)).trans hkd) ((congrArg Int32.toInt (congrFun (Eq.trans (funext fun _ => up2_nq (by decide)) (Eq.trans (hgf10 33 (by decide)) (Eq.trans (funext fun _ => up2_nq (by decide)) (Eq.trans (funext fun _ => up2_nq (by decide)) (Eq.trans (funext fun _ => up2_nq (by decide)) (Eq.trans (funext fun _ => up2_nq (by decide)) (Eq.trans (funext fun _ => up2_nq (by decide)) (Eq.trans (funext fun _ => up2_nq (by decide)) (Eq.trans (funext fun _ => up2_nq (by decide)) (hf.1 33 (by decide) (by decide))))))))))) _)).trans hv) (fun z11 f12 hgf12 hz11 => wk_i ?_)
            have hbz11 := hlk 2 1 (clk + 1) (sz + pc) (fm - (pc + (0))) (by decide) (by decide)
            unfold mkLk at hbz11
            refine wi_i2l ct_155_56 rfl ?_
            refine wi_lmul ct_155_57 rfl ?_
            have hm0 := Int.mul_nonneg hlf3.2 hbz11.1
            have hmx := Int.mul_le_mul hlf3.1 hbz11.2 hbz11.1 (by decide)
            have hm2 := j_mul hm1 (j_of hz11) (by omega)
            refine wi_cv1 (ls' := [some _, some _, none]) ct_155_58 (Nat.le_of_ble_eq_true rfl) (by decide) (sT_31 hS) rfl (by decide) rfl rfl (Nat.le_of_ble_eq_true rfl) ?_
            refine wi_lload_1 ct_156_0 ?_
            refine wi_lc ct_156_1 kl_99999 ?_
            refine wi_lcmp ct_156_4 rfl ?_
            refine wi_ifge ct_156_5 rfl (fun hcm => ?_) (fun hcm => ?_)
            · skip
              replace hcm := lcmp_ge hm2 (show (99999 : Int64).toInt = 99999 from rfl) hcm
              refine wi_lc ct_156_12 kl_99999 ?_
              refine wi_lret ct_156_15 (wk_j ?_)
              refine wi_l2i ct_155_61 rfl ?_
              have hbr : ((Int64.toInt32 99999)).toInt = gBr (mkLk sq B kd v) ((true, clk + 1, sz + pc, fm - (pc + (0)), k + 1) : go_T) := by unfold gBr; rw [if_pos rfl]; exact (show (99999 : Int64).toInt32.toInt = 99999 from rfl).trans (Int.min_eq_right hcm).symm
              refine wi_pf ct_155_62 (sT_31 hS) rfl ?_
              refine wi_ret ct_155_65 (wk_v ?_)
              refine wi_aload_0 ct_157_223 ?_
              refine wi_ic ct_157_224 kc_0 ?_
              refine wi_pf ct_157_225 (sT_31 hS) rfl ?_
              refine wi_aload_0 ct_157_228 ?_
              refine wi_ic ct_157_229 kc_0 ?_
              refine wi_pf ct_157_230 (sT_31 hS) rfl ?_
              refine wi_ret ct_157_233 ?_
              rw [goL_2 hpc (show windV (mkLk sq B kd v) gust true k clk sz fm = 0 from rfl) (by omega) hs] at hR
              subst hR
              refine kk _ ⟨fun q h1 h2 => (Eq.trans (funext fun _ => up2_nq h2) (Eq.trans (funext fun _ => up2_nq h2) (Eq.trans (funext fun _ => up2_nq h2) (Eq.trans (hgf12 q h1) (Eq.trans (funext fun _ => up2_nq h2) (Eq.trans (hgf10 q h1) (Eq.trans (funext fun _ => up2_nq h2) (Eq.trans (funext fun _ => up2_nq h2) (Eq.trans (funext fun _ => up2_nq h2) (Eq.trans (funext fun _ => up2_nq h2) (Eq.trans (funext fun _ => up2_nq h2) (Eq.trans (funext fun _ => up2_nq h2) (Eq.trans (funext fun _ => up2_nq h2) (hf.1 q h1 h2)))))))))))))), fun j hj => (Eq.trans (up2_nj (by omega)) (Eq.trans (up2_nj (by omega)) (Eq.trans (up2_nj (by omega)) (Eq.trans (congrFun (hgf12 31 (by decide)) _) (Eq.trans (up2_nj (by omega)) (Eq.trans (congrFun (hgf10 31 (by decide)) _) (Eq.trans (up2_nj (by omega)) (Eq.trans (up2_nj (by omega)) (Eq.trans (up2_nj (by omega)) (Eq.trans (up2_nj (by omega)) (Eq.trans (up2_nj (by omega)) (Eq.trans (up2_nj (by omega)) (Eq.trans (up2_nj (by omega)) (hf.2 j hj))))))))))))))⟩ ?_ ?_ ?_ ?_ ?_
              · exact ((congrArg Int32.toInt (Eq.trans (up2_nj (by decide)) (Eq.trans (up2_nj (by decide)) (Eq.trans (up2_nj (by decide)) (Eq.trans (congrFun (hgf12 31 (by decide)) _) (Eq.trans (up2_nj (by decide)) (Eq.trans (congrFun (hgf10 31 (by decide)) _) up2_eq))))))).trans (i_add hsz hzpc (by omega))).trans (by unfold gSz; rw [if_pos rfl])
              · exact ((congrArg Int32.toInt (Eq.trans (up2_nj (by decide)) (Eq.trans (up2_nj (by decide)) (Eq.trans (up2_nj (by decide)) (Eq.trans (congrFun (hgf12 31 (by decide)) _) up2_eq))))).trans hd3)
              · exact ((congrArg Int32.toInt (Eq.trans (up2_nj (by decide)) (Eq.trans (up2_nj (by decide)) up2_eq))).trans hbr)
              · exact ((congrArg Int32.toInt (Eq.trans (up2_nj (by decide)) (Eq.trans (up2_nj (by decide)) (Eq.trans (up2_nj (by decide)) (Eq.trans (congrFun (hgf12 31 (by decide)) _) (Eq.trans (up2_nj (by decide)) (Eq.trans (congrFun (hgf10 31 (by decide)) _) (Eq.trans (up2_nj (by decide)) up2_eq)))))))).trans (i_add hik ki_1 (by omega))).trans (by unfold gMn; dsimp only; omega)
              · exact (Eq.trans (up2_nj (by decide)) (Eq.trans (up2_nj (by decide)) (Eq.trans (up2_nj (by decide)) (Eq.trans (congrFun (hgf12 31 (by decide)) _) (Eq.trans (up2_nj (by decide)) (Eq.trans (congrFun (hgf10 31 (by decide)) _) (Eq.trans (up2_nj (by decide)) (Eq.trans (up2_nj (by decide)) up2_eq))))))))
            · skip
              replace hcm := lcmp_lt hm2 (show (99999 : Int64).toInt = 99999 from rfl) hcm
              refine wi_lload_1 ct_156_8 ?_
              refine wi_goto ct_156_9 ?_
              refine wi_lret ct_156_15 (wk_j ?_)
              refine wi_l2i ct_155_61 rfl ?_
              have hbr : ((Int64.toInt32 (((Int32.toInt64 (fi2 31 27 + zpc)) * (Int32.toInt64 (((10 * (fi2 31 28 - (zpc + 0))) / ((fi2 31 27 + zpc) + 1)) / (z9 + 1)))) * (Int32.toInt64 z11)))).toInt = gBr (mkLk sq B kd v) ((true, clk + 1, sz + pc, fm - (pc + (0)), k + 1) : go_T) := (j_l2i hm2 (by omega)).trans (by unfold gBr; rw [if_pos rfl]; exact (Int.min_eq_left (Int.le_of_lt hcm)).symm)
              refine wi_pf ct_155_62 (sT_31 hS) rfl ?_
              refine wi_ret ct_155_65 (wk_v ?_)
              refine wi_aload_0 ct_157_223 ?_
              refine wi_ic ct_157_224 kc_0 ?_
              refine wi_pf ct_157_225 (sT_31 hS) rfl ?_
              refine wi_aload_0 ct_157_228 ?_
              refine wi_ic ct_157_229 kc_0 ?_
              refine wi_pf ct_157_230 (sT_31 hS) rfl ?_
              refine wi_ret ct_157_233 ?_
              rw [goL_2 hpc (show windV (mkLk sq B kd v) gust true k clk sz fm = 0 from rfl) (by omega) hs] at hR
              subst hR
              refine kk _ ⟨fun q h1 h2 => (Eq.trans (funext fun _ => up2_nq h2) (Eq.trans (funext fun _ => up2_nq h2) (Eq.trans (funext fun _ => up2_nq h2) (Eq.trans (hgf12 q h1) (Eq.trans (funext fun _ => up2_nq h2) (Eq.trans (hgf10 q h1) (Eq.trans (funext fun _ => up2_nq h2) (Eq.trans (funext fun _ => up2_nq h2) (Eq.trans (funext fun _ => up2_nq h2) (Eq.trans (funext fun _ => up2_nq h2) (Eq.trans (funext fun _ => up2_nq h2) (Eq.trans (funext fun _ => up2_nq h2) (Eq.trans (funext fun _ => up2_nq h2) (hf.1 q h1 h2)))))))))))))), fun j hj => (Eq.trans (up2_nj (by omega)) (Eq.trans (up2_nj (by omega)) (Eq.trans (up2_nj (by omega)) (Eq.trans (congrFun (hgf12 31 (by decide)) _) (Eq.trans (up2_nj (by omega)) (Eq.trans (congrFun (hgf10 31 (by decide)) _) (Eq.trans (up2_nj (by omega)) (Eq.trans (up2_nj (by omega)) (Eq.trans (up2_nj (by omega)) (Eq.trans (up2_nj (by omega)) (Eq.trans (up2_nj (by omega)) (Eq.trans (up2_nj (by omega)) (Eq.trans (up2_nj (by omega)) (hf.2 j hj))))))))))))))⟩ ?_ ?_ ?_ ?_ ?_
              · exact ((congrArg Int32.toInt (Eq.trans (up2_nj (by decide)) (Eq.trans (up2_nj (by decide)) (Eq.trans (up2_nj (by decide)) (Eq.trans (congrFun (hgf12 31 (by decide)) _) (Eq.trans (up2_nj (by decide)) (Eq.trans (congrFun (hgf10 31 (by decide)) _) up2_eq))))))).trans (i_add hsz hzpc (by omega))).trans (by unfold gSz; rw [if_pos rfl])
              · exact ((congrArg Int32.toInt (Eq.trans (up2_nj (by decide)) (Eq.trans (up2_nj (by decide)) (Eq.trans (up2_nj (by decide)) (Eq.trans (congrFun (hgf12 31 (by decide)) _) up2_eq))))).trans hd3)
              · exact ((congrArg Int32.toInt (Eq.trans (up2_nj (by decide)) (Eq.trans (up2_nj (by decide)) up2_eq))).trans hbr)
              · exact ((congrArg Int32.toInt (Eq.trans (up2_nj (by decide)) (Eq.trans (up2_nj (by decide)) (Eq.trans (up2_nj (by decide)) (Eq.trans (congrFun (hgf12 31 (by decide)) _) (Eq.trans (up2_nj (by decide)) (Eq.trans (congrFun (hgf10 31 (by decide)) _) (Eq.trans (up2_nj (by decide)) up2_eq)))))))).trans (i_add hik ki_1 (by omega))).trans (by unfold gMn; dsimp only; omega)
              · exact (Eq.trans (up2_nj (by decide)) (Eq.trans (up2_nj (by decide)) (Eq.trans (up2_nj (by decide)) (Eq.trans (congrFun (hgf12 31 (by decide)) _) (Eq.trans (up2_nj (by decide)) (Eq.trans (congrFun (hgf10 31 (by decide)) _) (Eq.trans (up2_nj (by decide)) (Eq.trans (up2_nj (by decide)) up2_eq))))))))
          · skip
            refine wi_ifeq_t ct_157_183 ki_0 (by decide) ?_
            refine wi_ic ct_157_190 kc_0 ?_
            refine wi_istore_3 rfl ct_157_191 ?_
            refine wi_goto ct_157_192 ?_
            rw [goL_3 hpc (show windV (mkLk sq B kd v) gust true k clk sz fm = 0 from rfl) (by omega) hs] at hR
            exact ih (k + 1) _ _ _ _ _ _ _ R (by omega) hR ⟨fun q h1 h2 => (Eq.trans (funext fun _ => up2_nq h2) (Eq.trans (funext fun _ => up2_nq h2) (Eq.trans (funext fun _ => up2_nq h2) (Eq.trans (funext fun _ => up2_nq h2) (hf.1 q h1 h2))))), fun j hj => (Eq.trans (up2_nj (by omega)) (Eq.trans (up2_nj (by omega)) (Eq.trans (up2_nj (by omega)) (Eq.trans (up2_nj (by omega)) (hf.2 j hj)))))⟩ (((i_add hik ki_1 (by omega))).trans (by omega)) (by omega) (by omega) (by omega) (((congrArg Int32.toInt (Eq.trans (up2_nj (by decide)) up2_eq)).trans (i_add hclk ki_1 (by omega))).trans (by omega)) (((congrArg Int32.toInt (Eq.trans (up2_nj (by decide)) (Eq.trans (up2_nj (by decide)) (Eq.trans (up2_nj (by decide)) up2_eq)))).trans (i_add hsz hzpc (by omega))).trans (by omega)) (((congrArg Int32.toInt (Eq.trans (up2_nj (by decide)) (Eq.trans (up2_nj (by decide)) up2_eq))).trans (i_sub hfm (i_add hzpc ki_0 (by omega)) (by omega))).trans (by omega)) up2_eq (Eq.trans (up2_nj (by decide)) (Eq.trans (up2_nj (by decide)) (Eq.trans (up2_nj (by decide)) (Eq.trans (up2_nj (by decide)) h30)))) (Eq.trans (up2_nj (by decide)) (Eq.trans (up2_nj (by decide)) (Eq.trans (up2_nj (by decide)) (Eq.trans (up2_nj (by decide)) h31)))) (Eq.trans (up2_nj (by decide)) (Eq.trans (up2_nj (by decide)) (Eq.trans (up2_nj (by decide)) (Eq.trans (up2_nj (by decide)) h32)))) rfl rfl kk
        · skip
          refine wi_ic ct_157_161 kc_1 ?_
          refine wi_goto ct_157_162 ?_
          refine wi_pfz ct_157_166 (sT_31 hS) rfl (by decide) ?_
          refine wi_aload_0 ct_157_169 ?_
          refine wi_gf (x := 1) ct_157_170 (sT_31 hS) rfl rfl up2_eq ?_
          refine wi_ifne_t ct_157_173 ki_1 (by decide) ?_
          refine wi_ic ct_157_190 kc_0 ?_
          refine wi_istore_3 rfl ct_157_191 ?_
          refine wi_goto ct_157_192 ?_
          refine wi_iload_4 ct_157_50 ?_
          refine wi_ic ct_157_52 kc_30 ?_
          refine wi_icge_f ct_157_54 (i_add hik ki_1 (by omega)) ki_30 (by omega) ?_
          refine wi_iload_3 ct_157_57 ?_
          refine wi_ifne_f ct_157_58 ki_0 (by decide) ?_
          refine wi_aload_0 ct_157_61 ?_
          refine wi_gf (x := 1) ct_157_62 (sT_31 hS) rfl rfl up2_eq ?_
          refine wi_ifne_t ct_157_65 ki_1 (by decide) ?_
          refine wi_aload_0 ct_157_195 ?_
          refine wi_iload_3 ct_157_196 ?_
          refine wi_ifne_f ct_157_197 ki_0 (by decide) ?_
          refine wi_ic ct_157_200 kc_1 ?_
          refine wi_goto ct_157_201 ?_
          refine wi_pfz ct_157_205 (sT_31 hS) rfl (by decide) ?_
          refine wi_aload_0 ct_157_208 ?_
          refine wi_iload_4 ct_157_209 ?_
          refine wi_pf ct_157_211 (sT_31 hS) rfl ?_
          refine wi_iload_3 ct_157_214 ?_
          refine wi_ifeq_t ct_157_215 ki_0 (by decide) ?_
          refine wi_aload_0 ct_157_223 ?_
          refine wi_ic ct_157_224 kc_0 ?_
          refine wi_pf ct_157_225 (sT_31 hS) rfl ?_
          refine wi_aload_0 ct_157_228 ?_
          refine wi_ic ct_157_229 kc_0 ?_
          refine wi_pf ct_157_230 (sT_31 hS) rfl ?_
          refine wi_ret ct_157_233 ?_
          rw [goL_1 hpc (show windV (mkLk sq B kd v) gust true k clk sz fm = 0 from rfl) (by omega)] at hR
          subst hR
          refine kk _ ⟨fun q h1 h2 => (Eq.trans (funext fun _ => up2_nq h2) (Eq.trans (funext fun _ => up2_nq h2) (Eq.trans (funext fun _ => up2_nq h2) (Eq.trans (funext fun _ => up2_nq h2) (Eq.trans (funext fun _ => up2_nq h2) (Eq.trans (funext fun _ => up2_nq h2) (Eq.trans (funext fun _ => up2_nq h2) (Eq.trans (funext fun _ => up2_nq h2) (hf.1 q h1 h2))))))))), fun j hj => (Eq.trans (up2_nj (by omega)) (Eq.trans (up2_nj (by omega)) (Eq.trans (up2_nj (by omega)) (Eq.trans (up2_nj (by omega)) (Eq.trans (up2_nj (by omega)) (Eq.trans (up2_nj (by omega)) (Eq.trans (up2_nj (by omega)) (Eq.trans (up2_nj (by omega)) (hf.2 j hj)))))))))⟩ ?_ ?_ ?_ ?_ ?_
          · exact ((congrArg Int32.toInt (Eq.trans (up2_nj (by decide)) (Eq.trans (up2_nj (by decide)) (Eq.trans (up2_nj (by decide)) (Eq.trans (up2_nj (by decide)) (Eq.trans (up2_nj (by decide)) (Eq.trans (up2_nj (by decide)) (Eq.trans (up2_nj (by decide)) (Eq.trans (up2_nj (by decide)) h30))))))))).trans ki_0)
          · exact ((congrArg Int32.toInt (Eq.trans (up2_nj (by decide)) (Eq.trans (up2_nj (by decide)) (Eq.trans (up2_nj (by decide)) (Eq.trans (up2_nj (by decide)) (Eq.trans (up2_nj (by decide)) (Eq.trans (up2_nj (by decide)) (Eq.trans (up2_nj (by decide)) (Eq.trans (up2_nj (by decide)) h31))))))))).trans ki_0)
          · exact ((congrArg Int32.toInt (Eq.trans (up2_nj (by decide)) (Eq.trans (up2_nj (by decide)) (Eq.trans (up2_nj (by decide)) (Eq.trans (up2_nj (by decide)) (Eq.trans (up2_nj (by decide)) (Eq.trans (up2_nj (by decide)) (Eq.trans (up2_nj (by decide)) (Eq.trans (up2_nj (by decide)) h32))))))))).trans ki_0)
          · exact ((congrArg Int32.toInt (Eq.trans (up2_nj (by decide)) (Eq.trans (up2_nj (by decide)) up2_eq))).trans (i_add hik ki_1 (by omega))).trans (by unfold gMn; dsimp only; omega)
          · exact (Eq.trans (up2_nj (by decide)) (Eq.trans (up2_nj (by decide)) (Eq.trans (up2_nj (by decide)) up2_eq)))
    · skip
      cases calm
      · skip
        refine wi_iload_4 ct_157_50 ?_
        refine wi_ic ct_157_52 kc_30 ?_
        refine wi_icge_f ct_157_54 hik ki_30 (by omega) ?_
        refine wi_iload_3 ct_157_57 ?_
        refine wi_ifne_f ct_157_58 ki_0 (by decide) ?_
        refine wi_aload_0 ct_157_61 ?_
        refine wi_gf (x := 0) ct_157_62 (sT_31 hS) rfl rfl h34 ?_
        refine wi_ifne_f ct_157_65 ki_0 (by decide) ?_
        refine wi_aload_0 ct_157_68 ?_
        refine wi_gf (x := 0) ct_157_69 (sT_31 hS) rfl rfl ((hf.2 35 (Or.inr (by decide))).trans hcalm) ?_
        refine wi_ifeq_t ct_157_72 ki_0 (by decide) ?_
        refine wi_aload_0 ct_157_79 ?_
        refine wi_ic ct_157_80 kc_0 ?_
        refine wi_iload_1 ct_157_81 ?_
        refine wi_ic ct_157_82 kc_0 ?_
        refine wi_cv3 (ls' := [some _, some _, some _, some _, none, none, none]) ct_157_83 (Nat.le_of_ble_eq_true rfl) (by decide) (sT_31 hS) rfl (by decide) rfl rfl (Nat.le_of_ble_eq_true rfl) ?_
        refine c_sum (fi := fi2) (W0 := 0) (O0 := 0) hS (hq.fr (hf.2 10 (Or.inl (by decide))) (hf.1 40 (by decide) (by decide)) (hf.1 41 (by decide) (by decide)) (hf.1 42 (by decide) (by decide)) (hf.1 43 (by decide) (by decide)) (hf.1 44 (by decide) (by decide)) (hf.1 45 (by decide) (by decide))) ki_0 (by decide) ki_0 hb hb5 (clk) (sz) (fm) kd v hclk (by omega) hsz (by omega) hfm (by omega) ((congrArg Int32.toInt (congrFun (hf.1 32 (by decide) (by decide)) _)).trans hkd) ((congrArg Int32.toInt (congrFun (hf.1 33 (by decide) (by decide)) _)).trans hv) (fun z13 f14 hgf14 hz13 => wk_i ?_)
        have hbz13 := hlk 0 0 (clk) (sz) (fm) (by decide) (by decide)
        unfold mkLk at hbz13
        refine wi_iload_4 ct_157_86 ?_
        refine wi_ifne_t ct_157_88 hik (by omega) ?_
        refine wi_ic ct_157_98 kc_0 ?_
        refine wi_iadd ct_157_99 rfl ?_
        refine wi_istore_5 rfl ct_157_100 ?_
        refine wi_aload_0 ct_157_102 ?_
        refine wi_iload_1 ct_157_103 ?_
        refine wi_cv1 (ls' := [some _, some _]) ct_157_104 (Nat.le_of_ble_eq_true rfl) (by decide) (sT_31 hS) rfl (by decide) rfl rfl (Nat.le_of_ble_eq_true rfl) ?_
        refine c_mpace (fi := f14) hS hb hb5 hk6 ((congrArg Int32.toInt (congrFun (Eq.trans (hgf14 32 (by decide)) (hf.1 32 (by decide) (by decide))) _)).trans hkd) ((congrArg Int32.toInt (congrFun (hgf14 31 (by decide)) _)).trans hsz) (fun zpc hzpc => wk_i ?_)
        obtain ⟨pc, hpc⟩ : ∃ pc, paceV kd sz = pc := ⟨_, rfl⟩
        have hpb := paceV_bd kd sz
        rw [hpc] at hzpc hpb
        refine wi_istore_6 rfl ct_157_107 ?_
        refine wi_aload_0 ct_157_109 ?_
        refine wi_dup ct_157_110 rfl ?_
        refine wi_gf (x := fi2 31 27) ct_157_111 (sT_31 hS) rfl rfl (congrFun (hgf14 31 (by decide)) _) ?_
        refine wi_iload_6 ct_157_114 ?_
        refine wi_iadd ct_157_116 rfl ?_
        refine wi_pf ct_157_117 (sT_31 hS) rfl ?_
        refine wi_aload_0 ct_157_120 ?_
        refine wi_dup ct_157_121 rfl ?_
        refine wi_gf (x := fi2 31 28) ct_157_122 (sT_31 hS) rfl rfl (Eq.trans (up2_nj (by decide)) (congrFun (hgf14 31 (by decide)) _)) ?_
        refine wi_iload_6 ct_157_125 ?_
        refine wi_iload_5 ct_157_127 ?_
        refine wi_iadd ct_157_129 rfl ?_
        refine wi_isub ct_157_130 rfl ?_
        refine wi_pf ct_157_131 (sT_31 hS) rfl ?_
        refine wi_aload_0 ct_157_134 ?_
        refine wi_dup ct_157_135 rfl ?_
        refine wi_gf (x := fi2 31 29) ct_157_136 (sT_31 hS) rfl rfl (Eq.trans (up2_nj (by decide)) (Eq.trans (up2_nj (by decide)) (congrFun (hgf14 31 (by decide)) _))) ?_
        refine wi_ic ct_157_139 kc_1 ?_
        refine wi_iadd ct_157_140 rfl ?_
        refine wi_pf ct_157_141 (sT_31 hS) rfl ?_
        refine wi_iinc_4 rfl (z := (i + 1)) ct_157_144 (by rw [kc_1]) ?_
        refine wi_aload_0 ct_157_147 ?_
        refine wi_aload_0 ct_157_148 ?_
        refine wi_gf (x := (fi2 31 28 - (zpc + (z13 + 0)))) ct_157_149 (sT_31 hS) rfl rfl (Eq.trans (up2_nj (by decide)) up2_eq) ?_
        refine wi_aload_0 ct_157_152 ?_
        refine wi_gf (x := (fi2 31 27 + zpc)) ct_157_153 (sT_31 hS) rfl rfl (Eq.trans (up2_nj (by decide)) (Eq.trans (up2_nj (by decide)) up2_eq)) ?_
        refine wi_ic ct_157_156 kc_2 ?_
        refine wi_idiv ct_157_157 (by decide) rfl ?_
        refine wi_icge ct_157_158 (i_sub hfm (i_add hzpc (i_add hz13 ki_0 (by omega)) (by omega)) (by omega)) (i_div (i_add hsz hzpc (by omega)) ki_2 (by omega) (by omega)) (fun h15 => ?_) (fun h15 => ?_)
        · skip
          refine wi_ic ct_157_165 kc_0 ?_
          refine wi_pfz ct_157_166 (sT_31 hS) rfl (by decide) ?_
          refine wi_aload_0 ct_157_169 ?_
          refine wi_gf (x := 0) ct_157_170 (sT_31 hS) rfl rfl up2_eq ?_
          refine wi_ifne_f ct_157_173 ki_0 (by decide) ?_
          refine wi_aload_0 ct_157_176 ?_
          refine wi_iload_1 ct_157_177 ?_
          refine wi_iload_5 ct_157_178 ?_
          refine wi_cv2 (ls' := [some _, some _, some _]) ct_157_180 (Nat.le_of_ble_eq_true rfl) (by decide) (sT_31 hS) rfl (by decide) rfl rfl (Nat.le_of_ble_eq_true rfl) ?_
          refine c_mshut (fi := (up2 (up2 (up2 (up2 f14 31 27 ((fi2 31 27 + zpc))) 31 28 ((fi2 31 28 - (zpc + (z13 + 0))))) 31 29 ((fi2 31 29 + 1))) 31 34 (0))) (row := row) hS hb hb5 hk6 ((congrArg Int32.toInt (congrFun (Eq.trans (funext fun _ => up2_nq (by decide)) (Eq.trans (funext fun _ => up2_nq (by decide)) (Eq.trans (funext fun _ => up2_nq (by decide)) (Eq.trans (funext fun _ => up2_nq (by decide)) (Eq.trans (hgf14 32 (by decide)) (hf.1 32 (by decide) (by decide))))))) _)).trans hkd) ((congrArg Int32.toInt (congrFun (Eq.trans (funext fun _ => up2_nq (by decide)) (Eq.trans (funext fun _ => up2_nq (by decide)) (Eq.trans (funext fun _ => up2_nq (by decide)) (Eq.trans (funext fun _ => up2_nq (by decide)) (Eq.trans (hgf14 33 (by decide)) (hf.1 33 (by decide) (by decide))))))) _)).trans hv) ((congrArg Int32.toInt (congrFun (Eq.trans (funext fun _ => up2_nq (by decide)) (Eq.trans (funext fun _ => up2_nq (by decide)) (Eq.trans (funext fun _ => up2_nq (by decide)) (Eq.trans (funext fun _ => up2_nq (by decide)) (Eq.trans (hgf14 35 (by decide)) (hf.1 35 (by decide) (by decide))))))) _)).trans haim) ((congrArg Int32.toInt (Eq.trans (up2_nj (by decide)) (Eq.trans (up2_nj (by decide)) (Eq.trans (up2_nj (by decide)) up2_eq)))).trans (i_add hsz hzpc (by omega))) ((congrArg Int32.toInt (Eq.trans (up2_nj (by decide)) (Eq.trans (up2_nj (by decide)) up2_eq))).trans (i_sub hfm (i_add hzpc (i_add hz13 ki_0 (by omega)) (by omega)) (by omega))) (i_add hz13 ki_0 (by omega)) ((congrArg Int32.toInt (Eq.trans (up2_nj (by decide)) up2_eq)).trans (i_add hclk ki_1 (by omega))) (fun j hj => ((congrArg Int32.toInt (congrFun (Eq.trans (funext fun _ => up2_nq (by decide)) (Eq.trans (funext fun _ => up2_nq (by decide)) (Eq.trans (funext fun _ => up2_nq (by decide)) (Eq.trans (funext fun _ => up2_nq (by decide)) (Eq.trans (hgf14 37 (by decide)) (hf.1 37 (by decide) (by decide))))))) _)).trans (hrow j hj))) hv9 ha6 (by omega) (by omega) (by omega) (by omega) hr9 (fun hs => wk_i ?_) (fun hs => wk_i ?_)
          · skip
            refine wi_ifeq_f ct_157_183 ki_1 (by decide) ?_
            refine wi_ic ct_157_186 kc_1 ?_
            refine wi_goto ct_157_187 ?_
            refine wi_istore_3 rfl ct_157_191 ?_
            refine wi_goto ct_157_192 ?_
            refine wi_iload_4 ct_157_50 ?_
            refine wi_ic ct_157_52 kc_30 ?_
            refine wi_icge ct_157_54 (i_add hik ki_1 (by omega)) ki_30 (fun h16 => ?_) (fun h16 => ?_)
            · skip
              refine wi_aload_0 ct_157_195 ?_
              refine wi_iload_3 ct_157_196 ?_
              refine wi_ifne_t ct_157_197 ki_1 (by decide) ?_
              refine wi_ic ct_157_204 kc_0 ?_
              refine wi_pfz ct_157_205 (sT_31 hS) rfl (by decide) ?_
              refine wi_aload_0 ct_157_208 ?_
              refine wi_iload_4 ct_157_209 ?_
              refine wi_pf ct_157_211 (sT_31 hS) rfl ?_
              refine wi_iload_3 ct_157_214 ?_
              refine wi_ifeq_f ct_157_215 ki_1 (by decide) ?_
              refine wi_aload_0 ct_157_218 ?_
              refine wi_iload_1 ct_157_219 ?_
              refine wi_cv1 (ls' := [some _, some _]) ct_157_220 (Nat.le_of_ble_eq_true rfl) (by decide) (sT_31 hS) rfl (by decide) rfl rfl (Nat.le_of_ble_eq_true rfl) ?_
              refine wi_aload_0 ct_155_0 ?_
              refine wi_aload_0 ct_155_1 ?_
              refine wi_gf (x := (fi2 31 27 + zpc)) ct_155_2 (sT_31 hS) rfl rfl (Eq.trans (up2_nj (by decide)) (Eq.trans (up2_nj (by decide)) (Eq.trans (up2_nj (by decide)) (Eq.trans (up2_nj (by decide)) (Eq.trans (up2_nj (by decide)) up2_eq))))) ?_
              refine wi_pf ct_155_5 (sT_31 hS) rfl ?_
              refine wi_aload_0 ct_155_8 ?_
              refine wi_ic ct_155_9 kc_10 ?_
              refine wi_aload_0 ct_155_11 ?_
              refine wi_gf (x := (fi2 31 28 - (zpc + (z13 + 0)))) ct_155_12 (sT_31 hS) rfl rfl (Eq.trans (up2_nj (by decide)) (Eq.trans (up2_nj (by decide)) (Eq.trans (up2_nj (by decide)) (Eq.trans (up2_nj (by decide)) (Eq.trans (up2_nj (by decide)) up2_eq))))) ?_
              refine wi_imul ct_155_15 rfl ?_
              refine wi_aload_0 ct_155_16 ?_
              refine wi_gf (x := (fi2 31 27 + zpc)) ct_155_17 (sT_31 hS) rfl rfl (Eq.trans (up2_nj (by decide)) (Eq.trans (up2_nj (by decide)) (Eq.trans (up2_nj (by decide)) (Eq.trans (up2_nj (by decide)) (Eq.trans (up2_nj (by decide)) (Eq.trans (up2_nj (by decide)) up2_eq)))))) ?_
              refine wi_ic ct_155_20 kc_1 ?_
              refine wi_iadd ct_155_21 rfl ?_
              refine wi_idiv ct_155_22 (i_nz (i_add (i_add hsz hzpc (by omega)) ki_1 (by omega)) (by omega)) rfl ?_
              have hd1 := i_div (i_mul ki_10 (i_sub hfm (i_add hzpc (i_add hz13 ki_0 (by omega)) (by omega)) (by omega)) (by omega)) (i_add (i_add hsz hzpc (by omega)) ki_1 (by omega)) (by omega) (by omega)
              have hd1b : 0 ≤ 10 * (fm - (pc + (lkV sq (FL B kd v (clk) (sz) (fm)) 0 0 + 0))) / (sz + pc + 1) := Int.ediv_nonneg (by omega) (by omega)
              have hd1c : 10 * (fm - (pc + (lkV sq (FL B kd v (clk) (sz) (fm)) 0 0 + 0))) / (sz + pc + 1) ≤ 10 * (fm - (pc + (lkV sq (FL B kd v (clk) (sz) (fm)) 0 0 + 0))) := Int.ediv_le_self _ (by omega)
              refine wi_aload_0 ct_155_23 ?_
              refine wi_ic ct_155_24 kc_1 ?_
              refine wi_iload_1 ct_155_25 ?_
              refine wi_ic ct_155_26 kc_1 ?_
              refine wi_cv3 (ls' := [some _, some _, some _, some _, none, none, none]) ct_155_27 (Nat.le_of_ble_eq_true rfl) (by decide) (sT_31 hS) rfl (by decide) rfl rfl (Nat.le_of_ble_eq_true rfl) ?_
              refine c_sum (fi := (up2 (up2 (up2 (up2 (up2 (up2 (up2 f14 31 27 ((fi2 31 27 + zpc))) 31 28 ((fi2 31 28 - (zpc + (z13 + 0))))) 31 29 ((fi2 31 29 + 1))) 31 34 (0)) 31 34 (0)) 31 33 ((i + 1))) 31 30 ((fi2 31 27 + zpc)))) (W0 := 1) (O0 := 1) hS (hq.fr (Eq.trans (up2_nj (by decide)) (Eq.trans (up2_nj (by decide)) (Eq.trans (up2_nj (by decide)) (Eq.trans (up2_nj (by decide)) (Eq.trans (up2_nj (by decide)) (Eq.trans (up2_nj (by decide)) (Eq.trans (up2_nj (by decide)) (Eq.trans (congrFun (hgf14 31 (by decide)) _) (hf.2 10 (Or.inl (by decide))))))))))) (Eq.trans (funext fun _ => up2_nq (by decide)) (Eq.trans (funext fun _ => up2_nq (by decide)) (Eq.trans (funext fun _ => up2_nq (by decide)) (Eq.trans (funext fun _ => up2_nq (by decide)) (Eq.trans (funext fun _ => up2_nq (by decide)) (Eq.trans (funext fun _ => up2_nq (by decide)) (Eq.trans (funext fun _ => up2_nq (by decide)) (Eq.trans (hgf14 40 (by decide)) (hf.1 40 (by decide) (by decide)))))))))) (Eq.trans (funext fun _ => up2_nq (by decide)) (Eq.trans (funext fun _ => up2_nq (by decide)) (Eq.trans (funext fun _ => up2_nq (by decide)) (Eq.trans (funext fun _ => up2_nq (by decide)) (Eq.trans (funext fun _ => up2_nq (by decide)) (Eq.trans (funext fun _ => up2_nq (by decide)) (Eq.trans (funext fun _ => up2_nq (by decide)) (Eq.trans (hgf14 41 (by decide)) (hf.1 41 (by decide) (by decide)))))))))) (Eq.trans (funext fun _ => up2_nq (by decide)) (Eq.trans (funext fun _ => up2_nq (by decide)) (Eq.trans (funext fun _ => up2_nq (by decide)) (Eq.trans (funext fun _ => up2_nq (by decide)) (Eq.trans (funext fun _ => up2_nq (by decide)) (Eq.trans (funext fun _ => up2_nq (by decide)) (Eq.trans (funext fun _ => up2_nq (by decide)) (Eq.trans (hgf14 42 (by decide)) (hf.1 42 (by decide) (by decide)))))))))) (Eq.trans (funext fun _ => up2_nq (by decide)) (Eq.trans (funext fun _ => up2_nq (by decide)) (Eq.trans (funext fun _ => up2_nq (by decide)) (Eq.trans (funext fun _ => up2_nq (by decide)) (Eq.trans (funext fun _ => up2_nq (by decide)) (Eq.trans (funext fun _ => up2_nq (by decide)) (Eq.trans (funext fun _ => up2_nq (by decide)) (Eq.trans (hgf14 43 (by decide)) (hf.1 43 (by decide) (by decide)))))))))) (Eq.trans (funext fun _ => up2_nq (by decide)) (Eq.trans (funext fun _ => up2_nq (by decide)) (Eq.trans (funext fun _ => up2_nq (by decide)) (Eq.trans (funext fun _ => up2_nq (by decide)) (Eq.trans (funext fun _ => up2_nq (by decide)) (Eq.trans (funext fun _ => up2_nq (by decide)) (Eq.trans (funext fun _ => up2_nq (by decide)) (Eq.trans (hgf14 44 (by decide)) (hf.1 44 (by decide) (by decide)))))))))) (Eq.trans (funext fun _ => up2_nq (by decide)) (Eq.trans (funext fun _ => up2_nq (by decide)) (Eq.trans (funext fun _ => up2_nq (by decide)) (Eq.trans (funext fun _ => up2_nq (by decide)) (Eq.trans (funext fun _ => up2_nq (by decide)) (Eq.trans (funext fun _ => up2_nq (by decide)) (Eq.trans (funext fun _ => up2_nq (by decide)) (Eq.trans (hgf14 45 (by decide)) (hf.1 45 (by decide) (by decide))))))))))) ki_1 (by decide) ki_1 hb hb5 (clk + 1) (sz + pc) (fm - (pc + (lkV sq (FL B kd v (clk) (sz) (fm)) 0 0 + 0))) kd v (((congrArg Int32.toInt (Eq.trans (up2_nj (by decide)) (Eq.trans (up2_nj (by decide)) (Eq.trans (up2_nj (by decide)) (Eq.trans (up2_nj (by decide)) up2_eq))))).trans (i_add hclk ki_1 (by omega))).trans (by omega)) (by omega) (((congrArg Int32.toInt (Eq.trans (up2_nj (by decide)) (Eq.trans (up2_nj (by decide)) (Eq.trans (up2_nj (by decide)) (Eq.trans (up2_nj (by decide)) (Eq.trans (up2_nj (by decide)) (Eq.trans (up2_nj (by decide)) up2_eq))))))).trans (i_add hsz hzpc (by omega))).trans (by omega)) (by omega) (((congrArg Int32.toInt (Eq.trans (up2_nj (by decide)) (Eq.trans (up2_nj (by decide)) (Eq.trans (up2_nj (by decide)) (Eq.trans (up2_nj (by decide)) (Eq.trans (up2_nj (by decide)) up2_eq)))))).trans (i_sub hfm (i_add hzpc (i_add hz13 ki_0 (by omega)) (by omega)) (by omega))).trans (by omega)) (by omega) ((congrArg Int32.toInt (congrFun (Eq.trans (funext fun _ => up2_nq (by decide)) (Eq.trans (funext fun _ => up2_nq (by decide)) (Eq.trans (funext fun _ => up2_nq (by decide)) (Eq.trans (funext fun _ => up2_nq (by decide)) (Eq.trans (funext fun _ => up2_nq (by decide)) (Eq.trans (funext fun _ => up2_nq (by decide)) (Eq.trans (funext fun _ => up2_nq (by decide)) (Eq.trans (hgf14 32 (by decide)) (hf.1 32 (by decide) (by decide)))))))))) _)).trans hkd) ((congrArg Int32.toInt (congrFun (Eq.trans (funext fun _ => up2_nq (by decide)) (Eq.trans (funext fun _ => up2_nq (by decide)) (Eq.trans (funext fun _ => up2_nq (by decide)) (Eq.trans (funext fun _ => up2_nq (by decide)) (Eq.trans (funext fun _ => up2_nq (by decide)) (Eq.trans (funext fun _ => up2_nq (by decide)) (Eq.trans (funext fun _ => up2_nq (by decide)) (Eq.trans (hgf14 33 (by decide)) (hf.1 33 (by decide) (by decide)))))))))) _)).trans hv) (fun z17 f18 hgf18 hz17 => wk_i ?_)
              have hbz17 := hlk 1 1 (clk + 1) (sz + pc) (fm - (pc + (lkV sq (FL B kd v (clk) (sz) (fm)) 0 0 + 0))) (by decide) (by decide)
              unfold mkLk at hbz17
              refine wi_ic ct_155_30 kc_1 ?_
              refine wi_iadd ct_155_31 rfl ?_
              refine wi_idiv ct_155_32 (i_nz (i_add hz17 ki_1 (by omega)) (by omega)) rfl ?_
              have hd2 := i_div hd1 (i_add hz17 ki_1 (by omega)) (by omega) (by omega)
              have hd3 : ((((10 * (fi2 31 28 - (zpc + (z13 + 0)))) / ((fi2 31 27 + zpc) + 1)) / (z17 + 1))).toInt = gLf (mkLk sq B kd v) ((true, clk + 1, sz + pc, fm - (pc + (lkV sq (FL B kd v (clk) (sz) (fm)) 0 0 + 0)), k + 1) : go_T) := hd2.trans (by unfold gLf mkLk; rw [if_pos rfl])
              have hlf := gLf_bd hlk (R := ((true, clk + 1, sz + pc, fm - (pc + (lkV sq (FL B kd v (clk) (sz) (fm)) 0 0 + 0)), k + 1) : go_T)) (fun _ => ⟨by dsimp only; omega, by dsimp only; omega⟩) (by dsimp only; omega)
              have hlf3 := hlf.2.2 rfl
              dsimp only at hlf3
              refine wi_pf ct_155_33 (sT_31 hS) rfl ?_
              refine wi_aload_0 ct_155_36 ?_
              refine wi_aload_0 ct_155_37 ?_
              refine wi_aload_0 ct_155_38 ?_
              refine wi_gf (x := (fi2 31 27 + zpc)) ct_155_39 (sT_31 hS) rfl rfl (Eq.trans (up2_nj (by decide)) (Eq.trans (congrFun (hgf18 31 (by decide)) _) (Eq.trans (up2_nj (by decide)) (Eq.trans (up2_nj (by decide)) (Eq.trans (up2_nj (by decide)) (Eq.trans (up2_nj (by decide)) (Eq.trans (up2_nj (by decide)) (Eq.trans (up2_nj (by decide)) up2_eq)))))))) ?_
              refine wi_i2l ct_155_42 rfl ?_
              refine wi_aload_0 ct_155_43 ?_
              refine wi_gf (x := (((10 * (fi2 31 28 - (zpc + (z13 + 0)))) / ((fi2 31 27 + zpc) + 1)) / (z17 + 1))) ct_155_44 (sT_31 hS) rfl rfl up2_eq ?_
              refine wi_i2l ct_155_47 rfl ?_
              refine wi_lmul ct_155_48 rfl ?_
              have hm1 := j_mul (j_of (i_add hsz hzpc (by omega))) (j_of hd3) (by omega)
              refine wi_aload_0 ct_155_49 ?_
              refine wi_ic ct_155_50 kc_2 ?_
              refine wi_iload_1 ct_155_51 ?_
              refine wi_ic ct_155_52 kc_1 ?_
              refine wi_cv3 (ls' := [some _, some _, some _, some _, none, none, none]) ct_155_53 (Nat.le_of_ble_eq_true rfl) (by decide) (sT_31 hS) rfl (by decide) rfl rfl (Nat.le_of_ble_eq_true rfl) ?_
              refine c_sum (fi := (up2 f18 31 31 ((((10 * (fi2 31 28 - (zpc + (z13 + 0)))) / ((fi2 31 27 + zpc) + 1)) / (z17 + 1))))) (W0 := 2) (O0 := 1) hS (hq.fr (Eq.trans (up2_nj (by decide)) (Eq.trans (congrFun (hgf18 31 (by decide)) _) (Eq.trans (up2_nj (by decide)) (Eq.trans (up2_nj (by decide)) (Eq.trans (up2_nj (by decide)) (Eq.trans (up2_nj (by decide)) (Eq.trans (up2_nj (by decide)) (Eq.trans (up2_nj (by decide)) (Eq.trans (up2_nj (by decide)) (Eq.trans (congrFun (hgf14 31 (by decide)) _) (hf.2 10 (Or.inl (by decide))))))))))))) (Eq.trans (funext fun _ => up2_nq (by decide)) (Eq.trans (hgf18 40 (by decide)) (Eq.trans (funext fun _ => up2_nq (by decide)) (Eq.trans (funext fun _ => up2_nq (by decide)) (Eq.trans (funext fun _ => up2_nq (by decide)) (Eq.trans (funext fun _ => up2_nq (by decide)) (Eq.trans (funext fun _ => up2_nq (by decide)) (Eq.trans (funext fun _ => up2_nq (by decide)) (Eq.trans (funext fun _ => up2_nq (by decide)) (Eq.trans (hgf14 40 (by decide)) (hf.1 40 (by decide) (by decide)))))))))))) (Eq.trans (funext fun _ => up2_nq (by decide)) (Eq.trans (hgf18 41 (by decide)) (Eq.trans (funext fun _ => up2_nq (by decide)) (Eq.trans (funext fun _ => up2_nq (by decide)) (Eq.trans (funext fun _ => up2_nq (by decide)) (Eq.trans (funext fun _ => up2_nq (by decide)) (Eq.trans (funext fun _ => up2_nq (by decide)) (Eq.trans (funext fun _ => up2_nq (by decide)) (Eq.trans (funext fun _ => up2_nq (by decide)) (Eq.trans (hgf14 41 (by decide)) (hf.1 41 (by decide) (by decide)))))))))))) (Eq.trans (funext fun _ => up2_nq (by decide)) (Eq.trans (hgf18 42 (by decide)) (Eq.trans (funext fun _ => up2_nq (by decide)) (Eq.trans (funext fun _ => up2_nq (by decide)) (Eq.trans (funext fun _ => up2_nq (by decide)) (Eq.trans (funext fun _ => up2_nq (by decide)) (Eq.trans (funext fun _ => up2_nq (by decide)) (Eq.trans (funext fun _ => up2_nq (by decide)) (Eq.trans (funext fun _ => up2_nq (by decide)) (Eq.trans (hgf14 42 (by decide)) (hf.1 42 (by decide) (by decide)))))))))))) (Eq.trans (funext fun _ => up2_nq (by decide)) (Eq.trans (hgf18 43 (by decide)) (Eq.trans (funext fun _ => up2_nq (by decide)) (Eq.trans (funext fun _ => up2_nq (by decide)) (Eq.trans (funext fun _ => up2_nq (by decide)) (Eq.trans (funext fun _ => up2_nq (by decide)) (Eq.trans (funext fun _ => up2_nq (by decide)) (Eq.trans (funext fun _ => up2_nq (by decide)) (Eq.trans (funext fun _ => up2_nq (by decide)) (Eq.trans (hgf14 43 (by decide)) (hf.1 43 (by decide) (by decide)))))))))))) (Eq.trans (funext fun _ => up2_nq (by decide)) (Eq.trans (hgf18 44 (by decide)) (Eq.trans (funext fun _ => up2_nq (by decide)) (Eq.trans (funext fun _ => up2_nq (by decide)) (Eq.trans (funext fun _ => up2_nq (by decide)) (Eq.trans (funext fun _ => up2_nq (by decide)) (Eq.trans (funext fun _ => up2_nq (by decide)) (Eq.trans (funext fun _ => up2_nq (by decide)) (Eq.trans (funext fun _ => up2_nq (by decide)) (Eq.trans (hgf14 44 (by decide)) (hf.1 44 (by decide) (by decide)))))))))))) (Eq.trans (funext fun _ => up2_nq (by decide)) (Eq.trans (hgf18 45 (by decide)) (Eq.trans (funext fun _ => up2_nq (by decide)) (Eq.trans (funext fun _ => up2_nq (by decide)) (Eq.trans (funext fun _ => up2_nq (by decide)) (Eq.trans (funext fun _ => up2_nq (by decide)) (Eq.trans (funext fun _ => up2_nq (by decide)) (Eq.trans (funext fun _ => up2_nq (by decide)) (Eq.trans (funext fun _ => up2_nq (by decide)) (Eq.trans (hgf14 45 (by decide)) (hf.1 45 (by decide) (by decide))))))))))))) ki_2 (by decide) ki_1 hb hb5 (clk + 1) (sz + pc) (fm - (pc + (lkV sq (FL B kd v (clk) (sz) (fm)) 0 0 + 0))) kd v (((congrArg Int32.toInt (Eq.trans (up2_nj (by decide)) (Eq.trans (congrFun (hgf18 31 (by decide)) _) (Eq.trans (up2_nj (by decide)) (Eq.trans (up2_nj (by decide)) (Eq.trans (up2_nj (by decide)) (Eq.trans (up2_nj (by decide)) up2_eq))))))).trans (i_add hclk ki_1 (by omega))).trans (by omega)) (by omega) (((congrArg Int32.toInt (Eq.trans (up2_nj (by decide)) (Eq.trans (congrFun (hgf18 31 (by decide)) _) (Eq.trans (up2_nj (by decide)) (Eq.trans (up2_nj (by decide)) (Eq.trans (up2_nj (by decide)) (Eq.trans (up2_nj (by decide)) (Eq.trans (up2_nj (by decide)) (Eq.trans (up2_nj (by decide)) up2_eq))))))))).trans (i_add hsz hzpc (by omega))).trans (by omega)) (by omega) (((congrArg Int32.toInt (Eq.trans (up2_nj (by decide)) (Eq.trans (congrFun (hgf18 31 (by decide)) _) (Eq.trans (up2_nj (by decide)) (Eq.trans (up2_nj (by decide)) (Eq.trans (up2_nj (by decide)) (Eq.trans (up2_nj (by decide)) (Eq.trans (up2_nj (by decide)) up2_eq)))))))).trans (i_sub hfm (i_add hzpc (i_add hz13 ki_0 (by omega)) (by omega)) (by omega))).trans (by omega)) (by omega) ((congrArg Int32.toInt (congrFun (Eq.trans (funext fun _ => up2_nq (by decide)) (Eq.trans (hgf18 32 (by decide)) (Eq.trans (funext fun _ => up2_nq (by decide)) (Eq.trans (funext fun _ => up2_nq (by decide)) (Eq.trans (funext fun _ => up2_nq (by decide)) (Eq.trans (funext fun _ => up2_nq (by decide)) (Eq.trans (funext fun _ => up2_nq (by decide)) (Eq.trans (funext fun _ => up2_nq (by decide)) (Eq.trans (funext fun _ => up2_nq (by decide)) (Eq.trans (hgf14 32 (by decide)) (hf.1 32 (by decide) (by decide)))))))))))) _)).trans hkd) ((congrArg Int32.toInt (congrFun (Eq.trans (funext fun _ => up2_nq (by decide)) (Eq.trans (hgf18 33 (by decide)) (Eq.trans (funext fun _ => up2_nq (by decide)) (Eq.trans (funext fun _ => up2_nq (by decide)) (Eq.trans (funext fun _ => up2_nq (by decide)) (Eq.trans (funext fun _ => up2_nq (by decide)) (Eq.trans (funext fun _ => up2_nq (by decide)) (Eq.trans (funext fun _ => up2_nq (by decide)) (Eq.trans (funext fun _ => up2_nq (by decide)) (Eq.trans (hgf14 33 (by decide)) (hf.1 33 (by decide) (by decide)))))))))))) _)).trans hv) (fun z19 f20 hgf20 hz19 => wk_i ?_)
              have hbz19 := hlk 2 1 (clk + 1) (sz + pc) (fm - (pc + (lkV sq (FL B kd v (clk) (sz) (fm)) 0 0 + 0))) (by decide) (by decide)
              unfold mkLk at hbz19
              refine wi_i2l ct_155_56 rfl ?_
              refine wi_lmul ct_155_57 rfl ?_
              have hm0 := Int.mul_nonneg hlf3.2 hbz19.1
              have hmx := Int.mul_le_mul hlf3.1 hbz19.2 hbz19.1 (by decide)
              have hm2 := j_mul hm1 (j_of hz19) (by omega)
              refine wi_cv1 (ls' := [some _, some _, none]) ct_155_58 (Nat.le_of_ble_eq_true rfl) (by decide) (sT_31 hS) rfl (by decide) rfl rfl (Nat.le_of_ble_eq_true rfl) ?_
              refine wi_lload_1 ct_156_0 ?_
              refine wi_lc ct_156_1 kl_99999 ?_
              refine wi_lcmp ct_156_4 rfl ?_
              refine wi_ifge ct_156_5 rfl (fun hcm => ?_) (fun hcm => ?_)
              · skip
                replace hcm := lcmp_ge hm2 (show (99999 : Int64).toInt = 99999 from rfl) hcm
                refine wi_lc ct_156_12 kl_99999 ?_
                refine wi_lret ct_156_15 (wk_j ?_)
                refine wi_l2i ct_155_61 rfl ?_
                have hbr : ((Int64.toInt32 99999)).toInt = gBr (mkLk sq B kd v) ((true, clk + 1, sz + pc, fm - (pc + (lkV sq (FL B kd v (clk) (sz) (fm)) 0 0 + 0)), k + 1) : go_T) := by unfold gBr; rw [if_pos rfl]; exact (show (99999 : Int64).toInt32.toInt = 99999 from rfl).trans (Int.min_eq_right hcm).symm
                refine wi_pf ct_155_62 (sT_31 hS) rfl ?_
                refine wi_ret ct_155_65 (wk_v ?_)
                refine wi_aload_0 ct_157_223 ?_
                refine wi_ic ct_157_224 kc_0 ?_
                refine wi_pf ct_157_225 (sT_31 hS) rfl ?_
                refine wi_aload_0 ct_157_228 ?_
                refine wi_ic ct_157_229 kc_0 ?_
                refine wi_pf ct_157_230 (sT_31 hS) rfl ?_
                refine wi_ret ct_157_233 ?_
                rw [goL_2 hpc (show windV (mkLk sq B kd v) gust false k clk sz fm = lkV sq (FL B kd v (clk) (sz) (fm)) 0 0 + 0 from by unfold windV mkLk; rw [if_neg hk0]; rfl) (by omega) hs] at hR
                subst hR
                refine kk _ ⟨fun q h1 h2 => (Eq.trans (funext fun _ => up2_nq h2) (Eq.trans (funext fun _ => up2_nq h2) (Eq.trans (funext fun _ => up2_nq h2) (Eq.trans (hgf20 q h1) (Eq.trans (funext fun _ => up2_nq h2) (Eq.trans (hgf18 q h1) (Eq.trans (funext fun _ => up2_nq h2) (Eq.trans (funext fun _ => up2_nq h2) (Eq.trans (funext fun _ => up2_nq h2) (Eq.trans (funext fun _ => up2_nq h2) (Eq.trans (funext fun _ => up2_nq h2) (Eq.trans (funext fun _ => up2_nq h2) (Eq.trans (funext fun _ => up2_nq h2) (Eq.trans (hgf14 q h1) (hf.1 q h1 h2))))))))))))))), fun j hj => (Eq.trans (up2_nj (by omega)) (Eq.trans (up2_nj (by omega)) (Eq.trans (up2_nj (by omega)) (Eq.trans (congrFun (hgf20 31 (by decide)) _) (Eq.trans (up2_nj (by omega)) (Eq.trans (congrFun (hgf18 31 (by decide)) _) (Eq.trans (up2_nj (by omega)) (Eq.trans (up2_nj (by omega)) (Eq.trans (up2_nj (by omega)) (Eq.trans (up2_nj (by omega)) (Eq.trans (up2_nj (by omega)) (Eq.trans (up2_nj (by omega)) (Eq.trans (up2_nj (by omega)) (Eq.trans (congrFun (hgf14 31 (by decide)) _) (hf.2 j hj)))))))))))))))⟩ ?_ ?_ ?_ ?_ ?_
                · exact ((congrArg Int32.toInt (Eq.trans (up2_nj (by decide)) (Eq.trans (up2_nj (by decide)) (Eq.trans (up2_nj (by decide)) (Eq.trans (congrFun (hgf20 31 (by decide)) _) (Eq.trans (up2_nj (by decide)) (Eq.trans (congrFun (hgf18 31 (by decide)) _) up2_eq))))))).trans (i_add hsz hzpc (by omega))).trans (by unfold gSz; rw [if_pos rfl])
                · exact ((congrArg Int32.toInt (Eq.trans (up2_nj (by decide)) (Eq.trans (up2_nj (by decide)) (Eq.trans (up2_nj (by decide)) (Eq.trans (congrFun (hgf20 31 (by decide)) _) up2_eq))))).trans hd3)
                · exact ((congrArg Int32.toInt (Eq.trans (up2_nj (by decide)) (Eq.trans (up2_nj (by decide)) up2_eq))).trans hbr)
                · exact ((congrArg Int32.toInt (Eq.trans (up2_nj (by decide)) (Eq.trans (up2_nj (by decide)) (Eq.trans (up2_nj (by decide)) (Eq.trans (congrFun (hgf20 31 (by decide)) _) (Eq.trans (up2_nj (by decide)) (Eq.trans (congrFun (hgf18 31 (by decide)) _) (Eq.trans (up2_nj (by decide)) up2_eq)))))))).trans (i_add hik ki_1 (by omega))).trans (by unfold gMn; dsimp only; omega)
                · exact (Eq.trans (up2_nj (by decide)) (Eq.trans (up2_nj (by decide)) (Eq.trans (up2_nj (by decide)) (Eq.trans (congrFun (hgf20 31 (by decide)) _) (Eq.trans (up2_nj (by decide)) (Eq.trans (congrFun (hgf18 31 (by decide)) _) (Eq.trans (up2_nj (by decide)) (Eq.trans (up2_nj (by decide)) up2_eq))))))))
              · skip
                replace hcm := lcmp_lt hm2 (show (99999 : Int64).toInt = 99999 from rfl) hcm
                refine wi_lload_1 ct_156_8 ?_
                refine wi_goto ct_156_9 ?_
                refine wi_lret ct_156_15 (wk_j ?_)
                refine wi_l2i ct_155_61 rfl ?_
                have hbr : ((Int64.toInt32 (((Int32.toInt64 (fi2 31 27 + zpc)) * (Int32.toInt64 (((10 * (fi2 31 28 - (zpc + (z13 + 0)))) / ((fi2 31 27 + zpc) + 1)) / (z17 + 1)))) * (Int32.toInt64 z19)))).toInt = gBr (mkLk sq B kd v) ((true, clk + 1, sz + pc, fm - (pc + (lkV sq (FL B kd v (clk) (sz) (fm)) 0 0 + 0)), k + 1) : go_T) := (j_l2i hm2 (by omega)).trans (by unfold gBr; rw [if_pos rfl]; exact (Int.min_eq_left (Int.le_of_lt hcm)).symm)
                refine wi_pf ct_155_62 (sT_31 hS) rfl ?_
                refine wi_ret ct_155_65 (wk_v ?_)
                refine wi_aload_0 ct_157_223 ?_
                refine wi_ic ct_157_224 kc_0 ?_
                refine wi_pf ct_157_225 (sT_31 hS) rfl ?_
                refine wi_aload_0 ct_157_228 ?_
                refine wi_ic ct_157_229 kc_0 ?_
                refine wi_pf ct_157_230 (sT_31 hS) rfl ?_
                refine wi_ret ct_157_233 ?_
                rw [goL_2 hpc (show windV (mkLk sq B kd v) gust false k clk sz fm = lkV sq (FL B kd v (clk) (sz) (fm)) 0 0 + 0 from by unfold windV mkLk; rw [if_neg hk0]; rfl) (by omega) hs] at hR
                subst hR
                refine kk _ ⟨fun q h1 h2 => (Eq.trans (funext fun _ => up2_nq h2) (Eq.trans (funext fun _ => up2_nq h2) (Eq.trans (funext fun _ => up2_nq h2) (Eq.trans (hgf20 q h1) (Eq.trans (funext fun _ => up2_nq h2) (Eq.trans (hgf18 q h1) (Eq.trans (funext fun _ => up2_nq h2) (Eq.trans (funext fun _ => up2_nq h2) (Eq.trans (funext fun _ => up2_nq h2) (Eq.trans (funext fun _ => up2_nq h2) (Eq.trans (funext fun _ => up2_nq h2) (Eq.trans (funext fun _ => up2_nq h2) (Eq.trans (funext fun _ => up2_nq h2) (Eq.trans (hgf14 q h1) (hf.1 q h1 h2))))))))))))))), fun j hj => (Eq.trans (up2_nj (by omega)) (Eq.trans (up2_nj (by omega)) (Eq.trans (up2_nj (by omega)) (Eq.trans (congrFun (hgf20 31 (by decide)) _) (Eq.trans (up2_nj (by omega)) (Eq.trans (congrFun (hgf18 31 (by decide)) _) (Eq.trans (up2_nj (by omega)) (Eq.trans (up2_nj (by omega)) (Eq.trans (up2_nj (by omega)) (Eq.trans (up2_nj (by omega)) (Eq.trans (up2_nj (by omega)) (Eq.trans (up2_nj (by omega)) (Eq.trans (up2_nj (by omega)) (Eq.trans (congrFun (hgf14 31 (by decide)) _) (hf.2 j hj)))))))))))))))⟩ ?_ ?_ ?_ ?_ ?_
                · exact ((congrArg Int32.toInt (Eq.trans (up2_nj (by decide)) (Eq.trans (up2_nj (by decide)) (Eq.trans (up2_nj (by decide)) (Eq.trans (congrFun (hgf20 31 (by decide)) _) (Eq.trans (up2_nj (by decide)) (Eq.trans (congrFun (hgf18 31 (by decide)) _) up2_eq))))))).trans (i_add hsz hzpc (by omega))).trans (by unfold gSz; rw [if_pos rfl])
                · exact ((congrArg Int32.toInt (Eq.trans (up2_nj (by decide)) (Eq.trans (up2_nj (by decide)) (Eq.trans (up2_nj (by decide)) (Eq.trans (congrFun (hgf20 31 (by decide)) _) up2_eq))))).trans hd3)
                · exact ((congrArg Int32.toInt (Eq.trans (up2_nj (by decide)) (Eq.trans (up2_nj (by decide)) up2_eq))).trans hbr)
                · exact ((congrArg Int32.toInt (Eq.trans (up2_nj (by decide)) (Eq.trans (up2_nj (by decide)) (Eq.trans (up2_nj (by decide)) (Eq.trans (congrFun (hgf20 31 (by decide)) _) (Eq.trans (up2_nj (by decide)) (Eq.trans (congrFun (hgf18 31 (by decide)) _) (Eq.trans (up2_nj (by decide)) up2_eq)))))))).trans (i_add hik ki_1 (by omega))).trans (by unfold gMn; dsimp only; omega)
                · exact (Eq.trans (up2_nj (by decide)) (Eq.trans (up2_nj (by decide)) (Eq.trans (up2_nj (by decide)) (Eq.trans (congrFun (hgf20 31 (by decide)) _) (Eq.trans (up2_nj (by decide)) (Eq.trans (congrFun (hgf18 31 (by decide)) _) (Eq.trans (up2_nj (by decide)) (Eq.trans (up2_nj (by decide)) up2_eq))))))))
            · skip
              refine wi_iload_3 ct_157_57 ?_
              refine wi_ifne_t ct_157_58 ki_1 (by decide) ?_
              refine wi_aload_0 ct_157_195 ?_
              refine wi_iload_3 ct_157_196 ?_
              refine wi_ifne_t ct_157_197 ki_1 (by decide) ?_
              refine wi_ic ct_157_204 kc_0 ?_
              refine wi_pfz ct_157_205 (sT_31 hS) rfl (by decide) ?_
              refine wi_aload_0 ct_157_208 ?_
              refine wi_iload_4 ct_157_209 ?_
              refine wi_pf ct_157_211 (sT_31 hS) rfl ?_
              refine wi_iload_3 ct_157_214 ?_
              refine wi_ifeq_f ct_157_215 ki_1 (by decide) ?_
              refine wi_aload_0 ct_157_218 ?_
              refine wi_iload_1 ct_157_219 ?_
              refine wi_cv1 (ls' := [some _, some _]) ct_157_220 (Nat.le_of_ble_eq_true rfl) (by decide) (sT_31 hS) rfl (by decide) rfl rfl (Nat.le_of_ble_eq_true rfl) ?_
              refine wi_aload_0 ct_155_0 ?_
              refine wi_aload_0 ct_155_1 ?_
              refine wi_gf (x := (fi2 31 27 + zpc)) ct_155_2 (sT_31 hS) rfl rfl (Eq.trans (up2_nj (by decide)) (Eq.trans (up2_nj (by decide)) (Eq.trans (up2_nj (by decide)) (Eq.trans (up2_nj (by decide)) (Eq.trans (up2_nj (by decide)) up2_eq))))) ?_
              refine wi_pf ct_155_5 (sT_31 hS) rfl ?_
              refine wi_aload_0 ct_155_8 ?_
              refine wi_ic ct_155_9 kc_10 ?_
              refine wi_aload_0 ct_155_11 ?_
              refine wi_gf (x := (fi2 31 28 - (zpc + (z13 + 0)))) ct_155_12 (sT_31 hS) rfl rfl (Eq.trans (up2_nj (by decide)) (Eq.trans (up2_nj (by decide)) (Eq.trans (up2_nj (by decide)) (Eq.trans (up2_nj (by decide)) (Eq.trans (up2_nj (by decide)) up2_eq))))) ?_
              refine wi_imul ct_155_15 rfl ?_
              refine wi_aload_0 ct_155_16 ?_
              refine wi_gf (x := (fi2 31 27 + zpc)) ct_155_17 (sT_31 hS) rfl rfl (Eq.trans (up2_nj (by decide)) (Eq.trans (up2_nj (by decide)) (Eq.trans (up2_nj (by decide)) (Eq.trans (up2_nj (by decide)) (Eq.trans (up2_nj (by decide)) (Eq.trans (up2_nj (by decide)) up2_eq)))))) ?_
              refine wi_ic ct_155_20 kc_1 ?_
              refine wi_iadd ct_155_21 rfl ?_
              refine wi_idiv ct_155_22 (i_nz (i_add (i_add hsz hzpc (by omega)) ki_1 (by omega)) (by omega)) rfl ?_
              have hd1 := i_div (i_mul ki_10 (i_sub hfm (i_add hzpc (i_add hz13 ki_0 (by omega)) (by omega)) (by omega)) (by omega)) (i_add (i_add hsz hzpc (by omega)) ki_1 (by omega)) (by omega) (by omega)
              have hd1b : 0 ≤ 10 * (fm - (pc + (lkV sq (FL B kd v (clk) (sz) (fm)) 0 0 + 0))) / (sz + pc + 1) := Int.ediv_nonneg (by omega) (by omega)
              have hd1c : 10 * (fm - (pc + (lkV sq (FL B kd v (clk) (sz) (fm)) 0 0 + 0))) / (sz + pc + 1) ≤ 10 * (fm - (pc + (lkV sq (FL B kd v (clk) (sz) (fm)) 0 0 + 0))) := Int.ediv_le_self _ (by omega)
              refine wi_aload_0 ct_155_23 ?_
              refine wi_ic ct_155_24 kc_1 ?_
              refine wi_iload_1 ct_155_25 ?_
              refine wi_ic ct_155_26 kc_1 ?_
              refine wi_cv3 (ls' := [some _, some _, some _, some _, none, none, none]) ct_155_27 (Nat.le_of_ble_eq_true rfl) (by decide) (sT_31 hS) rfl (by decide) rfl rfl (Nat.le_of_ble_eq_true rfl) ?_
              refine c_sum (fi := (up2 (up2 (up2 (up2 (up2 (up2 (up2 f14 31 27 ((fi2 31 27 + zpc))) 31 28 ((fi2 31 28 - (zpc + (z13 + 0))))) 31 29 ((fi2 31 29 + 1))) 31 34 (0)) 31 34 (0)) 31 33 ((i + 1))) 31 30 ((fi2 31 27 + zpc)))) (W0 := 1) (O0 := 1) hS (hq.fr (Eq.trans (up2_nj (by decide)) (Eq.trans (up2_nj (by decide)) (Eq.trans (up2_nj (by decide)) (Eq.trans (up2_nj (by decide)) (Eq.trans (up2_nj (by decide)) (Eq.trans (up2_nj (by decide)) (Eq.trans (up2_nj (by decide)) (Eq.trans (congrFun (hgf14 31 (by decide)) _) (hf.2 10 (Or.inl (by decide))))))))))) (Eq.trans (funext fun _ => up2_nq (by decide)) (Eq.trans (funext fun _ => up2_nq (by decide)) (Eq.trans (funext fun _ => up2_nq (by decide)) (Eq.trans (funext fun _ => up2_nq (by decide)) (Eq.trans (funext fun _ => up2_nq (by decide)) (Eq.trans (funext fun _ => up2_nq (by decide)) (Eq.trans (funext fun _ => up2_nq (by decide)) (Eq.trans (hgf14 40 (by decide)) (hf.1 40 (by decide) (by decide)))))))))) (Eq.trans (funext fun _ => up2_nq (by decide)) (Eq.trans (funext fun _ => up2_nq (by decide)) (Eq.trans (funext fun _ => up2_nq (by decide)) (Eq.trans (funext fun _ => up2_nq (by decide)) (Eq.trans (funext fun _ => up2_nq (by decide)) (Eq.trans (funext fun _ => up2_nq (by decide)) (Eq.trans (funext fun _ => up2_nq (by decide)) (Eq.trans (hgf14 41 (by decide)) (hf.1 41 (by decide) (by decide)))))))))) (Eq.trans (funext fun _ => up2_nq (by decide)) (Eq.trans (funext fun _ => up2_nq (by decide)) (Eq.trans (funext fun _ => up2_nq (by decide)) (Eq.trans (funext fun _ => up2_nq (by decide)) (Eq.trans (funext fun _ => up2_nq (by decide)) (Eq.trans (funext fun _ => up2_nq (by decide)) (Eq.trans (funext fun _ => up2_nq (by decide)) (Eq.trans (hgf14 42 (by decide)) (hf.1 42 (by decide) (by decide)))))))))) (Eq.trans (funext fun _ => up2_nq (by decide)) (Eq.trans (funext fun _ => up2_nq (by decide)) (Eq.trans (funext fun _ => up2_nq (by decide)) (Eq.trans (funext fun _ => up2_nq (by decide)) (Eq.trans (funext fun _ => up2_nq (by decide)) (Eq.trans (funext fun _ => up2_nq (by decide)) (Eq.trans (funext fun _ => up2_nq (by decide)) (Eq.trans (hgf14 43 (by decide)) (hf.1 43 (by decide) (by decide)))))))))) (Eq.trans (funext fun _ => up2_nq (by decide)) (Eq.trans (funext fun _ => up2_nq (by decide)) (Eq.trans (funext fun _ => up2_nq (by decide)) (Eq.trans (funext fun _ => up2_nq (by decide)) (Eq.trans (funext fun _ => up2_nq (by decide)) (Eq.trans (funext fun _ => up2_nq (by decide)) (Eq.trans (funext fun _ => up2_nq (by decide)) (Eq.trans (hgf14 44 (by decide)) (hf.1 44 (by decide) (by decide)))))))))) (Eq.trans (funext fun _ => up2_nq (by decide)) (Eq.trans (funext fun _ => up2_nq (by decide)) (Eq.trans (funext fun _ => up2_nq (by decide)) (Eq.trans (funext fun _ => up2_nq (by decide)) (Eq.trans (funext fun _ => up2_nq (by decide)) (Eq.trans (funext fun _ => up2_nq (by decide)) (Eq.trans (funext fun _ => up2_nq (by decide)) (Eq.trans (hgf14 45 (by decide)) (hf.1 45 (by decide) (by decide))))))))))) ki_1 (by decide) ki_1 hb hb5 (clk + 1) (sz + pc) (fm - (pc + (lkV sq (FL B kd v (clk) (sz) (fm)) 0 0 + 0))) kd v (((congrArg Int32.toInt (Eq.trans (up2_nj (by decide)) (Eq.trans (up2_nj (by decide)) (Eq.trans (up2_nj (by decide)) (Eq.trans (up2_nj (by decide)) up2_eq))))).trans (i_add hclk ki_1 (by omega))).trans (by omega)) (by omega) (((congrArg Int32.toInt (Eq.trans (up2_nj (by decide)) (Eq.trans (up2_nj (by decide)) (Eq.trans (up2_nj (by decide)) (Eq.trans (up2_nj (by decide)) (Eq.trans (up2_nj (by decide)) (Eq.trans (up2_nj (by decide)) up2_eq))))))).trans (i_add hsz hzpc (by omega))).trans (by omega)) (by omega) (((congrArg Int32.toInt (Eq.trans (up2_nj (by decide)) (Eq.trans (up2_nj (by decide)) (Eq.trans (up2_nj (by decide)) (Eq.trans (up2_nj (by decide)) (Eq.trans (up2_nj (by decide)) up2_eq)))))).trans (i_sub hfm (i_add hzpc (i_add hz13 ki_0 (by omega)) (by omega)) (by omega))).trans (by omega)) (by omega) ((congrArg Int32.toInt (congrFun (Eq.trans (funext fun _ => up2_nq (by decide)) (Eq.trans (funext fun _ => up2_nq (by decide)) (Eq.trans (funext fun _ => up2_nq (by decide)) (Eq.trans (funext fun _ => up2_nq (by decide)) (Eq.trans (funext fun _ => up2_nq (by decide)) (Eq.trans (funext fun _ => up2_nq (by decide)) (Eq.trans (funext fun _ => up2_nq (by decide)) (Eq.trans (hgf14 32 (by decide)) (hf.1 32 (by decide) (by decide)))))))))) _)).trans hkd) ((congrArg Int32.toInt (congrFun (Eq.trans (funext fun _ => up2_nq (by decide)) (Eq.trans (funext fun _ => up2_nq (by decide)) (Eq.trans (funext fun _ => up2_nq (by decide)) (Eq.trans (funext fun _ => up2_nq (by decide)) (Eq.trans (funext fun _ => up2_nq (by decide)) (Eq.trans (funext fun _ => up2_nq (by decide)) (Eq.trans (funext fun _ => up2_nq (by decide)) (Eq.trans (hgf14 33 (by decide)) (hf.1 33 (by decide) (by decide)))))))))) _)).trans hv) (fun z21 f22 hgf22 hz21 => wk_i ?_)
              have hbz21 := hlk 1 1 (clk + 1) (sz + pc) (fm - (pc + (lkV sq (FL B kd v (clk) (sz) (fm)) 0 0 + 0))) (by decide) (by decide)
              unfold mkLk at hbz21
              refine wi_ic ct_155_30 kc_1 ?_
              refine wi_iadd ct_155_31 rfl ?_
              refine wi_idiv ct_155_32 (i_nz (i_add hz21 ki_1 (by omega)) (by omega)) rfl ?_
              have hd2 := i_div hd1 (i_add hz21 ki_1 (by omega)) (by omega) (by omega)
              have hd3 : ((((10 * (fi2 31 28 - (zpc + (z13 + 0)))) / ((fi2 31 27 + zpc) + 1)) / (z21 + 1))).toInt = gLf (mkLk sq B kd v) ((true, clk + 1, sz + pc, fm - (pc + (lkV sq (FL B kd v (clk) (sz) (fm)) 0 0 + 0)), k + 1) : go_T) := hd2.trans (by unfold gLf mkLk; rw [if_pos rfl])
              have hlf := gLf_bd hlk (R := ((true, clk + 1, sz + pc, fm - (pc + (lkV sq (FL B kd v (clk) (sz) (fm)) 0 0 + 0)), k + 1) : go_T)) (fun _ => ⟨by dsimp only; omega, by dsimp only; omega⟩) (by dsimp only; omega)
              have hlf3 := hlf.2.2 rfl
              dsimp only at hlf3
              refine wi_pf ct_155_33 (sT_31 hS) rfl ?_
              refine wi_aload_0 ct_155_36 ?_
              refine wi_aload_0 ct_155_37 ?_
              refine wi_aload_0 ct_155_38 ?_
              refine wi_gf (x := (fi2 31 27 + zpc)) ct_155_39 (sT_31 hS) rfl rfl (Eq.trans (up2_nj (by decide)) (Eq.trans (congrFun (hgf22 31 (by decide)) _) (Eq.trans (up2_nj (by decide)) (Eq.trans (up2_nj (by decide)) (Eq.trans (up2_nj (by decide)) (Eq.trans (up2_nj (by decide)) (Eq.trans (up2_nj (by decide)) (Eq.trans (up2_nj (by decide)) up2_eq)))))))) ?_
              refine wi_i2l ct_155_42 rfl ?_
              refine wi_aload_0 ct_155_43 ?_
              refine wi_gf (x := (((10 * (fi2 31 28 - (zpc + (z13 + 0)))) / ((fi2 31 27 + zpc) + 1)) / (z21 + 1))) ct_155_44 (sT_31 hS) rfl rfl up2_eq ?_
              refine wi_i2l ct_155_47 rfl ?_
              refine wi_lmul ct_155_48 rfl ?_
              have hm1 := j_mul (j_of (i_add hsz hzpc (by omega))) (j_of hd3) (by omega)
              refine wi_aload_0 ct_155_49 ?_
              refine wi_ic ct_155_50 kc_2 ?_
              refine wi_iload_1 ct_155_51 ?_
              refine wi_ic ct_155_52 kc_1 ?_
              refine wi_cv3 (ls' := [some _, some _, some _, some _, none, none, none]) ct_155_53 (Nat.le_of_ble_eq_true rfl) (by decide) (sT_31 hS) rfl (by decide) rfl rfl (Nat.le_of_ble_eq_true rfl) ?_
              refine c_sum (fi := (up2 f22 31 31 ((((10 * (fi2 31 28 - (zpc + (z13 + 0)))) / ((fi2 31 27 + zpc) + 1)) / (z21 + 1))))) (W0 := 2) (O0 := 1) hS (hq.fr (Eq.trans (up2_nj (by decide)) (Eq.trans (congrFun (hgf22 31 (by decide)) _) (Eq.trans (up2_nj (by decide)) (Eq.trans (up2_nj (by decide)) (Eq.trans (up2_nj (by decide)) (Eq.trans (up2_nj (by decide)) (Eq.trans (up2_nj (by decide)) (Eq.trans (up2_nj (by decide)) (Eq.trans (up2_nj (by decide)) (Eq.trans (congrFun (hgf14 31 (by decide)) _) (hf.2 10 (Or.inl (by decide))))))))))))) (Eq.trans (funext fun _ => up2_nq (by decide)) (Eq.trans (hgf22 40 (by decide)) (Eq.trans (funext fun _ => up2_nq (by decide)) (Eq.trans (funext fun _ => up2_nq (by decide)) (Eq.trans (funext fun _ => up2_nq (by decide)) (Eq.trans (funext fun _ => up2_nq (by decide)) (Eq.trans (funext fun _ => up2_nq (by decide)) (Eq.trans (funext fun _ => up2_nq (by decide)) (Eq.trans (funext fun _ => up2_nq (by decide)) (Eq.trans (hgf14 40 (by decide)) (hf.1 40 (by decide) (by decide)))))))))))) (Eq.trans (funext fun _ => up2_nq (by decide)) (Eq.trans (hgf22 41 (by decide)) (Eq.trans (funext fun _ => up2_nq (by decide)) (Eq.trans (funext fun _ => up2_nq (by decide)) (Eq.trans (funext fun _ => up2_nq (by decide)) (Eq.trans (funext fun _ => up2_nq (by decide)) (Eq.trans (funext fun _ => up2_nq (by decide)) (Eq.trans (funext fun _ => up2_nq (by decide)) (Eq.trans (funext fun _ => up2_nq (by decide)) (Eq.trans (hgf14 41 (by decide)) (hf.1 41 (by decide) (by decide)))))))))))) (Eq.trans (funext fun _ => up2_nq (by decide)) (Eq.trans (hgf22 42 (by decide)) (Eq.trans (funext fun _ => up2_nq (by decide)) (Eq.trans (funext fun _ => up2_nq (by decide)) (Eq.trans (funext fun _ => up2_nq (by decide)) (Eq.trans (funext fun _ => up2_nq (by decide)) (Eq.trans (funext fun _ => up2_nq (by decide)) (Eq.trans (funext fun _ => up2_nq (by decide)) (Eq.trans (funext fun _ => up2_nq (by decide)) (Eq.trans (hgf14 42 (by decide)) (hf.1 42 (by decide) (by decide)))))))))))) (Eq.trans (funext fun _ => up2_nq (by decide)) (Eq.trans (hgf22 43 (by decide)) (Eq.trans (funext fun _ => up2_nq (by decide)) (Eq.trans (funext fun _ => up2_nq (by decide)) (Eq.trans (funext fun _ => up2_nq (by decide)) (Eq.trans (funext fun _ => up2_nq (by decide)) (Eq.trans (funext fun _ => up2_nq (by decide)) (Eq.trans (funext fun _ => up2_nq (by decide)) (Eq.trans (funext fun _ => up2_nq (by decide)) (Eq.trans (hgf14 43 (by decide)) (hf.1 43 (by decide) (by decide)))))))))))) (Eq.trans (funext fun _ => up2_nq (by decide)) (Eq.trans (hgf22 44 (by decide)) (Eq.trans (funext fun _ => up2_nq (by decide)) (Eq.trans (funext fun _ => up2_nq (by decide)) (Eq.trans (funext fun _ => up2_nq (by decide)) (Eq.trans (funext fun _ => up2_nq (by decide)) (Eq.trans (funext fun _ => up2_nq (by decide)) (Eq.trans (funext fun _ => up2_nq (by decide)) (Eq.trans (funext fun _ => up2_nq (by decide)) (Eq.trans (hgf14 44 (by decide)) (hf.1 44 (by decide) (by decide)))))))))))) (Eq.trans (funext fun _ => up2_nq (by decide)) (Eq.trans (hgf22 45 (by decide)) (Eq.trans (funext fun _ => up2_nq (by decide)) (Eq.trans (funext fun _ => up2_nq (by decide)) (Eq.trans (funext fun _ => up2_nq (by decide)) (Eq.trans (funext fun _ => up2_nq (by decide)) (Eq.trans (funext fun _ => up2_nq (by decide)) (Eq.trans (funext fun _ => up2_nq (by decide)) (Eq.trans (funext fun _ => up2_nq (by decide)) (Eq.trans (hgf14 45 (by decide)) (hf.1 45 (by decide) (by decide))))))))))))) ki_2 (by decide) ki_1 hb hb5 (clk + 1) (sz + pc) (fm - (pc + (lkV sq (FL B kd v (clk) (sz) (fm)) 0 0 + 0))) kd v (((congrArg Int32.toInt (Eq.trans (up2_nj (by decide)) (Eq.trans (congrFun (hgf22 31 (by decide)) _) (Eq.trans (up2_nj (by decide)) (Eq.trans (up2_nj (by decide)) (Eq.trans (up2_nj (by decide)) (Eq.trans (up2_nj (by decide)) up2_eq))))))).trans (i_add hclk ki_1 (by omega))).trans (by omega)) (by omega) (((congrArg Int32.toInt (Eq.trans (up2_nj (by decide)) (Eq.trans (congrFun (hgf22 31 (by decide)) _) (Eq.trans (up2_nj (by decide)) (Eq.trans (up2_nj (by decide)) (Eq.trans (up2_nj (by decide)) (Eq.trans (up2_nj (by decide)) (Eq.trans (up2_nj (by decide)) (Eq.trans (up2_nj (by decide)) up2_eq))))))))).trans (i_add hsz hzpc (by omega))).trans (by omega)) (by omega) (((congrArg Int32.toInt (Eq.trans (up2_nj (by decide)) (Eq.trans (congrFun (hgf22 31 (by decide)) _) (Eq.trans (up2_nj (by decide)) (Eq.trans (up2_nj (by decide)) (Eq.trans (up2_nj (by decide)) (Eq.trans (up2_nj (by decide)) (Eq.trans (up2_nj (by decide)) up2_eq)))))))).trans (i_sub hfm (i_add hzpc (i_add hz13 ki_0 (by omega)) (by omega)) (by omega))).trans (by omega)) (by omega) ((congrArg Int32.toInt (congrFun (Eq.trans (funext fun _ => up2_nq (by decide)) (Eq.trans (hgf22 32 (by decide)) (Eq.trans (funext fun _ => up2_nq (by decide)) (Eq.trans (funext fun _ => up2_nq (by decide)) (Eq.trans (funext fun _ => up2_nq (by decide)) (Eq.trans (funext fun _ => up2_nq (by decide)) (Eq.trans (funext fun _ => up2_nq (by decide)) (Eq.trans (funext fun _ => up2_nq (by decide)) (Eq.trans (funext fun _ => up2_nq (by decide)) (Eq.trans (hgf14 32 (by decide)) (hf.1 32 (by decide) (by decide)))))))))))) _)).trans hkd) ((congrArg Int32.toInt (congrFun (Eq.trans (funext fun _ => up2_nq (by decide)) (Eq.trans (hgf22 33 (by decide)) (Eq.trans (funext fun _ => up2_nq (by decide)) (Eq.trans (funext fun _ => up2_nq (by decide)) (Eq.trans (funext fun _ => up2_nq (by decide)) (Eq.trans (funext fun _ => up2_nq (by decide)) (Eq.trans (funext fun _ => up2_nq (by decide)) (Eq.trans (funext fun _ => up2_nq (by decide)) (Eq.trans (funext fun _ => up2_nq (by decide)) (Eq.trans (hgf14 33 (by decide)) (hf.1 33 (by decide) (by decide)))))))))))) _)).trans hv) (fun z23 f24 hgf24 hz23 => wk_i ?_)
              have hbz23 := hlk 2 1 (clk + 1) (sz + pc) (fm - (pc + (lkV sq (FL B kd v (clk) (sz) (fm)) 0 0 + 0))) (by decide) (by decide)
              unfold mkLk at hbz23
              refine wi_i2l ct_155_56 rfl ?_
              refine wi_lmul ct_155_57 rfl ?_
              have hm0 := Int.mul_nonneg hlf3.2 hbz23.1
              have hmx := Int.mul_le_mul hlf3.1 hbz23.2 hbz23.1 (by decide)
              have hm2 := j_mul hm1 (j_of hz23) (by omega)
              refine wi_cv1 (ls' := [some _, some _, none]) ct_155_58 (Nat.le_of_ble_eq_true rfl) (by decide) (sT_31 hS) rfl (by decide) rfl rfl (Nat.le_of_ble_eq_true rfl) ?_
              refine wi_lload_1 ct_156_0 ?_
              refine wi_lc ct_156_1 kl_99999 ?_
              refine wi_lcmp ct_156_4 rfl ?_
              refine wi_ifge ct_156_5 rfl (fun hcm => ?_) (fun hcm => ?_)
              · skip
                replace hcm := lcmp_ge hm2 (show (99999 : Int64).toInt = 99999 from rfl) hcm
                refine wi_lc ct_156_12 kl_99999 ?_
                refine wi_lret ct_156_15 (wk_j ?_)
                refine wi_l2i ct_155_61 rfl ?_
                have hbr : ((Int64.toInt32 99999)).toInt = gBr (mkLk sq B kd v) ((true, clk + 1, sz + pc, fm - (pc + (lkV sq (FL B kd v (clk) (sz) (fm)) 0 0 + 0)), k + 1) : go_T) := by unfold gBr; rw [if_pos rfl]; exact (show (99999 : Int64).toInt32.toInt = 99999 from rfl).trans (Int.min_eq_right hcm).symm
                refine wi_pf ct_155_62 (sT_31 hS) rfl ?_
                refine wi_ret ct_155_65 (wk_v ?_)
                refine wi_aload_0 ct_157_223 ?_
                refine wi_ic ct_157_224 kc_0 ?_
                refine wi_pf ct_157_225 (sT_31 hS) rfl ?_
                refine wi_aload_0 ct_157_228 ?_
                refine wi_ic ct_157_229 kc_0 ?_
                refine wi_pf ct_157_230 (sT_31 hS) rfl ?_
                refine wi_ret ct_157_233 ?_
                rw [goL_2 hpc (show windV (mkLk sq B kd v) gust false k clk sz fm = lkV sq (FL B kd v (clk) (sz) (fm)) 0 0 + 0 from by unfold windV mkLk; rw [if_neg hk0]; rfl) (by omega) hs] at hR
                subst hR
                refine kk _ ⟨fun q h1 h2 => (Eq.trans (funext fun _ => up2_nq h2) (Eq.trans (funext fun _ => up2_nq h2) (Eq.trans (funext fun _ => up2_nq h2) (Eq.trans (hgf24 q h1) (Eq.trans (funext fun _ => up2_nq h2) (Eq.trans (hgf22 q h1) (Eq.trans (funext fun _ => up2_nq h2) (Eq.trans (funext fun _ => up2_nq h2) (Eq.trans (funext fun _ => up2_nq h2) (Eq.trans (funext fun _ => up2_nq h2) (Eq.trans (funext fun _ => up2_nq h2) (Eq.trans (funext fun _ => up2_nq h2) (Eq.trans (funext fun _ => up2_nq h2) (Eq.trans (hgf14 q h1) (hf.1 q h1 h2))))))))))))))), fun j hj => (Eq.trans (up2_nj (by omega)) (Eq.trans (up2_nj (by omega)) (Eq.trans (up2_nj (by omega)) (Eq.trans (congrFun (hgf24 31 (by decide)) _) (Eq.trans (up2_nj (by omega)) (Eq.trans (congrFun (hgf22 31 (by decide)) _) (Eq.trans (up2_nj (by omega)) (Eq.trans (up2_nj (by omega)) (Eq.trans (up2_nj (by omega)) (Eq.trans (up2_nj (by omega)) (Eq.trans (up2_nj (by omega)) (Eq.trans (up2_nj (by omega)) (Eq.trans (up2_nj (by omega)) (Eq.trans (congrFun (hgf14 31 (by decide)) _) (hf.2 j hj)))))))))))))))⟩ ?_ ?_ ?_ ?_ ?_
                · exact ((congrArg Int32.toInt (Eq.trans (up2_nj (by decide)) (Eq.trans (up2_nj (by decide)) (Eq.trans (up2_nj (by decide)) (Eq.trans (congrFun (hgf24 31 (by decide)) _) (Eq.trans (up2_nj (by decide)) (Eq.trans (congrFun (hgf22 31 (by decide)) _) up2_eq))))))).trans (i_add hsz hzpc (by omega))).trans (by unfold gSz; rw [if_pos rfl])
                · exact ((congrArg Int32.toInt (Eq.trans (up2_nj (by decide)) (Eq.trans (up2_nj (by decide)) (Eq.trans (up2_nj (by decide)) (Eq.trans (congrFun (hgf24 31 (by decide)) _) up2_eq))))).trans hd3)
                · exact ((congrArg Int32.toInt (Eq.trans (up2_nj (by decide)) (Eq.trans (up2_nj (by decide)) up2_eq))).trans hbr)
                · exact ((congrArg Int32.toInt (Eq.trans (up2_nj (by decide)) (Eq.trans (up2_nj (by decide)) (Eq.trans (up2_nj (by decide)) (Eq.trans (congrFun (hgf24 31 (by decide)) _) (Eq.trans (up2_nj (by decide)) (Eq.trans (congrFun (hgf22 31 (by decide)) _) (Eq.trans (up2_nj (by decide)) up2_eq)))))))).trans (i_add hik ki_1 (by omega))).trans (by unfold gMn; dsimp only; omega)
                · exact (Eq.trans (up2_nj (by decide)) (Eq.trans (up2_nj (by decide)) (Eq.trans (up2_nj (by decide)) (Eq.trans (congrFun (hgf24 31 (by decide)) _) (Eq.trans (up2_nj (by decide)) (Eq.trans (congrFun (hgf22 31 (by decide)) _) (Eq.trans (up2_nj (by decide)) (Eq.trans (up2_nj (by decide)) up2_eq))))))))
              · skip
                replace hcm := lcmp_lt hm2 (show (99999 : Int64).toInt = 99999 from rfl) hcm
                refine wi_lload_1 ct_156_8 ?_
                refine wi_goto ct_156_9 ?_
                refine wi_lret ct_156_15 (wk_j ?_)
                refine wi_l2i ct_155_61 rfl ?_
                have hbr : ((Int64.toInt32 (((Int32.toInt64 (fi2 31 27 + zpc)) * (Int32.toInt64 (((10 * (fi2 31 28 - (zpc + (z13 + 0)))) / ((fi2 31 27 + zpc) + 1)) / (z21 + 1)))) * (Int32.toInt64 z23)))).toInt = gBr (mkLk sq B kd v) ((true, clk + 1, sz + pc, fm - (pc + (lkV sq (FL B kd v (clk) (sz) (fm)) 0 0 + 0)), k + 1) : go_T) := (j_l2i hm2 (by omega)).trans (by unfold gBr; rw [if_pos rfl]; exact (Int.min_eq_left (Int.le_of_lt hcm)).symm)
                refine wi_pf ct_155_62 (sT_31 hS) rfl ?_
                refine wi_ret ct_155_65 (wk_v ?_)
                refine wi_aload_0 ct_157_223 ?_
                refine wi_ic ct_157_224 kc_0 ?_
                refine wi_pf ct_157_225 (sT_31 hS) rfl ?_
                refine wi_aload_0 ct_157_228 ?_
                refine wi_ic ct_157_229 kc_0 ?_
                refine wi_pf ct_157_230 (sT_31 hS) rfl ?_
                refine wi_ret ct_157_233 ?_
                rw [goL_2 hpc (show windV (mkLk sq B kd v) gust false k clk sz fm = lkV sq (FL B kd v (clk) (sz) (fm)) 0 0 + 0 from by unfold windV mkLk; rw [if_neg hk0]; rfl) (by omega) hs] at hR
                subst hR
                refine kk _ ⟨fun q h1 h2 => (Eq.trans (funext fun _ => up2_nq h2) (Eq.trans (funext fun _ => up2_nq h2) (Eq.trans (funext fun _ => up2_nq h2) (Eq.trans (hgf24 q h1) (Eq.trans (funext fun _ => up2_nq h2) (Eq.trans (hgf22 q h1) (Eq.trans (funext fun _ => up2_nq h2) (Eq.trans (funext fun _ => up2_nq h2) (Eq.trans (funext fun _ => up2_nq h2) (Eq.trans (funext fun _ => up2_nq h2) (Eq.trans (funext fun _ => up2_nq h2) (Eq.trans (funext fun _ => up2_nq h2) (Eq.trans (funext fun _ => up2_nq h2) (Eq.trans (hgf14 q h1) (hf.1 q h1 h2))))))))))))))), fun j hj => (Eq.trans (up2_nj (by omega)) (Eq.trans (up2_nj (by omega)) (Eq.trans (up2_nj (by omega)) (Eq.trans (congrFun (hgf24 31 (by decide)) _) (Eq.trans (up2_nj (by omega)) (Eq.trans (congrFun (hgf22 31 (by decide)) _) (Eq.trans (up2_nj (by omega)) (Eq.trans (up2_nj (by omega)) (Eq.trans (up2_nj (by omega)) (Eq.trans (up2_nj (by omega)) (Eq.trans (up2_nj (by omega)) (Eq.trans (up2_nj (by omega)) (Eq.trans (up2_nj (by omega)) (Eq.trans (congrFun (hgf14 31 (by decide)) _) (hf.2 j hj)))))))))))))))⟩ ?_ ?_ ?_ ?_ ?_
                · exact ((congrArg Int32.toInt (Eq.trans (up2_nj (by decide)) (Eq.trans (up2_nj (by decide)) (Eq.trans (up2_nj (by decide)) (Eq.trans (congrFun (hgf24 31 (by decide)) _) (Eq.trans (up2_nj (by decide)) (Eq.trans (congrFun (hgf22 31 (by decide)) _) up2_eq))))))).trans (i_add hsz hzpc (by omega))).trans (by unfold gSz; rw [if_pos rfl])
                · exact ((congrArg Int32.toInt (Eq.trans (up2_nj (by decide)) (Eq.trans (up2_nj (by decide)) (Eq.trans (up2_nj (by decide)) (Eq.trans (congrFun (hgf24 31 (by decide)) _) up2_eq))))).trans hd3)
                · exact ((congrArg Int32.toInt (Eq.trans (up2_nj (by decide)) (Eq.trans (up2_nj (by decide)) up2_eq))).trans hbr)
                · exact ((congrArg Int32.toInt (Eq.trans (up2_nj (by decide)) (Eq.trans (up2_nj (by decide)) (Eq.trans (up2_nj (by decide)) (Eq.trans (congrFun (hgf24 31 (by decide)) _) (Eq.trans (up2_nj (by decide)) (Eq.trans (congrFun (hgf22 31 (by decide)) _) (Eq.trans (up2_nj (by decide)) up2_eq)))))))).trans (i_add hik ki_1 (by omega))).trans (by unfold gMn; dsimp only; omega)
                · exact (Eq.trans (up2_nj (by decide)) (Eq.trans (up2_nj (by decide)) (Eq.trans (up2_nj (by decide)) (Eq.trans (congrFun (hgf24 31 (by decide)) _) (Eq.trans (up2_nj (by decide)) (Eq.trans (congrFun (hgf22 31 (by decide)) _) (Eq.trans (up2_nj (by decide)) (Eq.trans (up2_nj (by decide)) up2_eq))))))))
          · skip
            refine wi_ifeq_t ct_157_183 ki_0 (by decide) ?_
            refine wi_ic ct_157_190 kc_0 ?_
            refine wi_istore_3 rfl ct_157_191 ?_
            refine wi_goto ct_157_192 ?_
            rw [goL_3 hpc (show windV (mkLk sq B kd v) gust false k clk sz fm = lkV sq (FL B kd v (clk) (sz) (fm)) 0 0 + 0 from by unfold windV mkLk; rw [if_neg hk0]; rfl) (by omega) hs] at hR
            exact ih (k + 1) _ _ _ _ _ _ _ R (by omega) hR ⟨fun q h1 h2 => (Eq.trans (funext fun _ => up2_nq h2) (Eq.trans (funext fun _ => up2_nq h2) (Eq.trans (funext fun _ => up2_nq h2) (Eq.trans (funext fun _ => up2_nq h2) (Eq.trans (hgf14 q h1) (hf.1 q h1 h2)))))), fun j hj => (Eq.trans (up2_nj (by omega)) (Eq.trans (up2_nj (by omega)) (Eq.trans (up2_nj (by omega)) (Eq.trans (up2_nj (by omega)) (Eq.trans (congrFun (hgf14 31 (by decide)) _) (hf.2 j hj))))))⟩ (((i_add hik ki_1 (by omega))).trans (by omega)) (by omega) (by omega) (by omega) (((congrArg Int32.toInt (Eq.trans (up2_nj (by decide)) up2_eq)).trans (i_add hclk ki_1 (by omega))).trans (by omega)) (((congrArg Int32.toInt (Eq.trans (up2_nj (by decide)) (Eq.trans (up2_nj (by decide)) (Eq.trans (up2_nj (by decide)) up2_eq)))).trans (i_add hsz hzpc (by omega))).trans (by omega)) (((congrArg Int32.toInt (Eq.trans (up2_nj (by decide)) (Eq.trans (up2_nj (by decide)) up2_eq))).trans (i_sub hfm (i_add hzpc (i_add hz13 ki_0 (by omega)) (by omega)) (by omega))).trans (by omega)) up2_eq (Eq.trans (up2_nj (by decide)) (Eq.trans (up2_nj (by decide)) (Eq.trans (up2_nj (by decide)) (Eq.trans (up2_nj (by decide)) (Eq.trans (congrFun (hgf14 31 (by decide)) _) h30))))) (Eq.trans (up2_nj (by decide)) (Eq.trans (up2_nj (by decide)) (Eq.trans (up2_nj (by decide)) (Eq.trans (up2_nj (by decide)) (Eq.trans (congrFun (hgf14 31 (by decide)) _) h31))))) (Eq.trans (up2_nj (by decide)) (Eq.trans (up2_nj (by decide)) (Eq.trans (up2_nj (by decide)) (Eq.trans (up2_nj (by decide)) (Eq.trans (congrFun (hgf14 31 (by decide)) _) h32))))) rfl rfl kk
        · skip
          refine wi_ic ct_157_161 kc_1 ?_
          refine wi_goto ct_157_162 ?_
          refine wi_pfz ct_157_166 (sT_31 hS) rfl (by decide) ?_
          refine wi_aload_0 ct_157_169 ?_
          refine wi_gf (x := 1) ct_157_170 (sT_31 hS) rfl rfl up2_eq ?_
          refine wi_ifne_t ct_157_173 ki_1 (by decide) ?_
          refine wi_ic ct_157_190 kc_0 ?_
          refine wi_istore_3 rfl ct_157_191 ?_
          refine wi_goto ct_157_192 ?_
          refine wi_iload_4 ct_157_50 ?_
          refine wi_ic ct_157_52 kc_30 ?_
          refine wi_icge ct_157_54 (i_add hik ki_1 (by omega)) ki_30 (fun h25 => ?_) (fun h25 => ?_)
          · skip
            refine wi_aload_0 ct_157_195 ?_
            refine wi_iload_3 ct_157_196 ?_
            refine wi_ifne_f ct_157_197 ki_0 (by decide) ?_
            refine wi_ic ct_157_200 kc_1 ?_
            refine wi_goto ct_157_201 ?_
            refine wi_pfz ct_157_205 (sT_31 hS) rfl (by decide) ?_
            refine wi_aload_0 ct_157_208 ?_
            refine wi_iload_4 ct_157_209 ?_
            refine wi_pf ct_157_211 (sT_31 hS) rfl ?_
            refine wi_iload_3 ct_157_214 ?_
            refine wi_ifeq_t ct_157_215 ki_0 (by decide) ?_
            refine wi_aload_0 ct_157_223 ?_
            refine wi_ic ct_157_224 kc_0 ?_
            refine wi_pf ct_157_225 (sT_31 hS) rfl ?_
            refine wi_aload_0 ct_157_228 ?_
            refine wi_ic ct_157_229 kc_0 ?_
            refine wi_pf ct_157_230 (sT_31 hS) rfl ?_
            refine wi_ret ct_157_233 ?_
            rw [goL_1 hpc (show windV (mkLk sq B kd v) gust false k clk sz fm = lkV sq (FL B kd v (clk) (sz) (fm)) 0 0 + 0 from by unfold windV mkLk; rw [if_neg hk0]; rfl) (by omega)] at hR
            subst hR
            refine kk _ ⟨fun q h1 h2 => (Eq.trans (funext fun _ => up2_nq h2) (Eq.trans (funext fun _ => up2_nq h2) (Eq.trans (funext fun _ => up2_nq h2) (Eq.trans (funext fun _ => up2_nq h2) (Eq.trans (funext fun _ => up2_nq h2) (Eq.trans (funext fun _ => up2_nq h2) (Eq.trans (funext fun _ => up2_nq h2) (Eq.trans (funext fun _ => up2_nq h2) (Eq.trans (hgf14 q h1) (hf.1 q h1 h2)))))))))), fun j hj => (Eq.trans (up2_nj (by omega)) (Eq.trans (up2_nj (by omega)) (Eq.trans (up2_nj (by omega)) (Eq.trans (up2_nj (by omega)) (Eq.trans (up2_nj (by omega)) (Eq.trans (up2_nj (by omega)) (Eq.trans (up2_nj (by omega)) (Eq.trans (up2_nj (by omega)) (Eq.trans (congrFun (hgf14 31 (by decide)) _) (hf.2 j hj))))))))))⟩ ?_ ?_ ?_ ?_ ?_
            · exact ((congrArg Int32.toInt (Eq.trans (up2_nj (by decide)) (Eq.trans (up2_nj (by decide)) (Eq.trans (up2_nj (by decide)) (Eq.trans (up2_nj (by decide)) (Eq.trans (up2_nj (by decide)) (Eq.trans (up2_nj (by decide)) (Eq.trans (up2_nj (by decide)) (Eq.trans (up2_nj (by decide)) (Eq.trans (congrFun (hgf14 31 (by decide)) _) h30)))))))))).trans ki_0)
            · exact ((congrArg Int32.toInt (Eq.trans (up2_nj (by decide)) (Eq.trans (up2_nj (by decide)) (Eq.trans (up2_nj (by decide)) (Eq.trans (up2_nj (by decide)) (Eq.trans (up2_nj (by decide)) (Eq.trans (up2_nj (by decide)) (Eq.trans (up2_nj (by decide)) (Eq.trans (up2_nj (by decide)) (Eq.trans (congrFun (hgf14 31 (by decide)) _) h31)))))))))).trans ki_0)
            · exact ((congrArg Int32.toInt (Eq.trans (up2_nj (by decide)) (Eq.trans (up2_nj (by decide)) (Eq.trans (up2_nj (by decide)) (Eq.trans (up2_nj (by decide)) (Eq.trans (up2_nj (by decide)) (Eq.trans (up2_nj (by decide)) (Eq.trans (up2_nj (by decide)) (Eq.trans (up2_nj (by decide)) (Eq.trans (congrFun (hgf14 31 (by decide)) _) h32)))))))))).trans ki_0)
            · exact ((congrArg Int32.toInt (Eq.trans (up2_nj (by decide)) (Eq.trans (up2_nj (by decide)) up2_eq))).trans (i_add hik ki_1 (by omega))).trans (by unfold gMn; dsimp only; omega)
            · exact (Eq.trans (up2_nj (by decide)) (Eq.trans (up2_nj (by decide)) (Eq.trans (up2_nj (by decide)) up2_eq)))
          · skip
            refine wi_iload_3 ct_157_57 ?_
            refine wi_ifne_f ct_157_58 ki_0 (by decide) ?_
            refine wi_aload_0 ct_157_61 ?_
            refine wi_gf (x := 1) ct_157_62 (sT_31 hS) rfl rfl up2_eq ?_
            refine wi_ifne_t ct_157_65 ki_1 (by decide) ?_
            refine wi_aload_0 ct_157_195 ?_
            refine wi_iload_3 ct_157_196 ?_
            refine wi_ifne_f ct_157_197 ki_0 (by decide) ?_
            refine wi_ic ct_157_200 kc_1 ?_
            refine wi_goto ct_157_201 ?_
            refine wi_pfz ct_157_205 (sT_31 hS) rfl (by decide) ?_
            refine wi_aload_0 ct_157_208 ?_
            refine wi_iload_4 ct_157_209 ?_
            refine wi_pf ct_157_211 (sT_31 hS) rfl ?_
            refine wi_iload_3 ct_157_214 ?_
            refine wi_ifeq_t ct_157_215 ki_0 (by decide) ?_
            refine wi_aload_0 ct_157_223 ?_
            refine wi_ic ct_157_224 kc_0 ?_
            refine wi_pf ct_157_225 (sT_31 hS) rfl ?_
            refine wi_aload_0 ct_157_228 ?_
            refine wi_ic ct_157_229 kc_0 ?_
            refine wi_pf ct_157_230 (sT_31 hS) rfl ?_
            refine wi_ret ct_157_233 ?_
            rw [goL_1 hpc (show windV (mkLk sq B kd v) gust false k clk sz fm = lkV sq (FL B kd v (clk) (sz) (fm)) 0 0 + 0 from by unfold windV mkLk; rw [if_neg hk0]; rfl) (by omega)] at hR
            subst hR
            refine kk _ ⟨fun q h1 h2 => (Eq.trans (funext fun _ => up2_nq h2) (Eq.trans (funext fun _ => up2_nq h2) (Eq.trans (funext fun _ => up2_nq h2) (Eq.trans (funext fun _ => up2_nq h2) (Eq.trans (funext fun _ => up2_nq h2) (Eq.trans (funext fun _ => up2_nq h2) (Eq.trans (funext fun _ => up2_nq h2) (Eq.trans (funext fun _ => up2_nq h2) (Eq.trans (hgf14 q h1) (hf.1 q h1 h2)))))))))), fun j hj => (Eq.trans (up2_nj (by omega)) (Eq.trans (up2_nj (by omega)) (Eq.trans (up2_nj (by omega)) (Eq.trans (up2_nj (by omega)) (Eq.trans (up2_nj (by omega)) (Eq.trans (up2_nj (by omega)) (Eq.trans (up2_nj (by omega)) (Eq.trans (up2_nj (by omega)) (Eq.trans (congrFun (hgf14 31 (by decide)) _) (hf.2 j hj))))))))))⟩ ?_ ?_ ?_ ?_ ?_
            · exact ((congrArg Int32.toInt (Eq.trans (up2_nj (by decide)) (Eq.trans (up2_nj (by decide)) (Eq.trans (up2_nj (by decide)) (Eq.trans (up2_nj (by decide)) (Eq.trans (up2_nj (by decide)) (Eq.trans (up2_nj (by decide)) (Eq.trans (up2_nj (by decide)) (Eq.trans (up2_nj (by decide)) (Eq.trans (congrFun (hgf14 31 (by decide)) _) h30)))))))))).trans ki_0)
            · exact ((congrArg Int32.toInt (Eq.trans (up2_nj (by decide)) (Eq.trans (up2_nj (by decide)) (Eq.trans (up2_nj (by decide)) (Eq.trans (up2_nj (by decide)) (Eq.trans (up2_nj (by decide)) (Eq.trans (up2_nj (by decide)) (Eq.trans (up2_nj (by decide)) (Eq.trans (up2_nj (by decide)) (Eq.trans (congrFun (hgf14 31 (by decide)) _) h31)))))))))).trans ki_0)
            · exact ((congrArg Int32.toInt (Eq.trans (up2_nj (by decide)) (Eq.trans (up2_nj (by decide)) (Eq.trans (up2_nj (by decide)) (Eq.trans (up2_nj (by decide)) (Eq.trans (up2_nj (by decide)) (Eq.trans (up2_nj (by decide)) (Eq.trans (up2_nj (by decide)) (Eq.trans (up2_nj (by decide)) (Eq.trans (congrFun (hgf14 31 (by decide)) _) h32)))))))))).trans ki_0)
            · exact ((congrArg Int32.toInt (Eq.trans (up2_nj (by decide)) (Eq.trans (up2_nj (by decide)) up2_eq))).trans (i_add hik ki_1 (by omega))).trans (by unfold gMn; dsimp only; omega)
            · exact (Eq.trans (up2_nj (by decide)) (Eq.trans (up2_nj (by decide)) (Eq.trans (up2_nj (by decide)) up2_eq)))
      · skip
        refine wi_iload_4 ct_157_50 ?_
        refine wi_ic ct_157_52 kc_30 ?_
        refine wi_icge_f ct_157_54 hik ki_30 (by omega) ?_
        refine wi_iload_3 ct_157_57 ?_
        refine wi_ifne_f ct_157_58 ki_0 (by decide) ?_
        refine wi_aload_0 ct_157_61 ?_
        refine wi_gf (x := 0) ct_157_62 (sT_31 hS) rfl rfl h34 ?_
        refine wi_ifne_f ct_157_65 ki_0 (by decide) ?_
        refine wi_aload_0 ct_157_68 ?_
        refine wi_gf (x := 1) ct_157_69 (sT_31 hS) rfl rfl ((hf.2 35 (Or.inr (by decide))).trans hcalm) ?_
        refine wi_ifeq_f ct_157_72 ki_1 (by decide) ?_
        refine wi_ic ct_157_75 kc_0 ?_
        refine wi_goto ct_157_76 ?_
        refine wi_istore_5 rfl ct_157_100 ?_
        refine wi_aload_0 ct_157_102 ?_
        refine wi_iload_1 ct_157_103 ?_
        refine wi_cv1 (ls' := [some _, some _]) ct_157_104 (Nat.le_of_ble_eq_true rfl) (by decide) (sT_31 hS) rfl (by decide) rfl rfl (Nat.le_of_ble_eq_true rfl) ?_
        refine c_mpace (fi := fi2) hS hb hb5 hk6 ((congrArg Int32.toInt (congrFun (hf.1 32 (by decide) (by decide)) _)).trans hkd) hsz (fun zpc hzpc => wk_i ?_)
        obtain ⟨pc, hpc⟩ : ∃ pc, paceV kd sz = pc := ⟨_, rfl⟩
        have hpb := paceV_bd kd sz
        rw [hpc] at hzpc hpb
        refine wi_istore_6 rfl ct_157_107 ?_
        refine wi_aload_0 ct_157_109 ?_
        refine wi_dup ct_157_110 rfl ?_
        refine wi_gf (x := fi2 31 27) ct_157_111 (sT_31 hS) rfl rfl rfl ?_
        refine wi_iload_6 ct_157_114 ?_
        refine wi_iadd ct_157_116 rfl ?_
        refine wi_pf ct_157_117 (sT_31 hS) rfl ?_
        refine wi_aload_0 ct_157_120 ?_
        refine wi_dup ct_157_121 rfl ?_
        refine wi_gf (x := fi2 31 28) ct_157_122 (sT_31 hS) rfl rfl (up2_nj (by decide)) ?_
        refine wi_iload_6 ct_157_125 ?_
        refine wi_iload_5 ct_157_127 ?_
        refine wi_iadd ct_157_129 rfl ?_
        refine wi_isub ct_157_130 rfl ?_
        refine wi_pf ct_157_131 (sT_31 hS) rfl ?_
        refine wi_aload_0 ct_157_134 ?_
        refine wi_dup ct_157_135 rfl ?_
        refine wi_gf (x := fi2 31 29) ct_157_136 (sT_31 hS) rfl rfl (Eq.trans (up2_nj (by decide)) (up2_nj (by decide))) ?_
        refine wi_ic ct_157_139 kc_1 ?_
        refine wi_iadd ct_157_140 rfl ?_
        refine wi_pf ct_157_141 (sT_31 hS) rfl ?_
        refine wi_iinc_4 rfl (z := (i + 1)) ct_157_144 (by rw [kc_1]) ?_
        refine wi_aload_0 ct_157_147 ?_
        refine wi_aload_0 ct_157_148 ?_
        refine wi_gf (x := (fi2 31 28 - (zpc + 0))) ct_157_149 (sT_31 hS) rfl rfl (Eq.trans (up2_nj (by decide)) up2_eq) ?_
        refine wi_aload_0 ct_157_152 ?_
        refine wi_gf (x := (fi2 31 27 + zpc)) ct_157_153 (sT_31 hS) rfl rfl (Eq.trans (up2_nj (by decide)) (Eq.trans (up2_nj (by decide)) up2_eq)) ?_
        refine wi_ic ct_157_156 kc_2 ?_
        refine wi_idiv ct_157_157 (by decide) rfl ?_
        refine wi_icge ct_157_158 (i_sub hfm (i_add hzpc ki_0 (by omega)) (by omega)) (i_div (i_add hsz hzpc (by omega)) ki_2 (by omega) (by omega)) (fun h26 => ?_) (fun h26 => ?_)
        · skip
          refine wi_ic ct_157_165 kc_0 ?_
          refine wi_pfz ct_157_166 (sT_31 hS) rfl (by decide) ?_
          refine wi_aload_0 ct_157_169 ?_
          refine wi_gf (x := 0) ct_157_170 (sT_31 hS) rfl rfl up2_eq ?_
          refine wi_ifne_f ct_157_173 ki_0 (by decide) ?_
          refine wi_aload_0 ct_157_176 ?_
          refine wi_iload_1 ct_157_177 ?_
          refine wi_iload_5 ct_157_178 ?_
          refine wi_cv2 (ls' := [some _, some _, some _]) ct_157_180 (Nat.le_of_ble_eq_true rfl) (by decide) (sT_31 hS) rfl (by decide) rfl rfl (Nat.le_of_ble_eq_true rfl) ?_
          refine c_mshut (fi := (up2 (up2 (up2 (up2 fi2 31 27 ((fi2 31 27 + zpc))) 31 28 ((fi2 31 28 - (zpc + 0)))) 31 29 ((fi2 31 29 + 1))) 31 34 (0))) (row := row) hS hb hb5 hk6 ((congrArg Int32.toInt (congrFun (Eq.trans (funext fun _ => up2_nq (by decide)) (Eq.trans (funext fun _ => up2_nq (by decide)) (Eq.trans (funext fun _ => up2_nq (by decide)) (Eq.trans (funext fun _ => up2_nq (by decide)) (hf.1 32 (by decide) (by decide)))))) _)).trans hkd) ((congrArg Int32.toInt (congrFun (Eq.trans (funext fun _ => up2_nq (by decide)) (Eq.trans (funext fun _ => up2_nq (by decide)) (Eq.trans (funext fun _ => up2_nq (by decide)) (Eq.trans (funext fun _ => up2_nq (by decide)) (hf.1 33 (by decide) (by decide)))))) _)).trans hv) ((congrArg Int32.toInt (congrFun (Eq.trans (funext fun _ => up2_nq (by decide)) (Eq.trans (funext fun _ => up2_nq (by decide)) (Eq.trans (funext fun _ => up2_nq (by decide)) (Eq.trans (funext fun _ => up2_nq (by decide)) (hf.1 35 (by decide) (by decide)))))) _)).trans haim) ((congrArg Int32.toInt (Eq.trans (up2_nj (by decide)) (Eq.trans (up2_nj (by decide)) (Eq.trans (up2_nj (by decide)) up2_eq)))).trans (i_add hsz hzpc (by omega))) ((congrArg Int32.toInt (Eq.trans (up2_nj (by decide)) (Eq.trans (up2_nj (by decide)) up2_eq))).trans (i_sub hfm (i_add hzpc ki_0 (by omega)) (by omega))) ki_0 ((congrArg Int32.toInt (Eq.trans (up2_nj (by decide)) up2_eq)).trans (i_add hclk ki_1 (by omega))) (fun j hj => ((congrArg Int32.toInt (congrFun (Eq.trans (funext fun _ => up2_nq (by decide)) (Eq.trans (funext fun _ => up2_nq (by decide)) (Eq.trans (funext fun _ => up2_nq (by decide)) (Eq.trans (funext fun _ => up2_nq (by decide)) (hf.1 37 (by decide) (by decide)))))) _)).trans (hrow j hj))) hv9 ha6 (by omega) (by omega) (by omega) (by omega) hr9 (fun hs => wk_i ?_) (fun hs => wk_i ?_)
          · skip
            refine wi_ifeq_f ct_157_183 ki_1 (by decide) ?_
            refine wi_ic ct_157_186 kc_1 ?_
            refine wi_goto ct_157_187 ?_
            refine wi_istore_3 rfl ct_157_191 ?_
            refine wi_goto ct_157_192 ?_
            refine wi_iload_4 ct_157_50 ?_
            refine wi_ic ct_157_52 kc_30 ?_
            refine wi_icge ct_157_54 (i_add hik ki_1 (by omega)) ki_30 (fun h27 => ?_) (fun h27 => ?_)
            · skip
              refine wi_aload_0 ct_157_195 ?_
              refine wi_iload_3 ct_157_196 ?_
              refine wi_ifne_t ct_157_197 ki_1 (by decide) ?_
              refine wi_ic ct_157_204 kc_0 ?_
              refine wi_pfz ct_157_205 (sT_31 hS) rfl (by decide) ?_
              refine wi_aload_0 ct_157_208 ?_
              refine wi_iload_4 ct_157_209 ?_
              refine wi_pf ct_157_211 (sT_31 hS) rfl ?_
              refine wi_iload_3 ct_157_214 ?_
              refine wi_ifeq_f ct_157_215 ki_1 (by decide) ?_
              refine wi_aload_0 ct_157_218 ?_
              refine wi_iload_1 ct_157_219 ?_
              refine wi_cv1 (ls' := [some _, some _]) ct_157_220 (Nat.le_of_ble_eq_true rfl) (by decide) (sT_31 hS) rfl (by decide) rfl rfl (Nat.le_of_ble_eq_true rfl) ?_
              refine wi_aload_0 ct_155_0 ?_
              refine wi_aload_0 ct_155_1 ?_
              refine wi_gf (x := (fi2 31 27 + zpc)) ct_155_2 (sT_31 hS) rfl rfl (Eq.trans (up2_nj (by decide)) (Eq.trans (up2_nj (by decide)) (Eq.trans (up2_nj (by decide)) (Eq.trans (up2_nj (by decide)) (Eq.trans (up2_nj (by decide)) up2_eq))))) ?_
              refine wi_pf ct_155_5 (sT_31 hS) rfl ?_
              refine wi_aload_0 ct_155_8 ?_
              refine wi_ic ct_155_9 kc_10 ?_
              refine wi_aload_0 ct_155_11 ?_
              refine wi_gf (x := (fi2 31 28 - (zpc + 0))) ct_155_12 (sT_31 hS) rfl rfl (Eq.trans (up2_nj (by decide)) (Eq.trans (up2_nj (by decide)) (Eq.trans (up2_nj (by decide)) (Eq.trans (up2_nj (by decide)) (Eq.trans (up2_nj (by decide)) up2_eq))))) ?_
              refine wi_imul ct_155_15 rfl ?_
              refine wi_aload_0 ct_155_16 ?_
              refine wi_gf (x := (fi2 31 27 + zpc)) ct_155_17 (sT_31 hS) rfl rfl (Eq.trans (up2_nj (by decide)) (Eq.trans (up2_nj (by decide)) (Eq.trans (up2_nj (by decide)) (Eq.trans (up2_nj (by decide)) (Eq.trans (up2_nj (by decide)) (Eq.trans (up2_nj (by decide)) up2_eq)))))) ?_
              refine wi_ic ct_155_20 kc_1 ?_
              refine wi_iadd ct_155_21 rfl ?_
              refine wi_idiv ct_155_22 (i_nz (i_add (i_add hsz hzpc (by omega)) ki_1 (by omega)) (by omega)) rfl ?_
              have hd1 := i_div (i_mul ki_10 (i_sub hfm (i_add hzpc ki_0 (by omega)) (by omega)) (by omega)) (i_add (i_add hsz hzpc (by omega)) ki_1 (by omega)) (by omega) (by omega)
              have hd1b : 0 ≤ 10 * (fm - (pc + (0))) / (sz + pc + 1) := Int.ediv_nonneg (by omega) (by omega)
              have hd1c : 10 * (fm - (pc + (0))) / (sz + pc + 1) ≤ 10 * (fm - (pc + (0))) := Int.ediv_le_self _ (by omega)
              refine wi_aload_0 ct_155_23 ?_
              refine wi_ic ct_155_24 kc_1 ?_
              refine wi_iload_1 ct_155_25 ?_
              refine wi_ic ct_155_26 kc_1 ?_
              refine wi_cv3 (ls' := [some _, some _, some _, some _, none, none, none]) ct_155_27 (Nat.le_of_ble_eq_true rfl) (by decide) (sT_31 hS) rfl (by decide) rfl rfl (Nat.le_of_ble_eq_true rfl) ?_
              refine c_sum (fi := (up2 (up2 (up2 (up2 (up2 (up2 (up2 fi2 31 27 ((fi2 31 27 + zpc))) 31 28 ((fi2 31 28 - (zpc + 0)))) 31 29 ((fi2 31 29 + 1))) 31 34 (0)) 31 34 (0)) 31 33 ((i + 1))) 31 30 ((fi2 31 27 + zpc)))) (W0 := 1) (O0 := 1) hS (hq.fr (Eq.trans (up2_nj (by decide)) (Eq.trans (up2_nj (by decide)) (Eq.trans (up2_nj (by decide)) (Eq.trans (up2_nj (by decide)) (Eq.trans (up2_nj (by decide)) (Eq.trans (up2_nj (by decide)) (Eq.trans (up2_nj (by decide)) (hf.2 10 (Or.inl (by decide)))))))))) (Eq.trans (funext fun _ => up2_nq (by decide)) (Eq.trans (funext fun _ => up2_nq (by decide)) (Eq.trans (funext fun _ => up2_nq (by decide)) (Eq.trans (funext fun _ => up2_nq (by decide)) (Eq.trans (funext fun _ => up2_nq (by decide)) (Eq.trans (funext fun _ => up2_nq (by decide)) (Eq.trans (funext fun _ => up2_nq (by decide)) (hf.1 40 (by decide) (by decide))))))))) (Eq.trans (funext fun _ => up2_nq (by decide)) (Eq.trans (funext fun _ => up2_nq (by decide)) (Eq.trans (funext fun _ => up2_nq (by decide)) (Eq.trans (funext fun _ => up2_nq (by decide)) (Eq.trans (funext fun _ => up2_nq (by decide)) (Eq.trans (funext fun _ => up2_nq (by decide)) (Eq.trans (funext fun _ => up2_nq (by decide)) (hf.1 41 (by decide) (by decide))))))))) (Eq.trans (funext fun _ => up2_nq (by decide)) (Eq.trans (funext fun _ => up2_nq (by decide)) (Eq.trans (funext fun _ => up2_nq (by decide)) (Eq.trans (funext fun _ => up2_nq (by decide)) (Eq.trans (funext fun _ => up2_nq (by decide)) (Eq.trans (funext fun _ => up2_nq (by decide)) (Eq.trans (funext fun _ => up2_nq (by decide)) (hf.1 42 (by decide) (by decide))))))))) (Eq.trans (funext fun _ => up2_nq (by decide)) (Eq.trans (funext fun _ => up2_nq (by decide)) (Eq.trans (funext fun _ => up2_nq (by decide)) (Eq.trans (funext fun _ => up2_nq (by decide)) (Eq.trans (funext fun _ => up2_nq (by decide)) (Eq.trans (funext fun _ => up2_nq (by decide)) (Eq.trans (funext fun _ => up2_nq (by decide)) (hf.1 43 (by decide) (by decide))))))))) (Eq.trans (funext fun _ => up2_nq (by decide)) (Eq.trans (funext fun _ => up2_nq (by decide)) (Eq.trans (funext fun _ => up2_nq (by decide)) (Eq.trans (funext fun _ => up2_nq (by decide)) (Eq.trans (funext fun _ => up2_nq (by decide)) (Eq.trans (funext fun _ => up2_nq (by decide)) (Eq.trans (funext fun _ => up2_nq (by decide)) (hf.1 44 (by decide) (by decide))))))))) (Eq.trans (funext fun _ => up2_nq (by decide)) (Eq.trans (funext fun _ => up2_nq (by decide)) (Eq.trans (funext fun _ => up2_nq (by decide)) (Eq.trans (funext fun _ => up2_nq (by decide)) (Eq.trans (funext fun _ => up2_nq (by decide)) (Eq.trans (funext fun _ => up2_nq (by decide)) (Eq.trans (funext fun _ => up2_nq (by decide)) (hf.1 45 (by decide) (by decide)))))))))) ki_1 (by decide) ki_1 hb hb5 (clk + 1) (sz + pc) (fm - (pc + (0))) kd v (((congrArg Int32.toInt (Eq.trans (up2_nj (by decide)) (Eq.trans (up2_nj (by decide)) (Eq.trans (up2_nj (by decide)) (Eq.trans (up2_nj (by decide)) up2_eq))))).trans (i_add hclk ki_1 (by omega))).trans (by omega)) (by omega) (((congrArg Int32.toInt (Eq.trans (up2_nj (by decide)) (Eq.trans (up2_nj (by decide)) (Eq.trans (up2_nj (by decide)) (Eq.trans (up2_nj (by decide)) (Eq.trans (up2_nj (by decide)) (Eq.trans (up2_nj (by decide)) up2_eq))))))).trans (i_add hsz hzpc (by omega))).trans (by omega)) (by omega) (((congrArg Int32.toInt (Eq.trans (up2_nj (by decide)) (Eq.trans (up2_nj (by decide)) (Eq.trans (up2_nj (by decide)) (Eq.trans (up2_nj (by decide)) (Eq.trans (up2_nj (by decide)) up2_eq)))))).trans (i_sub hfm (i_add hzpc ki_0 (by omega)) (by omega))).trans (by omega)) (by omega) ((congrArg Int32.toInt (congrFun (Eq.trans (funext fun _ => up2_nq (by decide)) (Eq.trans (funext fun _ => up2_nq (by decide)) (Eq.trans (funext fun _ => up2_nq (by decide)) (Eq.trans (funext fun _ => up2_nq (by decide)) (Eq.trans (funext fun _ => up2_nq (by decide)) (Eq.trans (funext fun _ => up2_nq (by decide)) (Eq.trans (funext fun _ => up2_nq (by decide)) (hf.1 32 (by decide) (by decide))))))))) _)).trans hkd) ((congrArg Int32.toInt (congrFun (Eq.trans (funext fun _ => up2_nq (by decide)) (Eq.trans (funext fun _ => up2_nq (by decide)) (Eq.trans (funext fun _ => up2_nq (by decide)) (Eq.trans (funext fun _ => up2_nq (by decide)) (Eq.trans (funext fun _ => up2_nq (by decide)) (Eq.trans (funext fun _ => up2_nq (by decide)) (Eq.trans (funext fun _ => up2_nq (by decide)) (hf.1 33 (by decide) (by decide))))))))) _)).trans hv) (fun z28 f29 hgf29 hz28 => wk_i ?_)
              have hbz28 := hlk 1 1 (clk + 1) (sz + pc) (fm - (pc + (0))) (by decide) (by decide)
              unfold mkLk at hbz28
              refine wi_ic ct_155_30 kc_1 ?_
              refine wi_iadd ct_155_31 rfl ?_
              refine wi_idiv ct_155_32 (i_nz (i_add hz28 ki_1 (by omega)) (by omega)) rfl ?_
              have hd2 := i_div hd1 (i_add hz28 ki_1 (by omega)) (by omega) (by omega)
              have hd3 : ((((10 * (fi2 31 28 - (zpc + 0))) / ((fi2 31 27 + zpc) + 1)) / (z28 + 1))).toInt = gLf (mkLk sq B kd v) ((true, clk + 1, sz + pc, fm - (pc + (0)), k + 1) : go_T) := hd2.trans (by unfold gLf mkLk; rw [if_pos rfl])
              have hlf := gLf_bd hlk (R := ((true, clk + 1, sz + pc, fm - (pc + (0)), k + 1) : go_T)) (fun _ => ⟨by dsimp only; omega, by dsimp only; omega⟩) (by dsimp only; omega)
              have hlf3 := hlf.2.2 rfl
              dsimp only at hlf3
              refine wi_pf ct_155_33 (sT_31 hS) rfl ?_
              refine wi_aload_0 ct_155_36 ?_
              refine wi_aload_0 ct_155_37 ?_
              refine wi_aload_0 ct_155_38 ?_
              refine wi_gf (x := (fi2 31 27 + zpc)) ct_155_39 (sT_31 hS) rfl rfl (Eq.trans (up2_nj (by decide)) (Eq.trans (congrFun (hgf29 31 (by decide)) _) (Eq.trans (up2_nj (by decide)) (Eq.trans (up2_nj (by decide)) (Eq.trans (up2_nj (by decide)) (Eq.trans (up2_nj (by decide)) (Eq.trans (up2_nj (by decide)) (Eq.trans (up2_nj (by decide)) up2_eq)))))))) ?_
              refine wi_i2l ct_155_42 rfl ?_
              refine wi_aload_0 ct_155_43 ?_
              refine wi_gf (x := (((10 * (fi2 31 28 - (zpc + 0))) / ((fi2 31 27 + zpc) + 1)) / (z28 + 1))) ct_155_44 (sT_31 hS) rfl rfl up2_eq ?_
              refine wi_i2l ct_155_47 rfl ?_
              refine wi_lmul ct_155_48 rfl ?_
              have hm1 := j_mul (j_of (i_add hsz hzpc (by omega))) (j_of hd3) (by omega)
              refine wi_aload_0 ct_155_49 ?_
              refine wi_ic ct_155_50 kc_2 ?_
              refine wi_iload_1 ct_155_51 ?_
              refine wi_ic ct_155_52 kc_1 ?_
              refine wi_cv3 (ls' := [some _, some _, some _, some _, none, none, none]) ct_155_53 (Nat.le_of_ble_eq_true rfl) (by decide) (sT_31 hS) rfl (by decide) rfl rfl (Nat.le_of_ble_eq_true rfl) ?_
              refine c_sum (fi := (up2 f29 31 31 ((((10 * (fi2 31 28 - (zpc + 0))) / ((fi2 31 27 + zpc) + 1)) / (z28 + 1))))) (W0 := 2) (O0 := 1) hS (hq.fr (Eq.trans (up2_nj (by decide)) (Eq.trans (congrFun (hgf29 31 (by decide)) _) (Eq.trans (up2_nj (by decide)) (Eq.trans (up2_nj (by decide)) (Eq.trans (up2_nj (by decide)) (Eq.trans (up2_nj (by decide)) (Eq.trans (up2_nj (by decide)) (Eq.trans (up2_nj (by decide)) (Eq.trans (up2_nj (by decide)) (hf.2 10 (Or.inl (by decide)))))))))))) (Eq.trans (funext fun _ => up2_nq (by decide)) (Eq.trans (hgf29 40 (by decide)) (Eq.trans (funext fun _ => up2_nq (by decide)) (Eq.trans (funext fun _ => up2_nq (by decide)) (Eq.trans (funext fun _ => up2_nq (by decide)) (Eq.trans (funext fun _ => up2_nq (by decide)) (Eq.trans (funext fun _ => up2_nq (by decide)) (Eq.trans (funext fun _ => up2_nq (by decide)) (Eq.trans (funext fun _ => up2_nq (by decide)) (hf.1 40 (by decide) (by decide))))))))))) (Eq.trans (funext fun _ => up2_nq (by decide)) (Eq.trans (hgf29 41 (by decide)) (Eq.trans (funext fun _ => up2_nq (by decide)) (Eq.trans (funext fun _ => up2_nq (by decide)) (Eq.trans (funext fun _ => up2_nq (by decide)) (Eq.trans (funext fun _ => up2_nq (by decide)) (Eq.trans (funext fun _ => up2_nq (by decide)) (Eq.trans (funext fun _ => up2_nq (by decide)) (Eq.trans (funext fun _ => up2_nq (by decide)) (hf.1 41 (by decide) (by decide))))))))))) (Eq.trans (funext fun _ => up2_nq (by decide)) (Eq.trans (hgf29 42 (by decide)) (Eq.trans (funext fun _ => up2_nq (by decide)) (Eq.trans (funext fun _ => up2_nq (by decide)) (Eq.trans (funext fun _ => up2_nq (by decide)) (Eq.trans (funext fun _ => up2_nq (by decide)) (Eq.trans (funext fun _ => up2_nq (by decide)) (Eq.trans (funext fun _ => up2_nq (by decide)) (Eq.trans (funext fun _ => up2_nq (by decide)) (hf.1 42 (by decide) (by decide))))))))))) (Eq.trans (funext fun _ => up2_nq (by decide)) (Eq.trans (hgf29 43 (by decide)) (Eq.trans (funext fun _ => up2_nq (by decide)) (Eq.trans (funext fun _ => up2_nq (by decide)) (Eq.trans (funext fun _ => up2_nq (by decide)) (Eq.trans (funext fun _ => up2_nq (by decide)) (Eq.trans (funext fun _ => up2_nq (by decide)) (Eq.trans (funext fun _ => up2_nq (by decide)) (Eq.trans (funext fun _ => up2_nq (by decide)) (hf.1 43 (by decide) (by decide))))))))))) (Eq.trans (funext fun _ => up2_nq (by decide)) (Eq.trans (hgf29 44 (by decide)) (Eq.trans (funext fun _ => up2_nq (by decide)) (Eq.trans (funext fun _ => up2_nq (by decide)) (Eq.trans (funext fun _ => up2_nq (by decide)) (Eq.trans (funext fun _ => up2_nq (by decide)) (Eq.trans (funext fun _ => up2_nq (by decide)) (Eq.trans (funext fun _ => up2_nq (by decide)) (Eq.trans (funext fun _ => up2_nq (by decide)) (hf.1 44 (by decide) (by decide))))))))))) (Eq.trans (funext fun _ => up2_nq (by decide)) (Eq.trans (hgf29 45 (by decide)) (Eq.trans (funext fun _ => up2_nq (by decide)) (Eq.trans (funext fun _ => up2_nq (by decide)) (Eq.trans (funext fun _ => up2_nq (by decide)) (Eq.trans (funext fun _ => up2_nq (by decide)) (Eq.trans (funext fun _ => up2_nq (by decide)) (Eq.trans (funext fun _ => up2_nq (by decide)) (Eq.trans (funext fun _ => up2_nq (by decide)) (hf.1 45 (by decide) (by decide)))))))))))) ki_2 (by decide) ki_1 hb hb5 (clk + 1) (sz + pc) (fm - (pc + (0))) kd v (((congrArg Int32.toInt (Eq.trans (up2_nj (by decide)) (Eq.trans (congrFun (hgf29 31 (by decide)) _) (Eq.trans (up2_nj (by decide)) (Eq.trans (up2_nj (by decide)) (Eq.trans (up2_nj (by decide)) (Eq.trans (up2_nj (by decide)) up2_eq))))))).trans (i_add hclk ki_1 (by omega))).trans (by omega)) (by omega) (((congrArg Int32.toInt (Eq.trans (up2_nj (by decide)) (Eq.trans (congrFun (hgf29 31 (by decide)) _) (Eq.trans (up2_nj (by decide)) (Eq.trans (up2_nj (by decide)) (Eq.trans (up2_nj (by decide)) (Eq.trans (up2_nj (by decide)) (Eq.trans (up2_nj (by decide)) (Eq.trans (up2_nj (by decide)) up2_eq))))))))).trans (i_add hsz hzpc (by omega))).trans (by omega)) (by omega) (((congrArg Int32.toInt (Eq.trans (up2_nj (by decide)) (Eq.trans (congrFun (hgf29 31 (by decide)) _) (Eq.trans (up2_nj (by decide)) (Eq.trans (up2_nj (by decide)) (Eq.trans (up2_nj (by decide)) (Eq.trans (up2_nj (by decide)) (Eq.trans (up2_nj (by decide)) up2_eq)))))))).trans (i_sub hfm (i_add hzpc ki_0 (by omega)) (by omega))).trans (by omega)) (by omega) ((congrArg Int32.toInt (congrFun (Eq.trans (funext fun _ => up2_nq (by decide)) (Eq.trans (hgf29 32 (by decide)) (Eq.trans (funext fun _ => up2_nq (by decide)) (Eq.trans (funext fun _ => up2_nq (by decide)) (Eq.trans (funext fun _ => up2_nq (by decide)) (Eq.trans (funext fun _ => up2_nq (by decide)) (Eq.trans (funext fun _ => up2_nq (by decide)) (Eq.trans (funext fun _ => up2_nq (by decide)) (Eq.trans (funext fun _ => up2_nq (by decide)) (hf.1 32 (by decide) (by decide))))))))))) _)).trans hkd) ((congrArg Int32.toInt (congrFun (Eq.trans (funext fun _ => up2_nq (by decide)) (Eq.trans (hgf29 33 (by decide)) (Eq.trans (funext fun _ => up2_nq (by decide)) (Eq.trans (funext fun _ => up2_nq (by decide)) (Eq.trans (funext fun _ => up2_nq (by decide)) (Eq.trans (funext fun _ => up2_nq (by decide)) (Eq.trans (funext fun _ => up2_nq (by decide)) (Eq.trans (funext fun _ => up2_nq (by decide)) (Eq.trans (funext fun _ => up2_nq (by decide)) (hf.1 33 (by decide) (by decide))))))))))) _)).trans hv) (fun z30 f31 hgf31 hz30 => wk_i ?_)
              have hbz30 := hlk 2 1 (clk + 1) (sz + pc) (fm - (pc + (0))) (by decide) (by decide)
              unfold mkLk at hbz30
              refine wi_i2l ct_155_56 rfl ?_
              refine wi_lmul ct_155_57 rfl ?_
              have hm0 := Int.mul_nonneg hlf3.2 hbz30.1
              have hmx := Int.mul_le_mul hlf3.1 hbz30.2 hbz30.1 (by decide)
              have hm2 := j_mul hm1 (j_of hz30) (by omega)
              refine wi_cv1 (ls' := [some _, some _, none]) ct_155_58 (Nat.le_of_ble_eq_true rfl) (by decide) (sT_31 hS) rfl (by decide) rfl rfl (Nat.le_of_ble_eq_true rfl) ?_
              refine wi_lload_1 ct_156_0 ?_
              refine wi_lc ct_156_1 kl_99999 ?_
              refine wi_lcmp ct_156_4 rfl ?_
              refine wi_ifge ct_156_5 rfl (fun hcm => ?_) (fun hcm => ?_)
              · skip
                replace hcm := lcmp_ge hm2 (show (99999 : Int64).toInt = 99999 from rfl) hcm
                refine wi_lc ct_156_12 kl_99999 ?_
                refine wi_lret ct_156_15 (wk_j ?_)
                refine wi_l2i ct_155_61 rfl ?_
                have hbr : ((Int64.toInt32 99999)).toInt = gBr (mkLk sq B kd v) ((true, clk + 1, sz + pc, fm - (pc + (0)), k + 1) : go_T) := by unfold gBr; rw [if_pos rfl]; exact (show (99999 : Int64).toInt32.toInt = 99999 from rfl).trans (Int.min_eq_right hcm).symm
                refine wi_pf ct_155_62 (sT_31 hS) rfl ?_
                refine wi_ret ct_155_65 (wk_v ?_)
                refine wi_aload_0 ct_157_223 ?_
                refine wi_ic ct_157_224 kc_0 ?_
                refine wi_pf ct_157_225 (sT_31 hS) rfl ?_
                refine wi_aload_0 ct_157_228 ?_
                refine wi_ic ct_157_229 kc_0 ?_
                refine wi_pf ct_157_230 (sT_31 hS) rfl ?_
                refine wi_ret ct_157_233 ?_
                rw [goL_2 hpc (show windV (mkLk sq B kd v) gust true k clk sz fm = 0 from rfl) (by omega) hs] at hR
                subst hR
                refine kk _ ⟨fun q h1 h2 => (Eq.trans (funext fun _ => up2_nq h2) (Eq.trans (funext fun _ => up2_nq h2) (Eq.trans (funext fun _ => up2_nq h2) (Eq.trans (hgf31 q h1) (Eq.trans (funext fun _ => up2_nq h2) (Eq.trans (hgf29 q h1) (Eq.trans (funext fun _ => up2_nq h2) (Eq.trans (funext fun _ => up2_nq h2) (Eq.trans (funext fun _ => up2_nq h2) (Eq.trans (funext fun _ => up2_nq h2) (Eq.trans (funext fun _ => up2_nq h2) (Eq.trans (funext fun _ => up2_nq h2) (Eq.trans (funext fun _ => up2_nq h2) (hf.1 q h1 h2)))))))))))))), fun j hj => (Eq.trans (up2_nj (by omega)) (Eq.trans (up2_nj (by omega)) (Eq.trans (up2_nj (by omega)) (Eq.trans (congrFun (hgf31 31 (by decide)) _) (Eq.trans (up2_nj (by omega)) (Eq.trans (congrFun (hgf29 31 (by decide)) _) (Eq.trans (up2_nj (by omega)) (Eq.trans (up2_nj (by omega)) (Eq.trans (up2_nj (by omega)) (Eq.trans (up2_nj (by omega)) (Eq.trans (up2_nj (by omega)) (Eq.trans (up2_nj (by omega)) (Eq.trans (up2_nj (by omega)) (hf.2 j hj))))))))))))))⟩ ?_ ?_ ?_ ?_ ?_
                · exact ((congrArg Int32.toInt (Eq.trans (up2_nj (by decide)) (Eq.trans (up2_nj (by decide)) (Eq.trans (up2_nj (by decide)) (Eq.trans (congrFun (hgf31 31 (by decide)) _) (Eq.trans (up2_nj (by decide)) (Eq.trans (congrFun (hgf29 31 (by decide)) _) up2_eq))))))).trans (i_add hsz hzpc (by omega))).trans (by unfold gSz; rw [if_pos rfl])
                · exact ((congrArg Int32.toInt (Eq.trans (up2_nj (by decide)) (Eq.trans (up2_nj (by decide)) (Eq.trans (up2_nj (by decide)) (Eq.trans (congrFun (hgf31 31 (by decide)) _) up2_eq))))).trans hd3)
                · exact ((congrArg Int32.toInt (Eq.trans (up2_nj (by decide)) (Eq.trans (up2_nj (by decide)) up2_eq))).trans hbr)
                · exact ((congrArg Int32.toInt (Eq.trans (up2_nj (by decide)) (Eq.trans (up2_nj (by decide)) (Eq.trans (up2_nj (by decide)) (Eq.trans (congrFun (hgf31 31 (by decide)) _) (Eq.trans (up2_nj (by decide)) (Eq.trans (congrFun (hgf29 31 (by decide)) _) (Eq.trans (up2_nj (by decide)) up2_eq)))))))).trans (i_add hik ki_1 (by omega))).trans (by unfold gMn; dsimp only; omega)
                · exact (Eq.trans (up2_nj (by decide)) (Eq.trans (up2_nj (by decide)) (Eq.trans (up2_nj (by decide)) (Eq.trans (congrFun (hgf31 31 (by decide)) _) (Eq.trans (up2_nj (by decide)) (Eq.trans (congrFun (hgf29 31 (by decide)) _) (Eq.trans (up2_nj (by decide)) (Eq.trans (up2_nj (by decide)) up2_eq))))))))
              · skip
                replace hcm := lcmp_lt hm2 (show (99999 : Int64).toInt = 99999 from rfl) hcm
                refine wi_lload_1 ct_156_8 ?_
                refine wi_goto ct_156_9 ?_
                refine wi_lret ct_156_15 (wk_j ?_)
                refine wi_l2i ct_155_61 rfl ?_
                have hbr : ((Int64.toInt32 (((Int32.toInt64 (fi2 31 27 + zpc)) * (Int32.toInt64 (((10 * (fi2 31 28 - (zpc + 0))) / ((fi2 31 27 + zpc) + 1)) / (z28 + 1)))) * (Int32.toInt64 z30)))).toInt = gBr (mkLk sq B kd v) ((true, clk + 1, sz + pc, fm - (pc + (0)), k + 1) : go_T) := (j_l2i hm2 (by omega)).trans (by unfold gBr; rw [if_pos rfl]; exact (Int.min_eq_left (Int.le_of_lt hcm)).symm)
                refine wi_pf ct_155_62 (sT_31 hS) rfl ?_
                refine wi_ret ct_155_65 (wk_v ?_)
                refine wi_aload_0 ct_157_223 ?_
                refine wi_ic ct_157_224 kc_0 ?_
                refine wi_pf ct_157_225 (sT_31 hS) rfl ?_
                refine wi_aload_0 ct_157_228 ?_
                refine wi_ic ct_157_229 kc_0 ?_
                refine wi_pf ct_157_230 (sT_31 hS) rfl ?_
                refine wi_ret ct_157_233 ?_
                rw [goL_2 hpc (show windV (mkLk sq B kd v) gust true k clk sz fm = 0 from rfl) (by omega) hs] at hR
                subst hR
                refine kk _ ⟨fun q h1 h2 => (Eq.trans (funext fun _ => up2_nq h2) (Eq.trans (funext fun _ => up2_nq h2) (Eq.trans (funext fun _ => up2_nq h2) (Eq.trans (hgf31 q h1) (Eq.trans (funext fun _ => up2_nq h2) (Eq.trans (hgf29 q h1) (Eq.trans (funext fun _ => up2_nq h2) (Eq.trans (funext fun _ => up2_nq h2) (Eq.trans (funext fun _ => up2_nq h2) (Eq.trans (funext fun _ => up2_nq h2) (Eq.trans (funext fun _ => up2_nq h2) (Eq.trans (funext fun _ => up2_nq h2) (Eq.trans (funext fun _ => up2_nq h2) (hf.1 q h1 h2)))))))))))))), fun j hj => (Eq.trans (up2_nj (by omega)) (Eq.trans (up2_nj (by omega)) (Eq.trans (up2_nj (by omega)) (Eq.trans (congrFun (hgf31 31 (by decide)) _) (Eq.trans (up2_nj (by omega)) (Eq.trans (congrFun (hgf29 31 (by decide)) _) (Eq.trans (up2_nj (by omega)) (Eq.trans (up2_nj (by omega)) (Eq.trans (up2_nj (by omega)) (Eq.trans (up2_nj (by omega)) (Eq.trans (up2_nj (by omega)) (Eq.trans (up2_nj (by omega)) (Eq.trans (up2_nj (by omega)) (hf.2 j hj))))))))))))))⟩ ?_ ?_ ?_ ?_ ?_
                · exact ((congrArg Int32.toInt (Eq.trans (up2_nj (by decide)) (Eq.trans (up2_nj (by decide)) (Eq.trans (up2_nj (by decide)) (Eq.trans (congrFun (hgf31 31 (by decide)) _) (Eq.trans (up2_nj (by decide)) (Eq.trans (congrFun (hgf29 31 (by decide)) _) up2_eq))))))).trans (i_add hsz hzpc (by omega))).trans (by unfold gSz; rw [if_pos rfl])
                · exact ((congrArg Int32.toInt (Eq.trans (up2_nj (by decide)) (Eq.trans (up2_nj (by decide)) (Eq.trans (up2_nj (by decide)) (Eq.trans (congrFun (hgf31 31 (by decide)) _) up2_eq))))).trans hd3)
                · exact ((congrArg Int32.toInt (Eq.trans (up2_nj (by decide)) (Eq.trans (up2_nj (by decide)) up2_eq))).trans hbr)
                · exact ((congrArg Int32.toInt (Eq.trans (up2_nj (by decide)) (Eq.trans (up2_nj (by decide)) (Eq.trans (up2_nj (by decide)) (Eq.trans (congrFun (hgf31 31 (by decide)) _) (Eq.trans (up2_nj (by decide)) (Eq.trans (congrFun (hgf29 31 (by decide)) _) (Eq.trans (up2_nj (by decide)) up2_eq)))))))).trans (i_add hik ki_1 (by omega))).trans (by unfold gMn; dsimp only; omega)
                · exact (Eq.trans (up2_nj (by decide)) (Eq.trans (up2_nj (by decide)) (Eq.trans (up2_nj (by decide)) (Eq.trans (congrFun (hgf31 31 (by decide)) _) (Eq.trans (up2_nj (by decide)) (Eq.trans (congrFun (hgf29 31 (by decide)) _) (Eq.trans (up2_nj (by decide)) (Eq.trans (up2_nj (by decide)) up2_eq))))))))
            · skip
              refine wi_iload_3 ct_157_57 ?_
              refine wi_ifne_t ct_157_58 ki_1 (by decide) ?_
              refine wi_aload_0 ct_157_195 ?_
              refine wi_iload_3 ct_157_196 ?_
              refine wi_ifne_t ct_157_197 ki_1 (by decide) ?_
              refine wi_ic ct_157_204 kc_0 ?_
              refine wi_pfz ct_157_205 (sT_31 hS) rfl (by decide) ?_
              refine wi_aload_0 ct_157_208 ?_
              refine wi_iload_4 ct_157_209 ?_
              refine wi_pf ct_157_211 (sT_31 hS) rfl ?_
              refine wi_iload_3 ct_157_214 ?_
              refine wi_ifeq_f ct_157_215 ki_1 (by decide) ?_
              refine wi_aload_0 ct_157_218 ?_
              refine wi_iload_1 ct_157_219 ?_
              refine wi_cv1 (ls' := [some _, some _]) ct_157_220 (Nat.le_of_ble_eq_true rfl) (by decide) (sT_31 hS) rfl (by decide) rfl rfl (Nat.le_of_ble_eq_true rfl) ?_
              refine wi_aload_0 ct_155_0 ?_
              refine wi_aload_0 ct_155_1 ?_
              refine wi_gf (x := (fi2 31 27 + zpc)) ct_155_2 (sT_31 hS) rfl rfl (Eq.trans (up2_nj (by decide)) (Eq.trans (up2_nj (by decide)) (Eq.trans (up2_nj (by decide)) (Eq.trans (up2_nj (by decide)) (Eq.trans (up2_nj (by decide)) up2_eq))))) ?_
              refine wi_pf ct_155_5 (sT_31 hS) rfl ?_
              refine wi_aload_0 ct_155_8 ?_
              refine wi_ic ct_155_9 kc_10 ?_
              refine wi_aload_0 ct_155_11 ?_
              refine wi_gf (x := (fi2 31 28 - (zpc + 0))) ct_155_12 (sT_31 hS) rfl rfl (Eq.trans (up2_nj (by decide)) (Eq.trans (up2_nj (by decide)) (Eq.trans (up2_nj (by decide)) (Eq.trans (up2_nj (by decide)) (Eq.trans (up2_nj (by decide)) up2_eq))))) ?_
              refine wi_imul ct_155_15 rfl ?_
              refine wi_aload_0 ct_155_16 ?_
              refine wi_gf (x := (fi2 31 27 + zpc)) ct_155_17 (sT_31 hS) rfl rfl (Eq.trans (up2_nj (by decide)) (Eq.trans (up2_nj (by decide)) (Eq.trans (up2_nj (by decide)) (Eq.trans (up2_nj (by decide)) (Eq.trans (up2_nj (by decide)) (Eq.trans (up2_nj (by decide)) up2_eq)))))) ?_
              refine wi_ic ct_155_20 kc_1 ?_
              refine wi_iadd ct_155_21 rfl ?_
              refine wi_idiv ct_155_22 (i_nz (i_add (i_add hsz hzpc (by omega)) ki_1 (by omega)) (by omega)) rfl ?_
              have hd1 := i_div (i_mul ki_10 (i_sub hfm (i_add hzpc ki_0 (by omega)) (by omega)) (by omega)) (i_add (i_add hsz hzpc (by omega)) ki_1 (by omega)) (by omega) (by omega)
              have hd1b : 0 ≤ 10 * (fm - (pc + (0))) / (sz + pc + 1) := Int.ediv_nonneg (by omega) (by omega)
              have hd1c : 10 * (fm - (pc + (0))) / (sz + pc + 1) ≤ 10 * (fm - (pc + (0))) := Int.ediv_le_self _ (by omega)
              refine wi_aload_0 ct_155_23 ?_
              refine wi_ic ct_155_24 kc_1 ?_
              refine wi_iload_1 ct_155_25 ?_
              refine wi_ic ct_155_26 kc_1 ?_
              refine wi_cv3 (ls' := [some _, some _, some _, some _, none, none, none]) ct_155_27 (Nat.le_of_ble_eq_true rfl) (by decide) (sT_31 hS) rfl (by decide) rfl rfl (Nat.le_of_ble_eq_true rfl) ?_
              refine c_sum (fi := (up2 (up2 (up2 (up2 (up2 (up2 (up2 fi2 31 27 ((fi2 31 27 + zpc))) 31 28 ((fi2 31 28 - (zpc + 0)))) 31 29 ((fi2 31 29 + 1))) 31 34 (0)) 31 34 (0)) 31 33 ((i + 1))) 31 30 ((fi2 31 27 + zpc)))) (W0 := 1) (O0 := 1) hS (hq.fr (Eq.trans (up2_nj (by decide)) (Eq.trans (up2_nj (by decide)) (Eq.trans (up2_nj (by decide)) (Eq.trans (up2_nj (by decide)) (Eq.trans (up2_nj (by decide)) (Eq.trans (up2_nj (by decide)) (Eq.trans (up2_nj (by decide)) (hf.2 10 (Or.inl (by decide)))))))))) (Eq.trans (funext fun _ => up2_nq (by decide)) (Eq.trans (funext fun _ => up2_nq (by decide)) (Eq.trans (funext fun _ => up2_nq (by decide)) (Eq.trans (funext fun _ => up2_nq (by decide)) (Eq.trans (funext fun _ => up2_nq (by decide)) (Eq.trans (funext fun _ => up2_nq (by decide)) (Eq.trans (funext fun _ => up2_nq (by decide)) (hf.1 40 (by decide) (by decide))))))))) (Eq.trans (funext fun _ => up2_nq (by decide)) (Eq.trans (funext fun _ => up2_nq (by decide)) (Eq.trans (funext fun _ => up2_nq (by decide)) (Eq.trans (funext fun _ => up2_nq (by decide)) (Eq.trans (funext fun _ => up2_nq (by decide)) (Eq.trans (funext fun _ => up2_nq (by decide)) (Eq.trans (funext fun _ => up2_nq (by decide)) (hf.1 41 (by decide) (by decide))))))))) (Eq.trans (funext fun _ => up2_nq (by decide)) (Eq.trans (funext fun _ => up2_nq (by decide)) (Eq.trans (funext fun _ => up2_nq (by decide)) (Eq.trans (funext fun _ => up2_nq (by decide)) (Eq.trans (funext fun _ => up2_nq (by decide)) (Eq.trans (funext fun _ => up2_nq (by decide)) (Eq.trans (funext fun _ => up2_nq (by decide)) (hf.1 42 (by decide) (by decide))))))))) (Eq.trans (funext fun _ => up2_nq (by decide)) (Eq.trans (funext fun _ => up2_nq (by decide)) (Eq.trans (funext fun _ => up2_nq (by decide)) (Eq.trans (funext fun _ => up2_nq (by decide)) (Eq.trans (funext fun _ => up2_nq (by decide)) (Eq.trans (funext fun _ => up2_nq (by decide)) (Eq.trans (funext fun _ => up2_nq (by decide)) (hf.1 43 (by decide) (by decide))))))))) (Eq.trans (funext fun _ => up2_nq (by decide)) (Eq.trans (funext fun _ => up2_nq (by decide)) (Eq.trans (funext fun _ => up2_nq (by decide)) (Eq.trans (funext fun _ => up2_nq (by decide)) (Eq.trans (funext fun _ => up2_nq (by decide)) (Eq.trans (funext fun _ => up2_nq (by decide)) (Eq.trans (funext fun _ => up2_nq (by decide)) (hf.1 44 (by decide) (by decide))))))))) (Eq.trans (funext fun _ => up2_nq (by decide)) (Eq.trans (funext fun _ => up2_nq (by decide)) (Eq.trans (funext fun _ => up2_nq (by decide)) (Eq.trans (funext fun _ => up2_nq (by decide)) (Eq.trans (funext fun _ => up2_nq (by decide)) (Eq.trans (funext fun _ => up2_nq (by decide)) (Eq.trans (funext fun _ => up2_nq (by decide)) (hf.1 45 (by decide) (by decide)))))))))) ki_1 (by decide) ki_1 hb hb5 (clk + 1) (sz + pc) (fm - (pc + (0))) kd v (((congrArg Int32.toInt (Eq.trans (up2_nj (by decide)) (Eq.trans (up2_nj (by decide)) (Eq.trans (up2_nj (by decide)) (Eq.trans (up2_nj (by decide)) up2_eq))))).trans (i_add hclk ki_1 (by omega))).trans (by omega)) (by omega) (((congrArg Int32.toInt (Eq.trans (up2_nj (by decide)) (Eq.trans (up2_nj (by decide)) (Eq.trans (up2_nj (by decide)) (Eq.trans (up2_nj (by decide)) (Eq.trans (up2_nj (by decide)) (Eq.trans (up2_nj (by decide)) up2_eq))))))).trans (i_add hsz hzpc (by omega))).trans (by omega)) (by omega) (((congrArg Int32.toInt (Eq.trans (up2_nj (by decide)) (Eq.trans (up2_nj (by decide)) (Eq.trans (up2_nj (by decide)) (Eq.trans (up2_nj (by decide)) (Eq.trans (up2_nj (by decide)) up2_eq)))))).trans (i_sub hfm (i_add hzpc ki_0 (by omega)) (by omega))).trans (by omega)) (by omega) ((congrArg Int32.toInt (congrFun (Eq.trans (funext fun _ => up2_nq (by decide)) (Eq.trans (funext fun _ => up2_nq (by decide)) (Eq.trans (funext fun _ => up2_nq (by decide)) (Eq.trans (funext fun _ => up2_nq (by decide)) (Eq.trans (funext fun _ => up2_nq (by decide)) (Eq.trans (funext fun _ => up2_nq (by decide)) (Eq.trans (funext fun _ => up2_nq (by decide)) (hf.1 32 (by decide) (by decide))))))))) _)).trans hkd) ((congrArg Int32.toInt (congrFun (Eq.trans (funext fun _ => up2_nq (by decide)) (Eq.trans (funext fun _ => up2_nq (by decide)) (Eq.trans (funext fun _ => up2_nq (by decide)) (Eq.trans (funext fun _ => up2_nq (by decide)) (Eq.trans (funext fun _ => up2_nq (by decide)) (Eq.trans (funext fun _ => up2_nq (by decide)) (Eq.trans (funext fun _ => up2_nq (by decide)) (hf.1 33 (by decide) (by decide))))))))) _)).trans hv) (fun z32 f33 hgf33 hz32 => wk_i ?_)
              have hbz32 := hlk 1 1 (clk + 1) (sz + pc) (fm - (pc + (0))) (by decide) (by decide)
              unfold mkLk at hbz32
              refine wi_ic ct_155_30 kc_1 ?_
              refine wi_iadd ct_155_31 rfl ?_
              refine wi_idiv ct_155_32 (i_nz (i_add hz32 ki_1 (by omega)) (by omega)) rfl ?_
              have hd2 := i_div hd1 (i_add hz32 ki_1 (by omega)) (by omega) (by omega)
              have hd3 : ((((10 * (fi2 31 28 - (zpc + 0))) / ((fi2 31 27 + zpc) + 1)) / (z32 + 1))).toInt = gLf (mkLk sq B kd v) ((true, clk + 1, sz + pc, fm - (pc + (0)), k + 1) : go_T) := hd2.trans (by unfold gLf mkLk; rw [if_pos rfl])
              have hlf := gLf_bd hlk (R := ((true, clk + 1, sz + pc, fm - (pc + (0)), k + 1) : go_T)) (fun _ => ⟨by dsimp only; omega, by dsimp only; omega⟩) (by dsimp only; omega)
              have hlf3 := hlf.2.2 rfl
              dsimp only at hlf3
              refine wi_pf ct_155_33 (sT_31 hS) rfl ?_
              refine wi_aload_0 ct_155_36 ?_
              refine wi_aload_0 ct_155_37 ?_
              refine wi_aload_0 ct_155_38 ?_
              refine wi_gf (x := (fi2 31 27 + zpc)) ct_155_39 (sT_31 hS) rfl rfl (Eq.trans (up2_nj (by decide)) (Eq.trans (congrFun (hgf33 31 (by decide)) _) (Eq.trans (up2_nj (by decide)) (Eq.trans (up2_nj (by decide)) (Eq.trans (up2_nj (by decide)) (Eq.trans (up2_nj (by decide)) (Eq.trans (up2_nj (by decide)) (Eq.trans (up2_nj (by decide)) up2_eq)))))))) ?_
              refine wi_i2l ct_155_42 rfl ?_
              refine wi_aload_0 ct_155_43 ?_
              refine wi_gf (x := (((10 * (fi2 31 28 - (zpc + 0))) / ((fi2 31 27 + zpc) + 1)) / (z32 + 1))) ct_155_44 (sT_31 hS) rfl rfl up2_eq ?_
              refine wi_i2l ct_155_47 rfl ?_
              refine wi_lmul ct_155_48 rfl ?_
              have hm1 := j_mul (j_of (i_add hsz hzpc (by omega))) (j_of hd3) (by omega)
              refine wi_aload_0 ct_155_49 ?_
              refine wi_ic ct_155_50 kc_2 ?_
              refine wi_iload_1 ct_155_51 ?_
              refine wi_ic ct_155_52 kc_1 ?_
              refine wi_cv3 (ls' := [some _, some _, some _, some _, none, none, none]) ct_155_53 (Nat.le_of_ble_eq_true rfl) (by decide) (sT_31 hS) rfl (by decide) rfl rfl (Nat.le_of_ble_eq_true rfl) ?_
              refine c_sum (fi := (up2 f33 31 31 ((((10 * (fi2 31 28 - (zpc + 0))) / ((fi2 31 27 + zpc) + 1)) / (z32 + 1))))) (W0 := 2) (O0 := 1) hS (hq.fr (Eq.trans (up2_nj (by decide)) (Eq.trans (congrFun (hgf33 31 (by decide)) _) (Eq.trans (up2_nj (by decide)) (Eq.trans (up2_nj (by decide)) (Eq.trans (up2_nj (by decide)) (Eq.trans (up2_nj (by decide)) (Eq.trans (up2_nj (by decide)) (Eq.trans (up2_nj (by decide)) (Eq.trans (up2_nj (by decide)) (hf.2 10 (Or.inl (by decide)))))))))))) (Eq.trans (funext fun _ => up2_nq (by decide)) (Eq.trans (hgf33 40 (by decide)) (Eq.trans (funext fun _ => up2_nq (by decide)) (Eq.trans (funext fun _ => up2_nq (by decide)) (Eq.trans (funext fun _ => up2_nq (by decide)) (Eq.trans (funext fun _ => up2_nq (by decide)) (Eq.trans (funext fun _ => up2_nq (by decide)) (Eq.trans (funext fun _ => up2_nq (by decide)) (Eq.trans (funext fun _ => up2_nq (by decide)) (hf.1 40 (by decide) (by decide))))))))))) (Eq.trans (funext fun _ => up2_nq (by decide)) (Eq.trans (hgf33 41 (by decide)) (Eq.trans (funext fun _ => up2_nq (by decide)) (Eq.trans (funext fun _ => up2_nq (by decide)) (Eq.trans (funext fun _ => up2_nq (by decide)) (Eq.trans (funext fun _ => up2_nq (by decide)) (Eq.trans (funext fun _ => up2_nq (by decide)) (Eq.trans (funext fun _ => up2_nq (by decide)) (Eq.trans (funext fun _ => up2_nq (by decide)) (hf.1 41 (by decide) (by decide))))))))))) (Eq.trans (funext fun _ => up2_nq (by decide)) (Eq.trans (hgf33 42 (by decide)) (Eq.trans (funext fun _ => up2_nq (by decide)) (Eq.trans (funext fun _ => up2_nq (by decide)) (Eq.trans (funext fun _ => up2_nq (by decide)) (Eq.trans (funext fun _ => up2_nq (by decide)) (Eq.trans (funext fun _ => up2_nq (by decide)) (Eq.trans (funext fun _ => up2_nq (by decide)) (Eq.trans (funext fun _ => up2_nq (by decide)) (hf.1 42 (by decide) (by decide))))))))))) (Eq.trans (funext fun _ => up2_nq (by decide)) (Eq.trans (hgf33 43 (by decide)) (Eq.trans (funext fun _ => up2_nq (by decide)) (Eq.trans (funext fun _ => up2_nq (by decide)) (Eq.trans (funext fun _ => up2_nq (by decide)) (Eq.trans (funext fun _ => up2_nq (by decide)) (Eq.trans (funext fun _ => up2_nq (by decide)) (Eq.trans (funext fun _ => up2_nq (by decide)) (Eq.trans (funext fun _ => up2_nq (by decide)) (hf.1 43 (by decide) (by decide))))))))))) (Eq.trans (funext fun _ => up2_nq (by decide)) (Eq.trans (hgf33 44 (by decide)) (Eq.trans (funext fun _ => up2_nq (by decide)) (Eq.trans (funext fun _ => up2_nq (by decide)) (Eq.trans (funext fun _ => up2_nq (by decide)) (Eq.trans (funext fun _ => up2_nq (by decide)) (Eq.trans (funext fun _ => up2_nq (by decide)) (Eq.trans (funext fun _ => up2_nq (by decide)) (Eq.trans (funext fun _ => up2_nq (by decide)) (hf.1 44 (by decide) (by decide))))))))))) (Eq.trans (funext fun _ => up2_nq (by decide)) (Eq.trans (hgf33 45 (by decide)) (Eq.trans (funext fun _ => up2_nq (by decide)) (Eq.trans (funext fun _ => up2_nq (by decide)) (Eq.trans (funext fun _ => up2_nq (by decide)) (Eq.trans (funext fun _ => up2_nq (by decide)) (Eq.trans (funext fun _ => up2_nq (by decide)) (Eq.trans (funext fun _ => up2_nq (by decide)) (Eq.trans (funext fun _ => up2_nq (by decide)) (hf.1 45 (by decide) (by decide)))))))))))) ki_2 (by decide) ki_1 hb hb5 (clk + 1) (sz + pc) (fm - (pc + (0))) kd v (((congrArg Int32.toInt (Eq.trans (up2_nj (by decide)) (Eq.trans (congrFun (hgf33 31 (by decide)) _) (Eq.trans (up2_nj (by decide)) (Eq.trans (up2_nj (by decide)) (Eq.trans (up2_nj (by decide)) (Eq.trans (up2_nj (by decide)) up2_eq))))))).trans (i_add hclk ki_1 (by omega))).trans (by omega)) (by omega) (((congrArg Int32.toInt (Eq.trans (up2_nj (by decide)) (Eq.trans (congrFun (hgf33 31 (by decide)) _) (Eq.trans (up2_nj (by decide)) (Eq.trans (up2_nj (by decide)) (Eq.trans (up2_nj (by decide)) (Eq.trans (up2_nj (by decide)) (Eq.trans (up2_nj (by decide)) (Eq.trans (up2_nj (by decide)) up2_eq))))))))).trans (i_add hsz hzpc (by omega))).trans (by omega)) (by omega) (((congrArg Int32.toInt (Eq.trans (up2_nj (by decide)) (Eq.trans (congrFun (hgf33 31 (by decide)) _) (Eq.trans (up2_nj (by decide)) (Eq.trans (up2_nj (by decide)) (Eq.trans (up2_nj (by decide)) (Eq.trans (up2_nj (by decide)) (Eq.trans (up2_nj (by decide)) up2_eq)))))))).trans (i_sub hfm (i_add hzpc ki_0 (by omega)) (by omega))).trans (by omega)) (by omega) ((congrArg Int32.toInt (congrFun (Eq.trans (funext fun _ => up2_nq (by decide)) (Eq.trans (hgf33 32 (by decide)) (Eq.trans (funext fun _ => up2_nq (by decide)) (Eq.trans (funext fun _ => up2_nq (by decide)) (Eq.trans (funext fun _ => up2_nq (by decide)) (Eq.trans (funext fun _ => up2_nq (by decide)) (Eq.trans (funext fun _ => up2_nq (by decide)) (Eq.trans (funext fun _ => up2_nq (by decide)) (Eq.trans (funext fun _ => up2_nq (by decide)) (hf.1 32 (by decide) (by decide))))))))))) _)).trans hkd) ((congrArg Int32.toInt (congrFun (Eq.trans (funext fun _ => up2_nq (by decide)) (Eq.trans (hgf33 33 (by decide)) (Eq.trans (funext fun _ => up2_nq (by decide)) (Eq.trans (funext fun _ => up2_nq (by decide)) (Eq.trans (funext fun _ => up2_nq (by decide)) (Eq.trans (funext fun _ => up2_nq (by decide)) (Eq.trans (funext fun _ => up2_nq (by decide)) (Eq.trans (funext fun _ => up2_nq (by decide)) (Eq.trans (funext fun _ => up2_nq (by decide)) (hf.1 33 (by decide) (by decide))))))))))) _)).trans hv) (fun z34 f35 hgf35 hz34 => wk_i ?_)
              have hbz34 := hlk 2 1 (clk + 1) (sz + pc) (fm - (pc + (0))) (by decide) (by decide)
              unfold mkLk at hbz34
              refine wi_i2l ct_155_56 rfl ?_
              refine wi_lmul ct_155_57 rfl ?_
              have hm0 := Int.mul_nonneg hlf3.2 hbz34.1
              have hmx := Int.mul_le_mul hlf3.1 hbz34.2 hbz34.1 (by decide)
              have hm2 := j_mul hm1 (j_of hz34) (by omega)
              refine wi_cv1 (ls' := [some _, some _, none]) ct_155_58 (Nat.le_of_ble_eq_true rfl) (by decide) (sT_31 hS) rfl (by decide) rfl rfl (Nat.le_of_ble_eq_true rfl) ?_
              refine wi_lload_1 ct_156_0 ?_
              refine wi_lc ct_156_1 kl_99999 ?_
              refine wi_lcmp ct_156_4 rfl ?_
              refine wi_ifge ct_156_5 rfl (fun hcm => ?_) (fun hcm => ?_)
              · skip
                replace hcm := lcmp_ge hm2 (show (99999 : Int64).toInt = 99999 from rfl) hcm
                refine wi_lc ct_156_12 kl_99999 ?_
                refine wi_lret ct_156_15 (wk_j ?_)
                refine wi_l2i ct_155_61 rfl ?_
                have hbr : ((Int64.toInt32 99999)).toInt = gBr (mkLk sq B kd v) ((true, clk + 1, sz + pc, fm - (pc + (0)), k + 1) : go_T) := by unfold gBr; rw [if_pos rfl]; exact (show (99999 : Int64).toInt32.toInt = 99999 from rfl).trans (Int.min_eq_right hcm).symm
                refine wi_pf ct_155_62 (sT_31 hS) rfl ?_
                refine wi_ret ct_155_65 (wk_v ?_)
                refine wi_aload_0 ct_157_223 ?_
                refine wi_ic ct_157_224 kc_0 ?_
                refine wi_pf ct_157_225 (sT_31 hS) rfl ?_
                refine wi_aload_0 ct_157_228 ?_
                refine wi_ic ct_157_229 kc_0 ?_
                refine wi_pf ct_157_230 (sT_31 hS) rfl ?_
                refine wi_ret ct_157_233 ?_
                rw [goL_2 hpc (show windV (mkLk sq B kd v) gust true k clk sz fm = 0 from rfl) (by omega) hs] at hR
                subst hR
                refine kk _ ⟨fun q h1 h2 => (Eq.trans (funext fun _ => up2_nq h2) (Eq.trans (funext fun _ => up2_nq h2) (Eq.trans (funext fun _ => up2_nq h2) (Eq.trans (hgf35 q h1) (Eq.trans (funext fun _ => up2_nq h2) (Eq.trans (hgf33 q h1) (Eq.trans (funext fun _ => up2_nq h2) (Eq.trans (funext fun _ => up2_nq h2) (Eq.trans (funext fun _ => up2_nq h2) (Eq.trans (funext fun _ => up2_nq h2) (Eq.trans (funext fun _ => up2_nq h2) (Eq.trans (funext fun _ => up2_nq h2) (Eq.trans (funext fun _ => up2_nq h2) (hf.1 q h1 h2)))))))))))))), fun j hj => (Eq.trans (up2_nj (by omega)) (Eq.trans (up2_nj (by omega)) (Eq.trans (up2_nj (by omega)) (Eq.trans (congrFun (hgf35 31 (by decide)) _) (Eq.trans (up2_nj (by omega)) (Eq.trans (congrFun (hgf33 31 (by decide)) _) (Eq.trans (up2_nj (by omega)) (Eq.trans (up2_nj (by omega)) (Eq.trans (up2_nj (by omega)) (Eq.trans (up2_nj (by omega)) (Eq.trans (up2_nj (by omega)) (Eq.trans (up2_nj (by omega)) (Eq.trans (up2_nj (by omega)) (hf.2 j hj))))))))))))))⟩ ?_ ?_ ?_ ?_ ?_
                · exact ((congrArg Int32.toInt (Eq.trans (up2_nj (by decide)) (Eq.trans (up2_nj (by decide)) (Eq.trans (up2_nj (by decide)) (Eq.trans (congrFun (hgf35 31 (by decide)) _) (Eq.trans (up2_nj (by decide)) (Eq.trans (congrFun (hgf33 31 (by decide)) _) up2_eq))))))).trans (i_add hsz hzpc (by omega))).trans (by unfold gSz; rw [if_pos rfl])
                · exact ((congrArg Int32.toInt (Eq.trans (up2_nj (by decide)) (Eq.trans (up2_nj (by decide)) (Eq.trans (up2_nj (by decide)) (Eq.trans (congrFun (hgf35 31 (by decide)) _) up2_eq))))).trans hd3)
                · exact ((congrArg Int32.toInt (Eq.trans (up2_nj (by decide)) (Eq.trans (up2_nj (by decide)) up2_eq))).trans hbr)
                · exact ((congrArg Int32.toInt (Eq.trans (up2_nj (by decide)) (Eq.trans (up2_nj (by decide)) (Eq.trans (up2_nj (by decide)) (Eq.trans (congrFun (hgf35 31 (by decide)) _) (Eq.trans (up2_nj (by decide)) (Eq.trans (congrFun (hgf33 31 (by decide)) _) (Eq.trans (up2_nj (by decide)) up2_eq)))))))).trans (i_add hik ki_1 (by omega))).trans (by unfold gMn; dsimp only; omega)
                · exact (Eq.trans (up2_nj (by decide)) (Eq.trans (up2_nj (by decide)) (Eq.trans (up2_nj (by decide)) (Eq.trans (congrFun (hgf35 31 (by decide)) _) (Eq.trans (up2_nj (by decide)) (Eq.trans (congrFun (hgf33 31 (by decide)) _) (Eq.trans (up2_nj (by decide)) (Eq.trans (up2_nj (by decide)) up2_eq))))))))
              · skip
                replace hcm := lcmp_lt hm2 (show (99999 : Int64).toInt = 99999 from rfl) hcm
                refine wi_lload_1 ct_156_8 ?_
                refine wi_goto ct_156_9 ?_
                refine wi_lret ct_156_15 (wk_j ?_)
                refine wi_l2i ct_155_61 rfl ?_
                have hbr : ((Int64.toInt32 (((Int32.toInt64 (fi2 31 27 + zpc)) * (Int32.toInt64 (((10 * (fi2 31 28 - (zpc + 0))) / ((fi2 31 27 + zpc) + 1)) / (z32 + 1)))) * (Int32.toInt64 z34)))).toInt = gBr (mkLk sq B kd v) ((true, clk + 1, sz + pc, fm - (pc + (0)), k + 1) : go_T) := (j_l2i hm2 (by omega)).trans (by unfold gBr; rw [if_pos rfl]; exact (Int.min_eq_left (Int.le_of_lt hcm)).symm)
                refine wi_pf ct_155_62 (sT_31 hS) rfl ?_
                refine wi_ret ct_155_65 (wk_v ?_)
                refine wi_aload_0 ct_157_223 ?_
                refine wi_ic ct_157_224 kc_0 ?_
                refine wi_pf ct_157_225 (sT_31 hS) rfl ?_
                refine wi_aload_0 ct_157_228 ?_
                refine wi_ic ct_157_229 kc_0 ?_
                refine wi_pf ct_157_230 (sT_31 hS) rfl ?_
                refine wi_ret ct_157_233 ?_
                rw [goL_2 hpc (show windV (mkLk sq B kd v) gust true k clk sz fm = 0 from rfl) (by omega) hs] at hR
                subst hR
                refine kk _ ⟨fun q h1 h2 => (Eq.trans (funext fun _ => up2_nq h2) (Eq.trans (funext fun _ => up2_nq h2) (Eq.trans (funext fun _ => up2_nq h2) (Eq.trans (hgf35 q h1) (Eq.trans (funext fun _ => up2_nq h2) (Eq.trans (hgf33 q h1) (Eq.trans (funext fun _ => up2_nq h2) (Eq.trans (funext fun _ => up2_nq h2) (Eq.trans (funext fun _ => up2_nq h2) (Eq.trans (funext fun _ => up2_nq h2) (Eq.trans (funext fun _ => up2_nq h2) (Eq.trans (funext fun _ => up2_nq h2) (Eq.trans (funext fun _ => up2_nq h2) (hf.1 q h1 h2)))))))))))))), fun j hj => (Eq.trans (up2_nj (by omega)) (Eq.trans (up2_nj (by omega)) (Eq.trans (up2_nj (by omega)) (Eq.trans (congrFun (hgf35 31 (by decide)) _) (Eq.trans (up2_nj (by omega)) (Eq.trans (congrFun (hgf33 31 (by decide)) _) (Eq.trans (up2_nj (by omega)) (Eq.trans (up2_nj (by omega)) (Eq.trans (up2_nj (by omega)) (Eq.trans (up2_nj (by omega)) (Eq.trans (up2_nj (by omega)) (Eq.trans (up2_nj (by omega)) (Eq.trans (up2_nj (by omega)) (hf.2 j hj))))))))))))))⟩ ?_ ?_ ?_ ?_ ?_
                · exact ((congrArg Int32.toInt (Eq.trans (up2_nj (by decide)) (Eq.trans (up2_nj (by decide)) (Eq.trans (up2_nj (by decide)) (Eq.trans (congrFun (hgf35 31 (by decide)) _) (Eq.trans (up2_nj (by decide)) (Eq.trans (congrFun (hgf33 31 (by decide)) _) up2_eq))))))).trans (i_add hsz hzpc (by omega))).trans (by unfold gSz; rw [if_pos rfl])
                · exact ((congrArg Int32.toInt (Eq.trans (up2_nj (by decide)) (Eq.trans (up2_nj (by decide)) (Eq.trans (up2_nj (by decide)) (Eq.trans (congrFun (hgf35 31 (by decide)) _) up2_eq))))).trans hd3)
                · exact ((congrArg Int32.toInt (Eq.trans (up2_nj (by decide)) (Eq.trans (up2_nj (by decide)) up2_eq))).trans hbr)
                · exact ((congrArg Int32.toInt (Eq.trans (up2_nj (by decide)) (Eq.trans (up2_nj (by decide)) (Eq.trans (up2_nj (by decide)) (Eq.trans (congrFun (hgf35 31 (by decide)) _) (Eq.trans (up2_nj (by decide)) (Eq.trans (congrFun (hgf33 31 (by decide)) _) (Eq.trans (up2_nj (by decide)) up2_eq)))))))).trans (i_add hik ki_1 (by omega))).trans (by unfold gMn; dsimp only; omega)
                · exact (Eq.trans (up2_nj (by decide)) (Eq.trans (up2_nj (by decide)) (Eq.trans (up2_nj (by decide)) (Eq.trans (congrFun (hgf35 31 (by decide)) _) (Eq.trans (up2_nj (by decide)) (Eq.trans (congrFun (hgf33 31 (by decide)) _) (Eq.trans (up2_nj (by decide)) (Eq.trans (up2_nj (by decide)) up2_eq))))))))
          · skip
            refine wi_ifeq_t ct_157_183 ki_0 (by decide) ?_
            refine wi_ic ct_157_190 kc_0 ?_
            refine wi_istore_3 rfl ct_157_191 ?_
            refine wi_goto ct_157_192 ?_
            rw [goL_3 hpc (show windV (mkLk sq B kd v) gust true k clk sz fm = 0 from rfl) (by omega) hs] at hR
            exact ih (k + 1) _ _ _ _ _ _ _ R (by omega) hR ⟨fun q h1 h2 => (Eq.trans (funext fun _ => up2_nq h2) (Eq.trans (funext fun _ => up2_nq h2) (Eq.trans (funext fun _ => up2_nq h2) (Eq.trans (funext fun _ => up2_nq h2) (hf.1 q h1 h2))))), fun j hj => (Eq.trans (up2_nj (by omega)) (Eq.trans (up2_nj (by omega)) (Eq.trans (up2_nj (by omega)) (Eq.trans (up2_nj (by omega)) (hf.2 j hj)))))⟩ (((i_add hik ki_1 (by omega))).trans (by omega)) (by omega) (by omega) (by omega) (((congrArg Int32.toInt (Eq.trans (up2_nj (by decide)) up2_eq)).trans (i_add hclk ki_1 (by omega))).trans (by omega)) (((congrArg Int32.toInt (Eq.trans (up2_nj (by decide)) (Eq.trans (up2_nj (by decide)) (Eq.trans (up2_nj (by decide)) up2_eq)))).trans (i_add hsz hzpc (by omega))).trans (by omega)) (((congrArg Int32.toInt (Eq.trans (up2_nj (by decide)) (Eq.trans (up2_nj (by decide)) up2_eq))).trans (i_sub hfm (i_add hzpc ki_0 (by omega)) (by omega))).trans (by omega)) up2_eq (Eq.trans (up2_nj (by decide)) (Eq.trans (up2_nj (by decide)) (Eq.trans (up2_nj (by decide)) (Eq.trans (up2_nj (by decide)) h30)))) (Eq.trans (up2_nj (by decide)) (Eq.trans (up2_nj (by decide)) (Eq.trans (up2_nj (by decide)) (Eq.trans (up2_nj (by decide)) h31)))) (Eq.trans (up2_nj (by decide)) (Eq.trans (up2_nj (by decide)) (Eq.trans (up2_nj (by decide)) (Eq.trans (up2_nj (by decide)) h32)))) rfl rfl kk
        · skip
          refine wi_ic ct_157_161 kc_1 ?_
          refine wi_goto ct_157_162 ?_
          refine wi_pfz ct_157_166 (sT_31 hS) rfl (by decide) ?_
          refine wi_aload_0 ct_157_169 ?_
          refine wi_gf (x := 1) ct_157_170 (sT_31 hS) rfl rfl up2_eq ?_
          refine wi_ifne_t ct_157_173 ki_1 (by decide) ?_
          refine wi_ic ct_157_190 kc_0 ?_
          refine wi_istore_3 rfl ct_157_191 ?_
          refine wi_goto ct_157_192 ?_
          refine wi_iload_4 ct_157_50 ?_
          refine wi_ic ct_157_52 kc_30 ?_
          refine wi_icge ct_157_54 (i_add hik ki_1 (by omega)) ki_30 (fun h36 => ?_) (fun h36 => ?_)
          · skip
            refine wi_aload_0 ct_157_195 ?_
            refine wi_iload_3 ct_157_196 ?_
            refine wi_ifne_f ct_157_197 ki_0 (by decide) ?_
            refine wi_ic ct_157_200 kc_1 ?_
            refine wi_goto ct_157_201 ?_
            refine wi_pfz ct_157_205 (sT_31 hS) rfl (by decide) ?_
            refine wi_aload_0 ct_157_208 ?_
            refine wi_iload_4 ct_157_209 ?_
            refine wi_pf ct_157_211 (sT_31 hS) rfl ?_
            refine wi_iload_3 ct_157_214 ?_
            refine wi_ifeq_t ct_157_215 ki_0 (by decide) ?_
            refine wi_aload_0 ct_157_223 ?_
            refine wi_ic ct_157_224 kc_0 ?_
            refine wi_pf ct_157_225 (sT_31 hS) rfl ?_
            refine wi_aload_0 ct_157_228 ?_
            refine wi_ic ct_157_229 kc_0 ?_
            refine wi_pf ct_157_230 (sT_31 hS) rfl ?_
            refine wi_ret ct_157_233 ?_
            rw [goL_1 hpc (show windV (mkLk sq B kd v) gust true k clk sz fm = 0 from rfl) (by omega)] at hR
            subst hR
            refine kk _ ⟨fun q h1 h2 => (Eq.trans (funext fun _ => up2_nq h2) (Eq.trans (funext fun _ => up2_nq h2) (Eq.trans (funext fun _ => up2_nq h2) (Eq.trans (funext fun _ => up2_nq h2) (Eq.trans (funext fun _ => up2_nq h2) (Eq.trans (funext fun _ => up2_nq h2) (Eq.trans (funext fun _ => up2_nq h2) (Eq.trans (funext fun _ => up2_nq h2) (hf.1 q h1 h2))))))))), fun j hj => (Eq.trans (up2_nj (by omega)) (Eq.trans (up2_nj (by omega)) (Eq.trans (up2_nj (by omega)) (Eq.trans (up2_nj (by omega)) (Eq.trans (up2_nj (by omega)) (Eq.trans (up2_nj (by omega)) (Eq.trans (up2_nj (by omega)) (Eq.trans (up2_nj (by omega)) (hf.2 j hj)))))))))⟩ ?_ ?_ ?_ ?_ ?_
            · exact ((congrArg Int32.toInt (Eq.trans (up2_nj (by decide)) (Eq.trans (up2_nj (by decide)) (Eq.trans (up2_nj (by decide)) (Eq.trans (up2_nj (by decide)) (Eq.trans (up2_nj (by decide)) (Eq.trans (up2_nj (by decide)) (Eq.trans (up2_nj (by decide)) (Eq.trans (up2_nj (by decide)) h30))))))))).trans ki_0)
            · exact ((congrArg Int32.toInt (Eq.trans (up2_nj (by decide)) (Eq.trans (up2_nj (by decide)) (Eq.trans (up2_nj (by decide)) (Eq.trans (up2_nj (by decide)) (Eq.trans (up2_nj (by decide)) (Eq.trans (up2_nj (by decide)) (Eq.trans (up2_nj (by decide)) (Eq.trans (up2_nj (by decide)) h31))))))))).trans ki_0)
            · exact ((congrArg Int32.toInt (Eq.trans (up2_nj (by decide)) (Eq.trans (up2_nj (by decide)) (Eq.trans (up2_nj (by decide)) (Eq.trans (up2_nj (by decide)) (Eq.trans (up2_nj (by decide)) (Eq.trans (up2_nj (by decide)) (Eq.trans (up2_nj (by decide)) (Eq.trans (up2_nj (by decide)) h32))))))))).trans ki_0)
            · exact ((congrArg Int32.toInt (Eq.trans (up2_nj (by decide)) (Eq.trans (up2_nj (by decide)) up2_eq))).trans (i_add hik ki_1 (by omega))).trans (by unfold gMn; dsimp only; omega)
            · exact (Eq.trans (up2_nj (by decide)) (Eq.trans (up2_nj (by decide)) (Eq.trans (up2_nj (by decide)) up2_eq)))
          · skip
            refine wi_iload_3 ct_157_57 ?_
            refine wi_ifne_f ct_157_58 ki_0 (by decide) ?_
            refine wi_aload_0 ct_157_61 ?_
            refine wi_gf (x := 1) ct_157_62 (sT_31 hS) rfl rfl up2_eq ?_
            refine wi_ifne_t ct_157_65 ki_1 (by decide) ?_
            refine wi_aload_0 ct_157_195 ?_
            refine wi_iload_3 ct_157_196 ?_
            refine wi_ifne_f ct_157_197 ki_0 (by decide) ?_
            refine wi_ic ct_157_200 kc_1 ?_
            refine wi_goto ct_157_201 ?_
            refine wi_pfz ct_157_205 (sT_31 hS) rfl (by decide) ?_
            refine wi_aload_0 ct_157_208 ?_
            refine wi_iload_4 ct_157_209 ?_
            refine wi_pf ct_157_211 (sT_31 hS) rfl ?_
            refine wi_iload_3 ct_157_214 ?_
            refine wi_ifeq_t ct_157_215 ki_0 (by decide) ?_
            refine wi_aload_0 ct_157_223 ?_
            refine wi_ic ct_157_224 kc_0 ?_
            refine wi_pf ct_157_225 (sT_31 hS) rfl ?_
            refine wi_aload_0 ct_157_228 ?_
            refine wi_ic ct_157_229 kc_0 ?_
            refine wi_pf ct_157_230 (sT_31 hS) rfl ?_
            refine wi_ret ct_157_233 ?_
            rw [goL_1 hpc (show windV (mkLk sq B kd v) gust true k clk sz fm = 0 from rfl) (by omega)] at hR
            subst hR
            refine kk _ ⟨fun q h1 h2 => (Eq.trans (funext fun _ => up2_nq h2) (Eq.trans (funext fun _ => up2_nq h2) (Eq.trans (funext fun _ => up2_nq h2) (Eq.trans (funext fun _ => up2_nq h2) (Eq.trans (funext fun _ => up2_nq h2) (Eq.trans (funext fun _ => up2_nq h2) (Eq.trans (funext fun _ => up2_nq h2) (Eq.trans (funext fun _ => up2_nq h2) (hf.1 q h1 h2))))))))), fun j hj => (Eq.trans (up2_nj (by omega)) (Eq.trans (up2_nj (by omega)) (Eq.trans (up2_nj (by omega)) (Eq.trans (up2_nj (by omega)) (Eq.trans (up2_nj (by omega)) (Eq.trans (up2_nj (by omega)) (Eq.trans (up2_nj (by omega)) (Eq.trans (up2_nj (by omega)) (hf.2 j hj)))))))))⟩ ?_ ?_ ?_ ?_ ?_
            · exact ((congrArg Int32.toInt (Eq.trans (up2_nj (by decide)) (Eq.trans (up2_nj (by decide)) (Eq.trans (up2_nj (by decide)) (Eq.trans (up2_nj (by decide)) (Eq.trans (up2_nj (by decide)) (Eq.trans (up2_nj (by decide)) (Eq.trans (up2_nj (by decide)) (Eq.trans (up2_nj (by decide)) h30))))))))).trans ki_0)
            · exact ((congrArg Int32.toInt (Eq.trans (up2_nj (by decide)) (Eq.trans (up2_nj (by decide)) (Eq.trans (up2_nj (by decide)) (Eq.trans (up2_nj (by decide)) (Eq.trans (up2_nj (by decide)) (Eq.trans (up2_nj (by decide)) (Eq.trans (up2_nj (by decide)) (Eq.trans (up2_nj (by decide)) h31))))))))).trans ki_0)
            · exact ((congrArg Int32.toInt (Eq.trans (up2_nj (by decide)) (Eq.trans (up2_nj (by decide)) (Eq.trans (up2_nj (by decide)) (Eq.trans (up2_nj (by decide)) (Eq.trans (up2_nj (by decide)) (Eq.trans (up2_nj (by decide)) (Eq.trans (up2_nj (by decide)) (Eq.trans (up2_nj (by decide)) h32))))))))).trans ki_0)
            · exact ((congrArg Int32.toInt (Eq.trans (up2_nj (by decide)) (Eq.trans (up2_nj (by decide)) up2_eq))).trans (i_add hik ki_1 (by omega))).trans (by unfold gMn; dsimp only; omega)
            · exact (Eq.trans (up2_nj (by decide)) (Eq.trans (up2_nj (by decide)) (Eq.trans (up2_nj (by decide)) up2_eq)))
