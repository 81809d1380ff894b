def stB (o : Bool) (σ : List Int) : List Int := match o with
  | true => 38 :: σ
  | false => σ
def stE (o : Bool) (σ : List Int) : List Int := match o with
  | true => 124 :: σ
  | false => σ
def aB (o : Bool) : List tk_T := match o with
  | true => [tkA]
  | false => []
def aE (o : Bool) : List tk_T := match o with
  | true => [tkO]
  | false => []
def w2 (o : Bool) (W V : List tk_T) : List tk_T := match o with
  | true => W ++ V ++ [tkO]
  | false => V
def bs (σ : List Int) : Prop := σ = [] ∨ ∃ r, σ = 40 :: r
section ABS
variable {σ : List Int}
theorem bs_strp (hb : bs σ) : strp σ = σ ∧ nots σ = [] := by
  rcases hb with rfl | ⟨r, rfl⟩
  · exact ⟨rfl, rfl⟩
  · exact ⟨if_neg (by decide), if_neg (by decide)⟩
theorem bs_stl (hb : bs σ) (c : Int) : stl1 c σ = σ ∧ stl2 c σ = [] := by
  rcases hb with rfl | ⟨r, rfl⟩
  · exact ⟨rfl, rfl⟩
  · exact ⟨if_neg (fun h => h.elim (fun e => absurd e (by decide)) (fun e => absurd e.1 (by decide))), if_neg (fun h => h.elim (fun e => absurd e (by decide)) (fun e => absurd e.1 (by decide)))⟩
theorem stl_E (hb : bs σ) (oE : Bool) : stl1 38 (stE oE σ) = stE oE σ ∧ stl2 38 (stE oE σ) = [] := by
  cases oE
  · exact bs_stl hb 38
  · exact ⟨if_neg (by decide), if_neg (by decide)⟩
theorem stl_38 (hb : bs σ) (oB oE : Bool) : stl1 38 (stB oB (stE oE σ)) = stE oE σ ∧ stl2 38 (stB oB (stE oE σ)) = aB oB := by
  cases oB
  · exact stl_E hb oE
  · refine ⟨(if_pos (Or.inl rfl)).trans (stl_E hb oE).1, (if_pos (Or.inl rfl)).trans ?_⟩
    rw [(stl_E hb oE).2]
    rfl
theorem stl_E4 (hb : bs σ) (oE : Bool) : stl1 124 (stE oE σ) = σ ∧ stl2 124 (stE oE σ) = aE oE := by
  cases oE
  · exact bs_stl hb 124
  · refine ⟨(if_pos (Or.inr ⟨rfl, by decide⟩)).trans (bs_stl hb 124).1, (if_pos (Or.inr ⟨rfl, by decide⟩)).trans ?_⟩
    rw [(bs_stl hb 124).2]
    rfl
theorem stl_124 (hb : bs σ) (oB oE : Bool) : stl1 124 (stB oB (stE oE σ)) = σ ∧ stl2 124 (stB oB (stE oE σ)) = aB oB ++ aE oE := by
  cases oB
  · exact ⟨(stl_E4 hb oE).1, (stl_E4 hb oE).2⟩
  · refine ⟨(if_pos (Or.inl rfl)).trans (stl_E4 hb oE).1, (if_pos (Or.inl rfl)).trans ?_⟩
    rw [(stl_E4 hb oE).2]
    rfl
end ABS
theorem opn_st (o oE : Bool) (σ : List Int) : opn (stB o (stE oE σ)) = opn σ ∧ opn (38 :: stE oE σ) = opn σ ∧ opn (124 :: σ) = opn σ := by
  have hE : opn (stE oE σ) = opn σ := by
    cases oE
    · rfl
    · exact if_neg (by decide)
  have h38 : opn (38 :: stE oE σ) = opn σ := (if_neg (by decide)).trans hE
  refine ⟨?_, h38, if_neg (by decide)⟩
  cases o
  · exact hE
  · exact h38
def rR (X : Nat → Int) (n m kB kE p : Nat) (oE : Bool) (W V : List tk_T) : rd_T := if (rLp X n (rP X n m) 38 tkA kB p V).1 = true then rLp X n (rB X n m) 124 tkO kE (rLp X n (rP X n m) 38 tkA kB p V).2.1 (w2 oE W (rLp X n (rP X n m) 38 tkA kB p V).2.2) else (false, (rLp X n (rP X n m) 38 tkA kB p V).2.1, [])
section ARR
variable {X : Nat → Int} {n m k kE kB p : Nat} {oE : Bool} {W V : List tk_T}
theorem rR_a (h : pk X n p = 38) (e : (rP X n m (p + 1)).1 = true) : rR X n m (k + 1) kE p oE W V = rR X n m k kE (rP X n m (p + 1)).2.1 oE W (V ++ (rP X n m (p + 1)).2.2 ++ [tkA]) := by
  unfold rR
  rw [rLp_c h, if_pos e]
theorem rR_af (h : pk X n p = 38) (e : (rP X n m (p + 1)).1 = false) : rR X n m (k + 1) kE p oE W V = (false, (rP X n m (p + 1)).2.1, []) := by
  have e1 : rLp X n (rP X n m) 38 tkA (k + 1) p V = (false, (rP X n m (p + 1)).2.1, []) := (rLp_c h).trans (if_neg (by rw [e]; exact Bool.false_ne_true))
  unfold rR
  rw [e1]
  exact if_neg Bool.false_ne_true
theorem rR_o (h : pk X n p = 124) (e : (rP X n m (p + 1)).1 = true) : rR X n m kB (k + 1) p oE W V = rR X n m 100 k (rP X n m (p + 1)).2.1 true (w2 oE W V) (rP X n m (p + 1)).2.2 := by
  have hB : rB X n m (p + 1) = rLp X n (rP X n m) 38 tkA 100 (rP X n m (p + 1)).2.1 (rP X n m (p + 1)).2.2 := if_pos e
  unfold rR
  rw [rLp_n (show pk X n p ≠ 38 by omega), if_pos rfl, rLp_c h, hB]
  rfl
theorem rR_of (h : pk X n p = 124) (e : (rP X n m (p + 1)).1 = false) : rR X n m kB (k + 1) p oE W V = (false, (rP X n m (p + 1)).2.1, []) := by
  have hB : rB X n m (p + 1) = (false, (rP X n m (p + 1)).2.1, []) := if_neg (by rw [e]; exact Bool.false_ne_true)
  unfold rR
  rw [rLp_n (show pk X n p ≠ 38 by omega), if_pos rfl, rLp_c h, hB]
  exact if_neg Bool.false_ne_true
theorem rR_n (h : pk X n p ≠ 38) (h2 : pk X n p ≠ 124) : rR X n m kB kE p oE W V = (true, p, w2 oE W V) := by
  unfold rR
  rw [rLp_n h, if_pos rfl, rLp_n h2]
theorem rE_R (e : (rP X n m p).1 = true) : rE X n m p = rR X n m 100 100 (rP X n m p).2.1 false [] (rP X n m p).2.2 := by
  have hB : rB X n m p = rLp X n (rP X n m) 38 tkA 100 (rP X n m p).2.1 (rP X n m p).2.2 := if_pos e
  unfold rR
  show (if (rB X n m p).1 = true then _ else _) = _
  rw [hB]
  rfl
theorem rE_Rf (e : (rP X n m p).1 = false) : rE X n m p = (false, (rP X n m p).2.1, []) := by
  have hB : rB X n m p = (false, (rP X n m p).2.1, []) := if_neg (by rw [e]; exact Bool.false_ne_true)
  show (if (rB X n m p).1 = true then _ else _) = _
  rw [hB]
  exact if_neg Bool.false_ne_true
end ARR
def eLP (d : Nat) (cz wz : Int32) (g : am_G) (fl : am_L) (P : Option Value → am_G → am_I → am_L → Prop) (fi : am_I) : Prop := ∀ b, WP (d + 5) 137 22 [some (.ref 31), some (.int cz), some (.int wz), b] [] g fi fl P
def eFL (n F c : Nat) (g : am_G) (fl : am_L) (fi0 : am_I) (P : Option Value → am_G → am_I → am_L → Prop) (r : rd_T) : Prop := r.1 = false → ∀ fi2, RFr F c fi0 fi2 → (fi2 31 12).toInt = (r.2.1 : Int) → P (some (.int 0)) g fi2 fl
def ePC (d n F c : Nat) (cz : Int32) (g : am_G) (fl : am_L) (fi0 : am_I) (X : Nat → Int) (m : Nat) : Prop := ∀ (P : Option Value → am_G → am_I → am_L → Prop) (fi : am_I) (p : Nat) (ts : List tk_T) (σ : List Int), RSt n F c fi0 fi p ts σ → opn σ + m = 4 → ((rP X n m p).1 = true → ∀ fi2, RSt n F c fi0 fi2 (rP X n m p).2.1 (ts ++ (rP X n m p).2.2 ++ nots σ) (strp σ) → eLP d cz 0 g fl P fi2) → eFL n F c g fl fi0 P (rP X n m p) → eLP d cz 1 g fl P fi
def eOK (d n F c : Nat) (cz : Int32) (g : am_G) (fl : am_L) (fi0 : am_I) (X : Nat → Int) (P : Option Value → am_G → am_I → am_L → Prop) (ts : List tk_T) (σ : List Int) (r : rd_T) : Prop := r.1 = true → ∀ fi2 z, z.toInt = pk X n r.2.1 → RSt n F c fi0 fi2 r.2.1 (ts ++ r.2.2) σ → WP (d + 5) 137 168 [some (.ref 31), some (.int cz), some (.int 0), some (.int z)] [] g fi2 fl P
theorem r_test {d L n F c : Nat} {g : am_G} {fl : am_L} {fi0 : am_I} {X : Nat → Int} {P : Option Value → am_G → am_I → am_L → Prop} {fi : am_I} {p : Nat} {ts : List tk_T} {σ : List Int} (hT : RTX L g fi0 X n) (hF : F ≤ 500) (hs : RSt n F c fi0 fi p ts σ) (k1 : (rT X n p).1 = true → ∀ fi2, RSt n F c fi0 fi2 (rT X n p).2.1 (ts ++ (rT X n p).2.2 ++ nots σ) (strp σ) → P (some (.int 1)) g fi2 fl) (k2 : (rT X n p).1 = false → ∀ fi2, RFr F c fi0 fi2 → (fi2 31 12).toInt = ((rT X n p).2.1 : Int) → P (some (.int 0)) g fi2 fl) : WP (d + 3) 136 0 [some (.ref 31), none, none] [] g fi fl P := by
  obtain ⟨hS, -, -, hn, hxb⟩ := id hT
  obtain ⟨m1, m2, m3, m4, m5, m6, m7, m8, m9⟩ := id hs
  have ml := RSt.tl hT hs
  have hx := RSt.tx hT hs
  have ho := opn_le σ
  have b6 := lt6_bd (pk X n p)
  refine wi_aload_0 ct_136_0 ?_
  refine wi_aload_0 ct_136_1 ?_
  refine wi_cv0 (ls' := [some _]) ct_136_2 (Nat.le_of_ble_eq_true rfl) (by decide) (sT_31 hS) rfl (by decide) rfl rfl (Nat.le_of_ble_eq_true rfl) ?_
  refine r_peek (p := p) hS m1 ml hx hn hxb (fun z1 hz1 => wk_i ?_)
  have hbz1 := pk_bd hxb (p := p)
  refine wi_cv1 (ls' := [some _, some _]) ct_136_5 (Nat.le_of_ble_eq_true rfl) (by decide) (sT_31 hS) rfl (by decide) rfl rfl (Nat.le_of_ble_eq_true rfl) ?_
  refine r_place hz1 (fun z2 hz2 => wk_i ?_)
  refine wi_istore_1 rfl ct_136_8 ?_
  refine wi_iload_1 ct_136_9 ?_
  refine wi_ifge ct_136_10 hz2 (fun h3 => ?_) (fun h3 => ?_)
  · skip
    refine wi_aload_0 ct_136_15 ?_
    refine wi_dup ct_136_16 rfl ?_
    refine wi_gf (x := fi 31 12) ct_136_17 (sT_31 hS) rfl rfl rfl ?_
    refine wi_ic ct_136_20 kc_1 ?_
    refine wi_iadd ct_136_21 rfl ?_
    refine wi_pf ct_136_22 (sT_31 hS) rfl ?_
    refine wi_aload_0 ct_136_25 ?_
    refine wi_cv0 (ls' := [some _]) ct_136_26 (Nat.le_of_ble_eq_true rfl) (by decide) (sT_31 hS) rfl (by decide) rfl rfl (Nat.le_of_ble_eq_true rfl) ?_
    refine r_peek (p := (p + 1)) hS ((congrArg Int32.toInt up2_eq).trans ((i_add m1 ki_1 (by omega)).trans (by omega))) ((congrArg Int32.toInt (up2_nj (by decide))).trans ml) (fun j hj => (congrArg Int32.toInt (up2_nq (by decide))).trans (hx j hj)) hn hxb (fun z4 hz4 => wk_i ?_)
    have hbz4 := pk_bd hxb (p := (p + 1))
    refine wi_istore_2 rfl ct_136_29 ?_
    refine wi_aload_0 ct_136_30 ?_
    refine wi_iload_2 ct_136_31 ?_
    refine wi_ic ct_136_32 kc_60 ?_
    refine wi_ic ct_136_34 kc_62 ?_
    refine wi_cv3 (ls' := [some _, some _, some _, some _]) ct_136_36 (Nat.le_of_ble_eq_true rfl) (by decide) (sT_31 hS) rfl (by decide) rfl rfl (Nat.le_of_ble_eq_true rfl) ?_
    refine wi_iload_1 ct_119_0 ?_
    refine wi_iload_2 ct_119_1 ?_
    refine wi_iclt ct_119_2 hz4 ki_60 (fun h5 => ?_) (fun h5 => ?_)
    · skip
      refine wi_ic ct_119_14 kc_0 ?_
      refine wi_iret ct_119_15 (by decide) (wk_i ?_)
      refine wi_ifne_f ct_136_39 ki_0 (by decide) ?_
      refine wi_ic ct_136_42 kc_0 ?_
      refine wi_iret ct_136_43 (by decide) ?_
      have hr : rT X n p = (false, p + 1, []) := (if_neg (by omega)).trans (if_pos (by omega))
      rw [hr] at k2
      exact k2 rfl _ ⟨fun x e1 e2 e3 e4 => (Eq.trans (funext fun _ => up2_nq e1) (m7.1 x e1 e2 e3 e4)), fun j e1 e2 e3 e4 e5 => (Eq.trans (up2_nj e1) (m7.2.1 j e1 e2 e3 e4 e5)), fun j e => (Eq.trans (up2_nq (by decide)) (m7.2.2.1 j e)), fun j e => (Eq.trans (up2_nq (by decide)) (m7.2.2.2 j e))⟩ ((congrArg Int32.toInt up2_eq).trans ((i_add m1 ki_1 (by omega)).trans (by first | rfl | (dsimp only; omega))))
    · skip
      refine wi_iload_1 ct_119_5 ?_
      refine wi_iload_3 ct_119_6 ?_
      refine wi_icgt ct_119_7 hz4 ki_62 (fun h6 => ?_) (fun h6 => ?_)
      · skip
        refine wi_ic ct_119_14 kc_0 ?_
        refine wi_iret ct_119_15 (by decide) (wk_i ?_)
        refine wi_ifne_f ct_136_39 ki_0 (by decide) ?_
        refine wi_ic ct_136_42 kc_0 ?_
        refine wi_iret ct_136_43 (by decide) ?_
        have hr : rT X n p = (false, p + 1, []) := (if_neg (by omega)).trans (if_pos (by omega))
        rw [hr] at k2
        exact k2 rfl _ ⟨fun x e1 e2 e3 e4 => (Eq.trans (funext fun _ => up2_nq e1) (m7.1 x e1 e2 e3 e4)), fun j e1 e2 e3 e4 e5 => (Eq.trans (up2_nj e1) (m7.2.1 j e1 e2 e3 e4 e5)), fun j e => (Eq.trans (up2_nq (by decide)) (m7.2.2.1 j e)), fun j e => (Eq.trans (up2_nq (by decide)) (m7.2.2.2 j e))⟩ ((congrArg Int32.toInt up2_eq).trans ((i_add m1 ki_1 (by omega)).trans (by first | rfl | (dsimp only; omega))))
      · skip
        refine wi_ic ct_119_10 kc_1 ?_
        refine wi_goto ct_119_11 ?_
        refine wi_iret ct_119_15 (by decide) (wk_i ?_)
        refine wi_ifne_t ct_136_39 ki_1 (by decide) ?_
        refine wi_aload_0 ct_136_44 ?_
        refine wi_dup ct_136_45 rfl ?_
        refine wi_gf (x := (fi 31 12 + 1)) ct_136_46 (sT_31 hS) rfl rfl up2_eq ?_
        refine wi_ic ct_136_49 kc_1 ?_
        refine wi_iadd ct_136_50 rfl ?_
        refine wi_pf ct_136_51 (sT_31 hS) rfl ?_
        refine wi_aload_0 ct_136_54 ?_
        refine wi_cv0 (ls' := [some _, none]) ct_136_55 (Nat.le_of_ble_eq_true rfl) (by decide) (sT_31 hS) rfl (by decide) rfl rfl (Nat.le_of_ble_eq_true rfl) ?_
        have hpn1 := pk_0n (X := X) (n := n) (p := p + 1) (by omega)
        have hA : RSt n F c fi0 (up2 (up2 fi 31 12 ((fi 31 12 + 1))) 31 12 (((fi 31 12 + 1) + 1))) (p + 2) ts σ := RSt.pf hs ⟨(congrArg Int32.toInt up2_eq).trans ((i_add (i_add m1 ki_1 (by omega)) ki_1 (by omega)).trans (by omega)), fun x e => (Eq.trans (funext fun _ => up2_nq e) (funext fun _ => up2_nq e)), fun j e1 e2 => (Eq.trans (up2_nj e1) (up2_nj e1))⟩ (by omega) (show p + 2 ≤ n by omega)
        have bn := rNum_bd X n (p + 2)
        refine r_num (p := p + 2) hS hA.1 (RSt.tl hT hA) (RSt.tx hT hA) hn hxb (by omega) (fun e9 f9 hf9 h13 => wk_i ?_) (fun e9 => wk_i ?_)
        · skip
          have hB := RSt.pf hA hf9 (by omega) (bn.2.1 (by omega))
          obtain ⟨b1, b2, b3, b4, b5, b6x, b7, b8, b9⟩ := id hB
          refine wi_ifne_t ct_136_58 ki_1 (by decide) ?_
          refine wi_aload_0 ct_136_63 ?_
          refine wi_ic ct_136_64 kc_1000 ?_
          refine wi_iload_1 ct_136_67 ?_
          refine wi_imul ct_136_68 rfl ?_
          refine wi_ic ct_136_69 kc_100 ?_
          refine wi_iload_2 ct_136_71 ?_
          refine wi_ic ct_136_72 kc_60 ?_
          refine wi_isub ct_136_74 rfl ?_
          refine wi_imul ct_136_75 rfl ?_
          refine wi_iadd ct_136_76 rfl ?_
          refine wi_aload_0 ct_136_77 ?_
          refine wi_gf (x := f9 31 13) ct_136_78 (sT_31 hS) rfl rfl rfl ?_
          refine wi_iadd ct_136_81 rfl ?_
          refine wi_cv1 (ls' := [some _, some _]) ct_136_82 (Nat.le_of_ble_eq_true rfl) (by decide) (sT_31 hS) rfl (by decide) rfl rfl (Nat.le_of_ble_eq_true rfl) ?_
          refine wi_aload_0 ct_132_0 ?_
          refine wi_gfr ct_132_1 (sT_31 hS) rfl (sR_31_20 hS) ?_
          refine wi_aload_0 ct_132_4 ?_
          refine wi_gf (x := f9 31 22) ct_132_5 (sT_31 hS) rfl rfl rfl ?_
          refine wi_iload_1 ct_132_8 ?_
          refine wi_iast ct_132_9 (sT_45 hS) (sL_45 hS) (i_in b2 (by omega)) (i_cl (k := (F + ts.length)) b2 (by omega)) ?_
          refine wi_aload_0 ct_132_10 ?_
          refine wi_dup ct_132_11 rfl ?_
          refine wi_gf (x := f9 31 22) ct_132_12 (sT_31 hS) rfl rfl (up2_nq (by decide)) ?_
          refine wi_ic ct_132_15 kc_1 ?_
          refine wi_iadd ct_132_16 rfl ?_
          refine wi_pf ct_132_17 (sT_31 hS) rfl ?_
          refine wi_ret ct_132_20 (wk_v ?_)
          refine wi_aload_0 ct_136_85 ?_
          refine wi_cv0 (ls' := [some _]) ct_136_86 (Nat.le_of_ble_eq_true rfl) (by decide) (sT_31 hS) rfl (by decide) rfl rfl (Nat.le_of_ble_eq_true rfl) ?_
          have eL : ((lt6 (pk X n p)).toNat : Int) = lt6 (pk X n p) := by omega
          refine r_whole hT hF σ _ (rNum X n (p + 2)).2 (ts ++ [((lt6 (pk X n p)).toNat, (pk X n (p + 1) - 60).toNat, (rNum X n (p + 2)).1.toNat)]) ⟨((congrArg Int32.toInt (Eq.trans (up2_nj (by decide)) (up2_nq (by decide)))).trans (b1.trans (by first | rfl | omega | (simp only [List.length_append, List.length_cons, List.length_nil]; omega)))), ((congrArg Int32.toInt up2_eq).trans ((i_add b2 ki_1 (by omega)).trans (by first | rfl | omega | (simp only [List.length_append, List.length_cons, List.length_nil]; omega)))), ((congrArg Int32.toInt (Eq.trans (up2_nj (by decide)) (up2_nq (by decide)))).trans (b3.trans (by first | rfl | omega | (simp only [List.length_append, List.length_cons, List.length_nil]; omega)))), ((congrArg Int32.toInt (Eq.trans (up2_nj (by decide)) (up2_nq (by decide)))).trans (b4.trans (by first | rfl | omega | (simp only [List.length_append, List.length_cons, List.length_nil]; omega)))), (TKR.add b5 (fun j hj => (Eq.trans (up2_nq (by decide)) (up2_nj hj))) ((congrArg Int32.toInt (Eq.trans (up2_nq (by decide)) up2_eq)).trans ((i_add (i_add (i_mul ki_1000 hz2 (by omega)) (i_mul ki_100 (i_sub hz4 ki_60 (by omega)) (by omega)) (by omega)) h13 (by omega)).trans ((show _ = 1000 * ((lt6 (pk X n p)).toNat : Int) + 100 * ((pk X n (p + 1) - 60).toNat : Int) + ((rNum X n (p + 2)).1.toNat : Int) by omega).trans (enc_t (by omega)).symm)))), (WT.fr (Eq.trans (funext fun _ => up2_nq (by decide)) (funext fun _ => up2_nq (by decide))) _ b6x), ⟨fun x e1 e2 e3 e4 => (Eq.trans (funext fun _ => up2_nq e1) (Eq.trans (funext fun _ => up2_nq e3) (b7.1 x e1 e2 e3 e4))), fun j e1 e2 e3 e4 e5 => (Eq.trans (up2_nj e3) (Eq.trans (up2_nq (by decide)) (b7.2.1 j e1 e2 e3 e4 e5))), fun j e => (Eq.trans (up2_nq (by decide)) (Eq.trans (up2_nq (by decide)) (b7.2.2.1 j e))), fun j e => (Eq.trans (up2_nq (by decide)) (Eq.trans (up2_nj (by omega)) (b7.2.2.2 j e)))⟩, (by simp only [List.length_append, List.length_cons, List.length_nil]; omega), b9⟩ (fun f8 h8x => wk_v ?_)
          refine wi_ic ct_136_89 kc_1 ?_
          refine wi_iret ct_136_90 (by decide) ?_
          have hr : rT X n p = (true, (rNum X n (p + 2)).2, [((lt6 (pk X n p)).toNat, (pk X n (p + 1) - 60).toNat, (rNum X n (p + 2)).1.toNat)]) := (if_neg (by omega)).trans ((if_neg (by omega)).trans (if_neg (by omega)))
          rw [hr] at k1
          exact k1 rfl _ h8x
        · skip
          refine wi_ifne_f ct_136_58 ki_0 (by decide) ?_
          refine wi_ic ct_136_61 kc_0 ?_
          refine wi_iret ct_136_62 (by decide) ?_
          have hr : rT X n p = (false, p + 2, []) := (if_neg (by omega)).trans ((if_neg (by omega)).trans (if_pos (by omega)))
          rw [hr] at k2
          exact k2 rfl _ ⟨fun x e1 e2 e3 e4 => (Eq.trans (funext fun _ => up2_nq e1) (Eq.trans (funext fun _ => up2_nq e1) (m7.1 x e1 e2 e3 e4))), fun j e1 e2 e3 e4 e5 => (Eq.trans (up2_nj e1) (Eq.trans (up2_nj e1) (m7.2.1 j e1 e2 e3 e4 e5))), fun j e => (Eq.trans (up2_nq (by decide)) (Eq.trans (up2_nq (by decide)) (m7.2.2.1 j e))), fun j e => (Eq.trans (up2_nq (by decide)) (Eq.trans (up2_nq (by decide)) (m7.2.2.2 j e)))⟩ ((congrArg Int32.toInt up2_eq).trans ((i_add (i_add m1 ki_1 (by omega)) ki_1 (by omega)).trans (by first | rfl | (dsimp only; omega))))
  · skip
    refine wi_ic ct_136_13 kc_0 ?_
    refine wi_iret ct_136_14 (by decide) ?_
    have hr : rT X n p = (false, p, []) := if_pos (by omega)
    rw [hr] at k2
    exact k2 rfl _ m7 (m1.trans (by first | rfl | (dsimp only; omega)))
theorem e_1 {d L n F c : Nat} {cz : Int32} {g : am_G} {fl : am_L} {fi0 : am_I} {X : Nat → Int} {P : Option Value → am_G → am_I → am_L → Prop} {fi : am_I} {p : Nat} {ts : List tk_T} {σ : List Int} {b : Option Value} (hT : RTX L g fi0 X n) (hF : F ≤ 500) (hc60 : c < 60) (hc : cz.toInt = (c : Int)) (hs : RSt n F c fi0 fi p ts σ) (k4 : pk X n p = 33 ∨ pk X n p = 40 → opn σ = 4 → P (some (.int 0)) g fi fl) (kp : pk X n p = 33 ∨ pk X n p = 40 → p < n → opn σ ≠ 4 → ∀ fi2 z, RSt n F c fi0 fi2 (p + 1) ts (pk X n p :: σ) → WP (d + 5) 137 22 [some (.ref 31), some (.int cz), some (.int 1), some (.int z)] [] g fi2 fl P) (kt1 : pk X n p ≠ 33 → pk X n p ≠ 40 → (rT X n p).1 = true → ∀ fi2 z, RSt n F c fi0 fi2 (rT X n p).2.1 (ts ++ (rT X n p).2.2 ++ nots σ) (strp σ) → WP (d + 5) 137 22 [some (.ref 31), some (.int cz), some (.int 0), some (.int z)] [] g fi2 fl P) (kt0 : pk X n p ≠ 33 → pk X n p ≠ 40 → (rT X n p).1 = false → ∀ fi2, RFr F c fi0 fi2 → (fi2 31 12).toInt = ((rT X n p).2.1 : Int) → P (some (.int 0)) g fi2 fl) : WP (d + 5) 137 22 [some (.ref 31), some (.int cz), some (.int 1), b] [] g fi fl P := by
  obtain ⟨hS, -, -, hn, hxb⟩ := id hT
  obtain ⟨m1, m2, m3, m4, m5, m6, m7, m8, m9⟩ := id hs
  have ml := RSt.tl hT hs
  have hx := RSt.tx hT hs
  have ho := opn_le σ
  refine wi_aload_0 ct_137_22 ?_
  refine wi_cv0 (ls' := [some _]) ct_137_23 (Nat.le_of_ble_eq_true rfl) (by decide) (sT_31 hS) rfl (by decide) rfl rfl (Nat.le_of_ble_eq_true rfl) ?_
  refine r_peek (p := p) hS m1 ml hx hn hxb (fun z1 hz1 => wk_i ?_)
  have hbz1 := pk_bd hxb (p := p)
  refine wi_istore_3 rfl ct_137_26 ?_
  refine wi_iload_2 ct_137_27 ?_
  refine wi_ifeq_f ct_137_28 ki_1 (by decide) ?_
  refine wi_iload_3 ct_137_31 ?_
  refine wi_ic ct_137_32 kc_33 ?_
  refine wi_iceq ct_137_34 hz1 ki_33 (fun h2 => ?_) (fun h2 => ?_)
  · skip
    have hpn : p < n := pk_0n (X := X) (by omega)
    refine wi_aload_0 ct_137_43 ?_
    refine wi_gf (x := fi 31 24) ct_137_44 (sT_31 hS) rfl rfl rfl ?_
    refine wi_ic ct_137_47 kc_4 ?_
    refine wi_icne ct_137_48 m4 ki_4 (fun h3 => ?_) (fun h3 => ?_)
    · skip
      refine wi_aload_0 ct_137_53 ?_
      refine wi_dup ct_137_54 rfl ?_
      refine wi_gf (x := fi 31 24) ct_137_55 (sT_31 hS) rfl rfl rfl ?_
      refine wi_ic ct_137_58 kc_1 ?_
      refine wi_iadd ct_137_59 rfl ?_
      refine wi_pf ct_137_60 (sT_31 hS) rfl ?_
      refine wi_aload_0 ct_137_63 ?_
      refine wi_gfr ct_137_64 (sT_31 hS) rfl (sR_31_21 hS) ?_
      refine wi_aload_0 ct_137_67 ?_
      refine wi_gf (x := fi 31 23) ct_137_68 (sT_31 hS) rfl rfl (up2_nj (by decide)) ?_
      refine wi_iload_3 ct_137_71 ?_
      refine wi_iast ct_137_72 (sT_46 hS) (sL_46 hS) (i_in m3 (by omega)) (i_cl (k := σ.length) m3 (by omega)) ?_
      refine wi_aload_0 ct_137_73 ?_
      refine wi_dup ct_137_74 rfl ?_
      refine wi_gf (x := fi 31 23) ct_137_75 (sT_31 hS) rfl rfl (Eq.trans (up2_nq (by decide)) (up2_nj (by decide))) ?_
      refine wi_ic ct_137_78 kc_1 ?_
      refine wi_iadd ct_137_79 rfl ?_
      refine wi_pf ct_137_80 (sT_31 hS) rfl ?_
      refine wi_aload_0 ct_137_83 ?_
      refine wi_dup ct_137_84 rfl ?_
      refine wi_gf (x := fi 31 12) ct_137_85 (sT_31 hS) rfl rfl (Eq.trans (up2_nj (by decide)) (Eq.trans (up2_nq (by decide)) (up2_nj (by decide)))) ?_
      refine wi_ic ct_137_88 kc_1 ?_
      refine wi_iadd ct_137_89 rfl ?_
      refine wi_pf ct_137_90 (sT_31 hS) rfl ?_
      refine wi_goto ct_137_93 ?_
      have ho2 : opn (pk X n p :: σ) = opn σ + 1 := if_pos (by omega)
      exact kp (by omega) hpn (by omega) _ _ ⟨((congrArg Int32.toInt up2_eq).trans ((i_add m1 ki_1 (by omega)).trans (by first | omega | (simp only [List.length_cons]; omega) | (rw [ho2]; omega)))), ((congrArg Int32.toInt (Eq.trans (up2_nj (by decide)) (Eq.trans (up2_nj (by decide)) (Eq.trans (up2_nq (by decide)) (up2_nj (by decide)))))).trans (m2.trans (by first | omega | (simp only [List.length_cons]; omega) | (rw [ho2]; omega)))), ((congrArg Int32.toInt (Eq.trans (up2_nj (by decide)) up2_eq)).trans ((i_add m3 ki_1 (by omega)).trans (by first | omega | (simp only [List.length_cons]; omega) | (rw [ho2]; omega)))), ((congrArg Int32.toInt (Eq.trans (up2_nj (by decide)) (Eq.trans (up2_nj (by decide)) (Eq.trans (up2_nq (by decide)) up2_eq)))).trans ((i_add m4 ki_1 (by omega)).trans (by first | omega | (simp only [List.length_cons]; omega) | (rw [ho2]; omega)))), (TKR.fr m5 (Eq.trans (funext fun _ => up2_nq (by decide)) (Eq.trans (funext fun _ => up2_nq (by decide)) (Eq.trans (funext fun _ => up2_nq (by decide)) (funext fun _ => up2_nq (by decide)))))), (WT.push m6 (fun j hj => (Eq.trans (up2_nq (by decide)) (Eq.trans (up2_nq (by decide)) (Eq.trans (up2_nj hj) (up2_nq (by decide)))))) ((congrArg Int32.toInt (Eq.trans (up2_nq (by decide)) (Eq.trans (up2_nq (by decide)) up2_eq))).trans hz1)), ⟨fun x e1 e2 e3 e4 => (Eq.trans (funext fun _ => up2_nq e1) (Eq.trans (funext fun _ => up2_nq e1) (Eq.trans (funext fun _ => up2_nq e4) (Eq.trans (funext fun _ => up2_nq e1) (m7.1 x e1 e2 e3 e4))))), fun j e1 e2 e3 e4 e5 => (Eq.trans (up2_nj e1) (Eq.trans (up2_nj e4) (Eq.trans (up2_nq (by decide)) (Eq.trans (up2_nj e5) (m7.2.1 j e1 e2 e3 e4 e5))))), fun j e => (Eq.trans (up2_nq (by decide)) (Eq.trans (up2_nq (by decide)) (Eq.trans (up2_nq (by decide)) (Eq.trans (up2_nq (by decide)) (m7.2.2.1 j e))))), fun j e => (Eq.trans (up2_nq (by decide)) (Eq.trans (up2_nq (by decide)) (Eq.trans (up2_nq (by decide)) (Eq.trans (up2_nq (by decide)) (m7.2.2.2 j e)))))⟩, (by rw [List.length_cons]; omega), (by omega)⟩
    · skip
      refine wi_ic ct_137_51 kc_0 ?_
      refine wi_iret ct_137_52 (by decide) ?_
      exact k4 (by omega) (by omega)
  · skip
    refine wi_iload_3 ct_137_37 ?_
    refine wi_ic ct_137_38 kc_40 ?_
    refine wi_icne ct_137_40 hz1 ki_40 (fun h4 => ?_) (fun h4 => ?_)
    · skip
      refine wi_aload_0 ct_137_96 ?_
      refine wi_cv0 (ls' := [some _, none, none]) ct_137_97 (Nat.le_of_ble_eq_true rfl) (by decide) (sT_31 hS) rfl (by decide) rfl rfl (Nat.le_of_ble_eq_true rfl) ?_
      refine r_test (d := d + 1) hT hF hs (fun e9 f9 h9x => wk_i ?_) (fun e9 f9 h9x h9y => wk_i ?_)
      · skip
        refine wi_ifeq_f ct_137_100 ki_1 (by decide) ?_
        refine wi_ic ct_137_103 kc_0 ?_
        refine wi_istore_2 rfl ct_137_104 ?_
        refine wi_goto ct_137_105 ?_
        exact kt1 (by omega) (by omega) e9 _ _ h9x
      · skip
        refine wi_ifeq_t ct_137_100 ki_0 (by decide) ?_
        refine wi_ic ct_137_108 kc_0 ?_
        refine wi_iret ct_137_109 (by decide) ?_
        exact kt0 (by omega) (by omega) e9 _ h9x h9y
    · skip
      have hpn : p < n := pk_0n (X := X) (by omega)
      refine wi_aload_0 ct_137_43 ?_
      refine wi_gf (x := fi 31 24) ct_137_44 (sT_31 hS) rfl rfl rfl ?_
      refine wi_ic ct_137_47 kc_4 ?_
      refine wi_icne ct_137_48 m4 ki_4 (fun h5 => ?_) (fun h5 => ?_)
      · skip
        refine wi_aload_0 ct_137_53 ?_
        refine wi_dup ct_137_54 rfl ?_
        refine wi_gf (x := fi 31 24) ct_137_55 (sT_31 hS) rfl rfl rfl ?_
        refine wi_ic ct_137_58 kc_1 ?_
        refine wi_iadd ct_137_59 rfl ?_
        refine wi_pf ct_137_60 (sT_31 hS) rfl ?_
        refine wi_aload_0 ct_137_63 ?_
        refine wi_gfr ct_137_64 (sT_31 hS) rfl (sR_31_21 hS) ?_
        refine wi_aload_0 ct_137_67 ?_
        refine wi_gf (x := fi 31 23) ct_137_68 (sT_31 hS) rfl rfl (up2_nj (by decide)) ?_
        refine wi_iload_3 ct_137_71 ?_
        refine wi_iast ct_137_72 (sT_46 hS) (sL_46 hS) (i_in m3 (by omega)) (i_cl (k := σ.length) m3 (by omega)) ?_
        refine wi_aload_0 ct_137_73 ?_
        refine wi_dup ct_137_74 rfl ?_
        refine wi_gf (x := fi 31 23) ct_137_75 (sT_31 hS) rfl rfl (Eq.trans (up2_nq (by decide)) (up2_nj (by decide))) ?_
        refine wi_ic ct_137_78 kc_1 ?_
        refine wi_iadd ct_137_79 rfl ?_
        refine wi_pf ct_137_80 (sT_31 hS) rfl ?_
        refine wi_aload_0 ct_137_83 ?_
        refine wi_dup ct_137_84 rfl ?_
        refine wi_gf (x := fi 31 12) ct_137_85 (sT_31 hS) rfl rfl (Eq.trans (up2_nj (by decide)) (Eq.trans (up2_nq (by decide)) (up2_nj (by decide)))) ?_
        refine wi_ic ct_137_88 kc_1 ?_
        refine wi_iadd ct_137_89 rfl ?_
        refine wi_pf ct_137_90 (sT_31 hS) rfl ?_
        refine wi_goto ct_137_93 ?_
        have ho2 : opn (pk X n p :: σ) = opn σ + 1 := if_pos (by omega)
        exact kp (by omega) hpn (by omega) _ _ ⟨((congrArg Int32.toInt up2_eq).trans ((i_add m1 ki_1 (by omega)).trans (by first | omega | (simp only [List.length_cons]; omega) | (rw [ho2]; omega)))), ((congrArg Int32.toInt (Eq.trans (up2_nj (by decide)) (Eq.trans (up2_nj (by decide)) (Eq.trans (up2_nq (by decide)) (up2_nj (by decide)))))).trans (m2.trans (by first | omega | (simp only [List.length_cons]; omega) | (rw [ho2]; omega)))), ((congrArg Int32.toInt (Eq.trans (up2_nj (by decide)) up2_eq)).trans ((i_add m3 ki_1 (by omega)).trans (by first | omega | (simp only [List.length_cons]; omega) | (rw [ho2]; omega)))), ((congrArg Int32.toInt (Eq.trans (up2_nj (by decide)) (Eq.trans (up2_nj (by decide)) (Eq.trans (up2_nq (by decide)) up2_eq)))).trans ((i_add m4 ki_1 (by omega)).trans (by first | omega | (simp only [List.length_cons]; omega) | (rw [ho2]; omega)))), (TKR.fr m5 (Eq.trans (funext fun _ => up2_nq (by decide)) (Eq.trans (funext fun _ => up2_nq (by decide)) (Eq.trans (funext fun _ => up2_nq (by decide)) (funext fun _ => up2_nq (by decide)))))), (WT.push m6 (fun j hj => (Eq.trans (up2_nq (by decide)) (Eq.trans (up2_nq (by decide)) (Eq.trans (up2_nj hj) (up2_nq (by decide)))))) ((congrArg Int32.toInt (Eq.trans (up2_nq (by decide)) (Eq.trans (up2_nq (by decide)) up2_eq))).trans hz1)), ⟨fun x e1 e2 e3 e4 => (Eq.trans (funext fun _ => up2_nq e1) (Eq.trans (funext fun _ => up2_nq e1) (Eq.trans (funext fun _ => up2_nq e4) (Eq.trans (funext fun _ => up2_nq e1) (m7.1 x e1 e2 e3 e4))))), fun j e1 e2 e3 e4 e5 => (Eq.trans (up2_nj e1) (Eq.trans (up2_nj e4) (Eq.trans (up2_nq (by decide)) (Eq.trans (up2_nj e5) (m7.2.1 j e1 e2 e3 e4 e5))))), fun j e => (Eq.trans (up2_nq (by decide)) (Eq.trans (up2_nq (by decide)) (Eq.trans (up2_nq (by decide)) (Eq.trans (up2_nq (by decide)) (m7.2.2.1 j e))))), fun j e => (Eq.trans (up2_nq (by decide)) (Eq.trans (up2_nq (by decide)) (Eq.trans (up2_nq (by decide)) (Eq.trans (up2_nq (by decide)) (m7.2.2.2 j e)))))⟩, (by rw [List.length_cons]; omega), (by omega)⟩
      · skip
        refine wi_ic ct_137_51 kc_0 ?_
        refine wi_iret ct_137_52 (by decide) ?_
        exact k4 (by omega) (by omega)
theorem e_push {d L n F c : Nat} {cz : Int32} {g : am_G} {fl : am_L} {fi0 : am_I} {X : Nat → Int} {P : Option Value → am_G → am_I → am_L → Prop} {fi : am_I} {p : Nat} {ts : List tk_T} {σ : List Int} {wz z : Int32} {C : Int} (hT : RTX L g fi0 X n) (hF : F ≤ 500) (hc60 : c < 60) (hc : cz.toInt = (c : Int)) (hs : RSt n F c fi0 fi p ts σ) (hz : z.toInt = C) (hC : C = 38 ∨ C = 124) (hpn : p < n) (kk : ∀ fi2, RSt n F c fi0 fi2 (p + 1) ts (C :: σ) → WP (d + 5) 137 22 [some (.ref 31), some (.int cz), some (.int 1), some (.int z)] [] g fi2 fl P) : WP (d + 5) 137 127 [some (.ref 31), some (.int cz), some (.int wz), some (.int z)] [] g fi fl P := by
  obtain ⟨hS, -, -, hn, hxb⟩ := id hT
  obtain ⟨m1, m2, m3, m4, m5, m6, m7, m8, m9⟩ := id hs
  have ml := RSt.tl hT hs
  have hx := RSt.tx hT hs
  have ho := opn_le σ
  refine wi_aload_0 ct_137_127 ?_
  refine wi_gfr ct_137_128 (sT_31 hS) rfl (sR_31_21 hS) ?_
  refine wi_aload_0 ct_137_131 ?_
  refine wi_gf (x := fi 31 23) ct_137_132 (sT_31 hS) rfl rfl rfl ?_
  refine wi_iload_3 ct_137_135 ?_
  refine wi_iast ct_137_136 (sT_46 hS) (sL_46 hS) (i_in m3 (by omega)) (i_cl (k := σ.length) m3 (by omega)) ?_
  refine wi_aload_0 ct_137_137 ?_
  refine wi_dup ct_137_138 rfl ?_
  refine wi_gf (x := fi 31 23) ct_137_139 (sT_31 hS) rfl rfl (up2_nq (by decide)) ?_
  refine wi_ic ct_137_142 kc_1 ?_
  refine wi_iadd ct_137_143 rfl ?_
  refine wi_pf ct_137_144 (sT_31 hS) rfl ?_
  refine wi_ic ct_137_147 kc_1 ?_
  refine wi_istore_2 rfl ct_137_148 ?_
  refine wi_aload_0 ct_137_149 ?_
  refine wi_dup ct_137_150 rfl ?_
  refine wi_gf (x := fi 31 12) ct_137_151 (sT_31 hS) rfl rfl (Eq.trans (up2_nj (by decide)) (up2_nq (by decide))) ?_
  refine wi_ic ct_137_154 kc_1 ?_
  refine wi_iadd ct_137_155 rfl ?_
  refine wi_pf ct_137_156 (sT_31 hS) rfl ?_
  refine wi_goto ct_137_159 ?_
  have ho2 : opn (C :: σ) = opn σ := if_neg (by omega)
  exact kk _ ⟨((congrArg Int32.toInt up2_eq).trans ((i_add m1 ki_1 (by omega)).trans (by first | omega | (simp only [List.length_cons]; omega) | (rw [ho2]; omega)))), ((congrArg Int32.toInt (Eq.trans (up2_nj (by decide)) (Eq.trans (up2_nj (by decide)) (up2_nq (by decide))))).trans (m2.trans (by first | omega | (simp only [List.length_cons]; omega) | (rw [ho2]; omega)))), ((congrArg Int32.toInt (Eq.trans (up2_nj (by decide)) up2_eq)).trans ((i_add m3 ki_1 (by omega)).trans (by first | omega | (simp only [List.length_cons]; omega) | (rw [ho2]; omega)))), ((congrArg Int32.toInt (Eq.trans (up2_nj (by decide)) (Eq.trans (up2_nj (by decide)) (up2_nq (by decide))))).trans (m4.trans (by first | omega | (simp only [List.length_cons]; omega) | (rw [ho2]; omega)))), (TKR.fr m5 (Eq.trans (funext fun _ => up2_nq (by decide)) (Eq.trans (funext fun _ => up2_nq (by decide)) (funext fun _ => up2_nq (by decide))))), (WT.push m6 (fun j hj => (Eq.trans (up2_nq (by decide)) (Eq.trans (up2_nq (by decide)) (up2_nj hj)))) ((congrArg Int32.toInt (Eq.trans (up2_nq (by decide)) (Eq.trans (up2_nq (by decide)) up2_eq))).trans hz)), ⟨fun x e1 e2 e3 e4 => (Eq.trans (funext fun _ => up2_nq e1) (Eq.trans (funext fun _ => up2_nq e1) (Eq.trans (funext fun _ => up2_nq e4) (m7.1 x e1 e2 e3 e4)))), fun j e1 e2 e3 e4 e5 => (Eq.trans (up2_nj e1) (Eq.trans (up2_nj e4) (Eq.trans (up2_nq (by decide)) (m7.2.1 j e1 e2 e3 e4 e5)))), fun j e => (Eq.trans (up2_nq (by decide)) (Eq.trans (up2_nq (by decide)) (Eq.trans (up2_nq (by decide)) (m7.2.2.1 j e)))), fun j e => (Eq.trans (up2_nq (by decide)) (Eq.trans (up2_nq (by decide)) (Eq.trans (up2_nq (by decide)) (m7.2.2.2 j e))))⟩, (by rw [List.length_cons]; omega), (by omega)⟩
theorem e_0 {d L n F c : Nat} {cz : Int32} {g : am_G} {fl : am_L} {fi0 : am_I} {X : Nat → Int} {P : Option Value → am_G → am_I → am_L → Prop} {fi : am_I} {p : Nat} {ts : List tk_T} {σ : List Int} {b : Option Value} (hT : RTX L g fi0 X n) (hF : F ≤ 500) (hc60 : c < 60) (hc : cz.toInt = (c : Int)) (hs : RSt n F c fi0 fi p ts σ) (kb : pk X n p = 38 ∨ pk X n p = 124 → p < n → ∀ fi2 z, RSt n F c fi0 fi2 (p + 1) (ts ++ stl2 (pk X n p) σ) (pk X n p :: stl1 (pk X n p) σ) → WP (d + 5) 137 22 [some (.ref 31), some (.int cz), some (.int 1), some (.int z)] [] g fi2 fl P) (ke : pk X n p ≠ 38 → pk X n p ≠ 124 → ∀ fi2 z, z.toInt = pk X n p → RSt n F c fi0 fi2 p (ts ++ stl2 124 σ) (stl1 124 σ) → WP (d + 5) 137 168 [some (.ref 31), some (.int cz), some (.int 0), some (.int z)] [] g fi2 fl P) : WP (d + 5) 137 22 [some (.ref 31), some (.int cz), some (.int 0), b] [] g fi fl P := by
  obtain ⟨hS, -, -, hn, hxb⟩ := id hT
  obtain ⟨m1, m2, m3, m4, m5, m6, m7, m8, m9⟩ := id hs
  have ml := RSt.tl hT hs
  have hx := RSt.tx hT hs
  have ho := opn_le σ
  refine wi_aload_0 ct_137_22 ?_
  refine wi_cv0 (ls' := [some _]) ct_137_23 (Nat.le_of_ble_eq_true rfl) (by decide) (sT_31 hS) rfl (by decide) rfl rfl (Nat.le_of_ble_eq_true rfl) ?_
  refine r_peek (p := p) hS m1 ml hx hn hxb (fun z1 hz1 => wk_i ?_)
  have hbz1 := pk_bd hxb (p := p)
  refine wi_istore_3 rfl ct_137_26 ?_
  refine wi_iload_2 ct_137_27 ?_
  refine wi_ifeq_t ct_137_28 ki_0 (by decide) ?_
  refine wi_iload_3 ct_137_110 ?_
  refine wi_ic ct_137_111 kc_38 ?_
  refine wi_iceq ct_137_113 hz1 ki_38 (fun h2 => ?_) (fun h2 => ?_)
  · skip
    refine wi_aload_0 ct_137_122 ?_
    refine wi_iload_3 ct_137_123 ?_
    refine wi_cv1 (ls' := [some _, some _]) ct_137_124 (Nat.le_of_ble_eq_true rfl) (by decide) (sT_31 hS) rfl (by decide) rfl rfl (Nat.le_of_ble_eq_true rfl) ?_
    refine r_settle (d := d + 3) hT hF hz1 σ fi p ts hs (fun f9 h9x => wk_v ?_)
    exact e_push hT hF hc60 hc h9x hz1 (by omega) (pk_0n (X := X) (by omega)) (fun fi2 h => kb (by omega) (pk_0n (X := X) (by omega)) fi2 _ h)
  · skip
    refine wi_iload_3 ct_137_116 ?_
    refine wi_ic ct_137_117 kc_124 ?_
    refine wi_icne ct_137_119 hz1 ki_124 (fun h3 => ?_) (fun h3 => ?_)
    · skip
      refine wi_aload_0 ct_137_162 ?_
      refine wi_ic ct_137_163 kc_124 ?_
      refine wi_cv1 (ls' := [some _, some _]) ct_137_165 (Nat.le_of_ble_eq_true rfl) (by decide) (sT_31 hS) rfl (by decide) rfl rfl (Nat.le_of_ble_eq_true rfl) ?_
      refine r_settle (d := d + 3) hT hF ki_124 σ fi p ts hs (fun f9 h9x => wk_v ?_)
      exact ke (by omega) (by omega) _ _ hz1 h9x
    · skip
      refine wi_aload_0 ct_137_122 ?_
      refine wi_iload_3 ct_137_123 ?_
      refine wi_cv1 (ls' := [some _, some _]) ct_137_124 (Nat.le_of_ble_eq_true rfl) (by decide) (sT_31 hS) rfl (by decide) rfl rfl (Nat.le_of_ble_eq_true rfl) ?_
      refine r_settle (d := d + 3) hT hF hz1 σ fi p ts hs (fun f9 h9x => wk_v ?_)
      exact e_push hT hF hc60 hc h9x hz1 (by omega) (pk_0n (X := X) (by omega)) (fun fi2 h => kb (by omega) (pk_0n (X := X) (by omega)) fi2 _ h)
theorem e_end0 {d L n F c : Nat} {cz : Int32} {g : am_G} {fl : am_L} {fi0 : am_I} {X : Nat → Int} {P : Option Value → am_G → am_I → am_L → Prop} {fi : am_I} {p : Nat} {ts : List tk_T} {z : Int32} (hT : RTX L g fi0 X n) (hF : F ≤ 500) (hc60 : c < 60) (hc : cz.toInt = (c : Int)) (hs : RSt n F c fi0 fi p ts []) (kk : ∀ fi2, RSt n F c fi0 fi2 p ts [] → (fi2 44 c).toInt = (F : Int) + ts.length → P (some (.int 1)) g fi2 fl) : WP (d + 5) 137 168 [some (.ref 31), some (.int cz), some (.int 0), some (.int z)] [] g fi fl P := by
  obtain ⟨hS, -, -, hn, hxb⟩ := id hT
  obtain ⟨m1, m2, m3, m4, m5, m6, m7, m8, m9⟩ := id hs
  have ml := RSt.tl hT hs
  have hx := RSt.tx hT hs
  have ho := opn_le []
  replace m3 := m3.trans (show _ = (0 : Int) from rfl)
  replace m4 := m4.trans (show _ = (0 : Int) from rfl)
  refine wi_aload_0 ct_137_168 ?_
  refine wi_gfr ct_137_169 (sT_31 hS) rfl (sR_31_19 hS) ?_
  refine wi_iload_1 ct_137_172 ?_
  refine wi_aload_0 ct_137_173 ?_
  refine wi_gf (x := fi 31 22) ct_137_174 (sT_31 hS) rfl rfl rfl ?_
  refine wi_iast ct_137_177 (sT_44 hS) (sL_44 hS) (i_in hc (by omega)) (i_cl (k := c) hc (by omega)) ?_
  refine wi_aload_0 ct_137_178 ?_
  refine wi_gf (x := fi 31 23) ct_137_179 (sT_31 hS) rfl rfl (up2_nq (by decide)) ?_
  refine wi_ifne_f ct_137_182 m3 (by decide) ?_
  refine wi_ic ct_137_185 kc_1 ?_
  refine wi_iret ct_137_186 (by decide) ?_
  exact kk _ ⟨((congrArg Int32.toInt (up2_nq (by decide))).trans (m1.trans (by first | rfl | omega))), ((congrArg Int32.toInt (up2_nq (by decide))).trans (m2.trans (by first | rfl | omega))), ((congrArg Int32.toInt (up2_nq (by decide))).trans (m3.trans (by first | rfl | omega))), ((congrArg Int32.toInt (up2_nq (by decide))).trans (m4.trans (by first | rfl | omega))), (TKR.fr m5 (funext fun _ => up2_nq (by decide))), (WT.fr (funext fun _ => up2_nq (by decide)) _ m6), ⟨fun x e1 e2 e3 e4 => (Eq.trans (funext fun _ => up2_nq e2) (m7.1 x e1 e2 e3 e4)), fun j e1 e2 e3 e4 e5 => (Eq.trans (up2_nq (by decide)) (m7.2.1 j e1 e2 e3 e4 e5)), fun j e => (Eq.trans (up2_nj e) (m7.2.2.1 j e)), fun j e => (Eq.trans (up2_nq (by decide)) (m7.2.2.2 j e))⟩, m8, m9⟩ ((congrArg Int32.toInt up2_eq).trans m2)
theorem e_end1 {d L n F c : Nat} {cz : Int32} {g : am_G} {fl : am_L} {fi0 : am_I} {X : Nat → Int} {P : Option Value → am_G → am_I → am_L → Prop} {fi : am_I} {p : Nat} {ts : List tk_T} {σ : List Int} {z : Int32} (hT : RTX L g fi0 X n) (hF : F ≤ 500) (hc60 : c < 60) (hc : cz.toInt = (c : Int)) (hz : z.toInt = pk X n p) (hs : RSt n F c fi0 fi p ts (40 :: σ)) (k1 : pk X n p = 41 → p < n → ∀ fi2 z, RSt n F c fi0 fi2 (p + 1) (ts ++ nots σ) (strp σ) → WP (d + 5) 137 22 [some (.ref 31), some (.int cz), some (.int 0), some (.int z)] [] g fi2 fl P) (k0 : pk X n p ≠ 41 → ∀ fi2, RFr F c fi0 fi2 → (fi2 31 12).toInt = (p : Int) → P (some (.int 0)) g fi2 fl) : WP (d + 5) 137 168 [some (.ref 31), some (.int cz), some (.int 0), some (.int z)] [] g fi fl P := by
  obtain ⟨hS, -, -, hn, hxb⟩ := id hT
  obtain ⟨m1, m2, m3, m4, m5, m6, m7, m8, m9⟩ := id hs
  have ml := RSt.tl hT hs
  have hx := RSt.tx hT hs
  have ho := opn_le σ
  rw [List.length_cons] at m3 m8
  have ho2 : opn (40 :: σ) = opn σ + 1 := if_pos (Or.inr rfl)
  rw [ho2] at m4
  refine wi_aload_0 ct_137_168 ?_
  refine wi_gfr ct_137_169 (sT_31 hS) rfl (sR_31_19 hS) ?_
  refine wi_iload_1 ct_137_172 ?_
  refine wi_aload_0 ct_137_173 ?_
  refine wi_gf (x := fi 31 22) ct_137_174 (sT_31 hS) rfl rfl rfl ?_
  refine wi_iast ct_137_177 (sT_44 hS) (sL_44 hS) (i_in hc (by omega)) (i_cl (k := c) hc (by omega)) ?_
  refine wi_aload_0 ct_137_178 ?_
  refine wi_gf (x := fi 31 23) ct_137_179 (sT_31 hS) rfl rfl (up2_nq (by decide)) ?_
  refine wi_ifne_t ct_137_182 m3 (by omega) ?_
  refine wi_iload_3 ct_137_187 ?_
  refine wi_ic ct_137_188 kc_41 ?_
  refine wi_iceq ct_137_190 hz ki_41 (fun h1 => ?_) (fun h1 => ?_)
  · skip
    refine wi_aload_0 ct_137_195 ?_
    refine wi_dup ct_137_196 rfl ?_
    refine wi_gf (x := fi 31 23) ct_137_197 (sT_31 hS) rfl rfl (up2_nq (by decide)) ?_
    refine wi_ic ct_137_200 kc_1 ?_
    refine wi_isub ct_137_201 rfl ?_
    refine wi_pf ct_137_202 (sT_31 hS) rfl ?_
    refine wi_aload_0 ct_137_205 ?_
    refine wi_dup ct_137_206 rfl ?_
    refine wi_gf (x := fi 31 24) ct_137_207 (sT_31 hS) rfl rfl (Eq.trans (up2_nj (by decide)) (up2_nq (by decide))) ?_
    refine wi_ic ct_137_210 kc_1 ?_
    refine wi_isub ct_137_211 rfl ?_
    refine wi_pf ct_137_212 (sT_31 hS) rfl ?_
    refine wi_aload_0 ct_137_215 ?_
    refine wi_dup ct_137_216 rfl ?_
    refine wi_gf (x := fi 31 12) ct_137_217 (sT_31 hS) rfl rfl (Eq.trans (up2_nj (by decide)) (Eq.trans (up2_nj (by decide)) (up2_nq (by decide)))) ?_
    refine wi_ic ct_137_220 kc_1 ?_
    refine wi_iadd ct_137_221 rfl ?_
    refine wi_pf ct_137_222 (sT_31 hS) rfl ?_
    refine wi_aload_0 ct_137_225 ?_
    refine wi_cv0 (ls' := [some _]) ct_137_226 (Nat.le_of_ble_eq_true rfl) (by decide) (sT_31 hS) rfl (by decide) rfl rfl (Nat.le_of_ble_eq_true rfl) ?_
    have hpn : p < n := pk_0n (X := X) (by omega)
    refine r_whole (d := d + 3) hT hF σ _ (p + 1) ts ⟨((congrArg Int32.toInt up2_eq).trans ((i_add m1 ki_1 (by omega)).trans (by first | rfl | omega | (simp only [List.length_append, List.length_cons, List.length_nil]; omega)))), ((congrArg Int32.toInt (Eq.trans (up2_nj (by decide)) (Eq.trans (up2_nj (by decide)) (Eq.trans (up2_nj (by decide)) (up2_nq (by decide)))))).trans (m2.trans (by first | rfl | omega | (simp only [List.length_append, List.length_cons, List.length_nil]; omega)))), ((congrArg Int32.toInt (Eq.trans (up2_nj (by decide)) (Eq.trans (up2_nj (by decide)) up2_eq))).trans ((i_sub m3 ki_1 (by omega)).trans (by first | rfl | omega | (simp only [List.length_append, List.length_cons, List.length_nil]; omega)))), ((congrArg Int32.toInt (Eq.trans (up2_nj (by decide)) up2_eq)).trans ((i_sub m4 ki_1 (by omega)).trans (by first | rfl | omega | (simp only [List.length_append, List.length_cons, List.length_nil]; omega)))), (TKR.fr m5 (Eq.trans (funext fun _ => up2_nq (by decide)) (Eq.trans (funext fun _ => up2_nq (by decide)) (Eq.trans (funext fun _ => up2_nq (by decide)) (funext fun _ => up2_nq (by decide)))))), (WT.fr (Eq.trans (funext fun _ => up2_nq (by decide)) (Eq.trans (funext fun _ => up2_nq (by decide)) (Eq.trans (funext fun _ => up2_nq (by decide)) (funext fun _ => up2_nq (by decide))))) _ m6.2), ⟨fun x e1 e2 e3 e4 => (Eq.trans (funext fun _ => up2_nq e1) (Eq.trans (funext fun _ => up2_nq e1) (Eq.trans (funext fun _ => up2_nq e1) (Eq.trans (funext fun _ => up2_nq e2) (m7.1 x e1 e2 e3 e4))))), fun j e1 e2 e3 e4 e5 => (Eq.trans (up2_nj e1) (Eq.trans (up2_nj e5) (Eq.trans (up2_nj e4) (Eq.trans (up2_nq (by decide)) (m7.2.1 j e1 e2 e3 e4 e5))))), fun j e => (Eq.trans (up2_nq (by decide)) (Eq.trans (up2_nq (by decide)) (Eq.trans (up2_nq (by decide)) (Eq.trans (up2_nj e) (m7.2.2.1 j e))))), fun j e => (Eq.trans (up2_nq (by decide)) (Eq.trans (up2_nq (by decide)) (Eq.trans (up2_nq (by decide)) (Eq.trans (up2_nq (by decide)) (m7.2.2.2 j e)))))⟩, (by omega), (by omega)⟩ (fun f9 h9x => wk_v ?_)
    refine wi_goto ct_137_229 ?_
    exact k1 (by omega) hpn _ _ h9x
  · skip
    refine wi_ic ct_137_193 kc_0 ?_
    refine wi_iret ct_137_194 (by decide) ?_
    exact k0 (by omega) _ ⟨fun x e1 e2 e3 e4 => (Eq.trans (funext fun _ => up2_nq e2) (m7.1 x e1 e2 e3 e4)), fun j e1 e2 e3 e4 e5 => (Eq.trans (up2_nq (by decide)) (m7.2.1 j e1 e2 e3 e4 e5)), fun j e => (Eq.trans (up2_nj e) (m7.2.2.1 j e)), fun j e => (Eq.trans (up2_nq (by decide)) (m7.2.2.2 j e))⟩ ((congrArg Int32.toInt (up2_nq (by decide))).trans (m1.trans (by first | rfl | (dsimp only; omega))))
section AEC
variable {d L n F c : Nat} {cz : Int32} {g : am_G} {fl : am_L} {fi0 : am_I} {X : Nat → Int}
theorem e_lc (hT : RTX L g fi0 X n) (hF : F ≤ 500) (hc60 : c < 60) (hc : cz.toInt = (c : Int)) {m : Nat} (hp : ePC d n F c cz g fl fi0 X m) : ∀ (N : Nat) (P : Option Value → am_G → am_I → am_L → Prop) (fi : am_I) (p : Nat) (T ts W V : List tk_T) (σ : List Int) (oB oE : Bool) (kB kE : Nat), n < p + N → RSt n F c fi0 fi p T (stB oB (stE oE σ)) → bs σ → opn σ + m = 4 → T ++ aB oB = ts ++ W ++ V → (oE = false → W = []) → 100 < p + kB → 100 < p + kE → eOK d n F c cz g fl fi0 X P ts σ (rR X n m kB kE p oE W V) → eFL n F c g fl fi0 P (rR X n m kB kE p oE W V) → eLP d cz 0 g fl P fi := by
  intro N
  induction N with
  | zero =>
    intro P fi p T ts W V σ oB oE kB kE hN hs
    obtain ⟨-, -, -, -, -, -, -, -, h9⟩ := hs
    omega
  | succ N ih =>
    intro P fi p T ts W V σ oB oE kB kE hN hs hb ho hTe hW hkB hkE k1 k2 b
    have hn100 := hT.2.2.2.1
    refine e_0 hT hF hc60 hc hs (fun hpk hpn fi2 z h2 => ?_) (fun h38 h124 fi2 z hz h2 => ?_)
    · rcases hpk with h38 | h124
      · rw [h38, (stl_38 hb oB oE).1, (stl_38 hb oB oE).2] at h2
        obtain ⟨k, rfl⟩ : ∃ k, kB = k + 1 := ⟨kB - 1, by omega⟩
        have gd1 := rP_gd X n m (p + 1) (by omega)
        refine hp P fi2 (p + 1) _ _ h2 (by rw [(opn_st oB oE σ).2.1]; exact ho) (fun e fi3 h3 => ?_) (fun e fi3 h3 h4 => ?_) _
        · obtain ⟨-, g2, g3⟩ := gd1
          obtain ⟨g4, -, -⟩ := g3 e
          have h5 : RSt n F c fi0 fi3 (rP X n m (p + 1)).2.1 (T ++ aB oB ++ (rP X n m (p + 1)).2.2) (stB true (stE oE σ)) := by
            rw [show nots (38 :: stE oE σ) = [] from if_neg (by decide), show strp (38 :: stE oE σ) = 38 :: stE oE σ from if_neg (by decide), List.append_nil] at h3
            exact h3
          rw [rR_a h38 e] at k1 k2
          refine ih P fi3 _ _ ts W _ σ true oE k kE (by omega) h5 hb ho ?_ hW (by omega) (by omega) k1 k2
          show T ++ aB oB ++ (rP X n m (p + 1)).2.2 ++ [tkA] = _
          rw [hTe]
          simp only [List.append_assoc]
        · rw [rR_af h38 e] at k2
          exact k2 rfl fi3 h3 h4
      · rw [h124, (stl_124 hb oB oE).1, (stl_124 hb oB oE).2] at h2
        obtain ⟨k, rfl⟩ : ∃ k, kE = k + 1 := ⟨kE - 1, by omega⟩
        have gd1 := rP_gd X n m (p + 1) (by omega)
        refine hp P fi2 (p + 1) _ _ h2 (by rw [(opn_st oB oE σ).2.2]; exact ho) (fun e fi3 h3 => ?_) (fun e fi3 h3 h4 => ?_) _
        · obtain ⟨-, g2, g3⟩ := gd1
          obtain ⟨g4, -, -⟩ := g3 e
          have h5 : RSt n F c fi0 fi3 (rP X n m (p + 1)).2.1 (T ++ (aB oB ++ aE oE) ++ (rP X n m (p + 1)).2.2) (stB false (stE true σ)) := by
            rw [show nots (124 :: σ) = [] from if_neg (by decide), show strp (124 :: σ) = 124 :: σ from if_neg (by decide), List.append_nil] at h3
            exact h3
          rw [rR_o h124 e] at k1 k2
          refine ih P fi3 _ _ ts (w2 oE W V) _ σ false true 100 k (by omega) h5 hb ho ?_ (fun h => by cases h) (by omega) (by omega) k1 k2
          show T ++ (aB oB ++ aE oE) ++ (rP X n m (p + 1)).2.2 ++ [] = _
          rw [List.append_nil, ← List.append_assoc T, hTe]
          cases oE
          · rw [hW rfl]
            simp only [aE, w2, List.append_nil]
          · simp only [aE, w2, List.append_assoc]
        · rw [rR_of h124 e] at k2
          exact k2 rfl fi3 h3 h4
    · rw [(stl_124 hb oB oE).1, (stl_124 hb oB oE).2] at h2
      rw [rR_n h38 h124] at k1
      refine k1 rfl fi2 z hz ?_
      have e : T ++ (aB oB ++ aE oE) = ts ++ w2 oE W V := by
        rw [← List.append_assoc T, hTe]
        cases oE
        · rw [hW rfl]
          simp only [aE, w2, List.append_nil]
        · simp only [aE, w2, List.append_assoc]
      rw [e] at h2
      exact h2
theorem e_ec (hT : RTX L g fi0 X n) (hF : F ≤ 500) (hc60 : c < 60) (hc : cz.toInt = (c : Int)) {m : Nat} (hp : ePC d n F c cz g fl fi0 X m) (P : Option Value → am_G → am_I → am_L → Prop) (fi : am_I) (p : Nat) (ts : List tk_T) (σ : List Int) (hs : RSt n F c fi0 fi p ts σ) (hb : bs σ) (ho : opn σ + m = 4) (k1 : eOK d n F c cz g fl fi0 X P ts σ (rE X n m p)) (k2 : eFL n F c g fl fi0 P (rE X n m p)) : eLP d cz 1 g fl P fi := by
  have hpn : p ≤ n := by
    obtain ⟨-, -, -, -, -, -, -, -, h9⟩ := hs
    exact h9
  have gd1 := rP_gd X n m p hpn
  refine hp P fi p ts σ hs ho (fun e fi2 h2 => ?_) (fun e fi2 h2 h3 => ?_)
  · obtain ⟨-, g2, g3⟩ := gd1
    obtain ⟨g4, -, -⟩ := g3 e
    rw [(bs_strp hb).1, (bs_strp hb).2, List.append_nil] at h2
    rw [rE_R e] at k1 k2
    refine e_lc hT hF hc60 hc hp (n + 1) P fi2 _ _ ts [] _ σ false false 100 100 (by omega) h2 hb ho ?_ (fun _ => rfl) (by omega) (by omega) k1 k2
    simp only [aB, List.append_nil]
  · rw [rE_Rf e] at k2
    exact k2 rfl fi2 h2 h3
theorem e_pc (hT : RTX L g fi0 X n) (hF : F ≤ 500) (hc60 : c < 60) (hc : cz.toInt = (c : Int)) : ∀ m, ePC d n F c cz g fl fi0 X m := by
  intro m
  induction m with
  | zero =>
    intro P fi p ts σ hs ho k1 k2 b
    have hpt : pk X n p ≠ 33 → pk X n p ≠ 40 → rP X n 0 p = rT X n p := fun a b => rP_t ⟨a, b⟩
    refine e_1 hT hF hc60 hc hs (fun h _ => ?_) (fun _ _ h4 => absurd (show opn σ = 4 from ho) h4) (fun a b e fi2 z h2 => ?_) (fun a b e fi2 h2 h3 => ?_)
    · rw [rP_0 h] at k2
      exact k2 rfl fi (hs.2.2.2.2.2.2.1) hs.1
    · rw [hpt a b] at k1
      exact k1 e fi2 h2 _
    · rw [hpt a b] at k2
      exact k2 e fi2 h2 h3
  | succ m ih =>
    intro P fi p ts σ hs ho k1 k2 b
    have hpt : pk X n p ≠ 33 → pk X n p ≠ 40 → rP X n (m + 1) p = rT X n p := fun a b => rP_t ⟨a, b⟩
    refine e_1 hT hF hc60 hc hs (fun _ h => ?_) (fun h hpn _ fi2 z h2 => ?_) (fun a b e fi2 z h2 => ?_) (fun a b e fi2 h2 h3 => ?_)
    · omega
    · rcases h with h33 | h40
      · rw [h33] at h2
        refine ih P fi2 (p + 1) ts (33 :: σ) h2 ?_ (fun e fi3 h3 => ?_) (fun e fi3 h3 h4 => ?_) _
        · rw [show opn (33 :: σ) = opn σ + 1 from if_pos (Or.inl rfl)]
          omega
        · rw [rP_s2 h33, if_pos e] at k1
          refine k1 rfl fi3 ?_
          rw [show nots (33 :: σ) = tkN :: nots σ from if_pos rfl, show strp (33 :: σ) = strp σ from if_pos rfl] at h3
          rw [show ts ++ ((rP X n m (p + 1)).2.2 ++ [tkN]) ++ nots σ = ts ++ (rP X n m (p + 1)).2.2 ++ tkN :: nots σ by simp only [List.append_assoc, List.cons_append, List.nil_append]]
          exact h3
        · rw [rP_s2 h33, if_neg (by rw [e]; decide)] at k2
          exact k2 rfl fi3 h3 h4
      · rw [h40] at h2
        refine e_ec hT hF hc60 hc ih P fi2 (p + 1) ts (40 :: σ) h2 (Or.inr ⟨σ, rfl⟩) ?_ (fun e fi3 z2 hz h3 => ?_) (fun e fi3 h3 h4 => ?_) _
        · rw [show opn (40 :: σ) = opn σ + 1 from if_pos (Or.inr rfl)]
          omega
        · refine e_end1 hT hF hc60 hc hz h3 (fun h41 hpn2 fi4 z4 h4 => ?_) (fun h41 fi4 h4 h5 => ?_)
          · rw [rP_s1 h40, if_pos e, if_pos h41] at k1
            exact k1 rfl fi4 h4 _
          · rw [rP_s1 h40, if_pos e, if_neg h41] at k2
            exact k2 rfl fi4 h4 h5
        · rw [rP_s1 h40, if_neg (by rw [e]; decide)] at k2
          exact k2 rfl fi3 h3 h4
    · rw [hpt a b] at k1
      exact k1 e fi2 h2 _
    · rw [hpt a b] at k2
      exact k2 e fi2 h2 h3
theorem e_all (hT : RTX L g fi0 X n) (hF : F ≤ 500) (hc60 : c < 60) (hc : cz.toInt = (c : Int)) (P : Option Value → am_G → am_I → am_L → Prop) (fi : am_I) (p : Nat) (ts : List tk_T) (hs : RSt n F c fi0 fi p ts []) (k1 : (rE X n 4 p).1 = true → ∀ fi2, RSt n F c fi0 fi2 (rE X n 4 p).2.1 (ts ++ (rE X n 4 p).2.2) [] → (fi2 44 c).toInt = (F : Int) + (ts ++ (rE X n 4 p).2.2).length → P (some (.int 1)) g fi2 fl) (k2 : eFL n F c g fl fi0 P (rE X n 4 p)) : eLP d cz 1 g fl P fi :=
  e_ec hT hF hc60 hc (e_pc hT hF hc60 hc 4) P fi p ts [] hs (Or.inl rfl) rfl (fun e fi2 z hz h2 => e_end0 hT hF hc60 hc h2 (fun fi3 h3 h4 => k1 e fi3 h3 h4)) k2
end AEC
