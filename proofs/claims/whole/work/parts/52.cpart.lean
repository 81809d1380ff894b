theorem pk_0n {X : Nat → Int} {n p : Nat} (h : 0 ≤ pk X n p) : p < n := by
  unfold pk at h
  split at h
  · assumption
  · omega
theorem CS.tx {L n q a0 a1 a2 a4 a5 a6 p : Nat} {g : am_G} {fi0 fi : am_I} {X : Nat → Int} {ts : List tk_T} (hT : TXC L g fi0 q a0 a1 a2 a4 a5 a6 X n) (h : CS q a4 a5 a6 fi0 fi p ts) : (fi 17 1).toInt = (n : Int) ∧ ∀ j, j < n → (fi 18 j).toInt = X j := by
  obtain ⟨-, -, hd, -, h1, h2, -⟩ := hT
  obtain ⟨-, -, -, h3, h4, -⟩ := h
  rw [h4 1 (by decide), h3 18 (by decide) (by omega) (by omega) (by omega) (by omega)]
  exact ⟨h1, h2⟩
theorem rl3_v {c : Int} (h : 0 ≤ rl3 c) : 60 ≤ c ∧ c ≤ 62 ∧ rl3 c = c - 60 := by
  unfold rl3 at h ⊢
  repeat' split at h
  all_goals omega
theorem rl3_n {c : Int} (h : rl3 c < 0) : ¬ (60 ≤ c ∧ c ≤ 62) := by
  unfold rl3 at h
  repeat' split at h
  all_goals omega
theorem c_test {L n : Nat} {g : am_G} {fl : am_L} {q a0 a1 a2 a4 a5 a6 : Nat} {fi0 : am_I} {X : Nat → Int} {D : Nat} (hT : TXC L g fi0 q a0 a1 a2 a4 a5 a6 X n) (hD : 8 ≤ D) : CM D 53 g fl q a4 a5 a6 n fi0 [some (.ref 17), some (.ref q), none, none, none] (rT X n) := by
  obtain ⟨hS, hsp, ⟨d72, d724, d725, d726⟩, ⟨nq4, nq5, nq6, n45, n46, n56⟩, hl0, hx0, hn, hxb⟩ := id hT
  obtain ⟨p0, ⟨r0, r1, r2, r4, r5, r6⟩, ⟨t0, t1, t2, t4, t5, t6⟩, ⟨l0, l1, l2, l4, l5, l6⟩⟩ := id hsp
  obtain ⟨d, rfl⟩ : ∃ d, D = d + 8 := ⟨D - 8, by omega⟩
  intro P fi p ts hs hpn hlen hr
  refine wi_aload_0 ct_53_0 ?_
  refine wi_ldc ct_53_1 ?_
  refine wi_cv1 (ls' := [some _, some _, none, none]) ct_53_3 (Nat.le_of_ble_eq_true rfl) (by decide) (sT_17 hS) rfl (by decide) rfl rfl (Nat.le_of_ble_eq_true rfl) ?_
  obtain ⟨hlt1, hxt1⟩ := CS.tx hT hs
  refine c_lt6 hS hs.1 hlt1 hxt1 hn hxb (by omega) (fun z2 fz2 hz2 h0z2 hfz2 => wk_i ?_) (fun h0z2 => wk_i ?_)
  · skip
    have hsz2 := hs.pf ⟨d72, d724, d725, d726⟩ hfz2
    refine wi_istore_2 rfl ct_53_6 ?_
    refine wi_iload_2 ct_53_7 ?_
    refine wi_ifge_t ct_53_8 hz2 (by omega) ?_
    refine wi_aload_0 ct_53_13 ?_
    refine wi_ldc ct_53_14 ?_
    refine wi_cv1 (ls' := [some _, some _, none, none]) ct_53_16 (Nat.le_of_ble_eq_true rfl) (by decide) (sT_17 hS) rfl (by decide) rfl rfl (Nat.le_of_ble_eq_true rfl) ?_
    obtain ⟨hlt3, hxt3⟩ := CS.tx hT hsz2
    refine c_rl3 hS hsz2.1 hlt3 hxt3 hn hxb (by omega) (fun z4 fz4 hz4 h0z4 hfz4 => wk_i ?_) (fun h0z4 => wk_i ?_)
    · skip
      have hsz4 := hsz2.pf ⟨d72, d724, d725, d726⟩ hfz4
      refine wi_istore_3 rfl ct_53_19 ?_
      refine wi_iload_3 ct_53_20 ?_
      refine wi_ifge_t ct_53_21 hz4 (by omega) ?_
      refine wi_aload_0 ct_53_26 ?_
      refine wi_cv0 (ls' := [some _, none, none, none]) ct_53_27 (Nat.le_of_ble_eq_true rfl) (by decide) (sT_17 hS) rfl (by decide) rfl rfl (Nat.le_of_ble_eq_true rfl) ?_
      obtain ⟨hlt5, hxt5⟩ := CS.tx hT hsz4
      refine c_num hS hsz4.1 hlt5 hxt5 hn hxb (by omega) (fun z6 fz6 hz6 hfz6 => wk_i ?_)
      have hsz6 := hsz4.pf ⟨d72, d724, d725, d726⟩ hfz6
      have hbz6 := rNum_bd X n (((p + 1) + 1))
      refine wi_istore_4 rfl ct_53_30 ?_
      refine wi_iload_4 ct_53_32 ?_
      refine wi_ifge ct_53_34 hz6 (fun h7 => ?_) (fun h7 => ?_)
      · skip
        refine wi_aload_1 ct_53_39 ?_
        refine wi_iload_2 ct_53_40 ?_
        refine wi_iload_3 ct_53_41 ?_
        refine wi_iload_4 ct_53_42 ?_
        refine wi_cv3 (ls' := [some _, some _, some _, some _]) ct_53_44 (Nat.le_of_ble_eq_true rfl) (by decide) p0 rfl (by decide) rfl rfl (Nat.le_of_ble_eq_true rfl) ?_
        have hv3 := rl3_v h0z4
        have hpn0 := pk_0n ((lt6_bd _).2.2 h0z2)
        refine c_add (t := ((lt6 (pk X n p)).toNat, (pk X n (p + 1) - 60).toNat, (rNum X n (p + 1 + 1)).1.toNat)) hT hsz6 (by omega) (hz2.trans (by first | rfl | (dsimp only; omega))) (hz4.trans (by first | rfl | (dsimp only; omega))) (hz6.trans (by first | rfl | (dsimp only; omega))) (fun fa8 hsa8 => wk_v ?_)
        refine wi_ic ct_53_47 kc_1 ?_
        refine wi_iret ct_53_48 (by decide) ?_
        have hrr : rT X n p = (true, (rNum X n (p + 1 + 1)).2, [((lt6 (pk X n p)).toNat, (pk X n (p + 1) - 60).toNat, (rNum X n (p + 1 + 1)).1.toNat)]) := (if_neg (by omega)).trans ((if_neg (by omega)).trans (if_neg (by show ¬ (rNum X n (p + 2)).1 < 0; have e2 : p + 1 + 1 = p + 2 := rfl; rw [e2] at *; omega)))
        exact (hr.congr hrr).1 rfl _ hsa8
      · skip
        refine wi_ic ct_53_37 kc_0 ?_
        refine wi_iret ct_53_38 (by decide) ?_
        have hv3 := rl3_v h0z4
        have hrr : rT X n p = (false, p + 2, []) := (if_neg (by omega)).trans ((if_neg (by omega)).trans (if_pos (by show (rNum X n (p + 1 + 1)).1 < 0; omega)))
        exact (hr.congr hrr).2 rfl _ hsz6.2.2.2 (hsz6.1.trans (by first | rfl | (dsimp only; omega)))
    · skip
      refine wi_istore_3 rfl ct_53_19 ?_
      refine wi_iload_3 ct_53_20 ?_
      refine wi_ifge_f ct_53_21 ki_m1 (by decide) ?_
      refine wi_ic ct_53_24 kc_0 ?_
      refine wi_iret ct_53_25 (by decide) ?_
      have hv3 := rl3_n h0z4
      have hrr : rT X n p = (false, p + 1, []) := (if_neg (by omega)).trans (if_pos hv3)
      exact (hr.congr hrr).2 rfl _ hsz2.2.2.2 (hsz2.1.trans (by first | rfl | (dsimp only; omega)))
  · skip
    refine wi_istore_2 rfl ct_53_6 ?_
    refine wi_iload_2 ct_53_7 ?_
    refine wi_ifge_f ct_53_8 ki_m1 (by decide) ?_
    refine wi_ic ct_53_11 kc_0 ?_
    refine wi_iret ct_53_12 (by decide) ?_
    have hrr : rT X n p = (false, p, []) := if_pos h0z2
    exact (hr.congr hrr).2 rfl _ hs.2.2.2 (hs.1.trans (by first | rfl | (dsimp only; omega)))
theorem vl_seq51 {L n : Nat} {g : am_G} {fl : am_L} {q a0 a1 a2 a4 a5 a6 : Nat} {fi0 : am_I} {X : Nat → Int} {d wd : Nat} {f : Nat → rd_T} {dep : Int32} (hT : TXC L g fi0 q a0 a1 a2 a4 a5 a6 X n) (hf : CM (d + 1) 52 g fl q a4 a5 a6 n fi0 [some (.ref 17), some (.ref q), some (.int dep), none] f) (hg : ∀ p, p ≤ n → gd n wd p (f p)) : ∀ (k i : Nat) (P : Option Value → am_G → am_I → am_L → Prop) (fi : am_I) (p : Nat) (ts us : List tk_T) (zi : Int32), i + k = 100 → zi.toInt = (i : Int) → CS q a4 a5 a6 fi0 fi p (ts ++ us) → i < p → p ≤ n → (ts ++ us).length ≤ p → CR P g fl q a4 a5 a6 fi0 ts (rLp X n f 38 tkA k p us) → WP (d + 2) 51 13 [some (.ref 17), some (.ref q), some (.int dep), some (.int zi)] [] g fi fl P := by
  obtain ⟨hS, hsp, ⟨d72, d724, d725, d726⟩, ⟨nq4, nq5, nq6, n45, n46, n56⟩, hl0, hx0, hn, hxb⟩ := id hT
  obtain ⟨p0, ⟨r0, r1, r2, r4, r5, r6⟩, ⟨t0, t1, t2, t4, t5, t6⟩, ⟨l0, l1, l2, l4, l5, l6⟩⟩ := id hsp
  intro k
  induction k with
  | zero =>
    intro i P fi p ts us zi hik hzi hs hip hpn hlen hr
    exact absurd hip (by omega)
  | succ k ih =>
    intro i P fi p ts us zi hik hzi hs hip hpn hlen hr
    refine wi_iload_3 ct_51_13 ?_
    refine wi_ic ct_51_14 kc_100 ?_
    refine wi_icge_f ct_51_16 hzi ki_100 (by omega) ?_
    refine wi_aload_0 ct_51_19 ?_
    refine wi_ic ct_51_20 kc_38 ?_
    refine wi_cv1 (ls' := [some _, some _]) ct_51_22 (Nat.le_of_ble_eq_true rfl) (by decide) (sT_17 hS) rfl (by decide) rfl rfl (Nat.le_of_ble_eq_true rfl) ?_
    obtain ⟨hlt1, hxt1⟩ := CS.tx hT hs
    refine c_pass hS hs.1 hlt1 hxt1 hn hxb (by omega) ki_38 (fun hz2 fz2 hfz2 => wk_i ?_) (fun hz2 => wk_i ?_)
    · skip
      have hsz2 := hs.pf ⟨d72, d724, d725, d726⟩ hfz2
      have hpnz2 := pk_n (by decide) hz2
      refine wi_ifeq_f ct_51_25 ki_1 (by decide) ?_
      refine wi_aload_0 ct_51_28 ?_
      refine wi_aload_1 ct_51_29 ?_
      refine wi_iload_2 ct_51_30 ?_
      refine wi_cv2 (ls' := [some _, some _, some _, none]) ct_51_31 (Nat.le_of_ble_eq_true rfl) (by decide) (sT_17 hS) rfl (by decide) rfl rfl (Nat.le_of_ble_eq_true rfl) ?_
      refine hf _ _ ((p + 1)) _ hsz2 (by omega) (by omega) ⟨fun er3 fr3 hsr3 => wk_i ?_, fun er3 fr3 hcr3 hpr3 => wk_i ?_⟩
      · skip
        refine wi_ifne_t ct_51_34 ki_1 (by decide) ?_
        refine wi_aload_1 ct_51_39 ?_
        refine wi_ic ct_51_40 kc_7 ?_
        refine wi_ic ct_51_42 kc_0 ?_
        refine wi_ic ct_51_43 kc_0 ?_
        refine wi_cv3 (ls' := [some _, some _, some _, some _]) ct_51_44 (Nat.le_of_ble_eq_true rfl) (by decide) p0 rfl (by decide) rfl rfl (Nat.le_of_ble_eq_true rfl) ?_
        obtain ⟨g1, g2, g3⟩ := hg (p + 1) (by omega)
        obtain ⟨g4, g5, -⟩ := g3 er3
        have hln : ((ts ++ us) ++ (f (p + 1)).2.2).length < 100 := by rw [List.length_append]; omega
        refine c_add (t := tkA) hT hsr3 hln (ki_7.trans rfl) ki_0 ki_0 (fun fa4 hsa4 => wk_v ?_)
        refine wi_iinc_3 rfl (z := (zi + 1)) ct_51_47 (by rw [kc_1]) ?_
        refine wi_goto ct_51_50 ?_
        refine ih (i + 1) P _ _ ts (us ++ (f (p + 1)).2.2 ++ [tkA]) _ (by omega) ((i_add hzi ki_1 (by omega)).trans (by omega)) ?_ (by omega) g2 ?_ (hr.congr ((rLp_c hz2).trans (if_pos er3)))
        · rw [show ts ++ (us ++ (f (p + 1)).2.2 ++ [tkA]) = ts ++ us ++ (f (p + 1)).2.2 ++ [tkA] by simp only [List.append_assoc]]
          exact hsa4
        · simp only [List.length_append, List.length_cons, List.length_nil] at hlen ⊢
          omega
      · skip
        refine wi_ifne_f ct_51_34 ki_0 (by decide) ?_
        refine wi_ic ct_51_37 kc_0 ?_
        refine wi_iret ct_51_38 (by decide) ?_
        exact (hr.congr ((rLp_c hz2).trans (if_neg (by rw [er3]; decide)))).2 rfl _ hcr3 hpr3
    · skip
      refine wi_ifeq_t ct_51_25 ki_0 (by decide) ?_
      refine wi_ic ct_51_53 kc_1 ?_
      refine wi_iret ct_51_54 (by decide) ?_
      exact (hr.congr (rLp_n hz2)).1 rfl _ hs
theorem c_seq51 {L n : Nat} {g : am_G} {fl : am_L} {q a0 a1 a2 a4 a5 a6 : Nat} {fi0 : am_I} {X : Nat → Int} {d wd : Nat} {f : Nat → rd_T} {dep : Int32} (hT : TXC L g fi0 q a0 a1 a2 a4 a5 a6 X n) (hf : CM (d + 1) 52 g fl q a4 a5 a6 n fi0 [some (.ref 17), some (.ref q), some (.int dep), none] f) (hg : ∀ p, p ≤ n → gd n wd p (f p)) : CM (d + 2) 51 g fl q a4 a5 a6 n fi0 [some (.ref 17), some (.ref q), some (.int dep), none] (rSq X n f 38 tkA) := by
  obtain ⟨hS, hsp, ⟨d72, d724, d725, d726⟩, ⟨nq4, nq5, nq6, n45, n46, n56⟩, hl0, hx0, hn, hxb⟩ := id hT
  obtain ⟨p0, ⟨r0, r1, r2, r4, r5, r6⟩, ⟨t0, t1, t2, t4, t5, t6⟩, ⟨l0, l1, l2, l4, l5, l6⟩⟩ := id hsp
  intro P fi p ts hs hpn hlen hr
  refine wi_aload_0 ct_51_0 ?_
  refine wi_aload_1 ct_51_1 ?_
  refine wi_iload_2 ct_51_2 ?_
  refine wi_cv2 (ls' := [some _, some _, some _, none]) ct_51_3 (Nat.le_of_ble_eq_true rfl) (by decide) (sT_17 hS) rfl (by decide) rfl rfl (Nat.le_of_ble_eq_true rfl) ?_
  refine hf _ _ (p) _ hs (by omega) hlen ⟨fun er1 fr1 hsr1 => wk_i ?_, fun er1 fr1 hcr1 hpr1 => wk_i ?_⟩
  · skip
    refine wi_ifne_t ct_51_6 ki_1 (by decide) ?_
    refine wi_ic ct_51_11 kc_0 ?_
    refine wi_istore_3 rfl ct_51_12 ?_
    obtain ⟨g1, g2, g3⟩ := hg p hpn
    obtain ⟨g4, g5, -⟩ := g3 er1
    exact vl_seq51 hT hf hg 100 0 P _ _ ts (f p).2.2 _ (by omega) (ki_0.trans rfl) hsr1 (by omega) g2 (by rw [List.length_append]; omega) (hr.congr (if_pos er1))
  · skip
    refine wi_ifne_f ct_51_6 ki_0 (by decide) ?_
    refine wi_ic ct_51_9 kc_0 ?_
    refine wi_iret ct_51_10 (by decide) ?_
    exact (hr.congr (if_neg (by rw [er1]; decide))).2 rfl _ hcr1 hpr1
theorem vl_seq50 {L n : Nat} {g : am_G} {fl : am_L} {q a0 a1 a2 a4 a5 a6 : Nat} {fi0 : am_I} {X : Nat → Int} {d wd : Nat} {f : Nat → rd_T} {dep : Int32} (hT : TXC L g fi0 q a0 a1 a2 a4 a5 a6 X n) (hf : CM (d + 1) 51 g fl q a4 a5 a6 n fi0 [some (.ref 17), some (.ref q), some (.int dep), none] f) (hg : ∀ p, p ≤ n → gd n wd p (f p)) : ∀ (k i : Nat) (P : Option Value → am_G → am_I → am_L → Prop) (fi : am_I) (p : Nat) (ts us : List tk_T) (zi : Int32), i + k = 100 → zi.toInt = (i : Int) → CS q a4 a5 a6 fi0 fi p (ts ++ us) → i < p → p ≤ n → (ts ++ us).length ≤ p → CR P g fl q a4 a5 a6 fi0 ts (rLp X n f 124 tkO k p us) → WP (d + 2) 50 13 [some (.ref 17), some (.ref q), some (.int dep), some (.int zi)] [] g fi fl P := by
  obtain ⟨hS, hsp, ⟨d72, d724, d725, d726⟩, ⟨nq4, nq5, nq6, n45, n46, n56⟩, hl0, hx0, hn, hxb⟩ := id hT
  obtain ⟨p0, ⟨r0, r1, r2, r4, r5, r6⟩, ⟨t0, t1, t2, t4, t5, t6⟩, ⟨l0, l1, l2, l4, l5, l6⟩⟩ := id hsp
  intro k
  induction k with
  | zero =>
    intro i P fi p ts us zi hik hzi hs hip hpn hlen hr
    exact absurd hip (by omega)
  | succ k ih =>
    intro i P fi p ts us zi hik hzi hs hip hpn hlen hr
    refine wi_iload_3 ct_50_13 ?_
    refine wi_ic ct_50_14 kc_100 ?_
    refine wi_icge_f ct_50_16 hzi ki_100 (by omega) ?_
    refine wi_aload_0 ct_50_19 ?_
    refine wi_ic ct_50_20 kc_124 ?_
    refine wi_cv1 (ls' := [some _, some _]) ct_50_22 (Nat.le_of_ble_eq_true rfl) (by decide) (sT_17 hS) rfl (by decide) rfl rfl (Nat.le_of_ble_eq_true rfl) ?_
    obtain ⟨hlt1, hxt1⟩ := CS.tx hT hs
    refine c_pass hS hs.1 hlt1 hxt1 hn hxb (by omega) ki_124 (fun hz2 fz2 hfz2 => wk_i ?_) (fun hz2 => wk_i ?_)
    · skip
      have hsz2 := hs.pf ⟨d72, d724, d725, d726⟩ hfz2
      have hpnz2 := pk_n (by decide) hz2
      refine wi_ifeq_f ct_50_25 ki_1 (by decide) ?_
      refine wi_aload_0 ct_50_28 ?_
      refine wi_aload_1 ct_50_29 ?_
      refine wi_iload_2 ct_50_30 ?_
      refine wi_cv2 (ls' := [some _, some _, some _, none]) ct_50_31 (Nat.le_of_ble_eq_true rfl) (by decide) (sT_17 hS) rfl (by decide) rfl rfl (Nat.le_of_ble_eq_true rfl) ?_
      refine hf _ _ ((p + 1)) _ hsz2 (by omega) (by omega) ⟨fun er3 fr3 hsr3 => wk_i ?_, fun er3 fr3 hcr3 hpr3 => wk_i ?_⟩
      · skip
        refine wi_ifne_t ct_50_34 ki_1 (by decide) ?_
        refine wi_aload_1 ct_50_39 ?_
        refine wi_ic ct_50_40 kc_8 ?_
        refine wi_ic ct_50_42 kc_0 ?_
        refine wi_ic ct_50_43 kc_0 ?_
        refine wi_cv3 (ls' := [some _, some _, some _, some _]) ct_50_44 (Nat.le_of_ble_eq_true rfl) (by decide) p0 rfl (by decide) rfl rfl (Nat.le_of_ble_eq_true rfl) ?_
        obtain ⟨g1, g2, g3⟩ := hg (p + 1) (by omega)
        obtain ⟨g4, g5, -⟩ := g3 er3
        have hln : ((ts ++ us) ++ (f (p + 1)).2.2).length < 100 := by rw [List.length_append]; omega
        refine c_add (t := tkO) hT hsr3 hln (ki_8.trans rfl) ki_0 ki_0 (fun fa4 hsa4 => wk_v ?_)
        refine wi_iinc_3 rfl (z := (zi + 1)) ct_50_47 (by rw [kc_1]) ?_
        refine wi_goto ct_50_50 ?_
        refine ih (i + 1) P _ _ ts (us ++ (f (p + 1)).2.2 ++ [tkO]) _ (by omega) ((i_add hzi ki_1 (by omega)).trans (by omega)) ?_ (by omega) g2 ?_ (hr.congr ((rLp_c hz2).trans (if_pos er3)))
        · rw [show ts ++ (us ++ (f (p + 1)).2.2 ++ [tkO]) = ts ++ us ++ (f (p + 1)).2.2 ++ [tkO] by simp only [List.append_assoc]]
          exact hsa4
        · simp only [List.length_append, List.length_cons, List.length_nil] at hlen ⊢
          omega
      · skip
        refine wi_ifne_f ct_50_34 ki_0 (by decide) ?_
        refine wi_ic ct_50_37 kc_0 ?_
        refine wi_iret ct_50_38 (by decide) ?_
        exact (hr.congr ((rLp_c hz2).trans (if_neg (by rw [er3]; decide)))).2 rfl _ hcr3 hpr3
    · skip
      refine wi_ifeq_t ct_50_25 ki_0 (by decide) ?_
      refine wi_ic ct_50_53 kc_1 ?_
      refine wi_iret ct_50_54 (by decide) ?_
      exact (hr.congr (rLp_n hz2)).1 rfl _ hs
theorem c_seq50 {L n : Nat} {g : am_G} {fl : am_L} {q a0 a1 a2 a4 a5 a6 : Nat} {fi0 : am_I} {X : Nat → Int} {d wd : Nat} {f : Nat → rd_T} {dep : Int32} (hT : TXC L g fi0 q a0 a1 a2 a4 a5 a6 X n) (hf : CM (d + 1) 51 g fl q a4 a5 a6 n fi0 [some (.ref 17), some (.ref q), some (.int dep), none] f) (hg : ∀ p, p ≤ n → gd n wd p (f p)) : CM (d + 2) 50 g fl q a4 a5 a6 n fi0 [some (.ref 17), some (.ref q), some (.int dep), none] (rSq X n f 124 tkO) := by
  obtain ⟨hS, hsp, ⟨d72, d724, d725, d726⟩, ⟨nq4, nq5, nq6, n45, n46, n56⟩, hl0, hx0, hn, hxb⟩ := id hT
  obtain ⟨p0, ⟨r0, r1, r2, r4, r5, r6⟩, ⟨t0, t1, t2, t4, t5, t6⟩, ⟨l0, l1, l2, l4, l5, l6⟩⟩ := id hsp
  intro P fi p ts hs hpn hlen hr
  refine wi_aload_0 ct_50_0 ?_
  refine wi_aload_1 ct_50_1 ?_
  refine wi_iload_2 ct_50_2 ?_
  refine wi_cv2 (ls' := [some _, some _, some _, none]) ct_50_3 (Nat.le_of_ble_eq_true rfl) (by decide) (sT_17 hS) rfl (by decide) rfl rfl (Nat.le_of_ble_eq_true rfl) ?_
  refine hf _ _ (p) _ hs (by omega) hlen ⟨fun er1 fr1 hsr1 => wk_i ?_, fun er1 fr1 hcr1 hpr1 => wk_i ?_⟩
  · skip
    refine wi_ifne_t ct_50_6 ki_1 (by decide) ?_
    refine wi_ic ct_50_11 kc_0 ?_
    refine wi_istore_3 rfl ct_50_12 ?_
    obtain ⟨g1, g2, g3⟩ := hg p hpn
    obtain ⟨g4, g5, -⟩ := g3 er1
    exact vl_seq50 hT hf hg 100 0 P _ _ ts (f p).2.2 _ (by omega) (ki_0.trans rfl) hsr1 (by omega) g2 (by rw [List.length_append]; omega) (hr.congr (if_pos er1))
  · skip
    refine wi_ifne_f ct_50_6 ki_0 (by decide) ?_
    refine wi_ic ct_50_9 kc_0 ?_
    refine wi_iret ct_50_10 (by decide) ?_
    exact (hr.congr (if_neg (by rw [er1]; decide))).2 rfl _ hcr1 hpr1
set_option maxHeartbeats 1000000 in
theorem c_part {L n : Nat} {g : am_G} {fl : am_L} {q a0 a1 a2 a4 a5 a6 : Nat} {fi0 : am_I} {X : Nat → Int} (hT : TXC L g fi0 q a0 a1 a2 a4 a5 a6 X n) : ∀ (m D : Nat) (dep : Int32), m ≤ 4 → 9 + 3 * m ≤ D → dep.toInt = 4 - (m : Int) → CM D 52 g fl q a4 a5 a6 n fi0 [some (.ref 17), some (.ref q), some (.int dep), none] (rP X n m) := by
  obtain ⟨hS, hsp, ⟨d72, d724, d725, d726⟩, ⟨nq4, nq5, nq6, n45, n46, n56⟩, hl0, hx0, hn, hxb⟩ := id hT
  obtain ⟨p0, ⟨r0, r1, r2, r4, r5, r6⟩, ⟨t0, t1, t2, t4, t5, t6⟩, ⟨l0, l1, l2, l4, l5, l6⟩⟩ := id hsp
  intro m
  induction m with
  | zero =>
    intro D dep hm hD hdep P fi p ts hs hpn hlen hr
    obtain ⟨d, rfl⟩ : ∃ d, D = d + 9 := ⟨D - 9, by omega⟩
    have hd0 : dep.toInt = 4 := hdep.trans (by omega)
    refine wi_aload_0 ct_52_0 ?_
    refine wi_cv0 (ls' := [some _]) ct_52_1 (Nat.le_of_ble_eq_true rfl) (by decide) (sT_17 hS) rfl (by decide) rfl rfl (Nat.le_of_ble_eq_true rfl) ?_
    obtain ⟨hlt1, hxt1⟩ := CS.tx hT hs
    refine c_peek hS hs.1 hlt1 hxt1 hn hxb (fun z2 hz2 => wk_i ?_)
    have hbz2 := pk_bd hxb (p := p)
    refine wi_istore_3 rfl ct_52_4 ?_
    refine wi_iload_3 ct_52_5 ?_
    refine wi_ic ct_52_6 kc_33 ?_
    refine wi_iceq ct_52_8 hz2 ki_33 (fun h3 => ?_) (fun h3 => ?_)
    · skip
      refine wi_iload_2 ct_52_23 ?_
      refine wi_ic ct_52_24 kc_4 ?_
      refine wi_iclt_f ct_52_25 hd0 ki_4 (by decide) ?_
      refine wi_ic ct_52_28 kc_0 ?_
      refine wi_iret ct_52_29 (by decide) ?_
      exact (hr.congr (rP_0 (by omega))).2 rfl _ hs.2.2.2 hs.1
    · skip
      refine wi_iload_3 ct_52_11 ?_
      refine wi_ic ct_52_12 kc_40 ?_
      refine wi_iceq ct_52_14 hz2 ki_40 (fun h4 => ?_) (fun h4 => ?_)
      · skip
        refine wi_iload_2 ct_52_23 ?_
        refine wi_ic ct_52_24 kc_4 ?_
        refine wi_iclt_f ct_52_25 hd0 ki_4 (by decide) ?_
        refine wi_ic ct_52_28 kc_0 ?_
        refine wi_iret ct_52_29 (by decide) ?_
        exact (hr.congr (rP_0 (by omega))).2 rfl _ hs.2.2.2 hs.1
      · skip
        refine wi_aload_0 ct_52_17 ?_
        refine wi_aload_1 ct_52_18 ?_
        refine wi_cv1 (ls' := [some _, some _, none, none, none]) ct_52_19 (Nat.le_of_ble_eq_true rfl) (by decide) (sT_17 hS) rfl (by decide) rfl rfl (Nat.le_of_ble_eq_true rfl) ?_
        refine c_test hT (by omega) _ _ (p) _ hs (by omega) hlen ⟨fun er5 fr5 hsr5 => wk_i ?_, fun er5 fr5 hcr5 hpr5 => wk_i ?_⟩
        · skip
          refine wi_iret ct_52_22 (by decide) ?_
          exact (hr.congr (rP_t ⟨by omega, by omega⟩)).1 er5 _ hsr5
        · skip
          refine wi_iret ct_52_22 (by decide) ?_
          exact (hr.congr (rP_t ⟨by omega, by omega⟩)).2 er5 _ hcr5 hpr5
  | succ m ih =>
    intro D dep hm hD hdep P fi p ts hs hpn hlen hr
    obtain ⟨d, rfl⟩ : ∃ d, D = d + 12 := ⟨D - 12, by omega⟩
    have hd0 : dep.toInt = 3 - (m : Int) := hdep.trans (by omega)
    refine wi_aload_0 ct_52_0 ?_
    refine wi_cv0 (ls' := [some _]) ct_52_1 (Nat.le_of_ble_eq_true rfl) (by decide) (sT_17 hS) rfl (by decide) rfl rfl (Nat.le_of_ble_eq_true rfl) ?_
    obtain ⟨hlt6, hxt6⟩ := CS.tx hT hs
    refine c_peek hS hs.1 hlt6 hxt6 hn hxb (fun z7 hz7 => wk_i ?_)
    have hbz7 := pk_bd hxb (p := p)
    refine wi_istore_3 rfl ct_52_4 ?_
    refine wi_iload_3 ct_52_5 ?_
    refine wi_ic ct_52_6 kc_33 ?_
    refine wi_iceq ct_52_8 hz7 ki_33 (fun h8 => ?_) (fun h8 => ?_)
    · skip
      refine wi_iload_2 ct_52_23 ?_
      refine wi_ic ct_52_24 kc_4 ?_
      refine wi_iclt_t ct_52_25 hd0 ki_4 (by omega) ?_
      refine wi_aload_0 ct_52_30 ?_
      refine wi_dup ct_52_31 rfl ?_
      refine wi_gf (x := fi 17 2) ct_52_32 (sT_17 hS) rfl rfl rfl ?_
      refine wi_ic ct_52_35 kc_1 ?_
      refine wi_iadd ct_52_36 rfl ?_
      refine wi_pf ct_52_37 (sT_17 hS) rfl ?_
      refine wi_iload_3 ct_52_40 ?_
      refine wi_ic ct_52_41 kc_40 ?_
      refine wi_icne_t ct_52_43 hz7 ki_40 (by omega) ?_
      refine wi_aload_0 ct_52_72 ?_
      refine wi_aload_1 ct_52_73 ?_
      refine wi_iload_2 ct_52_74 ?_
      refine wi_ic ct_52_75 kc_1 ?_
      refine wi_iadd ct_52_76 rfl ?_
      refine wi_cv2 (ls' := [some _, some _, some _, none]) ct_52_77 (Nat.le_of_ble_eq_true rfl) (by decide) (sT_17 hS) rfl (by decide) rfl rfl (Nat.le_of_ble_eq_true rfl) ?_
      have hsi9 := hs.pf ⟨d72, d724, d725, d726⟩ (PF.up (i_add hs.1 ki_1 (by omega)))
      have hpn1 := pk_n (by decide) (show pk X n p = 33 by omega)
      refine ih (d + 11) (dep + 1) (by omega) (by omega) ((i_add hd0 ki_1 (by omega)).trans (by omega)) _ _ ((p + 1)) _ hsi9 (by omega) (by omega) ⟨fun er10 fr10 hsr10 => wk_i ?_, fun er10 fr10 hcr10 hpr10 => wk_i ?_⟩
      · skip
        refine wi_ifne_t ct_52_80 ki_1 (by decide) ?_
        refine wi_aload_1 ct_52_85 ?_
        refine wi_ic ct_52_86 kc_6 ?_
        refine wi_ic ct_52_88 kc_0 ?_
        refine wi_ic ct_52_89 kc_0 ?_
        refine wi_cv3 (ls' := [some _, some _, some _, some _]) ct_52_90 (Nat.le_of_ble_eq_true rfl) (by decide) p0 rfl (by decide) rfl rfl (Nat.le_of_ble_eq_true rfl) ?_
        obtain ⟨g1, g2, g3⟩ := rP_gd X n m (p + 1) (by omega)
        obtain ⟨g4, g5, -⟩ := g3 er10
        have hln : (ts ++ (rP X n m (p + 1)).2.2).length < 100 := by rw [List.length_append]; omega
        refine c_add (t := tkN) hT hsr10 hln (ki_6.trans rfl) ki_0 ki_0 (fun fa11 hsa11 => wk_v ?_)
        refine wi_ic ct_52_93 kc_1 ?_
        refine wi_iret ct_52_94 (by decide) ?_
        refine (hr.congr ((rP_s2 (by omega)).trans (if_pos er10))).1 rfl _ ?_
        show CS q a4 a5 a6 fi0 _ _ (ts ++ ((rP X n m (p + 1)).2.2 ++ [tkN]))
        rw [← List.append_assoc]
        exact hsa11
      · skip
        refine wi_ifne_f ct_52_80 ki_0 (by decide) ?_
        refine wi_ic ct_52_83 kc_0 ?_
        refine wi_iret ct_52_84 (by decide) ?_
        exact (hr.congr ((rP_s2 (by omega)).trans (if_neg (by rw [er10]; decide)))).2 rfl _ hcr10 hpr10
    · skip
      refine wi_iload_3 ct_52_11 ?_
      refine wi_ic ct_52_12 kc_40 ?_
      refine wi_iceq ct_52_14 hz7 ki_40 (fun h12 => ?_) (fun h12 => ?_)
      · skip
        refine wi_iload_2 ct_52_23 ?_
        refine wi_ic ct_52_24 kc_4 ?_
        refine wi_iclt_t ct_52_25 hd0 ki_4 (by omega) ?_
        refine wi_aload_0 ct_52_30 ?_
        refine wi_dup ct_52_31 rfl ?_
        refine wi_gf (x := fi 17 2) ct_52_32 (sT_17 hS) rfl rfl rfl ?_
        refine wi_ic ct_52_35 kc_1 ?_
        refine wi_iadd ct_52_36 rfl ?_
        refine wi_pf ct_52_37 (sT_17 hS) rfl ?_
        refine wi_iload_3 ct_52_40 ?_
        refine wi_ic ct_52_41 kc_40 ?_
        refine wi_icne_f ct_52_43 hz7 ki_40 (by omega) ?_
        refine wi_aload_0 ct_52_46 ?_
        refine wi_aload_1 ct_52_47 ?_
        refine wi_iload_2 ct_52_48 ?_
        refine wi_ic ct_52_49 kc_1 ?_
        refine wi_iadd ct_52_50 rfl ?_
        refine wi_cv2 (ls' := [some _, some _, some _, none]) ct_52_51 (Nat.le_of_ble_eq_true rfl) (by decide) (sT_17 hS) rfl (by decide) rfl rfl (Nat.le_of_ble_eq_true rfl) ?_
        have hsi13 := hs.pf ⟨d72, d724, d725, d726⟩ (PF.up (i_add hs.1 ki_1 (by omega)))
        have hpn1 := pk_n (by decide) (show pk X n p = 40 by omega)
        have hE : CM (d + 9 + 2) 50 g fl q a4 a5 a6 n fi0 [some (.ref 17), some (.ref q), some (.int (dep + 1)), none] (rE X n m) := c_seq50 (f := rB X n m) hT (c_seq51 (f := rP X n m) hT (ih (d + 9) (dep + 1) (by omega) (by omega) ((i_add hd0 ki_1 (by omega)).trans (by omega))) (rP_gd X n m)) (rB_gd X n m)
        refine hE _ _ ((p + 1)) _ hsi13 (by omega) (by omega) ⟨fun er14 fr14 hsr14 => wk_i ?_, fun er14 fr14 hcr14 hpr14 => wk_i ?_⟩
        · skip
          refine wi_ifeq_f ct_52_54 ki_1 (by decide) ?_
          refine wi_aload_0 ct_52_57 ?_
          refine wi_ic ct_52_58 kc_41 ?_
          refine wi_cv1 (ls' := [some _, some _]) ct_52_60 (Nat.le_of_ble_eq_true rfl) (by decide) (sT_17 hS) rfl (by decide) rfl rfl (Nat.le_of_ble_eq_true rfl) ?_
          obtain ⟨g1, g2, g3⟩ := rE_gd X n m (p + 1) (by omega)
          obtain ⟨g4, g5, -⟩ := g3 er14
          obtain ⟨hlt15, hxt15⟩ := CS.tx hT hsr14
          refine c_pass hS hsr14.1 hlt15 hxt15 hn hxb (by omega) ki_41 (fun hz16 fz16 hfz16 => wk_i ?_) (fun hz16 => wk_i ?_)
          · skip
            have hsz16 := hsr14.pf ⟨d72, d724, d725, d726⟩ hfz16
            have hpnz16 := pk_n (by decide) hz16
            refine wi_ifeq_f ct_52_63 ki_1 (by decide) ?_
            refine wi_ic ct_52_66 kc_1 ?_
            refine wi_goto ct_52_67 ?_
            refine wi_iret ct_52_71 (by decide) ?_
            exact (hr.congr ((rP_s1 (by omega)).trans ((if_pos er14).trans (if_pos hz16)))).1 rfl _ hsz16
          · skip
            refine wi_ifeq_t ct_52_63 ki_0 (by decide) ?_
            refine wi_ic ct_52_70 kc_0 ?_
            refine wi_iret ct_52_71 (by decide) ?_
            exact (hr.congr ((rP_s1 (by omega)).trans ((if_pos er14).trans (if_neg hz16)))).2 rfl _ hsr14.2.2.2 hsr14.1
        · skip
          refine wi_ifeq_t ct_52_54 ki_0 (by decide) ?_
          refine wi_ic ct_52_70 kc_0 ?_
          refine wi_iret ct_52_71 (by decide) ?_
          exact (hr.congr ((rP_s1 (by omega)).trans (if_neg (by rw [er14]; decide)))).2 rfl _ hcr14 hpr14
      · skip
        refine wi_aload_0 ct_52_17 ?_
        refine wi_aload_1 ct_52_18 ?_
        refine wi_cv1 (ls' := [some _, some _, none, none, none]) ct_52_19 (Nat.le_of_ble_eq_true rfl) (by decide) (sT_17 hS) rfl (by decide) rfl rfl (Nat.le_of_ble_eq_true rfl) ?_
        refine c_test hT (by omega) _ _ (p) _ hs (by omega) hlen ⟨fun er17 fr17 hsr17 => wk_i ?_, fun er17 fr17 hcr17 hpr17 => wk_i ?_⟩
        · skip
          refine wi_iret ct_52_22 (by decide) ?_
          exact (hr.congr (rP_t ⟨by omega, by omega⟩)).1 er17 _ hsr17
        · skip
          refine wi_iret ct_52_22 (by decide) ?_
          exact (hr.congr (rP_t ⟨by omega, by omega⟩)).2 er17 _ hcr17 hpr17
