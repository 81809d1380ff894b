/-! A State copied. -/
def STp (g : am_G) (s s0 s2 s5 s6 s7 s9 s10 : Nat) : Prop := g.1 s = 7 ∧ (g.2.2.1 s 0 = some s0 ∧ g.2.2.1 s 2 = some s2 ∧ g.2.2.1 s 5 = some s5 ∧ g.2.2.1 s 6 = some s6 ∧ g.2.2.1 s 7 = some s7 ∧ g.2.2.1 s 9 = some s9 ∧ g.2.2.1 s 10 = some s10) ∧ (g.1 s0 = 24 ∧ g.1 s2 = 20 ∧ g.1 s5 = 20 ∧ g.1 s6 = 20 ∧ g.1 s7 = 20 ∧ g.1 s9 = 20 ∧ g.1 s10 = 23) ∧ (g.2.1 s0 = 5 ∧ g.2.1 s2 = 4 ∧ g.2.1 s5 = 6 ∧ g.2.1 s6 = 6 ∧ g.2.1 s7 = 6 ∧ g.2.1 s9 = 12 ∧ g.2.1 s10 = 12)
def OWn (ow : Nat → Nat) (t s s0 s2 s5 s6 s7 s9 s10 : Nat) : Prop := ow s = t + 0 ∧ ow s0 = t + 1 ∧ ow s2 = t + 2 ∧ ow s5 = t + 3 ∧ ow s6 = t + 4 ∧ ow s7 = t + 5 ∧ ow s9 = t + 6 ∧ ow s10 = t + 7
theorem ne_w {ow : Nat → Nat} {x y a b : Nat} (h1 : ow x = a) (h2 : ow y = b) (h : a ≠ b) : x ≠ y := fun e => h (by rw [← h1, ← h2, e])
theorem ne_tt {t i j : Nat} (h : i ≠ j) : t + i ≠ t + j := by omega
theorem ne_tu {t u i j : Nat} (h : t + 8 ≤ u ∨ u + 8 ≤ t) (hi : i < 8) (hj : j < 8) : t + i ≠ u + j := by omega
theorem ne_ut {t u i j : Nat} (h : t + 8 ≤ u ∨ u + 8 ≤ t) (hi : i < 8) (hj : j < 8) : u + i ≠ t + j := by omega
theorem cp0 {α : Type} {f : Nat → Nat → α} {a0 a1 n j : Nat} (h : j < n) : cp2 f a0 a1 0 0 n a1 j = f a0 j := by
  unfold cp2
  rw [if_pos ⟨rfl, by omega, by omega⟩]
  congr 1
  omega
theorem cp3 {α : Type} {f : Nat → Nat → α} {a0 a1 sp dp n j : Nat} (h : j < n) : cp2 f a0 a1 sp dp n a1 (dp + j) = f a0 (sp + j) := by
  unfold cp2
  rw [if_pos ⟨rfl, by omega, by omega⟩]
  congr 1
  omega
def RW5 (g g2 : am_G) (s0 o0 : Nat) : Prop := (g2.1 = g.1 ∧ g2.2.1 = g.2.1 ∧ g2.2.2.2 = g.2.2.2) ∧ (∀ i, i < 5 → g2.2.2.1 s0 i = g.2.2.1 o0 i) ∧ ∀ q j, (q ≠ s0 ∨ 5 ≤ j) → g2.2.2.1 q j = g.2.2.1 q j
def CPY (fi fi2 : am_I) (s s2 s5 s6 s7 s9 s10 o o2 o5 o6 o7 o9 o10 : Nat) : Prop := (fi2 s 1 = fi o 1 ∧ fi2 s 3 = fi o 3 ∧ fi2 s 4 = fi o 4 ∧ fi2 s 8 = fi o 8 ∧ fi2 s 11 = fi o 11) ∧ (∀ j, j < 4 → fi2 s2 j = fi o2 j) ∧ (∀ j, j < 6 → fi2 s5 j = fi o5 j) ∧ (∀ j, j < 6 → fi2 s6 j = fi o6 j) ∧ (∀ j, j < 6 → fi2 s7 j = fi o7 j) ∧ (∀ j, j < 12 → fi2 s9 j = fi o9 j) ∧ (∀ j, j < 12 → fi2 s10 j = fi o10 j) ∧ ∀ q, ¬ (q = s ∨ q = s2 ∨ q = s5 ∨ q = s6 ∨ q = s7 ∨ q = s9 ∨ q = s10) → fi2 q = fi q
theorem vl_copyB {d s s0 s2 s5 s6 s7 s9 s10 o o0 o2 o5 o6 o7 o9 o10 : Nat} {g : am_G} {fi : am_I} {fl : am_L} {P : Option Value → am_G → am_I → am_L → Prop} {ow : Nat → Nat} {t u : Nat} (hs : STp g s s0 s2 s5 s6 s7 s9 s10) (ho : STp g o o0 o2 o5 o6 o7 o9 o10) (ws : OWn ow t s s0 s2 s5 s6 s7 s9 s10) (wo : OWn ow u o o0 o2 o5 o6 o7 o9 o10) (htu : t + 8 ≤ u ∨ u + 8 ≤ t) (hn : ∀ i, i < 5 → g.2.2.1 o0 i = none ∨ ∃ p, g.2.2.1 o0 i = some p ∧ am_sub (g.1 p) 0 = true) (kk : ∀ g2 zi, RW5 g g2 s0 o0 → WP d 39 25 [some (.ref s), some (.ref o), some (.int zi)] [] g2 fi fl P) : ∀ (n k : Nat) (g2 : am_G) (zi : Int32), k + n = 5 → zi.toInt = (k : Int) → (g2.1 = g.1 ∧ g2.2.1 = g.2.1 ∧ g2.2.2.2 = g.2.2.2) → (∀ i, i < k → g2.2.2.1 s0 i = g.2.2.1 o0 i) → (∀ q j, (q ≠ s0 ∨ k ≤ j) → g2.2.2.1 q j = g.2.2.1 q j) → WP d 39 2 [some (.ref s), some (.ref o), some (.int zi)] [] g2 fi fl P := by
  obtain ⟨st, ⟨sr0, sr2, sr5, sr6, sr7, sr9, sr10⟩, ⟨st0, st2, st5, st6, st7, st9, st10⟩, ⟨sl0, sl2, sl5, sl6, sl7, sl9, sl10⟩⟩ := id hs
  obtain ⟨sw, sw0, sw2, sw5, sw6, sw7, sw9, sw10⟩ := id ws
  obtain ⟨ot, ⟨or0, or2, or5, or6, or7, or9, or10⟩, ⟨ot0, ot2, ot5, ot6, ot7, ot9, ot10⟩, ⟨ol0, ol2, ol5, ol6, ol7, ol9, ol10⟩⟩ := id ho
  obtain ⟨ow, ow0, ow2, ow5, ow6, ow7, ow9, ow10⟩ := id wo
  intro n
  induction n with
  | zero =>
    intro k g2 zi hkn hzi h1 h2 h3
    have hk5 : k = 5 := by omega
    subst hk5
    refine wi_iload_2 ct_39_2 ?_
    refine wi_ic ct_39_3 kc_5 ?_
    refine wi_icge_t ct_39_4 hzi ki_5 (by omega) ?_
    exact kk _ _ ⟨h1, h2, h3⟩
  | succ n ih =>
    intro k g2 zi hkn hzi h1 h2 h3
    rcases hn k (by omega) with ho1 | ⟨p, ho1, hp2⟩
    · skip
      refine wi_iload_2 ct_39_2 ?_
      refine wi_ic ct_39_3 kc_5 ?_
      refine wi_icge_f ct_39_4 hzi ki_5 (by omega) ?_
      refine wi_aload_0 ct_39_7 ?_
      refine wi_gfr ct_39_8 ((congrFun h1.1 _).trans st) rfl ((h3 _ _ (Or.inl (ne_w sw sw0 (ne_tt (by decide))))).trans sr0) ?_
      refine wi_iload_2 ct_39_11 ?_
      refine wi_aload_1 ct_39_12 ?_
      refine wi_gfr ct_39_13 ((congrFun h1.1 _).trans ot) rfl ((h3 _ _ (Or.inl (ne_w ow sw0 (ne_ut htu (by decide) (by decide))))).trans or0) ?_
      refine wi_iload_2 ct_39_16 ?_
      refine wi_aaldn ct_39_17 ((congrFun h1.1 _).trans ot0) (by decide) ((congrFun h1.2.1 _).trans ol0) (i_in hzi (by omega)) (i_cl (k := k) hzi (by omega)) ((h3 _ _ (Or.inl (ne_w ow0 sw0 (ne_ut htu (by decide) (by decide))))).trans ho1) ?_
      refine wi_aastn ct_39_18 (Or.inl ((congrFun h1.1 _).trans st0)) ((congrFun h1.2.1 _).trans sl0) (i_in hzi (by omega)) (i_cl (k := k) hzi (by omega)) ?_
      refine wi_iinc_2 rfl (z := (zi + 1)) ct_39_19 (by rw [kc_1]) ?_
      refine wi_goto ct_39_22 ?_
      exact ih (k + 1) _ _ (by omega) ((i_add hzi ki_1 (by omega)).trans (by omega)) h1 (fun i hi => by
        rcases Decidable.em (i = k) with e | e
        · rw [e]; exact gr_eq.trans ho1.symm
        · exact (gr_nj e).trans (h2 i (by omega))) (fun q j hq => (if_neg (by omega)).trans (h3 q j (by omega)))
    · skip
      have hp3 : am_sub (g2.1 p) 0 = true := by rw [h1.1]; exact hp2
      refine wi_iload_2 ct_39_2 ?_
      refine wi_ic ct_39_3 kc_5 ?_
      refine wi_icge_f ct_39_4 hzi ki_5 (by omega) ?_
      refine wi_aload_0 ct_39_7 ?_
      refine wi_gfr ct_39_8 ((congrFun h1.1 _).trans st) rfl ((h3 _ _ (Or.inl (ne_w sw sw0 (ne_tt (by decide))))).trans sr0) ?_
      refine wi_iload_2 ct_39_11 ?_
      refine wi_aload_1 ct_39_12 ?_
      refine wi_gfr ct_39_13 ((congrFun h1.1 _).trans ot) rfl ((h3 _ _ (Or.inl (ne_w ow sw0 (ne_ut htu (by decide) (by decide))))).trans or0) ?_
      refine wi_iload_2 ct_39_16 ?_
      refine wi_aald ct_39_17 ((congrFun h1.1 _).trans ot0) (by decide) ((congrFun h1.2.1 _).trans ol0) (i_in hzi (by omega)) (i_cl (k := k) hzi (by omega)) ((h3 _ _ (Or.inl (ne_w ow0 sw0 (ne_ut htu (by decide) (by decide))))).trans ho1) ?_
      refine wi_aast ct_39_18 (Or.inl ⟨((congrFun h1.1 _).trans st0), hp3⟩) ((congrFun h1.2.1 _).trans sl0) (i_in hzi (by omega)) (i_cl (k := k) hzi (by omega)) ?_
      refine wi_iinc_2 rfl (z := (zi + 1)) ct_39_19 (by rw [kc_1]) ?_
      refine wi_goto ct_39_22 ?_
      exact ih (k + 1) _ _ (by omega) ((i_add hzi ki_1 (by omega)).trans (by omega)) h1 (fun i hi => by
        rcases Decidable.em (i = k) with e | e
        · rw [e]; exact gr_eq.trans ho1.symm
        · exact (gr_nj e).trans (h2 i (by omega))) (fun q j hq => (if_neg (by omega)).trans (h3 q j (by omega)))
set_option maxHeartbeats 2000000 in
theorem c_copy {d s s0 s2 s5 s6 s7 s9 s10 o o0 o2 o5 o6 o7 o9 o10 : Nat} {g : am_G} {fi : am_I} {fl : am_L} {P : Option Value → am_G → am_I → am_L → Prop} {ow : Nat → Nat} {t u : Nat} (hs : STp g s s0 s2 s5 s6 s7 s9 s10) (ho : STp g o o0 o2 o5 o6 o7 o9 o10) (ws : OWn ow t s s0 s2 s5 s6 s7 s9 s10) (wo : OWn ow u o o0 o2 o5 o6 o7 o9 o10) (htu : t + 8 ≤ u ∨ u + 8 ≤ t) (hn : ∀ i, i < 5 → g.2.2.1 o0 i = none ∨ ∃ p, g.2.2.1 o0 i = some p ∧ am_sub (g.1 p) 0 = true) (hb : ∀ j, j < 12 → am_bit (fi o10 j) = true) (kk : ∀ g2 fi2, RW5 g g2 s0 o0 → CPY fi fi2 s s2 s5 s6 s7 s9 s10 o o2 o5 o6 o7 o9 o10 → P none g2 fi2 fl) : WP (d + 2) 39 0 [some (.ref s), some (.ref o), none] [] g fi fl P := by
  refine wi_ic ct_39_0 kc_0 ?_
  refine wi_istore_2 rfl ct_39_1 ?_
  refine vl_copyB hs ho ws wo htu hn (fun g2 zi hrw => ?_) 5 0 _ _ (by omega) (ki_0.trans rfl) ⟨rfl, rfl, rfl⟩ (fun i hi => absurd hi (by omega)) (fun _ _ _ => rfl)
  obtain ⟨st, ⟨sr0, sr2, sr5, sr6, sr7, sr9, sr10⟩, ⟨st0, st2, st5, st6, st7, st9, st10⟩, ⟨sl0, sl2, sl5, sl6, sl7, sl9, sl10⟩⟩ := id hs
  obtain ⟨sw, sw0, sw2, sw5, sw6, sw7, sw9, sw10⟩ := id ws
  obtain ⟨ot, ⟨or0, or2, or5, or6, or7, or9, or10⟩, ⟨ot0, ot2, ot5, ot6, ot7, ot9, ot10⟩, ⟨ol0, ol2, ol5, ol6, ol7, ol9, ol10⟩⟩ := id ho
  obtain ⟨ow, ow0, ow2, ow5, ow6, ow7, ow9, ow10⟩ := id wo
  refine wi_aload_0 ct_39_25 ?_
  refine wi_aload_1 ct_39_26 ?_
  refine wi_gf (x := fi o 1) ct_39_27 ((congrFun hrw.1.1 _).trans ot) rfl rfl rfl ?_
  refine wi_pf ct_39_30 ((congrFun hrw.1.1 _).trans st) rfl ?_
  refine wi_aload_1 ct_39_33 ?_
  refine wi_gfr ct_39_34 ((congrFun hrw.1.1 _).trans ot) rfl ((hrw.2.2 _ _ (Or.inl (ne_w ow sw0 (ne_ut htu (by decide) (by decide))))).trans or2) ?_
  refine wi_ic ct_39_37 kc_0 ?_
  refine wi_aload_0 ct_39_38 ?_
  refine wi_gfr ct_39_39 ((congrFun hrw.1.1 _).trans st) rfl ((hrw.2.2 _ _ (Or.inl (ne_w sw sw0 (ne_tt (by decide))))).trans sr2) ?_
  refine wi_ic ct_39_42 kc_0 ?_
  refine wi_aload_0 ct_39_43 ?_
  refine wi_gfr ct_39_44 ((congrFun hrw.1.1 _).trans st) rfl ((hrw.2.2 _ _ (Or.inl (ne_w sw sw0 (ne_tt (by decide))))).trans sr2) ?_
  refine wi_len (z := 4) ct_39_47 ((congrFun hrw.1.1 _).trans st2) (by decide) ((congrFun hrw.1.2.1 _).trans sl2) (by decide) ?_
  refine wi_copyI ct_39_48 (Nat.le_of_ble_eq_true rfl) ((congrFun hrw.1.1 _).trans ot2) ((congrFun hrw.1.1 _).trans st2) ((congrFun hrw.1.2.1 _).trans ol2) ((congrFun hrw.1.2.1 _).trans sl2) (by decide : _ = 0) (by decide : _ = 0) (by decide : _ = 4) ⟨by decide, by decide, by decide⟩ ⟨by decide, by decide⟩ ?_
  refine wi_aload_0 ct_39_51 ?_
  refine wi_aload_1 ct_39_52 ?_
  refine wi_gf (x := fi o 3) ct_39_53 ((congrFun hrw.1.1 _).trans ot) rfl rfl (Eq.trans (cp2_nq (ne_w ow sw2 (ne_ut htu (by decide) (by decide)))) (up2_nq (ne_w ow sw (ne_ut htu (by decide) (by decide))))) ?_
  refine wi_pf ct_39_56 ((congrFun hrw.1.1 _).trans st) rfl ?_
  refine wi_aload_0 ct_39_59 ?_
  refine wi_aload_1 ct_39_60 ?_
  refine wi_gf (x := fi o 4) ct_39_61 ((congrFun hrw.1.1 _).trans ot) rfl rfl (Eq.trans (up2_nq (ne_w ow sw (ne_ut htu (by decide) (by decide)))) (Eq.trans (cp2_nq (ne_w ow sw2 (ne_ut htu (by decide) (by decide)))) (up2_nq (ne_w ow sw (ne_ut htu (by decide) (by decide)))))) ?_
  refine wi_pf ct_39_64 ((congrFun hrw.1.1 _).trans st) rfl ?_
  refine wi_aload_1 ct_39_67 ?_
  refine wi_gfr ct_39_68 ((congrFun hrw.1.1 _).trans ot) rfl ((hrw.2.2 _ _ (Or.inl (ne_w ow sw0 (ne_ut htu (by decide) (by decide))))).trans or5) ?_
  refine wi_ic ct_39_71 kc_0 ?_
  refine wi_aload_0 ct_39_72 ?_
  refine wi_gfr ct_39_73 ((congrFun hrw.1.1 _).trans st) rfl ((hrw.2.2 _ _ (Or.inl (ne_w sw sw0 (ne_tt (by decide))))).trans sr5) ?_
  refine wi_ic ct_39_76 kc_0 ?_
  refine wi_ic ct_39_77 kc_6 ?_
  refine wi_copyI ct_39_79 (Nat.le_of_ble_eq_true rfl) ((congrFun hrw.1.1 _).trans ot5) ((congrFun hrw.1.1 _).trans st5) ((congrFun hrw.1.2.1 _).trans ol5) ((congrFun hrw.1.2.1 _).trans sl5) (by decide : _ = 0) (by decide : _ = 0) (by decide : _ = 6) ⟨by decide, by decide, by decide⟩ ⟨by decide, by decide⟩ ?_
  refine wi_aload_1 ct_39_82 ?_
  refine wi_gfr ct_39_83 ((congrFun hrw.1.1 _).trans ot) rfl ((hrw.2.2 _ _ (Or.inl (ne_w ow sw0 (ne_ut htu (by decide) (by decide))))).trans or6) ?_
  refine wi_ic ct_39_86 kc_0 ?_
  refine wi_aload_0 ct_39_87 ?_
  refine wi_gfr ct_39_88 ((congrFun hrw.1.1 _).trans st) rfl ((hrw.2.2 _ _ (Or.inl (ne_w sw sw0 (ne_tt (by decide))))).trans sr6) ?_
  refine wi_ic ct_39_91 kc_0 ?_
  refine wi_ic ct_39_92 kc_6 ?_
  refine wi_copyI ct_39_94 (Nat.le_of_ble_eq_true rfl) ((congrFun hrw.1.1 _).trans ot6) ((congrFun hrw.1.1 _).trans st6) ((congrFun hrw.1.2.1 _).trans ol6) ((congrFun hrw.1.2.1 _).trans sl6) (by decide : _ = 0) (by decide : _ = 0) (by decide : _ = 6) ⟨by decide, by decide, by decide⟩ ⟨by decide, by decide⟩ ?_
  refine wi_aload_1 ct_39_97 ?_
  refine wi_gfr ct_39_98 ((congrFun hrw.1.1 _).trans ot) rfl ((hrw.2.2 _ _ (Or.inl (ne_w ow sw0 (ne_ut htu (by decide) (by decide))))).trans or7) ?_
  refine wi_ic ct_39_101 kc_0 ?_
  refine wi_aload_0 ct_39_102 ?_
  refine wi_gfr ct_39_103 ((congrFun hrw.1.1 _).trans st) rfl ((hrw.2.2 _ _ (Or.inl (ne_w sw sw0 (ne_tt (by decide))))).trans sr7) ?_
  refine wi_ic ct_39_106 kc_0 ?_
  refine wi_ic ct_39_107 kc_6 ?_
  refine wi_copyI ct_39_109 (Nat.le_of_ble_eq_true rfl) ((congrFun hrw.1.1 _).trans ot7) ((congrFun hrw.1.1 _).trans st7) ((congrFun hrw.1.2.1 _).trans ol7) ((congrFun hrw.1.2.1 _).trans sl7) (by decide : _ = 0) (by decide : _ = 0) (by decide : _ = 6) ⟨by decide, by decide, by decide⟩ ⟨by decide, by decide⟩ ?_
  refine wi_aload_0 ct_39_112 ?_
  refine wi_aload_1 ct_39_113 ?_
  refine wi_gf (x := fi o 8) ct_39_114 ((congrFun hrw.1.1 _).trans ot) rfl rfl (Eq.trans (cp2_nq (ne_w ow sw7 (ne_ut htu (by decide) (by decide)))) (Eq.trans (cp2_nq (ne_w ow sw6 (ne_ut htu (by decide) (by decide)))) (Eq.trans (cp2_nq (ne_w ow sw5 (ne_ut htu (by decide) (by decide)))) (Eq.trans (up2_nq (ne_w ow sw (ne_ut htu (by decide) (by decide)))) (Eq.trans (up2_nq (ne_w ow sw (ne_ut htu (by decide) (by decide)))) (Eq.trans (cp2_nq (ne_w ow sw2 (ne_ut htu (by decide) (by decide)))) (up2_nq (ne_w ow sw (ne_ut htu (by decide) (by decide)))))))))) ?_
  refine wi_pf ct_39_117 ((congrFun hrw.1.1 _).trans st) rfl ?_
  refine wi_aload_1 ct_39_120 ?_
  refine wi_gfr ct_39_121 ((congrFun hrw.1.1 _).trans ot) rfl ((hrw.2.2 _ _ (Or.inl (ne_w ow sw0 (ne_ut htu (by decide) (by decide))))).trans or9) ?_
  refine wi_ic ct_39_124 kc_0 ?_
  refine wi_aload_0 ct_39_125 ?_
  refine wi_gfr ct_39_126 ((congrFun hrw.1.1 _).trans st) rfl ((hrw.2.2 _ _ (Or.inl (ne_w sw sw0 (ne_tt (by decide))))).trans sr9) ?_
  refine wi_ic ct_39_129 kc_0 ?_
  refine wi_ic ct_39_130 kc_12 ?_
  refine wi_copyI ct_39_132 (Nat.le_of_ble_eq_true rfl) ((congrFun hrw.1.1 _).trans ot9) ((congrFun hrw.1.1 _).trans st9) ((congrFun hrw.1.2.1 _).trans ol9) ((congrFun hrw.1.2.1 _).trans sl9) (by decide : _ = 0) (by decide : _ = 0) (by decide : _ = 12) ⟨by decide, by decide, by decide⟩ ⟨by decide, by decide⟩ ?_
  refine wi_aload_1 ct_39_135 ?_
  refine wi_gfr ct_39_136 ((congrFun hrw.1.1 _).trans ot) rfl ((hrw.2.2 _ _ (Or.inl (ne_w ow sw0 (ne_ut htu (by decide) (by decide))))).trans or10) ?_
  refine wi_ic ct_39_139 kc_0 ?_
  refine wi_aload_0 ct_39_140 ?_
  refine wi_gfr ct_39_141 ((congrFun hrw.1.1 _).trans st) rfl ((hrw.2.2 _ _ (Or.inl (ne_w sw sw0 (ne_tt (by decide))))).trans sr10) ?_
  refine wi_ic ct_39_144 kc_0 ?_
  refine wi_ic ct_39_145 kc_12 ?_
  have hbz : ∀ i, i < 12 → am_bit ((cp2 (up2 (cp2 (cp2 (cp2 (up2 (up2 (cp2 (up2 fi s 1 (fi o 1)) o2 s2 0 0 4) s 3 (fi o 3)) s 4 (fi o 4)) o5 s5 0 0 6) o6 s6 0 0 6) o7 s7 0 0 6) s 8 (fi o 8)) o9 s9 0 0 12) o10 (0 + i)) = true := fun i hi => by
    rw [show (cp2 (up2 (cp2 (cp2 (cp2 (up2 (up2 (cp2 (up2 fi s 1 (fi o 1)) o2 s2 0 0 4) s 3 (fi o 3)) s 4 (fi o 4)) o5 s5 0 0 6) o6 s6 0 0 6) o7 s7 0 0 6) s 8 (fi o 8)) o9 s9 0 0 12) o10 (0 + i) = fi o10 (0 + i) from (Eq.trans (cp2_nq (ne_w ow10 sw9 (ne_ut htu (by decide) (by decide)))) (Eq.trans (up2_nq (ne_w ow10 sw (ne_ut htu (by decide) (by decide)))) (Eq.trans (cp2_nq (ne_w ow10 sw7 (ne_ut htu (by decide) (by decide)))) (Eq.trans (cp2_nq (ne_w ow10 sw6 (ne_ut htu (by decide) (by decide)))) (Eq.trans (cp2_nq (ne_w ow10 sw5 (ne_ut htu (by decide) (by decide)))) (Eq.trans (up2_nq (ne_w ow10 sw (ne_ut htu (by decide) (by decide)))) (Eq.trans (up2_nq (ne_w ow10 sw (ne_ut htu (by decide) (by decide)))) (Eq.trans (cp2_nq (ne_w ow10 sw2 (ne_ut htu (by decide) (by decide)))) (up2_nq (ne_w ow10 sw (ne_ut htu (by decide) (by decide))))))))))))]
    exact hb (0 + i) (by omega)
  refine wi_copyZ ct_39_147 (Nat.le_of_ble_eq_true rfl) ((congrFun hrw.1.1 _).trans ot10) ((congrFun hrw.1.1 _).trans st10) ((congrFun hrw.1.2.1 _).trans ol10) ((congrFun hrw.1.2.1 _).trans sl10) (by decide : _ = 0) (by decide : _ = 0) (by decide : _ = 12) ⟨by decide, by decide, by decide⟩ ⟨by decide, by decide⟩ hbz ?_
  refine wi_aload_0 ct_39_150 ?_
  refine wi_aload_1 ct_39_151 ?_
  refine wi_gf (x := fi o 11) ct_39_152 ((congrFun hrw.1.1 _).trans ot) rfl rfl (Eq.trans (cp2_nq (ne_w ow sw10 (ne_ut htu (by decide) (by decide)))) (Eq.trans (cp2_nq (ne_w ow sw9 (ne_ut htu (by decide) (by decide)))) (Eq.trans (up2_nq (ne_w ow sw (ne_ut htu (by decide) (by decide)))) (Eq.trans (cp2_nq (ne_w ow sw7 (ne_ut htu (by decide) (by decide)))) (Eq.trans (cp2_nq (ne_w ow sw6 (ne_ut htu (by decide) (by decide)))) (Eq.trans (cp2_nq (ne_w ow sw5 (ne_ut htu (by decide) (by decide)))) (Eq.trans (up2_nq (ne_w ow sw (ne_ut htu (by decide) (by decide)))) (Eq.trans (up2_nq (ne_w ow sw (ne_ut htu (by decide) (by decide)))) (Eq.trans (cp2_nq (ne_w ow sw2 (ne_ut htu (by decide) (by decide)))) (up2_nq (ne_w ow sw (ne_ut htu (by decide) (by decide))))))))))))) ?_
  refine wi_pf ct_39_155 ((congrFun hrw.1.1 _).trans st) rfl ?_
  refine wi_ret ct_39_158 ?_
  exact kk _ _ hrw ⟨⟨(Eq.trans (up2_nj (by decide)) (Eq.trans (cp2_nq (ne_w sw sw10 (ne_tt (by decide)))) (Eq.trans (cp2_nq (ne_w sw sw9 (ne_tt (by decide)))) (Eq.trans (up2_nj (by decide)) (Eq.trans (cp2_nq (ne_w sw sw7 (ne_tt (by decide)))) (Eq.trans (cp2_nq (ne_w sw sw6 (ne_tt (by decide)))) (Eq.trans (cp2_nq (ne_w sw sw5 (ne_tt (by decide)))) (Eq.trans (up2_nj (by decide)) (Eq.trans (up2_nj (by decide)) (Eq.trans (cp2_nq (ne_w sw sw2 (ne_tt (by decide)))) up2_eq)))))))))), (Eq.trans (up2_nj (by decide)) (Eq.trans (cp2_nq (ne_w sw sw10 (ne_tt (by decide)))) (Eq.trans (cp2_nq (ne_w sw sw9 (ne_tt (by decide)))) (Eq.trans (up2_nj (by decide)) (Eq.trans (cp2_nq (ne_w sw sw7 (ne_tt (by decide)))) (Eq.trans (cp2_nq (ne_w sw sw6 (ne_tt (by decide)))) (Eq.trans (cp2_nq (ne_w sw sw5 (ne_tt (by decide)))) (Eq.trans (up2_nj (by decide)) up2_eq)))))))), (Eq.trans (up2_nj (by decide)) (Eq.trans (cp2_nq (ne_w sw sw10 (ne_tt (by decide)))) (Eq.trans (cp2_nq (ne_w sw sw9 (ne_tt (by decide)))) (Eq.trans (up2_nj (by decide)) (Eq.trans (cp2_nq (ne_w sw sw7 (ne_tt (by decide)))) (Eq.trans (cp2_nq (ne_w sw sw6 (ne_tt (by decide)))) (Eq.trans (cp2_nq (ne_w sw sw5 (ne_tt (by decide)))) up2_eq))))))), (Eq.trans (up2_nj (by decide)) (Eq.trans (cp2_nq (ne_w sw sw10 (ne_tt (by decide)))) (Eq.trans (cp2_nq (ne_w sw sw9 (ne_tt (by decide)))) up2_eq))), up2_eq⟩, (fun j hj => (Eq.trans (up2_nq (ne_w sw2 sw (ne_tt (by decide)))) (Eq.trans (cp2_nq (ne_w sw2 sw10 (ne_tt (by decide)))) (Eq.trans (cp2_nq (ne_w sw2 sw9 (ne_tt (by decide)))) (Eq.trans (up2_nq (ne_w sw2 sw (ne_tt (by decide)))) (Eq.trans (cp2_nq (ne_w sw2 sw7 (ne_tt (by decide)))) (Eq.trans (cp2_nq (ne_w sw2 sw6 (ne_tt (by decide)))) (Eq.trans (cp2_nq (ne_w sw2 sw5 (ne_tt (by decide)))) (Eq.trans (up2_nq (ne_w sw2 sw (ne_tt (by decide)))) (Eq.trans (up2_nq (ne_w sw2 sw (ne_tt (by decide)))) (Eq.trans (cp0 hj) (up2_nq (ne_w ow2 sw (ne_ut htu (by decide) (by decide))))))))))))))), (fun j hj => (Eq.trans (up2_nq (ne_w sw5 sw (ne_tt (by decide)))) (Eq.trans (cp2_nq (ne_w sw5 sw10 (ne_tt (by decide)))) (Eq.trans (cp2_nq (ne_w sw5 sw9 (ne_tt (by decide)))) (Eq.trans (up2_nq (ne_w sw5 sw (ne_tt (by decide)))) (Eq.trans (cp2_nq (ne_w sw5 sw7 (ne_tt (by decide)))) (Eq.trans (cp2_nq (ne_w sw5 sw6 (ne_tt (by decide)))) (Eq.trans (cp0 hj) (Eq.trans (up2_nq (ne_w ow5 sw (ne_ut htu (by decide) (by decide)))) (Eq.trans (up2_nq (ne_w ow5 sw (ne_ut htu (by decide) (by decide)))) (Eq.trans (cp2_nq (ne_w ow5 sw2 (ne_ut htu (by decide) (by decide)))) (up2_nq (ne_w ow5 sw (ne_ut htu (by decide) (by decide))))))))))))))), (fun j hj => (Eq.trans (up2_nq (ne_w sw6 sw (ne_tt (by decide)))) (Eq.trans (cp2_nq (ne_w sw6 sw10 (ne_tt (by decide)))) (Eq.trans (cp2_nq (ne_w sw6 sw9 (ne_tt (by decide)))) (Eq.trans (up2_nq (ne_w sw6 sw (ne_tt (by decide)))) (Eq.trans (cp2_nq (ne_w sw6 sw7 (ne_tt (by decide)))) (Eq.trans (cp0 hj) (Eq.trans (cp2_nq (ne_w ow6 sw5 (ne_ut htu (by decide) (by decide)))) (Eq.trans (up2_nq (ne_w ow6 sw (ne_ut htu (by decide) (by decide)))) (Eq.trans (up2_nq (ne_w ow6 sw (ne_ut htu (by decide) (by decide)))) (Eq.trans (cp2_nq (ne_w ow6 sw2 (ne_ut htu (by decide) (by decide)))) (up2_nq (ne_w ow6 sw (ne_ut htu (by decide) (by decide))))))))))))))), (fun j hj => (Eq.trans (up2_nq (ne_w sw7 sw (ne_tt (by decide)))) (Eq.trans (cp2_nq (ne_w sw7 sw10 (ne_tt (by decide)))) (Eq.trans (cp2_nq (ne_w sw7 sw9 (ne_tt (by decide)))) (Eq.trans (up2_nq (ne_w sw7 sw (ne_tt (by decide)))) (Eq.trans (cp0 hj) (Eq.trans (cp2_nq (ne_w ow7 sw6 (ne_ut htu (by decide) (by decide)))) (Eq.trans (cp2_nq (ne_w ow7 sw5 (ne_ut htu (by decide) (by decide)))) (Eq.trans (up2_nq (ne_w ow7 sw (ne_ut htu (by decide) (by decide)))) (Eq.trans (up2_nq (ne_w ow7 sw (ne_ut htu (by decide) (by decide)))) (Eq.trans (cp2_nq (ne_w ow7 sw2 (ne_ut htu (by decide) (by decide)))) (up2_nq (ne_w ow7 sw (ne_ut htu (by decide) (by decide))))))))))))))), (fun j hj => (Eq.trans (up2_nq (ne_w sw9 sw (ne_tt (by decide)))) (Eq.trans (cp2_nq (ne_w sw9 sw10 (ne_tt (by decide)))) (Eq.trans (cp0 hj) (Eq.trans (up2_nq (ne_w ow9 sw (ne_ut htu (by decide) (by decide)))) (Eq.trans (cp2_nq (ne_w ow9 sw7 (ne_ut htu (by decide) (by decide)))) (Eq.trans (cp2_nq (ne_w ow9 sw6 (ne_ut htu (by decide) (by decide)))) (Eq.trans (cp2_nq (ne_w ow9 sw5 (ne_ut htu (by decide) (by decide)))) (Eq.trans (up2_nq (ne_w ow9 sw (ne_ut htu (by decide) (by decide)))) (Eq.trans (up2_nq (ne_w ow9 sw (ne_ut htu (by decide) (by decide)))) (Eq.trans (cp2_nq (ne_w ow9 sw2 (ne_ut htu (by decide) (by decide)))) (up2_nq (ne_w ow9 sw (ne_ut htu (by decide) (by decide))))))))))))))), (fun j hj => (Eq.trans (up2_nq (ne_w sw10 sw (ne_tt (by decide)))) (Eq.trans (cp0 hj) (Eq.trans (cp2_nq (ne_w ow10 sw9 (ne_ut htu (by decide) (by decide)))) (Eq.trans (up2_nq (ne_w ow10 sw (ne_ut htu (by decide) (by decide)))) (Eq.trans (cp2_nq (ne_w ow10 sw7 (ne_ut htu (by decide) (by decide)))) (Eq.trans (cp2_nq (ne_w ow10 sw6 (ne_ut htu (by decide) (by decide)))) (Eq.trans (cp2_nq (ne_w ow10 sw5 (ne_ut htu (by decide) (by decide)))) (Eq.trans (up2_nq (ne_w ow10 sw (ne_ut htu (by decide) (by decide)))) (Eq.trans (up2_nq (ne_w ow10 sw (ne_ut htu (by decide) (by decide)))) (Eq.trans (cp2_nq (ne_w ow10 sw2 (ne_ut htu (by decide) (by decide)))) (up2_nq (ne_w ow10 sw (ne_ut htu (by decide) (by decide))))))))))))))), fun q h => (Eq.trans (funext fun _ => up2_nq (fun e => h (Or.inl e))) (Eq.trans (funext fun _ => cp2_nq (fun e => h (Or.inr (Or.inr (Or.inr (Or.inr (Or.inr (Or.inr (e))))))))) (Eq.trans (funext fun _ => cp2_nq (fun e => h (Or.inr (Or.inr (Or.inr (Or.inr (Or.inr (Or.inl e)))))))) (Eq.trans (funext fun _ => up2_nq (fun e => h (Or.inl e))) (Eq.trans (funext fun _ => cp2_nq (fun e => h (Or.inr (Or.inr (Or.inr (Or.inr (Or.inl e))))))) (Eq.trans (funext fun _ => cp2_nq (fun e => h (Or.inr (Or.inr (Or.inr (Or.inl e)))))) (Eq.trans (funext fun _ => cp2_nq (fun e => h (Or.inr (Or.inr (Or.inl e))))) (Eq.trans (funext fun _ => up2_nq (fun e => h (Or.inl e))) (Eq.trans (funext fun _ => up2_nq (fun e => h (Or.inl e))) (Eq.trans (funext fun _ => cp2_nq (fun e => h (Or.inr (Or.inl e)))) (funext fun _ => up2_nq (fun e => h (Or.inl e)))))))))))))⟩
theorem vl_image0 {L d : Nat} {g : am_G} {fi : am_I} {fl : am_L} {P : Option Value → am_G → am_I → am_L → Prop} (hS : SF L g) (kk : ∀ fi2 zi, (∀ j, j < 5 → fi2 55 j = fi 32 j) → (∀ j, j < 5 → fi2 56 j = fi 33 j) → (∀ j, j < 5 → fi2 57 j = fi 34 j) → (∀ j, j < 5 → fi2 58 j = fi 35 j) → (∀ j, j < 5 → fi2 59 j = fi 36 j) → (∀ q, ¬ (q = 55 ∨ q = 56 ∨ q = 57 ∨ q = 58 ∨ q = 59) → fi2 q = fi q) → WP d 180 118 [some (.ref 31), some (.int zi)] [] g fi2 fl P) : ∀ (n k : Nat) (fi2 : am_I) (zi : Int32), k + n = 5 → zi.toInt = (k : Int) → (∀ j, j < k → fi2 55 j = fi 32 j) → (∀ j, j < k → fi2 56 j = fi 33 j) → (∀ j, j < k → fi2 57 j = fi 34 j) → (∀ j, j < k → fi2 58 j = fi 35 j) → (∀ j, j < k → fi2 59 j = fi 36 j) → (∀ q, ¬ (q = 55 ∨ q = 56 ∨ q = 57 ∨ q = 58 ∨ q = 59) → fi2 q = fi q) → WP d 180 47 [some (.ref 31), some (.int zi)] [] g fi2 fl P := by
  intro n
  induction n with
  | zero =>
    intro k fi2 zi hkn hzi h0 h1 h2 h3 h4 h5
    have hkT : k = 5 := by omega
    subst hkT
    refine wi_iload_1 ct_180_47 ?_
    refine wi_ic ct_180_48 kc_5 ?_
    refine wi_icge_t ct_180_49 hzi ki_5 (by omega) ?_
    exact kk _ _ h0 h1 h2 h3 h4 h5
  | succ n ih =>
    intro k fi2 zi hkn hzi h0 h1 h2 h3 h4 h5
    refine wi_iload_1 ct_180_47 ?_
    refine wi_ic ct_180_48 kc_5 ?_
    refine wi_icge_f ct_180_49 hzi ki_5 (by omega) ?_
    refine wi_aload_0 ct_180_52 ?_
    refine wi_gfr ct_180_53 (sT_31 hS) rfl (sR_31_53 hS) ?_
    refine wi_iload_1 ct_180_56 ?_
    refine wi_aload_0 ct_180_57 ?_
    refine wi_gfr ct_180_58 (sT_31 hS) rfl (sR_31_2 hS) ?_
    refine wi_iload_1 ct_180_61 ?_
    refine wi_iald (x := fi 32 k) ct_180_62 (sT_32 hS) (sL_32 hS) (i_in hzi (by omega)) (i_cl (k := k) hzi (by omega)) (congrFun (h5 32 (by decide)) _) ?_
    refine wi_iast ct_180_63 (sT_55 hS) (sL_55 hS) (i_in hzi (by omega)) (i_cl (k := k) hzi (by omega)) ?_
    refine wi_aload_0 ct_180_64 ?_
    refine wi_gfr ct_180_65 (sT_31 hS) rfl (sR_31_54 hS) ?_
    refine wi_iload_1 ct_180_68 ?_
    refine wi_aload_0 ct_180_69 ?_
    refine wi_gfr ct_180_70 (sT_31 hS) rfl (sR_31_3 hS) ?_
    refine wi_iload_1 ct_180_73 ?_
    refine wi_iald (x := fi 33 k) ct_180_74 (sT_33 hS) (sL_33 hS) (i_in hzi (by omega)) (i_cl (k := k) hzi (by omega)) (Eq.trans (up2_nq (by decide)) (congrFun (h5 33 (by decide)) _)) ?_
    refine wi_iast ct_180_75 (sT_56 hS) (sL_56 hS) (i_in hzi (by omega)) (i_cl (k := k) hzi (by omega)) ?_
    refine wi_aload_0 ct_180_76 ?_
    refine wi_gfr ct_180_77 (sT_31 hS) rfl (sR_31_55 hS) ?_
    refine wi_iload_1 ct_180_80 ?_
    refine wi_aload_0 ct_180_81 ?_
    refine wi_gfr ct_180_82 (sT_31 hS) rfl (sR_31_4 hS) ?_
    refine wi_iload_1 ct_180_85 ?_
    refine wi_iald (x := fi 34 k) ct_180_86 (sT_34 hS) (sL_34 hS) (i_in hzi (by omega)) (i_cl (k := k) hzi (by omega)) (Eq.trans (up2_nq (by decide)) (Eq.trans (up2_nq (by decide)) (congrFun (h5 34 (by decide)) _))) ?_
    refine wi_iast ct_180_87 (sT_57 hS) (sL_57 hS) (i_in hzi (by omega)) (i_cl (k := k) hzi (by omega)) ?_
    refine wi_aload_0 ct_180_88 ?_
    refine wi_gfr ct_180_89 (sT_31 hS) rfl (sR_31_56 hS) ?_
    refine wi_iload_1 ct_180_92 ?_
    refine wi_aload_0 ct_180_93 ?_
    refine wi_gfr ct_180_94 (sT_31 hS) rfl (sR_31_5 hS) ?_
    refine wi_iload_1 ct_180_97 ?_
    refine wi_iald (x := fi 35 k) ct_180_98 (sT_35 hS) (sL_35 hS) (i_in hzi (by omega)) (i_cl (k := k) hzi (by omega)) (Eq.trans (up2_nq (by decide)) (Eq.trans (up2_nq (by decide)) (Eq.trans (up2_nq (by decide)) (congrFun (h5 35 (by decide)) _)))) ?_
    refine wi_iast ct_180_99 (sT_58 hS) (sL_58 hS) (i_in hzi (by omega)) (i_cl (k := k) hzi (by omega)) ?_
    refine wi_aload_0 ct_180_100 ?_
    refine wi_gfr ct_180_101 (sT_31 hS) rfl (sR_31_57 hS) ?_
    refine wi_iload_1 ct_180_104 ?_
    refine wi_aload_0 ct_180_105 ?_
    refine wi_gfr ct_180_106 (sT_31 hS) rfl (sR_31_6 hS) ?_
    refine wi_iload_1 ct_180_109 ?_
    refine wi_iald (x := fi 36 k) ct_180_110 (sT_36 hS) (sL_36 hS) (i_in hzi (by omega)) (i_cl (k := k) hzi (by omega)) (Eq.trans (up2_nq (by decide)) (Eq.trans (up2_nq (by decide)) (Eq.trans (up2_nq (by decide)) (Eq.trans (up2_nq (by decide)) (congrFun (h5 36 (by decide)) _))))) ?_
    refine wi_iast ct_180_111 (sT_59 hS) (sL_59 hS) (i_in hzi (by omega)) (i_cl (k := k) hzi (by omega)) ?_
    refine wi_iinc_1 rfl (z := (zi + 1)) ct_180_112 (by rw [kc_1]) ?_
    refine wi_goto ct_180_115 ?_
    exact ih (k + 1) _ _ (by omega) ((i_add hzi ki_1 (by omega)).trans (by omega)) (fun j hj => by
      rcases Decidable.em (j = k) with e | e
      · rw [e]; exact (Eq.trans (up2_nq (by decide)) (Eq.trans (up2_nq (by decide)) (Eq.trans (up2_nq (by decide)) (Eq.trans (up2_nq (by decide)) up2_eq))))
      · exact ((Eq.trans (up2_nq (by decide)) (Eq.trans (up2_nq (by decide)) (Eq.trans (up2_nq (by decide)) (Eq.trans (up2_nq (by decide)) (up2_nj e)))))).trans (h0 j (by omega))) (fun j hj => by
      rcases Decidable.em (j = k) with e | e
      · rw [e]; exact (Eq.trans (up2_nq (by decide)) (Eq.trans (up2_nq (by decide)) (Eq.trans (up2_nq (by decide)) up2_eq)))
      · exact ((Eq.trans (up2_nq (by decide)) (Eq.trans (up2_nq (by decide)) (Eq.trans (up2_nq (by decide)) (Eq.trans (up2_nj e) (up2_nq (by decide))))))).trans (h1 j (by omega))) (fun j hj => by
      rcases Decidable.em (j = k) with e | e
      · rw [e]; exact (Eq.trans (up2_nq (by decide)) (Eq.trans (up2_nq (by decide)) up2_eq))
      · exact ((Eq.trans (up2_nq (by decide)) (Eq.trans (up2_nq (by decide)) (Eq.trans (up2_nj e) (Eq.trans (up2_nq (by decide)) (up2_nq (by decide))))))).trans (h2 j (by omega))) (fun j hj => by
      rcases Decidable.em (j = k) with e | e
      · rw [e]; exact (Eq.trans (up2_nq (by decide)) up2_eq)
      · exact ((Eq.trans (up2_nq (by decide)) (Eq.trans (up2_nj e) (Eq.trans (up2_nq (by decide)) (Eq.trans (up2_nq (by decide)) (up2_nq (by decide))))))).trans (h3 j (by omega))) (fun j hj => by
      rcases Decidable.em (j = k) with e | e
      · rw [e]; exact up2_eq
      · exact ((Eq.trans (up2_nj e) (Eq.trans (up2_nq (by decide)) (Eq.trans (up2_nq (by decide)) (Eq.trans (up2_nq (by decide)) (up2_nq (by decide))))))).trans (h4 j (by omega))) (fun q hq => (Eq.trans (funext fun _ => up2_nq (by omega)) (Eq.trans (funext fun _ => up2_nq (by omega)) (Eq.trans (funext fun _ => up2_nq (by omega)) (Eq.trans (funext fun _ => up2_nq (by omega)) (Eq.trans (funext fun _ => up2_nq (by omega)) (h5 q hq)))))))
theorem vl_image1 {L d : Nat} {g : am_G} {fi : am_I} {fl : am_L} {P : Option Value → am_G → am_I → am_L → Prop} (hS : SF L g) (kk : ∀ fi2 zi, (∀ j, j < 20 → fi2 60 j = fi 37 j) → (∀ q, ¬ (q = 60) → fi2 q = fi q) → WP d 180 144 [some (.ref 31), some (.int zi)] [] g fi2 fl P) : ∀ (n k : Nat) (fi2 : am_I) (zi : Int32), k + n = 20 → zi.toInt = (k : Int) → (∀ j, j < k → fi2 60 j = fi 37 j) → (∀ q, ¬ (q = 60) → fi2 q = fi q) → WP d 180 120 [some (.ref 31), some (.int zi)] [] g fi2 fl P := by
  intro n
  induction n with
  | zero =>
    intro k fi2 zi hkn hzi h0 h1
    have hkT : k = 20 := by omega
    subst hkT
    refine wi_iload_1 ct_180_120 ?_
    refine wi_ic ct_180_121 kc_20 ?_
    refine wi_icge_t ct_180_123 hzi ki_20 (by omega) ?_
    exact kk _ _ h0 h1
  | succ n ih =>
    intro k fi2 zi hkn hzi h0 h1
    refine wi_iload_1 ct_180_120 ?_
    refine wi_ic ct_180_121 kc_20 ?_
    refine wi_icge_f ct_180_123 hzi ki_20 (by omega) ?_
    refine wi_aload_0 ct_180_126 ?_
    refine wi_gfr ct_180_127 (sT_31 hS) rfl (sR_31_58 hS) ?_
    refine wi_iload_1 ct_180_130 ?_
    refine wi_aload_0 ct_180_131 ?_
    refine wi_gfr ct_180_132 (sT_31 hS) rfl (sR_31_7 hS) ?_
    refine wi_iload_1 ct_180_135 ?_
    refine wi_iald (x := fi 37 k) ct_180_136 (sT_37 hS) (sL_37 hS) (i_in hzi (by omega)) (i_cl (k := k) hzi (by omega)) (congrFun (h1 37 (by decide)) _) ?_
    refine wi_iast ct_180_137 (sT_60 hS) (sL_60 hS) (i_in hzi (by omega)) (i_cl (k := k) hzi (by omega)) ?_
    refine wi_iinc_1 rfl (z := (zi + 1)) ct_180_138 (by rw [kc_1]) ?_
    refine wi_goto ct_180_141 ?_
    exact ih (k + 1) _ _ (by omega) ((i_add hzi ki_1 (by omega)).trans (by omega)) (fun j hj => by
      rcases Decidable.em (j = k) with e | e
      · rw [e]; exact up2_eq
      · exact ((up2_nj e)).trans (h0 j (by omega))) (fun q hq => (Eq.trans (funext fun _ => up2_nq (by omega)) (h1 q hq)))
theorem vl_image2 {L d : Nat} {g : am_G} {fi : am_I} {fl : am_L} {P : Option Value → am_G → am_I → am_L → Prop} (hS : SF L g) (kk : ∀ fi2 zi, (∀ j, j < 4 → fi2 61 j = fi 38 j) → (∀ q, ¬ (q = 61) → fi2 q = fi q) → WP d 180 169 [some (.ref 31), some (.int zi)] [] g fi2 fl P) : ∀ (n k : Nat) (fi2 : am_I) (zi : Int32), k + n = 4 → zi.toInt = (k : Int) → (∀ j, j < k → fi2 61 j = fi 38 j) → (∀ q, ¬ (q = 61) → fi2 q = fi q) → WP d 180 146 [some (.ref 31), some (.int zi)] [] g fi2 fl P := by
  intro n
  induction n with
  | zero =>
    intro k fi2 zi hkn hzi h0 h1
    have hkT : k = 4 := by omega
    subst hkT
    refine wi_iload_1 ct_180_146 ?_
    refine wi_ic ct_180_147 kc_4 ?_
    refine wi_icge_t ct_180_148 hzi ki_4 (by omega) ?_
    exact kk _ _ h0 h1
  | succ n ih =>
    intro k fi2 zi hkn hzi h0 h1
    refine wi_iload_1 ct_180_146 ?_
    refine wi_ic ct_180_147 kc_4 ?_
    refine wi_icge_f ct_180_148 hzi ki_4 (by omega) ?_
    refine wi_aload_0 ct_180_151 ?_
    refine wi_gfr ct_180_152 (sT_31 hS) rfl (sR_31_59 hS) ?_
    refine wi_iload_1 ct_180_155 ?_
    refine wi_aload_0 ct_180_156 ?_
    refine wi_gfr ct_180_157 (sT_31 hS) rfl (sR_31_8 hS) ?_
    refine wi_iload_1 ct_180_160 ?_
    refine wi_iald (x := fi 38 k) ct_180_161 (sT_38 hS) (sL_38 hS) (i_in hzi (by omega)) (i_cl (k := k) hzi (by omega)) (congrFun (h1 38 (by decide)) _) ?_
    refine wi_iast ct_180_162 (sT_61 hS) (sL_61 hS) (i_in hzi (by omega)) (i_cl (k := k) hzi (by omega)) ?_
    refine wi_iinc_1 rfl (z := (zi + 1)) ct_180_163 (by rw [kc_1]) ?_
    refine wi_goto ct_180_166 ?_
    exact ih (k + 1) _ _ (by omega) ((i_add hzi ki_1 (by omega)).trans (by omega)) (fun j hj => by
      rcases Decidable.em (j = k) with e | e
      · rw [e]; exact up2_eq
      · exact ((up2_nj e)).trans (h0 j (by omega))) (fun q hq => (Eq.trans (funext fun _ => up2_nq (by omega)) (h1 q hq)))
theorem vl_image3 {L d : Nat} {g : am_G} {fi : am_I} {fl : am_L} {P : Option Value → am_G → am_I → am_L → Prop} (hS : SF L g) (kk : ∀ fi2 zi, (∀ j, j < 6 → fi2 62 j = fi 50 j) → (∀ j, j < 6 → fi2 63 j = fi 51 j) → (∀ j, j < 6 → fi2 64 j = fi 52 j) → (∀ q, ¬ (q = 62 ∨ q = 63 ∨ q = 64) → fi2 q = fi q) → WP d 180 219 [some (.ref 31), some (.int zi)] [] g fi2 fl P) : ∀ (n k : Nat) (fi2 : am_I) (zi : Int32), k + n = 6 → zi.toInt = (k : Int) → (∀ j, j < k → fi2 62 j = fi 50 j) → (∀ j, j < k → fi2 63 j = fi 51 j) → (∀ j, j < k → fi2 64 j = fi 52 j) → (∀ q, ¬ (q = 62 ∨ q = 63 ∨ q = 64) → fi2 q = fi q) → WP d 180 171 [some (.ref 31), some (.int zi)] [] g fi2 fl P := by
  intro n
  induction n with
  | zero =>
    intro k fi2 zi hkn hzi h0 h1 h2 h3
    have hkT : k = 6 := by omega
    subst hkT
    refine wi_iload_1 ct_180_171 ?_
    refine wi_ic ct_180_172 kc_6 ?_
    refine wi_icge_t ct_180_174 hzi ki_6 (by omega) ?_
    exact kk _ _ h0 h1 h2 h3
  | succ n ih =>
    intro k fi2 zi hkn hzi h0 h1 h2 h3
    refine wi_iload_1 ct_180_171 ?_
    refine wi_ic ct_180_172 kc_6 ?_
    refine wi_icge_f ct_180_174 hzi ki_6 (by omega) ?_
    refine wi_aload_0 ct_180_177 ?_
    refine wi_gfr ct_180_178 (sT_31 hS) rfl (sR_31_60 hS) ?_
    refine wi_iload_1 ct_180_181 ?_
    refine wi_aload_0 ct_180_182 ?_
    refine wi_gfr ct_180_183 (sT_31 hS) rfl (sR_31_41 hS) ?_
    refine wi_iload_1 ct_180_186 ?_
    refine wi_iald (x := fi 50 k) ct_180_187 (sT_50 hS) (sL_50 hS) (i_in hzi (by omega)) (i_cl (k := k) hzi (by omega)) (congrFun (h3 50 (by decide)) _) ?_
    refine wi_iast ct_180_188 (sT_62 hS) (sL_62 hS) (i_in hzi (by omega)) (i_cl (k := k) hzi (by omega)) ?_
    refine wi_aload_0 ct_180_189 ?_
    refine wi_gfr ct_180_190 (sT_31 hS) rfl (sR_31_61 hS) ?_
    refine wi_iload_1 ct_180_193 ?_
    refine wi_aload_0 ct_180_194 ?_
    refine wi_gfr ct_180_195 (sT_31 hS) rfl (sR_31_42 hS) ?_
    refine wi_iload_1 ct_180_198 ?_
    refine wi_iald (x := fi 51 k) ct_180_199 (sT_51 hS) (sL_51 hS) (i_in hzi (by omega)) (i_cl (k := k) hzi (by omega)) (Eq.trans (up2_nq (by decide)) (congrFun (h3 51 (by decide)) _)) ?_
    refine wi_iast ct_180_200 (sT_63 hS) (sL_63 hS) (i_in hzi (by omega)) (i_cl (k := k) hzi (by omega)) ?_
    refine wi_aload_0 ct_180_201 ?_
    refine wi_gfr ct_180_202 (sT_31 hS) rfl (sR_31_62 hS) ?_
    refine wi_iload_1 ct_180_205 ?_
    refine wi_aload_0 ct_180_206 ?_
    refine wi_gfr ct_180_207 (sT_31 hS) rfl (sR_31_43 hS) ?_
    refine wi_iload_1 ct_180_210 ?_
    refine wi_iald (x := fi 52 k) ct_180_211 (sT_52 hS) (sL_52 hS) (i_in hzi (by omega)) (i_cl (k := k) hzi (by omega)) (Eq.trans (up2_nq (by decide)) (Eq.trans (up2_nq (by decide)) (congrFun (h3 52 (by decide)) _))) ?_
    refine wi_iast ct_180_212 (sT_64 hS) (sL_64 hS) (i_in hzi (by omega)) (i_cl (k := k) hzi (by omega)) ?_
    refine wi_iinc_1 rfl (z := (zi + 1)) ct_180_213 (by rw [kc_1]) ?_
    refine wi_goto ct_180_216 ?_
    exact ih (k + 1) _ _ (by omega) ((i_add hzi ki_1 (by omega)).trans (by omega)) (fun j hj => by
      rcases Decidable.em (j = k) with e | e
      · rw [e]; exact (Eq.trans (up2_nq (by decide)) (Eq.trans (up2_nq (by decide)) up2_eq))
      · exact ((Eq.trans (up2_nq (by decide)) (Eq.trans (up2_nq (by decide)) (up2_nj e)))).trans (h0 j (by omega))) (fun j hj => by
      rcases Decidable.em (j = k) with e | e
      · rw [e]; exact (Eq.trans (up2_nq (by decide)) up2_eq)
      · exact ((Eq.trans (up2_nq (by decide)) (Eq.trans (up2_nj e) (up2_nq (by decide))))).trans (h1 j (by omega))) (fun j hj => by
      rcases Decidable.em (j = k) with e | e
      · rw [e]; exact up2_eq
      · exact ((Eq.trans (up2_nj e) (Eq.trans (up2_nq (by decide)) (up2_nq (by decide))))).trans (h2 j (by omega))) (fun q hq => (Eq.trans (funext fun _ => up2_nq (by omega)) (Eq.trans (funext fun _ => up2_nq (by omega)) (Eq.trans (funext fun _ => up2_nq (by omega)) (h3 q hq)))))
theorem vl_image4 {L d : Nat} {g : am_G} {fi : am_I} {fl : am_L} {P : Option Value → am_G → am_I → am_L → Prop} (hS : SF L g) (hbit : ∀ j, j < 12 → am_bit (fi 54 j) = true) (kk : ∀ fi2 zi, (∀ j, j < 12 → fi2 65 j = fi 53 j) → (∀ j, j < 12 → fi2 66 j = fi 54 j) → (∀ q, ¬ (q = 65 ∨ q = 66) → fi2 q = fi q) → WP d 180 257 [some (.ref 31), some (.int zi)] [] g fi2 fl P) : ∀ (n k : Nat) (fi2 : am_I) (zi : Int32), k + n = 12 → zi.toInt = (k : Int) → (∀ j, j < k → fi2 65 j = fi 53 j) → (∀ j, j < k → fi2 66 j = fi 54 j) → (∀ q, ¬ (q = 65 ∨ q = 66) → fi2 q = fi q) → WP d 180 221 [some (.ref 31), some (.int zi)] [] g fi2 fl P := by
  intro n
  induction n with
  | zero =>
    intro k fi2 zi hkn hzi h0 h1 h2
    have hkT : k = 12 := by omega
    subst hkT
    refine wi_iload_1 ct_180_221 ?_
    refine wi_ic ct_180_222 kc_12 ?_
    refine wi_icge_t ct_180_224 hzi ki_12 (by omega) ?_
    exact kk _ _ h0 h1 h2
  | succ n ih =>
    intro k fi2 zi hkn hzi h0 h1 h2
    refine wi_iload_1 ct_180_221 ?_
    refine wi_ic ct_180_222 kc_12 ?_
    refine wi_icge_f ct_180_224 hzi ki_12 (by omega) ?_
    refine wi_aload_0 ct_180_227 ?_
    refine wi_gfr ct_180_228 (sT_31 hS) rfl (sR_31_63 hS) ?_
    refine wi_iload_1 ct_180_231 ?_
    refine wi_aload_0 ct_180_232 ?_
    refine wi_gfr ct_180_233 (sT_31 hS) rfl (sR_31_45 hS) ?_
    refine wi_iload_1 ct_180_236 ?_
    refine wi_iald (x := fi 53 k) ct_180_237 (sT_53 hS) (sL_53 hS) (i_in hzi (by omega)) (i_cl (k := k) hzi (by omega)) (congrFun (h2 53 (by decide)) _) ?_
    refine wi_iast ct_180_238 (sT_65 hS) (sL_65 hS) (i_in hzi (by omega)) (i_cl (k := k) hzi (by omega)) ?_
    refine wi_aload_0 ct_180_239 ?_
    refine wi_gfr ct_180_240 (sT_31 hS) rfl (sR_31_64 hS) ?_
    refine wi_iload_1 ct_180_243 ?_
    refine wi_aload_0 ct_180_244 ?_
    refine wi_gfr ct_180_245 (sT_31 hS) rfl (sR_31_46 hS) ?_
    refine wi_iload_1 ct_180_248 ?_
    refine wi_bald (x := fi 54 k) ct_180_249 (Or.inr (sT_54 hS)) (sL_54 hS) (i_in hzi (by omega)) (i_cl (k := k) hzi (by omega)) (Eq.trans (up2_nq (by decide)) (congrFun (h2 54 (by decide)) _)) ?_
    refine wi_zast ct_180_250 (sT_66 hS) (sL_66 hS) (i_in hzi (by omega)) (i_cl (k := k) hzi (by omega)) (hbit k (by omega)) ?_
    refine wi_iinc_1 rfl (z := (zi + 1)) ct_180_251 (by rw [kc_1]) ?_
    refine wi_goto ct_180_254 ?_
    exact ih (k + 1) _ _ (by omega) ((i_add hzi ki_1 (by omega)).trans (by omega)) (fun j hj => by
      rcases Decidable.em (j = k) with e | e
      · rw [e]; exact (Eq.trans (up2_nq (by decide)) up2_eq)
      · exact ((Eq.trans (up2_nq (by decide)) (up2_nj e))).trans (h0 j (by omega))) (fun j hj => by
      rcases Decidable.em (j = k) with e | e
      · rw [e]; exact up2_eq
      · exact ((Eq.trans (up2_nj e) (up2_nq (by decide)))).trans (h1 j (by omega))) (fun q hq => (Eq.trans (funext fun _ => up2_nq (by omega)) (Eq.trans (funext fun _ => up2_nq (by omega)) (h2 q hq))))
theorem vl_undo0 {L d : Nat} {g : am_G} {fi : am_I} {fl : am_L} {P : Option Value → am_G → am_I → am_L → Prop} (hS : SF L g) (kk : ∀ fi2 zi, (∀ j, j < 5 → fi2 32 j = fi 55 j) → (∀ j, j < 5 → fi2 33 j = fi 56 j) → (∀ j, j < 5 → fi2 34 j = fi 57 j) → (∀ j, j < 5 → fi2 35 j = fi 58 j) → (∀ j, j < 5 → fi2 36 j = fi 59 j) → (∀ q, ¬ (q = 32 ∨ q = 33 ∨ q = 34 ∨ q = 35 ∨ q = 36) → fi2 q = fi q) → WP d 181 123 [some (.ref 31), some (.int zi)] [] g fi2 fl P) : ∀ (n k : Nat) (fi2 : am_I) (zi : Int32), k + n = 5 → zi.toInt = (k : Int) → (∀ j, j < k → fi2 32 j = fi 55 j) → (∀ j, j < k → fi2 33 j = fi 56 j) → (∀ j, j < k → fi2 34 j = fi 57 j) → (∀ j, j < k → fi2 35 j = fi 58 j) → (∀ j, j < k → fi2 36 j = fi 59 j) → (∀ q, ¬ (q = 32 ∨ q = 33 ∨ q = 34 ∨ q = 35 ∨ q = 36) → fi2 q = fi q) → WP d 181 52 [some (.ref 31), some (.int zi)] [] g fi2 fl P := by
  intro n
  induction n with
  | zero =>
    intro k fi2 zi hkn hzi h0 h1 h2 h3 h4 h5
    have hkT : k = 5 := by omega
    subst hkT
    refine wi_iload_1 ct_181_52 ?_
    refine wi_ic ct_181_53 kc_5 ?_
    refine wi_icge_t ct_181_54 hzi ki_5 (by omega) ?_
    exact kk _ _ h0 h1 h2 h3 h4 h5
  | succ n ih =>
    intro k fi2 zi hkn hzi h0 h1 h2 h3 h4 h5
    refine wi_iload_1 ct_181_52 ?_
    refine wi_ic ct_181_53 kc_5 ?_
    refine wi_icge_f ct_181_54 hzi ki_5 (by omega) ?_
    refine wi_aload_0 ct_181_57 ?_
    refine wi_gfr ct_181_58 (sT_31 hS) rfl (sR_31_2 hS) ?_
    refine wi_iload_1 ct_181_61 ?_
    refine wi_aload_0 ct_181_62 ?_
    refine wi_gfr ct_181_63 (sT_31 hS) rfl (sR_31_53 hS) ?_
    refine wi_iload_1 ct_181_66 ?_
    refine wi_iald (x := fi 55 k) ct_181_67 (sT_55 hS) (sL_55 hS) (i_in hzi (by omega)) (i_cl (k := k) hzi (by omega)) (congrFun (h5 55 (by decide)) _) ?_
    refine wi_iast ct_181_68 (sT_32 hS) (sL_32 hS) (i_in hzi (by omega)) (i_cl (k := k) hzi (by omega)) ?_
    refine wi_aload_0 ct_181_69 ?_
    refine wi_gfr ct_181_70 (sT_31 hS) rfl (sR_31_3 hS) ?_
    refine wi_iload_1 ct_181_73 ?_
    refine wi_aload_0 ct_181_74 ?_
    refine wi_gfr ct_181_75 (sT_31 hS) rfl (sR_31_54 hS) ?_
    refine wi_iload_1 ct_181_78 ?_
    refine wi_iald (x := fi 56 k) ct_181_79 (sT_56 hS) (sL_56 hS) (i_in hzi (by omega)) (i_cl (k := k) hzi (by omega)) (Eq.trans (up2_nq (by decide)) (congrFun (h5 56 (by decide)) _)) ?_
    refine wi_iast ct_181_80 (sT_33 hS) (sL_33 hS) (i_in hzi (by omega)) (i_cl (k := k) hzi (by omega)) ?_
    refine wi_aload_0 ct_181_81 ?_
    refine wi_gfr ct_181_82 (sT_31 hS) rfl (sR_31_4 hS) ?_
    refine wi_iload_1 ct_181_85 ?_
    refine wi_aload_0 ct_181_86 ?_
    refine wi_gfr ct_181_87 (sT_31 hS) rfl (sR_31_55 hS) ?_
    refine wi_iload_1 ct_181_90 ?_
    refine wi_iald (x := fi 57 k) ct_181_91 (sT_57 hS) (sL_57 hS) (i_in hzi (by omega)) (i_cl (k := k) hzi (by omega)) (Eq.trans (up2_nq (by decide)) (Eq.trans (up2_nq (by decide)) (congrFun (h5 57 (by decide)) _))) ?_
    refine wi_iast ct_181_92 (sT_34 hS) (sL_34 hS) (i_in hzi (by omega)) (i_cl (k := k) hzi (by omega)) ?_
    refine wi_aload_0 ct_181_93 ?_
    refine wi_gfr ct_181_94 (sT_31 hS) rfl (sR_31_5 hS) ?_
    refine wi_iload_1 ct_181_97 ?_
    refine wi_aload_0 ct_181_98 ?_
    refine wi_gfr ct_181_99 (sT_31 hS) rfl (sR_31_56 hS) ?_
    refine wi_iload_1 ct_181_102 ?_
    refine wi_iald (x := fi 58 k) ct_181_103 (sT_58 hS) (sL_58 hS) (i_in hzi (by omega)) (i_cl (k := k) hzi (by omega)) (Eq.trans (up2_nq (by decide)) (Eq.trans (up2_nq (by decide)) (Eq.trans (up2_nq (by decide)) (congrFun (h5 58 (by decide)) _)))) ?_
    refine wi_iast ct_181_104 (sT_35 hS) (sL_35 hS) (i_in hzi (by omega)) (i_cl (k := k) hzi (by omega)) ?_
    refine wi_aload_0 ct_181_105 ?_
    refine wi_gfr ct_181_106 (sT_31 hS) rfl (sR_31_6 hS) ?_
    refine wi_iload_1 ct_181_109 ?_
    refine wi_aload_0 ct_181_110 ?_
    refine wi_gfr ct_181_111 (sT_31 hS) rfl (sR_31_57 hS) ?_
    refine wi_iload_1 ct_181_114 ?_
    refine wi_iald (x := fi 59 k) ct_181_115 (sT_59 hS) (sL_59 hS) (i_in hzi (by omega)) (i_cl (k := k) hzi (by omega)) (Eq.trans (up2_nq (by decide)) (Eq.trans (up2_nq (by decide)) (Eq.trans (up2_nq (by decide)) (Eq.trans (up2_nq (by decide)) (congrFun (h5 59 (by decide)) _))))) ?_
    refine wi_iast ct_181_116 (sT_36 hS) (sL_36 hS) (i_in hzi (by omega)) (i_cl (k := k) hzi (by omega)) ?_
    refine wi_iinc_1 rfl (z := (zi + 1)) ct_181_117 (by rw [kc_1]) ?_
    refine wi_goto ct_181_120 ?_
    exact ih (k + 1) _ _ (by omega) ((i_add hzi ki_1 (by omega)).trans (by omega)) (fun j hj => by
      rcases Decidable.em (j = k) with e | e
      · rw [e]; exact (Eq.trans (up2_nq (by decide)) (Eq.trans (up2_nq (by decide)) (Eq.trans (up2_nq (by decide)) (Eq.trans (up2_nq (by decide)) up2_eq))))
      · exact ((Eq.trans (up2_nq (by decide)) (Eq.trans (up2_nq (by decide)) (Eq.trans (up2_nq (by decide)) (Eq.trans (up2_nq (by decide)) (up2_nj e)))))).trans (h0 j (by omega))) (fun j hj => by
      rcases Decidable.em (j = k) with e | e
      · rw [e]; exact (Eq.trans (up2_nq (by decide)) (Eq.trans (up2_nq (by decide)) (Eq.trans (up2_nq (by decide)) up2_eq)))
      · exact ((Eq.trans (up2_nq (by decide)) (Eq.trans (up2_nq (by decide)) (Eq.trans (up2_nq (by decide)) (Eq.trans (up2_nj e) (up2_nq (by decide))))))).trans (h1 j (by omega))) (fun j hj => by
      rcases Decidable.em (j = k) with e | e
      · rw [e]; exact (Eq.trans (up2_nq (by decide)) (Eq.trans (up2_nq (by decide)) up2_eq))
      · exact ((Eq.trans (up2_nq (by decide)) (Eq.trans (up2_nq (by decide)) (Eq.trans (up2_nj e) (Eq.trans (up2_nq (by decide)) (up2_nq (by decide))))))).trans (h2 j (by omega))) (fun j hj => by
      rcases Decidable.em (j = k) with e | e
      · rw [e]; exact (Eq.trans (up2_nq (by decide)) up2_eq)
      · exact ((Eq.trans (up2_nq (by decide)) (Eq.trans (up2_nj e) (Eq.trans (up2_nq (by decide)) (Eq.trans (up2_nq (by decide)) (up2_nq (by decide))))))).trans (h3 j (by omega))) (fun j hj => by
      rcases Decidable.em (j = k) with e | e
      · rw [e]; exact up2_eq
      · exact ((Eq.trans (up2_nj e) (Eq.trans (up2_nq (by decide)) (Eq.trans (up2_nq (by decide)) (Eq.trans (up2_nq (by decide)) (up2_nq (by decide))))))).trans (h4 j (by omega))) (fun q hq => (Eq.trans (funext fun _ => up2_nq (by omega)) (Eq.trans (funext fun _ => up2_nq (by omega)) (Eq.trans (funext fun _ => up2_nq (by omega)) (Eq.trans (funext fun _ => up2_nq (by omega)) (Eq.trans (funext fun _ => up2_nq (by omega)) (h5 q hq)))))))
theorem vl_undo1 {L d : Nat} {g : am_G} {fi : am_I} {fl : am_L} {P : Option Value → am_G → am_I → am_L → Prop} (hS : SF L g) (kk : ∀ fi2 zi, (∀ j, j < 20 → fi2 37 j = fi 60 j) → (∀ q, ¬ (q = 37) → fi2 q = fi q) → WP d 181 149 [some (.ref 31), some (.int zi)] [] g fi2 fl P) : ∀ (n k : Nat) (fi2 : am_I) (zi : Int32), k + n = 20 → zi.toInt = (k : Int) → (∀ j, j < k → fi2 37 j = fi 60 j) → (∀ q, ¬ (q = 37) → fi2 q = fi q) → WP d 181 125 [some (.ref 31), some (.int zi)] [] g fi2 fl P := by
  intro n
  induction n with
  | zero =>
    intro k fi2 zi hkn hzi h0 h1
    have hkT : k = 20 := by omega
    subst hkT
    refine wi_iload_1 ct_181_125 ?_
    refine wi_ic ct_181_126 kc_20 ?_
    refine wi_icge_t ct_181_128 hzi ki_20 (by omega) ?_
    exact kk _ _ h0 h1
  | succ n ih =>
    intro k fi2 zi hkn hzi h0 h1
    refine wi_iload_1 ct_181_125 ?_
    refine wi_ic ct_181_126 kc_20 ?_
    refine wi_icge_f ct_181_128 hzi ki_20 (by omega) ?_
    refine wi_aload_0 ct_181_131 ?_
    refine wi_gfr ct_181_132 (sT_31 hS) rfl (sR_31_7 hS) ?_
    refine wi_iload_1 ct_181_135 ?_
    refine wi_aload_0 ct_181_136 ?_
    refine wi_gfr ct_181_137 (sT_31 hS) rfl (sR_31_58 hS) ?_
    refine wi_iload_1 ct_181_140 ?_
    refine wi_iald (x := fi 60 k) ct_181_141 (sT_60 hS) (sL_60 hS) (i_in hzi (by omega)) (i_cl (k := k) hzi (by omega)) (congrFun (h1 60 (by decide)) _) ?_
    refine wi_iast ct_181_142 (sT_37 hS) (sL_37 hS) (i_in hzi (by omega)) (i_cl (k := k) hzi (by omega)) ?_
    refine wi_iinc_1 rfl (z := (zi + 1)) ct_181_143 (by rw [kc_1]) ?_
    refine wi_goto ct_181_146 ?_
    exact ih (k + 1) _ _ (by omega) ((i_add hzi ki_1 (by omega)).trans (by omega)) (fun j hj => by
      rcases Decidable.em (j = k) with e | e
      · rw [e]; exact up2_eq
      · exact ((up2_nj e)).trans (h0 j (by omega))) (fun q hq => (Eq.trans (funext fun _ => up2_nq (by omega)) (h1 q hq)))
theorem vl_undo2 {L d : Nat} {g : am_G} {fi : am_I} {fl : am_L} {P : Option Value → am_G → am_I → am_L → Prop} (hS : SF L g) (kk : ∀ fi2 zi, (∀ j, j < 4 → fi2 38 j = fi 61 j) → (∀ q, ¬ (q = 38) → fi2 q = fi q) → WP d 181 174 [some (.ref 31), some (.int zi)] [] g fi2 fl P) : ∀ (n k : Nat) (fi2 : am_I) (zi : Int32), k + n = 4 → zi.toInt = (k : Int) → (∀ j, j < k → fi2 38 j = fi 61 j) → (∀ q, ¬ (q = 38) → fi2 q = fi q) → WP d 181 151 [some (.ref 31), some (.int zi)] [] g fi2 fl P := by
  intro n
  induction n with
  | zero =>
    intro k fi2 zi hkn hzi h0 h1
    have hkT : k = 4 := by omega
    subst hkT
    refine wi_iload_1 ct_181_151 ?_
    refine wi_ic ct_181_152 kc_4 ?_
    refine wi_icge_t ct_181_153 hzi ki_4 (by omega) ?_
    exact kk _ _ h0 h1
  | succ n ih =>
    intro k fi2 zi hkn hzi h0 h1
    refine wi_iload_1 ct_181_151 ?_
    refine wi_ic ct_181_152 kc_4 ?_
    refine wi_icge_f ct_181_153 hzi ki_4 (by omega) ?_
    refine wi_aload_0 ct_181_156 ?_
    refine wi_gfr ct_181_157 (sT_31 hS) rfl (sR_31_8 hS) ?_
    refine wi_iload_1 ct_181_160 ?_
    refine wi_aload_0 ct_181_161 ?_
    refine wi_gfr ct_181_162 (sT_31 hS) rfl (sR_31_59 hS) ?_
    refine wi_iload_1 ct_181_165 ?_
    refine wi_iald (x := fi 61 k) ct_181_166 (sT_61 hS) (sL_61 hS) (i_in hzi (by omega)) (i_cl (k := k) hzi (by omega)) (congrFun (h1 61 (by decide)) _) ?_
    refine wi_iast ct_181_167 (sT_38 hS) (sL_38 hS) (i_in hzi (by omega)) (i_cl (k := k) hzi (by omega)) ?_
    refine wi_iinc_1 rfl (z := (zi + 1)) ct_181_168 (by rw [kc_1]) ?_
    refine wi_goto ct_181_171 ?_
    exact ih (k + 1) _ _ (by omega) ((i_add hzi ki_1 (by omega)).trans (by omega)) (fun j hj => by
      rcases Decidable.em (j = k) with e | e
      · rw [e]; exact up2_eq
      · exact ((up2_nj e)).trans (h0 j (by omega))) (fun q hq => (Eq.trans (funext fun _ => up2_nq (by omega)) (h1 q hq)))
theorem vl_undo3 {L d : Nat} {g : am_G} {fi : am_I} {fl : am_L} {P : Option Value → am_G → am_I → am_L → Prop} (hS : SF L g) (kk : ∀ fi2 zi, (∀ j, j < 6 → fi2 50 j = fi 62 j) → (∀ j, j < 6 → fi2 51 j = fi 63 j) → (∀ j, j < 6 → fi2 52 j = fi 64 j) → (∀ q, ¬ (q = 50 ∨ q = 51 ∨ q = 52) → fi2 q = fi q) → WP d 181 224 [some (.ref 31), some (.int zi)] [] g fi2 fl P) : ∀ (n k : Nat) (fi2 : am_I) (zi : Int32), k + n = 6 → zi.toInt = (k : Int) → (∀ j, j < k → fi2 50 j = fi 62 j) → (∀ j, j < k → fi2 51 j = fi 63 j) → (∀ j, j < k → fi2 52 j = fi 64 j) → (∀ q, ¬ (q = 50 ∨ q = 51 ∨ q = 52) → fi2 q = fi q) → WP d 181 176 [some (.ref 31), some (.int zi)] [] g fi2 fl P := by
  intro n
  induction n with
  | zero =>
    intro k fi2 zi hkn hzi h0 h1 h2 h3
    have hkT : k = 6 := by omega
    subst hkT
    refine wi_iload_1 ct_181_176 ?_
    refine wi_ic ct_181_177 kc_6 ?_
    refine wi_icge_t ct_181_179 hzi ki_6 (by omega) ?_
    exact kk _ _ h0 h1 h2 h3
  | succ n ih =>
    intro k fi2 zi hkn hzi h0 h1 h2 h3
    refine wi_iload_1 ct_181_176 ?_
    refine wi_ic ct_181_177 kc_6 ?_
    refine wi_icge_f ct_181_179 hzi ki_6 (by omega) ?_
    refine wi_aload_0 ct_181_182 ?_
    refine wi_gfr ct_181_183 (sT_31 hS) rfl (sR_31_41 hS) ?_
    refine wi_iload_1 ct_181_186 ?_
    refine wi_aload_0 ct_181_187 ?_
    refine wi_gfr ct_181_188 (sT_31 hS) rfl (sR_31_60 hS) ?_
    refine wi_iload_1 ct_181_191 ?_
    refine wi_iald (x := fi 62 k) ct_181_192 (sT_62 hS) (sL_62 hS) (i_in hzi (by omega)) (i_cl (k := k) hzi (by omega)) (congrFun (h3 62 (by decide)) _) ?_
    refine wi_iast ct_181_193 (sT_50 hS) (sL_50 hS) (i_in hzi (by omega)) (i_cl (k := k) hzi (by omega)) ?_
    refine wi_aload_0 ct_181_194 ?_
    refine wi_gfr ct_181_195 (sT_31 hS) rfl (sR_31_42 hS) ?_
    refine wi_iload_1 ct_181_198 ?_
    refine wi_aload_0 ct_181_199 ?_
    refine wi_gfr ct_181_200 (sT_31 hS) rfl (sR_31_61 hS) ?_
    refine wi_iload_1 ct_181_203 ?_
    refine wi_iald (x := fi 63 k) ct_181_204 (sT_63 hS) (sL_63 hS) (i_in hzi (by omega)) (i_cl (k := k) hzi (by omega)) (Eq.trans (up2_nq (by decide)) (congrFun (h3 63 (by decide)) _)) ?_
    refine wi_iast ct_181_205 (sT_51 hS) (sL_51 hS) (i_in hzi (by omega)) (i_cl (k := k) hzi (by omega)) ?_
    refine wi_aload_0 ct_181_206 ?_
    refine wi_gfr ct_181_207 (sT_31 hS) rfl (sR_31_43 hS) ?_
    refine wi_iload_1 ct_181_210 ?_
    refine wi_aload_0 ct_181_211 ?_
    refine wi_gfr ct_181_212 (sT_31 hS) rfl (sR_31_62 hS) ?_
    refine wi_iload_1 ct_181_215 ?_
    refine wi_iald (x := fi 64 k) ct_181_216 (sT_64 hS) (sL_64 hS) (i_in hzi (by omega)) (i_cl (k := k) hzi (by omega)) (Eq.trans (up2_nq (by decide)) (Eq.trans (up2_nq (by decide)) (congrFun (h3 64 (by decide)) _))) ?_
    refine wi_iast ct_181_217 (sT_52 hS) (sL_52 hS) (i_in hzi (by omega)) (i_cl (k := k) hzi (by omega)) ?_
    refine wi_iinc_1 rfl (z := (zi + 1)) ct_181_218 (by rw [kc_1]) ?_
    refine wi_goto ct_181_221 ?_
    exact ih (k + 1) _ _ (by omega) ((i_add hzi ki_1 (by omega)).trans (by omega)) (fun j hj => by
      rcases Decidable.em (j = k) with e | e
      · rw [e]; exact (Eq.trans (up2_nq (by decide)) (Eq.trans (up2_nq (by decide)) up2_eq))
      · exact ((Eq.trans (up2_nq (by decide)) (Eq.trans (up2_nq (by decide)) (up2_nj e)))).trans (h0 j (by omega))) (fun j hj => by
      rcases Decidable.em (j = k) with e | e
      · rw [e]; exact (Eq.trans (up2_nq (by decide)) up2_eq)
      · exact ((Eq.trans (up2_nq (by decide)) (Eq.trans (up2_nj e) (up2_nq (by decide))))).trans (h1 j (by omega))) (fun j hj => by
      rcases Decidable.em (j = k) with e | e
      · rw [e]; exact up2_eq
      · exact ((Eq.trans (up2_nj e) (Eq.trans (up2_nq (by decide)) (up2_nq (by decide))))).trans (h2 j (by omega))) (fun q hq => (Eq.trans (funext fun _ => up2_nq (by omega)) (Eq.trans (funext fun _ => up2_nq (by omega)) (Eq.trans (funext fun _ => up2_nq (by omega)) (h3 q hq)))))
theorem vl_undo4 {L d : Nat} {g : am_G} {fi : am_I} {fl : am_L} {P : Option Value → am_G → am_I → am_L → Prop} (hS : SF L g) (hbit : ∀ j, j < 12 → am_bit (fi 66 j) = true) (kk : ∀ fi2 zi, (∀ j, j < 12 → fi2 53 j = fi 65 j) → (∀ j, j < 12 → fi2 54 j = fi 66 j) → (∀ q, ¬ (q = 53 ∨ q = 54) → fi2 q = fi q) → WP d 181 262 [some (.ref 31), some (.int zi)] [] g fi2 fl P) : ∀ (n k : Nat) (fi2 : am_I) (zi : Int32), k + n = 12 → zi.toInt = (k : Int) → (∀ j, j < k → fi2 53 j = fi 65 j) → (∀ j, j < k → fi2 54 j = fi 66 j) → (∀ q, ¬ (q = 53 ∨ q = 54) → fi2 q = fi q) → WP d 181 226 [some (.ref 31), some (.int zi)] [] g fi2 fl P := by
  intro n
  induction n with
  | zero =>
    intro k fi2 zi hkn hzi h0 h1 h2
    have hkT : k = 12 := by omega
    subst hkT
    refine wi_iload_1 ct_181_226 ?_
    refine wi_ic ct_181_227 kc_12 ?_
    refine wi_icge_t ct_181_229 hzi ki_12 (by omega) ?_
    exact kk _ _ h0 h1 h2
  | succ n ih =>
    intro k fi2 zi hkn hzi h0 h1 h2
    refine wi_iload_1 ct_181_226 ?_
    refine wi_ic ct_181_227 kc_12 ?_
    refine wi_icge_f ct_181_229 hzi ki_12 (by omega) ?_
    refine wi_aload_0 ct_181_232 ?_
    refine wi_gfr ct_181_233 (sT_31 hS) rfl (sR_31_45 hS) ?_
    refine wi_iload_1 ct_181_236 ?_
    refine wi_aload_0 ct_181_237 ?_
    refine wi_gfr ct_181_238 (sT_31 hS) rfl (sR_31_63 hS) ?_
    refine wi_iload_1 ct_181_241 ?_
    refine wi_iald (x := fi 65 k) ct_181_242 (sT_65 hS) (sL_65 hS) (i_in hzi (by omega)) (i_cl (k := k) hzi (by omega)) (congrFun (h2 65 (by decide)) _) ?_
    refine wi_iast ct_181_243 (sT_53 hS) (sL_53 hS) (i_in hzi (by omega)) (i_cl (k := k) hzi (by omega)) ?_
    refine wi_aload_0 ct_181_244 ?_
    refine wi_gfr ct_181_245 (sT_31 hS) rfl (sR_31_46 hS) ?_
    refine wi_iload_1 ct_181_248 ?_
    refine wi_aload_0 ct_181_249 ?_
    refine wi_gfr ct_181_250 (sT_31 hS) rfl (sR_31_64 hS) ?_
    refine wi_iload_1 ct_181_253 ?_
    refine wi_bald (x := fi 66 k) ct_181_254 (Or.inr (sT_66 hS)) (sL_66 hS) (i_in hzi (by omega)) (i_cl (k := k) hzi (by omega)) (Eq.trans (up2_nq (by decide)) (congrFun (h2 66 (by decide)) _)) ?_
    refine wi_zast ct_181_255 (sT_54 hS) (sL_54 hS) (i_in hzi (by omega)) (i_cl (k := k) hzi (by omega)) (hbit k (by omega)) ?_
    refine wi_iinc_1 rfl (z := (zi + 1)) ct_181_256 (by rw [kc_1]) ?_
    refine wi_goto ct_181_259 ?_
    exact ih (k + 1) _ _ (by omega) ((i_add hzi ki_1 (by omega)).trans (by omega)) (fun j hj => by
      rcases Decidable.em (j = k) with e | e
      · rw [e]; exact (Eq.trans (up2_nq (by decide)) up2_eq)
      · exact ((Eq.trans (up2_nq (by decide)) (up2_nj e))).trans (h0 j (by omega))) (fun j hj => by
      rcases Decidable.em (j = k) with e | e
      · rw [e]; exact up2_eq
      · exact ((Eq.trans (up2_nj e) (up2_nq (by decide)))).trans (h1 j (by omega))) (fun q hq => (Eq.trans (funext fun _ => up2_nq (by omega)) (Eq.trans (funext fun _ => up2_nq (by omega)) (h2 q hq))))
