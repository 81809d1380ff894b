def CB (g g2 : am_G) (fi fi2 : am_I) : Prop := am_nx g2 = 72 ∧ am_sl g2 ≤ am_sl g + 6000 ∧ (∀ q, q < 31 ∨ q = am_SC → g2.1 q = g.1 q ∧ g2.2.1 q = g.2.1 q ∧ g2.2.2.1 q = g.2.2.1 q ∧ fi2 q = fi q) ∧ (∀ q, q < 41 → g2.1 (31 + q) = am_tT (31 + q)) ∧ (∀ q, q < 41 → g2.2.1 (31 + q) = am_tL (31 + q)) ∧ (∀ e ∈ am_tR, 31 ≤ e.1 → g2.2.2.1 e.1 e.2.1 = some e.2.2) ∧ (fi2 31 0 = 0 ∧ fi2 31 1 = 0 ∧ fi2 31 9 = 0 ∧ fi2 31 10 = -1 ∧ fi2 31 11 = 0 ∧ fi2 31 40 = 0 ∧ fi2 31 44 = 0 ∧ fi2 31 65 = 0 ∧ fi2 31 35 = 0 ∧ fi2 31 36 = 0 ∧ fi2 31 47 = 0) ∧ (fi2 38 0 = 5 ∧ fi2 38 1 = 3 ∧ fi2 38 2 = 0 ∧ fi2 38 3 = 20) ∧ RL fi2 ∧ (∀ j, fi2 54 j = 0) ∧ ∀ t, t < 6 → fi2 68 t = -1 ∧ fi2 69 t = 0
def CI (k S : Nat) (g0 : am_G) (fi0 : am_I) (R : Nat → Nat → Option Nat) (V : Nat → Nat → Int32) (g : am_G) (fi : am_I) : Prop := am_nx g = k ∧ am_sl g = S ∧ 31 ≤ k ∧ (∀ q, 31 ≤ q → q < k → g.1 q = am_tT q ∧ g.2.1 q = am_tL q ∧ (∀ j, g.2.2.1 q j = R q j) ∧ ∀ j, fi q j = V q j) ∧ (∀ q, k ≤ q → (∀ j, R q j = none) ∧ ∀ j, V q j = 0) ∧ ∀ q, q < 31 ∨ q = am_SC → g.1 q = g0.1 q ∧ g.2.1 q = g0.2.1 q ∧ g.2.2.1 q = g0.2.2.1 q ∧ fi q = fi0 q
theorem ne_A {q p : Nat} (h : q < 31 ∨ q = am_SC) (hp : 31 ≤ p ∧ p ≤ 100) : q ≠ p := by
  have : am_SC = 1000000 := rfl
  omega
section ACI
variable {k S : Nat} {g0 g g1 : am_G} {fi0 fi fi1 : am_I} {R : Nat → Nat → Option Nat} {V : Nat → Nat → Int32}
theorem CI.mk {sz : Nat} (h : CI k S g0 fi0 R V g fi) (hk : k ≤ 100) (m : mkF g g1 k (am_tT k) (am_tL k) sz) (z : clF fi fi1 k 0) : CI (k + 1) (S + sz) g0 fi0 R V g1 fi1 := by
  obtain ⟨h1, h2, h3, h4, h5, h6⟩ := h
  obtain ⟨m1, m2, m3, m4, m5, m6, m7⟩ := m
  refine ⟨m2, by rw [m3, h2], by omega, fun q a b => ?_, fun q a => h5 q (by omega), fun q a => ?_⟩
  · rcases Decidable.em (q = k) with e | e
    · subst e
      exact ⟨m4, m5, fun j => (m6 j).trans ((h5 q (Nat.le_refl _)).1 j).symm, fun j => (z.1 j).trans ((h5 q (Nat.le_refl _)).2 j).symm⟩
    · obtain ⟨a1, a2, a3⟩ := m7 q e
      rw [a1, a2, a3, z.2 q e]
      exact h4 q a (by omega)
  · have e : q ≠ k := ne_A a ⟨h3, hk⟩
    obtain ⟨a1, a2, a3⟩ := m7 q e
    rw [a1, a2, a3, z.2 q e]
    exact h6 q a
theorem CI.gr {q a : Nat} {x : Option Nat} (h : CI k S g0 fi0 R V g fi) (hq : 31 ≤ q ∧ q < k) (hk : q ≤ 100) : CI k S g0 fi0 (up2 R q a x) V (am_gr g q a x) fi := by
  obtain ⟨h1, h2, h3, h4, h5, h6⟩ := h
  refine ⟨h1, h2, h3, fun p b c => ?_, fun p b => ⟨fun j => (up2_nq (by omega)).trans ((h5 p b).1 j), (h5 p b).2⟩, fun p b => ?_⟩
  · obtain ⟨a1, a2, a3, a4⟩ := h4 p b c
    refine ⟨a1, a2, fun j => ?_, a4⟩
    show up2 g.2.2.1 q a x p j = up2 R q a x p j
    unfold up2
    rw [a3 j]
  · obtain ⟨a1, a2, a3, a4⟩ := h6 p b
    have e : p ≠ q := ne_A b ⟨hq.1, hk⟩
    exact ⟨a1, a2, (funext fun j => gr_nq e).trans a3, a4⟩
theorem CI.w {q a : Nat} {x : Int32} (h : CI k S g0 fi0 R V g fi) (hq : 31 ≤ q ∧ q < k) (hk : q ≤ 100) : CI k S g0 fi0 R (up2 V q a x) g (up2 fi q a x) := by
  obtain ⟨h1, h2, h3, h4, h5, h6⟩ := h
  refine ⟨h1, h2, h3, fun p b c => ?_, fun p b => ⟨(h5 p b).1, fun j => (up2_nq (by omega)).trans ((h5 p b).2 j)⟩, fun p b => ?_⟩
  · obtain ⟨a1, a2, a3, a4⟩ := h4 p b c
    refine ⟨a1, a2, a3, fun j => ?_⟩
    unfold up2
    rw [a4 j]
  · obtain ⟨a1, a2, a3, a4⟩ := h6 p b
    have e : p ≠ q := ne_A b ⟨hq.1, hk⟩
    exact ⟨a1, a2, a3, (funext fun j => up2_nq e).trans a4⟩
theorem CI.t (h : CI k S g0 fi0 R V g fi) {q : Nat} (hq : 31 ≤ q ∧ q < k) : g.1 q = am_tT q := (h.2.2.2.1 q hq.1 hq.2).1
theorem CI.l (h : CI k S g0 fi0 R V g fi) {q : Nat} (hq : 31 ≤ q ∧ q < k) : g.2.1 q = am_tL q := (h.2.2.2.1 q hq.1 hq.2).2.1
theorem CI.r (h : CI k S g0 fi0 R V g fi) {q : Nat} (hq : 31 ≤ q ∧ q < k) (j : Nat) : g.2.2.1 q j = R q j := (h.2.2.2.1 q hq.1 hq.2).2.2.1 j
theorem CI.v (h : CI k S g0 fi0 R V g fi) {q : Nat} (hq : 31 ≤ q ∧ q < k) (j : Nat) : fi q j = V q j := (h.2.2.2.1 q hq.1 hq.2).2.2.2 j
end ACI
set_option maxHeartbeats 8000000 in
theorem ct_B {L : Nat} {xs : Nat → Int32} {d : Nat} {g : am_G} {fi : am_I} {fl : am_L} {P : Option Value → am_G → am_I → am_L → Prop} (hA : CA L xs g fi) (kk : ∀ g2 fi2 fl2, CB g g2 fi fi2 → WP (d + 60) 211 18 [some (.retAddr 0), some (.ref 0), some (.ref 31), some (.int 0)] [] g2 fi2 fl2 P) : WP (d + 60) 211 8 [some (.retAddr 0), some (.ref 0), none, none] [] g fi fl P := by
  have hI0 : CI 31 (am_sl g) g fi (fun _ _ => none) (fun _ _ => 0) g fi := ⟨hA.1, rfl, Nat.le_refl _, fun q a b => absurd a (Nat.not_le_of_lt b), fun _ _ => ⟨fun _ => rfl, fun _ => rfl⟩, fun _ _ => ⟨rfl, rfl, rfl, rfl⟩⟩
  refine wi_newF (p := 31) ct_211_8 hI0.1 (by decide) (fun gn1 fin1 fln1 hmn1 hzn1 hln1 => ?_)
  have hI2 : CI 32 _ _ _ _ _ _ _ := CI.mk hI0 (by decide) hmn1 hzn1
  refine wi_dup ct_211_11 rfl ?_
  refine wi_cp0 (ls' := [some _]) ct_211_12 (Nat.le_of_ble_eq_true rfl) (hI2.t (q := 31) (by decide) : _ = 12) (by decide) rfl (Nat.le_of_ble_eq_true rfl) ?_
  refine wi_aload_0 ct_118_0 ?_
  refine wi_obj ct_118_1 (Nat.le_of_ble_eq_true rfl) ?_
  refine wi_aload_0 ct_118_4 ?_
  refine wi_ic ct_118_5 kc_0 ?_
  refine wi_pf ct_118_6 (hI2.t (q := 31) (by decide) : _ = 12) rfl ?_
  have hI3 := CI.w (q := 31) (a := 0) (x := 0) hI2 (by decide) (by decide)
  refine wi_aload_0 ct_118_9 ?_
  refine wi_ic ct_118_10 kc_0 ?_
  refine wi_pf ct_118_11 (hI3.t (q := 31) (by decide) : _ = 12) rfl ?_
  have hI4 := CI.w (q := 31) (a := 1) (x := 0) hI3 (by decide) (by decide)
  refine wi_aload_0 ct_118_14 ?_
  refine wi_ic ct_118_15 kc_5 ?_
  refine wi_newaF (p := 32) ct_118_16 (by decide) (by decide : _ = 5) hI4.1 (by decide) (fun gn5 fin5 fln5 hmn5 hzn5 hln5 => ?_)
  have hI6 : CI 33 _ _ _ _ _ _ _ := CI.mk hI4 (by decide) hmn5 hzn5
  refine wi_pfr ct_118_18 (hI6.t (q := 31) (by decide) : _ = 12) rfl ?_
  have hI7 := CI.gr (q := 31) (a := 2) (x := some 32) hI6 (by decide) (by decide)
  refine wi_aload_0 ct_118_21 ?_
  refine wi_ic ct_118_22 kc_5 ?_
  refine wi_newaF (p := 33) ct_118_23 (by decide) (by decide : _ = 5) hI7.1 (by decide) (fun gn8 fin8 fln8 hmn8 hzn8 hln8 => ?_)
  have hI9 : CI 34 _ _ _ _ _ _ _ := CI.mk hI7 (by decide) hmn8 hzn8
  refine wi_pfr ct_118_25 (hI9.t (q := 31) (by decide) : _ = 12) rfl ?_
  have hI10 := CI.gr (q := 31) (a := 3) (x := some 33) hI9 (by decide) (by decide)
  refine wi_aload_0 ct_118_28 ?_
  refine wi_ic ct_118_29 kc_5 ?_
  refine wi_newaF (p := 34) ct_118_30 (by decide) (by decide : _ = 5) hI10.1 (by decide) (fun gn11 fin11 fln11 hmn11 hzn11 hln11 => ?_)
  have hI12 : CI 35 _ _ _ _ _ _ _ := CI.mk hI10 (by decide) hmn11 hzn11
  refine wi_pfr ct_118_32 (hI12.t (q := 31) (by decide) : _ = 12) rfl ?_
  have hI13 := CI.gr (q := 31) (a := 4) (x := some 34) hI12 (by decide) (by decide)
  refine wi_aload_0 ct_118_35 ?_
  refine wi_ic ct_118_36 kc_5 ?_
  refine wi_newaF (p := 35) ct_118_37 (by decide) (by decide : _ = 5) hI13.1 (by decide) (fun gn14 fin14 fln14 hmn14 hzn14 hln14 => ?_)
  have hI15 : CI 36 _ _ _ _ _ _ _ := CI.mk hI13 (by decide) hmn14 hzn14
  refine wi_pfr ct_118_39 (hI15.t (q := 31) (by decide) : _ = 12) rfl ?_
  have hI16 := CI.gr (q := 31) (a := 5) (x := some 35) hI15 (by decide) (by decide)
  refine wi_aload_0 ct_118_42 ?_
  refine wi_ic ct_118_43 kc_5 ?_
  refine wi_newaF (p := 36) ct_118_44 (by decide) (by decide : _ = 5) hI16.1 (by decide) (fun gn17 fin17 fln17 hmn17 hzn17 hln17 => ?_)
  have hI18 : CI 37 _ _ _ _ _ _ _ := CI.mk hI16 (by decide) hmn17 hzn17
  refine wi_pfr ct_118_46 (hI18.t (q := 31) (by decide) : _ = 12) rfl ?_
  have hI19 := CI.gr (q := 31) (a := 6) (x := some 36) hI18 (by decide) (by decide)
  refine wi_aload_0 ct_118_49 ?_
  refine wi_ic ct_118_50 kc_20 ?_
  refine wi_newaF (p := 37) ct_118_52 (by decide) (by decide : _ = 20) hI19.1 (by decide) (fun gn20 fin20 fln20 hmn20 hzn20 hln20 => ?_)
  have hI21 : CI 38 _ _ _ _ _ _ _ := CI.mk hI19 (by decide) hmn20 hzn20
  refine wi_pfr ct_118_54 (hI21.t (q := 31) (by decide) : _ = 12) rfl ?_
  have hI22 := CI.gr (q := 31) (a := 7) (x := some 37) hI21 (by decide) (by decide)
  refine wi_aload_0 ct_118_57 ?_
  refine wi_ic ct_118_58 kc_4 ?_
  refine wi_newaF (p := 38) ct_118_59 (by decide) (by decide : _ = 4) hI22.1 (by decide) (fun gn23 fin23 fln23 hmn23 hzn23 hln23 => ?_)
  have hI24 : CI 39 _ _ _ _ _ _ _ := CI.mk hI22 (by decide) hmn23 hzn23
  refine wi_dup ct_118_61 rfl ?_
  refine wi_ic ct_118_62 kc_0 ?_
  refine wi_ic ct_118_63 kc_5 ?_
  refine wi_iast ct_118_64 (hI24.t (q := 38) (by decide) : _ = 20) (hI24.l (q := 38) (by decide) : _ = 4) (by decide) kn_c0 ?_
  have hI25 := CI.w (q := 38) (a := 0) (x := 5) hI24 (by decide) (by decide)
  refine wi_dup ct_118_65 rfl ?_
  refine wi_ic ct_118_66 kc_1 ?_
  refine wi_ic ct_118_67 kc_3 ?_
  refine wi_iast ct_118_68 (hI25.t (q := 38) (by decide) : _ = 20) (hI25.l (q := 38) (by decide) : _ = 4) (by decide) kn_c1 ?_
  have hI26 := CI.w (q := 38) (a := 1) (x := 3) hI25 (by decide) (by decide)
  refine wi_dup ct_118_69 rfl ?_
  refine wi_ic ct_118_70 kc_2 ?_
  refine wi_ic ct_118_71 kc_0 ?_
  refine wi_iast ct_118_72 (hI26.t (q := 38) (by decide) : _ = 20) (hI26.l (q := 38) (by decide) : _ = 4) (by decide) kn_c2 ?_
  have hI27 := CI.w (q := 38) (a := 2) (x := 0) hI26 (by decide) (by decide)
  refine wi_dup ct_118_73 rfl ?_
  refine wi_ic ct_118_74 kc_3 ?_
  refine wi_ic ct_118_75 kc_20 ?_
  refine wi_iast ct_118_77 (hI27.t (q := 38) (by decide) : _ = 20) (hI27.l (q := 38) (by decide) : _ = 4) (by decide) kn_c3 ?_
  have hI28 := CI.w (q := 38) (a := 3) (x := 20) hI27 (by decide) (by decide)
  refine wi_pfr ct_118_78 (hI28.t (q := 31) (by decide) : _ = 12) rfl ?_
  have hI29 := CI.gr (q := 31) (a := 8) (x := some 38) hI28 (by decide) (by decide)
  refine wi_aload_0 ct_118_81 ?_
  refine wi_ic ct_118_82 kc_0 ?_
  refine wi_pf ct_118_83 (hI29.t (q := 31) (by decide) : _ = 12) rfl ?_
  have hI30 := CI.w (q := 31) (a := 9) (x := 0) hI29 (by decide) (by decide)
  refine wi_aload_0 ct_118_86 ?_
  refine wi_ic ct_118_87 kc_m1 ?_
  refine wi_pf ct_118_88 (hI30.t (q := 31) (by decide) : _ = 12) rfl ?_
  have hI31 := CI.w (q := 31) (a := 10) (x := (-1)) hI30 (by decide) (by decide)
  refine wi_aload_0 ct_118_91 ?_
  refine wi_ic ct_118_92 kc_0 ?_
  refine wi_pf ct_118_93 (hI31.t (q := 31) (by decide) : _ = 12) rfl ?_
  have hI32 := CI.w (q := 31) (a := 11) (x := 0) hI31 (by decide) (by decide)
  refine wi_aload_0 ct_118_96 ?_
  refine wi_ic ct_118_97 kc_0 ?_
  refine wi_pf ct_118_98 (hI32.t (q := 31) (by decide) : _ = 12) rfl ?_
  have hI33 := CI.w (q := 31) (a := 12) (x := 0) hI32 (by decide) (by decide)
  refine wi_aload_0 ct_118_101 ?_
  refine wi_ic ct_118_102 kc_0 ?_
  refine wi_pf ct_118_103 (hI33.t (q := 31) (by decide) : _ = 12) rfl ?_
  have hI34 := CI.w (q := 31) (a := 13) (x := 0) hI33 (by decide) (by decide)
  refine wi_aload_0 ct_118_106 ?_
  refine wi_ic ct_118_107 kc_100 ?_
  refine wi_newaF (p := 39) ct_118_109 (by decide) (by decide : _ = 100) hI34.1 (by decide) (fun gn35 fin35 fln35 hmn35 hzn35 hln35 => ?_)
  have hI36 : CI 40 _ _ _ _ _ _ _ := CI.mk hI34 (by decide) hmn35 hzn35
  refine wi_pfr ct_118_111 (hI36.t (q := 31) (by decide) : _ = 12) rfl ?_
  have hI37 := CI.gr (q := 31) (a := 14) (x := some 39) hI36 (by decide) (by decide)
  refine wi_aload_0 ct_118_114 ?_
  refine wi_ic ct_118_115 kc_6 ?_
  refine wi_newaF (p := 40) ct_118_117 (by decide) (by decide : _ = 6) hI37.1 (by decide) (fun gn38 fin38 fln38 hmn38 hzn38 hln38 => ?_)
  have hI39 : CI 41 _ _ _ _ _ _ _ := CI.mk hI37 (by decide) hmn38 hzn38
  refine wi_pfr ct_118_119 (hI39.t (q := 31) (by decide) : _ = 12) rfl ?_
  have hI40 := CI.gr (q := 31) (a := 15) (x := some 40) hI39 (by decide) (by decide)
  refine wi_aload_0 ct_118_122 ?_
  refine wi_ic ct_118_123 kc_60 ?_
  refine wi_newaF (p := 41) ct_118_125 (by decide) (by decide : _ = 60) hI40.1 (by decide) (fun gn41 fin41 fln41 hmn41 hzn41 hln41 => ?_)
  have hI42 : CI 42 _ _ _ _ _ _ _ := CI.mk hI40 (by decide) hmn41 hzn41
  refine wi_pfr ct_118_127 (hI42.t (q := 31) (by decide) : _ = 12) rfl ?_
  have hI43 := CI.gr (q := 31) (a := 16) (x := some 41) hI42 (by decide) (by decide)
  refine wi_aload_0 ct_118_130 ?_
  refine wi_ic ct_118_131 kc_60 ?_
  refine wi_newaF (p := 42) ct_118_133 (by decide) (by decide : _ = 60) hI43.1 (by decide) (fun gn44 fin44 fln44 hmn44 hzn44 hln44 => ?_)
  have hI45 : CI 43 _ _ _ _ _ _ _ := CI.mk hI43 (by decide) hmn44 hzn44
  refine wi_pfr ct_118_135 (hI45.t (q := 31) (by decide) : _ = 12) rfl ?_
  have hI46 := CI.gr (q := 31) (a := 17) (x := some 42) hI45 (by decide) (by decide)
  refine wi_aload_0 ct_118_138 ?_
  refine wi_ic ct_118_139 kc_60 ?_
  refine wi_newaF (p := 43) ct_118_141 (by decide) (by decide : _ = 60) hI46.1 (by decide) (fun gn47 fin47 fln47 hmn47 hzn47 hln47 => ?_)
  have hI48 : CI 44 _ _ _ _ _ _ _ := CI.mk hI46 (by decide) hmn47 hzn47
  refine wi_pfr ct_118_143 (hI48.t (q := 31) (by decide) : _ = 12) rfl ?_
  have hI49 := CI.gr (q := 31) (a := 18) (x := some 43) hI48 (by decide) (by decide)
  refine wi_aload_0 ct_118_146 ?_
  refine wi_ic ct_118_147 kc_60 ?_
  refine wi_newaF (p := 44) ct_118_149 (by decide) (by decide : _ = 60) hI49.1 (by decide) (fun gn50 fin50 fln50 hmn50 hzn50 hln50 => ?_)
  have hI51 : CI 45 _ _ _ _ _ _ _ := CI.mk hI49 (by decide) hmn50 hzn50
  refine wi_pfr ct_118_151 (hI51.t (q := 31) (by decide) : _ = 12) rfl ?_
  have hI52 := CI.gr (q := 31) (a := 19) (x := some 44) hI51 (by decide) (by decide)
  refine wi_aload_0 ct_118_154 ?_
  refine wi_ic ct_118_155 kc_600 ?_
  refine wi_newaF (p := 45) ct_118_158 (by decide) (by decide : _ = 600) hI52.1 (by decide) (fun gn53 fin53 fln53 hmn53 hzn53 hln53 => ?_)
  have hI54 : CI 46 _ _ _ _ _ _ _ := CI.mk hI52 (by decide) hmn53 hzn53
  refine wi_pfr ct_118_160 (hI54.t (q := 31) (by decide) : _ = 12) rfl ?_
  have hI55 := CI.gr (q := 31) (a := 20) (x := some 45) hI54 (by decide) (by decide)
  refine wi_aload_0 ct_118_163 ?_
  refine wi_ic ct_118_164 kc_101 ?_
  refine wi_newaF (p := 46) ct_118_166 (by decide) (by decide : _ = 101) hI55.1 (by decide) (fun gn56 fin56 fln56 hmn56 hzn56 hln56 => ?_)
  have hI57 : CI 47 _ _ _ _ _ _ _ := CI.mk hI55 (by decide) hmn56 hzn56
  refine wi_pfr ct_118_168 (hI57.t (q := 31) (by decide) : _ = 12) rfl ?_
  have hI58 := CI.gr (q := 31) (a := 21) (x := some 46) hI57 (by decide) (by decide)
  refine wi_aload_0 ct_118_171 ?_
  refine wi_ic ct_118_172 kc_0 ?_
  refine wi_pf ct_118_173 (hI58.t (q := 31) (by decide) : _ = 12) rfl ?_
  have hI59 := CI.w (q := 31) (a := 22) (x := 0) hI58 (by decide) (by decide)
  refine wi_aload_0 ct_118_176 ?_
  refine wi_ic ct_118_177 kc_0 ?_
  refine wi_pf ct_118_178 (hI59.t (q := 31) (by decide) : _ = 12) rfl ?_
  have hI60 := CI.w (q := 31) (a := 23) (x := 0) hI59 (by decide) (by decide)
  refine wi_aload_0 ct_118_181 ?_
  refine wi_ic ct_118_182 kc_0 ?_
  refine wi_pf ct_118_183 (hI60.t (q := 31) (by decide) : _ = 12) rfl ?_
  have hI61 := CI.w (q := 31) (a := 24) (x := 0) hI60 (by decide) (by decide)
  refine wi_aload_0 ct_118_186 ?_
  refine wi_ic ct_118_187 kc_11 ?_
  refine wi_newaF (p := 47) ct_118_189 (by decide) (by decide : _ = 11) hI61.1 (by decide) (fun gn62 fin62 fln62 hmn62 hzn62 hln62 => ?_)
  have hI63 : CI 48 _ _ _ _ _ _ _ := CI.mk hI61 (by decide) hmn62 hzn62
  refine wi_dup ct_118_191 rfl ?_
  refine wi_ic ct_118_192 kc_0 ?_
  refine wi_ic ct_118_193 kc_119 ?_
  refine wi_iast ct_118_195 (hI63.t (q := 47) (by decide) : _ = 20) (hI63.l (q := 47) (by decide) : _ = 11) (by decide) kn_c0 ?_
  have hI64 := CI.w (q := 47) (a := 0) (x := 119) hI63 (by decide) (by decide)
  refine wi_dup ct_118_196 rfl ?_
  refine wi_ic ct_118_197 kc_1 ?_
  refine wi_ic ct_118_198 kc_105 ?_
  refine wi_iast ct_118_200 (hI64.t (q := 47) (by decide) : _ = 20) (hI64.l (q := 47) (by decide) : _ = 11) (by decide) kn_c1 ?_
  have hI65 := CI.w (q := 47) (a := 1) (x := 105) hI64 (by decide) (by decide)
  refine wi_dup ct_118_201 rfl ?_
  refine wi_ic ct_118_202 kc_2 ?_
  refine wi_ic ct_118_203 kc_110 ?_
  refine wi_iast ct_118_205 (hI65.t (q := 47) (by decide) : _ = 20) (hI65.l (q := 47) (by decide) : _ = 11) (by decide) kn_c2 ?_
  have hI66 := CI.w (q := 47) (a := 2) (x := 110) hI65 (by decide) (by decide)
  refine wi_dup ct_118_206 rfl ?_
  refine wi_ic ct_118_207 kc_3 ?_
  refine wi_ic ct_118_208 kc_100 ?_
  refine wi_iast ct_118_210 (hI66.t (q := 47) (by decide) : _ = 20) (hI66.l (q := 47) (by decide) : _ = 11) (by decide) kn_c3 ?_
  have hI67 := CI.w (q := 47) (a := 3) (x := 100) hI66 (by decide) (by decide)
  refine wi_dup ct_118_211 rfl ?_
  refine wi_ic ct_118_212 kc_4 ?_
  refine wi_ic ct_118_213 kc_100 ?_
  refine wi_iast ct_118_215 (hI67.t (q := 47) (by decide) : _ = 20) (hI67.l (q := 47) (by decide) : _ = 11) (by decide) kn_c4 ?_
  have hI68 := CI.w (q := 47) (a := 4) (x := 100) hI67 (by decide) (by decide)
  refine wi_dup ct_118_216 rfl ?_
  refine wi_ic ct_118_217 kc_5 ?_
  refine wi_ic ct_118_218 kc_114 ?_
  refine wi_iast ct_118_220 (hI68.t (q := 47) (by decide) : _ = 20) (hI68.l (q := 47) (by decide) : _ = 11) (by decide) kn_c5 ?_
  have hI69 := CI.w (q := 47) (a := 5) (x := 114) hI68 (by decide) (by decide)
  refine wi_dup ct_118_221 rfl ?_
  refine wi_ic ct_118_222 kc_6 ?_
  refine wi_ic ct_118_224 kc_121 ?_
  refine wi_iast ct_118_226 (hI69.t (q := 47) (by decide) : _ = 20) (hI69.l (q := 47) (by decide) : _ = 11) (by decide) kn_c6 ?_
  have hI70 := CI.w (q := 47) (a := 6) (x := 121) hI69 (by decide) (by decide)
  refine wi_dup ct_118_227 rfl ?_
  refine wi_ic ct_118_228 kc_7 ?_
  refine wi_ic ct_118_230 kc_99 ?_
  refine wi_iast ct_118_232 (hI70.t (q := 47) (by decide) : _ = 20) (hI70.l (q := 47) (by decide) : _ = 11) (by decide) kn_c7 ?_
  have hI71 := CI.w (q := 47) (a := 7) (x := 99) hI70 (by decide) (by decide)
  refine wi_dup ct_118_233 rfl ?_
  refine wi_ic ct_118_234 kc_8 ?_
  refine wi_ic ct_118_236 kc_111 ?_
  refine wi_iast ct_118_238 (hI71.t (q := 47) (by decide) : _ = 20) (hI71.l (q := 47) (by decide) : _ = 11) (by decide) kn_c8 ?_
  have hI72 := CI.w (q := 47) (a := 8) (x := 111) hI71 (by decide) (by decide)
  refine wi_dup ct_118_239 rfl ?_
  refine wi_ic ct_118_240 kc_9 ?_
  refine wi_ic ct_118_242 kc_105 ?_
  refine wi_iast ct_118_244 (hI72.t (q := 47) (by decide) : _ = 20) (hI72.l (q := 47) (by decide) : _ = 11) (by decide) kn_c9 ?_
  have hI73 := CI.w (q := 47) (a := 9) (x := 105) hI72 (by decide) (by decide)
  refine wi_dup ct_118_245 rfl ?_
  refine wi_ic ct_118_246 kc_10 ?_
  refine wi_ic ct_118_248 kc_110 ?_
  refine wi_iast ct_118_250 (hI73.t (q := 47) (by decide) : _ = 20) (hI73.l (q := 47) (by decide) : _ = 11) (by decide) kn_c10 ?_
  have hI74 := CI.w (q := 47) (a := 10) (x := 110) hI73 (by decide) (by decide)
  refine wi_pfr ct_118_251 (hI74.t (q := 31) (by decide) : _ = 12) rfl ?_
  have hI75 := CI.gr (q := 31) (a := 25) (x := some 47) hI74 (by decide) (by decide)
  refine wi_aload_0 ct_118_254 ?_
  refine wi_ic ct_118_255 kc_100 ?_
  refine wi_newaF (p := 48) ct_118_257 (by decide) (by decide : _ = 100) hI75.1 (by decide) (fun gn76 fin76 fln76 hmn76 hzn76 hln76 => ?_)
  have hI77 : CI 49 _ _ _ _ _ _ _ := CI.mk hI75 (by decide) hmn76 hzn76
  refine wi_pfr ct_118_259 (hI77.t (q := 31) (by decide) : _ = 12) rfl ?_
  have hI78 := CI.gr (q := 31) (a := 26) (x := some 48) hI77 (by decide) (by decide)
  refine wi_aload_0 ct_118_262 ?_
  refine wi_ic ct_118_263 kc_0 ?_
  refine wi_pf ct_118_264 (hI78.t (q := 31) (by decide) : _ = 12) rfl ?_
  have hI79 := CI.w (q := 31) (a := 27) (x := 0) hI78 (by decide) (by decide)
  refine wi_aload_0 ct_118_267 ?_
  refine wi_ic ct_118_268 kc_0 ?_
  refine wi_pf ct_118_269 (hI79.t (q := 31) (by decide) : _ = 12) rfl ?_
  have hI80 := CI.w (q := 31) (a := 28) (x := 0) hI79 (by decide) (by decide)
  refine wi_aload_0 ct_118_272 ?_
  refine wi_ic ct_118_273 kc_0 ?_
  refine wi_pf ct_118_274 (hI80.t (q := 31) (by decide) : _ = 12) rfl ?_
  have hI81 := CI.w (q := 31) (a := 29) (x := 0) hI80 (by decide) (by decide)
  refine wi_aload_0 ct_118_277 ?_
  refine wi_ic ct_118_278 kc_0 ?_
  refine wi_pf ct_118_279 (hI81.t (q := 31) (by decide) : _ = 12) rfl ?_
  have hI82 := CI.w (q := 31) (a := 30) (x := 0) hI81 (by decide) (by decide)
  refine wi_aload_0 ct_118_282 ?_
  refine wi_ic ct_118_283 kc_0 ?_
  refine wi_pf ct_118_284 (hI82.t (q := 31) (by decide) : _ = 12) rfl ?_
  have hI83 := CI.w (q := 31) (a := 31) (x := 0) hI82 (by decide) (by decide)
  refine wi_aload_0 ct_118_287 ?_
  refine wi_ic ct_118_288 kc_0 ?_
  refine wi_pf ct_118_289 (hI83.t (q := 31) (by decide) : _ = 12) rfl ?_
  have hI84 := CI.w (q := 31) (a := 32) (x := 0) hI83 (by decide) (by decide)
  refine wi_aload_0 ct_118_292 ?_
  refine wi_ic ct_118_293 kc_0 ?_
  refine wi_pf ct_118_294 (hI84.t (q := 31) (by decide) : _ = 12) rfl ?_
  have hI85 := CI.w (q := 31) (a := 33) (x := 0) hI84 (by decide) (by decide)
  refine wi_aload_0 ct_118_297 ?_
  refine wi_ic ct_118_298 kc_0 ?_
  refine wi_pfz ct_118_299 (hI85.t (q := 31) (by decide) : _ = 12) rfl (by decide) ?_
  have hI86 := CI.w (q := 31) (a := 34) (x := 0) hI85 (by decide) (by decide)
  refine wi_aload_0 ct_118_302 ?_
  refine wi_ic ct_118_303 kc_0 ?_
  refine wi_pfz ct_118_304 (hI86.t (q := 31) (by decide) : _ = 12) rfl (by decide) ?_
  have hI87 := CI.w (q := 31) (a := 35) (x := 0) hI86 (by decide) (by decide)
  refine wi_aload_0 ct_118_307 ?_
  refine wi_ic ct_118_308 kc_0 ?_
  refine wi_pf ct_118_309 (hI87.t (q := 31) (by decide) : _ = 12) rfl ?_
  have hI88 := CI.w (q := 31) (a := 36) (x := 0) hI87 (by decide) (by decide)
  refine wi_aload_0 ct_118_312 ?_
  refine wi_ic ct_118_313 kc_5 ?_
  refine wi_newaF (p := 49) ct_118_314 (by decide) (by decide : _ = 5) hI88.1 (by decide) (fun gn89 fin89 fln89 hmn89 hzn89 hln89 => ?_)
  have hI90 : CI 50 _ _ _ _ _ _ _ := CI.mk hI88 (by decide) hmn89 hzn89
  refine wi_pfr ct_118_316 (hI90.t (q := 31) (by decide) : _ = 12) rfl ?_
  have hI91 := CI.gr (q := 31) (a := 37) (x := some 49) hI90 (by decide) (by decide)
  refine wi_aload_0 ct_118_319 ?_
  refine wi_ic ct_118_320 kc_0 ?_
  refine wi_pf ct_118_321 (hI91.t (q := 31) (by decide) : _ = 12) rfl ?_
  have hI92 := CI.w (q := 31) (a := 38) (x := 0) hI91 (by decide) (by decide)
  refine wi_aload_0 ct_118_324 ?_
  refine wi_ic ct_118_325 kc_0 ?_
  refine wi_pf ct_118_326 (hI92.t (q := 31) (by decide) : _ = 12) rfl ?_
  have hI93 := CI.w (q := 31) (a := 39) (x := 0) hI92 (by decide) (by decide)
  refine wi_aload_0 ct_118_329 ?_
  refine wi_ic ct_118_330 kc_0 ?_
  refine wi_pf ct_118_331 (hI93.t (q := 31) (by decide) : _ = 12) rfl ?_
  have hI94 := CI.w (q := 31) (a := 40) (x := 0) hI93 (by decide) (by decide)
  refine wi_aload_0 ct_118_334 ?_
  refine wi_ic ct_118_335 kc_6 ?_
  refine wi_newaF (p := 50) ct_118_337 (by decide) (by decide : _ = 6) hI94.1 (by decide) (fun gn95 fin95 fln95 hmn95 hzn95 hln95 => ?_)
  have hI96 : CI 51 _ _ _ _ _ _ _ := CI.mk hI94 (by decide) hmn95 hzn95
  refine wi_pfr ct_118_339 (hI96.t (q := 31) (by decide) : _ = 12) rfl ?_
  have hI97 := CI.gr (q := 31) (a := 41) (x := some 50) hI96 (by decide) (by decide)
  refine wi_aload_0 ct_118_342 ?_
  refine wi_ic ct_118_343 kc_6 ?_
  refine wi_newaF (p := 51) ct_118_345 (by decide) (by decide : _ = 6) hI97.1 (by decide) (fun gn98 fin98 fln98 hmn98 hzn98 hln98 => ?_)
  have hI99 : CI 52 _ _ _ _ _ _ _ := CI.mk hI97 (by decide) hmn98 hzn98
  refine wi_pfr ct_118_347 (hI99.t (q := 31) (by decide) : _ = 12) rfl ?_
  have hI100 := CI.gr (q := 31) (a := 42) (x := some 51) hI99 (by decide) (by decide)
  refine wi_aload_0 ct_118_350 ?_
  refine wi_ic ct_118_351 kc_6 ?_
  refine wi_newaF (p := 52) ct_118_353 (by decide) (by decide : _ = 6) hI100.1 (by decide) (fun gn101 fin101 fln101 hmn101 hzn101 hln101 => ?_)
  have hI102 : CI 53 _ _ _ _ _ _ _ := CI.mk hI100 (by decide) hmn101 hzn101
  refine wi_pfr ct_118_355 (hI102.t (q := 31) (by decide) : _ = 12) rfl ?_
  have hI103 := CI.gr (q := 31) (a := 43) (x := some 52) hI102 (by decide) (by decide)
  refine wi_aload_0 ct_118_358 ?_
  refine wi_ic ct_118_359 kc_0 ?_
  refine wi_pf ct_118_360 (hI103.t (q := 31) (by decide) : _ = 12) rfl ?_
  have hI104 := CI.w (q := 31) (a := 44) (x := 0) hI103 (by decide) (by decide)
  refine wi_aload_0 ct_118_363 ?_
  refine wi_ic ct_118_364 kc_12 ?_
  refine wi_newaF (p := 53) ct_118_366 (by decide) (by decide : _ = 12) hI104.1 (by decide) (fun gn105 fin105 fln105 hmn105 hzn105 hln105 => ?_)
  have hI106 : CI 54 _ _ _ _ _ _ _ := CI.mk hI104 (by decide) hmn105 hzn105
  refine wi_pfr ct_118_368 (hI106.t (q := 31) (by decide) : _ = 12) rfl ?_
  have hI107 := CI.gr (q := 31) (a := 45) (x := some 53) hI106 (by decide) (by decide)
  refine wi_aload_0 ct_118_371 ?_
  refine wi_ic ct_118_372 kc_12 ?_
  refine wi_newaF (p := 54) ct_118_374 (by decide) (by decide : _ = 12) hI107.1 (by decide) (fun gn108 fin108 fln108 hmn108 hzn108 hln108 => ?_)
  have hI109 : CI 55 _ _ _ _ _ _ _ := CI.mk hI107 (by decide) hmn108 hzn108
  refine wi_pfr ct_118_376 (hI109.t (q := 31) (by decide) : _ = 12) rfl ?_
  have hI110 := CI.gr (q := 31) (a := 46) (x := some 54) hI109 (by decide) (by decide)
  refine wi_aload_0 ct_118_379 ?_
  refine wi_ic ct_118_380 kc_0 ?_
  refine wi_pfz ct_118_381 (hI110.t (q := 31) (by decide) : _ = 12) rfl (by decide) ?_
  have hI111 := CI.w (q := 31) (a := 47) (x := 0) hI110 (by decide) (by decide)
  refine wi_aload_0 ct_118_384 ?_
  refine wi_ic ct_118_385 kc_m1 ?_
  refine wi_pf ct_118_386 (hI111.t (q := 31) (by decide) : _ = 12) rfl ?_
  have hI112 := CI.w (q := 31) (a := 48) (x := (-1)) hI111 (by decide) (by decide)
  refine wi_aload_0 ct_118_389 ?_
  refine wi_ic ct_118_390 kc_0 ?_
  refine wi_pf ct_118_391 (hI112.t (q := 31) (by decide) : _ = 12) rfl ?_
  have hI113 := CI.w (q := 31) (a := 49) (x := 0) hI112 (by decide) (by decide)
  refine wi_aload_0 ct_118_394 ?_
  refine wi_ic ct_118_395 kc_0 ?_
  refine wi_pf ct_118_396 (hI113.t (q := 31) (by decide) : _ = 12) rfl ?_
  have hI114 := CI.w (q := 31) (a := 50) (x := 0) hI113 (by decide) (by decide)
  refine wi_aload_0 ct_118_399 ?_
  refine wi_ic ct_118_400 kc_0 ?_
  refine wi_pf ct_118_401 (hI114.t (q := 31) (by decide) : _ = 12) rfl ?_
  have hI115 := CI.w (q := 31) (a := 51) (x := 0) hI114 (by decide) (by decide)
  refine wi_aload_0 ct_118_404 ?_
  refine wi_ic ct_118_405 kc_0 ?_
  refine wi_pf ct_118_406 (hI115.t (q := 31) (by decide) : _ = 12) rfl ?_
  have hI116 := CI.w (q := 31) (a := 52) (x := 0) hI115 (by decide) (by decide)
  refine wi_aload_0 ct_118_409 ?_
  refine wi_ic ct_118_410 kc_5 ?_
  refine wi_newaF (p := 55) ct_118_411 (by decide) (by decide : _ = 5) hI116.1 (by decide) (fun gn117 fin117 fln117 hmn117 hzn117 hln117 => ?_)
  have hI118 : CI 56 _ _ _ _ _ _ _ := CI.mk hI116 (by decide) hmn117 hzn117
  refine wi_pfr ct_118_413 (hI118.t (q := 31) (by decide) : _ = 12) rfl ?_
  have hI119 := CI.gr (q := 31) (a := 53) (x := some 55) hI118 (by decide) (by decide)
  refine wi_aload_0 ct_118_416 ?_
  refine wi_ic ct_118_417 kc_5 ?_
  refine wi_newaF (p := 56) ct_118_418 (by decide) (by decide : _ = 5) hI119.1 (by decide) (fun gn120 fin120 fln120 hmn120 hzn120 hln120 => ?_)
  have hI121 : CI 57 _ _ _ _ _ _ _ := CI.mk hI119 (by decide) hmn120 hzn120
  refine wi_pfr ct_118_420 (hI121.t (q := 31) (by decide) : _ = 12) rfl ?_
  have hI122 := CI.gr (q := 31) (a := 54) (x := some 56) hI121 (by decide) (by decide)
  refine wi_aload_0 ct_118_423 ?_
  refine wi_ic ct_118_424 kc_5 ?_
  refine wi_newaF (p := 57) ct_118_425 (by decide) (by decide : _ = 5) hI122.1 (by decide) (fun gn123 fin123 fln123 hmn123 hzn123 hln123 => ?_)
  have hI124 : CI 58 _ _ _ _ _ _ _ := CI.mk hI122 (by decide) hmn123 hzn123
  refine wi_pfr ct_118_427 (hI124.t (q := 31) (by decide) : _ = 12) rfl ?_
  have hI125 := CI.gr (q := 31) (a := 55) (x := some 57) hI124 (by decide) (by decide)
  refine wi_aload_0 ct_118_430 ?_
  refine wi_ic ct_118_431 kc_5 ?_
  refine wi_newaF (p := 58) ct_118_432 (by decide) (by decide : _ = 5) hI125.1 (by decide) (fun gn126 fin126 fln126 hmn126 hzn126 hln126 => ?_)
  have hI127 : CI 59 _ _ _ _ _ _ _ := CI.mk hI125 (by decide) hmn126 hzn126
  refine wi_pfr ct_118_434 (hI127.t (q := 31) (by decide) : _ = 12) rfl ?_
  have hI128 := CI.gr (q := 31) (a := 56) (x := some 58) hI127 (by decide) (by decide)
  refine wi_aload_0 ct_118_437 ?_
  refine wi_ic ct_118_438 kc_5 ?_
  refine wi_newaF (p := 59) ct_118_439 (by decide) (by decide : _ = 5) hI128.1 (by decide) (fun gn129 fin129 fln129 hmn129 hzn129 hln129 => ?_)
  have hI130 : CI 60 _ _ _ _ _ _ _ := CI.mk hI128 (by decide) hmn129 hzn129
  refine wi_pfr ct_118_441 (hI130.t (q := 31) (by decide) : _ = 12) rfl ?_
  have hI131 := CI.gr (q := 31) (a := 57) (x := some 59) hI130 (by decide) (by decide)
  refine wi_aload_0 ct_118_444 ?_
  refine wi_ic ct_118_445 kc_20 ?_
  refine wi_newaF (p := 60) ct_118_447 (by decide) (by decide : _ = 20) hI131.1 (by decide) (fun gn132 fin132 fln132 hmn132 hzn132 hln132 => ?_)
  have hI133 : CI 61 _ _ _ _ _ _ _ := CI.mk hI131 (by decide) hmn132 hzn132
  refine wi_pfr ct_118_449 (hI133.t (q := 31) (by decide) : _ = 12) rfl ?_
  have hI134 := CI.gr (q := 31) (a := 58) (x := some 60) hI133 (by decide) (by decide)
  refine wi_aload_0 ct_118_452 ?_
  refine wi_ic ct_118_453 kc_4 ?_
  refine wi_newaF (p := 61) ct_118_454 (by decide) (by decide : _ = 4) hI134.1 (by decide) (fun gn135 fin135 fln135 hmn135 hzn135 hln135 => ?_)
  have hI136 : CI 62 _ _ _ _ _ _ _ := CI.mk hI134 (by decide) hmn135 hzn135
  refine wi_pfr ct_118_456 (hI136.t (q := 31) (by decide) : _ = 12) rfl ?_
  have hI137 := CI.gr (q := 31) (a := 59) (x := some 61) hI136 (by decide) (by decide)
  refine wi_aload_0 ct_118_459 ?_
  refine wi_ic ct_118_460 kc_6 ?_
  refine wi_newaF (p := 62) ct_118_462 (by decide) (by decide : _ = 6) hI137.1 (by decide) (fun gn138 fin138 fln138 hmn138 hzn138 hln138 => ?_)
  have hI139 : CI 63 _ _ _ _ _ _ _ := CI.mk hI137 (by decide) hmn138 hzn138
  refine wi_pfr ct_118_464 (hI139.t (q := 31) (by decide) : _ = 12) rfl ?_
  have hI140 := CI.gr (q := 31) (a := 60) (x := some 62) hI139 (by decide) (by decide)
  refine wi_aload_0 ct_118_467 ?_
  refine wi_ic ct_118_468 kc_6 ?_
  refine wi_newaF (p := 63) ct_118_470 (by decide) (by decide : _ = 6) hI140.1 (by decide) (fun gn141 fin141 fln141 hmn141 hzn141 hln141 => ?_)
  have hI142 : CI 64 _ _ _ _ _ _ _ := CI.mk hI140 (by decide) hmn141 hzn141
  refine wi_pfr ct_118_472 (hI142.t (q := 31) (by decide) : _ = 12) rfl ?_
  have hI143 := CI.gr (q := 31) (a := 61) (x := some 63) hI142 (by decide) (by decide)
  refine wi_aload_0 ct_118_475 ?_
  refine wi_ic ct_118_476 kc_6 ?_
  refine wi_newaF (p := 64) ct_118_478 (by decide) (by decide : _ = 6) hI143.1 (by decide) (fun gn144 fin144 fln144 hmn144 hzn144 hln144 => ?_)
  have hI145 : CI 65 _ _ _ _ _ _ _ := CI.mk hI143 (by decide) hmn144 hzn144
  refine wi_pfr ct_118_480 (hI145.t (q := 31) (by decide) : _ = 12) rfl ?_
  have hI146 := CI.gr (q := 31) (a := 62) (x := some 64) hI145 (by decide) (by decide)
  refine wi_aload_0 ct_118_483 ?_
  refine wi_ic ct_118_484 kc_12 ?_
  refine wi_newaF (p := 65) ct_118_486 (by decide) (by decide : _ = 12) hI146.1 (by decide) (fun gn147 fin147 fln147 hmn147 hzn147 hln147 => ?_)
  have hI148 : CI 66 _ _ _ _ _ _ _ := CI.mk hI146 (by decide) hmn147 hzn147
  refine wi_pfr ct_118_488 (hI148.t (q := 31) (by decide) : _ = 12) rfl ?_
  have hI149 := CI.gr (q := 31) (a := 63) (x := some 65) hI148 (by decide) (by decide)
  refine wi_aload_0 ct_118_491 ?_
  refine wi_ic ct_118_492 kc_12 ?_
  refine wi_newaF (p := 66) ct_118_494 (by decide) (by decide : _ = 12) hI149.1 (by decide) (fun gn150 fin150 fln150 hmn150 hzn150 hln150 => ?_)
  have hI151 : CI 67 _ _ _ _ _ _ _ := CI.mk hI149 (by decide) hmn150 hzn150
  refine wi_pfr ct_118_496 (hI151.t (q := 31) (by decide) : _ = 12) rfl ?_
  have hI152 := CI.gr (q := 31) (a := 64) (x := some 66) hI151 (by decide) (by decide)
  refine wi_aload_0 ct_118_499 ?_
  refine wi_ic ct_118_500 kc_0 ?_
  refine wi_pf ct_118_501 (hI152.t (q := 31) (by decide) : _ = 12) rfl ?_
  have hI153 := CI.w (q := 31) (a := 65) (x := 0) hI152 (by decide) (by decide)
  refine wi_aload_0 ct_118_504 ?_
  refine wi_ic ct_118_505 kc_20 ?_
  refine wi_newaF (p := 67) ct_118_507 (by decide) (by decide : _ = 20) hI153.1 (by decide) (fun gn154 fin154 fln154 hmn154 hzn154 hln154 => ?_)
  have hI155 : CI 68 _ _ _ _ _ _ _ := CI.mk hI153 (by decide) hmn154 hzn154
  refine wi_pfr ct_118_509 (hI155.t (q := 31) (by decide) : _ = 12) rfl ?_
  have hI156 := CI.gr (q := 31) (a := 66) (x := some 67) hI155 (by decide) (by decide)
  refine wi_aload_0 ct_118_512 ?_
  refine wi_ic ct_118_513 kc_6 ?_
  refine wi_newaF (p := 68) ct_118_515 (by decide) (by decide : _ = 6) hI156.1 (by decide) (fun gn157 fin157 fln157 hmn157 hzn157 hln157 => ?_)
  have hI158 : CI 69 _ _ _ _ _ _ _ := CI.mk hI156 (by decide) hmn157 hzn157
  refine wi_dup ct_118_517 rfl ?_
  refine wi_ic ct_118_518 kc_0 ?_
  refine wi_ic ct_118_519 kc_m1 ?_
  refine wi_iast ct_118_520 (hI158.t (q := 68) (by decide) : _ = 20) (hI158.l (q := 68) (by decide) : _ = 6) (by decide) kn_c0 ?_
  have hI159 := CI.w (q := 68) (a := 0) (x := (-1)) hI158 (by decide) (by decide)
  refine wi_dup ct_118_521 rfl ?_
  refine wi_ic ct_118_522 kc_1 ?_
  refine wi_ic ct_118_523 kc_m1 ?_
  refine wi_iast ct_118_524 (hI159.t (q := 68) (by decide) : _ = 20) (hI159.l (q := 68) (by decide) : _ = 6) (by decide) kn_c1 ?_
  have hI160 := CI.w (q := 68) (a := 1) (x := (-1)) hI159 (by decide) (by decide)
  refine wi_dup ct_118_525 rfl ?_
  refine wi_ic ct_118_526 kc_2 ?_
  refine wi_ic ct_118_527 kc_m1 ?_
  refine wi_iast ct_118_528 (hI160.t (q := 68) (by decide) : _ = 20) (hI160.l (q := 68) (by decide) : _ = 6) (by decide) kn_c2 ?_
  have hI161 := CI.w (q := 68) (a := 2) (x := (-1)) hI160 (by decide) (by decide)
  refine wi_dup ct_118_529 rfl ?_
  refine wi_ic ct_118_530 kc_3 ?_
  refine wi_ic ct_118_531 kc_m1 ?_
  refine wi_iast ct_118_532 (hI161.t (q := 68) (by decide) : _ = 20) (hI161.l (q := 68) (by decide) : _ = 6) (by decide) kn_c3 ?_
  have hI162 := CI.w (q := 68) (a := 3) (x := (-1)) hI161 (by decide) (by decide)
  refine wi_dup ct_118_533 rfl ?_
  refine wi_ic ct_118_534 kc_4 ?_
  refine wi_ic ct_118_535 kc_m1 ?_
  refine wi_iast ct_118_536 (hI162.t (q := 68) (by decide) : _ = 20) (hI162.l (q := 68) (by decide) : _ = 6) (by decide) kn_c4 ?_
  have hI163 := CI.w (q := 68) (a := 4) (x := (-1)) hI162 (by decide) (by decide)
  refine wi_dup ct_118_537 rfl ?_
  refine wi_ic ct_118_538 kc_5 ?_
  refine wi_ic ct_118_539 kc_m1 ?_
  refine wi_iast ct_118_540 (hI163.t (q := 68) (by decide) : _ = 20) (hI163.l (q := 68) (by decide) : _ = 6) (by decide) kn_c5 ?_
  have hI164 := CI.w (q := 68) (a := 5) (x := (-1)) hI163 (by decide) (by decide)
  refine wi_pfr ct_118_541 (hI164.t (q := 31) (by decide) : _ = 12) rfl ?_
  have hI165 := CI.gr (q := 31) (a := 67) (x := some 68) hI164 (by decide) (by decide)
  refine wi_aload_0 ct_118_544 ?_
  refine wi_ic ct_118_545 kc_6 ?_
  refine wi_newaF (p := 69) ct_118_547 (by decide) (by decide : _ = 6) hI165.1 (by decide) (fun gn166 fin166 fln166 hmn166 hzn166 hln166 => ?_)
  have hI167 : CI 70 _ _ _ _ _ _ _ := CI.mk hI165 (by decide) hmn166 hzn166
  refine wi_pfr ct_118_549 (hI167.t (q := 31) (by decide) : _ = 12) rfl ?_
  have hI168 := CI.gr (q := 31) (a := 68) (x := some 69) hI167 (by decide) (by decide)
  refine wi_aload_0 ct_118_552 ?_
  refine wi_ic ct_118_553 kc_360 ?_
  refine wi_newaF (p := 70) ct_118_556 (by decide) (by decide : _ = 360) hI168.1 (by decide) (fun gn169 fin169 fln169 hmn169 hzn169 hln169 => ?_)
  have hI170 : CI 71 _ _ _ _ _ _ _ := CI.mk hI168 (by decide) hmn169 hzn169
  refine wi_pfr ct_118_558 (hI170.t (q := 31) (by decide) : _ = 12) rfl ?_
  have hI171 := CI.gr (q := 31) (a := 69) (x := some 70) hI170 (by decide) (by decide)
  refine wi_aload_0 ct_118_561 ?_
  refine wi_ic ct_118_562 kc_60 ?_
  refine wi_newaF (p := 71) ct_118_564 (by decide) (by decide : _ = 60) hI171.1 (by decide) (fun gn172 fin172 fln172 hmn172 hzn172 hln172 => ?_)
  have hI173 : CI 72 _ _ _ _ _ _ _ := CI.mk hI171 (by decide) hmn172 hzn172
  refine wi_pfr ct_118_566 (hI173.t (q := 31) (by decide) : _ = 12) rfl ?_
  have hI174 := CI.gr (q := 31) (a := 70) (x := some 71) hI173 (by decide) (by decide)
  refine wi_ret ct_118_569 (wk_v ?_)
  refine wi_astore_2 rfl ct_211_15 ?_
  refine wi_ic ct_211_16 kc_0 ?_
  refine wi_istore_3 rfl ct_211_17 ?_
  refine kk _ _ _ ⟨hI174.1, Nat.le_trans (Nat.le_of_eq hI174.2.1) ?_, hI174.2.2.2.2.2, fun q hq => hI174.t (q := 31 + q) ⟨Nat.le_add_right _ _, Nat.add_lt_add_left hq 31⟩, fun q hq => hI174.l (q := 31 + q) ⟨Nat.le_add_right _ _, Nat.add_lt_add_left hq 31⟩, ?_, ?_, ?_, ?_, fun j => (hI174.v (q := 54) (by decide) j).trans rfl, ?_⟩
  · have nf12 : am_nf 12 = 71 := rfl
    omega
  · unfold am_tR
    intro e he hlt
    simp only [List.mem_cons, List.not_mem_nil, or_false] at he
    rcases he with rfl | rfl | rfl | rfl | rfl | rfl | rfl | rfl | rfl | rfl | rfl | rfl | rfl | rfl | rfl | rfl | rfl | rfl | rfl | rfl | rfl | rfl | rfl | rfl | rfl | rfl | rfl | rfl | rfl | rfl | rfl | rfl | rfl | rfl | rfl | rfl | rfl | rfl | rfl | rfl | rfl | rfl | rfl | rfl | rfl | rfl | rfl | rfl | rfl | rfl | rfl | rfl | rfl | rfl | rfl | rfl | rfl | rfl | rfl | rfl | rfl | rfl | rfl | rfl | rfl | rfl | rfl | rfl | rfl | rfl
    · exact absurd hlt (by decide)
    · exact absurd hlt (by decide)
    · exact absurd hlt (by decide)
    · exact absurd hlt (by decide)
    · exact absurd hlt (by decide)
    · exact absurd hlt (by decide)
    · exact absurd hlt (by decide)
    · exact absurd hlt (by decide)
    · exact absurd hlt (by decide)
    · exact absurd hlt (by decide)
    · exact absurd hlt (by decide)
    · exact absurd hlt (by decide)
    · exact absurd hlt (by decide)
    · exact absurd hlt (by decide)
    · exact absurd hlt (by decide)
    · exact absurd hlt (by decide)
    · exact absurd hlt (by decide)
    · exact absurd hlt (by decide)
    · exact absurd hlt (by decide)
    · exact absurd hlt (by decide)
    · exact absurd hlt (by decide)
    · exact absurd hlt (by decide)
    · exact absurd hlt (by decide)
    · exact absurd hlt (by decide)
    · exact absurd hlt (by decide)
    · exact absurd hlt (by decide)
    · exact absurd hlt (by decide)
    · exact absurd hlt (by decide)
    · exact absurd hlt (by decide)
    · exact absurd hlt (by decide)
    · exact (hI174.r (q := 31) (by decide) 2).trans rfl
    · exact (hI174.r (q := 31) (by decide) 3).trans rfl
    · exact (hI174.r (q := 31) (by decide) 4).trans rfl
    · exact (hI174.r (q := 31) (by decide) 5).trans rfl
    · exact (hI174.r (q := 31) (by decide) 6).trans rfl
    · exact (hI174.r (q := 31) (by decide) 7).trans rfl
    · exact (hI174.r (q := 31) (by decide) 8).trans rfl
    · exact (hI174.r (q := 31) (by decide) 14).trans rfl
    · exact (hI174.r (q := 31) (by decide) 15).trans rfl
    · exact (hI174.r (q := 31) (by decide) 16).trans rfl
    · exact (hI174.r (q := 31) (by decide) 17).trans rfl
    · exact (hI174.r (q := 31) (by decide) 18).trans rfl
    · exact (hI174.r (q := 31) (by decide) 19).trans rfl
    · exact (hI174.r (q := 31) (by decide) 20).trans rfl
    · exact (hI174.r (q := 31) (by decide) 21).trans rfl
    · exact (hI174.r (q := 31) (by decide) 25).trans rfl
    · exact (hI174.r (q := 31) (by decide) 26).trans rfl
    · exact (hI174.r (q := 31) (by decide) 37).trans rfl
    · exact (hI174.r (q := 31) (by decide) 41).trans rfl
    · exact (hI174.r (q := 31) (by decide) 42).trans rfl
    · exact (hI174.r (q := 31) (by decide) 43).trans rfl
    · exact (hI174.r (q := 31) (by decide) 45).trans rfl
    · exact (hI174.r (q := 31) (by decide) 46).trans rfl
    · exact (hI174.r (q := 31) (by decide) 53).trans rfl
    · exact (hI174.r (q := 31) (by decide) 54).trans rfl
    · exact (hI174.r (q := 31) (by decide) 55).trans rfl
    · exact (hI174.r (q := 31) (by decide) 56).trans rfl
    · exact (hI174.r (q := 31) (by decide) 57).trans rfl
    · exact (hI174.r (q := 31) (by decide) 58).trans rfl
    · exact (hI174.r (q := 31) (by decide) 59).trans rfl
    · exact (hI174.r (q := 31) (by decide) 60).trans rfl
    · exact (hI174.r (q := 31) (by decide) 61).trans rfl
    · exact (hI174.r (q := 31) (by decide) 62).trans rfl
    · exact (hI174.r (q := 31) (by decide) 63).trans rfl
    · exact (hI174.r (q := 31) (by decide) 64).trans rfl
    · exact (hI174.r (q := 31) (by decide) 66).trans rfl
    · exact (hI174.r (q := 31) (by decide) 67).trans rfl
    · exact (hI174.r (q := 31) (by decide) 68).trans rfl
    · exact (hI174.r (q := 31) (by decide) 69).trans rfl
    · exact (hI174.r (q := 31) (by decide) 70).trans rfl
  · exact ⟨(hI174.v (q := 31) (by decide) 0).trans rfl, (hI174.v (q := 31) (by decide) 1).trans rfl, (hI174.v (q := 31) (by decide) 9).trans rfl, (hI174.v (q := 31) (by decide) 10).trans rfl, (hI174.v (q := 31) (by decide) 11).trans rfl, (hI174.v (q := 31) (by decide) 40).trans rfl, (hI174.v (q := 31) (by decide) 44).trans rfl, (hI174.v (q := 31) (by decide) 65).trans rfl, (hI174.v (q := 31) (by decide) 35).trans rfl, (hI174.v (q := 31) (by decide) 36).trans rfl, (hI174.v (q := 31) (by decide) 47).trans rfl⟩
  · exact ⟨(hI174.v (q := 38) (by decide) 0).trans rfl, (hI174.v (q := 38) (by decide) 1).trans rfl, (hI174.v (q := 38) (by decide) 2).trans rfl, (hI174.v (q := 38) (by decide) 3).trans rfl⟩
  · intro j hj
    match j, hj with
    | 0, _ => exact (congrArg Int32.toInt (hI174.v (q := 47) (by decide) 0)).trans (by decide)
    | 1, _ => exact (congrArg Int32.toInt (hI174.v (q := 47) (by decide) 1)).trans (by decide)
    | 2, _ => exact (congrArg Int32.toInt (hI174.v (q := 47) (by decide) 2)).trans (by decide)
    | 3, _ => exact (congrArg Int32.toInt (hI174.v (q := 47) (by decide) 3)).trans (by decide)
    | 4, _ => exact (congrArg Int32.toInt (hI174.v (q := 47) (by decide) 4)).trans (by decide)
    | 5, _ => exact (congrArg Int32.toInt (hI174.v (q := 47) (by decide) 5)).trans (by decide)
    | 6, _ => exact (congrArg Int32.toInt (hI174.v (q := 47) (by decide) 6)).trans (by decide)
    | 7, _ => exact (congrArg Int32.toInt (hI174.v (q := 47) (by decide) 7)).trans (by decide)
    | 8, _ => exact (congrArg Int32.toInt (hI174.v (q := 47) (by decide) 8)).trans (by decide)
    | 9, _ => exact (congrArg Int32.toInt (hI174.v (q := 47) (by decide) 9)).trans (by decide)
    | 10, _ => exact (congrArg Int32.toInt (hI174.v (q := 47) (by decide) 10)).trans (by decide)
    | j + 11, h => exact absurd h (by omega)
  · intro t ht
    match t, ht with
    | 0, _ => exact ⟨(hI174.v (q := 68) (by decide) 0).trans rfl, (hI174.v (q := 69) (by decide) 0).trans rfl⟩
    | 1, _ => exact ⟨(hI174.v (q := 68) (by decide) 1).trans rfl, (hI174.v (q := 69) (by decide) 1).trans rfl⟩
    | 2, _ => exact ⟨(hI174.v (q := 68) (by decide) 2).trans rfl, (hI174.v (q := 69) (by decide) 2).trans rfl⟩
    | 3, _ => exact ⟨(hI174.v (q := 68) (by decide) 3).trans rfl, (hI174.v (q := 69) (by decide) 3).trans rfl⟩
    | 4, _ => exact ⟨(hI174.v (q := 68) (by decide) 4).trans rfl, (hI174.v (q := 69) (by decide) 4).trans rfl⟩
    | 5, _ => exact ⟨(hI174.v (q := 68) (by decide) 5).trans rfl, (hI174.v (q := 69) (by decide) 5).trans rfl⟩
    | t + 6, h => exact absurd h (by omega)
