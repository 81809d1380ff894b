theorem i_ofN {k : Nat} (h : k ≤ 2000000) : (Int32.ofNat k).toInt = (k : Int) := Int32.toInt_ofNat_of_lt (by omega)
theorem sl_step {a b S t : Nat} (h1 : b ≤ a + 1000) (h2 : a ≤ S + 1000 * t) : b ≤ S + 1000 * (t + 1) := by
  rw [Nat.mul_add, ← Nat.add_assoc]
  exact Nat.le_trans h1 (Nat.add_le_add_right h2 _)
theorem nx_step {a b t : Nat} (h1 : b ≤ a + 30) (h2 : a ≤ 72 + 30 * t) : b ≤ 72 + 30 * (t + 1) := by omega
set_option maxHeartbeats 4000000 in
theorem vl_law {L : Nat} {xs : Nat → Int32} {d : Nat} {P : Option Value → am_G → am_I → am_L → Prop} {S : Nat} (hL : L ≤ 3072) (kk : ∀ g fi fl, am_nx g ≤ 72 + 30 * 513 → am_sl g ≤ S + 1000 * 513 → P (some (.int 1)) g fi fl) : ∀ (m t : Nat) (own : Nat → Nat) (g : am_G) (fi : am_I) (fl : am_L) (i : Int32), t + m = 513 → i.toInt = ((6 * t : Nat) : Int) → 6 * t ≤ L + 5 → Rel L xs own g fi fl → am_nx g ≤ 72 + 30 * t → am_sl g ≤ S + 1000 * t → WP (d + 60) 211 18 [some (.retAddr 0), some (.ref 0), some (.ref 31), some (.int i)] [] g fi fl P := by
  intro m
  induction m with
  | zero =>
    intro t own g fi fl i htm hi ht6 hR hnx hsl
    omega
  | succ m ih =>
    intro t own g fi fl i htm hi ht6 hR hnx hsl
    have hS := hR.1
    have hsc := hR.2.1
    have hn : ∀ own2 g2 fi2 fl2, 6 * t + 6 ≤ L → Rel L xs own2 g2 fi2 fl2 → am_nx g2 ≤ am_nx g + 30 → am_sl g2 ≤ am_sl g + 1000 → WP (d + 60) 211 1359 [some (.retAddr 0), some (.ref 0), some (.ref 31), some (.int i)] [] g2 fi2 fl2 P := by
      intro own2 g2 fi2 fl2 h6 hR2 hnx2 hsl2
      refine wi_iinc_3 rfl (z := (i + 6)) ct_211_1359 (by rw [kc_6]) ?_
      refine wi_goto ct_211_1362 ?_
      exact ih (t + 1) own2 g2 fi2 fl2 _ (by omega) ((i_add hi ki_6 (by omega)).trans (by omega)) (by omega) hR2 (nx_step hnx2 hnx) (sl_step hsl2 hsl)
    have hLz : (Int32.ofNat L).toInt = (L : Int) := i_ofN (by omega)
    obtain ⟨x, hxe⟩ : ∃ x, xs (6 * t) = x := ⟨_, rfl⟩
    refine wi_iload_3 ct_211_18 ?_
    refine wi_aloadT_0 ct_211_19 ?_
    refine wi_lenT ct_211_20 hS.2.2.2.1 rfl ?_
    refine wi_ic ct_211_21 kc_6 ?_
    refine wi_isub ct_211_23 rfl ?_
    refine wi_icgt ct_211_24 hi (i_sub hLz ki_6 (by omega)) (fun h1 => ?_) (fun h1 => ?_)
    · skip
      refine wi_ic ct_211_1365 kc_1 ?_
      refine wi_iret ct_211_1366 (by decide) ?_
      exact kk g fi fl (by omega) (by omega)
    · skip
      refine wi_aloadT_0 ct_211_27 ?_
      refine wi_iload_3 ct_211_28 ?_
      refine wi_ialdT (j := 6 * t) (x := x) ct_211_29 (sL_SC hS) (i_in hi (by omega)) (i_cl hi (by omega)) ((hsc _).trans hxe) ?_
      refine wi_ic ct_211_30 kc_63 ?_
      refine wi_iand ct_211_32 rfl ?_
      obtain ⟨y, hy⟩ : ∃ y, (x &&& 63) = y := ⟨_, rfl⟩
      rw [hy]
      rcases Decidable.em ((y).toInt = 0) with h2 | h2
      · refine wi_tsw (X := 0) (t := 192) ct_211_33 (by omega) rfl ?_
        exact op_blower (I := 6 * t) hi (by omega) hL hR (by omega) (fun own2 g2 fi2 fl2 a b c => hn own2 g2 fi2 fl2 (by omega) a b c)
      rcases Decidable.em ((y).toInt = 1) with h3 | h3
      · refine wi_tsw (X := 1) (t := 245) ct_211_33 (by omega) rfl ?_
        exact op_of (I := 6 * t) hi (by omega) hL hR (by omega) (fun own2 g2 fi2 fl2 a b c => hn own2 g2 fi2 fl2 (by omega) a b c)
      rcases Decidable.em ((y).toInt = 2) with h4 | h4
      · refine wi_tsw (X := 2) (t := 278) ct_211_33 (by omega) rfl ?_
        exact op_set (I := 6 * t) hi (by omega) hL hR (by omega) (fun own2 g2 fi2 fl2 a b c => hn own2 g2 fi2 fl2 (by omega) a b c)
      rcases Decidable.em ((y).toInt = 3) with h5 | h5
      · refine wi_tsw (X := 3) (t := 321) ct_211_33 (by omega) rfl ?_
        exact op_mix (I := 6 * t) hi (by omega) hL hR (by omega) (fun own2 g2 fi2 fl2 a b c => hn own2 g2 fi2 fl2 (by omega) a b c)
      rcases Decidable.em ((y).toInt = 4) with h6 | h6
      · refine wi_tsw (X := 4) (t := 354) ct_211_33 (by omega) rfl ?_
        exact op_row (I := 6 * t) hi (by omega) hL hR (by omega) (fun own2 g2 fi2 fl2 a b c => hn own2 g2 fi2 fl2 (by omega) a b c)
      rcases Decidable.em ((y).toInt = 5) with h7 | h7
      · refine wi_tsw (X := 5) (t := 397) ct_211_33 (by omega) rfl ?_
        exact op_feed (I := 6 * t) hi (by omega) hL hR (by omega) (fun own2 g2 fi2 fl2 a b c => hn own2 g2 fi2 fl2 (by omega) a b c)
      rcases Decidable.em ((y).toInt = 6) with h8 | h8
      · refine wi_tsw (X := 6) (t := 420) ct_211_33 (by omega) rfl ?_
        exact op_square (I := 6 * t) hi (by omega) hL hR (by omega) (fun own2 g2 fi2 fl2 a b c => hn own2 g2 fi2 fl2 (by omega) a b c)
      rcases Decidable.em ((y).toInt = 7) with h9 | h9
      · refine wi_tsw (X := 7) (t := 433) ct_211_33 (by omega) rfl ?_
        exact op_told (I := 6 * t) hi (by omega) hL hR (by omega) (fun own2 g2 fi2 fl2 a b c => hn own2 g2 fi2 fl2 (by omega) a b c)
      rcases Decidable.em ((y).toInt = 8) with h10 | h10
      · refine wi_tsw (X := 8) (t := 456) ct_211_33 (by omega) rfl ?_
        exact op_pause (I := 6 * t) hi (by omega) hL hR (by omega) (fun own2 g2 fi2 fl2 a b c => hn own2 g2 fi2 fl2 (by omega) a b c)
      rcases Decidable.em ((y).toInt = 9) with h11 | h11
      · refine wi_tsw (X := 9) (t := 479) ct_211_33 (by omega) rfl ?_
        exact op_go (I := 6 * t) hi (by omega) hL hR (by omega) (fun own2 g2 fi2 fl2 a b c => hn own2 g2 fi2 fl2 (by omega) a b c)
      rcases Decidable.em ((y).toInt = 10) with h12 | h12
      · refine wi_tsw (X := 10) (t := 502) ct_211_33 (by omega) rfl ?_
        exact op_would (I := 6 * t) hi (by omega) hL hR (by omega) (fun own2 g2 fi2 fl2 a b c => hn own2 g2 fi2 fl2 (by omega) a b c)
      rcases Decidable.em ((y).toInt = 11) with h13 | h13
      · refine wi_tsw (X := 11) (t := 535) ct_211_33 (by omega) rfl ?_
        exact op_aim (I := 6 * t) hi (by omega) hL hR (by omega) (fun own2 g2 fi2 fl2 a b c => hn own2 g2 fi2 fl2 (by omega) a b c)
      rcases Decidable.em ((y).toInt = 12) with h14 | h14
      · refine wi_tsw (X := 12) (t := 568) ct_211_33 (by omega) rfl ?_
        exact op_cord (I := 6 * t) hi (by omega) hL hR (by omega) (fun own2 g2 fi2 fl2 a b c => hn own2 g2 fi2 fl2 (by omega) a b c)
      rcases Decidable.em ((y).toInt = 13) with h15 | h15
      · refine wi_tsw (X := 13) (t := 601) ct_211_33 (by omega) rfl ?_
        exact op_best (I := 6 * t) hi (by omega) hL hR (by omega) (fun own2 g2 fi2 fl2 a b c => hn own2 g2 fi2 fl2 (by omega) a b c)
      rcases Decidable.em ((y).toInt = 14) with h16 | h16
      · refine wi_tsw (X := 14) (t := 634) ct_211_33 (by omega) rfl ?_
        exact op_when (I := 6 * t) hi (by omega) hL hR (by omega) (fun own2 g2 fi2 fl2 a b c => hn own2 g2 fi2 fl2 (by omega) a b c)
      rcases Decidable.em ((y).toInt = 15) with h17 | h17
      · refine wi_tsw (X := 15) (t := 667) ct_211_33 (by omega) rfl ?_
        exact op_day (I := 6 * t) hi (by omega) hL hR (by omega) (fun own2 g2 fi2 fl2 a b c => hn own2 g2 fi2 fl2 (by omega) a b c)
      rcases Decidable.em ((y).toInt = 16) with h18 | h18
      · refine wi_tsw (X := 16) (t := 700) ct_211_33 (by omega) rfl ?_
        exact op_most (I := 6 * t) hi (by omega) hL hR (by omega) (fun own2 g2 fi2 fl2 a b c => hn own2 g2 fi2 fl2 (by omega) a b c)
      rcases Decidable.em ((y).toInt = 17) with h19 | h19
      · refine wi_tsw (X := 17) (t := 723) ct_211_33 (by omega) rfl ?_
        exact op_longest (I := 6 * t) hi (by omega) hL hR (by omega) (fun own2 g2 fi2 fl2 a b c => hn own2 g2 fi2 fl2 (by omega) a b c)
      rcases Decidable.em ((y).toInt = 18) with h20 | h20
      · refine wi_tsw (X := 18) (t := 756) ct_211_33 (by omega) rfl ?_
        exact op_see (I := 6 * t) hi (by omega) hL hR (by omega) (fun own2 g2 fi2 fl2 a b c => hn own2 g2 fi2 fl2 (by omega) a b c)
      rcases Decidable.em ((y).toInt = 19) with h21 | h21
      · refine wi_tsw (X := 19) (t := 799) ct_211_33 (by omega) rfl ?_
        exact op_was (I := 6 * t) hi (by omega) hL hR (by omega) (fun own2 g2 fi2 fl2 a b c => hn own2 g2 fi2 fl2 (by omega) a b c)
      rcases Decidable.em ((y).toInt = 20) with h22 | h22
      · refine wi_tsw (X := 20) (t := 812) ct_211_33 (by omega) rfl ?_
        exact op_calm (I := 6 * t) hi (by omega) hL hR (by omega) (fun own2 g2 fi2 fl2 a b c => hn own2 g2 fi2 fl2 (by omega) a b c)
      rcases Decidable.em ((y).toInt = 21) with h23 | h23
      · refine wi_tsw (X := 21) (t := 835) ct_211_33 (by omega) rfl ?_
        exact op_odds (I := 6 * t) hi (by omega) hL hR (by omega) (fun own2 g2 fi2 fl2 a b c => hn own2 g2 fi2 fl2 (by omega) a b c)
      rcases Decidable.em ((y).toInt = 22) with h24 | h24
      · refine wi_tsw (X := 22) (t := 869) ct_211_33 (by omega) rfl ?_
        exact op_mean (I := 6 * t) hi (by omega) hL hR (by omega) (fun own2 g2 fi2 fl2 a b c => hn own2 g2 fi2 fl2 (by omega) a b c)
      rcases Decidable.em ((y).toInt = 23) with h25 | h25
      · refine wi_tsw (X := 23) (t := 903) ct_211_33 (by omega) rfl ?_
        exact op_book (I := 6 * t) hi (by omega) hL hR (by omega) (fun own2 g2 fi2 fl2 a b c => hn own2 g2 fi2 fl2 (by omega) a b c)
      rcases Decidable.em ((y).toInt = 24) with h26 | h26
      · refine wi_tsw (X := 24) (t := 952) ct_211_33 (by omega) rfl ?_
        exact op_looked (I := 6 * t) hi (by omega) hL hR (by omega) (fun own2 g2 fi2 fl2 a b c => hn own2 g2 fi2 fl2 (by omega) a b c)
      rcases Decidable.em ((y).toInt = 25) with h27 | h27
      · refine wi_tsw (X := 25) (t := 965) ct_211_33 (by omega) rfl ?_
        exact op_judge (I := 6 * t) hi (by omega) hL hR (by omega) (fun own2 g2 fi2 fl2 a b c => hn own2 g2 fi2 fl2 (by omega) a b c)
      rcases Decidable.em ((y).toInt = 26) with h28 | h28
      · refine wi_tsw (X := 26) (t := 998) ct_211_33 (by omega) rfl ?_
        exact op_image (I := 6 * t) hi (by omega) hL hR (by omega) (fun own2 g2 fi2 fl2 a b c => hn own2 g2 fi2 fl2 (by omega) a b c)
      rcases Decidable.em ((y).toInt = 27) with h29 | h29
      · refine wi_tsw (X := 27) (t := 1011) ct_211_33 (by omega) rfl ?_
        exact op_undo (I := 6 * t) hi (by omega) hL hR (by omega) (fun own2 g2 fi2 fl2 a b c => hn own2 g2 fi2 fl2 (by omega) a b c)
      rcases Decidable.em ((y).toInt = 28) with h30 | h30
      · refine wi_tsw (X := 28) (t := 1024) ct_211_33 (by omega) rfl ?_
        exact op_act (I := 6 * t) hi (by omega) hL hR (by omega) (fun own2 g2 fi2 fl2 a b c => hn own2 g2 fi2 fl2 (by omega) a b c)
      rcases Decidable.em ((y).toInt = 29) with h31 | h31
      · refine wi_tsw (X := 29) (t := 1067) ct_211_33 (by omega) rfl ?_
        exact op_trace (I := 6 * t) hi (by omega) hL hR (by omega) (fun own2 g2 fi2 fl2 a b c => hn own2 g2 fi2 fl2 (by omega) a b c)
      rcases Decidable.em ((y).toInt = 30) with h32 | h32
      · refine wi_tsw (X := 30) (t := 1090) ct_211_33 (by omega) rfl ?_
        exact op_taken (I := 6 * t) hi (by omega) hL hR (by omega) (fun own2 g2 fi2 fl2 a b c => hn own2 g2 fi2 fl2 (by omega) a b c)
      rcases Decidable.em ((y).toInt = 31) with h33 | h33
      · refine wi_tsw (X := 31) (t := 1123) ct_211_33 (by omega) rfl ?_
        exact op_count (I := 6 * t) hi (by omega) hL hR (by omega) (fun own2 g2 fi2 fl2 a b c => hn own2 g2 fi2 fl2 (by omega) a b c)
      rcases Decidable.em ((y).toInt = 32) with h34 | h34
      · refine wi_tsw (X := 32) (t := 1146) ct_211_33 (by omega) rfl ?_
        exact op_tape (I := 6 * t) hi (by omega) hL hR (by omega) (fun own2 g2 fi2 fl2 a b c => hn own2 g2 fi2 fl2 (by omega) a b c)
      rcases Decidable.em ((y).toInt = 33) with h35 | h35
      · refine wi_tsw (X := 33) (t := 1189) ct_211_33 (by omega) rfl ?_
        exact op_item (I := 6 * t) hi (by omega) hL hR (by omega) (fun own2 g2 fi2 fl2 a b c => hn own2 g2 fi2 fl2 (by omega) a b c)
      rcases Decidable.em ((y).toInt = 34) with h36 | h36
      · refine wi_tsw (X := 34) (t := 1262) ct_211_33 (by omega) rfl ?_
        exact op_read (I := 6 * t) hi (by omega) hL hR (by omega) (fun own2 g2 fi2 fl2 a b c => hn own2 g2 fi2 fl2 (by omega) a b c)
      rcases Decidable.em ((y).toInt = 35) with h37 | h37
      · refine wi_tsw (X := 35) (t := 1296) ct_211_33 (by omega) rfl ?_
        exact op_shift (I := 6 * t) hi (by omega) hL hR (by omega) (fun own2 g2 fi2 fl2 a b c => hn own2 g2 fi2 fl2 (by omega) a b c)
      refine wi_tsw (t := 1359) ct_211_33 rfl ((am_tswD (by omega)).trans rfl) ?_
      exact hn own g fi fl (by omega) hR (by omega) (by omega)
