theorem am_bitI (a : Bool) : am_bit (bI a) = true := by
  cases a <;> rfl
theorem okH_le {T : Nat → Nat × Nat × Nat} {n k h : Nat} (H : okH T n k h) : h ≤ 20 := by
  cases n with
  | zero =>
    unfold okH at H
    omega
  | succ n =>
    unfold okH at H
    rcases H with ⟨_, _, _, h1, h2⟩ | ⟨_, _, h1, h2⟩ | ⟨_, _, h1, h2⟩ <;> omega
theorem vl_isSo {L : Nat} {d : Nat} {g : am_G} {fl : am_L} {P : Option Value → am_G → am_I → am_L → Prop} {fi : am_I} {q a0 a1 a2 a4 a5 a6 : Nat} {T : Nat → Nat × Nat × Nat} {F : Nat → Int} {f e : Int32} {hi : Nat} (hS : SF L g) (hp : SQp g q a0 a1 a2 a4 a5 a6) (he : e.toInt = (hi : Int)) (h100 : hi ≤ 100) (hF : ∀ j, j < 6 → (fi 16 j).toInt = F j) : ∀ (n k : Nat) (s : List Bool) (x i : Int32) (l6 l7 l8 : Option Value), k + n = hi → (∀ j, k ≤ j → j < hi → (fi a4 j).toInt = ((T j).1 : Int) ∧ (fi a5 j).toInt = ((T j).2.1 : Int) ∧ (fi a6 j).toInt = ((T j).2.2 : Int)) → okH T n k s.length → stk x s → i.toInt = (k : Int) → am_nl l6 = true → am_nl l7 = true → am_nl l8 = true → ((evl T F n k s).headD false = true → P (some (.int 1)) g fi fl) → ((evl T F n k s).headD false = false → P (some (.int 0)) g fi fl) → WP d 35 6 [some (.ref q), some (.int f), some (.int e), some (.ref 16), some (.int x), some (.int i), l6, l7, l8] [] g fi fl P := by
  obtain ⟨p0, ⟨p1a, p1b, p1c, p1d, p1e, p1f⟩, ⟨p2a, p2b, p2c, p2d, p2e, p2f⟩, ⟨p3a, p3b, p3c, p3d, p3e, p3f⟩⟩ := id hp
  intro n
  induction n with
  | zero =>
    intro k s x i l6 l7 l8 hkn hT hH hs hik h6 h7 h8 k1 k2
    have hkh : k = hi := by omega
    have hh := stk_hd hs
    refine wi_iload_5 ct_35_6 ?_
    refine wi_iload_2 ct_35_8 ?_
    refine wi_icge_t ct_35_9 hik he (by omega) ?_
    refine wi_iload_4 ct_35_194 ?_
    refine wi_ic ct_35_196 kc_1 ?_
    refine wi_iand ct_35_197 rfl ?_
    refine wi_ic ct_35_198 kc_1 ?_
    cases hb : s.headD false
    · skip
      rw [hb] at hh
      replace hh : ((x &&& 1)).toInt = 0 := hh
      refine wi_icne_t ct_35_199 hh ki_1 (by decide) ?_
      refine wi_ic ct_35_206 kc_0 ?_
      refine wi_iret ct_35_207 (by decide) ?_
      exact k2 hb
    · skip
      rw [hb] at hh
      replace hh : ((x &&& 1)).toInt = 1 := hh
      refine wi_icne_f ct_35_199 hh ki_1 (by decide) ?_
      refine wi_ic ct_35_202 kc_1 ?_
      refine wi_goto ct_35_203 ?_
      refine wi_iret ct_35_207 (by decide) ?_
      exact k1 hb
  | succ n ih =>
    intro k s x i l6 l7 l8 hkn hT hH hs hik h6 h7 h8 k1 k2
    obtain ⟨t1, t2, t3⟩ := hT k (Nat.le_refl _) (by omega)
    unfold okH at hH
    unfold evl at k1 k2
    have hT2 := fun j (h1 : k + 1 ≤ j) (h2 : j < hi) => hT j (by omega) h2
    have hik1 := i_add hik ki_1 (by omega)
    generalize hTk : T k = t at hH t1 t2 t3 k1 k2
    obtain ⟨C, R, M⟩ := t
    dsimp only at hH t1 t2 t3
    have hFc := hF C
    rcases hH with ⟨hc, hr, hl, hh, hn⟩ | ⟨hc, hh, hh2, hn⟩ | ⟨hc, hh, hh2, hn⟩
    · skip
      replace hFc := hFc (by omega)
      refine wi_iload_5 ct_35_6 ?_
      refine wi_iload_2 ct_35_8 ?_
      refine wi_icge_f ct_35_9 hik he (by omega) ?_
      refine wi_aload_0 ct_35_12 ?_
      refine wi_gfr ct_35_13 p0 rfl p1d ?_
      refine wi_iload_5 ct_35_16 ?_
      refine wi_iald (x := fi a4 k) ct_35_18 p2d p3d (i_in hik (by omega)) (i_cl (k := k) hik (by omega)) rfl ?_
      refine wi_istore_6 rfl ct_35_19 ?_
      refine wi_iload_6 ct_35_21 ?_
      refine wi_iflt_f ct_35_23 t1 (by omega) ?_
      refine wi_iload_6 ct_35_26 ?_
      refine wi_aload_3 ct_35_28 ?_
      refine wi_len (z := 6) ct_35_29 (sT_16 hS) (by decide) (sL_16 hS) (by decide) ?_
      refine wi_icge_f ct_35_30 t1 ki_6 (by omega) ?_
      refine wi_aload_3 ct_35_33 ?_
      refine wi_iload_6 ct_35_34 ?_
      refine wi_iald (x := fi 16 C) ct_35_36 (sT_16 hS) (sL_16 hS) (i_in t1 (by omega)) (i_cl (k := C) t1 (by omega)) rfl ?_
      refine wi_istore_7 rfl ct_35_37 ?_
      refine wi_aload_0 ct_35_39 ?_
      refine wi_gfr ct_35_40 p0 rfl p1e ?_
      refine wi_iload_5 ct_35_43 ?_
      refine wi_iald (x := fi a5 k) ct_35_45 p2e p3e (i_in hik (by omega)) (i_cl (k := k) hik (by omega)) rfl ?_
      refine wi_ifne ct_35_46 t2 (fun h1 => ?_) (fun h1 => ?_)
      · skip
        refine wi_aload_0 ct_35_69 ?_
        refine wi_gfr ct_35_70 p0 rfl p1e ?_
        refine wi_iload_5 ct_35_73 ?_
        refine wi_iald (x := fi a5 k) ct_35_75 p2e p3e (i_in hik (by omega)) (i_cl (k := k) hik (by omega)) rfl ?_
        refine wi_ic ct_35_76 kc_1 ?_
        refine wi_icne ct_35_77 t2 ki_1 (fun h2 => ?_) (fun h2 => ?_)
        · skip
          refine wi_iload_7 ct_35_100 ?_
          refine wi_aload_0 ct_35_102 ?_
          refine wi_gfr ct_35_103 p0 rfl p1f ?_
          refine wi_iload_5 ct_35_106 ?_
          refine wi_iald (x := fi a6 k) ct_35_108 p2f p3f (i_in hik (by omega)) (i_cl (k := k) hik (by omega)) rfl ?_
          refine wi_icle ct_35_109 rfl t3 (fun h3 => ?_) (fun h3 => ?_)
          · skip
            refine wi_ic ct_35_116 kc_0 ?_
            refine wi_istore_8 rfl ct_35_117 ?_
            have hv : tkv (C, R, M) F = false := by
              unfold tkv
              dsimp only
              rw [← hFc]
              rcases (by omega : R = 0 ∨ R = 1 ∨ R = 2) with rfl | rfl | rfl <;> simp <;> omega
            have ht : tks (C, R, M) F s = false :: s := by
              unfold tks
              rw [if_pos hc, hv]
            refine wi_iload_4 ct_35_119 ?_
            refine wi_ic ct_35_121 kc_1 ?_
            refine wi_ishl ct_35_122 rfl ?_
            refine wi_iload_8 ct_35_123 ?_
            refine wi_ifeq_t ct_35_125 ki_0 (by decide) ?_
            refine wi_ic ct_35_132 kc_0 ?_
            refine wi_ior ct_35_133 rfl ?_
            refine wi_istore_4 rfl ct_35_134 ?_
            refine wi_goto ct_35_136 ?_
            refine wi_iinc_5 rfl (z := (i + 1)) ct_35_188 (by rw [kc_1]) ?_
            refine wi_goto ct_35_191 ?_
            exact ih (k + 1) (false :: s) _ _ _ _ _ (by omega) hT2 (by simpa using hn) (stk_push0 hs) hik1 rfl rfl rfl (fun h => k1 (by rw [ht]; exact h)) (fun h => k2 (by rw [ht]; exact h))
          · skip
            refine wi_ic ct_35_112 kc_1 ?_
            refine wi_goto ct_35_113 ?_
            refine wi_istore_8 rfl ct_35_117 ?_
            have hv : tkv (C, R, M) F = true := by
              unfold tkv
              dsimp only
              rw [← hFc]
              rcases (by omega : R = 0 ∨ R = 1 ∨ R = 2) with rfl | rfl | rfl <;> simp <;> omega
            have ht : tks (C, R, M) F s = true :: s := by
              unfold tks
              rw [if_pos hc, hv]
            refine wi_iload_4 ct_35_119 ?_
            refine wi_ic ct_35_121 kc_1 ?_
            refine wi_ishl ct_35_122 rfl ?_
            refine wi_iload_8 ct_35_123 ?_
            refine wi_ifeq_f ct_35_125 ki_1 (by decide) ?_
            refine wi_ic ct_35_128 kc_1 ?_
            refine wi_goto ct_35_129 ?_
            refine wi_ior ct_35_133 rfl ?_
            refine wi_istore_4 rfl ct_35_134 ?_
            refine wi_goto ct_35_136 ?_
            refine wi_iinc_5 rfl (z := (i + 1)) ct_35_188 (by rw [kc_1]) ?_
            refine wi_goto ct_35_191 ?_
            exact ih (k + 1) (true :: s) _ _ _ _ _ (by omega) hT2 (by simpa using hn) (stk_push1 hs) hik1 rfl rfl rfl (fun h => k1 (by rw [ht]; exact h)) (fun h => k2 (by rw [ht]; exact h))
        · skip
          refine wi_iload_7 ct_35_80 ?_
          refine wi_aload_0 ct_35_82 ?_
          refine wi_gfr ct_35_83 p0 rfl p1f ?_
          refine wi_iload_5 ct_35_86 ?_
          refine wi_iald (x := fi a6 k) ct_35_88 p2f p3f (i_in hik (by omega)) (i_cl (k := k) hik (by omega)) rfl ?_
          refine wi_icne ct_35_89 rfl t3 (fun h4 => ?_) (fun h4 => ?_)
          · skip
            refine wi_ic ct_35_96 kc_0 ?_
            refine wi_goto ct_35_97 ?_
            refine wi_istore_8 rfl ct_35_117 ?_
            have hv : tkv (C, R, M) F = false := by
              unfold tkv
              dsimp only
              rw [← hFc]
              rcases (by omega : R = 0 ∨ R = 1 ∨ R = 2) with rfl | rfl | rfl <;> simp <;> omega
            have ht : tks (C, R, M) F s = false :: s := by
              unfold tks
              rw [if_pos hc, hv]
            refine wi_iload_4 ct_35_119 ?_
            refine wi_ic ct_35_121 kc_1 ?_
            refine wi_ishl ct_35_122 rfl ?_
            refine wi_iload_8 ct_35_123 ?_
            refine wi_ifeq_t ct_35_125 ki_0 (by decide) ?_
            refine wi_ic ct_35_132 kc_0 ?_
            refine wi_ior ct_35_133 rfl ?_
            refine wi_istore_4 rfl ct_35_134 ?_
            refine wi_goto ct_35_136 ?_
            refine wi_iinc_5 rfl (z := (i + 1)) ct_35_188 (by rw [kc_1]) ?_
            refine wi_goto ct_35_191 ?_
            exact ih (k + 1) (false :: s) _ _ _ _ _ (by omega) hT2 (by simpa using hn) (stk_push0 hs) hik1 rfl rfl rfl (fun h => k1 (by rw [ht]; exact h)) (fun h => k2 (by rw [ht]; exact h))
          · skip
            refine wi_ic ct_35_92 kc_1 ?_
            refine wi_goto ct_35_93 ?_
            refine wi_istore_8 rfl ct_35_117 ?_
            have hv : tkv (C, R, M) F = true := by
              unfold tkv
              dsimp only
              rw [← hFc]
              rcases (by omega : R = 0 ∨ R = 1 ∨ R = 2) with rfl | rfl | rfl <;> simp <;> omega
            have ht : tks (C, R, M) F s = true :: s := by
              unfold tks
              rw [if_pos hc, hv]
            refine wi_iload_4 ct_35_119 ?_
            refine wi_ic ct_35_121 kc_1 ?_
            refine wi_ishl ct_35_122 rfl ?_
            refine wi_iload_8 ct_35_123 ?_
            refine wi_ifeq_f ct_35_125 ki_1 (by decide) ?_
            refine wi_ic ct_35_128 kc_1 ?_
            refine wi_goto ct_35_129 ?_
            refine wi_ior ct_35_133 rfl ?_
            refine wi_istore_4 rfl ct_35_134 ?_
            refine wi_goto ct_35_136 ?_
            refine wi_iinc_5 rfl (z := (i + 1)) ct_35_188 (by rw [kc_1]) ?_
            refine wi_goto ct_35_191 ?_
            exact ih (k + 1) (true :: s) _ _ _ _ _ (by omega) hT2 (by simpa using hn) (stk_push1 hs) hik1 rfl rfl rfl (fun h => k1 (by rw [ht]; exact h)) (fun h => k2 (by rw [ht]; exact h))
      · skip
        refine wi_iload_7 ct_35_49 ?_
        refine wi_aload_0 ct_35_51 ?_
        refine wi_gfr ct_35_52 p0 rfl p1f ?_
        refine wi_iload_5 ct_35_55 ?_
        refine wi_iald (x := fi a6 k) ct_35_57 p2f p3f (i_in hik (by omega)) (i_cl (k := k) hik (by omega)) rfl ?_
        refine wi_icge ct_35_58 rfl t3 (fun h5 => ?_) (fun h5 => ?_)
        · skip
          refine wi_ic ct_35_65 kc_0 ?_
          refine wi_goto ct_35_66 ?_
          refine wi_istore_8 rfl ct_35_117 ?_
          have hv : tkv (C, R, M) F = false := by
            unfold tkv
            dsimp only
            rw [← hFc]
            rcases (by omega : R = 0 ∨ R = 1 ∨ R = 2) with rfl | rfl | rfl <;> simp <;> omega
          have ht : tks (C, R, M) F s = false :: s := by
            unfold tks
            rw [if_pos hc, hv]
          refine wi_iload_4 ct_35_119 ?_
          refine wi_ic ct_35_121 kc_1 ?_
          refine wi_ishl ct_35_122 rfl ?_
          refine wi_iload_8 ct_35_123 ?_
          refine wi_ifeq_t ct_35_125 ki_0 (by decide) ?_
          refine wi_ic ct_35_132 kc_0 ?_
          refine wi_ior ct_35_133 rfl ?_
          refine wi_istore_4 rfl ct_35_134 ?_
          refine wi_goto ct_35_136 ?_
          refine wi_iinc_5 rfl (z := (i + 1)) ct_35_188 (by rw [kc_1]) ?_
          refine wi_goto ct_35_191 ?_
          exact ih (k + 1) (false :: s) _ _ _ _ _ (by omega) hT2 (by simpa using hn) (stk_push0 hs) hik1 rfl rfl rfl (fun h => k1 (by rw [ht]; exact h)) (fun h => k2 (by rw [ht]; exact h))
        · skip
          refine wi_ic ct_35_61 kc_1 ?_
          refine wi_goto ct_35_62 ?_
          refine wi_istore_8 rfl ct_35_117 ?_
          have hv : tkv (C, R, M) F = true := by
            unfold tkv
            dsimp only
            rw [← hFc]
            rcases (by omega : R = 0 ∨ R = 1 ∨ R = 2) with rfl | rfl | rfl <;> simp <;> omega
          have ht : tks (C, R, M) F s = true :: s := by
            unfold tks
            rw [if_pos hc, hv]
          refine wi_iload_4 ct_35_119 ?_
          refine wi_ic ct_35_121 kc_1 ?_
          refine wi_ishl ct_35_122 rfl ?_
          refine wi_iload_8 ct_35_123 ?_
          refine wi_ifeq_f ct_35_125 ki_1 (by decide) ?_
          refine wi_ic ct_35_128 kc_1 ?_
          refine wi_goto ct_35_129 ?_
          refine wi_ior ct_35_133 rfl ?_
          refine wi_istore_4 rfl ct_35_134 ?_
          refine wi_goto ct_35_136 ?_
          refine wi_iinc_5 rfl (z := (i + 1)) ct_35_188 (by rw [kc_1]) ?_
          refine wi_goto ct_35_191 ?_
          exact ih (k + 1) (true :: s) _ _ _ _ _ (by omega) hT2 (by simpa using hn) (stk_push1 hs) hik1 rfl rfl rfl (fun h => k1 (by rw [ht]; exact h)) (fun h => k2 (by rw [ht]; exact h))
    · skip
      subst hc
      obtain ⟨a, r, rfl⟩ : ∃ a r, s = a :: r := by
        cases s with
        | nil => simp at hh
        | cons a r => exact ⟨a, r, rfl⟩
      have ht : tks (6, R, M) F (a :: r) = (!a) :: r := rfl
      have hn2 : okH T n (k + 1) ((!a) :: r).length := by simpa using hn
      refine wi_iload_5 ct_35_6 ?_
      refine wi_iload_2 ct_35_8 ?_
      refine wi_icge_f ct_35_9 hik he (by omega) ?_
      refine wi_aload_0 ct_35_12 ?_
      refine wi_gfr ct_35_13 p0 rfl p1d ?_
      refine wi_iload_5 ct_35_16 ?_
      refine wi_iald (x := fi a4 k) ct_35_18 p2d p3d (i_in hik (by omega)) (i_cl (k := k) hik (by omega)) rfl ?_
      refine wi_istore_6 rfl ct_35_19 ?_
      refine wi_iload_6 ct_35_21 ?_
      refine wi_iflt_f ct_35_23 t1 (by decide) ?_
      refine wi_iload_6 ct_35_26 ?_
      refine wi_aload_3 ct_35_28 ?_
      refine wi_len (z := 6) ct_35_29 (sT_16 hS) (by decide) (sL_16 hS) (by decide) ?_
      refine wi_icge_t ct_35_30 t1 ki_6 (by decide) ?_
      refine wi_iload_6 ct_35_139 ?_
      refine wi_ic ct_35_141 kc_6 ?_
      refine wi_icne_f ct_35_143 t1 ki_6 (by decide) ?_
      refine wi_iload_4 ct_35_146 ?_
      refine wi_ic ct_35_148 kc_1 ?_
      refine wi_ixor ct_35_149 rfl ?_
      refine wi_istore_4 rfl ct_35_150 ?_
      refine wi_goto ct_35_152 ?_
      refine wi_iinc_5 rfl (z := (i + 1)) ct_35_188 (by rw [kc_1]) ?_
      refine wi_goto ct_35_191 ?_
      exact ih (k + 1) ((!a) :: r) _ _ _ _ _ (by omega) hT2 hn2 (stk_not hs) hik1 rfl h7 h8 (fun h => k1 (by rw [ht]; exact h)) (fun h => k2 (by rw [ht]; exact h))
    · skip
      obtain ⟨a, b, r, rfl⟩ : ∃ a b r, s = a :: b :: r := by
        match s, hh with
        | a :: b :: r, _ => exact ⟨a, b, r, rfl⟩
        | [_], hh => exact absurd hh (by simp)
        | [], hh => exact absurd hh (by simp)
      have hl20 : r.length ≤ 20 := by
        have := hh2
        simp only [List.length_cons] at this
        omega
      rcases hc with hc | hc
      · skip
        subst hc
        have ht : tks (7, R, M) F (a :: b :: r) = (b && a) :: r := rfl
        have hn2 : okH T n (k + 1) ((b && a) :: r).length := by simpa using hn
        refine wi_iload_5 ct_35_6 ?_
        refine wi_iload_2 ct_35_8 ?_
        refine wi_icge_f ct_35_9 hik he (by omega) ?_
        refine wi_aload_0 ct_35_12 ?_
        refine wi_gfr ct_35_13 p0 rfl p1d ?_
        refine wi_iload_5 ct_35_16 ?_
        refine wi_iald (x := fi a4 k) ct_35_18 p2d p3d (i_in hik (by omega)) (i_cl (k := k) hik (by omega)) rfl ?_
        refine wi_istore_6 rfl ct_35_19 ?_
        refine wi_iload_6 ct_35_21 ?_
        refine wi_iflt_f ct_35_23 t1 (by decide) ?_
        refine wi_iload_6 ct_35_26 ?_
        refine wi_aload_3 ct_35_28 ?_
        refine wi_len (z := 6) ct_35_29 (sT_16 hS) (by decide) (sL_16 hS) (by decide) ?_
        refine wi_icge_t ct_35_30 t1 ki_6 (by decide) ?_
        refine wi_iload_6 ct_35_139 ?_
        refine wi_ic ct_35_141 kc_6 ?_
        refine wi_icne_t ct_35_143 t1 ki_6 (by decide) ?_
        refine wi_iload_6 ct_35_155 ?_
        refine wi_ic ct_35_157 kc_7 ?_
        refine wi_icne_f ct_35_159 t1 ki_7 (by decide) ?_
        refine wi_iload_4 ct_35_162 ?_
        refine wi_ic ct_35_164 kc_1 ?_
        refine wi_ishr ct_35_165 rfl ?_
        refine wi_iload_4 ct_35_166 ?_
        refine wi_ic ct_35_168 kc_m2 ?_
        refine wi_ior ct_35_170 rfl ?_
        refine wi_iand ct_35_171 rfl ?_
        refine wi_istore_4 rfl ct_35_172 ?_
        refine wi_goto ct_35_174 ?_
        refine wi_iinc_5 rfl (z := (i + 1)) ct_35_188 (by rw [kc_1]) ?_
        refine wi_goto ct_35_191 ?_
        exact ih (k + 1) ((b && a) :: r) _ _ _ _ _ (by omega) hT2 hn2 (stk_and hs hl20) hik1 rfl h7 h8 (fun h => k1 (by rw [ht]; exact h)) (fun h => k2 (by rw [ht]; exact h))
      · skip
        subst hc
        have ht : tks (8, R, M) F (a :: b :: r) = (b || a) :: r := rfl
        have hn2 : okH T n (k + 1) ((b || a) :: r).length := by simpa using hn
        refine wi_iload_5 ct_35_6 ?_
        refine wi_iload_2 ct_35_8 ?_
        refine wi_icge_f ct_35_9 hik he (by omega) ?_
        refine wi_aload_0 ct_35_12 ?_
        refine wi_gfr ct_35_13 p0 rfl p1d ?_
        refine wi_iload_5 ct_35_16 ?_
        refine wi_iald (x := fi a4 k) ct_35_18 p2d p3d (i_in hik (by omega)) (i_cl (k := k) hik (by omega)) rfl ?_
        refine wi_istore_6 rfl ct_35_19 ?_
        refine wi_iload_6 ct_35_21 ?_
        refine wi_iflt_f ct_35_23 t1 (by decide) ?_
        refine wi_iload_6 ct_35_26 ?_
        refine wi_aload_3 ct_35_28 ?_
        refine wi_len (z := 6) ct_35_29 (sT_16 hS) (by decide) (sL_16 hS) (by decide) ?_
        refine wi_icge_t ct_35_30 t1 ki_6 (by decide) ?_
        refine wi_iload_6 ct_35_139 ?_
        refine wi_ic ct_35_141 kc_6 ?_
        refine wi_icne_t ct_35_143 t1 ki_6 (by decide) ?_
        refine wi_iload_6 ct_35_155 ?_
        refine wi_ic ct_35_157 kc_7 ?_
        refine wi_icne_t ct_35_159 t1 ki_7 (by decide) ?_
        refine wi_iload_4 ct_35_177 ?_
        refine wi_ic ct_35_179 kc_1 ?_
        refine wi_ishr ct_35_180 rfl ?_
        refine wi_iload_4 ct_35_181 ?_
        refine wi_ic ct_35_183 kc_1 ?_
        refine wi_iand ct_35_184 rfl ?_
        refine wi_ior ct_35_185 rfl ?_
        refine wi_istore_4 rfl ct_35_186 ?_
        refine wi_iinc_5 rfl (z := (i + 1)) ct_35_188 (by rw [kc_1]) ?_
        refine wi_goto ct_35_191 ?_
        exact ih (k + 1) ((b || a) :: r) _ _ _ _ _ (by omega) hT2 hn2 (stk_or hs hl20) hik1 rfl h7 h8 (fun h => k1 (by rw [ht]; exact h)) (fun h => k2 (by rw [ht]; exact h))
theorem vl_holds {L : Nat} {d : Nat} {g : am_G} {fl : am_L} {P : Option Value → am_G → am_I → am_L → Prop} {fi : am_I} {T : Nat → Nat × Nat × Nat} {F : Nat → Int} {c b : Int32} {c0 s0 hi B : Nat} (hS : SF L g) (hc : c.toInt = (c0 : Int)) (hc6 : c0 < 60) (hb : b.toInt = (B : Int)) (hb5 : B < 5) (he : (fi 44 c0).toInt = 100 * (s0 : Int) + (hi : Int)) (hs6 : s0 < 6) (h100 : hi ≤ 100) (clk sz fm kd vv : Int) (hclk : (fi 31 29).toInt = clk) (hclk0 : 0 ≤ clk) (hsz : (fi 31 27).toInt = sz) (hsz0 : 0 ≤ sz) (hfm : (fi 31 28).toInt = fm) (hfm0 : 0 ≤ fm) (hkd : (fi 32 B).toInt = kd) (hvv : (fi 33 B).toInt = vv) (hF0 : F 0 = B) (hF1 : F 1 = kd) (hF2 : F 2 = vv) (hF3 : F 3 = clk % 12) (hF4 : F 4 = sz / 10) (hF5 : F 5 = fm / 10) : ∀ (n k : Nat) (s : List Bool) (fi2 : am_I) (h i : Int32) (l5 l6 l7 : Option Value), k + n = hi → (∀ q, q ≠ 48 → fi2 q = fi q) → (∀ j, k ≤ j → j < hi → (fi 45 (100 * s0 + j)).toInt = am_enc (T j)) → okH T n k s.length → pil (fi2 48) s → h.toInt = (s.length : Int) → i.toInt = 100 * (s0 : Int) + (k : Int) → am_nl l5 = true → am_nl l6 = true → am_nl l7 = true → (∀ fi3 : am_I, (∀ q, q ≠ 48 → fi3 q = fi q) → P (some (.int (bI ((evl T F n k s).headD false)))) g fi3 fl) → WP (d + 2) 145 10 [some (.ref 31), some (.int c), some (.int b), some (.int h), some (.int i), l5, l6, l7] [] g fi2 fl P := by
  intro n
  induction n with
  | zero =>
    intro k s fi2 h i l5 l6 l7 hkn hf hT hH hs hz hik h5 h6 h7 kk
    have hkh : k = hi := by omega
    unfold okH at hH
    obtain ⟨a, rfl⟩ : ∃ a, s = [a] := by
      match s, hH with
      | [a], _ => exact ⟨a, rfl⟩
    refine wi_iload_4 ct_145_10 ?_
    refine wi_aload_0 ct_145_12 ?_
    refine wi_gfr ct_145_13 (sT_31 hS) rfl (sR_31_19 hS) ?_
    refine wi_iload_1 ct_145_16 ?_
    refine wi_iald (x := fi 44 c0) ct_145_17 (sT_44 hS) (sL_44 hS) (i_in hc (by omega)) (i_cl (k := c0) hc (by omega)) (congrFun (hf 44 (by decide)) _) ?_
    refine wi_icge_t ct_145_18 hik he (by omega) ?_
    refine wi_aload_0 ct_145_243 ?_
    refine wi_gfr ct_145_244 (sT_31 hS) rfl (sR_31_26 hS) ?_
    refine wi_ic ct_145_247 kc_0 ?_
    refine wi_bald (x := bI a) ct_145_248 (Or.inr (sT_48 hS)) (sL_48 hS) (by decide) kn_c0 hs.1 ?_
    refine wi_iret ct_145_249 (am_bitI a) ?_
    exact kk fi2 hf
  | succ n ih =>
    intro k s fi2 h i l5 l6 l7 hkn hf hT hH hs hz hik h5 h6 h7 kk
    have ht := hT k (Nat.le_refl _) (by omega)
    unfold okH at hH
    unfold evl at kk
    have hT2 := fun j (h1 : k + 1 ≤ j) (h2 : j < hi) => hT j (by omega) h2
    have hik1 := i_add hik ki_1 (by omega)
    generalize hTk : T k = t at hH ht kk
    obtain ⟨C, R, M⟩ := t
    unfold am_enc at ht
    dsimp only at hH ht
    rcases hH with ⟨hc1, hr, hl, hh, hn⟩ | ⟨hc1, hh, hh2, hn⟩ | ⟨hc1, hh, hh2, hn⟩
    · skip
      rw [if_pos hc1] at ht
      obtain ⟨Z, hZ⟩ : ∃ Z, s.length = Z := ⟨_, rfl⟩
      rw [hZ] at hz hh
      have hup : ∀ x : Int32, pil ((up2 fi2 48 Z x) 48) s := fun x => pil_up hs (fun j hj => up2_nj (by omega))
      have htk : ∀ v : Bool, tkv (C, R, M) F = v → tks (C, R, M) F s = v :: s := fun v hv => by
        unfold tks
        rw [if_pos hc1, hv]
      rcases (by omega : C = 0 ∨ C = 1 ∨ C = 2 ∨ C = 3 ∨ C = 4 ∨ C = 5) with rfl | rfl | rfl | rfl | rfl | rfl
      · skip
        replace ht : (fi 45 (100 * s0 + k)).toInt = 100 * (R : Int) + (M : Int) := by omega
        refine wi_iload_4 ct_145_10 ?_
        refine wi_aload_0 ct_145_12 ?_
        refine wi_gfr ct_145_13 (sT_31 hS) rfl (sR_31_19 hS) ?_
        refine wi_iload_1 ct_145_16 ?_
        refine wi_iald (x := fi 44 c0) ct_145_17 (sT_44 hS) (sL_44 hS) (i_in hc (by omega)) (i_cl (k := c0) hc (by omega)) (congrFun (hf 44 (by decide)) _) ?_
        refine wi_icge_f ct_145_18 hik he (by omega) ?_
        refine wi_aload_0 ct_145_21 ?_
        refine wi_gfr ct_145_22 (sT_31 hS) rfl (sR_31_20 hS) ?_
        refine wi_iload_4 ct_145_25 ?_
        refine wi_iald (x := fi 45 (100 * s0 + k)) ct_145_27 (sT_45 hS) (sL_45 hS) (i_in hik (by omega)) (i_cl (k := (100 * s0 + k)) hik (by omega)) (congrFun (hf 45 (by decide)) _) ?_
        refine wi_istore_5 rfl ct_145_28 ?_
        refine wi_iload_5 ct_145_30 ?_
        refine wi_ic ct_145_32 kc_m33 ?_
        refine wi_icne_t ct_145_34 ht ki_m33 (by omega) ?_
        refine wi_iload_5 ct_145_64 ?_
        refine wi_ifge_t ct_145_66 ht (by omega) ?_
        refine wi_aload_0 ct_145_143 ?_
        refine wi_iload_5 ct_145_144 ?_
        refine wi_ic ct_145_146 kc_1000 ?_
        refine wi_idiv ct_145_149 (by decide) rfl ?_
        refine wi_iload_2 ct_145_150 ?_
        refine wi_cv2 (ls' := [some _, some _, some _]) ct_145_151 (Nat.le_of_ble_eq_true rfl) (by decide) (sT_31 hS) rfl (by decide) rfl rfl (Nat.le_of_ble_eq_true rfl) ?_
        refine wi_iload_1 ct_144_0 ?_
        refine wi_tsw (X := 0) (t := 36) ct_144_1 (show ((fi 45 (100 * s0 + k) / 1000)).toInt = 0 from (i_div ht ki_1000 (by omega) (by omega)).trans (by omega)) rfl ?_
        refine wi_iload_2 ct_144_36 ?_
        refine wi_iret ct_144_37 rfl (wk_i ?_)
        refine wi_istore_6 rfl ct_145_154 ?_
        refine wi_iload_5 ct_145_156 ?_
        refine wi_ic ct_145_158 kc_100 ?_
        refine wi_idiv ct_145_160 (by decide) rfl ?_
        refine wi_ic ct_145_161 kc_10 ?_
        refine wi_irem ct_145_163 (by decide) rfl ?_
        refine wi_istore_7 rfl ct_145_164 ?_
        refine wi_aload_0 ct_145_166 ?_
        refine wi_gfr ct_145_167 (sT_31 hS) rfl (sR_31_26 hS) ?_
        refine wi_iload_3 ct_145_170 ?_
        refine wi_iload_7 ct_145_171 ?_
        refine wi_ifne ct_145_173 (show (((fi 45 (100 * s0 + k) / 100) - (fi 45 (100 * s0 + k) / 100) / 10 * 10)).toInt = (R : Int) from (i_rem (show ((fi 45 (100 * s0 + k) / 100)).toInt = (R : Int) from (i_div ht ki_100 (by omega) (by omega)).trans (by omega)) ki_10 (by omega) (by omega)).trans (by omega)) (fun h1 => ?_) (fun h1 => ?_)
        · skip
          refine wi_iload_7 ct_145_194 ?_
          refine wi_ic ct_145_196 kc_1 ?_
          refine wi_icne ct_145_197 (show (((fi 45 (100 * s0 + k) / 100) - (fi 45 (100 * s0 + k) / 100) / 10 * 10)).toInt = (R : Int) from (i_rem (show ((fi 45 (100 * s0 + k) / 100)).toInt = (R : Int) from (i_div ht ki_100 (by omega) (by omega)).trans (by omega)) ki_10 (by omega) (by omega)).trans (by omega)) ki_1 (fun h2 => ?_) (fun h2 => ?_)
          · skip
            refine wi_iload_6 ct_145_218 ?_
            refine wi_iload_5 ct_145_220 ?_
            refine wi_ic ct_145_222 kc_100 ?_
            refine wi_irem ct_145_224 (by decide) rfl ?_
            refine wi_icle ct_145_225 hb (show ((fi 45 (100 * s0 + k) - fi 45 (100 * s0 + k) / 100 * 100)).toInt = (M : Int) from (i_rem ht ki_100 (by omega) (by omega)).trans (by omega)) (fun h3 => ?_) (fun h3 => ?_)
            · skip
              refine wi_ic ct_145_232 kc_0 ?_
              refine wi_zast ct_145_233 (sT_48 hS) (sL_48 hS) (i_in hz (by omega)) (i_cl (k := Z) hz (by omega)) (by decide) ?_
              refine wi_iinc_3 rfl (z := (h + 1)) ct_145_234 (by rw [kc_1]) ?_
              refine wi_iinc_4 rfl (z := (i + 1)) ct_145_237 (by rw [kc_1]) ?_
              refine wi_goto ct_145_240 ?_
              have hv : tkv (0, R, M) F = false := by
                unfold tkv
                dsimp only
                rw [hF0]
                rcases (by omega : R = 0 ∨ R = 1 ∨ R = 2) with rfl | rfl | rfl <;> simp <;> omega
              exact ih (k + 1) (false :: s) _ _ _ _ _ _ (by omega) (fun q hq => (funext fun j => up2_nq hq).trans (hf q hq)) hT2 (by simpa [hZ] using hn) ⟨by rw [hZ]; exact up2_eq, hup _⟩ (by rw [i_add hz ki_1 (by omega), List.length_cons, hZ]; omega) (by rw [hik1]; omega) rfl rfl rfl (fun fi3 h3 => by have := kk fi3 h3; rw [htk _ hv] at this; exact this)
            · skip
              refine wi_ic ct_145_228 kc_1 ?_
              refine wi_goto ct_145_229 ?_
              refine wi_zast ct_145_233 (sT_48 hS) (sL_48 hS) (i_in hz (by omega)) (i_cl (k := Z) hz (by omega)) (by decide) ?_
              refine wi_iinc_3 rfl (z := (h + 1)) ct_145_234 (by rw [kc_1]) ?_
              refine wi_iinc_4 rfl (z := (i + 1)) ct_145_237 (by rw [kc_1]) ?_
              refine wi_goto ct_145_240 ?_
              have hv : tkv (0, R, M) F = true := by
                unfold tkv
                dsimp only
                rw [hF0]
                rcases (by omega : R = 0 ∨ R = 1 ∨ R = 2) with rfl | rfl | rfl <;> simp <;> omega
              exact ih (k + 1) (true :: s) _ _ _ _ _ _ (by omega) (fun q hq => (funext fun j => up2_nq hq).trans (hf q hq)) hT2 (by simpa [hZ] using hn) ⟨by rw [hZ]; exact up2_eq, hup _⟩ (by rw [i_add hz ki_1 (by omega), List.length_cons, hZ]; omega) (by rw [hik1]; omega) rfl rfl rfl (fun fi3 h3 => by have := kk fi3 h3; rw [htk _ hv] at this; exact this)
          · skip
            refine wi_iload_6 ct_145_200 ?_
            refine wi_iload_5 ct_145_202 ?_
            refine wi_ic ct_145_204 kc_100 ?_
            refine wi_irem ct_145_206 (by decide) rfl ?_
            refine wi_icne ct_145_207 hb (show ((fi 45 (100 * s0 + k) - fi 45 (100 * s0 + k) / 100 * 100)).toInt = (M : Int) from (i_rem ht ki_100 (by omega) (by omega)).trans (by omega)) (fun h4 => ?_) (fun h4 => ?_)
            · skip
              refine wi_ic ct_145_214 kc_0 ?_
              refine wi_goto ct_145_215 ?_
              refine wi_zast ct_145_233 (sT_48 hS) (sL_48 hS) (i_in hz (by omega)) (i_cl (k := Z) hz (by omega)) (by decide) ?_
              refine wi_iinc_3 rfl (z := (h + 1)) ct_145_234 (by rw [kc_1]) ?_
              refine wi_iinc_4 rfl (z := (i + 1)) ct_145_237 (by rw [kc_1]) ?_
              refine wi_goto ct_145_240 ?_
              have hv : tkv (0, R, M) F = false := by
                unfold tkv
                dsimp only
                rw [hF0]
                rcases (by omega : R = 0 ∨ R = 1 ∨ R = 2) with rfl | rfl | rfl <;> simp <;> omega
              exact ih (k + 1) (false :: s) _ _ _ _ _ _ (by omega) (fun q hq => (funext fun j => up2_nq hq).trans (hf q hq)) hT2 (by simpa [hZ] using hn) ⟨by rw [hZ]; exact up2_eq, hup _⟩ (by rw [i_add hz ki_1 (by omega), List.length_cons, hZ]; omega) (by rw [hik1]; omega) rfl rfl rfl (fun fi3 h3 => by have := kk fi3 h3; rw [htk _ hv] at this; exact this)
            · skip
              refine wi_ic ct_145_210 kc_1 ?_
              refine wi_goto ct_145_211 ?_
              refine wi_zast ct_145_233 (sT_48 hS) (sL_48 hS) (i_in hz (by omega)) (i_cl (k := Z) hz (by omega)) (by decide) ?_
              refine wi_iinc_3 rfl (z := (h + 1)) ct_145_234 (by rw [kc_1]) ?_
              refine wi_iinc_4 rfl (z := (i + 1)) ct_145_237 (by rw [kc_1]) ?_
              refine wi_goto ct_145_240 ?_
              have hv : tkv (0, R, M) F = true := by
                unfold tkv
                dsimp only
                rw [hF0]
                rcases (by omega : R = 0 ∨ R = 1 ∨ R = 2) with rfl | rfl | rfl <;> simp <;> omega
              exact ih (k + 1) (true :: s) _ _ _ _ _ _ (by omega) (fun q hq => (funext fun j => up2_nq hq).trans (hf q hq)) hT2 (by simpa [hZ] using hn) ⟨by rw [hZ]; exact up2_eq, hup _⟩ (by rw [i_add hz ki_1 (by omega), List.length_cons, hZ]; omega) (by rw [hik1]; omega) rfl rfl rfl (fun fi3 h3 => by have := kk fi3 h3; rw [htk _ hv] at this; exact this)
        · skip
          refine wi_iload_6 ct_145_176 ?_
          refine wi_iload_5 ct_145_178 ?_
          refine wi_ic ct_145_180 kc_100 ?_
          refine wi_irem ct_145_182 (by decide) rfl ?_
          refine wi_icge ct_145_183 hb (show ((fi 45 (100 * s0 + k) - fi 45 (100 * s0 + k) / 100 * 100)).toInt = (M : Int) from (i_rem ht ki_100 (by omega) (by omega)).trans (by omega)) (fun h5 => ?_) (fun h5 => ?_)
          · skip
            refine wi_ic ct_145_190 kc_0 ?_
            refine wi_goto ct_145_191 ?_
            refine wi_zast ct_145_233 (sT_48 hS) (sL_48 hS) (i_in hz (by omega)) (i_cl (k := Z) hz (by omega)) (by decide) ?_
            refine wi_iinc_3 rfl (z := (h + 1)) ct_145_234 (by rw [kc_1]) ?_
            refine wi_iinc_4 rfl (z := (i + 1)) ct_145_237 (by rw [kc_1]) ?_
            refine wi_goto ct_145_240 ?_
            have hv : tkv (0, R, M) F = false := by
              unfold tkv
              dsimp only
              rw [hF0]
              rcases (by omega : R = 0 ∨ R = 1 ∨ R = 2) with rfl | rfl | rfl <;> simp <;> omega
            exact ih (k + 1) (false :: s) _ _ _ _ _ _ (by omega) (fun q hq => (funext fun j => up2_nq hq).trans (hf q hq)) hT2 (by simpa [hZ] using hn) ⟨by rw [hZ]; exact up2_eq, hup _⟩ (by rw [i_add hz ki_1 (by omega), List.length_cons, hZ]; omega) (by rw [hik1]; omega) rfl rfl rfl (fun fi3 h3 => by have := kk fi3 h3; rw [htk _ hv] at this; exact this)
          · skip
            refine wi_ic ct_145_186 kc_1 ?_
            refine wi_goto ct_145_187 ?_
            refine wi_zast ct_145_233 (sT_48 hS) (sL_48 hS) (i_in hz (by omega)) (i_cl (k := Z) hz (by omega)) (by decide) ?_
            refine wi_iinc_3 rfl (z := (h + 1)) ct_145_234 (by rw [kc_1]) ?_
            refine wi_iinc_4 rfl (z := (i + 1)) ct_145_237 (by rw [kc_1]) ?_
            refine wi_goto ct_145_240 ?_
            have hv : tkv (0, R, M) F = true := by
              unfold tkv
              dsimp only
              rw [hF0]
              rcases (by omega : R = 0 ∨ R = 1 ∨ R = 2) with rfl | rfl | rfl <;> simp <;> omega
            exact ih (k + 1) (true :: s) _ _ _ _ _ _ (by omega) (fun q hq => (funext fun j => up2_nq hq).trans (hf q hq)) hT2 (by simpa [hZ] using hn) ⟨by rw [hZ]; exact up2_eq, hup _⟩ (by rw [i_add hz ki_1 (by omega), List.length_cons, hZ]; omega) (by rw [hik1]; omega) rfl rfl rfl (fun fi3 h3 => by have := kk fi3 h3; rw [htk _ hv] at this; exact this)
      · skip
        replace ht : (fi 45 (100 * s0 + k)).toInt = 100 * (R : Int) + (M : Int) + 1000 := by omega
        refine wi_iload_4 ct_145_10 ?_
        refine wi_aload_0 ct_145_12 ?_
        refine wi_gfr ct_145_13 (sT_31 hS) rfl (sR_31_19 hS) ?_
        refine wi_iload_1 ct_145_16 ?_
        refine wi_iald (x := fi 44 c0) ct_145_17 (sT_44 hS) (sL_44 hS) (i_in hc (by omega)) (i_cl (k := c0) hc (by omega)) (congrFun (hf 44 (by decide)) _) ?_
        refine wi_icge_f ct_145_18 hik he (by omega) ?_
        refine wi_aload_0 ct_145_21 ?_
        refine wi_gfr ct_145_22 (sT_31 hS) rfl (sR_31_20 hS) ?_
        refine wi_iload_4 ct_145_25 ?_
        refine wi_iald (x := fi 45 (100 * s0 + k)) ct_145_27 (sT_45 hS) (sL_45 hS) (i_in hik (by omega)) (i_cl (k := (100 * s0 + k)) hik (by omega)) (congrFun (hf 45 (by decide)) _) ?_
        refine wi_istore_5 rfl ct_145_28 ?_
        refine wi_iload_5 ct_145_30 ?_
        refine wi_ic ct_145_32 kc_m33 ?_
        refine wi_icne_t ct_145_34 ht ki_m33 (by omega) ?_
        refine wi_iload_5 ct_145_64 ?_
        refine wi_ifge_t ct_145_66 ht (by omega) ?_
        refine wi_aload_0 ct_145_143 ?_
        refine wi_iload_5 ct_145_144 ?_
        refine wi_ic ct_145_146 kc_1000 ?_
        refine wi_idiv ct_145_149 (by decide) rfl ?_
        refine wi_iload_2 ct_145_150 ?_
        refine wi_cv2 (ls' := [some _, some _, some _]) ct_145_151 (Nat.le_of_ble_eq_true rfl) (by decide) (sT_31 hS) rfl (by decide) rfl rfl (Nat.le_of_ble_eq_true rfl) ?_
        refine wi_iload_1 ct_144_0 ?_
        refine wi_tsw (X := 1) (t := 38) ct_144_1 (show ((fi 45 (100 * s0 + k) / 1000)).toInt = 1 from (i_div ht ki_1000 (by omega) (by omega)).trans (by omega)) rfl ?_
        refine wi_aload_0 ct_144_38 ?_
        refine wi_gfr ct_144_39 (sT_31 hS) rfl (sR_31_2 hS) ?_
        refine wi_iload_2 ct_144_42 ?_
        refine wi_iald (x := fi 32 B) ct_144_43 (sT_32 hS) (sL_32 hS) (i_in hb (by omega)) (i_cl (k := B) hb (by omega)) (congrFun (hf 32 (by decide)) _) ?_
        refine wi_iret ct_144_44 rfl (wk_i ?_)
        refine wi_istore_6 rfl ct_145_154 ?_
        refine wi_iload_5 ct_145_156 ?_
        refine wi_ic ct_145_158 kc_100 ?_
        refine wi_idiv ct_145_160 (by decide) rfl ?_
        refine wi_ic ct_145_161 kc_10 ?_
        refine wi_irem ct_145_163 (by decide) rfl ?_
        refine wi_istore_7 rfl ct_145_164 ?_
        refine wi_aload_0 ct_145_166 ?_
        refine wi_gfr ct_145_167 (sT_31 hS) rfl (sR_31_26 hS) ?_
        refine wi_iload_3 ct_145_170 ?_
        refine wi_iload_7 ct_145_171 ?_
        refine wi_ifne ct_145_173 (show (((fi 45 (100 * s0 + k) / 100) - (fi 45 (100 * s0 + k) / 100) / 10 * 10)).toInt = (R : Int) from (i_rem (show ((fi 45 (100 * s0 + k) / 100)).toInt = (R : Int) + 10 from (i_div ht ki_100 (by omega) (by omega)).trans (by omega)) ki_10 (by omega) (by omega)).trans (by omega)) (fun h6 => ?_) (fun h6 => ?_)
        · skip
          refine wi_iload_7 ct_145_194 ?_
          refine wi_ic ct_145_196 kc_1 ?_
          refine wi_icne ct_145_197 (show (((fi 45 (100 * s0 + k) / 100) - (fi 45 (100 * s0 + k) / 100) / 10 * 10)).toInt = (R : Int) from (i_rem (show ((fi 45 (100 * s0 + k) / 100)).toInt = (R : Int) + 10 from (i_div ht ki_100 (by omega) (by omega)).trans (by omega)) ki_10 (by omega) (by omega)).trans (by omega)) ki_1 (fun h7 => ?_) (fun h7 => ?_)
          · skip
            refine wi_iload_6 ct_145_218 ?_
            refine wi_iload_5 ct_145_220 ?_
            refine wi_ic ct_145_222 kc_100 ?_
            refine wi_irem ct_145_224 (by decide) rfl ?_
            refine wi_icle ct_145_225 hkd (show ((fi 45 (100 * s0 + k) - fi 45 (100 * s0 + k) / 100 * 100)).toInt = (M : Int) from (i_rem ht ki_100 (by omega) (by omega)).trans (by omega)) (fun h8 => ?_) (fun h8 => ?_)
            · skip
              refine wi_ic ct_145_232 kc_0 ?_
              refine wi_zast ct_145_233 (sT_48 hS) (sL_48 hS) (i_in hz (by omega)) (i_cl (k := Z) hz (by omega)) (by decide) ?_
              refine wi_iinc_3 rfl (z := (h + 1)) ct_145_234 (by rw [kc_1]) ?_
              refine wi_iinc_4 rfl (z := (i + 1)) ct_145_237 (by rw [kc_1]) ?_
              refine wi_goto ct_145_240 ?_
              have hv : tkv (1, R, M) F = false := by
                unfold tkv
                dsimp only
                rw [hF1]
                rcases (by omega : R = 0 ∨ R = 1 ∨ R = 2) with rfl | rfl | rfl <;> simp <;> omega
              exact ih (k + 1) (false :: s) _ _ _ _ _ _ (by omega) (fun q hq => (funext fun j => up2_nq hq).trans (hf q hq)) hT2 (by simpa [hZ] using hn) ⟨by rw [hZ]; exact up2_eq, hup _⟩ (by rw [i_add hz ki_1 (by omega), List.length_cons, hZ]; omega) (by rw [hik1]; omega) rfl rfl rfl (fun fi3 h3 => by have := kk fi3 h3; rw [htk _ hv] at this; exact this)
            · skip
              refine wi_ic ct_145_228 kc_1 ?_
              refine wi_goto ct_145_229 ?_
              refine wi_zast ct_145_233 (sT_48 hS) (sL_48 hS) (i_in hz (by omega)) (i_cl (k := Z) hz (by omega)) (by decide) ?_
              refine wi_iinc_3 rfl (z := (h + 1)) ct_145_234 (by rw [kc_1]) ?_
              refine wi_iinc_4 rfl (z := (i + 1)) ct_145_237 (by rw [kc_1]) ?_
              refine wi_goto ct_145_240 ?_
              have hv : tkv (1, R, M) F = true := by
                unfold tkv
                dsimp only
                rw [hF1]
                rcases (by omega : R = 0 ∨ R = 1 ∨ R = 2) with rfl | rfl | rfl <;> simp <;> omega
              exact ih (k + 1) (true :: s) _ _ _ _ _ _ (by omega) (fun q hq => (funext fun j => up2_nq hq).trans (hf q hq)) hT2 (by simpa [hZ] using hn) ⟨by rw [hZ]; exact up2_eq, hup _⟩ (by rw [i_add hz ki_1 (by omega), List.length_cons, hZ]; omega) (by rw [hik1]; omega) rfl rfl rfl (fun fi3 h3 => by have := kk fi3 h3; rw [htk _ hv] at this; exact this)
          · skip
            refine wi_iload_6 ct_145_200 ?_
            refine wi_iload_5 ct_145_202 ?_
            refine wi_ic ct_145_204 kc_100 ?_
            refine wi_irem ct_145_206 (by decide) rfl ?_
            refine wi_icne ct_145_207 hkd (show ((fi 45 (100 * s0 + k) - fi 45 (100 * s0 + k) / 100 * 100)).toInt = (M : Int) from (i_rem ht ki_100 (by omega) (by omega)).trans (by omega)) (fun h9 => ?_) (fun h9 => ?_)
            · skip
              refine wi_ic ct_145_214 kc_0 ?_
              refine wi_goto ct_145_215 ?_
              refine wi_zast ct_145_233 (sT_48 hS) (sL_48 hS) (i_in hz (by omega)) (i_cl (k := Z) hz (by omega)) (by decide) ?_
              refine wi_iinc_3 rfl (z := (h + 1)) ct_145_234 (by rw [kc_1]) ?_
              refine wi_iinc_4 rfl (z := (i + 1)) ct_145_237 (by rw [kc_1]) ?_
              refine wi_goto ct_145_240 ?_
              have hv : tkv (1, R, M) F = false := by
                unfold tkv
                dsimp only
                rw [hF1]
                rcases (by omega : R = 0 ∨ R = 1 ∨ R = 2) with rfl | rfl | rfl <;> simp <;> omega
              exact ih (k + 1) (false :: s) _ _ _ _ _ _ (by omega) (fun q hq => (funext fun j => up2_nq hq).trans (hf q hq)) hT2 (by simpa [hZ] using hn) ⟨by rw [hZ]; exact up2_eq, hup _⟩ (by rw [i_add hz ki_1 (by omega), List.length_cons, hZ]; omega) (by rw [hik1]; omega) rfl rfl rfl (fun fi3 h3 => by have := kk fi3 h3; rw [htk _ hv] at this; exact this)
            · skip
              refine wi_ic ct_145_210 kc_1 ?_
              refine wi_goto ct_145_211 ?_
              refine wi_zast ct_145_233 (sT_48 hS) (sL_48 hS) (i_in hz (by omega)) (i_cl (k := Z) hz (by omega)) (by decide) ?_
              refine wi_iinc_3 rfl (z := (h + 1)) ct_145_234 (by rw [kc_1]) ?_
              refine wi_iinc_4 rfl (z := (i + 1)) ct_145_237 (by rw [kc_1]) ?_
              refine wi_goto ct_145_240 ?_
              have hv : tkv (1, R, M) F = true := by
                unfold tkv
                dsimp only
                rw [hF1]
                rcases (by omega : R = 0 ∨ R = 1 ∨ R = 2) with rfl | rfl | rfl <;> simp <;> omega
              exact ih (k + 1) (true :: s) _ _ _ _ _ _ (by omega) (fun q hq => (funext fun j => up2_nq hq).trans (hf q hq)) hT2 (by simpa [hZ] using hn) ⟨by rw [hZ]; exact up2_eq, hup _⟩ (by rw [i_add hz ki_1 (by omega), List.length_cons, hZ]; omega) (by rw [hik1]; omega) rfl rfl rfl (fun fi3 h3 => by have := kk fi3 h3; rw [htk _ hv] at this; exact this)
        · skip
          refine wi_iload_6 ct_145_176 ?_
          refine wi_iload_5 ct_145_178 ?_
          refine wi_ic ct_145_180 kc_100 ?_
          refine wi_irem ct_145_182 (by decide) rfl ?_
          refine wi_icge ct_145_183 hkd (show ((fi 45 (100 * s0 + k) - fi 45 (100 * s0 + k) / 100 * 100)).toInt = (M : Int) from (i_rem ht ki_100 (by omega) (by omega)).trans (by omega)) (fun h10 => ?_) (fun h10 => ?_)
          · skip
            refine wi_ic ct_145_190 kc_0 ?_
            refine wi_goto ct_145_191 ?_
            refine wi_zast ct_145_233 (sT_48 hS) (sL_48 hS) (i_in hz (by omega)) (i_cl (k := Z) hz (by omega)) (by decide) ?_
            refine wi_iinc_3 rfl (z := (h + 1)) ct_145_234 (by rw [kc_1]) ?_
            refine wi_iinc_4 rfl (z := (i + 1)) ct_145_237 (by rw [kc_1]) ?_
            refine wi_goto ct_145_240 ?_
            have hv : tkv (1, R, M) F = false := by
              unfold tkv
              dsimp only
              rw [hF1]
              rcases (by omega : R = 0 ∨ R = 1 ∨ R = 2) with rfl | rfl | rfl <;> simp <;> omega
            exact ih (k + 1) (false :: s) _ _ _ _ _ _ (by omega) (fun q hq => (funext fun j => up2_nq hq).trans (hf q hq)) hT2 (by simpa [hZ] using hn) ⟨by rw [hZ]; exact up2_eq, hup _⟩ (by rw [i_add hz ki_1 (by omega), List.length_cons, hZ]; omega) (by rw [hik1]; omega) rfl rfl rfl (fun fi3 h3 => by have := kk fi3 h3; rw [htk _ hv] at this; exact this)
          · skip
            refine wi_ic ct_145_186 kc_1 ?_
            refine wi_goto ct_145_187 ?_
            refine wi_zast ct_145_233 (sT_48 hS) (sL_48 hS) (i_in hz (by omega)) (i_cl (k := Z) hz (by omega)) (by decide) ?_
            refine wi_iinc_3 rfl (z := (h + 1)) ct_145_234 (by rw [kc_1]) ?_
            refine wi_iinc_4 rfl (z := (i + 1)) ct_145_237 (by rw [kc_1]) ?_
            refine wi_goto ct_145_240 ?_
            have hv : tkv (1, R, M) F = true := by
              unfold tkv
              dsimp only
              rw [hF1]
              rcases (by omega : R = 0 ∨ R = 1 ∨ R = 2) with rfl | rfl | rfl <;> simp <;> omega
            exact ih (k + 1) (true :: s) _ _ _ _ _ _ (by omega) (fun q hq => (funext fun j => up2_nq hq).trans (hf q hq)) hT2 (by simpa [hZ] using hn) ⟨by rw [hZ]; exact up2_eq, hup _⟩ (by rw [i_add hz ki_1 (by omega), List.length_cons, hZ]; omega) (by rw [hik1]; omega) rfl rfl rfl (fun fi3 h3 => by have := kk fi3 h3; rw [htk _ hv] at this; exact this)
      · skip
        replace ht : (fi 45 (100 * s0 + k)).toInt = 100 * (R : Int) + (M : Int) + 2000 := by omega
        refine wi_iload_4 ct_145_10 ?_
        refine wi_aload_0 ct_145_12 ?_
        refine wi_gfr ct_145_13 (sT_31 hS) rfl (sR_31_19 hS) ?_
        refine wi_iload_1 ct_145_16 ?_
        refine wi_iald (x := fi 44 c0) ct_145_17 (sT_44 hS) (sL_44 hS) (i_in hc (by omega)) (i_cl (k := c0) hc (by omega)) (congrFun (hf 44 (by decide)) _) ?_
        refine wi_icge_f ct_145_18 hik he (by omega) ?_
        refine wi_aload_0 ct_145_21 ?_
        refine wi_gfr ct_145_22 (sT_31 hS) rfl (sR_31_20 hS) ?_
        refine wi_iload_4 ct_145_25 ?_
        refine wi_iald (x := fi 45 (100 * s0 + k)) ct_145_27 (sT_45 hS) (sL_45 hS) (i_in hik (by omega)) (i_cl (k := (100 * s0 + k)) hik (by omega)) (congrFun (hf 45 (by decide)) _) ?_
        refine wi_istore_5 rfl ct_145_28 ?_
        refine wi_iload_5 ct_145_30 ?_
        refine wi_ic ct_145_32 kc_m33 ?_
        refine wi_icne_t ct_145_34 ht ki_m33 (by omega) ?_
        refine wi_iload_5 ct_145_64 ?_
        refine wi_ifge_t ct_145_66 ht (by omega) ?_
        refine wi_aload_0 ct_145_143 ?_
        refine wi_iload_5 ct_145_144 ?_
        refine wi_ic ct_145_146 kc_1000 ?_
        refine wi_idiv ct_145_149 (by decide) rfl ?_
        refine wi_iload_2 ct_145_150 ?_
        refine wi_cv2 (ls' := [some _, some _, some _]) ct_145_151 (Nat.le_of_ble_eq_true rfl) (by decide) (sT_31 hS) rfl (by decide) rfl rfl (Nat.le_of_ble_eq_true rfl) ?_
        refine wi_iload_1 ct_144_0 ?_
        refine wi_tsw (X := 2) (t := 45) ct_144_1 (show ((fi 45 (100 * s0 + k) / 1000)).toInt = 2 from (i_div ht ki_1000 (by omega) (by omega)).trans (by omega)) rfl ?_
        refine wi_aload_0 ct_144_45 ?_
        refine wi_gfr ct_144_46 (sT_31 hS) rfl (sR_31_3 hS) ?_
        refine wi_iload_2 ct_144_49 ?_
        refine wi_iald (x := fi 33 B) ct_144_50 (sT_33 hS) (sL_33 hS) (i_in hb (by omega)) (i_cl (k := B) hb (by omega)) (congrFun (hf 33 (by decide)) _) ?_
        refine wi_iret ct_144_51 rfl (wk_i ?_)
        refine wi_istore_6 rfl ct_145_154 ?_
        refine wi_iload_5 ct_145_156 ?_
        refine wi_ic ct_145_158 kc_100 ?_
        refine wi_idiv ct_145_160 (by decide) rfl ?_
        refine wi_ic ct_145_161 kc_10 ?_
        refine wi_irem ct_145_163 (by decide) rfl ?_
        refine wi_istore_7 rfl ct_145_164 ?_
        refine wi_aload_0 ct_145_166 ?_
        refine wi_gfr ct_145_167 (sT_31 hS) rfl (sR_31_26 hS) ?_
        refine wi_iload_3 ct_145_170 ?_
        refine wi_iload_7 ct_145_171 ?_
        refine wi_ifne ct_145_173 (show (((fi 45 (100 * s0 + k) / 100) - (fi 45 (100 * s0 + k) / 100) / 10 * 10)).toInt = (R : Int) from (i_rem (show ((fi 45 (100 * s0 + k) / 100)).toInt = (R : Int) + 20 from (i_div ht ki_100 (by omega) (by omega)).trans (by omega)) ki_10 (by omega) (by omega)).trans (by omega)) (fun h11 => ?_) (fun h11 => ?_)
        · skip
          refine wi_iload_7 ct_145_194 ?_
          refine wi_ic ct_145_196 kc_1 ?_
          refine wi_icne ct_145_197 (show (((fi 45 (100 * s0 + k) / 100) - (fi 45 (100 * s0 + k) / 100) / 10 * 10)).toInt = (R : Int) from (i_rem (show ((fi 45 (100 * s0 + k) / 100)).toInt = (R : Int) + 20 from (i_div ht ki_100 (by omega) (by omega)).trans (by omega)) ki_10 (by omega) (by omega)).trans (by omega)) ki_1 (fun h12 => ?_) (fun h12 => ?_)
          · skip
            refine wi_iload_6 ct_145_218 ?_
            refine wi_iload_5 ct_145_220 ?_
            refine wi_ic ct_145_222 kc_100 ?_
            refine wi_irem ct_145_224 (by decide) rfl ?_
            refine wi_icle ct_145_225 hvv (show ((fi 45 (100 * s0 + k) - fi 45 (100 * s0 + k) / 100 * 100)).toInt = (M : Int) from (i_rem ht ki_100 (by omega) (by omega)).trans (by omega)) (fun h13 => ?_) (fun h13 => ?_)
            · skip
              refine wi_ic ct_145_232 kc_0 ?_
              refine wi_zast ct_145_233 (sT_48 hS) (sL_48 hS) (i_in hz (by omega)) (i_cl (k := Z) hz (by omega)) (by decide) ?_
              refine wi_iinc_3 rfl (z := (h + 1)) ct_145_234 (by rw [kc_1]) ?_
              refine wi_iinc_4 rfl (z := (i + 1)) ct_145_237 (by rw [kc_1]) ?_
              refine wi_goto ct_145_240 ?_
              have hv : tkv (2, R, M) F = false := by
                unfold tkv
                dsimp only
                rw [hF2]
                rcases (by omega : R = 0 ∨ R = 1 ∨ R = 2) with rfl | rfl | rfl <;> simp <;> omega
              exact ih (k + 1) (false :: s) _ _ _ _ _ _ (by omega) (fun q hq => (funext fun j => up2_nq hq).trans (hf q hq)) hT2 (by simpa [hZ] using hn) ⟨by rw [hZ]; exact up2_eq, hup _⟩ (by rw [i_add hz ki_1 (by omega), List.length_cons, hZ]; omega) (by rw [hik1]; omega) rfl rfl rfl (fun fi3 h3 => by have := kk fi3 h3; rw [htk _ hv] at this; exact this)
            · skip
              refine wi_ic ct_145_228 kc_1 ?_
              refine wi_goto ct_145_229 ?_
              refine wi_zast ct_145_233 (sT_48 hS) (sL_48 hS) (i_in hz (by omega)) (i_cl (k := Z) hz (by omega)) (by decide) ?_
              refine wi_iinc_3 rfl (z := (h + 1)) ct_145_234 (by rw [kc_1]) ?_
              refine wi_iinc_4 rfl (z := (i + 1)) ct_145_237 (by rw [kc_1]) ?_
              refine wi_goto ct_145_240 ?_
              have hv : tkv (2, R, M) F = true := by
                unfold tkv
                dsimp only
                rw [hF2]
                rcases (by omega : R = 0 ∨ R = 1 ∨ R = 2) with rfl | rfl | rfl <;> simp <;> omega
              exact ih (k + 1) (true :: s) _ _ _ _ _ _ (by omega) (fun q hq => (funext fun j => up2_nq hq).trans (hf q hq)) hT2 (by simpa [hZ] using hn) ⟨by rw [hZ]; exact up2_eq, hup _⟩ (by rw [i_add hz ki_1 (by omega), List.length_cons, hZ]; omega) (by rw [hik1]; omega) rfl rfl rfl (fun fi3 h3 => by have := kk fi3 h3; rw [htk _ hv] at this; exact this)
          · skip
            refine wi_iload_6 ct_145_200 ?_
            refine wi_iload_5 ct_145_202 ?_
            refine wi_ic ct_145_204 kc_100 ?_
            refine wi_irem ct_145_206 (by decide) rfl ?_
            refine wi_icne ct_145_207 hvv (show ((fi 45 (100 * s0 + k) - fi 45 (100 * s0 + k) / 100 * 100)).toInt = (M : Int) from (i_rem ht ki_100 (by omega) (by omega)).trans (by omega)) (fun h14 => ?_) (fun h14 => ?_)
            · skip
              refine wi_ic ct_145_214 kc_0 ?_
              refine wi_goto ct_145_215 ?_
              refine wi_zast ct_145_233 (sT_48 hS) (sL_48 hS) (i_in hz (by omega)) (i_cl (k := Z) hz (by omega)) (by decide) ?_
              refine wi_iinc_3 rfl (z := (h + 1)) ct_145_234 (by rw [kc_1]) ?_
              refine wi_iinc_4 rfl (z := (i + 1)) ct_145_237 (by rw [kc_1]) ?_
              refine wi_goto ct_145_240 ?_
              have hv : tkv (2, R, M) F = false := by
                unfold tkv
                dsimp only
                rw [hF2]
                rcases (by omega : R = 0 ∨ R = 1 ∨ R = 2) with rfl | rfl | rfl <;> simp <;> omega
              exact ih (k + 1) (false :: s) _ _ _ _ _ _ (by omega) (fun q hq => (funext fun j => up2_nq hq).trans (hf q hq)) hT2 (by simpa [hZ] using hn) ⟨by rw [hZ]; exact up2_eq, hup _⟩ (by rw [i_add hz ki_1 (by omega), List.length_cons, hZ]; omega) (by rw [hik1]; omega) rfl rfl rfl (fun fi3 h3 => by have := kk fi3 h3; rw [htk _ hv] at this; exact this)
            · skip
              refine wi_ic ct_145_210 kc_1 ?_
              refine wi_goto ct_145_211 ?_
              refine wi_zast ct_145_233 (sT_48 hS) (sL_48 hS) (i_in hz (by omega)) (i_cl (k := Z) hz (by omega)) (by decide) ?_
              refine wi_iinc_3 rfl (z := (h + 1)) ct_145_234 (by rw [kc_1]) ?_
              refine wi_iinc_4 rfl (z := (i + 1)) ct_145_237 (by rw [kc_1]) ?_
              refine wi_goto ct_145_240 ?_
              have hv : tkv (2, R, M) F = true := by
                unfold tkv
                dsimp only
                rw [hF2]
                rcases (by omega : R = 0 ∨ R = 1 ∨ R = 2) with rfl | rfl | rfl <;> simp <;> omega
              exact ih (k + 1) (true :: s) _ _ _ _ _ _ (by omega) (fun q hq => (funext fun j => up2_nq hq).trans (hf q hq)) hT2 (by simpa [hZ] using hn) ⟨by rw [hZ]; exact up2_eq, hup _⟩ (by rw [i_add hz ki_1 (by omega), List.length_cons, hZ]; omega) (by rw [hik1]; omega) rfl rfl rfl (fun fi3 h3 => by have := kk fi3 h3; rw [htk _ hv] at this; exact this)
        · skip
          refine wi_iload_6 ct_145_176 ?_
          refine wi_iload_5 ct_145_178 ?_
          refine wi_ic ct_145_180 kc_100 ?_
          refine wi_irem ct_145_182 (by decide) rfl ?_
          refine wi_icge ct_145_183 hvv (show ((fi 45 (100 * s0 + k) - fi 45 (100 * s0 + k) / 100 * 100)).toInt = (M : Int) from (i_rem ht ki_100 (by omega) (by omega)).trans (by omega)) (fun h15 => ?_) (fun h15 => ?_)
          · skip
            refine wi_ic ct_145_190 kc_0 ?_
            refine wi_goto ct_145_191 ?_
            refine wi_zast ct_145_233 (sT_48 hS) (sL_48 hS) (i_in hz (by omega)) (i_cl (k := Z) hz (by omega)) (by decide) ?_
            refine wi_iinc_3 rfl (z := (h + 1)) ct_145_234 (by rw [kc_1]) ?_
            refine wi_iinc_4 rfl (z := (i + 1)) ct_145_237 (by rw [kc_1]) ?_
            refine wi_goto ct_145_240 ?_
            have hv : tkv (2, R, M) F = false := by
              unfold tkv
              dsimp only
              rw [hF2]
              rcases (by omega : R = 0 ∨ R = 1 ∨ R = 2) with rfl | rfl | rfl <;> simp <;> omega
            exact ih (k + 1) (false :: s) _ _ _ _ _ _ (by omega) (fun q hq => (funext fun j => up2_nq hq).trans (hf q hq)) hT2 (by simpa [hZ] using hn) ⟨by rw [hZ]; exact up2_eq, hup _⟩ (by rw [i_add hz ki_1 (by omega), List.length_cons, hZ]; omega) (by rw [hik1]; omega) rfl rfl rfl (fun fi3 h3 => by have := kk fi3 h3; rw [htk _ hv] at this; exact this)
          · skip
            refine wi_ic ct_145_186 kc_1 ?_
            refine wi_goto ct_145_187 ?_
            refine wi_zast ct_145_233 (sT_48 hS) (sL_48 hS) (i_in hz (by omega)) (i_cl (k := Z) hz (by omega)) (by decide) ?_
            refine wi_iinc_3 rfl (z := (h + 1)) ct_145_234 (by rw [kc_1]) ?_
            refine wi_iinc_4 rfl (z := (i + 1)) ct_145_237 (by rw [kc_1]) ?_
            refine wi_goto ct_145_240 ?_
            have hv : tkv (2, R, M) F = true := by
              unfold tkv
              dsimp only
              rw [hF2]
              rcases (by omega : R = 0 ∨ R = 1 ∨ R = 2) with rfl | rfl | rfl <;> simp <;> omega
            exact ih (k + 1) (true :: s) _ _ _ _ _ _ (by omega) (fun q hq => (funext fun j => up2_nq hq).trans (hf q hq)) hT2 (by simpa [hZ] using hn) ⟨by rw [hZ]; exact up2_eq, hup _⟩ (by rw [i_add hz ki_1 (by omega), List.length_cons, hZ]; omega) (by rw [hik1]; omega) rfl rfl rfl (fun fi3 h3 => by have := kk fi3 h3; rw [htk _ hv] at this; exact this)
      · skip
        replace ht : (fi 45 (100 * s0 + k)).toInt = 100 * (R : Int) + (M : Int) + 3000 := by omega
        refine wi_iload_4 ct_145_10 ?_
        refine wi_aload_0 ct_145_12 ?_
        refine wi_gfr ct_145_13 (sT_31 hS) rfl (sR_31_19 hS) ?_
        refine wi_iload_1 ct_145_16 ?_
        refine wi_iald (x := fi 44 c0) ct_145_17 (sT_44 hS) (sL_44 hS) (i_in hc (by omega)) (i_cl (k := c0) hc (by omega)) (congrFun (hf 44 (by decide)) _) ?_
        refine wi_icge_f ct_145_18 hik he (by omega) ?_
        refine wi_aload_0 ct_145_21 ?_
        refine wi_gfr ct_145_22 (sT_31 hS) rfl (sR_31_20 hS) ?_
        refine wi_iload_4 ct_145_25 ?_
        refine wi_iald (x := fi 45 (100 * s0 + k)) ct_145_27 (sT_45 hS) (sL_45 hS) (i_in hik (by omega)) (i_cl (k := (100 * s0 + k)) hik (by omega)) (congrFun (hf 45 (by decide)) _) ?_
        refine wi_istore_5 rfl ct_145_28 ?_
        refine wi_iload_5 ct_145_30 ?_
        refine wi_ic ct_145_32 kc_m33 ?_
        refine wi_icne_t ct_145_34 ht ki_m33 (by omega) ?_
        refine wi_iload_5 ct_145_64 ?_
        refine wi_ifge_t ct_145_66 ht (by omega) ?_
        refine wi_aload_0 ct_145_143 ?_
        refine wi_iload_5 ct_145_144 ?_
        refine wi_ic ct_145_146 kc_1000 ?_
        refine wi_idiv ct_145_149 (by decide) rfl ?_
        refine wi_iload_2 ct_145_150 ?_
        refine wi_cv2 (ls' := [some _, some _, some _]) ct_145_151 (Nat.le_of_ble_eq_true rfl) (by decide) (sT_31 hS) rfl (by decide) rfl rfl (Nat.le_of_ble_eq_true rfl) ?_
        refine wi_iload_1 ct_144_0 ?_
        refine wi_tsw (X := 3) (t := 52) ct_144_1 (show ((fi 45 (100 * s0 + k) / 1000)).toInt = 3 from (i_div ht ki_1000 (by omega) (by omega)).trans (by omega)) rfl ?_
        refine wi_aload_0 ct_144_52 ?_
        refine wi_gf (x := fi 31 29) ct_144_53 (sT_31 hS) rfl rfl (congrFun (hf 31 (by decide)) _) ?_
        refine wi_ic ct_144_56 kc_12 ?_
        refine wi_irem ct_144_58 (by decide) rfl ?_
        refine wi_iret ct_144_59 rfl (wk_i ?_)
        refine wi_istore_6 rfl ct_145_154 ?_
        refine wi_iload_5 ct_145_156 ?_
        refine wi_ic ct_145_158 kc_100 ?_
        refine wi_idiv ct_145_160 (by decide) rfl ?_
        refine wi_ic ct_145_161 kc_10 ?_
        refine wi_irem ct_145_163 (by decide) rfl ?_
        refine wi_istore_7 rfl ct_145_164 ?_
        refine wi_aload_0 ct_145_166 ?_
        refine wi_gfr ct_145_167 (sT_31 hS) rfl (sR_31_26 hS) ?_
        refine wi_iload_3 ct_145_170 ?_
        refine wi_iload_7 ct_145_171 ?_
        refine wi_ifne ct_145_173 (show (((fi 45 (100 * s0 + k) / 100) - (fi 45 (100 * s0 + k) / 100) / 10 * 10)).toInt = (R : Int) from (i_rem (show ((fi 45 (100 * s0 + k) / 100)).toInt = (R : Int) + 30 from (i_div ht ki_100 (by omega) (by omega)).trans (by omega)) ki_10 (by omega) (by omega)).trans (by omega)) (fun h16 => ?_) (fun h16 => ?_)
        · skip
          refine wi_iload_7 ct_145_194 ?_
          refine wi_ic ct_145_196 kc_1 ?_
          refine wi_icne ct_145_197 (show (((fi 45 (100 * s0 + k) / 100) - (fi 45 (100 * s0 + k) / 100) / 10 * 10)).toInt = (R : Int) from (i_rem (show ((fi 45 (100 * s0 + k) / 100)).toInt = (R : Int) + 30 from (i_div ht ki_100 (by omega) (by omega)).trans (by omega)) ki_10 (by omega) (by omega)).trans (by omega)) ki_1 (fun h17 => ?_) (fun h17 => ?_)
          · skip
            refine wi_iload_6 ct_145_218 ?_
            refine wi_iload_5 ct_145_220 ?_
            refine wi_ic ct_145_222 kc_100 ?_
            refine wi_irem ct_145_224 (by decide) rfl ?_
            refine wi_icle ct_145_225 (i_rem hclk ki_12 (by omega) (by omega)) (show ((fi 45 (100 * s0 + k) - fi 45 (100 * s0 + k) / 100 * 100)).toInt = (M : Int) from (i_rem ht ki_100 (by omega) (by omega)).trans (by omega)) (fun h18 => ?_) (fun h18 => ?_)
            · skip
              refine wi_ic ct_145_232 kc_0 ?_
              refine wi_zast ct_145_233 (sT_48 hS) (sL_48 hS) (i_in hz (by omega)) (i_cl (k := Z) hz (by omega)) (by decide) ?_
              refine wi_iinc_3 rfl (z := (h + 1)) ct_145_234 (by rw [kc_1]) ?_
              refine wi_iinc_4 rfl (z := (i + 1)) ct_145_237 (by rw [kc_1]) ?_
              refine wi_goto ct_145_240 ?_
              have hv : tkv (3, R, M) F = false := by
                unfold tkv
                dsimp only
                rw [hF3]
                rcases (by omega : R = 0 ∨ R = 1 ∨ R = 2) with rfl | rfl | rfl <;> simp <;> omega
              exact ih (k + 1) (false :: s) _ _ _ _ _ _ (by omega) (fun q hq => (funext fun j => up2_nq hq).trans (hf q hq)) hT2 (by simpa [hZ] using hn) ⟨by rw [hZ]; exact up2_eq, hup _⟩ (by rw [i_add hz ki_1 (by omega), List.length_cons, hZ]; omega) (by rw [hik1]; omega) rfl rfl rfl (fun fi3 h3 => by have := kk fi3 h3; rw [htk _ hv] at this; exact this)
            · skip
              refine wi_ic ct_145_228 kc_1 ?_
              refine wi_goto ct_145_229 ?_
              refine wi_zast ct_145_233 (sT_48 hS) (sL_48 hS) (i_in hz (by omega)) (i_cl (k := Z) hz (by omega)) (by decide) ?_
              refine wi_iinc_3 rfl (z := (h + 1)) ct_145_234 (by rw [kc_1]) ?_
              refine wi_iinc_4 rfl (z := (i + 1)) ct_145_237 (by rw [kc_1]) ?_
              refine wi_goto ct_145_240 ?_
              have hv : tkv (3, R, M) F = true := by
                unfold tkv
                dsimp only
                rw [hF3]
                rcases (by omega : R = 0 ∨ R = 1 ∨ R = 2) with rfl | rfl | rfl <;> simp <;> omega
              exact ih (k + 1) (true :: s) _ _ _ _ _ _ (by omega) (fun q hq => (funext fun j => up2_nq hq).trans (hf q hq)) hT2 (by simpa [hZ] using hn) ⟨by rw [hZ]; exact up2_eq, hup _⟩ (by rw [i_add hz ki_1 (by omega), List.length_cons, hZ]; omega) (by rw [hik1]; omega) rfl rfl rfl (fun fi3 h3 => by have := kk fi3 h3; rw [htk _ hv] at this; exact this)
          · skip
            refine wi_iload_6 ct_145_200 ?_
            refine wi_iload_5 ct_145_202 ?_
            refine wi_ic ct_145_204 kc_100 ?_
            refine wi_irem ct_145_206 (by decide) rfl ?_
            refine wi_icne ct_145_207 (i_rem hclk ki_12 (by omega) (by omega)) (show ((fi 45 (100 * s0 + k) - fi 45 (100 * s0 + k) / 100 * 100)).toInt = (M : Int) from (i_rem ht ki_100 (by omega) (by omega)).trans (by omega)) (fun h19 => ?_) (fun h19 => ?_)
            · skip
              refine wi_ic ct_145_214 kc_0 ?_
              refine wi_goto ct_145_215 ?_
              refine wi_zast ct_145_233 (sT_48 hS) (sL_48 hS) (i_in hz (by omega)) (i_cl (k := Z) hz (by omega)) (by decide) ?_
              refine wi_iinc_3 rfl (z := (h + 1)) ct_145_234 (by rw [kc_1]) ?_
              refine wi_iinc_4 rfl (z := (i + 1)) ct_145_237 (by rw [kc_1]) ?_
              refine wi_goto ct_145_240 ?_
              have hv : tkv (3, R, M) F = false := by
                unfold tkv
                dsimp only
                rw [hF3]
                rcases (by omega : R = 0 ∨ R = 1 ∨ R = 2) with rfl | rfl | rfl <;> simp <;> omega
              exact ih (k + 1) (false :: s) _ _ _ _ _ _ (by omega) (fun q hq => (funext fun j => up2_nq hq).trans (hf q hq)) hT2 (by simpa [hZ] using hn) ⟨by rw [hZ]; exact up2_eq, hup _⟩ (by rw [i_add hz ki_1 (by omega), List.length_cons, hZ]; omega) (by rw [hik1]; omega) rfl rfl rfl (fun fi3 h3 => by have := kk fi3 h3; rw [htk _ hv] at this; exact this)
            · skip
              refine wi_ic ct_145_210 kc_1 ?_
              refine wi_goto ct_145_211 ?_
              refine wi_zast ct_145_233 (sT_48 hS) (sL_48 hS) (i_in hz (by omega)) (i_cl (k := Z) hz (by omega)) (by decide) ?_
              refine wi_iinc_3 rfl (z := (h + 1)) ct_145_234 (by rw [kc_1]) ?_
              refine wi_iinc_4 rfl (z := (i + 1)) ct_145_237 (by rw [kc_1]) ?_
              refine wi_goto ct_145_240 ?_
              have hv : tkv (3, R, M) F = true := by
                unfold tkv
                dsimp only
                rw [hF3]
                rcases (by omega : R = 0 ∨ R = 1 ∨ R = 2) with rfl | rfl | rfl <;> simp <;> omega
              exact ih (k + 1) (true :: s) _ _ _ _ _ _ (by omega) (fun q hq => (funext fun j => up2_nq hq).trans (hf q hq)) hT2 (by simpa [hZ] using hn) ⟨by rw [hZ]; exact up2_eq, hup _⟩ (by rw [i_add hz ki_1 (by omega), List.length_cons, hZ]; omega) (by rw [hik1]; omega) rfl rfl rfl (fun fi3 h3 => by have := kk fi3 h3; rw [htk _ hv] at this; exact this)
        · skip
          refine wi_iload_6 ct_145_176 ?_
          refine wi_iload_5 ct_145_178 ?_
          refine wi_ic ct_145_180 kc_100 ?_
          refine wi_irem ct_145_182 (by decide) rfl ?_
          refine wi_icge ct_145_183 (i_rem hclk ki_12 (by omega) (by omega)) (show ((fi 45 (100 * s0 + k) - fi 45 (100 * s0 + k) / 100 * 100)).toInt = (M : Int) from (i_rem ht ki_100 (by omega) (by omega)).trans (by omega)) (fun h20 => ?_) (fun h20 => ?_)
          · skip
            refine wi_ic ct_145_190 kc_0 ?_
            refine wi_goto ct_145_191 ?_
            refine wi_zast ct_145_233 (sT_48 hS) (sL_48 hS) (i_in hz (by omega)) (i_cl (k := Z) hz (by omega)) (by decide) ?_
            refine wi_iinc_3 rfl (z := (h + 1)) ct_145_234 (by rw [kc_1]) ?_
            refine wi_iinc_4 rfl (z := (i + 1)) ct_145_237 (by rw [kc_1]) ?_
            refine wi_goto ct_145_240 ?_
            have hv : tkv (3, R, M) F = false := by
              unfold tkv
              dsimp only
              rw [hF3]
              rcases (by omega : R = 0 ∨ R = 1 ∨ R = 2) with rfl | rfl | rfl <;> simp <;> omega
            exact ih (k + 1) (false :: s) _ _ _ _ _ _ (by omega) (fun q hq => (funext fun j => up2_nq hq).trans (hf q hq)) hT2 (by simpa [hZ] using hn) ⟨by rw [hZ]; exact up2_eq, hup _⟩ (by rw [i_add hz ki_1 (by omega), List.length_cons, hZ]; omega) (by rw [hik1]; omega) rfl rfl rfl (fun fi3 h3 => by have := kk fi3 h3; rw [htk _ hv] at this; exact this)
          · skip
            refine wi_ic ct_145_186 kc_1 ?_
            refine wi_goto ct_145_187 ?_
            refine wi_zast ct_145_233 (sT_48 hS) (sL_48 hS) (i_in hz (by omega)) (i_cl (k := Z) hz (by omega)) (by decide) ?_
            refine wi_iinc_3 rfl (z := (h + 1)) ct_145_234 (by rw [kc_1]) ?_
            refine wi_iinc_4 rfl (z := (i + 1)) ct_145_237 (by rw [kc_1]) ?_
            refine wi_goto ct_145_240 ?_
            have hv : tkv (3, R, M) F = true := by
              unfold tkv
              dsimp only
              rw [hF3]
              rcases (by omega : R = 0 ∨ R = 1 ∨ R = 2) with rfl | rfl | rfl <;> simp <;> omega
            exact ih (k + 1) (true :: s) _ _ _ _ _ _ (by omega) (fun q hq => (funext fun j => up2_nq hq).trans (hf q hq)) hT2 (by simpa [hZ] using hn) ⟨by rw [hZ]; exact up2_eq, hup _⟩ (by rw [i_add hz ki_1 (by omega), List.length_cons, hZ]; omega) (by rw [hik1]; omega) rfl rfl rfl (fun fi3 h3 => by have := kk fi3 h3; rw [htk _ hv] at this; exact this)
      · skip
        replace ht : (fi 45 (100 * s0 + k)).toInt = 100 * (R : Int) + (M : Int) + 4000 := by omega
        refine wi_iload_4 ct_145_10 ?_
        refine wi_aload_0 ct_145_12 ?_
        refine wi_gfr ct_145_13 (sT_31 hS) rfl (sR_31_19 hS) ?_
        refine wi_iload_1 ct_145_16 ?_
        refine wi_iald (x := fi 44 c0) ct_145_17 (sT_44 hS) (sL_44 hS) (i_in hc (by omega)) (i_cl (k := c0) hc (by omega)) (congrFun (hf 44 (by decide)) _) ?_
        refine wi_icge_f ct_145_18 hik he (by omega) ?_
        refine wi_aload_0 ct_145_21 ?_
        refine wi_gfr ct_145_22 (sT_31 hS) rfl (sR_31_20 hS) ?_
        refine wi_iload_4 ct_145_25 ?_
        refine wi_iald (x := fi 45 (100 * s0 + k)) ct_145_27 (sT_45 hS) (sL_45 hS) (i_in hik (by omega)) (i_cl (k := (100 * s0 + k)) hik (by omega)) (congrFun (hf 45 (by decide)) _) ?_
        refine wi_istore_5 rfl ct_145_28 ?_
        refine wi_iload_5 ct_145_30 ?_
        refine wi_ic ct_145_32 kc_m33 ?_
        refine wi_icne_t ct_145_34 ht ki_m33 (by omega) ?_
        refine wi_iload_5 ct_145_64 ?_
        refine wi_ifge_t ct_145_66 ht (by omega) ?_
        refine wi_aload_0 ct_145_143 ?_
        refine wi_iload_5 ct_145_144 ?_
        refine wi_ic ct_145_146 kc_1000 ?_
        refine wi_idiv ct_145_149 (by decide) rfl ?_
        refine wi_iload_2 ct_145_150 ?_
        refine wi_cv2 (ls' := [some _, some _, some _]) ct_145_151 (Nat.le_of_ble_eq_true rfl) (by decide) (sT_31 hS) rfl (by decide) rfl rfl (Nat.le_of_ble_eq_true rfl) ?_
        refine wi_iload_1 ct_144_0 ?_
        refine wi_tsw (X := 4) (t := 60) ct_144_1 (show ((fi 45 (100 * s0 + k) / 1000)).toInt = 4 from (i_div ht ki_1000 (by omega) (by omega)).trans (by omega)) rfl ?_
        refine wi_aload_0 ct_144_60 ?_
        refine wi_gf (x := fi 31 27) ct_144_61 (sT_31 hS) rfl rfl (congrFun (hf 31 (by decide)) _) ?_
        refine wi_ic ct_144_64 kc_10 ?_
        refine wi_idiv ct_144_66 (by decide) rfl ?_
        refine wi_iret ct_144_67 rfl (wk_i ?_)
        refine wi_istore_6 rfl ct_145_154 ?_
        refine wi_iload_5 ct_145_156 ?_
        refine wi_ic ct_145_158 kc_100 ?_
        refine wi_idiv ct_145_160 (by decide) rfl ?_
        refine wi_ic ct_145_161 kc_10 ?_
        refine wi_irem ct_145_163 (by decide) rfl ?_
        refine wi_istore_7 rfl ct_145_164 ?_
        refine wi_aload_0 ct_145_166 ?_
        refine wi_gfr ct_145_167 (sT_31 hS) rfl (sR_31_26 hS) ?_
        refine wi_iload_3 ct_145_170 ?_
        refine wi_iload_7 ct_145_171 ?_
        refine wi_ifne ct_145_173 (show (((fi 45 (100 * s0 + k) / 100) - (fi 45 (100 * s0 + k) / 100) / 10 * 10)).toInt = (R : Int) from (i_rem (show ((fi 45 (100 * s0 + k) / 100)).toInt = (R : Int) + 40 from (i_div ht ki_100 (by omega) (by omega)).trans (by omega)) ki_10 (by omega) (by omega)).trans (by omega)) (fun h21 => ?_) (fun h21 => ?_)
        · skip
          refine wi_iload_7 ct_145_194 ?_
          refine wi_ic ct_145_196 kc_1 ?_
          refine wi_icne ct_145_197 (show (((fi 45 (100 * s0 + k) / 100) - (fi 45 (100 * s0 + k) / 100) / 10 * 10)).toInt = (R : Int) from (i_rem (show ((fi 45 (100 * s0 + k) / 100)).toInt = (R : Int) + 40 from (i_div ht ki_100 (by omega) (by omega)).trans (by omega)) ki_10 (by omega) (by omega)).trans (by omega)) ki_1 (fun h22 => ?_) (fun h22 => ?_)
          · skip
            refine wi_iload_6 ct_145_218 ?_
            refine wi_iload_5 ct_145_220 ?_
            refine wi_ic ct_145_222 kc_100 ?_
            refine wi_irem ct_145_224 (by decide) rfl ?_
            refine wi_icle ct_145_225 (i_div hsz ki_10 (by omega) (by omega)) (show ((fi 45 (100 * s0 + k) - fi 45 (100 * s0 + k) / 100 * 100)).toInt = (M : Int) from (i_rem ht ki_100 (by omega) (by omega)).trans (by omega)) (fun h23 => ?_) (fun h23 => ?_)
            · skip
              refine wi_ic ct_145_232 kc_0 ?_
              refine wi_zast ct_145_233 (sT_48 hS) (sL_48 hS) (i_in hz (by omega)) (i_cl (k := Z) hz (by omega)) (by decide) ?_
              refine wi_iinc_3 rfl (z := (h + 1)) ct_145_234 (by rw [kc_1]) ?_
              refine wi_iinc_4 rfl (z := (i + 1)) ct_145_237 (by rw [kc_1]) ?_
              refine wi_goto ct_145_240 ?_
              have hv : tkv (4, R, M) F = false := by
                unfold tkv
                dsimp only
                rw [hF4]
                rcases (by omega : R = 0 ∨ R = 1 ∨ R = 2) with rfl | rfl | rfl <;> simp <;> omega
              exact ih (k + 1) (false :: s) _ _ _ _ _ _ (by omega) (fun q hq => (funext fun j => up2_nq hq).trans (hf q hq)) hT2 (by simpa [hZ] using hn) ⟨by rw [hZ]; exact up2_eq, hup _⟩ (by rw [i_add hz ki_1 (by omega), List.length_cons, hZ]; omega) (by rw [hik1]; omega) rfl rfl rfl (fun fi3 h3 => by have := kk fi3 h3; rw [htk _ hv] at this; exact this)
            · skip
              refine wi_ic ct_145_228 kc_1 ?_
              refine wi_goto ct_145_229 ?_
              refine wi_zast ct_145_233 (sT_48 hS) (sL_48 hS) (i_in hz (by omega)) (i_cl (k := Z) hz (by omega)) (by decide) ?_
              refine wi_iinc_3 rfl (z := (h + 1)) ct_145_234 (by rw [kc_1]) ?_
              refine wi_iinc_4 rfl (z := (i + 1)) ct_145_237 (by rw [kc_1]) ?_
              refine wi_goto ct_145_240 ?_
              have hv : tkv (4, R, M) F = true := by
                unfold tkv
                dsimp only
                rw [hF4]
                rcases (by omega : R = 0 ∨ R = 1 ∨ R = 2) with rfl | rfl | rfl <;> simp <;> omega
              exact ih (k + 1) (true :: s) _ _ _ _ _ _ (by omega) (fun q hq => (funext fun j => up2_nq hq).trans (hf q hq)) hT2 (by simpa [hZ] using hn) ⟨by rw [hZ]; exact up2_eq, hup _⟩ (by rw [i_add hz ki_1 (by omega), List.length_cons, hZ]; omega) (by rw [hik1]; omega) rfl rfl rfl (fun fi3 h3 => by have := kk fi3 h3; rw [htk _ hv] at this; exact this)
          · skip
            refine wi_iload_6 ct_145_200 ?_
            refine wi_iload_5 ct_145_202 ?_
            refine wi_ic ct_145_204 kc_100 ?_
            refine wi_irem ct_145_206 (by decide) rfl ?_
            refine wi_icne ct_145_207 (i_div hsz ki_10 (by omega) (by omega)) (show ((fi 45 (100 * s0 + k) - fi 45 (100 * s0 + k) / 100 * 100)).toInt = (M : Int) from (i_rem ht ki_100 (by omega) (by omega)).trans (by omega)) (fun h24 => ?_) (fun h24 => ?_)
            · skip
              refine wi_ic ct_145_214 kc_0 ?_
              refine wi_goto ct_145_215 ?_
              refine wi_zast ct_145_233 (sT_48 hS) (sL_48 hS) (i_in hz (by omega)) (i_cl (k := Z) hz (by omega)) (by decide) ?_
              refine wi_iinc_3 rfl (z := (h + 1)) ct_145_234 (by rw [kc_1]) ?_
              refine wi_iinc_4 rfl (z := (i + 1)) ct_145_237 (by rw [kc_1]) ?_
              refine wi_goto ct_145_240 ?_
              have hv : tkv (4, R, M) F = false := by
                unfold tkv
                dsimp only
                rw [hF4]
                rcases (by omega : R = 0 ∨ R = 1 ∨ R = 2) with rfl | rfl | rfl <;> simp <;> omega
              exact ih (k + 1) (false :: s) _ _ _ _ _ _ (by omega) (fun q hq => (funext fun j => up2_nq hq).trans (hf q hq)) hT2 (by simpa [hZ] using hn) ⟨by rw [hZ]; exact up2_eq, hup _⟩ (by rw [i_add hz ki_1 (by omega), List.length_cons, hZ]; omega) (by rw [hik1]; omega) rfl rfl rfl (fun fi3 h3 => by have := kk fi3 h3; rw [htk _ hv] at this; exact this)
            · skip
              refine wi_ic ct_145_210 kc_1 ?_
              refine wi_goto ct_145_211 ?_
              refine wi_zast ct_145_233 (sT_48 hS) (sL_48 hS) (i_in hz (by omega)) (i_cl (k := Z) hz (by omega)) (by decide) ?_
              refine wi_iinc_3 rfl (z := (h + 1)) ct_145_234 (by rw [kc_1]) ?_
              refine wi_iinc_4 rfl (z := (i + 1)) ct_145_237 (by rw [kc_1]) ?_
              refine wi_goto ct_145_240 ?_
              have hv : tkv (4, R, M) F = true := by
                unfold tkv
                dsimp only
                rw [hF4]
                rcases (by omega : R = 0 ∨ R = 1 ∨ R = 2) with rfl | rfl | rfl <;> simp <;> omega
              exact ih (k + 1) (true :: s) _ _ _ _ _ _ (by omega) (fun q hq => (funext fun j => up2_nq hq).trans (hf q hq)) hT2 (by simpa [hZ] using hn) ⟨by rw [hZ]; exact up2_eq, hup _⟩ (by rw [i_add hz ki_1 (by omega), List.length_cons, hZ]; omega) (by rw [hik1]; omega) rfl rfl rfl (fun fi3 h3 => by have := kk fi3 h3; rw [htk _ hv] at this; exact this)
        · skip
          refine wi_iload_6 ct_145_176 ?_
          refine wi_iload_5 ct_145_178 ?_
          refine wi_ic ct_145_180 kc_100 ?_
          refine wi_irem ct_145_182 (by decide) rfl ?_
          refine wi_icge ct_145_183 (i_div hsz ki_10 (by omega) (by omega)) (show ((fi 45 (100 * s0 + k) - fi 45 (100 * s0 + k) / 100 * 100)).toInt = (M : Int) from (i_rem ht ki_100 (by omega) (by omega)).trans (by omega)) (fun h25 => ?_) (fun h25 => ?_)
          · skip
            refine wi_ic ct_145_190 kc_0 ?_
            refine wi_goto ct_145_191 ?_
            refine wi_zast ct_145_233 (sT_48 hS) (sL_48 hS) (i_in hz (by omega)) (i_cl (k := Z) hz (by omega)) (by decide) ?_
            refine wi_iinc_3 rfl (z := (h + 1)) ct_145_234 (by rw [kc_1]) ?_
            refine wi_iinc_4 rfl (z := (i + 1)) ct_145_237 (by rw [kc_1]) ?_
            refine wi_goto ct_145_240 ?_
            have hv : tkv (4, R, M) F = false := by
              unfold tkv
              dsimp only
              rw [hF4]
              rcases (by omega : R = 0 ∨ R = 1 ∨ R = 2) with rfl | rfl | rfl <;> simp <;> omega
            exact ih (k + 1) (false :: s) _ _ _ _ _ _ (by omega) (fun q hq => (funext fun j => up2_nq hq).trans (hf q hq)) hT2 (by simpa [hZ] using hn) ⟨by rw [hZ]; exact up2_eq, hup _⟩ (by rw [i_add hz ki_1 (by omega), List.length_cons, hZ]; omega) (by rw [hik1]; omega) rfl rfl rfl (fun fi3 h3 => by have := kk fi3 h3; rw [htk _ hv] at this; exact this)
          · skip
            refine wi_ic ct_145_186 kc_1 ?_
            refine wi_goto ct_145_187 ?_
            refine wi_zast ct_145_233 (sT_48 hS) (sL_48 hS) (i_in hz (by omega)) (i_cl (k := Z) hz (by omega)) (by decide) ?_
            refine wi_iinc_3 rfl (z := (h + 1)) ct_145_234 (by rw [kc_1]) ?_
            refine wi_iinc_4 rfl (z := (i + 1)) ct_145_237 (by rw [kc_1]) ?_
            refine wi_goto ct_145_240 ?_
            have hv : tkv (4, R, M) F = true := by
              unfold tkv
              dsimp only
              rw [hF4]
              rcases (by omega : R = 0 ∨ R = 1 ∨ R = 2) with rfl | rfl | rfl <;> simp <;> omega
            exact ih (k + 1) (true :: s) _ _ _ _ _ _ (by omega) (fun q hq => (funext fun j => up2_nq hq).trans (hf q hq)) hT2 (by simpa [hZ] using hn) ⟨by rw [hZ]; exact up2_eq, hup _⟩ (by rw [i_add hz ki_1 (by omega), List.length_cons, hZ]; omega) (by rw [hik1]; omega) rfl rfl rfl (fun fi3 h3 => by have := kk fi3 h3; rw [htk _ hv] at this; exact this)
      · skip
        replace ht : (fi 45 (100 * s0 + k)).toInt = 100 * (R : Int) + (M : Int) + 5000 := by omega
        refine wi_iload_4 ct_145_10 ?_
        refine wi_aload_0 ct_145_12 ?_
        refine wi_gfr ct_145_13 (sT_31 hS) rfl (sR_31_19 hS) ?_
        refine wi_iload_1 ct_145_16 ?_
        refine wi_iald (x := fi 44 c0) ct_145_17 (sT_44 hS) (sL_44 hS) (i_in hc (by omega)) (i_cl (k := c0) hc (by omega)) (congrFun (hf 44 (by decide)) _) ?_
        refine wi_icge_f ct_145_18 hik he (by omega) ?_
        refine wi_aload_0 ct_145_21 ?_
        refine wi_gfr ct_145_22 (sT_31 hS) rfl (sR_31_20 hS) ?_
        refine wi_iload_4 ct_145_25 ?_
        refine wi_iald (x := fi 45 (100 * s0 + k)) ct_145_27 (sT_45 hS) (sL_45 hS) (i_in hik (by omega)) (i_cl (k := (100 * s0 + k)) hik (by omega)) (congrFun (hf 45 (by decide)) _) ?_
        refine wi_istore_5 rfl ct_145_28 ?_
        refine wi_iload_5 ct_145_30 ?_
        refine wi_ic ct_145_32 kc_m33 ?_
        refine wi_icne_t ct_145_34 ht ki_m33 (by omega) ?_
        refine wi_iload_5 ct_145_64 ?_
        refine wi_ifge_t ct_145_66 ht (by omega) ?_
        refine wi_aload_0 ct_145_143 ?_
        refine wi_iload_5 ct_145_144 ?_
        refine wi_ic ct_145_146 kc_1000 ?_
        refine wi_idiv ct_145_149 (by decide) rfl ?_
        refine wi_iload_2 ct_145_150 ?_
        refine wi_cv2 (ls' := [some _, some _, some _]) ct_145_151 (Nat.le_of_ble_eq_true rfl) (by decide) (sT_31 hS) rfl (by decide) rfl rfl (Nat.le_of_ble_eq_true rfl) ?_
        refine wi_iload_1 ct_144_0 ?_
        refine wi_tsw (X := 5) (t := 68) ct_144_1 (show ((fi 45 (100 * s0 + k) / 1000)).toInt = 5 from (i_div ht ki_1000 (by omega) (by omega)).trans (by omega)) rfl ?_
        refine wi_aload_0 ct_144_68 ?_
        refine wi_gf (x := fi 31 28) ct_144_69 (sT_31 hS) rfl rfl (congrFun (hf 31 (by decide)) _) ?_
        refine wi_ic ct_144_72 kc_10 ?_
        refine wi_idiv ct_144_74 (by decide) rfl ?_
        refine wi_iret ct_144_75 rfl (wk_i ?_)
        refine wi_istore_6 rfl ct_145_154 ?_
        refine wi_iload_5 ct_145_156 ?_
        refine wi_ic ct_145_158 kc_100 ?_
        refine wi_idiv ct_145_160 (by decide) rfl ?_
        refine wi_ic ct_145_161 kc_10 ?_
        refine wi_irem ct_145_163 (by decide) rfl ?_
        refine wi_istore_7 rfl ct_145_164 ?_
        refine wi_aload_0 ct_145_166 ?_
        refine wi_gfr ct_145_167 (sT_31 hS) rfl (sR_31_26 hS) ?_
        refine wi_iload_3 ct_145_170 ?_
        refine wi_iload_7 ct_145_171 ?_
        refine wi_ifne ct_145_173 (show (((fi 45 (100 * s0 + k) / 100) - (fi 45 (100 * s0 + k) / 100) / 10 * 10)).toInt = (R : Int) from (i_rem (show ((fi 45 (100 * s0 + k) / 100)).toInt = (R : Int) + 50 from (i_div ht ki_100 (by omega) (by omega)).trans (by omega)) ki_10 (by omega) (by omega)).trans (by omega)) (fun h26 => ?_) (fun h26 => ?_)
        · skip
          refine wi_iload_7 ct_145_194 ?_
          refine wi_ic ct_145_196 kc_1 ?_
          refine wi_icne ct_145_197 (show (((fi 45 (100 * s0 + k) / 100) - (fi 45 (100 * s0 + k) / 100) / 10 * 10)).toInt = (R : Int) from (i_rem (show ((fi 45 (100 * s0 + k) / 100)).toInt = (R : Int) + 50 from (i_div ht ki_100 (by omega) (by omega)).trans (by omega)) ki_10 (by omega) (by omega)).trans (by omega)) ki_1 (fun h27 => ?_) (fun h27 => ?_)
          · skip
            refine wi_iload_6 ct_145_218 ?_
            refine wi_iload_5 ct_145_220 ?_
            refine wi_ic ct_145_222 kc_100 ?_
            refine wi_irem ct_145_224 (by decide) rfl ?_
            refine wi_icle ct_145_225 (i_div hfm ki_10 (by omega) (by omega)) (show ((fi 45 (100 * s0 + k) - fi 45 (100 * s0 + k) / 100 * 100)).toInt = (M : Int) from (i_rem ht ki_100 (by omega) (by omega)).trans (by omega)) (fun h28 => ?_) (fun h28 => ?_)
            · skip
              refine wi_ic ct_145_232 kc_0 ?_
              refine wi_zast ct_145_233 (sT_48 hS) (sL_48 hS) (i_in hz (by omega)) (i_cl (k := Z) hz (by omega)) (by decide) ?_
              refine wi_iinc_3 rfl (z := (h + 1)) ct_145_234 (by rw [kc_1]) ?_
              refine wi_iinc_4 rfl (z := (i + 1)) ct_145_237 (by rw [kc_1]) ?_
              refine wi_goto ct_145_240 ?_
              have hv : tkv (5, R, M) F = false := by
                unfold tkv
                dsimp only
                rw [hF5]
                rcases (by omega : R = 0 ∨ R = 1 ∨ R = 2) with rfl | rfl | rfl <;> simp <;> omega
              exact ih (k + 1) (false :: s) _ _ _ _ _ _ (by omega) (fun q hq => (funext fun j => up2_nq hq).trans (hf q hq)) hT2 (by simpa [hZ] using hn) ⟨by rw [hZ]; exact up2_eq, hup _⟩ (by rw [i_add hz ki_1 (by omega), List.length_cons, hZ]; omega) (by rw [hik1]; omega) rfl rfl rfl (fun fi3 h3 => by have := kk fi3 h3; rw [htk _ hv] at this; exact this)
            · skip
              refine wi_ic ct_145_228 kc_1 ?_
              refine wi_goto ct_145_229 ?_
              refine wi_zast ct_145_233 (sT_48 hS) (sL_48 hS) (i_in hz (by omega)) (i_cl (k := Z) hz (by omega)) (by decide) ?_
              refine wi_iinc_3 rfl (z := (h + 1)) ct_145_234 (by rw [kc_1]) ?_
              refine wi_iinc_4 rfl (z := (i + 1)) ct_145_237 (by rw [kc_1]) ?_
              refine wi_goto ct_145_240 ?_
              have hv : tkv (5, R, M) F = true := by
                unfold tkv
                dsimp only
                rw [hF5]
                rcases (by omega : R = 0 ∨ R = 1 ∨ R = 2) with rfl | rfl | rfl <;> simp <;> omega
              exact ih (k + 1) (true :: s) _ _ _ _ _ _ (by omega) (fun q hq => (funext fun j => up2_nq hq).trans (hf q hq)) hT2 (by simpa [hZ] using hn) ⟨by rw [hZ]; exact up2_eq, hup _⟩ (by rw [i_add hz ki_1 (by omega), List.length_cons, hZ]; omega) (by rw [hik1]; omega) rfl rfl rfl (fun fi3 h3 => by have := kk fi3 h3; rw [htk _ hv] at this; exact this)
          · skip
            refine wi_iload_6 ct_145_200 ?_
            refine wi_iload_5 ct_145_202 ?_
            refine wi_ic ct_145_204 kc_100 ?_
            refine wi_irem ct_145_206 (by decide) rfl ?_
            refine wi_icne ct_145_207 (i_div hfm ki_10 (by omega) (by omega)) (show ((fi 45 (100 * s0 + k) - fi 45 (100 * s0 + k) / 100 * 100)).toInt = (M : Int) from (i_rem ht ki_100 (by omega) (by omega)).trans (by omega)) (fun h29 => ?_) (fun h29 => ?_)
            · skip
              refine wi_ic ct_145_214 kc_0 ?_
              refine wi_goto ct_145_215 ?_
              refine wi_zast ct_145_233 (sT_48 hS) (sL_48 hS) (i_in hz (by omega)) (i_cl (k := Z) hz (by omega)) (by decide) ?_
              refine wi_iinc_3 rfl (z := (h + 1)) ct_145_234 (by rw [kc_1]) ?_
              refine wi_iinc_4 rfl (z := (i + 1)) ct_145_237 (by rw [kc_1]) ?_
              refine wi_goto ct_145_240 ?_
              have hv : tkv (5, R, M) F = false := by
                unfold tkv
                dsimp only
                rw [hF5]
                rcases (by omega : R = 0 ∨ R = 1 ∨ R = 2) with rfl | rfl | rfl <;> simp <;> omega
              exact ih (k + 1) (false :: s) _ _ _ _ _ _ (by omega) (fun q hq => (funext fun j => up2_nq hq).trans (hf q hq)) hT2 (by simpa [hZ] using hn) ⟨by rw [hZ]; exact up2_eq, hup _⟩ (by rw [i_add hz ki_1 (by omega), List.length_cons, hZ]; omega) (by rw [hik1]; omega) rfl rfl rfl (fun fi3 h3 => by have := kk fi3 h3; rw [htk _ hv] at this; exact this)
            · skip
              refine wi_ic ct_145_210 kc_1 ?_
              refine wi_goto ct_145_211 ?_
              refine wi_zast ct_145_233 (sT_48 hS) (sL_48 hS) (i_in hz (by omega)) (i_cl (k := Z) hz (by omega)) (by decide) ?_
              refine wi_iinc_3 rfl (z := (h + 1)) ct_145_234 (by rw [kc_1]) ?_
              refine wi_iinc_4 rfl (z := (i + 1)) ct_145_237 (by rw [kc_1]) ?_
              refine wi_goto ct_145_240 ?_
              have hv : tkv (5, R, M) F = true := by
                unfold tkv
                dsimp only
                rw [hF5]
                rcases (by omega : R = 0 ∨ R = 1 ∨ R = 2) with rfl | rfl | rfl <;> simp <;> omega
              exact ih (k + 1) (true :: s) _ _ _ _ _ _ (by omega) (fun q hq => (funext fun j => up2_nq hq).trans (hf q hq)) hT2 (by simpa [hZ] using hn) ⟨by rw [hZ]; exact up2_eq, hup _⟩ (by rw [i_add hz ki_1 (by omega), List.length_cons, hZ]; omega) (by rw [hik1]; omega) rfl rfl rfl (fun fi3 h3 => by have := kk fi3 h3; rw [htk _ hv] at this; exact this)
        · skip
          refine wi_iload_6 ct_145_176 ?_
          refine wi_iload_5 ct_145_178 ?_
          refine wi_ic ct_145_180 kc_100 ?_
          refine wi_irem ct_145_182 (by decide) rfl ?_
          refine wi_icge ct_145_183 (i_div hfm ki_10 (by omega) (by omega)) (show ((fi 45 (100 * s0 + k) - fi 45 (100 * s0 + k) / 100 * 100)).toInt = (M : Int) from (i_rem ht ki_100 (by omega) (by omega)).trans (by omega)) (fun h30 => ?_) (fun h30 => ?_)
          · skip
            refine wi_ic ct_145_190 kc_0 ?_
            refine wi_goto ct_145_191 ?_
            refine wi_zast ct_145_233 (sT_48 hS) (sL_48 hS) (i_in hz (by omega)) (i_cl (k := Z) hz (by omega)) (by decide) ?_
            refine wi_iinc_3 rfl (z := (h + 1)) ct_145_234 (by rw [kc_1]) ?_
            refine wi_iinc_4 rfl (z := (i + 1)) ct_145_237 (by rw [kc_1]) ?_
            refine wi_goto ct_145_240 ?_
            have hv : tkv (5, R, M) F = false := by
              unfold tkv
              dsimp only
              rw [hF5]
              rcases (by omega : R = 0 ∨ R = 1 ∨ R = 2) with rfl | rfl | rfl <;> simp <;> omega
            exact ih (k + 1) (false :: s) _ _ _ _ _ _ (by omega) (fun q hq => (funext fun j => up2_nq hq).trans (hf q hq)) hT2 (by simpa [hZ] using hn) ⟨by rw [hZ]; exact up2_eq, hup _⟩ (by rw [i_add hz ki_1 (by omega), List.length_cons, hZ]; omega) (by rw [hik1]; omega) rfl rfl rfl (fun fi3 h3 => by have := kk fi3 h3; rw [htk _ hv] at this; exact this)
          · skip
            refine wi_ic ct_145_186 kc_1 ?_
            refine wi_goto ct_145_187 ?_
            refine wi_zast ct_145_233 (sT_48 hS) (sL_48 hS) (i_in hz (by omega)) (i_cl (k := Z) hz (by omega)) (by decide) ?_
            refine wi_iinc_3 rfl (z := (h + 1)) ct_145_234 (by rw [kc_1]) ?_
            refine wi_iinc_4 rfl (z := (i + 1)) ct_145_237 (by rw [kc_1]) ?_
            refine wi_goto ct_145_240 ?_
            have hv : tkv (5, R, M) F = true := by
              unfold tkv
              dsimp only
              rw [hF5]
              rcases (by omega : R = 0 ∨ R = 1 ∨ R = 2) with rfl | rfl | rfl <;> simp <;> omega
            exact ih (k + 1) (true :: s) _ _ _ _ _ _ (by omega) (fun q hq => (funext fun j => up2_nq hq).trans (hf q hq)) hT2 (by simpa [hZ] using hn) ⟨by rw [hZ]; exact up2_eq, hup _⟩ (by rw [i_add hz ki_1 (by omega), List.length_cons, hZ]; omega) (by rw [hik1]; omega) rfl rfl rfl (fun fi3 h3 => by have := kk fi3 h3; rw [htk _ hv] at this; exact this)
    · skip
      subst hc1
      obtain ⟨a, r, rfl⟩ : ∃ a r, s = a :: r := by
        cases s with
        | nil => simp at hh
        | cons a r => exact ⟨a, r, rfl⟩
      replace ht : (fi 45 (100 * s0 + k)).toInt = -33 := ht
      obtain ⟨Z, hZ⟩ : ∃ Z, r.length = Z := ⟨_, rfl⟩
      rw [List.length_cons, hZ] at hz hn
      have hzb := okH_le hn
      replace hz : h.toInt = (Z : Int) + 1 := by omega
      obtain ⟨hs1, hs2⟩ := hs
      rw [hZ] at hs1
      have hup : ∀ x : Int32, pil ((up2 fi2 48 Z x) 48) r := fun x => pil_up hs2 (fun j hj => up2_nj (by omega))
      cases a
      · skip
        refine wi_iload_4 ct_145_10 ?_
        refine wi_aload_0 ct_145_12 ?_
        refine wi_gfr ct_145_13 (sT_31 hS) rfl (sR_31_19 hS) ?_
        refine wi_iload_1 ct_145_16 ?_
        refine wi_iald (x := fi 44 c0) ct_145_17 (sT_44 hS) (sL_44 hS) (i_in hc (by omega)) (i_cl (k := c0) hc (by omega)) (congrFun (hf 44 (by decide)) _) ?_
        refine wi_icge_f ct_145_18 hik he (by omega) ?_
        refine wi_aload_0 ct_145_21 ?_
        refine wi_gfr ct_145_22 (sT_31 hS) rfl (sR_31_20 hS) ?_
        refine wi_iload_4 ct_145_25 ?_
        refine wi_iald (x := fi 45 (100 * s0 + k)) ct_145_27 (sT_45 hS) (sL_45 hS) (i_in hik (by omega)) (i_cl (k := (100 * s0 + k)) hik (by omega)) (congrFun (hf 45 (by decide)) _) ?_
        refine wi_istore_5 rfl ct_145_28 ?_
        refine wi_iload_5 ct_145_30 ?_
        refine wi_ic ct_145_32 kc_m33 ?_
        refine wi_icne_f ct_145_34 ht ki_m33 (by decide) ?_
        refine wi_aload_0 ct_145_37 ?_
        refine wi_gfr ct_145_38 (sT_31 hS) rfl (sR_31_26 hS) ?_
        refine wi_iload_3 ct_145_41 ?_
        refine wi_ic ct_145_42 kc_1 ?_
        refine wi_isub ct_145_43 rfl ?_
        refine wi_aload_0 ct_145_44 ?_
        refine wi_gfr ct_145_45 (sT_31 hS) rfl (sR_31_26 hS) ?_
        refine wi_iload_3 ct_145_48 ?_
        refine wi_ic ct_145_49 kc_1 ?_
        refine wi_isub ct_145_50 rfl ?_
        refine wi_bald (x := 0) ct_145_51 (Or.inr (sT_48 hS)) (sL_48 hS) (i_in (i_sub hz ki_1 (by omega)) (by omega)) (i_cl (k := Z) (i_sub hz ki_1 (by omega)) (by omega)) hs1 ?_
        refine wi_ifne_f ct_145_52 ki_0 (by decide) ?_
        refine wi_ic ct_145_55 kc_1 ?_
        refine wi_goto ct_145_56 ?_
        refine wi_zast ct_145_60 (sT_48 hS) (sL_48 hS) (i_in (i_sub hz ki_1 (by omega)) (by omega)) (i_cl (k := Z) (i_sub hz ki_1 (by omega)) (by omega)) (by decide) ?_
        refine wi_goto ct_145_61 ?_
        refine wi_iinc_4 rfl (z := (i + 1)) ct_145_237 (by rw [kc_1]) ?_
        refine wi_goto ct_145_240 ?_
        exact ih (k + 1) (true :: r) _ _ _ _ _ _ (by omega) (fun q hq => (funext fun j => up2_nq hq).trans (hf q hq)) hT2 (by simpa [hZ] using hn) ⟨by rw [hZ]; exact up2_eq, hup _⟩ (by rw [hz, List.length_cons, hZ]; omega) (by rw [hik1]; omega) rfl h6 h7 kk
      · skip
        refine wi_iload_4 ct_145_10 ?_
        refine wi_aload_0 ct_145_12 ?_
        refine wi_gfr ct_145_13 (sT_31 hS) rfl (sR_31_19 hS) ?_
        refine wi_iload_1 ct_145_16 ?_
        refine wi_iald (x := fi 44 c0) ct_145_17 (sT_44 hS) (sL_44 hS) (i_in hc (by omega)) (i_cl (k := c0) hc (by omega)) (congrFun (hf 44 (by decide)) _) ?_
        refine wi_icge_f ct_145_18 hik he (by omega) ?_
        refine wi_aload_0 ct_145_21 ?_
        refine wi_gfr ct_145_22 (sT_31 hS) rfl (sR_31_20 hS) ?_
        refine wi_iload_4 ct_145_25 ?_
        refine wi_iald (x := fi 45 (100 * s0 + k)) ct_145_27 (sT_45 hS) (sL_45 hS) (i_in hik (by omega)) (i_cl (k := (100 * s0 + k)) hik (by omega)) (congrFun (hf 45 (by decide)) _) ?_
        refine wi_istore_5 rfl ct_145_28 ?_
        refine wi_iload_5 ct_145_30 ?_
        refine wi_ic ct_145_32 kc_m33 ?_
        refine wi_icne_f ct_145_34 ht ki_m33 (by decide) ?_
        refine wi_aload_0 ct_145_37 ?_
        refine wi_gfr ct_145_38 (sT_31 hS) rfl (sR_31_26 hS) ?_
        refine wi_iload_3 ct_145_41 ?_
        refine wi_ic ct_145_42 kc_1 ?_
        refine wi_isub ct_145_43 rfl ?_
        refine wi_aload_0 ct_145_44 ?_
        refine wi_gfr ct_145_45 (sT_31 hS) rfl (sR_31_26 hS) ?_
        refine wi_iload_3 ct_145_48 ?_
        refine wi_ic ct_145_49 kc_1 ?_
        refine wi_isub ct_145_50 rfl ?_
        refine wi_bald (x := 1) ct_145_51 (Or.inr (sT_48 hS)) (sL_48 hS) (i_in (i_sub hz ki_1 (by omega)) (by omega)) (i_cl (k := Z) (i_sub hz ki_1 (by omega)) (by omega)) hs1 ?_
        refine wi_ifne_t ct_145_52 ki_1 (by decide) ?_
        refine wi_ic ct_145_59 kc_0 ?_
        refine wi_zast ct_145_60 (sT_48 hS) (sL_48 hS) (i_in (i_sub hz ki_1 (by omega)) (by omega)) (i_cl (k := Z) (i_sub hz ki_1 (by omega)) (by omega)) (by decide) ?_
        refine wi_goto ct_145_61 ?_
        refine wi_iinc_4 rfl (z := (i + 1)) ct_145_237 (by rw [kc_1]) ?_
        refine wi_goto ct_145_240 ?_
        exact ih (k + 1) (false :: r) _ _ _ _ _ _ (by omega) (fun q hq => (funext fun j => up2_nq hq).trans (hf q hq)) hT2 (by simpa [hZ] using hn) ⟨by rw [hZ]; exact up2_eq, hup _⟩ (by rw [hz, List.length_cons, hZ]; omega) (by rw [hik1]; omega) rfl h6 h7 kk
    · skip
      obtain ⟨a, b, r, rfl⟩ : ∃ a b r, s = a :: b :: r := by
        match s, hh with
        | a :: b :: r, _ => exact ⟨a, b, r, rfl⟩
        | [_], hh => exact absurd hh (by simp)
        | [], hh => exact absurd hh (by simp)
      obtain ⟨Z, hZ⟩ : ∃ Z, r.length = Z := ⟨_, rfl⟩
      rw [List.length_cons, List.length_cons, hZ] at hz hn
      have hzb := okH_le hn
      replace hz : h.toInt = (Z : Int) + 2 := by omega
      obtain ⟨hs1, hs1b, hs2⟩ := hs
      rw [List.length_cons, hZ] at hs1
      rw [hZ] at hs1b
      have hup : ∀ x : Int32, pil ((up2 fi2 48 Z x) 48) r := fun x => pil_up hs2 (fun j hj => up2_nj (by omega))
      rcases hc1 with hc1 | hc1
      · skip
        subst hc1
        replace ht : (fi 45 (100 * s0 + k)).toInt = -38 := ht
        cases a <;> cases b
        · skip
          refine wi_iload_4 ct_145_10 ?_
          refine wi_aload_0 ct_145_12 ?_
          refine wi_gfr ct_145_13 (sT_31 hS) rfl (sR_31_19 hS) ?_
          refine wi_iload_1 ct_145_16 ?_
          refine wi_iald (x := fi 44 c0) ct_145_17 (sT_44 hS) (sL_44 hS) (i_in hc (by omega)) (i_cl (k := c0) hc (by omega)) (congrFun (hf 44 (by decide)) _) ?_
          refine wi_icge_f ct_145_18 hik he (by omega) ?_
          refine wi_aload_0 ct_145_21 ?_
          refine wi_gfr ct_145_22 (sT_31 hS) rfl (sR_31_20 hS) ?_
          refine wi_iload_4 ct_145_25 ?_
          refine wi_iald (x := fi 45 (100 * s0 + k)) ct_145_27 (sT_45 hS) (sL_45 hS) (i_in hik (by omega)) (i_cl (k := (100 * s0 + k)) hik (by omega)) (congrFun (hf 45 (by decide)) _) ?_
          refine wi_istore_5 rfl ct_145_28 ?_
          refine wi_iload_5 ct_145_30 ?_
          refine wi_ic ct_145_32 kc_m33 ?_
          refine wi_icne_t ct_145_34 ht ki_m33 (by decide) ?_
          refine wi_iload_5 ct_145_64 ?_
          refine wi_ifge_f ct_145_66 ht (by decide) ?_
          refine wi_iinc_3 rfl (z := (h + (-1))) ct_145_69 (by rw [kc_m1]) ?_
          refine wi_aload_0 ct_145_72 ?_
          refine wi_gfr ct_145_73 (sT_31 hS) rfl (sR_31_26 hS) ?_
          refine wi_iload_3 ct_145_76 ?_
          refine wi_ic ct_145_77 kc_1 ?_
          refine wi_isub ct_145_78 rfl ?_
          refine wi_iload_5 ct_145_79 ?_
          refine wi_ic ct_145_81 kc_m38 ?_
          refine wi_icne_f ct_145_83 ht ki_m38 (by decide) ?_
          refine wi_aload_0 ct_145_86 ?_
          refine wi_gfr ct_145_87 (sT_31 hS) rfl (sR_31_26 hS) ?_
          refine wi_iload_3 ct_145_90 ?_
          refine wi_ic ct_145_91 kc_1 ?_
          refine wi_isub ct_145_92 rfl ?_
          refine wi_bald (x := 0) ct_145_93 (Or.inr (sT_48 hS)) (sL_48 hS) (i_in (i_sub (i_add hz ki_m1 (by omega)) ki_1 (by omega)) (by omega)) (i_cl (k := Z) (i_sub (i_add hz ki_m1 (by omega)) ki_1 (by omega)) (by omega)) hs1b ?_
          refine wi_ifeq_t ct_145_94 ki_0 (by decide) ?_
          refine wi_ic ct_145_110 kc_0 ?_
          refine wi_goto ct_145_111 ?_
          refine wi_zast ct_145_139 (sT_48 hS) (sL_48 hS) (i_in (i_sub (i_add hz ki_m1 (by omega)) ki_1 (by omega)) (by omega)) (i_cl (k := Z) (i_sub (i_add hz ki_m1 (by omega)) ki_1 (by omega)) (by omega)) (by decide) ?_
          refine wi_goto ct_145_140 ?_
          refine wi_iinc_4 rfl (z := (i + 1)) ct_145_237 (by rw [kc_1]) ?_
          refine wi_goto ct_145_240 ?_
          exact ih (k + 1) (false :: r) _ _ _ _ _ _ (by omega) (fun q hq => (funext fun j => up2_nq hq).trans (hf q hq)) hT2 (by simpa [hZ] using hn) ⟨by rw [hZ]; exact up2_eq, hup _⟩ (by rw [(i_add hz ki_m1 (by omega)), List.length_cons, hZ]; omega) (by rw [hik1]; omega) rfl h6 h7 kk
        · skip
          refine wi_iload_4 ct_145_10 ?_
          refine wi_aload_0 ct_145_12 ?_
          refine wi_gfr ct_145_13 (sT_31 hS) rfl (sR_31_19 hS) ?_
          refine wi_iload_1 ct_145_16 ?_
          refine wi_iald (x := fi 44 c0) ct_145_17 (sT_44 hS) (sL_44 hS) (i_in hc (by omega)) (i_cl (k := c0) hc (by omega)) (congrFun (hf 44 (by decide)) _) ?_
          refine wi_icge_f ct_145_18 hik he (by omega) ?_
          refine wi_aload_0 ct_145_21 ?_
          refine wi_gfr ct_145_22 (sT_31 hS) rfl (sR_31_20 hS) ?_
          refine wi_iload_4 ct_145_25 ?_
          refine wi_iald (x := fi 45 (100 * s0 + k)) ct_145_27 (sT_45 hS) (sL_45 hS) (i_in hik (by omega)) (i_cl (k := (100 * s0 + k)) hik (by omega)) (congrFun (hf 45 (by decide)) _) ?_
          refine wi_istore_5 rfl ct_145_28 ?_
          refine wi_iload_5 ct_145_30 ?_
          refine wi_ic ct_145_32 kc_m33 ?_
          refine wi_icne_t ct_145_34 ht ki_m33 (by decide) ?_
          refine wi_iload_5 ct_145_64 ?_
          refine wi_ifge_f ct_145_66 ht (by decide) ?_
          refine wi_iinc_3 rfl (z := (h + (-1))) ct_145_69 (by rw [kc_m1]) ?_
          refine wi_aload_0 ct_145_72 ?_
          refine wi_gfr ct_145_73 (sT_31 hS) rfl (sR_31_26 hS) ?_
          refine wi_iload_3 ct_145_76 ?_
          refine wi_ic ct_145_77 kc_1 ?_
          refine wi_isub ct_145_78 rfl ?_
          refine wi_iload_5 ct_145_79 ?_
          refine wi_ic ct_145_81 kc_m38 ?_
          refine wi_icne_f ct_145_83 ht ki_m38 (by decide) ?_
          refine wi_aload_0 ct_145_86 ?_
          refine wi_gfr ct_145_87 (sT_31 hS) rfl (sR_31_26 hS) ?_
          refine wi_iload_3 ct_145_90 ?_
          refine wi_ic ct_145_91 kc_1 ?_
          refine wi_isub ct_145_92 rfl ?_
          refine wi_bald (x := 1) ct_145_93 (Or.inr (sT_48 hS)) (sL_48 hS) (i_in (i_sub (i_add hz ki_m1 (by omega)) ki_1 (by omega)) (by omega)) (i_cl (k := Z) (i_sub (i_add hz ki_m1 (by omega)) ki_1 (by omega)) (by omega)) hs1b ?_
          refine wi_ifeq_f ct_145_94 ki_1 (by decide) ?_
          refine wi_aload_0 ct_145_97 ?_
          refine wi_gfr ct_145_98 (sT_31 hS) rfl (sR_31_26 hS) ?_
          refine wi_iload_3 ct_145_101 ?_
          refine wi_bald (x := 0) ct_145_102 (Or.inr (sT_48 hS)) (sL_48 hS) (i_in (i_add hz ki_m1 (by omega)) (by omega)) (i_cl (k := (Z + 1)) (i_add hz ki_m1 (by omega)) (by omega)) hs1 ?_
          refine wi_ifeq_t ct_145_103 ki_0 (by decide) ?_
          refine wi_ic ct_145_110 kc_0 ?_
          refine wi_goto ct_145_111 ?_
          refine wi_zast ct_145_139 (sT_48 hS) (sL_48 hS) (i_in (i_sub (i_add hz ki_m1 (by omega)) ki_1 (by omega)) (by omega)) (i_cl (k := Z) (i_sub (i_add hz ki_m1 (by omega)) ki_1 (by omega)) (by omega)) (by decide) ?_
          refine wi_goto ct_145_140 ?_
          refine wi_iinc_4 rfl (z := (i + 1)) ct_145_237 (by rw [kc_1]) ?_
          refine wi_goto ct_145_240 ?_
          exact ih (k + 1) (false :: r) _ _ _ _ _ _ (by omega) (fun q hq => (funext fun j => up2_nq hq).trans (hf q hq)) hT2 (by simpa [hZ] using hn) ⟨by rw [hZ]; exact up2_eq, hup _⟩ (by rw [(i_add hz ki_m1 (by omega)), List.length_cons, hZ]; omega) (by rw [hik1]; omega) rfl h6 h7 kk
        · skip
          refine wi_iload_4 ct_145_10 ?_
          refine wi_aload_0 ct_145_12 ?_
          refine wi_gfr ct_145_13 (sT_31 hS) rfl (sR_31_19 hS) ?_
          refine wi_iload_1 ct_145_16 ?_
          refine wi_iald (x := fi 44 c0) ct_145_17 (sT_44 hS) (sL_44 hS) (i_in hc (by omega)) (i_cl (k := c0) hc (by omega)) (congrFun (hf 44 (by decide)) _) ?_
          refine wi_icge_f ct_145_18 hik he (by omega) ?_
          refine wi_aload_0 ct_145_21 ?_
          refine wi_gfr ct_145_22 (sT_31 hS) rfl (sR_31_20 hS) ?_
          refine wi_iload_4 ct_145_25 ?_
          refine wi_iald (x := fi 45 (100 * s0 + k)) ct_145_27 (sT_45 hS) (sL_45 hS) (i_in hik (by omega)) (i_cl (k := (100 * s0 + k)) hik (by omega)) (congrFun (hf 45 (by decide)) _) ?_
          refine wi_istore_5 rfl ct_145_28 ?_
          refine wi_iload_5 ct_145_30 ?_
          refine wi_ic ct_145_32 kc_m33 ?_
          refine wi_icne_t ct_145_34 ht ki_m33 (by decide) ?_
          refine wi_iload_5 ct_145_64 ?_
          refine wi_ifge_f ct_145_66 ht (by decide) ?_
          refine wi_iinc_3 rfl (z := (h + (-1))) ct_145_69 (by rw [kc_m1]) ?_
          refine wi_aload_0 ct_145_72 ?_
          refine wi_gfr ct_145_73 (sT_31 hS) rfl (sR_31_26 hS) ?_
          refine wi_iload_3 ct_145_76 ?_
          refine wi_ic ct_145_77 kc_1 ?_
          refine wi_isub ct_145_78 rfl ?_
          refine wi_iload_5 ct_145_79 ?_
          refine wi_ic ct_145_81 kc_m38 ?_
          refine wi_icne_f ct_145_83 ht ki_m38 (by decide) ?_
          refine wi_aload_0 ct_145_86 ?_
          refine wi_gfr ct_145_87 (sT_31 hS) rfl (sR_31_26 hS) ?_
          refine wi_iload_3 ct_145_90 ?_
          refine wi_ic ct_145_91 kc_1 ?_
          refine wi_isub ct_145_92 rfl ?_
          refine wi_bald (x := 0) ct_145_93 (Or.inr (sT_48 hS)) (sL_48 hS) (i_in (i_sub (i_add hz ki_m1 (by omega)) ki_1 (by omega)) (by omega)) (i_cl (k := Z) (i_sub (i_add hz ki_m1 (by omega)) ki_1 (by omega)) (by omega)) hs1b ?_
          refine wi_ifeq_t ct_145_94 ki_0 (by decide) ?_
          refine wi_ic ct_145_110 kc_0 ?_
          refine wi_goto ct_145_111 ?_
          refine wi_zast ct_145_139 (sT_48 hS) (sL_48 hS) (i_in (i_sub (i_add hz ki_m1 (by omega)) ki_1 (by omega)) (by omega)) (i_cl (k := Z) (i_sub (i_add hz ki_m1 (by omega)) ki_1 (by omega)) (by omega)) (by decide) ?_
          refine wi_goto ct_145_140 ?_
          refine wi_iinc_4 rfl (z := (i + 1)) ct_145_237 (by rw [kc_1]) ?_
          refine wi_goto ct_145_240 ?_
          exact ih (k + 1) (false :: r) _ _ _ _ _ _ (by omega) (fun q hq => (funext fun j => up2_nq hq).trans (hf q hq)) hT2 (by simpa [hZ] using hn) ⟨by rw [hZ]; exact up2_eq, hup _⟩ (by rw [(i_add hz ki_m1 (by omega)), List.length_cons, hZ]; omega) (by rw [hik1]; omega) rfl h6 h7 kk
        · skip
          refine wi_iload_4 ct_145_10 ?_
          refine wi_aload_0 ct_145_12 ?_
          refine wi_gfr ct_145_13 (sT_31 hS) rfl (sR_31_19 hS) ?_
          refine wi_iload_1 ct_145_16 ?_
          refine wi_iald (x := fi 44 c0) ct_145_17 (sT_44 hS) (sL_44 hS) (i_in hc (by omega)) (i_cl (k := c0) hc (by omega)) (congrFun (hf 44 (by decide)) _) ?_
          refine wi_icge_f ct_145_18 hik he (by omega) ?_
          refine wi_aload_0 ct_145_21 ?_
          refine wi_gfr ct_145_22 (sT_31 hS) rfl (sR_31_20 hS) ?_
          refine wi_iload_4 ct_145_25 ?_
          refine wi_iald (x := fi 45 (100 * s0 + k)) ct_145_27 (sT_45 hS) (sL_45 hS) (i_in hik (by omega)) (i_cl (k := (100 * s0 + k)) hik (by omega)) (congrFun (hf 45 (by decide)) _) ?_
          refine wi_istore_5 rfl ct_145_28 ?_
          refine wi_iload_5 ct_145_30 ?_
          refine wi_ic ct_145_32 kc_m33 ?_
          refine wi_icne_t ct_145_34 ht ki_m33 (by decide) ?_
          refine wi_iload_5 ct_145_64 ?_
          refine wi_ifge_f ct_145_66 ht (by decide) ?_
          refine wi_iinc_3 rfl (z := (h + (-1))) ct_145_69 (by rw [kc_m1]) ?_
          refine wi_aload_0 ct_145_72 ?_
          refine wi_gfr ct_145_73 (sT_31 hS) rfl (sR_31_26 hS) ?_
          refine wi_iload_3 ct_145_76 ?_
          refine wi_ic ct_145_77 kc_1 ?_
          refine wi_isub ct_145_78 rfl ?_
          refine wi_iload_5 ct_145_79 ?_
          refine wi_ic ct_145_81 kc_m38 ?_
          refine wi_icne_f ct_145_83 ht ki_m38 (by decide) ?_
          refine wi_aload_0 ct_145_86 ?_
          refine wi_gfr ct_145_87 (sT_31 hS) rfl (sR_31_26 hS) ?_
          refine wi_iload_3 ct_145_90 ?_
          refine wi_ic ct_145_91 kc_1 ?_
          refine wi_isub ct_145_92 rfl ?_
          refine wi_bald (x := 1) ct_145_93 (Or.inr (sT_48 hS)) (sL_48 hS) (i_in (i_sub (i_add hz ki_m1 (by omega)) ki_1 (by omega)) (by omega)) (i_cl (k := Z) (i_sub (i_add hz ki_m1 (by omega)) ki_1 (by omega)) (by omega)) hs1b ?_
          refine wi_ifeq_f ct_145_94 ki_1 (by decide) ?_
          refine wi_aload_0 ct_145_97 ?_
          refine wi_gfr ct_145_98 (sT_31 hS) rfl (sR_31_26 hS) ?_
          refine wi_iload_3 ct_145_101 ?_
          refine wi_bald (x := 1) ct_145_102 (Or.inr (sT_48 hS)) (sL_48 hS) (i_in (i_add hz ki_m1 (by omega)) (by omega)) (i_cl (k := (Z + 1)) (i_add hz ki_m1 (by omega)) (by omega)) hs1 ?_
          refine wi_ifeq_f ct_145_103 ki_1 (by decide) ?_
          refine wi_ic ct_145_106 kc_1 ?_
          refine wi_goto ct_145_107 ?_
          refine wi_zast ct_145_139 (sT_48 hS) (sL_48 hS) (i_in (i_sub (i_add hz ki_m1 (by omega)) ki_1 (by omega)) (by omega)) (i_cl (k := Z) (i_sub (i_add hz ki_m1 (by omega)) ki_1 (by omega)) (by omega)) (by decide) ?_
          refine wi_goto ct_145_140 ?_
          refine wi_iinc_4 rfl (z := (i + 1)) ct_145_237 (by rw [kc_1]) ?_
          refine wi_goto ct_145_240 ?_
          exact ih (k + 1) (true :: r) _ _ _ _ _ _ (by omega) (fun q hq => (funext fun j => up2_nq hq).trans (hf q hq)) hT2 (by simpa [hZ] using hn) ⟨by rw [hZ]; exact up2_eq, hup _⟩ (by rw [(i_add hz ki_m1 (by omega)), List.length_cons, hZ]; omega) (by rw [hik1]; omega) rfl h6 h7 kk
      · skip
        subst hc1
        replace ht : (fi 45 (100 * s0 + k)).toInt = -124 := ht
        cases a <;> cases b
        · skip
          refine wi_iload_4 ct_145_10 ?_
          refine wi_aload_0 ct_145_12 ?_
          refine wi_gfr ct_145_13 (sT_31 hS) rfl (sR_31_19 hS) ?_
          refine wi_iload_1 ct_145_16 ?_
          refine wi_iald (x := fi 44 c0) ct_145_17 (sT_44 hS) (sL_44 hS) (i_in hc (by omega)) (i_cl (k := c0) hc (by omega)) (congrFun (hf 44 (by decide)) _) ?_
          refine wi_icge_f ct_145_18 hik he (by omega) ?_
          refine wi_aload_0 ct_145_21 ?_
          refine wi_gfr ct_145_22 (sT_31 hS) rfl (sR_31_20 hS) ?_
          refine wi_iload_4 ct_145_25 ?_
          refine wi_iald (x := fi 45 (100 * s0 + k)) ct_145_27 (sT_45 hS) (sL_45 hS) (i_in hik (by omega)) (i_cl (k := (100 * s0 + k)) hik (by omega)) (congrFun (hf 45 (by decide)) _) ?_
          refine wi_istore_5 rfl ct_145_28 ?_
          refine wi_iload_5 ct_145_30 ?_
          refine wi_ic ct_145_32 kc_m33 ?_
          refine wi_icne_t ct_145_34 ht ki_m33 (by decide) ?_
          refine wi_iload_5 ct_145_64 ?_
          refine wi_ifge_f ct_145_66 ht (by decide) ?_
          refine wi_iinc_3 rfl (z := (h + (-1))) ct_145_69 (by rw [kc_m1]) ?_
          refine wi_aload_0 ct_145_72 ?_
          refine wi_gfr ct_145_73 (sT_31 hS) rfl (sR_31_26 hS) ?_
          refine wi_iload_3 ct_145_76 ?_
          refine wi_ic ct_145_77 kc_1 ?_
          refine wi_isub ct_145_78 rfl ?_
          refine wi_iload_5 ct_145_79 ?_
          refine wi_ic ct_145_81 kc_m38 ?_
          refine wi_icne_t ct_145_83 ht ki_m38 (by decide) ?_
          refine wi_aload_0 ct_145_114 ?_
          refine wi_gfr ct_145_115 (sT_31 hS) rfl (sR_31_26 hS) ?_
          refine wi_iload_3 ct_145_118 ?_
          refine wi_ic ct_145_119 kc_1 ?_
          refine wi_isub ct_145_120 rfl ?_
          refine wi_bald (x := 0) ct_145_121 (Or.inr (sT_48 hS)) (sL_48 hS) (i_in (i_sub (i_add hz ki_m1 (by omega)) ki_1 (by omega)) (by omega)) (i_cl (k := Z) (i_sub (i_add hz ki_m1 (by omega)) ki_1 (by omega)) (by omega)) hs1b ?_
          refine wi_ifne_f ct_145_122 ki_0 (by decide) ?_
          refine wi_aload_0 ct_145_125 ?_
          refine wi_gfr ct_145_126 (sT_31 hS) rfl (sR_31_26 hS) ?_
          refine wi_iload_3 ct_145_129 ?_
          refine wi_bald (x := 0) ct_145_130 (Or.inr (sT_48 hS)) (sL_48 hS) (i_in (i_add hz ki_m1 (by omega)) (by omega)) (i_cl (k := (Z + 1)) (i_add hz ki_m1 (by omega)) (by omega)) hs1 ?_
          refine wi_ifeq_t ct_145_131 ki_0 (by decide) ?_
          refine wi_ic ct_145_138 kc_0 ?_
          refine wi_zast ct_145_139 (sT_48 hS) (sL_48 hS) (i_in (i_sub (i_add hz ki_m1 (by omega)) ki_1 (by omega)) (by omega)) (i_cl (k := Z) (i_sub (i_add hz ki_m1 (by omega)) ki_1 (by omega)) (by omega)) (by decide) ?_
          refine wi_goto ct_145_140 ?_
          refine wi_iinc_4 rfl (z := (i + 1)) ct_145_237 (by rw [kc_1]) ?_
          refine wi_goto ct_145_240 ?_
          exact ih (k + 1) (false :: r) _ _ _ _ _ _ (by omega) (fun q hq => (funext fun j => up2_nq hq).trans (hf q hq)) hT2 (by simpa [hZ] using hn) ⟨by rw [hZ]; exact up2_eq, hup _⟩ (by rw [(i_add hz ki_m1 (by omega)), List.length_cons, hZ]; omega) (by rw [hik1]; omega) rfl h6 h7 kk
        · skip
          refine wi_iload_4 ct_145_10 ?_
          refine wi_aload_0 ct_145_12 ?_
          refine wi_gfr ct_145_13 (sT_31 hS) rfl (sR_31_19 hS) ?_
          refine wi_iload_1 ct_145_16 ?_
          refine wi_iald (x := fi 44 c0) ct_145_17 (sT_44 hS) (sL_44 hS) (i_in hc (by omega)) (i_cl (k := c0) hc (by omega)) (congrFun (hf 44 (by decide)) _) ?_
          refine wi_icge_f ct_145_18 hik he (by omega) ?_
          refine wi_aload_0 ct_145_21 ?_
          refine wi_gfr ct_145_22 (sT_31 hS) rfl (sR_31_20 hS) ?_
          refine wi_iload_4 ct_145_25 ?_
          refine wi_iald (x := fi 45 (100 * s0 + k)) ct_145_27 (sT_45 hS) (sL_45 hS) (i_in hik (by omega)) (i_cl (k := (100 * s0 + k)) hik (by omega)) (congrFun (hf 45 (by decide)) _) ?_
          refine wi_istore_5 rfl ct_145_28 ?_
          refine wi_iload_5 ct_145_30 ?_
          refine wi_ic ct_145_32 kc_m33 ?_
          refine wi_icne_t ct_145_34 ht ki_m33 (by decide) ?_
          refine wi_iload_5 ct_145_64 ?_
          refine wi_ifge_f ct_145_66 ht (by decide) ?_
          refine wi_iinc_3 rfl (z := (h + (-1))) ct_145_69 (by rw [kc_m1]) ?_
          refine wi_aload_0 ct_145_72 ?_
          refine wi_gfr ct_145_73 (sT_31 hS) rfl (sR_31_26 hS) ?_
          refine wi_iload_3 ct_145_76 ?_
          refine wi_ic ct_145_77 kc_1 ?_
          refine wi_isub ct_145_78 rfl ?_
          refine wi_iload_5 ct_145_79 ?_
          refine wi_ic ct_145_81 kc_m38 ?_
          refine wi_icne_t ct_145_83 ht ki_m38 (by decide) ?_
          refine wi_aload_0 ct_145_114 ?_
          refine wi_gfr ct_145_115 (sT_31 hS) rfl (sR_31_26 hS) ?_
          refine wi_iload_3 ct_145_118 ?_
          refine wi_ic ct_145_119 kc_1 ?_
          refine wi_isub ct_145_120 rfl ?_
          refine wi_bald (x := 1) ct_145_121 (Or.inr (sT_48 hS)) (sL_48 hS) (i_in (i_sub (i_add hz ki_m1 (by omega)) ki_1 (by omega)) (by omega)) (i_cl (k := Z) (i_sub (i_add hz ki_m1 (by omega)) ki_1 (by omega)) (by omega)) hs1b ?_
          refine wi_ifne_t ct_145_122 ki_1 (by decide) ?_
          refine wi_ic ct_145_134 kc_1 ?_
          refine wi_goto ct_145_135 ?_
          refine wi_zast ct_145_139 (sT_48 hS) (sL_48 hS) (i_in (i_sub (i_add hz ki_m1 (by omega)) ki_1 (by omega)) (by omega)) (i_cl (k := Z) (i_sub (i_add hz ki_m1 (by omega)) ki_1 (by omega)) (by omega)) (by decide) ?_
          refine wi_goto ct_145_140 ?_
          refine wi_iinc_4 rfl (z := (i + 1)) ct_145_237 (by rw [kc_1]) ?_
          refine wi_goto ct_145_240 ?_
          exact ih (k + 1) (true :: r) _ _ _ _ _ _ (by omega) (fun q hq => (funext fun j => up2_nq hq).trans (hf q hq)) hT2 (by simpa [hZ] using hn) ⟨by rw [hZ]; exact up2_eq, hup _⟩ (by rw [(i_add hz ki_m1 (by omega)), List.length_cons, hZ]; omega) (by rw [hik1]; omega) rfl h6 h7 kk
        · skip
          refine wi_iload_4 ct_145_10 ?_
          refine wi_aload_0 ct_145_12 ?_
          refine wi_gfr ct_145_13 (sT_31 hS) rfl (sR_31_19 hS) ?_
          refine wi_iload_1 ct_145_16 ?_
          refine wi_iald (x := fi 44 c0) ct_145_17 (sT_44 hS) (sL_44 hS) (i_in hc (by omega)) (i_cl (k := c0) hc (by omega)) (congrFun (hf 44 (by decide)) _) ?_
          refine wi_icge_f ct_145_18 hik he (by omega) ?_
          refine wi_aload_0 ct_145_21 ?_
          refine wi_gfr ct_145_22 (sT_31 hS) rfl (sR_31_20 hS) ?_
          refine wi_iload_4 ct_145_25 ?_
          refine wi_iald (x := fi 45 (100 * s0 + k)) ct_145_27 (sT_45 hS) (sL_45 hS) (i_in hik (by omega)) (i_cl (k := (100 * s0 + k)) hik (by omega)) (congrFun (hf 45 (by decide)) _) ?_
          refine wi_istore_5 rfl ct_145_28 ?_
          refine wi_iload_5 ct_145_30 ?_
          refine wi_ic ct_145_32 kc_m33 ?_
          refine wi_icne_t ct_145_34 ht ki_m33 (by decide) ?_
          refine wi_iload_5 ct_145_64 ?_
          refine wi_ifge_f ct_145_66 ht (by decide) ?_
          refine wi_iinc_3 rfl (z := (h + (-1))) ct_145_69 (by rw [kc_m1]) ?_
          refine wi_aload_0 ct_145_72 ?_
          refine wi_gfr ct_145_73 (sT_31 hS) rfl (sR_31_26 hS) ?_
          refine wi_iload_3 ct_145_76 ?_
          refine wi_ic ct_145_77 kc_1 ?_
          refine wi_isub ct_145_78 rfl ?_
          refine wi_iload_5 ct_145_79 ?_
          refine wi_ic ct_145_81 kc_m38 ?_
          refine wi_icne_t ct_145_83 ht ki_m38 (by decide) ?_
          refine wi_aload_0 ct_145_114 ?_
          refine wi_gfr ct_145_115 (sT_31 hS) rfl (sR_31_26 hS) ?_
          refine wi_iload_3 ct_145_118 ?_
          refine wi_ic ct_145_119 kc_1 ?_
          refine wi_isub ct_145_120 rfl ?_
          refine wi_bald (x := 0) ct_145_121 (Or.inr (sT_48 hS)) (sL_48 hS) (i_in (i_sub (i_add hz ki_m1 (by omega)) ki_1 (by omega)) (by omega)) (i_cl (k := Z) (i_sub (i_add hz ki_m1 (by omega)) ki_1 (by omega)) (by omega)) hs1b ?_
          refine wi_ifne_f ct_145_122 ki_0 (by decide) ?_
          refine wi_aload_0 ct_145_125 ?_
          refine wi_gfr ct_145_126 (sT_31 hS) rfl (sR_31_26 hS) ?_
          refine wi_iload_3 ct_145_129 ?_
          refine wi_bald (x := 1) ct_145_130 (Or.inr (sT_48 hS)) (sL_48 hS) (i_in (i_add hz ki_m1 (by omega)) (by omega)) (i_cl (k := (Z + 1)) (i_add hz ki_m1 (by omega)) (by omega)) hs1 ?_
          refine wi_ifeq_f ct_145_131 ki_1 (by decide) ?_
          refine wi_ic ct_145_134 kc_1 ?_
          refine wi_goto ct_145_135 ?_
          refine wi_zast ct_145_139 (sT_48 hS) (sL_48 hS) (i_in (i_sub (i_add hz ki_m1 (by omega)) ki_1 (by omega)) (by omega)) (i_cl (k := Z) (i_sub (i_add hz ki_m1 (by omega)) ki_1 (by omega)) (by omega)) (by decide) ?_
          refine wi_goto ct_145_140 ?_
          refine wi_iinc_4 rfl (z := (i + 1)) ct_145_237 (by rw [kc_1]) ?_
          refine wi_goto ct_145_240 ?_
          exact ih (k + 1) (true :: r) _ _ _ _ _ _ (by omega) (fun q hq => (funext fun j => up2_nq hq).trans (hf q hq)) hT2 (by simpa [hZ] using hn) ⟨by rw [hZ]; exact up2_eq, hup _⟩ (by rw [(i_add hz ki_m1 (by omega)), List.length_cons, hZ]; omega) (by rw [hik1]; omega) rfl h6 h7 kk
        · skip
          refine wi_iload_4 ct_145_10 ?_
          refine wi_aload_0 ct_145_12 ?_
          refine wi_gfr ct_145_13 (sT_31 hS) rfl (sR_31_19 hS) ?_
          refine wi_iload_1 ct_145_16 ?_
          refine wi_iald (x := fi 44 c0) ct_145_17 (sT_44 hS) (sL_44 hS) (i_in hc (by omega)) (i_cl (k := c0) hc (by omega)) (congrFun (hf 44 (by decide)) _) ?_
          refine wi_icge_f ct_145_18 hik he (by omega) ?_
          refine wi_aload_0 ct_145_21 ?_
          refine wi_gfr ct_145_22 (sT_31 hS) rfl (sR_31_20 hS) ?_
          refine wi_iload_4 ct_145_25 ?_
          refine wi_iald (x := fi 45 (100 * s0 + k)) ct_145_27 (sT_45 hS) (sL_45 hS) (i_in hik (by omega)) (i_cl (k := (100 * s0 + k)) hik (by omega)) (congrFun (hf 45 (by decide)) _) ?_
          refine wi_istore_5 rfl ct_145_28 ?_
          refine wi_iload_5 ct_145_30 ?_
          refine wi_ic ct_145_32 kc_m33 ?_
          refine wi_icne_t ct_145_34 ht ki_m33 (by decide) ?_
          refine wi_iload_5 ct_145_64 ?_
          refine wi_ifge_f ct_145_66 ht (by decide) ?_
          refine wi_iinc_3 rfl (z := (h + (-1))) ct_145_69 (by rw [kc_m1]) ?_
          refine wi_aload_0 ct_145_72 ?_
          refine wi_gfr ct_145_73 (sT_31 hS) rfl (sR_31_26 hS) ?_
          refine wi_iload_3 ct_145_76 ?_
          refine wi_ic ct_145_77 kc_1 ?_
          refine wi_isub ct_145_78 rfl ?_
          refine wi_iload_5 ct_145_79 ?_
          refine wi_ic ct_145_81 kc_m38 ?_
          refine wi_icne_t ct_145_83 ht ki_m38 (by decide) ?_
          refine wi_aload_0 ct_145_114 ?_
          refine wi_gfr ct_145_115 (sT_31 hS) rfl (sR_31_26 hS) ?_
          refine wi_iload_3 ct_145_118 ?_
          refine wi_ic ct_145_119 kc_1 ?_
          refine wi_isub ct_145_120 rfl ?_
          refine wi_bald (x := 1) ct_145_121 (Or.inr (sT_48 hS)) (sL_48 hS) (i_in (i_sub (i_add hz ki_m1 (by omega)) ki_1 (by omega)) (by omega)) (i_cl (k := Z) (i_sub (i_add hz ki_m1 (by omega)) ki_1 (by omega)) (by omega)) hs1b ?_
          refine wi_ifne_t ct_145_122 ki_1 (by decide) ?_
          refine wi_ic ct_145_134 kc_1 ?_
          refine wi_goto ct_145_135 ?_
          refine wi_zast ct_145_139 (sT_48 hS) (sL_48 hS) (i_in (i_sub (i_add hz ki_m1 (by omega)) ki_1 (by omega)) (by omega)) (i_cl (k := Z) (i_sub (i_add hz ki_m1 (by omega)) ki_1 (by omega)) (by omega)) (by decide) ?_
          refine wi_goto ct_145_140 ?_
          refine wi_iinc_4 rfl (z := (i + 1)) ct_145_237 (by rw [kc_1]) ?_
          refine wi_goto ct_145_240 ?_
          exact ih (k + 1) (true :: r) _ _ _ _ _ _ (by omega) (fun q hq => (funext fun j => up2_nq hq).trans (hf q hq)) hT2 (by simpa [hZ] using hn) ⟨by rw [hZ]; exact up2_eq, hup _⟩ (by rw [(i_add hz ki_m1 (by omega)), List.length_cons, hZ]; omega) (by rw [hik1]; omega) rfl h6 h7 kk
