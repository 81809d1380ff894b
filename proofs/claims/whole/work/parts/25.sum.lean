/-! Sums over the clauses of a square. -/
def smv (Q : sq_T) (F : Nat → Int) (w : Nat) : Nat → Nat → Nat
  | 0, _ => 0
  | n + 1, i => (if qW Q i = w ∧ clv Q F i = true then qU Q i else 0) + smv Q F w n (i + 1)
def anyw (Q : sq_T) (w : Nat) : Nat → Nat → Bool
  | 0, _ => false
  | n + 1, i => decide (qW Q i = w) || anyw Q w n (i + 1)
def lkV (q : Option sq_T) (F : Nat → Int) (w : Nat) (wo : Int) : Int := match q with
  | none => wo
  | some Q => if anyw Q w (qN Q) 0 = true then (smv Q F w (qN Q) 0 : Int) else wo
def FL (b k v clk sz fm : Int) : Nat → Int
  | 0 => b
  | 1 => k
  | 2 => v
  | 3 => clk % 12
  | 4 => sz / 10
  | _ => fm / 10
theorem smv_le {Q : sq_T} {F : Nat → Int} {w : Nat} : ∀ n i, (∀ j, i ≤ j → j < i + n → qU Q j < 100) → smv Q F w n i ≤ 99 * n := by
  intro n
  induction n with
  | zero =>
    intro i _
    exact Nat.le_refl _
  | succ n ih =>
    intro i h
    have h1 := ih (i + 1) (fun j a b => h j (by omega) (by omega))
    have h2 := h i (Nat.le_refl _) (by omega)
    unfold smv
    split <;> omega
theorem lkV_bd {q : Option sq_T} {F : Nat → Int} {w : Nat} {wo : Int} (hq : ∀ Q, q = some Q → SQv Q) (hw : 0 ≤ wo ∧ wo ≤ 1) : 0 ≤ lkV q F w wo ∧ lkV q F w wo ≤ 990 := by
  unfold lkV
  cases q with
  | none => exact ⟨hw.1, by dsimp only; omega⟩
  | some Q =>
    have h := hq Q rfl
    have h1 : smv Q F w (qN Q) 0 ≤ 99 * qN Q := smv_le _ _ (fun j _ hj => (h.2.2 j (by omega)).2.1)
    have h2 := h.2.1
    dsimp only
    split
    · omega
    · omega
/-- the square that holds, as the reference has it -/
def SQs (fi : am_I) (sq : Option sq_T) : Prop := match sq with
  | none => (fi 31 10).toInt = -1
  | some Q => ∃ s0 : Nat, s0 < 6 ∧ (fi 31 10).toInt = (s0 : Int) ∧ SQm fi s0 Q ∧ SQv Q
/-- the square that holds, as the course has it -/
def SQk (g : am_G) (fi : am_I) (sq : Option sq_T) : Prop := match sq with
  | none => g.2.2.1 15 0 = none
  | some Q => ∃ q a0 a1 a2 a4 a5 a6, g.2.2.1 15 0 = some q ∧ (72 ≤ q ∧ 72 ≤ a0 ∧ 72 ≤ a1 ∧ 72 ≤ a2 ∧ 72 ≤ a4 ∧ 72 ≤ a5 ∧ 72 ≤ a6) ∧ SQp g q a0 a1 a2 a4 a5 a6 ∧ SQc fi q a0 a1 a2 a4 a5 a6 Q ∧ SQv Q
theorem qF_0 (Q : sq_T) : qF Q 0 = 0 := rfl
theorem qF_s (Q : sq_T) (i : Nat) : qF Q (i + 1) = qE Q i := rfl
theorem smv_s (Q : sq_T) (F : Nat → Int) (w n i : Nat) : smv Q F w (n + 1) i = (if qW Q i = w ∧ clv Q F i = true then qU Q i else 0) + smv Q F w n (i + 1) := rfl
theorem anyw_s (Q : sq_T) (w n i : Nat) : anyw Q w (n + 1) i = (decide (qW Q i = w) || anyw Q w n (i + 1)) := rfl
theorem bI_i (b : Bool) : (bI b).toInt = if b = true then 1 else 0 := by
  cases b <;> rfl
theorem vl_tog {L : Nat} {d : Nat} {g : am_G} {fl : am_L} {P : Option Value → am_G → am_I → am_L → Prop} {fi : am_I} {q a0 a1 a2 a4 a5 a6 : Nat} {Q : sq_T} {F : Nat → Int} {wd wo : Int32} {W0 : Nat} {O0 : Int} (hS : SF L g) (hp : SQp g q a0 a1 a2 a4 a5 a6) (hc : SQc fi q a0 a1 a2 a4 a5 a6 Q) (hv : SQv Q) (hF : ∀ j, j < 6 → (fi 16 j).toInt = F j) (hwd : wd.toInt = (W0 : Int)) (hW3 : W0 < 3) (hwo : wo.toInt = O0) : ∀ (n k S : Nat) (A : Bool) (x y f i : Int32), k + n = qN Q → S ≤ 99 * k → x.toInt = (S : Int) → y.toInt = (if A = true then 1 else 0) → f.toInt = (qF Q k : Int) → i.toInt = (k : Int) → (∀ z : Int32, z.toInt = (if (A || anyw Q W0 n k) = true then ((S + smv Q F W0 n k : Nat) : Int) else O0) → P (some (.int z)) g fi fl) → WP (d + 2) 34 12 [some (.ref q), some (.int wd), some (.ref 16), some (.int wo), some (.int x), some (.int y), some (.int f), some (.int i)] [] g fi fl P := by
  obtain ⟨p0, ⟨p1a, p1b, p1c, p1d, p1e, p1f⟩, ⟨p2a, p2b, p2c, p2d, p2e, p2f⟩, ⟨p3a, p3b, p3c, p3d, p3e, p3f⟩⟩ := id hp
  obtain ⟨hcn, hc1⟩ := id hc
  obtain ⟨hv1, hv10, hv2⟩ := id hv
  have hn10 : qN Q ≤ 10 := hv10
  intro n
  induction n with
  | zero =>
    intro k S A x y f i hkn hSk hx hy hf hik kk
    cases A
    · skip
      refine wi_iload_7 ct_34_12 ?_
      refine wi_aload_0 ct_34_14 ?_
      refine wi_gf (x := fi q 3) ct_34_15 p0 rfl rfl rfl ?_
      refine wi_icge_t ct_34_18 hik hcn (by omega) ?_
      refine wi_iload_5 ct_34_79 ?_
      refine wi_ifeq_t ct_34_81 (hy.trans rfl : y.toInt = 0) (by decide) ?_
      refine wi_iload_3 ct_34_89 ?_
      refine wi_iret ct_34_90 rfl ?_
      exact kk _ hwo
    · skip
      refine wi_iload_7 ct_34_12 ?_
      refine wi_aload_0 ct_34_14 ?_
      refine wi_gf (x := fi q 3) ct_34_15 p0 rfl rfl rfl ?_
      refine wi_icge_t ct_34_18 hik hcn (by omega) ?_
      refine wi_iload_5 ct_34_79 ?_
      refine wi_ifeq_f ct_34_81 (hy.trans rfl : y.toInt = 1) (by decide) ?_
      refine wi_iload_4 ct_34_84 ?_
      refine wi_goto ct_34_86 ?_
      refine wi_iret ct_34_90 rfl ?_
      exact kk _ hx
  | succ n ih =>
    intro k S A x y f i hkn hSk hx hy hf hik kk
    obtain ⟨k1, k2, k3, k4⟩ := hc1 k (by omega)
    obtain ⟨v1, v2, v3, v4, v5⟩ := hv2 k (by omega)
    have hik1 := i_add hik ki_1 (by omega)
    refine wi_iload_7 ct_34_12 ?_
    refine wi_aload_0 ct_34_14 ?_
    refine wi_gf (x := fi q 3) ct_34_15 p0 rfl rfl rfl ?_
    refine wi_icge_f ct_34_18 hik hcn (by omega) ?_
    refine wi_aload_0 ct_34_21 ?_
    refine wi_gfr ct_34_22 p0 rfl p1a ?_
    refine wi_iload_7 ct_34_25 ?_
    refine wi_iald (x := fi a0 k) ct_34_27 p2a p3a (i_in hik (by omega)) (i_cl (k := k) hik (by omega)) rfl ?_
    refine wi_iload_1 ct_34_28 ?_
    refine wi_icne ct_34_29 k1 hwd (fun h1 => ?_) (fun h1 => ?_)
    · skip
      refine wi_aload_0 ct_34_64 ?_
      refine wi_gfr ct_34_65 p0 rfl p1c ?_
      refine wi_iload_7 ct_34_68 ?_
      refine wi_iald (x := fi a2 k) ct_34_70 p2c p3c (i_in hik (by omega)) (i_cl (k := k) hik (by omega)) rfl ?_
      refine wi_istore_6 rfl ct_34_71 ?_
      refine wi_iinc_7 rfl (z := (i + 1)) ct_34_73 (by rw [kc_1]) ?_
      refine wi_goto ct_34_76 ?_
      have e1 : ¬ qW Q k = W0 := by omega
      refine ih (k + 1) S A _ _ _ _ (by omega) (by omega) hx hy (k3.trans (by rw [qF_s])) (hik1.trans (by omega)) (fun z hz => kk z (hz.trans ?_))
      rw [anyw_s, smv_s]
      simp [e1]
    · skip
      refine wi_ic ct_34_32 kc_1 ?_
      refine wi_istore_5 rfl ct_34_33 ?_
      refine wi_aload_0 ct_34_35 ?_
      refine wi_iload_6 ct_34_36 ?_
      refine wi_aload_0 ct_34_38 ?_
      refine wi_gfr ct_34_39 p0 rfl p1c ?_
      refine wi_iload_7 ct_34_42 ?_
      refine wi_iald (x := fi a2 k) ct_34_44 p2c p3c (i_in hik (by omega)) (i_cl (k := k) hik (by omega)) rfl ?_
      refine wi_aload_2 ct_34_45 ?_
      refine wi_cv3 (ls' := [some _, some _, some _, some _, none, none, none, none, none]) ct_34_46 (Nat.le_of_ble_eq_true rfl) (by decide) p0 rfl (by decide) rfl rfl (Nat.le_of_ble_eq_true rfl) ?_
      refine wi_ic ct_35_0 kc_0 ?_
      refine wi_istore_4 rfl ct_35_1 ?_
      refine wi_iload_1 ct_35_3 ?_
      refine wi_istore_5 rfl ct_35_4 ?_
      refine vl_isSo hS hp k3 v4 hF (qE Q k - qF Q k) (qF Q k) [] 0 _ none none none (by omega) (fun j h1 h2 => k4 j (by omega)) v5 stk_0 hf rfl rfl rfl (fun hb2 => wk_i ?_) (fun hb2 => wk_i ?_)
      · skip
        refine wi_ifeq_f ct_34_49 ki_1 (by decide) ?_
        refine wi_iload_4 ct_34_52 ?_
        refine wi_aload_0 ct_34_54 ?_
        refine wi_gfr ct_34_55 p0 rfl p1b ?_
        refine wi_iload_7 ct_34_58 ?_
        refine wi_iald (x := fi a1 k) ct_34_60 p2b p3b (i_in hik (by omega)) (i_cl (k := k) hik (by omega)) rfl ?_
        refine wi_iadd ct_34_61 rfl ?_
        refine wi_istore_4 rfl ct_34_62 ?_
        refine wi_aload_0 ct_34_64 ?_
        refine wi_gfr ct_34_65 p0 rfl p1c ?_
        refine wi_iload_7 ct_34_68 ?_
        refine wi_iald (x := fi a2 k) ct_34_70 p2c p3c (i_in hik (by omega)) (i_cl (k := k) hik (by omega)) rfl ?_
        refine wi_istore_6 rfl ct_34_71 ?_
        refine wi_iinc_7 rfl (z := (i + 1)) ct_34_73 (by rw [kc_1]) ?_
        refine wi_goto ct_34_76 ?_
        have e1 : qW Q k = W0 := by omega
        have e2 : clv Q F k = true := hb2
        refine ih (k + 1) (S + qU Q k) true _ _ _ _ (by omega) (by omega) ((i_add hx k2 (by omega)).trans (by omega)) rfl (k3.trans (by rw [qF_s])) (hik1.trans (by omega)) (fun z hz => kk z (hz.trans ?_))
        rw [anyw_s, smv_s]
        simp [e1, e2]
        omega
      · skip
        refine wi_ifeq_t ct_34_49 ki_0 (by decide) ?_
        refine wi_aload_0 ct_34_64 ?_
        refine wi_gfr ct_34_65 p0 rfl p1c ?_
        refine wi_iload_7 ct_34_68 ?_
        refine wi_iald (x := fi a2 k) ct_34_70 p2c p3c (i_in hik (by omega)) (i_cl (k := k) hik (by omega)) rfl ?_
        refine wi_istore_6 rfl ct_34_71 ?_
        refine wi_iinc_7 rfl (z := (i + 1)) ct_34_73 (by rw [kc_1]) ?_
        refine wi_goto ct_34_76 ?_
        have e1 : qW Q k = W0 := by omega
        have e2 : clv Q F k = false := hb2
        refine ih (k + 1) (S + 0) true _ _ _ _ (by omega) (by omega) (hx.trans (by omega)) rfl (k3.trans (by rw [qF_s])) (hik1.trans (by omega)) (fun z hz => kk z (hz.trans ?_))
        rw [anyw_s, smv_s]
        simp [e1, e2]
theorem c3_nq {fi : am_I} {x y z : Int32} {q j : Nat} (h : 72 ≤ q) : up2 (up2 (up2 fi 16 3 x) 16 4 y) 16 5 z q j = fi q j := by
  have : q ≠ 16 := by omega
  simp [up2_ap, this]
theorem c3_row {fi : am_I} {x y z : Int32} {q : Nat} (h : q ≠ 16) : up2 (up2 (up2 fi 16 3 x) 16 4 y) 16 5 z q = fi q := by
  funext j
  simp [up2_ap, h]
theorem c3_j {fi : am_I} {x y z : Int32} {j : Nat} (h : j < 3) : up2 (up2 (up2 fi 16 3 x) 16 4 y) 16 5 z 16 j = fi 16 j := by
  simp [up2_ap, show j ≠ 3 by omega, show j ≠ 4 by omega, show j ≠ 5 by omega]
theorem c_look {L : Nat} {d : Nat} {g : am_G} {fl : am_L} {P : Option Value → am_G → am_I → am_L → Prop} {fi : am_I} {wd wo : Int32} {W0 : Nat} {O0 : Int} {sq : Option sq_T} {b kd v clk sz fm : Int} (hS : SF L g) (hq : SQk g fi sq) (h0 : (fi 16 0).toInt = b) (h1 : (fi 16 1).toInt = kd) (h2 : (fi 16 2).toInt = v) (h3 : (fi 15 4).toInt = clk) (h4 : (fi 15 7).toInt = sz) (h5 : (fi 15 8).toInt = fm) (b3 : 0 ≤ clk) (b4 : 0 ≤ sz) (b5 : 0 ≤ fm) (hwd : wd.toInt = (W0 : Int)) (hW3 : W0 < 3) (hwo : wo.toInt = O0) (kk : ∀ z fi2, z.toInt = lkV sq (FL b kd v clk sz fm) W0 O0 → (∀ q, q ≠ 16 → fi2 q = fi q) → (∀ j, j < 3 → fi2 16 j = fi 16 j) → P (some (.int z)) g fi2 fl) : WP (d + 3) 21 0 [some (.ref 15), some (.int wd), some (.int wo)] [] g fi fl P := by
  cases sq with
  | none =>
    refine wi_aload_0 ct_21_0 ?_
    refine wi_gfn ct_21_1 (sT_15 hS) rfl hq ?_
    refine wi_ifnonnull_n ct_21_4 ?_
    refine wi_iload_2 ct_21_7 ?_
    refine wi_iret ct_21_8 rfl ?_
    exact kk _ fi hwo (fun _ _ => rfl) (fun _ _ => rfl)
  | some Q =>
    obtain ⟨q, a0, a1, a2, a4, a5, a6, hq0, ⟨d0, d1, d2, d3, d4, d5, d6⟩, hp, hc, hv⟩ := hq
    refine wi_aload_0 ct_21_0 ?_
    refine wi_gfr ct_21_1 (sT_15 hS) rfl hq0 ?_
    refine wi_ifnonnull_r ct_21_4 ?_
    refine wi_aload_0 ct_21_9 ?_
    refine wi_gfr ct_21_10 (sT_15 hS) rfl (sR_15_14 hS) ?_
    refine wi_ic ct_21_13 kc_3 ?_
    refine wi_aload_0 ct_21_14 ?_
    refine wi_gf (x := fi 15 4) ct_21_15 (sT_15 hS) rfl rfl rfl ?_
    refine wi_ic ct_21_18 kc_12 ?_
    refine wi_irem ct_21_20 (by decide) rfl ?_
    refine wi_iast ct_21_21 (sT_16 hS) (sL_16 hS) (by decide) kn_c3 ?_
    refine wi_aload_0 ct_21_22 ?_
    refine wi_gfr ct_21_23 (sT_15 hS) rfl (sR_15_14 hS) ?_
    refine wi_ic ct_21_26 kc_4 ?_
    refine wi_aload_0 ct_21_27 ?_
    refine wi_gf (x := fi 15 7) ct_21_28 (sT_15 hS) rfl rfl (up2_nq (by decide)) ?_
    refine wi_ic ct_21_31 kc_10 ?_
    refine wi_idiv ct_21_33 (by decide) rfl ?_
    refine wi_iast ct_21_34 (sT_16 hS) (sL_16 hS) (by decide) kn_c4 ?_
    refine wi_aload_0 ct_21_35 ?_
    refine wi_gfr ct_21_36 (sT_15 hS) rfl (sR_15_14 hS) ?_
    refine wi_ic ct_21_39 kc_5 ?_
    refine wi_aload_0 ct_21_40 ?_
    refine wi_gf (x := fi 15 8) ct_21_41 (sT_15 hS) rfl rfl (Eq.trans (up2_nq (by decide)) (up2_nq (by decide))) ?_
    refine wi_ic ct_21_44 kc_10 ?_
    refine wi_idiv ct_21_46 (by decide) rfl ?_
    refine wi_iast ct_21_47 (sT_16 hS) (sL_16 hS) (by decide) kn_c5 ?_
    refine wi_aload_0 ct_21_48 ?_
    refine wi_gfr ct_21_49 (sT_15 hS) rfl hq0 ?_
    refine wi_iload_1 ct_21_52 ?_
    refine wi_aload_0 ct_21_53 ?_
    refine wi_gfr ct_21_54 (sT_15 hS) rfl (sR_15_14 hS) ?_
    refine wi_iload_2 ct_21_57 ?_
    refine wi_cv3 (ls' := [some _, some _, some _, some _, none, none, none, none]) ct_21_58 (Nat.le_of_ble_eq_true rfl) (by decide) hp.1 rfl (by decide) rfl rfl (Nat.le_of_ble_eq_true rfl) ?_
    refine wi_ic ct_34_0 kc_0 ?_
    refine wi_istore_4 rfl ct_34_1 ?_
    refine wi_ic ct_34_3 kc_0 ?_
    refine wi_istore_5 rfl ct_34_4 ?_
    refine wi_ic ct_34_6 kc_0 ?_
    refine wi_istore_6 rfl ct_34_7 ?_
    refine wi_ic ct_34_9 kc_0 ?_
    refine wi_istore_7 rfl ct_34_10 ?_
    refine vl_tog hS hp (Q := Q) (F := FL b kd v clk sz fm) ?_ hv ?_ hwd hW3 hwo (qN Q) 0 0 false _ _ _ _ (by omega) (by omega) rfl rfl rfl rfl (fun z hz => wk_i ?_)
    · refine ⟨(congrArg Int32.toInt ((c3_nq d0))).trans hc.1, fun i hi => ?_⟩
      obtain ⟨k1, k2, k3, k4⟩ := hc.2 i hi
      refine ⟨(congrArg Int32.toInt (c3_nq d1)).trans k1, (congrArg Int32.toInt (c3_nq d2)).trans k2, (congrArg Int32.toInt (c3_nq d3)).trans k3, fun k hk => ?_⟩
      obtain ⟨e1, e2, e3⟩ := k4 k hk
      exact ⟨(congrArg Int32.toInt (c3_nq d4)).trans e1, (congrArg Int32.toInt (c3_nq d5)).trans e2, (congrArg Int32.toInt (c3_nq d6)).trans e3⟩
    · intro j hj
      match j, hj with
      | 0, _ => exact h0
      | 1, _ => exact h1
      | 2, _ => exact h2
      | 3, _ => exact (i_rem h3 ki_12 (by omega) (by omega))
      | 4, _ => exact (i_div h4 ki_10 (by omega) (by omega))
      | 5, _ => exact (i_div h5 ki_10 (by omega) (by omega))
      | j + 6, hj => exact absurd hj (by omega)
    refine wi_iret ct_21_61 rfl ?_
    exact kk z _ (hz.trans (by simp [lkV])) (fun q hq => c3_row hq) (fun j hj => c3_j hj)
theorem vl_sum {L : Nat} {d : Nat} {g : am_G} {fl : am_L} {P : Option Value → am_G → am_I → am_L → Prop} {fi : am_I} {Q : sq_T} {F : Nat → Int} {wd b wo : Int32} {W0 s0 B : Nat} {O0 : Int} (hS : SF L g) (hc : SQm fi s0 Q) (hv : SQv Q) (hs6 : s0 < 6) (hthe : (fi 31 10).toInt = (s0 : Int)) (hwd : wd.toInt = (W0 : Int)) (hW3 : W0 < 3) (hwo : wo.toInt = O0) (hb : b.toInt = (B : Int)) (hb5 : B < 5) (clk sz fm kd vv : Int) (hclk : (fi 31 29).toInt = clk) (hclk0 : 0 ≤ clk) (hsz : (fi 31 27).toInt = sz) (hsz0 : 0 ≤ sz) (hfm : (fi 31 28).toInt = fm) (hfm0 : 0 ≤ fm) (hkd : (fi 32 B).toInt = kd) (hvv : (fi 33 B).toInt = vv) (hF0 : F 0 = B) (hF1 : F 1 = kd) (hF2 : F 2 = vv) (hF3 : F 3 = clk % 12) (hF4 : F 4 = sz / 10) (hF5 : F 5 = fm / 10) : ∀ (n k S : Nat) (A : Bool) (fi2 : am_I) (x y c : Int32), k + n = qN Q → (∀ q, q ≠ 48 → fi2 q = fi q) → S ≤ 99 * k → x.toInt = (S : Int) → y.toInt = (if A = true then 1 else 0) → c.toInt = 10 * (s0 : Int) + (k : Int) → (∀ (z : Int32) (fi3 : am_I), (∀ q, q ≠ 48 → fi3 q = fi q) → z.toInt = (if (A || anyw Q W0 n k) = true then ((S + smv Q F W0 n k : Nat) : Int) else O0) → P (some (.int z)) g fi3 fl) → WP (d + 4) 146 12 [some (.ref 31), some (.int wd), some (.int b), some (.int wo), some (.int x), some (.int y), some (.int c)] [] g fi2 fl P := by
  obtain ⟨hcn, hc1⟩ := id hc
  obtain ⟨hv1, hv10, hv2⟩ := id hv
  have hn10 : qN Q ≤ 10 := hv10
  intro n
  induction n with
  | zero =>
    intro k S A fi2 x y c hkn hf hSk hx hy hik kk
    cases A
    · skip
      refine wi_iload_6 ct_146_12 ?_
      refine wi_aload_0 ct_146_14 ?_
      refine wi_cv0 (ls' := [some _]) ct_146_15 (Nat.le_of_ble_eq_true rfl) (by decide) (sT_31 hS) rfl (by decide) rfl rfl (Nat.le_of_ble_eq_true rfl) ?_
      refine wi_aload_0 ct_143_0 ?_
      refine wi_gf (x := fi 31 10) ct_143_1 (sT_31 hS) rfl rfl (congrFun (hf 31 (by decide)) _) ?_
      refine wi_ifge_t ct_143_4 hthe (by omega) ?_
      refine wi_ic ct_143_11 kc_10 ?_
      refine wi_aload_0 ct_143_13 ?_
      refine wi_gf (x := fi 31 10) ct_143_14 (sT_31 hS) rfl rfl (congrFun (hf 31 (by decide)) _) ?_
      refine wi_imul ct_143_17 rfl ?_
      refine wi_aload_0 ct_143_18 ?_
      refine wi_gfr ct_143_19 (sT_31 hS) rfl (sR_31_15 hS) ?_
      refine wi_aload_0 ct_143_22 ?_
      refine wi_gf (x := fi 31 10) ct_143_23 (sT_31 hS) rfl rfl (congrFun (hf 31 (by decide)) _) ?_
      refine wi_iald (x := fi 40 s0) ct_143_26 (sT_40 hS) (sL_40 hS) (i_in hthe (by omega)) (i_cl (k := s0) hthe (by omega)) (congrFun (hf 40 (by decide)) _) ?_
      refine wi_iadd ct_143_27 rfl ?_
      refine wi_iret ct_143_28 rfl (wk_i ?_)
      refine wi_icge_t ct_146_18 hik (i_add (i_mul ki_10 hthe (by omega)) hcn (by omega)) (by omega) ?_
      refine wi_iload_5 ct_146_70 ?_
      refine wi_ifeq_t ct_146_72 (hy.trans rfl : y.toInt = 0) (by decide) ?_
      refine wi_iload_3 ct_146_80 ?_
      refine wi_iret ct_146_81 rfl ?_
      exact kk _ _ hf hwo
    · skip
      refine wi_iload_6 ct_146_12 ?_
      refine wi_aload_0 ct_146_14 ?_
      refine wi_cv0 (ls' := [some _]) ct_146_15 (Nat.le_of_ble_eq_true rfl) (by decide) (sT_31 hS) rfl (by decide) rfl rfl (Nat.le_of_ble_eq_true rfl) ?_
      refine wi_aload_0 ct_143_0 ?_
      refine wi_gf (x := fi 31 10) ct_143_1 (sT_31 hS) rfl rfl (congrFun (hf 31 (by decide)) _) ?_
      refine wi_ifge_t ct_143_4 hthe (by omega) ?_
      refine wi_ic ct_143_11 kc_10 ?_
      refine wi_aload_0 ct_143_13 ?_
      refine wi_gf (x := fi 31 10) ct_143_14 (sT_31 hS) rfl rfl (congrFun (hf 31 (by decide)) _) ?_
      refine wi_imul ct_143_17 rfl ?_
      refine wi_aload_0 ct_143_18 ?_
      refine wi_gfr ct_143_19 (sT_31 hS) rfl (sR_31_15 hS) ?_
      refine wi_aload_0 ct_143_22 ?_
      refine wi_gf (x := fi 31 10) ct_143_23 (sT_31 hS) rfl rfl (congrFun (hf 31 (by decide)) _) ?_
      refine wi_iald (x := fi 40 s0) ct_143_26 (sT_40 hS) (sL_40 hS) (i_in hthe (by omega)) (i_cl (k := s0) hthe (by omega)) (congrFun (hf 40 (by decide)) _) ?_
      refine wi_iadd ct_143_27 rfl ?_
      refine wi_iret ct_143_28 rfl (wk_i ?_)
      refine wi_icge_t ct_146_18 hik (i_add (i_mul ki_10 hthe (by omega)) hcn (by omega)) (by omega) ?_
      refine wi_iload_5 ct_146_70 ?_
      refine wi_ifeq_f ct_146_72 (hy.trans rfl : y.toInt = 1) (by decide) ?_
      refine wi_iload_4 ct_146_75 ?_
      refine wi_goto ct_146_77 ?_
      refine wi_iret ct_146_81 rfl ?_
      exact kk _ _ hf hx
  | succ n ih =>
    intro k S A fi2 x y c hkn hf hSk hx hy hik kk
    obtain ⟨k1, k2, k3, k3b, k4⟩ := hc1 k (by omega)
    obtain ⟨v1, v2, v3, v4, v5⟩ := hv2 k (by omega)
    have hik1 := i_add hik ki_1 (by omega)
    refine wi_iload_6 ct_146_12 ?_
    refine wi_aload_0 ct_146_14 ?_
    refine wi_cv0 (ls' := [some _]) ct_146_15 (Nat.le_of_ble_eq_true rfl) (by decide) (sT_31 hS) rfl (by decide) rfl rfl (Nat.le_of_ble_eq_true rfl) ?_
    refine wi_aload_0 ct_143_0 ?_
    refine wi_gf (x := fi 31 10) ct_143_1 (sT_31 hS) rfl rfl (congrFun (hf 31 (by decide)) _) ?_
    refine wi_ifge_t ct_143_4 hthe (by omega) ?_
    refine wi_ic ct_143_11 kc_10 ?_
    refine wi_aload_0 ct_143_13 ?_
    refine wi_gf (x := fi 31 10) ct_143_14 (sT_31 hS) rfl rfl (congrFun (hf 31 (by decide)) _) ?_
    refine wi_imul ct_143_17 rfl ?_
    refine wi_aload_0 ct_143_18 ?_
    refine wi_gfr ct_143_19 (sT_31 hS) rfl (sR_31_15 hS) ?_
    refine wi_aload_0 ct_143_22 ?_
    refine wi_gf (x := fi 31 10) ct_143_23 (sT_31 hS) rfl rfl (congrFun (hf 31 (by decide)) _) ?_
    refine wi_iald (x := fi 40 s0) ct_143_26 (sT_40 hS) (sL_40 hS) (i_in hthe (by omega)) (i_cl (k := s0) hthe (by omega)) (congrFun (hf 40 (by decide)) _) ?_
    refine wi_iadd ct_143_27 rfl ?_
    refine wi_iret ct_143_28 rfl (wk_i ?_)
    refine wi_icge_f ct_146_18 hik (i_add (i_mul ki_10 hthe (by omega)) hcn (by omega)) (by omega) ?_
    refine wi_aload_0 ct_146_21 ?_
    refine wi_gfr ct_146_22 (sT_31 hS) rfl (sR_31_16 hS) ?_
    refine wi_iload_6 ct_146_25 ?_
    refine wi_iald (x := fi 41 (10 * s0 + k)) ct_146_27 (sT_41 hS) (sL_41 hS) (i_in hik (by omega)) (i_cl (k := (10 * s0 + k)) hik (by omega)) (congrFun (hf 41 (by decide)) _) ?_
    refine wi_iload_1 ct_146_28 ?_
    refine wi_iceq ct_146_29 k1 hwd (fun h1 => ?_) (fun h1 => ?_)
    · skip
      refine wi_ic ct_146_35 kc_1 ?_
      refine wi_istore_5 rfl ct_146_36 ?_
      refine wi_iload_4 ct_146_38 ?_
      refine wi_aload_0 ct_146_40 ?_
      refine wi_iload_6 ct_146_41 ?_
      refine wi_iload_2 ct_146_43 ?_
      refine wi_cv2 (ls' := [some _, some _, some _, none, none, none, none, none]) ct_146_44 (Nat.le_of_ble_eq_true rfl) (by decide) (sT_31 hS) rfl (by decide) rfl rfl (Nat.le_of_ble_eq_true rfl) ?_
      refine wi_ic ct_145_0 kc_0 ?_
      refine wi_istore_3 rfl ct_145_1 ?_
      refine wi_aload_0 ct_145_2 ?_
      refine wi_gfr ct_145_3 (sT_31 hS) rfl (sR_31_18 hS) ?_
      refine wi_iload_1 ct_145_6 ?_
      refine wi_iald (x := fi 43 (10 * s0 + k)) ct_145_7 (sT_43 hS) (sL_43 hS) (i_in hik (by omega)) (i_cl (k := (10 * s0 + k)) hik (by omega)) (congrFun (hf 43 (by decide)) _) ?_
      refine wi_istore_4 rfl ct_145_8 ?_
      refine vl_holds (c0 := 10 * s0 + k) hS (hik.trans (by omega)) (by omega) hb hb5 k3b hs6 v4 clk sz fm kd vv hclk hclk0 hsz hsz0 hfm hfm0 hkd hvv hF0 hF1 hF2 hF3 hF4 hF5 (qE Q k - qF Q k) (qF Q k) [] fi2 0 _ none none none (by omega) hf (fun j h1 h2 => k4 j (by omega)) v5 trivial rfl (k3.trans (by omega)) rfl rfl rfl (fun fi3 hf3 => wk_i ?_)
      have ecl : (evl (qT Q) F (qE Q k - qF Q k) (qF Q k) []).headD false = clv Q F k := rfl
      rw [ecl]
      cases hb0 : clv Q F k
      · skip
        refine wi_ifeq_t ct_146_47 (show (bI false).toInt = 0 from rfl) (by decide) ?_
        refine wi_ic ct_146_60 kc_0 ?_
        refine wi_iadd ct_146_61 rfl ?_
        refine wi_istore_4 rfl ct_146_62 ?_
        refine wi_iinc_6 rfl (z := (c + 1)) ct_146_64 (by rw [kc_1]) ?_
        refine wi_goto ct_146_67 ?_
        have e1 : qW Q k = W0 := by omega
        refine ih (k + 1) (S + 0) true _ _ _ _ (by omega) hf3 (by omega) ((i_add hx ki_0 (by omega)).trans (by omega)) rfl (hik1.trans (by omega)) (fun z fi4 h4 hz => kk z fi4 h4 (hz.trans ?_))
        rw [anyw_s, smv_s]
        simp [e1, hb0]
      · skip
        refine wi_ifeq_f ct_146_47 (show (bI true).toInt = 1 from rfl) (by decide) ?_
        refine wi_aload_0 ct_146_50 ?_
        refine wi_gfr ct_146_51 (sT_31 hS) rfl (sR_31_17 hS) ?_
        refine wi_iload_6 ct_146_54 ?_
        refine wi_iald (x := fi 42 (10 * s0 + k)) ct_146_56 (sT_42 hS) (sL_42 hS) (i_in hik (by omega)) (i_cl (k := (10 * s0 + k)) hik (by omega)) (congrFun (hf3 42 (by decide)) _) ?_
        refine wi_goto ct_146_57 ?_
        refine wi_iadd ct_146_61 rfl ?_
        refine wi_istore_4 rfl ct_146_62 ?_
        refine wi_iinc_6 rfl (z := (c + 1)) ct_146_64 (by rw [kc_1]) ?_
        refine wi_goto ct_146_67 ?_
        have e1 : qW Q k = W0 := by omega
        refine ih (k + 1) (S + qU Q k) true _ _ _ _ (by omega) hf3 (by omega) ((i_add hx k2 (by omega)).trans (by omega)) rfl (hik1.trans (by omega)) (fun z fi4 h4 hz => kk z fi4 h4 (hz.trans ?_))
        rw [anyw_s, smv_s]
        simp [e1, hb0]
        omega
    · skip
      refine wi_goto ct_146_32 ?_
      refine wi_iinc_6 rfl (z := (c + 1)) ct_146_64 (by rw [kc_1]) ?_
      refine wi_goto ct_146_67 ?_
      have e1 : ¬ qW Q k = W0 := by omega
      refine ih (k + 1) S A _ _ _ _ (by omega) hf (by omega) hx hy (hik1.trans (by omega)) (fun z fi4 h4 hz => kk z fi4 h4 (hz.trans ?_))
      rw [anyw_s, smv_s]
      simp [e1]
theorem c_sum {L : Nat} {d : Nat} {g : am_G} {fl : am_L} {P : Option Value → am_G → am_I → am_L → Prop} {fi : am_I} {sq : Option sq_T} {wd b wo : Int32} {W0 B : Nat} {O0 : Int} (hS : SF L g) (hq : SQs fi sq) (hwd : wd.toInt = (W0 : Int)) (hW3 : W0 < 3) (hwo : wo.toInt = O0) (hb : b.toInt = (B : Int)) (hb5 : B < 5) (clk sz fm kd vv : Int) (hclk : (fi 31 29).toInt = clk) (hclk0 : 0 ≤ clk) (hsz : (fi 31 27).toInt = sz) (hsz0 : 0 ≤ sz) (hfm : (fi 31 28).toInt = fm) (hfm0 : 0 ≤ fm) (hkd : (fi 32 B).toInt = kd) (hvv : (fi 33 B).toInt = vv) (kk : ∀ (z : Int32) (fi3 : am_I), (∀ q, q ≠ 48 → fi3 q = fi q) → z.toInt = lkV sq (FL B kd vv clk sz fm) W0 O0 → P (some (.int z)) g fi3 fl) : WP (d + 4) 146 0 [some (.ref 31), some (.int wd), some (.int b), some (.int wo), none, none, none] [] g fi fl P := by
  cases sq with
  | none =>
    replace hq : (fi 31 10).toInt = -1 := hq
    refine wi_ic ct_146_0 kc_0 ?_
    refine wi_istore_4 rfl ct_146_1 ?_
    refine wi_ic ct_146_3 kc_0 ?_
    refine wi_istore_5 rfl ct_146_4 ?_
    refine wi_aload_0 ct_146_6 ?_
    refine wi_cv0 (ls' := [some _]) ct_146_7 (Nat.le_of_ble_eq_true rfl) (by decide) (sT_31 hS) rfl (by decide) rfl rfl (Nat.le_of_ble_eq_true rfl) ?_
    refine wi_aload_0 ct_142_0 ?_
    refine wi_gf (x := fi 31 10) ct_142_1 (sT_31 hS) rfl rfl rfl ?_
    refine wi_ifge_f ct_142_4 hq (by decide) ?_
    refine wi_ic ct_142_7 kc_0 ?_
    refine wi_goto ct_142_8 ?_
    refine wi_iret ct_142_18 rfl (wk_i ?_)
    refine wi_istore_6 rfl ct_146_10 ?_
    refine wi_iload_6 ct_146_12 ?_
    refine wi_aload_0 ct_146_14 ?_
    refine wi_cv0 (ls' := [some _]) ct_146_15 (Nat.le_of_ble_eq_true rfl) (by decide) (sT_31 hS) rfl (by decide) rfl rfl (Nat.le_of_ble_eq_true rfl) ?_
    refine wi_aload_0 ct_143_0 ?_
    refine wi_gf (x := fi 31 10) ct_143_1 (sT_31 hS) rfl rfl rfl ?_
    refine wi_ifge_f ct_143_4 hq (by decide) ?_
    refine wi_ic ct_143_7 kc_0 ?_
    refine wi_goto ct_143_8 ?_
    refine wi_iret ct_143_28 rfl (wk_i ?_)
    refine wi_icge_t ct_146_18 ki_0 ki_0 (by decide) ?_
    refine wi_iload_5 ct_146_70 ?_
    refine wi_ifeq_t ct_146_72 ki_0 (by decide) ?_
    refine wi_iload_3 ct_146_80 ?_
    refine wi_iret ct_146_81 rfl ?_
    exact kk _ fi (fun _ _ => rfl) hwo
  | some Q =>
    obtain ⟨s0, hs6, hthe, hm, hv⟩ := hq
    refine wi_ic ct_146_0 kc_0 ?_
    refine wi_istore_4 rfl ct_146_1 ?_
    refine wi_ic ct_146_3 kc_0 ?_
    refine wi_istore_5 rfl ct_146_4 ?_
    refine wi_aload_0 ct_146_6 ?_
    refine wi_cv0 (ls' := [some _]) ct_146_7 (Nat.le_of_ble_eq_true rfl) (by decide) (sT_31 hS) rfl (by decide) rfl rfl (Nat.le_of_ble_eq_true rfl) ?_
    refine wi_aload_0 ct_142_0 ?_
    refine wi_gf (x := fi 31 10) ct_142_1 (sT_31 hS) rfl rfl rfl ?_
    refine wi_ifge_t ct_142_4 hthe (by omega) ?_
    refine wi_ic ct_142_11 kc_10 ?_
    refine wi_aload_0 ct_142_13 ?_
    refine wi_gf (x := fi 31 10) ct_142_14 (sT_31 hS) rfl rfl rfl ?_
    refine wi_imul ct_142_17 rfl ?_
    refine wi_iret ct_142_18 rfl (wk_i ?_)
    refine wi_istore_6 rfl ct_146_10 ?_
    refine vl_sum (F := FL B kd vv clk sz fm) hS hm hv hs6 hthe hwd hW3 hwo hb hb5 clk sz fm kd vv hclk hclk0 hsz hsz0 hfm hfm0 hkd hvv rfl rfl rfl rfl rfl rfl (qN Q) 0 0 false fi _ _ _ (by omega) (fun _ _ => rfl) (by omega) rfl rfl ((i_mul ki_10 hthe (by omega)).trans (by omega)) (fun z fi3 h3 hz => kk z fi3 h3 (hz.trans (by simp [lkV])))
