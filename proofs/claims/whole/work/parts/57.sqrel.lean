/-! What is read keeps; Rel behind a square. -/
theorem okH_congr {T T2 : Nat → Nat × Nat × Nat} : ∀ (n k h : Nat), (∀ j, k ≤ j → j < k + n → T j = T2 j) → okH T n k h → okH T2 n k h := by
  intro n
  induction n with
  | zero => intro k h _ a; exact a
  | succ n ih =>
    intro k h e a
    unfold okH at a ⊢
    rw [← e k (Nat.le_refl _) (by omega)]
    have e2 : ∀ j, k + 1 ≤ j → j < k + 1 + n → T j = T2 j := fun j h1 h2 => e j (by omega) (by omega)
    rcases a with ⟨a1, a2, a3, a4, a5⟩ | ⟨a1, a2, a3, a5⟩ | ⟨a1, a2, a3, a5⟩
    · exact Or.inl ⟨a1, a2, a3, a4, ih _ _ e2 a5⟩
    · exact Or.inr (Or.inl ⟨a1, a2, a3, ih _ _ e2 a5⟩)
    · exact Or.inr (Or.inr ⟨a1, a2, a3, ih _ _ e2 a5⟩)
theorem okL_H {T : Nat → Nat × Nat × Nat} : ∀ (us : List tk_T) (k h : Nat), (∀ i, i < us.length → T (k + i) = us.getD i (0, 0, 0)) → okL us h 1 → okH T us.length k h := by
  intro us
  induction us with
  | nil => intro k h _ a; exact a
  | cons t us ih =>
    intro k h e a
    have e0 : T k = t := e 0 (Nat.succ_pos _)
    have e2 : ∀ i, i < us.length → T (k + 1 + i) = us.getD i (0, 0, 0) := fun i hi => by
      have := e (i + 1) (Nat.succ_lt_succ hi)
      rw [Nat.add_right_comm k 1 i]
      exact this
    show okH T (us.length + 1) k h
    unfold okH
    rw [e0]
    rcases a with ⟨a1, a2, a3, a4, a5⟩ | ⟨a1, a2, a3, a5⟩ | ⟨a1, a2, a3, a5⟩
    · exact Or.inl ⟨a1, a2, a3, a4, ih _ _ e2 a5⟩
    · exact Or.inr (Or.inl ⟨a1, a2, a3, ih _ _ e2 a5⟩)
    · exact Or.inr (Or.inr ⟨a1, a2, a3, ih _ _ e2 a5⟩)
def tokv (cs ts : List tk_T) : Prop := ∀ i, i < cs.length → (cs.getD i (0, 0, 0)).1 < 3 ∧ (cs.getD i (0, 0, 0)).2.1 < 100 ∧ stt cs i ≤ (cs.getD i (0, 0, 0)).2.2 ∧ (cs.getD i (0, 0, 0)).2.2 ≤ ts.length ∧ okH (fun k => ts.getD k (0, 0, 0)) ((cs.getD i (0, 0, 0)).2.2 - stt cs i) (stt cs i) 0
theorem getD_apr {α : Type} {ts us : List α} {d : α} {i : Nat} : (ts ++ us).getD (ts.length + i) d = us.getD i d := by
  simp only [List.getD_eq_getElem?_getD]
  rw [List.getElem?_append_right (by omega), Nat.add_sub_cancel_left]
theorem tokv_add {cs ts us : List tk_T} {wd nm : Nat} (h : tokv cs ts) (hst : stt cs cs.length = ts.length) (hw : wd < 3) (hm : nm < 100) (hu : okL us 0 1) : tokv (cs ++ [(wd, nm, (ts ++ us).length)]) (ts ++ us) := by
  intro i hi
  rcases Decidable.em (i = cs.length) with h0 | h0
  · subst h0
    rw [getD_app, stt_app (Nat.le_refl _), hst]
    refine ⟨hw, hm, by rw [List.length_append]; exact Nat.le_add_right _ _, Nat.le_refl _, ?_⟩
    show okH _ ((ts ++ us).length - ts.length) ts.length 0
    rw [List.length_append, Nat.add_sub_cancel_left]
    exact okL_H us ts.length 0 (fun i _ => getD_apr) hu
  · have hl : i < cs.length := by
      simp only [List.length_append, List.length_cons, List.length_nil] at hi
      omega
    rw [getD_apl hl, stt_app (by omega)]
    obtain ⟨h1, h2, h3, h4, h5⟩ := h i hl
    refine ⟨h1, h2, h3, by rw [List.length_append]; omega, okH_congr _ _ _ (fun j h6 h7 => ?_) h5⟩
    exact (getD_apl (by omega)).symm
theorem rTx_ok (X : Nat → Int) (n : Nat) : ∀ (k p : Nat) (cs ts : List tk_T), tokv cs ts → stt cs cs.length = ts.length → cs.length + k = 10 → ts.length ≤ p → p ≤ n → (rTx X n k p cs ts).1 = true → tokv (rTx X n k p cs ts).2.2.1 (rTx X n k p cs ts).2.2.2 ∧ 1 ≤ (rTx X n k p cs ts).2.2.1.length ∧ (rTx X n k p cs ts).2.2.1.length ≤ 10 ∧ (rTx X n k p cs ts).2.2.2.length ≤ n := by
  intro k
  induction k with
  | zero => intro p cs ts _ _ _ _ _ h; exact Bool.noConfusion h
  | succ k ih =>
    intro p cs ts hv hst hk hlen hpn h
    obtain ⟨g1, g2, g3⟩ := rCl_gd X n p hpn
    rcases Decidable.em ((rCl X n p).1 = true) with e | e
    · obtain ⟨g4, g5, g6⟩ := g3 e
      have bw := rWd_le X n p
      have bn := rCn_bd X n p
      have hv2 : tokv (cs ++ [(rWd X n p, (rCn X n p).1.toNat, (ts ++ (rCl X n p).2.2).length)]) (ts ++ (rCl X n p).2.2) := tokv_add hv hst (by omega) (by omega) (g6 0 (by decide))
      have hst2 : stt (cs ++ [(rWd X n p, (rCn X n p).1.toNat, (ts ++ (rCl X n p).2.2).length)]) (cs ++ [(rWd X n p, (rCn X n p).1.toNat, (ts ++ (rCl X n p).2.2).length)]).length = (ts ++ (rCl X n p).2.2).length := by
        unfold stt
        rw [List.length_append, List.length_cons, List.length_nil, if_neg (by omega), Nat.add_sub_cancel, getD_app]
      have hln : (ts ++ (rCl X n p).2.2).length ≤ (rCl X n p).2.1 := by
        rw [List.length_append]
        omega
      have hcl : (cs ++ [(rWd X n p, (rCn X n p).1.toNat, (ts ++ (rCl X n p).2.2).length)]).length = cs.length + 1 := by
        rw [List.length_append, List.length_cons, List.length_nil]
      unfold rTx at h ⊢
      rw [if_pos e] at h ⊢
      rcases Decidable.em ((rCl X n p).2.1 = n) with e2 | e2
      · rw [if_pos e2] at h ⊢
        exact ⟨hv2, by dsimp only; omega, by dsimp only; omega, by dsimp only; omega⟩
      · rw [if_neg e2] at h ⊢
        rcases Decidable.em (k = 0) with e3 | e3
        · rw [if_pos e3] at h
          exact Bool.noConfusion h
        · rw [if_neg e3] at h ⊢
          rcases Decidable.em (pk X n (rCl X n p).2.1 = 59) with e4 | e4
          · rw [if_pos e4] at h ⊢
            have := pk_n (by decide) e4
            exact ih _ _ _ hv2 hst2 (by omega) (by omega) (by omega) h
          · rw [if_neg e4] at h
            exact Bool.noConfusion h
    · unfold rTx at h
      rw [if_neg e] at h
      exact Bool.noConfusion h
def sqOf (cs ts : List tk_T) : sq_T := (cs.length, fun i => (cs.getD i (0, 0, 0)).1, fun i => (cs.getD i (0, 0, 0)).2.1, fun i => (cs.getD i (0, 0, 0)).2.2, fun k => ts.getD k (0, 0, 0))
theorem qF_of (cs ts : List tk_T) (i : Nat) : qF (sqOf cs ts) i = stt cs i := by
  cases i with
  | zero => rfl
  | succ i => exact (if_neg (Nat.succ_ne_zero i)).symm
theorem sqOf_v {cs ts : List tk_T} (h : tokv cs ts) (h1 : 1 ≤ cs.length) (h2 : cs.length ≤ 10) (h3 : ts.length ≤ 100) : SQv (sqOf cs ts) := by
  refine ⟨h1, h2, fun i hi => ?_⟩
  obtain ⟨a, b, c, d, e⟩ := h i hi
  rw [qF_of]
  exact ⟨a, b, c, Nat.le_trans d h3, e⟩
theorem sqOf_c {ow : Nat → Nat} {q a0 a1 a2 a4 a5 a6 p : Nat} {fi0 fi : am_I} {cs ts : List tk_T} (hv : tokv cs ts) (h : CK ow q a0 a1 a2 a4 a5 a6 fi0 fi p cs ts) : SQc fi q a0 a1 a2 a4 a5 a6 (sqOf cs ts) := by
  obtain ⟨-, h2, -, h4, h5, -⟩ := h
  refine ⟨h2, fun i hi => ?_⟩
  obtain ⟨a, b, c⟩ := h5 i hi
  exact ⟨a, b, c, fun k hk => h4 k (Nat.lt_of_lt_of_le hk (hv i hi).2.2.2.1)⟩
theorem sqOf_m {f p : Nat} {fi0 fi : am_I} {cs ts : List tk_T} (hv : tokv cs ts) (h : MK f fi0 fi p cs ts) (h40 : (fi 40 f).toInt = (cs.length : Int)) : SQm fi f (sqOf cs ts) := by
  obtain ⟨-, -, h3, h4, -, -⟩ := h
  refine ⟨h40, fun i hi => ?_⟩
  obtain ⟨a, b, c, d⟩ := h4 i hi
  rw [qF_of]
  exact ⟨a, b, c.trans (by omega), d.trans (by show _ = 100 * (f : Int) + ((cs.getD i (0, 0, 0)).2.2 : Int); omega), fun k hk => h3 k (Nat.lt_of_lt_of_le hk (hv i hi).2.2.2.1)⟩
section ASQ
variable {L s : Nat} {xs : Nat → Int32} {own own2 : Nat → Nat} {g g2 : am_G} {fi fi2 : am_I} {fl fl2 : am_L}
theorem Rel.spare (hR : Rel L xs own g fi fl) (hS2 : SF L g2) (hf : rl_fr (fun _ => True) own own2 g g2 fi fi2) (ht : ∀ q, q < am_nx g → g2.1 q = g.1 q) (hr : ∀ q j, q < 72 → (q ≠ 0 ∨ j ≠ 6) → g2.2.2.1 q j = g.2.2.1 q j) (hsc2 : fi2 am_SC = fi am_SC) (hw : ∀ q, q < 72 → fi2 q = fi q) (hl : ∀ q, q < 72 → fl2 q = fl q) (hZ2 : RZ own2 g2) : Rel L xs own2 g2 fi2 fl2 := by
  obtain ⟨hS, hsc, hC, hK, hX, hV, hT, hP, hB, hN, hQ, hZ, hI⟩ := hR
  have w := fun q (h : q < 72) => hw q h
  have m : ∀ j, fi2 31 j = fi 31 j := fun j => congrFun (w 31 (by decide)) j
  refine ⟨hS2, fun j => (congrFun hsc2 j).trans (hsc j), ?_, ?_, ?_, ?_, ?_, ?_, ?_, ?_, ?_, hZ2, ?_⟩
  · unfold RC
    rw [w 1 (by decide), w 0 (by decide), w 17 (by decide), w 21 (by decide), w 31 (by decide)]
    exact hC
  · unfold RK
    rw [w 3 (by decide), w 38 (by decide)]
    exact hK
  · unfold RX RL
    rw [w 18 (by decide), w 39 (by decide), w 47 (by decide), w 31 (by decide)]
    exact hX
  · unfold RV
    rw [w 4 (by decide), w 5 (by decide), w 6 (by decide), w 7 (by decide), w 8 (by decide), w 50 (by decide), w 51 (by decide), w 52 (by decide), w 53 (by decide), w 54 (by decide), w 31 (by decide)]
    exact hV
  · unfold RT
    rw [w 21 (by decide), w 67 (by decide), w 31 (by decide)]
    exact hT
  · intro t ht6
    rw [w 22 (by decide), w 23 (by decide), w 68 (by decide), w 69 (by decide), hl (25 + t) (by omega), hl 70 (by decide)]
    exact hP t ht6
  · exact hB.fr hC.1.2.2 hf (fun _ _ => trivial) (m 0) (funext fun j => hr 2 j (by decide) (Or.inl (by decide))) (w 32 (by decide)) (w 33 (by decide)) (w 34 (by decide)) (w 35 (by decide)) (w 36 (by decide)) (w 37 (by decide))
  · exact hN.fr (fun i _ => hr 2 i (by decide) (Or.inl (by decide))) hf.1 ht
  · exact hQ.fr hf trivial (m 9) (funext fun j => hr 19 j (by decide) (Or.inl (by decide))) (w 40 (by decide)) (w 41 (by decide)) (w 42 (by decide)) (w 43 (by decide)) (w 44 (by decide)) (w 45 (by decide))
  · exact hI.fr hC.1.2.2 hf (fun _ _ _ => trivial) ht (hr 0 1 (by decide) (Or.inr (by decide))) (fun b _ => hr 2 b (by decide) (Or.inl (by decide))) (by rw [m 0]; exact Int.le_refl _) (by rw [m 9]; exact Int.le_refl _) (m 47) (m 48) (m 49) (m 50) (m 51) (m 52) (fun b _ => congrFun (w 32 (by decide)) b) (fun b _ => congrFun (w 33 (by decide)) b) (w 55 (by decide)) (w 56 (by decide)) (w 57 (by decide)) (w 58 (by decide)) (w 59 (by decide)) (w 60 (by decide)) (w 61 (by decide)) (w 62 (by decide)) (w 63 (by decide)) (w 64 (by decide)) (w 65 (by decide)) (w 66 (by decide))
theorem Rel.sqr (hR : Rel L xs own g fi fl) (hs : (fi 31 9).toInt = (s : Int)) (hS2 : SF L g2) (hnx : am_nx g2 = am_nx g) (hd : ∀ q, 72 ≤ q → own q < 40 ∨ 46 < own q → fi2 q = fi q) (ht : g2.1 = g.1) (hlen : g2.2.1 = g.2.1) (hr : ∀ q j, (q ≠ 19 ∨ j ≠ s) → (q ≠ 0 ∨ j ≠ 6) → g2.2.2.1 q j = g.2.2.1 q j) (ho : ∀ q, own q < 40 ∨ 46 < own q → own2 q = own q) (hsc2 : fi2 am_SC = fi am_SC) (hw : ∀ q, q < 72 → ¬ (q = 0 ∨ q = 1 ∨ q = 17 ∨ q = 31 ∨ 40 ≤ q ∧ q ≤ 46) → fi2 q = fi q) (h1 : ∀ j, j ≠ 4 → fi2 1 j = fi 1 j) (m : ∀ j, ¬ (9 ≤ j ∧ j ≤ 13 ∨ 22 ≤ j ∧ j ≤ 24) → fi2 31 j = fi 31 j) (hz : fi2 17 1 = 0 ∧ fi2 31 11 = 0) (hc : fi2 1 4 = fi2 31 10 ∧ -1 ≤ (fi2 31 10).toInt ∧ (fi2 31 10).toInt < (fi2 31 9).toInt) (hc2 : fi2 0 5 = fi2 31 9 ∧ (fi 31 9).toInt ≤ (fi2 31 9).toInt ∧ (fi2 31 9).toInt ≤ 6) (h40 : ∀ j, j < s → fi2 40 j = fi 40 j) (h41 : ∀ x, 41 ≤ x → x ≤ 44 → ∀ j, j < 10 * s → fi2 x j = fi x j) (h45 : ∀ j, j < 100 * s → fi2 45 j = fi 45 j) (hQ2 : ∀ s2 : Nat, (s2 : Int) < (fi2 31 9).toInt → s ≤ s2 → ∃ q a0 a1 a2 a4 a5 a6 Q, g2.2.2.1 19 s2 = some q ∧ (am_dy own2 g2 q 30 ∧ am_dy own2 g2 a0 30 ∧ am_dy own2 g2 a1 30 ∧ am_dy own2 g2 a2 30 ∧ am_dy own2 g2 a4 30 ∧ am_dy own2 g2 a5 30 ∧ am_dy own2 g2 a6 30) ∧ SQp g2 q a0 a1 a2 a4 a5 a6 ∧ SQc fi2 q a0 a1 a2 a4 a5 a6 Q ∧ SQm fi2 s2 Q ∧ SQv Q) (hZ2 : RZ own2 g2) : Rel L xs own2 g2 fi2 fl := by
  obtain ⟨hS, hsc, hC, hK, hX, hV, hT, hP, hB, hN, hQ, hZ, hI⟩ := hR
  have w := hw
  have hf : rl_fr (fun o => o < 40 ∨ 46 < o) own own2 g g2 fi fi2 := ⟨Nat.le_of_eq hnx.symm, fun q h2 _ h3 => ⟨congrFun ht q, congrFun hlen q, funext fun j => hr q j (Or.inl (by omega)) (Or.inl (by omega)), ho q h3, hd q h2 h3⟩⟩
  have z0 : (0 : Int32).toInt = 0 := rfl
  have hr2 : g2.2.2.1 2 = g.2.2.1 2 := funext fun j => hr 2 j (Or.inl (by decide)) (Or.inl (by decide))
  refine ⟨hS2, fun j => (congrFun hsc2 j).trans (hsc j), ?_, ?_, ?_, ?_, ?_, ?_, ?_, ?_, ?_, hZ2, ?_⟩
  · obtain ⟨c0, c1, c2, c3, c4, c5, c6, c7, c8, c9⟩ := hC
    unfold RC
    rw [h1 1 (by decide), h1 3 (by decide), h1 8 (by decide), h1 11 (by decide), w 21 (by decide) (by decide), m 0 (by decide), m 1 (by decide), m 40 (by decide), m 44 (by decide), m 65 (by decide), m 35 (by decide), m 36 (by decide)]
    refine ⟨c0, c1, hc, ⟨hc2.1, by omega, hc2.2.2⟩, ⟨hz.1.trans hz.2.symm, ?_, ?_⟩, c5, c6, c7, c8, c9⟩
    · rw [hz.2]
      decide
    · rw [hz.2]
      decide
  · unfold RK
    rw [w 3 (by decide) (by decide), w 38 (by decide) (by decide)]
    exact hK
  · unfold RX RL
    rw [w 47 (by decide) (by decide), hz.2, z0]
    exact ⟨fun j hj => absurd hj (by omega), hX.2⟩
  · unfold RV
    rw [w 4 (by decide) (by decide), w 5 (by decide) (by decide), w 6 (by decide) (by decide), w 7 (by decide) (by decide), w 8 (by decide) (by decide), w 50 (by decide) (by decide), w 51 (by decide) (by decide), w 52 (by decide) (by decide), w 53 (by decide) (by decide), w 54 (by decide) (by decide), m 0 (by decide), m 40 (by decide), m 44 (by decide)]
    exact hV
  · unfold RT
    rw [w 21 (by decide) (by decide), w 67 (by decide) (by decide), m 65 (by decide)]
    exact hT
  · intro t ht6
    rw [w 22 (by decide) (by decide), w 23 (by decide) (by decide), w 68 (by decide) (by decide), w 69 (by decide) (by decide)]
    exact hP t ht6
  · exact hB.fr hC.1.2.2 hf (fun o ho => Or.inl (by omega)) (m 0 (by decide)) hr2 (w 32 (by decide) (by decide)) (w 33 (by decide) (by decide)) (w 34 (by decide) (by decide)) (w 35 (by decide) (by decide)) (w 36 (by decide) (by decide)) (w 37 (by decide) (by decide))
  · exact hN.fr (fun i _ => congrFun hr2 i) hf.1 (fun p _ => congrFun ht p)
  · intro s2 hs2
    rcases Nat.lt_or_ge s2 s with hlt | hge
    · obtain ⟨q, a0, a1, a2, a4, a5, a6, Q, hq, ⟨d, d0, d1, d2, d4, d5, d6⟩, hp, hcc, hm, hv⟩ := hQ s2 (by omega)
      have G30 : (fun o => o < 40 ∨ 46 < o) 30 := Or.inl (by decide)
      obtain ⟨f, ft, fl, fr, fe⟩ := dy_fr d hf G30
      obtain ⟨f0, t0, l0, -, x0⟩ := dy_fr d0 hf G30
      obtain ⟨f1, t1, l1, -, x1⟩ := dy_fr d1 hf G30
      obtain ⟨f2, t2, l2, -, x2⟩ := dy_fr d2 hf G30
      obtain ⟨f4, t4, l4, -, x4⟩ := dy_fr d4 hf G30
      obtain ⟨f5, t5, l5, -, x5⟩ := dy_fr d5 hf G30
      obtain ⟨f6, t6, l6, -, x6⟩ := dy_fr d6 hf G30
      refine ⟨q, a0, a1, a2, a4, a5, a6, Q, (hr 19 s2 (Or.inr (by omega)) (Or.inl (by decide))).trans hq, ⟨f, f0, f1, f2, f4, f5, f6⟩, hp.fr fr ft ⟨t0, l0⟩ ⟨t1, l1⟩ ⟨t2, l2⟩ ⟨t4, l4⟩ ⟨t5, l5⟩ ⟨t6, l6⟩, hcc.fr fe x0 x1 x2 x4 x5 x6, ?_, hv⟩
      obtain ⟨v1, v2, v3⟩ := hv
      refine ⟨(congrArg Int32.toInt (h40 s2 hlt)).trans hm.1, fun i hi => ?_⟩
      obtain ⟨m1, m2, m3, m4, m5⟩ := hm.2 i hi
      obtain ⟨-, -, -, e100, -⟩ := v3 i hi
      rw [h41 41 (by decide) (by decide) _ (by omega), h41 42 (by decide) (by decide) _ (by omega), h41 43 (by decide) (by decide) _ (by omega), h41 44 (by decide) (by decide) _ (by omega)]
      exact ⟨m1, m2, m3, m4, fun k hk => (congrArg Int32.toInt (h45 _ (by omega))).trans (m5 k hk)⟩
    · exact hQ2 s2 hs2 hge
  · exact hI.fr hC.1.2.2 hf (fun o h2 _ => Or.inr (by omega)) (fun p _ => congrFun ht p) (hr 0 1 (Or.inl (by decide)) (Or.inr (by decide))) (fun b _ => congrFun hr2 b) (by rw [m 0 (by decide)]; exact Int.le_refl _) hc2.2.1 (m 47 (by decide)) (m 48 (by decide)) (m 49 (by decide)) (m 50 (by decide)) (m 51 (by decide)) (m 52 (by decide)) (fun b _ => congrFun (w 32 (by decide) (by decide)) b) (fun b _ => congrFun (w 33 (by decide) (by decide)) b) (w 55 (by decide) (by decide)) (w 56 (by decide) (by decide)) (w 57 (by decide) (by decide)) (w 58 (by decide) (by decide)) (w 59 (by decide) (by decide)) (w 60 (by decide) (by decide)) (w 61 (by decide) (by decide)) (w 62 (by decide) (by decide)) (w 63 (by decide) (by decide)) (w 64 (by decide) (by decide)) (w 65 (by decide) (by decide)) (w 66 (by decide) (by decide))
end ASQ
