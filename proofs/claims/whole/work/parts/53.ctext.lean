/-! A clause, and the text. -/
def rWd (X : Nat → Int) (n p : Nat) : Nat := if pk X n p = 119 then 0 else if pk X n p = 100 then 1 else 2
def rHd (X : Nat → Int) (n p : Nat) : Bool × Nat := if pk X n p = 119 then rCs X n [119, 105, 110, 100] p else if pk X n p = 100 then rCs X n [100, 114, 121] p else rCs X n [99, 111, 105, 110] p
def rCn (X : Nat → Int) (n p : Nat) : Int × Nat := rNum X n ((rHd X n p).2 + 1)
def rCl (X : Nat → Int) (n p : Nat) : rd_T :=
  if (rHd X n p).1 = true then (if pk X n (rHd X n p).2 = 32 then (if 0 ≤ (rCn X n p).1 then (if pk X n (rCn X n p).2 = 32 then rE X n 4 ((rCn X n p).2 + 1) else (false, (rCn X n p).2, [])) else (false, (rHd X n p).2 + 1, [])) else (false, (rHd X n p).2, [])) else (false, (rHd X n p).2, [])
abbrev tx_T : Type := Bool × Nat × List tk_T × List tk_T
def rTx (X : Nat → Int) (n : Nat) : Nat → Nat → List tk_T → List tk_T → tx_T
  | 0, p, _, _ => (false, p, [], [])
  | k + 1, p, cs, ts =>
    if (rCl X n p).1 = true then
      (if (rCl X n p).2.1 = n then (true, (rCl X n p).2.1, cs ++ [(rWd X n p, (rCn X n p).1.toNat, (ts ++ (rCl X n p).2.2).length)], ts ++ (rCl X n p).2.2)
       else if k = 0 then (false, (rCl X n p).2.1, [], [])
       else if pk X n (rCl X n p).2.1 = 59 then rTx X n k ((rCl X n p).2.1 + 1) (cs ++ [(rWd X n p, (rCn X n p).1.toNat, (ts ++ (rCl X n p).2.2).length)]) (ts ++ (rCl X n p).2.2)
       else (false, (rCl X n p).2.1, [], []))
    else (false, (rCl X n p).2.1, [], [])
theorem rWd_le (X : Nat → Int) (n p : Nat) : rWd X n p ≤ 2 := by
  unfold rWd
  repeat' split
  all_goals omega
theorem rCs_bd (X : Nat → Int) (n : Nat) : ∀ (cs : List Int) (p : Nat), (∀ c, c ∈ cs → 0 ≤ c) → p ≤ (rCs X n cs p).2 ∧ (p ≤ n → (rCs X n cs p).2 ≤ n) := by
  intro cs
  induction cs with
  | nil => intro p _; exact ⟨Nat.le_refl _, fun h => h⟩
  | cons c cs ih =>
    intro p hc
    unfold rCs
    split
    · rename_i h
      have := pk_n (hc c (List.mem_cons_self ..)) h
      obtain ⟨a, b⟩ := ih (p + 1) (fun c hm => hc c (List.mem_cons_of_mem _ hm))
      exact ⟨by omega, fun _ => b (by omega)⟩
    · exact ⟨Nat.le_refl _, fun h => h⟩
theorem rHd_bd (X : Nat → Int) (n p : Nat) : p ≤ (rHd X n p).2 ∧ (p ≤ n → (rHd X n p).2 ≤ n) := by
  unfold rHd
  split
  · exact rCs_bd X n _ p (by decide)
  · split
    · exact rCs_bd X n _ p (by decide)
    · exact rCs_bd X n _ p (by decide)
theorem rCn_bd (X : Nat → Int) (n p : Nat) : (rHd X n p).2 + 1 ≤ (rCn X n p).2 ∧ ((rHd X n p).2 + 1 ≤ n → (rCn X n p).2 ≤ n) ∧ (rCn X n p).1 < 100 ∧ ((rCn X n p).1 < 0 → (rCn X n p).2 = (rHd X n p).2 + 1 ∧ (rCn X n p).1 = -1) := by
  obtain ⟨a, b, c, -, e⟩ := rNum_bd X n ((rHd X n p).2 + 1)
  exact ⟨a, b, c, e⟩
theorem rCl_gd (X : Nat → Int) (n p : Nat) (hp : p ≤ n) : gd n 11 p (rCl X n p) := by
  have bh := rHd_bd X n p
  have bn := rCn_bd X n p
  have h0 := bh.2 hp
  unfold rCl
  split
  · split
    · rename_i h
      have hn := pk_n (by decide) h
      split
      · split
        · rename_i h2
          have hn2 := pk_n (by decide) h2
          obtain ⟨g1, g2, g3⟩ := rE_gd X n 4 ((rCn X n p).2 + 1) (by omega)
          refine ⟨by omega, g2, fun e => ?_⟩
          obtain ⟨g4, g5, g6⟩ := g3 e
          exact ⟨by omega, by omega, g6⟩
        · exact ⟨by dsimp only; omega, by dsimp only; omega, fun h => by cases h⟩
      · exact ⟨by dsimp only; omega, by dsimp only; omega, fun h => by cases h⟩
    · exact ⟨by dsimp only; omega, by dsimp only; omega, fun h => by cases h⟩
  · exact ⟨by dsimp only; omega, by dsimp only; omega, fun h => by cases h⟩
theorem rCl_5 {X : Nat → Int} {n p : Nat} (h1 : (rHd X n p).1 = true) (h2 : pk X n (rHd X n p).2 = 32) (h3 : 0 ≤ (rCn X n p).1) (h4 : pk X n (rCn X n p).2 = 32) : rCl X n p = rE X n 4 ((rCn X n p).2 + 1) := (if_pos h1).trans ((if_pos h2).trans ((if_pos h3).trans (if_pos h4)))
theorem rCl_4 {X : Nat → Int} {n p : Nat} (h1 : (rHd X n p).1 = true) (h2 : pk X n (rHd X n p).2 = 32) (h3 : 0 ≤ (rCn X n p).1) (h4 : pk X n (rCn X n p).2 ≠ 32) : rCl X n p = (false, (rCn X n p).2, []) := (if_pos h1).trans ((if_pos h2).trans ((if_pos h3).trans (if_neg h4)))
theorem rCl_3 {X : Nat → Int} {n p : Nat} (h1 : (rHd X n p).1 = true) (h2 : pk X n (rHd X n p).2 = 32) (h3 : (rCn X n p).1 < 0) : rCl X n p = (false, (rHd X n p).2 + 1, []) := (if_pos h1).trans ((if_pos h2).trans (if_neg (by omega)))
theorem rCl_2 {X : Nat → Int} {n p : Nat} (h1 : (rHd X n p).1 = true) (h2 : pk X n (rHd X n p).2 ≠ 32) : rCl X n p = (false, (rHd X n p).2, []) := (if_pos h1).trans (if_neg h2)
theorem rCl_1 {X : Nat → Int} {n p : Nat} (h1 : (rHd X n p).1 = false) : rCl X n p = (false, (rHd X n p).2, []) := if_neg (by rw [h1]; decide)
/-- what the clauses and tokens of a text read keep -/
def tok (cs : List tk_T) (ts : List tk_T) : Prop := ∀ k, k < cs.length → (cs.getD k (0, 0, 0)).1 ≤ 2 ∧ (cs.getD k (0, 0, 0)).2.1 < 100 ∧ (if k = 0 then 0 else (cs.getD (k - 1) (0, 0, 0)).2.2) ≤ (cs.getD k (0, 0, 0)).2.2 ∧ (cs.getD k (0, 0, 0)).2.2 ≤ ts.length ∧ okL ((ts.take (cs.getD k (0, 0, 0)).2.2).drop (if k = 0 then 0 else (cs.getD (k - 1) (0, 0, 0)).2.2)) 0 1
theorem ne_ow {f : Nat → Nat} {a b i j : Nat} (ha : f a = i) (hb : f b = j) (h : i ≠ j) : a ≠ b := fun e => h (ha.symm.trans ((congrArg f e).trans hb))
def TXK (ow : Nat → Nat) (L : Nat) (g : am_G) (fi0 : am_I) (q a0 a1 a2 a4 a5 a6 : Nat) (X : Nat → Int) (n : Nat) : Prop := TXC L g fi0 q a0 a1 a2 a4 a5 a6 X n ∧ (72 ≤ a0 ∧ 72 ≤ a1 ∧ 72 ≤ a2) ∧ ow q = 40 ∧ ow a0 = 41 ∧ ow a1 = 42 ∧ ow a2 = 43 ∧ ow a4 = 44 ∧ ow a5 = 45 ∧ ow a6 = 46
def KFr (ow : Nat → Nat) (fi0 fi : am_I) : Prop := (∀ x, x ≠ 17 → x < 72 ∨ ow x < 40 ∨ 46 < ow x → fi x = fi0 x) ∧ ∀ j, j ≠ 2 → fi 17 j = fi0 17 j
def CK (ow : Nat → Nat) (q a0 a1 a2 a4 a5 a6 : Nat) (fi0 fi : am_I) (p : Nat) (cs ts : List tk_T) : Prop := (fi 17 2).toInt = (p : Int) ∧ (fi q 3).toInt = (cs.length : Int) ∧ (fi q 7).toInt = (ts.length : Int) ∧ TKS fi a4 a5 a6 ts ∧ TKS fi a0 a1 a2 cs ∧ KFr ow fi0 fi
section ACK
variable {ow : Nat → Nat} {L n p p2 q a0 a1 a2 a4 a5 a6 : Nat} {g : am_G} {fi0 fi fi2 : am_I} {X : Nat → Int} {ts ts2 cs : List tk_T}
theorem TKS.fr {x y z : Nat} (h : TKS fi x y z ts) (e1 : fi2 x = fi x) (e2 : fi2 y = fi y) (e3 : fi2 z = fi z) : TKS fi2 x y z ts := by
  unfold TKS
  rw [e1, e2, e3]
  exact h
theorem CK.toS (h : CK ow q a0 a1 a2 a4 a5 a6 fi0 fi p cs ts) : CS q a4 a5 a6 fi fi p ts := ⟨h.1, h.2.2.1, h.2.2.2.1, fun _ _ _ _ _ _ => rfl, fun _ _ => rfl, fun _ _ => rfl⟩
theorem CK.tx (hT : TXK ow L g fi0 q a0 a1 a2 a4 a5 a6 X n) (h : CK ow q a0 a1 a2 a4 a5 a6 fi0 fi p cs ts) : TXC L g fi q a0 a1 a2 a4 a5 a6 X n := by
  obtain ⟨⟨t1, t2, t3, t4, t5, t6, t7⟩, -⟩ := hT
  obtain ⟨-, -, -, -, -, k1, k2⟩ := h
  refine ⟨t1, t2, t3, t4, ?_, ?_, t7⟩
  · rw [k2 1 (by decide)]
    exact t5
  · rw [k1 18 (by decide) (Or.inl (by decide))]
    exact t6
theorem KFr.of (hT : TXK ow L g fi0 q a0 a1 a2 a4 a5 a6 X n) (h : KFr ow fi0 fi) (k : CFr q a4 a5 a6 fi fi2) : KFr ow fi0 fi2 := by
  obtain ⟨⟨-, -, ⟨d1, d2, d3, d4⟩, -⟩, -, o0, -, -, -, o4, o5, o6⟩ := hT
  refine ⟨fun x e o => ?_, fun j e => (k.2.1 j e).trans (h.2 j e)⟩
  have ne : ∀ a i, 72 ≤ a → ow a = i → 40 ≤ i → i ≤ 46 → x ≠ a := fun a i ha hi h1 h2 e => by
    rw [e, hi] at o
    omega
  exact (k.1 x e (ne q 40 d1 o0 (by decide) (by decide)) (ne a4 44 d2 o4 (by decide) (by decide)) (ne a5 45 d3 o5 (by decide) (by decide)) (ne a6 46 d4 o6 (by decide) (by decide))).trans (h.1 x e o)
theorem CK.step (hT : TXK ow L g fi0 q a0 a1 a2 a4 a5 a6 X n) (h : CK ow q a0 a1 a2 a4 a5 a6 fi0 fi p cs ts) (k : CS q a4 a5 a6 fi fi2 p2 ts2) : CK ow q a0 a1 a2 a4 a5 a6 fi0 fi2 p2 cs ts2 := by
  obtain ⟨h1, h2, h3, h4, h5, h6⟩ := h
  obtain ⟨k1, k2, k3, k4⟩ := k
  refine ⟨k1, by rw [k4.2.2 3 (by decide)]; exact h2, k2, k3, ?_, KFr.of hT h6 k4⟩
  obtain ⟨-, ⟨d0, d1, d2⟩, o, o0, o1, o2, o4, o5, o6⟩ := hT
  exact TKS.fr h5 (k4.1 a0 (by omega) (ne_ow o0 o (by decide)) (ne_ow o0 o4 (by decide)) (ne_ow o0 o5 (by decide)) (ne_ow o0 o6 (by decide))) (k4.1 a1 (by omega) (ne_ow o1 o (by decide)) (ne_ow o1 o4 (by decide)) (ne_ow o1 o5 (by decide)) (ne_ow o1 o6 (by decide))) (k4.1 a2 (by omega) (ne_ow o2 o (by decide)) (ne_ow o2 o4 (by decide)) (ne_ow o2 o5 (by decide)) (ne_ow o2 o6 (by decide)))
theorem CK.pf (hT : TXK ow L g fi0 q a0 a1 a2 a4 a5 a6 X n) (h : CK ow q a0 a1 a2 a4 a5 a6 fi0 fi p cs ts) (k : PF fi fi2 p2) : CK ow q a0 a1 a2 a4 a5 a6 fi0 fi2 p2 cs ts := h.step hT (h.toS.pf hT.1.2.2.1 k)
end ACK
theorem c_rE {L n : Nat} {g : am_G} {fl : am_L} {q a0 a1 a2 a4 a5 a6 : Nat} {fi0 : am_I} {X : Nat → Int} (hT : TXC L g fi0 q a0 a1 a2 a4 a5 a6 X n) {D : Nat} (hD : 23 ≤ D) : CM D 50 g fl q a4 a5 a6 n fi0 [some (.ref 17), some (.ref q), some (.int 0), none] (rE X n 4) := by
  obtain ⟨d, rfl⟩ : ∃ d, D = d + 23 := ⟨D - 23, by omega⟩
  exact c_seq50 (d := d + 21) (f := rB X n 4) hT (c_seq51 (d := d + 20) (f := rP X n 4) hT (c_part hT 4 (d + 20 + 1) 0 (by decide) (by omega) (ki_0.trans rfl)) (rP_gd X n 4)) (rB_gd X n 4)
theorem c_head {L n p : Nat} {d : Nat} {g : am_G} {fi : am_I} {fl : am_L} {P : Option Value → am_G → am_I → am_L → Prop} {X : Nat → Int} (hS : SF L g) (hp : (fi 17 2).toInt = (p : Int)) (hl : (fi 17 1).toInt = (n : Int)) (hx : ∀ j, j < n → (fi 18 j).toInt = X j) (hn : n ≤ 100) (hxb : ∀ j, j < n → 0 ≤ X j ∧ X j ≤ 127) (hp9 : p ≤ 100) (k1 : (rHd X n p).1 = true → ∀ z fi2, z.toInt = (rWd X n p : Int) → PF fi fi2 (rHd X n p).2 → P (some (.int z)) g fi2 fl) (k2 : (rHd X n p).1 = false → ∀ fi2, PF fi fi2 (rHd X n p).2 → P (some (.int (-1))) g fi2 fl) : WP (d + 8) 47 0 [some (.ref 17)] [] g fi fl P := by
  refine wi_aload_0 ct_47_0 ?_
  refine wi_cv0 (ls' := [some _]) ct_47_1 (Nat.le_of_ble_eq_true rfl) (by decide) (sT_17 hS) rfl (by decide) rfl rfl (Nat.le_of_ble_eq_true rfl) ?_
  refine c_peek (p := p) hS hp hl hx hn hxb (fun z1 hz1 => wk_i ?_)
  have hbz1 := pk_bd hxb (p := p)
  rcases Decidable.em ((z1).toInt = 99) with h2 | h2
  · refine wi_lsw (X := 99) (t := 70) ct_47_4 (hz1.trans (by omega)) (by decide) ?_
    refine wi_aload_0 ct_47_70 ?_
    refine wi_ldc ct_47_71 ?_
    refine wi_cv1 (ls' := [some _, some _, none]) ct_47_73 (Nat.le_of_ble_eq_true rfl) (by decide) (sT_17 hS) rfl (by decide) rfl rfl (Nat.le_of_ble_eq_true rfl) ?_
    have hr : rHd X n p = rCs X n [99, 111, 105, 110] p := (if_neg (by omega)).trans (if_neg (by omega))
    have hw : rWd X n p = 2 := (if_neg (by omega)).trans (if_neg (by omega))
    rw [hr] at k1 k2
    rw [hw] at k1
    refine c_word3 hS hp hl hx hn hxb (by omega) (fun hw3 fw3 hfw3 => wk_i ?_) (fun hw3 fw3 hfw3 => wk_i ?_)
    · skip
      refine wi_ifeq_f ct_47_76 ki_1 (by decide) ?_
      refine wi_ic ct_47_79 kc_2 ?_
      refine wi_goto ct_47_80 ?_
      refine wi_iret ct_47_84 rfl ?_
      exact k1 hw3 _ _ (ki_2.trans rfl) hfw3
    · skip
      refine wi_ifeq_t ct_47_76 ki_0 (by decide) ?_
      refine wi_ic ct_47_83 kc_m1 ?_
      refine wi_iret ct_47_84 rfl ?_
      exact k2 hw3 _ hfw3
  rcases Decidable.em ((z1).toInt = 100) with h4 | h4
  · refine wi_lsw (X := 100) (t := 55) ct_47_4 (hz1.trans (by omega)) (by decide) ?_
    refine wi_aload_0 ct_47_55 ?_
    refine wi_ldc ct_47_56 ?_
    refine wi_cv1 (ls' := [some _, some _, none]) ct_47_58 (Nat.le_of_ble_eq_true rfl) (by decide) (sT_17 hS) rfl (by decide) rfl rfl (Nat.le_of_ble_eq_true rfl) ?_
    have hr : rHd X n p = rCs X n [100, 114, 121] p := (if_neg (by omega)).trans (if_pos (by omega))
    have hw : rWd X n p = 1 := (if_neg (by omega)).trans (if_pos (by omega))
    rw [hr] at k1 k2
    rw [hw] at k1
    refine c_word2 hS hp hl hx hn hxb (by omega) (fun hw5 fw5 hfw5 => wk_i ?_) (fun hw5 fw5 hfw5 => wk_i ?_)
    · skip
      refine wi_ifeq_f ct_47_61 ki_1 (by decide) ?_
      refine wi_ic ct_47_64 kc_1 ?_
      refine wi_goto ct_47_65 ?_
      refine wi_iret ct_47_69 rfl ?_
      exact k1 hw5 _ _ (ki_1.trans rfl) hfw5
    · skip
      refine wi_ifeq_t ct_47_61 ki_0 (by decide) ?_
      refine wi_ic ct_47_68 kc_m1 ?_
      refine wi_iret ct_47_69 rfl ?_
      exact k2 hw5 _ hfw5
  rcases Decidable.em ((z1).toInt = 119) with h6 | h6
  · refine wi_lsw (X := 119) (t := 40) ct_47_4 (hz1.trans (by omega)) (by decide) ?_
    refine wi_aload_0 ct_47_40 ?_
    refine wi_ldc ct_47_41 ?_
    refine wi_cv1 (ls' := [some _, some _, none]) ct_47_43 (Nat.le_of_ble_eq_true rfl) (by decide) (sT_17 hS) rfl (by decide) rfl rfl (Nat.le_of_ble_eq_true rfl) ?_
    have hr : rHd X n p = rCs X n [119, 105, 110, 100] p := if_pos (by omega)
    have hw : rWd X n p = 0 := if_pos (by omega)
    rw [hr] at k1 k2
    rw [hw] at k1
    refine c_word1 hS hp hl hx hn hxb (by omega) (fun hw7 fw7 hfw7 => wk_i ?_) (fun hw7 fw7 hfw7 => wk_i ?_)
    · skip
      refine wi_ifeq_f ct_47_46 ki_1 (by decide) ?_
      refine wi_ic ct_47_49 kc_0 ?_
      refine wi_goto ct_47_50 ?_
      refine wi_iret ct_47_54 rfl ?_
      exact k1 hw7 _ _ (ki_0.trans rfl) hfw7
    · skip
      refine wi_ifeq_t ct_47_46 ki_0 (by decide) ?_
      refine wi_ic ct_47_53 kc_m1 ?_
      refine wi_iret ct_47_54 rfl ?_
      exact k2 hw7 _ hfw7
  refine wi_lsw (t := 85) ct_47_4 hz1 (by have e99 : ¬ (99 : Int) = pk X n p := (by omega); have e100 : ¬ (100 : Int) = pk X n p := (by omega); have e119 : ¬ (119 : Int) = pk X n p := (by omega); simp [Op.lookupswitch.offset, e99, e100, e119]) ?_
  refine wi_ic ct_47_85 kc_m1 ?_
  refine wi_iret ct_47_86 rfl ?_
  have hr : rHd X n p = (false, p) := (if_neg (by omega)).trans ((if_neg (by omega)).trans (if_neg (by omega)))
  rw [hr] at k2
  exact k2 rfl _ (PF.rfl hp)
theorem c_close {ow : Nat → Nat} {L n : Nat} {g : am_G} {fl : am_L} {q a0 a1 a2 a4 a5 a6 : Nat} {fi0 : am_I} {X : Nat → Int} {d p : Nat} {P : Option Value → am_G → am_I → am_L → Prop} {fi : am_I} {cs ts : List tk_T} {wd nm : Nat} {x y : Int32} (hT2 : TXK ow L g fi0 q a0 a1 a2 a4 a5 a6 X n) (hs : CK ow q a0 a1 a2 a4 a5 a6 fi0 fi p cs ts) (h10 : cs.length < 10) (h100 : ts.length ≤ 100) (hx : x.toInt = (wd : Int)) (hy : y.toInt = (nm : Int)) (kk : ∀ fi2, CK ow q a0 a1 a2 a4 a5 a6 fi0 fi2 p (cs ++ [(wd, nm, ts.length)]) ts → P none g fi2 fl) : WP d 33 0 [some (.ref q), some (.int x), some (.int y)] [] g fi fl P := by
  obtain ⟨hT, ⟨d70, d71, d72x⟩, oq, o0, o1, o2, o4, o5, o6⟩ := id hT2
  obtain ⟨hS, hsp, ⟨d72, d724, d725, d726⟩, ⟨nq4, nq5, nq6, n45, n46, n56⟩, hl0, hx0, hn, hxb⟩ := id hT
  obtain ⟨p0, ⟨r0, r1, r2, r4, r5, r6⟩, ⟨t0, t1, t2, t4, t5, t6⟩, ⟨l0, l1, l2, l4, l5, l6⟩⟩ := id hsp
  obtain ⟨h1, h2, h3, h4, h5, h6a, h6b⟩ := hs
  obtain ⟨M, hM⟩ : ∃ M, cs.length = M := ⟨_, rfl⟩
  rw [hM] at h2 h10
  refine wi_aload_0 ct_33_0 ?_
  refine wi_gf (x := fi q 3) ct_33_1 p0 rfl rfl rfl ?_
  refine wi_ic ct_33_4 kc_10 ?_
  refine wi_iclt_t ct_33_6 h2 ki_10 (by omega) ?_
  refine wi_aload_0 ct_33_10 ?_
  refine wi_gfr ct_33_11 p0 rfl r0 ?_
  refine wi_aload_0 ct_33_14 ?_
  refine wi_gf (x := fi q 3) ct_33_15 p0 rfl rfl rfl ?_
  refine wi_iload_1 ct_33_18 ?_
  refine wi_iast ct_33_19 t0 l0 (i_in h2 (by omega)) (i_cl (k := M) h2 (by omega)) ?_
  refine wi_aload_0 ct_33_20 ?_
  refine wi_gfr ct_33_21 p0 rfl r1 ?_
  refine wi_aload_0 ct_33_24 ?_
  refine wi_gf (x := fi q 3) ct_33_25 p0 rfl rfl (up2_nq (ne_ow oq o0 (by decide))) ?_
  refine wi_iload_2 ct_33_28 ?_
  refine wi_iast ct_33_29 t1 l1 (i_in h2 (by omega)) (i_cl (k := M) h2 (by omega)) ?_
  refine wi_aload_0 ct_33_30 ?_
  refine wi_gfr ct_33_31 p0 rfl r2 ?_
  refine wi_aload_0 ct_33_34 ?_
  refine wi_gf (x := fi q 3) ct_33_35 p0 rfl rfl (Eq.trans (up2_nq (ne_ow oq o1 (by decide))) (up2_nq (ne_ow oq o0 (by decide)))) ?_
  refine wi_aload_0 ct_33_38 ?_
  refine wi_gf (x := fi q 7) ct_33_39 p0 rfl rfl (Eq.trans (up2_nq (ne_ow oq o1 (by decide))) (up2_nq (ne_ow oq o0 (by decide)))) ?_
  refine wi_iast ct_33_42 t2 l2 (i_in h2 (by omega)) (i_cl (k := M) h2 (by omega)) ?_
  refine wi_aload_0 ct_33_43 ?_
  refine wi_dup ct_33_44 rfl ?_
  refine wi_gf (x := fi q 3) ct_33_45 p0 rfl rfl (Eq.trans (up2_nq (ne_ow oq o2 (by decide))) (Eq.trans (up2_nq (ne_ow oq o1 (by decide))) (up2_nq (ne_ow oq o0 (by decide))))) ?_
  refine wi_ic ct_33_48 kc_1 ?_
  refine wi_iadd ct_33_49 rfl ?_
  refine wi_pf ct_33_50 p0 rfl ?_
  refine wi_ret ct_33_53 ?_
  refine kk _ ⟨(congrArg Int32.toInt (Eq.trans (up2_nq (by omega)) (Eq.trans (up2_nq (by omega)) (Eq.trans (up2_nq (by omega)) (up2_nq (by omega)))))).trans h1, ?_, (congrArg Int32.toInt (Eq.trans (up2_nj (by decide)) (Eq.trans (up2_nq (ne_ow oq o2 (by decide))) (Eq.trans (up2_nq (ne_ow oq o1 (by decide))) (up2_nq (ne_ow oq o0 (by decide))))))).trans h3, TKS.fr h4 (Eq.trans (funext fun _ => up2_nq (ne_ow o4 oq (by decide))) (Eq.trans (funext fun _ => up2_nq (ne_ow o4 o2 (by decide))) (Eq.trans (funext fun _ => up2_nq (ne_ow o4 o1 (by decide))) (funext fun _ => up2_nq (ne_ow o4 o0 (by decide)))))) (Eq.trans (funext fun _ => up2_nq (ne_ow o5 oq (by decide))) (Eq.trans (funext fun _ => up2_nq (ne_ow o5 o2 (by decide))) (Eq.trans (funext fun _ => up2_nq (ne_ow o5 o1 (by decide))) (funext fun _ => up2_nq (ne_ow o5 o0 (by decide)))))) (Eq.trans (funext fun _ => up2_nq (ne_ow o6 oq (by decide))) (Eq.trans (funext fun _ => up2_nq (ne_ow o6 o2 (by decide))) (Eq.trans (funext fun _ => up2_nq (ne_ow o6 o1 (by decide))) (funext fun _ => up2_nq (ne_ow o6 o0 (by decide)))))), ?_, fun x e o => ?_, fun j hj => ?_⟩
  · refine (congrArg Int32.toInt up2_eq).trans ((i_add h2 ki_1 (by omega)).trans ?_)
    simp only [List.length_append, List.length_cons, List.length_nil, hM]
    omega
  · refine TKS.add h5 (fun j hj => (Eq.trans (up2_nq (ne_ow o0 oq (by decide))) (Eq.trans (up2_nq (ne_ow o0 o2 (by decide))) (Eq.trans (up2_nq (ne_ow o0 o1 (by decide))) (up2_nj (hM ▸ hj)))))) (fun j hj => (Eq.trans (up2_nq (ne_ow o1 oq (by decide))) (Eq.trans (up2_nq (ne_ow o1 o2 (by decide))) (Eq.trans (up2_nj (hM ▸ hj)) (up2_nq (ne_ow o1 o0 (by decide))))))) (fun j hj => (Eq.trans (up2_nq (ne_ow o2 oq (by decide))) (Eq.trans (up2_nj (hM ▸ hj)) (Eq.trans (up2_nq (ne_ow o2 o1 (by decide))) (up2_nq (ne_ow o2 o0 (by decide))))))) ?_ ?_ ?_
    · rw [hM]
      exact (congrArg Int32.toInt (Eq.trans (up2_nq (ne_ow o0 oq (by decide))) (Eq.trans (up2_nq (ne_ow o0 o2 (by decide))) (Eq.trans (up2_nq (ne_ow o0 o1 (by decide))) up2_eq)))).trans hx
    · rw [hM]
      exact (congrArg Int32.toInt (Eq.trans (up2_nq (ne_ow o1 oq (by decide))) (Eq.trans (up2_nq (ne_ow o1 o2 (by decide))) up2_eq))).trans hy
    · rw [hM]
      exact (congrArg Int32.toInt (Eq.trans (up2_nq (ne_ow o2 oq (by decide))) up2_eq)).trans h3
  · have ne : ∀ a i, 72 ≤ a → ow a = i → 40 ≤ i → i ≤ 46 → x ≠ a := fun a i ha hi h1 h2 e => by
      rw [e, hi] at o
      omega
    exact (Eq.trans (funext fun _ => up2_nq (ne q 40 d72 oq (by decide) (by decide))) (Eq.trans (funext fun _ => up2_nq (ne a2 43 d72x o2 (by decide) (by decide))) (Eq.trans (funext fun _ => up2_nq (ne a1 42 d71 o1 (by decide) (by decide))) (Eq.trans (funext fun _ => up2_nq (ne a0 41 d70 o0 (by decide) (by decide))) (h6a x e o)))))
  · exact (Eq.trans (up2_nq (by omega)) (Eq.trans (up2_nq (by omega)) (Eq.trans (up2_nq (by omega)) (Eq.trans (up2_nq (by omega)) (h6b j hj)))))
theorem c_clause {ow : Nat → Nat} {L n : Nat} {g : am_G} {fl : am_L} {q a0 a1 a2 a4 a5 a6 : Nat} {fi0 : am_I} {X : Nat → Int} {d p : Nat} {P : Option Value → am_G → am_I → am_L → Prop} {fi : am_I} {cs ts : List tk_T} (hT2 : TXK ow L g fi0 q a0 a1 a2 a4 a5 a6 X n) (hs : CK ow q a0 a1 a2 a4 a5 a6 fi0 fi p cs ts) (hpn : p ≤ n) (hlen : ts.length ≤ p) (h10 : cs.length < 10) (k1 : (rCl X n p).1 = true → ∀ fi2, CK ow q a0 a1 a2 a4 a5 a6 fi0 fi2 (rCl X n p).2.1 (cs ++ [(rWd X n p, (rCn X n p).1.toNat, (ts ++ (rCl X n p).2.2).length)]) (ts ++ (rCl X n p).2.2) → P (some (.int 1)) g fi2 fl) (k2 : (rCl X n p).1 = false → ∀ fi2, KFr ow fi0 fi2 → (fi2 17 2).toInt = ((rCl X n p).2.1 : Int) → P (some (.int 0)) g fi2 fl) : WP (d + 24) 46 0 [some (.ref 17), some (.ref q), none, none] [] g fi fl P := by
  obtain ⟨hT, ⟨d70, d71, d72x⟩, oq, o0, o1, o2, o4, o5, o6⟩ := id hT2
  obtain ⟨hS, hsp, ⟨d72, d724, d725, d726⟩, ⟨nq4, nq5, nq6, n45, n46, n56⟩, hl0, hx0, hn, hxb⟩ := id hT
  obtain ⟨p0, ⟨r0, r1, r2, r4, r5, r6⟩, ⟨t0, t1, t2, t4, t5, t6⟩, ⟨l0, l1, l2, l4, l5, l6⟩⟩ := id hsp
  have bw := rWd_le X n p
  have bh := rHd_bd X n p
  have bn := rCn_bd X n p
  have bc := rCl_gd X n p hpn
  refine wi_aload_0 ct_46_0 ?_
  refine wi_cv0 (ls' := [some _]) ct_46_1 (Nat.le_of_ble_eq_true rfl) (by decide) (sT_17 hS) rfl (by decide) rfl rfl (Nat.le_of_ble_eq_true rfl) ?_
  have hTt1 := CK.tx hT2 hs
  obtain ⟨-, -, -, -, hlt1, hxt1, -⟩ := id hTt1
  refine c_head hS hs.1 hlt1 hxt1 hn hxb (by omega) (fun eh zz2 fz2 hzz2 hfz2 => wk_i ?_) (fun eh fz2 hfz2 => wk_i ?_)
  · skip
    have hsz2 := CK.pf hT2 hs hfz2
    refine wi_istore_2 rfl ct_46_4 ?_
    refine wi_iload_2 ct_46_5 ?_
    refine wi_iflt_f ct_46_6 hzz2 (by omega) ?_
    refine wi_aload_0 ct_46_9 ?_
    refine wi_ic ct_46_10 kc_32 ?_
    refine wi_cv1 (ls' := [some _, some _]) ct_46_12 (Nat.le_of_ble_eq_true rfl) (by decide) (sT_17 hS) rfl (by decide) rfl rfl (Nat.le_of_ble_eq_true rfl) ?_
    have hTt3 := CK.tx hT2 hsz2
    obtain ⟨-, -, -, -, hlt3, hxt3, -⟩ := id hTt3
    refine c_pass hS hsz2.1 hlt3 hxt3 hn hxb (by omega) ki_32 (fun hz4 fz4 hfz4 => wk_i ?_) (fun hz4 => wk_i ?_)
    · skip
      have hsz4 := CK.pf hT2 hsz2 hfz4
      have hpnz4 := pk_n (by decide) hz4
      refine wi_ifne_t ct_46_15 ki_1 (by decide) ?_
      refine wi_aload_0 ct_46_20 ?_
      refine wi_cv0 (ls' := [some _, none, none, none]) ct_46_21 (Nat.le_of_ble_eq_true rfl) (by decide) (sT_17 hS) rfl (by decide) rfl rfl (Nat.le_of_ble_eq_true rfl) ?_
      have hTt5 := CK.tx hT2 hsz4
      obtain ⟨-, -, -, -, hlt5, hxt5, -⟩ := id hTt5
      refine c_num hS hsz4.1 hlt5 hxt5 hn hxb (by omega) (fun zz6 fz6 hzz6 hfz6 => wk_i ?_)
      have hsz6 : CK ow q a0 a1 a2 a4 a5 a6 fi0 fz6 (rCn X n p).2 cs ts := CK.pf hT2 hsz4 hfz6
      have hz9z6 : zz6.toInt = (rCn X n p).1 := hzz6
      refine wi_istore_3 rfl ct_46_24 ?_
      refine wi_iload_3 ct_46_25 ?_
      refine wi_iflt ct_46_26 hz9z6 (fun h7 => ?_) (fun h7 => ?_)
      · skip
        refine wi_ic ct_46_38 kc_0 ?_
        refine wi_iret ct_46_39 (by decide) ?_
        have hcl := rCl_3 eh hz4 (by omega)
        rw [hcl] at k2
        exact k2 rfl _ hsz6.2.2.2.2.2 (hsz6.1.trans (by have := bn.2.2.2 (by omega); dsimp only; omega))
      · skip
        refine wi_aload_0 ct_46_29 ?_
        refine wi_ic ct_46_30 kc_32 ?_
        refine wi_cv1 (ls' := [some _, some _]) ct_46_32 (Nat.le_of_ble_eq_true rfl) (by decide) (sT_17 hS) rfl (by decide) rfl rfl (Nat.le_of_ble_eq_true rfl) ?_
        have hTt8 := CK.tx hT2 hsz6
        obtain ⟨-, -, -, -, hlt8, hxt8, -⟩ := id hTt8
        refine c_pass hS hsz6.1 hlt8 hxt8 hn hxb (by omega) ki_32 (fun hz9 fz9 hfz9 => wk_i ?_) (fun hz9 => wk_i ?_)
        · skip
          have hsz9 := CK.pf hT2 hsz6 hfz9
          have hpnz9 := pk_n (by decide) hz9
          refine wi_ifne_t ct_46_35 ki_1 (by decide) ?_
          refine wi_aload_0 ct_46_40 ?_
          refine wi_aload_1 ct_46_41 ?_
          refine wi_ic ct_46_42 kc_0 ?_
          refine wi_cv2 (ls' := [some _, some _, some _, none]) ct_46_43 (Nat.le_of_ble_eq_true rfl) (by decide) (sT_17 hS) rfl (by decide) rfl rfl (Nat.le_of_ble_eq_true rfl) ?_
          have hTt10 := CK.tx hT2 hsz9
          obtain ⟨-, -, -, -, hlt10, hxt10, -⟩ := id hTt10
          have hcl := rCl_5 eh hz4 (by omega) hz9
          rw [hcl] at k1 k2 bc
          refine c_rE hTt10 (by omega) _ _ (((rCn X n p).2 + 1)) _ (CK.toS hsz9) (by omega) (by omega) ⟨fun er11 fr11 hsr11 => wk_i ?_, fun er11 fr11 hcr11 hpr11 => wk_i ?_⟩
          · skip
            have htr11 := CK.step hT2 hsz9 hsr11
            refine wi_ifne_t ct_46_46 ki_1 (by decide) ?_
            refine wi_aload_1 ct_46_51 ?_
            refine wi_iload_2 ct_46_52 ?_
            refine wi_iload_3 ct_46_53 ?_
            refine wi_cv2 (ls' := [some _, some _, some _]) ct_46_54 (Nat.le_of_ble_eq_true rfl) (by decide) p0 rfl (by decide) rfl rfl (Nat.le_of_ble_eq_true rfl) ?_
            have hlc := (bc.2.2 er11).2.1
            have hlb := bc.2.1
            refine c_close hT2 htr11 h10 (by rw [List.length_append]; omega) (nm := (rCn X n p).1.toNat) hzz2 (hz9z6.trans (by omega)) (fun fc12 hsc12 => wk_v ?_)
            refine wi_ic ct_46_57 kc_1 ?_
            refine wi_iret ct_46_58 (by decide) ?_
            exact k1 er11 _ hsc12
          · skip
            refine wi_ifne_f ct_46_46 ki_0 (by decide) ?_
            refine wi_ic ct_46_49 kc_0 ?_
            refine wi_iret ct_46_50 (by decide) ?_
            exact k2 er11 _ (KFr.of hT2 hsz9.2.2.2.2.2 hcr11) hpr11
        · skip
          refine wi_ifne_f ct_46_35 ki_0 (by decide) ?_
          refine wi_ic ct_46_38 kc_0 ?_
          refine wi_iret ct_46_39 (by decide) ?_
          have hcl := rCl_4 eh hz4 (by omega) hz9
          rw [hcl] at k2
          exact k2 rfl _ hsz6.2.2.2.2.2 hsz6.1
    · skip
      refine wi_ifne_f ct_46_15 ki_0 (by decide) ?_
      refine wi_ic ct_46_18 kc_0 ?_
      refine wi_iret ct_46_19 (by decide) ?_
      have hcl := rCl_2 eh hz4
      rw [hcl] at k2
      exact k2 rfl _ hsz2.2.2.2.2.2 hsz2.1
  · skip
    have hsz2 := CK.pf hT2 hs hfz2
    refine wi_istore_2 rfl ct_46_4 ?_
    refine wi_iload_2 ct_46_5 ?_
    refine wi_iflt_t ct_46_6 ki_m1 (by decide) ?_
    refine wi_ic ct_46_18 kc_0 ?_
    refine wi_iret ct_46_19 (by decide) ?_
    have hcl := rCl_1 eh
    rw [hcl] at k2
    exact k2 rfl _ hsz2.2.2.2.2.2 hsz2.1
theorem vl_into {ow : Nat → Nat} {L n : Nat} {g : am_G} {fl : am_L} {q a0 a1 a2 a4 a5 a6 : Nat} {fi0 : am_I} {X : Nat → Int} {d : Nat} (hT2 : TXK ow L g fi0 q a0 a1 a2 a4 a5 a6 X n) : ∀ (k : Nat) (P : Option Value → am_G → am_I → am_L → Prop) (fi : am_I) (p : Nat) (cs ts : List tk_T) (zi : Int32) (hk : cs.length + k = 10) (hzi : zi.toInt = (cs.length : Int) + 1) (hs : CK ow q a0 a1 a2 a4 a5 a6 fi0 fi p cs ts) (hpn : p ≤ n) (hlen : ts.length ≤ p) (k1 : (rTx X n k p cs ts).1 = true → ∀ fi2, CK ow q a0 a1 a2 a4 a5 a6 fi0 fi2 (rTx X n k p cs ts).2.1 (rTx X n k p cs ts).2.2.1 (rTx X n k p cs ts).2.2.2 → P (some (.int 1)) g fi2 fl) (k2 : (rTx X n k p cs ts).1 = false → ∀ fi2, KFr ow fi0 fi2 → (fi2 17 2).toInt = ((rTx X n k p cs ts).2.1 : Int) → P (some (.int 0)) g fi2 fl), WP (d + 25) 45 11 [some (.ref 17), some (.ref q), some (.int zi)] [] g fi fl P := by
  obtain ⟨hT, ⟨d70, d71, d72x⟩, oq, o0, o1, o2, o4, o5, o6⟩ := id hT2
  obtain ⟨hS, hsp, ⟨d72, d724, d725, d726⟩, ⟨nq4, nq5, nq6, n45, n46, n56⟩, hl0, hx0, hn, hxb⟩ := id hT
  obtain ⟨p0, ⟨r0, r1, r2, r4, r5, r6⟩, ⟨t0, t1, t2, t4, t5, t6⟩, ⟨l0, l1, l2, l4, l5, l6⟩⟩ := id hsp
  intro k
  induction k with
  | zero =>
    intro P fi p cs ts zi hk hzi hs hpn hlen k1 k2
    refine wi_iload_2 ct_45_11 ?_
    refine wi_ic ct_45_12 kc_10 ?_
    refine wi_icgt_t ct_45_14 hzi ki_10 (by omega) ?_
    refine wi_ic ct_45_63 kc_0 ?_
    refine wi_iret ct_45_64 (by decide) ?_
    exact k2 rfl _ hs.2.2.2.2.2 hs.1
  | succ k ih =>
    intro P fi p cs ts zi hk hzi hs hpn hlen k1 k2
    have bc := rCl_gd X n p hpn
    refine wi_iload_2 ct_45_11 ?_
    refine wi_ic ct_45_12 kc_10 ?_
    refine wi_icgt_f ct_45_14 hzi ki_10 (by omega) ?_
    refine wi_aload_0 ct_45_17 ?_
    refine wi_aload_1 ct_45_18 ?_
    refine wi_cv1 (ls' := [some _, some _, none, none]) ct_45_19 (Nat.le_of_ble_eq_true rfl) (by decide) (sT_17 hS) rfl (by decide) rfl rfl (Nat.le_of_ble_eq_true rfl) ?_
    refine c_clause hT2 hs hpn hlen (by omega) (fun er1 fr1 hsr1 => wk_i ?_) (fun er1 fr1 hcr1 hpr1 => wk_i ?_)
    · skip
      obtain ⟨b1, b2, b3⟩ := bc.2.2 er1
      have b4 := bc.2.1
      have hTz := CK.tx hT2 hsr1
      obtain ⟨-, -, -, -, hlz, hxz, -⟩ := id hTz
      refine wi_ifne_t ct_45_22 ki_1 (by decide) ?_
      refine wi_aload_0 ct_45_27 ?_
      refine wi_gf (x := fr1 17 2) ct_45_28 (sT_17 hS) rfl rfl rfl ?_
      refine wi_aload_0 ct_45_31 ?_
      refine wi_gf (x := fr1 17 1) ct_45_32 (sT_17 hS) rfl rfl rfl ?_
      refine wi_iclt ct_45_35 hsr1.1 hlz (fun h2 => ?_) (fun h2 => ?_)
      · skip
        refine wi_iload_2 ct_45_40 ?_
        refine wi_ic ct_45_41 kc_10 ?_
        refine wi_iceq ct_45_43 hzi ki_10 (fun h3 => ?_) (fun h3 => ?_)
        · skip
          refine wi_ic ct_45_55 kc_0 ?_
          refine wi_iret ct_45_56 (by decide) ?_
          have hr : rTx X n (k + 1) p cs ts = (false, (rCl X n p).2.1, [], []) := (if_pos er1).trans ((if_neg (by omega)).trans (if_pos (by omega)))
          rw [hr] at k2
          exact k2 rfl _ hsr1.2.2.2.2.2 hsr1.1
        · skip
          refine wi_aload_0 ct_45_46 ?_
          refine wi_ic ct_45_47 kc_59 ?_
          refine wi_cv1 (ls' := [some _, some _]) ct_45_49 (Nat.le_of_ble_eq_true rfl) (by decide) (sT_17 hS) rfl (by decide) rfl rfl (Nat.le_of_ble_eq_true rfl) ?_
          refine c_pass hS hsr1.1 hlz hxz hn hxb (by omega) ki_59 (fun hz4 fz4 hfz4 => wk_i ?_) (fun hz4 => wk_i ?_)
          · skip
            have hsz4 := CK.pf hT2 hsr1 hfz4
            have hpnz4 := pk_n (by decide) hz4
            refine wi_ifne_t ct_45_52 ki_1 (by decide) ?_
            refine wi_iinc_2 rfl (z := (zi + 1)) ct_45_57 (by rw [kc_1]) ?_
            refine wi_goto ct_45_60 ?_
            have hr : rTx X n (k + 1) p cs ts = rTx X n k ((rCl X n p).2.1 + 1) (cs ++ [(rWd X n p, (rCn X n p).1.toNat, (ts ++ (rCl X n p).2.2).length)]) (ts ++ (rCl X n p).2.2) := (if_pos er1).trans ((if_neg (by omega)).trans ((if_neg (by omega)).trans (if_pos hz4)))
            rw [hr] at k1 k2
            refine ih P _ _ _ _ _ ?_ ?_ hsz4 (by omega) (by rw [List.length_append]; omega) k1 k2
            · rw [List.length_append]
              exact (show cs.length + 1 + k = 10 by omega)
            · rw [List.length_append]
              exact (i_add hzi ki_1 (by omega)).trans (show (cs.length : Int) + 1 + 1 = ((cs.length + 1 : Nat) : Int) + 1 by omega)
          · skip
            refine wi_ifne_f ct_45_52 ki_0 (by decide) ?_
            refine wi_ic ct_45_55 kc_0 ?_
            refine wi_iret ct_45_56 (by decide) ?_
            have hr : rTx X n (k + 1) p cs ts = (false, (rCl X n p).2.1, [], []) := (if_pos er1).trans ((if_neg (by omega)).trans ((if_neg (by omega)).trans (if_neg hz4)))
            rw [hr] at k2
            exact k2 rfl _ hsr1.2.2.2.2.2 hsr1.1
      · skip
        refine wi_ic ct_45_38 kc_1 ?_
        refine wi_iret ct_45_39 (by decide) ?_
        have hr : rTx X n (k + 1) p cs ts = (true, (rCl X n p).2.1, cs ++ [(rWd X n p, (rCn X n p).1.toNat, (ts ++ (rCl X n p).2.2).length)], ts ++ (rCl X n p).2.2) := (if_pos er1).trans (if_pos (by omega))
        rw [hr] at k1
        exact k1 rfl _ hsr1
    · skip
      refine wi_ifne_f ct_45_22 ki_0 (by decide) ?_
      refine wi_ic ct_45_25 kc_0 ?_
      refine wi_iret ct_45_26 (by decide) ?_
      have hr : rTx X n (k + 1) p cs ts = (false, (rCl X n p).2.1, [], []) := if_neg (by rw [er1]; decide)
      rw [hr] at k2
      exact k2 rfl _ hcr1 hpr1
theorem c_into {ow : Nat → Nat} {L n : Nat} {g : am_G} {fl : am_L} {q a0 a1 a2 a4 a5 a6 : Nat} {fi0 : am_I} {X : Nat → Int} {d : Nat} {P : Option Value → am_G → am_I → am_L → Prop} (hT2 : TXK ow L g fi0 q a0 a1 a2 a4 a5 a6 X n) (k1 : (rTx X n 10 0 [] []).1 = true → ∀ fi2, CK ow q a0 a1 a2 a4 a5 a6 fi0 fi2 (rTx X n 10 0 [] []).2.1 (rTx X n 10 0 [] []).2.2.1 (rTx X n 10 0 [] []).2.2.2 → P (some (.int 1)) g fi2 fl) (k2 : (rTx X n 10 0 [] []).1 = false → ∀ fi2, KFr ow fi0 fi2 → (fi2 17 2).toInt = ((rTx X n 10 0 [] []).2.1 : Int) → P (some (.int 0)) g fi2 fl) : WP (d + 25) 45 0 [some (.ref 17), some (.ref q), none] [] g fi0 fl P := by
  obtain ⟨hT, ⟨d70, d71, d72x⟩, oq, o0, o1, o2, o4, o5, o6⟩ := id hT2
  obtain ⟨hS, hsp, ⟨d72, d724, d725, d726⟩, ⟨nq4, nq5, nq6, n45, n46, n56⟩, hl0, hx0, hn, hxb⟩ := id hT
  obtain ⟨p0, ⟨r0, r1, r2, r4, r5, r6⟩, ⟨t0, t1, t2, t4, t5, t6⟩, ⟨l0, l1, l2, l4, l5, l6⟩⟩ := id hsp
  refine wi_aload_0 ct_45_0 ?_
  refine wi_ic ct_45_1 kc_0 ?_
  refine wi_pf ct_45_2 (sT_17 hS) rfl ?_
  refine wi_aload_1 ct_45_5 ?_
  refine wi_cv0 (ls' := [some _]) ct_45_6 (Nat.le_of_ble_eq_true rfl) (by decide) p0 rfl (by decide) rfl rfl (Nat.le_of_ble_eq_true rfl) ?_
  refine wi_aload_0 ct_31_0 ?_
  refine wi_ic ct_31_1 kc_0 ?_
  refine wi_pf ct_31_2 p0 rfl ?_
  refine wi_aload_0 ct_31_5 ?_
  refine wi_ic ct_31_6 kc_0 ?_
  refine wi_pf ct_31_7 p0 rfl ?_
  refine wi_ret ct_31_10 (wk_v ?_)
  refine wi_ic ct_45_9 kc_1 ?_
  refine wi_istore_2 rfl ct_45_10 ?_
  have ne : ∀ x, x < 72 ∨ ow x < 40 ∨ 46 < ow x → x ≠ q := fun x o e => by
    rw [e, oq] at o
    omega
  exact vl_into hT2 10 P _ 0 [] [] _ rfl (ki_1.trans rfl) ⟨(congrArg Int32.toInt (Eq.trans (up2_nq (by omega)) (Eq.trans (up2_nq (by omega)) up2_eq))).trans (ki_0.trans rfl), (congrArg Int32.toInt (Eq.trans (up2_nj (by decide)) up2_eq)).trans (ki_0.trans rfl), (congrArg Int32.toInt up2_eq).trans (ki_0.trans rfl), fun k h => absurd h (Nat.not_lt_zero k), fun k h => absurd h (Nat.not_lt_zero k), fun x e o => (Eq.trans (funext fun _ => up2_nq (ne x o)) (Eq.trans (funext fun _ => up2_nq (ne x o)) (funext fun _ => up2_nq e))), fun j hj => (Eq.trans (up2_nq (by omega)) (Eq.trans (up2_nq (by omega)) (up2_nj hj)))⟩ (Nat.zero_le _) (Nat.le_refl _) k1 k2
