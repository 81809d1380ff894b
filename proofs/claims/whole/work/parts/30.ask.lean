/-! What a question may change: the course, its letters, the day's rows; the reference's go. -/
def cG (g g2 : am_G) : Prop := g2.1 = g.1 ∧ g2.2.1 = g.2.1 ∧ g2.2.2.2 = g.2.2.2 ∧ ∀ q j, (q ≠ 15 ∨ j ≠ 0) → g2.2.2.1 q j = g.2.2.1 q j
def SCR (g g2 : am_G) (fi fi2 : am_I) : Prop := cG g g2 ∧ (∀ q, ¬ (q = 0 ∨ q = 15 ∨ q = 16 ∨ q = 20 ∨ q = 31 ∨ q = 48 ∨ q = 49) → fi2 q = fi q) ∧ (∀ j, ¬ (j = 8 ∨ j = 9) → fi2 0 j = fi 0 j) ∧ ∀ j, ¬ (27 ≤ j ∧ j ≤ 34 ∨ j = 38 ∨ j = 39) → fi2 31 j = fi 31 j
section ASC
variable {L : Nat} {xs : Nat → Int32} {own : Nat → Nat} {g g2 g3 : am_G} {fi fi2 fi3 : am_I} {fl : am_L}
theorem cG.rfl : cG g g := ⟨Eq.refl _, Eq.refl _, Eq.refl _, fun _ _ _ => Eq.refl _⟩
theorem cG.trans (h : cG g g2) (k : cG g2 g3) : cG g g3 := ⟨k.1.trans h.1, k.2.1.trans h.2.1, k.2.2.1.trans h.2.2.1, fun q j e => (k.2.2.2 q j e).trans (h.2.2.2 q j e)⟩
theorem SCR.rfl : SCR g g fi fi := ⟨cG.rfl, fun _ _ => Eq.refl _, fun _ _ => Eq.refl _, fun _ _ => Eq.refl _⟩
theorem SCR.trans (h : SCR g g2 fi fi2) (k : SCR g2 g3 fi2 fi3) : SCR g g3 fi fi3 := ⟨h.1.trans k.1, fun q e => (k.2.1 q e).trans (h.2.1 q e), fun j e => (k.2.2.1 j e).trans (h.2.2.1 j e), fun j e => (k.2.2.2 j e).trans (h.2.2.2 j e)⟩
theorem SCR.cF (h : cF fi fi2) : SCR g g fi fi2 := ⟨cG.rfl, fun q e => h.1 q (by omega) (by omega), fun j _ => congrFun (h.1 0 (by decide) (by decide)) j, fun j _ => congrFun (h.1 31 (by decide) (by decide)) j⟩
theorem SCR.gF (h : gF fi fi2) : SCR g g fi fi2 := ⟨cG.rfl, fun q e => h.1 q (by omega) (by omega), fun j _ => congrFun (h.1 0 (by decide) (by decide)) j, fun j e => h.2 j (by omega)⟩
theorem cG.SF (h : cG g g2) (hS : SF L g) : SF L g2 := by
  obtain ⟨h1, h2, h3, h4⟩ := h
  obtain ⟨k1, k2, k3, k4, k5⟩ := hS
  have hn : ∀ e ∈ am_tR, e.1 ≠ 15 ∨ e.2.1 ≠ 0 := by decide
  refine ⟨fun q hq => by rw [h1]; exact k1 q hq, fun q hq => by rw [h2]; exact k2 q hq, fun e he => (h4 _ _ (hn e he)).trans (k3 e he), by rw [h2]; exact k4, ?_⟩
  unfold am_nx
  rw [h3]
  exact k5
theorem SCR.dy (h : SCR g g2 fi fi2) : ∀ q, 72 ≤ q → fi2 q = fi q := fun q e => h.2.1 q (by omega)
theorem SCR.nx (h : SCR g g2 fi fi2) : am_nx g2 = am_nx g := by
  unfold am_nx
  rw [h.1.2.2.1]
theorem SCR.sl (h : SCR g g2 fi fi2) : am_sl g2 = am_sl g := by
  unfold am_sl
  rw [h.1.2.2.1]
theorem SCR.fr (h : SCR g g2 fi fi2) : rl_fr (fun _ => True) own own g g2 fi fi2 := by
  refine ⟨Nat.le_of_eq h.nx.symm, fun q h1 _ _ => ⟨by rw [h.1.1], by rw [h.1.2.1], ?_, Eq.refl _, h.dy q h1⟩⟩
  funext j
  exact h.1.2.2.2 q j (by omega)
theorem SCR.r (h : SCR g g2 fi fi2) {q : Nat} (e : q ≠ 15) : g2.2.2.1 q = g.2.2.1 q := funext fun j => h.1.2.2.2 q j (Or.inl e)
theorem Rel.scr (hR : Rel L xs own g fi fl) (h : SCR g g2 fi fi2) : Rel L xs own g2 fi2 fl := by
  obtain ⟨hS, hsc, hC, hK, hX, hV, hT, hP, hB, hN, hQ, hZ, hI⟩ := hR
  have h5 := hC.1.2.2
  have w : ∀ q, q ≠ 0 → q ≠ 15 → q ≠ 16 → q ≠ 20 → q ≠ 31 → q ≠ 48 → q ≠ 49 → fi2 q = fi q := fun q a b c d e f i => h.2.1 q (by omega)
  have m := h.2.2.2
  refine ⟨h.1.SF hS, fun j => (congrFun (h.2.1 am_SC (by unfold am_SC; decide)) j).trans (hsc j), ?_, ?_, ?_, ?_, ?_, ?_, ?_, ?_, ?_, ?_, ?_⟩
  · unfold RC
    rw [h.2.1 1 (by decide), h.2.1 17 (by decide), h.2.1 21 (by decide), h.2.2.1 5 (by decide), m 0 (by decide), m 1 (by decide), m 10 (by decide), m 9 (by decide), m 11 (by decide), m 40 (by decide), m 44 (by decide), m 65 (by decide), m 35 (by decide), m 36 (by decide)]
    exact hC
  · unfold RK
    rw [h.2.1 3 (by decide), h.2.1 38 (by decide)]
    exact hK
  · unfold RX RL
    rw [h.2.1 18 (by decide), h.2.1 39 (by decide), h.2.1 47 (by decide), m 11 (by decide)]
    exact hX
  · unfold RV
    rw [h.2.1 4 (by decide), h.2.1 5 (by decide), h.2.1 6 (by decide), h.2.1 7 (by decide), h.2.1 8 (by decide), h.2.1 50 (by decide), h.2.1 51 (by decide), h.2.1 52 (by decide), h.2.1 53 (by decide), h.2.1 54 (by decide), m 0 (by decide), m 40 (by decide), m 44 (by decide)]
    exact hV
  · unfold RT
    rw [h.2.1 21 (by decide), h.2.1 67 (by decide), m 65 (by decide)]
    exact hT
  · unfold RP
    rw [h.2.1 22 (by decide), h.2.1 23 (by decide), h.2.1 68 (by decide), h.2.1 69 (by decide)]
    exact hP
  · exact hB.fr h5 h.fr (fun _ _ => trivial) (m 0 (by decide)) (h.r (by decide)) (h.2.1 32 (by decide)) (h.2.1 33 (by decide)) (h.2.1 34 (by decide)) (h.2.1 35 (by decide)) (h.2.1 36 (by decide)) (h.2.1 37 (by decide))
  · exact hN.fr (fun i _ => congrFun (h.r (by decide)) i) (Nat.le_of_eq h.nx.symm) (fun p _ => by rw [h.1.1])
  · exact hQ.fr h.fr trivial (m 9 (by decide)) (h.r (by decide)) (h.2.1 40 (by decide)) (h.2.1 41 (by decide)) (h.2.1 42 (by decide)) (h.2.1 43 (by decide)) (h.2.1 44 (by decide)) (h.2.1 45 (by decide))
  · exact hZ.fr (fi := fi) (fi2 := fi2) h.fr (fun _ _ _ => trivial) (h.1.2.2.2 0 6 (by decide))
  · exact hI.fr h5 h.fr (fun _ _ _ => trivial) (fun p _ => by rw [h.1.1]) (h.1.2.2.2 0 1 (by decide)) (fun b _ => congrFun (h.r (by decide)) b) (Int.le_of_eq (by rw [m 0 (by decide)])) (Int.le_of_eq (by rw [m 9 (by decide)])) (m 47 (by decide)) (m 48 (by decide)) (m 49 (by decide)) (m 50 (by decide)) (m 51 (by decide)) (m 52 (by decide)) (fun b _ => congrFun (h.2.1 32 (by decide)) b) (fun b _ => congrFun (h.2.1 33 (by decide)) b) (h.2.1 55 (by decide)) (h.2.1 56 (by decide)) (h.2.1 57 (by decide)) (h.2.1 58 (by decide)) (h.2.1 59 (by decide)) (h.2.1 60 (by decide)) (h.2.1 61 (by decide)) (h.2.1 62 (by decide)) (h.2.1 63 (by decide)) (h.2.1 64 (by decide)) (h.2.1 65 (by decide)) (h.2.1 66 (by decide))
/-- one of the blowers, its numbers by name -/
def BLW (own : Nat → Nat) (g : am_G) (fi : am_I) (B p r : Nat) (kd v cd aim co : Int) (row : Nat → Int) : Prop := B < 5 ∧ RO own g fi B p r ∧ (fi 32 B).toInt = kd ∧ (fi 33 B).toInt = v ∧ (fi 34 B).toInt = cd ∧ (fi 35 B).toInt = aim ∧ (fi 36 B).toInt = co ∧ (∀ j, j < 4 → (fi 37 (4 * B + j)).toInt = row j) ∧ (0 ≤ kd ∧ kd ≤ 6) ∧ (0 ≤ v ∧ v ≤ 9) ∧ (1 ≤ cd ∧ cd ≤ 9) ∧ (1 ≤ aim ∧ aim ≤ 60) ∧ (0 ≤ co ∧ co ≤ 999999) ∧ ∀ j, j < 4 → 0 ≤ row j ∧ row j ≤ 9
theorem BLW.of {B : Nat} (hB : RB own g fi) (h5 : (fi 31 0).toInt ≤ 5) (hb : (B : Int) < (fi 31 0).toInt) : ∃ p r kd v cd aim co row, BLW own g fi B p r kd v cd aim co row := by
  obtain ⟨⟨m0, m1, m2, m3, m4, m5⟩, p, r, hO⟩ := hB B hb
  exact ⟨p, r, _, _, _, _, _, fun j => (fi 37 (4 * B + j)).toInt, by omega, hO, rfl, rfl, rfl, rfl, rfl, fun j _ => rfl, m0, m1, m2, m3, m4, m5⟩
/-- the square that holds, of both -/
def SQx (g : am_G) (fi : am_I) (sq : Option sq_T) : Prop := match sq with
  | none => (fi 31 10).toInt = -1
  | some Q => ∃ s0 : Nat, s0 < 6 ∧ (fi 31 10).toInt = (s0 : Int) ∧ ∃ q a0 a1 a2 a4 a5 a6, g.2.2.1 19 s0 = some q ∧ (72 ≤ q ∧ 72 ≤ a0 ∧ 72 ≤ a1 ∧ 72 ≤ a2 ∧ 72 ≤ a4 ∧ 72 ≤ a5 ∧ 72 ≤ a6) ∧ SQp g q a0 a1 a2 a4 a5 a6 ∧ SQc fi q a0 a1 a2 a4 a5 a6 Q ∧ SQv Q
theorem sq_of (hR : Rel L xs own g fi fl) : ∃ sq, SQs fi sq ∧ SQx g fi sq := by
  obtain ⟨hS, hsc, hC, hK, hX, hV, hT, hP, hB, hN, hQ, hZ, hI⟩ := hR
  obtain ⟨-, -, ⟨-, h1, h2⟩, ⟨-, -, h3⟩, -⟩ := hC
  rcases Decidable.em ((fi 31 10).toInt = -1) with e | e
  · exact ⟨none, e, e⟩
  · obtain ⟨s, hs⟩ : ∃ s : Nat, (fi 31 10).toInt = (s : Int) := ⟨((fi 31 10).toInt).toNat, by omega⟩
    obtain ⟨q, a0, a1, a2, a4, a5, a6, Q, k1, ⟨d, d0, d1, d2, d4, d5, d6⟩, k3, k4, k5, k6⟩ := hQ s (by omega)
    exact ⟨some Q, ⟨s, by omega, hs, k5, k6⟩, s, by omega, hs, q, a0, a1, a2, a4, a5, a6, k1, ⟨d.1, d0.1, d1.1, d2.1, d4.1, d5.1, d6.1⟩, k3, k4, k6⟩
theorem SQs.scr {sq : Option sq_T} (h : SQs fi sq) (k : SCR g g2 fi fi2) : SQs fi2 sq := h.fr (k.2.2.2 10 (by decide)) (k.2.1 40 (by decide)) (k.2.1 41 (by decide)) (k.2.1 42 (by decide)) (k.2.1 43 (by decide)) (k.2.1 44 (by decide)) (k.2.1 45 (by decide))
theorem SQp.scr {q a0 a1 a2 a4 a5 a6 : Nat} (h : SQp g q a0 a1 a2 a4 a5 a6) (k : cG g g2) (hq : q ≠ 15) : SQp g2 q a0 a1 a2 a4 a5 a6 := by
  refine h.fr (funext fun j => k.2.2.2 q j (Or.inl hq)) (by rw [k.1]) ?_ ?_ ?_ ?_ ?_ ?_ <;> exact ⟨by rw [k.1], by rw [k.2.1]⟩
theorem BLW.scr {B p r : Nat} {kd v cd aim co : Int} {row : Nat → Int} (h : BLW own g fi B p r kd v cd aim co row) (k : SCR g g2 fi fi2) : BLW own g2 fi2 B p r kd v cd aim co row := by
  obtain ⟨h0, h1, h2, h3, h4, h5, h6, h7, h8⟩ := h
  have w := fun q (e : ¬ (q = 0 ∨ q = 15 ∨ q = 16 ∨ q = 20 ∨ q = 31 ∨ q = 48 ∨ q = 49)) => k.2.1 q e
  refine ⟨h0, h1.fr h0 k.fr (fun _ _ => trivial) (k.1.2.2.2 2 B (Or.inl (by decide))) (congrFun (w 32 (by decide)) _) (congrFun (w 33 (by decide)) _) (congrFun (w 34 (by decide)) _) (congrFun (w 35 (by decide)) _) (congrFun (w 36 (by decide)) _) (fun j _ => congrFun (w 37 (by decide)) _), ?_, ?_, ?_, ?_, ?_, ?_, h8⟩
  · rw [w 32 (by decide)]; exact h2
  · rw [w 33 (by decide)]; exact h3
  · rw [w 34 (by decide)]; exact h4
  · rw [w 35 (by decide)]; exact h5
  · rw [w 36 (by decide)]; exact h6
  · rw [w 37 (by decide)]; exact h7
end ASC
theorem c_begin {L : Nat} {xs : Nat → Int32} {own : Nat → Nat} {d : Nat} {g g2 : am_G} {fi fi2 : am_I} {fl : am_L} {P : Option Value → am_G → am_I → am_L → Prop} {sq : Option sq_T} {B p r : Nat} {kd v cd aim co : Int} {row : Nat → Int} (hR : Rel L xs own g fi fl) (hs : SCR g g2 fi fi2) (hW : BLW own g fi B p r kd v cd aim co row) (hsq : SQs fi sq) (hsx : SQx g fi sq) (kk : ∀ g3 fi3, SCR g g3 fi fi3 → (∀ q j, q ≠ 15 → fi3 q j = fi2 q j) → SQk g3 fi3 sq → (fi3 15 1).toInt = cd → (fi3 15 2).toInt = aim → (fi3 15 3).toInt = goodV (fi 38 0).toInt (fi 38 1).toInt (fi 38 2).toInt → fi3 15 4 = fi 31 1 → fi3 15 5 = 0 → fi3 15 6 = 0 → P none g3 fi3 fl) : WP (d + 4) 107 0 [some (.ref 0), some (.ref p)] [] g2 fi2 fl P := by
  have hR2 := hR.scr hs
  obtain ⟨hB5, hO, w32, w33, w34, w35, w36, w37, -⟩ := hW.scr hs
  obtain ⟨hS, hsc, hC, hK, -⟩ := hR2
  obtain ⟨⟨c0, c0a, c0b⟩, ⟨c1, c1a, c1b⟩, ⟨c2, c2a, c2b⟩, ⟨c3, c3a, c3b⟩, -⟩ := id hC
  obtain ⟨o0, ⟨o72, onx, oow⟩, ot, ok, on, ov, oc, oa, om, orw⟩ := hO
  have k38 := hs.2.1 38 (by decide)
  have e10 := hs.2.2.2 10 (by decide)
  cases sq with
  | none =>
    have hthe : (fi2 31 10).toInt = -1 := by rw [e10]; exact hsx
    refine wi_aload_0 ct_107_0 ?_
    refine wi_gfr ct_107_1 (sT_0 hS) rfl (sR_0_2 hS) ?_
    refine wi_aload_0 ct_107_4 ?_
    refine wi_gfr ct_107_5 (sT_0 hS) rfl (sR_0_0 hS) ?_
    refine wi_gf (x := fi2 31 10) ct_107_8 (sT_1 hS) rfl rfl c2 ?_
    refine wi_ic ct_107_11 kc_0 ?_
    refine wi_ic ct_107_12 kc_5 ?_
    refine wi_cs3 (ls' := [some _, some _, some _]) ct_107_13 (Nat.le_of_ble_eq_true rfl) rfl (Nat.le_of_ble_eq_true rfl) ?_
    refine c_within hthe ki_0 ki_5 (fun h => absurd h (by omega)) (fun _ => wk_i ?_)
    refine wi_ifeq_t ct_107_16 ki_0 (by decide) ?_
    refine wi_null ct_107_34 ?_
    refine wi_pfn ct_107_35 (sT_15 hS) rfl ?_
    have hS1 := hS.gr (q := 15) (a := 0) (x := none) (by decide)
    refine wi_aload_0 ct_107_38 ?_
    refine wi_gfr ct_107_39 (sT_0 hS1) rfl (sR_0_2 hS1) ?_
    refine wi_aload_1 ct_107_42 ?_
    refine wi_gf (x := fi2 34 B) ct_107_43 ot (am_ktb _) rfl oc ?_
    refine wi_pf ct_107_46 (sT_15 hS1) rfl ?_
    refine wi_aload_0 ct_107_49 ?_
    refine wi_gfr ct_107_50 (sT_0 hS1) rfl (sR_0_2 hS1) ?_
    refine wi_aload_1 ct_107_53 ?_
    refine wi_gf (x := fi2 35 B) ct_107_54 ot (am_ktb _) rfl (Eq.trans (up2_nq (dn o72 (by decide))) oa) ?_
    refine wi_pf ct_107_57 (sT_15 hS1) rfl ?_
    refine wi_aload_0 ct_107_60 ?_
    refine wi_gfr ct_107_61 (sT_0 hS1) rfl (sR_0_2 hS1) ?_
    refine wi_aload_0 ct_107_64 ?_
    refine wi_gfr ct_107_65 (sT_0 hS1) rfl (sR_0_0 hS1) ?_
    refine wi_cv0 (ls' := [some _]) ct_107_68 (Nat.le_of_ble_eq_true rfl) (by decide) (sT_1 hS1) rfl (by decide) rfl rfl (Nat.le_of_ble_eq_true rfl) ?_
    refine c_good (fi := (up2 (up2 fi2 15 1 (fi2 34 B)) 15 2 (fi2 35 B))) hS1 (A := (fi 38 0).toInt) (B := (fi 38 1).toInt) (C := (fi 38 2).toInt) ((congrArg Int32.toInt ((Eq.trans (up2_nq (by decide)) (up2_nq (by decide))))).trans (by rw [(hK 0 (by decide)).1, k38])) ((congrArg Int32.toInt ((Eq.trans (up2_nq (by decide)) (up2_nq (by decide))))).trans (by rw [(hK 1 (by decide)).1, k38])) ((congrArg Int32.toInt ((Eq.trans (up2_nq (by decide)) (up2_nq (by decide))))).trans (by rw [(hK 2 (by decide)).1, k38])) ?_ ?_ ?_ (fun zg hzg => wk_i ?_)
    · have := hK 0 (by decide)
      rw [k38] at this
      exact ⟨this.2.1, this.2.2.2 (by decide)⟩
    · have := hK 1 (by decide)
      rw [k38] at this
      exact ⟨this.2.1, this.2.2.2 (by decide)⟩
    · have := hK 2 (by decide)
      rw [k38] at this
      exact ⟨this.2.1, this.2.2.2 (by decide)⟩
    refine wi_pf ct_107_71 (sT_15 hS1) rfl ?_
    refine wi_aload_0 ct_107_74 ?_
    refine wi_gfr ct_107_75 (sT_0 hS1) rfl (sR_0_2 hS1) ?_
    refine wi_aload_0 ct_107_78 ?_
    refine wi_gfr ct_107_79 (sT_0 hS1) rfl (sR_0_0 hS1) ?_
    refine wi_gf (x := fi2 31 1) ct_107_82 (sT_1 hS1) rfl rfl (Eq.trans (up2_nq (by decide)) (Eq.trans (up2_nq (by decide)) (Eq.trans (up2_nq (by decide)) c1))) ?_
    refine wi_pf ct_107_85 (sT_15 hS1) rfl ?_
    refine wi_aload_0 ct_107_88 ?_
    refine wi_gfr ct_107_89 (sT_0 hS1) rfl (sR_0_2 hS1) ?_
    refine wi_ic ct_107_92 kc_0 ?_
    refine wi_pf ct_107_93 (sT_15 hS1) rfl ?_
    refine wi_aload_0 ct_107_96 ?_
    refine wi_gfr ct_107_97 (sT_0 hS1) rfl (sR_0_2 hS1) ?_
    refine wi_ic ct_107_100 kc_0 ?_
    refine wi_pfz ct_107_101 (sT_15 hS1) rfl (by decide) ?_
    refine wi_ret ct_107_104 ?_
    have hcg : cG g2 (am_gr g2 15 0 none) := ⟨rfl, rfl, rfl, fun a b e => if_neg (fun h => by omega)⟩
    refine kk _ _ (hs.trans ⟨hcg, fun q h => (Eq.trans (funext fun _ => up2_nq (by omega)) (Eq.trans (funext fun _ => up2_nq (by omega)) (Eq.trans (funext fun _ => up2_nq (by omega)) (Eq.trans (funext fun _ => up2_nq (by omega)) (Eq.trans (funext fun _ => up2_nq (by omega)) (funext fun _ => up2_nq (by omega))))))), fun j _ => (Eq.trans (up2_nq (by decide)) (Eq.trans (up2_nq (by decide)) (Eq.trans (up2_nq (by decide)) (Eq.trans (up2_nq (by decide)) (Eq.trans (up2_nq (by decide)) (up2_nq (by decide))))))), fun j _ => (Eq.trans (up2_nq (by decide)) (Eq.trans (up2_nq (by decide)) (Eq.trans (up2_nq (by decide)) (Eq.trans (up2_nq (by decide)) (Eq.trans (up2_nq (by decide)) (up2_nq (by decide)))))))⟩) (fun q j h15 => (Eq.trans (up2_nq h15) (Eq.trans (up2_nq h15) (Eq.trans (up2_nq h15) (Eq.trans (up2_nq h15) (Eq.trans (up2_nq h15) (up2_nq h15))))))) ?_ ((congrArg Int32.toInt (Eq.trans (up2_nj (by decide)) (Eq.trans (up2_nj (by decide)) (Eq.trans (up2_nj (by decide)) (Eq.trans (up2_nj (by decide)) (Eq.trans (up2_nj (by decide)) up2_eq)))))).trans w34) ((congrArg Int32.toInt (Eq.trans (up2_nj (by decide)) (Eq.trans (up2_nj (by decide)) (Eq.trans (up2_nj (by decide)) (Eq.trans (up2_nj (by decide)) up2_eq))))).trans w35) ((congrArg Int32.toInt (Eq.trans (up2_nj (by decide)) (Eq.trans (up2_nj (by decide)) (Eq.trans (up2_nj (by decide)) up2_eq)))).trans hzg) (Eq.trans (Eq.trans (up2_nj (by decide)) (Eq.trans (up2_nj (by decide)) up2_eq)) (hs.2.2.2 1 (by decide))) (Eq.trans (up2_nj (by decide)) up2_eq) up2_eq
    exact (gr_eq : (am_gr g2 15 0 none).2.2.1 15 0 = none)
  | some Q =>
    obtain ⟨s0, hs6, hth, q, a0, a1, a2, a4, a5, a6, hq0, ⟨d0, d1, d2, d3, d4, d5, d6⟩, hp, hc, hv⟩ := hsx
    have hthe : (fi2 31 10).toInt = (s0 : Int) := by rw [e10]; exact hth
    refine wi_aload_0 ct_107_0 ?_
    refine wi_gfr ct_107_1 (sT_0 hS) rfl (sR_0_2 hS) ?_
    refine wi_aload_0 ct_107_4 ?_
    refine wi_gfr ct_107_5 (sT_0 hS) rfl (sR_0_0 hS) ?_
    refine wi_gf (x := fi2 31 10) ct_107_8 (sT_1 hS) rfl rfl c2 ?_
    refine wi_ic ct_107_11 kc_0 ?_
    refine wi_ic ct_107_12 kc_5 ?_
    refine wi_cs3 (ls' := [some _, some _, some _]) ct_107_13 (Nat.le_of_ble_eq_true rfl) rfl (Nat.le_of_ble_eq_true rfl) ?_
    refine c_within hthe ki_0 ki_5 (fun _ => wk_i ?_) (fun h => absurd h (by omega))
    refine wi_ifeq_f ct_107_16 ki_1 (by decide) ?_
    refine wi_aload_0 ct_107_19 ?_
    refine wi_gfr ct_107_20 (sT_0 hS) rfl (sR_0_4 hS) ?_
    refine wi_aload_0 ct_107_23 ?_
    refine wi_gfr ct_107_24 (sT_0 hS) rfl (sR_0_0 hS) ?_
    refine wi_gf (x := fi2 31 10) ct_107_27 (sT_1 hS) rfl rfl c2 ?_
    refine wi_aald ct_107_30 (sT_19 hS) (by decide) (sL_19 hS) (i_in hthe (by omega)) (i_cl (k := s0) hthe (by omega)) ((hs.1.2.2.2 19 s0 (Or.inl (by decide))).trans hq0) ?_
    refine wi_goto ct_107_31 ?_
    refine wi_pfr ct_107_35 (sT_15 hS) rfl ?_
    have hS2 := hS.gr (q := 15) (a := 0) (x := (some q)) (by decide)
    refine wi_aload_0 ct_107_38 ?_
    refine wi_gfr ct_107_39 (sT_0 hS2) rfl (sR_0_2 hS2) ?_
    refine wi_aload_1 ct_107_42 ?_
    refine wi_gf (x := fi2 34 B) ct_107_43 ot (am_ktb _) rfl oc ?_
    refine wi_pf ct_107_46 (sT_15 hS2) rfl ?_
    refine wi_aload_0 ct_107_49 ?_
    refine wi_gfr ct_107_50 (sT_0 hS2) rfl (sR_0_2 hS2) ?_
    refine wi_aload_1 ct_107_53 ?_
    refine wi_gf (x := fi2 35 B) ct_107_54 ot (am_ktb _) rfl (Eq.trans (up2_nq (dn o72 (by decide))) oa) ?_
    refine wi_pf ct_107_57 (sT_15 hS2) rfl ?_
    refine wi_aload_0 ct_107_60 ?_
    refine wi_gfr ct_107_61 (sT_0 hS2) rfl (sR_0_2 hS2) ?_
    refine wi_aload_0 ct_107_64 ?_
    refine wi_gfr ct_107_65 (sT_0 hS2) rfl (sR_0_0 hS2) ?_
    refine wi_cv0 (ls' := [some _]) ct_107_68 (Nat.le_of_ble_eq_true rfl) (by decide) (sT_1 hS2) rfl (by decide) rfl rfl (Nat.le_of_ble_eq_true rfl) ?_
    refine c_good (fi := (up2 (up2 fi2 15 1 (fi2 34 B)) 15 2 (fi2 35 B))) hS2 (A := (fi 38 0).toInt) (B := (fi 38 1).toInt) (C := (fi 38 2).toInt) ((congrArg Int32.toInt ((Eq.trans (up2_nq (by decide)) (up2_nq (by decide))))).trans (by rw [(hK 0 (by decide)).1, k38])) ((congrArg Int32.toInt ((Eq.trans (up2_nq (by decide)) (up2_nq (by decide))))).trans (by rw [(hK 1 (by decide)).1, k38])) ((congrArg Int32.toInt ((Eq.trans (up2_nq (by decide)) (up2_nq (by decide))))).trans (by rw [(hK 2 (by decide)).1, k38])) ?_ ?_ ?_ (fun zg hzg => wk_i ?_)
    · have := hK 0 (by decide)
      rw [k38] at this
      exact ⟨this.2.1, this.2.2.2 (by decide)⟩
    · have := hK 1 (by decide)
      rw [k38] at this
      exact ⟨this.2.1, this.2.2.2 (by decide)⟩
    · have := hK 2 (by decide)
      rw [k38] at this
      exact ⟨this.2.1, this.2.2.2 (by decide)⟩
    refine wi_pf ct_107_71 (sT_15 hS2) rfl ?_
    refine wi_aload_0 ct_107_74 ?_
    refine wi_gfr ct_107_75 (sT_0 hS2) rfl (sR_0_2 hS2) ?_
    refine wi_aload_0 ct_107_78 ?_
    refine wi_gfr ct_107_79 (sT_0 hS2) rfl (sR_0_0 hS2) ?_
    refine wi_gf (x := fi2 31 1) ct_107_82 (sT_1 hS2) rfl rfl (Eq.trans (up2_nq (by decide)) (Eq.trans (up2_nq (by decide)) (Eq.trans (up2_nq (by decide)) c1))) ?_
    refine wi_pf ct_107_85 (sT_15 hS2) rfl ?_
    refine wi_aload_0 ct_107_88 ?_
    refine wi_gfr ct_107_89 (sT_0 hS2) rfl (sR_0_2 hS2) ?_
    refine wi_ic ct_107_92 kc_0 ?_
    refine wi_pf ct_107_93 (sT_15 hS2) rfl ?_
    refine wi_aload_0 ct_107_96 ?_
    refine wi_gfr ct_107_97 (sT_0 hS2) rfl (sR_0_2 hS2) ?_
    refine wi_ic ct_107_100 kc_0 ?_
    refine wi_pfz ct_107_101 (sT_15 hS2) rfl (by decide) ?_
    refine wi_ret ct_107_104 ?_
    have hcg : cG g2 (am_gr g2 15 0 (some q)) := ⟨rfl, rfl, rfl, fun a b e => if_neg (fun h => by omega)⟩
    refine kk _ _ (hs.trans ⟨hcg, fun q h => (Eq.trans (funext fun _ => up2_nq (by omega)) (Eq.trans (funext fun _ => up2_nq (by omega)) (Eq.trans (funext fun _ => up2_nq (by omega)) (Eq.trans (funext fun _ => up2_nq (by omega)) (Eq.trans (funext fun _ => up2_nq (by omega)) (funext fun _ => up2_nq (by omega))))))), fun j _ => (Eq.trans (up2_nq (by decide)) (Eq.trans (up2_nq (by decide)) (Eq.trans (up2_nq (by decide)) (Eq.trans (up2_nq (by decide)) (Eq.trans (up2_nq (by decide)) (up2_nq (by decide))))))), fun j _ => (Eq.trans (up2_nq (by decide)) (Eq.trans (up2_nq (by decide)) (Eq.trans (up2_nq (by decide)) (Eq.trans (up2_nq (by decide)) (Eq.trans (up2_nq (by decide)) (up2_nq (by decide)))))))⟩) (fun q j h15 => (Eq.trans (up2_nq h15) (Eq.trans (up2_nq h15) (Eq.trans (up2_nq h15) (Eq.trans (up2_nq h15) (Eq.trans (up2_nq h15) (up2_nq h15))))))) ?_ ((congrArg Int32.toInt (Eq.trans (up2_nj (by decide)) (Eq.trans (up2_nj (by decide)) (Eq.trans (up2_nj (by decide)) (Eq.trans (up2_nj (by decide)) (Eq.trans (up2_nj (by decide)) up2_eq)))))).trans w34) ((congrArg Int32.toInt (Eq.trans (up2_nj (by decide)) (Eq.trans (up2_nj (by decide)) (Eq.trans (up2_nj (by decide)) (Eq.trans (up2_nj (by decide)) up2_eq))))).trans w35) ((congrArg Int32.toInt (Eq.trans (up2_nj (by decide)) (Eq.trans (up2_nj (by decide)) (Eq.trans (up2_nj (by decide)) up2_eq)))).trans hzg) (Eq.trans (Eq.trans (up2_nj (by decide)) (Eq.trans (up2_nj (by decide)) up2_eq)) (hs.2.2.2 1 (by decide))) (Eq.trans (up2_nj (by decide)) up2_eq) up2_eq
    have hdy : ∀ a, 72 ≤ a → (up2 (up2 (up2 (up2 (up2 (up2 fi2 15 1 (fi2 34 B)) 15 2 (fi2 35 B)) 15 3 (zg)) 15 4 (fi2 31 1)) 15 5 (0)) 15 6 (0)) a = fi a := fun a ha => Eq.trans ((Eq.trans (funext fun _ => up2_nq (by omega)) (Eq.trans (funext fun _ => up2_nq (by omega)) (Eq.trans (funext fun _ => up2_nq (by omega)) (Eq.trans (funext fun _ => up2_nq (by omega)) (Eq.trans (funext fun _ => up2_nq (by omega)) (funext fun _ => up2_nq (by omega)))))))) (hs.dy a ha)
    exact ⟨q, a0, a1, a2, a4, a5, a6, gr_eq, ⟨d0, d1, d2, d3, d4, d5, d6⟩, hp.scr (hs.1.trans hcg) (by omega), hc.fr (hdy _ d0) (hdy _ d1) (hdy _ d2) (hdy _ d3) (hdy _ d4) (hdy _ d5) (hdy _ d6), hv⟩
theorem c_runR {L : Nat} {xs : Nat → Int32} {own : Nat → Nat} {d : Nat} {g g2 : am_G} {fi fi2 : am_I} {fl : am_L} {P : Option Value → am_G → am_I → am_L → Prop} {sq : Option sq_T} {B p r : Nat} {kd v cd aim co : Int} {row : Nat → Int} {gust m0 cd2 aim2 G : Int} {calm : Bool} (hR : Rel L xs own g fi fl) (hs : SCR g g2 fi fi2) (hW : BLW own g fi B p r kd v cd aim co row) (hq : SQk g2 fi2 sq) (hcd : (fi2 15 1).toInt = cd2) (haim : (fi2 15 2).toInt = aim2) (hG : (fi2 15 3).toInt = G) (hmi : (fi2 15 4).toInt = m0) (hgust : (fi2 15 5).toInt = gust) (hcalm : fi2 15 6 = bI calm) (hc9 : 1 ≤ cd2 ∧ cd2 ≤ 9) (ha6 : 1 ≤ aim2 ∧ aim2 ≤ 60) (hG9 : 0 ≤ G ∧ G ≤ 39) (hm9 : 0 ≤ m0 ∧ m0 ≤ 11000) (hg9 : 0 ≤ gust ∧ gust ≤ 9) (kk : ∀ (R : go_T) (fi3 : am_I), R = goL (mkLk sq B kd v) kd v aim2 row gust calm 30 0 m0 0 (cd2 * G) → SCR g g2 fi fi3 → (∀ q, q ≠ 15 → q ≠ 16 → fi3 q = fi2 q) → (fi3 15 7).toInt = gSz R → (fi3 15 11).toInt = gLf (mkLk sq B kd v) R → (fi3 15 12).toInt = gBr (mkLk sq B kd v) R → (fi3 15 10).toInt = gMn R → (fi3 15 4).toInt = R.2.1 → fi3 15 13 = bI (!R.1) → (∀ j, j = 1 ∨ j = 2 ∨ j = 3 ∨ j = 5 ∨ j = 6 → fi3 15 j = fi2 15 j) → P none g2 fi3 fl) : WP (d + 6) 17 0 [some (.ref 15), some (.ref p), none] [] g2 fi2 fl P := by
  have hR2 := hR.scr hs
  obtain ⟨hB5, hO, w32, w33, w34, w35, w36, w37, k6, v9, -, -, -, r9⟩ := hW.scr hs
  obtain ⟨o0, ⟨o72, onx, oow⟩, ot, ok, on, ov, oc, oa, om, orw⟩ := hO
  rw [w32] at ot orw
  refine c_run (Bi := (B : Int)) (r := r) hR2.1 hq o72 ot (by rw [ov]; exact w33) on (by rw [ok]; exact w32) hcd hG hmi haim (fun h6 => ?_) (fun h6 => (orw h6).2.1.1) hcalm hgust k6 v9 ha6 hg9 hm9 r9 hc9 hG9 (fun R fi3 h1 h2 h3 h4 h5 h6 h7 h8 => kk R fi3 h1 (hs.trans (SCR.cF h2)) h2.1 h3 h4 h5 h6 h7 h8 (fun j hj => h2.2 j (by omega)))
  obtain ⟨x1, x2, x3, x4, x5⟩ := orw h6
  exact ⟨x1, x3, x4, fun j hj => by rw [x5 j hj]; exact w37 j hj⟩
