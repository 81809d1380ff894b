/-! The best of several; the reference's go behind what a question changes. -/
def bst (f : Nat → Int) : Nat → Nat → Int → Int → Int × Int
  | 0, _, b, m => (b, m)
  | n + 1, k, b, m => if m < f k then bst f n (k + 1) k (f k) else bst f n (k + 1) b m
theorem bst_t {f : Nat → Int} {n k : Nat} {b m : Int} (h : m < f k) : bst f (n + 1) k b m = bst f n (k + 1) k (f k) := if_pos h
theorem bst_f {f : Nat → Int} {n k : Nat} {b m : Int} (h : f k ≤ m) : bst f (n + 1) k b m = bst f n (k + 1) b m := if_neg (by omega)
theorem bst_b {f : Nat → Int} {n k : Nat} {b b2 : Int} (h : 0 ≤ f k) : bst f (n + 1) k b (-1) = bst f (n + 1) k b2 (-1) := (bst_t (by omega)).trans (bst_t (by omega)).symm
theorem SCR.w {g g2 : am_G} {fi fi2 : am_I} {q j : Nat} {x : Int32} (h : SCR g g2 fi fi2) (e : q = 15 ∨ q = 16 ∨ q = 20 ∨ q = 48 ∨ q = 49 ∨ (q = 0 ∧ (j = 8 ∨ j = 9)) ∨ (q = 31 ∧ (27 ≤ j ∧ j ≤ 34 ∨ j = 38 ∨ j = 39))) : SCR g g2 fi (up2 fi2 q j x) := by
  refine ⟨h.1, fun p hp => ?_, fun i hi => ?_, fun i hi => ?_⟩
  · funext i
    exact (up2_nq (by omega)).trans (congrFun (h.2.1 p hp) i)
  · refine Eq.trans (if_neg (fun k => ?_)) (h.2.2.1 i hi)
    omega
  · refine Eq.trans (if_neg (fun k => ?_)) (h.2.2.2 i hi)
    omega
/-- a write of both -/
theorem SCR.ww {g g2 : am_G} {fi fi2 : am_I} {q j : Nat} {x : Int32} (h : SCR g g2 fi fi2) : SCR g g2 (up2 fi q j x) (up2 fi2 q j x) := by
  refine ⟨h.1, fun p hp => ?_, fun i hi => ?_, fun i hi => ?_⟩
  · funext i
    unfold up2
    rw [h.2.1 p hp]
  · unfold up2
    rw [h.2.2.1 i hi]
  · unfold up2
    rw [h.2.2.2 i hi]
theorem up2_up2 {α : Type} {f : Nat → Nat → α} {q j : Nat} {x y : α} : up2 (up2 f q j x) q j y = up2 f q j y := by
  funext a b
  unfold up2
  by_cases h : a = q ∧ b = j <;> simp [h]
theorem up2_id {α : Type} {f : Nat → Nat → α} {q j : Nat} {x : α} (h : f q j = x) : up2 f q j x = f := by
  funext a b
  unfold up2
  by_cases h2 : a = q ∧ b = j
  · rw [if_pos h2, h2.1, h2.2, h]
  · rw [if_neg h2]
/-- the reference's facts of a go of B -/
def MB (fi : am_I) (sq : Option sq_T) (B : Nat) (kd v cd aim : Int) (row : Nat → Int) (X Y Z gust : Int) (calm : Bool) : Prop := SQs fi sq ∧ (B < 5 ∧ (fi 32 B).toInt = kd ∧ (fi 33 B).toInt = v ∧ (fi 34 B).toInt = cd ∧ (fi 35 B).toInt = aim ∧ ∀ j, j < 4 → (fi 37 (4 * B + j)).toInt = row j) ∧ ((fi 38 0).toInt = X ∧ (fi 38 1).toInt = Y ∧ (fi 38 2).toInt = Z) ∧ (fi 31 35 = bI calm ∧ (fi 31 36).toInt = gust) ∧ ((0 ≤ kd ∧ kd ≤ 6) ∧ (0 ≤ v ∧ v ≤ 9) ∧ (1 ≤ cd ∧ cd ≤ 9) ∧ (1 ≤ aim ∧ aim ≤ 60) ∧ ∀ j, j < 4 → 0 ≤ row j ∧ row j ≤ 9) ∧ ((0 ≤ X ∧ X ≤ 9) ∧ (0 ≤ Y ∧ Y ≤ 9) ∧ (0 ≤ Z ∧ Z ≤ 9) ∧ 0 ≤ gust ∧ gust ≤ 9)
section AMB
variable {fi : am_I} {sq : Option sq_T} {B : Nat} {kd v cd aim X Y Z gust : Int} {row : Nat → Int} {calm : Bool}
theorem MB.of {L : Nat} {xs : Nat → Int32} {own : Nat → Nat} {g : am_G} {fl : am_L} {p r : Nat} {co : Int} (hR : Rel L xs own g fi fl) (hW : BLW own g fi B p r kd v cd aim co row) (hq : SQs fi sq) : MB fi sq B kd v cd aim row (fi 38 0).toInt (fi 38 1).toInt (fi 38 2).toInt 0 false := by
  obtain ⟨-, -, hC, hK, -⟩ := hR
  obtain ⟨w0, -, w2, w3, w4, w5, -, w7, b1, b2, b3, b4, -, b6⟩ := hW
  have k := fun j (h : j < 3) => (hK j (by omega)).2
  refine ⟨hq, ⟨w0, w2, w3, w4, w5, w7⟩, ⟨rfl, rfl, rfl⟩, ⟨hC.2.2.2.2.2.2.2.2.1, ?_⟩, ⟨b1, b2, b3, b4, b6⟩, ⟨⟨(k 0 (by decide)).1, (k 0 (by decide)).2.2 (by decide)⟩, ⟨(k 1 (by decide)).1, (k 1 (by decide)).2.2 (by decide)⟩, ⟨(k 2 (by decide)).1, (k 2 (by decide)).2.2 (by decide)⟩, by decide⟩⟩
  rw [hC.2.2.2.2.2.2.2.2.2]
  rfl
theorem SQs.up {q j : Nat} {x : Int32} (h : SQs fi sq) (e : q ≠ 40 ∧ q ≠ 41 ∧ q ≠ 42 ∧ q ≠ 43 ∧ q ≠ 44 ∧ q ≠ 45 ∧ (q ≠ 31 ∨ j ≠ 10)) : SQs (up2 fi q j x) sq := by
  have w : ∀ p, p ≠ q → up2 fi q j x p = fi p := fun p hp => funext fun i => up2_nq hp
  refine h.fr ?_ (w _ (by omega)) (w _ (by omega)) (w _ (by omega)) (w _ (by omega)) (w _ (by omega)) (w _ (by omega))
  exact if_neg (by omega)
theorem MB.aimq (h : MB fi sq B kd v cd aim row X Y Z gust calm) {x : Int32} {A : Int} (hx : x.toInt = A) (hA : 1 ≤ A ∧ A ≤ 60) : MB (up2 fi 35 B x) sq B kd v cd A row X Y Z gust calm := by
  obtain ⟨h0, ⟨h1, h2, h3, h4, h5, h6⟩, h7, h8, ⟨b1, b2, b3, b4, b5⟩, h9⟩ := h
  refine ⟨h0.up (by omega), ⟨h1, h2, h3, h4, (congrArg Int32.toInt up2_eq).trans hx, h6⟩, h7, h8, ⟨b1, b2, b3, hA, b5⟩, h9⟩
theorem MB.cord (h : MB fi sq B kd v cd aim row X Y Z gust calm) {x : Int32} {A : Int} (hx : x.toInt = A) (hA : 1 ≤ A ∧ A ≤ 9) : MB (up2 fi 34 B x) sq B kd v A aim row X Y Z gust calm := by
  obtain ⟨h0, ⟨h1, h2, h3, h4, h5, h6⟩, h7, h8, ⟨b1, b2, b3, b4, b5⟩, h9⟩ := h
  refine ⟨h0.up (by omega), ⟨h1, h2, h3, (congrArg Int32.toInt up2_eq).trans hx, h5, h6⟩, h7, h8, ⟨b1, b2, hA, b4, b5⟩, h9⟩
theorem MB.soap (h : MB fi sq B kd v cd aim row X Y Z gust calm) {x : Int32} {A : Int} (hx : x.toInt = A) (hA : 0 ≤ A ∧ A ≤ 9) : MB (up2 fi 38 0 x) sq B kd v cd aim row A Y Z gust calm := by
  obtain ⟨h0, h1, ⟨h2, h3, h4⟩, h8, hb, ⟨b1, b2, b3, b4⟩⟩ := h
  exact ⟨h0.up (by omega), h1, ⟨(congrArg Int32.toInt up2_eq).trans hx, h3, h4⟩, h8, hb, ⟨hA, b2, b3, b4⟩⟩
theorem MB.sugar (h : MB fi sq B kd v cd aim row X Y Z gust calm) {x : Int32} {A : Int} (hx : x.toInt = A) (hA : 0 ≤ A ∧ A ≤ 9) : MB (up2 fi 38 1 x) sq B kd v cd aim row X A Z gust calm := by
  obtain ⟨h0, h1, ⟨h2, h3, h4⟩, h8, hb, ⟨b1, b2, b3, b4⟩⟩ := h
  exact ⟨h0.up (by omega), h1, ⟨h2, (congrArg Int32.toInt up2_eq).trans hx, h4⟩, h8, hb, ⟨b1, hA, b3, b4⟩⟩
theorem MB.gustq (h : MB fi sq B kd v cd aim row X Y Z gust calm) {x : Int32} {A : Int} (hx : x.toInt = A) (hA : 0 ≤ A ∧ A ≤ 9) : MB (up2 fi 31 36 x) sq B kd v cd aim row X Y Z A calm := by
  obtain ⟨h0, h1, h2, ⟨h3, h4⟩, hb, ⟨b1, b2, b3, b4⟩⟩ := h
  exact ⟨h0.up (by omega), h1, h2, ⟨h3, (congrArg Int32.toInt up2_eq).trans hx⟩, hb, ⟨b1, b2, b3, hA⟩⟩
theorem MB.calmq (h : MB fi sq B kd v cd aim row X Y Z gust calm) {x : Int32} {c : Bool} (hx : x = bI c) : MB (up2 fi 31 35 x) sq B kd v cd aim row X Y Z gust c := by
  obtain ⟨h0, h1, h2, ⟨h3, h4⟩, hb⟩ := h
  exact ⟨h0.up (by omega), h1, h2, ⟨up2_eq.trans hx, h4⟩, hb⟩
theorem MB.scr (h : MB fi sq B kd v cd aim row X Y Z gust calm) {g g2 : am_G} {fi2 : am_I} (k : SCR g g2 fi fi2) : MB fi2 sq B kd v cd aim row X Y Z gust calm := by
  obtain ⟨h0, h1, h2, h3, hb⟩ := h
  have w := fun q (e : ¬ (q = 0 ∨ q = 15 ∨ q = 16 ∨ q = 20 ∨ q = 31 ∨ q = 48 ∨ q = 49)) => k.2.1 q e
  refine ⟨h0.scr k, ?_, ?_, ?_, hb⟩
  · rw [w 32 (by decide), w 33 (by decide), w 34 (by decide), w 35 (by decide), w 37 (by decide)]
    exact h1
  · rw [w 38 (by decide)]
    exact h2
  · rw [k.2.2.2 35 (by decide), k.2.2.2 36 (by decide)]
    exact h3
theorem c_goR {L d : Nat} {g g2 : am_G} {fi2 : am_I} {fl : am_L} {P : Option Value → am_G → am_I → am_L → Prop} {b m : Int32} {m0 : Int} (hS : SF L g2) (hm : MB fi sq B kd v cd aim row X Y Z gust calm) (hs : SCR g g2 fi fi2) (hb : b.toInt = (B : Int)) (hmm : m.toInt = m0) (hm9 : 0 ≤ m0 ∧ m0 ≤ 11000) (kk : ∀ (R : go_T) (fi3 : am_I), R = goL (mkLk sq B kd v) kd v aim row gust calm 30 0 m0 0 (cd * goodV X Y Z) → SCR g g2 fi fi3 → gF fi2 fi3 → (fi3 31 30).toInt = gSz R → (fi3 31 31).toInt = gLf (mkLk sq B kd v) R → (fi3 31 32).toInt = gBr (mkLk sq B kd v) R → (fi3 31 33).toInt = gMn R → fi3 31 34 = bI (!R.1) → P none g2 fi3 fl) : WP (d + 6) 157 0 [some (.ref 31), some (.int b), some (.int m), none, none, none, none] [] g2 fi2 fl P := by
  obtain ⟨h0, ⟨h1, h2, h3, h4, h5, h6⟩, ⟨h7, h8, h9⟩, ⟨h10, h11⟩, ⟨b1, b2, b3, b4, b5⟩, ⟨b6, b7, b8, b9⟩⟩ := hm.scr hs
  exact c_goes hS h0 hb h1 h2 h3 h4 h5 h6 h10 h11 h7 h8 h9 hmm b1 b2 b4 b9 hm9 b5 b3 b6 b7 b8 (fun R fi3 e hf => kk R fi3 e (hs.trans (SCR.gF hf)) hf)
end AMB
/-- what a go may bring -/
theorem goR_bd {sq : Option sq_T} {B kd v aim gust m0 film : Int} {row : Nat → Int} {calm : Bool} {R : go_T} (hq : ∀ Q, sq = some Q → SQv Q) (hg : 0 ≤ gust) (hf : film ≤ 351) (e : R = goL (mkLk sq B kd v) kd v aim row gust calm 30 0 m0 0 film) : (0 ≤ gSz R ∧ gSz R ≤ 90) ∧ (0 ≤ gLf (mkLk sq B kd v) R ∧ gLf (mkLk sq B kd v) R ≤ 3510) ∧ (0 ≤ gBr (mkLk sq B kd v) R ∧ gBr (mkLk sq B kd v) R ≤ 99999) ∧ (0 ≤ gMn R ∧ gMn R ≤ 30) ∧ R.2.1 = m0 + gMn R := by
  have hl := mkLk_bd (b := B) (k := kd) (v := v) hq
  obtain ⟨h1, h2, h3, h4, h5, h6, h7⟩ := goL_bd hl hg 30 0 m0 0 film R e.symm (Int.le_refl _) (by decide) hf
  have h8 := gLf_bd hl h7 h6
  refine ⟨?_, ⟨h8.1, h8.2.1⟩, gBr_bd hl h7 h6, ?_, ?_⟩
  · unfold gSz
    split <;> omega
  · unfold gMn
    omega
  · unfold gMn
    omega
section AWX
variable {g g2 : am_G} {fi fi2 : am_I} {q j k : Nat} {x y z w : Int32}
theorem SCR.wx (h : SCR g g2 (up2 fi q j x) fi2) : SCR g g2 (up2 fi q j y) (up2 fi2 q j y) := by
  have := h.ww (q := q) (j := j) (x := y)
  rw [up2_up2] at this
  exact this
theorem SCR.wr (h : SCR g g2 (up2 fi q j x) fi2) (e : fi q j = y) : SCR g g2 fi (up2 fi2 q j y) := by
  have := h.wx (y := y)
  rw [up2_id e] at this
  exact this
theorem SCR.wi (h : SCR g g2 fi fi2) : SCR g g2 (up2 fi q j (fi q j)) fi2 := by
  rw [up2_id (Eq.refl _)]
  exact h
theorem up2_x2 {α : Type} {f : Nat → Nat → α} {q j k : Nat} {x y z w : α} (hk : j ≠ k) : up2 (up2 (up2 (up2 f q j x) q k y) q j z) q k w = up2 (up2 f q j z) q k w := by
  funext a b
  unfold up2
  by_cases h1 : a = q ∧ b = k
  · simp [h1]
  · by_cases h2 : a = q ∧ b = j
    · simp [h2]
    · rw [if_neg h1, if_neg h2, if_neg h1, if_neg h2, if_neg h1, if_neg h2]
theorem SCR.wx2 (hk : j ≠ k) (h : SCR g g2 (up2 (up2 fi q j x) q k y) fi2) : SCR g g2 (up2 (up2 fi q j z) q k w) (up2 (up2 fi2 q j z) q k w) := by
  have := (h.ww (q := q) (j := j) (x := z)).ww (q := q) (j := k) (x := w)
  rw [up2_x2 hk] at this
  exact this
theorem up2_id2 {α : Type} {f : Nat → Nat → α} {q j k : Nat} {x y : α} (e1 : f q j = x) (e2 : f q k = y) : up2 (up2 f q j x) q k y = f := by
  rw [up2_id e1, up2_id e2]
theorem SCR.wr2 (hk : j ≠ k) (h : SCR g g2 (up2 (up2 fi q j x) q k y) fi2) (e1 : fi q j = z) (e2 : fi q k = w) : SCR g g2 fi (up2 (up2 fi2 q j z) q k w) := by
  have := h.wx2 hk (z := z) (w := w)
  rw [up2_id2 e1 e2] at this
  exact this
theorem SCR.wi2 (h : SCR g g2 fi fi2) : SCR g g2 (up2 (up2 fi q j (fi q j)) q k (fi q k)) fi2 := by
  rw [up2_id2 (Eq.refl _) (Eq.refl _)]
  exact h
end AWX
set_option maxHeartbeats 2000000 in
theorem vl_caim {L : Nat} {xs : Nat → Int32} {own : Nat → Nat} {d : Nat} {g : am_G} {fi : am_I} {fl : am_L} {P : Option Value → am_G → am_I → am_L → Prop} {sq : Option sq_T} {B p r : Nat} {kd v cd aim co : Int} {row : Nat → Int} {f : Nat → Int} {w : Int32} {Wi : Int} {bl : Int32} (hR : Rel L xs own g fi fl) (hW : BLW own g fi B p r kd v cd aim co row) (hsq : SQs fi sq) (hsx : SQx g fi sq) (hf : ∀ k : Nat, f k = gBr (mkLk sq B kd v) (goL (mkLk sq B kd v) kd v k row 0 false 30 0 ((fi 31 1).toInt) 0 (cd * (goodV (fi 38 0).toInt (fi 38 1).toInt (fi 38 2).toInt)))) (hw : w.toInt = Wi) (hW01 : 0 ≤ Wi ∧ Wi ≤ 1) : ∀ (n k : Nat) (b m : Int) (g2 : am_G) (fi2 : am_I) (zb zm zi : Int32), k + n = 61 → 1 ≤ k → SCR g g2 fi fi2 → zi.toInt = (k : Int) → zb.toInt = b → zm.toInt = m → (∀ z g3 fi3, z.toInt = (if Wi = 0 then (bst f n k b m).1 else (bst f n k b m).2) → SCR g g3 fi fi3 → P (some (.int z)) g3 fi3 fl) → WP (d + 9) 109 34 [some (.ref 0), some (.int (0)), some (.int (1)), some (.int (60)), some (.int (bl)), some (.int (w)), some (.ref p), some (.int (zb)), some (.int (zm)), some (.int (zi))] [] g2 fi2 fl P := by
  obtain ⟨hS, hsc, hC, hK, hX, hV, hT, hP, hB, hN, hQ, hZ, hI⟩ := id hR
  obtain ⟨⟨c0, c0a, c0b⟩, ⟨c1, c1a, c1b⟩, ⟨c2, c2a, c2b⟩, ⟨c3, c3a, c3b⟩, ⟨c4, c4a, c4b⟩, ⟨c5, c5a, c5b⟩, ⟨c6, c6a, c6b⟩, ⟨c7, c7a, c7b⟩, c8, c9⟩ := id hC
  obtain ⟨hB5, hO, w32, w33, w34, w35, w36, w37, k6, v9, d9, a60, co9, r9⟩ := id hW
  obtain ⟨o0, ⟨o72, onx, oow⟩, ot, ok, on, ov, oc, oa, om, orw⟩ := id hO
  have kq := fun j (h : j < 3) => (hK j (by omega)).2
  have hk0 := kq 0 (by decide)
  have hk1 := kq 1 (by decide)
  have hk2 := kq 2 (by decide)
  replace hk0 := And.intro hk0.1 (hk0.2.2 (by decide))
  replace hk1 := And.intro hk1.1 (hk1.2.2 (by decide))
  replace hk2 := And.intro hk2.1 (hk2.2.2 (by decide))
  have hGb := goodV_bd hk0 hk1 hk2
  intro n
  induction n with
  | zero =>
    intro k b m g2 fi2 zb zm zi hkn hkl hs hzi hzb hzm kk
    have hS2 := (hR.scr hs).1
    refine wi_iload_9 ct_109_34 ?_
    refine wi_iload_3 ct_109_36 ?_
    refine wi_icgt_t ct_109_37 hzi ki_60 (by omega) ?_
    refine wi_iload_5 ct_109_93 ?_
    refine wi_ifne ct_109_95 hw (fun h1 => ?_) (fun h1 => ?_)
    · skip
      refine wi_iload_8 ct_109_103 ?_
      refine wi_iret ct_109_105 rfl ?_
      exact kk _ _ _ (hzm.trans (if_neg (by omega)).symm) hs
    · skip
      refine wi_iload_7 ct_109_98 ?_
      refine wi_goto ct_109_100 ?_
      refine wi_iret ct_109_105 rfl ?_
      exact kk _ _ _ (hzb.trans (if_pos (by omega)).symm) hs
  | succ n ih =>
    intro k b m g2 fi2 zb zm zi hkn hkl hs hzi hzb hzm kk
    have hS2 := (hR.scr hs).1
    refine wi_iload_9 ct_109_34 ?_
    refine wi_iload_3 ct_109_36 ?_
    refine wi_icgt_f ct_109_37 hzi ki_60 (by omega) ?_
    refine wi_aload_0 ct_109_40 ?_
    refine wi_aload_6 ct_109_41 ?_
    refine wi_cv1 (ls' := [some _, some _]) ct_109_43 (Nat.le_of_ble_eq_true rfl) (by decide) (sT_0 hS2) rfl (by decide) rfl rfl (Nat.le_of_ble_eq_true rfl) ?_
    refine c_begin hR hs hW hsq hsx (fun gb2 fb2 hsb2 hfb2 hkb2 hb2_1 hb2_2 hb2_3 hb2_4 hb2_5 hb2_6 => wk_v ?_)
    have hSb2 := (hR.scr hsb2).1
    refine wi_aload_0 ct_109_46 ?_
    refine wi_iload_1 ct_109_47 ?_
    refine wi_iload_9 ct_109_48 ?_
    refine wi_cv2 (ls' := [some _, some _, some _]) ct_109_50 (Nat.le_of_ble_eq_true rfl) (by decide) (sT_0 hSb2) rfl (by decide) rfl rfl (Nat.le_of_ble_eq_true rfl) ?_
    refine wi_iload_1 ct_110_0 ?_
    refine wi_tsw (X := 0) (t := 28) ct_110_1 ki_0 rfl ?_
    refine wi_aload_0 ct_110_28 ?_
    refine wi_gfr ct_110_29 (sT_0 hSb2) rfl (sR_0_2 hSb2) ?_
    refine wi_iload_2 ct_110_32 ?_
    refine wi_pf ct_110_33 (sT_15 hSb2) rfl ?_
    refine wi_goto ct_110_36 ?_
    refine wi_ret ct_110_93 (wk_v ?_)
    refine wi_aload_0 ct_109_53 ?_
    refine wi_gfr ct_109_54 (sT_0 hSb2) rfl (sR_0_2 hSb2) ?_
    refine wi_aload_6 ct_109_57 ?_
    refine wi_cv1 (ls' := [some _, some _, none]) ct_109_59 (Nat.le_of_ble_eq_true rfl) (by decide) (sT_15 hSb2) rfl (by decide) rfl rfl (Nat.le_of_ble_eq_true rfl) ?_
    refine c_runR (cd2 := cd) (aim2 := (k : Int)) (G := (goodV (fi 38 0).toInt (fi 38 1).toInt (fi 38 2).toInt)) (m0 := (fi 31 1).toInt) (gust := 0) (calm := false) hR (hsb2.w (by omega)) hW (hkb2.fr (fun q hq => (funext fun _ => up2_nq (by omega)))) (((congrArg Int32.toInt (up2_nj (by decide))).trans hb2_1).trans (by omega)) (((congrArg Int32.toInt up2_eq).trans hzi).trans (by omega)) (((congrArg Int32.toInt (up2_nj (by decide))).trans hb2_3).trans (by omega)) ((congrArg Int32.toInt (Eq.trans (up2_nj (by decide)) hb2_4)).trans (by omega)) (((congrArg Int32.toInt (Eq.trans (up2_nj (by decide)) hb2_5)).trans ki_0).trans (by omega)) ((Eq.trans (up2_nj (by decide)) hb2_6).trans rfl) (by omega) (by omega) (by omega) (by omega) (by omega) (fun Rr3 fr3 hr3_e hsr3 hr3_f hr3_7 hr3_11 hr3_12 hr3_10 hr3_4 hr3_13 hr3_j => wk_v ?_)
    have hSr3 := (hR.scr hsr3).1
    have hbdr3 := goR_bd (SQs_v hsq) (by omega) ((film_bd d9 hGb).2) hr3_e
    have hF : (fr3 15 12).toInt = f k := hr3_12.trans (by rw [hr3_e, hf])
    refine wi_aload_0 ct_109_62 ?_
    refine wi_gfr ct_109_63 (sT_0 hSr3) rfl (sR_0_2 hSr3) ?_
    refine wi_gf (x := fr3 15 12) ct_109_66 (sT_15 hSr3) rfl rfl rfl ?_
    refine wi_iload_8 ct_109_69 ?_
    refine wi_icle ct_109_71 hF hzm (fun h4 => ?_) (fun h4 => ?_)
    · skip
      refine wi_iinc_9 rfl (z := (zi + 1)) ct_109_87 (by rw [kc_1]) ?_
      refine wi_goto ct_109_90 ?_
      rw [bst_f (show f k ≤ m by omega)] at kk
      exact ih (k + 1) _ _ _ _ _ _ _ (by omega) (by omega) hsr3 ((i_add hzi ki_1 (by omega)).trans (by omega)) hzb hzm kk
    · skip
      refine wi_aload_0 ct_109_74 ?_
      refine wi_gfr ct_109_75 (sT_0 hSr3) rfl (sR_0_2 hSr3) ?_
      refine wi_gf (x := fr3 15 12) ct_109_78 (sT_15 hSr3) rfl rfl rfl ?_
      refine wi_istore_8 rfl ct_109_81 ?_
      refine wi_iload_9 ct_109_83 ?_
      refine wi_istore_7 rfl ct_109_85 ?_
      refine wi_iinc_9 rfl (z := (zi + 1)) ct_109_87 (by rw [kc_1]) ?_
      refine wi_goto ct_109_90 ?_
      rw [bst_t (show m < f k by omega)] at kk
      exact ih (k + 1) _ _ _ _ _ _ _ (by omega) (by omega) hsr3 ((i_add hzi ki_1 (by omega)).trans (by omega)) hzi hF kk
set_option maxHeartbeats 2000000 in
theorem vl_ccord {L : Nat} {xs : Nat → Int32} {own : Nat → Nat} {d : Nat} {g : am_G} {fi : am_I} {fl : am_L} {P : Option Value → am_G → am_I → am_L → Prop} {sq : Option sq_T} {B p r : Nat} {kd v cd aim co : Int} {row : Nat → Int} {f : Nat → Int} {w : Int32} {Wi : Int} {bl : Int32} (hR : Rel L xs own g fi fl) (hW : BLW own g fi B p r kd v cd aim co row) (hsq : SQs fi sq) (hsx : SQx g fi sq) (hf : ∀ k : Nat, f k = gBr (mkLk sq B kd v) (goL (mkLk sq B kd v) kd v aim row 0 false 30 0 ((fi 31 1).toInt) 0 (k * (goodV (fi 38 0).toInt (fi 38 1).toInt (fi 38 2).toInt)))) (hw : w.toInt = Wi) (hW01 : 0 ≤ Wi ∧ Wi ≤ 1) : ∀ (n k : Nat) (b m : Int) (g2 : am_G) (fi2 : am_I) (zb zm zi : Int32), k + n = 10 → 1 ≤ k → SCR g g2 fi fi2 → zi.toInt = (k : Int) → zb.toInt = b → zm.toInt = m → (∀ z g3 fi3, z.toInt = (if Wi = 0 then (bst f n k b m).1 else (bst f n k b m).2) → SCR g g3 fi fi3 → P (some (.int z)) g3 fi3 fl) → WP (d + 9) 109 34 [some (.ref 0), some (.int (1)), some (.int (1)), some (.int (9)), some (.int (bl)), some (.int (w)), some (.ref p), some (.int (zb)), some (.int (zm)), some (.int (zi))] [] g2 fi2 fl P := by
  obtain ⟨hS, hsc, hC, hK, hX, hV, hT, hP, hB, hN, hQ, hZ, hI⟩ := id hR
  obtain ⟨⟨c0, c0a, c0b⟩, ⟨c1, c1a, c1b⟩, ⟨c2, c2a, c2b⟩, ⟨c3, c3a, c3b⟩, ⟨c4, c4a, c4b⟩, ⟨c5, c5a, c5b⟩, ⟨c6, c6a, c6b⟩, ⟨c7, c7a, c7b⟩, c8, c9⟩ := id hC
  obtain ⟨hB5, hO, w32, w33, w34, w35, w36, w37, k6, v9, d9, a60, co9, r9⟩ := id hW
  obtain ⟨o0, ⟨o72, onx, oow⟩, ot, ok, on, ov, oc, oa, om, orw⟩ := id hO
  have kq := fun j (h : j < 3) => (hK j (by omega)).2
  have hk0 := kq 0 (by decide)
  have hk1 := kq 1 (by decide)
  have hk2 := kq 2 (by decide)
  replace hk0 := And.intro hk0.1 (hk0.2.2 (by decide))
  replace hk1 := And.intro hk1.1 (hk1.2.2 (by decide))
  replace hk2 := And.intro hk2.1 (hk2.2.2 (by decide))
  have hGb := goodV_bd hk0 hk1 hk2
  intro n
  induction n with
  | zero =>
    intro k b m g2 fi2 zb zm zi hkn hkl hs hzi hzb hzm kk
    have hS2 := (hR.scr hs).1
    refine wi_iload_9 ct_109_34 ?_
    refine wi_iload_3 ct_109_36 ?_
    refine wi_icgt_t ct_109_37 hzi ki_9 (by omega) ?_
    refine wi_iload_5 ct_109_93 ?_
    refine wi_ifne ct_109_95 hw (fun h1 => ?_) (fun h1 => ?_)
    · skip
      refine wi_iload_8 ct_109_103 ?_
      refine wi_iret ct_109_105 rfl ?_
      exact kk _ _ _ (hzm.trans (if_neg (by omega)).symm) hs
    · skip
      refine wi_iload_7 ct_109_98 ?_
      refine wi_goto ct_109_100 ?_
      refine wi_iret ct_109_105 rfl ?_
      exact kk _ _ _ (hzb.trans (if_pos (by omega)).symm) hs
  | succ n ih =>
    intro k b m g2 fi2 zb zm zi hkn hkl hs hzi hzb hzm kk
    have hS2 := (hR.scr hs).1
    refine wi_iload_9 ct_109_34 ?_
    refine wi_iload_3 ct_109_36 ?_
    refine wi_icgt_f ct_109_37 hzi ki_9 (by omega) ?_
    refine wi_aload_0 ct_109_40 ?_
    refine wi_aload_6 ct_109_41 ?_
    refine wi_cv1 (ls' := [some _, some _]) ct_109_43 (Nat.le_of_ble_eq_true rfl) (by decide) (sT_0 hS2) rfl (by decide) rfl rfl (Nat.le_of_ble_eq_true rfl) ?_
    refine c_begin hR hs hW hsq hsx (fun gb2 fb2 hsb2 hfb2 hkb2 hb2_1 hb2_2 hb2_3 hb2_4 hb2_5 hb2_6 => wk_v ?_)
    have hSb2 := (hR.scr hsb2).1
    refine wi_aload_0 ct_109_46 ?_
    refine wi_iload_1 ct_109_47 ?_
    refine wi_iload_9 ct_109_48 ?_
    refine wi_cv2 (ls' := [some _, some _, some _]) ct_109_50 (Nat.le_of_ble_eq_true rfl) (by decide) (sT_0 hSb2) rfl (by decide) rfl rfl (Nat.le_of_ble_eq_true rfl) ?_
    refine wi_iload_1 ct_110_0 ?_
    refine wi_tsw (X := 1) (t := 39) ct_110_1 ki_1 rfl ?_
    refine wi_aload_0 ct_110_39 ?_
    refine wi_gfr ct_110_40 (sT_0 hSb2) rfl (sR_0_2 hSb2) ?_
    refine wi_iload_2 ct_110_43 ?_
    refine wi_pf ct_110_44 (sT_15 hSb2) rfl ?_
    refine wi_goto ct_110_47 ?_
    refine wi_ret ct_110_93 (wk_v ?_)
    refine wi_aload_0 ct_109_53 ?_
    refine wi_gfr ct_109_54 (sT_0 hSb2) rfl (sR_0_2 hSb2) ?_
    refine wi_aload_6 ct_109_57 ?_
    refine wi_cv1 (ls' := [some _, some _, none]) ct_109_59 (Nat.le_of_ble_eq_true rfl) (by decide) (sT_15 hSb2) rfl (by decide) rfl rfl (Nat.le_of_ble_eq_true rfl) ?_
    refine c_runR (cd2 := (k : Int)) (aim2 := aim) (G := (goodV (fi 38 0).toInt (fi 38 1).toInt (fi 38 2).toInt)) (m0 := (fi 31 1).toInt) (gust := 0) (calm := false) hR (hsb2.w (by omega)) hW (hkb2.fr (fun q hq => (funext fun _ => up2_nq (by omega)))) (((congrArg Int32.toInt up2_eq).trans hzi).trans (by omega)) (((congrArg Int32.toInt (up2_nj (by decide))).trans hb2_2).trans (by omega)) (((congrArg Int32.toInt (up2_nj (by decide))).trans hb2_3).trans (by omega)) ((congrArg Int32.toInt (Eq.trans (up2_nj (by decide)) hb2_4)).trans (by omega)) (((congrArg Int32.toInt (Eq.trans (up2_nj (by decide)) hb2_5)).trans ki_0).trans (by omega)) ((Eq.trans (up2_nj (by decide)) hb2_6).trans rfl) (by omega) (by omega) (by omega) (by omega) (by omega) (fun Rr3 fr3 hr3_e hsr3 hr3_f hr3_7 hr3_11 hr3_12 hr3_10 hr3_4 hr3_13 hr3_j => wk_v ?_)
    have hSr3 := (hR.scr hsr3).1
    have hbdr3 := goR_bd (SQs_v hsq) (by omega) ((film_bd (c := (k : Int)) (by omega) hGb).2) hr3_e
    have hF : (fr3 15 12).toInt = f k := hr3_12.trans (by rw [hr3_e, hf])
    refine wi_aload_0 ct_109_62 ?_
    refine wi_gfr ct_109_63 (sT_0 hSr3) rfl (sR_0_2 hSr3) ?_
    refine wi_gf (x := fr3 15 12) ct_109_66 (sT_15 hSr3) rfl rfl rfl ?_
    refine wi_iload_8 ct_109_69 ?_
    refine wi_icle ct_109_71 hF hzm (fun h4 => ?_) (fun h4 => ?_)
    · skip
      refine wi_iinc_9 rfl (z := (zi + 1)) ct_109_87 (by rw [kc_1]) ?_
      refine wi_goto ct_109_90 ?_
      rw [bst_f (show f k ≤ m by omega)] at kk
      exact ih (k + 1) _ _ _ _ _ _ _ (by omega) (by omega) hsr3 ((i_add hzi ki_1 (by omega)).trans (by omega)) hzb hzm kk
    · skip
      refine wi_aload_0 ct_109_74 ?_
      refine wi_gfr ct_109_75 (sT_0 hSr3) rfl (sR_0_2 hSr3) ?_
      refine wi_gf (x := fr3 15 12) ct_109_78 (sT_15 hSr3) rfl rfl rfl ?_
      refine wi_istore_8 rfl ct_109_81 ?_
      refine wi_iload_9 ct_109_83 ?_
      refine wi_istore_7 rfl ct_109_85 ?_
      refine wi_iinc_9 rfl (z := (zi + 1)) ct_109_87 (by rw [kc_1]) ?_
      refine wi_goto ct_109_90 ?_
      rw [bst_t (show m < f k by omega)] at kk
      exact ih (k + 1) _ _ _ _ _ _ _ (by omega) (by omega) hsr3 ((i_add hzi ki_1 (by omega)).trans (by omega)) hzi hF kk
set_option maxHeartbeats 2000000 in
theorem vl_cmix {L : Nat} {xs : Nat → Int32} {own : Nat → Nat} {d : Nat} {g : am_G} {fi : am_I} {fl : am_L} {P : Option Value → am_G → am_I → am_L → Prop} {sq : Option sq_T} {B p r : Nat} {kd v cd aim co : Int} {row : Nat → Int} {f : Nat → Int} {w : Int32} {Wi : Int} {bl : Int32} (hR : Rel L xs own g fi fl) (hW : BLW own g fi B p r kd v cd aim co row) (hsq : SQs fi sq) (hsx : SQx g fi sq) (hf : ∀ k : Nat, f k = gBr (mkLk sq B kd v) (goL (mkLk sq B kd v) kd v aim row 0 false 30 0 ((fi 31 1).toInt) 0 (cd * (goodV ((k : Int) / 10) ((k : Int) % 10) (fi 38 2).toInt)))) (hw : w.toInt = Wi) (hW01 : 0 ≤ Wi ∧ Wi ≤ 1) : ∀ (n k : Nat) (b m : Int) (g2 : am_G) (fi2 : am_I) (zb zm zi : Int32), k + n = 100 → 0 ≤ k → SCR g g2 fi fi2 → zi.toInt = (k : Int) → zb.toInt = b → zm.toInt = m → (∀ z g3 fi3, z.toInt = (if Wi = 0 then (bst f n k b m).1 else (bst f n k b m).2) → SCR g g3 fi fi3 → P (some (.int z)) g3 fi3 fl) → WP (d + 9) 109 34 [some (.ref 0), some (.int (2)), some (.int (0)), some (.int (99)), some (.int (bl)), some (.int (w)), some (.ref p), some (.int (zb)), some (.int (zm)), some (.int (zi))] [] g2 fi2 fl P := by
  obtain ⟨hS, hsc, hC, hK, hX, hV, hT, hP, hB, hN, hQ, hZ, hI⟩ := id hR
  obtain ⟨⟨c0, c0a, c0b⟩, ⟨c1, c1a, c1b⟩, ⟨c2, c2a, c2b⟩, ⟨c3, c3a, c3b⟩, ⟨c4, c4a, c4b⟩, ⟨c5, c5a, c5b⟩, ⟨c6, c6a, c6b⟩, ⟨c7, c7a, c7b⟩, c8, c9⟩ := id hC
  obtain ⟨hB5, hO, w32, w33, w34, w35, w36, w37, k6, v9, d9, a60, co9, r9⟩ := id hW
  obtain ⟨o0, ⟨o72, onx, oow⟩, ot, ok, on, ov, oc, oa, om, orw⟩ := id hO
  have kq := fun j (h : j < 3) => (hK j (by omega)).2
  have hk0 := kq 0 (by decide)
  have hk1 := kq 1 (by decide)
  have hk2 := kq 2 (by decide)
  replace hk0 := And.intro hk0.1 (hk0.2.2 (by decide))
  replace hk1 := And.intro hk1.1 (hk1.2.2 (by decide))
  replace hk2 := And.intro hk2.1 (hk2.2.2 (by decide))
  have hGb := goodV_bd hk0 hk1 hk2
  intro n
  induction n with
  | zero =>
    intro k b m g2 fi2 zb zm zi hkn hkl hs hzi hzb hzm kk
    have hS2 := (hR.scr hs).1
    refine wi_iload_9 ct_109_34 ?_
    refine wi_iload_3 ct_109_36 ?_
    refine wi_icgt_t ct_109_37 hzi ki_99 (by omega) ?_
    refine wi_iload_5 ct_109_93 ?_
    refine wi_ifne ct_109_95 hw (fun h1 => ?_) (fun h1 => ?_)
    · skip
      refine wi_iload_8 ct_109_103 ?_
      refine wi_iret ct_109_105 rfl ?_
      exact kk _ _ _ (hzm.trans (if_neg (by omega)).symm) hs
    · skip
      refine wi_iload_7 ct_109_98 ?_
      refine wi_goto ct_109_100 ?_
      refine wi_iret ct_109_105 rfl ?_
      exact kk _ _ _ (hzb.trans (if_pos (by omega)).symm) hs
  | succ n ih =>
    intro k b m g2 fi2 zb zm zi hkn hkl hs hzi hzb hzm kk
    have hS2 := (hR.scr hs).1
    have hGk := goodV_bd (X := (k : Int) / 10) (Y := (k : Int) % 10) (Z := (fi 38 2).toInt) (by omega) (by omega) hk2
    refine wi_iload_9 ct_109_34 ?_
    refine wi_iload_3 ct_109_36 ?_
    refine wi_icgt_f ct_109_37 hzi ki_99 (by omega) ?_
    refine wi_aload_0 ct_109_40 ?_
    refine wi_aload_6 ct_109_41 ?_
    refine wi_cv1 (ls' := [some _, some _]) ct_109_43 (Nat.le_of_ble_eq_true rfl) (by decide) (sT_0 hS2) rfl (by decide) rfl rfl (Nat.le_of_ble_eq_true rfl) ?_
    refine c_begin hR hs hW hsq hsx (fun gb2 fb2 hsb2 hfb2 hkb2 hb2_1 hb2_2 hb2_3 hb2_4 hb2_5 hb2_6 => wk_v ?_)
    have hSb2 := (hR.scr hsb2).1
    refine wi_aload_0 ct_109_46 ?_
    refine wi_iload_1 ct_109_47 ?_
    refine wi_iload_9 ct_109_48 ?_
    refine wi_cv2 (ls' := [some _, some _, some _]) ct_109_50 (Nat.le_of_ble_eq_true rfl) (by decide) (sT_0 hSb2) rfl (by decide) rfl rfl (Nat.le_of_ble_eq_true rfl) ?_
    refine wi_iload_1 ct_110_0 ?_
    refine wi_tsw (X := 2) (t := 50) ct_110_1 ki_2 rfl ?_
    refine wi_aload_0 ct_110_50 ?_
    refine wi_gfr ct_110_51 (sT_0 hSb2) rfl (sR_0_2 hSb2) ?_
    refine wi_iload_2 ct_110_54 ?_
    refine wi_ic ct_110_55 kc_10 ?_
    refine wi_idiv ct_110_57 (by decide) rfl ?_
    refine wi_iload_2 ct_110_58 ?_
    refine wi_ic ct_110_59 kc_10 ?_
    refine wi_irem ct_110_61 (by decide) rfl ?_
    refine wi_aload_0 ct_110_62 ?_
    refine wi_gfr ct_110_63 (sT_0 hSb2) rfl (sR_0_0 hSb2) ?_
    refine wi_gfr ct_110_66 (sT_1 hSb2) rfl (sR_1_2 hSb2) ?_
    refine wi_ic ct_110_69 kc_2 ?_
    refine wi_iald (x := fi 38 2) ct_110_70 (sT_3 hSb2) (sL_3 hSb2) (by decide) kn_c2 (Eq.trans (congrFun (hsb2.2.1 3 (by omega)) _) (hK 2 (by decide)).1) ?_
    refine wi_cs3 (ls' := [some _, some _, some _]) ct_110_71 (Nat.le_of_ble_eq_true rfl) rfl (Nat.le_of_ble_eq_true rfl) ?_
    refine c_goodOf (i_div hzi ki_10 (by omega) (by omega)) (i_rem hzi ki_10 (by omega) (by omega)) rfl (by omega) (by omega) (by omega) (fun zg3 hzg3 => wk_i ?_)
    refine wi_pf ct_110_74 (sT_15 hSb2) rfl ?_
    refine wi_goto ct_110_77 ?_
    refine wi_ret ct_110_93 (wk_v ?_)
    refine wi_aload_0 ct_109_53 ?_
    refine wi_gfr ct_109_54 (sT_0 hSb2) rfl (sR_0_2 hSb2) ?_
    refine wi_aload_6 ct_109_57 ?_
    refine wi_cv1 (ls' := [some _, some _, none]) ct_109_59 (Nat.le_of_ble_eq_true rfl) (by decide) (sT_15 hSb2) rfl (by decide) rfl rfl (Nat.le_of_ble_eq_true rfl) ?_
    refine c_runR (cd2 := cd) (aim2 := aim) (G := (goodV ((k : Int) / 10) ((k : Int) % 10) (fi 38 2).toInt)) (m0 := (fi 31 1).toInt) (gust := 0) (calm := false) hR (hsb2.w (by omega)) hW (hkb2.fr (fun q hq => (funext fun _ => up2_nq (by omega)))) (((congrArg Int32.toInt (up2_nj (by decide))).trans hb2_1).trans (by omega)) (((congrArg Int32.toInt (up2_nj (by decide))).trans hb2_2).trans (by omega)) (((congrArg Int32.toInt up2_eq).trans hzg3).trans (by omega)) ((congrArg Int32.toInt (Eq.trans (up2_nj (by decide)) hb2_4)).trans (by omega)) (((congrArg Int32.toInt (Eq.trans (up2_nj (by decide)) hb2_5)).trans ki_0).trans (by omega)) ((Eq.trans (up2_nj (by decide)) hb2_6).trans rfl) (by omega) (by omega) (by omega) (by omega) (by omega) (fun Rr4 fr4 hr4_e hsr4 hr4_f hr4_7 hr4_11 hr4_12 hr4_10 hr4_4 hr4_13 hr4_j => wk_v ?_)
    have hSr4 := (hR.scr hsr4).1
    have hbdr4 := goR_bd (SQs_v hsq) (by omega) ((film_bd d9 hGk).2) hr4_e
    have hF : (fr4 15 12).toInt = f k := hr4_12.trans (by rw [hr4_e, hf])
    refine wi_aload_0 ct_109_62 ?_
    refine wi_gfr ct_109_63 (sT_0 hSr4) rfl (sR_0_2 hSr4) ?_
    refine wi_gf (x := fr4 15 12) ct_109_66 (sT_15 hSr4) rfl rfl rfl ?_
    refine wi_iload_8 ct_109_69 ?_
    refine wi_icle ct_109_71 hF hzm (fun h5 => ?_) (fun h5 => ?_)
    · skip
      refine wi_iinc_9 rfl (z := (zi + 1)) ct_109_87 (by rw [kc_1]) ?_
      refine wi_goto ct_109_90 ?_
      rw [bst_f (show f k ≤ m by omega)] at kk
      exact ih (k + 1) _ _ _ _ _ _ _ (by omega) (by omega) hsr4 ((i_add hzi ki_1 (by omega)).trans (by omega)) hzb hzm kk
    · skip
      refine wi_aload_0 ct_109_74 ?_
      refine wi_gfr ct_109_75 (sT_0 hSr4) rfl (sR_0_2 hSr4) ?_
      refine wi_gf (x := fr4 15 12) ct_109_78 (sT_15 hSr4) rfl rfl rfl ?_
      refine wi_istore_8 rfl ct_109_81 ?_
      refine wi_iload_9 ct_109_83 ?_
      refine wi_istore_7 rfl ct_109_85 ?_
      refine wi_iinc_9 rfl (z := (zi + 1)) ct_109_87 (by rw [kc_1]) ?_
      refine wi_goto ct_109_90 ?_
      rw [bst_t (show m < f k by omega)] at kk
      exact ih (k + 1) _ _ _ _ _ _ _ (by omega) (by omega) hsr4 ((i_add hzi ki_1 (by omega)).trans (by omega)) hzi hF kk
set_option maxHeartbeats 2000000 in
theorem vl_cwhen {L : Nat} {xs : Nat → Int32} {own : Nat → Nat} {d : Nat} {g : am_G} {fi : am_I} {fl : am_L} {P : Option Value → am_G → am_I → am_L → Prop} {sq : Option sq_T} {B p r : Nat} {kd v cd aim co : Int} {row : Nat → Int} {f : Nat → Int} {w : Int32} {Wi : Int} {bl : Int32} (hR : Rel L xs own g fi fl) (hW : BLW own g fi B p r kd v cd aim co row) (hsq : SQs fi sq) (hsx : SQx g fi sq) (hf : ∀ k : Nat, f k = gBr (mkLk sq B kd v) (goL (mkLk sq B kd v) kd v aim row 0 false 30 0 ((fi 31 1).toInt + k) 0 (cd * (goodV (fi 38 0).toInt (fi 38 1).toInt (fi 38 2).toInt)))) (hw : w.toInt = Wi) (hW01 : 0 ≤ Wi ∧ Wi ≤ 1) : ∀ (n k : Nat) (b m : Int) (g2 : am_G) (fi2 : am_I) (zb zm zi : Int32), k + n = 24 → 0 ≤ k → SCR g g2 fi fi2 → zi.toInt = (k : Int) → zb.toInt = b → zm.toInt = m → (∀ z g3 fi3, z.toInt = (if Wi = 0 then (bst f n k b m).1 else (bst f n k b m).2) → SCR g g3 fi fi3 → P (some (.int z)) g3 fi3 fl) → WP (d + 9) 109 34 [some (.ref 0), some (.int (3)), some (.int (0)), some (.int (23)), some (.int (bl)), some (.int (w)), some (.ref p), some (.int (zb)), some (.int (zm)), some (.int (zi))] [] g2 fi2 fl P := by
  obtain ⟨hS, hsc, hC, hK, hX, hV, hT, hP, hB, hN, hQ, hZ, hI⟩ := id hR
  obtain ⟨⟨c0, c0a, c0b⟩, ⟨c1, c1a, c1b⟩, ⟨c2, c2a, c2b⟩, ⟨c3, c3a, c3b⟩, ⟨c4, c4a, c4b⟩, ⟨c5, c5a, c5b⟩, ⟨c6, c6a, c6b⟩, ⟨c7, c7a, c7b⟩, c8, c9⟩ := id hC
  obtain ⟨hB5, hO, w32, w33, w34, w35, w36, w37, k6, v9, d9, a60, co9, r9⟩ := id hW
  obtain ⟨o0, ⟨o72, onx, oow⟩, ot, ok, on, ov, oc, oa, om, orw⟩ := id hO
  have kq := fun j (h : j < 3) => (hK j (by omega)).2
  have hk0 := kq 0 (by decide)
  have hk1 := kq 1 (by decide)
  have hk2 := kq 2 (by decide)
  replace hk0 := And.intro hk0.1 (hk0.2.2 (by decide))
  replace hk1 := And.intro hk1.1 (hk1.2.2 (by decide))
  replace hk2 := And.intro hk2.1 (hk2.2.2 (by decide))
  have hGb := goodV_bd hk0 hk1 hk2
  intro n
  induction n with
  | zero =>
    intro k b m g2 fi2 zb zm zi hkn hkl hs hzi hzb hzm kk
    have hS2 := (hR.scr hs).1
    refine wi_iload_9 ct_109_34 ?_
    refine wi_iload_3 ct_109_36 ?_
    refine wi_icgt_t ct_109_37 hzi ki_23 (by omega) ?_
    refine wi_iload_5 ct_109_93 ?_
    refine wi_ifne ct_109_95 hw (fun h1 => ?_) (fun h1 => ?_)
    · skip
      refine wi_iload_8 ct_109_103 ?_
      refine wi_iret ct_109_105 rfl ?_
      exact kk _ _ _ (hzm.trans (if_neg (by omega)).symm) hs
    · skip
      refine wi_iload_7 ct_109_98 ?_
      refine wi_goto ct_109_100 ?_
      refine wi_iret ct_109_105 rfl ?_
      exact kk _ _ _ (hzb.trans (if_pos (by omega)).symm) hs
  | succ n ih =>
    intro k b m g2 fi2 zb zm zi hkn hkl hs hzi hzb hzm kk
    have hS2 := (hR.scr hs).1
    refine wi_iload_9 ct_109_34 ?_
    refine wi_iload_3 ct_109_36 ?_
    refine wi_icgt_f ct_109_37 hzi ki_23 (by omega) ?_
    refine wi_aload_0 ct_109_40 ?_
    refine wi_aload_6 ct_109_41 ?_
    refine wi_cv1 (ls' := [some _, some _]) ct_109_43 (Nat.le_of_ble_eq_true rfl) (by decide) (sT_0 hS2) rfl (by decide) rfl rfl (Nat.le_of_ble_eq_true rfl) ?_
    refine c_begin hR hs hW hsq hsx (fun gb2 fb2 hsb2 hfb2 hkb2 hb2_1 hb2_2 hb2_3 hb2_4 hb2_5 hb2_6 => wk_v ?_)
    have hSb2 := (hR.scr hsb2).1
    refine wi_aload_0 ct_109_46 ?_
    refine wi_iload_1 ct_109_47 ?_
    refine wi_iload_9 ct_109_48 ?_
    refine wi_cv2 (ls' := [some _, some _, some _]) ct_109_50 (Nat.le_of_ble_eq_true rfl) (by decide) (sT_0 hSb2) rfl (by decide) rfl rfl (Nat.le_of_ble_eq_true rfl) ?_
    refine wi_iload_1 ct_110_0 ?_
    refine wi_tsw (X := 3) (t := 80) ct_110_1 ki_3 rfl ?_
    refine wi_aload_0 ct_110_80 ?_
    refine wi_gfr ct_110_81 (sT_0 hSb2) rfl (sR_0_2 hSb2) ?_
    refine wi_dup ct_110_84 rfl ?_
    refine wi_gf (x := fi 31 1) ct_110_85 (sT_15 hSb2) rfl rfl hb2_4 ?_
    refine wi_iload_2 ct_110_88 ?_
    refine wi_iadd ct_110_89 rfl ?_
    refine wi_pf ct_110_90 (sT_15 hSb2) rfl ?_
    refine wi_ret ct_110_93 (wk_v ?_)
    refine wi_aload_0 ct_109_53 ?_
    refine wi_gfr ct_109_54 (sT_0 hSb2) rfl (sR_0_2 hSb2) ?_
    refine wi_aload_6 ct_109_57 ?_
    refine wi_cv1 (ls' := [some _, some _, none]) ct_109_59 (Nat.le_of_ble_eq_true rfl) (by decide) (sT_15 hSb2) rfl (by decide) rfl rfl (Nat.le_of_ble_eq_true rfl) ?_
    refine c_runR (cd2 := cd) (aim2 := aim) (G := (goodV (fi 38 0).toInt (fi 38 1).toInt (fi 38 2).toInt)) (m0 := (fi 31 1).toInt + k) (gust := 0) (calm := false) hR (hsb2.w (by omega)) hW (hkb2.fr (fun q hq => (funext fun _ => up2_nq (by omega)))) (((congrArg Int32.toInt (up2_nj (by decide))).trans hb2_1).trans (by omega)) (((congrArg Int32.toInt (up2_nj (by decide))).trans hb2_2).trans (by omega)) (((congrArg Int32.toInt (up2_nj (by decide))).trans hb2_3).trans (by omega)) (((congrArg Int32.toInt up2_eq).trans (i_add rfl hzi (by omega))).trans (by omega)) (((congrArg Int32.toInt (Eq.trans (up2_nj (by decide)) hb2_5)).trans ki_0).trans (by omega)) ((Eq.trans (up2_nj (by decide)) hb2_6).trans rfl) (by omega) (by omega) (by omega) (by omega) (by omega) (fun Rr3 fr3 hr3_e hsr3 hr3_f hr3_7 hr3_11 hr3_12 hr3_10 hr3_4 hr3_13 hr3_j => wk_v ?_)
    have hSr3 := (hR.scr hsr3).1
    have hbdr3 := goR_bd (SQs_v hsq) (by omega) ((film_bd d9 hGb).2) hr3_e
    have hF : (fr3 15 12).toInt = f k := hr3_12.trans (by rw [hr3_e, hf])
    refine wi_aload_0 ct_109_62 ?_
    refine wi_gfr ct_109_63 (sT_0 hSr3) rfl (sR_0_2 hSr3) ?_
    refine wi_gf (x := fr3 15 12) ct_109_66 (sT_15 hSr3) rfl rfl rfl ?_
    refine wi_iload_8 ct_109_69 ?_
    refine wi_icle ct_109_71 hF hzm (fun h4 => ?_) (fun h4 => ?_)
    · skip
      refine wi_iinc_9 rfl (z := (zi + 1)) ct_109_87 (by rw [kc_1]) ?_
      refine wi_goto ct_109_90 ?_
      rw [bst_f (show f k ≤ m by omega)] at kk
      exact ih (k + 1) _ _ _ _ _ _ _ (by omega) (by omega) hsr3 ((i_add hzi ki_1 (by omega)).trans (by omega)) hzb hzm kk
    · skip
      refine wi_aload_0 ct_109_74 ?_
      refine wi_gfr ct_109_75 (sT_0 hSr3) rfl (sR_0_2 hSr3) ?_
      refine wi_gf (x := fr3 15 12) ct_109_78 (sT_15 hSr3) rfl rfl rfl ?_
      refine wi_istore_8 rfl ct_109_81 ?_
      refine wi_iload_9 ct_109_83 ?_
      refine wi_istore_7 rfl ct_109_85 ?_
      refine wi_iinc_9 rfl (z := (zi + 1)) ct_109_87 (by rw [kc_1]) ?_
      refine wi_goto ct_109_90 ?_
      rw [bst_t (show m < f k by omega)] at kk
      exact ih (k + 1) _ _ _ _ _ _ _ (by omega) (by omega) hsr3 ((i_add hzi ki_1 (by omega)).trans (by omega)) hzi hF kk
set_option maxHeartbeats 2000000 in
theorem vl_clong {L : Nat} {xs : Nat → Int32} {own : Nat → Nat} {d : Nat} {g : am_G} {fi : am_I} {fl : am_L} {P : Option Value → am_G → am_I → am_L → Prop} {sq : Option sq_T} {B p r : Nat} {kd v cd aim co : Int} {row : Nat → Int} {f : Nat → Int} {w : Int32} {Wi : Int} {bl : Int32} (hR : Rel L xs own g fi fl) (hW : BLW own g fi B p r kd v cd aim co row) (hsq : SQs fi sq) (hsx : SQx g fi sq) (hf : ∀ k : Nat, f k = gLf (mkLk sq B kd v) (goL (mkLk sq B kd v) kd v aim row 0 false 30 0 ((fi 31 1).toInt + k) 0 (cd * (goodV (fi 38 0).toInt (fi 38 1).toInt (fi 38 2).toInt)))) (hw : w.toInt = Wi) (hW01 : 0 ≤ Wi ∧ Wi ≤ 1) : ∀ (n k : Nat) (b m : Int) (g2 : am_G) (fi2 : am_I) (zb zm zi : Int32), k + n = 12 → 0 ≤ k → SCR g g2 fi fi2 → zi.toInt = (k : Int) → zb.toInt = b → zm.toInt = m → (∀ z g3 fi3, z.toInt = (if Wi = 0 then (bst f n k b m).2 else (bst f n k b m).1) → SCR g g3 fi fi3 → P (some (.int z)) g3 fi3 fl) → WP (d + 9) 84 31 [some (.ref 0), some (.int (bl)), some (.int (w)), some (.ref p), some (.int (zm)), some (.int (zb)), some (.int (zi))] [] g2 fi2 fl P := by
  obtain ⟨hS, hsc, hC, hK, hX, hV, hT, hP, hB, hN, hQ, hZ, hI⟩ := id hR
  obtain ⟨⟨c0, c0a, c0b⟩, ⟨c1, c1a, c1b⟩, ⟨c2, c2a, c2b⟩, ⟨c3, c3a, c3b⟩, ⟨c4, c4a, c4b⟩, ⟨c5, c5a, c5b⟩, ⟨c6, c6a, c6b⟩, ⟨c7, c7a, c7b⟩, c8, c9⟩ := id hC
  obtain ⟨hB5, hO, w32, w33, w34, w35, w36, w37, k6, v9, d9, a60, co9, r9⟩ := id hW
  obtain ⟨o0, ⟨o72, onx, oow⟩, ot, ok, on, ov, oc, oa, om, orw⟩ := id hO
  have kq := fun j (h : j < 3) => (hK j (by omega)).2
  have hk0 := kq 0 (by decide)
  have hk1 := kq 1 (by decide)
  have hk2 := kq 2 (by decide)
  replace hk0 := And.intro hk0.1 (hk0.2.2 (by decide))
  replace hk1 := And.intro hk1.1 (hk1.2.2 (by decide))
  replace hk2 := And.intro hk2.1 (hk2.2.2 (by decide))
  have hGb := goodV_bd hk0 hk1 hk2
  intro n
  induction n with
  | zero =>
    intro k b m g2 fi2 zb zm zi hkn hkl hs hzi hzb hzm kk
    have hS2 := (hR.scr hs).1
    refine wi_iload_6 ct_84_31 ?_
    refine wi_ic ct_84_33 kc_12 ?_
    refine wi_icge_t ct_84_35 hzi ki_12 (by omega) ?_
    refine wi_iload_2 ct_84_76 ?_
    refine wi_ifne ct_84_77 hw (fun h1 => ?_) (fun h1 => ?_)
    · skip
      refine wi_iload_5 ct_84_85 ?_
      refine wi_iret ct_84_87 rfl ?_
      exact kk _ _ _ (hzb.trans (if_neg (by omega)).symm) hs
    · skip
      refine wi_iload_4 ct_84_80 ?_
      refine wi_goto ct_84_82 ?_
      refine wi_iret ct_84_87 rfl ?_
      exact kk _ _ _ (hzm.trans (if_pos (by omega)).symm) hs
  | succ n ih =>
    intro k b m g2 fi2 zb zm zi hkn hkl hs hzi hzb hzm kk
    have hS2 := (hR.scr hs).1
    refine wi_iload_6 ct_84_31 ?_
    refine wi_ic ct_84_33 kc_12 ?_
    refine wi_icge_f ct_84_35 hzi ki_12 (by omega) ?_
    refine wi_aload_0 ct_84_38 ?_
    refine wi_aload_3 ct_84_39 ?_
    refine wi_iload_6 ct_84_40 ?_
    refine wi_cv2 (ls' := [some _, some _, some _]) ct_84_42 (Nat.le_of_ble_eq_true rfl) (by decide) (sT_0 hS2) rfl (by decide) rfl rfl (Nat.le_of_ble_eq_true rfl) ?_
    refine wi_aload_0 ct_108_0 ?_
    refine wi_aload_1 ct_108_1 ?_
    refine wi_cv1 (ls' := [some _, some _]) ct_108_2 (Nat.le_of_ble_eq_true rfl) (by decide) (sT_0 hS2) rfl (by decide) rfl rfl (Nat.le_of_ble_eq_true rfl) ?_
    refine c_begin hR hs hW hsq hsx (fun gb2 fb2 hsb2 hfb2 hkb2 hb2_1 hb2_2 hb2_3 hb2_4 hb2_5 hb2_6 => wk_v ?_)
    have hSb2 := (hR.scr hsb2).1
    refine wi_aload_0 ct_108_5 ?_
    refine wi_gfr ct_108_6 (sT_0 hSb2) rfl (sR_0_2 hSb2) ?_
    refine wi_dup ct_108_9 rfl ?_
    refine wi_gf (x := fi 31 1) ct_108_10 (sT_15 hSb2) rfl rfl hb2_4 ?_
    refine wi_iload_2 ct_108_13 ?_
    refine wi_iadd ct_108_14 rfl ?_
    refine wi_pf ct_108_15 (sT_15 hSb2) rfl ?_
    refine wi_aload_0 ct_108_18 ?_
    refine wi_gfr ct_108_19 (sT_0 hSb2) rfl (sR_0_2 hSb2) ?_
    refine wi_aload_1 ct_108_22 ?_
    refine wi_cv1 (ls' := [some _, some _, none]) ct_108_23 (Nat.le_of_ble_eq_true rfl) (by decide) (sT_15 hSb2) rfl (by decide) rfl rfl (Nat.le_of_ble_eq_true rfl) ?_
    refine c_runR (cd2 := cd) (aim2 := aim) (G := (goodV (fi 38 0).toInt (fi 38 1).toInt (fi 38 2).toInt)) (m0 := (fi 31 1).toInt + k) (gust := 0) (calm := false) hR (hsb2.w (by omega)) hW (hkb2.fr (fun q hq => (funext fun _ => up2_nq (by omega)))) (((congrArg Int32.toInt (up2_nj (by decide))).trans hb2_1).trans (by omega)) (((congrArg Int32.toInt (up2_nj (by decide))).trans hb2_2).trans (by omega)) (((congrArg Int32.toInt (up2_nj (by decide))).trans hb2_3).trans (by omega)) (((congrArg Int32.toInt up2_eq).trans (i_add rfl hzi (by omega))).trans (by omega)) (((congrArg Int32.toInt (Eq.trans (up2_nj (by decide)) hb2_5)).trans ki_0).trans (by omega)) ((Eq.trans (up2_nj (by decide)) hb2_6).trans rfl) (by omega) (by omega) (by omega) (by omega) (by omega) (fun Rr3 fr3 hr3_e hsr3 hr3_f hr3_7 hr3_11 hr3_12 hr3_10 hr3_4 hr3_13 hr3_j => wk_v ?_)
    have hSr3 := (hR.scr hsr3).1
    have hbdr3 := goR_bd (SQs_v hsq) (by omega) ((film_bd d9 hGb).2) hr3_e
    have hF : (fr3 15 11).toInt = f k := hr3_11.trans (by rw [hr3_e, hf])
    refine wi_ret ct_108_26 (wk_v ?_)
    refine wi_aload_0 ct_84_45 ?_
    refine wi_gfr ct_84_46 (sT_0 hSr3) rfl (sR_0_2 hSr3) ?_
    refine wi_gf (x := fr3 15 11) ct_84_49 (sT_15 hSr3) rfl rfl rfl ?_
    refine wi_iload_4 ct_84_52 ?_
    refine wi_icle ct_84_54 hF hzm (fun h4 => ?_) (fun h4 => ?_)
    · skip
      refine wi_iinc_6 rfl (z := (zi + 1)) ct_84_70 (by rw [kc_1]) ?_
      refine wi_goto ct_84_73 ?_
      rw [bst_f (show f k ≤ m by omega)] at kk
      exact ih (k + 1) _ _ _ _ _ _ _ (by omega) (by omega) hsr3 ((i_add hzi ki_1 (by omega)).trans (by omega)) hzb hzm kk
    · skip
      refine wi_aload_0 ct_84_57 ?_
      refine wi_gfr ct_84_58 (sT_0 hSr3) rfl (sR_0_2 hSr3) ?_
      refine wi_gf (x := fr3 15 11) ct_84_61 (sT_15 hSr3) rfl rfl rfl ?_
      refine wi_istore_4 rfl ct_84_64 ?_
      refine wi_iload_6 ct_84_66 ?_
      refine wi_istore_5 rfl ct_84_68 ?_
      refine wi_iinc_6 rfl (z := (zi + 1)) ct_84_70 (by rw [kc_1]) ?_
      refine wi_goto ct_84_73 ?_
      rw [bst_t (show m < f k by omega)] at kk
      exact ih (k + 1) _ _ _ _ _ _ _ (by omega) (by omega) hsr3 ((i_add hzi ki_1 (by omega)).trans (by omega)) hzi hF kk
set_option maxHeartbeats 2000000 in
theorem vl_maim {L : Nat} {xs : Nat → Int32} {own : Nat → Nat} {d : Nat} {g : am_G} {fi : am_I} {fl : am_L} {P : Option Value → am_G → am_I → am_L → Prop} {sq : Option sq_T} {B p r : Nat} {kd v cd aim co : Int} {row : Nat → Int} {f : Nat → Int} {w : Int32} {Wi : Int} {bb was was2 : Int32} (hR : Rel L xs own g fi fl) (hW : BLW own g fi B p r kd v cd aim co row) (hsq : SQs fi sq) (hf : ∀ k : Nat, f k = gBr (mkLk sq B kd v) (goL (mkLk sq B kd v) kd v k row 0 false 30 0 ((fi 31 1).toInt) 0 (cd * (goodV (fi 38 0).toInt (fi 38 1).toInt (fi 38 2).toInt)))) (hw : w.toInt = Wi) (hW01 : 0 ≤ Wi ∧ Wi ≤ 1) (hbb : bb.toInt = (B : Int)) (hwas : fi 35 B = was) : ∀ (n k : Nat) (b m : Int) (g2 : am_G) (fi2 : am_I) (zb zm zi x y : Int32) (l8 : Option Value), k + n = 61 → 1 ≤ k → SCR g g2 (up2 fi 35 B x) fi2 → zi.toInt = (k : Int) → zb.toInt = b → zm.toInt = m → am_nl l8 = true → (∀ z fi3, z.toInt = (if Wi = 0 then (bst f n k b m).1 else (bst f n k b m).2) → SCR g g2 fi fi3 → P (some (.int z)) g2 fi3 fl) → WP (d + 9) 161 36 [some (.ref 31), some (.int (bb)), some (.int (w)), some (.int (was)), some (.int (zb)), some (.int (zm)), some (.int (zi)), l8] [] g2 fi2 fl P := by
  obtain ⟨hS, hsc, hC, hK, hX, hV, hT, hP, hB, hN, hQ, hZ, hI⟩ := id hR
  obtain ⟨⟨c0, c0a, c0b⟩, ⟨c1, c1a, c1b⟩, ⟨c2, c2a, c2b⟩, ⟨c3, c3a, c3b⟩, ⟨c4, c4a, c4b⟩, ⟨c5, c5a, c5b⟩, ⟨c6, c6a, c6b⟩, ⟨c7, c7a, c7b⟩, c8, c9⟩ := id hC
  obtain ⟨hB5, hO, w32, w33, w34, w35, w36, w37, k6, v9, d9, a60, co9, r9⟩ := id hW
  obtain ⟨o0, ⟨o72, onx, oow⟩, ot, ok, on, ov, oc, oa, om, orw⟩ := id hO
  have kq := fun j (h : j < 3) => (hK j (by omega)).2
  have hk0 := kq 0 (by decide)
  have hk1 := kq 1 (by decide)
  have hk2 := kq 2 (by decide)
  replace hk0 := And.intro hk0.1 (hk0.2.2 (by decide))
  replace hk1 := And.intro hk1.1 (hk1.2.2 (by decide))
  replace hk2 := And.intro hk2.1 (hk2.2.2 (by decide))
  have hGb := goodV_bd hk0 hk1 hk2
  have hmb := MB.of hR hW hsq
  intro n
  induction n with
  | zero =>
    intro k b m g2 fi2 zb zm zi x y l8 hkn hkl hs hzi hzb hzm h8 kk
    have hS2 := hs.1.SF hS
    refine wi_iload_6 ct_161_36 ?_
    refine wi_ic ct_161_38 kc_61 ?_
    refine wi_icge_t ct_161_40 hzi ki_61 (by omega) ?_
    refine wi_aload_0 ct_161_86 ?_
    refine wi_gfr ct_161_87 (sT_31 hS2) rfl (sR_31_5 hS2) ?_
    refine wi_iload_1 ct_161_90 ?_
    refine wi_iload_3 ct_161_91 ?_
    refine wi_iast ct_161_92 (sT_35 hS2) (sL_35 hS2) (i_in hbb (by omega)) (i_cl (k := B) hbb (by omega)) ?_
    refine wi_iload_2 ct_161_93 ?_
    refine wi_ifne ct_161_94 hw (fun h1 => ?_) (fun h1 => ?_)
    · skip
      refine wi_iload_5 ct_161_102 ?_
      refine wi_iret ct_161_104 rfl ?_
      exact kk _ _ (hzm.trans (if_neg (by omega)).symm) (hs.wr hwas)
    · skip
      refine wi_iload_4 ct_161_97 ?_
      refine wi_goto ct_161_99 ?_
      refine wi_iret ct_161_104 rfl ?_
      exact kk _ _ (hzb.trans (if_pos (by omega)).symm) (hs.wr hwas)
  | succ n ih =>
    intro k b m g2 fi2 zb zm zi x y l8 hkn hkl hs hzi hzb hzm h8 kk
    have hS2 := hs.1.SF hS
    refine wi_iload_6 ct_161_36 ?_
    refine wi_ic ct_161_38 kc_61 ?_
    refine wi_icge_f ct_161_40 hzi ki_61 (by omega) ?_
    refine wi_aload_0 ct_161_43 ?_
    refine wi_gfr ct_161_44 (sT_31 hS2) rfl (sR_31_5 hS2) ?_
    refine wi_iload_1 ct_161_47 ?_
    refine wi_iload_6 ct_161_48 ?_
    refine wi_iast ct_161_50 (sT_35 hS2) (sL_35 hS2) (i_in hbb (by omega)) (i_cl (k := B) hbb (by omega)) ?_
    refine wi_aload_0 ct_161_51 ?_
    refine wi_iload_1 ct_161_52 ?_
    refine wi_aload_0 ct_161_53 ?_
    refine wi_gf (x := fi 31 1) ct_161_54 (sT_31 hS2) rfl rfl (Eq.trans (up2_nq (by decide)) (Eq.trans (hs.2.2.2 1 (by omega)) (up2_nq (by decide)))) ?_
    refine wi_cv2 (ls' := [some _, some _, some _]) ct_161_57 (Nat.le_of_ble_eq_true rfl) (by decide) (sT_31 hS2) rfl (by decide) rfl rfl (Nat.le_of_ble_eq_true rfl) ?_
    refine wi_aload_0 ct_160_0 ?_
    refine wi_iload_1 ct_160_1 ?_
    refine wi_iload_2 ct_160_2 ?_
    refine wi_cv2 (ls' := [some _, some _, some _, none, none, none, none]) ct_160_3 (Nat.le_of_ble_eq_true rfl) (by decide) (sT_31 hS2) rfl (by decide) rfl rfl (Nat.le_of_ble_eq_true rfl) ?_
    refine c_goR (m0 := (fi 31 1).toInt) hS2 (hmb.aimq hzi (by omega)) hs.wx hbb (by omega) (by omega) (fun Ro2 fo2 ho2_e hso2 ho2_f ho2_30 ho2_31 ho2_32 ho2_33 ho2_34 => wk_v ?_)
    have hbdo2 := goR_bd (SQs_v hsq) (by omega) ((film_bd d9 hGb).2) ho2_e
    have hF : (fo2 31 32).toInt = f k := ho2_32.trans (by rw [ho2_e, hf])
    refine wi_aload_0 ct_160_6 ?_
    refine wi_gf (x := fo2 31 32) ct_160_7 (sT_31 hS2) rfl rfl rfl ?_
    refine wi_iret ct_160_10 rfl (wk_i ?_)
    refine wi_istore_7 rfl ct_161_60 ?_
    refine wi_iload_7 ct_161_62 ?_
    refine wi_iload_5 ct_161_64 ?_
    refine wi_icgt ct_161_66 hF hzm (fun h3 => ?_) (fun h3 => ?_)
    · skip
      refine wi_iload_6 ct_161_72 ?_
      refine wi_istore_4 rfl ct_161_74 ?_
      refine wi_iload_7 ct_161_76 ?_
      refine wi_istore_5 rfl ct_161_78 ?_
      refine wi_iinc_6 rfl (z := (zi + 1)) ct_161_80 (by rw [kc_1]) ?_
      refine wi_goto ct_161_83 ?_
      rw [bst_t (show m < f k by omega)] at kk
      exact ih (k + 1) _ _ _ _ _ _ _ zi 0 _ (by omega) (by omega) hso2 ((i_add hzi ki_1 (by omega)).trans (by omega)) hzi hF rfl kk
    · skip
      refine wi_goto ct_161_69 ?_
      refine wi_iinc_6 rfl (z := (zi + 1)) ct_161_80 (by rw [kc_1]) ?_
      refine wi_goto ct_161_83 ?_
      rw [bst_f (show f k ≤ m by omega)] at kk
      exact ih (k + 1) _ _ _ _ _ _ _ zi 0 _ (by omega) (by omega) hso2 ((i_add hzi ki_1 (by omega)).trans (by omega)) hzb hzm rfl kk
set_option maxHeartbeats 2000000 in
theorem vl_mcord {L : Nat} {xs : Nat → Int32} {own : Nat → Nat} {d : Nat} {g : am_G} {fi : am_I} {fl : am_L} {P : Option Value → am_G → am_I → am_L → Prop} {sq : Option sq_T} {B p r : Nat} {kd v cd aim co : Int} {row : Nat → Int} {f : Nat → Int} {w : Int32} {Wi : Int} {bb was was2 : Int32} (hR : Rel L xs own g fi fl) (hW : BLW own g fi B p r kd v cd aim co row) (hsq : SQs fi sq) (hf : ∀ k : Nat, f k = gBr (mkLk sq B kd v) (goL (mkLk sq B kd v) kd v aim row 0 false 30 0 ((fi 31 1).toInt) 0 (k * (goodV (fi 38 0).toInt (fi 38 1).toInt (fi 38 2).toInt)))) (hw : w.toInt = Wi) (hW01 : 0 ≤ Wi ∧ Wi ≤ 1) (hbb : bb.toInt = (B : Int)) (hwas : fi 34 B = was) : ∀ (n k : Nat) (b m : Int) (g2 : am_G) (fi2 : am_I) (zb zm zi x y : Int32) (l8 : Option Value), k + n = 10 → 1 ≤ k → SCR g g2 (up2 fi 34 B x) fi2 → zi.toInt = (k : Int) → zb.toInt = b → zm.toInt = m → am_nl l8 = true → (∀ z fi3, z.toInt = (if Wi = 0 then (bst f n k b m).1 else (bst f n k b m).2) → SCR g g2 fi fi3 → P (some (.int z)) g2 fi3 fl) → WP (d + 9) 162 36 [some (.ref 31), some (.int (bb)), some (.int (w)), some (.int (was)), some (.int (zb)), some (.int (zm)), some (.int (zi)), l8] [] g2 fi2 fl P := by
  obtain ⟨hS, hsc, hC, hK, hX, hV, hT, hP, hB, hN, hQ, hZ, hI⟩ := id hR
  obtain ⟨⟨c0, c0a, c0b⟩, ⟨c1, c1a, c1b⟩, ⟨c2, c2a, c2b⟩, ⟨c3, c3a, c3b⟩, ⟨c4, c4a, c4b⟩, ⟨c5, c5a, c5b⟩, ⟨c6, c6a, c6b⟩, ⟨c7, c7a, c7b⟩, c8, c9⟩ := id hC
  obtain ⟨hB5, hO, w32, w33, w34, w35, w36, w37, k6, v9, d9, a60, co9, r9⟩ := id hW
  obtain ⟨o0, ⟨o72, onx, oow⟩, ot, ok, on, ov, oc, oa, om, orw⟩ := id hO
  have kq := fun j (h : j < 3) => (hK j (by omega)).2
  have hk0 := kq 0 (by decide)
  have hk1 := kq 1 (by decide)
  have hk2 := kq 2 (by decide)
  replace hk0 := And.intro hk0.1 (hk0.2.2 (by decide))
  replace hk1 := And.intro hk1.1 (hk1.2.2 (by decide))
  replace hk2 := And.intro hk2.1 (hk2.2.2 (by decide))
  have hGb := goodV_bd hk0 hk1 hk2
  have hmb := MB.of hR hW hsq
  intro n
  induction n with
  | zero =>
    intro k b m g2 fi2 zb zm zi x y l8 hkn hkl hs hzi hzb hzm h8 kk
    have hS2 := hs.1.SF hS
    refine wi_iload_6 ct_162_36 ?_
    refine wi_ic ct_162_38 kc_10 ?_
    refine wi_icge_t ct_162_40 hzi ki_10 (by omega) ?_
    refine wi_aload_0 ct_162_86 ?_
    refine wi_gfr ct_162_87 (sT_31 hS2) rfl (sR_31_4 hS2) ?_
    refine wi_iload_1 ct_162_90 ?_
    refine wi_iload_3 ct_162_91 ?_
    refine wi_iast ct_162_92 (sT_34 hS2) (sL_34 hS2) (i_in hbb (by omega)) (i_cl (k := B) hbb (by omega)) ?_
    refine wi_iload_2 ct_162_93 ?_
    refine wi_ifne ct_162_94 hw (fun h1 => ?_) (fun h1 => ?_)
    · skip
      refine wi_iload_5 ct_162_102 ?_
      refine wi_iret ct_162_104 rfl ?_
      exact kk _ _ (hzm.trans (if_neg (by omega)).symm) (hs.wr hwas)
    · skip
      refine wi_iload_4 ct_162_97 ?_
      refine wi_goto ct_162_99 ?_
      refine wi_iret ct_162_104 rfl ?_
      exact kk _ _ (hzb.trans (if_pos (by omega)).symm) (hs.wr hwas)
  | succ n ih =>
    intro k b m g2 fi2 zb zm zi x y l8 hkn hkl hs hzi hzb hzm h8 kk
    have hS2 := hs.1.SF hS
    refine wi_iload_6 ct_162_36 ?_
    refine wi_ic ct_162_38 kc_10 ?_
    refine wi_icge_f ct_162_40 hzi ki_10 (by omega) ?_
    refine wi_aload_0 ct_162_43 ?_
    refine wi_gfr ct_162_44 (sT_31 hS2) rfl (sR_31_4 hS2) ?_
    refine wi_iload_1 ct_162_47 ?_
    refine wi_iload_6 ct_162_48 ?_
    refine wi_iast ct_162_50 (sT_34 hS2) (sL_34 hS2) (i_in hbb (by omega)) (i_cl (k := B) hbb (by omega)) ?_
    refine wi_aload_0 ct_162_51 ?_
    refine wi_iload_1 ct_162_52 ?_
    refine wi_aload_0 ct_162_53 ?_
    refine wi_gf (x := fi 31 1) ct_162_54 (sT_31 hS2) rfl rfl (Eq.trans (up2_nq (by decide)) (Eq.trans (hs.2.2.2 1 (by omega)) (up2_nq (by decide)))) ?_
    refine wi_cv2 (ls' := [some _, some _, some _]) ct_162_57 (Nat.le_of_ble_eq_true rfl) (by decide) (sT_31 hS2) rfl (by decide) rfl rfl (Nat.le_of_ble_eq_true rfl) ?_
    refine wi_aload_0 ct_160_0 ?_
    refine wi_iload_1 ct_160_1 ?_
    refine wi_iload_2 ct_160_2 ?_
    refine wi_cv2 (ls' := [some _, some _, some _, none, none, none, none]) ct_160_3 (Nat.le_of_ble_eq_true rfl) (by decide) (sT_31 hS2) rfl (by decide) rfl rfl (Nat.le_of_ble_eq_true rfl) ?_
    refine c_goR (m0 := (fi 31 1).toInt) hS2 (hmb.cord hzi (by omega)) hs.wx hbb (by omega) (by omega) (fun Ro2 fo2 ho2_e hso2 ho2_f ho2_30 ho2_31 ho2_32 ho2_33 ho2_34 => wk_v ?_)
    have hbdo2 := goR_bd (SQs_v hsq) (by omega) ((film_bd (c := (k : Int)) (by omega) hGb).2) ho2_e
    have hF : (fo2 31 32).toInt = f k := ho2_32.trans (by rw [ho2_e, hf])
    refine wi_aload_0 ct_160_6 ?_
    refine wi_gf (x := fo2 31 32) ct_160_7 (sT_31 hS2) rfl rfl rfl ?_
    refine wi_iret ct_160_10 rfl (wk_i ?_)
    refine wi_istore_7 rfl ct_162_60 ?_
    refine wi_iload_7 ct_162_62 ?_
    refine wi_iload_5 ct_162_64 ?_
    refine wi_icgt ct_162_66 hF hzm (fun h3 => ?_) (fun h3 => ?_)
    · skip
      refine wi_iload_6 ct_162_72 ?_
      refine wi_istore_4 rfl ct_162_74 ?_
      refine wi_iload_7 ct_162_76 ?_
      refine wi_istore_5 rfl ct_162_78 ?_
      refine wi_iinc_6 rfl (z := (zi + 1)) ct_162_80 (by rw [kc_1]) ?_
      refine wi_goto ct_162_83 ?_
      rw [bst_t (show m < f k by omega)] at kk
      exact ih (k + 1) _ _ _ _ _ _ _ zi 0 _ (by omega) (by omega) hso2 ((i_add hzi ki_1 (by omega)).trans (by omega)) hzi hF rfl kk
    · skip
      refine wi_goto ct_162_69 ?_
      refine wi_iinc_6 rfl (z := (zi + 1)) ct_162_80 (by rw [kc_1]) ?_
      refine wi_goto ct_162_83 ?_
      rw [bst_f (show f k ≤ m by omega)] at kk
      exact ih (k + 1) _ _ _ _ _ _ _ zi 0 _ (by omega) (by omega) hso2 ((i_add hzi ki_1 (by omega)).trans (by omega)) hzb hzm rfl kk
set_option maxHeartbeats 2000000 in
theorem vl_mmix {L : Nat} {xs : Nat → Int32} {own : Nat → Nat} {d : Nat} {g : am_G} {fi : am_I} {fl : am_L} {P : Option Value → am_G → am_I → am_L → Prop} {sq : Option sq_T} {B p r : Nat} {kd v cd aim co : Int} {row : Nat → Int} {f : Nat → Int} {w : Int32} {Wi : Int} {bb was was2 : Int32} (hR : Rel L xs own g fi fl) (hW : BLW own g fi B p r kd v cd aim co row) (hsq : SQs fi sq) (hf : ∀ k : Nat, f k = gBr (mkLk sq B kd v) (goL (mkLk sq B kd v) kd v aim row 0 false 30 0 ((fi 31 1).toInt) 0 (cd * (goodV ((k : Int) / 10) ((k : Int) % 10) (fi 38 2).toInt)))) (hw : w.toInt = Wi) (hW01 : 0 ≤ Wi ∧ Wi ≤ 1) (hbb : bb.toInt = (B : Int)) (hwas : fi 38 0 = was) (hwas2 : fi 38 1 = was2) : ∀ (n k : Nat) (b m : Int) (g2 : am_G) (fi2 : am_I) (zb zm zi x y : Int32) (l8 : Option Value), k + n = 100 → 0 ≤ k → SCR g g2 (up2 (up2 fi 38 0 x) 38 1 y) fi2 → zi.toInt = (k : Int) → zb.toInt = b → zm.toInt = m → am_nl l8 = true → (∀ z fi3, z.toInt = (if Wi = 0 then (bst f n k b m).1 else (bst f n k b m).2) → SCR g g2 fi fi3 → P (some (.int z)) g2 fi3 fl) → WP (d + 9) 163 44 [some (.ref 31), some (.int (bb)), some (.int (w)), some (.int (was)), some (.int (was2)), some (.int (zb)), some (.int (zm)), some (.int (zi)), l8] [] g2 fi2 fl P := by
  obtain ⟨hS, hsc, hC, hK, hX, hV, hT, hP, hB, hN, hQ, hZ, hI⟩ := id hR
  obtain ⟨⟨c0, c0a, c0b⟩, ⟨c1, c1a, c1b⟩, ⟨c2, c2a, c2b⟩, ⟨c3, c3a, c3b⟩, ⟨c4, c4a, c4b⟩, ⟨c5, c5a, c5b⟩, ⟨c6, c6a, c6b⟩, ⟨c7, c7a, c7b⟩, c8, c9⟩ := id hC
  obtain ⟨hB5, hO, w32, w33, w34, w35, w36, w37, k6, v9, d9, a60, co9, r9⟩ := id hW
  obtain ⟨o0, ⟨o72, onx, oow⟩, ot, ok, on, ov, oc, oa, om, orw⟩ := id hO
  have kq := fun j (h : j < 3) => (hK j (by omega)).2
  have hk0 := kq 0 (by decide)
  have hk1 := kq 1 (by decide)
  have hk2 := kq 2 (by decide)
  replace hk0 := And.intro hk0.1 (hk0.2.2 (by decide))
  replace hk1 := And.intro hk1.1 (hk1.2.2 (by decide))
  replace hk2 := And.intro hk2.1 (hk2.2.2 (by decide))
  have hGb := goodV_bd hk0 hk1 hk2
  have hmb := MB.of hR hW hsq
  intro n
  induction n with
  | zero =>
    intro k b m g2 fi2 zb zm zi x y l8 hkn hkl hs hzi hzb hzm h8 kk
    have hS2 := hs.1.SF hS
    refine wi_iload_7 ct_163_44 ?_
    refine wi_ic ct_163_46 kc_100 ?_
    refine wi_icge_t ct_163_48 hzi ki_100 (by omega) ?_
    refine wi_aload_0 ct_163_108 ?_
    refine wi_gfr ct_163_109 (sT_31 hS2) rfl (sR_31_8 hS2) ?_
    refine wi_ic ct_163_112 kc_0 ?_
    refine wi_iload_3 ct_163_113 ?_
    refine wi_iast ct_163_114 (sT_38 hS2) (sL_38 hS2) (by decide) kn_c0 ?_
    refine wi_aload_0 ct_163_115 ?_
    refine wi_gfr ct_163_116 (sT_31 hS2) rfl (sR_31_8 hS2) ?_
    refine wi_ic ct_163_119 kc_1 ?_
    refine wi_iload_4 ct_163_120 ?_
    refine wi_iast ct_163_122 (sT_38 hS2) (sL_38 hS2) (by decide) kn_c1 ?_
    refine wi_iload_2 ct_163_123 ?_
    refine wi_ifne ct_163_124 hw (fun h1 => ?_) (fun h1 => ?_)
    · skip
      refine wi_iload_6 ct_163_132 ?_
      refine wi_iret ct_163_134 rfl ?_
      exact kk _ _ (hzm.trans (if_neg (by omega)).symm) (hs.wr2 (by decide) hwas hwas2)
    · skip
      refine wi_iload_5 ct_163_127 ?_
      refine wi_goto ct_163_129 ?_
      refine wi_iret ct_163_134 rfl ?_
      exact kk _ _ (hzb.trans (if_pos (by omega)).symm) (hs.wr2 (by decide) hwas hwas2)
  | succ n ih =>
    intro k b m g2 fi2 zb zm zi x y l8 hkn hkl hs hzi hzb hzm h8 kk
    have hS2 := hs.1.SF hS
    have hGk := goodV_bd (X := (k : Int) / 10) (Y := (k : Int) % 10) (Z := (fi 38 2).toInt) (by omega) (by omega) hk2
    refine wi_iload_7 ct_163_44 ?_
    refine wi_ic ct_163_46 kc_100 ?_
    refine wi_icge_f ct_163_48 hzi ki_100 (by omega) ?_
    refine wi_aload_0 ct_163_51 ?_
    refine wi_gfr ct_163_52 (sT_31 hS2) rfl (sR_31_8 hS2) ?_
    refine wi_ic ct_163_55 kc_0 ?_
    refine wi_iload_7 ct_163_56 ?_
    refine wi_ic ct_163_58 kc_10 ?_
    refine wi_idiv ct_163_60 (by decide) rfl ?_
    refine wi_iast ct_163_61 (sT_38 hS2) (sL_38 hS2) (by decide) kn_c0 ?_
    refine wi_aload_0 ct_163_62 ?_
    refine wi_gfr ct_163_63 (sT_31 hS2) rfl (sR_31_8 hS2) ?_
    refine wi_ic ct_163_66 kc_1 ?_
    refine wi_iload_7 ct_163_67 ?_
    refine wi_ic ct_163_69 kc_10 ?_
    refine wi_irem ct_163_71 (by decide) rfl ?_
    refine wi_iast ct_163_72 (sT_38 hS2) (sL_38 hS2) (by decide) kn_c1 ?_
    refine wi_aload_0 ct_163_73 ?_
    refine wi_iload_1 ct_163_74 ?_
    refine wi_aload_0 ct_163_75 ?_
    refine wi_gf (x := fi 31 1) ct_163_76 (sT_31 hS2) rfl rfl (Eq.trans (up2_nq (by decide)) (Eq.trans (up2_nq (by decide)) (Eq.trans (hs.2.2.2 1 (by omega)) (Eq.trans (up2_nq (by decide)) (up2_nq (by decide)))))) ?_
    refine wi_cv2 (ls' := [some _, some _, some _]) ct_163_79 (Nat.le_of_ble_eq_true rfl) (by decide) (sT_31 hS2) rfl (by decide) rfl rfl (Nat.le_of_ble_eq_true rfl) ?_
    refine wi_aload_0 ct_160_0 ?_
    refine wi_iload_1 ct_160_1 ?_
    refine wi_iload_2 ct_160_2 ?_
    refine wi_cv2 (ls' := [some _, some _, some _, none, none, none, none]) ct_160_3 (Nat.le_of_ble_eq_true rfl) (by decide) (sT_31 hS2) rfl (by decide) rfl rfl (Nat.le_of_ble_eq_true rfl) ?_
    refine c_goR (m0 := (fi 31 1).toInt) hS2 ((hmb.soap (i_div hzi ki_10 (by omega) (by omega)) (by omega)).sugar (i_rem hzi ki_10 (by omega) (by omega)) (by omega)) (hs.wx2 (by decide)) hbb (by omega) (by omega) (fun Ro2 fo2 ho2_e hso2 ho2_f ho2_30 ho2_31 ho2_32 ho2_33 ho2_34 => wk_v ?_)
    have hbdo2 := goR_bd (SQs_v hsq) (by omega) ((film_bd d9 hGk).2) ho2_e
    have hF : (fo2 31 32).toInt = f k := ho2_32.trans (by rw [ho2_e, hf])
    refine wi_aload_0 ct_160_6 ?_
    refine wi_gf (x := fo2 31 32) ct_160_7 (sT_31 hS2) rfl rfl rfl ?_
    refine wi_iret ct_160_10 rfl (wk_i ?_)
    refine wi_istore_8 rfl ct_163_82 ?_
    refine wi_iload_8 ct_163_84 ?_
    refine wi_iload_6 ct_163_86 ?_
    refine wi_icgt ct_163_88 hF hzm (fun h3 => ?_) (fun h3 => ?_)
    · skip
      refine wi_iload_7 ct_163_94 ?_
      refine wi_istore_5 rfl ct_163_96 ?_
      refine wi_iload_8 ct_163_98 ?_
      refine wi_istore_6 rfl ct_163_100 ?_
      refine wi_iinc_7 rfl (z := (zi + 1)) ct_163_102 (by rw [kc_1]) ?_
      refine wi_goto ct_163_105 ?_
      rw [bst_t (show m < f k by omega)] at kk
      exact ih (k + 1) _ _ _ _ _ _ _ _ _ _ (by omega) (by omega) hso2 ((i_add hzi ki_1 (by omega)).trans (by omega)) hzi hF rfl kk
    · skip
      refine wi_goto ct_163_91 ?_
      refine wi_iinc_7 rfl (z := (zi + 1)) ct_163_102 (by rw [kc_1]) ?_
      refine wi_goto ct_163_105 ?_
      rw [bst_f (show f k ≤ m by omega)] at kk
      exact ih (k + 1) _ _ _ _ _ _ _ _ _ _ (by omega) (by omega) hso2 ((i_add hzi ki_1 (by omega)).trans (by omega)) hzb hzm rfl kk
set_option maxHeartbeats 2000000 in
theorem vl_mwhen {L : Nat} {xs : Nat → Int32} {own : Nat → Nat} {d : Nat} {g : am_G} {fi : am_I} {fl : am_L} {P : Option Value → am_G → am_I → am_L → Prop} {sq : Option sq_T} {B p r : Nat} {kd v cd aim co : Int} {row : Nat → Int} {f : Nat → Int} {w : Int32} {Wi : Int} {bb was was2 : Int32} (hR : Rel L xs own g fi fl) (hW : BLW own g fi B p r kd v cd aim co row) (hsq : SQs fi sq) (hf : ∀ k : Nat, f k = gBr (mkLk sq B kd v) (goL (mkLk sq B kd v) kd v aim row 0 false 30 0 ((fi 31 1).toInt + k) 0 (cd * (goodV (fi 38 0).toInt (fi 38 1).toInt (fi 38 2).toInt)))) (hw : w.toInt = Wi) (hW01 : 0 ≤ Wi ∧ Wi ≤ 1) (hbb : bb.toInt = (B : Int))  : ∀ (n k : Nat) (b m : Int) (g2 : am_G) (fi2 : am_I) (zb zm zi x y : Int32) (l8 : Option Value), k + n = 24 → 0 ≤ k → SCR g g2 fi fi2 → zi.toInt = (k : Int) → zb.toInt = b → zm.toInt = m → am_nl l8 = true → (∀ z fi3, z.toInt = (if Wi = 0 then (bst f n k b m).1 else (bst f n k b m).2) → SCR g g2 fi fi3 → P (some (.int z)) g2 fi3 fl) → WP (d + 9) 164 28 [some (.ref 31), some (.int (bb)), some (.int (w)), some (.int (zb)), some (.int (zm)), some (.int (zi)), l8] [] g2 fi2 fl P := by
  obtain ⟨hS, hsc, hC, hK, hX, hV, hT, hP, hB, hN, hQ, hZ, hI⟩ := id hR
  obtain ⟨⟨c0, c0a, c0b⟩, ⟨c1, c1a, c1b⟩, ⟨c2, c2a, c2b⟩, ⟨c3, c3a, c3b⟩, ⟨c4, c4a, c4b⟩, ⟨c5, c5a, c5b⟩, ⟨c6, c6a, c6b⟩, ⟨c7, c7a, c7b⟩, c8, c9⟩ := id hC
  obtain ⟨hB5, hO, w32, w33, w34, w35, w36, w37, k6, v9, d9, a60, co9, r9⟩ := id hW
  obtain ⟨o0, ⟨o72, onx, oow⟩, ot, ok, on, ov, oc, oa, om, orw⟩ := id hO
  have kq := fun j (h : j < 3) => (hK j (by omega)).2
  have hk0 := kq 0 (by decide)
  have hk1 := kq 1 (by decide)
  have hk2 := kq 2 (by decide)
  replace hk0 := And.intro hk0.1 (hk0.2.2 (by decide))
  replace hk1 := And.intro hk1.1 (hk1.2.2 (by decide))
  replace hk2 := And.intro hk2.1 (hk2.2.2 (by decide))
  have hGb := goodV_bd hk0 hk1 hk2
  have hmb := MB.of hR hW hsq
  intro n
  induction n with
  | zero =>
    intro k b m g2 fi2 zb zm zi x y l8 hkn hkl hs hzi hzb hzm h8 kk
    have hS2 := hs.1.SF hS
    refine wi_iload_5 ct_164_28 ?_
    refine wi_ic ct_164_30 kc_24 ?_
    refine wi_icge_t ct_164_32 hzi ki_24 (by omega) ?_
    refine wi_iload_2 ct_164_72 ?_
    refine wi_ifne ct_164_73 hw (fun h1 => ?_) (fun h1 => ?_)
    · skip
      refine wi_iload_4 ct_164_80 ?_
      refine wi_iret ct_164_82 rfl ?_
      exact kk _ _ (hzm.trans (if_neg (by omega)).symm) hs
    · skip
      refine wi_iload_3 ct_164_76 ?_
      refine wi_goto ct_164_77 ?_
      refine wi_iret ct_164_82 rfl ?_
      exact kk _ _ (hzb.trans (if_pos (by omega)).symm) hs
  | succ n ih =>
    intro k b m g2 fi2 zb zm zi x y l8 hkn hkl hs hzi hzb hzm h8 kk
    have hS2 := hs.1.SF hS
    refine wi_iload_5 ct_164_28 ?_
    refine wi_ic ct_164_30 kc_24 ?_
    refine wi_icge_f ct_164_32 hzi ki_24 (by omega) ?_
    refine wi_aload_0 ct_164_35 ?_
    refine wi_iload_1 ct_164_36 ?_
    refine wi_aload_0 ct_164_37 ?_
    refine wi_gf (x := fi 31 1) ct_164_38 (sT_31 hS2) rfl rfl (hs.2.2.2 1 (by omega)) ?_
    refine wi_iload_5 ct_164_41 ?_
    refine wi_iadd ct_164_43 rfl ?_
    refine wi_cv2 (ls' := [some _, some _, some _]) ct_164_44 (Nat.le_of_ble_eq_true rfl) (by decide) (sT_31 hS2) rfl (by decide) rfl rfl (Nat.le_of_ble_eq_true rfl) ?_
    refine wi_aload_0 ct_160_0 ?_
    refine wi_iload_1 ct_160_1 ?_
    refine wi_iload_2 ct_160_2 ?_
    refine wi_cv2 (ls' := [some _, some _, some _, none, none, none, none]) ct_160_3 (Nat.le_of_ble_eq_true rfl) (by decide) (sT_31 hS2) rfl (by decide) rfl rfl (Nat.le_of_ble_eq_true rfl) ?_
    refine c_goR (m0 := (fi 31 1).toInt + (k : Int)) hS2 hmb hs hbb ((i_add rfl hzi (by omega)).trans (by omega)) (by omega) (fun Ro2 fo2 ho2_e hso2 ho2_f ho2_30 ho2_31 ho2_32 ho2_33 ho2_34 => wk_v ?_)
    have hbdo2 := goR_bd (SQs_v hsq) (by omega) ((film_bd d9 hGb).2) ho2_e
    have hF : (fo2 31 32).toInt = f k := ho2_32.trans (by rw [ho2_e, hf])
    refine wi_aload_0 ct_160_6 ?_
    refine wi_gf (x := fo2 31 32) ct_160_7 (sT_31 hS2) rfl rfl rfl ?_
    refine wi_iret ct_160_10 rfl (wk_i ?_)
    refine wi_istore_6 rfl ct_164_47 ?_
    refine wi_iload_6 ct_164_49 ?_
    refine wi_iload_4 ct_164_51 ?_
    refine wi_icgt ct_164_53 hF hzm (fun h3 => ?_) (fun h3 => ?_)
    · skip
      refine wi_iload_5 ct_164_59 ?_
      refine wi_istore_3 rfl ct_164_61 ?_
      refine wi_iload_6 ct_164_62 ?_
      refine wi_istore_4 rfl ct_164_64 ?_
      refine wi_iinc_5 rfl (z := (zi + 1)) ct_164_66 (by rw [kc_1]) ?_
      refine wi_goto ct_164_69 ?_
      rw [bst_t (show m < f k by omega)] at kk
      exact ih (k + 1) _ _ _ _ _ _ _ 0 0 _ (by omega) (by omega) hso2 ((i_add hzi ki_1 (by omega)).trans (by omega)) hzi hF rfl kk
    · skip
      refine wi_goto ct_164_56 ?_
      refine wi_iinc_5 rfl (z := (zi + 1)) ct_164_66 (by rw [kc_1]) ?_
      refine wi_goto ct_164_69 ?_
      rw [bst_f (show f k ≤ m by omega)] at kk
      exact ih (k + 1) _ _ _ _ _ _ _ 0 0 _ (by omega) (by omega) hso2 ((i_add hzi ki_1 (by omega)).trans (by omega)) hzb hzm rfl kk
set_option maxHeartbeats 2000000 in
theorem vl_mlong {L : Nat} {xs : Nat → Int32} {own : Nat → Nat} {d : Nat} {g : am_G} {fi : am_I} {fl : am_L} {P : Option Value → am_G → am_I → am_L → Prop} {sq : Option sq_T} {B p r : Nat} {kd v cd aim co : Int} {row : Nat → Int} {f : Nat → Int} {w : Int32} {Wi : Int} {bb was was2 : Int32} (hR : Rel L xs own g fi fl) (hW : BLW own g fi B p r kd v cd aim co row) (hsq : SQs fi sq) (hf : ∀ k : Nat, f k = gLf (mkLk sq B kd v) (goL (mkLk sq B kd v) kd v aim row 0 false 30 0 ((fi 31 1).toInt + k) 0 (cd * (goodV (fi 38 0).toInt (fi 38 1).toInt (fi 38 2).toInt)))) (hw : w.toInt = Wi) (hW01 : 0 ≤ Wi ∧ Wi ≤ 1) (hbb : bb.toInt = (B : Int))  : ∀ (n k : Nat) (b m : Int) (g2 : am_G) (fi2 : am_I) (zb zm zi x y : Int32), k + n = 12 → 0 ≤ k → SCR g g2 fi fi2 → zi.toInt = (k : Int) → zb.toInt = b → zm.toInt = m → (∀ z fi3, z.toInt = (if Wi = 0 then (bst f n k b m).2 else (bst f n k b m).1) → SCR g g2 fi fi3 → P (some (.int z)) g2 fi3 fl) → WP (d + 9) 168 29 [some (.ref 31), some (.int (bb)), some (.int (w)), some (.int (zb)), some (.int (zm)), some (.int (zi))] [] g2 fi2 fl P := by
  obtain ⟨hS, hsc, hC, hK, hX, hV, hT, hP, hB, hN, hQ, hZ, hI⟩ := id hR
  obtain ⟨⟨c0, c0a, c0b⟩, ⟨c1, c1a, c1b⟩, ⟨c2, c2a, c2b⟩, ⟨c3, c3a, c3b⟩, ⟨c4, c4a, c4b⟩, ⟨c5, c5a, c5b⟩, ⟨c6, c6a, c6b⟩, ⟨c7, c7a, c7b⟩, c8, c9⟩ := id hC
  obtain ⟨hB5, hO, w32, w33, w34, w35, w36, w37, k6, v9, d9, a60, co9, r9⟩ := id hW
  obtain ⟨o0, ⟨o72, onx, oow⟩, ot, ok, on, ov, oc, oa, om, orw⟩ := id hO
  have kq := fun j (h : j < 3) => (hK j (by omega)).2
  have hk0 := kq 0 (by decide)
  have hk1 := kq 1 (by decide)
  have hk2 := kq 2 (by decide)
  replace hk0 := And.intro hk0.1 (hk0.2.2 (by decide))
  replace hk1 := And.intro hk1.1 (hk1.2.2 (by decide))
  replace hk2 := And.intro hk2.1 (hk2.2.2 (by decide))
  have hGb := goodV_bd hk0 hk1 hk2
  have hmb := MB.of hR hW hsq
  intro n
  induction n with
  | zero =>
    intro k b m g2 fi2 zb zm zi x y hkn hkl hs hzi hzb hzm kk
    have hS2 := hs.1.SF hS
    refine wi_iload_5 ct_168_29 ?_
    refine wi_ic ct_168_31 kc_12 ?_
    refine wi_icge_t ct_168_33 hzi ki_12 (by omega) ?_
    refine wi_iload_2 ct_168_75 ?_
    refine wi_ifne ct_168_76 hw (fun h1 => ?_) (fun h1 => ?_)
    · skip
      refine wi_iload_3 ct_168_84 ?_
      refine wi_iret ct_168_85 rfl ?_
      exact kk _ _ (hzb.trans (if_neg (by omega)).symm) hs
    · skip
      refine wi_iload_4 ct_168_79 ?_
      refine wi_goto ct_168_81 ?_
      refine wi_iret ct_168_85 rfl ?_
      exact kk _ _ (hzm.trans (if_pos (by omega)).symm) hs
  | succ n ih =>
    intro k b m g2 fi2 zb zm zi x y hkn hkl hs hzi hzb hzm kk
    have hS2 := hs.1.SF hS
    refine wi_iload_5 ct_168_29 ?_
    refine wi_ic ct_168_31 kc_12 ?_
    refine wi_icge_f ct_168_33 hzi ki_12 (by omega) ?_
    refine wi_aload_0 ct_168_36 ?_
    refine wi_iload_1 ct_168_37 ?_
    refine wi_aload_0 ct_168_38 ?_
    refine wi_gf (x := fi 31 1) ct_168_39 (sT_31 hS2) rfl rfl (hs.2.2.2 1 (by omega)) ?_
    refine wi_iload_5 ct_168_42 ?_
    refine wi_iadd ct_168_44 rfl ?_
    refine wi_cv2 (ls' := [some _, some _, some _, none, none, none, none]) ct_168_45 (Nat.le_of_ble_eq_true rfl) (by decide) (sT_31 hS2) rfl (by decide) rfl rfl (Nat.le_of_ble_eq_true rfl) ?_
    refine c_goR (m0 := (fi 31 1).toInt + (k : Int)) hS2 hmb hs hbb ((i_add rfl hzi (by omega)).trans (by omega)) (by omega) (fun Ro2 fo2 ho2_e hso2 ho2_f ho2_30 ho2_31 ho2_32 ho2_33 ho2_34 => wk_v ?_)
    have hbdo2 := goR_bd (SQs_v hsq) (by omega) ((film_bd d9 hGb).2) ho2_e
    have hF : (fo2 31 31).toInt = f k := ho2_31.trans (by rw [ho2_e, hf])
    refine wi_aload_0 ct_168_48 ?_
    refine wi_gf (x := fo2 31 31) ct_168_49 (sT_31 hS2) rfl rfl rfl ?_
    refine wi_iload_4 ct_168_52 ?_
    refine wi_icgt ct_168_54 hF hzm (fun h3 => ?_) (fun h3 => ?_)
    · skip
      refine wi_iload_5 ct_168_60 ?_
      refine wi_istore_3 rfl ct_168_62 ?_
      refine wi_aload_0 ct_168_63 ?_
      refine wi_gf (x := fo2 31 31) ct_168_64 (sT_31 hS2) rfl rfl rfl ?_
      refine wi_istore_4 rfl ct_168_67 ?_
      refine wi_iinc_5 rfl (z := (zi + 1)) ct_168_69 (by rw [kc_1]) ?_
      refine wi_goto ct_168_72 ?_
      rw [bst_t (show m < f k by omega)] at kk
      exact ih (k + 1) _ _ _ _ _ _ _ 0 0 (by omega) (by omega) hso2 ((i_add hzi ki_1 (by omega)).trans (by omega)) hzi hF kk
    · skip
      refine wi_goto ct_168_57 ?_
      refine wi_iinc_5 rfl (z := (zi + 1)) ct_168_69 (by rw [kc_1]) ?_
      refine wi_goto ct_168_72 ?_
      rw [bst_f (show f k ≤ m by omega)] at kk
      exact ih (k + 1) _ _ _ _ _ _ _ 0 0 (by omega) (by omega) hso2 ((i_add hzi ki_1 (by omega)).trans (by omega)) hzb hzm kk
