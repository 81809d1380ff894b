/-! The image. -/
def RelX (L : Nat) (xs : Nat → Int32) (own : Nat → Nat) (g : am_G) (fi : am_I) (fl : am_L) : Prop := SF L g ∧ (∀ j, fi am_SC j = xs j) ∧ RC fi ∧ RK fi ∧ RX fi ∧ RV fi ∧ RT fi ∧ RP fi fl ∧ RB own g fi ∧ RN g 2 ∧ RS own g fi ∧ RZ own g
theorem Rel.X {L : Nat} {xs : Nat → Int32} {own : Nat → Nat} {g : am_G} {fi : am_I} {fl : am_L} (h : Rel L xs own g fi fl) : RelX L xs own g fi fl ∧ RI own g fi := by
  obtain ⟨hS, hsc, hC, hK, hX, hV, hT, hP, hB, hN, hQ, hZ, hI⟩ := h
  exact ⟨⟨hS, hsc, hC, hK, hX, hV, hT, hP, hB, hN, hQ, hZ⟩, hI⟩
theorem RelX.R {L : Nat} {xs : Nat → Int32} {own : Nat → Nat} {g : am_G} {fi : am_I} {fl : am_L} (h : RelX L xs own g fi fl) (hI : RI own g fi) : Rel L xs own g fi fl := by
  obtain ⟨hS, hsc, hC, hK, hX, hV, hT, hP, hB, hN, hQ, hZ⟩ := h
  exact ⟨hS, hsc, hC, hK, hX, hV, hT, hP, hB, hN, hQ, hZ, hI⟩
theorem RelX.fr {L : Nat} {xs : Nat → Int32} {G : Nat → Prop} {own own2 : Nat → Nat} {g g2 : am_G} {fi fi2 : am_I} {fl fl2 : am_L} (hX : RelX L xs own g fi fl) (hS2 : SF L g2) (hf : rl_fr G own own2 g g2 fi fi2) (hG : ∀ o, o < 50 → G o) (ht : ∀ q, q < am_nx g → g2.1 q = g.1 q) (r2 : g2.2.2.1 2 = g.2.2.1 2) (r19 : g2.2.2.1 19 = g.2.2.1 19) (r06 : g2.2.2.1 0 6 = g.2.2.1 0 6) (hsc2 : fi2 am_SC = fi am_SC) (hw : ∀ q, q < 72 → ¬ (q = 31 ∨ 55 ≤ q ∧ q ≤ 66) → fi2 q = fi q) (m : ∀ j, ¬ (47 ≤ j ∧ j ≤ 52) → fi2 31 j = fi 31 j) (hl : ∀ q, q < 72 → fl2 q = fl q) : RelX L xs own2 g2 fi2 fl2 := by
  obtain ⟨hS, hsc, hC, hK, hX, hV, hT, hP, hB, hN, hQ, hZ⟩ := hX
  have w := hw
  refine ⟨hS2, fun j => (congrFun hsc2 j).trans (hsc j), ?_, ?_, ?_, ?_, ?_, ?_, ?_, ?_, ?_, ?_⟩
  · unfold RC
    rw [w 1 (by decide) (by decide), w 0 (by decide) (by decide), w 17 (by decide) (by decide), w 21 (by decide) (by decide), m 0 (by decide), m 1 (by decide), m 10 (by decide), m 9 (by decide), m 11 (by decide), m 40 (by decide), m 44 (by decide), m 65 (by decide), m 35 (by decide), m 36 (by decide)]
    exact hC
  · unfold RK
    rw [w 3 (by decide) (by decide), w 38 (by decide) (by decide)]
    exact hK
  · unfold RX RL
    rw [w 18 (by decide) (by decide), w 39 (by decide) (by decide), w 47 (by decide) (by decide), m 11 (by decide)]
    exact hX
  · unfold RV
    rw [w 4 (by decide) (by decide), w 5 (by decide) (by decide), w 6 (by decide) (by decide), w 7 (by decide) (by decide), w 8 (by decide) (by decide), w 50 (by decide) (by decide), w 51 (by decide) (by decide), w 52 (by decide) (by decide), w 53 (by decide) (by decide), w 54 (by decide) (by decide), m 0 (by decide), m 40 (by decide), m 44 (by decide)]
    exact hV
  · unfold RT
    rw [w 21 (by decide) (by decide), w 67 (by decide) (by decide), m 65 (by decide)]
    exact hT
  · intro t ht6
    rw [w 22 (by decide) (by decide), w 23 (by decide) (by decide), w 68 (by decide) (by decide), w 69 (by decide) (by decide), hl (25 + t) (by omega), hl 70 (by decide)]
    exact hP t ht6
  · exact hB.fr hC.1.2.2 hf (fun o ho => hG o (by omega)) (m 0 (by decide)) r2 (w 32 (by decide) (by decide)) (w 33 (by decide) (by decide)) (w 34 (by decide) (by decide)) (w 35 (by decide) (by decide)) (w 36 (by decide) (by decide)) (w 37 (by decide) (by decide))
  · exact hN.fr (fun i _ => congrFun r2 i) hf.1 ht
  · exact hQ.fr hf (hG 30 (by decide)) (m 9 (by decide)) r19 (w 40 (by decide) (by decide)) (w 41 (by decide) (by decide)) (w 42 (by decide) (by decide)) (w 43 (by decide) (by decide)) (w 44 (by decide) (by decide)) (w 45 (by decide) (by decide))
  · exact hZ.fr hf (fun o h1 h2 => hG o h2) r06
def IMv (g : am_G) (fi : am_I) (q a0 a2 a5 a6 a7 a9 a10 : Nat) (ik : Nat → Nat) : Prop := (fi q 1 = fi 31 0 ∧ fi q 3 = fi 31 1 ∧ fi q 4 = fi 31 10 ∧ fi q 8 = fi 31 40 ∧ fi q 11 = fi 31 44) ∧ RN g a0 ∧ (∀ j, j < 4 → fi a2 j = fi 38 j) ∧ (∀ j : Nat, (j : Int) < (fi 31 40).toInt → fi a5 j = fi 50 j ∧ fi a6 j = fi 51 j ∧ fi a7 j = fi 52 j) ∧ (∀ j : Nat, (j : Int) < (fi 31 44).toInt → fi a9 j = fi 53 j ∧ fi a10 j = fi 54 j) ∧ (∀ j, j < 12 → am_bit (fi a10 j) = true) ∧ ∀ b : Nat, (b : Int) < (fi 31 0).toInt → g.2.2.1 a0 b = g.2.2.1 2 b ∧ (fi (ik b) 0 = fi 34 b ∧ fi (ik b) 1 = fi 35 b ∧ fi (ik b) 2 = fi 36 b) ∧ ((fi 32 b).toInt = 6 → ∀ j, j < 4 → fi (ik b) (3 + j) = fi 37 (4 * b + j))
/-- what the reference's image does -/
def MIM (fi fi2 : am_I) : Prop := (fi2 31 47 = 1 ∧ fi2 31 48 = fi 31 10 ∧ fi2 31 49 = fi 31 0 ∧ fi2 31 50 = fi 31 1 ∧ fi2 31 51 = fi 31 40 ∧ fi2 31 52 = fi 31 44) ∧ (∀ j, ¬ (47 ≤ j ∧ j ≤ 52) → fi2 31 j = fi 31 j) ∧ (∀ q, ¬ (q = 31 ∨ 55 ≤ q ∧ q ≤ 66) → fi2 q = fi q) ∧ (∀ j, j < 5 → fi2 55 j = fi 32 j ∧ fi2 56 j = fi 33 j ∧ fi2 57 j = fi 34 j ∧ fi2 58 j = fi 35 j ∧ fi2 59 j = fi 36 j) ∧ (∀ j, j < 20 → fi2 60 j = fi 37 j) ∧ (∀ j, j < 4 → fi2 61 j = fi 38 j) ∧ (∀ j, j < 6 → fi2 62 j = fi 50 j ∧ fi2 63 j = fi 51 j ∧ fi2 64 j = fi 52 j) ∧ ∀ j, j < 12 → fi2 65 j = fi 53 j ∧ fi2 66 j = fi 54 j
theorem Rel.img {L : Nat} {xs : Nat → Int32} {own : Nat → Nat} {g : am_G} {fi fi2 : am_I} {fl : am_L} {q a0 a2 a5 a6 a7 a9 a10 a12 : Nat} {ik : Nat → Nat} (hX : RelX L xs own g fi fl) (hq : g.2.2.1 0 1 = some q) (hp : RIp own g q a0 a2 a5 a6 a7 a9 a10 a12 ik) (hv : IMv g fi q a0 a2 a5 a6 a7 a9 a10 ik) (hm : MIM fi fi2) : Rel L xs own g fi2 fl := by
  obtain ⟨⟨m47, m48, m49, m50, m51, m52⟩, m, w, mb, mr, mk, ms, mB⟩ := hm
  have hd : ∀ q, 72 ≤ q → fi2 q = fi q := fun q hq => w q (by omega)
  have h9 : am_SC = 1000000 := rfl
  refine (hX.fr (fi2 := fi2) (fl2 := fl) (own2 := own) (g2 := g) (G := fun _ => True) hX.1 (am_frL hd) (fun _ _ => trivial) (fun _ _ => rfl) rfl rfl rfl (w am_SC (by omega)) (fun q _ h => w q h) m (fun _ _ => rfl)).R ?_
  obtain ⟨hS, hsc, hC, hK, hXx, hV, hT, hP, hB, hN, hQ, hZ⟩ := hX
  obtain ⟨⟨c0, c0a, c0b⟩, ⟨c1, c1a, c1b⟩, ⟨c2, c2a, c2b⟩, ⟨c3, c3a, c3b⟩, ⟨c4, c4a, c4b⟩, ⟨c5, c5a, c5b⟩, ⟨c6, c6a, c6b⟩, ⟨c7, c7a, c7b⟩, c8, c9⟩ := hC
  refine Or.inr ⟨m47, q, a0, a2, a5, a6, a7, a9, a10, a12, ik, hq, hp, ?_⟩
  obtain ⟨p0, pr, ⟨d, d0, d2, d5, d6, d7, d9, d10, d12⟩, pt, pl, pik⟩ := hp
  obtain ⟨⟨v1, v3, v4, v8, v11⟩, vn, vk, vs, vb, vz, vB⟩ := hv
  unfold RIv
  rw [hd q d.1, hd a2 d2.1, hd a5 d5.1, hd a6 d6.1, hd a7 d7.1, hd a9 d9.1, hd a10 d10.1, m48, m49, m50, m51, m52, m 0 (by decide), m 9 (by decide), w 32 (by decide), w 33 (by decide)]
  refine ⟨⟨v1, by omega, by omega⟩, ⟨v3, by omega, by omega⟩, ⟨v4, by omega, by omega⟩, ⟨v8, by omega, by omega⟩, ⟨v11, by omega, by omega⟩, vn, fun j hj => ?_, fun j hj => ?_, fun j hj => ?_, fun j hj => ?_, fun b hb => ?_⟩
  · rw [mk j hj]
    exact ⟨vk j hj, (hK j hj).2⟩
  · obtain ⟨s1, s2, s3⟩ := ms j (by omega)
    obtain ⟨x1, x2, x3⟩ := vs j hj
    obtain ⟨y1, y2, y3, y4, y5⟩ := hV.1 j hj
    rw [s1, s2, s3]
    exact ⟨x1, x2, x3, y4, y5⟩
  · obtain ⟨s1, s2⟩ := mB j (by omega)
    obtain ⟨x1, x2⟩ := vb j hj
    obtain ⟨y1, y2, y3⟩ := hV.2.1 j hj
    rw [s1, s2]
    exact ⟨x1, x2, y3⟩
  · rw [(mB j hj).2]
    exact ⟨vz j hj, (hV.2.2 j hj).2⟩
  · have hb5 : b < 5 := by omega
    obtain ⟨s1, s2, s3, s4, s5⟩ := mb b hb5
    obtain ⟨x1, ⟨x2, x3, x4⟩, x5⟩ := vB b hb
    obtain ⟨⟨n0, n1, n2, n3, n4, n5⟩, -⟩ := hB b hb
    rw [s1, s2, s3, s4, s5, hd (ik b) (pik b hb5).2.1.1]
    refine ⟨x1, rfl, rfl, x2, x3, x4, n2, n3, n4, fun j hj => ?_⟩
    rw [mr (4 * b + j) (by omega)]
    exact ⟨n5 j hj, fun h6 => x5 h6 j hj⟩
/-- the kinds: told by 6 -/
theorem vt1_n {kd : Int} (h : kd ≠ 6) : vtk 1 kd = 2 ∧ vtk 2 kd = 3 := by
  unfold vtk am_kt
  rw [if_neg h]
  repeat' split
  all_goals exact ⟨rfl, rfl⟩
theorem vt1_t {kd : Int} (h : kd = 6) : vtk 1 kd = 58 ∧ vtk 2 kd = 59 ∧ am_kt kd = 9 := by
  subst h
  exact ⟨rfl, rfl, rfl⟩
theorem ne_o {own : Nat → Nat} {x y a b : Nat} (h1 : own x = a) (h2 : own y = b) (h : a ≠ b) : x ≠ y := fun e => h (by rw [← h1, ← h2, e])
