/-! Squares by themselves: how many clauses; their words, numbers, ends; the tokens (6: not, 7: and, 8: or, else letter, relation, limit). -/
abbrev sq_T : Type := Nat × (Nat → Nat) × (Nat → Nat) × (Nat → Nat) × (Nat → Nat × Nat × Nat)
def qN (Q : sq_T) : Nat := Q.1
def qW (Q : sq_T) : Nat → Nat := Q.2.1
def qU (Q : sq_T) : Nat → Nat := Q.2.2.1
def qE (Q : sq_T) : Nat → Nat := Q.2.2.2.1
def qT (Q : sq_T) : Nat → Nat × Nat × Nat := Q.2.2.2.2
def qF (Q : sq_T) : Nat → Nat
  | 0 => 0
  | i + 1 => qE Q i
/-- a token as the reference has it -/
def am_enc (t : Nat × Nat × Nat) : Int := if t.1 < 6 then 1000 * t.1 + 100 * t.2.1 + t.2.2 else if t.1 = 6 then -33 else if t.1 = 7 then -38 else -124
/-- heights of the pile: from h, over n tokens from k on, to one -/
def okH (T : Nat → Nat × Nat × Nat) : Nat → Nat → Nat → Prop
  | 0, _, h => h = 1
  | n + 1, k, h => ((T k).1 < 6 ∧ (T k).2.1 < 3 ∧ (T k).2.2 < 100 ∧ h < 20 ∧ okH T n (k + 1) (h + 1)) ∨ ((T k).1 = 6 ∧ 1 ≤ h ∧ h ≤ 20 ∧ okH T n (k + 1) h) ∨ (((T k).1 = 7 ∨ (T k).1 = 8) ∧ 2 ≤ h ∧ h ≤ 20 ∧ okH T n (k + 1) (h - 1))
def SQv (Q : sq_T) : Prop := 1 ≤ qN Q ∧ qN Q ≤ 10 ∧ ∀ i, i < qN Q → qW Q i < 3 ∧ qU Q i < 100 ∧ qF Q i ≤ qE Q i ∧ qE Q i ≤ 100 ∧ okH (qT Q) (qE Q i - qF Q i) (qF Q i) 0
def SQm (fi : am_I) (s : Nat) (Q : sq_T) : Prop := (fi 40 s).toInt = (qN Q : Int) ∧ ∀ i, i < qN Q → (fi 41 (10 * s + i)).toInt = (qW Q i : Int) ∧ (fi 42 (10 * s + i)).toInt = (qU Q i : Int) ∧ (fi 43 (10 * s + i)).toInt = 100 * (s : Int) + (qF Q i : Int) ∧ (fi 44 (10 * s + i)).toInt = 100 * (s : Int) + (qE Q i : Int) ∧ ∀ k, k < qE Q i → (fi 45 (100 * s + k)).toInt = am_enc (qT Q k)
/-- where a square's rows are -/
def SQp (g : am_G) (q a0 a1 a2 a4 a5 a6 : Nat) : Prop := g.1 q = 6 ∧ (g.2.2.1 q 0 = some a0 ∧ g.2.2.1 q 1 = some a1 ∧ g.2.2.1 q 2 = some a2 ∧ g.2.2.1 q 4 = some a4 ∧ g.2.2.1 q 5 = some a5 ∧ g.2.2.1 q 6 = some a6) ∧ (g.1 a0 = 20 ∧ g.1 a1 = 20 ∧ g.1 a2 = 20 ∧ g.1 a4 = 20 ∧ g.1 a5 = 20 ∧ g.1 a6 = 20) ∧ (g.2.1 a0 = 10 ∧ g.2.1 a1 = 10 ∧ g.2.1 a2 = 10 ∧ g.2.1 a4 = 100 ∧ g.2.1 a5 = 100 ∧ g.2.1 a6 = 100)
def SQc (fi : am_I) (q a0 a1 a2 a4 a5 a6 : Nat) (Q : sq_T) : Prop := (fi q 3).toInt = (qN Q : Int) ∧ ∀ i, i < qN Q → (fi a0 i).toInt = (qW Q i : Int) ∧ (fi a1 i).toInt = (qU Q i : Int) ∧ (fi a2 i).toInt = (qE Q i : Int) ∧ ∀ k, k < qE Q i → (fi a4 k).toInt = ((qT Q k).1 : Int) ∧ (fi a5 k).toInt = ((qT Q k).2.1 : Int) ∧ (fi a6 k).toInt = ((qT Q k).2.2 : Int)
/-- a cell that is laid behind the fixed ones, of a group -/
def am_dy (own : Nat → Nat) (g : am_G) (q o : Nat) : Prop := 72 ≤ q ∧ q < am_nx g ∧ own q = o
def RS (own : Nat → Nat) (g : am_G) (fi : am_I) : Prop := ∀ s : Nat, (s : Int) < (fi 31 9).toInt → ∃ q a0 a1 a2 a4 a5 a6 Q, g.2.2.1 19 s = some q ∧ (am_dy own g q 30 ∧ am_dy own g a0 30 ∧ am_dy own g a1 30 ∧ am_dy own g a2 30 ∧ am_dy own g a4 30 ∧ am_dy own g a5 30 ∧ am_dy own g a6 30) ∧ SQp g q a0 a1 a2 a4 a5 a6 ∧ SQc fi q a0 a1 a2 a4 a5 a6 Q ∧ SQm fi s Q ∧ SQv Q
/-- the square that is laid aside -/
def RZ (own : Nat → Nat) (g : am_G) : Prop := g.2.2.1 0 6 = none ∨ ∃ q a0 a1 a2 a4 a5 a6, g.2.2.1 0 6 = some q ∧ (am_dy own g q 40 ∧ am_dy own g a0 41 ∧ am_dy own g a1 42 ∧ am_dy own g a2 43 ∧ am_dy own g a4 44 ∧ am_dy own g a5 45 ∧ am_dy own g a6 46) ∧ SQp g q a0 a1 a2 a4 a5 a6
/-- the kind of cell of a kind of blower -/
def am_kt (k : Int) : Nat := if k = 1 then 1 else if k = 2 then 2 else if k = 3 then 5 else if k = 4 then 4 else if k = 5 then 10 else if k = 6 then 9 else 0
/-- numbers and what else stands once: of both alike, and their bounds -/
def RC (fi : am_I) : Prop := (fi 1 1 = fi 31 0 ∧ 0 ≤ (fi 31 0).toInt ∧ (fi 31 0).toInt ≤ 5) ∧ (fi 1 3 = fi 31 1 ∧ 0 ≤ (fi 31 1).toInt ∧ (fi 31 1).toInt ≤ 9999) ∧ (fi 1 4 = fi 31 10 ∧ -1 ≤ (fi 31 10).toInt ∧ (fi 31 10).toInt < (fi 31 9).toInt) ∧ (fi 0 5 = fi 31 9 ∧ 0 ≤ (fi 31 9).toInt ∧ (fi 31 9).toInt ≤ 6) ∧ (fi 17 1 = fi 31 11 ∧ 0 ≤ (fi 31 11).toInt ∧ (fi 31 11).toInt ≤ 100) ∧ (fi 1 8 = fi 31 40 ∧ 0 ≤ (fi 31 40).toInt ∧ (fi 31 40).toInt ≤ 6) ∧ (fi 1 11 = fi 31 44 ∧ 0 ≤ (fi 31 44).toInt ∧ (fi 31 44).toInt ≤ 12) ∧ (fi 21 0 = fi 31 65 ∧ 0 ≤ (fi 31 65).toInt ∧ (fi 31 65).toInt ≤ 60) ∧ fi 31 35 = 0 ∧ fi 31 36 = 0
/-- the bucket -/
def RK (fi : am_I) : Prop := ∀ j, j < 4 → fi 3 j = fi 38 j ∧ 0 ≤ (fi 38 j).toInt ∧ (fi 38 j).toInt ≤ 99 ∧ (j < 3 → (fi 38 j).toInt ≤ 9)
/-- the text -/
def RL (fi : am_I) : Prop := ∀ j : Nat, j < 11 → (fi 47 j).toInt = ([119, 105, 110, 100, 100, 114, 121, 99, 111, 105, 110] : List Int).getD j 0
def RX (fi : am_I) : Prop := (∀ j : Nat, (j : Int) < (fi 31 11).toInt → fi 18 j = fi 39 j ∧ 0 ≤ (fi 39 j).toInt ∧ (fi 39 j).toInt ≤ 127) ∧ RL fi
/-- what is seen, the book -/
def RV (fi : am_I) : Prop := (∀ j : Nat, (j : Int) < (fi 31 40).toInt → fi 4 j = fi 50 j ∧ fi 5 j = fi 51 j ∧ fi 6 j = fi 52 j ∧ (0 ≤ (fi 50 j).toInt ∧ (fi 50 j).toInt < (fi 31 0).toInt) ∧ (0 ≤ (fi 51 j).toInt ∧ (fi 51 j).toInt ≤ 30)) ∧ (∀ j : Nat, (j : Int) < (fi 31 44).toInt → fi 7 j = fi 53 j ∧ fi 8 j = fi 54 j ∧ (0 ≤ (fi 53 j).toInt ∧ (fi 53 j).toInt < (fi 31 0).toInt)) ∧ (∀ j, j < 12 → am_bit (fi 8 j) = true ∧ am_bit (fi 54 j) = true)
/-- the trace -/
def RT (fi : am_I) : Prop := ∀ j : Nat, j < 20 → (j : Int) < (fi 31 65).toInt → fi 21 (1 + j) = fi 67 j
/-- the tapes -/
def RP (fi : am_I) (fl : am_L) : Prop := ∀ t, t < 6 → fi 22 t = fi 68 t ∧ fi 23 t = fi 69 t ∧ (-1 ≤ (fi 68 t).toInt ∧ (fi 68 t).toInt ≤ 4) ∧ (0 ≤ (fi 69 t).toInt ∧ (fi 69 t).toInt ≤ 60) ∧ ((fi 68 t).toInt = -1 → (fi 69 t).toInt = 0) ∧ ∀ k : Nat, (k : Int) < (fi 69 t).toInt → fl (25 + t) k = fl 70 (60 * t + k)
/-- bounds of one of the blowers -/
def RM (fi : am_I) (b : Nat) : Prop := (0 ≤ (fi 32 b).toInt ∧ (fi 32 b).toInt ≤ 6) ∧ (0 ≤ (fi 33 b).toInt ∧ (fi 33 b).toInt ≤ 9) ∧ (1 ≤ (fi 34 b).toInt ∧ (fi 34 b).toInt ≤ 9) ∧ (1 ≤ (fi 35 b).toInt ∧ (fi 35 b).toInt ≤ 60) ∧ (0 ≤ (fi 36 b).toInt ∧ (fi 36 b).toInt ≤ 999999) ∧ ∀ j, j < 4 → 0 ≤ (fi 37 (4 * b + j)).toInt ∧ (fi 37 (4 * b + j)).toInt ≤ 9
/-- one of the blowers: p its cell, r its row's -/
def RO (own : Nat → Nat) (g : am_G) (fi : am_I) (b p r : Nat) : Prop := g.2.2.1 2 b = some p ∧ am_dy own g p (10 + b) ∧ g.1 p = am_kt (fi 32 b).toInt ∧ fi p 0 = fi 32 b ∧ (fi p 1).toInt = (b : Int) ∧ fi p 2 = fi 33 b ∧ fi p 3 = fi 34 b ∧ fi p 4 = fi 35 b ∧ fi p 5 = fi 36 b ∧ ((fi 32 b).toInt = 6 → g.2.2.1 p 6 = some r ∧ am_dy own g r (20 + b) ∧ g.1 r = 20 ∧ g.2.1 r = 4 ∧ ∀ j, j < 4 → fi r j = fi 37 (4 * b + j))
def RB (own : Nat → Nat) (g : am_G) (fi : am_I) : Prop := ∀ b : Nat, (b : Int) < (fi 31 0).toInt → RM fi b ∧ ∃ p r, RO own g fi b p r
def RN (g : am_G) (q : Nat) : Prop := ∀ i, i < 5 → g.2.2.1 q i = none ∨ ∃ p, g.2.2.1 q i = some p ∧ am_sub (g.1 p) 0 = true ∧ p < am_nx g
/-- the image: where its rows are -/
def RIp (own : Nat → Nat) (g : am_G) (q a0 a2 a5 a6 a7 a9 a10 a12 : Nat) (ik : Nat → Nat) : Prop := g.1 q = 7 ∧ (g.2.2.1 q 0 = some a0 ∧ g.2.2.1 q 2 = some a2 ∧ g.2.2.1 q 5 = some a5 ∧ g.2.2.1 q 6 = some a6 ∧ g.2.2.1 q 7 = some a7 ∧ g.2.2.1 q 9 = some a9 ∧ g.2.2.1 q 10 = some a10 ∧ g.2.2.1 q 12 = some a12) ∧ (am_dy own g q 50 ∧ am_dy own g a0 51 ∧ am_dy own g a2 52 ∧ am_dy own g a5 53 ∧ am_dy own g a6 54 ∧ am_dy own g a7 55 ∧ am_dy own g a9 56 ∧ am_dy own g a10 57 ∧ am_dy own g a12 58) ∧ (g.1 a0 = 24 ∧ g.1 a2 = 20 ∧ g.1 a5 = 20 ∧ g.1 a6 = 20 ∧ g.1 a7 = 20 ∧ g.1 a9 = 20 ∧ g.1 a10 = 23 ∧ g.1 a12 = 26) ∧ (g.2.1 a0 = 5 ∧ g.2.1 a2 = 4 ∧ g.2.1 a5 = 6 ∧ g.2.1 a6 = 6 ∧ g.2.1 a7 = 6 ∧ g.2.1 a9 = 12 ∧ g.2.1 a10 = 12 ∧ g.2.1 a12 = 5) ∧ ∀ i, i < 5 → g.2.2.1 a12 i = some (ik i) ∧ am_dy own g (ik i) (60 + i) ∧ g.1 (ik i) = 20 ∧ g.2.1 (ik i) = 7
def RIv (g : am_G) (fi : am_I) (q a0 a2 a5 a6 a7 a9 a10 : Nat) (ik : Nat → Nat) : Prop := (fi q 1 = fi 31 49 ∧ 0 ≤ (fi 31 49).toInt ∧ (fi 31 49).toInt ≤ (fi 31 0).toInt) ∧ (fi q 3 = fi 31 50 ∧ 0 ≤ (fi 31 50).toInt ∧ (fi 31 50).toInt ≤ 9999) ∧ (fi q 4 = fi 31 48 ∧ -1 ≤ (fi 31 48).toInt ∧ (fi 31 48).toInt < (fi 31 9).toInt) ∧ (fi q 8 = fi 31 51 ∧ 0 ≤ (fi 31 51).toInt ∧ (fi 31 51).toInt ≤ 6) ∧ (fi q 11 = fi 31 52 ∧ 0 ≤ (fi 31 52).toInt ∧ (fi 31 52).toInt ≤ 12) ∧ RN g a0 ∧ (∀ j, j < 4 → fi a2 j = fi 61 j ∧ 0 ≤ (fi 61 j).toInt ∧ (fi 61 j).toInt ≤ 99 ∧ (j < 3 → (fi 61 j).toInt ≤ 9)) ∧ (∀ j : Nat, (j : Int) < (fi 31 51).toInt → fi a5 j = fi 62 j ∧ fi a6 j = fi 63 j ∧ fi a7 j = fi 64 j ∧ (0 ≤ (fi 62 j).toInt ∧ (fi 62 j).toInt < (fi 31 49).toInt) ∧ (0 ≤ (fi 63 j).toInt ∧ (fi 63 j).toInt ≤ 30)) ∧ (∀ j : Nat, (j : Int) < (fi 31 52).toInt → fi a9 j = fi 65 j ∧ fi a10 j = fi 66 j ∧ (0 ≤ (fi 65 j).toInt ∧ (fi 65 j).toInt < (fi 31 49).toInt)) ∧ (∀ j, j < 12 → am_bit (fi a10 j) = true ∧ am_bit (fi 66 j) = true) ∧ (∀ b : Nat, (b : Int) < (fi 31 49).toInt → g.2.2.1 a0 b = g.2.2.1 2 b ∧ fi 55 b = fi 32 b ∧ fi 56 b = fi 33 b ∧ fi (ik b) 0 = fi 57 b ∧ fi (ik b) 1 = fi 58 b ∧ fi (ik b) 2 = fi 59 b ∧ (1 ≤ (fi 57 b).toInt ∧ (fi 57 b).toInt ≤ 9) ∧ (1 ≤ (fi 58 b).toInt ∧ (fi 58 b).toInt ≤ 60) ∧ (0 ≤ (fi 59 b).toInt ∧ (fi 59 b).toInt ≤ 999999) ∧ ∀ j, j < 4 → (0 ≤ (fi 60 (4 * b + j)).toInt ∧ (fi 60 (4 * b + j)).toInt ≤ 9) ∧ ((fi 32 b).toInt = 6 → fi (ik b) (3 + j) = fi 60 (4 * b + j)))
def RI (own : Nat → Nat) (g : am_G) (fi : am_I) : Prop := (g.2.2.1 0 1 = none ∧ fi 31 47 = 0) ∨ (fi 31 47 = 1 ∧ ∃ q a0 a2 a5 a6 a7 a9 a10 a12 ik, g.2.2.1 0 1 = some q ∧ RIp own g q a0 a2 a5 a6 a7 a9 a10 a12 ik ∧ RIv g fi q a0 a2 a5 a6 a7 a9 a10 ik)
/-- class and reference alike -/
def Rel (L : Nat) (xs : Nat → Int32) (own : Nat → Nat) (g : am_G) (fi : am_I) (fl : am_L) : Prop := SF L g ∧ (∀ j, fi am_SC j = xs j) ∧ RC fi ∧ RK fi ∧ RX fi ∧ RV fi ∧ RT fi ∧ RP fi fl ∧ RB own g fi ∧ RN g 2 ∧ RS own g fi ∧ RZ own g ∧ RI own g fi
theorem am_ktb (k : Int) : am_sub (am_kt k) 0 = true := by
  unfold am_kt
  repeat' split
  all_goals rfl
theorem am_k7 {k : Int} (h : 0 ≤ k ∧ k ≤ 6) : k = 0 ∨ k = 1 ∨ k = 2 ∨ k = 3 ∨ k = 4 ∨ k = 5 ∨ k = 6 := by omega
theorem am_kt13 (k : Int) : am_kt k < 13 := by
  unfold am_kt
  repeat' split
  all_goals decide
theorem fld_bd {x : Int32} {X A B : Int} (e : x.toInt = X) (h : A ≤ X ∧ X ≤ B) : A ≤ x.toInt ∧ x.toInt ≤ B := by omega
theorem gr_nq {g : am_G} {q a q2 j : Nat} {x : Option Nat} (h : q2 ≠ q) : (am_gr g q a x).2.2.1 q2 j = g.2.2.1 q2 j := if_neg (fun e => h e.1)
theorem gr_nj {g : am_G} {q a q2 j : Nat} {x : Option Nat} (h : j ≠ a) : (am_gr g q a x).2.2.1 q2 j = g.2.2.1 q2 j := if_neg (fun e => h e.2)
theorem gr_eq {g : am_G} {q a : Nat} {x : Option Nat} : (am_gr g q a x).2.2.1 q a = x := if_pos ⟨rfl, rfl⟩
