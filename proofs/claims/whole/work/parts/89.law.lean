def am_g0 (L : Nat) : am_G := (fun _ => 99, fun i => if i = am_SC then L else 0, fun _ _ => none, 0, 0)
def am_fi0 (xs : Nat → Int32) : am_I := fun i j => if i = am_SC then xs j else 0
def am_fl0 : am_L := fun _ _ => 0
theorem am_law (L : Nat) (xs : Nat → Int32) (hL : L ≤ 3072) : ∃ n g' fi' fl', am_run n 2048 211 0 (am_ent [.retAddr 0] 4) [] (am_g0 L) (am_fi0 xs) am_fl0 = some (some (.int 1), g', fi', fl') ∧ am_nx g' - am_nx (am_g0 L) ≤ 600000 ∧ am_sl g' - am_sl (am_g0 L) ≤ 7302250 := sorry
