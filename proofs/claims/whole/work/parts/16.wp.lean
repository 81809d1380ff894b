section AWP
variable {d m pc n a b c y t q k : Nat} {ls ls' : List (Option Value)} {st r : List Value} {g g' : am_G} {fi fi' : am_I} {fl fl' : am_L} {P Q : Option Value → am_G → am_I → am_L → Prop} {E : am_E} {v w : Value} {args : List Value}
theorem wp_mono (k : Nat) : ∀ {n d m pc : Nat} {ls : List (Option Value)} {st : List Value} {g : am_G} {fi : am_I} {fl : am_L} {r : am_R}, am_run n d m pc ls st g fi fl = some r → am_run (n + k) d m pc ls st g fi fl = some r := by
  intro n
  induction n with
  | zero =>
    intro d m pc ls st g fi fl r h
    unfold am_run at h
    cases h
  | succ n ih =>
    intro d m pc ls st g fi fl r h
    rw [Nat.add_right_comm]
    unfold am_run at h ⊢
    split at h
    · cases h
    · rename_i E hE
      split at h
      · cases h
      · rename_i hs
        exact ih h
      · rename_i hs
        exact h
      · rename_i hs
        split at h
        · cases h
        · rename_i hm
          rw [if_neg hm]
          split at h
          · cases h
          · rename_i h1
            simp only [ih h1]
            exact ih h
def am_K (d m n : Nat) (ls : List (Option Value)) (r : List Value) (P : Option Value → am_G → am_I → am_L → Prop) : Option Value → am_G → am_I → am_L → Prop := fun v g fi fl => WP d m n ls (v.toList ++ r) g fi fl P
theorem wp_st {pc' : Nat} {st' : List Value} (hc : am_CT m pc = some E) (hs : am_step d pc E ls st g fi fl = some (.inl (pc', ls', st', g', fi', fl'))) (k : WP d m pc' ls' st' g' fi' fl' P) : WP d m pc ls st g fi fl P := by
  obtain ⟨n, v, g2, fi2, fl2, h, hp⟩ := k
  exact ⟨n + 1, v, g2, fi2, fl2, by rw [am_run]; simp only [hc, hs]; exact h, hp⟩
theorem wp_call (hc : am_CT m pc = some E) (hs : am_step d pc E ls st g fi fl = some (.inr (.inr (y, args, r)))) (hm : (am_flat args).length ≤ am_ML y) (k : WP (d - 1) y 0 (am_ent args (am_ML y)) [] g fi fl (am_K d m E.2.1 ls r P)) : WP d m pc ls st g fi fl P := by
  obtain ⟨n, v, g2, fi2, fl2, h, n2, v2, g3, fi3, fl3, h2, hp⟩ := k
  refine ⟨n + n2 + 1, v2, g3, fi3, fl3, ?_, hp⟩
  rw [am_run]
  simp only [hc, hs]
  rw [if_neg (Nat.not_lt.mpr hm), wp_mono n2 h]
  have := wp_mono n h2
  rw [Nat.add_comm] at this
  exact this
theorem wp_ret {v : Option Value} (hc : am_CT m pc = some E) (hs : am_step d pc E ls st g fi fl = some (.inr (.inl v))) (k : P v g fi fl) : WP d m pc ls st g fi fl P :=
  ⟨1, v, g, fi, fl, by rw [am_run]; simp only [hc, hs], k⟩
theorem wp_cons (h : WP d m pc ls st g fi fl P) (k : ∀ v g fi fl, P v g fi fl → Q v g fi fl) : WP d m pc ls st g fi fl Q := by
  obtain ⟨n, v, g2, fi2, fl2, h, hp⟩ := h
  exact ⟨n, v, g2, fi2, fl2, h, k _ _ _ _ hp⟩
theorem wk_i {x : Int32} {m' : Nat} (h : WP d m' n ls (.int x :: r) g fi fl P) : am_K d m' n ls r P (some (.int x)) g fi fl := h
theorem wk_j {x : Int64} {m' : Nat} (h : WP d m' n ls (.long x :: r) g fi fl P) : am_K d m' n ls r P (some (.long x)) g fi fl := h
theorem wk_r {x : Nat} {m' : Nat} (h : WP d m' n ls (.ref x :: r) g fi fl P) : am_K d m' n ls r P (some (.ref x)) g fi fl := h
theorem wk_n {m' : Nat} (h : WP d m' n ls (.null :: r) g fi fl P) : am_K d m' n ls r P (some .null) g fi fl := h
theorem wk_v {m' : Nat} (h : WP d m' n ls r g fi fl P) : am_K d m' n ls r P none g fi fl := h
def am_nl (a : Option Value) : Bool := match a with
  | some v => v.category == 1
  | none => true
theorem wi_ic {x : Int32} {i : Int} (hc : am_CT m pc = some (.bipush i, n, a, b, c)) (hx : Int32.ofInt i = x) (k : WP d m n ls (.int x :: st) g fi fl P) : WP d m pc ls st g fi fl P := wp_st hc rfl (hx ▸ k)
theorem wi_lc {x : Int64} {i : Int} (hc : am_CT m pc = some (.sipush i, n, a, b, c)) (hx : Int64.ofInt i = x) (k : WP d m n ls (.long x :: st) g fi fl P) : WP d m pc ls st g fi fl P := wp_st hc rfl (hx ▸ k)
theorem wi_null (hc : am_CT m pc = some (.aconst_null, n, a, b, c)) (k : WP d m n ls (.null :: st) g fi fl P) : WP d m pc ls st g fi fl P := wp_st hc rfl k
theorem wi_ldc {i : Nat} (hc : am_CT m pc = some (.ldc i, n, a, b, c)) (k : WP d m n ls (.retAddr (a + 1) :: st) g fi fl P) : WP d m pc ls st g fi fl P := wp_st hc rfl k
theorem wi_gs0 {i : Nat} (hc : am_CT m pc = some (.getstatic i, n, 0, b, c)) (k : WP d m n ls (.int 1 :: st) g fi fl P) : WP d m pc ls st g fi fl P := wp_st hc rfl k
theorem wi_gs1 {i : Nat} (hc : am_CT m pc = some (.getstatic i, n, 1, b, c)) (k : WP d m n ls (.retAddr 200 :: st) g fi fl P) : WP d m pc ls st g fi fl P := wp_st hc rfl k
theorem wi_goto {i : Int} (hc : am_CT m pc = some (.goto i, n, a, b, c)) (k : WP d m a ls st g fi fl P) : WP d m pc ls st g fi fl P := wp_st hc rfl k
theorem wi_dup (hc : am_CT m pc = some (.dup, n, a, b, c)) (h : v.category = 1) (k : WP d m n ls (v :: v :: r) g fi fl P) : WP d m pc ls (v :: r) g fi fl P := wp_st hc (by unfold am_step; exact if_pos h) k
theorem wi_dup2 (hc : am_CT m pc = some (.dup2, n, a, b, c)) (h : v.category = 1) (h2 : w.category = 1) (k : WP d m n ls (v :: w :: v :: w :: r) g fi fl P) : WP d m pc ls (v :: w :: r) g fi fl P := wp_st hc (by unfold am_step; exact if_pos ⟨h, h2⟩) k
theorem wi_pop (hc : am_CT m pc = some (.pop, n, a, b, c)) (h : v.category = 1) (k : WP d m n ls r g fi fl P) : WP d m pc ls (v :: r) g fi fl P := wp_st hc (by unfold am_step; exact if_pos h) k
theorem am_noLs {l : Option Value} (h : am_nl l = true) : (match some l with
    | some (some v) => v.category == 1
    | _ => true) = true := by
  cases l with
  | none => rfl
  | some v => exact h

theorem wi_iload_0 {x : Int32} {r : List (Option Value)} (hc : am_CT m pc = some (.iload 0, n, a, b, c)) (k : WP d m n (some (.int x) :: r) (.int x :: st) g fi fl P) : WP d m pc (some (.int x) :: r) st g fi fl P := wp_st hc rfl k
theorem wi_lload_0 {x : Int64} {r : List (Option Value)} (hc : am_CT m pc = some (.lload 0, n, a, b, c)) (k : WP d m n (some (.long x) :: r) (.long x :: st) g fi fl P) : WP d m pc (some (.long x) :: r) st g fi fl P := wp_st hc rfl k
theorem wi_aload_0 {x : Nat} {r : List (Option Value)} (hc : am_CT m pc = some (.aload 0, n, a, b, c)) (k : WP d m n (some (.ref x) :: r) (.ref x :: st) g fi fl P) : WP d m pc (some (.ref x) :: r) st g fi fl P := wp_st hc rfl k
theorem wi_aloadN_0 {r : List (Option Value)} (hc : am_CT m pc = some (.aload 0, n, a, b, c)) (k : WP d m n (some .null :: r) (.null :: st) g fi fl P) : WP d m pc (some .null :: r) st g fi fl P := wp_st hc rfl k
theorem wi_aloadT_0 {x : Nat} {r : List (Option Value)} (hc : am_CT m pc = some (.aload 0, n, a, b, c)) (k : WP d m n (some (.retAddr x) :: r) (.retAddr x :: st) g fi fl P) : WP d m pc (some (.retAddr x) :: r) st g fi fl P := wp_st hc rfl k
theorem wi_istore_0 {x : Int32} {l : Option Value} {r : List (Option Value)} (hc : am_CT m pc = some (.istore 0, n, a, b, c)) (k : WP d m n (some (.int x) :: r) st g fi fl P) : WP d m pc (l :: r) (.int x :: st) g fi fl P := wp_st hc (by unfold am_step; exact if_pos ⟨by simp only [List.length_cons]; omega, rfl⟩) k
theorem wi_astore_0 {x : Nat} {l : Option Value} {r : List (Option Value)} (hc : am_CT m pc = some (.astore 0, n, a, b, c)) (k : WP d m n (some (.ref x) :: r) st g fi fl P) : WP d m pc (l :: r) (.ref x :: st) g fi fl P := wp_st hc (by unfold am_step; exact if_pos ⟨by simp only [List.length_cons]; omega, rfl⟩) k
theorem wi_astoreN_0 {l : Option Value} {r : List (Option Value)} (hc : am_CT m pc = some (.astore 0, n, a, b, c)) (k : WP d m n (some .null :: r) st g fi fl P) : WP d m pc (l :: r) (.null :: st) g fi fl P := wp_st hc (by unfold am_step; exact if_pos ⟨by simp only [List.length_cons]; omega, rfl⟩) k
theorem wi_astoreT_0 {x : Nat} {l : Option Value} {r : List (Option Value)} (hx : x < 100) (hc : am_CT m pc = some (.astore 0, n, a, b, c)) (k : WP d m n (some (.retAddr x) :: r) st g fi fl P) : WP d m pc (l :: r) (.retAddr x :: st) g fi fl P := wp_st hc (by unfold am_step; exact if_pos ⟨by simp only [List.length_cons]; omega, rfl, hx⟩) k
theorem wi_lstore_0 {x : Int64} {l : Option Value} {l2 : Option Value} {r : List (Option Value)} (hc : am_CT m pc = some (.lstore 0, n, a, b, c)) (k : WP d m n (some (.long x) :: none :: r) st g fi fl P) : WP d m pc (l :: l2 :: r) (.long x :: st) g fi fl P := wp_st hc (by unfold am_step; exact if_pos ⟨by simp only [List.length_cons]; omega, rfl⟩) k
theorem wi_iinc_0 {x z : Int32} {i : Int} {r : List (Option Value)} (hc : am_CT m pc = some (.iinc 0 i, n, a, b, c)) (hz : x + Int32.ofInt i = z) (k : WP d m n (some (.int z) :: r) st g fi fl P) : WP d m pc (some (.int x) :: r) st g fi fl P := wp_st hc (by unfold am_step; exact if_pos (rfl)) (hz ▸ k)
theorem wi_iload_1 {x : Int32} {a0 : Option Value} {r : List (Option Value)} (hc : am_CT m pc = some (.iload 1, n, a, b, c)) (k : WP d m n (a0 :: some (.int x) :: r) (.int x :: st) g fi fl P) : WP d m pc (a0 :: some (.int x) :: r) st g fi fl P := wp_st hc rfl k
theorem wi_lload_1 {x : Int64} {a0 : Option Value} {r : List (Option Value)} (hc : am_CT m pc = some (.lload 1, n, a, b, c)) (k : WP d m n (a0 :: some (.long x) :: r) (.long x :: st) g fi fl P) : WP d m pc (a0 :: some (.long x) :: r) st g fi fl P := wp_st hc rfl k
theorem wi_aload_1 {x : Nat} {a0 : Option Value} {r : List (Option Value)} (hc : am_CT m pc = some (.aload 1, n, a, b, c)) (k : WP d m n (a0 :: some (.ref x) :: r) (.ref x :: st) g fi fl P) : WP d m pc (a0 :: some (.ref x) :: r) st g fi fl P := wp_st hc rfl k
theorem wi_aloadN_1 {a0 : Option Value} {r : List (Option Value)} (hc : am_CT m pc = some (.aload 1, n, a, b, c)) (k : WP d m n (a0 :: some .null :: r) (.null :: st) g fi fl P) : WP d m pc (a0 :: some .null :: r) st g fi fl P := wp_st hc rfl k
theorem wi_aloadT_1 {x : Nat} {a0 : Option Value} {r : List (Option Value)} (hc : am_CT m pc = some (.aload 1, n, a, b, c)) (k : WP d m n (a0 :: some (.retAddr x) :: r) (.retAddr x :: st) g fi fl P) : WP d m pc (a0 :: some (.retAddr x) :: r) st g fi fl P := wp_st hc rfl k
theorem wi_istore_1 {x : Int32} {a0 l : Option Value} {r : List (Option Value)} (hn : am_nl a0 = true) (hc : am_CT m pc = some (.istore 1, n, a, b, c)) (k : WP d m n (a0 :: some (.int x) :: r) st g fi fl P) : WP d m pc (a0 :: l :: r) (.int x :: st) g fi fl P := wp_st hc (by unfold am_step; exact if_pos ⟨by simp only [List.length_cons]; omega, am_noLs hn⟩) k
theorem wi_astore_1 {x : Nat} {a0 l : Option Value} {r : List (Option Value)} (hn : am_nl a0 = true) (hc : am_CT m pc = some (.astore 1, n, a, b, c)) (k : WP d m n (a0 :: some (.ref x) :: r) st g fi fl P) : WP d m pc (a0 :: l :: r) (.ref x :: st) g fi fl P := wp_st hc (by unfold am_step; exact if_pos ⟨by simp only [List.length_cons]; omega, am_noLs hn⟩) k
theorem wi_astoreN_1 {a0 l : Option Value} {r : List (Option Value)} (hn : am_nl a0 = true) (hc : am_CT m pc = some (.astore 1, n, a, b, c)) (k : WP d m n (a0 :: some .null :: r) st g fi fl P) : WP d m pc (a0 :: l :: r) (.null :: st) g fi fl P := wp_st hc (by unfold am_step; exact if_pos ⟨by simp only [List.length_cons]; omega, am_noLs hn⟩) k
theorem wi_astoreT_1 {x : Nat} {a0 l : Option Value} {r : List (Option Value)} (hn : am_nl a0 = true) (hx : x < 100) (hc : am_CT m pc = some (.astore 1, n, a, b, c)) (k : WP d m n (a0 :: some (.retAddr x) :: r) st g fi fl P) : WP d m pc (a0 :: l :: r) (.retAddr x :: st) g fi fl P := wp_st hc (by unfold am_step; exact if_pos ⟨by simp only [List.length_cons]; omega, am_noLs hn, hx⟩) k
theorem wi_lstore_1 {x : Int64} {a0 l : Option Value} {l2 : Option Value} {r : List (Option Value)} (hn : am_nl a0 = true) (hc : am_CT m pc = some (.lstore 1, n, a, b, c)) (k : WP d m n (a0 :: some (.long x) :: none :: r) st g fi fl P) : WP d m pc (a0 :: l :: l2 :: r) (.long x :: st) g fi fl P := wp_st hc (by unfold am_step; exact if_pos ⟨by simp only [List.length_cons]; omega, am_noLs hn⟩) k
theorem wi_iinc_1 {x z : Int32} {i : Int} {a0 : Option Value} {r : List (Option Value)} (hn : am_nl a0 = true) (hc : am_CT m pc = some (.iinc 1 i, n, a, b, c)) (hz : x + Int32.ofInt i = z) (k : WP d m n (a0 :: some (.int z) :: r) st g fi fl P) : WP d m pc (a0 :: some (.int x) :: r) st g fi fl P := wp_st hc (by unfold am_step; exact if_pos (am_noLs hn)) (hz ▸ k)
theorem wi_iload_2 {x : Int32} {a0 a1 : Option Value} {r : List (Option Value)} (hc : am_CT m pc = some (.iload 2, n, a, b, c)) (k : WP d m n (a0 :: a1 :: some (.int x) :: r) (.int x :: st) g fi fl P) : WP d m pc (a0 :: a1 :: some (.int x) :: r) st g fi fl P := wp_st hc rfl k
theorem wi_lload_2 {x : Int64} {a0 a1 : Option Value} {r : List (Option Value)} (hc : am_CT m pc = some (.lload 2, n, a, b, c)) (k : WP d m n (a0 :: a1 :: some (.long x) :: r) (.long x :: st) g fi fl P) : WP d m pc (a0 :: a1 :: some (.long x) :: r) st g fi fl P := wp_st hc rfl k
theorem wi_aload_2 {x : Nat} {a0 a1 : Option Value} {r : List (Option Value)} (hc : am_CT m pc = some (.aload 2, n, a, b, c)) (k : WP d m n (a0 :: a1 :: some (.ref x) :: r) (.ref x :: st) g fi fl P) : WP d m pc (a0 :: a1 :: some (.ref x) :: r) st g fi fl P := wp_st hc rfl k
theorem wi_aloadN_2 {a0 a1 : Option Value} {r : List (Option Value)} (hc : am_CT m pc = some (.aload 2, n, a, b, c)) (k : WP d m n (a0 :: a1 :: some .null :: r) (.null :: st) g fi fl P) : WP d m pc (a0 :: a1 :: some .null :: r) st g fi fl P := wp_st hc rfl k
theorem wi_aloadT_2 {x : Nat} {a0 a1 : Option Value} {r : List (Option Value)} (hc : am_CT m pc = some (.aload 2, n, a, b, c)) (k : WP d m n (a0 :: a1 :: some (.retAddr x) :: r) (.retAddr x :: st) g fi fl P) : WP d m pc (a0 :: a1 :: some (.retAddr x) :: r) st g fi fl P := wp_st hc rfl k
theorem wi_istore_2 {x : Int32} {a0 a1 l : Option Value} {r : List (Option Value)} (hn : am_nl a1 = true) (hc : am_CT m pc = some (.istore 2, n, a, b, c)) (k : WP d m n (a0 :: a1 :: some (.int x) :: r) st g fi fl P) : WP d m pc (a0 :: a1 :: l :: r) (.int x :: st) g fi fl P := wp_st hc (by unfold am_step; exact if_pos ⟨by simp only [List.length_cons]; omega, am_noLs hn⟩) k
theorem wi_astore_2 {x : Nat} {a0 a1 l : Option Value} {r : List (Option Value)} (hn : am_nl a1 = true) (hc : am_CT m pc = some (.astore 2, n, a, b, c)) (k : WP d m n (a0 :: a1 :: some (.ref x) :: r) st g fi fl P) : WP d m pc (a0 :: a1 :: l :: r) (.ref x :: st) g fi fl P := wp_st hc (by unfold am_step; exact if_pos ⟨by simp only [List.length_cons]; omega, am_noLs hn⟩) k
theorem wi_astoreN_2 {a0 a1 l : Option Value} {r : List (Option Value)} (hn : am_nl a1 = true) (hc : am_CT m pc = some (.astore 2, n, a, b, c)) (k : WP d m n (a0 :: a1 :: some .null :: r) st g fi fl P) : WP d m pc (a0 :: a1 :: l :: r) (.null :: st) g fi fl P := wp_st hc (by unfold am_step; exact if_pos ⟨by simp only [List.length_cons]; omega, am_noLs hn⟩) k
theorem wi_astoreT_2 {x : Nat} {a0 a1 l : Option Value} {r : List (Option Value)} (hn : am_nl a1 = true) (hx : x < 100) (hc : am_CT m pc = some (.astore 2, n, a, b, c)) (k : WP d m n (a0 :: a1 :: some (.retAddr x) :: r) st g fi fl P) : WP d m pc (a0 :: a1 :: l :: r) (.retAddr x :: st) g fi fl P := wp_st hc (by unfold am_step; exact if_pos ⟨by simp only [List.length_cons]; omega, am_noLs hn, hx⟩) k
theorem wi_lstore_2 {x : Int64} {a0 a1 l : Option Value} {l2 : Option Value} {r : List (Option Value)} (hn : am_nl a1 = true) (hc : am_CT m pc = some (.lstore 2, n, a, b, c)) (k : WP d m n (a0 :: a1 :: some (.long x) :: none :: r) st g fi fl P) : WP d m pc (a0 :: a1 :: l :: l2 :: r) (.long x :: st) g fi fl P := wp_st hc (by unfold am_step; exact if_pos ⟨by simp only [List.length_cons]; omega, am_noLs hn⟩) k
theorem wi_iinc_2 {x z : Int32} {i : Int} {a0 a1 : Option Value} {r : List (Option Value)} (hn : am_nl a1 = true) (hc : am_CT m pc = some (.iinc 2 i, n, a, b, c)) (hz : x + Int32.ofInt i = z) (k : WP d m n (a0 :: a1 :: some (.int z) :: r) st g fi fl P) : WP d m pc (a0 :: a1 :: some (.int x) :: r) st g fi fl P := wp_st hc (by unfold am_step; exact if_pos (am_noLs hn)) (hz ▸ k)
theorem wi_iload_3 {x : Int32} {a0 a1 a2 : Option Value} {r : List (Option Value)} (hc : am_CT m pc = some (.iload 3, n, a, b, c)) (k : WP d m n (a0 :: a1 :: a2 :: some (.int x) :: r) (.int x :: st) g fi fl P) : WP d m pc (a0 :: a1 :: a2 :: some (.int x) :: r) st g fi fl P := wp_st hc rfl k
theorem wi_lload_3 {x : Int64} {a0 a1 a2 : Option Value} {r : List (Option Value)} (hc : am_CT m pc = some (.lload 3, n, a, b, c)) (k : WP d m n (a0 :: a1 :: a2 :: some (.long x) :: r) (.long x :: st) g fi fl P) : WP d m pc (a0 :: a1 :: a2 :: some (.long x) :: r) st g fi fl P := wp_st hc rfl k
theorem wi_aload_3 {x : Nat} {a0 a1 a2 : Option Value} {r : List (Option Value)} (hc : am_CT m pc = some (.aload 3, n, a, b, c)) (k : WP d m n (a0 :: a1 :: a2 :: some (.ref x) :: r) (.ref x :: st) g fi fl P) : WP d m pc (a0 :: a1 :: a2 :: some (.ref x) :: r) st g fi fl P := wp_st hc rfl k
theorem wi_aloadN_3 {a0 a1 a2 : Option Value} {r : List (Option Value)} (hc : am_CT m pc = some (.aload 3, n, a, b, c)) (k : WP d m n (a0 :: a1 :: a2 :: some .null :: r) (.null :: st) g fi fl P) : WP d m pc (a0 :: a1 :: a2 :: some .null :: r) st g fi fl P := wp_st hc rfl k
theorem wi_aloadT_3 {x : Nat} {a0 a1 a2 : Option Value} {r : List (Option Value)} (hc : am_CT m pc = some (.aload 3, n, a, b, c)) (k : WP d m n (a0 :: a1 :: a2 :: some (.retAddr x) :: r) (.retAddr x :: st) g fi fl P) : WP d m pc (a0 :: a1 :: a2 :: some (.retAddr x) :: r) st g fi fl P := wp_st hc rfl k
theorem wi_istore_3 {x : Int32} {a0 a1 a2 l : Option Value} {r : List (Option Value)} (hn : am_nl a2 = true) (hc : am_CT m pc = some (.istore 3, n, a, b, c)) (k : WP d m n (a0 :: a1 :: a2 :: some (.int x) :: r) st g fi fl P) : WP d m pc (a0 :: a1 :: a2 :: l :: r) (.int x :: st) g fi fl P := wp_st hc (by unfold am_step; exact if_pos ⟨by simp only [List.length_cons]; omega, am_noLs hn⟩) k
theorem wi_astore_3 {x : Nat} {a0 a1 a2 l : Option Value} {r : List (Option Value)} (hn : am_nl a2 = true) (hc : am_CT m pc = some (.astore 3, n, a, b, c)) (k : WP d m n (a0 :: a1 :: a2 :: some (.ref x) :: r) st g fi fl P) : WP d m pc (a0 :: a1 :: a2 :: l :: r) (.ref x :: st) g fi fl P := wp_st hc (by unfold am_step; exact if_pos ⟨by simp only [List.length_cons]; omega, am_noLs hn⟩) k
theorem wi_astoreN_3 {a0 a1 a2 l : Option Value} {r : List (Option Value)} (hn : am_nl a2 = true) (hc : am_CT m pc = some (.astore 3, n, a, b, c)) (k : WP d m n (a0 :: a1 :: a2 :: some .null :: r) st g fi fl P) : WP d m pc (a0 :: a1 :: a2 :: l :: r) (.null :: st) g fi fl P := wp_st hc (by unfold am_step; exact if_pos ⟨by simp only [List.length_cons]; omega, am_noLs hn⟩) k
theorem wi_astoreT_3 {x : Nat} {a0 a1 a2 l : Option Value} {r : List (Option Value)} (hn : am_nl a2 = true) (hx : x < 100) (hc : am_CT m pc = some (.astore 3, n, a, b, c)) (k : WP d m n (a0 :: a1 :: a2 :: some (.retAddr x) :: r) st g fi fl P) : WP d m pc (a0 :: a1 :: a2 :: l :: r) (.retAddr x :: st) g fi fl P := wp_st hc (by unfold am_step; exact if_pos ⟨by simp only [List.length_cons]; omega, am_noLs hn, hx⟩) k
theorem wi_lstore_3 {x : Int64} {a0 a1 a2 l : Option Value} {l2 : Option Value} {r : List (Option Value)} (hn : am_nl a2 = true) (hc : am_CT m pc = some (.lstore 3, n, a, b, c)) (k : WP d m n (a0 :: a1 :: a2 :: some (.long x) :: none :: r) st g fi fl P) : WP d m pc (a0 :: a1 :: a2 :: l :: l2 :: r) (.long x :: st) g fi fl P := wp_st hc (by unfold am_step; exact if_pos ⟨by simp only [List.length_cons]; omega, am_noLs hn⟩) k
theorem wi_iinc_3 {x z : Int32} {i : Int} {a0 a1 a2 : Option Value} {r : List (Option Value)} (hn : am_nl a2 = true) (hc : am_CT m pc = some (.iinc 3 i, n, a, b, c)) (hz : x + Int32.ofInt i = z) (k : WP d m n (a0 :: a1 :: a2 :: some (.int z) :: r) st g fi fl P) : WP d m pc (a0 :: a1 :: a2 :: some (.int x) :: r) st g fi fl P := wp_st hc (by unfold am_step; exact if_pos (am_noLs hn)) (hz ▸ k)
theorem wi_iload_4 {x : Int32} {a0 a1 a2 a3 : Option Value} {r : List (Option Value)} (hc : am_CT m pc = some (.iload 4, n, a, b, c)) (k : WP d m n (a0 :: a1 :: a2 :: a3 :: some (.int x) :: r) (.int x :: st) g fi fl P) : WP d m pc (a0 :: a1 :: a2 :: a3 :: some (.int x) :: r) st g fi fl P := wp_st hc rfl k
theorem wi_lload_4 {x : Int64} {a0 a1 a2 a3 : Option Value} {r : List (Option Value)} (hc : am_CT m pc = some (.lload 4, n, a, b, c)) (k : WP d m n (a0 :: a1 :: a2 :: a3 :: some (.long x) :: r) (.long x :: st) g fi fl P) : WP d m pc (a0 :: a1 :: a2 :: a3 :: some (.long x) :: r) st g fi fl P := wp_st hc rfl k
theorem wi_aload_4 {x : Nat} {a0 a1 a2 a3 : Option Value} {r : List (Option Value)} (hc : am_CT m pc = some (.aload 4, n, a, b, c)) (k : WP d m n (a0 :: a1 :: a2 :: a3 :: some (.ref x) :: r) (.ref x :: st) g fi fl P) : WP d m pc (a0 :: a1 :: a2 :: a3 :: some (.ref x) :: r) st g fi fl P := wp_st hc rfl k
theorem wi_aloadN_4 {a0 a1 a2 a3 : Option Value} {r : List (Option Value)} (hc : am_CT m pc = some (.aload 4, n, a, b, c)) (k : WP d m n (a0 :: a1 :: a2 :: a3 :: some .null :: r) (.null :: st) g fi fl P) : WP d m pc (a0 :: a1 :: a2 :: a3 :: some .null :: r) st g fi fl P := wp_st hc rfl k
theorem wi_aloadT_4 {x : Nat} {a0 a1 a2 a3 : Option Value} {r : List (Option Value)} (hc : am_CT m pc = some (.aload 4, n, a, b, c)) (k : WP d m n (a0 :: a1 :: a2 :: a3 :: some (.retAddr x) :: r) (.retAddr x :: st) g fi fl P) : WP d m pc (a0 :: a1 :: a2 :: a3 :: some (.retAddr x) :: r) st g fi fl P := wp_st hc rfl k
theorem wi_istore_4 {x : Int32} {a0 a1 a2 a3 l : Option Value} {r : List (Option Value)} (hn : am_nl a3 = true) (hc : am_CT m pc = some (.istore 4, n, a, b, c)) (k : WP d m n (a0 :: a1 :: a2 :: a3 :: some (.int x) :: r) st g fi fl P) : WP d m pc (a0 :: a1 :: a2 :: a3 :: l :: r) (.int x :: st) g fi fl P := wp_st hc (by unfold am_step; exact if_pos ⟨by simp only [List.length_cons]; omega, am_noLs hn⟩) k
theorem wi_astore_4 {x : Nat} {a0 a1 a2 a3 l : Option Value} {r : List (Option Value)} (hn : am_nl a3 = true) (hc : am_CT m pc = some (.astore 4, n, a, b, c)) (k : WP d m n (a0 :: a1 :: a2 :: a3 :: some (.ref x) :: r) st g fi fl P) : WP d m pc (a0 :: a1 :: a2 :: a3 :: l :: r) (.ref x :: st) g fi fl P := wp_st hc (by unfold am_step; exact if_pos ⟨by simp only [List.length_cons]; omega, am_noLs hn⟩) k
theorem wi_astoreN_4 {a0 a1 a2 a3 l : Option Value} {r : List (Option Value)} (hn : am_nl a3 = true) (hc : am_CT m pc = some (.astore 4, n, a, b, c)) (k : WP d m n (a0 :: a1 :: a2 :: a3 :: some .null :: r) st g fi fl P) : WP d m pc (a0 :: a1 :: a2 :: a3 :: l :: r) (.null :: st) g fi fl P := wp_st hc (by unfold am_step; exact if_pos ⟨by simp only [List.length_cons]; omega, am_noLs hn⟩) k
theorem wi_astoreT_4 {x : Nat} {a0 a1 a2 a3 l : Option Value} {r : List (Option Value)} (hn : am_nl a3 = true) (hx : x < 100) (hc : am_CT m pc = some (.astore 4, n, a, b, c)) (k : WP d m n (a0 :: a1 :: a2 :: a3 :: some (.retAddr x) :: r) st g fi fl P) : WP d m pc (a0 :: a1 :: a2 :: a3 :: l :: r) (.retAddr x :: st) g fi fl P := wp_st hc (by unfold am_step; exact if_pos ⟨by simp only [List.length_cons]; omega, am_noLs hn, hx⟩) k
theorem wi_lstore_4 {x : Int64} {a0 a1 a2 a3 l : Option Value} {l2 : Option Value} {r : List (Option Value)} (hn : am_nl a3 = true) (hc : am_CT m pc = some (.lstore 4, n, a, b, c)) (k : WP d m n (a0 :: a1 :: a2 :: a3 :: some (.long x) :: none :: r) st g fi fl P) : WP d m pc (a0 :: a1 :: a2 :: a3 :: l :: l2 :: r) (.long x :: st) g fi fl P := wp_st hc (by unfold am_step; exact if_pos ⟨by simp only [List.length_cons]; omega, am_noLs hn⟩) k
theorem wi_iinc_4 {x z : Int32} {i : Int} {a0 a1 a2 a3 : Option Value} {r : List (Option Value)} (hn : am_nl a3 = true) (hc : am_CT m pc = some (.iinc 4 i, n, a, b, c)) (hz : x + Int32.ofInt i = z) (k : WP d m n (a0 :: a1 :: a2 :: a3 :: some (.int z) :: r) st g fi fl P) : WP d m pc (a0 :: a1 :: a2 :: a3 :: some (.int x) :: r) st g fi fl P := wp_st hc (by unfold am_step; exact if_pos (am_noLs hn)) (hz ▸ k)
theorem wi_iload_5 {x : Int32} {a0 a1 a2 a3 a4 : Option Value} {r : List (Option Value)} (hc : am_CT m pc = some (.iload 5, n, a, b, c)) (k : WP d m n (a0 :: a1 :: a2 :: a3 :: a4 :: some (.int x) :: r) (.int x :: st) g fi fl P) : WP d m pc (a0 :: a1 :: a2 :: a3 :: a4 :: some (.int x) :: r) st g fi fl P := wp_st hc rfl k
theorem wi_lload_5 {x : Int64} {a0 a1 a2 a3 a4 : Option Value} {r : List (Option Value)} (hc : am_CT m pc = some (.lload 5, n, a, b, c)) (k : WP d m n (a0 :: a1 :: a2 :: a3 :: a4 :: some (.long x) :: r) (.long x :: st) g fi fl P) : WP d m pc (a0 :: a1 :: a2 :: a3 :: a4 :: some (.long x) :: r) st g fi fl P := wp_st hc rfl k
theorem wi_aload_5 {x : Nat} {a0 a1 a2 a3 a4 : Option Value} {r : List (Option Value)} (hc : am_CT m pc = some (.aload 5, n, a, b, c)) (k : WP d m n (a0 :: a1 :: a2 :: a3 :: a4 :: some (.ref x) :: r) (.ref x :: st) g fi fl P) : WP d m pc (a0 :: a1 :: a2 :: a3 :: a4 :: some (.ref x) :: r) st g fi fl P := wp_st hc rfl k
theorem wi_aloadN_5 {a0 a1 a2 a3 a4 : Option Value} {r : List (Option Value)} (hc : am_CT m pc = some (.aload 5, n, a, b, c)) (k : WP d m n (a0 :: a1 :: a2 :: a3 :: a4 :: some .null :: r) (.null :: st) g fi fl P) : WP d m pc (a0 :: a1 :: a2 :: a3 :: a4 :: some .null :: r) st g fi fl P := wp_st hc rfl k
theorem wi_aloadT_5 {x : Nat} {a0 a1 a2 a3 a4 : Option Value} {r : List (Option Value)} (hc : am_CT m pc = some (.aload 5, n, a, b, c)) (k : WP d m n (a0 :: a1 :: a2 :: a3 :: a4 :: some (.retAddr x) :: r) (.retAddr x :: st) g fi fl P) : WP d m pc (a0 :: a1 :: a2 :: a3 :: a4 :: some (.retAddr x) :: r) st g fi fl P := wp_st hc rfl k
theorem wi_istore_5 {x : Int32} {a0 a1 a2 a3 a4 l : Option Value} {r : List (Option Value)} (hn : am_nl a4 = true) (hc : am_CT m pc = some (.istore 5, n, a, b, c)) (k : WP d m n (a0 :: a1 :: a2 :: a3 :: a4 :: some (.int x) :: r) st g fi fl P) : WP d m pc (a0 :: a1 :: a2 :: a3 :: a4 :: l :: r) (.int x :: st) g fi fl P := wp_st hc (by unfold am_step; exact if_pos ⟨by simp only [List.length_cons]; omega, am_noLs hn⟩) k
theorem wi_astore_5 {x : Nat} {a0 a1 a2 a3 a4 l : Option Value} {r : List (Option Value)} (hn : am_nl a4 = true) (hc : am_CT m pc = some (.astore 5, n, a, b, c)) (k : WP d m n (a0 :: a1 :: a2 :: a3 :: a4 :: some (.ref x) :: r) st g fi fl P) : WP d m pc (a0 :: a1 :: a2 :: a3 :: a4 :: l :: r) (.ref x :: st) g fi fl P := wp_st hc (by unfold am_step; exact if_pos ⟨by simp only [List.length_cons]; omega, am_noLs hn⟩) k
theorem wi_astoreN_5 {a0 a1 a2 a3 a4 l : Option Value} {r : List (Option Value)} (hn : am_nl a4 = true) (hc : am_CT m pc = some (.astore 5, n, a, b, c)) (k : WP d m n (a0 :: a1 :: a2 :: a3 :: a4 :: some .null :: r) st g fi fl P) : WP d m pc (a0 :: a1 :: a2 :: a3 :: a4 :: l :: r) (.null :: st) g fi fl P := wp_st hc (by unfold am_step; exact if_pos ⟨by simp only [List.length_cons]; omega, am_noLs hn⟩) k
theorem wi_astoreT_5 {x : Nat} {a0 a1 a2 a3 a4 l : Option Value} {r : List (Option Value)} (hn : am_nl a4 = true) (hx : x < 100) (hc : am_CT m pc = some (.astore 5, n, a, b, c)) (k : WP d m n (a0 :: a1 :: a2 :: a3 :: a4 :: some (.retAddr x) :: r) st g fi fl P) : WP d m pc (a0 :: a1 :: a2 :: a3 :: a4 :: l :: r) (.retAddr x :: st) g fi fl P := wp_st hc (by unfold am_step; exact if_pos ⟨by simp only [List.length_cons]; omega, am_noLs hn, hx⟩) k
theorem wi_lstore_5 {x : Int64} {a0 a1 a2 a3 a4 l : Option Value} {l2 : Option Value} {r : List (Option Value)} (hn : am_nl a4 = true) (hc : am_CT m pc = some (.lstore 5, n, a, b, c)) (k : WP d m n (a0 :: a1 :: a2 :: a3 :: a4 :: some (.long x) :: none :: r) st g fi fl P) : WP d m pc (a0 :: a1 :: a2 :: a3 :: a4 :: l :: l2 :: r) (.long x :: st) g fi fl P := wp_st hc (by unfold am_step; exact if_pos ⟨by simp only [List.length_cons]; omega, am_noLs hn⟩) k
theorem wi_iinc_5 {x z : Int32} {i : Int} {a0 a1 a2 a3 a4 : Option Value} {r : List (Option Value)} (hn : am_nl a4 = true) (hc : am_CT m pc = some (.iinc 5 i, n, a, b, c)) (hz : x + Int32.ofInt i = z) (k : WP d m n (a0 :: a1 :: a2 :: a3 :: a4 :: some (.int z) :: r) st g fi fl P) : WP d m pc (a0 :: a1 :: a2 :: a3 :: a4 :: some (.int x) :: r) st g fi fl P := wp_st hc (by unfold am_step; exact if_pos (am_noLs hn)) (hz ▸ k)
theorem wi_iload_6 {x : Int32} {a0 a1 a2 a3 a4 a5 : Option Value} {r : List (Option Value)} (hc : am_CT m pc = some (.iload 6, n, a, b, c)) (k : WP d m n (a0 :: a1 :: a2 :: a3 :: a4 :: a5 :: some (.int x) :: r) (.int x :: st) g fi fl P) : WP d m pc (a0 :: a1 :: a2 :: a3 :: a4 :: a5 :: some (.int x) :: r) st g fi fl P := wp_st hc rfl k
theorem wi_lload_6 {x : Int64} {a0 a1 a2 a3 a4 a5 : Option Value} {r : List (Option Value)} (hc : am_CT m pc = some (.lload 6, n, a, b, c)) (k : WP d m n (a0 :: a1 :: a2 :: a3 :: a4 :: a5 :: some (.long x) :: r) (.long x :: st) g fi fl P) : WP d m pc (a0 :: a1 :: a2 :: a3 :: a4 :: a5 :: some (.long x) :: r) st g fi fl P := wp_st hc rfl k
theorem wi_aload_6 {x : Nat} {a0 a1 a2 a3 a4 a5 : Option Value} {r : List (Option Value)} (hc : am_CT m pc = some (.aload 6, n, a, b, c)) (k : WP d m n (a0 :: a1 :: a2 :: a3 :: a4 :: a5 :: some (.ref x) :: r) (.ref x :: st) g fi fl P) : WP d m pc (a0 :: a1 :: a2 :: a3 :: a4 :: a5 :: some (.ref x) :: r) st g fi fl P := wp_st hc rfl k
theorem wi_aloadN_6 {a0 a1 a2 a3 a4 a5 : Option Value} {r : List (Option Value)} (hc : am_CT m pc = some (.aload 6, n, a, b, c)) (k : WP d m n (a0 :: a1 :: a2 :: a3 :: a4 :: a5 :: some .null :: r) (.null :: st) g fi fl P) : WP d m pc (a0 :: a1 :: a2 :: a3 :: a4 :: a5 :: some .null :: r) st g fi fl P := wp_st hc rfl k
theorem wi_aloadT_6 {x : Nat} {a0 a1 a2 a3 a4 a5 : Option Value} {r : List (Option Value)} (hc : am_CT m pc = some (.aload 6, n, a, b, c)) (k : WP d m n (a0 :: a1 :: a2 :: a3 :: a4 :: a5 :: some (.retAddr x) :: r) (.retAddr x :: st) g fi fl P) : WP d m pc (a0 :: a1 :: a2 :: a3 :: a4 :: a5 :: some (.retAddr x) :: r) st g fi fl P := wp_st hc rfl k
theorem wi_istore_6 {x : Int32} {a0 a1 a2 a3 a4 a5 l : Option Value} {r : List (Option Value)} (hn : am_nl a5 = true) (hc : am_CT m pc = some (.istore 6, n, a, b, c)) (k : WP d m n (a0 :: a1 :: a2 :: a3 :: a4 :: a5 :: some (.int x) :: r) st g fi fl P) : WP d m pc (a0 :: a1 :: a2 :: a3 :: a4 :: a5 :: l :: r) (.int x :: st) g fi fl P := wp_st hc (by unfold am_step; exact if_pos ⟨by simp only [List.length_cons]; omega, am_noLs hn⟩) k
theorem wi_astore_6 {x : Nat} {a0 a1 a2 a3 a4 a5 l : Option Value} {r : List (Option Value)} (hn : am_nl a5 = true) (hc : am_CT m pc = some (.astore 6, n, a, b, c)) (k : WP d m n (a0 :: a1 :: a2 :: a3 :: a4 :: a5 :: some (.ref x) :: r) st g fi fl P) : WP d m pc (a0 :: a1 :: a2 :: a3 :: a4 :: a5 :: l :: r) (.ref x :: st) g fi fl P := wp_st hc (by unfold am_step; exact if_pos ⟨by simp only [List.length_cons]; omega, am_noLs hn⟩) k
theorem wi_astoreN_6 {a0 a1 a2 a3 a4 a5 l : Option Value} {r : List (Option Value)} (hn : am_nl a5 = true) (hc : am_CT m pc = some (.astore 6, n, a, b, c)) (k : WP d m n (a0 :: a1 :: a2 :: a3 :: a4 :: a5 :: some .null :: r) st g fi fl P) : WP d m pc (a0 :: a1 :: a2 :: a3 :: a4 :: a5 :: l :: r) (.null :: st) g fi fl P := wp_st hc (by unfold am_step; exact if_pos ⟨by simp only [List.length_cons]; omega, am_noLs hn⟩) k
theorem wi_astoreT_6 {x : Nat} {a0 a1 a2 a3 a4 a5 l : Option Value} {r : List (Option Value)} (hn : am_nl a5 = true) (hx : x < 100) (hc : am_CT m pc = some (.astore 6, n, a, b, c)) (k : WP d m n (a0 :: a1 :: a2 :: a3 :: a4 :: a5 :: some (.retAddr x) :: r) st g fi fl P) : WP d m pc (a0 :: a1 :: a2 :: a3 :: a4 :: a5 :: l :: r) (.retAddr x :: st) g fi fl P := wp_st hc (by unfold am_step; exact if_pos ⟨by simp only [List.length_cons]; omega, am_noLs hn, hx⟩) k
theorem wi_lstore_6 {x : Int64} {a0 a1 a2 a3 a4 a5 l : Option Value} {l2 : Option Value} {r : List (Option Value)} (hn : am_nl a5 = true) (hc : am_CT m pc = some (.lstore 6, n, a, b, c)) (k : WP d m n (a0 :: a1 :: a2 :: a3 :: a4 :: a5 :: some (.long x) :: none :: r) st g fi fl P) : WP d m pc (a0 :: a1 :: a2 :: a3 :: a4 :: a5 :: l :: l2 :: r) (.long x :: st) g fi fl P := wp_st hc (by unfold am_step; exact if_pos ⟨by simp only [List.length_cons]; omega, am_noLs hn⟩) k
theorem wi_iinc_6 {x z : Int32} {i : Int} {a0 a1 a2 a3 a4 a5 : Option Value} {r : List (Option Value)} (hn : am_nl a5 = true) (hc : am_CT m pc = some (.iinc 6 i, n, a, b, c)) (hz : x + Int32.ofInt i = z) (k : WP d m n (a0 :: a1 :: a2 :: a3 :: a4 :: a5 :: some (.int z) :: r) st g fi fl P) : WP d m pc (a0 :: a1 :: a2 :: a3 :: a4 :: a5 :: some (.int x) :: r) st g fi fl P := wp_st hc (by unfold am_step; exact if_pos (am_noLs hn)) (hz ▸ k)
theorem wi_iload_7 {x : Int32} {a0 a1 a2 a3 a4 a5 a6 : Option Value} {r : List (Option Value)} (hc : am_CT m pc = some (.iload 7, n, a, b, c)) (k : WP d m n (a0 :: a1 :: a2 :: a3 :: a4 :: a5 :: a6 :: some (.int x) :: r) (.int x :: st) g fi fl P) : WP d m pc (a0 :: a1 :: a2 :: a3 :: a4 :: a5 :: a6 :: some (.int x) :: r) st g fi fl P := wp_st hc rfl k
theorem wi_lload_7 {x : Int64} {a0 a1 a2 a3 a4 a5 a6 : Option Value} {r : List (Option Value)} (hc : am_CT m pc = some (.lload 7, n, a, b, c)) (k : WP d m n (a0 :: a1 :: a2 :: a3 :: a4 :: a5 :: a6 :: some (.long x) :: r) (.long x :: st) g fi fl P) : WP d m pc (a0 :: a1 :: a2 :: a3 :: a4 :: a5 :: a6 :: some (.long x) :: r) st g fi fl P := wp_st hc rfl k
theorem wi_aload_7 {x : Nat} {a0 a1 a2 a3 a4 a5 a6 : Option Value} {r : List (Option Value)} (hc : am_CT m pc = some (.aload 7, n, a, b, c)) (k : WP d m n (a0 :: a1 :: a2 :: a3 :: a4 :: a5 :: a6 :: some (.ref x) :: r) (.ref x :: st) g fi fl P) : WP d m pc (a0 :: a1 :: a2 :: a3 :: a4 :: a5 :: a6 :: some (.ref x) :: r) st g fi fl P := wp_st hc rfl k
theorem wi_aloadN_7 {a0 a1 a2 a3 a4 a5 a6 : Option Value} {r : List (Option Value)} (hc : am_CT m pc = some (.aload 7, n, a, b, c)) (k : WP d m n (a0 :: a1 :: a2 :: a3 :: a4 :: a5 :: a6 :: some .null :: r) (.null :: st) g fi fl P) : WP d m pc (a0 :: a1 :: a2 :: a3 :: a4 :: a5 :: a6 :: some .null :: r) st g fi fl P := wp_st hc rfl k
theorem wi_aloadT_7 {x : Nat} {a0 a1 a2 a3 a4 a5 a6 : Option Value} {r : List (Option Value)} (hc : am_CT m pc = some (.aload 7, n, a, b, c)) (k : WP d m n (a0 :: a1 :: a2 :: a3 :: a4 :: a5 :: a6 :: some (.retAddr x) :: r) (.retAddr x :: st) g fi fl P) : WP d m pc (a0 :: a1 :: a2 :: a3 :: a4 :: a5 :: a6 :: some (.retAddr x) :: r) st g fi fl P := wp_st hc rfl k
theorem wi_istore_7 {x : Int32} {a0 a1 a2 a3 a4 a5 a6 l : Option Value} {r : List (Option Value)} (hn : am_nl a6 = true) (hc : am_CT m pc = some (.istore 7, n, a, b, c)) (k : WP d m n (a0 :: a1 :: a2 :: a3 :: a4 :: a5 :: a6 :: some (.int x) :: r) st g fi fl P) : WP d m pc (a0 :: a1 :: a2 :: a3 :: a4 :: a5 :: a6 :: l :: r) (.int x :: st) g fi fl P := wp_st hc (by unfold am_step; exact if_pos ⟨by simp only [List.length_cons]; omega, am_noLs hn⟩) k
theorem wi_astore_7 {x : Nat} {a0 a1 a2 a3 a4 a5 a6 l : Option Value} {r : List (Option Value)} (hn : am_nl a6 = true) (hc : am_CT m pc = some (.astore 7, n, a, b, c)) (k : WP d m n (a0 :: a1 :: a2 :: a3 :: a4 :: a5 :: a6 :: some (.ref x) :: r) st g fi fl P) : WP d m pc (a0 :: a1 :: a2 :: a3 :: a4 :: a5 :: a6 :: l :: r) (.ref x :: st) g fi fl P := wp_st hc (by unfold am_step; exact if_pos ⟨by simp only [List.length_cons]; omega, am_noLs hn⟩) k
theorem wi_astoreN_7 {a0 a1 a2 a3 a4 a5 a6 l : Option Value} {r : List (Option Value)} (hn : am_nl a6 = true) (hc : am_CT m pc = some (.astore 7, n, a, b, c)) (k : WP d m n (a0 :: a1 :: a2 :: a3 :: a4 :: a5 :: a6 :: some .null :: r) st g fi fl P) : WP d m pc (a0 :: a1 :: a2 :: a3 :: a4 :: a5 :: a6 :: l :: r) (.null :: st) g fi fl P := wp_st hc (by unfold am_step; exact if_pos ⟨by simp only [List.length_cons]; omega, am_noLs hn⟩) k
theorem wi_astoreT_7 {x : Nat} {a0 a1 a2 a3 a4 a5 a6 l : Option Value} {r : List (Option Value)} (hn : am_nl a6 = true) (hx : x < 100) (hc : am_CT m pc = some (.astore 7, n, a, b, c)) (k : WP d m n (a0 :: a1 :: a2 :: a3 :: a4 :: a5 :: a6 :: some (.retAddr x) :: r) st g fi fl P) : WP d m pc (a0 :: a1 :: a2 :: a3 :: a4 :: a5 :: a6 :: l :: r) (.retAddr x :: st) g fi fl P := wp_st hc (by unfold am_step; exact if_pos ⟨by simp only [List.length_cons]; omega, am_noLs hn, hx⟩) k
theorem wi_lstore_7 {x : Int64} {a0 a1 a2 a3 a4 a5 a6 l : Option Value} {l2 : Option Value} {r : List (Option Value)} (hn : am_nl a6 = true) (hc : am_CT m pc = some (.lstore 7, n, a, b, c)) (k : WP d m n (a0 :: a1 :: a2 :: a3 :: a4 :: a5 :: a6 :: some (.long x) :: none :: r) st g fi fl P) : WP d m pc (a0 :: a1 :: a2 :: a3 :: a4 :: a5 :: a6 :: l :: l2 :: r) (.long x :: st) g fi fl P := wp_st hc (by unfold am_step; exact if_pos ⟨by simp only [List.length_cons]; omega, am_noLs hn⟩) k
theorem wi_iinc_7 {x z : Int32} {i : Int} {a0 a1 a2 a3 a4 a5 a6 : Option Value} {r : List (Option Value)} (hn : am_nl a6 = true) (hc : am_CT m pc = some (.iinc 7 i, n, a, b, c)) (hz : x + Int32.ofInt i = z) (k : WP d m n (a0 :: a1 :: a2 :: a3 :: a4 :: a5 :: a6 :: some (.int z) :: r) st g fi fl P) : WP d m pc (a0 :: a1 :: a2 :: a3 :: a4 :: a5 :: a6 :: some (.int x) :: r) st g fi fl P := wp_st hc (by unfold am_step; exact if_pos (am_noLs hn)) (hz ▸ k)
theorem wi_iload_8 {x : Int32} {a0 a1 a2 a3 a4 a5 a6 a7 : Option Value} {r : List (Option Value)} (hc : am_CT m pc = some (.iload 8, n, a, b, c)) (k : WP d m n (a0 :: a1 :: a2 :: a3 :: a4 :: a5 :: a6 :: a7 :: some (.int x) :: r) (.int x :: st) g fi fl P) : WP d m pc (a0 :: a1 :: a2 :: a3 :: a4 :: a5 :: a6 :: a7 :: some (.int x) :: r) st g fi fl P := wp_st hc rfl k
theorem wi_lload_8 {x : Int64} {a0 a1 a2 a3 a4 a5 a6 a7 : Option Value} {r : List (Option Value)} (hc : am_CT m pc = some (.lload 8, n, a, b, c)) (k : WP d m n (a0 :: a1 :: a2 :: a3 :: a4 :: a5 :: a6 :: a7 :: some (.long x) :: r) (.long x :: st) g fi fl P) : WP d m pc (a0 :: a1 :: a2 :: a3 :: a4 :: a5 :: a6 :: a7 :: some (.long x) :: r) st g fi fl P := wp_st hc rfl k
theorem wi_aload_8 {x : Nat} {a0 a1 a2 a3 a4 a5 a6 a7 : Option Value} {r : List (Option Value)} (hc : am_CT m pc = some (.aload 8, n, a, b, c)) (k : WP d m n (a0 :: a1 :: a2 :: a3 :: a4 :: a5 :: a6 :: a7 :: some (.ref x) :: r) (.ref x :: st) g fi fl P) : WP d m pc (a0 :: a1 :: a2 :: a3 :: a4 :: a5 :: a6 :: a7 :: some (.ref x) :: r) st g fi fl P := wp_st hc rfl k
theorem wi_aloadN_8 {a0 a1 a2 a3 a4 a5 a6 a7 : Option Value} {r : List (Option Value)} (hc : am_CT m pc = some (.aload 8, n, a, b, c)) (k : WP d m n (a0 :: a1 :: a2 :: a3 :: a4 :: a5 :: a6 :: a7 :: some .null :: r) (.null :: st) g fi fl P) : WP d m pc (a0 :: a1 :: a2 :: a3 :: a4 :: a5 :: a6 :: a7 :: some .null :: r) st g fi fl P := wp_st hc rfl k
theorem wi_aloadT_8 {x : Nat} {a0 a1 a2 a3 a4 a5 a6 a7 : Option Value} {r : List (Option Value)} (hc : am_CT m pc = some (.aload 8, n, a, b, c)) (k : WP d m n (a0 :: a1 :: a2 :: a3 :: a4 :: a5 :: a6 :: a7 :: some (.retAddr x) :: r) (.retAddr x :: st) g fi fl P) : WP d m pc (a0 :: a1 :: a2 :: a3 :: a4 :: a5 :: a6 :: a7 :: some (.retAddr x) :: r) st g fi fl P := wp_st hc rfl k
theorem wi_istore_8 {x : Int32} {a0 a1 a2 a3 a4 a5 a6 a7 l : Option Value} {r : List (Option Value)} (hn : am_nl a7 = true) (hc : am_CT m pc = some (.istore 8, n, a, b, c)) (k : WP d m n (a0 :: a1 :: a2 :: a3 :: a4 :: a5 :: a6 :: a7 :: some (.int x) :: r) st g fi fl P) : WP d m pc (a0 :: a1 :: a2 :: a3 :: a4 :: a5 :: a6 :: a7 :: l :: r) (.int x :: st) g fi fl P := wp_st hc (by unfold am_step; exact if_pos ⟨by simp only [List.length_cons]; omega, am_noLs hn⟩) k
theorem wi_astore_8 {x : Nat} {a0 a1 a2 a3 a4 a5 a6 a7 l : Option Value} {r : List (Option Value)} (hn : am_nl a7 = true) (hc : am_CT m pc = some (.astore 8, n, a, b, c)) (k : WP d m n (a0 :: a1 :: a2 :: a3 :: a4 :: a5 :: a6 :: a7 :: some (.ref x) :: r) st g fi fl P) : WP d m pc (a0 :: a1 :: a2 :: a3 :: a4 :: a5 :: a6 :: a7 :: l :: r) (.ref x :: st) g fi fl P := wp_st hc (by unfold am_step; exact if_pos ⟨by simp only [List.length_cons]; omega, am_noLs hn⟩) k
theorem wi_astoreN_8 {a0 a1 a2 a3 a4 a5 a6 a7 l : Option Value} {r : List (Option Value)} (hn : am_nl a7 = true) (hc : am_CT m pc = some (.astore 8, n, a, b, c)) (k : WP d m n (a0 :: a1 :: a2 :: a3 :: a4 :: a5 :: a6 :: a7 :: some .null :: r) st g fi fl P) : WP d m pc (a0 :: a1 :: a2 :: a3 :: a4 :: a5 :: a6 :: a7 :: l :: r) (.null :: st) g fi fl P := wp_st hc (by unfold am_step; exact if_pos ⟨by simp only [List.length_cons]; omega, am_noLs hn⟩) k
theorem wi_astoreT_8 {x : Nat} {a0 a1 a2 a3 a4 a5 a6 a7 l : Option Value} {r : List (Option Value)} (hn : am_nl a7 = true) (hx : x < 100) (hc : am_CT m pc = some (.astore 8, n, a, b, c)) (k : WP d m n (a0 :: a1 :: a2 :: a3 :: a4 :: a5 :: a6 :: a7 :: some (.retAddr x) :: r) st g fi fl P) : WP d m pc (a0 :: a1 :: a2 :: a3 :: a4 :: a5 :: a6 :: a7 :: l :: r) (.retAddr x :: st) g fi fl P := wp_st hc (by unfold am_step; exact if_pos ⟨by simp only [List.length_cons]; omega, am_noLs hn, hx⟩) k
theorem wi_lstore_8 {x : Int64} {a0 a1 a2 a3 a4 a5 a6 a7 l : Option Value} {l2 : Option Value} {r : List (Option Value)} (hn : am_nl a7 = true) (hc : am_CT m pc = some (.lstore 8, n, a, b, c)) (k : WP d m n (a0 :: a1 :: a2 :: a3 :: a4 :: a5 :: a6 :: a7 :: some (.long x) :: none :: r) st g fi fl P) : WP d m pc (a0 :: a1 :: a2 :: a3 :: a4 :: a5 :: a6 :: a7 :: l :: l2 :: r) (.long x :: st) g fi fl P := wp_st hc (by unfold am_step; exact if_pos ⟨by simp only [List.length_cons]; omega, am_noLs hn⟩) k
theorem wi_iinc_8 {x z : Int32} {i : Int} {a0 a1 a2 a3 a4 a5 a6 a7 : Option Value} {r : List (Option Value)} (hn : am_nl a7 = true) (hc : am_CT m pc = some (.iinc 8 i, n, a, b, c)) (hz : x + Int32.ofInt i = z) (k : WP d m n (a0 :: a1 :: a2 :: a3 :: a4 :: a5 :: a6 :: a7 :: some (.int z) :: r) st g fi fl P) : WP d m pc (a0 :: a1 :: a2 :: a3 :: a4 :: a5 :: a6 :: a7 :: some (.int x) :: r) st g fi fl P := wp_st hc (by unfold am_step; exact if_pos (am_noLs hn)) (hz ▸ k)
theorem wi_iload_9 {x : Int32} {a0 a1 a2 a3 a4 a5 a6 a7 a8 : Option Value} {r : List (Option Value)} (hc : am_CT m pc = some (.iload 9, n, a, b, c)) (k : WP d m n (a0 :: a1 :: a2 :: a3 :: a4 :: a5 :: a6 :: a7 :: a8 :: some (.int x) :: r) (.int x :: st) g fi fl P) : WP d m pc (a0 :: a1 :: a2 :: a3 :: a4 :: a5 :: a6 :: a7 :: a8 :: some (.int x) :: r) st g fi fl P := wp_st hc rfl k
theorem wi_lload_9 {x : Int64} {a0 a1 a2 a3 a4 a5 a6 a7 a8 : Option Value} {r : List (Option Value)} (hc : am_CT m pc = some (.lload 9, n, a, b, c)) (k : WP d m n (a0 :: a1 :: a2 :: a3 :: a4 :: a5 :: a6 :: a7 :: a8 :: some (.long x) :: r) (.long x :: st) g fi fl P) : WP d m pc (a0 :: a1 :: a2 :: a3 :: a4 :: a5 :: a6 :: a7 :: a8 :: some (.long x) :: r) st g fi fl P := wp_st hc rfl k
theorem wi_aload_9 {x : Nat} {a0 a1 a2 a3 a4 a5 a6 a7 a8 : Option Value} {r : List (Option Value)} (hc : am_CT m pc = some (.aload 9, n, a, b, c)) (k : WP d m n (a0 :: a1 :: a2 :: a3 :: a4 :: a5 :: a6 :: a7 :: a8 :: some (.ref x) :: r) (.ref x :: st) g fi fl P) : WP d m pc (a0 :: a1 :: a2 :: a3 :: a4 :: a5 :: a6 :: a7 :: a8 :: some (.ref x) :: r) st g fi fl P := wp_st hc rfl k
theorem wi_aloadN_9 {a0 a1 a2 a3 a4 a5 a6 a7 a8 : Option Value} {r : List (Option Value)} (hc : am_CT m pc = some (.aload 9, n, a, b, c)) (k : WP d m n (a0 :: a1 :: a2 :: a3 :: a4 :: a5 :: a6 :: a7 :: a8 :: some .null :: r) (.null :: st) g fi fl P) : WP d m pc (a0 :: a1 :: a2 :: a3 :: a4 :: a5 :: a6 :: a7 :: a8 :: some .null :: r) st g fi fl P := wp_st hc rfl k
theorem wi_aloadT_9 {x : Nat} {a0 a1 a2 a3 a4 a5 a6 a7 a8 : Option Value} {r : List (Option Value)} (hc : am_CT m pc = some (.aload 9, n, a, b, c)) (k : WP d m n (a0 :: a1 :: a2 :: a3 :: a4 :: a5 :: a6 :: a7 :: a8 :: some (.retAddr x) :: r) (.retAddr x :: st) g fi fl P) : WP d m pc (a0 :: a1 :: a2 :: a3 :: a4 :: a5 :: a6 :: a7 :: a8 :: some (.retAddr x) :: r) st g fi fl P := wp_st hc rfl k
theorem wi_istore_9 {x : Int32} {a0 a1 a2 a3 a4 a5 a6 a7 a8 l : Option Value} {r : List (Option Value)} (hn : am_nl a8 = true) (hc : am_CT m pc = some (.istore 9, n, a, b, c)) (k : WP d m n (a0 :: a1 :: a2 :: a3 :: a4 :: a5 :: a6 :: a7 :: a8 :: some (.int x) :: r) st g fi fl P) : WP d m pc (a0 :: a1 :: a2 :: a3 :: a4 :: a5 :: a6 :: a7 :: a8 :: l :: r) (.int x :: st) g fi fl P := wp_st hc (by unfold am_step; exact if_pos ⟨by simp only [List.length_cons]; omega, am_noLs hn⟩) k
theorem wi_astore_9 {x : Nat} {a0 a1 a2 a3 a4 a5 a6 a7 a8 l : Option Value} {r : List (Option Value)} (hn : am_nl a8 = true) (hc : am_CT m pc = some (.astore 9, n, a, b, c)) (k : WP d m n (a0 :: a1 :: a2 :: a3 :: a4 :: a5 :: a6 :: a7 :: a8 :: some (.ref x) :: r) st g fi fl P) : WP d m pc (a0 :: a1 :: a2 :: a3 :: a4 :: a5 :: a6 :: a7 :: a8 :: l :: r) (.ref x :: st) g fi fl P := wp_st hc (by unfold am_step; exact if_pos ⟨by simp only [List.length_cons]; omega, am_noLs hn⟩) k
theorem wi_astoreN_9 {a0 a1 a2 a3 a4 a5 a6 a7 a8 l : Option Value} {r : List (Option Value)} (hn : am_nl a8 = true) (hc : am_CT m pc = some (.astore 9, n, a, b, c)) (k : WP d m n (a0 :: a1 :: a2 :: a3 :: a4 :: a5 :: a6 :: a7 :: a8 :: some .null :: r) st g fi fl P) : WP d m pc (a0 :: a1 :: a2 :: a3 :: a4 :: a5 :: a6 :: a7 :: a8 :: l :: r) (.null :: st) g fi fl P := wp_st hc (by unfold am_step; exact if_pos ⟨by simp only [List.length_cons]; omega, am_noLs hn⟩) k
theorem wi_astoreT_9 {x : Nat} {a0 a1 a2 a3 a4 a5 a6 a7 a8 l : Option Value} {r : List (Option Value)} (hn : am_nl a8 = true) (hx : x < 100) (hc : am_CT m pc = some (.astore 9, n, a, b, c)) (k : WP d m n (a0 :: a1 :: a2 :: a3 :: a4 :: a5 :: a6 :: a7 :: a8 :: some (.retAddr x) :: r) st g fi fl P) : WP d m pc (a0 :: a1 :: a2 :: a3 :: a4 :: a5 :: a6 :: a7 :: a8 :: l :: r) (.retAddr x :: st) g fi fl P := wp_st hc (by unfold am_step; exact if_pos ⟨by simp only [List.length_cons]; omega, am_noLs hn, hx⟩) k
theorem wi_lstore_9 {x : Int64} {a0 a1 a2 a3 a4 a5 a6 a7 a8 l : Option Value} {l2 : Option Value} {r : List (Option Value)} (hn : am_nl a8 = true) (hc : am_CT m pc = some (.lstore 9, n, a, b, c)) (k : WP d m n (a0 :: a1 :: a2 :: a3 :: a4 :: a5 :: a6 :: a7 :: a8 :: some (.long x) :: none :: r) st g fi fl P) : WP d m pc (a0 :: a1 :: a2 :: a3 :: a4 :: a5 :: a6 :: a7 :: a8 :: l :: l2 :: r) (.long x :: st) g fi fl P := wp_st hc (by unfold am_step; exact if_pos ⟨by simp only [List.length_cons]; omega, am_noLs hn⟩) k
theorem wi_iinc_9 {x z : Int32} {i : Int} {a0 a1 a2 a3 a4 a5 a6 a7 a8 : Option Value} {r : List (Option Value)} (hn : am_nl a8 = true) (hc : am_CT m pc = some (.iinc 9 i, n, a, b, c)) (hz : x + Int32.ofInt i = z) (k : WP d m n (a0 :: a1 :: a2 :: a3 :: a4 :: a5 :: a6 :: a7 :: a8 :: some (.int z) :: r) st g fi fl P) : WP d m pc (a0 :: a1 :: a2 :: a3 :: a4 :: a5 :: a6 :: a7 :: a8 :: some (.int x) :: r) st g fi fl P := wp_st hc (by unfold am_step; exact if_pos (am_noLs hn)) (hz ▸ k)
theorem wi_iload_10 {x : Int32} {a0 a1 a2 a3 a4 a5 a6 a7 a8 a9 : Option Value} {r : List (Option Value)} (hc : am_CT m pc = some (.iload 10, n, a, b, c)) (k : WP d m n (a0 :: a1 :: a2 :: a3 :: a4 :: a5 :: a6 :: a7 :: a8 :: a9 :: some (.int x) :: r) (.int x :: st) g fi fl P) : WP d m pc (a0 :: a1 :: a2 :: a3 :: a4 :: a5 :: a6 :: a7 :: a8 :: a9 :: some (.int x) :: r) st g fi fl P := wp_st hc rfl k
theorem wi_lload_10 {x : Int64} {a0 a1 a2 a3 a4 a5 a6 a7 a8 a9 : Option Value} {r : List (Option Value)} (hc : am_CT m pc = some (.lload 10, n, a, b, c)) (k : WP d m n (a0 :: a1 :: a2 :: a3 :: a4 :: a5 :: a6 :: a7 :: a8 :: a9 :: some (.long x) :: r) (.long x :: st) g fi fl P) : WP d m pc (a0 :: a1 :: a2 :: a3 :: a4 :: a5 :: a6 :: a7 :: a8 :: a9 :: some (.long x) :: r) st g fi fl P := wp_st hc rfl k
theorem wi_aload_10 {x : Nat} {a0 a1 a2 a3 a4 a5 a6 a7 a8 a9 : Option Value} {r : List (Option Value)} (hc : am_CT m pc = some (.aload 10, n, a, b, c)) (k : WP d m n (a0 :: a1 :: a2 :: a3 :: a4 :: a5 :: a6 :: a7 :: a8 :: a9 :: some (.ref x) :: r) (.ref x :: st) g fi fl P) : WP d m pc (a0 :: a1 :: a2 :: a3 :: a4 :: a5 :: a6 :: a7 :: a8 :: a9 :: some (.ref x) :: r) st g fi fl P := wp_st hc rfl k
theorem wi_aloadN_10 {a0 a1 a2 a3 a4 a5 a6 a7 a8 a9 : Option Value} {r : List (Option Value)} (hc : am_CT m pc = some (.aload 10, n, a, b, c)) (k : WP d m n (a0 :: a1 :: a2 :: a3 :: a4 :: a5 :: a6 :: a7 :: a8 :: a9 :: some .null :: r) (.null :: st) g fi fl P) : WP d m pc (a0 :: a1 :: a2 :: a3 :: a4 :: a5 :: a6 :: a7 :: a8 :: a9 :: some .null :: r) st g fi fl P := wp_st hc rfl k
theorem wi_aloadT_10 {x : Nat} {a0 a1 a2 a3 a4 a5 a6 a7 a8 a9 : Option Value} {r : List (Option Value)} (hc : am_CT m pc = some (.aload 10, n, a, b, c)) (k : WP d m n (a0 :: a1 :: a2 :: a3 :: a4 :: a5 :: a6 :: a7 :: a8 :: a9 :: some (.retAddr x) :: r) (.retAddr x :: st) g fi fl P) : WP d m pc (a0 :: a1 :: a2 :: a3 :: a4 :: a5 :: a6 :: a7 :: a8 :: a9 :: some (.retAddr x) :: r) st g fi fl P := wp_st hc rfl k
theorem wi_istore_10 {x : Int32} {a0 a1 a2 a3 a4 a5 a6 a7 a8 a9 l : Option Value} {r : List (Option Value)} (hn : am_nl a9 = true) (hc : am_CT m pc = some (.istore 10, n, a, b, c)) (k : WP d m n (a0 :: a1 :: a2 :: a3 :: a4 :: a5 :: a6 :: a7 :: a8 :: a9 :: some (.int x) :: r) st g fi fl P) : WP d m pc (a0 :: a1 :: a2 :: a3 :: a4 :: a5 :: a6 :: a7 :: a8 :: a9 :: l :: r) (.int x :: st) g fi fl P := wp_st hc (by unfold am_step; exact if_pos ⟨by simp only [List.length_cons]; omega, am_noLs hn⟩) k
theorem wi_astore_10 {x : Nat} {a0 a1 a2 a3 a4 a5 a6 a7 a8 a9 l : Option Value} {r : List (Option Value)} (hn : am_nl a9 = true) (hc : am_CT m pc = some (.astore 10, n, a, b, c)) (k : WP d m n (a0 :: a1 :: a2 :: a3 :: a4 :: a5 :: a6 :: a7 :: a8 :: a9 :: some (.ref x) :: r) st g fi fl P) : WP d m pc (a0 :: a1 :: a2 :: a3 :: a4 :: a5 :: a6 :: a7 :: a8 :: a9 :: l :: r) (.ref x :: st) g fi fl P := wp_st hc (by unfold am_step; exact if_pos ⟨by simp only [List.length_cons]; omega, am_noLs hn⟩) k
theorem wi_astoreN_10 {a0 a1 a2 a3 a4 a5 a6 a7 a8 a9 l : Option Value} {r : List (Option Value)} (hn : am_nl a9 = true) (hc : am_CT m pc = some (.astore 10, n, a, b, c)) (k : WP d m n (a0 :: a1 :: a2 :: a3 :: a4 :: a5 :: a6 :: a7 :: a8 :: a9 :: some .null :: r) st g fi fl P) : WP d m pc (a0 :: a1 :: a2 :: a3 :: a4 :: a5 :: a6 :: a7 :: a8 :: a9 :: l :: r) (.null :: st) g fi fl P := wp_st hc (by unfold am_step; exact if_pos ⟨by simp only [List.length_cons]; omega, am_noLs hn⟩) k
theorem wi_astoreT_10 {x : Nat} {a0 a1 a2 a3 a4 a5 a6 a7 a8 a9 l : Option Value} {r : List (Option Value)} (hn : am_nl a9 = true) (hx : x < 100) (hc : am_CT m pc = some (.astore 10, n, a, b, c)) (k : WP d m n (a0 :: a1 :: a2 :: a3 :: a4 :: a5 :: a6 :: a7 :: a8 :: a9 :: some (.retAddr x) :: r) st g fi fl P) : WP d m pc (a0 :: a1 :: a2 :: a3 :: a4 :: a5 :: a6 :: a7 :: a8 :: a9 :: l :: r) (.retAddr x :: st) g fi fl P := wp_st hc (by unfold am_step; exact if_pos ⟨by simp only [List.length_cons]; omega, am_noLs hn, hx⟩) k
theorem wi_lstore_10 {x : Int64} {a0 a1 a2 a3 a4 a5 a6 a7 a8 a9 l : Option Value} {l2 : Option Value} {r : List (Option Value)} (hn : am_nl a9 = true) (hc : am_CT m pc = some (.lstore 10, n, a, b, c)) (k : WP d m n (a0 :: a1 :: a2 :: a3 :: a4 :: a5 :: a6 :: a7 :: a8 :: a9 :: some (.long x) :: none :: r) st g fi fl P) : WP d m pc (a0 :: a1 :: a2 :: a3 :: a4 :: a5 :: a6 :: a7 :: a8 :: a9 :: l :: l2 :: r) (.long x :: st) g fi fl P := wp_st hc (by unfold am_step; exact if_pos ⟨by simp only [List.length_cons]; omega, am_noLs hn⟩) k
theorem wi_iinc_10 {x z : Int32} {i : Int} {a0 a1 a2 a3 a4 a5 a6 a7 a8 a9 : Option Value} {r : List (Option Value)} (hn : am_nl a9 = true) (hc : am_CT m pc = some (.iinc 10 i, n, a, b, c)) (hz : x + Int32.ofInt i = z) (k : WP d m n (a0 :: a1 :: a2 :: a3 :: a4 :: a5 :: a6 :: a7 :: a8 :: a9 :: some (.int z) :: r) st g fi fl P) : WP d m pc (a0 :: a1 :: a2 :: a3 :: a4 :: a5 :: a6 :: a7 :: a8 :: a9 :: some (.int x) :: r) st g fi fl P := wp_st hc (by unfold am_step; exact if_pos (am_noLs hn)) (hz ▸ k)
theorem wi_iadd {x y z : Int32} (hc : am_CT m pc = some (.iadd, n, a, b, c)) (hz : x + y = z) (k : WP d m n ls (.int z :: r) g fi fl P) : WP d m pc ls (.int y :: .int x :: r) g fi fl P := wp_st hc rfl (hz ▸ k)
theorem wi_isub {x y z : Int32} (hc : am_CT m pc = some (.isub, n, a, b, c)) (hz : x - y = z) (k : WP d m n ls (.int z :: r) g fi fl P) : WP d m pc ls (.int y :: .int x :: r) g fi fl P := wp_st hc rfl (hz ▸ k)
theorem wi_imul {x y z : Int32} (hc : am_CT m pc = some (.imul, n, a, b, c)) (hz : x * y = z) (k : WP d m n ls (.int z :: r) g fi fl P) : WP d m pc ls (.int y :: .int x :: r) g fi fl P := wp_st hc rfl (hz ▸ k)
theorem wi_iand {x y z : Int32} (hc : am_CT m pc = some (.iand, n, a, b, c)) (hz : x &&& y = z) (k : WP d m n ls (.int z :: r) g fi fl P) : WP d m pc ls (.int y :: .int x :: r) g fi fl P := wp_st hc rfl (hz ▸ k)
theorem wi_ior {x y z : Int32} (hc : am_CT m pc = some (.ior, n, a, b, c)) (hz : x ||| y = z) (k : WP d m n ls (.int z :: r) g fi fl P) : WP d m pc ls (.int y :: .int x :: r) g fi fl P := wp_st hc rfl (hz ▸ k)
theorem wi_ixor {x y z : Int32} (hc : am_CT m pc = some (.ixor, n, a, b, c)) (hz : x ^^^ y = z) (k : WP d m n ls (.int z :: r) g fi fl P) : WP d m pc ls (.int y :: .int x :: r) g fi fl P := wp_st hc rfl (hz ▸ k)
theorem wi_ishl {x y z : Int32} (hc : am_CT m pc = some (.ishl, n, a, b, c)) (hz : x <<< (y &&& 31) = z) (k : WP d m n ls (.int z :: r) g fi fl P) : WP d m pc ls (.int y :: .int x :: r) g fi fl P := wp_st hc rfl (hz ▸ k)
theorem wi_ishr {x y z : Int32} (hc : am_CT m pc = some (.ishr, n, a, b, c)) (hz : x >>> (y &&& 31) = z) (k : WP d m n ls (.int z :: r) g fi fl P) : WP d m pc ls (.int y :: .int x :: r) g fi fl P := wp_st hc rfl (hz ▸ k)
theorem wi_ladd {x y z : Int64} (hc : am_CT m pc = some (.ladd, n, a, b, c)) (hz : x + y = z) (k : WP d m n ls (.long z :: r) g fi fl P) : WP d m pc ls (.long y :: .long x :: r) g fi fl P := wp_st hc rfl (hz ▸ k)
theorem wi_lmul {x y z : Int64} (hc : am_CT m pc = some (.lmul, n, a, b, c)) (hz : x * y = z) (k : WP d m n ls (.long z :: r) g fi fl P) : WP d m pc ls (.long y :: .long x :: r) g fi fl P := wp_st hc rfl (hz ▸ k)
theorem wi_land {x y z : Int64} (hc : am_CT m pc = some (.land, n, a, b, c)) (hz : x &&& y = z) (k : WP d m n ls (.long z :: r) g fi fl P) : WP d m pc ls (.long y :: .long x :: r) g fi fl P := wp_st hc rfl (hz ▸ k)
theorem wi_lor {x y z : Int64} (hc : am_CT m pc = some (.lor, n, a, b, c)) (hz : x ||| y = z) (k : WP d m n ls (.long z :: r) g fi fl P) : WP d m pc ls (.long y :: .long x :: r) g fi fl P := wp_st hc rfl (hz ▸ k)
theorem wi_idiv {x y z : Int32} (hc : am_CT m pc = some (.idiv, n, a, b, c)) (h0 : y ≠ 0) (hz : x / y = z) (k : WP d m n ls (.int z :: r) g fi fl P) : WP d m pc ls (.int y :: .int x :: r) g fi fl P := wp_st hc (by unfold am_step; exact if_neg h0) (hz ▸ k)
theorem wi_irem {x y z : Int32} (hc : am_CT m pc = some (.irem, n, a, b, c)) (h0 : y ≠ 0) (hz : x - x / y * y = z) (k : WP d m n ls (.int z :: r) g fi fl P) : WP d m pc ls (.int y :: .int x :: r) g fi fl P := wp_st hc (by unfold am_step; exact if_neg h0) (hz ▸ k)
theorem wi_ldiv {x y z : Int64} (hc : am_CT m pc = some (.ldiv, n, a, b, c)) (h0 : y ≠ 0) (hz : x / y = z) (k : WP d m n ls (.long z :: r) g fi fl P) : WP d m pc ls (.long y :: .long x :: r) g fi fl P := wp_st hc (by unfold am_step; exact if_neg h0) (hz ▸ k)
theorem wi_lrem {x y z : Int64} (hc : am_CT m pc = some (.lrem, n, a, b, c)) (h0 : y ≠ 0) (hz : x - x / y * y = z) (k : WP d m n ls (.long z :: r) g fi fl P) : WP d m pc ls (.long y :: .long x :: r) g fi fl P := wp_st hc (by unfold am_step; exact if_neg h0) (hz ▸ k)
theorem wi_ineg {x z : Int32} (hc : am_CT m pc = some (.ineg, n, a, b, c)) (hz : -x = z) (k : WP d m n ls (.int z :: r) g fi fl P) : WP d m pc ls (.int x :: r) g fi fl P := wp_st hc rfl (hz ▸ k)
theorem wi_lshl {x z : Int64} {y : Int32} (hc : am_CT m pc = some (.lshl, n, a, b, c)) (hz : x <<< (y.toInt64 &&& 63) = z) (k : WP d m n ls (.long z :: r) g fi fl P) : WP d m pc ls (.int y :: .long x :: r) g fi fl P := wp_st hc rfl (hz ▸ k)
theorem wi_lcmp {x y : Int64} {z : Int32} (hc : am_CT m pc = some (.lcmp, n, a, b, c)) (hz : lg_cmp x y = z) (k : WP d m n ls (.int z :: r) g fi fl P) : WP d m pc ls (.long y :: .long x :: r) g fi fl P := wp_st hc rfl (hz ▸ k)
theorem wi_i2l {x : Int32} {z : Int64} (hc : am_CT m pc = some (.i2l, n, a, b, c)) (hz : x.toInt64 = z) (k : WP d m n ls (.long z :: r) g fi fl P) : WP d m pc ls (.int x :: r) g fi fl P := wp_st hc rfl (hz ▸ k)
theorem wi_l2i {x : Int64} {z : Int32} (hc : am_CT m pc = some (.l2i, n, a, b, c)) (hz : x.toInt32 = z) (k : WP d m n ls (.int z :: r) g fi fl P) : WP d m pc ls (.long x :: r) g fi fl P := wp_st hc rfl (hz ▸ k)
theorem wi_i2b {x : Int32} {z : Int32} (hc : am_CT m pc = some (.i2b, n, a, b, c)) (hz : x.toInt8.toInt32 = z) (k : WP d m n ls (.int z :: r) g fi fl P) : WP d m pc ls (.int x :: r) g fi fl P := wp_st hc rfl (hz ▸ k)
theorem wi_i2s {x : Int32} {z : Int32} (hc : am_CT m pc = some (.i2s, n, a, b, c)) (hz : x.toInt16.toInt32 = z) (k : WP d m n ls (.int z :: r) g fi fl P) : WP d m pc ls (.int x :: r) g fi fl P := wp_st hc rfl (hz ▸ k)
theorem wi_i2c {x : Int32} {z : Int32} (hc : am_CT m pc = some (.i2c, n, a, b, c)) (hz : (x.toUInt32 % 65536).toInt32 = z) (k : WP d m n ls (.int z :: r) g fi fl P) : WP d m pc ls (.int x :: r) g fi fl P := wp_st hc rfl (hz ▸ k)
theorem am_z0 : (0 : Int32).toInt = 0 := by decide
theorem am_cmpI (cd : ClassFile.Cond) (x y : Int32) : am_cmp cd x y = (match cd with
    | .eq => decide (x.toInt = y.toInt)
    | .ne => !decide (x.toInt = y.toInt)
    | .lt => decide (x.toInt < y.toInt)
    | .ge => decide (y.toInt ≤ x.toInt)
    | .gt => decide (y.toInt < x.toInt)
    | .le => decide (x.toInt ≤ y.toInt)) := by
  cases cd <;> rw [Bool.eq_iff_iff] <;> simp [am_cmp, Int32.toInt_inj, Int32.lt_iff_toInt_lt, Int32.le_iff_toInt_le]
theorem am_c1_eq {x y : Int32} {X Y : Int} (hx : x.toInt = X) (hy : y.toInt = Y) (h : X = Y) : am_cmp .eq x y = true := by
  rw [am_cmpI]; subst hx; subst hy; simpa using h
theorem am_c0_eq {x y : Int32} {X Y : Int} (hx : x.toInt = X) (hy : y.toInt = Y) (h : X ≠ Y) : ¬ (am_cmp .eq x y = true) := by
  rw [am_cmpI]; subst hx; subst hy; simp; omega
theorem wi_ifeq_t {x : Int32} {X : Int} {o : Int} (hc : am_CT m pc = some (.ifCond .eq o, n, a, b, c)) (hx : x.toInt = X) (h : X = 0) (k : WP d m a ls r g fi fl P) : WP d m pc ls (.int x :: r) g fi fl P := wp_st hc (by unfold am_step; exact if_pos (am_c1_eq hx am_z0 h)) k
theorem wi_ifeq_f {x : Int32} {X : Int} {o : Int} (hc : am_CT m pc = some (.ifCond .eq o, n, a, b, c)) (hx : x.toInt = X) (h : X ≠ 0) (k : WP d m n ls r g fi fl P) : WP d m pc ls (.int x :: r) g fi fl P := wp_st hc (by unfold am_step; exact if_neg (am_c0_eq hx am_z0 h)) k
theorem wi_ifeq {x : Int32} {X : Int} {o : Int} (hc : am_CT m pc = some (.ifCond .eq o, n, a, b, c)) (hx : x.toInt = X) (k1 : X = 0 → WP d m a ls r g fi fl P) (k2 : X ≠ 0 → WP d m n ls r g fi fl P) : WP d m pc ls (.int x :: r) g fi fl P := by
  rcases Decidable.em (X = 0) with h | h
  · exact wi_ifeq_t hc hx h (k1 h)
  · exact wi_ifeq_f hc hx (by omega) (k2 (by omega))
theorem wi_iceq_t {x y : Int32} {X Y : Int} {o : Int} (hc : am_CT m pc = some (.if_icmp .eq o, n, a, b, c)) (hx : x.toInt = X) (hy : y.toInt = Y) (h : X = Y) (k : WP d m a ls r g fi fl P) : WP d m pc ls (.int y :: .int x :: r) g fi fl P := wp_st hc (by unfold am_step; exact if_pos (am_c1_eq hx hy h)) k
theorem wi_iceq_f {x y : Int32} {X Y : Int} {o : Int} (hc : am_CT m pc = some (.if_icmp .eq o, n, a, b, c)) (hx : x.toInt = X) (hy : y.toInt = Y) (h : X ≠ Y) (k : WP d m n ls r g fi fl P) : WP d m pc ls (.int y :: .int x :: r) g fi fl P := wp_st hc (by unfold am_step; exact if_neg (am_c0_eq hx hy h)) k
theorem wi_iceq {x y : Int32} {X Y : Int} {o : Int} (hc : am_CT m pc = some (.if_icmp .eq o, n, a, b, c)) (hx : x.toInt = X) (hy : y.toInt = Y) (k1 : X = Y → WP d m a ls r g fi fl P) (k2 : X ≠ Y → WP d m n ls r g fi fl P) : WP d m pc ls (.int y :: .int x :: r) g fi fl P := by
  rcases Decidable.em (X = Y) with h | h
  · exact wi_iceq_t hc hx hy h (k1 h)
  · exact wi_iceq_f hc hx hy (by omega) (k2 (by omega))
theorem am_c1_ne {x y : Int32} {X Y : Int} (hx : x.toInt = X) (hy : y.toInt = Y) (h : X ≠ Y) : am_cmp .ne x y = true := by
  rw [am_cmpI]; subst hx; subst hy; simpa using h
theorem am_c0_ne {x y : Int32} {X Y : Int} (hx : x.toInt = X) (hy : y.toInt = Y) (h : X = Y) : ¬ (am_cmp .ne x y = true) := by
  rw [am_cmpI]; subst hx; subst hy; simp; omega
theorem wi_ifne_t {x : Int32} {X : Int} {o : Int} (hc : am_CT m pc = some (.ifCond .ne o, n, a, b, c)) (hx : x.toInt = X) (h : X ≠ 0) (k : WP d m a ls r g fi fl P) : WP d m pc ls (.int x :: r) g fi fl P := wp_st hc (by unfold am_step; exact if_pos (am_c1_ne hx am_z0 h)) k
theorem wi_ifne_f {x : Int32} {X : Int} {o : Int} (hc : am_CT m pc = some (.ifCond .ne o, n, a, b, c)) (hx : x.toInt = X) (h : X = 0) (k : WP d m n ls r g fi fl P) : WP d m pc ls (.int x :: r) g fi fl P := wp_st hc (by unfold am_step; exact if_neg (am_c0_ne hx am_z0 h)) k
theorem wi_ifne {x : Int32} {X : Int} {o : Int} (hc : am_CT m pc = some (.ifCond .ne o, n, a, b, c)) (hx : x.toInt = X) (k1 : X ≠ 0 → WP d m a ls r g fi fl P) (k2 : X = 0 → WP d m n ls r g fi fl P) : WP d m pc ls (.int x :: r) g fi fl P := by
  rcases Decidable.em (X ≠ 0) with h | h
  · exact wi_ifne_t hc hx h (k1 h)
  · exact wi_ifne_f hc hx (by omega) (k2 (by omega))
theorem wi_icne_t {x y : Int32} {X Y : Int} {o : Int} (hc : am_CT m pc = some (.if_icmp .ne o, n, a, b, c)) (hx : x.toInt = X) (hy : y.toInt = Y) (h : X ≠ Y) (k : WP d m a ls r g fi fl P) : WP d m pc ls (.int y :: .int x :: r) g fi fl P := wp_st hc (by unfold am_step; exact if_pos (am_c1_ne hx hy h)) k
theorem wi_icne_f {x y : Int32} {X Y : Int} {o : Int} (hc : am_CT m pc = some (.if_icmp .ne o, n, a, b, c)) (hx : x.toInt = X) (hy : y.toInt = Y) (h : X = Y) (k : WP d m n ls r g fi fl P) : WP d m pc ls (.int y :: .int x :: r) g fi fl P := wp_st hc (by unfold am_step; exact if_neg (am_c0_ne hx hy h)) k
theorem wi_icne {x y : Int32} {X Y : Int} {o : Int} (hc : am_CT m pc = some (.if_icmp .ne o, n, a, b, c)) (hx : x.toInt = X) (hy : y.toInt = Y) (k1 : X ≠ Y → WP d m a ls r g fi fl P) (k2 : X = Y → WP d m n ls r g fi fl P) : WP d m pc ls (.int y :: .int x :: r) g fi fl P := by
  rcases Decidable.em (X ≠ Y) with h | h
  · exact wi_icne_t hc hx hy h (k1 h)
  · exact wi_icne_f hc hx hy (by omega) (k2 (by omega))
theorem am_c1_lt {x y : Int32} {X Y : Int} (hx : x.toInt = X) (hy : y.toInt = Y) (h : X < Y) : am_cmp .lt x y = true := by
  rw [am_cmpI]; subst hx; subst hy; simpa using h
theorem am_c0_lt {x y : Int32} {X Y : Int} (hx : x.toInt = X) (hy : y.toInt = Y) (h : Y ≤ X) : ¬ (am_cmp .lt x y = true) := by
  rw [am_cmpI]; subst hx; subst hy; simp; omega
theorem wi_iflt_t {x : Int32} {X : Int} {o : Int} (hc : am_CT m pc = some (.ifCond .lt o, n, a, b, c)) (hx : x.toInt = X) (h : X < 0) (k : WP d m a ls r g fi fl P) : WP d m pc ls (.int x :: r) g fi fl P := wp_st hc (by unfold am_step; exact if_pos (am_c1_lt hx am_z0 h)) k
theorem wi_iflt_f {x : Int32} {X : Int} {o : Int} (hc : am_CT m pc = some (.ifCond .lt o, n, a, b, c)) (hx : x.toInt = X) (h : 0 ≤ X) (k : WP d m n ls r g fi fl P) : WP d m pc ls (.int x :: r) g fi fl P := wp_st hc (by unfold am_step; exact if_neg (am_c0_lt hx am_z0 h)) k
theorem wi_iflt {x : Int32} {X : Int} {o : Int} (hc : am_CT m pc = some (.ifCond .lt o, n, a, b, c)) (hx : x.toInt = X) (k1 : X < 0 → WP d m a ls r g fi fl P) (k2 : 0 ≤ X → WP d m n ls r g fi fl P) : WP d m pc ls (.int x :: r) g fi fl P := by
  rcases Decidable.em (X < 0) with h | h
  · exact wi_iflt_t hc hx h (k1 h)
  · exact wi_iflt_f hc hx (by omega) (k2 (by omega))
theorem wi_iclt_t {x y : Int32} {X Y : Int} {o : Int} (hc : am_CT m pc = some (.if_icmp .lt o, n, a, b, c)) (hx : x.toInt = X) (hy : y.toInt = Y) (h : X < Y) (k : WP d m a ls r g fi fl P) : WP d m pc ls (.int y :: .int x :: r) g fi fl P := wp_st hc (by unfold am_step; exact if_pos (am_c1_lt hx hy h)) k
theorem wi_iclt_f {x y : Int32} {X Y : Int} {o : Int} (hc : am_CT m pc = some (.if_icmp .lt o, n, a, b, c)) (hx : x.toInt = X) (hy : y.toInt = Y) (h : Y ≤ X) (k : WP d m n ls r g fi fl P) : WP d m pc ls (.int y :: .int x :: r) g fi fl P := wp_st hc (by unfold am_step; exact if_neg (am_c0_lt hx hy h)) k
theorem wi_iclt {x y : Int32} {X Y : Int} {o : Int} (hc : am_CT m pc = some (.if_icmp .lt o, n, a, b, c)) (hx : x.toInt = X) (hy : y.toInt = Y) (k1 : X < Y → WP d m a ls r g fi fl P) (k2 : Y ≤ X → WP d m n ls r g fi fl P) : WP d m pc ls (.int y :: .int x :: r) g fi fl P := by
  rcases Decidable.em (X < Y) with h | h
  · exact wi_iclt_t hc hx hy h (k1 h)
  · exact wi_iclt_f hc hx hy (by omega) (k2 (by omega))
theorem am_c1_ge {x y : Int32} {X Y : Int} (hx : x.toInt = X) (hy : y.toInt = Y) (h : Y ≤ X) : am_cmp .ge x y = true := by
  rw [am_cmpI]; subst hx; subst hy; simpa using h
theorem am_c0_ge {x y : Int32} {X Y : Int} (hx : x.toInt = X) (hy : y.toInt = Y) (h : X < Y) : ¬ (am_cmp .ge x y = true) := by
  rw [am_cmpI]; subst hx; subst hy; simp; omega
theorem wi_ifge_t {x : Int32} {X : Int} {o : Int} (hc : am_CT m pc = some (.ifCond .ge o, n, a, b, c)) (hx : x.toInt = X) (h : 0 ≤ X) (k : WP d m a ls r g fi fl P) : WP d m pc ls (.int x :: r) g fi fl P := wp_st hc (by unfold am_step; exact if_pos (am_c1_ge hx am_z0 h)) k
theorem wi_ifge_f {x : Int32} {X : Int} {o : Int} (hc : am_CT m pc = some (.ifCond .ge o, n, a, b, c)) (hx : x.toInt = X) (h : X < 0) (k : WP d m n ls r g fi fl P) : WP d m pc ls (.int x :: r) g fi fl P := wp_st hc (by unfold am_step; exact if_neg (am_c0_ge hx am_z0 h)) k
theorem wi_ifge {x : Int32} {X : Int} {o : Int} (hc : am_CT m pc = some (.ifCond .ge o, n, a, b, c)) (hx : x.toInt = X) (k1 : 0 ≤ X → WP d m a ls r g fi fl P) (k2 : X < 0 → WP d m n ls r g fi fl P) : WP d m pc ls (.int x :: r) g fi fl P := by
  rcases Decidable.em (0 ≤ X) with h | h
  · exact wi_ifge_t hc hx h (k1 h)
  · exact wi_ifge_f hc hx (by omega) (k2 (by omega))
theorem wi_icge_t {x y : Int32} {X Y : Int} {o : Int} (hc : am_CT m pc = some (.if_icmp .ge o, n, a, b, c)) (hx : x.toInt = X) (hy : y.toInt = Y) (h : Y ≤ X) (k : WP d m a ls r g fi fl P) : WP d m pc ls (.int y :: .int x :: r) g fi fl P := wp_st hc (by unfold am_step; exact if_pos (am_c1_ge hx hy h)) k
theorem wi_icge_f {x y : Int32} {X Y : Int} {o : Int} (hc : am_CT m pc = some (.if_icmp .ge o, n, a, b, c)) (hx : x.toInt = X) (hy : y.toInt = Y) (h : X < Y) (k : WP d m n ls r g fi fl P) : WP d m pc ls (.int y :: .int x :: r) g fi fl P := wp_st hc (by unfold am_step; exact if_neg (am_c0_ge hx hy h)) k
theorem wi_icge {x y : Int32} {X Y : Int} {o : Int} (hc : am_CT m pc = some (.if_icmp .ge o, n, a, b, c)) (hx : x.toInt = X) (hy : y.toInt = Y) (k1 : Y ≤ X → WP d m a ls r g fi fl P) (k2 : X < Y → WP d m n ls r g fi fl P) : WP d m pc ls (.int y :: .int x :: r) g fi fl P := by
  rcases Decidable.em (Y ≤ X) with h | h
  · exact wi_icge_t hc hx hy h (k1 h)
  · exact wi_icge_f hc hx hy (by omega) (k2 (by omega))
theorem am_c1_gt {x y : Int32} {X Y : Int} (hx : x.toInt = X) (hy : y.toInt = Y) (h : Y < X) : am_cmp .gt x y = true := by
  rw [am_cmpI]; subst hx; subst hy; simpa using h
theorem am_c0_gt {x y : Int32} {X Y : Int} (hx : x.toInt = X) (hy : y.toInt = Y) (h : X ≤ Y) : ¬ (am_cmp .gt x y = true) := by
  rw [am_cmpI]; subst hx; subst hy; simp; omega
theorem wi_ifgt_t {x : Int32} {X : Int} {o : Int} (hc : am_CT m pc = some (.ifCond .gt o, n, a, b, c)) (hx : x.toInt = X) (h : 0 < X) (k : WP d m a ls r g fi fl P) : WP d m pc ls (.int x :: r) g fi fl P := wp_st hc (by unfold am_step; exact if_pos (am_c1_gt hx am_z0 h)) k
theorem wi_ifgt_f {x : Int32} {X : Int} {o : Int} (hc : am_CT m pc = some (.ifCond .gt o, n, a, b, c)) (hx : x.toInt = X) (h : X ≤ 0) (k : WP d m n ls r g fi fl P) : WP d m pc ls (.int x :: r) g fi fl P := wp_st hc (by unfold am_step; exact if_neg (am_c0_gt hx am_z0 h)) k
theorem wi_ifgt {x : Int32} {X : Int} {o : Int} (hc : am_CT m pc = some (.ifCond .gt o, n, a, b, c)) (hx : x.toInt = X) (k1 : 0 < X → WP d m a ls r g fi fl P) (k2 : X ≤ 0 → WP d m n ls r g fi fl P) : WP d m pc ls (.int x :: r) g fi fl P := by
  rcases Decidable.em (0 < X) with h | h
  · exact wi_ifgt_t hc hx h (k1 h)
  · exact wi_ifgt_f hc hx (by omega) (k2 (by omega))
theorem wi_icgt_t {x y : Int32} {X Y : Int} {o : Int} (hc : am_CT m pc = some (.if_icmp .gt o, n, a, b, c)) (hx : x.toInt = X) (hy : y.toInt = Y) (h : Y < X) (k : WP d m a ls r g fi fl P) : WP d m pc ls (.int y :: .int x :: r) g fi fl P := wp_st hc (by unfold am_step; exact if_pos (am_c1_gt hx hy h)) k
theorem wi_icgt_f {x y : Int32} {X Y : Int} {o : Int} (hc : am_CT m pc = some (.if_icmp .gt o, n, a, b, c)) (hx : x.toInt = X) (hy : y.toInt = Y) (h : X ≤ Y) (k : WP d m n ls r g fi fl P) : WP d m pc ls (.int y :: .int x :: r) g fi fl P := wp_st hc (by unfold am_step; exact if_neg (am_c0_gt hx hy h)) k
theorem wi_icgt {x y : Int32} {X Y : Int} {o : Int} (hc : am_CT m pc = some (.if_icmp .gt o, n, a, b, c)) (hx : x.toInt = X) (hy : y.toInt = Y) (k1 : Y < X → WP d m a ls r g fi fl P) (k2 : X ≤ Y → WP d m n ls r g fi fl P) : WP d m pc ls (.int y :: .int x :: r) g fi fl P := by
  rcases Decidable.em (Y < X) with h | h
  · exact wi_icgt_t hc hx hy h (k1 h)
  · exact wi_icgt_f hc hx hy (by omega) (k2 (by omega))
theorem am_c1_le {x y : Int32} {X Y : Int} (hx : x.toInt = X) (hy : y.toInt = Y) (h : X ≤ Y) : am_cmp .le x y = true := by
  rw [am_cmpI]; subst hx; subst hy; simpa using h
theorem am_c0_le {x y : Int32} {X Y : Int} (hx : x.toInt = X) (hy : y.toInt = Y) (h : Y < X) : ¬ (am_cmp .le x y = true) := by
  rw [am_cmpI]; subst hx; subst hy; simp; omega
theorem wi_ifle_t {x : Int32} {X : Int} {o : Int} (hc : am_CT m pc = some (.ifCond .le o, n, a, b, c)) (hx : x.toInt = X) (h : X ≤ 0) (k : WP d m a ls r g fi fl P) : WP d m pc ls (.int x :: r) g fi fl P := wp_st hc (by unfold am_step; exact if_pos (am_c1_le hx am_z0 h)) k
theorem wi_ifle_f {x : Int32} {X : Int} {o : Int} (hc : am_CT m pc = some (.ifCond .le o, n, a, b, c)) (hx : x.toInt = X) (h : 0 < X) (k : WP d m n ls r g fi fl P) : WP d m pc ls (.int x :: r) g fi fl P := wp_st hc (by unfold am_step; exact if_neg (am_c0_le hx am_z0 h)) k
theorem wi_ifle {x : Int32} {X : Int} {o : Int} (hc : am_CT m pc = some (.ifCond .le o, n, a, b, c)) (hx : x.toInt = X) (k1 : X ≤ 0 → WP d m a ls r g fi fl P) (k2 : 0 < X → WP d m n ls r g fi fl P) : WP d m pc ls (.int x :: r) g fi fl P := by
  rcases Decidable.em (X ≤ 0) with h | h
  · exact wi_ifle_t hc hx h (k1 h)
  · exact wi_ifle_f hc hx (by omega) (k2 (by omega))
theorem wi_icle_t {x y : Int32} {X Y : Int} {o : Int} (hc : am_CT m pc = some (.if_icmp .le o, n, a, b, c)) (hx : x.toInt = X) (hy : y.toInt = Y) (h : X ≤ Y) (k : WP d m a ls r g fi fl P) : WP d m pc ls (.int y :: .int x :: r) g fi fl P := wp_st hc (by unfold am_step; exact if_pos (am_c1_le hx hy h)) k
theorem wi_icle_f {x y : Int32} {X Y : Int} {o : Int} (hc : am_CT m pc = some (.if_icmp .le o, n, a, b, c)) (hx : x.toInt = X) (hy : y.toInt = Y) (h : Y < X) (k : WP d m n ls r g fi fl P) : WP d m pc ls (.int y :: .int x :: r) g fi fl P := wp_st hc (by unfold am_step; exact if_neg (am_c0_le hx hy h)) k
theorem wi_icle {x y : Int32} {X Y : Int} {o : Int} (hc : am_CT m pc = some (.if_icmp .le o, n, a, b, c)) (hx : x.toInt = X) (hy : y.toInt = Y) (k1 : X ≤ Y → WP d m a ls r g fi fl P) (k2 : Y < X → WP d m n ls r g fi fl P) : WP d m pc ls (.int y :: .int x :: r) g fi fl P := by
  rcases Decidable.em (X ≤ Y) with h | h
  · exact wi_icle_t hc hx hy h (k1 h)
  · exact wi_icle_f hc hx hy (by omega) (k2 (by omega))
theorem wi_ifnull_r {x : Nat} {o : Int} (hc : am_CT m pc = some (.ifnull o, n, a, b, c)) (k : WP d m n ls r g fi fl P) : WP d m pc ls (.ref x :: r) g fi fl P := wp_st hc rfl k
theorem wi_ifnull_n {o : Int} (hc : am_CT m pc = some (.ifnull o, n, a, b, c)) (k : WP d m a ls r g fi fl P) : WP d m pc ls (.null :: r) g fi fl P := wp_st hc rfl k
theorem wi_ifnonnull_r {x : Nat} {o : Int} (hc : am_CT m pc = some (.ifnonnull o, n, a, b, c)) (k : WP d m a ls r g fi fl P) : WP d m pc ls (.ref x :: r) g fi fl P := wp_st hc rfl k
theorem wi_ifnonnull_n {o : Int} (hc : am_CT m pc = some (.ifnonnull o, n, a, b, c)) (k : WP d m n ls r g fi fl P) : WP d m pc ls (.null :: r) g fi fl P := wp_st hc rfl k
def am_tswI (pc : Nat) (dflt lo hi : Int) (offs : Array Int) (X : Int) : Nat := if X < lo ∨ hi < X then ((pc : Int) + dflt).toNat else match offs[(X - lo).toNat]? with
    | some o => ((pc : Int) + o).toNat
    | none => 0
theorem wi_tsw {x : Int32} {X df lo hi : Int} {offs : Array Int} (hc : am_CT m pc = some (.tableswitch df lo hi offs, n, a, b, c)) (hx : x.toInt = X) (ht : am_tswI pc df lo hi offs X = t) (k : WP d m t ls r g fi fl P) : WP d m pc ls (.int x :: r) g fi fl P := by
  subst hx; subst ht
  exact wp_st hc rfl k
theorem am_tswD {pc : Nat} {X df lo hi : Int} {offs : Array Int} (h : X < lo ∨ hi < X) : am_tswI pc df lo hi offs X = ((pc : Int) + df).toNat := if_pos h
theorem wi_lsw {x : Int32} {X df : Int} {ps : Array (Int × Int)} (hc : am_CT m pc = some (.lookupswitch df ps, n, a, b, c)) (hx : x.toInt = X) (ht : ((pc : Int) + Op.lookupswitch.offset ps.toList df X).toNat = t) (k : WP d m t ls r g fi fl P) : WP d m pc ls (.int x :: r) g fi fl P := by
  subst hx; subst ht
  exact wp_st hc rfl k
/-! fields -/
theorem wi_gf {i : Nat} {x : Int32} (hc : am_CT m pc = some (.getfield i, n, a, b, c)) (ht : g.1 q = t) (hs : am_sub t b = true) (h2 : (c == 2) = false) (hx : fi q a = x) (k : WP d m n ls (.int x :: st) g fi fl P) : WP d m pc ls (.ref q :: st) g fi fl P := by
  subst hx
  refine wp_st hc (by unfold am_step; exact if_pos (by rw [ht]; exact hs)) ?_
  rw [if_neg (by simpa using h2)]
  exact k
theorem wi_gfr {i x : Nat} (hc : am_CT m pc = some (.getfield i, n, a, b, 2)) (ht : g.1 q = t) (hs : am_sub t b = true) (hx : g.2.2.1 q a = some x) (k : WP d m n ls (.ref x :: st) g fi fl P) : WP d m pc ls (.ref q :: st) g fi fl P := by
  refine wp_st hc (by unfold am_step; exact if_pos (by rw [ht]; exact hs)) ?_
  rw [if_pos rfl, hx]
  exact k
theorem wi_gfn {i : Nat} (hc : am_CT m pc = some (.getfield i, n, a, b, 2)) (ht : g.1 q = t) (hs : am_sub t b = true) (hx : g.2.2.1 q a = none) (k : WP d m n ls (.null :: st) g fi fl P) : WP d m pc ls (.ref q :: st) g fi fl P := by
  refine wp_st hc (by unfold am_step; exact if_pos (by rw [ht]; exact hs)) ?_
  rw [if_pos rfl, hx]
  exact k
theorem wi_gfs0 {i x : Nat} (hc : am_CT m pc = some (.getfield i, n, 0, 13, c)) (hx : 1 ≤ x ∧ x ≤ 5) (k : WP d m n ls (.retAddr (x + 100) :: st) g fi fl P) : WP d m pc ls (.retAddr x :: st) g fi fl P := wp_st hc (by unfold am_step; exact if_pos ⟨rfl, hx⟩) k
theorem wi_gfs1 {i x : Nat} (hc : am_CT m pc = some (.getfield i, n, 1, 13, c)) (hx : 1 ≤ x ∧ x ≤ 5) (k : WP d m n ls (.int 0 :: st) g fi fl P) : WP d m pc ls (.retAddr x :: st) g fi fl P := wp_st hc (by unfold am_step; exact if_pos ⟨rfl, hx⟩) k
theorem wi_pf {i : Nat} {x : Int32} (hc : am_CT m pc = some (.putfield i, n, a, b, 0)) (ht : g.1 q = t) (hs : am_sub t b = true) (k : WP d m n ls r g (up2 fi q a x) fl P) : WP d m pc ls (.int x :: .ref q :: r) g fi fl P := wp_st hc (by unfold am_step; exact if_pos ⟨by rw [ht]; exact hs, by decide, Or.inl rfl⟩) k
theorem wi_pfz {i : Nat} {x : Int32} (hc : am_CT m pc = some (.putfield i, n, a, b, 1)) (ht : g.1 q = t) (hs : am_sub t b = true) (hb : am_bit x = true) (k : WP d m n ls r g (up2 fi q a x) fl P) : WP d m pc ls (.int x :: .ref q :: r) g fi fl P := wp_st hc (by unfold am_step; exact if_pos ⟨by rw [ht]; exact hs, by decide, Or.inr hb⟩) k
def am_gr (g : am_G) (q a : Nat) (x : Option Nat) : am_G := (g.1, g.2.1, up2 g.2.2.1 q a x, g.2.2.2)
theorem wi_pfr {i x : Nat} (hc : am_CT m pc = some (.putfield i, n, a, b, 2)) (ht : g.1 q = t) (hs : am_sub t b = true) (k : WP d m n ls r (am_gr g q a (some x)) fi fl P) : WP d m pc ls (.ref x :: .ref q :: r) g fi fl P := wp_st hc (by unfold am_step; exact if_pos ⟨by rw [ht]; exact hs, rfl⟩) k
theorem wi_pfn {i : Nat} (hc : am_CT m pc = some (.putfield i, n, a, b, 2)) (ht : g.1 q = t) (hs : am_sub t b = true) (k : WP d m n ls r (am_gr g q a none) fi fl P) : WP d m pc ls (.null :: .ref q :: r) g fi fl P := wp_st hc (by unfold am_step; exact if_pos ⟨by rw [ht]; exact hs, rfl⟩) k
/-! arrays -/
theorem wi_len {z : Int32} (hc : am_CT m pc = some (.arraylength, n, a, b, c)) (ht : g.1 q = t) (h2 : 20 ≤ t ∧ t ≤ 27) (hl : g.2.1 q = k) (hz : Int32.ofNat k = z) (kk : WP d m n ls (.int z :: r) g fi fl P) : WP d m pc ls (.ref q :: r) g fi fl P := by
  subst ht; subst hl; subst hz
  exact wp_st hc (by unfold am_step; exact if_pos h2) kk
theorem wi_lenT {z : Int32} (hc : am_CT m pc = some (.arraylength, n, a, b, c)) (hl : g.2.1 am_SC = k) (hz : Int32.ofNat k = z) (kk : WP d m n ls (.int z :: r) g fi fl P) : WP d m pc ls (.retAddr 0 :: r) g fi fl P := by
  subst hl; subst hz
  exact wp_st hc rfl kk
theorem wi_lenS {z : Int32} {x : Nat} (hc : am_CT m pc = some (.arraylength, n, a, b, c)) (hx : 101 ≤ x ∧ x ≤ 105) (hz : Int32.ofNat (am_str.getD (x - 101) []).length = z) (kk : WP d m n ls (.int z :: r) g fi fl P) : WP d m pc ls (.retAddr x :: r) g fi fl P := by
  subst hz
  exact wp_st hc (by unfold am_step; exact (if_neg (by omega)).trans (if_pos hx)) kk
theorem wi_iald {i x : Int32} {j : Nat} (hc : am_CT m pc = some (.iaload, n, a, b, c)) (ht : g.1 q = 20) (hl : g.2.1 q = t) (hi : am_in i t = true) (hj : i.toNatClampNeg = j) (hx : fi q j = x) (kk : WP d m n ls (.int x :: r) g fi fl P) : WP d m pc ls (.int i :: .ref q :: r) g fi fl P := by
  subst hl; subst hj; subst hx
  exact wp_st hc (by unfold am_step; exact if_pos ⟨ht, hi⟩) kk
theorem wi_ialdT {i x : Int32} {j : Nat} (hc : am_CT m pc = some (.iaload, n, a, b, c)) (hl : g.2.1 am_SC = t) (hi : am_in i t = true) (hj : i.toNatClampNeg = j) (hx : fi am_SC j = x) (kk : WP d m n ls (.int x :: r) g fi fl P) : WP d m pc ls (.int i :: .retAddr 0 :: r) g fi fl P := by
  subst hl; subst hj; subst hx
  exact wp_st hc (by unfold am_step; exact if_pos ⟨rfl, hi⟩) kk
theorem wi_bald {i x : Int32} {j : Nat} (hc : am_CT m pc = some (.baload, n, a, b, c)) (ht : g.1 q = 22 ∨ g.1 q = 23) (hl : g.2.1 q = t) (hi : am_in i t = true) (hj : i.toNatClampNeg = j) (hx : fi q j = x) (kk : WP d m n ls (.int x :: r) g fi fl P) : WP d m pc ls (.int i :: .ref q :: r) g fi fl P := by
  subst hl; subst hj; subst hx
  exact wp_st hc (by unfold am_step; exact if_pos ⟨ht, hi⟩) kk
theorem wi_baldS {i z : Int32} {x : Nat} (hc : am_CT m pc = some (.baload, n, a, b, c)) (hx : 101 ≤ x ∧ x ≤ 105) (hi : am_in i (am_str.getD (x - 101) []).length = true) (hz : (am_str.getD (x - 101) []).getD i.toNatClampNeg 0 = z) (kk : WP d m n ls (.int z :: r) g fi fl P) : WP d m pc ls (.int i :: .retAddr x :: r) g fi fl P := by
  subst hz
  exact wp_st hc (by unfold am_step; exact if_pos ⟨hx.1, hx.2, hi⟩) kk
theorem wi_lald {i : Int32} {x : Int64} {j : Nat} (hc : am_CT m pc = some (.laload, n, a, b, c)) (ht : g.1 q = 21) (hl : g.2.1 q = t) (hi : am_in i t = true) (hj : i.toNatClampNeg = j) (hx : fl q j = x) (kk : WP d m n ls (.long x :: r) g fi fl P) : WP d m pc ls (.int i :: .ref q :: r) g fi fl P := by
  subst hl; subst hj; subst hx
  exact wp_st hc (by unfold am_step; exact if_pos ⟨ht, hi⟩) kk
theorem wi_aald {i : Int32} {j x : Nat} (hc : am_CT m pc = some (.aaload, n, a, b, c)) (ht : g.1 q = k) (h2 : 24 ≤ k ∧ k ≤ 27) (hl : g.2.1 q = t) (hi : am_in i t = true) (hj : i.toNatClampNeg = j) (hx : g.2.2.1 q j = some x) (kk : WP d m n ls (.ref x :: r) g fi fl P) : WP d m pc ls (.int i :: .ref q :: r) g fi fl P := by
  subst ht; subst hl; subst hj
  refine wp_st hc (by unfold am_step; exact if_pos ⟨h2.1, h2.2, hi⟩) ?_
  rw [hx]
  exact kk
theorem wi_aaldn {i : Int32} {j : Nat} (hc : am_CT m pc = some (.aaload, n, a, b, c)) (ht : g.1 q = k) (h2 : 24 ≤ k ∧ k ≤ 27) (hl : g.2.1 q = t) (hi : am_in i t = true) (hj : i.toNatClampNeg = j) (hx : g.2.2.1 q j = none) (kk : WP d m n ls (.null :: r) g fi fl P) : WP d m pc ls (.int i :: .ref q :: r) g fi fl P := by
  subst ht; subst hl; subst hj
  refine wp_st hc (by unfold am_step; exact if_pos ⟨h2.1, h2.2, hi⟩) ?_
  rw [hx]
  exact kk
theorem wi_iast {i x : Int32} {j : Nat} (hc : am_CT m pc = some (.iastore, n, a, b, c)) (ht : g.1 q = 20) (hl : g.2.1 q = t) (hi : am_in i t = true) (hj : i.toNatClampNeg = j) (kk : WP d m n ls r g (up2 fi q j x) fl P) : WP d m pc ls (.int x :: .int i :: .ref q :: r) g fi fl P := by
  subst hl; subst hj
  exact wp_st hc (by unfold am_step; exact if_pos ⟨ht, hi⟩) kk
theorem wi_bast {i x z : Int32} {j : Nat} (hc : am_CT m pc = some (.bastore, n, a, b, c)) (ht : g.1 q = 22) (hl : g.2.1 q = t) (hi : am_in i t = true) (hj : i.toNatClampNeg = j) (hz : x.toInt8.toInt32 = z) (kk : WP d m n ls r g (up2 fi q j z) fl P) : WP d m pc ls (.int x :: .int i :: .ref q :: r) g fi fl P := by
  subst hl; subst hj; subst hz
  exact wp_st hc (by unfold am_step; exact (if_pos hi).trans (if_pos ht)) kk
theorem wi_zast {i x : Int32} {j : Nat} (hc : am_CT m pc = some (.bastore, n, a, b, c)) (ht : g.1 q = 23) (hl : g.2.1 q = t) (hi : am_in i t = true) (hj : i.toNatClampNeg = j) (hb : am_bit x = true) (kk : WP d m n ls r g (up2 fi q j x) fl P) : WP d m pc ls (.int x :: .int i :: .ref q :: r) g fi fl P := by
  subst hl; subst hj
  exact wp_st hc (by unfold am_step; exact (if_pos hi).trans ((if_neg (by rw [ht]; decide)).trans (if_pos ⟨ht, hb⟩))) kk
theorem wi_last {i : Int32} {x : Int64} {j : Nat} (hc : am_CT m pc = some (.lastore, n, a, b, c)) (ht : g.1 q = 21) (hl : g.2.1 q = t) (hi : am_in i t = true) (hj : i.toNatClampNeg = j) (kk : WP d m n ls r g fi (up2 fl q j x) P) : WP d m pc ls (.long x :: .int i :: .ref q :: r) g fi fl P := by
  subst hl; subst hj
  exact wp_st hc (by unfold am_step; exact if_pos ⟨ht, hi⟩) kk
theorem wi_aast {i : Int32} {j x : Nat} (hc : am_CT m pc = some (.aastore, n, a, b, c)) (ht : (g.1 q = 24 ∧ am_sub (g.1 x) 0 = true) ∨ (g.1 q = 25 ∧ g.1 x = 6)) (hl : g.2.1 q = t) (hi : am_in i t = true) (hj : i.toNatClampNeg = j) (kk : WP d m n ls r (am_gr g q j (some x)) fi fl P) : WP d m pc ls (.ref x :: .int i :: .ref q :: r) g fi fl P := by
  subst hl; subst hj
  exact wp_st hc (by unfold am_step; exact if_pos ⟨ht, hi⟩) kk
theorem wi_aastn {i : Int32} {j : Nat} (hc : am_CT m pc = some (.aastore, n, a, b, c)) (ht : g.1 q = 24 ∨ g.1 q = 25) (hl : g.2.1 q = t) (hi : am_in i t = true) (hj : i.toNatClampNeg = j) (kk : WP d m n ls r (am_gr g q j none) fi fl P) : WP d m pc ls (.null :: .int i :: .ref q :: r) g fi fl P := by
  subst hl; subst hj
  exact wp_st hc (by unfold am_step; exact if_pos ⟨ht, hi⟩) kk
theorem wi_new {i : Nat} (hc : am_CT m pc = some (.new i, n, a, b, c)) (h : am_nx g < 900000) (k : WP d m n ls (.ref (am_nx g) :: st) (am_mk g a 0 (am_nf a)) (cl2 fi (am_nx g) 1 0) (cl2 fl (am_nx g) 1 0) P) : WP d m pc ls st g fi fl P := wp_st hc (by unfold am_step; exact if_pos h) k
theorem wi_newarray {i : _} {x : Int32} {j : Nat} (hc : am_CT m pc = some (.newarray i, n, a, b, c)) (hd : am_dim x = true) (h : am_nx g < 900000) (hj : x.toNatClampNeg = j) (k : WP d m n ls (.ref (am_nx g) :: r) (am_mk g a j j) (cl2 fi (am_nx g) 1 0) (cl2 fl (am_nx g) 1 0) P) : WP d m pc ls (.int x :: r) g fi fl P := by
  subst hj
  exact wp_st hc (by unfold am_step; exact if_pos ⟨hd, h⟩) k
theorem wi_anewarray {i : Nat} {x : Int32} {j : Nat} (hc : am_CT m pc = some (.anewarray i, n, a, b, c)) (hd : am_dim x = true) (h : am_nx g < 900000) (hj : x.toNatClampNeg = j) (k : WP d m n ls (.ref (am_nx g) :: r) (am_mk g a j j) (cl2 fi (am_nx g) 1 0) (cl2 fl (am_nx g) 1 0) P) : WP d m pc ls (.int x :: r) g fi fl P := by
  subst hj
  exact wp_st hc (by unfold am_step; exact if_pos ⟨hd, h⟩) k
theorem wi_multi {i i2 : Nat} {x x2 : Int32} {j j2 : Nat} (hc : am_CT m pc = some (.multianewarray i i2, n, a, b, c)) (hd : am_dim x = true) (hd2 : am_dim x2 = true) (hj : x.toNatClampNeg = j) (hj2 : x2.toNatClampNeg = j2) (h : am_nx g + j2 < 900000) (k : WP d m n ls (.ref (am_nx g) :: r) (am_mk2 g a b j2 j) (cl2 fi (am_nx g) (j2 + 1) 0) (cl2 fl (am_nx g) (j2 + 1) 0) P) : WP d m pc ls (.int x :: .int x2 :: r) g fi fl P := by
  subst hj; subst hj2
  exact wp_st hc (by unfold am_step; exact if_pos ⟨hd, hd2, h⟩) k
theorem wi_iof {i : Nat} {z : Int32} (hc : am_CT m pc = some (.instanceof i, n, a, b, c)) (ht : g.1 q = t) (h : t < 13) (hz : (if am_sub t a = true then (1 : Int32) else 0) = z) (k : WP d m n ls (.int z :: r) g fi fl P) : WP d m pc ls (.ref q :: r) g fi fl P := by
  subst ht; subst hz
  exact wp_st hc (by unfold am_step; exact if_pos h) k
theorem wi_cast {i : Nat} (hc : am_CT m pc = some (.checkcast i, n, a, b, c)) (ht : g.1 q = t) (h : am_sub t a = true) (k : WP d m n ls (.ref q :: r) g fi fl P) : WP d m pc ls (.ref q :: r) g fi fl P := by
  subst ht
  exact wp_st hc (by unfold am_step; exact if_pos h) k
/-! calls -/
theorem wi_obj {i : Nat} (hc : am_CT m pc = some (.invokespecial i, n, a, b, 1)) (hd : am_cats r ≤ 8) (k : WP (d + 1) m n ls r g fi fl P) : WP (d + 1) m pc ls (.ref q :: r) g fi fl P := wp_st hc (by unfold am_step; exact (if_pos rfl).trans (if_pos ⟨Nat.le_add_left 1 d, hd⟩)) k
theorem wi_copyI {i : Nat} {x sp dp : Int32} {q0 q1 j0 j1 j2 L0 L1 : Nat} (hc : am_CT m pc = some (.invokestatic i, n, a, b, 1)) (hd : am_cats r ≤ 8) (h0 : g.1 q0 = 20) (h1 : g.1 q1 = 20) (hl0 : g.2.1 q0 = L0) (hl1 : g.2.1 q1 = L1) (hs : sp.toNatClampNeg = j0) (hp : dp.toNatClampNeg = j1) (hk : x.toNatClampNeg = j2) (hz : 0 ≤ sp.toInt ∧ 0 ≤ dp.toInt ∧ 0 ≤ x.toInt) (hb : j0 + j2 ≤ L0 ∧ j1 + j2 ≤ L1) (k : WP (d + 2) m n ls r g (cp2 fi q0 q1 j0 j1 j2) fl P) : WP (d + 2) m pc ls (.int x :: .int dp :: .ref q1 :: .int sp :: .ref q0 :: r) g fi fl P := by
  subst hs; subst hp; subst hk; subst hl0; subst hl1
  refine wp_st hc ?_ k
  show (if _ then _ else _) = _
  rw [if_pos ⟨Nat.le_add_left 2 d, hd, hz.1, hz.2.1, hz.2.2, hb.1, hb.2, by rw [h0, h1]⟩, if_pos h0]
theorem wi_copyZ {i : Nat} {x sp dp : Int32} {q0 q1 j0 j1 j2 L0 L1 : Nat} (hc : am_CT m pc = some (.invokestatic i, n, a, b, 1)) (hd : am_cats r ≤ 8) (h0 : g.1 q0 = 23) (h1 : g.1 q1 = 23) (hl0 : g.2.1 q0 = L0) (hl1 : g.2.1 q1 = L1) (hs : sp.toNatClampNeg = j0) (hp : dp.toNatClampNeg = j1) (hk : x.toNatClampNeg = j2) (hz : 0 ≤ sp.toInt ∧ 0 ≤ dp.toInt ∧ 0 ≤ x.toInt) (hb : j0 + j2 ≤ L0 ∧ j1 + j2 ≤ L1) (hbit : ∀ i, i < j2 → am_bit (fi q0 (j0 + i)) = true) (k : WP (d + 2) m n ls r g (cp2 fi q0 q1 j0 j1 j2) fl P) : WP (d + 2) m pc ls (.int x :: .int dp :: .ref q1 :: .int sp :: .ref q0 :: r) g fi fl P := by
  subst hs; subst hp; subst hk; subst hl0; subst hl1
  refine wp_st hc ?_ k
  show (if _ then _ else _) = _
  rw [if_pos ⟨Nat.le_add_left 2 d, hd, hz.1, hz.2.1, hz.2.2, hb.1, hb.2, by rw [h0, h1]⟩, if_neg (by rw [h0]; decide), if_pos ⟨h0, by rw [List.all_eq_true]; exact fun j hj => hbit j (List.mem_range.mp hj)⟩]
theorem wi_copyJ {i : Nat} {x sp dp : Int32} {q0 q1 j0 j1 j2 L0 L1 : Nat} (hc : am_CT m pc = some (.invokestatic i, n, a, b, 1)) (hd : am_cats r ≤ 8) (h0 : g.1 q0 = 21) (h1 : g.1 q1 = 21) (hl0 : g.2.1 q0 = L0) (hl1 : g.2.1 q1 = L1) (hs : sp.toNatClampNeg = j0) (hp : dp.toNatClampNeg = j1) (hk : x.toNatClampNeg = j2) (hz : 0 ≤ sp.toInt ∧ 0 ≤ dp.toInt ∧ 0 ≤ x.toInt) (hb : j0 + j2 ≤ L0 ∧ j1 + j2 ≤ L1) (k : WP (d + 2) m n ls r g fi (cp2 fl q0 q1 j0 j1 j2) P) : WP (d + 2) m pc ls (.int x :: .int dp :: .ref q1 :: .int sp :: .ref q0 :: r) g fi fl P := by
  subst hs; subst hp; subst hk; subst hl0; subst hl1
  refine wp_st hc ?_ k
  show (if _ then _ else _) = _
  rw [if_pos ⟨Nat.le_add_left 2 d, hd, hz.1, hz.2.1, hz.2.2, hb.1, hb.2, by rw [h0, h1]⟩, if_neg (by rw [h0]; decide), if_neg (by rw [h0]; exact fun e => absurd e.1 (by decide)), if_pos h0]
theorem wi_cs0 {i : Nat} (hc : am_CT m pc = some (.invokestatic i, n, y, 0, 0)) (hd : am_cats r ≤ 8) (he : am_ent [] (am_ML y) = ls') (hm : (am_flat []).length ≤ am_ML y) (k : WP d y 0 ls' [] g fi fl (am_K (d + 1) m n ls r P)) : WP (d + 1) m pc ls (r) g fi fl P := by
  subst he
  exact wp_call (y := y) (args := []) (r := r) hc (by unfold am_step; exact (if_neg (by decide)).trans (if_pos ⟨Nat.le_add_left 1 d, by simp, hd⟩)) hm k
theorem wi_cp0 {i : Nat} (hc : am_CT m pc = some (.invokespecial i, n, y, 0, 0)) (hd : am_cats r ≤ 8) (ht : g.1 q = t) (h13 : t < 13) (he : am_ent [.ref q] (am_ML y) = ls') (hm : (am_flat [.ref q]).length ≤ am_ML y) (k : WP d y 0 ls' [] g fi fl (am_K (d + 1) m n ls r P)) : WP (d + 1) m pc ls (.ref q :: r) g fi fl P := by
  subst he; subst ht
  exact wp_call (y := y) (args := [.ref q]) (r := r) hc (by unfold am_step; exact (if_neg (by decide)).trans (if_pos ⟨Nat.le_add_left 1 d, h13, hd⟩)) hm k
theorem wi_cv0 {i : Nat} (hc : am_CT m pc = some (.invokevirtual i, n, a, 0, c)) (hd : am_cats r ≤ 8) (hc13 : c < 13) (ht : g.1 q = t) (hs : am_sub t c = true) (h1 : 100 ≤ a → t = c) (hv : am_vt a t = some y) (he : am_ent [.ref q] (am_ML y) = ls') (hm : (am_flat [.ref q]).length ≤ am_ML y) (k : WP d y 0 ls' [] g fi fl (am_K (d + 1) m n ls r P)) : WP (d + 1) m pc ls (.ref q :: r) g fi fl P := by
  subst he; subst ht
  refine wp_call (y := y) (args := [.ref q]) (r := r) hc ?_ hm k
  unfold am_step
  refine (if_pos ⟨Nat.le_add_left 1 d, hd, hc13, hs, h1⟩).trans ?_
  rw [hv]
  rfl
theorem wi_cvT0 {i : Nat} (hc : am_CT m pc = some (.invokevirtual i, n, a, 0, 13)) (hd : am_cats r ≤ 8) (hq : 1 ≤ q ∧ q ≤ 5) (h1 : 100 ≤ a) (hy : a - 100 = y) (he : am_ent [.retAddr q] (am_ML y) = ls') (hm : (am_flat [.retAddr q]).length ≤ am_ML y) (k : WP d y 0 ls' [] g fi fl (am_K (d + 1) m n ls r P)) : WP (d + 1) m pc ls (.retAddr q :: r) g fi fl P := by
  subst he; subst hy
  exact wp_call (args := [.retAddr q]) (r := r) hc (by unfold am_step; exact if_pos ⟨Nat.le_add_left 1 d, hd, rfl, hq.1, hq.2, h1⟩) hm k
theorem wi_cpT0 {i : Nat} (hc : am_CT m pc = some (.invokespecial i, n, y, 0, 0)) : True := trivial
theorem wi_cs1 {i : Nat} {v0 : Value} (hc : am_CT m pc = some (.invokestatic i, n, y, 1, 0)) (hd : am_cats r ≤ 8) (he : am_ent [v0] (am_ML y) = ls') (hm : (am_flat [v0]).length ≤ am_ML y) (k : WP d y 0 ls' [] g fi fl (am_K (d + 1) m n ls r P)) : WP (d + 1) m pc ls (v0 :: r) g fi fl P := by
  subst he
  exact wp_call (y := y) (args := [v0]) (r := r) hc (by unfold am_step; exact (if_neg (by decide)).trans (if_pos ⟨Nat.le_add_left 1 d, by simp, hd⟩)) hm k
theorem wi_cp1 {i : Nat} {v0 : Value} (hc : am_CT m pc = some (.invokespecial i, n, y, 1, 0)) (hd : am_cats r ≤ 8) (ht : g.1 q = t) (h13 : t < 13) (he : am_ent [.ref q, v0] (am_ML y) = ls') (hm : (am_flat [.ref q, v0]).length ≤ am_ML y) (k : WP d y 0 ls' [] g fi fl (am_K (d + 1) m n ls r P)) : WP (d + 1) m pc ls (v0 :: .ref q :: r) g fi fl P := by
  subst he; subst ht
  exact wp_call (y := y) (args := [.ref q, v0]) (r := r) hc (by unfold am_step; exact (if_neg (by decide)).trans (if_pos ⟨Nat.le_add_left 1 d, h13, hd⟩)) hm k
theorem wi_cv1 {i : Nat} {v0 : Value} (hc : am_CT m pc = some (.invokevirtual i, n, a, 1, c)) (hd : am_cats r ≤ 8) (hc13 : c < 13) (ht : g.1 q = t) (hs : am_sub t c = true) (h1 : 100 ≤ a → t = c) (hv : am_vt a t = some y) (he : am_ent [.ref q, v0] (am_ML y) = ls') (hm : (am_flat [.ref q, v0]).length ≤ am_ML y) (k : WP d y 0 ls' [] g fi fl (am_K (d + 1) m n ls r P)) : WP (d + 1) m pc ls (v0 :: .ref q :: r) g fi fl P := by
  subst he; subst ht
  refine wp_call (y := y) (args := [.ref q, v0]) (r := r) hc ?_ hm k
  unfold am_step
  refine (if_pos ⟨Nat.le_add_left 1 d, hd, hc13, hs, h1⟩).trans ?_
  rw [hv]
  rfl
theorem wi_cvT1 {i : Nat} {v0 : Value} (hc : am_CT m pc = some (.invokevirtual i, n, a, 1, 13)) (hd : am_cats r ≤ 8) (hq : 1 ≤ q ∧ q ≤ 5) (h1 : 100 ≤ a) (hy : a - 100 = y) (he : am_ent [.retAddr q, v0] (am_ML y) = ls') (hm : (am_flat [.retAddr q, v0]).length ≤ am_ML y) (k : WP d y 0 ls' [] g fi fl (am_K (d + 1) m n ls r P)) : WP (d + 1) m pc ls (v0 :: .retAddr q :: r) g fi fl P := by
  subst he; subst hy
  exact wp_call (args := [.retAddr q, v0]) (r := r) hc (by unfold am_step; exact if_pos ⟨Nat.le_add_left 1 d, hd, rfl, hq.1, hq.2, h1⟩) hm k
theorem wi_cpT1 {i : Nat} {v0 : Value} (hc : am_CT m pc = some (.invokespecial i, n, y, 1, 0)) : True := trivial
theorem wi_cs2 {i : Nat} {v0 v1 : Value} (hc : am_CT m pc = some (.invokestatic i, n, y, 2, 0)) (hd : am_cats r ≤ 8) (he : am_ent [v0, v1] (am_ML y) = ls') (hm : (am_flat [v0, v1]).length ≤ am_ML y) (k : WP d y 0 ls' [] g fi fl (am_K (d + 1) m n ls r P)) : WP (d + 1) m pc ls (v1 :: v0 :: r) g fi fl P := by
  subst he
  exact wp_call (y := y) (args := [v0, v1]) (r := r) hc (by unfold am_step; exact (if_neg (by decide)).trans (if_pos ⟨Nat.le_add_left 1 d, by simp, hd⟩)) hm k
theorem wi_cp2 {i : Nat} {v0 v1 : Value} (hc : am_CT m pc = some (.invokespecial i, n, y, 2, 0)) (hd : am_cats r ≤ 8) (ht : g.1 q = t) (h13 : t < 13) (he : am_ent [.ref q, v0, v1] (am_ML y) = ls') (hm : (am_flat [.ref q, v0, v1]).length ≤ am_ML y) (k : WP d y 0 ls' [] g fi fl (am_K (d + 1) m n ls r P)) : WP (d + 1) m pc ls (v1 :: v0 :: .ref q :: r) g fi fl P := by
  subst he; subst ht
  exact wp_call (y := y) (args := [.ref q, v0, v1]) (r := r) hc (by unfold am_step; exact (if_neg (by decide)).trans (if_pos ⟨Nat.le_add_left 1 d, h13, hd⟩)) hm k
theorem wi_cv2 {i : Nat} {v0 v1 : Value} (hc : am_CT m pc = some (.invokevirtual i, n, a, 2, c)) (hd : am_cats r ≤ 8) (hc13 : c < 13) (ht : g.1 q = t) (hs : am_sub t c = true) (h1 : 100 ≤ a → t = c) (hv : am_vt a t = some y) (he : am_ent [.ref q, v0, v1] (am_ML y) = ls') (hm : (am_flat [.ref q, v0, v1]).length ≤ am_ML y) (k : WP d y 0 ls' [] g fi fl (am_K (d + 1) m n ls r P)) : WP (d + 1) m pc ls (v1 :: v0 :: .ref q :: r) g fi fl P := by
  subst he; subst ht
  refine wp_call (y := y) (args := [.ref q, v0, v1]) (r := r) hc ?_ hm k
  unfold am_step
  refine (if_pos ⟨Nat.le_add_left 1 d, hd, hc13, hs, h1⟩).trans ?_
  rw [hv]
  rfl
theorem wi_cs3 {i : Nat} {v0 v1 v2 : Value} (hc : am_CT m pc = some (.invokestatic i, n, y, 3, 0)) (hd : am_cats r ≤ 8) (he : am_ent [v0, v1, v2] (am_ML y) = ls') (hm : (am_flat [v0, v1, v2]).length ≤ am_ML y) (k : WP d y 0 ls' [] g fi fl (am_K (d + 1) m n ls r P)) : WP (d + 1) m pc ls (v2 :: v1 :: v0 :: r) g fi fl P := by
  subst he
  exact wp_call (y := y) (args := [v0, v1, v2]) (r := r) hc (by unfold am_step; exact (if_neg (by decide)).trans (if_pos ⟨Nat.le_add_left 1 d, by simp, hd⟩)) hm k
theorem wi_cp3 {i : Nat} {v0 v1 v2 : Value} (hc : am_CT m pc = some (.invokespecial i, n, y, 3, 0)) (hd : am_cats r ≤ 8) (ht : g.1 q = t) (h13 : t < 13) (he : am_ent [.ref q, v0, v1, v2] (am_ML y) = ls') (hm : (am_flat [.ref q, v0, v1, v2]).length ≤ am_ML y) (k : WP d y 0 ls' [] g fi fl (am_K (d + 1) m n ls r P)) : WP (d + 1) m pc ls (v2 :: v1 :: v0 :: .ref q :: r) g fi fl P := by
  subst he; subst ht
  exact wp_call (y := y) (args := [.ref q, v0, v1, v2]) (r := r) hc (by unfold am_step; exact (if_neg (by decide)).trans (if_pos ⟨Nat.le_add_left 1 d, h13, hd⟩)) hm k
theorem wi_cv3 {i : Nat} {v0 v1 v2 : Value} (hc : am_CT m pc = some (.invokevirtual i, n, a, 3, c)) (hd : am_cats r ≤ 8) (hc13 : c < 13) (ht : g.1 q = t) (hs : am_sub t c = true) (h1 : 100 ≤ a → t = c) (hv : am_vt a t = some y) (he : am_ent [.ref q, v0, v1, v2] (am_ML y) = ls') (hm : (am_flat [.ref q, v0, v1, v2]).length ≤ am_ML y) (k : WP d y 0 ls' [] g fi fl (am_K (d + 1) m n ls r P)) : WP (d + 1) m pc ls (v2 :: v1 :: v0 :: .ref q :: r) g fi fl P := by
  subst he; subst ht
  refine wp_call (y := y) (args := [.ref q, v0, v1, v2]) (r := r) hc ?_ hm k
  unfold am_step
  refine (if_pos ⟨Nat.le_add_left 1 d, hd, hc13, hs, h1⟩).trans ?_
  rw [hv]
  rfl
theorem wi_cs4 {i : Nat} {v0 v1 v2 v3 : Value} (hc : am_CT m pc = some (.invokestatic i, n, y, 4, 0)) (hd : am_cats r ≤ 8) (he : am_ent [v0, v1, v2, v3] (am_ML y) = ls') (hm : (am_flat [v0, v1, v2, v3]).length ≤ am_ML y) (k : WP d y 0 ls' [] g fi fl (am_K (d + 1) m n ls r P)) : WP (d + 1) m pc ls (v3 :: v2 :: v1 :: v0 :: r) g fi fl P := by
  subst he
  exact wp_call (y := y) (args := [v0, v1, v2, v3]) (r := r) hc (by unfold am_step; exact (if_neg (by decide)).trans (if_pos ⟨Nat.le_add_left 1 d, by simp, hd⟩)) hm k
theorem wi_cp4 {i : Nat} {v0 v1 v2 v3 : Value} (hc : am_CT m pc = some (.invokespecial i, n, y, 4, 0)) (hd : am_cats r ≤ 8) (ht : g.1 q = t) (h13 : t < 13) (he : am_ent [.ref q, v0, v1, v2, v3] (am_ML y) = ls') (hm : (am_flat [.ref q, v0, v1, v2, v3]).length ≤ am_ML y) (k : WP d y 0 ls' [] g fi fl (am_K (d + 1) m n ls r P)) : WP (d + 1) m pc ls (v3 :: v2 :: v1 :: v0 :: .ref q :: r) g fi fl P := by
  subst he; subst ht
  exact wp_call (y := y) (args := [.ref q, v0, v1, v2, v3]) (r := r) hc (by unfold am_step; exact (if_neg (by decide)).trans (if_pos ⟨Nat.le_add_left 1 d, h13, hd⟩)) hm k
theorem wi_cv4 {i : Nat} {v0 v1 v2 v3 : Value} (hc : am_CT m pc = some (.invokevirtual i, n, a, 4, c)) (hd : am_cats r ≤ 8) (hc13 : c < 13) (ht : g.1 q = t) (hs : am_sub t c = true) (h1 : 100 ≤ a → t = c) (hv : am_vt a t = some y) (he : am_ent [.ref q, v0, v1, v2, v3] (am_ML y) = ls') (hm : (am_flat [.ref q, v0, v1, v2, v3]).length ≤ am_ML y) (k : WP d y 0 ls' [] g fi fl (am_K (d + 1) m n ls r P)) : WP (d + 1) m pc ls (v3 :: v2 :: v1 :: v0 :: .ref q :: r) g fi fl P := by
  subst he; subst ht
  refine wp_call (y := y) (args := [.ref q, v0, v1, v2, v3]) (r := r) hc ?_ hm k
  unfold am_step
  refine (if_pos ⟨Nat.le_add_left 1 d, hd, hc13, hs, h1⟩).trans ?_
  rw [hv]
  rfl
theorem wi_cs5 {i : Nat} {v0 v1 v2 v3 v4 : Value} (hc : am_CT m pc = some (.invokestatic i, n, y, 5, 0)) (hd : am_cats r ≤ 8) (he : am_ent [v0, v1, v2, v3, v4] (am_ML y) = ls') (hm : (am_flat [v0, v1, v2, v3, v4]).length ≤ am_ML y) (k : WP d y 0 ls' [] g fi fl (am_K (d + 1) m n ls r P)) : WP (d + 1) m pc ls (v4 :: v3 :: v2 :: v1 :: v0 :: r) g fi fl P := by
  subst he
  exact wp_call (y := y) (args := [v0, v1, v2, v3, v4]) (r := r) hc (by unfold am_step; exact (if_neg (by decide)).trans (if_pos ⟨Nat.le_add_left 1 d, by simp, hd⟩)) hm k
theorem wi_cp5 {i : Nat} {v0 v1 v2 v3 v4 : Value} (hc : am_CT m pc = some (.invokespecial i, n, y, 5, 0)) (hd : am_cats r ≤ 8) (ht : g.1 q = t) (h13 : t < 13) (he : am_ent [.ref q, v0, v1, v2, v3, v4] (am_ML y) = ls') (hm : (am_flat [.ref q, v0, v1, v2, v3, v4]).length ≤ am_ML y) (k : WP d y 0 ls' [] g fi fl (am_K (d + 1) m n ls r P)) : WP (d + 1) m pc ls (v4 :: v3 :: v2 :: v1 :: v0 :: .ref q :: r) g fi fl P := by
  subst he; subst ht
  exact wp_call (y := y) (args := [.ref q, v0, v1, v2, v3, v4]) (r := r) hc (by unfold am_step; exact (if_neg (by decide)).trans (if_pos ⟨Nat.le_add_left 1 d, h13, hd⟩)) hm k
theorem wi_cv5 {i : Nat} {v0 v1 v2 v3 v4 : Value} (hc : am_CT m pc = some (.invokevirtual i, n, a, 5, c)) (hd : am_cats r ≤ 8) (hc13 : c < 13) (ht : g.1 q = t) (hs : am_sub t c = true) (h1 : 100 ≤ a → t = c) (hv : am_vt a t = some y) (he : am_ent [.ref q, v0, v1, v2, v3, v4] (am_ML y) = ls') (hm : (am_flat [.ref q, v0, v1, v2, v3, v4]).length ≤ am_ML y) (k : WP d y 0 ls' [] g fi fl (am_K (d + 1) m n ls r P)) : WP (d + 1) m pc ls (v4 :: v3 :: v2 :: v1 :: v0 :: .ref q :: r) g fi fl P := by
  subst he; subst ht
  refine wp_call (y := y) (args := [.ref q, v0, v1, v2, v3, v4]) (r := r) hc ?_ hm k
  unfold am_step
  refine (if_pos ⟨Nat.le_add_left 1 d, hd, hc13, hs, h1⟩).trans ?_
  rw [hv]
  rfl
/-! ends -/
theorem wi_iret {x : Int32} (hc : am_CT m pc = some (.ireturn, n, a, b, c)) (hf : am_fit a x = true) (k : P (some (.int x)) g fi fl) : WP d m pc ls [.int x] g fi fl P := wp_ret hc (by unfold am_step; exact if_pos hf) k
theorem wi_lret {x : Int64} (hc : am_CT m pc = some (.lreturn, n, a, b, c)) (k : P (some (.long x)) g fi fl) : WP d m pc ls [.long x] g fi fl P := wp_ret hc rfl k
theorem wi_aret {x : Nat} (hc : am_CT m pc = some (.areturn, n, a, b, c)) (k : P (some (.ref x)) g fi fl) : WP d m pc ls [.ref x] g fi fl P := wp_ret hc rfl k
theorem wi_aretn (hc : am_CT m pc = some (.areturn, n, a, b, c)) (k : P (some .null) g fi fl) : WP d m pc ls [.null] g fi fl P := wp_ret hc rfl k
theorem wi_ret (hc : am_CT m pc = some (.return_, n, a, b, c)) (k : P none g fi fl) : WP d m pc ls [] g fi fl P := wp_ret hc rfl k
end AWP
