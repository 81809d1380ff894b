/-! The small machine's heap and the real one's. -/
abbrev am_C : Type := Nat × (Nat → Value) × va_G × (Nat → ClassId) × (Nat → Nat) × (Nat → Nat) × Nat × Nat × (Nat → Int32)
abbrev kB (K : am_C) : Nat := K.1
abbrev kS (K : am_C) : Nat → Value := K.2.1
abbrev kD (K : am_C) : va_G := K.2.2.1
abbrev kT (K : am_C) : Nat → ClassId := K.2.2.2.1
abbrev kK (K : am_C) : Nat → Nat := K.2.2.2.2.1
abbrev kV (K : am_C) : Nat → Nat := K.2.2.2.2.2.1
abbrev kb (K : am_C) : Nat := K.2.2.2.2.2.2.1
abbrev kL (K : am_C) : Nat := K.2.2.2.2.2.2.2.1
abbrev kx (K : am_C) : Nat → Int32 := K.2.2.2.2.2.2.2.2
def vmp (K : am_C) : Value → Value
  | .ref i => .ref (kB K + i)
  | .retAddr k => kS K k
  | v => v
def am_ro (K : am_C) (r : Option Nat) : Option Nat := r.map (fun i => kB K + i)
theorem vmp_rv (K : am_C) (r : Option Nat) : vmp K (am_rv r) = va_rf (am_ro K r) := by cases r <;> rfl
def am_fv (K : am_C) (g : am_G) (fi : am_I) (t i k : Nat) : Value := if am_fty t k = 2 then va_rf (am_ro K (g.2.2.1 i k)) else .int (fi i k)
def am_fs (K : am_C) (g : am_G) (fi : am_I) (i : Nat) : List Value := (List.range (am_nf (g.1 i))).map (am_fv K g fi (g.1 i) i)
def am_ce (K : am_C) (g : am_G) (fi : am_I) (fl : am_L) (i : Nat) : va_E :=
  if g.1 i < 13 then .inr (g.1 i, am_fs K g fi i)
  else if g.1 i = 21 then .inl (kT K 21, g.2.1 i, .inr (.inl (fl i)))
  else if 24 ≤ g.1 i then .inl (kT K (g.1 i), g.2.1 i, .inr (.inr (.inr (.inr (fun j => am_ro K (g.2.2.1 i j))))))
  else .inl (kT K (g.1 i), g.2.1 i, .inl (fi i))
def HR (K : am_C) (g : am_G) (fi : am_I) (fl : am_L) (H : Heap) : Prop :=
  H.size = kB K + am_nx g ∧ am_nx g ≤ 900000 ∧ (∀ i, i < am_nx g → va_at (kD K) vwCl (kB K + i, am_ce K g fi fl i) H ∧ (g.1 i < 13 ∨ (20 ≤ g.1 i ∧ g.1 i ≤ 27))) ∧ (∀ i, am_nx g ≤ i → g.1 i = 99) ∧ g.2.1 am_SC = kL K ∧ ∀ j, j < kL K → fi am_SC j = kx K j
def LV (K : am_C) (sl : Array Slot) (n : Nat) (ls : List (Option Value)) : Prop :=
  sl.size = n ∧ ls.length = n ∧ lv_wf sl ∧ ∀ (i : Nat) (v : Value), ls[i]? = some (some v) → sl[i]? = some (Slot.val (vmp K v))
/-- the heap's part of the law: what it may write -/
def am_Fr (K : am_C) : Nat → Prop := fun q => kB K ≤ q
theorem HR.lt {K : am_C} {g : am_G} {fi : am_I} {fl : am_L} {H : Heap} (h : HR K g fi fl H) {i : Nat} (ht : g.1 i ≠ 99) : i < am_nx g := by
  rcases Nat.lt_or_ge i (am_nx g) with q | q
  · exact q
  · exact absurd (h.2.2.2.1 i q) ht
theorem HR.at' {K : am_C} {g : am_G} {fi : am_I} {fl : am_L} {H : Heap} (h : HR K g fi fl H) {i : Nat} (ht : g.1 i ≠ 99) : va_at (kD K) vwCl (kB K + i, am_ce K g fi fl i) H := (h.2.2.1 i (h.lt ht)).1
theorem va_P1 {D : va_G} {cl : List vw_C} {q : Nat × va_E} {H : Heap} (h : va_at D cl q H) : va_P D cl [q] H := fun k x hx => by
  have hz : k < 1 := (List.getElem?_eq_some_iff.mp hx).1
  rw [show k = 0 by omega] at hx
  cases hx
  exact h
theorem va_P2 {D : va_G} {cl : List vw_C} {q r : Nat × va_E} {H : Heap} (h : va_at D cl q H) (h2 : va_at D cl r H) : va_P D cl [q, r] H := fun k x hx => by
  have hz : k < 2 := (List.getElem?_eq_some_iff.mp hx).1
  rcases (show k = 0 ∨ k = 1 by omega) with rfl | rfl
  · cases hx
    exact h
  · cases hx
    exact h2
theorem am_ce_o {K : am_C} {g : am_G} {fi : am_I} {fl : am_L} {i : Nat} (h : g.1 i < 13) : am_ce K g fi fl i = .inr (g.1 i, am_fs K g fi i) := if_pos h
theorem am_ce_l {K : am_C} {g : am_G} {fi : am_I} {fl : am_L} {i : Nat} (h : g.1 i = 21) : am_ce K g fi fl i = .inl (kT K 21, g.2.1 i, .inr (.inl (fl i))) := by
  unfold am_ce
  rw [if_neg (by omega), if_pos h]
theorem am_ce_q {K : am_C} {g : am_G} {fi : am_I} {fl : am_L} {i : Nat} (h : 24 ≤ g.1 i) : am_ce K g fi fl i = .inl (kT K (g.1 i), g.2.1 i, .inr (.inr (.inr (.inr (fun j => am_ro K (g.2.2.1 i j)))))) := by
  unfold am_ce
  rw [if_neg (by omega), if_neg (by omega), if_pos h]
theorem am_ce_i {K : am_C} {g : am_G} {fi : am_I} {fl : am_L} {i : Nat} (h : g.1 i = 20 ∨ g.1 i = 22 ∨ g.1 i = 23) : am_ce K g fi fl i = .inl (kT K (g.1 i), g.2.1 i, .inl (fi i)) := by
  unfold am_ce
  rw [if_neg (by omega), if_neg (by omega), if_neg (by omega)]
theorem am_fs_get {K : am_C} {g : am_G} {fi : am_I} {i k : Nat} (hk : k < am_nf (g.1 i)) : (am_fs K g fi i)[k]? = some (am_fv K g fi (g.1 i) i k) := by
  unfold am_fs
  rw [List.getElem?_map, List.getElem?_range hk]
  rfl
theorem am_fs_len {K : am_C} {g : am_G} {fi : am_I} {i : Nat} : (am_fs K g fi i).length = am_nf (g.1 i) := by simp [am_fs]
theorem up2_s {α : Type} {f : Nat → Nat → α} {a k : Nat} {x : α} : up2 f a k x a k = x := if_pos ⟨rfl, rfl⟩
theorem up2_r {α : Type} {f : Nat → Nat → α} {a k b : Nat} {x : α} (h : b ≠ a) : up2 f a k x b = f b := funext fun j => if_neg (fun q => h q.1)
theorem up2_n {α : Type} {f : Nat → Nat → α} {a k j : Nat} {x : α} (h : j ≠ k) : up2 f a k x a j = f a j := if_neg (fun q => h q.2)
/-- a cell is written, nothing else: the heap's picture behind it -/
theorem HR.set {K : am_C} {g g' : am_G} {fi fi' : am_I} {fl fl' : am_L} {H H1 : Heap} (h : HR K g fi fl H) {i : Nat} (ht : g.1 i ≠ 99) (z : H1.size = H.size) (oq : ∀ q : Nat, q ≠ kB K + i → H1[q]? = H[q]?)
    (h1 : g'.1 = g.1) (h2 : g'.2.1 = g.2.1) (h3 : am_nx g' = am_nx g) (hf : ∀ j, j ≠ i → g'.2.2.1 j = g.2.2.1 j) (hi : ∀ j, j ≠ i → fi' j = fi j) (hl : ∀ j, j ≠ i → fl' j = fl j)
    (he : va_at (kD K) vwCl (kB K + i, am_ce K g' fi' fl' i) H1) : HR K g' fi' fl' H1 := by
  have hlt := h.lt ht
  obtain ⟨a1, a2, a3, a4, a5, a6⟩ := h
  refine ⟨by rw [z, h3]; exact a1, by rw [h3]; exact a2, fun j hj => ?_, fun j hj => by rw [h1]; exact a4 j (by rw [← h3]; exact hj), by rw [h2]; exact a5, fun j hj => ?_⟩
  · rw [h3] at hj
    refine ⟨?_, by rw [h1]; exact (a3 j hj).2⟩
    by_cases e : j = i
    · subst e
      exact he
    · have e2 : am_ce K g' fi' fl' j = am_ce K g fi fl j := by
        unfold am_ce am_fs am_fv
        rw [h1, h2, hf j e, hi j e, hl j e]
      rw [e2]
      exact (a3 j hj).1.kept (oq _ (by show kB K + j ≠ kB K + i; omega))
  · have : am_SC ≠ i := by
      intro e
      rw [← e] at hlt
      unfold am_SC at hlt
      omega
    rw [hi _ this]
    exact a6 j hj
theorem HR.setI {K : am_C} {g : am_G} {fi : am_I} {fl : am_L} {H H1 : Heap} {i k : Nat} {x : Int32} (h : HR K g fi fl H) (ht : g.1 i ≠ 99) (z : H1.size = H.size) (oq : ∀ q : Nat, q ≠ kB K + i → H1[q]? = H[q]?)
    (he : va_at (kD K) vwCl (kB K + i, am_ce K g (up2 fi i k x) fl i) H1) : HR K g (up2 fi i k x) fl H1 :=
  h.set ht z oq rfl rfl rfl (fun _ _ => rfl) (fun _ e => up2_r e) (fun _ _ => rfl) he
theorem HR.setL {K : am_C} {g : am_G} {fi : am_I} {fl : am_L} {H H1 : Heap} {i k : Nat} {x : Int64} (h : HR K g fi fl H) (ht : g.1 i ≠ 99) (z : H1.size = H.size) (oq : ∀ q : Nat, q ≠ kB K + i → H1[q]? = H[q]?)
    (he : va_at (kD K) vwCl (kB K + i, am_ce K g fi (up2 fl i k x) i) H1) : HR K g fi (up2 fl i k x) H1 :=
  h.set ht z oq rfl rfl rfl (fun _ _ => rfl) (fun _ _ => rfl) (fun _ e => up2_r e) he
theorem HR.setR {K : am_C} {g : am_G} {fi : am_I} {fl : am_L} {H H1 : Heap} {i k : Nat} {x : Option Nat} (h : HR K g fi fl H) (ht : g.1 i ≠ 99) (z : H1.size = H.size) (oq : ∀ q : Nat, q ≠ kB K + i → H1[q]? = H[q]?)
    (he : va_at (kD K) vwCl (kB K + i, am_ce K (g.1, g.2.1, up2 g.2.2.1 i k x, g.2.2.2) fi fl i) H1) : HR K (g.1, g.2.1, up2 g.2.2.1 i k x, g.2.2.2) fi fl H1 :=
  h.set ht z oq rfl rfl rfl (fun _ e => up2_r e) (fun _ _ => rfl) (fun _ _ => rfl) he
/-- new cells at the end -/
theorem HR.grow {K : am_C} {g g' : am_G} {fi fi' : am_I} {fl fl' : am_L} {H H1 : Heap} {n : Nat} (h : HR K g fi fl H) (z : H1.size = H.size + n) (oq : ∀ q : Nat, q < H.size → H1[q]? = H[q]?) (h3 : am_nx g' = am_nx g + n) (hle : am_nx g' ≤ 900000)
    (h1 : ∀ j, j < am_nx g ∨ am_nx g + n ≤ j → g'.1 j = g.1 j ∧ g'.2.1 j = g.2.1 j) (hf : ∀ j, j < am_nx g → g'.2.2.1 j = g.2.2.1 j) (hi : ∀ j, j < am_nx g ∨ am_nx g + n ≤ j → fi' j = fi j) (hl : ∀ j, j < am_nx g → fl' j = fl j)
    (he : ∀ j, j < n → va_at (kD K) vwCl (H.size + j, am_ce K g' fi' fl' (am_nx g + j)) H1 ∧ (g'.1 (am_nx g + j) < 13 ∨ (20 ≤ g'.1 (am_nx g + j) ∧ g'.1 (am_nx g + j) ≤ 27))) : HR K g' fi' fl' H1 := by
  obtain ⟨a1, a2, a3, a4, a5, a6⟩ := h
  have hsc : am_nx g + n ≤ am_SC := by unfold am_SC; omega
  refine ⟨by rw [z, h3, a1]; omega, hle, fun j hj => ?_, fun j hj => ?_, by rw [(h1 _ (Or.inr hsc)).2]; exact a5, fun j hj => by rw [hi _ (Or.inr hsc)]; exact a6 j hj⟩
  · by_cases hlt : j < am_nx g
    · refine ⟨?_, by rw [(h1 j (Or.inl hlt)).1]; exact (a3 j hlt).2⟩
      have e2 : am_ce K g' fi' fl' j = am_ce K g fi fl j := by
        unfold am_ce am_fs am_fv
        rw [(h1 j (Or.inl hlt)).1, (h1 j (Or.inl hlt)).2, hf j hlt, hi j (Or.inl hlt), hl j hlt]
      rw [e2]
      exact (a3 j hlt).1.kept (oq _ (by show kB K + j < H.size; omega))
    · obtain ⟨r, rfl⟩ : ∃ r, j = am_nx g + r := ⟨j - am_nx g, by omega⟩
      have hr := he r (by omega)
      rw [a1] at hr
      rw [show kB K + (am_nx g + r) = kB K + am_nx g + r by omega]
      exact hr
  · rw [(h1 j (Or.inr (by omega))).1]
    exact a4 j (by omega)
/-- what the class tables and the old heap say at a state -/
def am_tys (K : am_C) : List (ClassId × FieldType) := [(kT K 20, .int), (kT K 21, .long), (kT K 22, .byte), (kT K 23, .boolean), (kT K 24, .object "LargeBubble$Blower"), (kT K 25, .object "LargeBubble$Square"), (kT K 26, .array .int), (kT K 27, .array .long)]
def am_len (k : Nat) : Nat := (am_str.getD k []).length
def am_unders : List (Nat × Nat) := [(4, 1), (10, 2), (9, 5), (1, 0), (2, 0), (5, 0), (4, 0), (10, 0), (9, 0)]
def am_noC (t c : Nat) : Prop := t < 13 ∧ (c = 1 ∨ c = 2 ∨ c = 4 ∨ c = 5 ∨ c = 9 ∨ c = 10) ∧ am_sub t c = false
def KF (K : am_C) (U : State) (H : Heap) : Prop :=
  va_K (kD K) vwCl (am_tys K) U ∧
  (∀ q ∈ am_nestL, va_Nw (.methodLinkNest "LargeBubble" q.1 q.2 "LargeBubble") U) ∧
  (∀ q ∈ am_unders, va_Nw (.castable (am_cn q.1) (am_cn q.2)) U) ∧
  (∀ t c, am_noC t c → va_Nc (am_cn t) (am_cn c) U) ∧
  (va_AO "LargeBubble$Blower" U ∧ va_AO "LargeBubble$Square" U ∧ (Cond.arrayOver (.array .int)).before #[] U = true ∧ (Cond.arrayOver (.array .long)).before #[] U = true) ∧
  (∀ k, k < 5 → vk_R "LargeBubble$Text" (am_sxL.getD k (0, "")).1 (am_sxL.getD k (0, "")).2 (kK K k) U) ∧
  (vk_S 5 (am_str.map List.length) am_str (kK K) (kV K) (am_Fr K) U H ∧ va_Z "java/lang/String" "COMPACT_STRINGS" "Z" (.int 1) (am_Fr K) U H ∧ va_Z "jdk/internal/util/Preconditions" "SIOOBE_FORMATTER" "Ljava/util/function/BiFunction;" (kS K 200) (am_Fr K) U H ∧ va_X (kb K) (kL K) (kx K) U H ∧ kb K < H.size) ∧
  (kB K ≤ H.size ∧ kb K < kB K ∧ kL K < 65536 ∧ (∀ k, kS K k = .null ∨ ∃ a, kS K k = .ref a) ∧ kS K 0 = .ref (kb K) ∧ (∀ k, k < 5 → kS K (k + 1) = .ref (kK K k) ∧ kS K (k + 101) = .ref (kV K k)))
