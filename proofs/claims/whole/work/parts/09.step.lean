section AMS
variable {K : am_C} {mi d pc n a b c0 : Nat} {ls ls' : List (Option Value)} {st st' : List Value} {g g' : am_G} {fi fi' : am_I} {fl fl' : am_L} {pc' : Nat} {sl : Array Slot}
variable {p : Program} {l : Launch} {e : Env} {R : Room} {s : State} {m : MethodId} {args : Array Value} {below : List Frame} {meth : Method} {c : Code} {H : Heap} {locs : List Loc} {cells slots : Nat} {Q : State → Prop}
/-- where a method number mi runs -/
def am_CX (K : am_C) (mi : Nat) (p : Program) (s : State) (m : MethodId) (args : Array Value) (meth : Method) (c : Code) : Prop :=
  p.tables.exec = Jvm.exec ∧ c.code = am_B mi ∧ c.maxLocals = am_ML mi ∧ s.vm.findClass (am_on (am_O mi)) = some m.cls ∧ (∀ w ∈ am_T0, w.before args s = true) ∧ (am_ini mi = true → meth.name = "<init>") ∧ KF K s s.heap
def am_SK (K : am_C) (mi : Nat) (p : Program) (l : Launch) (e : Env) (R : Room) (s : State) (m : MethodId) (args : Array Value) (below : List Frame) (meth : Method) (c : Code) (cells slots : Nat) (Q : State → Prop) (g : am_G) (pc' : Nat) (ls' : List (Option Value)) (st' : List Value) (g' : am_G) (fi' : am_I) (fl' : am_L) : Prop :=
  ∀ (H1 : Heap) (locs1 : List Loc) (sl1 : Array Slot), HR K g' fi' fl' H1 → LV K sl1 (am_ML mi) ls' → va_S (am_Fr K) s.heap H1 locs1 → W p l e R s m args below meth c H1 locs1 (cells + (am_nx g' - am_nx g)) (slots + (am_sl g' - am_sl g)) Q (F0 m pc' sl1 (st'.map (vmp K)))
theorem am_SK.k0 (kk : am_SK K mi p l e R s m args below meth c cells slots Q g pc' ls' st' g fi fl) (hH : HR K g fi fl H) (hl : LV K sl (am_ML mi) ls') (hS : va_S (am_Fr K) s.heap H locs) : W p l e R s m args below meth c H locs cells slots Q (F0 m pc' sl (st'.map (vmp K))) := by
  have h := kk H locs sl hH hl hS
  rw [Nat.sub_self, Nat.sub_self, Nat.add_zero, Nat.add_zero] at h
  exact h
theorem am_SK.k1 (kk : am_SK K mi p l e R s m args below meth c cells slots Q g pc' ls' st' g' fi' fl') (h1 : am_nx g' = am_nx g) (h2 : am_sl g' = am_sl g) (hH : HR K g' fi' fl' H) (hl : LV K sl (am_ML mi) ls') (hS : va_S (am_Fr K) s.heap H locs) : W p l e R s m args below meth c H locs cells slots Q (F0 m pc' sl (st'.map (vmp K))) := by
  have h := kk H locs sl hH hl hS
  rw [h1, h2, Nat.sub_self, Nat.sub_self, Nat.add_zero, Nat.add_zero] at h
  exact h
theorem vmp_cat {K : am_C} (hk : ∀ k, kS K k = .null ∨ ∃ a, kS K k = .ref a) (v : Value) : (vmp K v).category = v.category := by
  cases v with
  | retAddr k =>
    show (kS K k).category = _
    rcases hk k with h | ⟨a, h⟩ <;> rw [h] <;> rfl
  | _ => rfl
def am_lv (K : am_C) (ls : List (Option Value)) : List (Nat × Value) := (List.range ls.length).filterMap (fun i => match ls[i]? with
  | some (some v) => some (i, vmp K v)
  | _ => none)
theorem am_lv_mem {K : am_C} {ls : List (Option Value)} {i : Nat} {v : Value} (h : ls[i]? = some (some v)) : (i, vmp K v) ∈ am_lv K ls := by
  refine List.mem_filterMap.mpr ⟨i, List.mem_range.mpr (List.getElem?_eq_some_iff.mp h).1, ?_⟩
  rw [h]
theorem am_lv_of {K : am_C} {ls : List (Option Value)} {q : Nat × Value} (h : q ∈ am_lv K ls) : ∃ v, ls[q.1]? = some (some v) ∧ q.2 = vmp K v := by
  obtain ⟨i, -, hi⟩ := List.mem_filterMap.mp h
  split at hi
  · rename_i v hv
    cases hi
    exact ⟨v, hv, rfl⟩
  · cases hi
theorem LV.has {K : am_C} {sl : Array Slot} {n : Nat} {ls : List (Option Value)} (h : LV K sl n ls) : lv_has sl n (am_lv K ls) := ⟨h.1, h.2.2.1, fun q hq => by
  obtain ⟨v, h1, h2⟩ := am_lv_of hq
  rw [h2]
  exact h.2.2.2 _ _ h1⟩
theorem LV.store1 {K : am_C} {sl sl' : Array Slot} {n i : Nat} {v : Value} {ls : List (Option Value)} (hk : ∀ k, kS K k = .null ∨ ∃ a, kS K k = .ref a) (h : LV K sl n ls) (hno : am_noL ls i = true) (h' : lv_has sl' n ((i, vmp K v) :: (am_lv K ls).filter (fun q => !(q.1 == i) && !(q.1 + 1 == i && q.2.category == 2)))) : LV K sl' n (ls.set i (some v)) := by
  refine ⟨h'.1, by rw [List.length_set]; exact h.2.1, h'.2.1, fun j w hj => ?_⟩
  rw [List.getElem?_set] at hj
  split at hj
  · rename_i e
    subst e
    split at hj
    · cases hj
      exact h'.2.2 (i, vmp K v) List.mem_cons_self
    · cases hj
  · rename_i e
    refine h'.2.2 (j, vmp K w) (List.mem_cons_of_mem _ (List.mem_filter.mpr ⟨am_lv_mem hj, ?_⟩))
    have e1 : (j == i) = false := by simp; omega
    rw [e1]
    by_cases e2 : j + 1 = i
    · subst e2
      have hno := hno
      simp only [am_noL, hj, beq_iff_eq] at hno
      simp [vmp_cat hk, hno]
    · simp [e2]
theorem LV.store2 {K : am_C} {sl sl' : Array Slot} {n i : Nat} {x : Int64} {ls : List (Option Value)} (hk : ∀ k, kS K k = .null ∨ ∃ a, kS K k = .ref a) (h : LV K sl n ls) (hno : am_noL ls i = true) (h' : lv_has sl' n ((i, .long x) :: (am_lv K ls).filter (fun q => !(q.1 == i) && (!(q.1 == i + 1) && !(q.1 + 1 == i && q.2.category == 2))))) : LV K sl' n ((ls.set i (some (.long x))).set (i + 1) none) := by
  refine ⟨h'.1, by rw [List.length_set, List.length_set]; exact h.2.1, h'.2.1, fun j w hj => ?_⟩
  rw [List.getElem?_set] at hj
  split at hj
  · rename_i e
    split at hj <;> cases hj
  · rename_i e0
    rw [List.getElem?_set] at hj
    split at hj
    · rename_i e
      subst e
      split at hj
      · cases hj
        exact h'.2.2 (i, .long x) List.mem_cons_self
      · cases hj
    · rename_i e
      refine h'.2.2 (j, vmp K w) (List.mem_cons_of_mem _ (List.mem_filter.mpr ⟨am_lv_mem hj, ?_⟩))
      have e1 : (j == i) = false := by simp; omega
      have e3 : (j == i + 1) = false := by simp; omega
      rw [e1, e3]
      by_cases e2 : j + 1 = i
      · subst e2
        simp only [am_noL, hj, beq_iff_eq] at hno
        simp [vmp_cat hk, hno]
      · simp [e2]
theorem am_CX.hk (C : am_CX K mi p s m args meth c) : ∀ k, kS K k = .null ∨ ∃ a, kS K k = .ref a := C.2.2.2.2.2.2.2.2.2.2.2.2.2.2.2.2.1
theorem am_CX.kf (C : am_CX K mi p s m args meth c) : KF K s s.heap := C.2.2.2.2.2.2
theorem am_CX.own (C : am_CX K mi p s m args meth c) : s.vm.findClass (am_on (am_O mi)) = some m.cls := C.2.2.2.1
theorem am_CX.w (C : am_CX K mi p s m args meth c) {w : Cond} (h : w ∈ am_T0) : w.before args s = true := C.2.2.2.2.1 w h

theorem sr_iconst {v w : Int} (C : am_CX K mi p s m args meth c) (hd : decode (am_B mi) pc = .ok (.iconst w, 1)) (hv : Int32.ofInt w = Int32.ofInt v) (hH : HR K g fi fl H) (hl : LV K sl (am_ML mi) ls) (hS : va_S (am_Fr K) s.heap H locs) (h : am_step d pc (.bipush v, pc + 1, a, b, c0) ls st g fi fl = some (.inl (pc', ls', st', g', fi', fl'))) (kk : am_SK K mi p l e R s m args below meth c cells slots Q g pc' ls' st' g' fi' fl') : W p l e R s m args below meth c H locs cells slots Q (F0 m pc sl (st.map (vmp K))) := by
  unfold am_step at h
  dsimp only at h
  cases h
  exact lv_iconst C.1 C.2.1 hd hv (kk.k0 hH hl hS)

theorem sr_bipush {v w : Int} (C : am_CX K mi p s m args meth c) (hd : decode (am_B mi) pc = .ok (.bipush w, 2)) (hv : (Int8.ofInt w).toInt32 = Int32.ofInt v) (hH : HR K g fi fl H) (hl : LV K sl (am_ML mi) ls) (hS : va_S (am_Fr K) s.heap H locs) (h : am_step d pc (.bipush v, pc + 2, a, b, c0) ls st g fi fl = some (.inl (pc', ls', st', g', fi', fl'))) (kk : am_SK K mi p l e R s m args below meth c cells slots Q g pc' ls' st' g' fi' fl') : W p l e R s m args below meth c H locs cells slots Q (F0 m pc sl (st.map (vmp K))) := by
  unfold am_step at h
  dsimp only at h
  cases h
  exact lv_bipush C.1 C.2.1 hd hv (kk.k0 hH hl hS)

theorem sr_sipush {v w : Int} (C : am_CX K mi p s m args meth c) (hd : decode (am_B mi) pc = .ok (.sipush w, 3)) (hv : (Int16.ofInt w).toInt32 = Int32.ofInt v) (hH : HR K g fi fl H) (hl : LV K sl (am_ML mi) ls) (hS : va_S (am_Fr K) s.heap H locs) (h : am_step d pc (.bipush v, pc + 3, a, b, c0) ls st g fi fl = some (.inl (pc', ls', st', g', fi', fl'))) (kk : am_SK K mi p l e R s m args below meth c cells slots Q g pc' ls' st' g' fi' fl') : W p l e R s m args below meth c H locs cells slots Q (F0 m pc sl (st.map (vmp K))) := by
  unfold am_step at h
  dsimp only at h
  cases h
  exact lv_sipush C.1 C.2.1 hd hv (kk.k0 hH hl hS)

theorem sr_ldci {v : Int} {i : Nat} (C : am_CX K mi p s m args meth c) (hd : decode (am_B mi) pc = .ok (.ldc i, 2)) (hv : Cond.constant (am_on (am_O mi)) i (Int32.ofInt v) ∈ am_T0) (hH : HR K g fi fl H) (hl : LV K sl (am_ML mi) ls) (hS : va_S (am_Fr K) s.heap H locs) (h : am_step d pc (.bipush v, pc + 2, a, b, c0) ls st g fi fl = some (.inl (pc', ls', st', g', fi', fl'))) (kk : am_SK K mi p l e R s m args below meth c cells slots Q g pc' ls' st' g' fi' fl') : W p l e R s m args below meth c H locs cells slots Q (F0 m pc sl (st.map (vmp K))) := by
  unfold am_step at h
  dsimp only at h
  cases h
  exact lv_ldc C.1 C.2.1 C.own (C.w hv) hd (kk.k0 hH hl hS)

theorem sr_ldcw {v : Int} {i : Nat} (C : am_CX K mi p s m args meth c) (hd : decode (am_B mi) pc = .ok (.ldc_w i, 3)) (hv : Cond.constant (am_on (am_O mi)) i (Int32.ofInt v) ∈ am_T0) (hH : HR K g fi fl H) (hl : LV K sl (am_ML mi) ls) (hS : va_S (am_Fr K) s.heap H locs) (h : am_step d pc (.bipush v, pc + 3, a, b, c0) ls st g fi fl = some (.inl (pc', ls', st', g', fi', fl'))) (kk : am_SK K mi p l e R s m args below meth c cells slots Q g pc' ls' st' g' fi' fl') : W p l e R s m args below meth c H locs cells slots Q (F0 m pc sl (st.map (vmp K))) := by
  unfold am_step at h
  dsimp only at h
  cases h
  exact lv_ldcw C.1 C.2.1 C.own (C.w hv) hd (kk.k0 hH hl hS)

theorem sr_lconst {v : Int} {w : Fin 2} (C : am_CX K mi p s m args meth c) (hd : decode (am_B mi) pc = .ok (.lconst w, 1)) (hv : Int64.ofNat (w : Nat) = Int64.ofInt v) (hH : HR K g fi fl H) (hl : LV K sl (am_ML mi) ls) (hS : va_S (am_Fr K) s.heap H locs) (h : am_step d pc (.sipush v, pc + 1, a, b, c0) ls st g fi fl = some (.inl (pc', ls', st', g', fi', fl'))) (kk : am_SK K mi p l e R s m args below meth c cells slots Q g pc' ls' st' g' fi' fl') : W p l e R s m args below meth c H locs cells slots Q (F0 m pc sl (st.map (vmp K))) := by
  unfold am_step at h
  dsimp only at h
  cases h
  exact lv_lconst C.1 C.2.1 hd hv (kk.k0 hH hl hS)

theorem sr_ldc2 {v : Int} {i : Nat} (C : am_CX K mi p s m args meth c) (hd : decode (am_B mi) pc = .ok (.ldc2_w i, 3)) (hv : Cond.constantLong (am_on (am_O mi)) i (Int64.ofInt v) ∈ am_T0) (hH : HR K g fi fl H) (hl : LV K sl (am_ML mi) ls) (hS : va_S (am_Fr K) s.heap H locs) (h : am_step d pc (.sipush v, pc + 3, a, b, c0) ls st g fi fl = some (.inl (pc', ls', st', g', fi', fl'))) (kk : am_SK K mi p l e R s m args below meth c cells slots Q g pc' ls' st' g' fi' fl') : W p l e R s m args below meth c H locs cells slots Q (F0 m pc sl (st.map (vmp K))) := by
  unfold am_step at h
  dsimp only at h
  cases h
  exact lv_ldc2 C.1 C.2.1 C.own (C.w hv) hd (kk.k0 hH hl hS)

theorem sr_null (C : am_CX K mi p s m args meth c) (hd : decode (am_B mi) pc = .ok (.aconst_null, 1)) (hH : HR K g fi fl H) (hl : LV K sl (am_ML mi) ls) (hS : va_S (am_Fr K) s.heap H locs) (h : am_step d pc (.aconst_null, pc + 1, a, b, c0) ls st g fi fl = some (.inl (pc', ls', st', g', fi', fl'))) (kk : am_SK K mi p l e R s m args below meth c cells slots Q g pc' ls' st' g' fi' fl') : W p l e R s m args below meth c H locs cells slots Q (F0 m pc sl (st.map (vmp K))) := by
  unfold am_step at h
  dsimp only at h
  cases h
  exact lv_null C.1 C.2.1 hd (kk.k0 hH hl hS)

theorem sr_ldcs {i : Nat} (C : am_CX K mi p s m args meth c) (hd : decode (am_B mi) pc = .ok (.ldc i, 2)) (ha : a < 5) (ho : am_on (am_O mi) = "LargeBubble$Text") (hi : i = (am_sxL.getD a (0, "")).1) (hH : HR K g fi fl H) (hl : LV K sl (am_ML mi) ls) (hS : va_S (am_Fr K) s.heap H locs) (h : am_step d pc (.ldc i, pc + 2, a, b, c0) ls st g fi fl = some (.inl (pc', ls', st', g', fi', fl'))) (kk : am_SK K mi p l e R s m args below meth c cells slots Q g pc' ls' st' g' fi' fl') : W p l e R s m args below meth c H locs cells slots Q (F0 m pc sl (st.map (vmp K))) := by
  unfold am_step at h
  dsimp only at h
  cases h
  have hz := C.kf.2.2.2.2.2.1 a ha
  have hsp := (C.kf.2.2.2.2.2.2.2.2.2.2.2.2 a ha).1
  have k := kk.k0 hH hl hS
  rw [← hi, ← ho] at hz
  have e : vmp K (.retAddr (a + 1)) = .ref (kK K a) := hsp
  rw [List.map_cons, e] at k
  exact va_ldcS C.1 C.2.1 C.own hz hd k

theorem sr_gets {i : Nat} (C : am_CX K mi p s m args meth c) (hd : decode (am_B mi) pc = .ok (.getstatic i, 3)) (ha : (a = 0 ∧ Cond.fieldLink (am_on (am_O mi)) i "java/lang/String" "COMPACT_STRINGS" "Z" ∈ am_T0) ∨ (a = 1 ∧ Cond.fieldLink (am_on (am_O mi)) i "jdk/internal/util/Preconditions" "SIOOBE_FORMATTER" "Ljava/util/function/BiFunction;" ∈ am_T0)) (hH : HR K g fi fl H) (hl : LV K sl (am_ML mi) ls) (hS : va_S (am_Fr K) s.heap H locs) (h : am_step d pc (.getstatic i, pc + 3, a, b, c0) ls st g fi fl = some (.inl (pc', ls', st', g', fi', fl'))) (kk : am_SK K mi p l e R s m args below meth c cells slots Q g pc' ls' st' g' fi' fl') : W p l e R s m args below meth c H locs cells slots Q (F0 m pc sl (st.map (vmp K))) := by
  unfold am_step at h
  dsimp only at h
  cases h
  have k := kk.k0 hH hl hS
  rcases ha with ⟨rfl, hw⟩ | ⟨rfl, hw⟩
  · exact va_gets C.1 C.2.1 C.kf.2.2.2.2.2.2.1.2.1 hS C.own (C.w hw) (fun _ q => q) hd k
  · exact va_gets C.1 C.2.1 C.kf.2.2.2.2.2.2.1.2.2.1 hS C.own (C.w hw) (fun _ q => q) hd k

theorem sr_iload {i : Nat} (C : am_CX K mi p s m args meth c) (hd : decode (am_B mi) pc = .ok (.iload i, 2)) (hH : HR K g fi fl H) (hl : LV K sl (am_ML mi) ls) (hS : va_S (am_Fr K) s.heap H locs) (h : am_step d pc (.iload i, pc + 2, a, b, c0) ls st g fi fl = some (.inl (pc', ls', st', g', fi', fl'))) (kk : am_SK K mi p l e R s m args below meth c cells slots Q g pc' ls' st' g' fi' fl') : W p l e R s m args below meth c H locs cells slots Q (F0 m pc sl (st.map (vmp K))) := by
  unfold am_step at h
  dsimp only at h
  split at h
  · rename_i x hx
    cases h
    exact lv_iload C.1 C.2.1 hd (hl.2.2.2 _ _ hx) (kk.k0 hH hl hS)
  · cases h

theorem sr_iload_n {i : Nat} {k : Fin 4} (C : am_CX K mi p s m args meth c) (hd : decode (am_B mi) pc = .ok (.iload_n k, 1)) (hi : (k : Nat) = i) (hH : HR K g fi fl H) (hl : LV K sl (am_ML mi) ls) (hS : va_S (am_Fr K) s.heap H locs) (h : am_step d pc (.iload i, pc + 1, a, b, c0) ls st g fi fl = some (.inl (pc', ls', st', g', fi', fl'))) (kk : am_SK K mi p l e R s m args below meth c cells slots Q g pc' ls' st' g' fi' fl') : W p l e R s m args below meth c H locs cells slots Q (F0 m pc sl (st.map (vmp K))) := by
  unfold am_step at h
  dsimp only at h
  split at h
  · rename_i x hx
    cases h
    exact lv_iload_n C.1 C.2.1 hd hi (hl.2.2.2 _ _ hx) (kk.k0 hH hl hS)
  · cases h

theorem sr_lload {i : Nat} (C : am_CX K mi p s m args meth c) (hd : decode (am_B mi) pc = .ok (.lload i, 2)) (hH : HR K g fi fl H) (hl : LV K sl (am_ML mi) ls) (hS : va_S (am_Fr K) s.heap H locs) (h : am_step d pc (.lload i, pc + 2, a, b, c0) ls st g fi fl = some (.inl (pc', ls', st', g', fi', fl'))) (kk : am_SK K mi p l e R s m args below meth c cells slots Q g pc' ls' st' g' fi' fl') : W p l e R s m args below meth c H locs cells slots Q (F0 m pc sl (st.map (vmp K))) := by
  unfold am_step at h
  dsimp only at h
  split at h
  · rename_i x hx
    cases h
    exact lv_lload C.1 C.2.1 hd (hl.2.2.2 _ _ hx) (kk.k0 hH hl hS)
  · cases h

theorem sr_lload_n {i : Nat} {k : Fin 4} (C : am_CX K mi p s m args meth c) (hd : decode (am_B mi) pc = .ok (.lload_n k, 1)) (hi : (k : Nat) = i) (hH : HR K g fi fl H) (hl : LV K sl (am_ML mi) ls) (hS : va_S (am_Fr K) s.heap H locs) (h : am_step d pc (.lload i, pc + 1, a, b, c0) ls st g fi fl = some (.inl (pc', ls', st', g', fi', fl'))) (kk : am_SK K mi p l e R s m args below meth c cells slots Q g pc' ls' st' g' fi' fl') : W p l e R s m args below meth c H locs cells slots Q (F0 m pc sl (st.map (vmp K))) := by
  unfold am_step at h
  dsimp only at h
  split at h
  · rename_i x hx
    cases h
    exact lv_lload_n C.1 C.2.1 hd hi (hl.2.2.2 _ _ hx) (kk.k0 hH hl hS)
  · cases h

theorem sr_aload {i : Nat} (C : am_CX K mi p s m args meth c) (hd : decode (am_B mi) pc = .ok (.aload i, 2)) (hH : HR K g fi fl H) (hl : LV K sl (am_ML mi) ls) (hS : va_S (am_Fr K) s.heap H locs) (h : am_step d pc (.aload i, pc + 2, a, b, c0) ls st g fi fl = some (.inl (pc', ls', st', g', fi', fl'))) (kk : am_SK K mi p l e R s m args below meth c cells slots Q g pc' ls' st' g' fi' fl') : W p l e R s m args below meth c H locs cells slots Q (F0 m pc sl (st.map (vmp K))) := by
  unfold am_step at h
  dsimp only at h
  split at h
  · rename_i x hx
    cases h
    exact lv_aload C.1 C.2.1 hd (hl.2.2.2 _ _ hx) (kk.k0 hH hl hS)
  · rename_i hx
    cases h
    exact lv_aloadN C.1 C.2.1 hd (hl.2.2.2 _ _ hx) (kk.k0 hH hl hS)
  · rename_i x hx
    cases h
    have k1 := kk.k0 hH hl hS
    have hy := hl.2.2.2 _ _ hx
    rw [List.map_cons] at k1
    have e : vmp K (.retAddr x) = kS K x := rfl
    rw [e] at k1 hy
    rcases C.hk x with q | ⟨y, q⟩
    · rw [q] at k1 hy
      exact lv_aloadN C.1 C.2.1 hd hy k1
    · rw [q] at k1 hy
      exact lv_aload C.1 C.2.1 hd hy k1
  · cases h

theorem sr_aload_n {i : Nat} {k : Fin 4} (C : am_CX K mi p s m args meth c) (hd : decode (am_B mi) pc = .ok (.aload_n k, 1)) (hi : (k : Nat) = i) (hH : HR K g fi fl H) (hl : LV K sl (am_ML mi) ls) (hS : va_S (am_Fr K) s.heap H locs) (h : am_step d pc (.aload i, pc + 1, a, b, c0) ls st g fi fl = some (.inl (pc', ls', st', g', fi', fl'))) (kk : am_SK K mi p l e R s m args below meth c cells slots Q g pc' ls' st' g' fi' fl') : W p l e R s m args below meth c H locs cells slots Q (F0 m pc sl (st.map (vmp K))) := by
  unfold am_step at h
  dsimp only at h
  split at h
  · rename_i x hx
    cases h
    exact lv_aload_n C.1 C.2.1 hd hi (hl.2.2.2 _ _ hx) (kk.k0 hH hl hS)
  · rename_i hx
    cases h
    exact lv_aload_nN C.1 C.2.1 hd hi (hl.2.2.2 _ _ hx) (kk.k0 hH hl hS)
  · rename_i x hx
    cases h
    have k1 := kk.k0 hH hl hS
    have hy := hl.2.2.2 _ _ hx
    rw [List.map_cons] at k1
    have e : vmp K (.retAddr x) = kS K x := rfl
    rw [e] at k1 hy
    rcases C.hk x with q | ⟨y, q⟩
    · rw [q] at k1 hy
      exact lv_aload_nN C.1 C.2.1 hd hi hy k1
    · rw [q] at k1 hy
      exact lv_aload_n C.1 C.2.1 hd hi hy k1
  · cases h

theorem sr_istore {i : Nat} (C : am_CX K mi p s m args meth c) (hd : decode (am_B mi) pc = .ok (.istore i, 2)) (hH : HR K g fi fl H) (hl : LV K sl (am_ML mi) ls) (hS : va_S (am_Fr K) s.heap H locs) (h : am_step d pc (.istore i, pc + 2, a, b, c0) ls st g fi fl = some (.inl (pc', ls', st', g', fi', fl'))) (kk : am_SK K mi p l e R s m args below meth c cells slots Q g pc' ls' st' g' fi' fl') : W p l e R s m args below meth c H locs cells slots Q (F0 m pc sl (st.map (vmp K))) := by
  unfold am_step at h
  dsimp only at h
  split at h
  · rename_i x r
    split at h
    · rename_i hc
      cases h
      exact lv_istore C.1 C.2.1 hd hl.has (by rw [← hl.2.1]; exact hc.1) rfl (fun sl1 h1 => kk.k0 hH (LV.store1 (v := .int x) C.hk hl hc.2 h1) hS)
    · cases h
  · cases h

theorem sr_lstore {i : Nat} (C : am_CX K mi p s m args meth c) (hd : decode (am_B mi) pc = .ok (.lstore i, 2)) (hH : HR K g fi fl H) (hl : LV K sl (am_ML mi) ls) (hS : va_S (am_Fr K) s.heap H locs) (h : am_step d pc (.lstore i, pc + 2, a, b, c0) ls st g fi fl = some (.inl (pc', ls', st', g', fi', fl'))) (kk : am_SK K mi p l e R s m args below meth c cells slots Q g pc' ls' st' g' fi' fl') : W p l e R s m args below meth c H locs cells slots Q (F0 m pc sl (st.map (vmp K))) := by
  unfold am_step at h
  dsimp only at h
  split at h
  · rename_i x r
    split at h
    · rename_i hc
      cases h
      exact lv_lstore C.1 C.2.1 hd hl.has (by rw [← hl.2.1]; exact hc.1) rfl (fun sl1 h1 => kk.k0 hH (LV.store2 C.hk hl hc.2 h1) hS)
    · cases h
  · cases h

theorem sr_astore {i : Nat} (C : am_CX K mi p s m args meth c) (hd : decode (am_B mi) pc = .ok (.astore i, 2)) (hH : HR K g fi fl H) (hl : LV K sl (am_ML mi) ls) (hS : va_S (am_Fr K) s.heap H locs) (h : am_step d pc (.astore i, pc + 2, a, b, c0) ls st g fi fl = some (.inl (pc', ls', st', g', fi', fl'))) (kk : am_SK K mi p l e R s m args below meth c cells slots Q g pc' ls' st' g' fi' fl') : W p l e R s m args below meth c H locs cells slots Q (F0 m pc sl (st.map (vmp K))) := by
  unfold am_step at h
  dsimp only at h
  split at h
  · rename_i x r
    split at h
    · rename_i hc
      cases h
      exact lv_astore C.1 C.2.1 hd hl.has (by rw [← hl.2.1]; exact hc.1) rfl (fun sl1 h1 => kk.k0 hH (LV.store1 (v := .ref x) C.hk hl hc.2 h1) hS)
    · cases h
  · rename_i r
    split at h
    · rename_i hc
      cases h
      exact lv_astoreN C.1 C.2.1 hd hl.has (by rw [← hl.2.1]; exact hc.1) rfl (fun sl1 h1 => kk.k0 hH (LV.store1 (v := .null) C.hk hl hc.2 h1) hS)
    · cases h
  · rename_i x r
    split at h
    · rename_i hc
      cases h
      have ev : vmp K (.retAddr x) = kS K x := rfl
      have key : ∀ sl1 : Array Slot, lv_has sl1 (am_ML mi) ((i, kS K x) :: (am_lv K ls).filter (fun q => !(q.1 == i) && !(q.1 + 1 == i && q.2.category == 2))) → W p l e R s m args below meth c H locs cells slots Q (F0 m (pc + 2) sl1 (st'.map (vmp K))) := fun sl1 h1 => kk.k0 hH (LV.store1 (v := .retAddr x) C.hk hl hc.2.1 h1) hS
      rw [List.map_cons, ev]
      rcases C.hk x with q | ⟨y, q⟩
      · rw [q] at key ⊢
        exact lv_astoreN C.1 C.2.1 hd hl.has (by rw [← hl.2.1]; exact hc.1) rfl key
      · rw [q] at key ⊢
        exact lv_astore C.1 C.2.1 hd hl.has (by rw [← hl.2.1]; exact hc.1) rfl key
    · cases h
  · cases h

theorem sr_istore_n {i : Nat} {k : Fin 4} (C : am_CX K mi p s m args meth c) (hd : decode (am_B mi) pc = .ok (.istore_n k, 1)) (hi : (k : Nat) = i) (hH : HR K g fi fl H) (hl : LV K sl (am_ML mi) ls) (hS : va_S (am_Fr K) s.heap H locs) (h : am_step d pc (.istore i, pc + 1, a, b, c0) ls st g fi fl = some (.inl (pc', ls', st', g', fi', fl'))) (kk : am_SK K mi p l e R s m args below meth c cells slots Q g pc' ls' st' g' fi' fl') : W p l e R s m args below meth c H locs cells slots Q (F0 m pc sl (st.map (vmp K))) := by
  unfold am_step at h
  dsimp only at h
  split at h
  · rename_i x r
    split at h
    · rename_i hc
      cases h
      exact lv_istore_n C.1 C.2.1 hd hi hl.has (by rw [← hl.2.1]; exact hc.1) rfl (fun sl1 h1 => kk.k0 hH (LV.store1 (v := .int x) C.hk hl hc.2 h1) hS)
    · cases h
  · cases h

theorem sr_lstore_n {i : Nat} {k : Fin 4} (C : am_CX K mi p s m args meth c) (hd : decode (am_B mi) pc = .ok (.lstore_n k, 1)) (hi : (k : Nat) = i) (hH : HR K g fi fl H) (hl : LV K sl (am_ML mi) ls) (hS : va_S (am_Fr K) s.heap H locs) (h : am_step d pc (.lstore i, pc + 1, a, b, c0) ls st g fi fl = some (.inl (pc', ls', st', g', fi', fl'))) (kk : am_SK K mi p l e R s m args below meth c cells slots Q g pc' ls' st' g' fi' fl') : W p l e R s m args below meth c H locs cells slots Q (F0 m pc sl (st.map (vmp K))) := by
  unfold am_step at h
  dsimp only at h
  split at h
  · rename_i x r
    split at h
    · rename_i hc
      cases h
      exact lv_lstore_n C.1 C.2.1 hd hi hl.has (by rw [← hl.2.1]; exact hc.1) rfl (fun sl1 h1 => kk.k0 hH (LV.store2 C.hk hl hc.2 h1) hS)
    · cases h
  · cases h

theorem sr_astore_n {i : Nat} {k : Fin 4} (C : am_CX K mi p s m args meth c) (hd : decode (am_B mi) pc = .ok (.astore_n k, 1)) (hi : (k : Nat) = i) (hH : HR K g fi fl H) (hl : LV K sl (am_ML mi) ls) (hS : va_S (am_Fr K) s.heap H locs) (h : am_step d pc (.astore i, pc + 1, a, b, c0) ls st g fi fl = some (.inl (pc', ls', st', g', fi', fl'))) (kk : am_SK K mi p l e R s m args below meth c cells slots Q g pc' ls' st' g' fi' fl') : W p l e R s m args below meth c H locs cells slots Q (F0 m pc sl (st.map (vmp K))) := by
  unfold am_step at h
  dsimp only at h
  split at h
  · rename_i x r
    split at h
    · rename_i hc
      cases h
      exact lv_astore_n C.1 C.2.1 hd hi hl.has (by rw [← hl.2.1]; exact hc.1) rfl (fun sl1 h1 => kk.k0 hH (LV.store1 (v := .ref x) C.hk hl hc.2 h1) hS)
    · cases h
  · rename_i r
    split at h
    · rename_i hc
      cases h
      exact lv_astore_nN C.1 C.2.1 hd hi hl.has (by rw [← hl.2.1]; exact hc.1) rfl (fun sl1 h1 => kk.k0 hH (LV.store1 (v := .null) C.hk hl hc.2 h1) hS)
    · cases h
  · rename_i x r
    split at h
    · rename_i hc
      cases h
      have ev : vmp K (.retAddr x) = kS K x := rfl
      have key : ∀ sl1 : Array Slot, lv_has sl1 (am_ML mi) ((i, kS K x) :: (am_lv K ls).filter (fun q => !(q.1 == i) && !(q.1 + 1 == i && q.2.category == 2))) → W p l e R s m args below meth c H locs cells slots Q (F0 m (pc + 1) sl1 (st'.map (vmp K))) := fun sl1 h1 => kk.k0 hH (LV.store1 (v := .retAddr x) C.hk hl hc.2.1 h1) hS
      rw [List.map_cons, ev]
      rcases C.hk x with q | ⟨y, q⟩
      · rw [q] at key ⊢
        exact lv_astore_nN C.1 C.2.1 hd hi hl.has (by rw [← hl.2.1]; exact hc.1) rfl key
      · rw [q] at key ⊢
        exact lv_astore_n C.1 C.2.1 hd hi hl.has (by rw [← hl.2.1]; exact hc.1) rfl key
    · cases h
  · cases h

theorem sr_iinc {i : Nat} {v : Int} (C : am_CX K mi p s m args meth c) (hd : decode (am_B mi) pc = .ok (.iinc i v, 3)) (hH : HR K g fi fl H) (hl : LV K sl (am_ML mi) ls) (hS : va_S (am_Fr K) s.heap H locs) (h : am_step d pc (.iinc i v, pc + 3, a, b, c0) ls st g fi fl = some (.inl (pc', ls', st', g', fi', fl'))) (kk : am_SK K mi p l e R s m args below meth c cells slots Q g pc' ls' st' g' fi' fl') : W p l e R s m args below meth c H locs cells slots Q (F0 m pc sl (st.map (vmp K))) := by
  unfold am_step at h
  dsimp only at h
  split at h
  · rename_i x hx
    split at h
    · rename_i hc
      cases h
      obtain ⟨k, hk⟩ := List.getElem?_of_mem (am_lv_mem (K := K) hx)
      exact lv_iinc C.1 C.2.1 hd hl.has hk rfl (by rw [← hl.2.1]; exact (List.getElem?_eq_some_iff.mp hx).1) rfl (fun sl1 h1 => kk.k0 hH (LV.store1 (v := .int (x + Int32.ofInt v)) C.hk hl hc h1) hS)
    · cases h
  · cases h

theorem sr_dup (C : am_CX K mi p s m args meth c) (hd : decode (am_B mi) pc = .ok (.dup, 1)) (hH : HR K g fi fl H) (hl : LV K sl (am_ML mi) ls) (hS : va_S (am_Fr K) s.heap H locs) (h : am_step d pc (.dup, pc + 1, a, b, c0) ls st g fi fl = some (.inl (pc', ls', st', g', fi', fl'))) (kk : am_SK K mi p l e R s m args below meth c cells slots Q g pc' ls' st' g' fi' fl') : W p l e R s m args below meth c H locs cells slots Q (F0 m pc sl (st.map (vmp K))) := by
  unfold am_step at h
  dsimp only at h
  split at h
  · rename_i v r
    split at h
    · rename_i hc
      cases h
      exact lv_dup C.1 C.2.1 hd (by rw [vmp_cat C.hk]; exact hc) (kk.k0 hH hl hS)
    · cases h
  · cases h

theorem sr_dup2 (C : am_CX K mi p s m args meth c) (hd : decode (am_B mi) pc = .ok (.dup2, 1)) (hH : HR K g fi fl H) (hl : LV K sl (am_ML mi) ls) (hS : va_S (am_Fr K) s.heap H locs) (h : am_step d pc (.dup2, pc + 1, a, b, c0) ls st g fi fl = some (.inl (pc', ls', st', g', fi', fl'))) (kk : am_SK K mi p l e R s m args below meth c cells slots Q g pc' ls' st' g' fi' fl') : W p l e R s m args below meth c H locs cells slots Q (F0 m pc sl (st.map (vmp K))) := by
  unfold am_step at h
  dsimp only at h
  split at h
  · rename_i v w r
    split at h
    · rename_i hc
      cases h
      exact lv_dup2_11 C.1 C.2.1 hd (by rw [vmp_cat C.hk]; exact hc.1) (by rw [vmp_cat C.hk]; exact hc.2) (kk.k0 hH hl hS)
    · cases h
  · cases h

theorem sr_pop (C : am_CX K mi p s m args meth c) (hd : decode (am_B mi) pc = .ok (.pop, 1)) (hH : HR K g fi fl H) (hl : LV K sl (am_ML mi) ls) (hS : va_S (am_Fr K) s.heap H locs) (h : am_step d pc (.pop, pc + 1, a, b, c0) ls st g fi fl = some (.inl (pc', ls', st', g', fi', fl'))) (kk : am_SK K mi p l e R s m args below meth c cells slots Q g pc' ls' st' g' fi' fl') : W p l e R s m args below meth c H locs cells slots Q (F0 m pc sl (st.map (vmp K))) := by
  unfold am_step at h
  dsimp only at h
  split at h
  · rename_i v r
    split at h
    · rename_i hc
      cases h
      exact lv_pop C.1 C.2.1 hd (by rw [vmp_cat C.hk]; exact hc) (kk.k0 hH hl hS)
    · cases h
  · cases h

theorem sr_iadd (C : am_CX K mi p s m args meth c) (hd : decode (am_B mi) pc = .ok (.iadd, 1)) (hH : HR K g fi fl H) (hl : LV K sl (am_ML mi) ls) (hS : va_S (am_Fr K) s.heap H locs) (h : am_step d pc (.iadd, pc + 1, a, b, c0) ls st g fi fl = some (.inl (pc', ls', st', g', fi', fl'))) (kk : am_SK K mi p l e R s m args below meth c cells slots Q g pc' ls' st' g' fi' fl') : W p l e R s m args below meth c H locs cells slots Q (F0 m pc sl (st.map (vmp K))) := by
  unfold am_step at h
  dsimp only at h
  split at h
  · cases h
    exact lv_iadd C.1 C.2.1 hd (kk.k0 hH hl hS)
  · cases h

theorem sr_isub (C : am_CX K mi p s m args meth c) (hd : decode (am_B mi) pc = .ok (.isub, 1)) (hH : HR K g fi fl H) (hl : LV K sl (am_ML mi) ls) (hS : va_S (am_Fr K) s.heap H locs) (h : am_step d pc (.isub, pc + 1, a, b, c0) ls st g fi fl = some (.inl (pc', ls', st', g', fi', fl'))) (kk : am_SK K mi p l e R s m args below meth c cells slots Q g pc' ls' st' g' fi' fl') : W p l e R s m args below meth c H locs cells slots Q (F0 m pc sl (st.map (vmp K))) := by
  unfold am_step at h
  dsimp only at h
  split at h
  · cases h
    exact lv_isub C.1 C.2.1 hd (kk.k0 hH hl hS)
  · cases h

theorem sr_imul (C : am_CX K mi p s m args meth c) (hd : decode (am_B mi) pc = .ok (.imul, 1)) (hH : HR K g fi fl H) (hl : LV K sl (am_ML mi) ls) (hS : va_S (am_Fr K) s.heap H locs) (h : am_step d pc (.imul, pc + 1, a, b, c0) ls st g fi fl = some (.inl (pc', ls', st', g', fi', fl'))) (kk : am_SK K mi p l e R s m args below meth c cells slots Q g pc' ls' st' g' fi' fl') : W p l e R s m args below meth c H locs cells slots Q (F0 m pc sl (st.map (vmp K))) := by
  unfold am_step at h
  dsimp only at h
  split at h
  · cases h
    exact lv_imul C.1 C.2.1 hd (kk.k0 hH hl hS)
  · cases h

theorem sr_iand (C : am_CX K mi p s m args meth c) (hd : decode (am_B mi) pc = .ok (.iand, 1)) (hH : HR K g fi fl H) (hl : LV K sl (am_ML mi) ls) (hS : va_S (am_Fr K) s.heap H locs) (h : am_step d pc (.iand, pc + 1, a, b, c0) ls st g fi fl = some (.inl (pc', ls', st', g', fi', fl'))) (kk : am_SK K mi p l e R s m args below meth c cells slots Q g pc' ls' st' g' fi' fl') : W p l e R s m args below meth c H locs cells slots Q (F0 m pc sl (st.map (vmp K))) := by
  unfold am_step at h
  dsimp only at h
  split at h
  · cases h
    exact lv_iand C.1 C.2.1 hd (kk.k0 hH hl hS)
  · cases h

theorem sr_ior (C : am_CX K mi p s m args meth c) (hd : decode (am_B mi) pc = .ok (.ior, 1)) (hH : HR K g fi fl H) (hl : LV K sl (am_ML mi) ls) (hS : va_S (am_Fr K) s.heap H locs) (h : am_step d pc (.ior, pc + 1, a, b, c0) ls st g fi fl = some (.inl (pc', ls', st', g', fi', fl'))) (kk : am_SK K mi p l e R s m args below meth c cells slots Q g pc' ls' st' g' fi' fl') : W p l e R s m args below meth c H locs cells slots Q (F0 m pc sl (st.map (vmp K))) := by
  unfold am_step at h
  dsimp only at h
  split at h
  · cases h
    exact lv_ior C.1 C.2.1 hd (kk.k0 hH hl hS)
  · cases h

theorem sr_ixor (C : am_CX K mi p s m args meth c) (hd : decode (am_B mi) pc = .ok (.ixor, 1)) (hH : HR K g fi fl H) (hl : LV K sl (am_ML mi) ls) (hS : va_S (am_Fr K) s.heap H locs) (h : am_step d pc (.ixor, pc + 1, a, b, c0) ls st g fi fl = some (.inl (pc', ls', st', g', fi', fl'))) (kk : am_SK K mi p l e R s m args below meth c cells slots Q g pc' ls' st' g' fi' fl') : W p l e R s m args below meth c H locs cells slots Q (F0 m pc sl (st.map (vmp K))) := by
  unfold am_step at h
  dsimp only at h
  split at h
  · cases h
    exact lv_ixor C.1 C.2.1 hd (kk.k0 hH hl hS)
  · cases h

theorem sr_ishl (C : am_CX K mi p s m args meth c) (hd : decode (am_B mi) pc = .ok (.ishl, 1)) (hH : HR K g fi fl H) (hl : LV K sl (am_ML mi) ls) (hS : va_S (am_Fr K) s.heap H locs) (h : am_step d pc (.ishl, pc + 1, a, b, c0) ls st g fi fl = some (.inl (pc', ls', st', g', fi', fl'))) (kk : am_SK K mi p l e R s m args below meth c cells slots Q g pc' ls' st' g' fi' fl') : W p l e R s m args below meth c H locs cells slots Q (F0 m pc sl (st.map (vmp K))) := by
  unfold am_step at h
  dsimp only at h
  split at h
  · cases h
    exact lv_ishl C.1 C.2.1 hd (kk.k0 hH hl hS)
  · cases h

theorem sr_ishr (C : am_CX K mi p s m args meth c) (hd : decode (am_B mi) pc = .ok (.ishr, 1)) (hH : HR K g fi fl H) (hl : LV K sl (am_ML mi) ls) (hS : va_S (am_Fr K) s.heap H locs) (h : am_step d pc (.ishr, pc + 1, a, b, c0) ls st g fi fl = some (.inl (pc', ls', st', g', fi', fl'))) (kk : am_SK K mi p l e R s m args below meth c cells slots Q g pc' ls' st' g' fi' fl') : W p l e R s m args below meth c H locs cells slots Q (F0 m pc sl (st.map (vmp K))) := by
  unfold am_step at h
  dsimp only at h
  split at h
  · cases h
    exact lv_ishr C.1 C.2.1 hd (kk.k0 hH hl hS)
  · cases h

theorem sr_ineg (C : am_CX K mi p s m args meth c) (hd : decode (am_B mi) pc = .ok (.ineg, 1)) (hH : HR K g fi fl H) (hl : LV K sl (am_ML mi) ls) (hS : va_S (am_Fr K) s.heap H locs) (h : am_step d pc (.ineg, pc + 1, a, b, c0) ls st g fi fl = some (.inl (pc', ls', st', g', fi', fl'))) (kk : am_SK K mi p l e R s m args below meth c cells slots Q g pc' ls' st' g' fi' fl') : W p l e R s m args below meth c H locs cells slots Q (F0 m pc sl (st.map (vmp K))) := by
  unfold am_step at h
  dsimp only at h
  split at h
  · cases h
    exact lv_ineg C.1 C.2.1 hd (kk.k0 hH hl hS)
  · cases h

theorem sr_ladd (C : am_CX K mi p s m args meth c) (hd : decode (am_B mi) pc = .ok (.ladd, 1)) (hH : HR K g fi fl H) (hl : LV K sl (am_ML mi) ls) (hS : va_S (am_Fr K) s.heap H locs) (h : am_step d pc (.ladd, pc + 1, a, b, c0) ls st g fi fl = some (.inl (pc', ls', st', g', fi', fl'))) (kk : am_SK K mi p l e R s m args below meth c cells slots Q g pc' ls' st' g' fi' fl') : W p l e R s m args below meth c H locs cells slots Q (F0 m pc sl (st.map (vmp K))) := by
  unfold am_step at h
  dsimp only at h
  split at h
  · cases h
    exact lv_ladd C.1 C.2.1 hd (kk.k0 hH hl hS)
  · cases h

theorem sr_lmul (C : am_CX K mi p s m args meth c) (hd : decode (am_B mi) pc = .ok (.lmul, 1)) (hH : HR K g fi fl H) (hl : LV K sl (am_ML mi) ls) (hS : va_S (am_Fr K) s.heap H locs) (h : am_step d pc (.lmul, pc + 1, a, b, c0) ls st g fi fl = some (.inl (pc', ls', st', g', fi', fl'))) (kk : am_SK K mi p l e R s m args below meth c cells slots Q g pc' ls' st' g' fi' fl') : W p l e R s m args below meth c H locs cells slots Q (F0 m pc sl (st.map (vmp K))) := by
  unfold am_step at h
  dsimp only at h
  split at h
  · cases h
    exact lv_lmul C.1 C.2.1 hd (kk.k0 hH hl hS)
  · cases h

theorem sr_land (C : am_CX K mi p s m args meth c) (hd : decode (am_B mi) pc = .ok (.land, 1)) (hH : HR K g fi fl H) (hl : LV K sl (am_ML mi) ls) (hS : va_S (am_Fr K) s.heap H locs) (h : am_step d pc (.land, pc + 1, a, b, c0) ls st g fi fl = some (.inl (pc', ls', st', g', fi', fl'))) (kk : am_SK K mi p l e R s m args below meth c cells slots Q g pc' ls' st' g' fi' fl') : W p l e R s m args below meth c H locs cells slots Q (F0 m pc sl (st.map (vmp K))) := by
  unfold am_step at h
  dsimp only at h
  split at h
  · cases h
    exact lv_land C.1 C.2.1 hd (kk.k0 hH hl hS)
  · cases h

theorem sr_lor (C : am_CX K mi p s m args meth c) (hd : decode (am_B mi) pc = .ok (.lor, 1)) (hH : HR K g fi fl H) (hl : LV K sl (am_ML mi) ls) (hS : va_S (am_Fr K) s.heap H locs) (h : am_step d pc (.lor, pc + 1, a, b, c0) ls st g fi fl = some (.inl (pc', ls', st', g', fi', fl'))) (kk : am_SK K mi p l e R s m args below meth c cells slots Q g pc' ls' st' g' fi' fl') : W p l e R s m args below meth c H locs cells slots Q (F0 m pc sl (st.map (vmp K))) := by
  unfold am_step at h
  dsimp only at h
  split at h
  · cases h
    exact lv_lor C.1 C.2.1 hd (kk.k0 hH hl hS)
  · cases h

theorem sr_lshl (C : am_CX K mi p s m args meth c) (hd : decode (am_B mi) pc = .ok (.lshl, 1)) (hH : HR K g fi fl H) (hl : LV K sl (am_ML mi) ls) (hS : va_S (am_Fr K) s.heap H locs) (h : am_step d pc (.lshl, pc + 1, a, b, c0) ls st g fi fl = some (.inl (pc', ls', st', g', fi', fl'))) (kk : am_SK K mi p l e R s m args below meth c cells slots Q g pc' ls' st' g' fi' fl') : W p l e R s m args below meth c H locs cells slots Q (F0 m pc sl (st.map (vmp K))) := by
  unfold am_step at h
  dsimp only at h
  split at h
  · cases h
    exact lv_lshl C.1 C.2.1 hd rfl (kk.k0 hH hl hS)
  · cases h

theorem sr_i2l (C : am_CX K mi p s m args meth c) (hd : decode (am_B mi) pc = .ok (.i2l, 1)) (hH : HR K g fi fl H) (hl : LV K sl (am_ML mi) ls) (hS : va_S (am_Fr K) s.heap H locs) (h : am_step d pc (.i2l, pc + 1, a, b, c0) ls st g fi fl = some (.inl (pc', ls', st', g', fi', fl'))) (kk : am_SK K mi p l e R s m args below meth c cells slots Q g pc' ls' st' g' fi' fl') : W p l e R s m args below meth c H locs cells slots Q (F0 m pc sl (st.map (vmp K))) := by
  unfold am_step at h
  dsimp only at h
  split at h
  · cases h
    exact lv_i2l C.1 C.2.1 hd rfl (kk.k0 hH hl hS)
  · cases h

theorem sr_l2i (C : am_CX K mi p s m args meth c) (hd : decode (am_B mi) pc = .ok (.l2i, 1)) (hH : HR K g fi fl H) (hl : LV K sl (am_ML mi) ls) (hS : va_S (am_Fr K) s.heap H locs) (h : am_step d pc (.l2i, pc + 1, a, b, c0) ls st g fi fl = some (.inl (pc', ls', st', g', fi', fl'))) (kk : am_SK K mi p l e R s m args below meth c cells slots Q g pc' ls' st' g' fi' fl') : W p l e R s m args below meth c H locs cells slots Q (F0 m pc sl (st.map (vmp K))) := by
  unfold am_step at h
  dsimp only at h
  split at h
  · cases h
    exact lv_l2i C.1 C.2.1 hd rfl (kk.k0 hH hl hS)
  · cases h

theorem sr_i2b (C : am_CX K mi p s m args meth c) (hd : decode (am_B mi) pc = .ok (.i2b, 1)) (hH : HR K g fi fl H) (hl : LV K sl (am_ML mi) ls) (hS : va_S (am_Fr K) s.heap H locs) (h : am_step d pc (.i2b, pc + 1, a, b, c0) ls st g fi fl = some (.inl (pc', ls', st', g', fi', fl'))) (kk : am_SK K mi p l e R s m args below meth c cells slots Q g pc' ls' st' g' fi' fl') : W p l e R s m args below meth c H locs cells slots Q (F0 m pc sl (st.map (vmp K))) := by
  unfold am_step at h
  dsimp only at h
  split at h
  · cases h
    exact lv_i2b C.1 C.2.1 hd rfl (kk.k0 hH hl hS)
  · cases h

theorem sr_i2s (C : am_CX K mi p s m args meth c) (hd : decode (am_B mi) pc = .ok (.i2s, 1)) (hH : HR K g fi fl H) (hl : LV K sl (am_ML mi) ls) (hS : va_S (am_Fr K) s.heap H locs) (h : am_step d pc (.i2s, pc + 1, a, b, c0) ls st g fi fl = some (.inl (pc', ls', st', g', fi', fl'))) (kk : am_SK K mi p l e R s m args below meth c cells slots Q g pc' ls' st' g' fi' fl') : W p l e R s m args below meth c H locs cells slots Q (F0 m pc sl (st.map (vmp K))) := by
  unfold am_step at h
  dsimp only at h
  split at h
  · cases h
    exact lv_i2s C.1 C.2.1 hd rfl (kk.k0 hH hl hS)
  · cases h

theorem sr_i2c (C : am_CX K mi p s m args meth c) (hd : decode (am_B mi) pc = .ok (.i2c, 1)) (hH : HR K g fi fl H) (hl : LV K sl (am_ML mi) ls) (hS : va_S (am_Fr K) s.heap H locs) (h : am_step d pc (.i2c, pc + 1, a, b, c0) ls st g fi fl = some (.inl (pc', ls', st', g', fi', fl'))) (kk : am_SK K mi p l e R s m args below meth c cells slots Q g pc' ls' st' g' fi' fl') : W p l e R s m args below meth c H locs cells slots Q (F0 m pc sl (st.map (vmp K))) := by
  unfold am_step at h
  dsimp only at h
  split at h
  · cases h
    exact lv_i2c C.1 C.2.1 hd rfl (kk.k0 hH hl hS)
  · cases h

theorem sr_lcmp (C : am_CX K mi p s m args meth c) (hd : decode (am_B mi) pc = .ok (.lcmp, 1)) (hH : HR K g fi fl H) (hl : LV K sl (am_ML mi) ls) (hS : va_S (am_Fr K) s.heap H locs) (h : am_step d pc (.lcmp, pc + 1, a, b, c0) ls st g fi fl = some (.inl (pc', ls', st', g', fi', fl'))) (kk : am_SK K mi p l e R s m args below meth c cells slots Q g pc' ls' st' g' fi' fl') : W p l e R s m args below meth c H locs cells slots Q (F0 m pc sl (st.map (vmp K))) := by
  unfold am_step at h
  dsimp only at h
  split at h
  · cases h
    exact W.lcmp C.1 C.2.1 hd (kk.k0 hH hl hS)
  · cases h

theorem sr_idiv (C : am_CX K mi p s m args meth c) (hd : decode (am_B mi) pc = .ok (.idiv, 1)) (hH : HR K g fi fl H) (hl : LV K sl (am_ML mi) ls) (hS : va_S (am_Fr K) s.heap H locs) (h : am_step d pc (.idiv, pc + 1, a, b, c0) ls st g fi fl = some (.inl (pc', ls', st', g', fi', fl'))) (kk : am_SK K mi p l e R s m args below meth c cells slots Q g pc' ls' st' g' fi' fl') : W p l e R s m args below meth c H locs cells slots Q (F0 m pc sl (st.map (vmp K))) := by
  unfold am_step at h
  dsimp only at h
  split at h
  · split at h
    · cases h
    · rename_i hz
      cases h
      exact lv_idiv C.1 C.2.1 hd hz (kk.k0 hH hl hS)
  · cases h

theorem sr_irem (C : am_CX K mi p s m args meth c) (hd : decode (am_B mi) pc = .ok (.irem, 1)) (hH : HR K g fi fl H) (hl : LV K sl (am_ML mi) ls) (hS : va_S (am_Fr K) s.heap H locs) (h : am_step d pc (.irem, pc + 1, a, b, c0) ls st g fi fl = some (.inl (pc', ls', st', g', fi', fl'))) (kk : am_SK K mi p l e R s m args below meth c cells slots Q g pc' ls' st' g' fi' fl') : W p l e R s m args below meth c H locs cells slots Q (F0 m pc sl (st.map (vmp K))) := by
  unfold am_step at h
  dsimp only at h
  split at h
  · split at h
    · cases h
    · rename_i hz
      cases h
      exact lv_irem C.1 C.2.1 hd hz (kk.k0 hH hl hS)
  · cases h

theorem sr_ldiv (C : am_CX K mi p s m args meth c) (hd : decode (am_B mi) pc = .ok (.ldiv, 1)) (hH : HR K g fi fl H) (hl : LV K sl (am_ML mi) ls) (hS : va_S (am_Fr K) s.heap H locs) (h : am_step d pc (.ldiv, pc + 1, a, b, c0) ls st g fi fl = some (.inl (pc', ls', st', g', fi', fl'))) (kk : am_SK K mi p l e R s m args below meth c cells slots Q g pc' ls' st' g' fi' fl') : W p l e R s m args below meth c H locs cells slots Q (F0 m pc sl (st.map (vmp K))) := by
  unfold am_step at h
  dsimp only at h
  split at h
  · split at h
    · cases h
    · rename_i hz
      cases h
      exact lv_ldiv C.1 C.2.1 hd hz (kk.k0 hH hl hS)
  · cases h

theorem sr_lrem (C : am_CX K mi p s m args meth c) (hd : decode (am_B mi) pc = .ok (.lrem, 1)) (hH : HR K g fi fl H) (hl : LV K sl (am_ML mi) ls) (hS : va_S (am_Fr K) s.heap H locs) (h : am_step d pc (.lrem, pc + 1, a, b, c0) ls st g fi fl = some (.inl (pc', ls', st', g', fi', fl'))) (kk : am_SK K mi p l e R s m args below meth c cells slots Q g pc' ls' st' g' fi' fl') : W p l e R s m args below meth c H locs cells slots Q (F0 m pc sl (st.map (vmp K))) := by
  unfold am_step at h
  dsimp only at h
  split at h
  · split at h
    · cases h
    · rename_i hz
      cases h
      exact lv_lrem C.1 C.2.1 hd hz (kk.k0 hH hl hS)
  · cases h

theorem sr_ifCond {cd : ClassFile.Cond} {off : Int} (C : am_CX K mi p s m args meth c) (hd : decode (am_B mi) pc = .ok (.ifCond cd off, 3)) (ht : (pc : Int) + off = (a : Int)) (hH : HR K g fi fl H) (hl : LV K sl (am_ML mi) ls) (hS : va_S (am_Fr K) s.heap H locs) (h : am_step d pc (.ifCond cd off, pc + 3, a, b, c0) ls st g fi fl = some (.inl (pc', ls', st', g', fi', fl'))) (kk : am_SK K mi p l e R s m args below meth c cells slots Q g pc' ls' st' g' fi' fl') : W p l e R s m args below meth c H locs cells slots Q (F0 m pc sl (st.map (vmp K))) := by
  unfold am_step at h
  dsimp only at h
  split at h
  · split at h
    · rename_i hc
      cases h
      have k := kk.k0 hH hl hS
      cases cd <;> simp only [am_cmp, beq_iff_eq, Bool.not_eq_true', beq_eq_false_iff_ne, ne_eq, decide_eq_true_eq] at hc
      · exact lv_if_eq C.1 C.2.1 hd ht (fun _ => k) (fun q => absurd hc q)
      · exact lv_if_ne C.1 C.2.1 hd ht (fun _ => k) (fun q => absurd q hc)
      · exact lv_if_lt C.1 C.2.1 hd ht (fun _ => k) (fun q => absurd hc q)
      · exact lv_if_ge C.1 C.2.1 hd ht (fun _ => k) (fun q => absurd hc q)
      · exact lv_if_gt C.1 C.2.1 hd ht (fun _ => k) (fun q => absurd hc q)
      · exact lv_if_le C.1 C.2.1 hd ht (fun _ => k) (fun q => absurd hc q)
    · rename_i hc
      cases h
      have k := kk.k0 hH hl hS
      cases cd <;> simp only [am_cmp, beq_iff_eq, Bool.not_eq_true', beq_eq_false_iff_ne, ne_eq, decide_eq_true_eq] at hc
      · exact lv_if_eq C.1 C.2.1 hd ht (fun q => absurd q hc) (fun _ => k)
      · exact lv_if_ne C.1 C.2.1 hd ht (fun q => absurd q hc) (fun _ => k)
      · exact lv_if_lt C.1 C.2.1 hd ht (fun q => absurd q hc) (fun _ => k)
      · exact lv_if_ge C.1 C.2.1 hd ht (fun q => absurd q hc) (fun _ => k)
      · exact lv_if_gt C.1 C.2.1 hd ht (fun q => absurd q hc) (fun _ => k)
      · exact lv_if_le C.1 C.2.1 hd ht (fun q => absurd q hc) (fun _ => k)
  · cases h

theorem sr_if_icmp {cd : ClassFile.Cond} {off : Int} (C : am_CX K mi p s m args meth c) (hd : decode (am_B mi) pc = .ok (.if_icmp cd off, 3)) (ht : (pc : Int) + off = (a : Int)) (hH : HR K g fi fl H) (hl : LV K sl (am_ML mi) ls) (hS : va_S (am_Fr K) s.heap H locs) (h : am_step d pc (.if_icmp cd off, pc + 3, a, b, c0) ls st g fi fl = some (.inl (pc', ls', st', g', fi', fl'))) (kk : am_SK K mi p l e R s m args below meth c cells slots Q g pc' ls' st' g' fi' fl') : W p l e R s m args below meth c H locs cells slots Q (F0 m pc sl (st.map (vmp K))) := by
  unfold am_step at h
  dsimp only at h
  split at h
  · split at h
    · rename_i hc
      cases h
      have k := kk.k0 hH hl hS
      cases cd <;> simp only [am_cmp, beq_iff_eq, Bool.not_eq_true', beq_eq_false_iff_ne, ne_eq, decide_eq_true_eq] at hc
      · exact lv_icmp_eq C.1 C.2.1 hd ht (fun _ => k) (fun q => absurd hc q)
      · exact lv_icmp_ne C.1 C.2.1 hd ht (fun _ => k) (fun q => absurd q hc)
      · exact lv_icmp_lt C.1 C.2.1 hd ht (fun _ => k) (fun q => absurd hc q)
      · exact lv_icmp_ge C.1 C.2.1 hd ht (fun _ => k) (fun q => absurd hc q)
      · exact lv_icmp_gt C.1 C.2.1 hd ht (fun _ => k) (fun q => absurd hc q)
      · exact lv_icmp_le C.1 C.2.1 hd ht (fun _ => k) (fun q => absurd hc q)
    · rename_i hc
      cases h
      have k := kk.k0 hH hl hS
      cases cd <;> simp only [am_cmp, beq_iff_eq, Bool.not_eq_true', beq_eq_false_iff_ne, ne_eq, decide_eq_true_eq] at hc
      · exact lv_icmp_eq C.1 C.2.1 hd ht (fun q => absurd q hc) (fun _ => k)
      · exact lv_icmp_ne C.1 C.2.1 hd ht (fun q => absurd q hc) (fun _ => k)
      · exact lv_icmp_lt C.1 C.2.1 hd ht (fun q => absurd q hc) (fun _ => k)
      · exact lv_icmp_ge C.1 C.2.1 hd ht (fun q => absurd q hc) (fun _ => k)
      · exact lv_icmp_gt C.1 C.2.1 hd ht (fun q => absurd q hc) (fun _ => k)
      · exact lv_icmp_le C.1 C.2.1 hd ht (fun q => absurd q hc) (fun _ => k)
  · cases h

theorem sr_ifnull {off : Int} (C : am_CX K mi p s m args meth c) (hd : decode (am_B mi) pc = .ok (.ifnull off, 3)) (ht : (pc : Int) + off = (a : Int)) (hH : HR K g fi fl H) (hl : LV K sl (am_ML mi) ls) (hS : va_S (am_Fr K) s.heap H locs) (h : am_step d pc (.ifnull off, pc + 3, a, b, c0) ls st g fi fl = some (.inl (pc', ls', st', g', fi', fl'))) (kk : am_SK K mi p l e R s m args below meth c cells slots Q g pc' ls' st' g' fi' fl') : W p l e R s m args below meth c H locs cells slots Q (F0 m pc sl (st.map (vmp K))) := by
  unfold am_step at h
  dsimp only at h
  split at h
  · cases h
    exact lv_ifnull C.1 C.2.1 hd (kk.k0 hH hl hS)
  · cases h
    exact lv_ifnullN C.1 C.2.1 hd ht (kk.k0 hH hl hS)
  · cases h

theorem sr_ifnonnull {off : Int} (C : am_CX K mi p s m args meth c) (hd : decode (am_B mi) pc = .ok (.ifnonnull off, 3)) (ht : (pc : Int) + off = (a : Int)) (hH : HR K g fi fl H) (hl : LV K sl (am_ML mi) ls) (hS : va_S (am_Fr K) s.heap H locs) (h : am_step d pc (.ifnonnull off, pc + 3, a, b, c0) ls st g fi fl = some (.inl (pc', ls', st', g', fi', fl'))) (kk : am_SK K mi p l e R s m args below meth c cells slots Q g pc' ls' st' g' fi' fl') : W p l e R s m args below meth c H locs cells slots Q (F0 m pc sl (st.map (vmp K))) := by
  unfold am_step at h
  dsimp only at h
  split at h
  · cases h
    exact lv_ifnonnull C.1 C.2.1 hd ht (kk.k0 hH hl hS)
  · cases h
    exact lv_ifnonnullN C.1 C.2.1 hd (kk.k0 hH hl hS)
  · cases h

theorem sr_goto {off : Int} (C : am_CX K mi p s m args meth c) (hd : decode (am_B mi) pc = .ok (.goto off, 3)) (ht : (pc : Int) + off = (a : Int)) (hH : HR K g fi fl H) (hl : LV K sl (am_ML mi) ls) (hS : va_S (am_Fr K) s.heap H locs) (h : am_step d pc (.goto off, pc + 3, a, b, c0) ls st g fi fl = some (.inl (pc', ls', st', g', fi', fl'))) (kk : am_SK K mi p l e R s m args below meth c cells slots Q g pc' ls' st' g' fi' fl') : W p l e R s m args below meth c H locs cells slots Q (F0 m pc sl (st.map (vmp K))) := by
  unfold am_step at h
  dsimp only at h
  cases h
  exact lv_goto C.1 C.2.1 hd ht (kk.k0 hH hl hS)
end AMS
