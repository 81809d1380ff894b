section AMY
variable {K : am_C} {mi d pc n a b c0 : Nat} {ls ls' : List (Option Value)} {st st' : List Value} {g g' : am_G} {fi fi' : am_I} {fl fl' : am_L} {pc' : Nat} {sl : Array Slot}
variable {p : Program} {l : Launch} {e : Env} {R : Room} {s : State} {m : MethodId} {args : Array Value} {below : List Frame} {meth : Method} {c : Code} {H : Heap} {locs : List Loc} {cells slots : Nat} {Q : State → Prop}
theorem HR.ai {K : am_C} (hH : HR K g fi fl H) {q : Nat} (ht : g.1 q = 20 ∨ g.1 q = 22 ∨ g.1 q = 23) : va_at (kD K) vwCl (kB K + q, .inl (kT K (g.1 q), g.2.1 q, .inl (fi q))) H := by
  have h := hH.at' (i := q) (by omega)
  rwa [am_ce_i ht] at h
theorem HR.al {K : am_C} (hH : HR K g fi fl H) {q : Nat} (ht : g.1 q = 21) : va_at (kD K) vwCl (kB K + q, .inl (kT K 21, g.2.1 q, .inr (.inl (fl q)))) H := by
  have h := hH.at' (i := q) (by omega)
  rwa [am_ce_l ht] at h
theorem HR.aq {K : am_C} (hH : HR K g fi fl H) {q : Nat} (ht : 24 ≤ g.1 q) (h9 : g.1 q ≠ 99) : va_at (kD K) vwCl (kB K + q, .inl (kT K (g.1 q), g.2.1 q, .inr (.inr (.inr (.inr (fun j => am_ro K (g.2.2.1 q j))))))) H := by
  have h := hH.at' (i := q) h9
  rwa [am_ce_q ht] at h
theorem HR.tag {K : am_C} (hH : HR K g fi fl H) {q : Nat} (h9 : g.1 q ≠ 99) : g.1 q < 13 ∨ (20 ≤ g.1 q ∧ g.1 q ≤ 27) := (hH.2.2.1 q (hH.lt h9)).2
theorem sr_alen (C : am_CX K mi p s m args meth c) (hd : decode (am_B mi) pc = .ok (.arraylength, 1)) (hH : HR K g fi fl H) (hl : LV K sl (am_ML mi) ls) (hS : va_S (am_Fr K) s.heap H locs) (h : am_step d pc (.arraylength, pc + 1, a, b, c0) ls st g fi fl = some (.inl (pc', ls', st', g', fi', fl'))) (kk : am_SK K mi p l e R s m args below meth c cells slots Q g pc' ls' st' g' fi' fl') : W p l e R s m args below meth c H locs cells slots Q (F0 m pc sl (st.map (vmp K))) := by
  unfold am_step at h
  dsimp only at h
  have hK := C.kf.1
  split at h
  · rename_i q r
    split at h
    · rename_i hs
      cases h
      have k := kk.k0 hH hl hS
      rcases (show g.1 q = 21 ∨ (g.1 q = 20 ∨ g.1 q = 22 ∨ g.1 q = 23) ∨ 24 ≤ g.1 q by omega) with ht | ht | ht
      · exact va_alen C.1 C.2.1 hK (va_P1 (hH.al ht)) 0 1 rfl (ty := .long) rfl rfl hd k
      · obtain ⟨ty, h1, -⟩ := am_tysI (K := K) ht
        exact va_alen C.1 C.2.1 hK (va_P1 (hH.ai ht)) 0 _ rfl h1 rfl hd k
      · have hx : ∃ ty, (am_tys K)[g.1 q - 20]? = some (kT K (g.1 q), ty) := by
          rcases (show g.1 q = 24 ∨ g.1 q = 25 ∨ g.1 q = 26 ∨ g.1 q = 27 by omega) with t | t | t | t <;> rw [t] <;> exact ⟨_, rfl⟩
        obtain ⟨ty, h1⟩ := hx
        exact va_alen C.1 C.2.1 hK (va_P1 (hH.aq ht (by omega))) 0 _ rfl h1 rfl hd k
    · cases h
  · rename_i kq r
    split at h
    · rename_i hs
      subst hs
      cases h
      have k := kk.k0 hH hl hS
      have e0 : vmp K (.retAddr 0) = .ref (kb K) := C.kf.2.2.2.2.2.2.2.2.2.2.2.1
      rw [List.map_cons, e0]
      have hx := C.kf.2.2.2.2.2.2.1.2.2.2
      rw [hH.2.2.2.2.1] at k
      exact va_slen C.1 C.2.1 hx.1 hx.2 (show ¬ kB K ≤ kb K by have := C.kf.2.2.2.2.2.2.2.2.1; omega) hS hd k
    · split at h
      · rename_i hs
        cases h
        have k := kk.k0 hH hl hS
        obtain ⟨j, rfl⟩ : ∃ j, kq = j + 101 := ⟨kq - 101, by omega⟩
        have hsp := (C.kf.2.2.2.2.2.2.2.2.2.2.2.2 j (by omega)).2
        have hvs := ((C.kf.2.2.2.2.2.2.1.1.1) j (by omega)).2.2.2
        have e0 : vmp K (.retAddr (j + 101)) = .ref (kV K j) := hsp
        rw [List.map_cons, e0]
        rw [show j + 101 - 101 = j by omega] at k
        refine va_tlen C.1 C.2.1 hvs hS ?_ hd k
        rcases (show j = 0 ∨ j = 1 ∨ j = 2 ∨ j = 3 ∨ j = 4 by omega) with rfl | rfl | rfl | rfl | rfl <;> rfl
      · cases h
  · cases h
theorem sr_iald (C : am_CX K mi p s m args meth c) (hd : decode (am_B mi) pc = .ok (.iaload, 1)) (hH : HR K g fi fl H) (hl : LV K sl (am_ML mi) ls) (hS : va_S (am_Fr K) s.heap H locs) (h : am_step d pc (.iaload, pc + 1, a, b, c0) ls st g fi fl = some (.inl (pc', ls', st', g', fi', fl'))) (kk : am_SK K mi p l e R s m args below meth c cells slots Q g pc' ls' st' g' fi' fl') : W p l e R s m args below meth c H locs cells slots Q (F0 m pc sl (st.map (vmp K))) := by
  unfold am_step at h
  dsimp only at h
  split at h
  · rename_i i q r
    split at h
    · rename_i hs
      cases h
      have k := kk.k0 hH hl hS
      have hat := hH.ai (q := q) (Or.inl hs.1)
      rw [hs.1] at hat
      exact va_iald C.1 C.2.1 C.kf.1 (va_P1 hat) 0 0 rfl rfl (am_in_vp hs.2) hd k
    · cases h
  · rename_i i kq r
    split at h
    · rename_i hs
      obtain ⟨rfl, hi⟩ := hs
      cases h
      have k := kk.k0 hH hl hS
      have e0 : vmp K (.retAddr 0) = .ref (kb K) := C.kf.2.2.2.2.2.2.2.2.2.2.2.1
      rw [List.map_cons, List.map_cons, e0]
      have hx := C.kf.2.2.2.2.2.2.1.2.2.2
      rw [hH.2.2.2.2.1] at hi
      rw [hH.2.2.2.2.2 _ (am_in_lt hi)] at k
      exact va_sld C.1 C.2.1 hx.1 hx.2 (show ¬ kB K ≤ kb K by have := C.kf.2.2.2.2.2.2.2.2.1; omega) hS (am_in_vp hi) hd k
    · cases h
  · cases h
theorem sr_bald (C : am_CX K mi p s m args meth c) (hd : decode (am_B mi) pc = .ok (.baload, 1)) (hH : HR K g fi fl H) (hl : LV K sl (am_ML mi) ls) (hS : va_S (am_Fr K) s.heap H locs) (h : am_step d pc (.baload, pc + 1, a, b, c0) ls st g fi fl = some (.inl (pc', ls', st', g', fi', fl'))) (kk : am_SK K mi p l e R s m args below meth c cells slots Q g pc' ls' st' g' fi' fl') : W p l e R s m args below meth c H locs cells slots Q (F0 m pc sl (st.map (vmp K))) := by
  unfold am_step at h
  dsimp only at h
  split at h
  · rename_i i q r
    split at h
    · rename_i hs
      cases h
      have k := kk.k0 hH hl hS
      have hat := hH.ai (q := q) (Or.inr hs.1)
      rcases hs.1 with ht | ht
      · rw [ht] at hat
        exact va_bald C.1 C.2.1 C.kf.1 (va_P1 hat) 0 2 rfl rfl (am_in_vp hs.2) hd k
      · rw [ht] at hat
        exact va_zald C.1 C.2.1 C.kf.1 (va_P1 hat) 0 3 rfl rfl (am_in_vp hs.2) hd k
    · cases h
  · rename_i i kq r
    split at h
    · rename_i hs
      obtain ⟨h1, h2, hi⟩ := hs
      cases h
      have k := kk.k0 hH hl hS
      obtain ⟨j, rfl⟩ : ∃ j, kq = j + 101 := ⟨kq - 101, by omega⟩
      have hsp := (C.kf.2.2.2.2.2.2.2.2.2.2.2.2 j (by omega)).2
      have hvs := ((C.kf.2.2.2.2.2.2.1.1.1) j (by omega)).2.2.2
      have e0 : vmp K (.retAddr (j + 101)) = .ref (kV K j) := hsp
      rw [List.map_cons, List.map_cons, e0]
      rw [show j + 101 - 101 = j by omega] at k hi
      have el : (am_str.map List.length).getD j 0 = (am_str.getD j []).length := by
        rcases (show j = 0 ∨ j = 1 ∨ j = 2 ∨ j = 3 ∨ j = 4 by omega) with rfl | rfl | rfl | rfl | rfl <;> rfl
      rw [el] at hvs
      exact va_tb C.1 C.2.1 hvs hS (am_in_vp hi) rfl hd k
    · cases h
  · cases h
theorem sr_lald (C : am_CX K mi p s m args meth c) (hd : decode (am_B mi) pc = .ok (.laload, 1)) (hH : HR K g fi fl H) (hl : LV K sl (am_ML mi) ls) (hS : va_S (am_Fr K) s.heap H locs) (h : am_step d pc (.laload, pc + 1, a, b, c0) ls st g fi fl = some (.inl (pc', ls', st', g', fi', fl'))) (kk : am_SK K mi p l e R s m args below meth c cells slots Q g pc' ls' st' g' fi' fl') : W p l e R s m args below meth c H locs cells slots Q (F0 m pc sl (st.map (vmp K))) := by
  unfold am_step at h
  dsimp only at h
  split at h
  · rename_i i q r
    split at h
    · rename_i hs
      cases h
      exact va_lald C.1 C.2.1 C.kf.1 (va_P1 (hH.al hs.1)) 0 1 rfl rfl (am_in_vp hs.2) hd (kk.k0 hH hl hS)
    · cases h
  · cases h
theorem sr_aald (C : am_CX K mi p s m args meth c) (hd : decode (am_B mi) pc = .ok (.aaload, 1)) (hH : HR K g fi fl H) (hl : LV K sl (am_ML mi) ls) (hS : va_S (am_Fr K) s.heap H locs) (h : am_step d pc (.aaload, pc + 1, a, b, c0) ls st g fi fl = some (.inl (pc', ls', st', g', fi', fl'))) (kk : am_SK K mi p l e R s m args below meth c cells slots Q g pc' ls' st' g' fi' fl') : W p l e R s m args below meth c H locs cells slots Q (F0 m pc sl (st.map (vmp K))) := by
  unfold am_step at h
  dsimp only at h
  split at h
  · rename_i i q r
    split at h
    · rename_i hs
      cases h
      have k := kk.k0 hH hl hS
      rw [List.map_cons, vmp_rv] at k
      have hat := hH.aq hs.1 (by omega)
      have hx : ∃ ty, (am_tys K)[g.1 q - 20]? = some (kT K (g.1 q), ty) ∧ ty.isReference = true := by
        rcases (show g.1 q = 24 ∨ g.1 q = 25 ∨ g.1 q = 26 ∨ g.1 q = 27 by omega) with t | t | t | t <;> rw [t] <;> exact ⟨_, rfl, rfl⟩
      obtain ⟨ty, h1, h2⟩ := hx
      have hin := am_in_vp hs.2.2
      exact W.aald (v := va_rf (am_ro K (g.2.2.1 q i.toNatClampNeg))) (ty := ty) C.1 C.2.1 hat ((C.kf.1.2 _ _ h1).1 (g.2.1 q) (fun j => va_rf (am_ro K (g.2.2.1 q j)))) h2 (fun q => by cases q) (by show ¬ (i < 0 ∨ (arrV _ _ _).slots.size ≤ _); rw [arrV_size]; exact hin) (by show (arrV _ _ _).slots[_]? = _; rw [arrV_read _ _ (am_in_lt hs.2.2)]) rfl rfl hd k
    · cases h
  · cases h
theorem am_celli {cA : ClassId} {n k : Nat} {f f' : Nat → Int32} {x : Int32} (h : ∀ j, f' j = if j = k then x else f j) : (vp_cell cA (n, .inl f)).setSlot k (.int x) = vp_cell cA (n, .inl f') := by
  rw [vp_cell_i, vp_cell_i, arrV_store]
  congr 1
  funext j
  show (if j = k then _ else _) = _
  rw [h]
  split <;> rfl
theorem am_celll {cA : ClassId} {n k : Nat} {f f' : Nat → Int64} {x : Int64} (h : ∀ j, f' j = if j = k then x else f j) : (vp_cell cA (n, .inr (.inl f))).setSlot k (.long x) = vp_cell cA (n, .inr (.inl f')) := by
  rw [vp_cell_l, vp_cell_l, arrV_store]
  congr 1
  funext j
  show (if j = k then _ else _) = _
  rw [h]
  split <;> rfl
theorem am_cellq {cA : ClassId} {n k : Nat} {f f' : Nat → Option Nat} {x : Option Nat} (h : ∀ j, f' j = if j = k then x else f j) : (vp_cell cA (n, .inr (.inr (.inr (.inr f))))).setSlot k (va_rf x) = vp_cell cA (n, .inr (.inr (.inr (.inr f')))) := by
  rw [vp_cell_q, vp_cell_q, arrV_store]
  congr 1
  funext j
  show (if j = k then _ else _) = _
  rw [h]
  split <;> rfl
theorem up2_at {α : Type} {f : Nat → Nat → α} {a k : Nat} {x : α} (j : Nat) : up2 f a k x a j = if j = k then x else f a j := by
  unfold up2
  by_cases h : j = k
  · rw [if_pos ⟨rfl, h⟩, if_pos h]
  · rw [if_neg (fun q => h q.2), if_neg h]
theorem sr_iast (C : am_CX K mi p s m args meth c) (hd : decode (am_B mi) pc = .ok (.iastore, 1)) (hH : HR K g fi fl H) (hl : LV K sl (am_ML mi) ls) (hS : va_S (am_Fr K) s.heap H locs) (h : am_step d pc (.iastore, pc + 1, a, b, c0) ls st g fi fl = some (.inl (pc', ls', st', g', fi', fl'))) (kk : am_SK K mi p l e R s m args below meth c cells slots Q g pc' ls' st' g' fi' fl') : W p l e R s m args below meth c H locs cells slots Q (F0 m pc sl (st.map (vmp K))) := by
  unfold am_step at h
  dsimp only at h
  split at h
  · rename_i x i q r
    split at h
    · rename_i hs
      cases h
      have ht : g.1 q = 20 ∨ g.1 q = 22 ∨ g.1 q = 23 := Or.inl hs.1
      have hat := hH.ai (q := q) ht
      have hat1 := hat
      rw [hs.1] at hat1
      have hin := am_in_vp hs.2
      refine W.iast C.1 C.2.1 hat1 ((C.kf.1.2 0 (kT K 20, .int) rfl).1 (g.2.1 q) (fun j => .int (fi q j))) (fun q => by cases q) (by show ¬ (i < 0 ∨ (arrV _ _ _).slots.size ≤ _); rw [arrV_size]; exact hin) rfl rfl hd fun H1 ee z oq => ?_
      refine kk.k0 (hH.setI (by omega) z oq ?_) hl (hS.put z oq (show kB K ≤ kB K + q by omega))
      rw [am_ce_i ht, hs.1]
      show H1[kB K + q]? = some (vp_cell _ _)
      rw [ee]
      exact congrArg some (am_celli (fun j => up2_at j))
    · cases h
  · cases h
theorem sr_bast (C : am_CX K mi p s m args meth c) (hd : decode (am_B mi) pc = .ok (.bastore, 1)) (hH : HR K g fi fl H) (hl : LV K sl (am_ML mi) ls) (hS : va_S (am_Fr K) s.heap H locs) (h : am_step d pc (.bastore, pc + 1, a, b, c0) ls st g fi fl = some (.inl (pc', ls', st', g', fi', fl'))) (kk : am_SK K mi p l e R s m args below meth c cells slots Q g pc' ls' st' g' fi' fl') : W p l e R s m args below meth c H locs cells slots Q (F0 m pc sl (st.map (vmp K))) := by
  unfold am_step at h
  dsimp only at h
  split at h
  · rename_i x i q r
    split at h
    · rename_i hi
      have hin := am_in_vp hi
      split at h
      · rename_i hs
        cases h
        have ht : g.1 q = 20 ∨ g.1 q = 22 ∨ g.1 q = 23 := Or.inr (Or.inl hs)
        have hat1 := hH.ai (q := q) ht
        rw [hs] at hat1
        refine W.bast C.1 C.2.1 hat1 ((C.kf.1.2 2 (kT K 22, .byte) rfl).1 (g.2.1 q) (fun j => .int (fi q j))) (fun q => by cases q) (by show ¬ (i < 0 ∨ (arrV _ _ _).slots.size ≤ _); rw [arrV_size]; exact hin) rfl rfl hd fun H1 ee z oq => ?_
        refine kk.k0 (hH.setI (by omega) z oq ?_) hl (hS.put z oq (show kB K ≤ kB K + q by omega))
        rw [am_ce_i ht, hs]
        show H1[kB K + q]? = some (vp_cell _ _)
        rw [ee]
        exact congrArg some (am_celli (x := x.toInt8.toInt32) (fun j => up2_at j))
      · split at h
        · rename_i hs
          cases h
          have ht : g.1 q = 20 ∨ g.1 q = 22 ∨ g.1 q = 23 := Or.inr (Or.inr hs.1)
          have hat1 := hH.ai (q := q) ht
          rw [hs.1] at hat1
          refine W.zast C.1 C.2.1 hat1 ((C.kf.1.2 3 (kT K 23, .boolean) rfl).1 (g.2.1 q) (fun j => .int (fi q j))) (fun q => by cases q) (by show ¬ (i < 0 ∨ (arrV _ _ _).slots.size ≤ _); rw [arrV_size]; exact hin) rfl rfl hd fun H1 ee z oq => ?_
          rw [(am_bitOk hs.2).1] at ee
          refine kk.k0 (hH.setI (by omega) z oq ?_) hl (hS.put z oq (show kB K ≤ kB K + q by omega))
          rw [am_ce_i ht, hs.1]
          show H1[kB K + q]? = some (vp_cell _ _)
          rw [ee]
          exact congrArg some (am_celli (fun j => up2_at j))
        · cases h
    · cases h
  · cases h
theorem sr_last (C : am_CX K mi p s m args meth c) (hd : decode (am_B mi) pc = .ok (.lastore, 1)) (hH : HR K g fi fl H) (hl : LV K sl (am_ML mi) ls) (hS : va_S (am_Fr K) s.heap H locs) (h : am_step d pc (.lastore, pc + 1, a, b, c0) ls st g fi fl = some (.inl (pc', ls', st', g', fi', fl'))) (kk : am_SK K mi p l e R s m args below meth c cells slots Q g pc' ls' st' g' fi' fl') : W p l e R s m args below meth c H locs cells slots Q (F0 m pc sl (st.map (vmp K))) := by
  unfold am_step at h
  dsimp only at h
  split at h
  · rename_i x i q r
    split at h
    · rename_i hs
      cases h
      have hin := am_in_vp hs.2
      refine W.last C.1 C.2.1 (hH.al hs.1) ((C.kf.1.2 1 (kT K 21, .long) rfl).1 (g.2.1 q) (fun j => .long (fl q j))) (fun q => by cases q) (by show ¬ (i < 0 ∨ (arrV _ _ _).slots.size ≤ _); rw [arrV_size]; exact hin) rfl rfl hd fun H1 ee z oq => ?_
      refine kk.k0 (hH.setL (by omega) z oq ?_) hl (hS.put z oq (show kB K ≤ kB K + q by omega))
      rw [am_ce_l hs.1]
      show H1[kB K + q]? = some (vp_cell _ _)
      rw [ee]
      exact congrArg some (am_celll (fun j => up2_at j))
    · cases h
  · cases h
/-- an object of a kind is of another, as the tables say -/
theorem am_any {q : Nat} {E : String} (C : am_CX K mi p s m args meth c) (hH : HR K g fi fl H) (ht : g.1 q < 13) (hE : E = am_cn (g.1 q) ∨ ∃ b, E = am_cn b ∧ (g.1 q, b) ∈ am_unders) : va_Any E s H (kB K + q) := by
  have hc := am_clA _ ht
  refine va_rAny C.kf.1 (va_P1 (hH.ob ht)) (q0 := 0) rfl hc ?_
  rcases hE with rfl | ⟨b, rfl, hb⟩
  · intro comp c1 h1 h2
    have e : comp = c1 := Option.some.inj (h1.symm.trans h2)
    subst e
    obtain ⟨-, hfc, hk⟩ := C.kf.1.1 _ _ hc
    have e2 : comp = (kD K).1 (g.1 q) := Option.some.inj (h1.symm.trans hfc)
    rw [e2]
    exact va_assign ⟨hfc, hk⟩
  · exact vb_asgC (C.kf.2.2.1 _ hb)
theorem sr_aast (C : am_CX K mi p s m args meth c) (hd : decode (am_B mi) pc = .ok (.aastore, 1)) (hH : HR K g fi fl H) (hl : LV K sl (am_ML mi) ls) (hS : va_S (am_Fr K) s.heap H locs) (h : am_step d pc (.aastore, pc + 1, a, b, c0) ls st g fi fl = some (.inl (pc', ls', st', g', fi', fl'))) (kk : am_SK K mi p l e R s m args below meth c cells slots Q g pc' ls' st' g' fi' fl') : W p l e R s m args below meth c H locs cells slots Q (F0 m pc sl (st.map (vmp K))) := by
  unfold am_step at h
  dsimp only at h
  have hK := C.kf.1
  split at h
  · rename_i x i q r
    split at h
    · rename_i hs
      cases h
      obtain ⟨hs, hi⟩ := hs
      have hin := am_in_vp hi
      have ht : 24 ≤ g.1 q := by omega
      have h9 : g.1 q ≠ 99 := by omega
      have hat := hH.aq ht h9
      have hx : ∃ E, (am_tys K)[g.1 q - 20]? = some (kT K (g.1 q), .object E) ∧ va_Any E s H (kB K + x) := by
        rcases hs with ⟨t, hx⟩ | ⟨t, hx⟩
        · have htx := am_sub_lt (by decide) hx
          refine ⟨"LargeBubble$Blower", by rw [t]; rfl, am_any C hH htx ?_⟩
          rcases am_s0 hx with z | z | z | z | z | z | z <;> rw [z]
          · exact Or.inl rfl
          all_goals exact Or.inr ⟨0, rfl, by decide⟩
        · exact ⟨"LargeBubble$Square", by rw [t]; rfl, am_any C hH (by omega) (Or.inl (by rw [hx]; rfl))⟩
      obtain ⟨E, h1, hr⟩ := hx
      obtain ⟨cellV, g1, g3, ⟨kC, hkC⟩, hasg⟩ := hr
      obtain ⟨kA, comp, k1, k2, k3, -⟩ := (hK.2 _ _ h1).2
      obtain ⟨kE, hkE, -⟩ := Vm.findClass_spec k3
      refine W.aast C.1 C.2.1 hat (fun q h => by cases h) (fun h => by cases h) k1 k2 rfl hkE ⟨fun z => hin (Or.inl z), by show _ < (arrV _ _ _).slots.size; rw [arrV_size]; exact am_in_lt hi⟩ g1 (fun q h => by rw [h] at g3; cases g3) hkC (hasg _ k3) rfl rfl hd fun H1 ee z oq => ?_
      refine kk.k1 rfl rfl (hH.setR (x := some x) h9 z oq ?_) hl (hS.put z oq (show kB K ≤ kB K + q by omega))
      rw [am_ce_q (g := (g.1, g.2.1, up2 g.2.2.1 q i.toNatClampNeg (some x), g.2.2.2)) ht]
      show H1[kB K + q]? = some (vp_cell _ _)
      rw [ee]
      exact congrArg some (am_cellq (x := some (kB K + x)) (fun j => by show am_ro K (up2 g.2.2.1 q i.toNatClampNeg (some x) q j) = _; rw [up2_at]; split <;> rfl))
    · cases h
  · rename_i i q r
    split at h
    · rename_i hs
      cases h
      obtain ⟨hs, hi⟩ := hs
      have hin := am_in_vp hi
      have ht : 24 ≤ g.1 q := by omega
      have h9 : g.1 q ≠ 99 := by omega
      have hat := hH.aq ht h9
      have hx : ∃ E, (am_tys K)[g.1 q - 20]? = some (kT K (g.1 q), .object E) := by
        rcases hs with t | t <;> rw [t] <;> exact ⟨_, rfl⟩
      obtain ⟨E, h1⟩ := hx
      refine va_WaastN C.1 C.2.1 (C := E) hat ((hK.2 _ _ h1).1 (g.2.1 q) (fun j => va_rf (am_ro K (g.2.2.1 q j)))) (fun q => by cases q) (by show ¬ (i < 0 ∨ (arrV _ _ _).slots.size ≤ _); rw [arrV_size]; exact hin) rfl rfl hd fun H1 ee z oq => ?_
      refine kk.k1 rfl rfl (hH.setR (x := none) h9 z oq ?_) hl (hS.put z oq (show kB K ≤ kB K + q by omega))
      rw [am_ce_q (g := (g.1, g.2.1, up2 g.2.2.1 q i.toNatClampNeg none, g.2.2.2)) ht]
      show H1[kB K + q]? = some (vp_cell _ _)
      rw [ee]
      exact congrArg some (am_cellq (x := none) (fun j => by show am_ro K (up2 g.2.2.1 q i.toNatClampNeg none q j) = _; rw [up2_at]; split <;> rfl))
    · cases h
  · cases h
end AMY
