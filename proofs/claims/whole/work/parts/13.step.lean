section AMI
variable {K : am_C} {mi d pc n a b c0 : Nat} {ls ls' : List (Option Value)} {st st' : List Value} {g g' : am_G} {fi fi' : am_I} {fl fl' : am_L} {pc' : Nat} {sl : Array Slot}
variable {p : Program} {l : Launch} {e : Env} {R : Room} {s : State} {m : MethodId} {args : Array Value} {below : List Frame} {meth : Method} {c : Code} {H : Heap} {locs : List Loc} {cells slots : Nat} {Q : State → Prop}
theorem am_AOAm {t : FieldType} {u U : State} (hvm : u.vm.Alike U.vm) (h : (Cond.arrayOver (.array t)).before #[] u = true) : (Cond.arrayOver (.array t)).before #[] U = true := by
  obtain ⟨comp, c, k, h1, h2, h3, h4, h5⟩ := arrayOverA_spec h
  obtain ⟨k', hk', he⟩ := hvm.2.2 _ _ h3
  have e1 := va_idx_bare u.vm comp
  have e2 := va_idx_bare U.vm comp
  have eb : u.vm.bare = U.vm.bare := by
    first | exact hvm.bare_eq | exact hvm.bare_eq.symm
  rw [eb] at e1
  have hi := e2.symm.trans (e1.trans h2)
  have hkind : k'.kind = .array comp (.array t) := by rw [he]; exact h4
  have f1 : U.vm.findClass (FieldType.array t).toString = some comp := by rw [hvm.findClass]; exact h1
  have f2 : U.vm.findClass ("[" ++ (FieldType.array t).toString) = some c := by rw [hvm.findClass]; exact h5
  unfold Cond.before Cond.holds
  simp only [Cond.value]
  rw [f1, Option.bind_some]
  refine (congrArg (fun o : Option Nat => (o.bind (fun c => (U.vm.classes[c]?).map fun (k : Class) => match k.kind with | .array _ ty => decide (ty = FieldType.array t) && decide (U.vm.findClass ("[" ++ (FieldType.array t).toString) = some c) | _ => false) == some true)) hi).trans ?_
  simp [hk', hkind, f2]
theorem KF.warm {U : State} (h : KF K s s.heap) (hW : s.WarmedH U.vm) (hU : U.heap = H) (hS : va_S (am_Fr K) s.heap H locs) : KF K U U.heap := by
  obtain ⟨h1, h2, h3, h4, ⟨h5, h6, h7, h8⟩, h9, ⟨h10, h11, h12, h13, h14⟩, h15, h16, h17, h18⟩ := h
  rw [hU]
  have hb : ¬ am_Fr K (kb K) := by show ¬ kB K ≤ kb K; omega
  exact ⟨va_K.moved hW.alike h1, fun q hq => va_Nw.warmM hW (h2 q hq), fun q hq => va_Nw.warmC hW (h3 q hq), fun t c ht => va_Nc.moved hW.alike (h4 t c ht), ⟨va_AO.moved hW.alike h5, va_AO.moved hW.alike h6, am_AOAm hW.alike h7, am_AOAm hW.alike h8⟩, fun k hk => vk_R.warm hW (h9 k hk),
    ⟨(h10.kept hS.2.1).moved hW.alike, (h11.kept hS.2.1).moved hW.alike, (h12.kept hS.2.1).moved hW.alike, (h13.kept (hS.2.1 _ h14 hb)).moved hW.alike, Nat.lt_of_lt_of_le h14 hS.1⟩, Nat.le_trans h15 hS.1, h16, h17, h18⟩
theorem sr_inst {i : Nat} (C : am_CX K mi p s m args meth c) (hd : decode (am_B mi) pc = .ok (.instanceof i, 3)) (hp : (a = 1 ∨ a = 2 ∨ a = 4 ∨ a = 5 ∨ a = 9 ∨ a = 10) ∧ Cond.classLink (am_on (am_O mi)) i (am_cn a) ∈ am_T0)
    (hH : HR K g fi fl H) (hl : LV K sl (am_ML mi) ls) (hS : va_S (am_Fr K) s.heap H locs) (h : am_step d pc (.instanceof i, pc + 3, a, b, c0) ls st g fi fl = some (.inl (pc', ls', st', g', fi', fl'))) (kk : am_SK K mi p l e R s m args below meth c cells slots Q g pc' ls' st' g' fi' fl') : W p l e R s m args below meth c H locs cells slots Q (F0 m pc sl (st.map (vmp K))) := by
  unfold am_step at h
  dsimp only at h
  split at h
  · rename_i q r
    split at h
    · rename_i ht
      cases h
      have k := kk.k0 hH hl hS
      have hK := C.kf.1
      have hrc := va_recv hK (va_P1 (hH.ob ht)) (am_clA _ ht) (q0 := 0) rfl
      have ha : a < 13 := by omega
      cases hs : am_sub (g.1 q) a with
      | true =>
        rw [hs, if_pos rfl] at k
        by_cases e1 : g.1 q = a
        · rw [e1] at hrc
          exact va_instS C.1 C.2.1 C.own (C.w hp.2) (hK.1 a _ (am_clA a ha)).2 hrc hd k
        · have hu : (g.1 q, a) ∈ am_unders := by
            have h2 := hs
            simp [am_sub] at h2
            rcases (show (g.1 q = 4 ∧ a = 1) ∨ (g.1 q = 10 ∧ a = 2) ∨ (g.1 q = 9 ∧ a = 5) by omega) with ⟨z, rfl⟩ | ⟨z, rfl⟩ | ⟨z, rfl⟩ <;> rw [z] <;> decide
          exact va_instY C.1 C.2.1 C.own (C.w hp.2) (C.kf.2.2.1 _ hu) hrc hd k
      | false =>
        rw [hs, if_neg (by decide)] at k
        exact va_instNo C.1 C.2.1 C.own (C.w hp.2) (C.kf.2.2.2.1 _ _ ⟨ht, hp.1, hs⟩) hrc hd k
    · cases h
  · cases h
theorem sr_cast {i : Nat} (C : am_CX K mi p s m args meth c) (hd : decode (am_B mi) pc = .ok (.checkcast i, 3)) (hp : a = 9 ∧ Cond.classLink (am_on (am_O mi)) i (am_cn a) ∈ am_T0)
    (hH : HR K g fi fl H) (hl : LV K sl (am_ML mi) ls) (hS : va_S (am_Fr K) s.heap H locs) (h : am_step d pc (.checkcast i, pc + 3, a, b, c0) ls st g fi fl = some (.inl (pc', ls', st', g', fi', fl'))) (kk : am_SK K mi p l e R s m args below meth c cells slots Q g pc' ls' st' g' fi' fl') : W p l e R s m args below meth c H locs cells slots Q (F0 m pc sl (st.map (vmp K))) := by
  unfold am_step at h
  dsimp only at h
  obtain ⟨rfl, hw⟩ := hp
  split at h
  · rename_i q r
    split at h
    · rename_i hs
      cases h
      have ht : g.1 q = 9 := by
        simp [am_sub] at hs
        omega
      have k := kk.k0 hH hl hS
      have hK := C.kf.1
      have hrc := va_recv hK (va_P1 (hH.ob (q := q) (by omega))) (am_clA _ (by omega)) (q0 := 0) rfl
      rw [ht] at hrc
      exact va_castS C.1 C.2.1 C.own (C.w hw) (hK.1 9 _ (am_clA 9 (by decide))).2 hrc hd k
    · cases h
  · cases h
theorem sr_tsw {df lo hi : Int} {offs : Array Int} {len : Nat} (C : am_CX K mi p s m args meth c) (hd : decode (am_B mi) pc = .ok (.tableswitch df lo hi offs, len)) (h1 : 0 ≤ (pc : Int) + df) (h2 : ∀ o ∈ offs.toList, 0 ≤ (pc : Int) + o) (h3 : (offs.size : Int) = hi - lo + 1)
    (hH : HR K g fi fl H) (hl : LV K sl (am_ML mi) ls) (hS : va_S (am_Fr K) s.heap H locs) (h : am_step d pc (.tableswitch df lo hi offs, n, a, b, c0) ls st g fi fl = some (.inl (pc', ls', st', g', fi', fl'))) (kk : am_SK K mi p l e R s m args below meth c cells slots Q g pc' ls' st' g' fi' fl') : W p l e R s m args below meth c H locs cells slots Q (F0 m pc sl (st.map (vmp K))) := by
  unfold am_step at h
  dsimp only at h
  split at h
  · rename_i x r
    cases h
    have k := kk.k0 hH hl hS
    unfold am_tsw at k
    by_cases hx : x.toInt < lo ∨ hi < x.toInt
    · rw [if_pos hx] at k
      exact lv_tableOut C.1 C.2.1 hd hx (by omega) k
    · rw [if_neg hx] at k
      have hlt : (x.toInt - lo).toNat < offs.size := by omega
      rw [Array.getElem?_eq_getElem hlt] at k
      dsimp only at k
      exact lv_tableIn C.1 C.2.1 hd (by omega) (by omega) (Array.getElem?_eq_getElem hlt) (by
        have := h2 _ (Array.getElem_mem_toList hlt)
        omega) k
  · cases h
theorem am_lswOk {pc : Nat} {df k : Int} {l : List (Int × Int)} (h1 : 0 ≤ (pc : Int) + df) (h2 : ∀ q ∈ l, 0 ≤ (pc : Int) + q.2) : 0 ≤ (pc : Int) + Op.lookupswitch.offset l df k := by
  induction l with
  | nil => exact h1
  | cons x l ih =>
    obtain ⟨a, o⟩ := x
    rw [Op.lookupswitch.offset_cons]
    split
    · exact h2 (a, o) List.mem_cons_self
    · exact ih (fun q hq => h2 q (List.mem_cons_of_mem _ hq))
theorem sr_lsw {df : Int} {ps : Array (Int × Int)} {len : Nat} (C : am_CX K mi p s m args meth c) (hd : decode (am_B mi) pc = .ok (.lookupswitch df ps, len)) (h0 : (ps.toList.zip (ps.toList.drop 1)).all (fun (a, next) => a.1 < next.1) = true) (h1 : 0 ≤ (pc : Int) + df) (h2 : ∀ q ∈ ps.toList, 0 ≤ (pc : Int) + q.2)
    (hH : HR K g fi fl H) (hl : LV K sl (am_ML mi) ls) (hS : va_S (am_Fr K) s.heap H locs) (h : am_step d pc (.lookupswitch df ps, n, a, b, c0) ls st g fi fl = some (.inl (pc', ls', st', g', fi', fl'))) (kk : am_SK K mi p l e R s m args below meth c cells slots Q g pc' ls' st' g' fi' fl') : W p l e R s m args below meth c H locs cells slots Q (F0 m pc sl (st.map (vmp K))) := by
  unfold am_step at h
  dsimp only at h
  split at h
  · rename_i x r
    cases h
    have k := kk.k0 hH hl hS
    have := am_lswOk (k := x.toInt) h1 h2
    exact lv_lookup C.1 C.2.1 hd h0 rfl (by unfold am_lsw; omega) k
  · cases h
theorem am_len1 {len L n pc : Nat} (h : (decide (len = L) && decide (n = pc + len) || false) = true) : len = L ∧ n = pc + L := by
  simp only [Bool.or_false, Bool.and_eq_true, decide_eq_true_eq] at h
  exact ⟨h.1, by rw [h.2, h.1]⟩
theorem am_chkInv {op : Instr} (h0 : op ≠ .nop) (h : am_chk mi pc (op, n, a, b, c0) = true) : ∃ j len, decode (am_B mi) pc = .ok (j, len) ∧ am_nrm pc j op a b = true ∧ (decide (len = am_lenOf j) && decide (n = pc + len) || am_sw op) = true ∧ am_hd mi op a b c0 = true := by
  unfold am_chk at h
  split at h
  · rename_i hx
    exact absurd (congrArg Prod.fst hx) h0
  · rename_i hx
    cases hx
    split at h
    · rename_i j len hj
      simp only [Bool.and_eq_true] at h
      exact ⟨j, len, hj, h.1.1, h.1.2, h.2⟩
    · cases h
theorem am_outer (c : ClassId) (N h0 : Nat) : ∀ i : Nat, Jvm.Free.Multi.outerC c N h0 i = arrV c N (fun j => va_rf (if j < i then some (h0 + 1 + j) else none))
  | 0 => by
    show ({ cls := c, slots := Array.replicate N .null, vm := .none } : Cell) = _
    rw [arrV_new]
    refine congrArg (arrV c N) (funext fun j => ?_)
    simp [va_rf]
  | i + 1 => by
    show (Jvm.Free.Multi.outerC c N h0 i).setSlot i (.ref (h0 + 1 + i)) = _
    rw [am_outer c N h0 i, arrV_store]
    refine congrArg (arrV c N) (funext fun j => ?_)
    by_cases ej : j = i
    · subst ej
      simp [updV, va_rf]
    · by_cases h : j < i
      · simp [updV, ej, h, Nat.lt_succ_of_lt h]
      · simp [updV, ej, h, show ¬ j < i + 1 by omega]
theorem sr_mnew {i k0 : Nat} (C : am_CX K mi p s m args meth c) (hd : decode (am_B mi) pc = .ok (.multianewarray i k0, 4)) (hp : k0 = 2 ∧ ((a = 26 ∧ b = 20 ∧ Cond.classLink (am_on (am_O mi)) i "[[I" ∈ am_T0) ∨ (a = 27 ∧ b = 21 ∧ Cond.classLink (am_on (am_O mi)) i "[[J" ∈ am_T0))) (hr1 : cells + (am_nx g' - am_nx g) ≤ R.cells) (hr2 : slots + (am_sl g' - am_sl g) ≤ R.slots)
    (hH : HR K g fi fl H) (hl : LV K sl (am_ML mi) ls) (hS : va_S (am_Fr K) s.heap H locs) (h : am_step d pc (.multianewarray i k0, pc + 4, a, b, c0) ls st g fi fl = some (.inl (pc', ls', st', g', fi', fl'))) (kk : am_SK K mi p l e R s m args below meth c cells slots Q g pc' ls' st' g' fi' fl') : W p l e R s m args below meth c H locs cells slots Q (F0 m pc sl (st.map (vmp K))) := by
  unfold am_step at h
  dsimp only at h
  split at h
  · rename_i k w r
    split at h
    · rename_i hs
      obtain ⟨hk, hw, hnx⟩ := hs
      cases h
      obtain ⟨rfl, hp⟩ := hp
      have x1 : am_nx (am_mk2 g a b w.toNatClampNeg k.toNatClampNeg) - am_nx g = 1 + w.toNatClampNeg := by show am_nx g + 1 + w.toNatClampNeg - am_nx g = _; omega
      have x2 : am_sl (am_mk2 g a b w.toNatClampNeg k.toNatClampNeg) - am_sl g = w.toNatClampNeg + w.toNatClampNeg * k.toNatClampNeg := by show am_sl g + (w.toNatClampNeg + w.toNatClampNeg * k.toNatClampNeg) - am_sl g = _; omega
      unfold am_SK at kk
      rw [x1, x2] at kk
      rw [x1] at hr1
      rw [x2] at hr2
      have hK := C.kf.1
      have hdk := am_dimOk hk
      have hdw := am_dimOk hw
      have hty : ∃ ty : FieldType, (Cond.classLink (am_on (am_O mi)) i ("[" ++ (FieldType.array ty).toString)).before args s = true ∧ (Cond.arrayOver (.array ty)).before #[] s = true ∧ (Cond.arrayClass ty).before args s = true ∧ (am_tys K)[a - 20]? = some (kT K a, .array ty) ∧ (am_tys K)[b - 20]? = some (kT K b, ty) ∧ 24 ≤ a ∧ a ≤ 27 ∧ ((b = 20 ∧ ty = .int) ∨ (b = 21 ∧ ty = .long)) := by
        rcases hp with ⟨rfl, rfl, hw⟩ | ⟨rfl, rfl, hw⟩
        · exact ⟨.int, C.w hw, C.kf.2.2.2.2.1.2.2.1, C.w am_acT.1, rfl, rfl, by decide, by decide, Or.inl ⟨rfl, rfl⟩⟩
        · exact ⟨.long, C.w hw, C.kf.2.2.2.2.1.2.2.2, C.w am_acT.2.2.2, rfl, rfl, by decide, by decide, Or.inr ⟨rfl, rfl⟩⟩
      obtain ⟨ty, q1, q2, q3, q4, q5, q6, q7, q8⟩ := hty
      have hcb : componentBytes ty ≤ 8 := by rcases q8 with ⟨-, rfl⟩ | ⟨-, rfl⟩ <;> decide
      have hdf : fits ty (defaultValue ty) = true ∧ (defaultValue ty).isDefault = true := by rcases q8 with ⟨-, rfl⟩ | ⟨-, rfl⟩ <;> exact ⟨rfl, rfl⟩
      intro T hT X
      obtain ⟨vm1, cA, comp, -, fA, fC, -, -, X', step⟩ := X.multianewarray2F C.1 C.own q1 q2 q3 (g := F0 m pc sl (.int k :: .int w :: r.map (vmp K))) rfl (by rw [C.2.1]; exact hd) rfl hdw.1 hdk.1 (by omega) (by have : k.toNatClampNeg * componentBytes ty ≤ 65536 * 8 := Nat.mul_le_mul hdk.2 hcb; omega) (by omega) hdf.1 hdf.2 (by omega) hr2
      generalize hF : Jvm.Free.Multi.fill (T.setVm vm1) cA comp w.toNatClampNeg k.toNatClampNeg (defaultValue ty) w.toNatClampNeg = F at X' step
      have hTh : (T.setVm vm1).heap = H := hT
      obtain ⟨f1, f2, -, -⟩ := Jvm.Free.Multi.fill_facts (T.setVm vm1) cA comp w.toNatClampNeg k.toNatClampNeg (defaultValue ty) w.toNatClampNeg
      rw [hF, hTh] at f1 f2
      have hold : ∀ x : Nat, x < H.size → F.heap[x]? = H[x]? := fun x hx => by
        have := Jvm.Free.Multi.fill_old (T.setVm vm1) cA comp w.toNatClampNeg k.toNatClampNeg (defaultValue ty) (a := x) (by rw [hTh]; exact hx) w.toNatClampNeg
        rw [hF, hTh] at this
        exact this
      have hrow : ∀ j : Nat, j < w.toNatClampNeg → F.heap[H.size + 1 + j]? = some (Jvm.Free.Multi.innerC comp k.toNatClampNeg (defaultValue ty)) := fun j hj => by
        have := Jvm.Free.Multi.fill_inner (T.setVm vm1) cA comp w.toNatClampNeg k.toNatClampNeg (defaultValue ty) w.toNatClampNeg j hj
        rw [hF, hTh] at this
        exact this
      have hcA : cA = kT K a := Option.some.inj (fA.symm.trans (hK.2 _ _ q4).2)
      have hcB : comp = kT K b := by
        have h2 := (hK.2 _ _ q5).2
        rcases q8 with ⟨-, rfl⟩ | ⟨-, rfl⟩ <;> exact Option.some.inj (fC.symm.trans h2)
      have g0 : (am_mk2 g a b w.toNatClampNeg k.toNatClampNeg).1 (am_nx g) = a := by
        show up1 (up1 g.1 (am_nx g) 1 a) (am_nx g + 1) w.toNatClampNeg b (am_nx g) = a
        rw [up1_out (Or.inl (Nat.lt_succ_self _)), up1_in ⟨Nat.le_refl _, Nat.lt_succ_self _⟩]
      have gl0 : (am_mk2 g a b w.toNatClampNeg k.toNatClampNeg).2.1 (am_nx g) = w.toNatClampNeg := by
        show up1 (up1 g.2.1 (am_nx g) 1 w.toNatClampNeg) (am_nx g + 1) w.toNatClampNeg k.toNatClampNeg (am_nx g) = _
        rw [up1_out (Or.inl (Nat.lt_succ_self _)), up1_in ⟨Nat.le_refl _, Nat.lt_succ_self _⟩]
      have g1 : ∀ j, j < w.toNatClampNeg → (am_mk2 g a b w.toNatClampNeg k.toNatClampNeg).1 (am_nx g + (j + 1)) = b ∧ (am_mk2 g a b w.toNatClampNeg k.toNatClampNeg).2.1 (am_nx g + (j + 1)) = k.toNatClampNeg := fun j hj => ⟨up1_in (by show am_nx g + 1 ≤ _ ∧ _ < am_nx g + 1 + _; omega), up1_in (by show am_nx g + 1 ≤ _ ∧ _ < am_nx g + 1 + _; omega)⟩
      have hout : F.heap[H.size]? = some (vp_cell (kT K a) (w.toNatClampNeg, .inr (.inr (.inr (.inr (fun j => am_ro K ((am_mk2 g a b w.toNatClampNeg k.toNatClampNeg).2.2.1 (am_nx g) j))))))) := by
        rw [f2, hcA, am_outer, vp_cell_q]
        refine congrArg some (congrArg _ (funext fun j => ?_))
        show va_rf (if j < w.toNatClampNeg then some (H.size + 1 + j) else none) = va_rf (am_ro K (if am_nx g = am_nx g then (if j < w.toNatClampNeg then some (am_nx g + 1 + j) else none) else _))
        rw [if_pos rfl]
        split
        · rw [hH.1]
          show Value.ref _ = Value.ref _
          rw [show kB K + am_nx g + 1 + j = kB K + (am_nx g + 1 + j) by omega]
        · rfl
      have hnew : HR K (am_mk2 g a b w.toNatClampNeg k.toNatClampNeg) (cl2 fi (am_nx g) (w.toNatClampNeg + 1) 0) (cl2 fl (am_nx g) (w.toNatClampNeg + 1) 0) F.heap := by
        refine hH.grow (n := w.toNatClampNeg + 1) (by omega) hold (by show am_nx g + 1 + w.toNatClampNeg = _; omega) (by show am_nx g + 1 + w.toNatClampNeg ≤ _; omega) (fun j hj => ⟨?_, ?_⟩) (fun j hj => ?_) (fun j hj => cl2_out hj) (fun j hj => cl2_out (Or.inl hj)) (fun j hj => ?_)
        · show up1 (up1 g.1 (am_nx g) 1 a) (am_nx g + 1) w.toNatClampNeg b j = _
          rw [up1_out (by omega), up1_out (by omega)]
        · show up1 (up1 g.2.1 (am_nx g) 1 w.toNatClampNeg) (am_nx g + 1) w.toNatClampNeg k.toNatClampNeg j = _
          rw [up1_out (by omega), up1_out (by omega)]
        · funext z
          show (if j = am_nx g then _ else if am_nx g < j ∧ j < am_nx g + 1 + w.toNatClampNeg then none else g.2.2.1 j z) = _
          rw [if_neg (by omega), if_neg (by omega)]
        · cases j with
          | zero =>
            show va_at (kD K) vwCl (H.size, am_ce K (am_mk2 g a b w.toNatClampNeg k.toNatClampNeg) (cl2 fi (am_nx g) (w.toNatClampNeg + 1) 0) (cl2 fl (am_nx g) (w.toNatClampNeg + 1) 0) (am_nx g)) F.heap ∧ ((am_mk2 g a b w.toNatClampNeg k.toNatClampNeg).1 (am_nx g) < 13 ∨ (20 ≤ (am_mk2 g a b w.toNatClampNeg k.toNatClampNeg).1 (am_nx g) ∧ (am_mk2 g a b w.toNatClampNeg k.toNatClampNeg).1 (am_nx g) ≤ 27))
            refine ⟨?_, by rw [g0]; exact Or.inr ⟨by omega, q7⟩⟩
            rw [am_ce_q (by rw [g0]; exact q6), g0, gl0]
            exact hout
          | succ j =>
            have hj : j < w.toNatClampNeg := by omega
            refine ⟨?_, by rw [(g1 j hj).1]; exact Or.inr (by omega)⟩
            have hr := hrow j hj
            rw [show H.size + (j + 1) = H.size + 1 + j by omega]
            rcases q8 with ⟨qb, qt⟩ | ⟨qb, qt⟩
            · rw [am_ce_i (by rw [(g1 j hj).1]; exact Or.inl qb), (g1 j hj).1, (g1 j hj).2]
              show F.heap[H.size + 1 + j]? = some (vp_cell _ _)
              rw [hr, hcB, qt, vp_cell_i]
              refine congrArg some ((arrV_new _ _ _).trans (congrArg _ (funext fun z => ?_)))
              rw [cl2_in (by omega)]
              rfl
            · rw [am_ce_l (by rw [(g1 j hj).1]; exact qb), (g1 j hj).2]
              show F.heap[H.size + 1 + j]? = some (vp_cell _ _)
              rw [hr, hcB, qt, qb, vp_cell_l]
              refine congrArg some ((arrV_new _ _ _).trans (congrArg _ (funext fun z => ?_)))
              rw [cl2_in (by omega)]
              rfl
      have k9 := kk F.heap locs sl hnew hl (hS.more (by omega) hold)
      have ev : vmp K (.ref (am_nx g)) = .ref H.size := by rw [hH.1]; rfl
      rw [List.map_cons, ev] at k9
      have e3 : cells + (1 + w.toNatClampNeg) = cells + 1 + w.toNatClampNeg := by omega
      have e4 : slots + (w.toNatClampNeg + w.toNatClampNeg * k.toNatClampNeg) = slots + w.toNatClampNeg + w.toNatClampNeg * k.toNatClampNeg := by omega
      rw [e3, e4] at k9
      obtain ⟨t, a1, b1⟩ := k9 F rfl X'
      refine ⟨t, step t ?_, b1⟩
      have e5 : T.heap.size = H.size := by rw [hT]
      rw [e5]
      exact a1
    · cases h
  · cases h
theorem am_stepW {op : Instr} (C : am_CX K mi p s m args meth c) (hE : am_CT mi pc = some (op, n, a, b, c0)) (hf : d ≤ R.frames) (hlo : 40 * d ≤ R.locals) (hr1 : cells + (am_nx g' - am_nx g) ≤ R.cells) (hr2 : slots + (am_sl g' - am_sl g) ≤ R.slots)
    (hH : HR K g fi fl H) (hl : LV K sl (am_ML mi) ls) (hS : va_S (am_Fr K) s.heap H locs) (h : am_step d pc (op, n, a, b, c0) ls st g fi fl = some (.inl (pc', ls', st', g', fi', fl'))) (kk : am_SK K mi p l e R s m args below meth c cells slots Q g pc' ls' st' g' fi' fl') : W p l e R s m args below meth c H locs cells slots Q (F0 m pc sl (st.map (vmp K))) := by
  have hck := am_ckA hE
  have hpl := fun hp => am_plA hE hp
  have h0 : op ≠ .nop := fun q => by
    subst q
    cases h
  obtain ⟨j, len, hd, hn, hln, hhd⟩ := am_chkInv h0 hck
  cases op with
  | dup =>
    have ej := of_decide_eq_true hn
    subst ej
    obtain ⟨e1, e2⟩ := am_len1 hln
    subst e1 e2
    exact sr_dup C hd hH hl hS h kk
  | dup2 =>
    have ej := of_decide_eq_true hn
    subst ej
    obtain ⟨e1, e2⟩ := am_len1 hln
    subst e1 e2
    exact sr_dup2 C hd hH hl hS h kk
  | pop =>
    have ej := of_decide_eq_true hn
    subst ej
    obtain ⟨e1, e2⟩ := am_len1 hln
    subst e1 e2
    exact sr_pop C hd hH hl hS h kk
  | iadd =>
    have ej := of_decide_eq_true hn
    subst ej
    obtain ⟨e1, e2⟩ := am_len1 hln
    subst e1 e2
    exact sr_iadd C hd hH hl hS h kk
  | isub =>
    have ej := of_decide_eq_true hn
    subst ej
    obtain ⟨e1, e2⟩ := am_len1 hln
    subst e1 e2
    exact sr_isub C hd hH hl hS h kk
  | imul =>
    have ej := of_decide_eq_true hn
    subst ej
    obtain ⟨e1, e2⟩ := am_len1 hln
    subst e1 e2
    exact sr_imul C hd hH hl hS h kk
  | idiv =>
    have ej := of_decide_eq_true hn
    subst ej
    obtain ⟨e1, e2⟩ := am_len1 hln
    subst e1 e2
    exact sr_idiv C hd hH hl hS h kk
  | irem =>
    have ej := of_decide_eq_true hn
    subst ej
    obtain ⟨e1, e2⟩ := am_len1 hln
    subst e1 e2
    exact sr_irem C hd hH hl hS h kk
  | iand =>
    have ej := of_decide_eq_true hn
    subst ej
    obtain ⟨e1, e2⟩ := am_len1 hln
    subst e1 e2
    exact sr_iand C hd hH hl hS h kk
  | ior =>
    have ej := of_decide_eq_true hn
    subst ej
    obtain ⟨e1, e2⟩ := am_len1 hln
    subst e1 e2
    exact sr_ior C hd hH hl hS h kk
  | ixor =>
    have ej := of_decide_eq_true hn
    subst ej
    obtain ⟨e1, e2⟩ := am_len1 hln
    subst e1 e2
    exact sr_ixor C hd hH hl hS h kk
  | ishl =>
    have ej := of_decide_eq_true hn
    subst ej
    obtain ⟨e1, e2⟩ := am_len1 hln
    subst e1 e2
    exact sr_ishl C hd hH hl hS h kk
  | ishr =>
    have ej := of_decide_eq_true hn
    subst ej
    obtain ⟨e1, e2⟩ := am_len1 hln
    subst e1 e2
    exact sr_ishr C hd hH hl hS h kk
  | ineg =>
    have ej := of_decide_eq_true hn
    subst ej
    obtain ⟨e1, e2⟩ := am_len1 hln
    subst e1 e2
    exact sr_ineg C hd hH hl hS h kk
  | ladd =>
    have ej := of_decide_eq_true hn
    subst ej
    obtain ⟨e1, e2⟩ := am_len1 hln
    subst e1 e2
    exact sr_ladd C hd hH hl hS h kk
  | lmul =>
    have ej := of_decide_eq_true hn
    subst ej
    obtain ⟨e1, e2⟩ := am_len1 hln
    subst e1 e2
    exact sr_lmul C hd hH hl hS h kk
  | ldiv =>
    have ej := of_decide_eq_true hn
    subst ej
    obtain ⟨e1, e2⟩ := am_len1 hln
    subst e1 e2
    exact sr_ldiv C hd hH hl hS h kk
  | lrem =>
    have ej := of_decide_eq_true hn
    subst ej
    obtain ⟨e1, e2⟩ := am_len1 hln
    subst e1 e2
    exact sr_lrem C hd hH hl hS h kk
  | land =>
    have ej := of_decide_eq_true hn
    subst ej
    obtain ⟨e1, e2⟩ := am_len1 hln
    subst e1 e2
    exact sr_land C hd hH hl hS h kk
  | lor =>
    have ej := of_decide_eq_true hn
    subst ej
    obtain ⟨e1, e2⟩ := am_len1 hln
    subst e1 e2
    exact sr_lor C hd hH hl hS h kk
  | lshl =>
    have ej := of_decide_eq_true hn
    subst ej
    obtain ⟨e1, e2⟩ := am_len1 hln
    subst e1 e2
    exact sr_lshl C hd hH hl hS h kk
  | lcmp =>
    have ej := of_decide_eq_true hn
    subst ej
    obtain ⟨e1, e2⟩ := am_len1 hln
    subst e1 e2
    exact sr_lcmp C hd hH hl hS h kk
  | i2l =>
    have ej := of_decide_eq_true hn
    subst ej
    obtain ⟨e1, e2⟩ := am_len1 hln
    subst e1 e2
    exact sr_i2l C hd hH hl hS h kk
  | l2i =>
    have ej := of_decide_eq_true hn
    subst ej
    obtain ⟨e1, e2⟩ := am_len1 hln
    subst e1 e2
    exact sr_l2i C hd hH hl hS h kk
  | i2b =>
    have ej := of_decide_eq_true hn
    subst ej
    obtain ⟨e1, e2⟩ := am_len1 hln
    subst e1 e2
    exact sr_i2b C hd hH hl hS h kk
  | i2s =>
    have ej := of_decide_eq_true hn
    subst ej
    obtain ⟨e1, e2⟩ := am_len1 hln
    subst e1 e2
    exact sr_i2s C hd hH hl hS h kk
  | i2c =>
    have ej := of_decide_eq_true hn
    subst ej
    obtain ⟨e1, e2⟩ := am_len1 hln
    subst e1 e2
    exact sr_i2c C hd hH hl hS h kk
  | aconst_null =>
    have ej := of_decide_eq_true hn
    subst ej
    obtain ⟨e1, e2⟩ := am_len1 hln
    subst e1 e2
    exact sr_null C hd hH hl hS h kk
  | iinc i v =>
    have ej := of_decide_eq_true hn
    subst ej
    obtain ⟨e1, e2⟩ := am_len1 hln
    subst e1 e2
    exact sr_iinc C hd hH hl hS h kk
  | arraylength =>
    have ej := of_decide_eq_true hn
    subst ej
    obtain ⟨e1, e2⟩ := am_len1 hln
    subst e1 e2
    exact sr_alen C hd hH hl hS h kk
  | iaload =>
    have ej := of_decide_eq_true hn
    subst ej
    obtain ⟨e1, e2⟩ := am_len1 hln
    subst e1 e2
    exact sr_iald C hd hH hl hS h kk
  | baload =>
    have ej := of_decide_eq_true hn
    subst ej
    obtain ⟨e1, e2⟩ := am_len1 hln
    subst e1 e2
    exact sr_bald C hd hH hl hS h kk
  | laload =>
    have ej := of_decide_eq_true hn
    subst ej
    obtain ⟨e1, e2⟩ := am_len1 hln
    subst e1 e2
    exact sr_lald C hd hH hl hS h kk
  | aaload =>
    have ej := of_decide_eq_true hn
    subst ej
    obtain ⟨e1, e2⟩ := am_len1 hln
    subst e1 e2
    exact sr_aald C hd hH hl hS h kk
  | iastore =>
    have ej := of_decide_eq_true hn
    subst ej
    obtain ⟨e1, e2⟩ := am_len1 hln
    subst e1 e2
    exact sr_iast C hd hH hl hS h kk
  | bastore =>
    have ej := of_decide_eq_true hn
    subst ej
    obtain ⟨e1, e2⟩ := am_len1 hln
    subst e1 e2
    exact sr_bast C hd hH hl hS h kk
  | lastore =>
    have ej := of_decide_eq_true hn
    subst ej
    obtain ⟨e1, e2⟩ := am_len1 hln
    subst e1 e2
    exact sr_last C hd hH hl hS h kk
  | aastore =>
    have ej := of_decide_eq_true hn
    subst ej
    obtain ⟨e1, e2⟩ := am_len1 hln
    subst e1 e2
    exact sr_aast C hd hH hl hS h kk
  | getfield i =>
    have ej := of_decide_eq_true hn
    subst ej
    obtain ⟨e1, e2⟩ := am_len1 hln
    subst e1 e2
    exact sr_getf C hd (hpl rfl) hH hl hS h kk
  | putfield i =>
    have ej := of_decide_eq_true hn
    subst ej
    obtain ⟨e1, e2⟩ := am_len1 hln
    subst e1 e2
    exact sr_putf C hd (hpl rfl) hhd hH hl hS h kk
  | getstatic i =>
    have ej := of_decide_eq_true hn
    subst ej
    obtain ⟨e1, e2⟩ := am_len1 hln
    subst e1 e2
    exact sr_gets C hd (hpl rfl) hH hl hS h kk
  | instanceof i =>
    have ej := of_decide_eq_true hn
    subst ej
    obtain ⟨e1, e2⟩ := am_len1 hln
    subst e1 e2
    exact sr_inst C hd (hpl rfl) hH hl hS h kk
  | checkcast i =>
    have ej := of_decide_eq_true hn
    subst ej
    obtain ⟨e1, e2⟩ := am_len1 hln
    subst e1 e2
    exact sr_cast C hd (hpl rfl) hH hl hS h kk
  | new i =>
    have ej := of_decide_eq_true hn
    subst ej
    obtain ⟨e1, e2⟩ := am_len1 hln
    subst e1 e2
    exact sr_new C hd (hpl rfl) hr1 hr2 hH hl hS h kk
  | anewarray i =>
    have ej := of_decide_eq_true hn
    subst ej
    obtain ⟨e1, e2⟩ := am_len1 hln
    subst e1 e2
    exact sr_anew C hd (hpl rfl) hr1 hr2 hH hl hS h kk
  | ldc i =>
    have ej := of_decide_eq_true hn
    subst ej
    obtain ⟨e1, e2⟩ := am_len1 hln
    subst e1 e2
    have hq := hpl rfl
    exact sr_ldcs C hd hq.1 hq.2.1 hq.2.2 hH hl hS h kk
  | ifCond cd off =>
    obtain ⟨hj, ht⟩ := Bool.and_eq_true_iff.mp hn
    have ej := of_decide_eq_true hj
    subst ej
    obtain ⟨e1, e2⟩ := am_len1 hln
    subst e1 e2
    exact sr_ifCond C hd (of_decide_eq_true ht) hH hl hS h kk
  | if_icmp cd off =>
    obtain ⟨hj, ht⟩ := Bool.and_eq_true_iff.mp hn
    have ej := of_decide_eq_true hj
    subst ej
    obtain ⟨e1, e2⟩ := am_len1 hln
    subst e1 e2
    exact sr_if_icmp C hd (of_decide_eq_true ht) hH hl hS h kk
  | ifnull off =>
    obtain ⟨hj, ht⟩ := Bool.and_eq_true_iff.mp hn
    have ej := of_decide_eq_true hj
    subst ej
    obtain ⟨e1, e2⟩ := am_len1 hln
    subst e1 e2
    exact sr_ifnull C hd (of_decide_eq_true ht) hH hl hS h kk
  | ifnonnull off =>
    obtain ⟨hj, ht⟩ := Bool.and_eq_true_iff.mp hn
    have ej := of_decide_eq_true hj
    subst ej
    obtain ⟨e1, e2⟩ := am_len1 hln
    subst e1 e2
    exact sr_ifnonnull C hd (of_decide_eq_true ht) hH hl hS h kk
  | goto off =>
    obtain ⟨hj, ht⟩ := Bool.and_eq_true_iff.mp hn
    have ej := of_decide_eq_true hj
    subst ej
    obtain ⟨e1, e2⟩ := am_len1 hln
    subst e1 e2
    exact sr_goto C hd (of_decide_eq_true ht) hH hl hS h kk
  | newarray t =>
    obtain ⟨hj, ht⟩ := Bool.and_eq_true_iff.mp hn
    have ej := of_decide_eq_true hj
    subst ej
    obtain ⟨e1, e2⟩ := am_len1 hln
    subst e1 e2
    exact sr_newa C hd (of_decide_eq_true ht) hr1 hr2 hH hl hS h kk
  | tableswitch df lo hi offs =>
    obtain ⟨hj, ht⟩ := Bool.and_eq_true_iff.mp hn
    have ej := of_decide_eq_true hj
    subst ej
    obtain ⟨q1, ht⟩ := Bool.and_eq_true_iff.mp ht
    obtain ⟨q2, q3⟩ := Bool.and_eq_true_iff.mp ht
    exact sr_tsw C hd (of_decide_eq_true q1) (fun o ho => of_decide_eq_true (List.all_eq_true.mp q2 o ho)) (of_decide_eq_true q3) hH hl hS h kk
  | lookupswitch df ps =>
    obtain ⟨hj, ht⟩ := Bool.and_eq_true_iff.mp hn
    have ej := of_decide_eq_true hj
    subst ej
    obtain ⟨q1, ht⟩ := Bool.and_eq_true_iff.mp ht
    obtain ⟨q2, q3⟩ := Bool.and_eq_true_iff.mp ht
    exact sr_lsw C hd q1 (of_decide_eq_true q2) (fun o ho => of_decide_eq_true (List.all_eq_true.mp q3 o ho)) hH hl hS h kk
  | iload i =>
    unfold am_nrm at hn
    dsimp only at hn
    split at hn
    · have ej := of_decide_eq_true hn
      obtain ⟨e1, e2⟩ := am_len1 hln
      subst e1 e2
      exact sr_iload_n C hd ej hH hl hS h kk
    · have ej := of_decide_eq_true hn
      subst ej
      obtain ⟨e1, e2⟩ := am_len1 hln
      subst e1 e2
      exact sr_iload C hd hH hl hS h kk
    · cases hn
  | lload i =>
    unfold am_nrm at hn
    dsimp only at hn
    split at hn
    · have ej := of_decide_eq_true hn
      obtain ⟨e1, e2⟩ := am_len1 hln
      subst e1 e2
      exact sr_lload_n C hd ej hH hl hS h kk
    · have ej := of_decide_eq_true hn
      subst ej
      obtain ⟨e1, e2⟩ := am_len1 hln
      subst e1 e2
      exact sr_lload C hd hH hl hS h kk
    · cases hn
  | aload i =>
    unfold am_nrm at hn
    dsimp only at hn
    split at hn
    · have ej := of_decide_eq_true hn
      obtain ⟨e1, e2⟩ := am_len1 hln
      subst e1 e2
      exact sr_aload_n C hd ej hH hl hS h kk
    · have ej := of_decide_eq_true hn
      subst ej
      obtain ⟨e1, e2⟩ := am_len1 hln
      subst e1 e2
      exact sr_aload C hd hH hl hS h kk
    · cases hn
  | istore i =>
    unfold am_nrm at hn
    dsimp only at hn
    split at hn
    · have ej := of_decide_eq_true hn
      obtain ⟨e1, e2⟩ := am_len1 hln
      subst e1 e2
      exact sr_istore_n C hd ej hH hl hS h kk
    · have ej := of_decide_eq_true hn
      subst ej
      obtain ⟨e1, e2⟩ := am_len1 hln
      subst e1 e2
      exact sr_istore C hd hH hl hS h kk
    · cases hn
  | lstore i =>
    unfold am_nrm at hn
    dsimp only at hn
    split at hn
    · have ej := of_decide_eq_true hn
      obtain ⟨e1, e2⟩ := am_len1 hln
      subst e1 e2
      exact sr_lstore_n C hd ej hH hl hS h kk
    · have ej := of_decide_eq_true hn
      subst ej
      obtain ⟨e1, e2⟩ := am_len1 hln
      subst e1 e2
      exact sr_lstore C hd hH hl hS h kk
    · cases hn
  | astore i =>
    unfold am_nrm at hn
    dsimp only at hn
    split at hn
    · have ej := of_decide_eq_true hn
      obtain ⟨e1, e2⟩ := am_len1 hln
      subst e1 e2
      exact sr_astore_n C hd ej hH hl hS h kk
    · have ej := of_decide_eq_true hn
      subst ej
      obtain ⟨e1, e2⟩ := am_len1 hln
      subst e1 e2
      exact sr_astore C hd hH hl hS h kk
    · cases hn
  | bipush v =>
    unfold am_nrm at hn
    dsimp only at hn
    split at hn
    · obtain ⟨e1, e2⟩ := am_len1 hln
      subst e1 e2
      exact sr_iconst C hd (of_decide_eq_true hn) hH hl hS h kk
    · obtain ⟨e1, e2⟩ := am_len1 hln
      subst e1 e2
      exact sr_bipush C hd (of_decide_eq_true hn) hH hl hS h kk
    · obtain ⟨e1, e2⟩ := am_len1 hln
      subst e1 e2
      exact sr_sipush C hd (of_decide_eq_true hn) hH hl hS h kk
    · obtain ⟨e1, e2⟩ := am_len1 hln
      subst e1 e2
      obtain ⟨q1, q2⟩ := of_decide_eq_true hn
      subst q1 q2
      rcases hpl rfl with q | q
      · cases q
      · exact sr_ldci C hd q hH hl hS h kk
    · obtain ⟨e1, e2⟩ := am_len1 hln
      subst e1 e2
      obtain ⟨q1, q2⟩ := of_decide_eq_true hn
      subst q1 q2
      rcases hpl rfl with q | q
      · cases q
      · exact sr_ldcw C hd q hH hl hS h kk
    · cases hn
  | sipush v =>
    unfold am_nrm at hn
    dsimp only at hn
    split at hn
    · obtain ⟨e1, e2⟩ := am_len1 hln
      subst e1 e2
      exact sr_lconst C hd (of_decide_eq_true hn) hH hl hS h kk
    · obtain ⟨e1, e2⟩ := am_len1 hln
      subst e1 e2
      obtain ⟨q1, q2⟩ := of_decide_eq_true hn
      subst q1 q2
      rcases hpl rfl with q | q
      · cases q
      · exact sr_ldc2 C hd q hH hl hS h kk
    · cases hn
  | invokestatic i =>
    have ej := of_decide_eq_true hn
    subst ej
    obtain ⟨e1, e2⟩ := am_len1 hln
    subst e1 e2
    rcases hpl rfl with ⟨hc, hw⟩ | ⟨hc, -⟩
    · exact sr_copy C hd hw hc hf hlo hH hl hS h kk
    · unfold am_step at h
      dsimp only at h
      rw [if_neg (by omega)] at h
      split at h <;> cases h
  | invokespecial i =>
    have ej := of_decide_eq_true hn
    subst ej
    obtain ⟨e1, e2⟩ := am_len1 hln
    subst e1 e2
    rcases hpl rfl with ⟨hc, -, hw⟩ | ⟨hc, -⟩
    · exact sr_objinit C hd hw hc hf hlo hH hl hS h kk
    · unfold am_step at h
      dsimp only at h
      rw [if_neg (by omega)] at h
      split at h
      · split at h <;> cases h
      · cases h
  | invokevirtual i =>
    unfold am_step at h
    dsimp only at h
    split at h
    · split at h
      · split at h <;> cases h
      · cases h
    · split at h <;> cases h
    · cases h
  | multianewarray i k =>
    have ej := of_decide_eq_true hn
    subst ej
    obtain ⟨e1, e2⟩ := am_len1 hln
    subst e1 e2
    exact sr_mnew C hd (hpl rfl) hr1 hr2 hH hl hS h kk
  | ireturn =>
    unfold am_step at h
    dsimp only at h
    split at h
    · split at h <;> cases h
    · cases h
  | lreturn =>
    unfold am_step at h
    dsimp only at h
    split at h <;> cases h
  | areturn =>
    unfold am_step at h
    dsimp only at h
    split at h <;> cases h
  | return_ =>
    unfold am_step at h
    dsimp only at h
    split at h <;> cases h
  | _ => cases h
end AMI
