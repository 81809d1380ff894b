section AMZ
variable {K : am_C} {mi d pc n a b c0 : Nat} {ls ls' : List (Option Value)} {st st' : List Value} {g g' : am_G} {fi fi' : am_I} {fl fl' : am_L} {pc' : Nat} {sl : Array Slot}
variable {p : Program} {l : Launch} {e : Env} {R : Room} {s : State} {m : MethodId} {args : Array Value} {below : List Frame} {meth : Method} {c : Code} {H : Heap} {locs : List Loc} {cells slots : Nat} {Q : State → Prop}
theorem up1_in {f : Nat → Nat} {a n x b : Nat} (h : a ≤ b ∧ b < a + n) : up1 f a n x b = x := if_pos h
theorem up1_out {f : Nat → Nat} {a n x b : Nat} (h : b < a ∨ a + n ≤ b) : up1 f a n x b = f b := if_neg (by omega)
theorem cl2_in {α : Type} {f : Nat → Nat → α} {a n b j : Nat} {v : α} (h : a ≤ b ∧ b < a + n) : cl2 f a n v b j = v := if_pos h
theorem cl2_out {α : Type} {f : Nat → Nat → α} {a n b : Nat} {v : α} (h : b < a ∨ a + n ≤ b) : cl2 f a n v b = f b := funext fun j => if_neg (by omega)
theorem va_S.more {A : Nat → Prop} {H0 H H1 : Heap} {locs : List Loc} (h : va_S A H0 H locs) (z : H.size ≤ H1.size) (o : ∀ q : Nat, q < H.size → H1[q]? = H[q]?) : va_S A H0 H1 locs :=
  ⟨Nat.le_trans h.1 z, fun q h1 h2 => (o q (Nat.lt_of_lt_of_le h1 h.1)).trans (h.2.1 q h1 h2), h.2.2⟩
/-- one new cell's picture -/
theorem HR.grow1 {K : am_C} {H1 : Heap} {t len size : Nat} (hH : HR K g fi fl H) (hn : am_nx g < 900000) (z : H1.size = H.size + 1) (oq : ∀ q : Nat, q < H.size → H1[q]? = H[q]?) (ht : t < 13 ∨ (20 ≤ t ∧ t ≤ 27))
    (he : va_at (kD K) vwCl (H.size, am_ce K (am_mk g t len size) (cl2 fi (am_nx g) 1 0) (cl2 fl (am_nx g) 1 0) (am_nx g)) H1) : HR K (am_mk g t len size) (cl2 fi (am_nx g) 1 0) (cl2 fl (am_nx g) 1 0) H1 := by
  refine hH.grow z oq (n := 1) rfl (show am_nx g + 1 ≤ 900000 by omega) (fun j hj => ⟨up1_out hj, up1_out hj⟩) (fun j hj => cl2_out (Or.inl hj)) (fun j hj => cl2_out hj) (fun j hj => cl2_out (Or.inl hj)) (fun j hj => ?_)
  have e0 : j = 0 := by omega
  subst e0
  refine ⟨he, ?_⟩
  have : (am_mk g t len size).1 (am_nx g + 0) = t := up1_in (by show am_nx g ≤ am_nx g + 0 ∧ am_nx g + 0 < am_nx g + 1; omega)
  rw [this]
  exact ht
theorem am_mk_t {t len size : Nat} : (am_mk g t len size).1 (am_nx g) = t := up1_in ⟨Nat.le_refl _, Nat.lt_succ_self _⟩
theorem am_mk_l {t len size : Nat} : (am_mk g t len size).2.1 (am_nx g) = len := up1_in ⟨Nat.le_refl _, Nat.lt_succ_self _⟩
theorem am_mk_r {t len size j : Nat} : (am_mk g t len size).2.2.1 (am_nx g) j = none := cl2_in ⟨Nat.le_refl _, Nat.lt_succ_self _⟩
theorem am_def {t k : Nat} (ht : t < 13) (hk : k < am_nf t) : defaultValue (am_ty t k) = if am_fty t k = 2 then .null else .int 0 := by
  have h1 := am_ftA t ht k hk
  cases hf : am_fty t k with
  | zero =>
    rw [hf] at h1
    cases hty : am_ty t k <;> rw [hty] at h1 <;> first | rfl | cases h1
  | succ f =>
    cases f with
    | zero =>
      rw [hf] at h1
      cases hty : am_ty t k <;> rw [hty] at h1 <;> first | rfl | cases h1
    | succ f =>
      cases f with
      | zero =>
        rw [hf] at h1
        cases hty : am_ty t k <;> rw [hty] at h1 <;> first | rfl | cases h1
      | succ f =>
        rw [hf] at h1
        cases h1
theorem sr_new {i : Nat} (C : am_CX K mi p s m args meth c) (hd : decode (am_B mi) pc = .ok (.new i, 3)) (hp : a < 13 ∧ Cond.classLink (am_on (am_O mi)) i (am_cn a) ∈ am_T0 ∧ Cond.instantiable (am_cn a) (am_nf a) ∈ am_T0 ∧ Cond.initialized (am_cn a) ∈ am_T0) (hr1 : cells + (am_nx g' - am_nx g) ≤ R.cells) (hr2 : slots + (am_sl g' - am_sl g) ≤ R.slots)
    (hH : HR K g fi fl H) (hl : LV K sl (am_ML mi) ls) (hS : va_S (am_Fr K) s.heap H locs) (h : am_step d pc (.new i, pc + 3, a, b, c0) ls st g fi fl = some (.inl (pc', ls', st', g', fi', fl'))) (kk : am_SK K mi p l e R s m args below meth c cells slots Q g pc' ls' st' g' fi' fl') : W p l e R s m args below meth c H locs cells slots Q (F0 m pc sl (st.map (vmp K))) := by
  unfold am_step at h
  dsimp only at h
  split at h
  · rename_i hn
    cases h
    have x1 : am_nx (am_mk g a 0 (am_nf a)) - am_nx g = 1 := by show am_nx g + 1 - am_nx g = 1; omega
    have x2 : am_sl (am_mk g a 0 (am_nf a)) - am_sl g = am_nf a := by show am_sl g + am_nf a - am_sl g = am_nf a; omega
    unfold am_SK at kk
    rw [x1, x2] at kk
    rw [x1] at hr1
    rw [x2] at hr2
    have hK := C.kf.1
    have hc := am_clA a hp.1
    have hKn := hK.1 a _ hc
    refine W.newcK C.1 C.2.1 C.own (C.w hp.2.1) (C.w hp.2.2.1) (C.w hp.2.2.2) rfl hd hr1 hr2 hKn.2.1 rfl fun H1 kC hkC e1 z1 o1 => ?_
    have k := kk H1 locs sl (hH.grow1 hn z1 o1 (Or.inl hp.1) ?_) hl (hS.more (by omega) o1)
    · rw [List.map_cons] at k
      have ev : vmp K (.ref (am_nx g)) = .ref H.size := by rw [hH.1]; rfl
      rw [ev] at k
      exact k
    · rw [am_ce_o (by rw [am_mk_t]; exact hp.1), am_mk_t]
      refine ⟨_, hc, (u_born (am_ty a) C.2.2.2.2.1 (am_uwA a hp.1) hKn hkC e1 (am_tyA a hp.1)).to fun k hk => ?_⟩
      show defaultValue (am_ty a k) = (am_fs K (am_mk g a 0 (am_nf a)) (cl2 fi (am_nx g) 1 0) (am_nx g)).getD k .null
      have hk2 : k < am_nf ((am_mk g a 0 (am_nf a)).1 (am_nx g)) := by rw [am_mk_t]; exact hk
      rw [List.getD_eq_getElem?_getD, am_fs_get hk2, am_mk_t]
      show _ = am_fv K (am_mk g a 0 (am_nf a)) (cl2 fi (am_nx g) 1 0) a (am_nx g) k
      unfold am_fv
      rw [am_mk_r, cl2_in ⟨Nat.le_refl _, Nat.lt_succ_self _⟩]
      exact am_def hp.1 hk
  · cases h
theorem am_dimOk {k : Int32} (h : am_dim k = true) : ¬ k < 0 ∧ k.toNatClampNeg ≤ 65536 := by
  simp only [am_dim, Bool.and_eq_true, decide_eq_true_eq] at h
  refine ⟨am_nlt h.1, ?_⟩
  have := am_nat h.1
  omega
theorem am_comp (t : ArrayType) : componentBytes (newarray.typeOf t) ≤ 8 := by cases t <;> decide
theorem am_acT : Cond.arrayClass .int ∈ am_T0 ∧ Cond.arrayClass .boolean ∈ am_T0 ∧ Cond.arrayClass .byte ∈ am_T0 ∧ Cond.arrayClass .long ∈ am_T0 := ⟨kw_90, kw_91, kw_186, kw_234⟩
theorem sr_newa {t : ArrayType} (C : am_CX K mi p s m args meth c) (hd : decode (am_B mi) pc = .ok (.newarray t, 2)) (hp : t = am_aty a ∧ 20 ≤ a ∧ a ≤ 23) (hr1 : cells + (am_nx g' - am_nx g) ≤ R.cells) (hr2 : slots + (am_sl g' - am_sl g) ≤ R.slots)
    (hH : HR K g fi fl H) (hl : LV K sl (am_ML mi) ls) (hS : va_S (am_Fr K) s.heap H locs) (h : am_step d pc (.newarray t, pc + 2, a, b, c0) ls st g fi fl = some (.inl (pc', ls', st', g', fi', fl'))) (kk : am_SK K mi p l e R s m args below meth c cells slots Q g pc' ls' st' g' fi' fl') : W p l e R s m args below meth c H locs cells slots Q (F0 m pc sl (st.map (vmp K))) := by
  unfold am_step at h
  dsimp only at h
  split at h
  · rename_i k r
    split at h
    · rename_i hs
      obtain ⟨hdim, hn⟩ := hs
      cases h
      have x1 : am_nx (am_mk g a k.toNatClampNeg k.toNatClampNeg) - am_nx g = 1 := by show am_nx g + 1 - am_nx g = 1; omega
      have x2 : am_sl (am_mk g a k.toNatClampNeg k.toNatClampNeg) - am_sl g = k.toNatClampNeg := by show am_sl g + k.toNatClampNeg - am_sl g = _; omega
      unfold am_SK at kk
      rw [x1, x2] at kk
      rw [x1] at hr1
      rw [x2] at hr2
      have hK := C.kf.1
      have hdm := am_dimOk hdim
      have hty : (Cond.arrayClass (newarray.typeOf t)).before args s = true ∧ (am_tys K)[a - 20]? = some (kT K a, newarray.typeOf t) ∧ ("[" ++ (newarray.typeOf t).toString : String) = "[" ++ (newarray.typeOf t).toString := by
        rw [hp.1]
        rcases (show a = 20 ∨ a = 21 ∨ a = 22 ∨ a = 23 by omega) with q | q | q | q <;> rw [q]
        · exact ⟨C.w am_acT.1, rfl, rfl⟩
        · exact ⟨C.w am_acT.2.2.2, rfl, rfl⟩
        · exact ⟨C.w am_acT.2.2.1, rfl, rfl⟩
        · exact ⟨C.w am_acT.2.1, rfl, rfl⟩
      refine va_newaK C.1 C.2.1 (atype := t) hty.1 rfl hd rfl hdm.1 rfl (by have := am_comp t; have : k.toNatClampNeg * componentBytes (newarray.typeOf t) ≤ 65536 * 8 := Nat.mul_le_mul hdm.2 this; omega) hr1 hr2 rfl fun H1 cA e1 z1 o1 hAr hNm => ?_
      have hcA : cA = kT K a := by
        have h2 := (hK.2 _ _ hty.2.1).2
        rw [hp.1] at h2 hNm
        rcases (show a = 20 ∨ a = 21 ∨ a = 22 ∨ a = 23 by omega) with q | q | q | q <;> rw [q] at h2 hNm ⊢ <;> exact Option.some.inj (hNm.symm.trans h2)
      have k1 := kk H1 locs sl (hH.grow1 hn z1 o1 (Or.inr ⟨by omega, by omega⟩) ?_) hl (hS.more (by omega) o1)
      · rw [List.map_cons] at k1
        have ev : vmp K (.ref (am_nx g)) = .ref H.size := by rw [hH.1]; rfl
        rw [ev] at k1
        exact k1
      · rcases (show a = 21 ∨ (a = 20 ∨ a = 22 ∨ a = 23) by omega) with q | q
        · rw [am_ce_l (by rw [am_mk_t]; exact q), am_mk_l]
          show H1[H.size]? = some (vp_cell _ _)
          rw [e1, hcA, hp.1, q]
          refine congrArg some ?_
          rw [vp_cell_l]
          congr 1
          funext j
          rw [cl2_in ⟨Nat.le_refl _, Nat.lt_succ_self _⟩]
          rfl
        · rw [am_ce_i (by rw [am_mk_t]; exact q), am_mk_l, am_mk_t]
          show H1[H.size]? = some (vp_cell _ _)
          rw [e1, hcA, hp.1]
          refine congrArg some ?_
          rw [vp_cell_i]
          congr 1
          funext j
          rw [cl2_in ⟨Nat.le_refl _, Nat.lt_succ_self _⟩]
          rcases q with q | q | q <;> rw [q] <;> rfl
    · cases h
  · cases h
theorem sr_anew {i : Nat} (C : am_CX K mi p s m args meth c) (hd : decode (am_B mi) pc = .ok (.anewarray i, 3)) (hp : (a = 24 ∧ Cond.classLink (am_on (am_O mi)) i "LargeBubble$Blower" ∈ am_T0) ∨ (a = 25 ∧ Cond.classLink (am_on (am_O mi)) i "LargeBubble$Square" ∈ am_T0)) (hr1 : cells + (am_nx g' - am_nx g) ≤ R.cells) (hr2 : slots + (am_sl g' - am_sl g) ≤ R.slots)
    (hH : HR K g fi fl H) (hl : LV K sl (am_ML mi) ls) (hS : va_S (am_Fr K) s.heap H locs) (h : am_step d pc (.anewarray i, pc + 3, a, b, c0) ls st g fi fl = some (.inl (pc', ls', st', g', fi', fl'))) (kk : am_SK K mi p l e R s m args below meth c cells slots Q g pc' ls' st' g' fi' fl') : W p l e R s m args below meth c H locs cells slots Q (F0 m pc sl (st.map (vmp K))) := by
  unfold am_step at h
  dsimp only at h
  split at h
  · rename_i k r
    split at h
    · rename_i hs
      obtain ⟨hdim, hn⟩ := hs
      cases h
      have x1 : am_nx (am_mk g a k.toNatClampNeg k.toNatClampNeg) - am_nx g = 1 := by show am_nx g + 1 - am_nx g = 1; omega
      have x2 : am_sl (am_mk g a k.toNatClampNeg k.toNatClampNeg) - am_sl g = k.toNatClampNeg := by show am_sl g + k.toNatClampNeg - am_sl g = _; omega
      unfold am_SK at kk
      rw [x1, x2] at kk
      rw [x1] at hr1
      rw [x2] at hr2
      have hK := C.kf.1
      have hdm := am_dimOk hdim
      have hty : ∃ E, Cond.classLink (am_on (am_O mi)) i E ∈ am_T0 ∧ va_AO E s ∧ (am_tys K)[a - 20]? = some (kT K a, .object E) ∧ 24 ≤ a ∧ a ≤ 27 := by
        rcases hp with ⟨rfl, hw⟩ | ⟨rfl, hw⟩
        · exact ⟨_, hw, C.kf.2.2.2.2.1.1, rfl, by decide, by decide⟩
        · exact ⟨_, hw, C.kf.2.2.2.2.1.2.1, rfl, by decide, by decide⟩
      obtain ⟨E, hw, hAO, hT, ha1, ha2⟩ := hty
      refine W.anew C.1 C.2.1 C.own (C.w hw) (va_AO.use hAO) rfl hd rfl hdm.1 (by omega) hr1 hr2 fun cA kA comp f1 f2 f3 f4 => ?_
      generalize hH1 : H.push ({ cls := cA, slots := Array.replicate k.toNatClampNeg .null, vm := .none } : Cell) = H1
      have z1 : H1.size = H.size + 1 := by rw [← hH1, Array.size_push]
      have e1 : H1[H.size]? = some (arrV cA k.toNatClampNeg (fun _ => .null)) := by rw [← hH1, Array.getElem?_push_size, ← arrV_new]
      have o1 : ∀ q : Nat, q < H.size → H1[q]? = H[q]? := fun q hq => by rw [← hH1, Array.getElem?_push, if_neg (Nat.ne_of_lt hq)]
      have hcA : cA = kT K a := by
        obtain ⟨_, _, _, _, _, h2⟩ := (hK.2 _ _ hT).2
        exact Option.some.inj (f1.symm.trans h2)
      have k1 := kk H1 locs sl (hH.grow1 hn z1 o1 (Or.inr ⟨by omega, by omega⟩) ?_) hl (hS.more (by omega) o1)
      · rw [List.map_cons] at k1
        have ev : vmp K (.ref (am_nx g)) = .ref H.size := by rw [hH.1]; rfl
        rw [ev] at k1
        exact k1
      · rw [am_ce_q (by rw [am_mk_t]; exact ha1), am_mk_l, am_mk_t]
        show H1[H.size]? = some (vp_cell _ _)
        rw [e1, hcA, vp_cell_q]
        refine congrArg some ?_
        congr 1
        funext j
        rw [am_mk_r]
        rfl
    · cases h
  · cases h
theorem sr_objinit {i : Nat} (C : am_CX K mi p s m args meth c) (hd : decode (am_B mi) pc = .ok (.invokespecial i, 3)) (hw : Cond.methodLink (am_on (am_O mi)) i Lib.objectInit ∈ am_T0) (hc : c0 = 1) (hf : d ≤ R.frames) (hlo : 40 * d ≤ R.locals)
    (hH : HR K g fi fl H) (hl : LV K sl (am_ML mi) ls) (hS : va_S (am_Fr K) s.heap H locs) (h : am_step d pc (.invokespecial i, pc + 3, a, b, c0) ls st g fi fl = some (.inl (pc', ls', st', g', fi', fl'))) (kk : am_SK K mi p l e R s m args below meth c cells slots Q g pc' ls' st' g' fi' fl') : W p l e R s m args below meth c H locs cells slots Q (F0 m pc sl (st.map (vmp K))) := by
  unfold am_step at h
  dsimp only at h
  rw [if_pos hc] at h
  split at h
  · rename_i q r
    split at h
    · rename_i hs
      cases h
      have hcat : ((st'.map (vmp K)).map fun v => v.category).sum ≤ 8 := by
        have : (st'.map (vmp K)).map (fun v => v.category) = st'.map (fun v => v.category) := by
          rw [List.map_map]
          exact List.map_congr_left (fun v _ => vmp_cat C.hk v)
        rw [this]
        exact hs.2
      refine W.objInit C.1 C.2.1 C.own (C.w hw) (C.w kw_26) (C.w kw_27) rfl (by rw [C.2.2.1]; exact hl.1) rfl hd (by omega) (by show 2 * 0 + _ + 12 ≤ _; omega) ?_
      exact kk.k0 hH hl hS
    · cases h
  · cases h
theorem am_copyW {α : Type} (mk : α → Value) (htk : ∀ (U : State) (k : ClassId) (x : α), U.takes k (mk x)) {i : Nat} {rest : List Value} {a0 a1 : Nat} {k0 k1 : ClassId} {n0 n1 : Nat} {f f1 : Nat → α} {ty : FieldType} {sp dp k : Int32}
    (C : am_CX K mi p s m args meth c) (hd : decode (am_B mi) pc = .ok (.invokestatic i, 3)) (hw : Cond.methodLink (am_on (am_O mi)) i arraycopyName ∈ am_T0) (hml : sl.size = am_ML mi) (hA0 : ArrOfT s k0 ty) (hA1 : ArrOfT s k1 ty) (hprim : refKind ty = false)
    (hc0 : H[a0]? = some (arrV k0 n0 (fun j => mk (f j)))) (hc1 : H[a1]? = some (arrV k1 n1 (fun j => mk (f1 j)))) (h1 : 0 ≤ sp.toInt) (h2 : 0 ≤ dp.toInt) (h3 : 0 ≤ k.toInt) (h4 : sp.toNatClampNeg + k.toNatClampNeg ≤ n0) (h5 : dp.toNatClampNeg + k.toNatClampNeg ≤ n1)
    (hfit : ∀ j, j < k.toNatClampNeg → fits ty (mk (f (sp.toNatClampNeg + j))) = true) (hS : va_S (am_Fr K) s.heap H locs) (ha1 : kB K ≤ a1) (hf : 2 ≤ R.frames) (hlo : 80 ≤ R.locals) (hcat : (rest.map fun v => v.category).sum ≤ 8)
    (kk : ∀ (H1 : Heap) (locs1 : List Loc), H1.size = H.size → (∀ x : Nat, x ≠ a1 → H1[x]? = H[x]?) → H1[a1]? = some (arrV k1 n1 (fun j => mk (va_cpy f f1 sp.toNatClampNeg dp.toNatClampNeg k.toNatClampNeg j))) → va_S (am_Fr K) s.heap H1 locs1 → W p l e R s m args below meth c H1 locs1 cells slots Q (F0 m (pc + 3) sl rest)) :
    W p l e R s m args below meth c H locs cells slots Q (F0 m pc sl (.int k :: .int dp :: .ref a1 :: .int sp :: .ref a0 :: rest)) := by
  intro T hT X
  obtain ⟨hv0, k0', hk0, cm0, hkk0⟩ := hA0 n0 (fun j => mk (f j))
  obtain ⟨hv1, k1', hk1, cm1, hkk1⟩ := hA1 n1 (fun j => mk (f1 j))
  obtain ⟨vm', X', step⟩ := X.arraycopy C.1 C.own (C.w hw) (C.w kw_768) (C.w kw_767) (C.w kw_19) (src := a0) (dst := a1) (cs := arrV k0 n0 (fun j => mk (f j))) (cd := arrV k1 n1 (fun j => mk (f1 j))) (srcPos := sp) (destPos := dp) (n := k) (by rw [hT]; exact hc0) (by rw [hT]; exact hc1)
    (fun _ h => by cases h) (fun _ h => by cases h) (fun h => by cases h) (fun h => by cases h) hk0 hk1 hkk0 hkk1 (by simp [hprim]) (am_nlt h1) (am_nlt h2) (am_nlt h3)
    (by rw [am_nat h1, am_nat h3, arrV_size]; omega)
    (by rw [am_nat h2, am_nat h3, arrV_size]; omega)
    (fun vm₁ _ j hj => by
      have ee : (arrV k0 n0 (fun j => mk (f j))).slots.getD (sp.toNatClampNeg + j) .null = mk (f (sp.toNatClampNeg + j)) := by
        rw [Array.getD_eq_getD_getElem?, arrV_read _ _ (by omega)]
        rfl
      rw [ee]
      exact ⟨hfit j hj, htk _ _ _⟩)
    (g := F0 m pc sl (.int k :: .int dp :: .ref a1 :: .int sp :: .ref a0 :: rest)) rfl (by rw [C.2.2.1]; exact hml) (rest := rest) rfl (by rw [C.2.1]; exact hd) (by omega) (by
      have : nativeFrameWords "java/lang/System" "arraycopy" 5 ≤ 7 := by decide +kernel
      show 2 * 0 + _ + _ ≤ _
      omega)
  have e1 : copied (arrV k0 n0 (fun j => mk (f j))) (arrV k1 n1 (fun j => mk (f1 j))) sp dp k = arrV k1 n1 (fun j => mk (va_cpy f f1 sp.toNatClampNeg dp.toNatClampNeg k.toNatClampNeg j)) := va_copied mk k0 k1 f f1 h4
  rw [e1] at X' step
  have hl : a1 < H.size := (Array.getElem?_eq_some_iff.mp hc1).1
  have hheap : ((T.setVm vm').setCell a1 (arrV k1 n1 (fun j => mk (va_cpy f f1 sp.toNatClampNeg dp.toNatClampNeg k.toNatClampNeg j)))).heap = H.setIfInBounds a1 (arrV k1 n1 (fun j => mk (va_cpy f f1 sp.toNatClampNeg dp.toNatClampNeg k.toNatClampNeg j))) := by rw [← hT]; rfl
  have oq : ∀ q : Nat, q ≠ a1 → (H.setIfInBounds a1 (arrV k1 n1 (fun j => mk (va_cpy f f1 sp.toNatClampNeg dp.toNatClampNeg k.toNatClampNeg j))))[q]? = H[q]? := fun q hq => by simp [Array.getElem?_setIfInBounds, Ne.symm hq]
  obtain ⟨t, b1, b2⟩ := kk _ _ (by simp) oq (show (H.setIfInBounds a1 _)[a1]? = some _ by simp [Array.getElem?_setIfInBounds, hl]) ⟨by simp; exact hS.1, fun q g1 g2 => by
      rw [oq q (fun e => g2 (by rw [e]; exact ha1))]
      exact hS.2.1 q g1 g2, fun q hq => by
      rcases List.mem_append.mp hq with h | h
      · exact hS.2.2 q h
      · obtain ⟨z, -, hz⟩ := List.mem_map.mp h
        rw [← hz]
        exact ha1⟩ _ hheap X'
  exact ⟨t, step t b1, b2⟩
theorem cp2_r {α : Type} {f : Nat → Nat → α} {q0 q1 sp dp n b : Nat} (h : b ≠ q1) : cp2 f q0 q1 sp dp n b = f b := funext fun j => if_neg (fun q => h q.1)
theorem cp2_at {α : Type} {f : Nat → Nat → α} {q0 q1 sp dp n : Nat} : cp2 f q0 q1 sp dp n q1 = va_cpy (f q0) (f q1) sp dp n := by
  funext j
  unfold cp2 va_cpy
  by_cases h : dp ≤ j ∧ j < dp + n
  · rw [if_pos ⟨rfl, h⟩, if_pos h]
  · rw [if_neg (fun q => h q.2), if_neg h]
theorem sr_copy {i : Nat} (C : am_CX K mi p s m args meth c) (hd : decode (am_B mi) pc = .ok (.invokestatic i, 3)) (hw : Cond.methodLink (am_on (am_O mi)) i arraycopyName ∈ am_T0) (hc : c0 = 1) (hf : d ≤ R.frames) (hlo : 40 * d ≤ R.locals)
    (hH : HR K g fi fl H) (hl : LV K sl (am_ML mi) ls) (hS : va_S (am_Fr K) s.heap H locs) (h : am_step d pc (.invokestatic i, pc + 3, a, b, c0) ls st g fi fl = some (.inl (pc', ls', st', g', fi', fl'))) (kk : am_SK K mi p l e R s m args below meth c cells slots Q g pc' ls' st' g' fi' fl') : W p l e R s m args below meth c H locs cells slots Q (F0 m pc sl (st.map (vmp K))) := by
  unfold am_step at h
  dsimp only at h
  rw [if_pos hc] at h
  split at h
  · rename_i k dp q1 sp q0 r
    split at h
    · rename_i hs
      obtain ⟨hd2, hcat0, h1, h2, h3, h4, h5, htt⟩ := hs
      have hcat : ((r.map (vmp K)).map fun v => v.category).sum ≤ 8 := by
        have : (r.map (vmp K)).map (fun v => v.category) = r.map (fun v => v.category) := by
          rw [List.map_map]
          exact List.map_congr_left (fun v _ => vmp_cat C.hk v)
        rw [this]
        exact hcat0
      have hK := C.kf.1
      split at h
      · rename_i ht
        cases h
        have b0 := hH.ai (q := q0) (Or.inl ht)
        have b1 := hH.ai (q := q1) (Or.inl (by omega))
        refine am_copyW (ty := .int) (fun z => .int z) (fun _ _ _ => trivial) C hd hw hl.1 ((hK.2 0 (kT K 20, .int) rfl).1) ((hK.2 0 (kT K 20, .int) rfl).1) rfl (f := fi q0) (f1 := fi q1) (by rw [ht] at b0; exact b0) (by rw [← htt, ht] at b1; exact b1) h1 h2 h3 h4 h5 (fun j _ => rfl) hS (by omega) (by omega) (by omega) hcat fun H1 locs1 z oq ee hS1 => ?_
        refine kk.k0 (hH.set (i := q1) (by omega) z oq rfl rfl rfl (fun _ _ => rfl) (fun j hj => cp2_r hj) (fun _ _ => rfl) ?_) hl hS1
        rw [am_ce_i (Or.inl (by omega)), cp2_at]
        show H1[kB K + q1]? = some (vp_cell _ _)
        rw [ee, ← htt, ht]
        rfl
      · split at h
        · rename_i ht
          cases h
          have hbits := List.all_eq_true.mp ht.2
          have b0 := hH.ai (q := q0) (Or.inr (Or.inr ht.1))
          have b1 := hH.ai (q := q1) (Or.inr (Or.inr (by omega)))
          refine am_copyW (ty := .boolean) (fun z => .int z) (fun _ _ _ => trivial) C hd hw hl.1 ((hK.2 3 (kT K 23, .boolean) rfl).1) ((hK.2 3 (kT K 23, .boolean) rfl).1) rfl (f := fi q0) (f1 := fi q1) (by rw [ht.1] at b0; exact b0) (by rw [← htt, ht.1] at b1; exact b1) h1 h2 h3 h4 h5 (fun j hj => (am_bitOk (hbits j (List.mem_range.mpr hj))).2) hS (by omega) (by omega) (by omega) hcat fun H1 locs1 z oq ee hS1 => ?_
          refine kk.k0 (hH.set (i := q1) (by omega) z oq rfl rfl rfl (fun _ _ => rfl) (fun j hj => cp2_r hj) (fun _ _ => rfl) ?_) hl hS1
          rw [am_ce_i (Or.inr (Or.inr (by omega))), cp2_at]
          show H1[kB K + q1]? = some (vp_cell _ _)
          rw [ee, ← htt, ht.1]
          rfl
        · split at h
          · rename_i ht
            cases h
            have b0 := hH.al (q := q0) ht
            have b1 := hH.al (q := q1) (by omega)
            refine am_copyW (ty := .long) (fun z => .long z) (fun _ _ _ => trivial) C hd hw hl.1 ((hK.2 1 (kT K 21, .long) rfl).1) ((hK.2 1 (kT K 21, .long) rfl).1) rfl (f := fl q0) (f1 := fl q1) b0 b1 h1 h2 h3 h4 h5 (fun j _ => rfl) hS (by omega) (by omega) (by omega) hcat fun H1 locs1 z oq ee hS1 => ?_
            refine kk.k0 (hH.set (i := q1) (by omega) z oq rfl rfl rfl (fun _ _ => rfl) (fun _ _ => rfl) (fun j hj => cp2_r hj) ?_) hl hS1
            rw [am_ce_l (by omega), cp2_at]
            show H1[kB K + q1]? = some (vp_cell _ _)
            rw [ee]
            rfl
          · cases h
    · cases h
  · cases h
end AMZ
