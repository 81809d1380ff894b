section AMH
variable {K : am_C} {mi d pc n a b c0 : Nat} {ls ls' : List (Option Value)} {st st' : List Value} {g g' : am_G} {fi fi' : am_I} {fl fl' : am_L} {pc' : Nat} {sl : Array Slot}
variable {p : Program} {l : Launch} {e : Env} {R : Room} {s : State} {m : MethodId} {args : Array Value} {below : List Frame} {meth : Method} {c : Code} {H : Heap} {locs : List Loc} {cells slots : Nat} {Q : State → Prop}
theorem am_sub_lt {t b : Nat} (hb : b < 13) (h : am_sub t b = true) : t < 13 := by
  simp [am_sub] at h
  omega
theorem am_in_vp {i : Int32} {n : Nat} (h : am_in i n = true) : vp_in i n := by
  simp only [am_in, Bool.and_eq_true, decide_eq_true_eq] at h
  exact vp_in_iff.mpr h
theorem am_in_lt {i : Int32} {n : Nat} (h : am_in i n = true) : i.toNatClampNeg < n := by
  have h1 := am_in_vp h
  exact Nat.not_le.mp fun q => h1 (Or.inr q)
theorem am_nat {z : Int32} (h : 0 ≤ z.toInt) : z.toInt = (z.toNatClampNeg : Int) := by
  show z.toInt = ((z.toInt.toNat : Nat) : Int)
  omega
theorem am_nlt {z : Int32} (h : 0 ≤ z.toInt) : ¬ z < 0 := by
  intro q
  have := Int32.lt_iff_toInt_lt.mp q
  have e : (0 : Int32).toInt = 0 := rfl
  omega
theorem HR.ob {K : am_C} (hH : HR K g fi fl H) {q : Nat} (ht : g.1 q < 13) : va_at (kD K) vwCl (kB K + q, .inr (g.1 q, am_fs K g fi q)) H := by
  have h := hH.at' (i := q) (by omega)
  rwa [am_ce_o ht] at h
theorem am_tysI {K : am_C} {t : Nat} (h : t = 20 ∨ t = 22 ∨ t = 23) : ∃ ty, (am_tys K)[t - 20]? = some (kT K t, ty) ∧ refKind ty = false ∧ (t = 20 → ty = .int) ∧ (t = 22 → ty = .byte) ∧ (t = 23 → ty = .boolean) := by
  rcases h with rfl | rfl | rfl
  · exact ⟨.int, rfl, rfl, by decide, by decide, by decide⟩
  · exact ⟨.byte, rfl, rfl, by decide, by decide, by decide⟩
  · exact ⟨.boolean, rfl, rfl, by decide, by decide, by decide⟩
theorem sr_getf {i : Nat} (C : am_CX K mi p s m args meth c) (hd : decode (am_B mi) pc = .ok (.getfield i, 3)) (hp : (b = 13 ∧ ((a = 0 ∧ Cond.fieldLink (am_on (am_O mi)) i "java/lang/String" "value" "[B" ∈ am_T0) ∨ (a = 1 ∧ Cond.fieldLink (am_on (am_O mi)) i "java/lang/String" "coder" "B" ∈ am_T0))) ∨ (b < 13 ∧ am_okF (am_on (am_O mi)) i a b c0))
    (hH : HR K g fi fl H) (hl : LV K sl (am_ML mi) ls) (hS : va_S (am_Fr K) s.heap H locs) (h : am_step d pc (.getfield i, pc + 3, a, b, c0) ls st g fi fl = some (.inl (pc', ls', st', g', fi', fl'))) (kk : am_SK K mi p l e R s m args below meth c cells slots Q g pc' ls' st' g' fi' fl') : W p l e R s m args below meth c H locs cells slots Q (F0 m pc sl (st.map (vmp K))) := by
  unfold am_step at h
  dsimp only at h
  split at h
  · rename_i q r
    split at h
    · rename_i hs
      cases h
      have k := kk.k0 hH hl hS
      rcases hp with ⟨rfl, -⟩ | ⟨hb, ref, nm, ds, hw, hF⟩
      · simp [am_sub] at hs
        have := hH.lt (i := q) (by omega)
        have h2 := (hH.2.2.1 q this).2
        omega
      have ht := am_sub_lt hb hs
      obtain ⟨hk, e1, e2, e3, -, e5⟩ := hF _ ht hs
      refine va_get (D := kD K) (ci := g.1 q) C.1 C.2.1 (Ts := am_T0) C.2.2.2.2.1 (am_uwA _ ht) C.own C.kf.1 (va_P1 (hH.ob ht)) 0 rfl (am_clA _ ht) a hk (ref := ref) (by rw [e1, e2]; exact C.w hw) ?_ (am_fs_get hk) hd ?_
      · rcases e5 with e5 | e5
        · rw [e5]
          exact fun _ z => z
        · rw [e1, e2]
          exact fun x hx => u_same (C.w e5) x hx
      · have ev : am_fv K g fi (g.1 q) q a = vmp K (if c0 = 2 then am_rv (g.2.2.1 q a) else .int (fi q a)) := by
          unfold am_fv
          rw [e3]
          split
          · rw [vmp_rv]
          · rfl
        rw [ev]
        exact k
    · cases h
  · rename_i kq r
    split at h
    · rename_i hs
      obtain ⟨hb, hk1, hk5⟩ := hs
      cases h
      have k := kk.k0 hH hl hS
      have hp := (hp.resolve_right (fun q => by have := q.1; omega)).2
      obtain ⟨j, rfl⟩ : ∃ j, kq = j + 1 := ⟨kq - 1, by omega⟩
      have hsp := C.kf.2.2.2.2.2.2.2.2.2.2.2.2 j (by omega)
      have hvs := C.kf.2.2.2.2.2.2.1.1.1
      have e0 : vmp K (.retAddr (j + 1)) = .ref (kK K j) := hsp.1
      rw [List.map_cons, e0]
      rcases hp with ⟨rfl, hw⟩ | ⟨rfl, hw⟩
      · have e1 : vmp K (.retAddr (j + 1 + 100)) = .ref (kV K j) := hsp.2
        rw [if_pos rfl, List.map_cons, e1] at k
        exact va_getX (i := j) (v := fun j => .ref (kV K j)) C.1 C.2.1 (fun i hi => (hvs i hi).2.2.1) (by omega) hS C.own (C.w hw) (fun _ z => z) hd k
      · rw [if_neg (by decide), List.map_cons] at k
        exact va_getX (i := j) (v := fun j => .int 0) C.1 C.2.1 (fun i hi => (hvs i hi).2.1) (by omega) hS C.own (C.w hw) (fun _ z => z) hd k
    · cases h
  · cases h
/-- a field is written -/
theorem am_putW {i q : Nat} {v : Value} {rest : List Value} (C : am_CX K mi p s m args meth c) (hd : decode (am_B mi) pc = .ok (.putfield i, 3)) (hb : b < 13) (hF : am_okF (am_on (am_O mi)) i a b c0) (hhd : am_hd mi (.putfield i) a b c0 = true) (hs : am_sub (g.1 q) b = true)
    (hH : HR K g fi fl H) (hS : va_S (am_Fr K) s.heap H locs) (hn : narrow (am_ty (g.1 q) a) v = v) (hfit : fits (am_ty (g.1 q) a) v = true)
    (kk : ∀ (H1 : Heap) (locs1 : List Loc), H1.size = H.size → (∀ x : Nat, x ≠ kB K + q → H1[x]? = H[x]?) → va_at (kD K) vwCl (kB K + q, .inr (g.1 q, (am_fs K g fi q).set a v)) H1 → va_S (am_Fr K) s.heap H1 locs1 → W p l e R s m args below meth c H1 locs1 cells slots Q (F0 m (pc + 3) sl rest)) :
    W p l e R s m args below meth c H locs cells slots Q (F0 m pc sl (v :: .ref (kB K + q) :: rest)) := by
  have ht := am_sub_lt hb hs
  obtain ⟨ref, nm, ds, hw, hF⟩ := hF
  obtain ⟨hk, e1, e2, e3, e4, e5⟩ := hF _ ht hs
  have hK := C.kf.1
  have hts := C.2.2.2.2.1
  have hin := am_uwA _ ht
  have hc := am_clA _ ht
  have hap := va_apart (own := "") (Ts := am_T0) (args := args) hts hin (am_ty (g.1 q)) (am_tyA _ ht) (am_nmA _ ht) hK hc
  have hsame : ∀ x, s.fieldFound? (am_T (g.1 q) a).1 (am_T (g.1 q) a).2.1 (am_T (g.1 q) a).2.2.1 = some x → s.fieldFound? ref (am_T (g.1 q) a).2.1 (am_T (g.1 q) a).2.2.1 = some x := by
    rcases e5 with e5 | e5
    · rw [e5]
      exact fun _ z => z
    · rw [e1, e2]
      exact fun x hx => u_same (C.w e5) x hx
  have hlink : (Cond.fieldLink (am_on (am_O mi)) i ref (am_T (g.1 q) a).2.1 (am_T (g.1 q) a).2.2.1).before args s = true := by rw [e1, e2]; exact C.w hw
  obtain ⟨r, h1, cell, q1, q2, q3, q4⟩ := hH.ob ht
  have hr : r = (am_cn (g.1 q), am_T (g.1 q), am_nf (g.1 q)) := Option.some.inj (h1.symm.trans hc)
  subst hr
  obtain ⟨hSl, hfc, kC, hkC, hkind⟩ := hK.1 (g.1 q) _ hc
  obtain ⟨cf, kf, fi0, f, hi, hsl⟩ := hSl a hk
  have hlen : a < (am_fs K g fi q).length := by rw [am_fs_len]; exact hk
  have hst := (u_facts hfc hkC (u_lays hts hin hk) hi).1
  have fin : ∀ H' : Heap, H'[kB K + q]? = some (cell.setSlot f.slot v) → H'.size = H.size → (∀ x, x ≠ kB K + q → H'[x]? = H[x]?) → W p l e R s m args below meth c H' (locs ++ [⟨kB K + q, f.slot⟩]) cells slots Q (F0 m (pc + 3) sl rest) := fun H' z1 z2 z3 => by
    rw [hsl] at z1 ⊢
    exact kk H' _ z2 z3 ⟨_, hc, t_OB.to (V := updV (vp_V (am_fs K g fi q)) a v) ⟨_, z1, q2, q3, t_set q4 hap hk v⟩ (fun j _ => vp_updV_set hlen v j)⟩ (hS.put z2 z3 (show kB K ≤ kB K + q by omega))
  cases hfin : (am_T (g.1 q) a).2.2.2 with
  | false =>
    have hlay := hts _ (hin _ (u_in_lay hk))
    unfold u_lay at hlay
    rw [if_neg (by rw [hfin]; decide)] at hlay
    have h6 := u_store hfc hkC hkind hlay hi (am_tyA _ ht a hk) hn hfit
    exact W.putK C.1 C.2.1 (f := f) ⟨C.own, hlink, ⟨_, _, _, hsame _ hi⟩, hst⟩ (by rw [q2]; exact h6) q1 q3 (by rw [hsl]; exact k2_hasslot (q4 a hk)) rfl rfl hd fin
  | true =>
    have hlay := hts _ (hin _ (u_in_lay hk))
    unfold u_lay at hlay
    rw [if_pos hfin] at hlay
    have hb2 : am_fin b a = true := by rw [← e4.2, hfin]
    simp only [am_hd, hb2, Bool.not_true, Bool.false_or, Bool.and_eq_true, beq_iff_eq] at hhd
    have hdecl : (am_T (g.1 q) a).1 = am_on (am_O mi) := by
      rw [e4.1, hhd.2]
      have : ∀ t, t < 13 → am_cn t = am_on t := by decide +kernel
      exact this b hb
    have hcf : m.cls = cf := by
      obtain ⟨_, _, c', _, _, _, -, -, hf', -, -, -, hown2, -⟩ := Cond.laysFinal_spec hlay
      have e1 : c' = cf := by have := hi.symm.trans hf'; simp at this; exact this.1.symm
      rw [hdecl] at hown2
      rw [← e1]; exact Option.some.inj (C.own.symm.trans hown2)
    have h6 := u_fits hfc hkC hkind (Or.inr hlay) hi (am_tyA _ ht a hk) hn hfit
    exact W.putFinK C.1 C.2.1 C.own hlink (hsame _ hi) hst hcf (C.2.2.2.2.2.1 hhd.1) (by rw [q2]; exact h6) q1 q3 (by rw [hsl]; exact k2_hasslot (q4 a hk)) rfl rfl hd fin
theorem am_fs_setI {q k : Nat} {x : Int32} (hf : am_fty (g.1 q) k ≠ 2) : (am_fs K g fi q).set k (.int x) = am_fs K g (up2 fi q k x) q := by
  apply List.ext_getElem?
  intro j
  rw [List.getElem?_set]
  by_cases hj : j < am_nf (g.1 q)
  · rw [am_fs_get hj, am_fs_get hj]
    split
    · rename_i e
      subst e
      rw [if_pos (by rw [am_fs_len]; exact hj)]
      unfold am_fv
      rw [if_neg hf, up2_s]
    · rename_i e
      unfold am_fv
      rw [up2_n (by omega)]
  · have h1 : (am_fs K g fi q)[j]? = none := List.getElem?_eq_none (by rw [am_fs_len]; omega)
    have h2 : (am_fs K g (up2 fi q k x) q)[j]? = none := List.getElem?_eq_none (by rw [am_fs_len]; omega)
    rw [h1, h2]
    split
    · rename_i e
      subst e
      rw [if_neg (by rw [am_fs_len]; exact hj)]
    · rfl
theorem am_fs_setR {q k : Nat} {x : Option Nat} (hf : am_fty (g.1 q) k = 2) : (am_fs K g fi q).set k (va_rf (am_ro K x)) = am_fs K (g.1, g.2.1, up2 g.2.2.1 q k x, g.2.2.2) fi q := by
  apply List.ext_getElem?
  intro j
  rw [List.getElem?_set]
  by_cases hj : j < am_nf (g.1 q)
  · rw [am_fs_get hj, am_fs_get (g := (g.1, g.2.1, up2 g.2.2.1 q k x, g.2.2.2)) hj]
    split
    · rename_i e
      subst e
      rw [if_pos (by rw [am_fs_len]; exact hj)]
      unfold am_fv
      rw [if_pos hf]
      show some (va_rf (am_ro K x)) = some (va_rf (am_ro K (up2 g.2.2.1 q k x q k)))
      rw [up2_s]
    · rename_i e
      unfold am_fv
      dsimp only
      rw [up2_n (by omega)]
  · have h1 : (am_fs K g fi q)[j]? = none := List.getElem?_eq_none (by rw [am_fs_len]; omega)
    have h2 : (am_fs K (g.1, g.2.1, up2 g.2.2.1 q k x, g.2.2.2) fi q)[j]? = none := List.getElem?_eq_none (by rw [am_fs_len]; show am_nf (g.1 q) ≤ j; omega)
    rw [h1, h2]
    split
    · rename_i e
      subst e
      rw [if_neg (by rw [am_fs_len]; exact hj)]
    · rfl
theorem am_ftr {t k : Nat} (ht : t < 13) (hk : k < am_nf t) (h : am_fty t k = 2) (v : Value) (hv : v = .null ∨ ∃ a, v = .ref a) : narrow (am_ty t k) v = v ∧ fits (am_ty t k) v = true := by
  have h1 := am_ftA t ht k hk
  rw [h] at h1
  simp only [am_ftOk] at h1
  cases hty : am_ty t k with
  | object nm => rcases hv with rfl | ⟨a, rfl⟩ <;> exact ⟨rfl, rfl⟩
  | array ty => rcases hv with rfl | ⟨a, rfl⟩ <;> exact ⟨rfl, rfl⟩
  | _ => rw [hty] at h1; cases h1
theorem am_bitOk {x : Int32} (h : am_bit x = true) : narrow .boolean (.int x) = .int x ∧ fits .boolean (.int x) = true := by
  simp only [am_bit, Bool.or_eq_true, beq_iff_eq] at h
  rcases h with rfl | rfl
  · exact ⟨rfl, rfl⟩
  · exact ⟨rfl, rfl⟩
theorem am_fti {t k : Nat} {x : Int32} (ht : t < 13) (hk : k < am_nf t) (h : am_fty t k < 2) (hx : am_fty t k = 0 ∨ am_bit x = true) : narrow (am_ty t k) (.int x) = .int x ∧ fits (am_ty t k) (.int x) = true := by
  have h1 := am_ftA t ht k hk
  rcases (show am_fty t k = 0 ∨ am_fty t k = 1 by omega) with e | e
  · rw [e] at h1
    simp only [am_ftOk] at h1
    cases hty : am_ty t k with
    | int => exact ⟨rfl, rfl⟩
    | _ => rw [hty] at h1; cases h1
  · rw [e] at h1
    simp only [am_ftOk] at h1
    cases hty : am_ty t k with
    | boolean => exact am_bitOk (hx.resolve_left (by omega))
    | _ => rw [hty] at h1; cases h1
theorem sr_putf {i : Nat} (C : am_CX K mi p s m args meth c) (hd : decode (am_B mi) pc = .ok (.putfield i, 3)) (hp : b < 13 ∧ am_okF (am_on (am_O mi)) i a b c0) (hhd : am_hd mi (.putfield i) a b c0 = true)
    (hH : HR K g fi fl H) (hl : LV K sl (am_ML mi) ls) (hS : va_S (am_Fr K) s.heap H locs) (h : am_step d pc (.putfield i, pc + 3, a, b, c0) ls st g fi fl = some (.inl (pc', ls', st', g', fi', fl'))) (kk : am_SK K mi p l e R s m args below meth c cells slots Q g pc' ls' st' g' fi' fl') : W p l e R s m args below meth c H locs cells slots Q (F0 m pc sl (st.map (vmp K))) := by
  unfold am_step at h
  dsimp only at h
  have facts : ∀ q, am_sub (g.1 q) b = true → g.1 q < 13 ∧ a < am_nf (g.1 q) ∧ am_fty (g.1 q) a = c0 := fun q hs => by
    obtain ⟨ref, nm, ds, hw, hF⟩ := hp.2
    have ht := am_sub_lt hp.1 hs
    obtain ⟨hk, e1, e2, e3, -, e5⟩ := hF _ ht hs
    exact ⟨ht, hk, e3⟩
  split at h
  · rename_i x q r
    split at h
    · rename_i hs
      cases h
      obtain ⟨ht, hk, e3⟩ := facts q hs.1
      have hn := am_fti (x := x) ht hk (by omega) (by rw [e3]; exact hs.2.2)
      exact am_putW C hd hp.1 hp.2 hhd hs.1 hH hS hn.1 hn.2 (fun H1 locs1 z oq he hS1 => kk.k0 (hH.setI (by omega) z oq (by rw [am_ce_o ht, ← am_fs_setI (by omega)]; exact he)) hl hS1)
    · cases h
  · rename_i x q r
    split at h
    · rename_i hs
      cases h
      obtain ⟨ht, hk, e3⟩ := facts q hs.1
      have hn := am_ftr ht hk (by omega) (.ref (kB K + x)) (Or.inr ⟨_, rfl⟩)
      exact am_putW C hd hp.1 hp.2 hhd hs.1 hH hS hn.1 hn.2 (fun H1 locs1 z oq he hS1 => kk.k1 rfl rfl (hH.setR (x := some x) (by omega) z oq (by rw [am_ce_o (g := (g.1, g.2.1, up2 g.2.2.1 q a (some x), g.2.2.2)) ht, ← am_fs_setR (by omega)]; exact he)) hl hS1)
    · cases h
  · rename_i q r
    split at h
    · rename_i hs
      cases h
      obtain ⟨ht, hk, e3⟩ := facts q hs.1
      have hn := am_ftr ht hk (by omega) .null (Or.inl rfl)
      exact am_putW C hd hp.1 hp.2 hhd hs.1 hH hS hn.1 hn.2 (fun H1 locs1 z oq he hS1 => kk.k1 rfl rfl (hH.setR (x := none) (by omega) z oq (by rw [am_ce_o (g := (g.1, g.2.1, up2 g.2.2.1 q a none, g.2.2.2)) ht, ← am_fs_setR (by omega)]; exact he)) hl hS1)
    · cases h
  · cases h
theorem am_w0 : True := by
  have h1 := @Jvm.Stand.invokestaticUp
  have h2 := @Jvm.Stand.multianewarray2F
  trivial
end AMH
