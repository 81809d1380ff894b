section AMR
variable {K : am_C} {mi d pc n a b c0 y : Nat} {ls ls' : List (Option Value)} {st st' avs r : List Value} {g g' g1 : am_G} {fi fi' fi1 : am_I} {fl fl' fl1 : am_L} {pc' : Nat} {sl : Array Slot} {v : Option Value}
variable {p : Program} {l : Launch} {e : Env} {R : Room} {s : State} {m : MethodId} {args : Array Value} {below : List Frame} {meth : Method} {c : Code} {H : Heap} {locs : List Loc} {cells slots mc ms : Nat} {Q : State → Prop}
theorem am_mono {E : am_E} (h : am_step d pc E ls st g fi fl = some (.inl (pc', ls', st', g', fi', fl'))) : am_nx g ≤ am_nx g' ∧ am_sl g ≤ am_sl g' := by
  obtain ⟨op, n, a, b, c0⟩ := E
  cases op <;> unfold am_step at h <;> dsimp only at h <;> (repeat' (first | (cases h; done) | split at h)) <;> first
    | (cases h; exact ⟨Nat.le_refl _, Nat.le_refl _⟩)
    | (cases h; exact ⟨Nat.le_succ _, Nat.le_add_right _ _⟩)
    | (cases h; exact ⟨by show am_nx g ≤ am_nx g + 1 + _; omega, Nat.le_add_right _ _⟩)
def am_rok (mi : Nat) (op : Instr) (v : Option Value) : Prop := match op, v with
  | .ireturn, some (.int x) => ∃ ty, am_Rt mi = some ty ∧ narrow ty (.int x) = .int x
  | .lreturn, some (.long _) => am_Rt mi = some .long
  | .areturn, some (.ref _) => ∃ nm, am_Rt mi = some (.object nm)
  | .areturn, some .null => ∃ nm, am_Rt mi = some (.object nm)
  | .return_, none => am_Rt mi = none
  | _, _ => False
theorem am_retInv {op : Instr} (hE : am_CT mi pc = some (op, n, a, b, c0)) (h : am_step d pc (op, n, a, b, c0) ls st g fi fl = some (.inr (.inl v))) : st = v.toList ∧ am_rok mi op v ∧ decode (am_B mi) pc = .ok (op, 1) := by
  have hck := am_ckA hE
  have h0 : op ≠ .nop := fun q => by
    subst q
    cases h
  obtain ⟨j, len, hd, hn, hln, hhd⟩ := am_chkInv h0 hck
  cases op with
  | ireturn =>
    have ej := of_decide_eq_true hn
    subst ej
    obtain ⟨e1, e2⟩ := am_len1 hln
    subst e1 e2
    unfold am_step at h
    dsimp only at h
    split at h
    · rename_i x
      split at h
      · rename_i hf
        cases h
        refine ⟨rfl, ?_, hd⟩
        unfold am_hd at hhd
        dsimp only at hhd
        split at hhd
        · rename_i hr
          exact ⟨_, hr, rfl⟩
        · rename_i hr
          exact ⟨_, hr, (am_bitOk hf).1⟩
        · rename_i hr
          have hx : x.toInt8.toInt32 = x := of_decide_eq_true hf
          refine ⟨_, hr, ?_⟩
          have := pk_nb x
          rw [hx] at this
          exact this
        · rename_i hr
          have hx : (x.toUInt32 % 65536).toInt32 = x := of_decide_eq_true hf
          refine ⟨_, hr, ?_⟩
          have := pk_nc x
          rw [hx] at this
          exact this
        · cases hhd
      · cases h
    · cases h
  | lreturn =>
    have ej := of_decide_eq_true hn
    subst ej
    obtain ⟨e1, e2⟩ := am_len1 hln
    subst e1 e2
    unfold am_step at h
    dsimp only at h
    split at h
    · cases h
      refine ⟨rfl, ?_, hd⟩
      unfold am_hd at hhd
      dsimp only at hhd
      split at hhd
      · rename_i hr
        exact hr
      · cases hhd
    · cases h
  | areturn =>
    have ej := of_decide_eq_true hn
    subst ej
    obtain ⟨e1, e2⟩ := am_len1 hln
    subst e1 e2
    unfold am_step at h
    dsimp only at h
    have hr : ∃ nm, am_Rt mi = some (.object nm) := by
      unfold am_hd at hhd
      dsimp only at hhd
      split at hhd
      · rename_i nm hr
        exact ⟨nm, hr⟩
      · cases hhd
    split at h
    · cases h
      exact ⟨rfl, hr, hd⟩
    · cases h
      exact ⟨rfl, hr, hd⟩
    · cases h
  | return_ =>
    have ej := of_decide_eq_true hn
    subst ej
    obtain ⟨e1, e2⟩ := am_len1 hln
    subst e1 e2
    unfold am_step at h
    dsimp only at h
    split at h
    · cases h
      refine ⟨rfl, ?_, hd⟩
      unfold am_hd at hhd
      dsimp only at hhd
      split at hhd
      · rename_i hr
        exact hr
      · cases hhd
    · cases h
  | _ => first | (cases h; done) | (unfold am_step at h; dsimp only at h; repeat' (first | (cases h; done) | split at h))
def am_RT (K : am_C) (mi : Nat) (p : Program) (l : Launch) (e : Env) (R : Room) (s : State) (m : MethodId) (args : Array Value) (below : List Frame) (meth : Method) (c : Code) (mc ms : Nat) (Q : State → Prop) (v : Option Value) (g' : am_G) (fi' : am_I) (fl' : am_L) : Prop :=
  ∀ (op : Instr) (pc : Nat) (sl : Array Slot) (H1 : Heap) (locs1 : List Loc) (cells1 slots1 : Nat), decode (am_B mi) pc = .ok (op, 1) → am_rok mi op v → HR K g' fi' fl' H1 → va_S (am_Fr K) s.heap H1 locs1 → cells1 ≤ mc → slots1 ≤ ms → W p l e R s m args below meth c H1 locs1 cells1 slots1 Q (F0 m pc sl (v.toList.map (vmp K)))
theorem am_rtMQ (C : am_CX K mi p s m args meth c) (hr : meth.sig.returnType = am_Rt mi) (hlocks : meth.locks = false) : am_RT K mi p l e R s m args below meth c mc ms (MQ below (am_Qc K v g' fi' fl') args s mc ms (am_Fr K)) v g' fi' fl' := by
  intro op pc sl H1 locs1 cells1 slots1 hd hrok hH hS h1 h2
  refine W.widen h1 h2 ?_
  have hq : ∀ t : State, t.heap = H1 → s.WarmedH t.vm → am_Qc K v g' fi' fl' args s (.returned (v.map (vmp K))) t := fun t ht _ => ⟨rfl, by rw [ht]; exact hH, hS.F ht⟩
  unfold am_rok at hrok
  split at hrok
  · obtain ⟨ty, h3, h4⟩ := hrok
    exact W.zret C.1 C.2.1 (hr.trans h3) h4 hq hS.2.2 hd hlocks
  · exact W.lret C.1 C.2.1 (hr.trans hrok) hq hS.2.2 hd hlocks
  · obtain ⟨nm, h3⟩ := hrok
    exact W.aret C.1 C.2.1 (hr.trans h3) (Or.inl ⟨nm, rfl⟩) (Or.inr ⟨_, rfl⟩) hq hS.2.2 hd hlocks
  · obtain ⟨nm, h3⟩ := hrok
    exact W.aret C.1 C.2.1 (hr.trans h3) (Or.inl ⟨nm, rfl⟩) (Or.inl rfl) hq hS.2.2 hd hlocks
  · exact W.vret C.1 C.2.1 (hr.trans hrok) hq hS.2.2 hd hlocks
  · exact hrok.elim
theorem am_iniOk : ∀ y, y < 212 → am_ini y = true → (am_N y).name = "<init>" := by decide +kernel
theorem am_flatLen (hk : ∀ k, kS K k = .null ∨ ∃ a, kS K k = .ref a) (avs : List Value) : (lg_sl (avs.map (vmp K))).length = (am_flat avs).length := by
  induction avs with
  | nil => rfl
  | cons x avs ih =>
    have h1 : lg_sl ((x :: avs).map (vmp K)) = (if (vmp K x).category = 2 then [Slot.val (vmp K x), .second] else [.val (vmp K x)]) ++ lg_sl (avs.map (vmp K)) := rfl
    rw [h1, vmp_cat hk]
    unfold am_flat
    split
    · simp [ih]
    · simp [ih]
theorem am_flatAt (hk : ∀ k, kS K k = .null ∨ ∃ a, kS K k = .ref a) (avs : List Value) : ∀ (o i : Nat) (v : Value), (am_flat avs)[i]? = some (some v) → (o + i, vmp K v) ∈ lv_args o (avs.map (vmp K)) := by
  induction avs with
  | nil =>
    intro o i v h
    simp [am_flat] at h
  | cons x avs ih =>
    intro o i v h
    unfold am_flat at h
    have h1 : lv_args o ((x :: avs).map (vmp K)) = (o, vmp K x) :: lv_args (if (vmp K x).category = 2 then o + 2 else o + 1) (avs.map (vmp K)) := rfl
    rw [h1, vmp_cat hk]
    split at h
    · rename_i hc
      rw [if_pos hc]
      cases i with
      | zero =>
        simp at h
        subst h
        exact List.mem_cons_self
      | succ i =>
        cases i with
        | zero => simp at h
        | succ i =>
          have := ih (o + 2) i v (by simpa using h)
          rw [show o + (i + 1 + 1) = o + 2 + i by omega]
          exact List.mem_cons_of_mem _ this
    · rename_i hc
      rw [if_neg hc]
      cases i with
      | zero =>
        simp at h
        subst h
        exact List.mem_cons_self
      | succ i =>
        have := ih (o + 1) i v (by simpa using h)
        rw [show o + (i + 1) = o + 1 + i by omega]
        exact List.mem_cons_of_mem _ this
theorem am_entLV (hk : ∀ k, kS K k = .null ∨ ∃ a, kS K k = .ref a) {avs : List Value} {N : Nat} (hle : (am_flat avs).length ≤ N) : LV K ((lg_sl (avs.map (vmp K)) ++ List.replicate (N - (lg_sl (avs.map (vmp K))).length) Slot.unset).toArray) N (am_ent avs N) := by
  have hl := lv_entry (avs.map (vmp K)) (n := N) (by rw [am_flatLen hk]; exact hle)
  refine ⟨hl.1, by unfold am_ent; simp; omega, hl.2.1, fun i w h => ?_⟩
  unfold am_ent at h
  by_cases hi : i < (am_flat avs).length
  · rw [List.getElem?_append_left hi] at h
    have := hl.2.2 _ (am_flatAt hk avs 0 i w h)
    simpa using this
  · rw [List.getElem?_append_right (by omega), List.getElem?_replicate] at h
    split at h <;> cases h
/-- what the small machine does, the real one does -/
theorem am_snd : ∀ (n d mi pc : Nat) (ls : List (Option Value)) (st : List Value) (g : am_G) (fi : am_I) (fl : am_L) (v : Option Value) (g' : am_G) (fi' : am_I) (fl' : am_L), am_run n d mi pc ls st g fi fl = some (v, g', fi', fl') →
    am_nx g ≤ am_nx g' ∧ am_sl g ≤ am_sl g' ∧ ∀ (K : am_C) (p : Program) (l : Launch) (e : Env) (R : Room) (s : State) (m : MethodId) (args : Array Value) (below : List Frame) (meth : Method) (c : Code) (H : Heap) (locs : List Loc) (cells slots mc ms : Nat) (Q : State → Prop) (sl : Array Slot),
      am_CX K mi p s m args meth c → d ≤ R.frames → 40 * d ≤ R.locals → mc ≤ R.cells → ms ≤ R.slots → cells + (am_nx g' - am_nx g) ≤ mc → slots + (am_sl g' - am_sl g) ≤ ms → HR K g fi fl H → LV K sl (am_ML mi) ls → va_S (am_Fr K) s.heap H locs → am_RT K mi p l e R s m args below meth c mc ms Q v g' fi' fl' →
      W p l e R s m args below meth c H locs cells slots Q (F0 m pc sl (st.map (vmp K))) := by
  intro n
  induction n with
  | zero =>
    intro d mi pc ls st g fi fl v g' fi' fl' h
    cases h
  | succ n ih =>
    intro d mi pc ls st g fi fl v g' fi' fl' h
    unfold am_run at h
    split at h
    · cases h
    · rename_i E hE
      obtain ⟨op, n', a, b, c0⟩ := E
      split at h
      · cases h
      · rename_i pc1 ls1 st1 g1 fi1 fl1 hs
        have hmo := am_mono hs
        obtain ⟨m1, m2, hW⟩ := ih _ _ _ _ _ _ _ _ _ _ _ _ h
        refine ⟨by omega, by omega, fun K p l e R s m args below meth c H locs cells slots mc ms Q sl C hf hlo hmc hms h1 h2 hH hl hS hR => ?_⟩
        exact am_stepW C hE hf hlo (by omega) (by omega) hH hl hS hs (fun H1 locs1 sl1 q1 q2 q3 => hW K p l e R s m args below meth c H1 locs1 _ _ mc ms Q sl1 C hf hlo hmc hms (by omega) (by omega) q1 q2 q3 hR)
      · rename_i v1 hs
        cases h
        refine ⟨Nat.le_refl _, Nat.le_refl _, fun K p l e R s m args below meth c H locs cells slots mc ms Q sl C hf hlo hmc hms h1 h2 hH hl hS hR => ?_⟩
        obtain ⟨e1, e2, e3⟩ := am_retInv hE hs
        rw [e1]
        exact hR op pc sl H locs cells slots e3 e2 hH hS (by omega) (by omega)
      · rename_i y avs r hs
        split at h
        · cases h
        · rename_i hfl
          split at h
          · cases h
          · rename_i v1 g1 fi1 fl1 hcal
            obtain ⟨c1, c2, hWc⟩ := ih _ _ _ _ _ _ _ _ _ _ _ _ hcal
            obtain ⟨m1, m2, hW⟩ := ih _ _ _ _ _ _ _ _ _ _ _ _ h
            refine ⟨by omega, by omega, fun K p l e R s m args below meth c H locs cells slots mc ms Q sl C hf hlo hmc hms h1 h2 hH hl hS hR => ?_⟩
            obtain ⟨hn, hy, hd1, hcall⟩ := am_callW (l := l) (e := e) (R := R) (below := below) (cells := cells) (slots := slots) (mc := am_nx g1 - am_nx g) (ms := am_sl g1 - am_sl g) (v := v1) (g1 := g1) (fi1 := fi1) (fl1 := fl1) C hE hH hl hS hs
            have hM : Met l (am_N y) (am_ws y) (am_rm (d - 1) (am_nx g1 - am_nx g) (am_sl g1 - am_sl g)) (am_Pc K avs g fi fl) (am_Qc K v1 g1 fi1 fl1) (am_nx g1 - am_nx g) (am_sl g1 - am_sl g) (am_Fr K) := by
              refine va_MetF (cc := am_B y) (maxL := am_ML y) (ret := am_Rt y) (am_plain _ (am_nIn (by omega))).1 rfl ?_
              intro p e s m args below meth c s₁ B hml hv
              obtain ⟨rfl, hHR, hKF⟩ := hv
              have hts := atoms_spec (ws := am_ws y) B.pre
              have C2 : am_CX K y p s m (avs.map (vmp K)).toArray meth c := ⟨B.exec, B.bytes, hml, by rw [(am_cdA hy).2.2]; exact findClass_of_methodNamed B.named, fun w hw => hts w (List.mem_cons_of_mem _ hw), fun hi => (name_of_methodNamed B.named B.method).1.trans (am_iniOk y (by omega) hi), hKF⟩
              rw [lg_entry_eq]
              exact hWc K p l e (am_rm (d - 1) (am_nx g1 - am_nx g) (am_sl g1 - am_sl g)) s m _ below meth c s.heap [] 0 0 _ _ _ _ C2 (Nat.le_refl _) (Nat.le_refl _) (Nat.le_refl _) (Nat.le_refl _) (Nat.le_of_eq (Nat.zero_add _)) (Nat.le_of_eq (Nat.zero_add _)) hHR (am_entLV C2.hk (by omega)) va_S.rf (am_rtMQ C2 B.returns B.notSynchronized)
            obtain ⟨av, hr⟩ := hcall hf hlo (by omega) (by omega) hM
            refine am_callG hr hS fun H1 locs1 q1 q2 => ?_
            have k := hW K p l e R s m args below meth c H1 locs1 (cells + (am_nx g1 - am_nx g)) (slots + (am_sl g1 - am_sl g)) mc ms Q sl C hf hlo hmc hms (by omega) (by omega) q1 hl q2 hR
            rw [hn] at k
            have ev : (v1.toList ++ r).map (vmp K) = (v1.map (vmp K)).toList ++ r.map (vmp K) := by cases v1 <;> rfl
            rw [ev] at k
            exact k
end AMR
