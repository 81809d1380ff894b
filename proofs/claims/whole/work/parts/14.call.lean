section AMC
variable {K : am_C} {mi d pc n a b c0 y : Nat} {ls ls' : List (Option Value)} {st st' avs r : List Value} {g g' g1 : am_G} {fi fi' fi1 : am_I} {fl fl' fl1 : am_L} {pc' : Nat} {sl : Array Slot} {v : Option Value}
variable {p : Program} {l : Launch} {e : Env} {R : Room} {s : State} {m : MethodId} {args : Array Value} {below : List Frame} {meth : Method} {c : Code} {H : Heap} {locs : List Loc} {cells slots mc ms : Nat} {Q : State → Prop}
def am_ws (y : Nat) : List Cond := Cond.code (am_N y) (am_B y) (am_ML y) (am_Rt y) :: am_T0
def am_rm (d mc ms : Nat) : Room := { frames := d, cells := mc, slots := ms, locals := 40 * d }
def am_Pc (K : am_C) (avs : List Value) (g : am_G) (fi : am_I) (fl : am_L) : Array Value → State → Prop := va_Pc (avs.map (vmp K)) (fun U => HR K g fi fl U.heap ∧ KF K U U.heap)
def am_Qc (K : am_C) (v : Option Value) (g : am_G) (fi : am_I) (fl : am_L) : Array Value → State → Outcome → State → Prop := fun _ st o t => o = .returned (v.map (vmp K)) ∧ HR K g fi fl t.heap ∧ va_F (am_Fr K) st t
theorem am_blind {avs : List Value} : FrameBlind (am_Pc K avs g fi fl) := fun a U fr mk q => by
  obtain ⟨q1, q2, q3⟩ := q
  exact ⟨q1, q2, KF.warm (U := U.calling fr mk a) q3 (State.WarmedH.refl U) rfl (locs := []) va_S.rf⟩
theorem am_pre {avs : List Value} (C : am_CX K mi p s m args meth c) (hH : HR K g fi fl H) (hS : va_S (am_Fr K) s.heap H locs) : ∀ U : State, U.heap = H → s.WarmedH U.vm → am_Pc K avs g fi fl (avs.map (vmp K)).toArray U := fun U hU hW =>
  ⟨rfl, by rw [hU]; exact hH, C.kf.warm hW hU hS⟩
theorem am_wsOk (C : am_CX K mi p s m args meth c) (hy : y < 211) : ∀ w ∈ am_ws y, ∀ (a' : Array Value) (U : State), s.WarmedH U.vm → w.before a' U = true := by
  refine pay_in (big := am_T0) C.2.2.2.2.1 (fun w hw => ?_)
  have hin : w ∈ am_T0 := by
    rcases List.mem_cons.mp hw with q | q
    · rw [q]
      exact (am_cdA hy).1
    · exact q
  exact ⟨hin, good_of_word (List.mem_filter.mp hin).2⟩
theorem am_notMH (hy : y < 211) : (am_N y).cls ≠ "java/lang/invoke/MethodHandle" ∧ (am_N y).cls ≠ "java/lang/invoke/VarHandle" := (am_plain _ (am_nIn (Nat.lt_succ_of_lt hy))).2
theorem am_npOk (h : am_np y = some b) : ∀ sig, parseMethodDescriptor (am_N y).desc = some sig → b = sig.parameters.length := fun sig hs => by
  unfold am_np at h
  rw [hs] at h
  exact (Option.some.inj h).symm
abbrev am_RO (R : Room) (d y : Nat) : Prop := d - 1 + 1 ≤ R.frames ∧ 8 + (am_ML y + 11) + 40 * (d - 1) ≤ R.locals
theorem am_ro1 (hd : 1 ≤ d) (hf : d ≤ R.frames) (hlo : 40 * d ≤ R.locals) : am_RO R d y := by
  have := am_ML21 y
  exact ⟨by omega, by omega⟩
theorem am_catR (C : am_CX K mi p s m args meth c) (h : am_cats r ≤ 8) : ((r.map (vmp K)).map fun v => v.category).sum ≤ 8 := by
  have : (r.map (vmp K)).map (fun v => v.category) = r.map (fun v => v.category) := by
    rw [List.map_map]
    exact List.map_congr_left (fun v _ => vmp_cat C.hk v)
  rw [this]
  exact h
theorem am_stk (b : Nat) : st.map (vmp K) = (((st.take b).reverse).map (vmp K)).reverse ++ (st.drop b).map (vmp K) := by
  rw [← List.map_reverse, List.reverse_reverse, ← List.map_append, List.take_append_drop]
theorem am_stk2 {x : Value} (h : st.drop b = x :: r) : st.map (vmp K) = (((st.take b).reverse).map (vmp K)).reverse ++ vmp K x :: r.map (vmp K) := by
  rw [am_stk b, h]
  rfl
theorem am_lenA (h : b ≤ st.length) : (((st.take b).reverse).map (vmp K)).length = b := by simp [h]
theorem am_lenB {x : Value} (h : st.drop b = x :: r) : (((st.take b).reverse).map (vmp K)).length = b := by
  have h2 : (st.drop b).length = r.length + 1 := by rw [h]; rfl
  rw [List.length_drop] at h2
  exact am_lenA (by omega)
theorem am_callG {st0 rest : List Value} {av : Array Value} (hr : va_Run p l e R s m args below meth c H locs cells slots mc ms (F0 m pc sl st0) rest (am_Qc K v g1 fi1 fl1 av) (am_Fr K)) (hS : va_S (am_Fr K) s.heap H locs)
    (kk : ∀ (H1 : Heap) (locs1 : List Loc), HR K g1 fi1 fl1 H1 → va_S (am_Fr K) s.heap H1 locs1 → W p l e R s m args below meth c H1 locs1 (cells + mc) (slots + ms) Q (F0 m (pc + 3) sl ((v.map (vmp K)).toList ++ rest))) : W p l e R s m args below meth c H locs cells slots Q (F0 m pc sl st0) := by
  intro T hT X
  obtain ⟨v', st₀, t, T', L, h0, X', hL, e1, e2, ⟨hv, hHR, hz, hk⟩, st⟩ := hr T hT X
  cases hv
  rw [h0] at hz hk
  obtain ⟨t2, a1, b1⟩ := kk t.heap (locs ++ L) hHR
    ⟨Nat.le_trans hS.1 hz, fun q h1 h2 => by rw [hk q (Nat.lt_of_lt_of_le h1 hS.1) h2]; exact hS.2.1 q h1 h2, fun q hq => by
      rcases List.mem_append.mp hq with h | h
      · exact hS.2.2 q h
      · exact hL q h⟩ T' e1 X'
  exact ⟨t2, st t2 a1, b1⟩
/-- a static method named at a kind under its own -/
theorem am_runSUp {i : Nat} {own rc : String} {As rest : List Value} {rm : Room} {ws : List Cond} {Pc : Array Value → State → Prop} {Qc : Array Value → State → Outcome → State → Prop} {free : Addr → Prop} {z : MethodName} {bytes : ByteArray} {maxL : Nat} {ret : Option FieldType} {fr : JFrame} {nL : Nat}
    (hx : p.tables.exec = Jvm.exec) (hml : c.maxLocals = nL) (hown : s.vm.findClass own = some m.cls) (hM : Met l z ws rm Pc Qc mc ms free) (hrc : rm.cells = mc) (hrs : rm.slots = ms) (hfr : rm.frames + 1 ≤ R.frames) (hlo : 8 + (maxL + 11) + rm.locals ≤ R.locals)
    (hws : ∀ w ∈ ws, ∀ (a' : Array Value) (U : State), s.WarmedH U.vm → w.before a' U = true) (hcw : Cond.code z bytes maxL ret ∈ ws) (hcode : (Cond.code z bytes maxL ret).before args s = true) (hini : (Cond.initialized z.cls).before args s = true) (hz : z.cls ≠ "java/lang/invoke/MethodHandle" ∧ z.cls ≠ "java/lang/invoke/VarHandle")
    (hlen : ∀ sig, parseMethodDescriptor z.desc = some sig → As.length = sig.parameters.length) (hl : (Cond.methodLink own i ⟨rc, z.name, z.desc⟩).before args s = true) (hsm : (Cond.sameMethod rc z.cls z.name z.desc).before args s = true) (hst : (Cond.static z).before args s = true) (hp : PreS s H Pc As)
    (hg : fr.method = m) (hsize : fr.locals.size = nL) (hstack : fr.stack = As.reverse ++ rest) (hW : 2 * fr.monitorRoom + (rest.map fun v => v.category).sum ≤ 8) (hdg : decode c.code fr.pc = .ok (.invokestatic i, 3)) (hf : cells + mc ≤ R.cells ∧ slots + ms ≤ R.slots) :
    va_Run p l e R s m args below meth c H locs cells slots mc ms fr rest (Qc As.toArray) free := by
  have hK : Back l R p e below s args z 3 8 (PreOf R mc ms Pc) (PostOf Qc mc ms free) := back_of (bytes := bytes) (maxL := maxL) (ret := ret) hM hp.1 hrc hrs hfr hlo hws hcw (fun a' U hW => word_at hW (Or.inl (by first | rfl | simp [Cond.onTables, Cond.keeps, Cond.steady])) hini)
  obtain ⟨mk, hnamed⟩ := Cond.code_named hcode
  obtain ⟨methM, cM, hmethM, -, -, -, -, -, -, hsigM⟩ := Cond.code_spec hnamed hcode
  intro T hT X
  obtain ⟨v, vm₁, ⟨U', l2, c2, s2⟩, hW₁, X', ⟨g', mk, t, L, e1, e2, hq, h1, hL, h2, h3⟩, st⟩ := X.staticBackUp hx (x := ⟨rc, z.name, z.desc⟩) (owner := z.cls) hown hl hsm hst hini hnamed hmethM hsigM hz hK hg (hsize.trans hml.symm) (Steps.refl _) (argsL := As) (rest := rest) hlen hstack hW hdg
    (fun vm₁ hW₁ => ⟨hf.1, hf.2, hp.2 (T.setVm vm₁) hT hW₁⟩)
  dsimp only [Pt.U, Pt.locs, Pt.cells, Pt.slots] at X' e1 e2 h1 h2 h3 st
  subst h1; subst h2; subst h3
  exact ⟨v, (T.setVm vm₁).calling g' mk As.toArray, t, U', L, hT, X', hL, e1, e2, hq, fun target h => st.trans h⟩
/-- super.m(..), m found at the super kind or above it -/
theorem am_runSuper {i : Nat} {own rc : String} {As rest : List Value} {rm : Room} {ws : List Cond} {Pc : Array Value → State → Prop} {Qc : Array Value → State → Outcome → State → Prop} {free : Addr → Prop} {z : MethodName} {bytes : ByteArray} {maxL : Nat} {ret : Option FieldType} {fr : JFrame} {nL : Nat} {bq : Addr} {CC : String} {cC : ClassId}
    (hx : p.tables.exec = Jvm.exec) (hml : c.maxLocals = nL) (hown : s.vm.findClass own = some m.cls) (hat : ClassAt s CC cC) (hM : Met l z ws rm Pc Qc mc ms free) (hrc : rm.cells = mc) (hrs : rm.slots = ms) (hfr : rm.frames + 1 ≤ R.frames) (hlo : 8 + (maxL + 11) + rm.locals ≤ R.locals)
    (hws : ∀ w ∈ ws, ∀ (a' : Array Value) (U : State), s.WarmedH U.vm → w.before a' U = true) (hcw : Cond.code z bytes maxL ret ∈ ws) (hcode : (Cond.code z bytes maxL ret).before args s = true) (hini : (Cond.initialized z.cls).before args s = true) (hno : z.name ≠ "<init>")
    (hlen : ∀ sig, parseMethodDescriptor z.desc = some sig → As.length = sig.parameters.length) (hl : (Cond.methodLink own i ⟨rc, z.name, z.desc⟩).before args s = true) (hsm : (Cond.sameMethod rc z.cls z.name z.desc).before args s = true) (hsup : (Cond.superclass own rc).before args s = true) (hup : rc = z.cls ∨ (Cond.superclass rc z.cls).before args s = true) (hinst : (Cond.instanceMethod z).before args s = true) (hp : PreV s H CC bq Pc As)
    (hg : fr.method = m) (hsize : fr.locals.size = nL) (hstack : fr.stack = As.reverse ++ .ref bq :: rest) (hW : 2 * fr.monitorRoom + (rest.map fun v => v.category).sum ≤ 8) (hdg : decode c.code fr.pc = .ok (.invokespecial i, 3)) (hf : cells + mc ≤ R.cells ∧ slots + ms ≤ R.slots) :
    va_Run p l e R s m args below meth c H locs cells slots mc ms fr rest (Qc (Value.ref bq :: As).toArray) free := by
  have hK : Back l R p e below s args z 3 8 (PreOf R mc ms Pc) (PostOf Qc mc ms free) := back_of (bytes := bytes) (maxL := maxL) (ret := ret) hM hp.1 hrc hrs hfr hlo hws hcw (fun a' U hW => word_at hW (Or.inl (by first | rfl | simp [Cond.onTables, Cond.keeps, Cond.steady])) hini)
  obtain ⟨-, ⟨cellB, hcB, hoB, hclB⟩, hPc⟩ := hp
  obtain ⟨hfc, kB, hkB, -⟩ := hat
  cases hfc.symm.trans hclB
  obtain ⟨mk, methM, hnamed, hmethM, hstM, habM⟩ := Cond.instanceMethod_spec hinst
  obtain ⟨methM', cM, hmethM', -, -, -, -, -, -, hsigM⟩ := Cond.code_spec hnamed hcode
  cases hmethM.symm.trans hmethM'
  obtain ⟨ps, dk, kp, hps, hdk, hkp, hsuper, -, -, hnid⟩ := Cond.superclass_spec hown hsup
  have hn : s.methodNamed? ⟨z.cls, z.name, z.desc⟩ = some mk := hnamed
  have hsub : s.vm.isSubclass ps mk.cls = true := by
    rcases hup with q | q
    · have hpm : ps = mk.cls := by
        rw [q] at hps
        exact Option.some.inj (hps.symm.trans (findClass_of_methodNamed hnamed))
      rw [hpm]
      simp [Vm.isSubclass, Vm.isSubclassAux]
    · obtain ⟨ps2, k2, kp2, h1, h2, h3, h4, -⟩ := Cond.superclass_spec hps q
      have hpm : ps2 = mk.cls := Option.some.inj (h1.symm.trans (findClass_of_methodNamed hnamed))
      rw [hpm] at h4
      have hsz : ∃ z, s.vm.classes.size = z + 1 := ⟨s.vm.classes.size - 1, by
        have := (Array.getElem?_eq_some_iff.mp h2).1
        omega⟩
      obtain ⟨z, hz⟩ := hsz
      unfold Vm.isSubclass
      rw [hz]
      simp [Vm.isSubclassAux, h2, h4]
  intro T hT X
  obtain ⟨vm₁, X₁, hstep₁⟩ := X.invokespecialUp hx hown hl hsm hn hmethM hstM habM hno hdk hnid hps hsuper hsub (a := bq) (cell := cellB) (by rw [hT]; exact hcB)
    (fun z h => by rw [h] at hoB; cases hoB) hkB (g := fr) hg (argsL := As) (rest := rest) (hlen _ hsigM) hstack hdg
  obtain ⟨v, ⟨U', l2, c2, s2⟩, X', ⟨g', mk', t, L, e1, e2, hq, h1, hL, h2, h3⟩, hsteps⟩ := hK m meth c ⟨T.setVm vm₁, locs, cells, slots⟩ { fr with stack := rest } (.invokespecial i) mk (Value.ref bq :: As).toArray X₁ hg (hsize.trans hml.symm) hdg hW (X₁.named hnamed) ⟨hf.1, hf.2, hPc (T.setVm vm₁) hT X₁.warmed⟩
  dsimp only [Pt.U, Pt.locs, Pt.cells, Pt.slots] at X' e1 e2 h1 h2 h3 hsteps
  subst h1; subst h2; subst h3
  exact ⟨v, (T.setVm vm₁).calling g' mk' (Value.ref bq :: As).toArray, t, U', L, hT, X', hL, e1, e2, hq, fun target h => hstep₁ _ (by rw [doInvoke_state]; exact hsteps.trans h)⟩
theorem am_recvO (C : am_CX K mi p s m args meth c) (hH : HR K g fi fl H) {q : Nat} (ht : g.1 q < 13) : ∃ cell : Cell, H[kB K + q]? = some cell ∧ cell.vm.isStatics = false ∧ s.vm.findClass (am_cn (g.1 q)) = some cell.cls :=
  va_recv C.kf.1 (va_P1 (hH.ob ht)) (am_clA _ ht) (q0 := 0) rfl
/-- a call goes through, once the callee has its contract -/
theorem am_callW {op : Instr} (C : am_CX K mi p s m args meth c) (hE : am_CT mi pc = some (op, n, a, b, c0)) (hH : HR K g fi fl H) (hl : LV K sl (am_ML mi) ls) (hS : va_S (am_Fr K) s.heap H locs) (h : am_step d pc (op, n, a, b, c0) ls st g fi fl = some (.inr (.inr (y, avs, r)))) :
    n = pc + 3 ∧ y < 211 ∧ 1 ≤ d ∧ (d ≤ R.frames → 40 * d ≤ R.locals → cells + mc ≤ R.cells → slots + ms ≤ R.slots → Met l (am_N y) (am_ws y) (am_rm (d - 1) mc ms) (am_Pc K avs g fi fl) (am_Qc K v g1 fi1 fl1) mc ms (am_Fr K) →
      ∃ av, va_Run p l e R s m args below meth c H locs cells slots mc ms (F0 m pc sl (st.map (vmp K))) (r.map (vmp K)) (am_Qc K v g1 fi1 fl1 av) (am_Fr K)) := by
  have hck := am_ckA hE
  have hpl := fun hp => am_plA hE hp
  have h0 : op ≠ .nop := fun q => by
    subst q
    cases h
  obtain ⟨j, len, hd, hn, hln, hhd⟩ := am_chkInv h0 hck
  have hK := C.kf.1
  have hCF : CallFix p m c (am_B mi) (am_ML mi) s args am_T0 (am_on (am_O mi)) := ⟨C.1, C.2.1, C.2.2.1, C.own, C.2.2.2.2.1⟩
  cases op with
  | invokestatic i =>
    have ej := of_decide_eq_true hn
    subst ej
    obtain ⟨e1, e2⟩ := am_len1 hln
    subst e1 e2
    unfold am_step at h
    dsimp only at h
    split at h
    · split at h
      · split at h
        · split at h
          · cases h
          · split at h
            · cases h
            · split at h <;> cases h
        · cases h
      · cases h
    · rename_i hc1
      split at h
      · rename_i hs
        cases h
        rcases hpl rfl with ⟨q, -⟩ | ⟨-, hy, hnp, hst, hlk⟩
        · exact absurd q hc1
        obtain ⟨hcd, hin, -⟩ := am_cdA hy
        refine ⟨rfl, hy, hs.1, fun hf hlo hr1 hr2 hM => ?_⟩
        have hro := am_ro1 (y := a) hs.1 hf hlo
        have hpS : PreS s H (am_Pc K ((st.take b).reverse) g fi fl) (((st.take b).reverse).map (vmp K)) := ⟨am_blind, am_pre C hH hS⟩
        rcases hlk with hlk | ⟨rc, hlk, hsm⟩
        · exact ⟨_, va_runS (As := ((st.take b).reverse).map (vmp K)) (rest := (st.drop b).map (vmp K)) hCF hM ⟨⟨rfl, rfl, hro.1, hro.2, am_wsOk C hy, List.mem_cons_self, C.w hcd, C.w hin, am_notMH hy, am_npOk hnp, C.w hlk⟩, C.w hst⟩ hpS rfl (am_lenA hs.2.1) hl.1 (am_stk b) (lv_room (am_catR C hs.2.2)) hd ⟨hr1, hr2⟩⟩
        · exact ⟨_, am_runSUp (As := ((st.take b).reverse).map (vmp K)) (rest := (st.drop b).map (vmp K)) C.1 C.2.2.1 C.own hM rfl rfl hro.1 hro.2 (am_wsOk C hy) List.mem_cons_self (C.w hcd) (C.w hin) (am_notMH hy) (fun sig q => (am_lenA hs.2.1).trans (am_npOk hnp sig q)) (C.w hlk) (C.w hsm) (C.w hst) hpS rfl hl.1 (am_stk b) (lv_room (am_catR C hs.2.2)) (by rw [C.2.1]; exact hd) ⟨hr1, hr2⟩⟩
      · cases h
  | invokespecial i =>
    have ej := of_decide_eq_true hn
    subst ej
    obtain ⟨e1, e2⟩ := am_len1 hln
    subst e1 e2
    unfold am_step at h
    dsimp only at h
    split at h
    · split at h
      · split at h <;> cases h
      · cases h
    · rename_i hc1
      split at h
      · rename_i q r0 hdrop
        split at h
        · rename_i hs
          cases h
          rcases hpl rfl with ⟨q, -⟩ | ⟨-, hIU⟩
          · exact absurd q hc1
          have hrec := am_recvO C hH hs.2.1
          have hpV : PreV s H (am_cn (g.1 q)) (kB K + q) (am_Pc K (.ref q :: (st.take b).reverse) g fi fl) (((st.take b).reverse).map (vmp K)) := ⟨am_blind, hrec, am_pre (avs := .ref q :: (st.take b).reverse) C hH hS⟩
          have hpS : PreS s H (am_Pc K (.ref q :: (st.take b).reverse) g fi fl) (.ref (kB K + q) :: ((st.take b).reverse).map (vmp K)) := ⟨am_blind, am_pre (avs := .ref q :: (st.take b).reverse) C hH hS⟩
          rcases hIU with ⟨hy, hnp, hrt, hnm, hinst, hlk⟩ | ⟨hy, hnp, hnm, hinst, rc, hlk, hsm, hsup, hup⟩
          · obtain ⟨hcd, hin, -⟩ := am_cdA hy
            refine ⟨rfl, hy, hs.1, fun hf hlo hr1 hr2 hM => ?_⟩
            have hro := am_ro1 (y := a) hs.1 hf hlo
            have hcw : Cond.code (am_N a) (am_B a) (am_ML a) none ∈ am_ws a := by rw [← hrt]; exact List.mem_cons_self
            have hcd2 : Cond.code (am_N a) (am_B a) (am_ML a) none ∈ am_T0 := by rw [← hrt]; exact hcd
            rcases hlk with hlk | ⟨ho, hlk⟩
            · exact ⟨_, va_runI (As := ((st.take b).reverse).map (vmp K)) (rest := r.map (vmp K)) (b := kB K + q) hCF hM ⟨⟨rfl, rfl, hro.1, hro.2, am_wsOk C hy, hcw, C.w hcd2, C.w hin, am_notMH hy, am_npOk hnp, C.w hlk⟩, hnm, C.w hinst⟩ hpS rfl (am_lenB hdrop) hl.1 (am_stk2 hdrop) (lv_room (am_catR C hs.2.2)) hd ⟨hr1, hr2⟩⟩
            · have hnest := C.kf.2.1 _ hlk
              have hnest2 : (Cond.methodLinkNest (am_on (am_O mi)) i (am_N a) "LargeBubble").before args s = true := by
                rw [ho]
                exact va_Nw.use rfl hnest
              exact ⟨_, va_runIN (As := ((st.take b).reverse).map (vmp K)) (rest := r.map (vmp K)) (b := kB K + q) (host := "LargeBubble") hCF hM ⟨⟨⟨rfl, rfl, hro.1, hro.2, am_wsOk C hy, hcw⟩, C.w hcd2, C.w hin, am_notMH hy, am_npOk hnp, hnest2⟩, hnm, C.w hinst⟩ hpS rfl (am_lenB hdrop) hl.1 (am_stk2 hdrop) (lv_room (am_catR C hs.2.2)) hd ⟨hr1, hr2⟩⟩
          · obtain ⟨hcd, hin, -⟩ := am_cdA hy
            refine ⟨rfl, hy, hs.1, fun hf hlo hr1 hr2 hM => ?_⟩
            have hro := am_ro1 (y := a) hs.1 hf hlo
            exact ⟨_, am_runSuper (As := ((st.take b).reverse).map (vmp K)) (rest := r.map (vmp K)) (bq := kB K + q) C.1 C.2.2.1 C.own (hK.1 _ _ (am_clA _ hs.2.1)).2 hM rfl rfl hro.1 hro.2 (am_wsOk C hy) List.mem_cons_self (C.w hcd) (C.w hin) hnm (fun sig z => (am_lenB hdrop).trans (am_npOk hnp sig z)) (C.w hlk) (C.w hsm) (C.w hsup) (hup.imp id (fun z => C.w z)) (C.w hinst) hpV rfl hl.1 (am_stk2 hdrop) (lv_room (am_catR C hs.2.2)) (by rw [C.2.1]; exact hd) ⟨hr1, hr2⟩⟩
        · cases h
      · cases h
  | invokevirtual i =>
    have ej := of_decide_eq_true hn
    subst ej
    obtain ⟨e1, e2⟩ := am_len1 hln
    subst e1 e2
    unfold am_step at h
    dsimp only at h
    split at h
    · rename_i q r0 hdrop
      split at h
      · rename_i hs
        obtain ⟨hd1, hcat, hc13, hsub, hfix⟩ := hs
        have ht := am_sub_lt hc13 hsub
        split at h
        · rename_i y0 hvt
          cases h
          have hrec := am_recvO C hH ht
          have hpV : PreV s H (am_cn (g.1 q)) (kB K + q) (am_Pc K (.ref q :: (st.take b).reverse) g fi fl) (((st.take b).reverse).map (vmp K)) := ⟨am_blind, hrec, am_pre (avs := .ref q :: (st.take b).reverse) C hH hS⟩
          rcases hpl rfl with ⟨ha, -, hV⟩ | ⟨-, hc, -⟩ | ⟨ha, -, hWW⟩
          · obtain ⟨hy, hnp, hcls, hinst, hlk, hsel⟩ := hV
            have hyy : y = a - 100 := by
              unfold am_vt at hvt
              rw [if_pos ha] at hvt
              exact (Option.some.inj hvt).symm
            subst hyy
            obtain ⟨hcd, hin, -⟩ := am_cdA hy
            refine ⟨rfl, hy, hd1, fun hf hlo hr1 hr2 hM => ?_⟩
            have hro := am_ro1 (y := a - 100) hd1 hf hlo
            rw [hfix ha] at hpV
            exact ⟨_, va_runV (As := ((st.take b).reverse).map (vmp K)) (rest := r.map (vmp K)) (b := kB K + q) hCF hM ⟨⟨rfl, rfl, hro.1, hro.2, am_wsOk C hy, List.mem_cons_self, C.w hcd, C.w hin, am_notMH hy, am_npOk hnp, C.w hlk⟩, C.w hinst, C.w hsel⟩ hpV rfl (am_lenB hdrop) hl.1 (am_stk2 hdrop) (lv_room (am_catR C hcat)) hd ⟨hr1, hr2⟩⟩
          · omega
          · obtain ⟨-, hnp0, hbl, hlk, hsm, hinst0, hall⟩ := hWW
            obtain ⟨y1, hy1, hy, hnp, hsel, hinst⟩ := hall _ ht hsub
            have hyy : y = y1 := by
              unfold am_vt at hvt
              rw [if_neg (by omega), hy1] at hvt
              exact (Option.some.inj hvt).symm
            subst hyy
            obtain ⟨hcd, hin, -⟩ := am_cdA hy
            obtain ⟨hcd0, -, -⟩ := am_cdA (m := 1 + a) (by omega)
            refine ⟨rfl, hy, hd1, fun hf hlo hr1 hr2 hM => ?_⟩
            have hro := am_ro1 (y := y) hd1 hf hlo
            have hdecl : va_Decl s ⟨"LargeBubble$Blower", (am_N (1 + a)).name, (am_N (1 + a)).desc⟩ := by
              rw [← hbl]
              obtain ⟨mk, methM, hnamed, hmethM, hstM, habM⟩ := Cond.instanceMethod_spec (C.w hinst0)
              obtain ⟨methM', cM, hmethM', -, -, -, -, -, -, hsigM⟩ := Cond.code_spec hnamed (C.w hcd0)
              cases hmethM.symm.trans hmethM'
              exact ⟨mk, methM, hnamed, hmethM, hstM, hsigM⟩
            have hnd : ∀ sig, parseMethodDescriptor (am_N (1 + a)).desc = some sig → b = sig.parameters.length := am_npOk hnp0
            exact ⟨_, va_runU (As := ((st.take b).reverse).map (vmp K)) (rest := r.map (vmp K)) (b := kB K + q) (C := am_cn (g.1 q)) (owner := "LargeBubble$Blower") (x := ⟨am_cn c0, (am_N (1 + a)).name, (am_N (1 + a)).desc⟩) hCF hM ⟨⟨rfl, rfl, hro.1, hro.2, am_wsOk C hy, List.mem_cons_self⟩, C.w hcd, C.w hin, ⟨by decide, by decide⟩, hnd, C.w hlk, C.w hsm, hdecl, C.w hsel, C.w hinst⟩ hpV rfl (am_lenB hdrop) hl.1 (am_stk2 hdrop) (lv_room (am_catR C hcat)) hd ⟨hr1, hr2⟩⟩
        · cases h
      · cases h
    · rename_i kq r0 hdrop
      split at h
      · rename_i hs
        obtain ⟨hd1, hcat, hc13, hk1, hk5, ha⟩ := hs
        cases h
        obtain ⟨jq, rfl⟩ : ∃ jq, kq = jq + 1 := ⟨kq - 1, by omega⟩
        have hsp := (C.kf.2.2.2.2.2.2.2.2.2.2.2.2 jq (by omega)).1
        have hO := ((C.kf.2.2.2.2.2.2.1.1.1) jq (by omega)).1.kept hS.2.1
        obtain ⟨cell, o1, o2, o3, -⟩ := hO
        have e0 : vmp K (.retAddr (jq + 1)) = .ref (kK K jq) := hsp
        rcases hpl rfl with ⟨-, hc, -⟩ | ⟨-, -, hV⟩ | ⟨hq, -⟩
        · omega
        · obtain ⟨hy, hnp, hcls, hinst, hlk, hsel⟩ := hV
          obtain ⟨hcd, hin, -⟩ := am_cdA hy
          refine ⟨rfl, hy, hd1, fun hf hlo hr1 hr2 hM => ?_⟩
          have hro := am_ro1 (y := a - 100) hd1 hf hlo
          have hpV : PreV s H "java/lang/String" (kK K jq) (am_Pc K (.retAddr (jq + 1) :: (st.take b).reverse) g fi fl) (((st.take b).reverse).map (vmp K)) := ⟨am_blind, ⟨cell, o1, o2, o3⟩, fun U hU hW => by
            have := am_pre (avs := .retAddr (jq + 1) :: (st.take b).reverse) C hH hS U hU hW
            rw [List.map_cons, e0] at this
            exact this⟩
          have hstk := am_stk2 (K := K) hdrop
          rw [e0] at hstk
          exact ⟨_, va_runV (As := ((st.take b).reverse).map (vmp K)) (rest := r.map (vmp K)) (b := kK K jq) hCF hM ⟨⟨rfl, rfl, hro.1, hro.2, am_wsOk C hy, List.mem_cons_self, C.w hcd, C.w hin, am_notMH hy, am_npOk hnp, C.w hlk⟩, C.w hinst, C.w hsel⟩ hpV rfl (am_lenB hdrop) hl.1 hstk (lv_room (am_catR C hcat)) hd ⟨hr1, hr2⟩⟩
        · omega
      · cases h
    · cases h
  | ireturn =>
    unfold am_step at h
    dsimp only at h
    split at h
    · split at h <;> cases h
    · cases h
  | _ => first | (cases h; done) | (unfold am_step at h; dsimp only at h; repeat' (first | (cases h; done) | split at h))
end AMC
