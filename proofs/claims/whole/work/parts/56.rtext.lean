/-! The reference's clause and text. -/
def EFr (c : Nat) (fi fiS : am_I) : Prop := (∀ x, x ≠ 31 → x ≠ 43 → fiS x = fi x) ∧ (∀ j, j ≠ 23 → j ≠ 24 → fiS 31 j = fi 31 j) ∧ ∀ j, j ≠ c → fiS 43 j = fi 43 j
def CFm (c : Nat) (fi f : am_I) : Prop := (∀ x, x ≠ 31 → x ≠ 41 → x ≠ 42 → f x = fi x) ∧ (∀ j, j ≠ 12 → j ≠ 13 → f 31 j = fi 31 j) ∧ (∀ j, j ≠ c → f 41 j = fi 41 j) ∧ ∀ j, j ≠ c → f 42 j = fi 42 j
def stt (cs : List tk_T) (k : Nat) : Nat := if k = 0 then 0 else (cs.getD (k - 1) (0, 0, 0)).2.2
def MC (fi : am_I) (f : Nat) (cs : List tk_T) : Prop := ∀ k, k < cs.length → (fi 41 (10 * f + k)).toInt = ((cs.getD k (0, 0, 0)).1 : Int) ∧ (fi 42 (10 * f + k)).toInt = ((cs.getD k (0, 0, 0)).2.1 : Int) ∧ (fi 43 (10 * f + k)).toInt = ((100 * f : Nat) : Int) + (stt cs k : Int) ∧ (fi 44 (10 * f + k)).toInt = ((100 * f : Nat) : Int) + ((cs.getD k (0, 0, 0)).2.2 : Int)
def MFr (f : Nat) (fi0 fi : am_I) : Prop := (∀ x, x ≠ 31 → x < 40 ∨ 46 < x → fi x = fi0 x) ∧ (∀ j, j ≠ 12 → j ≠ 13 → j ≠ 22 → j ≠ 23 → j ≠ 24 → fi 31 j = fi0 31 j) ∧ (∀ x, 41 ≤ x → x ≤ 44 → ∀ j, j < 10 * f ∨ 10 * f + 10 ≤ j → fi x j = fi0 x j) ∧ (∀ j, j ≠ f → fi 40 j = fi0 40 j) ∧ ∀ j, j < 100 * f ∨ 100 * f + 100 ≤ j → fi 45 j = fi0 45 j
def MK (f : Nat) (fi0 fi : am_I) (p : Nat) (cs ts : List tk_T) : Prop := (fi 31 12).toInt = (p : Int) ∧ (fi 31 22).toInt = ((100 * f : Nat) : Int) + (ts.length : Int) ∧ TKR fi (100 * f) ts ∧ MC fi f cs ∧ stt cs cs.length = ts.length ∧ MFr f fi0 fi
section AMK
variable {n F c p q f k : Nat} {fi0 fi fi2 fiS m : am_I} {X : Nat → Int} {ts us cs : List tk_T} {z : Int32} {wd nm : Nat}
theorem CFm.rfl : CFm c fi fi := ⟨fun _ _ _ _ => Eq.refl _, fun _ _ _ => Eq.refl _, fun _ _ => Eq.refl _, fun _ _ => Eq.refl _⟩
theorem CFm.pf (h : CFm c fi m) (e : RPF m fi2 q) : CFm c fi fi2 := ⟨fun x e1 e2 e3 => (e.2.1 x e1).trans (h.1 x e1 e2 e3), fun j e1 e2 => (e.2.2 j e1 e2).trans (h.2.1 j e1 e2), fun j e1 => (congrFun (e.2.1 41 (by decide)) j).trans (h.2.2.1 j e1), fun j e1 => (congrFun (e.2.1 42 (by decide)) j).trans (h.2.2.2 j e1)⟩
theorem CFm.w41 (h : CFm c fi m) : CFm c fi (up2 m 41 c z) := ⟨fun x e1 e2 e3 => (funext fun _ => up2_nq e2).trans (h.1 x e1 e2 e3), fun j e1 e2 => (up2_nq (by decide)).trans (h.2.1 j e1 e2), fun j e1 => (up2_nj e1).trans (h.2.2.1 j e1), fun j e1 => (up2_nq (by decide)).trans (h.2.2.2 j e1)⟩
theorem CFm.w42 (h : CFm c fi m) : CFm c fi (up2 m 42 c z) := ⟨fun x e1 e2 e3 => (funext fun _ => up2_nq e3).trans (h.1 x e1 e2 e3), fun j e1 e2 => (up2_nq (by decide)).trans (h.2.1 j e1 e2), fun j e1 => (up2_nq (by decide)).trans (h.2.2.1 j e1), fun j e1 => (up2_nj e1).trans (h.2.2.2 j e1)⟩
theorem CFm.hl (h : CFm c fi m) (e : (fi 31 11).toInt = (n : Int)) : (m 31 11).toInt = (n : Int) := by
  rw [h.2.1 11 (by decide) (by decide)]
  exact e
theorem CFm.hx (h : CFm c fi m) (e : ∀ j, j < n → (fi 39 j).toInt = X j) : ∀ j, j < n → (m 39 j).toInt = X j := by
  rw [h.1 39 (by decide) (by decide) (by decide)]
  exact e
theorem MFr.cf (h : MFr f fi0 fi) (hk : k < 10) (e : CFm (10 * f + k) fi fi2) : MFr f fi0 fi2 := by
  obtain ⟨a, b, c1, d, g⟩ := h
  obtain ⟨e1, e2, e3, e4⟩ := e
  refine ⟨fun x h1 h2 => (e1 x h1 (by omega) (by omega)).trans (a x h1 h2), fun j h1 h2 h3 h4 h5 => (e2 j h1 h2).trans (b j h1 h2 h3 h4 h5), fun x h1 h2 j hj => ?_, fun j hj => (congrFun (e1 40 (by decide) (by decide) (by decide)) j).trans (d j hj), fun j hj => (congrFun (e1 45 (by decide) (by decide) (by decide)) j).trans (g j hj)⟩
  refine Eq.trans ?_ (c1 x h1 h2 j hj)
  rcases Decidable.em (x = 41) with h | h
  · rw [h]
    exact e3 j (by omega)
  · rcases Decidable.em (x = 42) with h' | h'
    · rw [h']
      exact e4 j (by omega)
    · exact congrFun (e1 x (by omega) h h') j
theorem MFr.ef (h : MFr f fi0 fi) (hk : k < 10) (e : EFr (10 * f + k) fi fi2) : MFr f fi0 fi2 := by
  obtain ⟨a, b, c1, d, g⟩ := h
  obtain ⟨e1, e2, e3⟩ := e
  refine ⟨fun x h1 h2 => (e1 x h1 (by omega)).trans (a x h1 h2), fun j h1 h2 h3 h4 h5 => (e2 j h4 h5).trans (b j h1 h2 h3 h4 h5), fun x h1 h2 j hj => ?_, fun j hj => (congrFun (e1 40 (by decide) (by decide)) j).trans (d j hj), fun j hj => (congrFun (e1 45 (by decide) (by decide)) j).trans (g j hj)⟩
  refine Eq.trans ?_ (c1 x h1 h2 j hj)
  rcases Decidable.em (x = 43) with h | h
  · rw [h]
    exact e3 j (by omega)
  · exact congrFun (e1 x (by omega) h) j
theorem MFr.rf (h : MFr f fi0 fi) (hk : k < 10) (e : RFr (100 * f) (10 * f + k) fi fi2) : MFr f fi0 fi2 := by
  obtain ⟨a, b, c1, d, g⟩ := h
  obtain ⟨e1, e2, e3, e4⟩ := e
  refine ⟨fun x h1 h2 => (e1 x h1 (by omega) (by omega) (by omega)).trans (a x h1 h2), fun j h1 h2 h3 h4 h5 => (e2 j h1 h2 h3 h4 h5).trans (b j h1 h2 h3 h4 h5), fun x h1 h2 j hj => ?_, fun j hj => (congrFun (e1 40 (by decide) (by decide) (by decide) (by decide)) j).trans (d j hj), fun j hj => (e4 j hj).trans (g j hj)⟩
  refine Eq.trans ?_ (c1 x h1 h2 j hj)
  rcases Decidable.em (x = 44) with h | h
  · rw [h]
    exact e3 j (by omega)
  · exact congrFun (e1 x (by omega) h (by omega) (by omega)) j
theorem stt_app {k : Nat} (h : k ≤ cs.length) : stt (cs ++ us) k = stt cs k := by
  unfold stt
  split
  · rfl
  · rw [getD_apl (by omega)]
theorem MC.add (h : MC fi f cs) (e : ∀ x, 41 ≤ x → x ≤ 44 → ∀ j, j ≠ 10 * f + cs.length → fi2 x j = fi x j) (h1 : (fi2 41 (10 * f + cs.length)).toInt = (wd : Int)) (h2 : (fi2 42 (10 * f + cs.length)).toInt = (nm : Int)) (h3 : (fi2 43 (10 * f + cs.length)).toInt = ((100 * f : Nat) : Int) + (stt cs cs.length : Int)) (h4 : (fi2 44 (10 * f + cs.length)).toInt = ((100 * f : Nat) : Int) + (q : Int)) : MC fi2 f (cs ++ [(wd, nm, q)]) := by
  intro k hk
  rcases Decidable.em (k = cs.length) with h0 | h0
  · subst h0
    rw [getD_app, stt_app (Nat.le_refl _)]
    exact ⟨h1, h2, h3, h4⟩
  · have hl : k < cs.length := by
      simp only [List.length_append, List.length_cons, List.length_nil] at hk
      omega
    rw [getD_apl hl, stt_app (by omega), e 41 (by decide) (by decide) _ (by omega), e 42 (by decide) (by decide) _ (by omega), e 43 (by decide) (by decide) _ (by omega), e 44 (by decide) (by decide) _ (by omega)]
    exact h k hl
theorem MK.next (h : MK f fi0 fi p cs ts) (hk : cs.length < 10) (e1 : CFm (10 * f + cs.length) fi m) (w1 : (m 41 (10 * f + cs.length)).toInt = (wd : Int)) (w2 : (m 42 (10 * f + cs.length)).toInt = (nm : Int)) (e2 : EFr (10 * f + cs.length) m fiS) (w3 : (fiS 43 (10 * f + cs.length)).toInt = ((100 * f : Nat) : Int) + (ts.length : Int)) (hs : RSt n (100 * f) (10 * f + cs.length) fiS fi2 q (ts ++ us) []) (w4 : (fi2 44 (10 * f + cs.length)).toInt = ((100 * f : Nat) : Int) + (ts ++ us).length) : MK f fi0 fi2 q (cs ++ [(wd, nm, (ts ++ us).length)]) (ts ++ us) := by
  obtain ⟨h1, h2, h3, h4, h5, h6⟩ := h
  obtain ⟨s1, s2, -, -, s5, -, s7, -, -⟩ := hs
  refine ⟨s1, s2, s5, ?_, ?_, ((h6.cf hk e1).ef hk e2).rf hk s7⟩
  · refine MC.add h4 (fun x x1 x2 j hj => ?_) ?_ ?_ ?_ w4
    · have a1 : fi2 x j = fiS x j := by
        rcases Decidable.em (x = 44) with h | h
        · rw [h]
          exact s7.2.2.1 j hj
        · exact congrFun (s7.1 x (by omega) h (by omega) (by omega)) j
      have a2 : fiS x j = m x j := by
        rcases Decidable.em (x = 43) with h | h
        · rw [h]
          exact e2.2.2 j hj
        · exact congrFun (e2.1 x (by omega) h) j
      have a3 : m x j = fi x j := by
        rcases Decidable.em (x = 41) with h | h
        · rw [h]
          exact e1.2.2.1 j hj
        · rcases Decidable.em (x = 42) with h' | h'
          · rw [h']
            exact e1.2.2.2 j hj
          · exact congrFun (e1.1 x (by omega) h h') j
      exact a1.trans (a2.trans a3)
    · rw [s7.1 41 (by decide) (by decide) (by decide) (by decide), e2.1 41 (by decide) (by decide)]
      exact w1
    · rw [s7.1 42 (by decide) (by decide) (by decide) (by decide), e2.1 42 (by decide) (by decide)]
      exact w2
    · rw [s7.1 43 (by decide) (by decide) (by decide) (by decide), h5]
      exact w3
  · unfold stt
    rw [List.length_append, List.length_cons, List.length_nil, if_neg (by omega), Nat.add_sub_cancel, getD_app]
theorem MK.tl (h : MK f fi0 fi p cs ts) (e : (fi0 31 11).toInt = (n : Int)) : (fi 31 11).toInt = (n : Int) := by
  rw [h.2.2.2.2.2.2.1 11 (by decide) (by decide) (by decide) (by decide) (by decide)]
  exact e
theorem MK.tx (h : MK f fi0 fi p cs ts) (e : ∀ j, j < n → (fi0 39 j).toInt = X j) : ∀ j, j < n → (fi 39 j).toInt = X j := by
  rw [h.2.2.2.2.2.1 39 (by decide) (Or.inl (by decide))]
  exact e
theorem MK.rl (h : MK f fi0 fi p cs ts) (e : RL fi0) : RL fi := by
  unfold RL
  rw [h.2.2.2.2.2.1 47 (by decide) (Or.inr (by decide))]
  exact e
theorem MK.pf (h : MK f fi0 fi p cs ts) (e : RPF fi fi2 q) : MK f fi0 fi2 q cs ts := by
  obtain ⟨h1, h2, h3, h4, h5, a, b, c1, d, g⟩ := h
  obtain ⟨e1, e2, e3⟩ := e
  refine ⟨e1, ?_, TKR.fr h3 (e2 45 (by decide)), ?_, h5, fun x x1 x2 => (e2 x x1).trans (a x x1 x2), fun j j1 j2 j3 j4 j5 => (e3 j j1 j2).trans (b j j1 j2 j3 j4 j5), fun x x1 x2 j hj => (congrFun (e2 x (by omega)) j).trans (c1 x x1 x2 j hj), fun j hj => (congrFun (e2 40 (by decide)) j).trans (d j hj), fun j hj => (congrFun (e2 45 (by decide)) j).trans (g j hj)⟩
  · rw [e3 22 (by decide) (by decide)]
    exact h2
  · intro k hk
    rw [e2 41 (by decide), e2 42 (by decide), e2 43 (by decide), e2 44 (by decide)]
    exact h4 k hk
end AMK
theorem r_E {L n F p : Nat} {d : Nat} {g : am_G} {fi : am_I} {fl : am_L} {P : Option Value → am_G → am_I → am_L → Prop} {X : Nat → Int} {c : Nat} {cz : Int32} {ts : List tk_T} (hS : SF L g) (hp : (fi 31 12).toInt = (p : Int)) (hl : (fi 31 11).toInt = (n : Int)) (hx : ∀ j, j < n → (fi 39 j).toInt = X j) (hn : n ≤ 100) (hxb : ∀ j, j < n → 0 ≤ X j ∧ X j ≤ 127) (hF : F ≤ 500) (hc60 : c < 60) (hc : cz.toInt = (c : Int)) (hpn : p ≤ n) (hlen : ts.length ≤ p) (hsg : (fi 31 22).toInt = (F : Int) + ts.length) (htk : TKR fi F ts) (k1 : (rE X n 4 p).1 = true → ∀ fiS fi2, EFr c fi fiS → (fiS 43 c).toInt = (F : Int) + ts.length → RSt n F c fiS fi2 (rE X n 4 p).2.1 (ts ++ (rE X n 4 p).2.2) [] → (fi2 44 c).toInt = (F : Int) + (ts ++ (rE X n 4 p).2.2).length → P (some (.int 1)) g fi2 fl) (k2 : (rE X n 4 p).1 = false → ∀ fiS fi2, EFr c fi fiS → RFr F c fiS fi2 → (fi2 31 12).toInt = ((rE X n 4 p).2.1 : Int) → P (some (.int 0)) g fi2 fl) : WP (d + 5) 137 0 [some (.ref 31), some (.int cz), none, none] [] g fi fl P := by
  refine wi_aload_0 ct_137_0 ?_
  refine wi_ic ct_137_1 kc_0 ?_
  refine wi_pf ct_137_2 (sT_31 hS) rfl ?_
  refine wi_aload_0 ct_137_5 ?_
  refine wi_ic ct_137_6 kc_0 ?_
  refine wi_pf ct_137_7 (sT_31 hS) rfl ?_
  refine wi_aload_0 ct_137_10 ?_
  refine wi_gfr ct_137_11 (sT_31 hS) rfl (sR_31_18 hS) ?_
  refine wi_iload_1 ct_137_14 ?_
  refine wi_aload_0 ct_137_15 ?_
  refine wi_gf (x := fi 31 22) ct_137_16 (sT_31 hS) rfl rfl (Eq.trans (up2_nj (by decide)) (up2_nj (by decide))) ?_
  refine wi_iast ct_137_19 (sT_43 hS) (sL_43 hS) (i_in hc (by omega)) (i_cl (k := c) hc (by omega)) ?_
  refine wi_ic ct_137_20 kc_1 ?_
  refine wi_istore_2 rfl ct_137_21 ?_
  have hE : EFr c fi (up2 (up2 (up2 fi 31 23 (0)) 31 24 (0)) 43 c (fi 31 22)) := ⟨fun x e1 e2 => (Eq.trans (funext fun _ => up2_nq e2) (Eq.trans (funext fun _ => up2_nq e1) (funext fun _ => up2_nq e1))), fun j e1 e2 => (Eq.trans (up2_nq (by decide)) (Eq.trans (up2_nj e2) (up2_nj e1))), fun j e => (Eq.trans (up2_nj e) (Eq.trans (up2_nq (by decide)) (up2_nq (by decide))))⟩
  have hs : RSt n F c (up2 (up2 (up2 fi 31 23 (0)) 31 24 (0)) 43 c (fi 31 22)) (up2 (up2 (up2 fi 31 23 (0)) 31 24 (0)) 43 c (fi 31 22)) p ts [] := ⟨(congrArg Int32.toInt (Eq.trans (up2_nq (by decide)) (Eq.trans (up2_nj (by decide)) (up2_nj (by decide))))).trans hp, (congrArg Int32.toInt (Eq.trans (up2_nq (by decide)) (Eq.trans (up2_nj (by decide)) (up2_nj (by decide))))).trans hsg, (congrArg Int32.toInt (Eq.trans (up2_nq (by decide)) (Eq.trans (up2_nj (by decide)) up2_eq))).trans (ki_0.trans rfl), (congrArg Int32.toInt (Eq.trans (up2_nq (by decide)) up2_eq)).trans (ki_0.trans rfl), TKR.fr htk (Eq.trans (funext fun _ => up2_nq (by decide)) (Eq.trans (funext fun _ => up2_nq (by decide)) (funext fun _ => up2_nq (by decide)))), trivial, ⟨fun _ _ _ _ _ => rfl, fun _ _ _ _ _ _ => rfl, fun _ _ => rfl, fun _ _ => rfl⟩, hlen, hpn⟩
  have hT : RTX L g (up2 (up2 (up2 fi 31 23 (0)) 31 24 (0)) 43 c (fi 31 22)) X n := ⟨hS, (congrArg Int32.toInt (Eq.trans (up2_nq (by decide)) (Eq.trans (up2_nj (by decide)) (up2_nj (by decide))))).trans hl, fun j hj => (congrArg Int32.toInt (Eq.trans (up2_nq (by decide)) (Eq.trans (up2_nq (by decide)) (up2_nq (by decide))))).trans (hx j hj), hn, hxb⟩
  exact e_all hT hF hc60 hc P _ p ts hs (fun e fi2 h h2 => k1 e _ fi2 hE ((congrArg Int32.toInt up2_eq).trans hsg) h h2) (fun e fi2 h h2 => k2 e _ fi2 hE h h2) _
theorem r_head {L n p : Nat} {c : Nat} {cz : Int32} {d : Nat} {g : am_G} {fi : am_I} {fl : am_L} {P : Option Value → am_G → am_I → am_L → Prop} {X : Nat → Int} (hS : SF L g) (hp : (fi 31 12).toInt = (p : Int)) (hl : (fi 31 11).toInt = (n : Int)) (hx : ∀ j, j < n → (fi 39 j).toInt = X j) (hn : n ≤ 100) (hxb : ∀ j, j < n → 0 ≤ X j ∧ X j ≤ 127) (hL : RL fi) (hc60 : c < 60) (hc : cz.toInt = (c : Int)) (hp9 : p ≤ 900) (k1 : (rHd X n p).1 = true → pk X n (rHd X n p).2 = 32 → ∀ f, CFm c fi f → (f 41 c).toInt = (rWd X n p : Int) → (f 31 12).toInt = (((rHd X n p).2 + 1 : Nat) : Int) → P (some (.int 1)) g f fl) (k2 : (rHd X n p).1 = true → pk X n (rHd X n p).2 ≠ 32 → ∀ f, CFm c fi f → (f 31 12).toInt = ((rHd X n p).2 : Int) → P (some (.int 0)) g f fl) (k3 : (rHd X n p).1 = false → ∀ f, CFm c fi f → (f 31 12).toInt = ((rHd X n p).2 : Int) → P (some (.int 0)) g f fl) : WP (d + 3) 138 0 [some (.ref 31), some (.int cz)] [] g fi fl P := by
  refine wi_aload_0 ct_138_0 ?_
  refine wi_cv0 (ls' := [some _]) ct_138_1 (Nat.le_of_ble_eq_true rfl) (by decide) (sT_31 hS) rfl (by decide) rfl rfl (Nat.le_of_ble_eq_true rfl) ?_
  refine r_peek (p := p) hS hp hl hx hn hxb (fun z1 hz1 => wk_i ?_)
  have hbz1 := pk_bd hxb (p := p)
  rcases Decidable.em ((z1).toInt = 100) with h2 | h2
  · refine wi_lsw (X := 100) (t := 46) ct_138_4 (hz1.trans (by omega)) (by decide) ?_
    refine wi_aload_0 ct_138_46 ?_
    refine wi_gfr ct_138_47 (sT_31 hS) rfl (sR_31_16 hS) ?_
    refine wi_iload_1 ct_138_50 ?_
    refine wi_ic ct_138_51 kc_1 ?_
    refine wi_iast ct_138_52 (sT_41 hS) (sL_41 hS) (i_in hc (by omega)) (i_cl (k := c) hc (by omega)) ?_
    refine wi_aload_0 ct_138_53 ?_
    refine wi_ic ct_138_54 kc_4 ?_
    refine wi_ic ct_138_55 kc_3 ?_
    refine wi_cv2 (ls' := [some _, some _, some _, none]) ct_138_56 (Nat.le_of_ble_eq_true rfl) (by decide) (sT_31 hS) rfl (by decide) rfl rfl (Nat.le_of_ble_eq_true rfl) ?_
    have hr : rHd X n p = rCs X n [100, 114, 121] p := (if_neg (by omega)).trans (if_pos (by omega))
    have hw : rWd X n p = 1 := (if_neg (by omega)).trans (if_pos (by omega))
    rw [hr] at k1 k2 k3
    rw [hw] at k1
    refine r_word4 (p := p) hS ((congrArg Int32.toInt (up2_nq (by decide))).trans (hp.trans (by omega))) ((congrArg Int32.toInt (up2_nq (by decide))).trans hl) (fun j hj => (congrArg Int32.toInt (up2_nq (by decide))).trans (hx j hj)) hn hxb (fun j hj => (congrArg Int32.toInt (up2_nq (by decide))).trans (hL j hj)) (by omega) (fun e1 e2 f9 hf9 => wk_i ?_) (fun e1 e2 f9 hf9 => wk_i ?_) (fun e1 f9 hf9 => wk_i ?_)
    · skip
      refine wi_iret ct_138_59 (by decide) ?_
      exact k1 e1 e2 _ (CFm.pf (CFm.w41 CFm.rfl) hf9) ((congrArg Int32.toInt ((congrFun (hf9.2.1 41 (by decide)) _).trans up2_eq)).trans (ki_1.trans rfl)) hf9.1
    · skip
      refine wi_iret ct_138_59 (by decide) ?_
      exact k2 e1 e2 _ (CFm.pf (CFm.w41 CFm.rfl) hf9) hf9.1
    · skip
      refine wi_iret ct_138_59 (by decide) ?_
      exact k3 e1 _ (CFm.pf (CFm.w41 CFm.rfl) hf9) hf9.1
  rcases Decidable.em ((z1).toInt = 119) with h3 | h3
  · refine wi_lsw (X := 119) (t := 32) ct_138_4 (hz1.trans (by omega)) (by decide) ?_
    refine wi_aload_0 ct_138_32 ?_
    refine wi_gfr ct_138_33 (sT_31 hS) rfl (sR_31_16 hS) ?_
    refine wi_iload_1 ct_138_36 ?_
    refine wi_ic ct_138_37 kc_0 ?_
    refine wi_iast ct_138_38 (sT_41 hS) (sL_41 hS) (i_in hc (by omega)) (i_cl (k := c) hc (by omega)) ?_
    refine wi_aload_0 ct_138_39 ?_
    refine wi_ic ct_138_40 kc_0 ?_
    refine wi_ic ct_138_41 kc_4 ?_
    refine wi_cv2 (ls' := [some _, some _, some _, none]) ct_138_42 (Nat.le_of_ble_eq_true rfl) (by decide) (sT_31 hS) rfl (by decide) rfl rfl (Nat.le_of_ble_eq_true rfl) ?_
    have hr : rHd X n p = rCs X n [119, 105, 110, 100] p := if_pos (by omega)
    have hw : rWd X n p = 0 := if_pos (by omega)
    rw [hr] at k1 k2 k3
    rw [hw] at k1
    refine r_word0 (p := p) hS ((congrArg Int32.toInt (up2_nq (by decide))).trans (hp.trans (by omega))) ((congrArg Int32.toInt (up2_nq (by decide))).trans hl) (fun j hj => (congrArg Int32.toInt (up2_nq (by decide))).trans (hx j hj)) hn hxb (fun j hj => (congrArg Int32.toInt (up2_nq (by decide))).trans (hL j hj)) (by omega) (fun e1 e2 f9 hf9 => wk_i ?_) (fun e1 e2 f9 hf9 => wk_i ?_) (fun e1 f9 hf9 => wk_i ?_)
    · skip
      refine wi_iret ct_138_45 (by decide) ?_
      exact k1 e1 e2 _ (CFm.pf (CFm.w41 CFm.rfl) hf9) ((congrArg Int32.toInt ((congrFun (hf9.2.1 41 (by decide)) _).trans up2_eq)).trans (ki_0.trans rfl)) hf9.1
    · skip
      refine wi_iret ct_138_45 (by decide) ?_
      exact k2 e1 e2 _ (CFm.pf (CFm.w41 CFm.rfl) hf9) hf9.1
    · skip
      refine wi_iret ct_138_45 (by decide) ?_
      exact k3 e1 _ (CFm.pf (CFm.w41 CFm.rfl) hf9) hf9.1
  refine wi_lsw (t := 60) ct_138_4 hz1 (by have e100 : ¬ (100 : Int) = pk X n p := (by omega); have e119 : ¬ (119 : Int) = pk X n p := (by omega); simp [Op.lookupswitch.offset, e100, e119]) ?_
  refine wi_aload_0 ct_138_60 ?_
  refine wi_gfr ct_138_61 (sT_31 hS) rfl (sR_31_16 hS) ?_
  refine wi_iload_1 ct_138_64 ?_
  refine wi_ic ct_138_65 kc_2 ?_
  refine wi_iast ct_138_66 (sT_41 hS) (sL_41 hS) (i_in hc (by omega)) (i_cl (k := c) hc (by omega)) ?_
  refine wi_aload_0 ct_138_67 ?_
  refine wi_ic ct_138_68 kc_7 ?_
  refine wi_ic ct_138_70 kc_4 ?_
  refine wi_cv2 (ls' := [some _, some _, some _, none]) ct_138_71 (Nat.le_of_ble_eq_true rfl) (by decide) (sT_31 hS) rfl (by decide) rfl rfl (Nat.le_of_ble_eq_true rfl) ?_
  have hr : rHd X n p = rCs X n [99, 111, 105, 110] p := (if_neg (by omega)).trans (if_neg (by omega))
  have hw : rWd X n p = 2 := (if_neg (by omega)).trans (if_neg (by omega))
  rw [hr] at k1 k2 k3
  rw [hw] at k1
  refine r_word7 (p := p) hS ((congrArg Int32.toInt (up2_nq (by decide))).trans (hp.trans (by omega))) ((congrArg Int32.toInt (up2_nq (by decide))).trans hl) (fun j hj => (congrArg Int32.toInt (up2_nq (by decide))).trans (hx j hj)) hn hxb (fun j hj => (congrArg Int32.toInt (up2_nq (by decide))).trans (hL j hj)) (by omega) (fun e1 e2 f9 hf9 => wk_i ?_) (fun e1 e2 f9 hf9 => wk_i ?_) (fun e1 f9 hf9 => wk_i ?_)
  · skip
    refine wi_iret ct_138_74 (by decide) ?_
    exact k1 e1 e2 _ (CFm.pf (CFm.w41 CFm.rfl) hf9) ((congrArg Int32.toInt ((congrFun (hf9.2.1 41 (by decide)) _).trans up2_eq)).trans (ki_2.trans rfl)) hf9.1
  · skip
    refine wi_iret ct_138_74 (by decide) ?_
    exact k2 e1 e2 _ (CFm.pf (CFm.w41 CFm.rfl) hf9) hf9.1
  · skip
    refine wi_iret ct_138_74 (by decide) ?_
    exact k3 e1 _ (CFm.pf (CFm.w41 CFm.rfl) hf9) hf9.1
theorem r_clause {L n f : Nat} {d : Nat} {g : am_G} {fi0 : am_I} {fl : am_L} {X : Nat → Int} {P : Option Value → am_G → am_I → am_L → Prop} {fi : am_I} {p : Nat} {cs ts : List tk_T} {cz : Int32} (hS : SF L g) (hf6 : f < 6) (hl0 : (fi0 31 11).toInt = (n : Int)) (hx0 : ∀ j, j < n → (fi0 39 j).toInt = X j) (hn : n ≤ 100) (hxb : ∀ j, j < n → 0 ≤ X j ∧ X j ≤ 127) (hL0 : RL fi0) (h : MK f fi0 fi p cs ts) (hpn : p ≤ n) (hlen : ts.length ≤ p) (h10 : cs.length < 10) (hc : cz.toInt = ((10 * f + cs.length : Nat) : Int)) (k1 : (rCl X n p).1 = true → ∀ fi2, MK f fi0 fi2 (rCl X n p).2.1 (cs ++ [(rWd X n p, (rCn X n p).1.toNat, (ts ++ (rCl X n p).2.2).length)]) (ts ++ (rCl X n p).2.2) → P (some (.int 1)) g fi2 fl) (k2 : (rCl X n p).1 = false → ∀ fi2, MFr f fi0 fi2 → (fi2 31 12).toInt = ((rCl X n p).2.1 : Int) → P (some (.int 0)) g fi2 fl) : WP (d + 6) 139 0 [some (.ref 31), some (.int cz)] [] g fi fl P := by
  have hl := MK.tl h hl0
  have hx := MK.tx h hx0
  have hL := MK.rl h hL0
  have hp := h.1
  have bh := rHd_bd X n p
  have bn := rCn_bd X n p
  have hM := h.2.2.2.2.2
  have hc60 : 10 * f + cs.length < 60 := by omega
  refine wi_aload_0 ct_139_0 ?_
  refine wi_iload_1 ct_139_1 ?_
  refine wi_cv1 (ls' := [some _, some _]) ct_139_2 (Nat.le_of_ble_eq_true rfl) (by decide) (sT_31 hS) rfl (by decide) rfl rfl (Nat.le_of_ble_eq_true rfl) ?_
  refine r_head (d := d + 2) hS hp hl hx hn hxb hL hc60 hc (by omega) (fun e1 e2 f1 hf1 hw1 hp1 => wk_i ?_) (fun e1 e2 f1 hf1 hp1 => wk_i ?_) (fun e1 f1 hf1 hp1 => wk_i ?_)
  · skip
    have hq1 := pk_n (by decide) e2
    refine wi_ifeq_f ct_139_5 ki_1 (by decide) ?_
    refine wi_aload_0 ct_139_8 ?_
    refine wi_cv0 (ls' := [some _, none]) ct_139_9 (Nat.le_of_ble_eq_true rfl) (by decide) (sT_31 hS) rfl (by decide) rfl rfl (Nat.le_of_ble_eq_true rfl) ?_
    refine r_num (d := d + 3) (p := (rHd X n p).2 + 1) hS hp1 (hf1.hl hl) (hf1.hx hx) hn hxb (by omega) (fun e3 f2 hf2 h13 => wk_i ?_) (fun e3 => wk_i ?_)
    · skip
      have e3x : 0 ≤ (rCn X n p).1 := e3
      have g2 := CFm.pf hf1 hf2
      have h13x : (f2 31 13).toInt = (rCn X n p).1 := h13
      have hp2 : (f2 31 12).toInt = ((rCn X n p).2 : Int) := hf2.1
      have hw2 : (f2 41 (10 * f + cs.length)).toInt = (rWd X n p : Int) := (congrArg Int32.toInt (congrFun (hf2.2.1 41 (by decide)) _)).trans hw1
      have bn2 := bn.2.1 (by omega)
      refine wi_ifne_t ct_139_12 ki_1 (by decide) ?_
      refine wi_aload_0 ct_139_17 ?_
      refine wi_gfr ct_139_18 (sT_31 hS) rfl (sR_31_17 hS) ?_
      refine wi_iload_1 ct_139_21 ?_
      refine wi_aload_0 ct_139_22 ?_
      refine wi_gf (x := f2 31 13) ct_139_23 (sT_31 hS) rfl rfl rfl ?_
      refine wi_iast ct_139_26 (sT_42 hS) (sL_42 hS) (i_in (hc.trans (show _ = 10 * (f : Int) + (cs.length : Int) by omega)) (by omega)) (i_cl (k := (10 * f + cs.length)) (hc.trans (show _ = 10 * (f : Int) + (cs.length : Int) by omega)) (by omega)) ?_
      refine wi_aload_0 ct_139_27 ?_
      refine wi_ic ct_139_28 kc_32 ?_
      refine wi_cv1 (ls' := [some _, some _]) ct_139_30 (Nat.le_of_ble_eq_true rfl) (by decide) (sT_31 hS) rfl (by decide) rfl rfl (Nat.le_of_ble_eq_true rfl) ?_
      have g3 := CFm.w42 (z := f2 31 13) g2
      have hp3 : ((up2 f2 42 (10 * f + cs.length) (f2 31 13)) 31 12).toInt = ((rCn X n p).2 : Int) := (congrArg Int32.toInt (up2_nq (by decide))).trans hp2
      refine r_pass (d := d + 4) (p := (rCn X n p).2) hS hp3 (g3.hl hl) (g3.hx hx) hn hxb (by omega) ki_32 (fun e4 f4 hf4 => wk_i ?_) (fun e4 => wk_i ?_)
      · skip
        have g4 := CFm.pf g3 hf4
        have hw4 : (f4 41 (10 * f + cs.length)).toInt = (rWd X n p : Int) := (congrArg Int32.toInt ((congrFun (hf4.2.1 41 (by decide)) _).trans (up2_nq (by decide)))).trans hw2
        have hu4 : (f4 42 (10 * f + cs.length)).toInt = ((rCn X n p).1.toNat : Int) := (congrArg Int32.toInt ((congrFun (hf4.2.1 42 (by decide)) _).trans up2_eq)).trans (h13x.trans (by omega))
        have hq4 := pk_n (by decide) e4
        refine wi_ifeq_f ct_139_33 ki_1 (by decide) ?_
        refine wi_aload_0 ct_139_36 ?_
        refine wi_iload_1 ct_139_37 ?_
        refine wi_cv1 (ls' := [some _, some _, none, none]) ct_139_38 (Nat.le_of_ble_eq_true rfl) (by decide) (sT_31 hS) rfl (by decide) rfl rfl (Nat.le_of_ble_eq_true rfl) ?_
        have hcl := rCl_5 e1 e2 e3x e4
        rw [hcl] at k1 k2
        have hsg : (f4 31 22).toInt = ((100 * f : Nat) : Int) + ts.length := (congrArg Int32.toInt (g4.2.1 22 (by decide) (by decide))).trans h.2.1
        refine r_E (d := d) (F := 100 * f) (p := (rCn X n p).2 + 1) hS hf4.1 (g4.hl hl) (g4.hx hx) hn hxb (by omega) hc60 hc (by omega) (by omega) hsg (TKR.fr h.2.2.1 (g4.1 45 (by decide) (by decide) (by decide))) (fun e5 fS f5 hE w3 hs5 w5 => wk_i ?_) (fun e5 fS f5 hE hr5 hp5 => wk_i ?_)
        · skip
          refine wi_ifeq_f ct_139_41 ki_1 (by decide) ?_
          refine wi_ic ct_139_44 kc_1 ?_
          refine wi_goto ct_139_45 ?_
          refine wi_iret ct_139_49 (by decide) ?_
          exact k1 e5 _ (MK.next h h10 g4 hw4 hu4 hE w3 hs5 w5)
        · skip
          refine wi_ifeq_t ct_139_41 ki_0 (by decide) ?_
          refine wi_ic ct_139_48 kc_0 ?_
          refine wi_iret ct_139_49 (by decide) ?_
          exact k2 e5 _ (((hM.cf h10 g4).ef h10 hE).rf h10 hr5) hp5
      · skip
        refine wi_ifeq_t ct_139_33 ki_0 (by decide) ?_
        refine wi_ic ct_139_48 kc_0 ?_
        refine wi_iret ct_139_49 (by decide) ?_
        have hcl := rCl_4 e1 e2 e3x e4
        rw [hcl] at k2
        exact k2 rfl _ (hM.cf h10 g3) hp3
    · skip
      have e3x : (rCn X n p).1 < 0 := e3
      refine wi_ifne_f ct_139_12 ki_0 (by decide) ?_
      refine wi_ic ct_139_15 kc_0 ?_
      refine wi_iret ct_139_16 (by decide) ?_
      have hcl := rCl_3 e1 e2 e3x
      rw [hcl] at k2
      exact k2 rfl _ (hM.cf h10 hf1) hp1
  · skip
    refine wi_ifeq_t ct_139_5 ki_0 (by decide) ?_
    refine wi_ic ct_139_15 kc_0 ?_
    refine wi_iret ct_139_16 (by decide) ?_
    have hcl := rCl_2 e1 e2
    rw [hcl] at k2
    exact k2 rfl _ (hM.cf h10 hf1) hp1
  · skip
    refine wi_ifeq_t ct_139_5 ki_0 (by decide) ?_
    refine wi_ic ct_139_15 kc_0 ?_
    refine wi_iret ct_139_16 (by decide) ?_
    have hcl := rCl_1 e1
    rw [hcl] at k2
    exact k2 rfl _ (hM.cf h10 hf1) hp1
theorem vl_rgoes {L n f : Nat} {d : Nat} {g : am_G} {fi0 : am_I} {fl : am_L} {X : Nat → Int} {fz : Int32} (hS : SF L g) (hf6 : f < 6) (hl0 : (fi0 31 11).toInt = (n : Int)) (hx0 : ∀ j, j < n → (fi0 39 j).toInt = X j) (hn : n ≤ 100) (hxb : ∀ j, j < n → 0 ≤ X j ∧ X j ≤ 127) (hL0 : RL fi0) (hfz : fz.toInt = (f : Int)) : ∀ (k : Nat) (P : Option Value → am_G → am_I → am_L → Prop) (fi : am_I) (p : Nat) (cs ts : List tk_T) (zi : Int32) (hk : cs.length + (k + 1) = 10) (hzi : zi.toInt = (cs.length : Int)) (h : MK f fi0 fi p cs ts) (hpn : p ≤ n) (hlen : ts.length ≤ p) (k1 : (rTx X n (k + 1) p cs ts).1 = true → ∀ fi2, MK f fi0 fi2 (rTx X n (k + 1) p cs ts).2.1 (rTx X n (k + 1) p cs ts).2.2.1 (rTx X n (k + 1) p cs ts).2.2.2 → (fi2 40 f).toInt = ((rTx X n (k + 1) p cs ts).2.2.1.length : Int) → P (some (.int 1)) g fi2 fl) (k2 : (rTx X n (k + 1) p cs ts).1 = false → ∀ fi2, MFr f fi0 fi2 → (fi2 31 12).toInt = ((rTx X n (k + 1) p cs ts).2.1 : Int) → P (some (.int 0)) g fi2 fl), WP (d + 7) 140 15 [some (.ref 31), some (.int fz), some (.int zi)] [] g fi fl P := by
  intro k
  induction k with
  | zero =>
    intro P fi p cs ts zi hk hzi h hpn hlen k1 k2
    have bc := rCl_gd X n p hpn
    refine wi_aload_0 ct_140_15 ?_
    refine wi_ic ct_140_16 kc_10 ?_
    refine wi_iload_1 ct_140_18 ?_
    refine wi_imul ct_140_19 rfl ?_
    refine wi_iload_2 ct_140_20 ?_
    refine wi_iadd ct_140_21 rfl ?_
    refine wi_cv1 (ls' := [some _, some _]) ct_140_22 (Nat.le_of_ble_eq_true rfl) (by decide) (sT_31 hS) rfl (by decide) rfl rfl (Nat.le_of_ble_eq_true rfl) ?_
    refine r_clause (d := d) hS hf6 hl0 hx0 hn hxb hL0 h hpn hlen (by omega) ((i_add (i_mul ki_10 hfz (by omega)) hzi (by omega)).trans (by omega)) (fun e1 f1 hk1 => wk_i ?_) (fun e1 f1 hm1 hp1 => wk_i ?_)
    · skip
      obtain ⟨b1, b2, b3⟩ := bc.2.2 e1
      have b4 := bc.2.1
      refine wi_ifne_t ct_140_25 ki_1 (by decide) ?_
      refine wi_iinc_2 rfl (z := (zi + 1)) ct_140_30 (by rw [kc_1]) ?_
      refine wi_aload_0 ct_140_33 ?_
      refine wi_gfr ct_140_34 (sT_31 hS) rfl (sR_31_15 hS) ?_
      refine wi_iload_1 ct_140_37 ?_
      refine wi_iload_2 ct_140_38 ?_
      refine wi_iast ct_140_39 (sT_40 hS) (sL_40 hS) (i_in hfz (by omega)) (i_cl (k := f) hfz (by omega)) ?_
      have hk2 : MK f fi0 (up2 f1 40 f ((zi + 1))) (rCl X n p).2.1 (cs ++ [(rWd X n p, (rCn X n p).1.toNat, (ts ++ (rCl X n p).2.2).length)]) (ts ++ (rCl X n p).2.2) := ⟨(congrArg Int32.toInt (up2_nq (by decide))).trans hk1.1, (congrArg Int32.toInt (up2_nq (by decide))).trans hk1.2.1, TKR.fr hk1.2.2.1 (funext fun _ => up2_nq (by decide)), fun k hk => ⟨(congrArg Int32.toInt (up2_nq (by decide))).trans (hk1.2.2.2.1 k hk).1, (congrArg Int32.toInt (up2_nq (by decide))).trans (hk1.2.2.2.1 k hk).2.1, (congrArg Int32.toInt (up2_nq (by decide))).trans (hk1.2.2.2.1 k hk).2.2.1, (congrArg Int32.toInt (up2_nq (by decide))).trans (hk1.2.2.2.1 k hk).2.2.2⟩, hk1.2.2.2.2.1, ⟨fun x e1 e2 => (funext fun _ => up2_nq (by omega)).trans (hk1.2.2.2.2.2.1 x e1 e2), fun j e1 e2 e3 e4 e5 => (up2_nq (by decide)).trans (hk1.2.2.2.2.2.2.1 j e1 e2 e3 e4 e5), fun x e1 e2 j hj => (up2_nq (by omega)).trans (hk1.2.2.2.2.2.2.2.1 x e1 e2 j hj), fun j hj => (up2_nj hj).trans (hk1.2.2.2.2.2.2.2.2.1 j hj), fun j hj => (up2_nq (by decide)).trans (hk1.2.2.2.2.2.2.2.2.2 j hj)⟩⟩
      refine wi_aload_0 ct_140_40 ?_
      refine wi_gf (x := f1 31 12) ct_140_41 (sT_31 hS) rfl rfl (up2_nq (by decide)) ?_
      refine wi_aload_0 ct_140_44 ?_
      refine wi_gf (x := f1 31 11) ct_140_45 (sT_31 hS) rfl rfl (up2_nq (by decide)) ?_
      refine wi_icne ct_140_48 hk1.1 (MK.tl hk1 hl0) (fun h1 => ?_) (fun h1 => ?_)
      · skip
        refine wi_iload_2 ct_140_53 ?_
        refine wi_ic ct_140_54 kc_10 ?_
        refine wi_iceq_t ct_140_56 (i_add hzi ki_1 (by omega)) ki_10 (by omega) ?_
        refine wi_ic ct_140_68 kc_0 ?_
        refine wi_iret ct_140_69 (by decide) ?_
        have hr : rTx X n (0 + 1) p cs ts = (false, (rCl X n p).2.1, [], []) := (if_pos e1).trans ((if_neg (by omega)).trans (if_pos rfl))
        rw [hr] at k2
        exact k2 rfl _ hk2.2.2.2.2.2 hk2.1
      · skip
        refine wi_ic ct_140_51 kc_1 ?_
        refine wi_iret ct_140_52 (by decide) ?_
        have hr : rTx X n (0 + 1) p cs ts = (true, (rCl X n p).2.1, cs ++ [(rWd X n p, (rCn X n p).1.toNat, (ts ++ (rCl X n p).2.2).length)], ts ++ (rCl X n p).2.2) := (if_pos e1).trans (if_pos (by omega))
        rw [hr] at k1
        exact k1 rfl _ hk2 ((congrArg Int32.toInt up2_eq).trans ((i_add hzi ki_1 (by omega)).trans (by simp only [List.length_append, List.length_cons, List.length_nil]; omega)))
    · skip
      refine wi_ifne_f ct_140_25 ki_0 (by decide) ?_
      refine wi_ic ct_140_28 kc_0 ?_
      refine wi_iret ct_140_29 (by decide) ?_
      have hr : rTx X n (0 + 1) p cs ts = (false, (rCl X n p).2.1, [], []) := if_neg (by rw [e1]; exact Bool.false_ne_true)
      rw [hr] at k2
      exact k2 rfl _ hm1 hp1
  | succ k ih =>
    intro P fi p cs ts zi hk hzi h hpn hlen k1 k2
    have bc := rCl_gd X n p hpn
    refine wi_aload_0 ct_140_15 ?_
    refine wi_ic ct_140_16 kc_10 ?_
    refine wi_iload_1 ct_140_18 ?_
    refine wi_imul ct_140_19 rfl ?_
    refine wi_iload_2 ct_140_20 ?_
    refine wi_iadd ct_140_21 rfl ?_
    refine wi_cv1 (ls' := [some _, some _]) ct_140_22 (Nat.le_of_ble_eq_true rfl) (by decide) (sT_31 hS) rfl (by decide) rfl rfl (Nat.le_of_ble_eq_true rfl) ?_
    refine r_clause (d := d) hS hf6 hl0 hx0 hn hxb hL0 h hpn hlen (by omega) ((i_add (i_mul ki_10 hfz (by omega)) hzi (by omega)).trans (by omega)) (fun e1 f1 hk1 => wk_i ?_) (fun e1 f1 hm1 hp1 => wk_i ?_)
    · skip
      obtain ⟨b1, b2, b3⟩ := bc.2.2 e1
      have b4 := bc.2.1
      refine wi_ifne_t ct_140_25 ki_1 (by decide) ?_
      refine wi_iinc_2 rfl (z := (zi + 1)) ct_140_30 (by rw [kc_1]) ?_
      refine wi_aload_0 ct_140_33 ?_
      refine wi_gfr ct_140_34 (sT_31 hS) rfl (sR_31_15 hS) ?_
      refine wi_iload_1 ct_140_37 ?_
      refine wi_iload_2 ct_140_38 ?_
      refine wi_iast ct_140_39 (sT_40 hS) (sL_40 hS) (i_in hfz (by omega)) (i_cl (k := f) hfz (by omega)) ?_
      have hk2 : MK f fi0 (up2 f1 40 f ((zi + 1))) (rCl X n p).2.1 (cs ++ [(rWd X n p, (rCn X n p).1.toNat, (ts ++ (rCl X n p).2.2).length)]) (ts ++ (rCl X n p).2.2) := ⟨(congrArg Int32.toInt (up2_nq (by decide))).trans hk1.1, (congrArg Int32.toInt (up2_nq (by decide))).trans hk1.2.1, TKR.fr hk1.2.2.1 (funext fun _ => up2_nq (by decide)), fun k hk => ⟨(congrArg Int32.toInt (up2_nq (by decide))).trans (hk1.2.2.2.1 k hk).1, (congrArg Int32.toInt (up2_nq (by decide))).trans (hk1.2.2.2.1 k hk).2.1, (congrArg Int32.toInt (up2_nq (by decide))).trans (hk1.2.2.2.1 k hk).2.2.1, (congrArg Int32.toInt (up2_nq (by decide))).trans (hk1.2.2.2.1 k hk).2.2.2⟩, hk1.2.2.2.2.1, ⟨fun x e1 e2 => (funext fun _ => up2_nq (by omega)).trans (hk1.2.2.2.2.2.1 x e1 e2), fun j e1 e2 e3 e4 e5 => (up2_nq (by decide)).trans (hk1.2.2.2.2.2.2.1 j e1 e2 e3 e4 e5), fun x e1 e2 j hj => (up2_nq (by omega)).trans (hk1.2.2.2.2.2.2.2.1 x e1 e2 j hj), fun j hj => (up2_nj hj).trans (hk1.2.2.2.2.2.2.2.2.1 j hj), fun j hj => (up2_nq (by decide)).trans (hk1.2.2.2.2.2.2.2.2.2 j hj)⟩⟩
      refine wi_aload_0 ct_140_40 ?_
      refine wi_gf (x := f1 31 12) ct_140_41 (sT_31 hS) rfl rfl (up2_nq (by decide)) ?_
      refine wi_aload_0 ct_140_44 ?_
      refine wi_gf (x := f1 31 11) ct_140_45 (sT_31 hS) rfl rfl (up2_nq (by decide)) ?_
      refine wi_icne ct_140_48 hk1.1 (MK.tl hk1 hl0) (fun h2 => ?_) (fun h2 => ?_)
      · skip
        refine wi_iload_2 ct_140_53 ?_
        refine wi_ic ct_140_54 kc_10 ?_
        refine wi_iceq_f ct_140_56 (i_add hzi ki_1 (by omega)) ki_10 (by omega) ?_
        refine wi_aload_0 ct_140_59 ?_
        refine wi_ic ct_140_60 kc_59 ?_
        refine wi_cv1 (ls' := [some _, some _]) ct_140_62 (Nat.le_of_ble_eq_true rfl) (by decide) (sT_31 hS) rfl (by decide) rfl rfl (Nat.le_of_ble_eq_true rfl) ?_
        refine r_pass (d := d + 5) hS hk2.1 (MK.tl hk2 hl0) (MK.tx hk2 hx0) hn hxb (by omega) ki_59 (fun e3 f3 hf3 => wk_i ?_) (fun e3 => wk_i ?_)
        · skip
          have hq3 := pk_n (by decide) e3
          have hk3 := MK.pf hk2 hf3
          refine wi_ifne_t ct_140_65 ki_1 (by decide) ?_
          have hr : rTx X n (k + 1 + 1) p cs ts = rTx X n (k + 1) ((rCl X n p).2.1 + 1) (cs ++ [(rWd X n p, (rCn X n p).1.toNat, (ts ++ (rCl X n p).2.2).length)]) (ts ++ (rCl X n p).2.2) := (if_pos e1).trans ((if_neg (by omega)).trans ((if_neg (by omega)).trans (if_pos e3)))
          rw [hr] at k1 k2
          refine ih P _ _ _ _ _ ?_ ?_ hk3 (by omega) (by rw [List.length_append]; omega) k1 k2
          · rw [List.length_append]
            exact (show cs.length + 1 + (k + 1) = 10 by omega)
          · rw [List.length_append]
            exact (i_add hzi ki_1 (by omega)).trans (show (cs.length : Int) + 1 = ((cs.length + 1 : Nat) : Int) by omega)
        · skip
          refine wi_ifne_f ct_140_65 ki_0 (by decide) ?_
          refine wi_ic ct_140_68 kc_0 ?_
          refine wi_iret ct_140_69 (by decide) ?_
          have hr : rTx X n ((k + 1) + 1) p cs ts = (false, (rCl X n p).2.1, [], []) := (if_pos e1).trans ((if_neg (by omega)).trans ((if_neg (by omega)).trans (if_neg e3)))
          rw [hr] at k2
          exact k2 rfl _ hk2.2.2.2.2.2 hk2.1
      · skip
        refine wi_ic ct_140_51 kc_1 ?_
        refine wi_iret ct_140_52 (by decide) ?_
        have hr : rTx X n ((k + 1) + 1) p cs ts = (true, (rCl X n p).2.1, cs ++ [(rWd X n p, (rCn X n p).1.toNat, (ts ++ (rCl X n p).2.2).length)], ts ++ (rCl X n p).2.2) := (if_pos e1).trans (if_pos (by omega))
        rw [hr] at k1
        exact k1 rfl _ hk2 ((congrArg Int32.toInt up2_eq).trans ((i_add hzi ki_1 (by omega)).trans (by simp only [List.length_append, List.length_cons, List.length_nil]; omega)))
    · skip
      refine wi_ifne_f ct_140_25 ki_0 (by decide) ?_
      refine wi_ic ct_140_28 kc_0 ?_
      refine wi_iret ct_140_29 (by decide) ?_
      have hr : rTx X n ((k + 1) + 1) p cs ts = (false, (rCl X n p).2.1, [], []) := if_neg (by rw [e1]; exact Bool.false_ne_true)
      rw [hr] at k2
      exact k2 rfl _ hm1 hp1
theorem r_goes {L n f : Nat} {d : Nat} {g : am_G} {fi0 : am_I} {fl : am_L} {X : Nat → Int} {P : Option Value → am_G → am_I → am_L → Prop} {fz : Int32} (hS : SF L g) (hf6 : f < 6) (hl0 : (fi0 31 11).toInt = (n : Int)) (hx0 : ∀ j, j < n → (fi0 39 j).toInt = X j) (hn : n ≤ 100) (hxb : ∀ j, j < n → 0 ≤ X j ∧ X j ≤ 127) (hL0 : RL fi0) (hfz : fz.toInt = (f : Int)) (k1 : (rTx X n 10 0 [] []).1 = true → ∀ fi2, MK f fi0 fi2 (rTx X n 10 0 [] []).2.1 (rTx X n 10 0 [] []).2.2.1 (rTx X n 10 0 [] []).2.2.2 → (fi2 40 f).toInt = ((rTx X n 10 0 [] []).2.2.1.length : Int) → P (some (.int 1)) g fi2 fl) (k2 : (rTx X n 10 0 [] []).1 = false → ∀ fi2, MFr f fi0 fi2 → (fi2 31 12).toInt = ((rTx X n 10 0 [] []).2.1 : Int) → P (some (.int 0)) g fi2 fl) : WP (d + 7) 140 0 [some (.ref 31), some (.int fz), none] [] g fi0 fl P := by
  refine wi_aload_0 ct_140_0 ?_
  refine wi_ic ct_140_1 kc_0 ?_
  refine wi_pf ct_140_2 (sT_31 hS) rfl ?_
  refine wi_aload_0 ct_140_5 ?_
  refine wi_ic ct_140_6 kc_100 ?_
  refine wi_iload_1 ct_140_8 ?_
  refine wi_imul ct_140_9 rfl ?_
  refine wi_pf ct_140_10 (sT_31 hS) rfl ?_
  refine wi_ic ct_140_13 kc_0 ?_
  refine wi_istore_2 rfl ct_140_14 ?_
  exact vl_rgoes (d := d) hS hf6 hl0 hx0 hn hxb hL0 hfz 9 P _ 0 [] [] _ rfl (ki_0.trans rfl) ⟨((congrArg Int32.toInt (Eq.trans (up2_nj (by decide)) up2_eq)).trans (ki_0.trans (by first | rfl | (simp only [List.length_nil]; omega) | omega))), ((congrArg Int32.toInt up2_eq).trans ((i_mul ki_100 hfz (by omega)).trans (by first | rfl | (simp only [List.length_nil]; omega) | omega))), fun k h => absurd h (Nat.not_lt_zero k), fun k h => absurd h (Nat.not_lt_zero k), rfl, ⟨fun x e1 e2 => (Eq.trans (funext fun _ => up2_nq e1) (funext fun _ => up2_nq e1)), fun j e1 e2 e3 e4 e5 => (Eq.trans (up2_nj e3) (up2_nj e1)), fun x e1 e2 j hj => (Eq.trans (up2_nq (by omega)) (up2_nq (by omega))), fun j hj => (Eq.trans (up2_nq (by decide)) (up2_nq (by decide))), fun j hj => (Eq.trans (up2_nq (by decide)) (up2_nq (by decide)))⟩⟩ (Nat.zero_le _) (Nat.le_refl _) k1 k2
