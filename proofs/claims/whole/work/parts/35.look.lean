/-! Goes of several: one by one, each by its own numbers. -/
def rowF (fi : am_I) (B : Nat) : Nat → Int := fun j => (fi 37 (4 * B + j)).toInt
/-- a go of B by what fi says of it -/
def goF (fi : am_I) (sq : Option sq_T) (B : Nat) (G m : Int) : go_T := goL (mkLk sq B (fi 32 B).toInt (fi 33 B).toInt) (fi 32 B).toInt (fi 33 B).toInt (fi 35 B).toInt (rowF fi B) 0 false 30 0 m 0 ((fi 34 B).toInt * G)
section ABL
variable {L : Nat} {xs : Nat → Int32} {own : Nat → Nat} {g g2 : am_G} {fi fi2 : am_I} {fl : am_L} {B : Nat}
theorem BLW.at (hB : RB own g fi) (h5 : (fi 31 0).toInt ≤ 5) (hb : (B : Int) < (fi 31 0).toInt) : ∃ p r, BLW own g fi B p r (fi 32 B).toInt (fi 33 B).toInt (fi 34 B).toInt (fi 35 B).toInt (fi 36 B).toInt (rowF fi B) := by
  obtain ⟨⟨m0, m1, m2, m3, m4, m5⟩, p, r, hO⟩ := hB B hb
  exact ⟨p, r, by omega, hO, rfl, rfl, rfl, rfl, rfl, fun j _ => rfl, m0, m1, m2, m3, m4, m5⟩
theorem goF_bd {sq : Option sq_T} {G m : Int} {R : go_T} (hR : Rel L xs own g fi fl) (hq : SQs fi sq) (hb : (B : Int) < (fi 31 0).toInt) (hG : 0 ≤ G ∧ G ≤ 39) (e : R = goF fi sq B G m) : (0 ≤ gSz R ∧ gSz R ≤ 90) ∧ (0 ≤ gBr (mkLk sq B (fi 32 B).toInt (fi 33 B).toInt) R ∧ gBr (mkLk sq B (fi 32 B).toInt (fi 33 B).toInt) R ≤ 99999) ∧ (0 ≤ gMn R ∧ gMn R ≤ 30) ∧ R.2.1 = m + gMn R := by
  obtain ⟨-, -, hC, -, -, -, -, -, hB, -⟩ := hR
  obtain ⟨⟨-, -, m2, -⟩, -⟩ := hB B hb
  have h := goR_bd (SQs_v hq) (Int.le_refl 0) (film_bd m2 hG).2 e
  exact ⟨h.1, h.2.2.1, h.2.2.2⟩
end ABL
def allB (f : Nat → Bool) : Nat → Nat → Bool
  | 0, _ => true
  | n + 1, k => f k && allB f n (k + 1)
theorem allB_t {f : Nat → Bool} {n k : Nat} (h : f k = true) : allB f (n + 1) k = allB f n (k + 1) := by
  simp [allB, h]
theorem allB_f {f : Nat → Bool} {n k : Nat} (h : f k = false) : allB f (n + 1) k = false := by
  simp [allB, h]
def bitV (F : Nat → Bool) : Nat → Nat → Int32 → Int32 → Int32
  | 0, _, _, x => x
  | n + 1, k, i, x => bitV F n (k + 1) (i + 1) (if F k = true then x ||| (1 <<< (i &&& 31)) else x)
theorem bitV_t {F : Nat → Bool} {n k : Nat} {i x : Int32} (h : F k = true) : bitV F (n + 1) k i x = bitV F n (k + 1) (i + 1) (x ||| (1 <<< (i &&& 31))) := by
  simp [bitV, h]
theorem bitV_f {F : Nat → Bool} {n k : Nat} {i x : Int32} (h : F k = false) : bitV F (n + 1) k i x = bitV F n (k + 1) (i + 1) x := by
  simp [bitV, h]
theorem or_0 {x : Int32} : x ||| 0 = x := by
  apply Int32.toBitVec_inj.mp
  rw [Int32.toBitVec_or]
  have : (0 : Int32).toBitVec = 0#32 := rfl
  rw [this]
  simp
/-- the book looked at: T torn at k from a minute on, M minutes, tb told -/
def bkV (T M : Nat → Int → Int) (tb : Nat → Int) (D : Int) : Nat → Nat → Int → Int
  | 0, _, _ => -5
  | n + 1, k, m => if D ≤ k then k else if T k m ≠ tb k then k else bkV T M tb D n (k + 1) (m + M k m)
theorem bkV_1 {T M : Nat → Int → Int} {tb : Nat → Int} {D m : Int} {n k : Nat} (h : D ≤ k) : bkV T M tb D (n + 1) k m = k := if_pos h
theorem bkV_2 {T M : Nat → Int → Int} {tb : Nat → Int} {D m : Int} {n k : Nat} (h : k < D) (h2 : T k m ≠ tb k) : bkV T M tb D (n + 1) k m = k := (if_neg (by omega)).trans (if_pos h2)
theorem bkV_3 {T M : Nat → Int → Int} {tb : Nat → Int} {D m : Int} {n k : Nat} (h : k < D) (h2 : T k m = tb k) : bkV T M tb D (n + 1) k m = bkV T M tb D n (k + 1) (m + M k m) := (if_neg (by omega)).trans (if_neg (fun e => e h2))
def upE (e : Nat → Int) (b : Nat) (x : Int) : Nat → Int := fun j => if j = b then x else e j
/-- a day: Br, T, M of b from a minute on; what each earned, torn, the minute -/
def dyV (Br T M : Nat → Int → Int) (D : Int) (N : Nat) : Nat → Nat → (Nat → Int) → Int → Int → (Nat → Int) × Int × Int
  | 0, _, e, t, m => (e, t, m)
  | n + 1, k, e, t, m => if (k : Int) < D ∧ 0 < N then dyV Br T M D N n (k + 1) (upE e (k % N) (e (k % N) + Br (k % N) m)) (t + T (k % N) m) (m + M (k % N) m) else (e, t, m)
theorem dyV_0 {Br T M : Nat → Int → Int} {D t m : Int} {N n k : Nat} {e : Nat → Int} (h : ¬ ((k : Int) < D ∧ 0 < N)) : dyV Br T M D N (n + 1) k e t m = (e, t, m) := if_neg h
theorem dyV_1 {Br T M : Nat → Int → Int} {D t m : Int} {N n k b : Nat} {e : Nat → Int} (h : (k : Int) < D) (h2 : 0 < N) (hb : k % N = b) : dyV Br T M D N (n + 1) k e t m = dyV Br T M D N n (k + 1) (upE e b (e b + Br b m)) (t + T b m) (m + M b m) := by
  subst hb
  exact if_pos ⟨h, h2⟩
theorem mod_st {k N b : Nat} (hN : 1 ≤ N ∧ N ≤ 5) (h : k % N = b) : (k + 1) % N = if b + 1 < N then b + 1 else 0 := by
  rcases (by omega : N = 1 ∨ N = 2 ∨ N = 3 ∨ N = 4 ∨ N = 5) with e | e | e | e | e <;> subst e <;> split <;> omega
theorem mod_lt5 {k N b : Nat} (hN : 1 ≤ N ∧ N ≤ 5) (h : k % N = b) : b < N := by
  have := Nat.mod_lt k (show N > 0 by omega)
  omega
set_option maxHeartbeats 2000000 in
theorem vl_clook {L : Nat} {xs : Nat → Int32} {own : Nat → Nat} {d : Nat} {g : am_G} {fi : am_I} {fl : am_L} {P : Option Value → am_G → am_I → am_L → Prop} {sq : Option sq_T} (hR : Rel L xs own g fi fl) (hsq : SQs fi sq) (hsx : SQx g fi sq) {T M : Nat → Int → Int} {tb : Nat → Int} {N : Nat} (hTq : ∀ k m, T k m = (bI (!(goF fi sq (fi 53 k).toInt.toNat (goodV (fi 38 0).toInt (fi 38 1).toInt (fi 38 2).toInt) m).1)).toInt) (hMq : ∀ k m, M k m = gMn (goF fi sq (fi 53 k).toInt.toNat (goodV (fi 38 0).toInt (fi 38 1).toInt (fi 38 2).toInt) m)) (htb : ∀ k, tb k = (fi 54 k).toInt) (hNb : (fi 31 44).toInt = (N : Int)) : ∀ (n k : Nat) (m : Int) (g2 : am_G) (fi2 : am_I) (zm zi : Int32) (l3 : Option Value), k + n = N → SCR g g2 fi fi2 → zi.toInt = (k : Int) → zm.toInt = m → 0 ≤ m → m ≤ 9999 + 30 * k → am_nl l3 = true → (∀ z g3 fi3, z.toInt = bkV T M tb (fi 38 3).toInt n k m → SCR g g3 fi fi3 → P (some (.int z)) g3 fi3 fl) → WP (d + 9) 91 10 [some (.ref 0), some (.int (zm)), some (.int (zi)), l3] [] g2 fi2 fl P := by
  obtain ⟨hS, hsc, hC, hK, hX, hV, hT, hP, hB, hN, hQ, hZ, hI⟩ := id hR
  obtain ⟨⟨c0, c0a, c0b⟩, ⟨c1, c1a, c1b⟩, ⟨c2, c2a, c2b⟩, ⟨c3, c3a, c3b⟩, ⟨c4, c4a, c4b⟩, ⟨c5, c5a, c5b⟩, ⟨c6, c6a, c6b⟩, ⟨c7, c7a, c7b⟩, c8, c9⟩ := id hC
  intro n
  induction n with
  | zero =>
    intro k m g2 fi2 zm zi l3 hkn hs hzi hzm hm0 hm1 h3 kk
    have hS2 := (hR.scr hs).1
    refine wi_iload_2 ct_91_10 ?_
    refine wi_aload_0 ct_91_11 ?_
    refine wi_gfr ct_91_12 (sT_0 hS2) rfl (sR_0_0 hS2) ?_
    refine wi_gf (x := fi 31 44) ct_91_15 (sT_1 hS2) rfl rfl (Eq.trans (congrFun (hs.2.1 1 (by omega)) _) c6) ?_
    refine wi_icge_t ct_91_18 hzi hNb (by omega) ?_
    refine wi_ic ct_91_110 kc_m5 ?_
    refine wi_iret ct_91_112 rfl ?_
    exact kk _ _ _ (ki_m5.trans rfl) hs
  | succ n ih =>
    intro k m g2 fi2 zm zi l3 hkn hs hzi hzm hm0 hm1 h3 kk
    have hS2 := (hR.scr hs).1
    obtain ⟨b1, b2, b3a, b3b⟩ := hV.2.1 k (by omega)
    obtain ⟨-, kz1, kz2, -⟩ := hK 3 (by decide)
    obtain ⟨B, hB0⟩ : ∃ B : Nat, (fi 53 k).toInt = (B : Int) := ⟨(fi 53 k).toInt.toNat, by omega⟩
    have hBn := hB0
    obtain ⟨p, r, hW⟩ := BLW.at hB c0b (B := B) (by omega)
    obtain ⟨hB5, hO, w32, w33, w34, w35, w36, w37, k6, v9, d9, a60, co9, r9⟩ := id hW
    obtain ⟨o0, ⟨o72, onx, oow⟩, ot, ok, on, ov, oc, oa, om, orw⟩ := id hO
    have kq := fun j (h : j < 3) => (hK j (by omega)).2
    have hk0 := kq 0 (by decide)
    have hk1 := kq 1 (by decide)
    have hk2 := kq 2 (by decide)
    replace hk0 := And.intro hk0.1 (hk0.2.2 (by decide))
    replace hk1 := And.intro hk1.1 (hk1.2.2 (by decide))
    replace hk2 := And.intro hk2.1 (hk2.2.2 (by decide))
    have hGb := goodV_bd hk0 hk1 hk2
    have hwk : (fi 53 k).toInt.toNat = B := by omega
    refine wi_iload_2 ct_91_10 ?_
    refine wi_aload_0 ct_91_11 ?_
    refine wi_gfr ct_91_12 (sT_0 hS2) rfl (sR_0_0 hS2) ?_
    refine wi_gf (x := fi 31 44) ct_91_15 (sT_1 hS2) rfl rfl (Eq.trans (congrFun (hs.2.1 1 (by omega)) _) c6) ?_
    refine wi_icge_f ct_91_18 hzi hNb (by omega) ?_
    refine wi_aload_0 ct_91_21 ?_
    refine wi_aload_0 ct_91_22 ?_
    refine wi_gfr ct_91_23 (sT_0 hS2) rfl (sR_0_0 hS2) ?_
    refine wi_gfr ct_91_26 (sT_1 hS2) rfl (sR_1_9 hS2) ?_
    refine wi_iload_2 ct_91_29 ?_
    refine wi_iald (x := fi 53 k) ct_91_30 (sT_7 hS2) (sL_7 hS2) (i_in hzi (by omega)) (i_cl (k := k) hzi (by omega)) (Eq.trans (congrFun (hs.2.1 7 (by omega)) _) b1) ?_
    refine wi_cv1 (ls' := [some _, some _]) ct_91_31 (Nat.le_of_ble_eq_true rfl) (by decide) (sT_0 hS2) rfl (by decide) rfl rfl (Nat.le_of_ble_eq_true rfl) ?_
    refine wi_iload_1 ct_104_0 ?_
    refine wi_ic ct_104_1 kc_0 ?_
    refine wi_aload_0 ct_104_2 ?_
    refine wi_gfr ct_104_3 (sT_0 hS2) rfl (sR_0_0 hS2) ?_
    refine wi_gf (x := fi 31 0) ct_104_6 (sT_1 hS2) rfl rfl (Eq.trans (congrFun (hs.2.1 1 (by omega)) _) c0) ?_
    refine wi_ic ct_104_9 kc_1 ?_
    refine wi_isub ct_104_10 rfl ?_
    refine wi_cs3 (ls' := [some _, some _, some _]) ct_104_11 (Nat.le_of_ble_eq_true rfl) rfl (Nat.le_of_ble_eq_true rfl) ?_
    refine c_within hBn ki_0 (i_sub rfl ki_1 (by omega)) (fun _ => wk_i ?_) (fun h => absurd h (by omega))
    refine wi_ifeq_f ct_104_14 ki_1 (by decide) ?_
    refine wi_aload_0 ct_104_17 ?_
    refine wi_gfr ct_104_18 (sT_0 hS2) rfl (sR_0_0 hS2) ?_
    refine wi_gfr ct_104_21 (sT_1 hS2) rfl (sR_1_0 hS2) ?_
    refine wi_iload_1 ct_104_24 ?_
    refine wi_aald ct_104_25 (sT_2 hS2) (by decide) (sL_2 hS2) (i_in hBn (by omega)) (i_cl (k := B) hBn (by omega)) ((hs.1.2.2.2 2 B (by omega)).trans o0) ?_
    refine wi_goto ct_104_26 ?_
    refine wi_aret ct_104_30 (wk_r ?_)
    refine wi_astore_3 rfl ct_91_34 ?_
    refine wi_aload_3 ct_91_35 ?_
    refine wi_ifnull_r ct_91_36 ?_
    refine wi_iload_2 ct_91_39 ?_
    refine wi_aload_0 ct_91_40 ?_
    refine wi_gfr ct_91_41 (sT_0 hS2) rfl (sR_0_0 hS2) ?_
    refine wi_gfr ct_91_44 (sT_1 hS2) rfl (sR_1_2 hS2) ?_
    refine wi_ic ct_91_47 kc_3 ?_
    refine wi_iald (x := fi 38 3) ct_91_48 (sT_3 hS2) (sL_3 hS2) (by decide) kn_c3 (Eq.trans (congrFun (hs.2.1 3 (by omega)) _) (hK 3 (by decide)).1) ?_
    refine wi_iclt ct_91_49 hzi rfl (fun h1 => ?_) (fun h1 => ?_)
    · skip
      refine wi_aload_0 ct_91_54 ?_
      refine wi_aload_3 ct_91_55 ?_
      refine wi_cv1 (ls' := [some _, some _]) ct_91_56 (Nat.le_of_ble_eq_true rfl) (by decide) (sT_0 hS2) rfl (by decide) rfl rfl (Nat.le_of_ble_eq_true rfl) ?_
      refine c_begin hR hs hW hsq hsx (fun gb2 fb2 hsb2 hfb2 hkb2 hb2_1 hb2_2 hb2_3 hb2_4 hb2_5 hb2_6 => wk_v ?_)
      have hSb2 := (hR.scr hsb2).1
      refine wi_aload_0 ct_91_59 ?_
      refine wi_gfr ct_91_60 (sT_0 hSb2) rfl (sR_0_2 hSb2) ?_
      refine wi_iload_1 ct_91_63 ?_
      refine wi_pf ct_91_64 (sT_15 hSb2) rfl ?_
      refine wi_aload_0 ct_91_67 ?_
      refine wi_gfr ct_91_68 (sT_0 hSb2) rfl (sR_0_2 hSb2) ?_
      refine wi_aload_3 ct_91_71 ?_
      refine wi_cv1 (ls' := [some _, some _, none]) ct_91_72 (Nat.le_of_ble_eq_true rfl) (by decide) (sT_15 hSb2) rfl (by decide) rfl rfl (Nat.le_of_ble_eq_true rfl) ?_
      refine c_runR (cd2 := (fi 34 B).toInt) (aim2 := (fi 35 B).toInt) (G := (goodV (fi 38 0).toInt (fi 38 1).toInt (fi 38 2).toInt)) (m0 := m) (gust := 0) (calm := false) hR (hsb2.w (by omega)) hW (hkb2.fr (fun q hq => (funext fun _ => up2_nq (by omega)))) (((congrArg Int32.toInt (up2_nj (by decide))).trans hb2_1).trans (by omega)) (((congrArg Int32.toInt (up2_nj (by decide))).trans hb2_2).trans (by omega)) (((congrArg Int32.toInt (up2_nj (by decide))).trans hb2_3).trans (by omega)) (((congrArg Int32.toInt up2_eq).trans hzm).trans (by omega)) (((congrArg Int32.toInt (Eq.trans (up2_nj (by decide)) hb2_5)).trans ki_0).trans (by omega)) ((Eq.trans (up2_nj (by decide)) hb2_6).trans rfl) (by omega) (by omega) (by omega) (by omega) (by omega) (fun Rr3 fr3 hr3_e hsr3 hr3_f hr3_7 hr3_11 hr3_12 hr3_10 hr3_4 hr3_13 hr3_j => wk_v ?_)
      have hSr3 := (hR.scr hsr3).1
      have hbdr3 := goR_bd (SQs_v hsq) (by omega) ((film_bd d9 hGb).2) hr3_e
      have her3 : Rr3 = goF fi sq B (goodV (fi 38 0).toInt (fi 38 1).toInt (fi 38 2).toInt) (m) := hr3_e
      have hTk : (fr3 15 13).toInt = T k m := (congrArg Int32.toInt hr3_13).trans (by rw [hTq, hwk, ← her3])
      have hto := bI_bd (!Rr3.1)
      have hTb : 0 ≤ T k m ∧ T k m ≤ 1 := by rw [hTq, hwk, ← her3]; exact hto
      have hMk : M k m = gMn Rr3 := by rw [hMq, hwk, ← her3]
      have hMb : 0 ≤ M k m ∧ M k m ≤ 30 := by omega
      have hcl : (fr3 15 4).toInt = m + M k m := hr3_4.trans (by omega)
      refine wi_aload_0 ct_91_75 ?_
      refine wi_gfr ct_91_76 (sT_0 hSr3) rfl (sR_0_2 hSr3) ?_
      refine wi_gf (x := fr3 15 13) ct_91_79 (sT_15 hSr3) rfl rfl rfl ?_
      refine wi_aload_0 ct_91_82 ?_
      refine wi_gfr ct_91_83 (sT_0 hSr3) rfl (sR_0_0 hSr3) ?_
      refine wi_gfr ct_91_86 (sT_1 hSr3) rfl (sR_1_10 hSr3) ?_
      refine wi_iload_2 ct_91_89 ?_
      refine wi_bald (x := fi 54 k) ct_91_90 (Or.inr (sT_8 hSr3)) (sL_8 hSr3) (i_in hzi (by omega)) (i_cl (k := k) hzi (by omega)) (Eq.trans (congrFun (hsr3.2.1 8 (by omega)) _) b2) ?_
      refine wi_iceq ct_91_91 hTk rfl (fun h4 => ?_) (fun h4 => ?_)
      · skip
        refine wi_aload_0 ct_91_96 ?_
        refine wi_gfr ct_91_97 (sT_0 hSr3) rfl (sR_0_2 hSr3) ?_
        refine wi_gf (x := fr3 15 4) ct_91_100 (sT_15 hSr3) rfl rfl rfl ?_
        refine wi_istore_1 rfl ct_91_103 ?_
        refine wi_iinc_2 rfl (z := (zi + 1)) ct_91_104 (by rw [kc_1]) ?_
        refine wi_goto ct_91_107 ?_
        have htk := htb k
        rw [bkV_3 (by omega) (by omega)] at kk
        exact ih (k + 1) (m + M k m) _ _ _ _ _ (by omega) hsr3 ((i_add hzi ki_1 (by omega)).trans (by omega)) (hcl.trans (by omega)) (by omega) (by omega) rfl kk
      · skip
        refine wi_iload_2 ct_91_94 ?_
        refine wi_iret ct_91_95 rfl ?_
        have htk := htb k
        exact kk _ _ _ (hzi.trans (bkV_2 (by omega) (by omega)).symm) hsr3
    · skip
      refine wi_iload_2 ct_91_52 ?_
      refine wi_iret ct_91_53 rfl ?_
      exact kk _ _ _ (hzi.trans (bkV_1 (by omega)).symm) hs
set_option maxHeartbeats 2000000 in
theorem vl_mlook {L : Nat} {xs : Nat → Int32} {own : Nat → Nat} {d : Nat} {g : am_G} {fi : am_I} {fl : am_L} {P : Option Value → am_G → am_I → am_L → Prop} {sq : Option sq_T} (hR : Rel L xs own g fi fl) (hsq : SQs fi sq) {T M : Nat → Int → Int} {tb : Nat → Int} {N : Nat} (hTq : ∀ k m, T k m = (bI (!(goF fi sq (fi 53 k).toInt.toNat (goodV (fi 38 0).toInt (fi 38 1).toInt (fi 38 2).toInt) m).1)).toInt) (hMq : ∀ k m, M k m = gMn (goF fi sq (fi 53 k).toInt.toNat (goodV (fi 38 0).toInt (fi 38 1).toInt (fi 38 2).toInt) m)) (htb : ∀ k, tb k = (fi 54 k).toInt) (hNb : (fi 31 44).toInt = (N : Int)) : ∀ (n k : Nat) (m : Int) (g2 : am_G) (fi2 : am_I) (zm zi : Int32), k + n = N → SCR g g2 fi fi2 → zi.toInt = (k : Int) → zm.toInt = m → 0 ≤ m → m ≤ 9999 + 30 * k → (∀ z fi3, z.toInt = bkV T M tb (fi 38 3).toInt n k m → SCR g g2 fi fi3 → P (some (.int z)) g2 fi3 fl) → WP (d + 9) 178 7 [some (.ref 31), some (.int (zm)), some (.int (zi))] [] g2 fi2 fl P := by
  obtain ⟨hS, hsc, hC, hK, hX, hV, hT, hP, hB, hN, hQ, hZ, hI⟩ := id hR
  obtain ⟨⟨c0, c0a, c0b⟩, ⟨c1, c1a, c1b⟩, ⟨c2, c2a, c2b⟩, ⟨c3, c3a, c3b⟩, ⟨c4, c4a, c4b⟩, ⟨c5, c5a, c5b⟩, ⟨c6, c6a, c6b⟩, ⟨c7, c7a, c7b⟩, c8, c9⟩ := id hC
  intro n
  induction n with
  | zero =>
    intro k m g2 fi2 zm zi hkn hs hzi hzm hm0 hm1 kk
    have hS2 := (hR.scr hs).1
    refine wi_iload_2 ct_178_7 ?_
    refine wi_aload_0 ct_178_8 ?_
    refine wi_gf (x := fi 31 44) ct_178_9 (sT_31 hS2) rfl rfl (hs.2.2.2 44 (by omega)) ?_
    refine wi_icge_t ct_178_12 hzi hNb (by omega) ?_
    refine wi_ic ct_178_66 kc_m5 ?_
    refine wi_iret ct_178_68 rfl ?_
    exact kk _ _ (ki_m5.trans rfl) hs
  | succ n ih =>
    intro k m g2 fi2 zm zi hkn hs hzi hzm hm0 hm1 kk
    have hS2 := (hR.scr hs).1
    obtain ⟨b1, b2, b3a, b3b⟩ := hV.2.1 k (by omega)
    obtain ⟨-, kz1, kz2, -⟩ := hK 3 (by decide)
    obtain ⟨B, hB0⟩ : ∃ B : Nat, (fi 53 k).toInt = (B : Int) := ⟨(fi 53 k).toInt.toNat, by omega⟩
    have hBn := hB0
    obtain ⟨p, r, hW⟩ := BLW.at hB c0b (B := B) (by omega)
    obtain ⟨hB5, hO, w32, w33, w34, w35, w36, w37, k6, v9, d9, a60, co9, r9⟩ := id hW
    obtain ⟨o0, ⟨o72, onx, oow⟩, ot, ok, on, ov, oc, oa, om, orw⟩ := id hO
    have kq := fun j (h : j < 3) => (hK j (by omega)).2
    have hk0 := kq 0 (by decide)
    have hk1 := kq 1 (by decide)
    have hk2 := kq 2 (by decide)
    replace hk0 := And.intro hk0.1 (hk0.2.2 (by decide))
    replace hk1 := And.intro hk1.1 (hk1.2.2 (by decide))
    replace hk2 := And.intro hk2.1 (hk2.2.2 (by decide))
    have hGb := goodV_bd hk0 hk1 hk2
    have hwk : (fi 53 k).toInt.toNat = B := by omega
    have hmb := MB.of hR hW hsq
    refine wi_iload_2 ct_178_7 ?_
    refine wi_aload_0 ct_178_8 ?_
    refine wi_gf (x := fi 31 44) ct_178_9 (sT_31 hS2) rfl rfl (hs.2.2.2 44 (by omega)) ?_
    refine wi_icge_f ct_178_12 hzi hNb (by omega) ?_
    refine wi_iload_2 ct_178_15 ?_
    refine wi_aload_0 ct_178_16 ?_
    refine wi_gfr ct_178_17 (sT_31 hS2) rfl (sR_31_8 hS2) ?_
    refine wi_ic ct_178_20 kc_3 ?_
    refine wi_iald (x := fi 38 3) ct_178_21 (sT_38 hS2) (sL_38 hS2) (by decide) kn_c3 (congrFun (hs.2.1 38 (by omega)) _) ?_
    refine wi_iclt ct_178_22 hzi rfl (fun h1 => ?_) (fun h1 => ?_)
    · skip
      refine wi_aload_0 ct_178_27 ?_
      refine wi_aload_0 ct_178_28 ?_
      refine wi_gfr ct_178_29 (sT_31 hS2) rfl (sR_31_45 hS2) ?_
      refine wi_iload_2 ct_178_32 ?_
      refine wi_iald (x := fi 53 k) ct_178_33 (sT_53 hS2) (sL_53 hS2) (i_in hzi (by omega)) (i_cl (k := k) hzi (by omega)) (congrFun (hs.2.1 53 (by omega)) _) ?_
      refine wi_iload_1 ct_178_34 ?_
      refine wi_cv2 (ls' := [some _, some _, some _, none, none, none, none]) ct_178_35 (Nat.le_of_ble_eq_true rfl) (by decide) (sT_31 hS2) rfl (by decide) rfl rfl (Nat.le_of_ble_eq_true rfl) ?_
      refine c_goR (m0 := m) hS2 hmb hs hBn (hzm.trans (by omega)) (by omega) (fun Ro2 fo2 ho2_e hso2 ho2_f ho2_30 ho2_31 ho2_32 ho2_33 ho2_34 => wk_v ?_)
      have hbdo2 := goR_bd (SQs_v hsq) (by omega) ((film_bd d9 hGb).2) ho2_e
      have heo2 : Ro2 = goF fi sq B (goodV (fi 38 0).toInt (fi 38 1).toInt (fi 38 2).toInt) (m) := ho2_e
      have hTk : (fo2 31 34).toInt = T k m := (congrArg Int32.toInt ho2_34).trans (by rw [hTq, hwk, ← heo2])
      have hto := bI_bd (!Ro2.1)
      have hTb : 0 ≤ T k m ∧ T k m ≤ 1 := by rw [hTq, hwk, ← heo2]; exact hto
      have hMk : M k m = gMn Ro2 := by rw [hMq, hwk, ← heo2]
      have hMb : 0 ≤ M k m ∧ M k m ≤ 30 := by omega
      have hcl : (fo2 31 33).toInt = M k m := ho2_33.trans (by omega)
      refine wi_aload_0 ct_178_38 ?_
      refine wi_gf (x := fo2 31 34) ct_178_39 (sT_31 hS2) rfl rfl rfl ?_
      refine wi_aload_0 ct_178_42 ?_
      refine wi_gfr ct_178_43 (sT_31 hS2) rfl (sR_31_46 hS2) ?_
      refine wi_iload_2 ct_178_46 ?_
      refine wi_bald (x := fi 54 k) ct_178_47 (Or.inr (sT_54 hS2)) (sL_54 hS2) (i_in hzi (by omega)) (i_cl (k := k) hzi (by omega)) (congrFun (hso2.2.1 54 (by omega)) _) ?_
      refine wi_iceq ct_178_48 hTk rfl (fun h3 => ?_) (fun h3 => ?_)
      · skip
        refine wi_iload_1 ct_178_53 ?_
        refine wi_aload_0 ct_178_54 ?_
        refine wi_gf (x := fo2 31 33) ct_178_55 (sT_31 hS2) rfl rfl rfl ?_
        refine wi_iadd ct_178_58 rfl ?_
        refine wi_istore_1 rfl ct_178_59 ?_
        refine wi_iinc_2 rfl (z := (zi + 1)) ct_178_60 (by rw [kc_1]) ?_
        refine wi_goto ct_178_63 ?_
        have htk := htb k
        rw [bkV_3 (by omega) (by omega)] at kk
        exact ih (k + 1) (m + M k m) _ _ _ _ (by omega) hso2 ((i_add hzi ki_1 (by omega)).trans (by omega)) ((i_add hzm hcl (by omega)).trans (by omega)) (by omega) (by omega) kk
      · skip
        refine wi_iload_2 ct_178_51 ?_
        refine wi_iret ct_178_52 rfl ?_
        have htk := htb k
        exact kk _ _ (hzi.trans (bkV_2 (by omega) (by omega)).symm) hso2
    · skip
      refine wi_iload_2 ct_178_25 ?_
      refine wi_iret ct_178_26 rfl ?_
      exact kk _ _ (hzi.trans (bkV_1 (by omega)).symm) hs
set_option maxHeartbeats 2000000 in
theorem op_looked {L I : Nat} {xs : Nat → Int32} {own : Nat → Nat} {d : Nat} {g : am_G} {fi : am_I} {fl : am_L} {P : Option Value → am_G → am_I → am_L → Prop} {i : Int32} (hi : i.toInt = (I : Int)) (hI6 : I + 6 ≤ L) (hL : L ≤ 3072) (hR : Rel L xs own g fi fl) (hnx : am_nx g ≤ 800000) (kk : ∀ own' g' fi' fl', Rel L xs own' g' fi' fl' → am_nx g' ≤ am_nx g + 30 → am_sl g' ≤ am_sl g + 1000 → WP (d + 60) 211 1359 [some (.retAddr 0), some (.ref 0), some (.ref 31), some (.int i)] [] g' fi' fl' P) : WP (d + 60) 211 952 [some (.retAddr 0), some (.ref 0), some (.ref 31), some (.int i)] [] g fi fl P := by
  obtain ⟨hS, hsc, hC, hK, hX, hV, hT, hP, hB, hN, hQ, hZ, hI⟩ := id hR
  obtain ⟨⟨c0, c0a, c0b⟩, ⟨c1, c1a, c1b⟩, ⟨c2, c2a, c2b⟩, ⟨c3, c3a, c3b⟩, ⟨c4, c4a, c4b⟩, ⟨c5, c5a, c5b⟩, ⟨c6, c6a, c6b⟩, ⟨c7, c7a, c7b⟩, c8, c9⟩ := id hC
  obtain ⟨sq, hsq, hsx⟩ := sq_of hR
  obtain ⟨N, hNb⟩ : ∃ N : Nat, (fi 31 44).toInt = (N : Int) := ⟨(fi 31 44).toInt.toNat, by omega⟩
  obtain ⟨T, hTq⟩ : ∃ T : Nat → Int → Int, ∀ k m, T k m = (bI (!(goF fi sq (fi 53 k).toInt.toNat (goodV (fi 38 0).toInt (fi 38 1).toInt (fi 38 2).toInt) m).1)).toInt := ⟨_, fun _ _ => rfl⟩
  obtain ⟨M, hMq⟩ : ∃ M : Nat → Int → Int, ∀ k m, M k m = gMn (goF fi sq (fi 53 k).toInt.toNat (goodV (fi 38 0).toInt (fi 38 1).toInt (fi 38 2).toInt) m) := ⟨_, fun _ _ => rfl⟩
  obtain ⟨tb, htb⟩ : ∃ tb : Nat → Int, ∀ k, tb k = (fi 54 k).toInt := ⟨_, fun _ => rfl⟩
  refine wi_aload_1 ct_211_952 ?_
  refine wi_cv0 (ls' := [some _, none, none, none]) ct_211_953 (Nat.le_of_ble_eq_true rfl) (by decide) (sT_0 hS) rfl (by decide) rfl rfl (Nat.le_of_ble_eq_true rfl) ?_
  refine wi_aload_0 ct_91_0 ?_
  refine wi_gfr ct_91_1 (sT_0 hS) rfl (sR_0_0 hS) ?_
  refine wi_gf (x := fi 31 1) ct_91_4 (sT_1 hS) rfl rfl c1 ?_
  refine wi_istore_1 rfl ct_91_7 ?_
  refine wi_ic ct_91_8 kc_0 ?_
  refine wi_istore_2 rfl ct_91_9 ?_
  refine vl_clook hR hsq hsx hTq hMq htb hNb N 0 (fi 31 1).toInt _ _ _ _ none (by omega) SCR.rfl (ki_0.trans rfl) rfl (by omega) (by omega) rfl (fun zc1 gc1 fc1 hzc1 hsc1 => wk_i ?_)
  have hSc1 := (hR.scr hsc1).1
  refine wi_aload_2 ct_211_956 ?_
  refine wi_cv0 (ls' := [some _, none, none]) ct_211_957 (Nat.le_of_ble_eq_true rfl) (by decide) (sT_31 hSc1) rfl (by decide) rfl rfl (Nat.le_of_ble_eq_true rfl) ?_
  refine wi_aload_0 ct_178_0 ?_
  refine wi_gf (x := fi 31 1) ct_178_1 (sT_31 hSc1) rfl rfl (hsc1.2.2.2 1 (by omega)) ?_
  refine wi_istore_1 rfl ct_178_4 ?_
  refine wi_ic ct_178_5 kc_0 ?_
  refine wi_istore_2 rfl ct_178_6 ?_
  refine vl_mlook hR hsq hTq hMq htb hNb N 0 (fi 31 1).toInt _ _ _ _ (by omega) hsc1 (ki_0.trans rfl) rfl (by omega) (by omega) (fun zm2 fm2 hzm2 hsm2 => wk_i ?_)
  refine wi_iceq_t ct_211_960 hzc1 hzm2 (by omega) ?_
  exact kk own _ _ fl (hR.scr hsm2) (by rw [hsm2.nx]; omega) (by rw [hsm2.sl]; omega)
