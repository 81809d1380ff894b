def KPT (fi fi2 : am_I) (b K : Nat) : Prop := (fi2 K 0 = fi 34 b ∧ fi2 K 1 = fi 35 b ∧ fi2 K 2 = fi 36 b) ∧ ((fi 32 b).toInt = 6 → ∀ j, j < 4 → fi2 K (3 + j) = fi 37 (4 * b + j))
def GVT (fi fi2 : am_I) (p r K : Nat) (kd : Int) : Prop := (fi2 p 0 = fi p 0 ∧ fi2 p 1 = fi p 1 ∧ fi2 p 2 = fi p 2) ∧ (fi2 p 3 = fi K 0 ∧ fi2 p 4 = fi K 1 ∧ fi2 p 5 = fi K 2) ∧ (kd = 6 → ∀ j, j < 4 → fi2 r j = fi K (3 + j))
theorem KPT.fr {fi fi2 fi3 : am_I} {b K : Nat} (h : KPT fi fi2 b K) (e : fi3 K = fi2 K) : KPT fi fi3 b K := by
  unfold KPT
  rw [e]
  exact h
theorem GVT.fr {fi fi2 fi3 : am_I} {p r K : Nat} {kd : Int} (h : GVT fi fi2 p r K kd) (e : fi3 p = fi2 p) (e2 : kd = 6 → fi3 r = fi2 r) : GVT fi fi3 p r K kd := by
  obtain ⟨h1, h2, h3⟩ := h
  unfold GVT
  rw [e]
  exact ⟨h1, h2, fun k j hj => by rw [e2 k]; exact h3 k j hj⟩
theorem cp3a {α : Type} {f : Nat → Nat → α} {a0 a1 j : Nat} (h : j < 4) : cp2 f a0 a1 0 3 4 a1 (3 + j) = f a0 j := (cp3 (sp := 0) h).trans (by rw [Nat.zero_add])
theorem cp3b {α : Type} {f : Nat → Nat → α} {a0 a1 j : Nat} (h : j < 4) : cp2 f a0 a1 3 0 4 a1 j = f a0 (3 + j) := by
  have := cp3 (f := f) (a0 := a0) (a1 := a1) (sp := 3) (dp := 0) h
  rw [Nat.zero_add] at this
  exact this
def MUN (fi fi2 : am_I) : Prop := (fi2 31 0 = fi 31 49 ∧ fi2 31 1 = fi 31 50 ∧ fi2 31 10 = fi 31 48 ∧ fi2 31 40 = fi 31 51 ∧ fi2 31 44 = fi 31 52) ∧ (∀ j, ¬ (j = 0 ∨ j = 1 ∨ j = 10 ∨ j = 40 ∨ j = 44) → fi2 31 j = fi 31 j) ∧ (∀ q, ¬ (q = 31 ∨ 32 ≤ q ∧ q ≤ 38 ∨ 50 ≤ q ∧ q ≤ 54) → fi2 q = fi q) ∧ (∀ j, j < 5 → fi2 32 j = fi 55 j ∧ fi2 33 j = fi 56 j ∧ fi2 34 j = fi 57 j ∧ fi2 35 j = fi 58 j ∧ fi2 36 j = fi 59 j) ∧ (∀ j, j < 20 → fi2 37 j = fi 60 j) ∧ (∀ j, j < 4 → fi2 38 j = fi 61 j) ∧ (∀ j, j < 6 → fi2 50 j = fi 62 j ∧ fi2 51 j = fi 63 j ∧ fi2 52 j = fi 64 j) ∧ ∀ j, j < 12 → fi2 53 j = fi 65 j ∧ fi2 54 j = fi 66 j
theorem c_mimage {L d : Nat} {g : am_G} {fi : am_I} {fl : am_L} {P : Option Value → am_G → am_I → am_L → Prop} (hS : SF L g) (hz : ∀ j, j < 12 → am_bit (fi 54 j) = true) (kk : ∀ fi2, MIM fi fi2 → P (some (.int (fi 31 0))) g fi2 fl) : WP d 180 0 [some (.ref 31), none] [] g fi fl P := by
  refine wi_aload_0 ct_180_0 ?_
  refine wi_ic ct_180_1 kc_1 ?_
  refine wi_pfz ct_180_2 (sT_31 hS) rfl (by decide) ?_
  refine wi_aload_0 ct_180_5 ?_
  refine wi_aload_0 ct_180_6 ?_
  refine wi_gf (x := fi 31 10) ct_180_7 (sT_31 hS) rfl rfl (up2_nj (by decide)) ?_
  refine wi_pf ct_180_10 (sT_31 hS) rfl ?_
  refine wi_aload_0 ct_180_13 ?_
  refine wi_aload_0 ct_180_14 ?_
  refine wi_gf (x := fi 31 0) ct_180_15 (sT_31 hS) rfl rfl (Eq.trans (up2_nj (by decide)) (up2_nj (by decide))) ?_
  refine wi_pf ct_180_18 (sT_31 hS) rfl ?_
  refine wi_aload_0 ct_180_21 ?_
  refine wi_aload_0 ct_180_22 ?_
  refine wi_gf (x := fi 31 1) ct_180_23 (sT_31 hS) rfl rfl (Eq.trans (up2_nj (by decide)) (Eq.trans (up2_nj (by decide)) (up2_nj (by decide)))) ?_
  refine wi_pf ct_180_26 (sT_31 hS) rfl ?_
  refine wi_aload_0 ct_180_29 ?_
  refine wi_aload_0 ct_180_30 ?_
  refine wi_gf (x := fi 31 40) ct_180_31 (sT_31 hS) rfl rfl (Eq.trans (up2_nj (by decide)) (Eq.trans (up2_nj (by decide)) (Eq.trans (up2_nj (by decide)) (up2_nj (by decide))))) ?_
  refine wi_pf ct_180_34 (sT_31 hS) rfl ?_
  refine wi_aload_0 ct_180_37 ?_
  refine wi_aload_0 ct_180_38 ?_
  refine wi_gf (x := fi 31 44) ct_180_39 (sT_31 hS) rfl rfl (Eq.trans (up2_nj (by decide)) (Eq.trans (up2_nj (by decide)) (Eq.trans (up2_nj (by decide)) (Eq.trans (up2_nj (by decide)) (up2_nj (by decide)))))) ?_
  refine wi_pf ct_180_42 (sT_31 hS) rfl ?_
  refine wi_ic ct_180_45 kc_0 ?_
  refine wi_istore_1 rfl ct_180_46 ?_
  refine vl_image0 hS (fun f0 zi0 k0_0 k0_1 k0_2 k0_3 k0_4 k0_5 => ?_) 5 0 _ _ (by omega) (ki_0.trans rfl) (fun j hj => absurd hj (by omega)) (fun j hj => absurd hj (by omega)) (fun j hj => absurd hj (by omega)) (fun j hj => absurd hj (by omega)) (fun j hj => absurd hj (by omega)) (fun _ _ => rfl)
  refine wi_ic ct_180_118 kc_0 ?_
  refine wi_istore_1 rfl ct_180_119 ?_
  refine vl_image1 hS (fun f1 zi1 k1_0 k1_1 => ?_) 20 0 _ _ (by omega) (ki_0.trans rfl) (fun j hj => absurd hj (by omega)) (fun _ _ => rfl)
  refine wi_ic ct_180_144 kc_0 ?_
  refine wi_istore_1 rfl ct_180_145 ?_
  refine vl_image2 hS (fun f2 zi2 k2_0 k2_1 => ?_) 4 0 _ _ (by omega) (ki_0.trans rfl) (fun j hj => absurd hj (by omega)) (fun _ _ => rfl)
  refine wi_ic ct_180_169 kc_0 ?_
  refine wi_istore_1 rfl ct_180_170 ?_
  refine vl_image3 hS (fun f3 zi3 k3_0 k3_1 k3_2 k3_3 => ?_) 6 0 _ _ (by omega) (ki_0.trans rfl) (fun j hj => absurd hj (by omega)) (fun j hj => absurd hj (by omega)) (fun j hj => absurd hj (by omega)) (fun _ _ => rfl)
  refine wi_ic ct_180_219 kc_0 ?_
  refine wi_istore_1 rfl ct_180_220 ?_
  refine vl_image4 hS (fun j hj => by rw [show f3 54 j = fi 54 j from (Eq.trans (congrFun (k3_3 54 (by decide)) _) (Eq.trans (congrFun (k2_1 54 (by decide)) _) (Eq.trans (congrFun (k1_1 54 (by decide)) _) (Eq.trans (congrFun (k0_5 54 (by decide)) _) (Eq.trans (up2_nq (by decide)) (Eq.trans (up2_nq (by decide)) (Eq.trans (up2_nq (by decide)) (Eq.trans (up2_nq (by decide)) (Eq.trans (up2_nq (by decide)) (up2_nq (by decide)))))))))))]; exact hz j hj) (fun f4 zi4 k4_0 k4_1 k4_2 => ?_) 12 0 _ _ (by omega) (ki_0.trans rfl) (fun j hj => absurd hj (by omega)) (fun j hj => absurd hj (by omega)) (fun _ _ => rfl)
  refine wi_aload_0 ct_180_257 ?_
  refine wi_gf (x := fi 31 0) ct_180_258 (sT_31 hS) rfl rfl (Eq.trans (congrFun (k4_2 31 (by decide)) _) (Eq.trans (congrFun (k3_3 31 (by decide)) _) (Eq.trans (congrFun (k2_1 31 (by decide)) _) (Eq.trans (congrFun (k1_1 31 (by decide)) _) (Eq.trans (congrFun (k0_5 31 (by decide)) _) (Eq.trans (up2_nj (by decide)) (Eq.trans (up2_nj (by decide)) (Eq.trans (up2_nj (by decide)) (Eq.trans (up2_nj (by decide)) (Eq.trans (up2_nj (by decide)) (up2_nj (by decide)))))))))))) ?_
  refine wi_iret ct_180_261 rfl ?_
  exact kk _ ⟨⟨(Eq.trans (congrFun (k4_2 31 (by decide)) _) (Eq.trans (congrFun (k3_3 31 (by decide)) _) (Eq.trans (congrFun (k2_1 31 (by decide)) _) (Eq.trans (congrFun (k1_1 31 (by decide)) _) (Eq.trans (congrFun (k0_5 31 (by decide)) _) (Eq.trans (up2_nj (by decide)) (Eq.trans (up2_nj (by decide)) (Eq.trans (up2_nj (by decide)) (Eq.trans (up2_nj (by decide)) (Eq.trans (up2_nj (by decide)) up2_eq)))))))))), (Eq.trans (congrFun (k4_2 31 (by decide)) _) (Eq.trans (congrFun (k3_3 31 (by decide)) _) (Eq.trans (congrFun (k2_1 31 (by decide)) _) (Eq.trans (congrFun (k1_1 31 (by decide)) _) (Eq.trans (congrFun (k0_5 31 (by decide)) _) (Eq.trans (up2_nj (by decide)) (Eq.trans (up2_nj (by decide)) (Eq.trans (up2_nj (by decide)) (Eq.trans (up2_nj (by decide)) up2_eq))))))))), (Eq.trans (congrFun (k4_2 31 (by decide)) _) (Eq.trans (congrFun (k3_3 31 (by decide)) _) (Eq.trans (congrFun (k2_1 31 (by decide)) _) (Eq.trans (congrFun (k1_1 31 (by decide)) _) (Eq.trans (congrFun (k0_5 31 (by decide)) _) (Eq.trans (up2_nj (by decide)) (Eq.trans (up2_nj (by decide)) (Eq.trans (up2_nj (by decide)) up2_eq)))))))), (Eq.trans (congrFun (k4_2 31 (by decide)) _) (Eq.trans (congrFun (k3_3 31 (by decide)) _) (Eq.trans (congrFun (k2_1 31 (by decide)) _) (Eq.trans (congrFun (k1_1 31 (by decide)) _) (Eq.trans (congrFun (k0_5 31 (by decide)) _) (Eq.trans (up2_nj (by decide)) (Eq.trans (up2_nj (by decide)) up2_eq))))))), (Eq.trans (congrFun (k4_2 31 (by decide)) _) (Eq.trans (congrFun (k3_3 31 (by decide)) _) (Eq.trans (congrFun (k2_1 31 (by decide)) _) (Eq.trans (congrFun (k1_1 31 (by decide)) _) (Eq.trans (congrFun (k0_5 31 (by decide)) _) (Eq.trans (up2_nj (by decide)) up2_eq)))))), (Eq.trans (congrFun (k4_2 31 (by decide)) _) (Eq.trans (congrFun (k3_3 31 (by decide)) _) (Eq.trans (congrFun (k2_1 31 (by decide)) _) (Eq.trans (congrFun (k1_1 31 (by decide)) _) (Eq.trans (congrFun (k0_5 31 (by decide)) _) up2_eq)))))⟩, (fun j hj => (Eq.trans (congrFun (k4_2 31 (by decide)) _) (Eq.trans (congrFun (k3_3 31 (by decide)) _) (Eq.trans (congrFun (k2_1 31 (by decide)) _) (Eq.trans (congrFun (k1_1 31 (by decide)) _) (Eq.trans (congrFun (k0_5 31 (by decide)) _) (Eq.trans (up2_nj (by omega)) (Eq.trans (up2_nj (by omega)) (Eq.trans (up2_nj (by omega)) (Eq.trans (up2_nj (by omega)) (Eq.trans (up2_nj (by omega)) (up2_nj (by omega))))))))))))), (fun q hq => (Eq.trans (k4_2 q (by omega)) (Eq.trans (k3_3 q (by omega)) (Eq.trans (k2_1 q (by omega)) (Eq.trans (k1_1 q (by omega)) (Eq.trans (k0_5 q (by omega)) (Eq.trans (funext fun _ => up2_nq (by omega)) (Eq.trans (funext fun _ => up2_nq (by omega)) (Eq.trans (funext fun _ => up2_nq (by omega)) (Eq.trans (funext fun _ => up2_nq (by omega)) (Eq.trans (funext fun _ => up2_nq (by omega)) (funext fun _ => up2_nq (by omega))))))))))))), (fun j hj => ⟨(Eq.trans (congrFun (k4_2 55 (by decide)) _) (Eq.trans (congrFun (k3_3 55 (by decide)) _) (Eq.trans (congrFun (k2_1 55 (by decide)) _) (Eq.trans (congrFun (k1_1 55 (by decide)) _) (Eq.trans (k0_0 j hj) (Eq.trans (up2_nq (by decide)) (Eq.trans (up2_nq (by decide)) (Eq.trans (up2_nq (by decide)) (Eq.trans (up2_nq (by decide)) (Eq.trans (up2_nq (by decide)) (up2_nq (by decide)))))))))))), (Eq.trans (congrFun (k4_2 56 (by decide)) _) (Eq.trans (congrFun (k3_3 56 (by decide)) _) (Eq.trans (congrFun (k2_1 56 (by decide)) _) (Eq.trans (congrFun (k1_1 56 (by decide)) _) (Eq.trans (k0_1 j hj) (Eq.trans (up2_nq (by decide)) (Eq.trans (up2_nq (by decide)) (Eq.trans (up2_nq (by decide)) (Eq.trans (up2_nq (by decide)) (Eq.trans (up2_nq (by decide)) (up2_nq (by decide)))))))))))), (Eq.trans (congrFun (k4_2 57 (by decide)) _) (Eq.trans (congrFun (k3_3 57 (by decide)) _) (Eq.trans (congrFun (k2_1 57 (by decide)) _) (Eq.trans (congrFun (k1_1 57 (by decide)) _) (Eq.trans (k0_2 j hj) (Eq.trans (up2_nq (by decide)) (Eq.trans (up2_nq (by decide)) (Eq.trans (up2_nq (by decide)) (Eq.trans (up2_nq (by decide)) (Eq.trans (up2_nq (by decide)) (up2_nq (by decide)))))))))))), (Eq.trans (congrFun (k4_2 58 (by decide)) _) (Eq.trans (congrFun (k3_3 58 (by decide)) _) (Eq.trans (congrFun (k2_1 58 (by decide)) _) (Eq.trans (congrFun (k1_1 58 (by decide)) _) (Eq.trans (k0_3 j hj) (Eq.trans (up2_nq (by decide)) (Eq.trans (up2_nq (by decide)) (Eq.trans (up2_nq (by decide)) (Eq.trans (up2_nq (by decide)) (Eq.trans (up2_nq (by decide)) (up2_nq (by decide)))))))))))), (Eq.trans (congrFun (k4_2 59 (by decide)) _) (Eq.trans (congrFun (k3_3 59 (by decide)) _) (Eq.trans (congrFun (k2_1 59 (by decide)) _) (Eq.trans (congrFun (k1_1 59 (by decide)) _) (Eq.trans (k0_4 j hj) (Eq.trans (up2_nq (by decide)) (Eq.trans (up2_nq (by decide)) (Eq.trans (up2_nq (by decide)) (Eq.trans (up2_nq (by decide)) (Eq.trans (up2_nq (by decide)) (up2_nq (by decide))))))))))))⟩), (fun j hj => (Eq.trans (congrFun (k4_2 60 (by decide)) _) (Eq.trans (congrFun (k3_3 60 (by decide)) _) (Eq.trans (congrFun (k2_1 60 (by decide)) _) (Eq.trans (k1_0 j hj) (Eq.trans (congrFun (k0_5 37 (by decide)) _) (Eq.trans (up2_nq (by decide)) (Eq.trans (up2_nq (by decide)) (Eq.trans (up2_nq (by decide)) (Eq.trans (up2_nq (by decide)) (Eq.trans (up2_nq (by decide)) (up2_nq (by decide))))))))))))), (fun j hj => (Eq.trans (congrFun (k4_2 61 (by decide)) _) (Eq.trans (congrFun (k3_3 61 (by decide)) _) (Eq.trans (k2_0 j hj) (Eq.trans (congrFun (k1_1 38 (by decide)) _) (Eq.trans (congrFun (k0_5 38 (by decide)) _) (Eq.trans (up2_nq (by decide)) (Eq.trans (up2_nq (by decide)) (Eq.trans (up2_nq (by decide)) (Eq.trans (up2_nq (by decide)) (Eq.trans (up2_nq (by decide)) (up2_nq (by decide))))))))))))), (fun j hj => ⟨(Eq.trans (congrFun (k4_2 62 (by decide)) _) (Eq.trans (k3_0 j hj) (Eq.trans (congrFun (k2_1 50 (by decide)) _) (Eq.trans (congrFun (k1_1 50 (by decide)) _) (Eq.trans (congrFun (k0_5 50 (by decide)) _) (Eq.trans (up2_nq (by decide)) (Eq.trans (up2_nq (by decide)) (Eq.trans (up2_nq (by decide)) (Eq.trans (up2_nq (by decide)) (Eq.trans (up2_nq (by decide)) (up2_nq (by decide)))))))))))), (Eq.trans (congrFun (k4_2 63 (by decide)) _) (Eq.trans (k3_1 j hj) (Eq.trans (congrFun (k2_1 51 (by decide)) _) (Eq.trans (congrFun (k1_1 51 (by decide)) _) (Eq.trans (congrFun (k0_5 51 (by decide)) _) (Eq.trans (up2_nq (by decide)) (Eq.trans (up2_nq (by decide)) (Eq.trans (up2_nq (by decide)) (Eq.trans (up2_nq (by decide)) (Eq.trans (up2_nq (by decide)) (up2_nq (by decide)))))))))))), (Eq.trans (congrFun (k4_2 64 (by decide)) _) (Eq.trans (k3_2 j hj) (Eq.trans (congrFun (k2_1 52 (by decide)) _) (Eq.trans (congrFun (k1_1 52 (by decide)) _) (Eq.trans (congrFun (k0_5 52 (by decide)) _) (Eq.trans (up2_nq (by decide)) (Eq.trans (up2_nq (by decide)) (Eq.trans (up2_nq (by decide)) (Eq.trans (up2_nq (by decide)) (Eq.trans (up2_nq (by decide)) (up2_nq (by decide))))))))))))⟩), (fun j hj => ⟨(Eq.trans (k4_0 j hj) (Eq.trans (congrFun (k3_3 53 (by decide)) _) (Eq.trans (congrFun (k2_1 53 (by decide)) _) (Eq.trans (congrFun (k1_1 53 (by decide)) _) (Eq.trans (congrFun (k0_5 53 (by decide)) _) (Eq.trans (up2_nq (by decide)) (Eq.trans (up2_nq (by decide)) (Eq.trans (up2_nq (by decide)) (Eq.trans (up2_nq (by decide)) (Eq.trans (up2_nq (by decide)) (up2_nq (by decide)))))))))))), (Eq.trans (k4_1 j hj) (Eq.trans (congrFun (k3_3 54 (by decide)) _) (Eq.trans (congrFun (k2_1 54 (by decide)) _) (Eq.trans (congrFun (k1_1 54 (by decide)) _) (Eq.trans (congrFun (k0_5 54 (by decide)) _) (Eq.trans (up2_nq (by decide)) (Eq.trans (up2_nq (by decide)) (Eq.trans (up2_nq (by decide)) (Eq.trans (up2_nq (by decide)) (Eq.trans (up2_nq (by decide)) (up2_nq (by decide))))))))))))⟩)⟩
theorem c_mundo {L d : Nat} {g : am_G} {fi : am_I} {fl : am_L} {P : Option Value → am_G → am_I → am_L → Prop} (hS : SF L g) (h47 : fi 31 47 = 1) (hz : ∀ j, j < 12 → am_bit (fi 66 j) = true) (kk : ∀ fi2, MUN fi fi2 → P (some (.int (fi 31 49))) g fi2 fl) : WP d 181 0 [some (.ref 31), none] [] g fi fl P := by
  refine wi_aload_0 ct_181_0 ?_
  refine wi_gf (x := 1) ct_181_1 (sT_31 hS) rfl rfl h47 ?_
  refine wi_ifne_t ct_181_4 ki_1 (by decide) ?_
  refine wi_aload_0 ct_181_10 ?_
  refine wi_aload_0 ct_181_11 ?_
  refine wi_gf (x := fi 31 48) ct_181_12 (sT_31 hS) rfl rfl rfl ?_
  refine wi_pf ct_181_15 (sT_31 hS) rfl ?_
  refine wi_aload_0 ct_181_18 ?_
  refine wi_aload_0 ct_181_19 ?_
  refine wi_gf (x := fi 31 49) ct_181_20 (sT_31 hS) rfl rfl (up2_nj (by decide)) ?_
  refine wi_pf ct_181_23 (sT_31 hS) rfl ?_
  refine wi_aload_0 ct_181_26 ?_
  refine wi_aload_0 ct_181_27 ?_
  refine wi_gf (x := fi 31 50) ct_181_28 (sT_31 hS) rfl rfl (Eq.trans (up2_nj (by decide)) (up2_nj (by decide))) ?_
  refine wi_pf ct_181_31 (sT_31 hS) rfl ?_
  refine wi_aload_0 ct_181_34 ?_
  refine wi_aload_0 ct_181_35 ?_
  refine wi_gf (x := fi 31 51) ct_181_36 (sT_31 hS) rfl rfl (Eq.trans (up2_nj (by decide)) (Eq.trans (up2_nj (by decide)) (up2_nj (by decide)))) ?_
  refine wi_pf ct_181_39 (sT_31 hS) rfl ?_
  refine wi_aload_0 ct_181_42 ?_
  refine wi_aload_0 ct_181_43 ?_
  refine wi_gf (x := fi 31 52) ct_181_44 (sT_31 hS) rfl rfl (Eq.trans (up2_nj (by decide)) (Eq.trans (up2_nj (by decide)) (Eq.trans (up2_nj (by decide)) (up2_nj (by decide))))) ?_
  refine wi_pf ct_181_47 (sT_31 hS) rfl ?_
  refine wi_ic ct_181_50 kc_0 ?_
  refine wi_istore_1 rfl ct_181_51 ?_
  refine vl_undo0 hS (fun f0 zi0 k0_0 k0_1 k0_2 k0_3 k0_4 k0_5 => ?_) 5 0 _ _ (by omega) (ki_0.trans rfl) (fun j hj => absurd hj (by omega)) (fun j hj => absurd hj (by omega)) (fun j hj => absurd hj (by omega)) (fun j hj => absurd hj (by omega)) (fun j hj => absurd hj (by omega)) (fun _ _ => rfl)
  refine wi_ic ct_181_123 kc_0 ?_
  refine wi_istore_1 rfl ct_181_124 ?_
  refine vl_undo1 hS (fun f1 zi1 k1_0 k1_1 => ?_) 20 0 _ _ (by omega) (ki_0.trans rfl) (fun j hj => absurd hj (by omega)) (fun _ _ => rfl)
  refine wi_ic ct_181_149 kc_0 ?_
  refine wi_istore_1 rfl ct_181_150 ?_
  refine vl_undo2 hS (fun f2 zi2 k2_0 k2_1 => ?_) 4 0 _ _ (by omega) (ki_0.trans rfl) (fun j hj => absurd hj (by omega)) (fun _ _ => rfl)
  refine wi_ic ct_181_174 kc_0 ?_
  refine wi_istore_1 rfl ct_181_175 ?_
  refine vl_undo3 hS (fun f3 zi3 k3_0 k3_1 k3_2 k3_3 => ?_) 6 0 _ _ (by omega) (ki_0.trans rfl) (fun j hj => absurd hj (by omega)) (fun j hj => absurd hj (by omega)) (fun j hj => absurd hj (by omega)) (fun _ _ => rfl)
  refine wi_ic ct_181_224 kc_0 ?_
  refine wi_istore_1 rfl ct_181_225 ?_
  refine vl_undo4 hS (fun j hj => by rw [show f3 66 j = fi 66 j from (Eq.trans (congrFun (k3_3 66 (by decide)) _) (Eq.trans (congrFun (k2_1 66 (by decide)) _) (Eq.trans (congrFun (k1_1 66 (by decide)) _) (Eq.trans (congrFun (k0_5 66 (by decide)) _) (Eq.trans (up2_nq (by decide)) (Eq.trans (up2_nq (by decide)) (Eq.trans (up2_nq (by decide)) (Eq.trans (up2_nq (by decide)) (up2_nq (by decide))))))))))]; exact hz j hj) (fun f4 zi4 k4_0 k4_1 k4_2 => ?_) 12 0 _ _ (by omega) (ki_0.trans rfl) (fun j hj => absurd hj (by omega)) (fun j hj => absurd hj (by omega)) (fun _ _ => rfl)
  refine wi_aload_0 ct_181_262 ?_
  refine wi_gf (x := fi 31 49) ct_181_263 (sT_31 hS) rfl rfl (Eq.trans (congrFun (k4_2 31 (by decide)) _) (Eq.trans (congrFun (k3_3 31 (by decide)) _) (Eq.trans (congrFun (k2_1 31 (by decide)) _) (Eq.trans (congrFun (k1_1 31 (by decide)) _) (Eq.trans (congrFun (k0_5 31 (by decide)) _) (Eq.trans (up2_nj (by decide)) (Eq.trans (up2_nj (by decide)) (Eq.trans (up2_nj (by decide)) up2_eq)))))))) ?_
  refine wi_iret ct_181_266 rfl ?_
  exact kk _ ⟨⟨(Eq.trans (congrFun (k4_2 31 (by decide)) _) (Eq.trans (congrFun (k3_3 31 (by decide)) _) (Eq.trans (congrFun (k2_1 31 (by decide)) _) (Eq.trans (congrFun (k1_1 31 (by decide)) _) (Eq.trans (congrFun (k0_5 31 (by decide)) _) (Eq.trans (up2_nj (by decide)) (Eq.trans (up2_nj (by decide)) (Eq.trans (up2_nj (by decide)) up2_eq)))))))), (Eq.trans (congrFun (k4_2 31 (by decide)) _) (Eq.trans (congrFun (k3_3 31 (by decide)) _) (Eq.trans (congrFun (k2_1 31 (by decide)) _) (Eq.trans (congrFun (k1_1 31 (by decide)) _) (Eq.trans (congrFun (k0_5 31 (by decide)) _) (Eq.trans (up2_nj (by decide)) (Eq.trans (up2_nj (by decide)) up2_eq))))))), (Eq.trans (congrFun (k4_2 31 (by decide)) _) (Eq.trans (congrFun (k3_3 31 (by decide)) _) (Eq.trans (congrFun (k2_1 31 (by decide)) _) (Eq.trans (congrFun (k1_1 31 (by decide)) _) (Eq.trans (congrFun (k0_5 31 (by decide)) _) (Eq.trans (up2_nj (by decide)) (Eq.trans (up2_nj (by decide)) (Eq.trans (up2_nj (by decide)) (Eq.trans (up2_nj (by decide)) up2_eq))))))))), (Eq.trans (congrFun (k4_2 31 (by decide)) _) (Eq.trans (congrFun (k3_3 31 (by decide)) _) (Eq.trans (congrFun (k2_1 31 (by decide)) _) (Eq.trans (congrFun (k1_1 31 (by decide)) _) (Eq.trans (congrFun (k0_5 31 (by decide)) _) (Eq.trans (up2_nj (by decide)) up2_eq)))))), (Eq.trans (congrFun (k4_2 31 (by decide)) _) (Eq.trans (congrFun (k3_3 31 (by decide)) _) (Eq.trans (congrFun (k2_1 31 (by decide)) _) (Eq.trans (congrFun (k1_1 31 (by decide)) _) (Eq.trans (congrFun (k0_5 31 (by decide)) _) up2_eq)))))⟩, (fun j hj => (Eq.trans (congrFun (k4_2 31 (by decide)) _) (Eq.trans (congrFun (k3_3 31 (by decide)) _) (Eq.trans (congrFun (k2_1 31 (by decide)) _) (Eq.trans (congrFun (k1_1 31 (by decide)) _) (Eq.trans (congrFun (k0_5 31 (by decide)) _) (Eq.trans (up2_nj (by omega)) (Eq.trans (up2_nj (by omega)) (Eq.trans (up2_nj (by omega)) (Eq.trans (up2_nj (by omega)) (up2_nj (by omega)))))))))))), (fun q hq => (Eq.trans (k4_2 q (by omega)) (Eq.trans (k3_3 q (by omega)) (Eq.trans (k2_1 q (by omega)) (Eq.trans (k1_1 q (by omega)) (Eq.trans (k0_5 q (by omega)) (Eq.trans (funext fun _ => up2_nq (by omega)) (Eq.trans (funext fun _ => up2_nq (by omega)) (Eq.trans (funext fun _ => up2_nq (by omega)) (Eq.trans (funext fun _ => up2_nq (by omega)) (funext fun _ => up2_nq (by omega)))))))))))), (fun j hj => ⟨(Eq.trans (congrFun (k4_2 32 (by decide)) _) (Eq.trans (congrFun (k3_3 32 (by decide)) _) (Eq.trans (congrFun (k2_1 32 (by decide)) _) (Eq.trans (congrFun (k1_1 32 (by decide)) _) (Eq.trans (k0_0 j hj) (Eq.trans (up2_nq (by decide)) (Eq.trans (up2_nq (by decide)) (Eq.trans (up2_nq (by decide)) (Eq.trans (up2_nq (by decide)) (up2_nq (by decide))))))))))), (Eq.trans (congrFun (k4_2 33 (by decide)) _) (Eq.trans (congrFun (k3_3 33 (by decide)) _) (Eq.trans (congrFun (k2_1 33 (by decide)) _) (Eq.trans (congrFun (k1_1 33 (by decide)) _) (Eq.trans (k0_1 j hj) (Eq.trans (up2_nq (by decide)) (Eq.trans (up2_nq (by decide)) (Eq.trans (up2_nq (by decide)) (Eq.trans (up2_nq (by decide)) (up2_nq (by decide))))))))))), (Eq.trans (congrFun (k4_2 34 (by decide)) _) (Eq.trans (congrFun (k3_3 34 (by decide)) _) (Eq.trans (congrFun (k2_1 34 (by decide)) _) (Eq.trans (congrFun (k1_1 34 (by decide)) _) (Eq.trans (k0_2 j hj) (Eq.trans (up2_nq (by decide)) (Eq.trans (up2_nq (by decide)) (Eq.trans (up2_nq (by decide)) (Eq.trans (up2_nq (by decide)) (up2_nq (by decide))))))))))), (Eq.trans (congrFun (k4_2 35 (by decide)) _) (Eq.trans (congrFun (k3_3 35 (by decide)) _) (Eq.trans (congrFun (k2_1 35 (by decide)) _) (Eq.trans (congrFun (k1_1 35 (by decide)) _) (Eq.trans (k0_3 j hj) (Eq.trans (up2_nq (by decide)) (Eq.trans (up2_nq (by decide)) (Eq.trans (up2_nq (by decide)) (Eq.trans (up2_nq (by decide)) (up2_nq (by decide))))))))))), (Eq.trans (congrFun (k4_2 36 (by decide)) _) (Eq.trans (congrFun (k3_3 36 (by decide)) _) (Eq.trans (congrFun (k2_1 36 (by decide)) _) (Eq.trans (congrFun (k1_1 36 (by decide)) _) (Eq.trans (k0_4 j hj) (Eq.trans (up2_nq (by decide)) (Eq.trans (up2_nq (by decide)) (Eq.trans (up2_nq (by decide)) (Eq.trans (up2_nq (by decide)) (up2_nq (by decide)))))))))))⟩), (fun j hj => (Eq.trans (congrFun (k4_2 37 (by decide)) _) (Eq.trans (congrFun (k3_3 37 (by decide)) _) (Eq.trans (congrFun (k2_1 37 (by decide)) _) (Eq.trans (k1_0 j hj) (Eq.trans (congrFun (k0_5 60 (by decide)) _) (Eq.trans (up2_nq (by decide)) (Eq.trans (up2_nq (by decide)) (Eq.trans (up2_nq (by decide)) (Eq.trans (up2_nq (by decide)) (up2_nq (by decide)))))))))))), (fun j hj => (Eq.trans (congrFun (k4_2 38 (by decide)) _) (Eq.trans (congrFun (k3_3 38 (by decide)) _) (Eq.trans (k2_0 j hj) (Eq.trans (congrFun (k1_1 61 (by decide)) _) (Eq.trans (congrFun (k0_5 61 (by decide)) _) (Eq.trans (up2_nq (by decide)) (Eq.trans (up2_nq (by decide)) (Eq.trans (up2_nq (by decide)) (Eq.trans (up2_nq (by decide)) (up2_nq (by decide)))))))))))), (fun j hj => ⟨(Eq.trans (congrFun (k4_2 50 (by decide)) _) (Eq.trans (k3_0 j hj) (Eq.trans (congrFun (k2_1 62 (by decide)) _) (Eq.trans (congrFun (k1_1 62 (by decide)) _) (Eq.trans (congrFun (k0_5 62 (by decide)) _) (Eq.trans (up2_nq (by decide)) (Eq.trans (up2_nq (by decide)) (Eq.trans (up2_nq (by decide)) (Eq.trans (up2_nq (by decide)) (up2_nq (by decide))))))))))), (Eq.trans (congrFun (k4_2 51 (by decide)) _) (Eq.trans (k3_1 j hj) (Eq.trans (congrFun (k2_1 63 (by decide)) _) (Eq.trans (congrFun (k1_1 63 (by decide)) _) (Eq.trans (congrFun (k0_5 63 (by decide)) _) (Eq.trans (up2_nq (by decide)) (Eq.trans (up2_nq (by decide)) (Eq.trans (up2_nq (by decide)) (Eq.trans (up2_nq (by decide)) (up2_nq (by decide))))))))))), (Eq.trans (congrFun (k4_2 52 (by decide)) _) (Eq.trans (k3_2 j hj) (Eq.trans (congrFun (k2_1 64 (by decide)) _) (Eq.trans (congrFun (k1_1 64 (by decide)) _) (Eq.trans (congrFun (k0_5 64 (by decide)) _) (Eq.trans (up2_nq (by decide)) (Eq.trans (up2_nq (by decide)) (Eq.trans (up2_nq (by decide)) (Eq.trans (up2_nq (by decide)) (up2_nq (by decide)))))))))))⟩), (fun j hj => ⟨(Eq.trans (k4_0 j hj) (Eq.trans (congrFun (k3_3 65 (by decide)) _) (Eq.trans (congrFun (k2_1 65 (by decide)) _) (Eq.trans (congrFun (k1_1 65 (by decide)) _) (Eq.trans (congrFun (k0_5 65 (by decide)) _) (Eq.trans (up2_nq (by decide)) (Eq.trans (up2_nq (by decide)) (Eq.trans (up2_nq (by decide)) (Eq.trans (up2_nq (by decide)) (up2_nq (by decide))))))))))), (Eq.trans (k4_1 j hj) (Eq.trans (congrFun (k3_3 66 (by decide)) _) (Eq.trans (congrFun (k2_1 66 (by decide)) _) (Eq.trans (congrFun (k1_1 66 (by decide)) _) (Eq.trans (congrFun (k0_5 66 (by decide)) _) (Eq.trans (up2_nq (by decide)) (Eq.trans (up2_nq (by decide)) (Eq.trans (up2_nq (by decide)) (Eq.trans (up2_nq (by decide)) (up2_nq (by decide)))))))))))⟩)⟩
set_option maxHeartbeats 2000000 in
theorem vl_keep {d N : Nat} {own : Nat → Nat} {g : am_G} {fi : am_I} {fl : am_L} {P : Option Value → am_G → am_I → am_L → Prop} {q a0 a12 : Nat} {ik : Nat → Nat} (hq : g.1 q = 7) (r0 : g.2.2.1 q 0 = some a0) (r12 : g.2.2.1 q 12 = some a12) (t0 : g.1 a0 = 24) (t12 : g.1 a12 = 26) (l0 : g.2.1 a0 = 5) (l12 : g.2.1 a12 = 5) (oq : own q = 50) (hik : ∀ i, i < 5 → g.2.2.1 a12 i = some (ik i) ∧ am_dy own g (ik i) (60 + i) ∧ g.1 (ik i) = 20 ∧ g.2.1 (ik i) = 7) (hB : ∀ b, b < N → ∃ p r, RO own g fi b p r) (hN : (fi q 1).toInt = (N : Int)) (hN5 : N ≤ 5) (h0 : ∀ b, b < N → g.2.2.1 a0 b = g.2.2.1 2 b) (kk : ∀ fi2, (∀ x, (∀ b, b < 5 → x ≠ ik b) → fi2 x = fi x) → (∀ b, b < N → KPT fi fi2 b (ik b)) → P none g fi2 fl) : ∀ (n k : Nat) (fi2 : am_I) (zi : Int32) (l2 : Option Value), k + n = N → zi.toInt = (k : Int) → (∀ x, (∀ b, b < 5 → x ≠ ik b) → fi2 x = fi x) → (∀ b, b < k → KPT fi fi2 b (ik b)) → WP (d + 4) 40 2 [some (.ref q), some (.int zi), l2] [] g fi2 fl P := by
  intro n
  induction n with
  | zero =>
    intro k fi2 zi l2 hkn hzi hf hc
    have hfq : fi2 q = fi q := hf q (fun b hb => ne_o oq (hik b hb).2.1.2.2 (by omega))
    refine wi_iload_1 ct_40_2 ?_
    refine wi_aload_0 ct_40_3 ?_
    refine wi_gf (x := fi q 1) ct_40_4 hq rfl rfl (congrFun hfq 1) ?_
    refine wi_icge_t ct_40_7 hzi hN (by omega) ?_
    refine wi_ret ct_40_37 ?_
    have hkN : k = N := by omega
    subst hkN
    exact kk fi2 hf hc
  | succ n ih =>
    intro k fi2 zi l2 hkn hzi hf hc
    have hfq : fi2 q = fi q := hf q (fun b hb => ne_o oq (hik b hb).2.1.2.2 (by omega))
    obtain ⟨p, r, hO⟩ := hB k (by omega)
    obtain ⟨o0, ⟨o72, onx, oow⟩, ot, ok, on, ov, oc, oa, om, orw⟩ := id hO
    obtain ⟨e1, ⟨e72, enx, eow⟩, e3, e4⟩ := hik k (by omega)
    obtain ⟨A, hA⟩ : ∃ A, ik k = A := ⟨_, rfl⟩
    rw [hA] at e1 e72 enx eow e3 e4
    have nAp : A ≠ p := ne_o eow oow (by omega)
    have hr6 : (fi 32 k).toInt = 6 → 72 ≤ r ∧ r < am_nx g ∧ own r = 20 + k := fun h => (orw h).2.1
    have nAr : (fi 32 k).toInt = 6 → A ≠ r := fun h => ne_o eow (hr6 h).2.2 (by omega)
    have npr : (fi 32 k).toInt = 6 → p ≠ r := fun h => ne_o oow (hr6 h).2.2 (by omega)
    have hfp : fi2 p = fi p := hf p (fun b hb => ne_o oow (hik b hb).2.1.2.2 (by omega))
    have hfr : (fi 32 k).toInt = 6 → fi2 r = fi r := fun h => hf r (fun b hb => ne_o (hr6 h).2.2 (hik b hb).2.1.2.2 (by omega))
    refine wi_iload_1 ct_40_2 ?_
    refine wi_aload_0 ct_40_3 ?_
    refine wi_gf (x := fi q 1) ct_40_4 hq rfl rfl (congrFun hfq 1) ?_
    refine wi_icge_f ct_40_7 hzi hN (by omega) ?_
    refine wi_aload_0 ct_40_10 ?_
    refine wi_gfr ct_40_11 hq rfl r0 ?_
    refine wi_iload_1 ct_40_14 ?_
    refine wi_aald ct_40_15 t0 (by decide) l0 (i_in hzi (by omega)) (i_cl (k := k) hzi (by omega)) ((h0 k (by omega)).trans o0) ?_
    refine wi_astore_2 rfl ct_40_16 ?_
    refine wi_aload_2 ct_40_17 ?_
    refine wi_ifnull_r ct_40_18 ?_
    refine wi_aload_2 ct_40_21 ?_
    refine wi_aload_0 ct_40_22 ?_
    refine wi_gfr ct_40_23 hq rfl r12 ?_
    refine wi_iload_1 ct_40_26 ?_
    refine wi_aald ct_40_27 t12 (by decide) l12 (i_in hzi (by omega)) (i_cl (k := k) hzi (by omega)) e1 ?_
    rcases Decidable.em ((fi 32 k).toInt = 6) with h6 | h6
    · skip
      refine wi_cvK1 ct_40_28 (Nat.le_of_ble_eq_true rfl) ot (by decide) rfl ?_
      rw [(vt1_t h6).1]
      obtain ⟨hr0, hr1, hr2, hr3, hr4⟩ := orw h6
      refine wi_aload_0 ct_58_0 ?_
      refine wi_aload_1 ct_58_1 ?_
      refine wi_cp1 (ls' := [some _, some _]) ct_58_2 (Nat.le_of_ble_eq_true rfl) (ot.trans (vt1_t h6).2.2) (by decide) rfl (Nat.le_of_ble_eq_true rfl) ?_
      refine wi_aload_1 ct_2_0 ?_
      refine wi_ic ct_2_1 kc_0 ?_
      refine wi_aload_0 ct_2_2 ?_
      refine wi_gf (x := fi 34 k) ct_2_3 (ot.trans (vt1_t h6).2.2) rfl rfl (Eq.trans (congrFun hfp 3) oc) ?_
      refine wi_iast ct_2_6 e3 e4 (by decide) kn_c0 ?_
      refine wi_aload_1 ct_2_7 ?_
      refine wi_ic ct_2_8 kc_1 ?_
      refine wi_aload_0 ct_2_9 ?_
      refine wi_gf (x := fi 35 k) ct_2_10 (ot.trans (vt1_t h6).2.2) rfl rfl (Eq.trans (up2_nq nAp.symm) (Eq.trans (congrFun hfp 4) oa)) ?_
      refine wi_iast ct_2_13 e3 e4 (by decide) kn_c1 ?_
      refine wi_aload_1 ct_2_14 ?_
      refine wi_ic ct_2_15 kc_2 ?_
      refine wi_aload_0 ct_2_16 ?_
      refine wi_gf (x := fi 36 k) ct_2_17 (ot.trans (vt1_t h6).2.2) rfl rfl (Eq.trans (up2_nq nAp.symm) (Eq.trans (up2_nq nAp.symm) (Eq.trans (congrFun hfp 5) om))) ?_
      refine wi_iast ct_2_20 e3 e4 (by decide) kn_c2 ?_
      refine wi_ret ct_2_21 (wk_v ?_)
      refine wi_aload_0 ct_58_5 ?_
      refine wi_gfr ct_58_6 (ot.trans (vt1_t h6).2.2) rfl hr0 ?_
      refine wi_ic ct_58_9 kc_0 ?_
      refine wi_aload_1 ct_58_10 ?_
      refine wi_ic ct_58_11 kc_3 ?_
      refine wi_ic ct_58_12 kc_4 ?_
      refine wi_copyI ct_58_13 (Nat.le_of_ble_eq_true rfl) hr2 e3 hr3 e4 (by decide : _ = 0) (by decide : _ = 3) (by decide : _ = 4) ⟨by decide, by decide, by decide⟩ ⟨by decide, by decide⟩ ?_
      refine wi_ret ct_58_16 (wk_v ?_)
      refine wi_iinc_1 rfl (z := (zi + 1)) ct_40_31 (by rw [kc_1]) ?_
      refine wi_goto ct_40_34 ?_
      refine ih (k + 1) _ _ _ (by omega) ((i_add hzi ki_1 (by omega)).trans (by omega)) (fun x hx => ?_) (fun b hb => ?_)
      · have nx : x ≠ A := hA ▸ hx k (by omega)
        exact (Eq.trans (funext fun _ => cp2_nq nx) (Eq.trans (funext fun _ => up2_nq nx) (Eq.trans (funext fun _ => up2_nq nx) (Eq.trans (funext fun _ => up2_nq nx) (hf x hx)))))
      · rcases Decidable.em (b = k) with e | e
        · rw [e, hA]
          exact ⟨⟨(Eq.trans (cp2_nj (by omega)) (Eq.trans (up2_nj (by decide)) (Eq.trans (up2_nj (by decide)) up2_eq))), (Eq.trans (cp2_nj (by omega)) (Eq.trans (up2_nj (by decide)) up2_eq)), (Eq.trans (cp2_nj (by omega)) up2_eq)⟩, (fun _ j hj => (Eq.trans (cp3a hj) (Eq.trans (up2_nq (nAr h6).symm) (Eq.trans (up2_nq (nAr h6).symm) (Eq.trans (up2_nq (nAr h6).symm) (Eq.trans (congrFun (hfr h6) _) (hr4 _ hj)))))))⟩
        · have nb : ik b ≠ A := ne_o (hik b (by omega)).2.1.2.2 eow (by omega)
          exact (hc b (by omega)).fr (Eq.trans (funext fun _ => cp2_nq nb) (Eq.trans (funext fun _ => up2_nq nb) (Eq.trans (funext fun _ => up2_nq nb) (funext fun _ => up2_nq nb))))
    · skip
      refine wi_cvK1 ct_40_28 (Nat.le_of_ble_eq_true rfl) ot (by decide) rfl ?_
      rw [(vt1_n h6).1]
      refine wi_aload_1 ct_2_0 ?_
      refine wi_ic ct_2_1 kc_0 ?_
      refine wi_aload_0 ct_2_2 ?_
      refine wi_gf (x := fi 34 k) ct_2_3 ot (am_ktb _) rfl (Eq.trans (congrFun hfp 3) oc) ?_
      refine wi_iast ct_2_6 e3 e4 (by decide) kn_c0 ?_
      refine wi_aload_1 ct_2_7 ?_
      refine wi_ic ct_2_8 kc_1 ?_
      refine wi_aload_0 ct_2_9 ?_
      refine wi_gf (x := fi 35 k) ct_2_10 ot (am_ktb _) rfl (Eq.trans (up2_nq nAp.symm) (Eq.trans (congrFun hfp 4) oa)) ?_
      refine wi_iast ct_2_13 e3 e4 (by decide) kn_c1 ?_
      refine wi_aload_1 ct_2_14 ?_
      refine wi_ic ct_2_15 kc_2 ?_
      refine wi_aload_0 ct_2_16 ?_
      refine wi_gf (x := fi 36 k) ct_2_17 ot (am_ktb _) rfl (Eq.trans (up2_nq nAp.symm) (Eq.trans (up2_nq nAp.symm) (Eq.trans (congrFun hfp 5) om))) ?_
      refine wi_iast ct_2_20 e3 e4 (by decide) kn_c2 ?_
      refine wi_ret ct_2_21 (wk_v ?_)
      refine wi_iinc_1 rfl (z := (zi + 1)) ct_40_31 (by rw [kc_1]) ?_
      refine wi_goto ct_40_34 ?_
      refine ih (k + 1) _ _ _ (by omega) ((i_add hzi ki_1 (by omega)).trans (by omega)) (fun x hx => ?_) (fun b hb => ?_)
      · have nx : x ≠ A := hA ▸ hx k (by omega)
        exact (Eq.trans (funext fun _ => up2_nq nx) (Eq.trans (funext fun _ => up2_nq nx) (Eq.trans (funext fun _ => up2_nq nx) (hf x hx))))
      · rcases Decidable.em (b = k) with e | e
        · rw [e, hA]
          exact ⟨⟨(Eq.trans (up2_nj (by decide)) (Eq.trans (up2_nj (by decide)) up2_eq)), (Eq.trans (up2_nj (by decide)) up2_eq), up2_eq⟩, fun h => absurd h h6⟩
        · have nb : ik b ≠ A := ne_o (hik b (by omega)).2.1.2.2 eow (by omega)
          exact (hc b (by omega)).fr (Eq.trans (funext fun _ => up2_nq nb) (Eq.trans (funext fun _ => up2_nq nb) (funext fun _ => up2_nq nb)))
set_option maxHeartbeats 2000000 in
theorem vl_give {d N : Nat} {own : Nat → Nat} {g : am_G} {fi : am_I} {fl : am_L} {P : Option Value → am_G → am_I → am_L → Prop} {q a0 a12 : Nat} {ik : Nat → Nat} (hq : g.1 q = 7) (r0 : g.2.2.1 q 0 = some a0) (r12 : g.2.2.1 q 12 = some a12) (t0 : g.1 a0 = 24) (t12 : g.1 a12 = 26) (l0 : g.2.1 a0 = 5) (l12 : g.2.1 a12 = 5) (oq : own q = 50) (hik : ∀ i, i < 5 → g.2.2.1 a12 i = some (ik i) ∧ am_dy own g (ik i) (60 + i) ∧ g.1 (ik i) = 20 ∧ g.2.1 (ik i) = 7) (hB : ∀ b, b < N → ∃ p r, RO own g fi b p r) (hN : (fi q 1).toInt = (N : Int)) (hN5 : N ≤ 5) (h0 : ∀ b, b < N → g.2.2.1 a0 b = g.2.2.1 2 b) (hnxq : 72 ≤ q) (kk : ∀ fi2, (∀ x, (¬ (72 ≤ x ∧ x < am_nx g) ∨ ∀ b, b < N → own x ≠ 10 + b ∧ own x ≠ 20 + b) → fi2 x = fi x) → (∀ b, b < N → ∀ p r, RO own g fi b p r → GVT fi fi2 p r (ik b) (fi 32 b).toInt) → P none g fi2 fl) : ∀ (n k : Nat) (fi2 : am_I) (zi : Int32) (l2 : Option Value), k + n = N → zi.toInt = (k : Int) → (∀ x, (¬ (72 ≤ x ∧ x < am_nx g) ∨ ∀ b, b < k → own x ≠ 10 + b ∧ own x ≠ 20 + b) → fi2 x = fi x) → (∀ b, b < k → ∀ p r, RO own g fi b p r → GVT fi fi2 p r (ik b) (fi 32 b).toInt) → WP (d + 4) 41 2 [some (.ref q), some (.int zi), l2] [] g fi2 fl P := by
  intro n
  induction n with
  | zero =>
    intro k fi2 zi l2 hkn hzi hf hc
    have hfq : fi2 q = fi q := hf q (Or.inr (fun b hb => by rw [oq]; omega))
    refine wi_iload_1 ct_41_2 ?_
    refine wi_aload_0 ct_41_3 ?_
    refine wi_gf (x := fi q 1) ct_41_4 hq rfl rfl (congrFun hfq 1) ?_
    refine wi_icge_t ct_41_7 hzi hN (by omega) ?_
    refine wi_ret ct_41_37 ?_
    have hkN : k = N := by omega
    subst hkN
    exact kk fi2 hf hc
  | succ n ih =>
    intro k fi2 zi l2 hkn hzi hf hc
    have hfq : fi2 q = fi q := hf q (Or.inr (fun b hb => by rw [oq]; omega))
    obtain ⟨p, r, hO⟩ := hB k (by omega)
    obtain ⟨o0, ⟨o72, onx, oow⟩, ot, ok, on, ov, oc, oa, om, orw⟩ := id hO
    obtain ⟨e1, ⟨e72, enx, eow⟩, e3, e4⟩ := hik k (by omega)
    obtain ⟨A, hA⟩ : ∃ A, ik k = A := ⟨_, rfl⟩
    rw [hA] at e1 e72 enx eow e3 e4
    have nAp : A ≠ p := ne_o eow oow (by omega)
    have hr6 : (fi 32 k).toInt = 6 → 72 ≤ r ∧ r < am_nx g ∧ own r = 20 + k := fun h => (orw h).2.1
    have nAr : (fi 32 k).toInt = 6 → A ≠ r := fun h => ne_o eow (hr6 h).2.2 (by omega)
    have npr : (fi 32 k).toInt = 6 → p ≠ r := fun h => ne_o oow (hr6 h).2.2 (by omega)
    have hfA : fi2 A = fi A := hf A (Or.inr (fun b hb => by rw [eow]; omega))
    have hpk : fi2 p = fi p := hf p (Or.inr (fun b hb => by rw [oow]; omega))
    refine wi_iload_1 ct_41_2 ?_
    refine wi_aload_0 ct_41_3 ?_
    refine wi_gf (x := fi q 1) ct_41_4 hq rfl rfl (congrFun hfq 1) ?_
    refine wi_icge_f ct_41_7 hzi hN (by omega) ?_
    refine wi_aload_0 ct_41_10 ?_
    refine wi_gfr ct_41_11 hq rfl r0 ?_
    refine wi_iload_1 ct_41_14 ?_
    refine wi_aald ct_41_15 t0 (by decide) l0 (i_in hzi (by omega)) (i_cl (k := k) hzi (by omega)) ((h0 k (by omega)).trans o0) ?_
    refine wi_astore_2 rfl ct_41_16 ?_
    refine wi_aload_2 ct_41_17 ?_
    refine wi_ifnull_r ct_41_18 ?_
    refine wi_aload_2 ct_41_21 ?_
    refine wi_aload_0 ct_41_22 ?_
    refine wi_gfr ct_41_23 hq rfl r12 ?_
    refine wi_iload_1 ct_41_26 ?_
    refine wi_aald ct_41_27 t12 (by decide) l12 (i_in hzi (by omega)) (i_cl (k := k) hzi (by omega)) e1 ?_
    rcases Decidable.em ((fi 32 k).toInt = 6) with h6 | h6
    · skip
      refine wi_cvK1 ct_41_28 (Nat.le_of_ble_eq_true rfl) ot (by decide) rfl ?_
      rw [(vt1_t h6).2.1]
      obtain ⟨hr0, hr1, hr2, hr3, hr4⟩ := orw h6
      refine wi_aload_0 ct_59_0 ?_
      refine wi_aload_1 ct_59_1 ?_
      refine wi_cp1 (ls' := [some _, some _]) ct_59_2 (Nat.le_of_ble_eq_true rfl) (ot.trans (vt1_t h6).2.2) (by decide) rfl (Nat.le_of_ble_eq_true rfl) ?_
      refine wi_aload_0 ct_3_0 ?_
      refine wi_aload_1 ct_3_1 ?_
      refine wi_ic ct_3_2 kc_0 ?_
      refine wi_iald (x := fi A 0) ct_3_3 e3 e4 (by decide) kn_c0 (congrFun hfA _) ?_
      refine wi_pf ct_3_4 (ot.trans (vt1_t h6).2.2) rfl ?_
      refine wi_aload_0 ct_3_7 ?_
      refine wi_aload_1 ct_3_8 ?_
      refine wi_ic ct_3_9 kc_1 ?_
      refine wi_iald (x := fi A 1) ct_3_10 e3 e4 (by decide) kn_c1 (Eq.trans (up2_nq nAp) (congrFun hfA _)) ?_
      refine wi_pf ct_3_11 (ot.trans (vt1_t h6).2.2) rfl ?_
      refine wi_aload_0 ct_3_14 ?_
      refine wi_aload_1 ct_3_15 ?_
      refine wi_ic ct_3_16 kc_2 ?_
      refine wi_iald (x := fi A 2) ct_3_17 e3 e4 (by decide) kn_c2 (Eq.trans (up2_nq nAp) (Eq.trans (up2_nq nAp) (congrFun hfA _))) ?_
      refine wi_pf ct_3_18 (ot.trans (vt1_t h6).2.2) rfl ?_
      refine wi_ret ct_3_21 (wk_v ?_)
      refine wi_aload_1 ct_59_5 ?_
      refine wi_ic ct_59_6 kc_3 ?_
      refine wi_aload_0 ct_59_7 ?_
      refine wi_gfr ct_59_8 (ot.trans (vt1_t h6).2.2) rfl hr0 ?_
      refine wi_ic ct_59_11 kc_0 ?_
      refine wi_ic ct_59_12 kc_4 ?_
      refine wi_copyI ct_59_13 (Nat.le_of_ble_eq_true rfl) e3 hr2 e4 hr3 (by decide : _ = 3) (by decide : _ = 0) (by decide : _ = 4) ⟨by decide, by decide, by decide⟩ ⟨by decide, by decide⟩ ?_
      refine wi_ret ct_59_16 (wk_v ?_)
      refine wi_iinc_1 rfl (z := (zi + 1)) ct_41_31 (by rw [kc_1]) ?_
      refine wi_goto ct_41_34 ?_
      refine ih (k + 1) _ _ _ (by omega) ((i_add hzi ki_1 (by omega)).trans (by omega)) (fun x hx => ?_) (fun b hb p2 r2 hO2 => ?_)
      · have nx : x ≠ p := fun e => by
          rcases hx with h | h
          · rw [e] at h; omega
          · have := (h k (by omega)).1; rw [e, oow] at this; exact this rfl
        have nxr : x ≠ r := fun e => by
          rcases hx with h | h
          · rw [e] at h; have := hr1; unfold am_dy at this; omega
          · have := (h k (by omega)).2; rw [e, hr1.2.2] at this; exact this rfl
        exact (Eq.trans (funext fun _ => cp2_nq nxr) (Eq.trans (funext fun _ => up2_nq nx) (Eq.trans (funext fun _ => up2_nq nx) (Eq.trans (funext fun _ => up2_nq nx) (hf x (hx.imp id (fun h b hb => h b (by omega))))))))
      · rcases Decidable.em (b = k) with e | e
        · rw [e] at hO2 ⊢
          have ep : p2 = p := Option.some.inj (hO2.1.symm.trans o0)
          rw [ep, hA]
          have hp9 : fi2 p = fi p := hpk
          refine ⟨⟨(Eq.trans (cp2_nq (npr h6)) (Eq.trans (up2_nj (by decide)) (Eq.trans (up2_nj (by decide)) (Eq.trans (up2_nj (by decide)) (congrFun hp9 0))))), (Eq.trans (cp2_nq (npr h6)) (Eq.trans (up2_nj (by decide)) (Eq.trans (up2_nj (by decide)) (Eq.trans (up2_nj (by decide)) (congrFun hp9 1))))), (Eq.trans (cp2_nq (npr h6)) (Eq.trans (up2_nj (by decide)) (Eq.trans (up2_nj (by decide)) (Eq.trans (up2_nj (by decide)) (congrFun hp9 2)))))⟩, ⟨(Eq.trans (cp2_nq (npr h6)) (Eq.trans (up2_nj (by decide)) (Eq.trans (up2_nj (by decide)) up2_eq))), (Eq.trans (cp2_nq (npr h6)) (Eq.trans (up2_nj (by decide)) up2_eq)), (Eq.trans (cp2_nq (npr h6)) up2_eq)⟩, fun h j hj => ?_⟩
          have er : r2 = r := Option.some.inj ((hO2.2.2.2.2.2.2.2.2.2 h6).1.symm.trans (ep ▸ hr0))
          rw [er]
          exact (Eq.trans (cp3b hj) (Eq.trans (up2_nq nAp) (Eq.trans (up2_nq nAp) (Eq.trans (up2_nq nAp) (congrFun hfA _)))))
        · have np : p2 ≠ p := ne_o hO2.2.1.2.2 oow (by omega)
          have nr : (fi 32 b).toInt = 6 → r2 ≠ p := fun h => ne_o (hO2.2.2.2.2.2.2.2.2.2 h).2.1.2.2 oow (by omega)
          have np2 : p2 ≠ r := ne_o hO2.2.1.2.2 hr1.2.2 (by omega)
          have nr2 : (fi 32 b).toInt = 6 → r2 ≠ r := fun h => ne_o (hO2.2.2.2.2.2.2.2.2.2 h).2.1.2.2 hr1.2.2 (by omega)
          exact (hc b (by omega) p2 r2 hO2).fr ((Eq.trans (funext fun _ => cp2_nq np2) (Eq.trans (funext fun _ => up2_nq np) (Eq.trans (funext fun _ => up2_nq np) (funext fun _ => up2_nq np))))) (fun h => (Eq.trans (funext fun _ => cp2_nq (nr2 h)) (Eq.trans (funext fun _ => up2_nq (nr h)) (Eq.trans (funext fun _ => up2_nq (nr h)) (funext fun _ => up2_nq (nr h))))))
    · skip
      refine wi_cvK1 ct_41_28 (Nat.le_of_ble_eq_true rfl) ot (by decide) rfl ?_
      rw [(vt1_n h6).2]
      refine wi_aload_0 ct_3_0 ?_
      refine wi_aload_1 ct_3_1 ?_
      refine wi_ic ct_3_2 kc_0 ?_
      refine wi_iald (x := fi A 0) ct_3_3 e3 e4 (by decide) kn_c0 (congrFun hfA _) ?_
      refine wi_pf ct_3_4 ot (am_ktb _) ?_
      refine wi_aload_0 ct_3_7 ?_
      refine wi_aload_1 ct_3_8 ?_
      refine wi_ic ct_3_9 kc_1 ?_
      refine wi_iald (x := fi A 1) ct_3_10 e3 e4 (by decide) kn_c1 (Eq.trans (up2_nq nAp) (congrFun hfA _)) ?_
      refine wi_pf ct_3_11 ot (am_ktb _) ?_
      refine wi_aload_0 ct_3_14 ?_
      refine wi_aload_1 ct_3_15 ?_
      refine wi_ic ct_3_16 kc_2 ?_
      refine wi_iald (x := fi A 2) ct_3_17 e3 e4 (by decide) kn_c2 (Eq.trans (up2_nq nAp) (Eq.trans (up2_nq nAp) (congrFun hfA _))) ?_
      refine wi_pf ct_3_18 ot (am_ktb _) ?_
      refine wi_ret ct_3_21 (wk_v ?_)
      refine wi_iinc_1 rfl (z := (zi + 1)) ct_41_31 (by rw [kc_1]) ?_
      refine wi_goto ct_41_34 ?_
      refine ih (k + 1) _ _ _ (by omega) ((i_add hzi ki_1 (by omega)).trans (by omega)) (fun x hx => ?_) (fun b hb p2 r2 hO2 => ?_)
      · have nx : x ≠ p := fun e => by
          rcases hx with h | h
          · rw [e] at h; omega
          · have := (h k (by omega)).1; rw [e, oow] at this; exact this rfl
        exact (Eq.trans (funext fun _ => up2_nq nx) (Eq.trans (funext fun _ => up2_nq nx) (Eq.trans (funext fun _ => up2_nq nx) (hf x (hx.imp id (fun h b hb => h b (by omega)))))))
      · rcases Decidable.em (b = k) with e | e
        · rw [e] at hO2 ⊢
          have ep : p2 = p := Option.some.inj (hO2.1.symm.trans o0)
          rw [ep, hA]
          have hp9 : fi2 p = fi p := hpk
          refine ⟨⟨(Eq.trans (up2_nj (by decide)) (Eq.trans (up2_nj (by decide)) (Eq.trans (up2_nj (by decide)) (congrFun hp9 0)))), (Eq.trans (up2_nj (by decide)) (Eq.trans (up2_nj (by decide)) (Eq.trans (up2_nj (by decide)) (congrFun hp9 1)))), (Eq.trans (up2_nj (by decide)) (Eq.trans (up2_nj (by decide)) (Eq.trans (up2_nj (by decide)) (congrFun hp9 2))))⟩, ⟨(Eq.trans (up2_nj (by decide)) (Eq.trans (up2_nj (by decide)) up2_eq)), (Eq.trans (up2_nj (by decide)) up2_eq), up2_eq⟩, fun h j hj => ?_⟩
          exact absurd h h6
        · have np : p2 ≠ p := ne_o hO2.2.1.2.2 oow (by omega)
          have nr : (fi 32 b).toInt = 6 → r2 ≠ p := fun h => ne_o (hO2.2.2.2.2.2.2.2.2.2 h).2.1.2.2 oow (by omega)
          exact (hc b (by omega) p2 r2 hO2).fr ((Eq.trans (funext fun _ => up2_nq np) (Eq.trans (funext fun _ => up2_nq np) (funext fun _ => up2_nq np)))) (fun h => (Eq.trans (funext fun _ => up2_nq (nr h)) (Eq.trans (funext fun _ => up2_nq (nr h)) (funext fun _ => up2_nq (nr h)))))
