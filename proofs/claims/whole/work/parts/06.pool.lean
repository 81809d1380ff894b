def am_cnL : List String := ["LargeBubble$Blower", "LargeBubble$Bold", "LargeBubble$Careful", "LargeBubble$Course", "LargeBubble$Mad", "LargeBubble$Slow", "LargeBubble$Square", "LargeBubble$State", "LargeBubble$Text", "LargeBubble$Told", "LargeBubble$Wise", "LargeBubble", "LargeBubbleModel"]
def am_cn (t : Nat) : String := am_cnL.getD t ""
def am_sxL : List (Nat × String) := [(55, "wind"), (61, "dry"), (63, "coin"), (86, "bkvmsf"), (92, "<=>")]
def am_nestL : List (Nat × MethodName) := [(11, (⟨"LargeBubble$State", "<init>", "()V"⟩ : MethodName)), (23, (⟨"LargeBubble$Course", "<init>", "()V"⟩ : MethodName)), (30, (⟨"LargeBubble$Text", "<init>", "()V"⟩ : MethodName)), (128, (⟨"LargeBubble$Square", "<init>", "()V"⟩ : MethodName))]
/-- a field's word, and its place in every kind that has it -/
def am_okF (own : String) (i k b c : Nat) : Prop := ∃ ref nm ds, Cond.fieldLink own i ref nm ds ∈ am_T0 ∧ ∀ t, t < 13 → am_sub t b = true → k < am_nf t ∧ (am_T t k).2.1 = nm ∧ (am_T t k).2.2.1 = ds ∧ am_fty t k = c ∧ ((am_T t k).1 = am_cn b ∧ (am_T t k).2.2.2 = am_fin b k) ∧ (ref = (am_T t k).1 ∨ Cond.sameField ref (am_T t k).1 nm ds ∈ am_T0)
def am_np (y : Nat) : Option Nat := (parseMethodDescriptor (am_N y).desc).map (fun d => d.parameters.length)
def am_okS (own : String) (i y b : Nat) : Prop := y < 211 ∧ am_np y = some b ∧ Cond.static (am_N y) ∈ am_T0 ∧ (Cond.methodLink own i (am_N y) ∈ am_T0 ∨ ∃ rc, Cond.methodLink own i ⟨rc, (am_N y).name, (am_N y).desc⟩ ∈ am_T0 ∧ Cond.sameMethod rc (am_N y).cls (am_N y).name (am_N y).desc ∈ am_T0)
def am_okI (own : String) (i y b : Nat) : Prop := y < 211 ∧ am_np y = some b ∧ am_Rt y = none ∧ (am_N y).name = "<init>" ∧ Cond.instanceMethod (am_N y) ∈ am_T0 ∧ (Cond.methodLink own i (am_N y) ∈ am_T0 ∨ (own = "LargeBubble" ∧ (i, am_N y) ∈ am_nestL))
def am_okU (own : String) (i y b : Nat) : Prop := y < 211 ∧ am_np y = some b ∧ (am_N y).name ≠ "<init>" ∧ Cond.instanceMethod (am_N y) ∈ am_T0 ∧ ∃ rc, Cond.methodLink own i ⟨rc, (am_N y).name, (am_N y).desc⟩ ∈ am_T0 ∧ Cond.sameMethod rc (am_N y).cls (am_N y).name (am_N y).desc ∈ am_T0 ∧ Cond.superclass own rc ∈ am_T0 ∧ (rc = (am_N y).cls ∨ Cond.superclass rc (am_N y).cls ∈ am_T0)
def am_okV (own : String) (i y b : Nat) (C : String) : Prop := y < 211 ∧ am_np y = some b ∧ (am_N y).cls = C ∧ Cond.instanceMethod (am_N y) ∈ am_T0 ∧ Cond.methodLink own i (am_N y) ∈ am_T0 ∧ Cond.selects C (am_N y) (am_N y) ∈ am_T0
/-- a virtual one of the blowers: slot a, named at the kind c -/
def am_okW (own : String) (i a b c : Nat) : Prop := a < 8 ∧ am_np (1 + a) = some b ∧ (am_N (1 + a)).cls = "LargeBubble$Blower" ∧ Cond.methodLink own i ⟨am_cn c, (am_N (1 + a)).name, (am_N (1 + a)).desc⟩ ∈ am_T0 ∧ Cond.sameMethod (am_cn c) "LargeBubble$Blower" (am_N (1 + a)).name (am_N (1 + a)).desc ∈ am_T0 ∧ Cond.instanceMethod (am_N (1 + a)) ∈ am_T0 ∧
  ∀ t, t < 13 → am_sub t c = true → ∃ y, am_vtab a t = some y ∧ y < 211 ∧ am_np y = some b ∧ Cond.selects (am_cn t) ⟨am_cn c, (am_N (1 + a)).name, (am_N (1 + a)).desc⟩ (am_N y) ∈ am_T0 ∧ Cond.instanceMethod (am_N y) ∈ am_T0
abbrev am_Q : Type := Instr × Nat × Nat × Nat
def am_okP (own : String) (q : am_Q) : Prop := match q with
  | (.bipush v, a, b, _) => b = 0 ∨ Cond.constant own a (Int32.ofInt v) ∈ am_T0
  | (.sipush v, a, b, _) => b = 0 ∨ Cond.constantLong own a (Int64.ofInt v) ∈ am_T0
  | (.ldc i, a, _, _) => a < 5 ∧ own = "LargeBubble$Text" ∧ i = (am_sxL.getD a (0, "")).1
  | (.getstatic i, a, _, _) => (a = 0 ∧ Cond.fieldLink own i "java/lang/String" "COMPACT_STRINGS" "Z" ∈ am_T0) ∨ (a = 1 ∧ Cond.fieldLink own i "jdk/internal/util/Preconditions" "SIOOBE_FORMATTER" "Ljava/util/function/BiFunction;" ∈ am_T0)
  | (.getfield i, a, b, c) => (b = 13 ∧ ((a = 0 ∧ Cond.fieldLink own i "java/lang/String" "value" "[B" ∈ am_T0) ∨ (a = 1 ∧ Cond.fieldLink own i "java/lang/String" "coder" "B" ∈ am_T0))) ∨ (b < 13 ∧ am_okF own i a b c)
  | (.putfield i, a, b, c) => b < 13 ∧ am_okF own i a b c
  | (.new i, a, _, _) => a < 13 ∧ Cond.classLink own i (am_cn a) ∈ am_T0 ∧ Cond.instantiable (am_cn a) (am_nf a) ∈ am_T0 ∧ Cond.initialized (am_cn a) ∈ am_T0
  | (.anewarray i, a, _, _) => (a = 24 ∧ Cond.classLink own i "LargeBubble$Blower" ∈ am_T0) ∨ (a = 25 ∧ Cond.classLink own i "LargeBubble$Square" ∈ am_T0)
  | (.multianewarray i k, a, b, _) => k = 2 ∧ ((a = 26 ∧ b = 20 ∧ Cond.classLink own i "[[I" ∈ am_T0) ∨ (a = 27 ∧ b = 21 ∧ Cond.classLink own i "[[J" ∈ am_T0))
  | (.instanceof i, a, _, _) => (a = 1 ∨ a = 2 ∨ a = 4 ∨ a = 5 ∨ a = 9 ∨ a = 10) ∧ Cond.classLink own i (am_cn a) ∈ am_T0
  | (.checkcast i, a, _, _) => a = 9 ∧ Cond.classLink own i (am_cn a) ∈ am_T0
  | (.invokestatic i, a, b, c) => (c = 1 ∧ Cond.methodLink own i arraycopyName ∈ am_T0) ∨ (c = 0 ∧ am_okS own i a b)
  | (.invokespecial i, a, b, c) => (c = 1 ∧ b = 0 ∧ Cond.methodLink own i Lib.objectInit ∈ am_T0) ∨ (c = 0 ∧ (am_okI own i a b ∨ am_okU own i a b))
  | (.invokevirtual i, a, b, c) => (100 ≤ a ∧ c < 13 ∧ am_okV own i (a - 100) b (am_cn c)) ∨ (100 ≤ a ∧ c = 13 ∧ am_okV own i (a - 100) b "java/lang/String") ∨ (a < 8 ∧ c < 13 ∧ am_okW own i a b c)
  | _ => True
def am_isP (op : Instr) (b : Nat) : Bool := match op with
  | .bipush _ => b != 0
  | .sipush _ => b != 0
  | .ldc _ => true
  | .getstatic _ => true
  | .getfield _ => true
  | .putfield _ => true
  | .new _ => true
  | .anewarray _ => true
  | .multianewarray _ _ => true
  | .instanceof _ => true
  | .checkcast _ => true
  | .invokestatic _ => true
  | .invokespecial _ => true
  | .invokevirtual _ => true
  | _ => false
theorem am_s0 {t : Nat} (h : am_sub t 0 = true) : t = 0 ∨ t = 1 ∨ t = 2 ∨ t = 4 ∨ t = 5 ∨ t = 9 ∨ t = 10 := by
  simp [am_sub] at h
  omega
theorem am_s5 {t : Nat} (h : am_sub t 5 = true) : t = 5 ∨ t = 9 := by
  simp [am_sub] at h
  omega
theorem am_s1 {t b : Nat} (hb : b ≠ 0 ∧ b ≠ 1 ∧ b ≠ 2 ∧ b ≠ 5) (h : am_sub t b = true) : t = b := by
  simp [am_sub] at h
  omega
theorem am_okF1 {own ref nm ds : String} {i k b c : Nat} (hb : b ≠ 0 ∧ b ≠ 1 ∧ b ≠ 2 ∧ b ≠ 5) (h : Cond.fieldLink own i ref nm ds ∈ am_T0) (h1 : k < am_nf b ∧ (am_T b k).2.1 = nm ∧ (am_T b k).2.2.1 = ds ∧ am_fty b k = c ∧ ((am_T b k).1 = am_cn b ∧ (am_T b k).2.2.2 = am_fin b k)) (h2 : ref = (am_T b k).1) : am_okF own i k b c :=
  ⟨ref, nm, ds, h, fun t _ ht => by cases am_s1 hb ht; exact ⟨h1.1, h1.2.1, h1.2.2.1, h1.2.2.2.1, h1.2.2.2.2, Or.inl h2⟩⟩
theorem am_okF0 {own ref nm ds : String} {i k c : Nat} (h : Cond.fieldLink own i ref nm ds ∈ am_T0) (h1 : ∀ t, (t = 0 ∨ t = 1 ∨ t = 2 ∨ t = 4 ∨ t = 5 ∨ t = 9 ∨ t = 10) → k < am_nf t ∧ (am_T t k).2.1 = nm ∧ (am_T t k).2.2.1 = ds ∧ am_fty t k = c ∧ ((am_T t k).1 = am_cn 0 ∧ (am_T t k).2.2.2 = am_fin 0 k)) (h2 : ref = "LargeBubble$Blower" ∨ Cond.sameField ref "LargeBubble$Blower" nm ds ∈ am_T0) : am_okF own i k 0 c :=
  ⟨ref, nm, ds, h, fun t _ ht => by
    have q := h1 t (am_s0 ht)
    refine ⟨q.1, q.2.1, q.2.2.1, q.2.2.2.1, q.2.2.2.2, ?_⟩
    rw [q.2.2.2.2.1]
    exact h2⟩
theorem cd_0 : Cond.code (am_N 0) (am_B 0) (am_ML 0) (am_Rt 0) ∈ am_T0 := kw_252
theorem cd_1 : Cond.code (am_N 1) (am_B 1) (am_ML 1) (am_Rt 1) ∈ am_T0 := kw_588
theorem cd_2 : Cond.code (am_N 2) (am_B 2) (am_ML 2) (am_Rt 2) ∈ am_T0 := kw_789
theorem cd_3 : Cond.code (am_N 3) (am_B 3) (am_ML 3) (am_Rt 3) ∈ am_T0 := kw_813
theorem cd_4 : Cond.code (am_N 4) (am_B 4) (am_ML 4) (am_Rt 4) ∈ am_T0 := kw_619
theorem cd_5 : Cond.code (am_N 5) (am_B 5) (am_ML 5) (am_Rt 5) ∈ am_T0 := kw_650
theorem cd_6 : Cond.code (am_N 6) (am_B 6) (am_ML 6) (am_Rt 6) ∈ am_T0 := kw_848
theorem cd_7 : Cond.code (am_N 7) (am_B 7) (am_ML 7) (am_Rt 7) ∈ am_T0 := kw_873
theorem cd_8 : Cond.code (am_N 8) (am_B 8) (am_ML 8) (am_Rt 8) ∈ am_T0 := kw_900
theorem cd_9 : Cond.code (am_N 9) (am_B 9) (am_ML 9) (am_Rt 9) ∈ am_T0 := kw_829
theorem cd_10 : Cond.code (am_N 10) (am_B 10) (am_ML 10) (am_Rt 10) ∈ am_T0 := kw_249
theorem cd_11 : Cond.code (am_N 11) (am_B 11) (am_ML 11) (am_Rt 11) ∈ am_T0 := kw_630
theorem cd_12 : Cond.code (am_N 12) (am_B 12) (am_ML 12) (am_Rt 12) ∈ am_T0 := kw_856
theorem cd_13 : Cond.code (am_N 13) (am_B 13) (am_ML 13) (am_Rt 13) ∈ am_T0 := kw_290
theorem cd_14 : Cond.code (am_N 14) (am_B 14) (am_ML 14) (am_Rt 14) ∈ am_T0 := kw_633
theorem cd_15 : Cond.code (am_N 15) (am_B 15) (am_ML 15) (am_Rt 15) ∈ am_T0 := kw_825
theorem cd_16 : Cond.code (am_N 16) (am_B 16) (am_ML 16) (am_Rt 16) ∈ am_T0 := kw_96
theorem cd_17 : Cond.code (am_N 17) (am_B 17) (am_ML 17) (am_Rt 17) ∈ am_T0 := kw_577
theorem cd_18 : Cond.code (am_N 18) (am_B 18) (am_ML 18) (am_Rt 18) ∈ am_T0 := kw_592
theorem cd_19 : Cond.code (am_N 19) (am_B 19) (am_ML 19) (am_Rt 19) ∈ am_T0 := kw_654
theorem cd_20 : Cond.code (am_N 20) (am_B 20) (am_ML 20) (am_Rt 20) ∈ am_T0 := kw_623
theorem cd_21 : Cond.code (am_N 21) (am_B 21) (am_ML 21) (am_Rt 21) ∈ am_T0 := kw_596
theorem cd_22 : Cond.code (am_N 22) (am_B 22) (am_ML 22) (am_Rt 22) ∈ am_T0 := kw_316
theorem cd_23 : Cond.code (am_N 23) (am_B 23) (am_ML 23) (am_Rt 23) ∈ am_T0 := kw_613
theorem cd_24 : Cond.code (am_N 24) (am_B 24) (am_ML 24) (am_Rt 24) ∈ am_T0 := kw_637
theorem cd_25 : Cond.code (am_N 25) (am_B 25) (am_ML 25) (am_Rt 25) ∈ am_T0 := kw_833
theorem cd_26 : Cond.code (am_N 26) (am_B 26) (am_ML 26) (am_Rt 26) ∈ am_T0 := kw_863
theorem cd_27 : Cond.code (am_N 27) (am_B 27) (am_ML 27) (am_Rt 27) ∈ am_T0 := kw_303
theorem cd_28 : Cond.code (am_N 28) (am_B 28) (am_ML 28) (am_Rt 28) ∈ am_T0 := kw_616
theorem cd_29 : Cond.code (am_N 29) (am_B 29) (am_ML 29) (am_Rt 29) ∈ am_T0 := kw_884
theorem cd_30 : Cond.code (am_N 30) (am_B 30) (am_ML 30) (am_Rt 30) ∈ am_T0 := kw_405
theorem cd_31 : Cond.code (am_N 31) (am_B 31) (am_ML 31) (am_Rt 31) ∈ am_T0 := kw_439
theorem cd_32 : Cond.code (am_N 32) (am_B 32) (am_ML 32) (am_Rt 32) ∈ am_T0 := kw_540
theorem cd_33 : Cond.code (am_N 33) (am_B 33) (am_ML 33) (am_Rt 33) ∈ am_T0 := kw_544
theorem cd_34 : Cond.code (am_N 34) (am_B 34) (am_ML 34) (am_Rt 34) ∈ am_T0 := kw_600
theorem cd_35 : Cond.code (am_N 35) (am_B 35) (am_ML 35) (am_Rt 35) ∈ am_T0 := kw_604
theorem cd_36 : Cond.code (am_N 36) (am_B 36) (am_ML 36) (am_Rt 36) ∈ am_T0 := kw_32
theorem cd_37 : Cond.code (am_N 37) (am_B 37) (am_ML 37) (am_Rt 37) ∈ am_T0 := kw_552
theorem cd_38 : Cond.code (am_N 38) (am_B 38) (am_ML 38) (am_Rt 38) ∈ am_T0 := kw_555
theorem cd_39 : Cond.code (am_N 39) (am_B 39) (am_ML 39) (am_Rt 39) ∈ am_T0 := kw_765
theorem cd_40 : Cond.code (am_N 40) (am_B 40) (am_ML 40) (am_Rt 40) ∈ am_T0 := kw_772
theorem cd_41 : Cond.code (am_N 41) (am_B 41) (am_ML 41) (am_Rt 41) ∈ am_T0 := kw_797
theorem cd_42 : Cond.code (am_N 42) (am_B 42) (am_ML 42) (am_Rt 42) ∈ am_T0 := kw_172
theorem cd_43 : Cond.code (am_N 43) (am_B 43) (am_ML 43) (am_Rt 43) ∈ am_T0 := kw_392
theorem cd_44 : Cond.code (am_N 44) (am_B 44) (am_ML 44) (am_Rt 44) ∈ am_T0 := kw_396
theorem cd_45 : Cond.code (am_N 45) (am_B 45) (am_ML 45) (am_Rt 45) ∈ am_T0 := kw_435
theorem cd_46 : Cond.code (am_N 46) (am_B 46) (am_ML 46) (am_Rt 46) ∈ am_T0 := kw_443
theorem cd_47 : Cond.code (am_N 47) (am_B 47) (am_ML 47) (am_Rt 47) ∈ am_T0 := kw_447
theorem cd_48 : Cond.code (am_N 48) (am_B 48) (am_ML 48) (am_Rt 48) ∈ am_T0 := kw_456
theorem cd_49 : Cond.code (am_N 49) (am_B 49) (am_ML 49) (am_Rt 49) ∈ am_T0 := kw_514
theorem cd_50 : Cond.code (am_N 50) (am_B 50) (am_ML 50) (am_Rt 50) ∈ am_T0 := kw_518
theorem cd_51 : Cond.code (am_N 51) (am_B 51) (am_ML 51) (am_Rt 51) ∈ am_T0 := kw_522
theorem cd_52 : Cond.code (am_N 52) (am_B 52) (am_ML 52) (am_Rt 52) ∈ am_T0 := kw_526
theorem cd_53 : Cond.code (am_N 53) (am_B 53) (am_ML 53) (am_Rt 53) ∈ am_T0 := kw_530
theorem cd_54 : Cond.code (am_N 54) (am_B 54) (am_ML 54) (am_Rt 54) ∈ am_T0 := kw_535
theorem cd_55 : Cond.code (am_N 55) (am_B 55) (am_ML 55) (am_Rt 55) ∈ am_T0 := kw_508
theorem cd_56 : Cond.code (am_N 56) (am_B 56) (am_ML 56) (am_Rt 56) ∈ am_T0 := kw_451
theorem cd_57 : Cond.code (am_N 57) (am_B 57) (am_ML 57) (am_Rt 57) ∈ am_T0 := kw_342
theorem cd_58 : Cond.code (am_N 58) (am_B 58) (am_ML 58) (am_Rt 58) ∈ am_T0 := kw_783
theorem cd_59 : Cond.code (am_N 59) (am_B 59) (am_ML 59) (am_Rt 59) ∈ am_T0 := kw_808
theorem cd_60 : Cond.code (am_N 60) (am_B 60) (am_ML 60) (am_Rt 60) ∈ am_T0 := kw_642
theorem cd_61 : Cond.code (am_N 61) (am_B 61) (am_ML 61) (am_Rt 61) ∈ am_T0 := kw_868
theorem cd_62 : Cond.code (am_N 62) (am_B 62) (am_ML 62) (am_Rt 62) ∈ am_T0 := kw_842
theorem cd_63 : Cond.code (am_N 63) (am_B 63) (am_ML 63) (am_Rt 63) ∈ am_T0 := kw_329
theorem cd_64 : Cond.code (am_N 64) (am_B 64) (am_ML 64) (am_Rt 64) ∈ am_T0 := kw_648
theorem cd_65 : Cond.code (am_N 65) (am_B 65) (am_ML 65) (am_Rt 65) ∈ am_T0 := kw_894
theorem cd_66 : Cond.code (am_N 66) (am_B 66) (am_ML 66) (am_Rt 66) ∈ am_T0 := kw_24
theorem cd_67 : Cond.code (am_N 67) (am_B 67) (am_ML 67) (am_Rt 67) ∈ am_T0 := kw_238
theorem cd_68 : Cond.code (am_N 68) (am_B 68) (am_ML 68) (am_Rt 68) ∈ am_T0 := kw_368
theorem cd_69 : Cond.code (am_N 69) (am_B 69) (am_ML 69) (am_Rt 69) ∈ am_T0 := kw_376
theorem cd_70 : Cond.code (am_N 70) (am_B 70) (am_ML 70) (am_Rt 70) ∈ am_T0 := kw_380
theorem cd_71 : Cond.code (am_N 71) (am_B 71) (am_ML 71) (am_Rt 71) ∈ am_T0 := kw_384
theorem cd_72 : Cond.code (am_N 72) (am_B 72) (am_ML 72) (am_Rt 72) ∈ am_T0 := kw_388
theorem cd_73 : Cond.code (am_N 73) (am_B 73) (am_ML 73) (am_Rt 73) ∈ am_T0 := kw_401
theorem cd_74 : Cond.code (am_N 74) (am_B 74) (am_ML 74) (am_Rt 74) ∈ am_T0 := kw_548
theorem cd_75 : Cond.code (am_N 75) (am_B 75) (am_ML 75) (am_Rt 75) ∈ am_T0 := kw_565
theorem cd_76 : Cond.code (am_N 76) (am_B 76) (am_ML 76) (am_Rt 76) ∈ am_T0 := kw_569
theorem cd_77 : Cond.code (am_N 77) (am_B 77) (am_ML 77) (am_Rt 77) ∈ am_T0 := kw_664
theorem cd_78 : Cond.code (am_N 78) (am_B 78) (am_ML 78) (am_Rt 78) ∈ am_T0 := kw_668
theorem cd_79 : Cond.code (am_N 79) (am_B 79) (am_ML 79) (am_Rt 79) ∈ am_T0 := kw_681
theorem cd_80 : Cond.code (am_N 80) (am_B 80) (am_ML 80) (am_Rt 80) ∈ am_T0 := kw_685
theorem cd_81 : Cond.code (am_N 81) (am_B 81) (am_ML 81) (am_Rt 81) ∈ am_T0 := kw_689
theorem cd_82 : Cond.code (am_N 82) (am_B 82) (am_ML 82) (am_Rt 82) ∈ am_T0 := kw_693
theorem cd_83 : Cond.code (am_N 83) (am_B 83) (am_ML 83) (am_Rt 83) ∈ am_T0 := kw_701
theorem cd_84 : Cond.code (am_N 84) (am_B 84) (am_ML 84) (am_Rt 84) ∈ am_T0 := kw_705
theorem cd_85 : Cond.code (am_N 85) (am_B 85) (am_ML 85) (am_Rt 85) ∈ am_T0 := kw_713
theorem cd_86 : Cond.code (am_N 86) (am_B 86) (am_ML 86) (am_Rt 86) ∈ am_T0 := kw_717
theorem cd_87 : Cond.code (am_N 87) (am_B 87) (am_ML 87) (am_Rt 87) ∈ am_T0 := kw_725
theorem cd_88 : Cond.code (am_N 88) (am_B 88) (am_ML 88) (am_Rt 88) ∈ am_T0 := kw_730
theorem cd_89 : Cond.code (am_N 89) (am_B 89) (am_ML 89) (am_Rt 89) ∈ am_T0 := kw_738
theorem cd_90 : Cond.code (am_N 90) (am_B 90) (am_ML 90) (am_Rt 90) ∈ am_T0 := kw_742
theorem cd_91 : Cond.code (am_N 91) (am_B 91) (am_ML 91) (am_Rt 91) ∈ am_T0 := kw_746
theorem cd_92 : Cond.code (am_N 92) (am_B 92) (am_ML 92) (am_Rt 92) ∈ am_T0 := kw_750
theorem cd_93 : Cond.code (am_N 93) (am_B 93) (am_ML 93) (am_Rt 93) ∈ am_T0 := kw_761
theorem cd_94 : Cond.code (am_N 94) (am_B 94) (am_ML 94) (am_Rt 94) ∈ am_T0 := kw_793
theorem cd_95 : Cond.code (am_N 95) (am_B 95) (am_ML 95) (am_Rt 95) ∈ am_T0 := kw_817
theorem cd_96 : Cond.code (am_N 96) (am_B 96) (am_ML 96) (am_Rt 96) ∈ am_T0 := kw_905
theorem cd_97 : Cond.code (am_N 97) (am_B 97) (am_ML 97) (am_Rt 97) ∈ am_T0 := kw_909
theorem cd_98 : Cond.code (am_N 98) (am_B 98) (am_ML 98) (am_Rt 98) ∈ am_T0 := kw_916
theorem cd_99 : Cond.code (am_N 99) (am_B 99) (am_ML 99) (am_Rt 99) ∈ am_T0 := kw_920
theorem cd_100 : Cond.code (am_N 100) (am_B 100) (am_ML 100) (am_Rt 100) ∈ am_T0 := kw_924
theorem cd_101 : Cond.code (am_N 101) (am_B 101) (am_ML 101) (am_Rt 101) ∈ am_T0 := kw_931
theorem cd_102 : Cond.code (am_N 102) (am_B 102) (am_ML 102) (am_Rt 102) ∈ am_T0 := kw_935
theorem cd_103 : Cond.code (am_N 103) (am_B 103) (am_ML 103) (am_Rt 103) ∈ am_T0 := kw_241
theorem cd_104 : Cond.code (am_N 104) (am_B 104) (am_ML 104) (am_Rt 104) ∈ am_T0 := kw_372
theorem cd_105 : Cond.code (am_N 105) (am_B 105) (am_ML 105) (am_Rt 105) ∈ am_T0 := kw_244
theorem cd_106 : Cond.code (am_N 106) (am_B 106) (am_ML 106) (am_Rt 106) ∈ am_T0 := kw_912
theorem cd_107 : Cond.code (am_N 107) (am_B 107) (am_ML 107) (am_Rt 107) ∈ am_T0 := kw_573
theorem cd_108 : Cond.code (am_N 108) (am_B 108) (am_ML 108) (am_Rt 108) ∈ am_T0 := kw_709
theorem cd_109 : Cond.code (am_N 109) (am_B 109) (am_ML 109) (am_Rt 109) ∈ am_T0 := kw_672
theorem cd_110 : Cond.code (am_N 110) (am_B 110) (am_ML 110) (am_Rt 110) ∈ am_T0 := kw_676
theorem cd_111 : Cond.code (am_N 111) (am_B 111) (am_ML 111) (am_Rt 111) ∈ am_T0 := kw_697
theorem cd_112 : Cond.code (am_N 112) (am_B 112) (am_ML 112) (am_Rt 112) ∈ am_T0 := kw_721
theorem cd_113 : Cond.code (am_N 113) (am_B 113) (am_ML 113) (am_Rt 113) ∈ am_T0 := kw_734
theorem cd_114 : Cond.code (am_N 114) (am_B 114) (am_ML 114) (am_Rt 114) ∈ am_T0 := kw_753
theorem cd_115 : Cond.code (am_N 115) (am_B 115) (am_ML 115) (am_Rt 115) ∈ am_T0 := kw_757
theorem cd_116 : Cond.code (am_N 116) (am_B 116) (am_ML 116) (am_Rt 116) ∈ am_T0 := kw_939
theorem cd_117 : Cond.code (am_N 117) (am_B 117) (am_ML 117) (am_Rt 117) ∈ am_T0 := kw_927
theorem cd_118 : Cond.code (am_N 118) (am_B 118) (am_ML 118) (am_Rt 118) ∈ am_T0 := kw_945
theorem cd_119 : Cond.code (am_N 119) (am_B 119) (am_ML 119) (am_Rt 119) ∈ am_T0 := kw_1168
theorem cd_120 : Cond.code (am_N 120) (am_B 120) (am_ML 120) (am_Rt 120) ∈ am_T0 := kw_1176
theorem cd_121 : Cond.code (am_N 121) (am_B 121) (am_ML 121) (am_Rt 121) ∈ am_T0 := kw_1164
theorem cd_122 : Cond.code (am_N 122) (am_B 122) (am_ML 122) (am_Rt 122) ∈ am_T0 := kw_1172
theorem cd_123 : Cond.code (am_N 123) (am_B 123) (am_ML 123) (am_Rt 123) ∈ am_T0 := kw_1180
theorem cd_124 : Cond.code (am_N 124) (am_B 124) (am_ML 124) (am_Rt 124) ∈ am_T0 := kw_1184
theorem cd_125 : Cond.code (am_N 125) (am_B 125) (am_ML 125) (am_Rt 125) ∈ am_T0 := kw_1188
theorem cd_126 : Cond.code (am_N 126) (am_B 126) (am_ML 126) (am_Rt 126) ∈ am_T0 := kw_1192
theorem cd_127 : Cond.code (am_N 127) (am_B 127) (am_ML 127) (am_Rt 127) ∈ am_T0 := kw_1212
theorem cd_128 : Cond.code (am_N 128) (am_B 128) (am_ML 128) (am_Rt 128) ∈ am_T0 := kw_1220
theorem cd_129 : Cond.code (am_N 129) (am_B 129) (am_ML 129) (am_Rt 129) ∈ am_T0 := kw_1216
theorem cd_130 : Cond.code (am_N 130) (am_B 130) (am_ML 130) (am_Rt 130) ∈ am_T0 := kw_1228
theorem cd_131 : Cond.code (am_N 131) (am_B 131) (am_ML 131) (am_Rt 131) ∈ am_T0 := kw_1224
theorem cd_132 : Cond.code (am_N 132) (am_B 132) (am_ML 132) (am_Rt 132) ∈ am_T0 := kw_1244
theorem cd_133 : Cond.code (am_N 133) (am_B 133) (am_ML 133) (am_Rt 133) ∈ am_T0 := kw_1248
theorem cd_134 : Cond.code (am_N 134) (am_B 134) (am_ML 134) (am_Rt 134) ∈ am_T0 := kw_1252
theorem cd_135 : Cond.code (am_N 135) (am_B 135) (am_ML 135) (am_Rt 135) ∈ am_T0 := kw_1240
theorem cd_136 : Cond.code (am_N 136) (am_B 136) (am_ML 136) (am_Rt 136) ∈ am_T0 := kw_1236
theorem cd_137 : Cond.code (am_N 137) (am_B 137) (am_ML 137) (am_Rt 137) ∈ am_T0 := kw_1232
theorem cd_138 : Cond.code (am_N 138) (am_B 138) (am_ML 138) (am_Rt 138) ∈ am_T0 := kw_1208
theorem cd_139 : Cond.code (am_N 139) (am_B 139) (am_ML 139) (am_Rt 139) ∈ am_T0 := kw_1204
theorem cd_140 : Cond.code (am_N 140) (am_B 140) (am_ML 140) (am_Rt 140) ∈ am_T0 := kw_1200
theorem cd_141 : Cond.code (am_N 141) (am_B 141) (am_ML 141) (am_Rt 141) ∈ am_T0 := kw_1196
theorem cd_142 : Cond.code (am_N 142) (am_B 142) (am_ML 142) (am_Rt 142) ∈ am_T0 := kw_1288
theorem cd_143 : Cond.code (am_N 143) (am_B 143) (am_ML 143) (am_Rt 143) ∈ am_T0 := kw_1292
theorem cd_144 : Cond.code (am_N 144) (am_B 144) (am_ML 144) (am_Rt 144) ∈ am_T0 := kw_1300
theorem cd_145 : Cond.code (am_N 145) (am_B 145) (am_ML 145) (am_Rt 145) ∈ am_T0 := kw_1296
theorem cd_146 : Cond.code (am_N 146) (am_B 146) (am_ML 146) (am_Rt 146) ∈ am_T0 := kw_1284
theorem cd_147 : Cond.code (am_N 147) (am_B 147) (am_ML 147) (am_Rt 147) ∈ am_T0 := kw_1264
theorem cd_148 : Cond.code (am_N 148) (am_B 148) (am_ML 148) (am_Rt 148) ∈ am_T0 := kw_1322
theorem cd_149 : Cond.code (am_N 149) (am_B 149) (am_ML 149) (am_Rt 149) ∈ am_T0 := kw_1268
theorem cd_150 : Cond.code (am_N 150) (am_B 150) (am_ML 150) (am_Rt 150) ∈ am_T0 := kw_1260
theorem cd_151 : Cond.code (am_N 151) (am_B 151) (am_ML 151) (am_Rt 151) ∈ am_T0 := kw_1256
theorem cd_152 : Cond.code (am_N 152) (am_B 152) (am_ML 152) (am_Rt 152) ∈ am_T0 := kw_1272
theorem cd_153 : Cond.code (am_N 153) (am_B 153) (am_ML 153) (am_Rt 153) ∈ am_T0 := kw_1304
theorem cd_154 : Cond.code (am_N 154) (am_B 154) (am_ML 154) (am_Rt 154) ∈ am_T0 := kw_1308
theorem cd_155 : Cond.code (am_N 155) (am_B 155) (am_ML 155) (am_Rt 155) ∈ am_T0 := kw_1312
theorem cd_156 : Cond.code (am_N 156) (am_B 156) (am_ML 156) (am_Rt 156) ∈ am_T0 := kw_1316
theorem cd_157 : Cond.code (am_N 157) (am_B 157) (am_ML 157) (am_Rt 157) ∈ am_T0 := kw_1280
theorem cd_158 : Cond.code (am_N 158) (am_B 158) (am_ML 158) (am_Rt 158) ∈ am_T0 := kw_1276
theorem cd_159 : Cond.code (am_N 159) (am_B 159) (am_ML 159) (am_Rt 159) ∈ am_T0 := kw_1326
theorem cd_160 : Cond.code (am_N 160) (am_B 160) (am_ML 160) (am_Rt 160) ∈ am_T0 := kw_1334
theorem cd_161 : Cond.code (am_N 161) (am_B 161) (am_ML 161) (am_Rt 161) ∈ am_T0 := kw_1330
theorem cd_162 : Cond.code (am_N 162) (am_B 162) (am_ML 162) (am_Rt 162) ∈ am_T0 := kw_1338
theorem cd_163 : Cond.code (am_N 163) (am_B 163) (am_ML 163) (am_Rt 163) ∈ am_T0 := kw_1342
theorem cd_164 : Cond.code (am_N 164) (am_B 164) (am_ML 164) (am_Rt 164) ∈ am_T0 := kw_1346
theorem cd_165 : Cond.code (am_N 165) (am_B 165) (am_ML 165) (am_Rt 165) ∈ am_T0 := kw_1354
theorem cd_166 : Cond.code (am_N 166) (am_B 166) (am_ML 166) (am_Rt 166) ∈ am_T0 := kw_1350
theorem cd_167 : Cond.code (am_N 167) (am_B 167) (am_ML 167) (am_Rt 167) ∈ am_T0 := kw_1358
theorem cd_168 : Cond.code (am_N 168) (am_B 168) (am_ML 168) (am_Rt 168) ∈ am_T0 := kw_1362
theorem cd_169 : Cond.code (am_N 169) (am_B 169) (am_ML 169) (am_Rt 169) ∈ am_T0 := kw_1366
theorem cd_170 : Cond.code (am_N 170) (am_B 170) (am_ML 170) (am_Rt 170) ∈ am_T0 := kw_1374
theorem cd_171 : Cond.code (am_N 171) (am_B 171) (am_ML 171) (am_Rt 171) ∈ am_T0 := kw_1370
theorem cd_172 : Cond.code (am_N 172) (am_B 172) (am_ML 172) (am_Rt 172) ∈ am_T0 := kw_1378
theorem cd_173 : Cond.code (am_N 173) (am_B 173) (am_ML 173) (am_Rt 173) ∈ am_T0 := kw_1393
theorem cd_174 : Cond.code (am_N 174) (am_B 174) (am_ML 174) (am_Rt 174) ∈ am_T0 := kw_1389
theorem cd_175 : Cond.code (am_N 175) (am_B 175) (am_ML 175) (am_Rt 175) ∈ am_T0 := kw_1383
theorem cd_176 : Cond.code (am_N 176) (am_B 176) (am_ML 176) (am_Rt 176) ∈ am_T0 := kw_1397
theorem cd_177 : Cond.code (am_N 177) (am_B 177) (am_ML 177) (am_Rt 177) ∈ am_T0 := kw_1402
theorem cd_178 : Cond.code (am_N 178) (am_B 178) (am_ML 178) (am_Rt 178) ∈ am_T0 := kw_1406
theorem cd_179 : Cond.code (am_N 179) (am_B 179) (am_ML 179) (am_Rt 179) ∈ am_T0 := kw_1410
theorem cd_180 : Cond.code (am_N 180) (am_B 180) (am_ML 180) (am_Rt 180) ∈ am_T0 := kw_1418
theorem cd_181 : Cond.code (am_N 181) (am_B 181) (am_ML 181) (am_Rt 181) ∈ am_T0 := kw_1422
theorem cd_182 : Cond.code (am_N 182) (am_B 182) (am_ML 182) (am_Rt 182) ∈ am_T0 := kw_1434
theorem cd_183 : Cond.code (am_N 183) (am_B 183) (am_ML 183) (am_Rt 183) ∈ am_T0 := kw_1438
theorem cd_184 : Cond.code (am_N 184) (am_B 184) (am_ML 184) (am_Rt 184) ∈ am_T0 := kw_1430
theorem cd_185 : Cond.code (am_N 185) (am_B 185) (am_ML 185) (am_Rt 185) ∈ am_T0 := kw_1450
theorem cd_186 : Cond.code (am_N 186) (am_B 186) (am_ML 186) (am_Rt 186) ∈ am_T0 := kw_1446
theorem cd_187 : Cond.code (am_N 187) (am_B 187) (am_ML 187) (am_Rt 187) ∈ am_T0 := kw_1442
theorem cd_188 : Cond.code (am_N 188) (am_B 188) (am_ML 188) (am_Rt 188) ∈ am_T0 := kw_1458
theorem cd_189 : Cond.code (am_N 189) (am_B 189) (am_ML 189) (am_Rt 189) ∈ am_T0 := kw_1454
theorem cd_190 : Cond.code (am_N 190) (am_B 190) (am_ML 190) (am_Rt 190) ∈ am_T0 := kw_1426
theorem cd_191 : Cond.code (am_N 191) (am_B 191) (am_ML 191) (am_Rt 191) ∈ am_T0 := kw_1462
theorem cd_192 : Cond.code (am_N 192) (am_B 192) (am_ML 192) (am_Rt 192) ∈ am_T0 := kw_1466
theorem cd_193 : Cond.code (am_N 193) (am_B 193) (am_ML 193) (am_Rt 193) ∈ am_T0 := kw_1470
theorem cd_194 : Cond.code (am_N 194) (am_B 194) (am_ML 194) (am_Rt 194) ∈ am_T0 := kw_1414
theorem cd_195 : Cond.code (am_N 195) (am_B 195) (am_ML 195) (am_Rt 195) ∈ am_T0 := kw_1474
theorem cd_196 : Cond.code (am_N 196) (am_B 196) (am_ML 196) (am_Rt 196) ∈ am_T0 := kw_1482
theorem cd_197 : Cond.code (am_N 197) (am_B 197) (am_ML 197) (am_Rt 197) ∈ am_T0 := kw_1478
theorem cd_198 : Cond.code (am_N 198) (am_B 198) (am_ML 198) (am_Rt 198) ∈ am_T0 := kw_1486
theorem cd_199 : Cond.code (am_N 199) (am_B 199) (am_ML 199) (am_Rt 199) ∈ am_T0 := kw_1490
theorem cd_200 : Cond.code (am_N 200) (am_B 200) (am_ML 200) (am_Rt 200) ∈ am_T0 := kw_558
theorem cd_201 : Cond.code (am_N 201) (am_B 201) (am_ML 201) (am_Rt 201) ∈ am_T0 := kw_561
theorem cd_202 : Cond.code (am_N 202) (am_B 202) (am_ML 202) (am_Rt 202) ∈ am_T0 := kw_658
theorem cd_203 : Cond.code (am_N 203) (am_B 203) (am_ML 203) (am_Rt 203) ∈ am_T0 := kw_645
theorem cd_204 : Cond.code (am_N 204) (am_B 204) (am_ML 204) (am_Rt 204) ∈ am_T0 := kw_460
theorem cd_205 : Cond.code (am_N 205) (am_B 205) (am_ML 205) (am_Rt 205) ∈ am_T0 := kw_464
theorem cd_206 : Cond.code (am_N 206) (am_B 206) (am_ML 206) (am_Rt 206) ∈ am_T0 := kw_470
theorem cd_207 : Cond.code (am_N 207) (am_B 207) (am_ML 207) (am_Rt 207) ∈ am_T0 := kw_474
theorem cd_208 : Cond.code (am_N 208) (am_B 208) (am_ML 208) (am_Rt 208) ∈ am_T0 := kw_477
theorem cd_209 : Cond.code (am_N 209) (am_B 209) (am_ML 209) (am_Rt 209) ∈ am_T0 := kw_480
theorem cd_210 : Cond.code (am_N 210) (am_B 210) (am_ML 210) (am_Rt 210) ∈ am_T0 := kw_485
theorem pk_0 : am_okP (am_on 0) (.invokespecial 3, 0, 0, 1) := Or.inl ⟨rfl, rfl, kw_253⟩
theorem pk_1 : am_okP (am_on 0) (.putfield 9, 5, 0, 0) := ⟨by decide, am_okF0 kw_271 (fun t h => by rcases h with rfl | rfl | rfl | rfl | rfl | rfl | rfl <;> exact ⟨by decide, rfl, rfl, rfl, rfl, rfl⟩) (Or.inl rfl)⟩
theorem pk_2 : am_okP (am_on 0) (.putfield 15, 0, 0, 0) := ⟨by decide, am_okF0 kw_254 (fun t h => by rcases h with rfl | rfl | rfl | rfl | rfl | rfl | rfl <;> exact ⟨by decide, rfl, rfl, rfl, rfl, rfl⟩) (Or.inl rfl)⟩
theorem pk_3 : am_okP (am_on 0) (.putfield 18, 1, 0, 0) := ⟨by decide, am_okF0 kw_256 (fun t h => by rcases h with rfl | rfl | rfl | rfl | rfl | rfl | rfl <;> exact ⟨by decide, rfl, rfl, rfl, rfl, rfl⟩) (Or.inl rfl)⟩
theorem pk_4 : am_okP (am_on 0) (.putfield 21, 2, 0, 0) := ⟨by decide, am_okF0 kw_259 (fun t h => by rcases h with rfl | rfl | rfl | rfl | rfl | rfl | rfl <;> exact ⟨by decide, rfl, rfl, rfl, rfl, rfl⟩) (Or.inl rfl)⟩
theorem pk_5 : am_okP (am_on 0) (.putfield 24, 3, 0, 0) := ⟨by decide, am_okF0 kw_267 (fun t h => by rcases h with rfl | rfl | rfl | rfl | rfl | rfl | rfl <;> exact ⟨by decide, rfl, rfl, rfl, rfl, rfl⟩) (Or.inl rfl)⟩
theorem pk_6 : am_okP (am_on 0) (.putfield 27, 4, 0, 0) := ⟨by decide, am_okF0 kw_269 (fun t h => by rcases h with rfl | rfl | rfl | rfl | rfl | rfl | rfl <;> exact ⟨by decide, rfl, rfl, rfl, rfl, rfl⟩) (Or.inl rfl)⟩
theorem pk_7 : am_okP (am_on 0) (.getfield 18, 1, 0, 0) := Or.inr ⟨by decide, am_okF0 kw_256 (fun t h => by rcases h with rfl | rfl | rfl | rfl | rfl | rfl | rfl <;> exact ⟨by decide, rfl, rfl, rfl, rfl, rfl⟩) (Or.inl rfl)⟩
theorem pk_8 : am_okP (am_on 0) (.getfield 15, 0, 0, 0) := Or.inr ⟨by decide, am_okF0 kw_254 (fun t h => by rcases h with rfl | rfl | rfl | rfl | rfl | rfl | rfl <;> exact ⟨by decide, rfl, rfl, rfl, rfl, rfl⟩) (Or.inl rfl)⟩
theorem pk_9 : am_okP (am_on 0) (.getfield 21, 2, 0, 0) := Or.inr ⟨by decide, am_okF0 kw_259 (fun t h => by rcases h with rfl | rfl | rfl | rfl | rfl | rfl | rfl <;> exact ⟨by decide, rfl, rfl, rfl, rfl, rfl⟩) (Or.inl rfl)⟩
theorem pk_10 : am_okP (am_on 0) (.getfield 24, 3, 0, 0) := Or.inr ⟨by decide, am_okF0 kw_267 (fun t h => by rcases h with rfl | rfl | rfl | rfl | rfl | rfl | rfl <;> exact ⟨by decide, rfl, rfl, rfl, rfl, rfl⟩) (Or.inl rfl)⟩
theorem pk_11 : am_okP (am_on 0) (.getfield 27, 4, 0, 0) := Or.inr ⟨by decide, am_okF0 kw_269 (fun t h => by rcases h with rfl | rfl | rfl | rfl | rfl | rfl | rfl <;> exact ⟨by decide, rfl, rfl, rfl, rfl, rfl⟩) (Or.inl rfl)⟩
theorem pk_12 : am_okP (am_on 0) (.getfield 9, 5, 0, 0) := Or.inr ⟨by decide, am_okF0 kw_271 (fun t h => by rcases h with rfl | rfl | rfl | rfl | rfl | rfl | rfl <;> exact ⟨by decide, rfl, rfl, rfl, rfl, rfl⟩) (Or.inl rfl)⟩
theorem pk_13 : am_okP (am_on 0) (.getfield 32, 7, 3, 0) := Or.inr ⟨by decide, am_okF1 (by decide) kw_121 ⟨by decide, rfl, rfl, rfl, rfl, rfl⟩ rfl⟩
theorem pk_14 : am_okP (am_on 0) (.getfield 37, 2, 3, 0) := Or.inr ⟨by decide, am_okF1 (by decide) kw_105 ⟨by decide, rfl, rfl, rfl, rfl, rfl⟩ rfl⟩
theorem pk_15 : am_okP (am_on 0) (.invokestatic 38, 9, 2, 0) := Or.inr ⟨rfl, by decide, by decide +kernel, kw_828, Or.inl kw_849⟩
theorem pk_16 : am_okP (am_on 0) (.invokevirtual 42, 5, 2, 0) := Or.inr (Or.inr ⟨by decide, by decide, by decide, by decide +kernel, rfl, kw_874, kw_821, kw_819, fun t _ hs => by
    rcases am_s0 hs with rfl | rfl | rfl | rfl | rfl | rfl | rfl
    · exact ⟨6, rfl, by decide, by decide +kernel, kw_820, kw_819⟩
    · exact ⟨6, rfl, by decide, by decide +kernel, kw_822, kw_819⟩
    · exact ⟨15, rfl, by decide, by decide +kernel, kw_823, kw_824⟩
    · exact ⟨25, rfl, by decide, by decide +kernel, kw_831, kw_832⟩
    · exact ⟨6, rfl, by decide, by decide +kernel, kw_839, kw_819⟩
    · exact ⟨62, rfl, by decide, by decide +kernel, kw_840, kw_841⟩
    · exact ⟨15, rfl, by decide, by decide +kernel, kw_847, kw_824⟩⟩)
theorem pk_17 : am_okP (am_on 0) (.invokevirtual 46, 6, 2, 0) := Or.inr (Or.inr ⟨by decide, by decide, by decide, by decide +kernel, rfl, kw_901, kw_853, kw_851, fun t _ hs => by
    rcases am_s0 hs with rfl | rfl | rfl | rfl | rfl | rfl | rfl
    · exact ⟨7, rfl, by decide, by decide +kernel, kw_852, kw_851⟩
    · exact ⟨12, rfl, by decide, by decide +kernel, kw_854, kw_855⟩
    · exact ⟨7, rfl, by decide, by decide +kernel, kw_860, kw_851⟩
    · exact ⟨26, rfl, by decide, by decide +kernel, kw_861, kw_862⟩
    · exact ⟨7, rfl, by decide, by decide +kernel, kw_865, kw_851⟩
    · exact ⟨61, rfl, by decide, by decide +kernel, kw_866, kw_867⟩
    · exact ⟨7, rfl, by decide, by decide +kernel, kw_872, kw_851⟩⟩)
theorem pk_18 : am_okP (am_on 1) (.invokespecial 1, 0, 5, 0) := Or.inr ⟨rfl, Or.inl ⟨by decide, by decide +kernel, rfl, rfl, kw_251, Or.inl kw_250⟩⟩
theorem pk_19 : am_okP (am_on 1) (.getfield 7, 7, 3, 0) := Or.inr ⟨by decide, am_okF1 (by decide) kw_117 ⟨by decide, rfl, rfl, rfl, rfl, rfl⟩ rfl⟩
theorem pk_20 : am_okP (am_on 1) (.getfield 13, 2, 3, 0) := Or.inr ⟨by decide, am_okF1 (by decide) kw_103 ⟨by decide, rfl, rfl, rfl, rfl, rfl⟩ rfl⟩
theorem pk_21 : am_okP (am_on 1) (.getfield 16, 2, 0, 0) := Or.inr ⟨by decide, am_okF0 kw_260 (fun t h => by rcases h with rfl | rfl | rfl | rfl | rfl | rfl | rfl <;> exact ⟨by decide, rfl, rfl, rfl, rfl, rfl⟩) (Or.inr kw_261)⟩
theorem pk_22 : am_okP (am_on 1) (.invokestatic 21, 9, 2, 0) := Or.inr ⟨rfl, by decide, by decide +kernel, kw_828, Or.inr ⟨"LargeBubble$Bold", kw_857, kw_858⟩⟩
theorem pk_23 : am_okP (am_on 1) (.invokespecial 25, 7, 2, 0) := Or.inr ⟨rfl, Or.inr ⟨by decide, by decide +kernel, by decide, kw_851, "LargeBubble$Blower", kw_859, kw_853, kw_285, Or.inl rfl⟩⟩
theorem pk_24 : am_okP (am_on 2) (.invokespecial 1, 0, 5, 0) := Or.inr ⟨rfl, Or.inl ⟨by decide, by decide +kernel, rfl, rfl, kw_251, Or.inl kw_291⟩⟩
theorem pk_25 : am_okP (am_on 2) (.invokespecial 7, 5, 1, 0) := Or.inr ⟨rfl, Or.inr ⟨by decide, by decide +kernel, by decide, kw_625, "LargeBubble$Blower", kw_634, kw_627, kw_298, Or.inl rfl⟩⟩
theorem pk_26 : am_okP (am_on 2) (.getfield 11, 8, 3, 0) := Or.inr ⟨by decide, am_okF1 (by decide) kw_124 ⟨by decide, rfl, rfl, rfl, rfl, rfl⟩ rfl⟩
theorem pk_27 : am_okP (am_on 2) (.getfield 17, 7, 3, 0) := Or.inr ⟨by decide, am_okF1 (by decide) kw_118 ⟨by decide, rfl, rfl, rfl, rfl, rfl⟩ rfl⟩
theorem pk_28 : am_okP (am_on 2) (.getfield 20, 2, 0, 0) := Or.inr ⟨by decide, am_okF0 kw_262 (fun t h => by rcases h with rfl | rfl | rfl | rfl | rfl | rfl | rfl <;> exact ⟨by decide, rfl, rfl, rfl, rfl, rfl⟩) (Or.inr kw_263)⟩
theorem pk_29 : am_okP (am_on 2) (.invokestatic 25, 9, 2, 0) := Or.inr ⟨rfl, by decide, by decide +kernel, kw_828, Or.inr ⟨"LargeBubble$Careful", kw_826, kw_827⟩⟩
theorem pk_30 : am_okP (am_on 2) (.invokespecial 29, 6, 2, 0) := Or.inr ⟨rfl, Or.inr ⟨by decide, by decide +kernel, by decide, kw_819, "LargeBubble$Blower", kw_830, kw_821, kw_298, Or.inl rfl⟩⟩
theorem pk_31 : am_okP (am_on 3) (.invokespecial 3, 0, 0, 1) := Or.inl ⟨rfl, rfl, kw_97⟩
theorem pk_32 : am_okP (am_on 3) (.putfield 9, 0, 3, 2) := ⟨by decide, am_okF1 (by decide) kw_98 ⟨by decide, rfl, rfl, rfl, rfl, rfl⟩ rfl⟩
theorem pk_33 : am_okP (am_on 3) (.putfield 15, 1, 3, 0) := ⟨by decide, am_okF1 (by decide) kw_100 ⟨by decide, rfl, rfl, rfl, rfl, rfl⟩ rfl⟩
theorem pk_34 : am_okP (am_on 3) (.putfield 19, 2, 3, 0) := ⟨by decide, am_okF1 (by decide) kw_102 ⟨by decide, rfl, rfl, rfl, rfl, rfl⟩ rfl⟩
theorem pk_35 : am_okP (am_on 3) (.putfield 22, 3, 3, 0) := ⟨by decide, am_okF1 (by decide) kw_107 ⟨by decide, rfl, rfl, rfl, rfl, rfl⟩ rfl⟩
theorem pk_36 : am_okP (am_on 3) (.putfield 25, 4, 3, 0) := ⟨by decide, am_okF1 (by decide) kw_109 ⟨by decide, rfl, rfl, rfl, rfl, rfl⟩ rfl⟩
theorem pk_37 : am_okP (am_on 3) (.putfield 28, 5, 3, 0) := ⟨by decide, am_okF1 (by decide) kw_112 ⟨by decide, rfl, rfl, rfl, rfl, rfl⟩ rfl⟩
theorem pk_38 : am_okP (am_on 3) (.putfield 31, 6, 3, 1) := ⟨by decide, am_okF1 (by decide) kw_114 ⟨by decide, rfl, rfl, rfl, rfl, rfl⟩ rfl⟩
theorem pk_39 : am_okP (am_on 3) (.putfield 35, 7, 3, 0) := ⟨by decide, am_okF1 (by decide) kw_116 ⟨by decide, rfl, rfl, rfl, rfl, rfl⟩ rfl⟩
theorem pk_40 : am_okP (am_on 3) (.putfield 38, 8, 3, 0) := ⟨by decide, am_okF1 (by decide) kw_123 ⟨by decide, rfl, rfl, rfl, rfl, rfl⟩ rfl⟩
theorem pk_41 : am_okP (am_on 3) (.putfield 41, 9, 3, 0) := ⟨by decide, am_okF1 (by decide) kw_125 ⟨by decide, rfl, rfl, rfl, rfl, rfl⟩ rfl⟩
theorem pk_42 : am_okP (am_on 3) (.putfield 44, 10, 3, 0) := ⟨by decide, am_okF1 (by decide) kw_128 ⟨by decide, rfl, rfl, rfl, rfl, rfl⟩ rfl⟩
theorem pk_43 : am_okP (am_on 3) (.putfield 47, 11, 3, 0) := ⟨by decide, am_okF1 (by decide) kw_130 ⟨by decide, rfl, rfl, rfl, rfl, rfl⟩ rfl⟩
theorem pk_44 : am_okP (am_on 3) (.putfield 50, 12, 3, 0) := ⟨by decide, am_okF1 (by decide) kw_132 ⟨by decide, rfl, rfl, rfl, rfl, rfl⟩ rfl⟩
theorem pk_45 : am_okP (am_on 3) (.putfield 53, 13, 3, 1) := ⟨by decide, am_okF1 (by decide) kw_134 ⟨by decide, rfl, rfl, rfl, rfl, rfl⟩ rfl⟩
theorem pk_46 : am_okP (am_on 3) (.putfield 58, 14, 3, 2) := ⟨by decide, am_okF1 (by decide) kw_136 ⟨by decide, rfl, rfl, rfl, rfl, rfl⟩ rfl⟩
theorem pk_47 : am_okP (am_on 3) (.getfield 58, 14, 3, 2) := Or.inr ⟨by decide, am_okF1 (by decide) kw_136 ⟨by decide, rfl, rfl, rfl, rfl, rfl⟩ rfl⟩
theorem pk_48 : am_okP (am_on 3) (.invokevirtual 62, 0, 1, 0) := Or.inr (Or.inr ⟨by decide, by decide, by decide, by decide +kernel, rfl, kw_578, kw_581, kw_579, fun t _ hs => by
    rcases am_s0 hs with rfl | rfl | rfl | rfl | rfl | rfl | rfl
    · exact ⟨1, rfl, by decide, by decide +kernel, kw_580, kw_579⟩
    · exact ⟨1, rfl, by decide, by decide +kernel, kw_582, kw_579⟩
    · exact ⟨1, rfl, by decide, by decide +kernel, kw_583, kw_579⟩
    · exact ⟨1, rfl, by decide, by decide +kernel, kw_584, kw_579⟩
    · exact ⟨1, rfl, by decide, by decide +kernel, kw_585, kw_579⟩
    · exact ⟨1, rfl, by decide, by decide +kernel, kw_586, kw_579⟩
    · exact ⟨1, rfl, by decide, by decide +kernel, kw_587, kw_579⟩⟩)
theorem pk_49 : am_okP (am_on 3) (.getfield 15, 1, 3, 0) := Or.inr ⟨by decide, am_okF1 (by decide) kw_100 ⟨by decide, rfl, rfl, rfl, rfl, rfl⟩ rfl⟩
theorem pk_50 : am_okP (am_on 3) (.getfield 22, 3, 3, 0) := Or.inr ⟨by decide, am_okF1 (by decide) kw_107 ⟨by decide, rfl, rfl, rfl, rfl, rfl⟩ rfl⟩
theorem pk_51 : am_okP (am_on 3) (.invokevirtual 68, 118, 1, 3) := Or.inl ⟨by decide, by decide, ⟨by decide, by decide +kernel, rfl, kw_591, kw_589, kp_13⟩⟩
theorem pk_52 : am_okP (am_on 3) (.getfield 38, 8, 3, 0) := Or.inr ⟨by decide, am_okF1 (by decide) kw_123 ⟨by decide, rfl, rfl, rfl, rfl, rfl⟩ rfl⟩
theorem pk_53 : am_okP (am_on 3) (.getfield 35, 7, 3, 0) := Or.inr ⟨by decide, am_okF1 (by decide) kw_116 ⟨by decide, rfl, rfl, rfl, rfl, rfl⟩ rfl⟩
theorem pk_54 : am_okP (am_on 3) (.invokevirtual 72, 120, 0, 3) := Or.inl ⟨by decide, by decide, ⟨by decide, by decide +kernel, rfl, kw_622, kw_620, kp_16⟩⟩
theorem pk_55 : am_okP (am_on 3) (.invokevirtual 75, 4, 1, 0) := Or.inr (Or.inr ⟨by decide, by decide, by decide, by decide +kernel, rfl, kw_624, kw_627, kw_625, fun t _ hs => by
    rcases am_s0 hs with rfl | rfl | rfl | rfl | rfl | rfl | rfl
    · exact ⟨5, rfl, by decide, by decide +kernel, kw_626, kw_625⟩
    · exact ⟨11, rfl, by decide, by decide +kernel, kw_628, kw_629⟩
    · exact ⟨14, rfl, by decide, by decide +kernel, kw_631, kw_632⟩
    · exact ⟨24, rfl, by decide, by decide +kernel, kw_635, kw_636⟩
    · exact ⟨5, rfl, by decide, by decide +kernel, kw_639, kw_625⟩
    · exact ⟨60, rfl, by decide, by decide +kernel, kw_640, kw_641⟩
    · exact ⟨64, rfl, by decide, by decide +kernel, kw_646, kw_647⟩⟩)
theorem pk_56 : am_okP (am_on 3) (.invokevirtual 79, 119, 0, 3) := Or.inl ⟨by decide, by decide, ⟨by decide, by decide +kernel, rfl, kw_653, kw_651, kp_17⟩⟩
theorem pk_57 : am_okP (am_on 3) (.getfield 44, 10, 3, 0) := Or.inr ⟨by decide, am_okF1 (by decide) kw_128 ⟨by decide, rfl, rfl, rfl, rfl, rfl⟩ rfl⟩
theorem pk_58 : am_okP (am_on 3) (.getfield 28, 5, 3, 0) := Or.inr ⟨by decide, am_okF1 (by decide) kw_112 ⟨by decide, rfl, rfl, rfl, rfl, rfl⟩ rfl⟩
theorem pk_59 : am_okP (am_on 3) (.getfield 31, 6, 3, 1) := Or.inr ⟨by decide, am_okF1 (by decide) kw_114 ⟨by decide, rfl, rfl, rfl, rfl, rfl⟩ rfl⟩
theorem pk_60 : am_okP (am_on 3) (.invokevirtual 82, 121, 2, 3) := Or.inl ⟨by decide, by decide, ⟨by decide, by decide +kernel, rfl, kw_595, kw_593, kp_14⟩⟩
theorem pk_61 : am_okP (am_on 3) (.invokevirtual 86, 3, 1, 0) := Or.inr (Or.inr ⟨by decide, by decide, by decide, by decide +kernel, rfl, kw_605, kw_608, kw_606, fun t _ hs => by
    rcases am_s0 hs with rfl | rfl | rfl | rfl | rfl | rfl | rfl
    · exact ⟨4, rfl, by decide, by decide +kernel, kw_607, kw_606⟩
    · exact ⟨4, rfl, by decide, by decide +kernel, kw_609, kw_606⟩
    · exact ⟨4, rfl, by decide, by decide +kernel, kw_610, kw_606⟩
    · exact ⟨23, rfl, by decide, by decide +kernel, kw_611, kw_612⟩
    · exact ⟨28, rfl, by decide, by decide +kernel, kw_614, kw_615⟩
    · exact ⟨28, rfl, by decide, by decide +kernel, kw_617, kw_615⟩
    · exact ⟨4, rfl, by decide, by decide +kernel, kw_618, kw_606⟩⟩)
theorem pk_62 : am_okP (am_on 3) (.getfield 41, 9, 3, 0) := Or.inr ⟨by decide, am_okF1 (by decide) kw_125 ⟨by decide, rfl, rfl, rfl, rfl, rfl⟩ rfl⟩
theorem pk_63 : am_okP (am_on 3) (.getfield 25, 4, 3, 0) := Or.inr ⟨by decide, am_okF1 (by decide) kw_109 ⟨by decide, rfl, rfl, rfl, rfl, rfl⟩ rfl⟩
theorem pk_64 : am_okP (am_on 3) (.getfield 47, 11, 3, 0) := Or.inr ⟨by decide, am_okF1 (by decide) kw_130 ⟨by decide, rfl, rfl, rfl, rfl, rfl⟩ rfl⟩
theorem pk_65 : am_okP (am_on 3) (.bipush 99999, 90, 1, 0) := Or.inr kw_655
theorem pk_66 : am_okP (am_on 3) (.invokestatic 91, 202, 2, 0) := Or.inr ⟨rfl, by decide, by decide +kernel, kw_657, Or.inl kw_656⟩
theorem pk_67 : am_okP (am_on 3) (.getfield 9, 0, 3, 2) := Or.inr ⟨by decide, am_okF1 (by decide) kw_98 ⟨by decide, rfl, rfl, rfl, rfl, rfl⟩ rfl⟩
theorem pk_68 : am_okP (am_on 3) (.invokevirtual 96, 134, 3, 6) := Or.inl ⟨by decide, by decide, ⟨by decide, by decide +kernel, rfl, kw_598, kw_597, kw_599⟩⟩
theorem pk_69 : am_okP (am_on 4) (.invokespecial 1, 10, 5, 0) := Or.inr ⟨rfl, Or.inl ⟨by decide, by decide +kernel, rfl, rfl, kw_248, Or.inl kw_317⟩⟩
theorem pk_70 : am_okP (am_on 4) (.getfield 7, 9, 3, 0) := Or.inr ⟨by decide, am_okF1 (by decide) kw_127 ⟨by decide, rfl, rfl, rfl, rfl, rfl⟩ rfl⟩
theorem pk_71 : am_okP (am_on 4) (.invokespecial 13, 11, 1, 0) := Or.inr ⟨rfl, Or.inr ⟨by decide, by decide +kernel, by decide, kw_629, "LargeBubble$Bold", kw_638, kw_1492, kw_324, Or.inl rfl⟩⟩
theorem pk_72 : am_okP (am_on 4) (.invokestatic 17, 9, 2, 0) := Or.inr ⟨rfl, by decide, by decide +kernel, kw_828, Or.inr ⟨"LargeBubble$Mad", kw_834, kw_835⟩⟩
theorem pk_73 : am_okP (am_on 4) (.invokespecial 23, 6, 2, 0) := Or.inr ⟨rfl, Or.inr ⟨by decide, by decide +kernel, by decide, kw_819, "LargeBubble$Bold", kw_836, kw_837, kw_324, Or.inr kw_285⟩⟩
theorem pk_74 : am_okP (am_on 4) (.invokespecial 27, 12, 2, 0) := Or.inr ⟨rfl, Or.inr ⟨by decide, by decide +kernel, by decide, kw_855, "LargeBubble$Bold", kw_864, kw_1494, kw_324, Or.inl rfl⟩⟩
theorem pk_75 : am_okP (am_on 5) (.invokespecial 1, 0, 5, 0) := Or.inr ⟨rfl, Or.inl ⟨by decide, by decide +kernel, rfl, rfl, kw_251, Or.inl kw_304⟩⟩
theorem pk_76 : am_okP (am_on 5) (.invokestatic 7, 9, 2, 0) := Or.inr ⟨rfl, by decide, by decide +kernel, kw_828, Or.inr ⟨"LargeBubble$Slow", kw_885, kw_886⟩⟩
theorem pk_77 : am_okP (am_on 5) (.invokespecial 13, 8, 2, 0) := Or.inr ⟨rfl, Or.inr ⟨by decide, by decide +kernel, by decide, kw_876, "LargeBubble$Blower", kw_887, kw_878, kw_311, Or.inl rfl⟩⟩
theorem pk_78 : am_okP (am_on 5) (.invokevirtual 17, 6, 2, 5) := Or.inr (Or.inr ⟨by decide, by decide, by decide, by decide +kernel, rfl, kw_888, kw_870, kw_851, fun t _ hs => by
    rcases am_s5 hs with rfl | rfl
    · exact ⟨7, rfl, by decide, by decide +kernel, kw_889, kw_851⟩
    · exact ⟨61, rfl, by decide, by decide +kernel, kw_890, kw_867⟩⟩)
theorem pk_79 : am_okP (am_on 6) (.invokespecial 1, 0, 0, 1) := Or.inl ⟨rfl, rfl, kw_406⟩
theorem pk_80 : am_okP (am_on 6) (.putfield 9, 0, 6, 2) := ⟨by decide, am_okF1 (by decide) kw_407 ⟨by decide, rfl, rfl, rfl, rfl, rfl⟩ rfl⟩
theorem pk_81 : am_okP (am_on 6) (.putfield 13, 1, 6, 2) := ⟨by decide, am_okF1 (by decide) kw_408 ⟨by decide, rfl, rfl, rfl, rfl, rfl⟩ rfl⟩
theorem pk_82 : am_okP (am_on 6) (.putfield 16, 2, 6, 2) := ⟨by decide, am_okF1 (by decide) kw_409 ⟨by decide, rfl, rfl, rfl, rfl, rfl⟩ rfl⟩
theorem pk_83 : am_okP (am_on 6) (.putfield 19, 3, 6, 0) := ⟨by decide, am_okF1 (by decide) kw_410 ⟨by decide, rfl, rfl, rfl, rfl, rfl⟩ rfl⟩
theorem pk_84 : am_okP (am_on 6) (.putfield 25, 4, 6, 2) := ⟨by decide, am_okF1 (by decide) kw_411 ⟨by decide, rfl, rfl, rfl, rfl, rfl⟩ rfl⟩
theorem pk_85 : am_okP (am_on 6) (.putfield 28, 5, 6, 2) := ⟨by decide, am_okF1 (by decide) kw_412 ⟨by decide, rfl, rfl, rfl, rfl, rfl⟩ rfl⟩
theorem pk_86 : am_okP (am_on 6) (.putfield 31, 6, 6, 2) := ⟨by decide, am_okF1 (by decide) kw_413 ⟨by decide, rfl, rfl, rfl, rfl, rfl⟩ rfl⟩
theorem pk_87 : am_okP (am_on 6) (.putfield 34, 7, 6, 0) := ⟨by decide, am_okF1 (by decide) kw_414 ⟨by decide, rfl, rfl, rfl, rfl, rfl⟩ rfl⟩
theorem pk_88 : am_okP (am_on 6) (.getfield 34, 7, 6, 0) := Or.inr ⟨by decide, am_okF1 (by decide) kw_414 ⟨by decide, rfl, rfl, rfl, rfl, rfl⟩ rfl⟩
theorem pk_89 : am_okP (am_on 6) (.getfield 25, 4, 6, 2) := Or.inr ⟨by decide, am_okF1 (by decide) kw_411 ⟨by decide, rfl, rfl, rfl, rfl, rfl⟩ rfl⟩
theorem pk_90 : am_okP (am_on 6) (.getfield 28, 5, 6, 2) := Or.inr ⟨by decide, am_okF1 (by decide) kw_412 ⟨by decide, rfl, rfl, rfl, rfl, rfl⟩ rfl⟩
theorem pk_91 : am_okP (am_on 6) (.getfield 31, 6, 6, 2) := Or.inr ⟨by decide, am_okF1 (by decide) kw_413 ⟨by decide, rfl, rfl, rfl, rfl, rfl⟩ rfl⟩
theorem pk_92 : am_okP (am_on 6) (.getfield 19, 3, 6, 0) := Or.inr ⟨by decide, am_okF1 (by decide) kw_410 ⟨by decide, rfl, rfl, rfl, rfl, rfl⟩ rfl⟩
theorem pk_93 : am_okP (am_on 6) (.getfield 9, 0, 6, 2) := Or.inr ⟨by decide, am_okF1 (by decide) kw_407 ⟨by decide, rfl, rfl, rfl, rfl, rfl⟩ rfl⟩
theorem pk_94 : am_okP (am_on 6) (.getfield 13, 1, 6, 2) := Or.inr ⟨by decide, am_okF1 (by decide) kw_408 ⟨by decide, rfl, rfl, rfl, rfl, rfl⟩ rfl⟩
theorem pk_95 : am_okP (am_on 6) (.getfield 16, 2, 6, 2) := Or.inr ⟨by decide, am_okF1 (by decide) kw_409 ⟨by decide, rfl, rfl, rfl, rfl, rfl⟩ rfl⟩
theorem pk_96 : am_okP (am_on 6) (.invokevirtual 37, 135, 3, 6) := Or.inl ⟨by decide, by decide, ⟨by decide, by decide +kernel, rfl, kw_603, kw_601, kp_15⟩⟩
theorem pk_97 : am_okP (am_on 7) (.invokespecial 3, 0, 0, 1) := Or.inl ⟨rfl, rfl, kw_33⟩
theorem pk_98 : am_okP (am_on 7) (.anewarray 9, 24, 0, 0) := Or.inl ⟨rfl, kw_34⟩
theorem pk_99 : am_okP (am_on 7) (.putfield 11, 0, 7, 2) := ⟨by decide, am_okF1 (by decide) kw_38 ⟨by decide, rfl, rfl, rfl, rfl, rfl⟩ rfl⟩
theorem pk_100 : am_okP (am_on 7) (.putfield 17, 1, 7, 0) := ⟨by decide, am_okF1 (by decide) kw_40 ⟨by decide, rfl, rfl, rfl, rfl, rfl⟩ rfl⟩
theorem pk_101 : am_okP (am_on 7) (.putfield 21, 2, 7, 2) := ⟨by decide, am_okF1 (by decide) kw_42 ⟨by decide, rfl, rfl, rfl, rfl, rfl⟩ rfl⟩
theorem pk_102 : am_okP (am_on 7) (.putfield 25, 3, 7, 0) := ⟨by decide, am_okF1 (by decide) kw_44 ⟨by decide, rfl, rfl, rfl, rfl, rfl⟩ rfl⟩
theorem pk_103 : am_okP (am_on 7) (.putfield 28, 4, 7, 0) := ⟨by decide, am_okF1 (by decide) kw_46 ⟨by decide, rfl, rfl, rfl, rfl, rfl⟩ rfl⟩
theorem pk_104 : am_okP (am_on 7) (.putfield 31, 5, 7, 2) := ⟨by decide, am_okF1 (by decide) kw_48 ⟨by decide, rfl, rfl, rfl, rfl, rfl⟩ rfl⟩
theorem pk_105 : am_okP (am_on 7) (.putfield 34, 6, 7, 2) := ⟨by decide, am_okF1 (by decide) kw_50 ⟨by decide, rfl, rfl, rfl, rfl, rfl⟩ rfl⟩
theorem pk_106 : am_okP (am_on 7) (.putfield 37, 7, 7, 2) := ⟨by decide, am_okF1 (by decide) kw_52 ⟨by decide, rfl, rfl, rfl, rfl, rfl⟩ rfl⟩
theorem pk_107 : am_okP (am_on 7) (.putfield 40, 8, 7, 0) := ⟨by decide, am_okF1 (by decide) kw_54 ⟨by decide, rfl, rfl, rfl, rfl, rfl⟩ rfl⟩
theorem pk_108 : am_okP (am_on 7) (.putfield 43, 9, 7, 2) := ⟨by decide, am_okF1 (by decide) kw_56 ⟨by decide, rfl, rfl, rfl, rfl, rfl⟩ rfl⟩
theorem pk_109 : am_okP (am_on 7) (.putfield 46, 10, 7, 2) := ⟨by decide, am_okF1 (by decide) kw_58 ⟨by decide, rfl, rfl, rfl, rfl, rfl⟩ rfl⟩
theorem pk_110 : am_okP (am_on 7) (.putfield 50, 11, 7, 0) := ⟨by decide, am_okF1 (by decide) kw_60 ⟨by decide, rfl, rfl, rfl, rfl, rfl⟩ rfl⟩
theorem pk_111 : am_okP (am_on 7) (.multianewarray 53 2, 26, 20, 0) := ⟨rfl, Or.inl ⟨rfl, rfl, kw_36⟩⟩
theorem pk_112 : am_okP (am_on 7) (.putfield 55, 12, 7, 2) := ⟨by decide, am_okF1 (by decide) kw_62 ⟨by decide, rfl, rfl, rfl, rfl, rfl⟩ rfl⟩
theorem pk_113 : am_okP (am_on 7) (.getfield 21, 2, 7, 2) := Or.inr ⟨by decide, am_okF1 (by decide) kw_42 ⟨by decide, rfl, rfl, rfl, rfl, rfl⟩ rfl⟩
theorem pk_114 : am_okP (am_on 7) (.invokestatic 58, 38, 3, 0) := Or.inr ⟨rfl, by decide, by decide +kernel, kw_554, Or.inl kw_553⟩
theorem pk_115 : am_okP (am_on 7) (.invokestatic 62, 200, 1, 0) := Or.inr ⟨rfl, by decide, by decide +kernel, kw_557, Or.inl kw_556⟩
theorem pk_116 : am_okP (am_on 7) (.invokestatic 68, 201, 2, 0) := Or.inr ⟨rfl, by decide, by decide +kernel, kw_560, Or.inl kw_559⟩
theorem pk_117 : am_okP (am_on 7) (.getfield 11, 0, 7, 2) := Or.inr ⟨by decide, am_okF1 (by decide) kw_38 ⟨by decide, rfl, rfl, rfl, rfl, rfl⟩ rfl⟩
theorem pk_118 : am_okP (am_on 7) (.getfield 17, 1, 7, 0) := Or.inr ⟨by decide, am_okF1 (by decide) kw_40 ⟨by decide, rfl, rfl, rfl, rfl, rfl⟩ rfl⟩
theorem pk_119 : am_okP (am_on 7) (.invokestatic 72, 0, 5, 1) := Or.inl ⟨rfl, kw_766⟩
theorem pk_120 : am_okP (am_on 7) (.getfield 25, 3, 7, 0) := Or.inr ⟨by decide, am_okF1 (by decide) kw_44 ⟨by decide, rfl, rfl, rfl, rfl, rfl⟩ rfl⟩
theorem pk_121 : am_okP (am_on 7) (.getfield 28, 4, 7, 0) := Or.inr ⟨by decide, am_okF1 (by decide) kw_46 ⟨by decide, rfl, rfl, rfl, rfl, rfl⟩ rfl⟩
theorem pk_122 : am_okP (am_on 7) (.getfield 31, 5, 7, 2) := Or.inr ⟨by decide, am_okF1 (by decide) kw_48 ⟨by decide, rfl, rfl, rfl, rfl, rfl⟩ rfl⟩
theorem pk_123 : am_okP (am_on 7) (.getfield 34, 6, 7, 2) := Or.inr ⟨by decide, am_okF1 (by decide) kw_50 ⟨by decide, rfl, rfl, rfl, rfl, rfl⟩ rfl⟩
theorem pk_124 : am_okP (am_on 7) (.getfield 37, 7, 7, 2) := Or.inr ⟨by decide, am_okF1 (by decide) kw_52 ⟨by decide, rfl, rfl, rfl, rfl, rfl⟩ rfl⟩
theorem pk_125 : am_okP (am_on 7) (.getfield 40, 8, 7, 0) := Or.inr ⟨by decide, am_okF1 (by decide) kw_54 ⟨by decide, rfl, rfl, rfl, rfl, rfl⟩ rfl⟩
theorem pk_126 : am_okP (am_on 7) (.getfield 43, 9, 7, 2) := Or.inr ⟨by decide, am_okF1 (by decide) kw_56 ⟨by decide, rfl, rfl, rfl, rfl, rfl⟩ rfl⟩
theorem pk_127 : am_okP (am_on 7) (.getfield 46, 10, 7, 2) := Or.inr ⟨by decide, am_okF1 (by decide) kw_58 ⟨by decide, rfl, rfl, rfl, rfl, rfl⟩ rfl⟩
theorem pk_128 : am_okP (am_on 7) (.getfield 50, 11, 7, 0) := Or.inr ⟨by decide, am_okF1 (by decide) kw_60 ⟨by decide, rfl, rfl, rfl, rfl, rfl⟩ rfl⟩
theorem pk_129 : am_okP (am_on 7) (.getfield 55, 12, 7, 2) := Or.inr ⟨by decide, am_okF1 (by decide) kw_62 ⟨by decide, rfl, rfl, rfl, rfl, rfl⟩ rfl⟩
theorem pk_130 : am_okP (am_on 7) (.invokevirtual 78, 1, 1, 0) := Or.inr (Or.inr ⟨by decide, by decide, by decide, by decide +kernel, rfl, kw_773, kw_776, kw_774, fun t _ hs => by
    rcases am_s0 hs with rfl | rfl | rfl | rfl | rfl | rfl | rfl
    · exact ⟨2, rfl, by decide, by decide +kernel, kw_775, kw_774⟩
    · exact ⟨2, rfl, by decide, by decide +kernel, kw_777, kw_774⟩
    · exact ⟨2, rfl, by decide, by decide +kernel, kw_778, kw_774⟩
    · exact ⟨2, rfl, by decide, by decide +kernel, kw_779, kw_774⟩
    · exact ⟨2, rfl, by decide, by decide +kernel, kw_780, kw_774⟩
    · exact ⟨58, rfl, by decide, by decide +kernel, kw_781, kw_782⟩
    · exact ⟨2, rfl, by decide, by decide +kernel, kw_788, kw_774⟩⟩)
theorem pk_131 : am_okP (am_on 7) (.invokevirtual 82, 2, 1, 0) := Or.inr (Or.inr ⟨by decide, by decide, by decide, by decide +kernel, rfl, kw_798, kw_801, kw_799, fun t _ hs => by
    rcases am_s0 hs with rfl | rfl | rfl | rfl | rfl | rfl | rfl
    · exact ⟨3, rfl, by decide, by decide +kernel, kw_800, kw_799⟩
    · exact ⟨3, rfl, by decide, by decide +kernel, kw_802, kw_799⟩
    · exact ⟨3, rfl, by decide, by decide +kernel, kw_803, kw_799⟩
    · exact ⟨3, rfl, by decide, by decide +kernel, kw_804, kw_799⟩
    · exact ⟨3, rfl, by decide, by decide +kernel, kw_805, kw_799⟩
    · exact ⟨59, rfl, by decide, by decide +kernel, kw_806, kw_807⟩
    · exact ⟨3, rfl, by decide, by decide +kernel, kw_812, kw_799⟩⟩)
theorem pk_132 : am_okP (am_on 8) (.invokespecial 1, 0, 0, 1) := Or.inl ⟨rfl, rfl, kw_173⟩
theorem pk_133 : am_okP (am_on 8) (.putfield 9, 0, 8, 2) := ⟨by decide, am_okF1 (by decide) kw_174 ⟨by decide, rfl, rfl, rfl, rfl, rfl⟩ rfl⟩
theorem pk_134 : am_okP (am_on 8) (.putfield 13, 1, 8, 0) := ⟨by decide, am_okF1 (by decide) kw_175 ⟨by decide, rfl, rfl, rfl, rfl, rfl⟩ rfl⟩
theorem pk_135 : am_okP (am_on 8) (.putfield 17, 2, 8, 0) := ⟨by decide, am_okF1 (by decide) kw_177 ⟨by decide, rfl, rfl, rfl, rfl, rfl⟩ rfl⟩
theorem pk_136 : am_okP (am_on 8) (.getfield 13, 1, 8, 0) := Or.inr ⟨by decide, am_okF1 (by decide) kw_175 ⟨by decide, rfl, rfl, rfl, rfl, rfl⟩ rfl⟩
theorem pk_137 : am_okP (am_on 8) (.invokevirtual 20, 143, 0, 8) := Or.inl ⟨by decide, by decide, ⟨by decide, by decide +kernel, rfl, kw_390, kw_397, kw_391⟩⟩
theorem pk_138 : am_okP (am_on 8) (.getfield 9, 0, 8, 2) := Or.inr ⟨by decide, am_okF1 (by decide) kw_174 ⟨by decide, rfl, rfl, rfl, rfl, rfl⟩ rfl⟩
theorem pk_139 : am_okP (am_on 8) (.invokevirtual 24, 131, 0, 6) := Or.inl ⟨by decide, by decide, ⟨by decide, by decide +kernel, rfl, kw_437, kw_436, kw_438⟩⟩
theorem pk_140 : am_okP (am_on 8) (.invokevirtual 29, 146, 1, 8) := Or.inl ⟨by decide, by decide, ⟨by decide, by decide +kernel, rfl, kw_442, kw_440, kp_1⟩⟩
theorem pk_141 : am_okP (am_on 8) (.getfield 17, 2, 8, 0) := Or.inr ⟨by decide, am_okF1 (by decide) kw_177 ⟨by decide, rfl, rfl, rfl, rfl, rfl⟩ rfl⟩
theorem pk_142 : am_okP (am_on 8) (.invokevirtual 33, 155, 1, 8) := Or.inl ⟨by decide, by decide, ⟨by decide, by decide +kernel, rfl, kw_507, kw_505, kp_5⟩⟩
theorem pk_143 : am_okP (am_on 8) (.invokevirtual 37, 147, 0, 8) := Or.inl ⟨by decide, by decide, ⟨by decide, by decide +kernel, rfl, kw_446, kw_444, kp_2⟩⟩
theorem pk_144 : am_okP (am_on 8) (.invokevirtual 41, 149, 0, 8) := Or.inl ⟨by decide, by decide, ⟨by decide, by decide +kernel, rfl, kw_513, kw_511, kp_6⟩⟩
theorem pk_145 : am_okP (am_on 8) (.invokevirtual 44, 150, 2, 8) := Or.inl ⟨by decide, by decide, ⟨by decide, by decide +kernel, rfl, kw_517, kw_515, kp_7⟩⟩
theorem pk_146 : am_okP (am_on 8) (.invokevirtual 48, 133, 2, 6) := Or.inl ⟨by decide, by decide, ⟨by decide, by decide +kernel, rfl, kw_542, kw_541, kw_543⟩⟩
theorem pk_147 : am_okP (am_on 8) (.invokevirtual 52, 156, 0, 8) := Or.inl ⟨by decide, by decide, ⟨by decide, by decide +kernel, rfl, kw_450, kw_448, kp_3⟩⟩
theorem pk_148 : am_okP (am_on 8) (.ldc 55, 0, 0, 0) := ⟨by decide, rfl, rfl⟩
theorem pk_149 : am_okP (am_on 8) (.invokevirtual 57, 148, 1, 8) := Or.inl ⟨by decide, by decide, ⟨by decide, by decide +kernel, rfl, kw_455, kw_453, kp_4⟩⟩
theorem pk_150 : am_okP (am_on 8) (.ldc 61, 1, 0, 0) := ⟨by decide, rfl, rfl⟩
theorem pk_151 : am_okP (am_on 8) (.ldc 63, 2, 0, 0) := ⟨by decide, rfl, rfl⟩
theorem pk_152 : am_okP (am_on 8) (.invokevirtual 65, 304, 0, 13) := Or.inr (Or.inl ⟨by decide, rfl, ⟨by decide, by decide +kernel, rfl, kw_458, kw_457, kw_459⟩⟩)
theorem pk_153 : am_okP (am_on 8) (.invokevirtual 69, 306, 1, 13) := Or.inr (Or.inl ⟨by decide, rfl, ⟨by decide, by decide +kernel, rfl, kw_468, kw_467, kw_469⟩⟩)
theorem pk_154 : am_okP (am_on 8) (.invokevirtual 73, 151, 2, 8) := Or.inl ⟨by decide, by decide, ⟨by decide, by decide +kernel, rfl, kw_521, kw_519, kp_8⟩⟩
theorem pk_155 : am_okP (am_on 8) (.invokevirtual 76, 132, 3, 6) := Or.inl ⟨by decide, by decide, ⟨by decide, by decide +kernel, rfl, kw_538, kw_537, kw_539⟩⟩
theorem pk_156 : am_okP (am_on 8) (.invokevirtual 80, 152, 2, 8) := Or.inl ⟨by decide, by decide, ⟨by decide, by decide +kernel, rfl, kw_525, kw_523, kp_9⟩⟩
theorem pk_157 : am_okP (am_on 8) (.invokevirtual 83, 153, 1, 8) := Or.inl ⟨by decide, by decide, ⟨by decide, by decide +kernel, rfl, kw_529, kw_527, kp_10⟩⟩
theorem pk_158 : am_okP (am_on 8) (.ldc 86, 3, 0, 0) := ⟨by decide, rfl, rfl⟩
theorem pk_159 : am_okP (am_on 8) (.invokevirtual 88, 154, 1, 8) := Or.inl ⟨by decide, by decide, ⟨by decide, by decide +kernel, rfl, kw_534, kw_532, kp_11⟩⟩
theorem pk_160 : am_okP (am_on 8) (.ldc 92, 4, 0, 0) := ⟨by decide, rfl, rfl⟩
theorem pk_161 : am_okP (am_on 9) (.invokespecial 3, 27, 5, 0) := Or.inr ⟨rfl, Or.inl ⟨by decide, by decide +kernel, rfl, rfl, kw_302, Or.inl kw_343⟩⟩
theorem pk_162 : am_okP (am_on 9) (.putfield 9, 6, 9, 2) := ⟨by decide, am_okF1 (by decide) kw_344 ⟨by decide, rfl, rfl, rfl, rfl, rfl⟩ rfl⟩
theorem pk_163 : am_okP (am_on 9) (.invokespecial 15, 2, 1, 0) := Or.inr ⟨rfl, Or.inr ⟨by decide, by decide +kernel, by decide, kw_774, "LargeBubble$Slow", kw_784, kw_785, kw_354, Or.inr kw_311⟩⟩
theorem pk_164 : am_okP (am_on 9) (.getfield 9, 6, 9, 2) := Or.inr ⟨by decide, am_okF1 (by decide) kw_344 ⟨by decide, rfl, rfl, rfl, rfl, rfl⟩ rfl⟩
theorem pk_165 : am_okP (am_on 9) (.invokestatic 19, 0, 5, 1) := Or.inl ⟨rfl, kw_787⟩
theorem pk_166 : am_okP (am_on 9) (.invokespecial 25, 3, 1, 0) := Or.inr ⟨rfl, Or.inr ⟨by decide, by decide +kernel, by decide, kw_799, "LargeBubble$Slow", kw_809, kw_810, kw_354, Or.inr kw_311⟩⟩
theorem pk_167 : am_okP (am_on 9) (.getfield 28, 7, 3, 0) := Or.inr ⟨by decide, am_okF1 (by decide) kw_120 ⟨by decide, rfl, rfl, rfl, rfl, rfl⟩ rfl⟩
theorem pk_168 : am_okP (am_on 9) (.getfield 34, 2, 3, 0) := Or.inr ⟨by decide, am_okF1 (by decide) kw_104 ⟨by decide, rfl, rfl, rfl, rfl, rfl⟩ rfl⟩
theorem pk_169 : am_okP (am_on 9) (.getfield 37, 4, 3, 0) := Or.inr ⟨by decide, am_okF1 (by decide) kw_110 ⟨by decide, rfl, rfl, rfl, rfl, rfl⟩ rfl⟩
theorem pk_170 : am_okP (am_on 9) (.invokestatic 40, 203, 2, 0) := Or.inr ⟨rfl, by decide, by decide +kernel, kw_644, Or.inl kw_643⟩
theorem pk_171 : am_okP (am_on 9) (.invokestatic 46, 9, 2, 0) := Or.inr ⟨rfl, by decide, by decide +kernel, kw_828, Or.inr ⟨"LargeBubble$Told", kw_843, kw_844⟩⟩
theorem pk_172 : am_okP (am_on 9) (.invokespecial 50, 7, 2, 0) := Or.inr ⟨rfl, Or.inr ⟨by decide, by decide +kernel, by decide, kw_851, "LargeBubble$Slow", kw_869, kw_870, kw_354, Or.inr kw_311⟩⟩
theorem pk_173 : am_okP (am_on 9) (.invokespecial 54, 6, 2, 0) := Or.inr ⟨rfl, Or.inr ⟨by decide, by decide +kernel, by decide, kw_819, "LargeBubble$Slow", kw_845, kw_846, kw_354, Or.inr kw_311⟩⟩
theorem pk_174 : am_okP (am_on 9) (.getfield 57, 2, 0, 0) := Or.inr ⟨by decide, am_okF0 kw_265 (fun t h => by rcases h with rfl | rfl | rfl | rfl | rfl | rfl | rfl <;> exact ⟨by decide, rfl, rfl, rfl, rfl, rfl⟩) (Or.inr kw_266)⟩
theorem pk_175 : am_okP (am_on 10) (.invokespecial 1, 13, 5, 0) := Or.inr ⟨rfl, Or.inl ⟨by decide, by decide +kernel, rfl, rfl, kw_289, Or.inl kw_330⟩⟩
theorem pk_176 : am_okP (am_on 10) (.invokespecial 7, 14, 1, 0) := Or.inr ⟨rfl, Or.inr ⟨by decide, by decide +kernel, by decide, kw_632, "LargeBubble$Careful", kw_649, kw_1493, kw_337, Or.inl rfl⟩⟩
theorem pk_177 : am_okP (am_on 10) (.getfield 11, 9, 3, 0) := Or.inr ⟨by decide, am_okF1 (by decide) kw_126 ⟨by decide, rfl, rfl, rfl, rfl, rfl⟩ rfl⟩
theorem pk_178 : am_okP (am_on 10) (.getfield 17, 7, 3, 0) := Or.inr ⟨by decide, am_okF1 (by decide) kw_119 ⟨by decide, rfl, rfl, rfl, rfl, rfl⟩ rfl⟩
theorem pk_179 : am_okP (am_on 10) (.invokestatic 20, 9, 2, 0) := Or.inr ⟨rfl, by decide, by decide +kernel, kw_828, Or.inr ⟨"LargeBubble$Wise", kw_895, kw_896⟩⟩
theorem pk_180 : am_okP (am_on 10) (.getfield 26, 1, 0, 0) := Or.inr ⟨by decide, am_okF0 kw_257 (fun t h => by rcases h with rfl | rfl | rfl | rfl | rfl | rfl | rfl <;> exact ⟨by decide, rfl, rfl, rfl, rfl, rfl⟩) (Or.inr kw_258)⟩
theorem pk_181 : am_okP (am_on 10) (.invokespecial 29, 8, 2, 0) := Or.inr ⟨rfl, Or.inr ⟨by decide, by decide +kernel, by decide, kw_876, "LargeBubble$Careful", kw_897, kw_898, kw_337, Or.inr kw_298⟩⟩
theorem pk_182 : am_okP (am_on 11) (.invokespecial 3, 0, 0, 1) := Or.inl ⟨rfl, rfl, kw_25⟩
theorem pk_183 : am_okP (am_on 11) (.new 9, 7, 0, 0) := ⟨by decide, kw_28, kw_29, kw_2⟩
theorem pk_184 : am_okP (am_on 11) (.invokespecial 11, 36, 0, 0) := Or.inr ⟨rfl, Or.inl ⟨by decide, by decide +kernel, rfl, rfl, kw_31, Or.inr ⟨rfl, List.mem_of_getElem? (i := 0) rfl⟩⟩⟩
theorem pk_185 : am_okP (am_on 11) (.putfield 12, 0, 11, 2) := ⟨by decide, am_okF1 (by decide) kw_191 ⟨by decide, rfl, rfl, rfl, rfl, rfl⟩ rfl⟩
theorem pk_186 : am_okP (am_on 11) (.putfield 18, 1, 11, 2) := ⟨by decide, am_okF1 (by decide) kw_192 ⟨by decide, rfl, rfl, rfl, rfl, rfl⟩ rfl⟩
theorem pk_187 : am_okP (am_on 11) (.new 21, 3, 0, 0) := ⟨by decide, kw_92, kw_93, kw_3⟩
theorem pk_188 : am_okP (am_on 11) (.invokespecial 23, 16, 0, 0) := Or.inr ⟨rfl, Or.inl ⟨by decide, by decide +kernel, rfl, rfl, kw_95, Or.inr ⟨rfl, List.mem_of_getElem? (i := 1) rfl⟩⟩⟩
theorem pk_189 : am_okP (am_on 11) (.putfield 24, 2, 11, 2) := ⟨by decide, am_okF1 (by decide) kw_193 ⟨by decide, rfl, rfl, rfl, rfl, rfl⟩ rfl⟩
theorem pk_190 : am_okP (am_on 11) (.new 28, 8, 0, 0) := ⟨by decide, kw_168, kw_169, kw_4⟩
theorem pk_191 : am_okP (am_on 11) (.invokespecial 30, 42, 0, 0) := Or.inr ⟨rfl, Or.inl ⟨by decide, by decide +kernel, rfl, rfl, kw_171, Or.inr ⟨rfl, List.mem_of_getElem? (i := 2) rfl⟩⟩⟩
theorem pk_192 : am_okP (am_on 11) (.putfield 31, 3, 11, 2) := ⟨by decide, am_okF1 (by decide) kw_194 ⟨by decide, rfl, rfl, rfl, rfl, rfl⟩ rfl⟩
theorem pk_193 : am_okP (am_on 11) (.anewarray 35, 25, 0, 0) := Or.inr ⟨rfl, kw_187⟩
theorem pk_194 : am_okP (am_on 11) (.putfield 37, 4, 11, 2) := ⟨by decide, am_okF1 (by decide) kw_195 ⟨by decide, rfl, rfl, rfl, rfl, rfl⟩ rfl⟩
theorem pk_195 : am_okP (am_on 11) (.putfield 41, 5, 11, 0) := ⟨by decide, am_okF1 (by decide) kw_196 ⟨by decide, rfl, rfl, rfl, rfl, rfl⟩ rfl⟩
theorem pk_196 : am_okP (am_on 11) (.putfield 45, 6, 11, 2) := ⟨by decide, am_okF1 (by decide) kw_197 ⟨by decide, rfl, rfl, rfl, rfl, rfl⟩ rfl⟩
theorem pk_197 : am_okP (am_on 11) (.putfield 49, 7, 11, 2) := ⟨by decide, am_okF1 (by decide) kw_198 ⟨by decide, rfl, rfl, rfl, rfl, rfl⟩ rfl⟩
theorem pk_198 : am_okP (am_on 11) (.putfield 53, 8, 11, 0) := ⟨by decide, am_okF1 (by decide) kw_199 ⟨by decide, rfl, rfl, rfl, rfl, rfl⟩ rfl⟩
theorem pk_199 : am_okP (am_on 11) (.putfield 56, 9, 11, 0) := ⟨by decide, am_okF1 (by decide) kw_200 ⟨by decide, rfl, rfl, rfl, rfl, rfl⟩ rfl⟩
theorem pk_200 : am_okP (am_on 11) (.putfield 59, 10, 11, 2) := ⟨by decide, am_okF1 (by decide) kw_201 ⟨by decide, rfl, rfl, rfl, rfl, rfl⟩ rfl⟩
theorem pk_201 : am_okP (am_on 11) (.putfield 62, 11, 11, 2) := ⟨by decide, am_okF1 (by decide) kw_202 ⟨by decide, rfl, rfl, rfl, rfl, rfl⟩ rfl⟩
theorem pk_202 : am_okP (am_on 11) (.putfield 65, 12, 11, 2) := ⟨by decide, am_okF1 (by decide) kw_203 ⟨by decide, rfl, rfl, rfl, rfl, rfl⟩ rfl⟩
theorem pk_203 : am_okP (am_on 11) (.multianewarray 68 2, 27, 21, 0) := ⟨rfl, Or.inr ⟨rfl, rfl, kw_189⟩⟩
theorem pk_204 : am_okP (am_on 11) (.putfield 70, 13, 11, 2) := ⟨by decide, am_okF1 (by decide) kw_204 ⟨by decide, rfl, rfl, rfl, rfl, rfl⟩ rfl⟩
theorem pk_205 : am_okP (am_on 11) (.invokestatic 73, 103, 3, 0) := Or.inr ⟨rfl, by decide, by decide +kernel, kw_240, Or.inl kw_239⟩
theorem pk_206 : am_okP (am_on 11) (.getfield 12, 0, 11, 2) := Or.inr ⟨by decide, am_okF1 (by decide) kw_191 ⟨by decide, rfl, rfl, rfl, rfl, rfl⟩ rfl⟩
theorem pk_207 : am_okP (am_on 11) (.getfield 77, 1, 7, 0) := Or.inr ⟨by decide, am_okF1 (by decide) kw_41 ⟨by decide, rfl, rfl, rfl, rfl, rfl⟩ rfl⟩
theorem pk_208 : am_okP (am_on 11) (.getfield 80, 0, 7, 2) := Or.inr ⟨by decide, am_okF1 (by decide) kw_39 ⟨by decide, rfl, rfl, rfl, rfl, rfl⟩ rfl⟩
theorem pk_209 : am_okP (am_on 11) (.invokestatic 84, 105, 5, 0) := Or.inr ⟨rfl, by decide, by decide +kernel, kw_243, Or.inl kw_242⟩
theorem pk_210 : am_okP (am_on 11) (.putfield 77, 1, 7, 0) := ⟨by decide, am_okF1 (by decide) kw_41 ⟨by decide, rfl, rfl, rfl, rfl, rfl⟩ rfl⟩
theorem pk_211 : am_okP (am_on 11) (.invokevirtual 88, 204, 1, 11) := Or.inl ⟨by decide, by decide, ⟨by decide, by decide +kernel, rfl, kw_371, kw_369, kp_0⟩⟩
theorem pk_212 : am_okP (am_on 11) (.getfield 92, 0, 0, 0) := Or.inr ⟨by decide, am_okF0 kw_255 (fun t h => by rcases h with rfl | rfl | rfl | rfl | rfl | rfl | rfl <;> exact ⟨by decide, rfl, rfl, rfl, rfl, rfl⟩) (Or.inl rfl)⟩
theorem pk_213 : am_okP (am_on 11) (.getfield 97, 2, 0, 0) := Or.inr ⟨by decide, am_okF0 kw_264 (fun t h => by rcases h with rfl | rfl | rfl | rfl | rfl | rfl | rfl <;> exact ⟨by decide, rfl, rfl, rfl, rfl, rfl⟩) (Or.inl rfl)⟩
theorem pk_214 : am_okP (am_on 11) (.getfield 100, 3, 0, 0) := Or.inr ⟨by decide, am_okF0 kw_268 (fun t h => by rcases h with rfl | rfl | rfl | rfl | rfl | rfl | rfl <;> exact ⟨by decide, rfl, rfl, rfl, rfl, rfl⟩) (Or.inl rfl)⟩
theorem pk_215 : am_okP (am_on 11) (.getfield 103, 4, 0, 0) := Or.inr ⟨by decide, am_okF0 kw_270 (fun t h => by rcases h with rfl | rfl | rfl | rfl | rfl | rfl | rfl <;> exact ⟨by decide, rfl, rfl, rfl, rfl, rfl⟩) (Or.inl rfl)⟩
theorem pk_216 : am_okP (am_on 11) (.getfield 106, 5, 0, 0) := Or.inr ⟨by decide, am_okF0 kw_272 (fun t h => by rcases h with rfl | rfl | rfl | rfl | rfl | rfl | rfl <;> exact ⟨by decide, rfl, rfl, rfl, rfl, rfl⟩) (Or.inl rfl)⟩
theorem pk_217 : am_okP (am_on 11) (.putfield 100, 3, 0, 0) := ⟨by decide, am_okF0 kw_268 (fun t h => by rcases h with rfl | rfl | rfl | rfl | rfl | rfl | rfl <;> exact ⟨by decide, rfl, rfl, rfl, rfl, rfl⟩) (Or.inl rfl)⟩
theorem pk_218 : am_okP (am_on 11) (.putfield 103, 4, 0, 0) := ⟨by decide, am_okF0 kw_270 (fun t h => by rcases h with rfl | rfl | rfl | rfl | rfl | rfl | rfl <;> exact ⟨by decide, rfl, rfl, rfl, rfl, rfl⟩) (Or.inl rfl)⟩
theorem pk_219 : am_okP (am_on 11) (.getfield 109, 2, 7, 2) := Or.inr ⟨by decide, am_okF1 (by decide) kw_43 ⟨by decide, rfl, rfl, rfl, rfl, rfl⟩ rfl⟩
theorem pk_220 : am_okP (am_on 11) (.instanceof 112, 9, 0, 0) := ⟨by decide, kw_338⟩
theorem pk_221 : am_okP (am_on 11) (.checkcast 112, 9, 0, 0) := ⟨rfl, kw_338⟩
theorem pk_222 : am_okP (am_on 11) (.getfield 114, 6, 9, 2) := Or.inr ⟨by decide, am_okF1 (by decide) kw_345 ⟨by decide, rfl, rfl, rfl, rfl, rfl⟩ rfl⟩
theorem pk_223 : am_okP (am_on 11) (.getfield 31, 3, 11, 2) := Or.inr ⟨by decide, am_okF1 (by decide) kw_194 ⟨by decide, rfl, rfl, rfl, rfl, rfl⟩ rfl⟩
theorem pk_224 : am_okP (am_on 11) (.invokevirtual 117, 143, 0, 8) := Or.inl ⟨by decide, by decide, ⟨by decide, by decide +kernel, rfl, kw_390, kw_389, kw_391⟩⟩
theorem pk_225 : am_okP (am_on 11) (.invokevirtual 121, 144, 1, 8) := Or.inl ⟨by decide, by decide, ⟨by decide, by decide +kernel, rfl, kw_394, kw_393, kw_395⟩⟩
theorem pk_226 : am_okP (am_on 11) (.getfield 125, 1, 8, 0) := Or.inr ⟨by decide, am_okF1 (by decide) kw_176 ⟨by decide, rfl, rfl, rfl, rfl, rfl⟩ rfl⟩
theorem pk_227 : am_okP (am_on 11) (.getfield 41, 5, 11, 0) := Or.inr ⟨by decide, am_okF1 (by decide) kw_196 ⟨by decide, rfl, rfl, rfl, rfl, rfl⟩ rfl⟩
theorem pk_228 : am_okP (am_on 11) (.getfield 45, 6, 11, 2) := Or.inr ⟨by decide, am_okF1 (by decide) kw_197 ⟨by decide, rfl, rfl, rfl, rfl, rfl⟩ rfl⟩
theorem pk_229 : am_okP (am_on 11) (.new 35, 6, 0, 0) := ⟨by decide, kw_187, kw_402, kw_13⟩
theorem pk_230 : am_okP (am_on 11) (.invokespecial 128, 30, 0, 0) := Or.inr ⟨rfl, Or.inl ⟨by decide, by decide +kernel, rfl, rfl, kw_404, Or.inr ⟨rfl, List.mem_of_getElem? (i := 3) rfl⟩⟩⟩
theorem pk_231 : am_okP (am_on 11) (.invokevirtual 129, 145, 1, 8) := Or.inl ⟨by decide, by decide, ⟨by decide, by decide +kernel, rfl, kw_433, kw_432, kw_434⟩⟩
theorem pk_232 : am_okP (am_on 11) (.putfield 125, 1, 8, 0) := ⟨by decide, am_okF1 (by decide) kw_176 ⟨by decide, rfl, rfl, rfl, rfl, rfl⟩ rfl⟩
theorem pk_233 : am_okP (am_on 11) (.getfield 133, 2, 8, 0) := Or.inr ⟨by decide, am_okF1 (by decide) kw_178 ⟨by decide, rfl, rfl, rfl, rfl, rfl⟩ rfl⟩
theorem pk_234 : am_okP (am_on 11) (.getfield 37, 4, 11, 2) := Or.inr ⟨by decide, am_okF1 (by decide) kw_195 ⟨by decide, rfl, rfl, rfl, rfl, rfl⟩ rfl⟩
theorem pk_235 : am_okP (am_on 11) (.putfield 136, 4, 7, 0) := ⟨by decide, am_okF1 (by decide) kw_47 ⟨by decide, rfl, rfl, rfl, rfl, rfl⟩ rfl⟩
theorem pk_236 : am_okP (am_on 11) (.getfield 136, 4, 7, 0) := Or.inr ⟨by decide, am_okF1 (by decide) kw_47 ⟨by decide, rfl, rfl, rfl, rfl, rfl⟩ rfl⟩
theorem pk_237 : am_okP (am_on 11) (.invokevirtual 139, 137, 0, 7) := Or.inl ⟨by decide, by decide, ⟨by decide, by decide +kernel, rfl, kw_550, kw_549, kw_551⟩⟩
theorem pk_238 : am_okP (am_on 11) (.getfield 143, 3, 7, 0) := Or.inr ⟨by decide, am_okF1 (by decide) kw_45 ⟨by decide, rfl, rfl, rfl, rfl, rfl⟩ rfl⟩
theorem pk_239 : am_okP (am_on 11) (.putfield 143, 3, 7, 0) := ⟨by decide, am_okF1 (by decide) kw_45 ⟨by decide, rfl, rfl, rfl, rfl, rfl⟩ rfl⟩
theorem pk_240 : am_okP (am_on 11) (.invokevirtual 146, 207, 1, 11) := Or.inl ⟨by decide, by decide, ⟨by decide, by decide +kernel, rfl, kw_572, kw_570, kp_12⟩⟩
theorem pk_241 : am_okP (am_on 11) (.getfield 24, 2, 11, 2) := Or.inr ⟨by decide, am_okF1 (by decide) kw_193 ⟨by decide, rfl, rfl, rfl, rfl, rfl⟩ rfl⟩
theorem pk_242 : am_okP (am_on 11) (.invokevirtual 150, 117, 1, 3) := Or.inl ⟨by decide, by decide, ⟨by decide, by decide +kernel, rfl, kw_575, kw_574, kw_576⟩⟩
theorem pk_243 : am_okP (am_on 11) (.getfield 153, 4, 3, 0) := Or.inr ⟨by decide, am_okF1 (by decide) kw_111 ⟨by decide, rfl, rfl, rfl, rfl, rfl⟩ rfl⟩
theorem pk_244 : am_okP (am_on 11) (.getfield 154, 12, 3, 0) := Or.inr ⟨by decide, am_okF1 (by decide) kw_133 ⟨by decide, rfl, rfl, rfl, rfl, rfl⟩ rfl⟩
theorem pk_245 : am_okP (am_on 11) (.bipush 999999, 157, 1, 0) := Or.inr kw_659
theorem pk_246 : am_okP (am_on 11) (.invokestatic 158, 202, 2, 0) := Or.inr ⟨rfl, by decide, by decide +kernel, kw_657, Or.inl kw_660⟩
theorem pk_247 : am_okP (am_on 11) (.putfield 106, 5, 0, 0) := ⟨by decide, am_okF0 kw_272 (fun t h => by rcases h with rfl | rfl | rfl | rfl | rfl | rfl | rfl <;> exact ⟨by decide, rfl, rfl, rfl, rfl, rfl⟩) (Or.inl rfl)⟩
theorem pk_248 : am_okP (am_on 11) (.getfield 164, 7, 3, 0) := Or.inr ⟨by decide, am_okF1 (by decide) kw_122 ⟨by decide, rfl, rfl, rfl, rfl, rfl⟩ rfl⟩
theorem pk_249 : am_okP (am_on 11) (.getfield 167, 11, 3, 0) := Or.inr ⟨by decide, am_okF1 (by decide) kw_131 ⟨by decide, rfl, rfl, rfl, rfl, rfl⟩ rfl⟩
theorem pk_250 : am_okP (am_on 11) (.getfield 170, 13, 3, 1) := Or.inr ⟨by decide, am_okF1 (by decide) kw_135 ⟨by decide, rfl, rfl, rfl, rfl, rfl⟩ rfl⟩
theorem pk_251 : am_okP (am_on 11) (.getfield 174, 10, 3, 0) := Or.inr ⟨by decide, am_okF1 (by decide) kw_129 ⟨by decide, rfl, rfl, rfl, rfl, rfl⟩ rfl⟩
theorem pk_252 : am_okP (am_on 11) (.invokevirtual 177, 209, 5, 11) := Or.inl ⟨by decide, by decide, ⟨by decide, by decide +kernel, rfl, kw_671, kw_669, kp_18⟩⟩
theorem pk_253 : am_okP (am_on 11) (.invokevirtual 181, 211, 1, 11) := Or.inl ⟨by decide, by decide, ⟨by decide, by decide +kernel, rfl, kw_696, kw_694, kp_20⟩⟩
theorem pk_254 : am_okP (am_on 11) (.getfield 53, 8, 11, 0) := Or.inr ⟨by decide, am_okF1 (by decide) kw_199 ⟨by decide, rfl, rfl, rfl, rfl, rfl⟩ rfl⟩
theorem pk_255 : am_okP (am_on 11) (.getfield 56, 9, 11, 0) := Or.inr ⟨by decide, am_okF1 (by decide) kw_200 ⟨by decide, rfl, rfl, rfl, rfl, rfl⟩ rfl⟩
theorem pk_256 : am_okP (am_on 11) (.getfield 49, 7, 11, 2) := Or.inr ⟨by decide, am_okF1 (by decide) kw_198 ⟨by decide, rfl, rfl, rfl, rfl, rfl⟩ rfl⟩
theorem pk_257 : am_okP (am_on 11) (.invokevirtual 184, 208, 2, 11) := Or.inl ⟨by decide, by decide, ⟨by decide, by decide +kernel, rfl, kw_708, kw_706, kp_21⟩⟩
theorem pk_258 : am_okP (am_on 11) (.putfield 188, 8, 7, 0) := ⟨by decide, am_okF1 (by decide) kw_55 ⟨by decide, rfl, rfl, rfl, rfl, rfl⟩ rfl⟩
theorem pk_259 : am_okP (am_on 11) (.getfield 188, 8, 7, 0) := Or.inr ⟨by decide, am_okF1 (by decide) kw_55 ⟨by decide, rfl, rfl, rfl, rfl, rfl⟩ rfl⟩
theorem pk_260 : am_okP (am_on 11) (.getfield 191, 5, 7, 2) := Or.inr ⟨by decide, am_okF1 (by decide) kw_49 ⟨by decide, rfl, rfl, rfl, rfl, rfl⟩ rfl⟩
theorem pk_261 : am_okP (am_on 11) (.getfield 194, 6, 7, 2) := Or.inr ⟨by decide, am_okF1 (by decide) kw_51 ⟨by decide, rfl, rfl, rfl, rfl, rfl⟩ rfl⟩
theorem pk_262 : am_okP (am_on 11) (.getfield 197, 7, 7, 2) := Or.inr ⟨by decide, am_okF1 (by decide) kw_53 ⟨by decide, rfl, rfl, rfl, rfl, rfl⟩ rfl⟩
theorem pk_263 : am_okP (am_on 11) (.invokevirtual 200, 212, 1, 11) := Or.inl ⟨by decide, by decide, ⟨by decide, by decide +kernel, rfl, kw_720, kw_718, kp_22⟩⟩
theorem pk_264 : am_okP (am_on 11) (.bipush (-1000001), 204, 1, 0) := Or.inr kw_726
theorem pk_265 : am_okP (am_on 11) (.putfield 205, 6, 3, 1) := ⟨by decide, am_okF1 (by decide) kw_115 ⟨by decide, rfl, rfl, rfl, rfl, rfl⟩ rfl⟩
theorem pk_266 : am_okP (am_on 11) (.sipush (-9223372036854775808), 208, 1, 0) := Or.inr kw_731
theorem pk_267 : am_okP (am_on 11) (.putfield 210, 5, 3, 0) := ⟨by decide, am_okF1 (by decide) kw_113 ⟨by decide, rfl, rfl, rfl, rfl, rfl⟩ rfl⟩
theorem pk_268 : am_okP (am_on 11) (.invokestatic 213, 113, 3, 0) := Or.inr ⟨rfl, by decide, by decide +kernel, kw_733, Or.inl kw_732⟩
theorem pk_269 : am_okP (am_on 11) (.putfield 217, 11, 7, 0) := ⟨by decide, am_okF1 (by decide) kw_61 ⟨by decide, rfl, rfl, rfl, rfl, rfl⟩ rfl⟩
theorem pk_270 : am_okP (am_on 11) (.getfield 217, 11, 7, 0) := Or.inr ⟨by decide, am_okF1 (by decide) kw_61 ⟨by decide, rfl, rfl, rfl, rfl, rfl⟩ rfl⟩
theorem pk_271 : am_okP (am_on 11) (.getfield 220, 9, 7, 2) := Or.inr ⟨by decide, am_okF1 (by decide) kw_57 ⟨by decide, rfl, rfl, rfl, rfl, rfl⟩ rfl⟩
theorem pk_272 : am_okP (am_on 11) (.getfield 223, 10, 7, 2) := Or.inr ⟨by decide, am_okF1 (by decide) kw_59 ⟨by decide, rfl, rfl, rfl, rfl, rfl⟩ rfl⟩
theorem pk_273 : am_okP (am_on 11) (.putfield 153, 4, 3, 0) := ⟨by decide, am_okF1 (by decide) kw_111 ⟨by decide, rfl, rfl, rfl, rfl, rfl⟩ rfl⟩
theorem pk_274 : am_okP (am_on 11) (.invokestatic 227, 114, 1, 0) := Or.inr ⟨rfl, by decide, by decide +kernel, kw_752, Or.inl kw_751⟩
theorem pk_275 : am_okP (am_on 11) (.invokevirtual 230, 215, 1, 11) := Or.inl ⟨by decide, by decide, ⟨by decide, by decide +kernel, rfl, kw_756, kw_754, kp_23⟩⟩
theorem pk_276 : am_okP (am_on 11) (.getfield 62, 11, 11, 2) := Or.inr ⟨by decide, am_okF1 (by decide) kw_202 ⟨by decide, rfl, rfl, rfl, rfl, rfl⟩ rfl⟩
theorem pk_277 : am_okP (am_on 11) (.getfield 65, 12, 11, 2) := Or.inr ⟨by decide, am_okF1 (by decide) kw_203 ⟨by decide, rfl, rfl, rfl, rfl, rfl⟩ rfl⟩
theorem pk_278 : am_okP (am_on 11) (.getfield 70, 13, 11, 2) := Or.inr ⟨by decide, am_okF1 (by decide) kw_204 ⟨by decide, rfl, rfl, rfl, rfl, rfl⟩ rfl⟩
theorem pk_279 : am_okP (am_on 11) (.getfield 18, 1, 11, 2) := Or.inr ⟨by decide, am_okF1 (by decide) kw_192 ⟨by decide, rfl, rfl, rfl, rfl, rfl⟩ rfl⟩
theorem pk_280 : am_okP (am_on 11) (.invokevirtual 233, 139, 1, 7) := Or.inl ⟨by decide, by decide, ⟨by decide, by decide +kernel, rfl, kw_763, kw_762, kw_764⟩⟩
theorem pk_281 : am_okP (am_on 11) (.invokevirtual 237, 140, 0, 7) := Or.inl ⟨by decide, by decide, ⟨by decide, by decide +kernel, rfl, kw_770, kw_769, kw_771⟩⟩
theorem pk_282 : am_okP (am_on 11) (.invokevirtual 240, 141, 0, 7) := Or.inl ⟨by decide, by decide, ⟨by decide, by decide +kernel, rfl, kw_795, kw_794, kw_796⟩⟩
theorem pk_283 : am_okP (am_on 11) (.getfield 59, 10, 11, 2) := Or.inr ⟨by decide, am_okF1 (by decide) kw_201 ⟨by decide, rfl, rfl, rfl, rfl, rfl⟩ rfl⟩
theorem pk_284 : am_okP (am_on 11) (.invokevirtual 243, 5, 2, 0) := Or.inr (Or.inr ⟨by decide, by decide, by decide, by decide +kernel, rfl, kw_818, kw_821, kw_819, fun t _ hs => by
    rcases am_s0 hs with rfl | rfl | rfl | rfl | rfl | rfl | rfl
    · exact ⟨6, rfl, by decide, by decide +kernel, kw_820, kw_819⟩
    · exact ⟨6, rfl, by decide, by decide +kernel, kw_822, kw_819⟩
    · exact ⟨15, rfl, by decide, by decide +kernel, kw_823, kw_824⟩
    · exact ⟨25, rfl, by decide, by decide +kernel, kw_831, kw_832⟩
    · exact ⟨6, rfl, by decide, by decide +kernel, kw_839, kw_819⟩
    · exact ⟨62, rfl, by decide, by decide +kernel, kw_840, kw_841⟩
    · exact ⟨15, rfl, by decide, by decide +kernel, kw_847, kw_824⟩⟩)
theorem pk_285 : am_okP (am_on 11) (.invokevirtual 247, 6, 2, 0) := Or.inr (Or.inr ⟨by decide, by decide, by decide, by decide +kernel, rfl, kw_850, kw_853, kw_851, fun t _ hs => by
    rcases am_s0 hs with rfl | rfl | rfl | rfl | rfl | rfl | rfl
    · exact ⟨7, rfl, by decide, by decide +kernel, kw_852, kw_851⟩
    · exact ⟨12, rfl, by decide, by decide +kernel, kw_854, kw_855⟩
    · exact ⟨7, rfl, by decide, by decide +kernel, kw_860, kw_851⟩
    · exact ⟨26, rfl, by decide, by decide +kernel, kw_861, kw_862⟩
    · exact ⟨7, rfl, by decide, by decide +kernel, kw_865, kw_851⟩
    · exact ⟨61, rfl, by decide, by decide +kernel, kw_866, kw_867⟩
    · exact ⟨7, rfl, by decide, by decide +kernel, kw_872, kw_851⟩⟩)
theorem pk_286 : am_okP (am_on 11) (.invokevirtual 250, 7, 2, 0) := Or.inr (Or.inr ⟨by decide, by decide, by decide, by decide +kernel, rfl, kw_875, kw_878, kw_876, fun t _ hs => by
    rcases am_s0 hs with rfl | rfl | rfl | rfl | rfl | rfl | rfl
    · exact ⟨8, rfl, by decide, by decide +kernel, kw_877, kw_876⟩
    · exact ⟨8, rfl, by decide, by decide +kernel, kw_879, kw_876⟩
    · exact ⟨8, rfl, by decide, by decide +kernel, kw_880, kw_876⟩
    · exact ⟨8, rfl, by decide, by decide +kernel, kw_881, kw_876⟩
    · exact ⟨29, rfl, by decide, by decide +kernel, kw_882, kw_883⟩
    · exact ⟨29, rfl, by decide, by decide +kernel, kw_891, kw_883⟩
    · exact ⟨65, rfl, by decide, by decide +kernel, kw_892, kw_893⟩⟩)
theorem pk_287 : am_okP (am_on 11) (.invokestatic 253, 106, 2, 0) := Or.inr ⟨rfl, by decide, by decide +kernel, kw_911, Or.inl kw_910⟩
theorem pk_288 : am_okP (am_on 11) (.invokestatic 257, 117, 2, 0) := Or.inr ⟨rfl, by decide, by decide +kernel, kw_926, Or.inl kw_925⟩
theorem pk_289 : am_okP (am_on 11) (.invokevirtual 261, 216, 3, 11) := Or.inl ⟨by decide, by decide, ⟨by decide, by decide +kernel, rfl, kw_938, kw_936, kp_24⟩⟩
theorem pk_290 : am_okP (am_on 11) (.invokestatic 264, 0, 5, 1) := Or.inl ⟨rfl, kw_940⟩
theorem pk_291 : am_okP (am_on 11) (.new 270, 1, 0, 0) := ⟨by decide, kw_245, kw_246, kw_7⟩
theorem pk_292 : am_okP (am_on 11) (.invokespecial 272, 10, 5, 0) := Or.inr ⟨rfl, Or.inl ⟨by decide, by decide +kernel, rfl, rfl, kw_248, Or.inl kw_247⟩⟩
theorem pk_293 : am_okP (am_on 11) (.new 275, 2, 0, 0) := ⟨by decide, kw_286, kw_287, kw_8⟩
theorem pk_294 : am_okP (am_on 11) (.invokespecial 277, 13, 5, 0) := Or.inr ⟨rfl, Or.inl ⟨by decide, by decide +kernel, rfl, rfl, kw_289, Or.inl kw_288⟩⟩
theorem pk_295 : am_okP (am_on 11) (.new 278, 5, 0, 0) := ⟨by decide, kw_299, kw_300, kw_9⟩
theorem pk_296 : am_okP (am_on 11) (.invokespecial 280, 27, 5, 0) := Or.inr ⟨rfl, Or.inl ⟨by decide, by decide +kernel, rfl, rfl, kw_302, Or.inl kw_301⟩⟩
theorem pk_297 : am_okP (am_on 11) (.new 281, 4, 0, 0) := ⟨by decide, kw_312, kw_313, kw_10⟩
theorem pk_298 : am_okP (am_on 11) (.invokespecial 283, 22, 5, 0) := Or.inr ⟨rfl, Or.inl ⟨by decide, by decide +kernel, rfl, rfl, kw_315, Or.inl kw_314⟩⟩
theorem pk_299 : am_okP (am_on 11) (.new 284, 10, 0, 0) := ⟨by decide, kw_325, kw_326, kw_11⟩
theorem pk_300 : am_okP (am_on 11) (.invokespecial 286, 63, 5, 0) := Or.inr ⟨rfl, Or.inl ⟨by decide, by decide +kernel, rfl, rfl, kw_328, Or.inl kw_327⟩⟩
theorem pk_301 : am_okP (am_on 11) (.new 112, 9, 0, 0) := ⟨by decide, kw_338, kw_339, kw_12⟩
theorem pk_302 : am_okP (am_on 11) (.invokespecial 287, 57, 5, 0) := Or.inr ⟨rfl, Or.inl ⟨by decide, by decide +kernel, rfl, rfl, kw_341, Or.inl kw_340⟩⟩
theorem pk_303 : am_okP (am_on 11) (.new 93, 0, 0, 0) := ⟨by decide, kw_355, kw_356, kw_6⟩
theorem pk_304 : am_okP (am_on 11) (.invokespecial 288, 0, 5, 0) := Or.inr ⟨rfl, Or.inl ⟨by decide, by decide +kernel, rfl, rfl, kw_251, Or.inl kw_357⟩⟩
theorem pk_305 : am_okP (am_on 11) (.instanceof 270, 1, 0, 0) := ⟨by decide, kw_245⟩
theorem pk_306 : am_okP (am_on 11) (.instanceof 275, 2, 0, 0) := ⟨by decide, kw_286⟩
theorem pk_307 : am_okP (am_on 11) (.instanceof 278, 5, 0, 0) := ⟨by decide, kw_299⟩
theorem pk_308 : am_okP (am_on 11) (.instanceof 281, 4, 0, 0) := ⟨by decide, kw_312⟩
theorem pk_309 : am_okP (am_on 11) (.instanceof 284, 10, 0, 0) := ⟨by decide, kw_325⟩
theorem pk_310 : am_okP (am_on 11) (.putfield 289, 0, 3, 2) := ⟨by decide, am_okF1 (by decide) kw_99 ⟨by decide, rfl, rfl, rfl, rfl, rfl⟩ rfl⟩
theorem pk_311 : am_okP (am_on 11) (.putfield 291, 1, 3, 0) := ⟨by decide, am_okF1 (by decide) kw_101 ⟨by decide, rfl, rfl, rfl, rfl, rfl⟩ rfl⟩
theorem pk_312 : am_okP (am_on 11) (.putfield 292, 2, 3, 0) := ⟨by decide, am_okF1 (by decide) kw_106 ⟨by decide, rfl, rfl, rfl, rfl, rfl⟩ rfl⟩
theorem pk_313 : am_okP (am_on 11) (.putfield 293, 3, 3, 0) := ⟨by decide, am_okF1 (by decide) kw_108 ⟨by decide, rfl, rfl, rfl, rfl, rfl⟩ rfl⟩
theorem pk_314 : am_okP (am_on 11) (.invokevirtual 295, 210, 2, 11) := Or.inl ⟨by decide, by decide, ⟨by decide, by decide +kernel, rfl, kw_675, kw_673, kp_19⟩⟩
theorem pk_315 : am_okP (am_on 11) (.invokestatic 299, 38, 3, 0) := Or.inr ⟨rfl, by decide, by decide +kernel, kw_554, Or.inl kw_677⟩
theorem pk_316 : am_okP (am_on 12) (.invokespecial 1, 0, 0, 1) := Or.inl ⟨rfl, rfl, kw_946⟩
theorem pk_317 : am_okP (am_on 12) (.putfield 7, 0, 12, 0) := ⟨by decide, am_okF1 (by decide) kw_947 ⟨by decide, rfl, rfl, rfl, rfl, rfl⟩ rfl⟩
theorem pk_318 : am_okP (am_on 12) (.putfield 13, 1, 12, 0) := ⟨by decide, am_okF1 (by decide) kw_948 ⟨by decide, rfl, rfl, rfl, rfl, rfl⟩ rfl⟩
theorem pk_319 : am_okP (am_on 12) (.putfield 16, 2, 12, 2) := ⟨by decide, am_okF1 (by decide) kw_949 ⟨by decide, rfl, rfl, rfl, rfl, rfl⟩ rfl⟩
theorem pk_320 : am_okP (am_on 12) (.putfield 20, 3, 12, 2) := ⟨by decide, am_okF1 (by decide) kw_950 ⟨by decide, rfl, rfl, rfl, rfl, rfl⟩ rfl⟩
theorem pk_321 : am_okP (am_on 12) (.putfield 23, 4, 12, 2) := ⟨by decide, am_okF1 (by decide) kw_951 ⟨by decide, rfl, rfl, rfl, rfl, rfl⟩ rfl⟩
theorem pk_322 : am_okP (am_on 12) (.putfield 26, 5, 12, 2) := ⟨by decide, am_okF1 (by decide) kw_952 ⟨by decide, rfl, rfl, rfl, rfl, rfl⟩ rfl⟩
theorem pk_323 : am_okP (am_on 12) (.putfield 29, 6, 12, 2) := ⟨by decide, am_okF1 (by decide) kw_953 ⟨by decide, rfl, rfl, rfl, rfl, rfl⟩ rfl⟩
theorem pk_324 : am_okP (am_on 12) (.putfield 32, 7, 12, 2) := ⟨by decide, am_okF1 (by decide) kw_954 ⟨by decide, rfl, rfl, rfl, rfl, rfl⟩ rfl⟩
theorem pk_325 : am_okP (am_on 12) (.putfield 35, 8, 12, 2) := ⟨by decide, am_okF1 (by decide) kw_955 ⟨by decide, rfl, rfl, rfl, rfl, rfl⟩ rfl⟩
theorem pk_326 : am_okP (am_on 12) (.putfield 38, 9, 12, 0) := ⟨by decide, am_okF1 (by decide) kw_956 ⟨by decide, rfl, rfl, rfl, rfl, rfl⟩ rfl⟩
theorem pk_327 : am_okP (am_on 12) (.putfield 41, 10, 12, 0) := ⟨by decide, am_okF1 (by decide) kw_957 ⟨by decide, rfl, rfl, rfl, rfl, rfl⟩ rfl⟩
theorem pk_328 : am_okP (am_on 12) (.putfield 44, 11, 12, 0) := ⟨by decide, am_okF1 (by decide) kw_958 ⟨by decide, rfl, rfl, rfl, rfl, rfl⟩ rfl⟩
theorem pk_329 : am_okP (am_on 12) (.putfield 47, 12, 12, 0) := ⟨by decide, am_okF1 (by decide) kw_959 ⟨by decide, rfl, rfl, rfl, rfl, rfl⟩ rfl⟩
theorem pk_330 : am_okP (am_on 12) (.putfield 50, 13, 12, 0) := ⟨by decide, am_okF1 (by decide) kw_960 ⟨by decide, rfl, rfl, rfl, rfl, rfl⟩ rfl⟩
theorem pk_331 : am_okP (am_on 12) (.putfield 53, 14, 12, 2) := ⟨by decide, am_okF1 (by decide) kw_961 ⟨by decide, rfl, rfl, rfl, rfl, rfl⟩ rfl⟩
theorem pk_332 : am_okP (am_on 12) (.putfield 56, 15, 12, 2) := ⟨by decide, am_okF1 (by decide) kw_962 ⟨by decide, rfl, rfl, rfl, rfl, rfl⟩ rfl⟩
theorem pk_333 : am_okP (am_on 12) (.putfield 59, 16, 12, 2) := ⟨by decide, am_okF1 (by decide) kw_963 ⟨by decide, rfl, rfl, rfl, rfl, rfl⟩ rfl⟩
theorem pk_334 : am_okP (am_on 12) (.putfield 62, 17, 12, 2) := ⟨by decide, am_okF1 (by decide) kw_964 ⟨by decide, rfl, rfl, rfl, rfl, rfl⟩ rfl⟩
theorem pk_335 : am_okP (am_on 12) (.putfield 65, 18, 12, 2) := ⟨by decide, am_okF1 (by decide) kw_965 ⟨by decide, rfl, rfl, rfl, rfl, rfl⟩ rfl⟩
theorem pk_336 : am_okP (am_on 12) (.putfield 68, 19, 12, 2) := ⟨by decide, am_okF1 (by decide) kw_966 ⟨by decide, rfl, rfl, rfl, rfl, rfl⟩ rfl⟩
theorem pk_337 : am_okP (am_on 12) (.putfield 71, 20, 12, 2) := ⟨by decide, am_okF1 (by decide) kw_967 ⟨by decide, rfl, rfl, rfl, rfl, rfl⟩ rfl⟩
theorem pk_338 : am_okP (am_on 12) (.putfield 74, 21, 12, 2) := ⟨by decide, am_okF1 (by decide) kw_968 ⟨by decide, rfl, rfl, rfl, rfl, rfl⟩ rfl⟩
theorem pk_339 : am_okP (am_on 12) (.putfield 77, 22, 12, 0) := ⟨by decide, am_okF1 (by decide) kw_969 ⟨by decide, rfl, rfl, rfl, rfl, rfl⟩ rfl⟩
theorem pk_340 : am_okP (am_on 12) (.putfield 80, 23, 12, 0) := ⟨by decide, am_okF1 (by decide) kw_970 ⟨by decide, rfl, rfl, rfl, rfl, rfl⟩ rfl⟩
theorem pk_341 : am_okP (am_on 12) (.putfield 83, 24, 12, 0) := ⟨by decide, am_okF1 (by decide) kw_971 ⟨by decide, rfl, rfl, rfl, rfl, rfl⟩ rfl⟩
theorem pk_342 : am_okP (am_on 12) (.putfield 86, 25, 12, 2) := ⟨by decide, am_okF1 (by decide) kw_972 ⟨by decide, rfl, rfl, rfl, rfl, rfl⟩ rfl⟩
theorem pk_343 : am_okP (am_on 12) (.putfield 89, 26, 12, 2) := ⟨by decide, am_okF1 (by decide) kw_973 ⟨by decide, rfl, rfl, rfl, rfl, rfl⟩ rfl⟩
theorem pk_344 : am_okP (am_on 12) (.putfield 93, 27, 12, 0) := ⟨by decide, am_okF1 (by decide) kw_974 ⟨by decide, rfl, rfl, rfl, rfl, rfl⟩ rfl⟩
theorem pk_345 : am_okP (am_on 12) (.putfield 96, 28, 12, 0) := ⟨by decide, am_okF1 (by decide) kw_975 ⟨by decide, rfl, rfl, rfl, rfl, rfl⟩ rfl⟩
theorem pk_346 : am_okP (am_on 12) (.putfield 99, 29, 12, 0) := ⟨by decide, am_okF1 (by decide) kw_976 ⟨by decide, rfl, rfl, rfl, rfl, rfl⟩ rfl⟩
theorem pk_347 : am_okP (am_on 12) (.putfield 102, 30, 12, 0) := ⟨by decide, am_okF1 (by decide) kw_977 ⟨by decide, rfl, rfl, rfl, rfl, rfl⟩ rfl⟩
theorem pk_348 : am_okP (am_on 12) (.putfield 105, 31, 12, 0) := ⟨by decide, am_okF1 (by decide) kw_978 ⟨by decide, rfl, rfl, rfl, rfl, rfl⟩ rfl⟩
theorem pk_349 : am_okP (am_on 12) (.putfield 108, 32, 12, 0) := ⟨by decide, am_okF1 (by decide) kw_979 ⟨by decide, rfl, rfl, rfl, rfl, rfl⟩ rfl⟩
theorem pk_350 : am_okP (am_on 12) (.putfield 111, 33, 12, 0) := ⟨by decide, am_okF1 (by decide) kw_980 ⟨by decide, rfl, rfl, rfl, rfl, rfl⟩ rfl⟩
theorem pk_351 : am_okP (am_on 12) (.putfield 114, 34, 12, 1) := ⟨by decide, am_okF1 (by decide) kw_981 ⟨by decide, rfl, rfl, rfl, rfl, rfl⟩ rfl⟩
theorem pk_352 : am_okP (am_on 12) (.putfield 118, 35, 12, 1) := ⟨by decide, am_okF1 (by decide) kw_982 ⟨by decide, rfl, rfl, rfl, rfl, rfl⟩ rfl⟩
theorem pk_353 : am_okP (am_on 12) (.putfield 121, 36, 12, 0) := ⟨by decide, am_okF1 (by decide) kw_983 ⟨by decide, rfl, rfl, rfl, rfl, rfl⟩ rfl⟩
theorem pk_354 : am_okP (am_on 12) (.putfield 124, 37, 12, 2) := ⟨by decide, am_okF1 (by decide) kw_984 ⟨by decide, rfl, rfl, rfl, rfl, rfl⟩ rfl⟩
theorem pk_355 : am_okP (am_on 12) (.putfield 127, 38, 12, 0) := ⟨by decide, am_okF1 (by decide) kw_985 ⟨by decide, rfl, rfl, rfl, rfl, rfl⟩ rfl⟩
theorem pk_356 : am_okP (am_on 12) (.putfield 130, 39, 12, 0) := ⟨by decide, am_okF1 (by decide) kw_986 ⟨by decide, rfl, rfl, rfl, rfl, rfl⟩ rfl⟩
theorem pk_357 : am_okP (am_on 12) (.putfield 133, 40, 12, 0) := ⟨by decide, am_okF1 (by decide) kw_987 ⟨by decide, rfl, rfl, rfl, rfl, rfl⟩ rfl⟩
theorem pk_358 : am_okP (am_on 12) (.putfield 136, 41, 12, 2) := ⟨by decide, am_okF1 (by decide) kw_988 ⟨by decide, rfl, rfl, rfl, rfl, rfl⟩ rfl⟩
theorem pk_359 : am_okP (am_on 12) (.putfield 139, 42, 12, 2) := ⟨by decide, am_okF1 (by decide) kw_989 ⟨by decide, rfl, rfl, rfl, rfl, rfl⟩ rfl⟩
theorem pk_360 : am_okP (am_on 12) (.putfield 142, 43, 12, 2) := ⟨by decide, am_okF1 (by decide) kw_990 ⟨by decide, rfl, rfl, rfl, rfl, rfl⟩ rfl⟩
theorem pk_361 : am_okP (am_on 12) (.putfield 145, 44, 12, 0) := ⟨by decide, am_okF1 (by decide) kw_991 ⟨by decide, rfl, rfl, rfl, rfl, rfl⟩ rfl⟩
theorem pk_362 : am_okP (am_on 12) (.putfield 148, 45, 12, 2) := ⟨by decide, am_okF1 (by decide) kw_992 ⟨by decide, rfl, rfl, rfl, rfl, rfl⟩ rfl⟩
theorem pk_363 : am_okP (am_on 12) (.putfield 151, 46, 12, 2) := ⟨by decide, am_okF1 (by decide) kw_993 ⟨by decide, rfl, rfl, rfl, rfl, rfl⟩ rfl⟩
theorem pk_364 : am_okP (am_on 12) (.putfield 154, 47, 12, 1) := ⟨by decide, am_okF1 (by decide) kw_994 ⟨by decide, rfl, rfl, rfl, rfl, rfl⟩ rfl⟩
theorem pk_365 : am_okP (am_on 12) (.putfield 157, 48, 12, 0) := ⟨by decide, am_okF1 (by decide) kw_995 ⟨by decide, rfl, rfl, rfl, rfl, rfl⟩ rfl⟩
theorem pk_366 : am_okP (am_on 12) (.putfield 160, 49, 12, 0) := ⟨by decide, am_okF1 (by decide) kw_996 ⟨by decide, rfl, rfl, rfl, rfl, rfl⟩ rfl⟩
theorem pk_367 : am_okP (am_on 12) (.putfield 163, 50, 12, 0) := ⟨by decide, am_okF1 (by decide) kw_997 ⟨by decide, rfl, rfl, rfl, rfl, rfl⟩ rfl⟩
theorem pk_368 : am_okP (am_on 12) (.putfield 166, 51, 12, 0) := ⟨by decide, am_okF1 (by decide) kw_998 ⟨by decide, rfl, rfl, rfl, rfl, rfl⟩ rfl⟩
theorem pk_369 : am_okP (am_on 12) (.putfield 169, 52, 12, 0) := ⟨by decide, am_okF1 (by decide) kw_999 ⟨by decide, rfl, rfl, rfl, rfl, rfl⟩ rfl⟩
theorem pk_370 : am_okP (am_on 12) (.putfield 172, 53, 12, 2) := ⟨by decide, am_okF1 (by decide) kw_1000 ⟨by decide, rfl, rfl, rfl, rfl, rfl⟩ rfl⟩
theorem pk_371 : am_okP (am_on 12) (.putfield 175, 54, 12, 2) := ⟨by decide, am_okF1 (by decide) kw_1001 ⟨by decide, rfl, rfl, rfl, rfl, rfl⟩ rfl⟩
theorem pk_372 : am_okP (am_on 12) (.putfield 178, 55, 12, 2) := ⟨by decide, am_okF1 (by decide) kw_1002 ⟨by decide, rfl, rfl, rfl, rfl, rfl⟩ rfl⟩
theorem pk_373 : am_okP (am_on 12) (.putfield 181, 56, 12, 2) := ⟨by decide, am_okF1 (by decide) kw_1003 ⟨by decide, rfl, rfl, rfl, rfl, rfl⟩ rfl⟩
theorem pk_374 : am_okP (am_on 12) (.putfield 184, 57, 12, 2) := ⟨by decide, am_okF1 (by decide) kw_1004 ⟨by decide, rfl, rfl, rfl, rfl, rfl⟩ rfl⟩
theorem pk_375 : am_okP (am_on 12) (.putfield 187, 58, 12, 2) := ⟨by decide, am_okF1 (by decide) kw_1005 ⟨by decide, rfl, rfl, rfl, rfl, rfl⟩ rfl⟩
theorem pk_376 : am_okP (am_on 12) (.putfield 190, 59, 12, 2) := ⟨by decide, am_okF1 (by decide) kw_1006 ⟨by decide, rfl, rfl, rfl, rfl, rfl⟩ rfl⟩
theorem pk_377 : am_okP (am_on 12) (.putfield 193, 60, 12, 2) := ⟨by decide, am_okF1 (by decide) kw_1007 ⟨by decide, rfl, rfl, rfl, rfl, rfl⟩ rfl⟩
theorem pk_378 : am_okP (am_on 12) (.putfield 196, 61, 12, 2) := ⟨by decide, am_okF1 (by decide) kw_1008 ⟨by decide, rfl, rfl, rfl, rfl, rfl⟩ rfl⟩
theorem pk_379 : am_okP (am_on 12) (.putfield 199, 62, 12, 2) := ⟨by decide, am_okF1 (by decide) kw_1009 ⟨by decide, rfl, rfl, rfl, rfl, rfl⟩ rfl⟩
theorem pk_380 : am_okP (am_on 12) (.putfield 202, 63, 12, 2) := ⟨by decide, am_okF1 (by decide) kw_1010 ⟨by decide, rfl, rfl, rfl, rfl, rfl⟩ rfl⟩
theorem pk_381 : am_okP (am_on 12) (.putfield 205, 64, 12, 2) := ⟨by decide, am_okF1 (by decide) kw_1011 ⟨by decide, rfl, rfl, rfl, rfl, rfl⟩ rfl⟩
theorem pk_382 : am_okP (am_on 12) (.putfield 208, 65, 12, 0) := ⟨by decide, am_okF1 (by decide) kw_1012 ⟨by decide, rfl, rfl, rfl, rfl, rfl⟩ rfl⟩
theorem pk_383 : am_okP (am_on 12) (.putfield 211, 66, 12, 2) := ⟨by decide, am_okF1 (by decide) kw_1013 ⟨by decide, rfl, rfl, rfl, rfl, rfl⟩ rfl⟩
theorem pk_384 : am_okP (am_on 12) (.putfield 214, 67, 12, 2) := ⟨by decide, am_okF1 (by decide) kw_1014 ⟨by decide, rfl, rfl, rfl, rfl, rfl⟩ rfl⟩
theorem pk_385 : am_okP (am_on 12) (.putfield 217, 68, 12, 2) := ⟨by decide, am_okF1 (by decide) kw_1015 ⟨by decide, rfl, rfl, rfl, rfl, rfl⟩ rfl⟩
theorem pk_386 : am_okP (am_on 12) (.putfield 220, 69, 12, 2) := ⟨by decide, am_okF1 (by decide) kw_1016 ⟨by decide, rfl, rfl, rfl, rfl, rfl⟩ rfl⟩
theorem pk_387 : am_okP (am_on 12) (.putfield 224, 70, 12, 2) := ⟨by decide, am_okF1 (by decide) kw_1017 ⟨by decide, rfl, rfl, rfl, rfl, rfl⟩ rfl⟩
theorem pk_388 : am_okP (am_on 12) (.getfield 7, 0, 12, 0) := Or.inr ⟨by decide, am_okF1 (by decide) kw_947 ⟨by decide, rfl, rfl, rfl, rfl, rfl⟩ rfl⟩
theorem pk_389 : am_okP (am_on 12) (.invokevirtual 227, 219, 3, 12) := Or.inl ⟨by decide, by decide, ⟨by decide, by decide +kernel, rfl, kw_1167, kw_1165, kp_25⟩⟩
theorem pk_390 : am_okP (am_on 12) (.getfield 16, 2, 12, 2) := Or.inr ⟨by decide, am_okF1 (by decide) kw_949 ⟨by decide, rfl, rfl, rfl, rfl, rfl⟩ rfl⟩
theorem pk_391 : am_okP (am_on 12) (.getfield 20, 3, 12, 2) := Or.inr ⟨by decide, am_okF1 (by decide) kw_950 ⟨by decide, rfl, rfl, rfl, rfl, rfl⟩ rfl⟩
theorem pk_392 : am_okP (am_on 12) (.getfield 23, 4, 12, 2) := Or.inr ⟨by decide, am_okF1 (by decide) kw_951 ⟨by decide, rfl, rfl, rfl, rfl, rfl⟩ rfl⟩
theorem pk_393 : am_okP (am_on 12) (.getfield 26, 5, 12, 2) := Or.inr ⟨by decide, am_okF1 (by decide) kw_952 ⟨by decide, rfl, rfl, rfl, rfl, rfl⟩ rfl⟩
theorem pk_394 : am_okP (am_on 12) (.getfield 29, 6, 12, 2) := Or.inr ⟨by decide, am_okF1 (by decide) kw_953 ⟨by decide, rfl, rfl, rfl, rfl, rfl⟩ rfl⟩
theorem pk_395 : am_okP (am_on 12) (.getfield 32, 7, 12, 2) := Or.inr ⟨by decide, am_okF1 (by decide) kw_954 ⟨by decide, rfl, rfl, rfl, rfl, rfl⟩ rfl⟩
theorem pk_396 : am_okP (am_on 12) (.invokevirtual 231, 220, 1, 12) := Or.inl ⟨by decide, by decide, ⟨by decide, by decide +kernel, rfl, kw_1175, kw_1173, kp_26⟩⟩
theorem pk_397 : am_okP (am_on 12) (.getfield 35, 8, 12, 2) := Or.inr ⟨by decide, am_okF1 (by decide) kw_955 ⟨by decide, rfl, rfl, rfl, rfl, rfl⟩ rfl⟩
theorem pk_398 : am_okP (am_on 12) (.getfield 44, 11, 12, 0) := Or.inr ⟨by decide, am_okF1 (by decide) kw_958 ⟨by decide, rfl, rfl, rfl, rfl, rfl⟩ rfl⟩
theorem pk_399 : am_okP (am_on 12) (.getfield 53, 14, 12, 2) := Or.inr ⟨by decide, am_okF1 (by decide) kw_961 ⟨by decide, rfl, rfl, rfl, rfl, rfl⟩ rfl⟩
theorem pk_400 : am_okP (am_on 12) (.getfield 47, 12, 12, 0) := Or.inr ⟨by decide, am_okF1 (by decide) kw_959 ⟨by decide, rfl, rfl, rfl, rfl, rfl⟩ rfl⟩
theorem pk_401 : am_okP (am_on 12) (.invokevirtual 235, 227, 0, 12) := Or.inl ⟨by decide, by decide, ⟨by decide, by decide +kernel, rfl, kw_1211, kw_1209, kp_30⟩⟩
theorem pk_402 : am_okP (am_on 12) (.getfield 86, 25, 12, 2) := Or.inr ⟨by decide, am_okF1 (by decide) kw_972 ⟨by decide, rfl, rfl, rfl, rfl, rfl⟩ rfl⟩
theorem pk_403 : am_okP (am_on 12) (.invokevirtual 239, 228, 1, 12) := Or.inl ⟨by decide, by decide, ⟨by decide, by decide +kernel, rfl, kw_1219, kw_1217, kp_32⟩⟩
theorem pk_404 : am_okP (am_on 12) (.invokevirtual 242, 230, 0, 12) := Or.inl ⟨by decide, by decide, ⟨by decide, by decide +kernel, rfl, kw_1227, kw_1225, kp_34⟩⟩
theorem pk_405 : am_okP (am_on 12) (.getfield 50, 13, 12, 0) := Or.inr ⟨by decide, am_okF1 (by decide) kw_960 ⟨by decide, rfl, rfl, rfl, rfl, rfl⟩ rfl⟩
theorem pk_406 : am_okP (am_on 12) (.getfield 71, 20, 12, 2) := Or.inr ⟨by decide, am_okF1 (by decide) kw_967 ⟨by decide, rfl, rfl, rfl, rfl, rfl⟩ rfl⟩
theorem pk_407 : am_okP (am_on 12) (.getfield 77, 22, 12, 0) := Or.inr ⟨by decide, am_okF1 (by decide) kw_969 ⟨by decide, rfl, rfl, rfl, rfl, rfl⟩ rfl⟩
theorem pk_408 : am_okP (am_on 12) (.getfield 80, 23, 12, 0) := Or.inr ⟨by decide, am_okF1 (by decide) kw_970 ⟨by decide, rfl, rfl, rfl, rfl, rfl⟩ rfl⟩
theorem pk_409 : am_okP (am_on 12) (.getfield 74, 21, 12, 2) := Or.inr ⟨by decide, am_okF1 (by decide) kw_968 ⟨by decide, rfl, rfl, rfl, rfl, rfl⟩ rfl⟩
theorem pk_410 : am_okP (am_on 12) (.invokevirtual 246, 232, 1, 12) := Or.inl ⟨by decide, by decide, ⟨by decide, by decide +kernel, rfl, kw_1243, kw_1241, kp_38⟩⟩
theorem pk_411 : am_okP (am_on 12) (.getfield 83, 24, 12, 0) := Or.inr ⟨by decide, am_okF1 (by decide) kw_971 ⟨by decide, rfl, rfl, rfl, rfl, rfl⟩ rfl⟩
theorem pk_412 : am_okP (am_on 12) (.invokevirtual 250, 235, 1, 12) := Or.inl ⟨by decide, by decide, ⟨by decide, by decide +kernel, rfl, kw_1239, kw_1237, kp_37⟩⟩
theorem pk_413 : am_okP (am_on 12) (.invokevirtual 254, 231, 0, 12) := Or.inl ⟨by decide, by decide, ⟨by decide, by decide +kernel, rfl, kw_1223, kw_1221, kp_33⟩⟩
theorem pk_414 : am_okP (am_on 12) (.invokevirtual 257, 233, 0, 12) := Or.inl ⟨by decide, by decide, ⟨by decide, by decide +kernel, rfl, kw_1247, kw_1245, kp_39⟩⟩
theorem pk_415 : am_okP (am_on 12) (.getfield 65, 18, 12, 2) := Or.inr ⟨by decide, am_okF1 (by decide) kw_965 ⟨by decide, rfl, rfl, rfl, rfl, rfl⟩ rfl⟩
theorem pk_416 : am_okP (am_on 12) (.invokevirtual 260, 236, 0, 12) := Or.inl ⟨by decide, by decide, ⟨by decide, by decide +kernel, rfl, kw_1235, kw_1233, kp_36⟩⟩
theorem pk_417 : am_okP (am_on 12) (.invokevirtual 263, 234, 1, 12) := Or.inl ⟨by decide, by decide, ⟨by decide, by decide +kernel, rfl, kw_1251, kw_1249, kp_40⟩⟩
theorem pk_418 : am_okP (am_on 12) (.getfield 68, 19, 12, 2) := Or.inr ⟨by decide, am_okF1 (by decide) kw_966 ⟨by decide, rfl, rfl, rfl, rfl, rfl⟩ rfl⟩
theorem pk_419 : am_okP (am_on 12) (.getfield 59, 16, 12, 2) := Or.inr ⟨by decide, am_okF1 (by decide) kw_963 ⟨by decide, rfl, rfl, rfl, rfl, rfl⟩ rfl⟩
theorem pk_420 : am_okP (am_on 12) (.invokevirtual 266, 229, 2, 12) := Or.inl ⟨by decide, by decide, ⟨by decide, by decide +kernel, rfl, kw_1215, kw_1213, kp_31⟩⟩
theorem pk_421 : am_okP (am_on 12) (.invokevirtual 270, 238, 1, 12) := Or.inl ⟨by decide, by decide, ⟨by decide, by decide +kernel, rfl, kw_1207, kw_1205, kp_29⟩⟩
theorem pk_422 : am_okP (am_on 12) (.getfield 62, 17, 12, 2) := Or.inr ⟨by decide, am_okF1 (by decide) kw_964 ⟨by decide, rfl, rfl, rfl, rfl, rfl⟩ rfl⟩
theorem pk_423 : am_okP (am_on 12) (.invokevirtual 273, 237, 1, 12) := Or.inl ⟨by decide, by decide, ⟨by decide, by decide +kernel, rfl, kw_1231, kw_1229, kp_35⟩⟩
theorem pk_424 : am_okP (am_on 12) (.invokevirtual 276, 239, 1, 12) := Or.inl ⟨by decide, by decide, ⟨by decide, by decide +kernel, rfl, kw_1203, kw_1201, kp_28⟩⟩
theorem pk_425 : am_okP (am_on 12) (.getfield 56, 15, 12, 2) := Or.inr ⟨by decide, am_okF1 (by decide) kw_962 ⟨by decide, rfl, rfl, rfl, rfl, rfl⟩ rfl⟩
theorem pk_426 : am_okP (am_on 12) (.getfield 38, 9, 12, 0) := Or.inr ⟨by decide, am_okF1 (by decide) kw_956 ⟨by decide, rfl, rfl, rfl, rfl, rfl⟩ rfl⟩
theorem pk_427 : am_okP (am_on 12) (.invokevirtual 279, 240, 1, 12) := Or.inl ⟨by decide, by decide, ⟨by decide, by decide +kernel, rfl, kw_1199, kw_1197, kp_27⟩⟩
theorem pk_428 : am_okP (am_on 12) (.getfield 41, 10, 12, 0) := Or.inr ⟨by decide, am_okF1 (by decide) kw_957 ⟨by decide, rfl, rfl, rfl, rfl, rfl⟩ rfl⟩
theorem pk_429 : am_okP (am_on 12) (.getfield 99, 29, 12, 0) := Or.inr ⟨by decide, am_okF1 (by decide) kw_976 ⟨by decide, rfl, rfl, rfl, rfl, rfl⟩ rfl⟩
theorem pk_430 : am_okP (am_on 12) (.getfield 93, 27, 12, 0) := Or.inr ⟨by decide, am_okF1 (by decide) kw_974 ⟨by decide, rfl, rfl, rfl, rfl, rfl⟩ rfl⟩
theorem pk_431 : am_okP (am_on 12) (.getfield 96, 28, 12, 0) := Or.inr ⟨by decide, am_okF1 (by decide) kw_975 ⟨by decide, rfl, rfl, rfl, rfl, rfl⟩ rfl⟩
theorem pk_432 : am_okP (am_on 12) (.getfield 89, 26, 12, 2) := Or.inr ⟨by decide, am_okF1 (by decide) kw_973 ⟨by decide, rfl, rfl, rfl, rfl, rfl⟩ rfl⟩
theorem pk_433 : am_okP (am_on 12) (.invokevirtual 282, 244, 2, 12) := Or.inl ⟨by decide, by decide, ⟨by decide, by decide +kernel, rfl, kw_1299, kw_1297, kp_49⟩⟩
theorem pk_434 : am_okP (am_on 12) (.invokevirtual 286, 242, 0, 12) := Or.inl ⟨by decide, by decide, ⟨by decide, by decide +kernel, rfl, kw_1287, kw_1285, kp_46⟩⟩
theorem pk_435 : am_okP (am_on 12) (.invokevirtual 289, 243, 0, 12) := Or.inl ⟨by decide, by decide, ⟨by decide, by decide +kernel, rfl, kw_1291, kw_1289, kp_47⟩⟩
theorem pk_436 : am_okP (am_on 12) (.invokevirtual 292, 245, 2, 12) := Or.inl ⟨by decide, by decide, ⟨by decide, by decide +kernel, rfl, kw_1295, kw_1293, kp_48⟩⟩
theorem pk_437 : am_okP (am_on 12) (.invokevirtual 295, 247, 2, 12) := Or.inl ⟨by decide, by decide, ⟨by decide, by decide +kernel, rfl, kw_1263, kw_1261, kp_42⟩⟩
theorem pk_438 : am_okP (am_on 12) (.invokevirtual 298, 249, 2, 12) := Or.inl ⟨by decide, by decide, ⟨by decide, by decide +kernel, rfl, kw_1267, kw_1265, kp_43⟩⟩
theorem pk_439 : am_okP (am_on 12) (.invokevirtual 301, 250, 0, 12) := Or.inl ⟨by decide, by decide, ⟨by decide, by decide +kernel, rfl, kw_1259, kw_1257, kp_41⟩⟩
theorem pk_440 : am_okP (am_on 12) (.getfield 13, 1, 12, 0) := Or.inr ⟨by decide, am_okF1 (by decide) kw_948 ⟨by decide, rfl, rfl, rfl, rfl, rfl⟩ rfl⟩
theorem pk_441 : am_okP (am_on 12) (.invokevirtual 304, 246, 3, 12) := Or.inl ⟨by decide, by decide, ⟨by decide, by decide +kernel, rfl, kw_1283, kw_1281, kp_45⟩⟩
theorem pk_442 : am_okP (am_on 12) (.getfield 105, 31, 12, 0) := Or.inr ⟨by decide, am_okF1 (by decide) kw_978 ⟨by decide, rfl, rfl, rfl, rfl, rfl⟩ rfl⟩
theorem pk_443 : am_okP (am_on 12) (.invokevirtual 308, 256, 1, 12) := Or.inl ⟨by decide, by decide, ⟨by decide, by decide +kernel, rfl, kw_1315, kw_1313, kp_53⟩⟩
theorem pk_444 : am_okP (am_on 12) (.sipush 99999, 312, 1, 0) := Or.inr kw_1317
theorem pk_445 : am_okP (am_on 12) (.getfield 114, 34, 12, 1) := Or.inr ⟨by decide, am_okF1 (by decide) kw_981 ⟨by decide, rfl, rfl, rfl, rfl, rfl⟩ rfl⟩
theorem pk_446 : am_okP (am_on 12) (.getfield 118, 35, 12, 1) := Or.inr ⟨by decide, am_okF1 (by decide) kw_982 ⟨by decide, rfl, rfl, rfl, rfl, rfl⟩ rfl⟩
theorem pk_447 : am_okP (am_on 12) (.getfield 121, 36, 12, 0) := Or.inr ⟨by decide, am_okF1 (by decide) kw_983 ⟨by decide, rfl, rfl, rfl, rfl, rfl⟩ rfl⟩
theorem pk_448 : am_okP (am_on 12) (.invokevirtual 314, 253, 1, 12) := Or.inl ⟨by decide, by decide, ⟨by decide, by decide +kernel, rfl, kw_1303, kw_1301, kp_50⟩⟩
theorem pk_449 : am_okP (am_on 12) (.invokevirtual 317, 254, 2, 12) := Or.inl ⟨by decide, by decide, ⟨by decide, by decide +kernel, rfl, kw_1307, kw_1305, kp_51⟩⟩
theorem pk_450 : am_okP (am_on 12) (.invokevirtual 320, 255, 1, 12) := Or.inl ⟨by decide, by decide, ⟨by decide, by decide +kernel, rfl, kw_1311, kw_1309, kp_52⟩⟩
theorem pk_451 : am_okP (am_on 12) (.invokevirtual 323, 257, 2, 12) := Or.inl ⟨by decide, by decide, ⟨by decide, by decide +kernel, rfl, kw_1279, kw_1277, kp_44⟩⟩
theorem pk_452 : am_okP (am_on 12) (.getfield 111, 33, 12, 0) := Or.inr ⟨by decide, am_okF1 (by decide) kw_980 ⟨by decide, rfl, rfl, rfl, rfl, rfl⟩ rfl⟩
theorem pk_453 : am_okP (am_on 12) (.bipush 999999, 327, 2, 0) := Or.inr kw_1318
theorem pk_454 : am_okP (am_on 12) (.getfield 108, 32, 12, 0) := Or.inr ⟨by decide, am_okF1 (by decide) kw_979 ⟨by decide, rfl, rfl, rfl, rfl, rfl⟩ rfl⟩
theorem pk_455 : am_okP (am_on 12) (.invokevirtual 328, 248, 2, 12) := Or.inl ⟨by decide, by decide, ⟨by decide, by decide +kernel, rfl, kw_1321, kw_1319, kp_54⟩⟩
theorem pk_456 : am_okP (am_on 12) (.getfield 102, 30, 12, 0) := Or.inr ⟨by decide, am_okF1 (by decide) kw_977 ⟨by decide, rfl, rfl, rfl, rfl, rfl⟩ rfl⟩
theorem pk_457 : am_okP (am_on 12) (.invokevirtual 331, 260, 2, 12) := Or.inl ⟨by decide, by decide, ⟨by decide, by decide +kernel, rfl, kw_1333, kw_1331, kp_55⟩⟩
theorem pk_458 : am_okP (am_on 12) (.getfield 124, 37, 12, 2) := Or.inr ⟨by decide, am_okF1 (by decide) kw_984 ⟨by decide, rfl, rfl, rfl, rfl, rfl⟩ rfl⟩
theorem pk_459 : am_okP (am_on 12) (.getfield 130, 39, 12, 0) := Or.inr ⟨by decide, am_okF1 (by decide) kw_986 ⟨by decide, rfl, rfl, rfl, rfl, rfl⟩ rfl⟩
theorem pk_460 : am_okP (am_on 12) (.getfield 127, 38, 12, 0) := Or.inr ⟨by decide, am_okF1 (by decide) kw_985 ⟨by decide, rfl, rfl, rfl, rfl, rfl⟩ rfl⟩
theorem pk_461 : am_okP (am_on 12) (.invokevirtual 334, 265, 1, 12) := Or.inl ⟨by decide, by decide, ⟨by decide, by decide +kernel, rfl, kw_1353, kw_1351, kp_56⟩⟩
theorem pk_462 : am_okP (am_on 12) (.getfield 133, 40, 12, 0) := Or.inr ⟨by decide, am_okF1 (by decide) kw_987 ⟨by decide, rfl, rfl, rfl, rfl, rfl⟩ rfl⟩
theorem pk_463 : am_okP (am_on 12) (.getfield 136, 41, 12, 2) := Or.inr ⟨by decide, am_okF1 (by decide) kw_988 ⟨by decide, rfl, rfl, rfl, rfl, rfl⟩ rfl⟩
theorem pk_464 : am_okP (am_on 12) (.getfield 139, 42, 12, 2) := Or.inr ⟨by decide, am_okF1 (by decide) kw_989 ⟨by decide, rfl, rfl, rfl, rfl, rfl⟩ rfl⟩
theorem pk_465 : am_okP (am_on 12) (.getfield 142, 43, 12, 2) := Or.inr ⟨by decide, am_okF1 (by decide) kw_990 ⟨by decide, rfl, rfl, rfl, rfl, rfl⟩ rfl⟩
theorem pk_466 : am_okP (am_on 12) (.invokevirtual 337, 270, 1, 12) := Or.inl ⟨by decide, by decide, ⟨by decide, by decide +kernel, rfl, kw_1373, kw_1371, kp_57⟩⟩
theorem pk_467 : am_okP (am_on 12) (.bipush (-1000001), 340, 2, 0) := Or.inr kw_1379
theorem pk_468 : am_okP (am_on 12) (.invokevirtual 341, 273, 2, 12) := Or.inl ⟨by decide, by decide, ⟨by decide, by decide +kernel, rfl, kw_1392, kw_1390, kp_59⟩⟩
theorem pk_469 : am_okP (am_on 12) (.sipush (-9223372036854775808), 345, 1, 0) := Or.inr kw_1384
theorem pk_470 : am_okP (am_on 12) (.sipush 10, 347, 1, 0) := Or.inr kw_1385
theorem pk_471 : am_okP (am_on 12) (.invokevirtual 349, 274, 3, 12) := Or.inl ⟨by decide, by decide, ⟨by decide, by decide +kernel, rfl, kw_1388, kw_1386, kp_58⟩⟩
theorem pk_472 : am_okP (am_on 12) (.sipush 12, 353, 1, 0) := Or.inr kw_1398
theorem pk_473 : am_okP (am_on 12) (.getfield 145, 44, 12, 0) := Or.inr ⟨by decide, am_okF1 (by decide) kw_991 ⟨by decide, rfl, rfl, rfl, rfl, rfl⟩ rfl⟩
theorem pk_474 : am_okP (am_on 12) (.getfield 148, 45, 12, 2) := Or.inr ⟨by decide, am_okF1 (by decide) kw_992 ⟨by decide, rfl, rfl, rfl, rfl, rfl⟩ rfl⟩
theorem pk_475 : am_okP (am_on 12) (.getfield 151, 46, 12, 2) := Or.inr ⟨by decide, am_okF1 (by decide) kw_993 ⟨by decide, rfl, rfl, rfl, rfl, rfl⟩ rfl⟩
theorem pk_476 : am_okP (am_on 12) (.invokevirtual 355, 294, 1, 12) := Or.inl ⟨by decide, by decide, ⟨by decide, by decide +kernel, rfl, kw_1413, kw_1411, kp_60⟩⟩
theorem pk_477 : am_okP (am_on 12) (.getfield 214, 67, 12, 2) := Or.inr ⟨by decide, am_okF1 (by decide) kw_1014 ⟨by decide, rfl, rfl, rfl, rfl, rfl⟩ rfl⟩
theorem pk_478 : am_okP (am_on 12) (.getfield 217, 68, 12, 2) := Or.inr ⟨by decide, am_okF1 (by decide) kw_1015 ⟨by decide, rfl, rfl, rfl, rfl, rfl⟩ rfl⟩
theorem pk_479 : am_okP (am_on 12) (.getfield 220, 69, 12, 2) := Or.inr ⟨by decide, am_okF1 (by decide) kw_1016 ⟨by decide, rfl, rfl, rfl, rfl, rfl⟩ rfl⟩
theorem pk_480 : am_okP (am_on 12) (.getfield 172, 53, 12, 2) := Or.inr ⟨by decide, am_okF1 (by decide) kw_1000 ⟨by decide, rfl, rfl, rfl, rfl, rfl⟩ rfl⟩
theorem pk_481 : am_okP (am_on 12) (.getfield 175, 54, 12, 2) := Or.inr ⟨by decide, am_okF1 (by decide) kw_1001 ⟨by decide, rfl, rfl, rfl, rfl, rfl⟩ rfl⟩
theorem pk_482 : am_okP (am_on 12) (.getfield 178, 55, 12, 2) := Or.inr ⟨by decide, am_okF1 (by decide) kw_1002 ⟨by decide, rfl, rfl, rfl, rfl, rfl⟩ rfl⟩
theorem pk_483 : am_okP (am_on 12) (.getfield 181, 56, 12, 2) := Or.inr ⟨by decide, am_okF1 (by decide) kw_1003 ⟨by decide, rfl, rfl, rfl, rfl, rfl⟩ rfl⟩
theorem pk_484 : am_okP (am_on 12) (.getfield 184, 57, 12, 2) := Or.inr ⟨by decide, am_okF1 (by decide) kw_1004 ⟨by decide, rfl, rfl, rfl, rfl, rfl⟩ rfl⟩
theorem pk_485 : am_okP (am_on 12) (.getfield 187, 58, 12, 2) := Or.inr ⟨by decide, am_okF1 (by decide) kw_1005 ⟨by decide, rfl, rfl, rfl, rfl, rfl⟩ rfl⟩
theorem pk_486 : am_okP (am_on 12) (.getfield 190, 59, 12, 2) := Or.inr ⟨by decide, am_okF1 (by decide) kw_1006 ⟨by decide, rfl, rfl, rfl, rfl, rfl⟩ rfl⟩
theorem pk_487 : am_okP (am_on 12) (.getfield 193, 60, 12, 2) := Or.inr ⟨by decide, am_okF1 (by decide) kw_1007 ⟨by decide, rfl, rfl, rfl, rfl, rfl⟩ rfl⟩
theorem pk_488 : am_okP (am_on 12) (.getfield 196, 61, 12, 2) := Or.inr ⟨by decide, am_okF1 (by decide) kw_1008 ⟨by decide, rfl, rfl, rfl, rfl, rfl⟩ rfl⟩
theorem pk_489 : am_okP (am_on 12) (.getfield 199, 62, 12, 2) := Or.inr ⟨by decide, am_okF1 (by decide) kw_1009 ⟨by decide, rfl, rfl, rfl, rfl, rfl⟩ rfl⟩
theorem pk_490 : am_okP (am_on 12) (.getfield 202, 63, 12, 2) := Or.inr ⟨by decide, am_okF1 (by decide) kw_1010 ⟨by decide, rfl, rfl, rfl, rfl, rfl⟩ rfl⟩
theorem pk_491 : am_okP (am_on 12) (.getfield 205, 64, 12, 2) := Or.inr ⟨by decide, am_okF1 (by decide) kw_1011 ⟨by decide, rfl, rfl, rfl, rfl, rfl⟩ rfl⟩
theorem pk_492 : am_okP (am_on 12) (.getfield 154, 47, 12, 1) := Or.inr ⟨by decide, am_okF1 (by decide) kw_994 ⟨by decide, rfl, rfl, rfl, rfl, rfl⟩ rfl⟩
theorem pk_493 : am_okP (am_on 12) (.getfield 157, 48, 12, 0) := Or.inr ⟨by decide, am_okF1 (by decide) kw_995 ⟨by decide, rfl, rfl, rfl, rfl, rfl⟩ rfl⟩
theorem pk_494 : am_okP (am_on 12) (.getfield 160, 49, 12, 0) := Or.inr ⟨by decide, am_okF1 (by decide) kw_996 ⟨by decide, rfl, rfl, rfl, rfl, rfl⟩ rfl⟩
theorem pk_495 : am_okP (am_on 12) (.getfield 163, 50, 12, 0) := Or.inr ⟨by decide, am_okF1 (by decide) kw_997 ⟨by decide, rfl, rfl, rfl, rfl, rfl⟩ rfl⟩
theorem pk_496 : am_okP (am_on 12) (.getfield 166, 51, 12, 0) := Or.inr ⟨by decide, am_okF1 (by decide) kw_998 ⟨by decide, rfl, rfl, rfl, rfl, rfl⟩ rfl⟩
theorem pk_497 : am_okP (am_on 12) (.getfield 169, 52, 12, 0) := Or.inr ⟨by decide, am_okF1 (by decide) kw_999 ⟨by decide, rfl, rfl, rfl, rfl, rfl⟩ rfl⟩
theorem pk_498 : am_okP (am_on 12) (.getfield 208, 65, 12, 0) := Or.inr ⟨by decide, am_okF1 (by decide) kw_1012 ⟨by decide, rfl, rfl, rfl, rfl, rfl⟩ rfl⟩
theorem pk_499 : am_okP (am_on 12) (.getfield 211, 66, 12, 2) := Or.inr ⟨by decide, am_okF1 (by decide) kw_1013 ⟨by decide, rfl, rfl, rfl, rfl, rfl⟩ rfl⟩
theorem pk_500 : am_okP (am_on 12) (.invokevirtual 358, 282, 1, 12) := Or.inl ⟨by decide, by decide, ⟨by decide, by decide +kernel, rfl, kw_1433, kw_1431, kp_62⟩⟩
theorem pk_501 : am_okP (am_on 12) (.invokevirtual 361, 283, 2, 12) := Or.inl ⟨by decide, by decide, ⟨by decide, by decide +kernel, rfl, kw_1437, kw_1435, kp_63⟩⟩
theorem pk_502 : am_okP (am_on 12) (.invokevirtual 364, 284, 2, 12) := Or.inl ⟨by decide, by decide, ⟨by decide, by decide +kernel, rfl, kw_1429, kw_1427, kp_61⟩⟩
theorem pk_503 : am_okP (am_on 12) (.invokevirtual 367, 285, 2, 12) := Or.inl ⟨by decide, by decide, ⟨by decide, by decide +kernel, rfl, kw_1449, kw_1447, kp_66⟩⟩
theorem pk_504 : am_okP (am_on 12) (.invokevirtual 370, 286, 2, 12) := Or.inl ⟨by decide, by decide, ⟨by decide, by decide +kernel, rfl, kw_1445, kw_1443, kp_65⟩⟩
theorem pk_505 : am_okP (am_on 12) (.invokevirtual 373, 287, 2, 12) := Or.inl ⟨by decide, by decide, ⟨by decide, by decide +kernel, rfl, kw_1441, kw_1439, kp_64⟩⟩
theorem pk_506 : am_okP (am_on 12) (.invokevirtual 376, 288, 2, 12) := Or.inl ⟨by decide, by decide, ⟨by decide, by decide +kernel, rfl, kw_1457, kw_1455, kp_68⟩⟩
theorem pk_507 : am_okP (am_on 12) (.invokevirtual 379, 289, 2, 12) := Or.inl ⟨by decide, by decide, ⟨by decide, by decide +kernel, rfl, kw_1453, kw_1451, kp_67⟩⟩
theorem pk_508 : am_okP (am_on 12) (.invokevirtual 382, 296, 2, 12) := Or.inl ⟨by decide, by decide, ⟨by decide, by decide +kernel, rfl, kw_1481, kw_1479, kp_69⟩⟩
theorem pk_509 : am_okP (am_on 12) (.getfield 224, 70, 12, 2) := Or.inr ⟨by decide, am_okF1 (by decide) kw_1017 ⟨by decide, rfl, rfl, rfl, rfl, rfl⟩ rfl⟩
theorem pk_510 : am_okP (am_on 14) (.getfield 9, 0, 13, 2) := Or.inl ⟨rfl, Or.inl ⟨rfl, kw_1504⟩⟩
theorem pk_511 : am_okP (am_on 14) (.invokevirtual 335, 305, 0, 13) := Or.inr (Or.inl ⟨by decide, rfl, ⟨by decide, by decide +kernel, rfl, kw_462, kw_461, kw_463⟩⟩)
theorem pk_512 : am_okP (am_on 14) (.getstatic 38, 0, 0, 0) := Or.inl ⟨rfl, kw_465⟩
theorem pk_513 : am_okP (am_on 14) (.getfield 15, 1, 13, 0) := Or.inl ⟨rfl, Or.inr ⟨rfl, kw_1505⟩⟩
theorem pk_514 : am_okP (am_on 14) (.invokevirtual 492, 307, 0, 13) := Or.inr (Or.inl ⟨by decide, rfl, ⟨by decide, by decide +kernel, rfl, kw_472, kw_471, kw_473⟩⟩)
theorem pk_515 : am_okP (am_on 14) (.invokestatic 495, 208, 2, 0) := Or.inr ⟨rfl, by decide, by decide +kernel, kw_476, Or.inl kw_475⟩
theorem pk_516 : am_okP (am_on 15) (.invokestatic 9, 209, 2, 0) := Or.inr ⟨rfl, by decide, by decide +kernel, kw_479, Or.inl kw_478⟩
theorem pk_517 : am_okP (am_on 14) (.getstatic 1053, 1, 0, 0) := Or.inr ⟨rfl, kw_481⟩
theorem pk_518 : am_okP (am_on 14) (.invokestatic 1059, 210, 3, 0) := Or.inr ⟨rfl, by decide, by decide +kernel, kw_484, Or.inl kw_483⟩
theorem pk_519 : am_okP (am_on 17) (.new 7, 11, 0, 0) := ⟨by decide, kw_20, kw_21, kw_1⟩
theorem pk_520 : am_okP (am_on 17) (.invokespecial 9, 66, 0, 0) := Or.inr ⟨rfl, Or.inl ⟨by decide, by decide +kernel, rfl, rfl, kw_23, Or.inl kw_22⟩⟩
theorem pk_521 : am_okP (am_on 17) (.new 10, 12, 0, 0) := ⟨by decide, kw_941, kw_942, kw_5⟩
theorem pk_522 : am_okP (am_on 17) (.invokespecial 12, 118, 0, 0) := Or.inr ⟨rfl, Or.inl ⟨by decide, by decide +kernel, rfl, rfl, kw_944, Or.inl kw_943⟩⟩
theorem pk_523 : am_okP (am_on 17) (.invokevirtual 13, 167, 4, 11) := Or.inl ⟨by decide, by decide, ⟨by decide, by decide +kernel, rfl, kw_236, kw_235, kw_237⟩⟩
theorem pk_524 : am_okP (am_on 17) (.invokevirtual 17, 221, 4, 12) := Or.inl ⟨by decide, by decide, ⟨by decide, by decide +kernel, rfl, kw_1162, kw_1161, kw_1163⟩⟩
theorem pk_525 : am_okP (am_on 17) (.invokevirtual 18, 168, 2, 11) := Or.inl ⟨by decide, by decide, ⟨by decide, by decide +kernel, rfl, kw_366, kw_365, kw_367⟩⟩
theorem pk_526 : am_okP (am_on 17) (.invokevirtual 22, 222, 2, 12) := Or.inl ⟨by decide, by decide, ⟨by decide, by decide +kernel, rfl, kw_1170, kw_1169, kw_1171⟩⟩
theorem pk_527 : am_okP (am_on 17) (.invokevirtual 23, 169, 3, 11) := Or.inl ⟨by decide, by decide, ⟨by decide, by decide +kernel, rfl, kw_374, kw_373, kw_375⟩⟩
theorem pk_528 : am_okP (am_on 17) (.invokevirtual 27, 223, 3, 12) := Or.inl ⟨by decide, by decide, ⟨by decide, by decide +kernel, rfl, kw_1178, kw_1177, kw_1179⟩⟩
theorem pk_529 : am_okP (am_on 17) (.invokevirtual 28, 170, 2, 11) := Or.inl ⟨by decide, by decide, ⟨by decide, by decide +kernel, rfl, kw_378, kw_377, kw_379⟩⟩
theorem pk_530 : am_okP (am_on 17) (.invokevirtual 31, 224, 2, 12) := Or.inl ⟨by decide, by decide, ⟨by decide, by decide +kernel, rfl, kw_1182, kw_1181, kw_1183⟩⟩
theorem pk_531 : am_okP (am_on 17) (.invokevirtual 32, 171, 3, 11) := Or.inl ⟨by decide, by decide, ⟨by decide, by decide +kernel, rfl, kw_382, kw_381, kw_383⟩⟩
theorem pk_532 : am_okP (am_on 17) (.invokevirtual 35, 225, 3, 12) := Or.inl ⟨by decide, by decide, ⟨by decide, by decide +kernel, rfl, kw_1186, kw_1185, kw_1187⟩⟩
theorem pk_533 : am_okP (am_on 17) (.invokevirtual 36, 172, 1, 11) := Or.inl ⟨by decide, by decide, ⟨by decide, by decide +kernel, rfl, kw_386, kw_385, kw_387⟩⟩
theorem pk_534 : am_okP (am_on 17) (.invokevirtual 40, 226, 1, 12) := Or.inl ⟨by decide, by decide, ⟨by decide, by decide +kernel, rfl, kw_1190, kw_1189, kw_1191⟩⟩
theorem pk_535 : am_okP (am_on 17) (.invokevirtual 41, 173, 0, 11) := Or.inl ⟨by decide, by decide, ⟨by decide, by decide +kernel, rfl, kw_399, kw_398, kw_400⟩⟩
theorem pk_536 : am_okP (am_on 17) (.invokevirtual 45, 241, 0, 12) := Or.inl ⟨by decide, by decide, ⟨by decide, by decide +kernel, rfl, kw_1194, kw_1193, kw_1195⟩⟩
theorem pk_537 : am_okP (am_on 17) (.invokevirtual 46, 174, 1, 11) := Or.inl ⟨by decide, by decide, ⟨by decide, by decide +kernel, rfl, kw_546, kw_545, kw_547⟩⟩
theorem pk_538 : am_okP (am_on 17) (.invokevirtual 49, 251, 1, 12) := Or.inl ⟨by decide, by decide, ⟨by decide, by decide +kernel, rfl, kw_1254, kw_1253, kw_1255⟩⟩
theorem pk_539 : am_okP (am_on 17) (.invokevirtual 50, 175, 1, 11) := Or.inl ⟨by decide, by decide, ⟨by decide, by decide +kernel, rfl, kw_563, kw_562, kw_564⟩⟩
theorem pk_540 : am_okP (am_on 17) (.invokevirtual 53, 252, 1, 12) := Or.inl ⟨by decide, by decide, ⟨by decide, by decide +kernel, rfl, kw_1270, kw_1269, kw_1271⟩⟩
theorem pk_541 : am_okP (am_on 17) (.invokevirtual 54, 176, 1, 11) := Or.inl ⟨by decide, by decide, ⟨by decide, by decide +kernel, rfl, kw_567, kw_566, kw_568⟩⟩
theorem pk_542 : am_okP (am_on 17) (.invokevirtual 57, 258, 1, 12) := Or.inl ⟨by decide, by decide, ⟨by decide, by decide +kernel, rfl, kw_1274, kw_1273, kw_1275⟩⟩
theorem pk_543 : am_okP (am_on 17) (.invokevirtual 58, 177, 2, 11) := Or.inl ⟨by decide, by decide, ⟨by decide, by decide +kernel, rfl, kw_662, kw_661, kw_663⟩⟩
theorem pk_544 : am_okP (am_on 17) (.invokevirtual 61, 259, 2, 12) := Or.inl ⟨by decide, by decide, ⟨by decide, by decide +kernel, rfl, kw_1324, kw_1323, kw_1325⟩⟩
theorem pk_545 : am_okP (am_on 17) (.invokevirtual 62, 178, 2, 11) := Or.inl ⟨by decide, by decide, ⟨by decide, by decide +kernel, rfl, kw_666, kw_665, kw_667⟩⟩
theorem pk_546 : am_okP (am_on 17) (.invokevirtual 65, 261, 2, 12) := Or.inl ⟨by decide, by decide, ⟨by decide, by decide +kernel, rfl, kw_1328, kw_1327, kw_1329⟩⟩
theorem pk_547 : am_okP (am_on 17) (.invokevirtual 66, 179, 2, 11) := Or.inl ⟨by decide, by decide, ⟨by decide, by decide +kernel, rfl, kw_679, kw_678, kw_680⟩⟩
theorem pk_548 : am_okP (am_on 17) (.invokevirtual 69, 262, 2, 12) := Or.inl ⟨by decide, by decide, ⟨by decide, by decide +kernel, rfl, kw_1336, kw_1335, kw_1337⟩⟩
theorem pk_549 : am_okP (am_on 17) (.invokevirtual 70, 180, 2, 11) := Or.inl ⟨by decide, by decide, ⟨by decide, by decide +kernel, rfl, kw_683, kw_682, kw_684⟩⟩
theorem pk_550 : am_okP (am_on 17) (.invokevirtual 73, 263, 2, 12) := Or.inl ⟨by decide, by decide, ⟨by decide, by decide +kernel, rfl, kw_1340, kw_1339, kw_1341⟩⟩
theorem pk_551 : am_okP (am_on 17) (.invokevirtual 74, 181, 2, 11) := Or.inl ⟨by decide, by decide, ⟨by decide, by decide +kernel, rfl, kw_687, kw_686, kw_688⟩⟩
theorem pk_552 : am_okP (am_on 17) (.invokevirtual 77, 264, 2, 12) := Or.inl ⟨by decide, by decide, ⟨by decide, by decide +kernel, rfl, kw_1344, kw_1343, kw_1345⟩⟩
theorem pk_553 : am_okP (am_on 17) (.invokevirtual 78, 182, 2, 11) := Or.inl ⟨by decide, by decide, ⟨by decide, by decide +kernel, rfl, kw_691, kw_690, kw_692⟩⟩
theorem pk_554 : am_okP (am_on 17) (.invokevirtual 81, 266, 2, 12) := Or.inl ⟨by decide, by decide, ⟨by decide, by decide +kernel, rfl, kw_1348, kw_1347, kw_1349⟩⟩
theorem pk_555 : am_okP (am_on 17) (.invokevirtual 82, 183, 1, 11) := Or.inl ⟨by decide, by decide, ⟨by decide, by decide +kernel, rfl, kw_699, kw_698, kw_700⟩⟩
theorem pk_556 : am_okP (am_on 17) (.invokevirtual 85, 267, 1, 12) := Or.inl ⟨by decide, by decide, ⟨by decide, by decide +kernel, rfl, kw_1356, kw_1355, kw_1357⟩⟩
theorem pk_557 : am_okP (am_on 17) (.invokevirtual 86, 184, 2, 11) := Or.inl ⟨by decide, by decide, ⟨by decide, by decide +kernel, rfl, kw_703, kw_702, kw_704⟩⟩
theorem pk_558 : am_okP (am_on 17) (.invokevirtual 89, 268, 2, 12) := Or.inl ⟨by decide, by decide, ⟨by decide, by decide +kernel, rfl, kw_1360, kw_1359, kw_1361⟩⟩
theorem pk_559 : am_okP (am_on 17) (.invokevirtual 90, 185, 3, 11) := Or.inl ⟨by decide, by decide, ⟨by decide, by decide +kernel, rfl, kw_711, kw_710, kw_712⟩⟩
theorem pk_560 : am_okP (am_on 17) (.invokevirtual 93, 269, 3, 12) := Or.inl ⟨by decide, by decide, ⟨by decide, by decide +kernel, rfl, kw_1364, kw_1363, kw_1365⟩⟩
theorem pk_561 : am_okP (am_on 17) (.invokevirtual 94, 186, 0, 11) := Or.inl ⟨by decide, by decide, ⟨by decide, by decide +kernel, rfl, kw_715, kw_714, kw_716⟩⟩
theorem pk_562 : am_okP (am_on 17) (.invokevirtual 97, 271, 0, 12) := Or.inl ⟨by decide, by decide, ⟨by decide, by decide +kernel, rfl, kw_1368, kw_1367, kw_1369⟩⟩
theorem pk_563 : am_okP (am_on 17) (.invokevirtual 98, 187, 1, 11) := Or.inl ⟨by decide, by decide, ⟨by decide, by decide +kernel, rfl, kw_723, kw_722, kw_724⟩⟩
theorem pk_564 : am_okP (am_on 17) (.invokevirtual 101, 272, 1, 12) := Or.inl ⟨by decide, by decide, ⟨by decide, by decide +kernel, rfl, kw_1376, kw_1375, kw_1377⟩⟩
theorem pk_565 : am_okP (am_on 17) (.invokevirtual 102, 188, 2, 11) := Or.inl ⟨by decide, by decide, ⟨by decide, by decide +kernel, rfl, kw_728, kw_727, kw_729⟩⟩
theorem pk_566 : am_okP (am_on 17) (.invokevirtual 106, 275, 2, 12) := Or.inl ⟨by decide, by decide, ⟨by decide, by decide +kernel, rfl, kw_1381, kw_1380, kw_1382⟩⟩
theorem pk_567 : am_okP (am_on 17) (.invokevirtual 107, 189, 2, 11) := Or.inl ⟨by decide, by decide, ⟨by decide, by decide +kernel, rfl, kw_736, kw_735, kw_737⟩⟩
theorem pk_568 : am_okP (am_on 17) (.invokevirtual 110, 276, 2, 12) := Or.inl ⟨by decide, by decide, ⟨by decide, by decide +kernel, rfl, kw_1395, kw_1394, kw_1396⟩⟩
theorem pk_569 : am_okP (am_on 17) (.invokevirtual 111, 190, 2, 11) := Or.inl ⟨by decide, by decide, ⟨by decide, by decide +kernel, rfl, kw_740, kw_739, kw_741⟩⟩
theorem pk_570 : am_okP (am_on 17) (.invokevirtual 115, 277, 2, 12) := Or.inl ⟨by decide, by decide, ⟨by decide, by decide +kernel, rfl, kw_1400, kw_1399, kw_1401⟩⟩
theorem pk_571 : am_okP (am_on 17) (.invokevirtual 116, 191, 0, 11) := Or.inl ⟨by decide, by decide, ⟨by decide, by decide +kernel, rfl, kw_744, kw_743, kw_745⟩⟩
theorem pk_572 : am_okP (am_on 17) (.invokevirtual 119, 278, 0, 12) := Or.inl ⟨by decide, by decide, ⟨by decide, by decide +kernel, rfl, kw_1404, kw_1403, kw_1405⟩⟩
theorem pk_573 : am_okP (am_on 17) (.invokevirtual 120, 192, 2, 11) := Or.inl ⟨by decide, by decide, ⟨by decide, by decide +kernel, rfl, kw_748, kw_747, kw_749⟩⟩
theorem pk_574 : am_okP (am_on 17) (.invokevirtual 123, 279, 2, 12) := Or.inl ⟨by decide, by decide, ⟨by decide, by decide +kernel, rfl, kw_1408, kw_1407, kw_1409⟩⟩
theorem pk_575 : am_okP (am_on 17) (.invokevirtual 124, 193, 0, 11) := Or.inl ⟨by decide, by decide, ⟨by decide, by decide +kernel, rfl, kw_759, kw_758, kw_760⟩⟩
theorem pk_576 : am_okP (am_on 17) (.invokevirtual 127, 280, 0, 12) := Or.inl ⟨by decide, by decide, ⟨by decide, by decide +kernel, rfl, kw_1416, kw_1415, kw_1417⟩⟩
theorem pk_577 : am_okP (am_on 17) (.invokevirtual 128, 194, 0, 11) := Or.inl ⟨by decide, by decide, ⟨by decide, by decide +kernel, rfl, kw_791, kw_790, kw_792⟩⟩
theorem pk_578 : am_okP (am_on 17) (.invokevirtual 131, 281, 0, 12) := Or.inl ⟨by decide, by decide, ⟨by decide, by decide +kernel, rfl, kw_1420, kw_1419, kw_1421⟩⟩
theorem pk_579 : am_okP (am_on 17) (.invokevirtual 132, 195, 3, 11) := Or.inl ⟨by decide, by decide, ⟨by decide, by decide +kernel, rfl, kw_815, kw_814, kw_816⟩⟩
theorem pk_580 : am_okP (am_on 17) (.invokevirtual 135, 290, 3, 12) := Or.inl ⟨by decide, by decide, ⟨by decide, by decide +kernel, rfl, kw_1424, kw_1423, kw_1425⟩⟩
theorem pk_581 : am_okP (am_on 17) (.invokevirtual 136, 196, 1, 11) := Or.inl ⟨by decide, by decide, ⟨by decide, by decide +kernel, rfl, kw_903, kw_902, kw_904⟩⟩
theorem pk_582 : am_okP (am_on 17) (.invokevirtual 139, 291, 1, 12) := Or.inl ⟨by decide, by decide, ⟨by decide, by decide +kernel, rfl, kw_1460, kw_1459, kw_1461⟩⟩
theorem pk_583 : am_okP (am_on 17) (.invokevirtual 140, 197, 2, 11) := Or.inl ⟨by decide, by decide, ⟨by decide, by decide +kernel, rfl, kw_907, kw_906, kw_908⟩⟩
theorem pk_584 : am_okP (am_on 17) (.invokevirtual 143, 292, 2, 12) := Or.inl ⟨by decide, by decide, ⟨by decide, by decide +kernel, rfl, kw_1464, kw_1463, kw_1465⟩⟩
theorem pk_585 : am_okP (am_on 17) (.invokevirtual 144, 198, 1, 11) := Or.inl ⟨by decide, by decide, ⟨by decide, by decide +kernel, rfl, kw_914, kw_913, kw_915⟩⟩
theorem pk_586 : am_okP (am_on 17) (.invokevirtual 147, 293, 1, 12) := Or.inl ⟨by decide, by decide, ⟨by decide, by decide +kernel, rfl, kw_1468, kw_1467, kw_1469⟩⟩
theorem pk_587 : am_okP (am_on 17) (.invokevirtual 148, 199, 3, 11) := Or.inl ⟨by decide, by decide, ⟨by decide, by decide +kernel, rfl, kw_918, kw_917, kw_919⟩⟩
theorem pk_588 : am_okP (am_on 17) (.invokevirtual 151, 295, 3, 12) := Or.inl ⟨by decide, by decide, ⟨by decide, by decide +kernel, rfl, kw_1472, kw_1471, kw_1473⟩⟩
theorem pk_589 : am_okP (am_on 17) (.sipush 4294967295, 152, 1, 0) := Or.inr kw_1491
theorem pk_590 : am_okP (am_on 17) (.invokevirtual 154, 200, 3, 11) := Or.inl ⟨by decide, by decide, ⟨by decide, by decide +kernel, rfl, kw_922, kw_921, kw_923⟩⟩
theorem pk_591 : am_okP (am_on 17) (.invokevirtual 158, 297, 3, 12) := Or.inl ⟨by decide, by decide, ⟨by decide, by decide +kernel, rfl, kw_1476, kw_1475, kw_1477⟩⟩
theorem pk_592 : am_okP (am_on 17) (.invokevirtual 159, 201, 2, 11) := Or.inl ⟨by decide, by decide, ⟨by decide, by decide +kernel, rfl, kw_929, kw_928, kw_930⟩⟩
theorem pk_593 : am_okP (am_on 17) (.invokevirtual 162, 298, 2, 12) := Or.inl ⟨by decide, by decide, ⟨by decide, by decide +kernel, rfl, kw_1484, kw_1483, kw_1485⟩⟩
theorem pk_594 : am_okP (am_on 17) (.invokevirtual 163, 202, 5, 11) := Or.inl ⟨by decide, by decide, ⟨by decide, by decide +kernel, rfl, kw_933, kw_932, kw_934⟩⟩
theorem pk_595 : am_okP (am_on 17) (.invokevirtual 167, 299, 5, 12) := Or.inl ⟨by decide, by decide, ⟨by decide, by decide +kernel, rfl, kw_1488, kw_1487, kw_1489⟩⟩
def am_pl0 : List am_Q := [(.invokespecial 3, 0, 0, 1), (.putfield 9, 5, 0, 0), (.putfield 15, 0, 0, 0), (.putfield 18, 1, 0, 0), (.putfield 21, 2, 0, 0), (.putfield 24, 3, 0, 0), (.putfield 27, 4, 0, 0), (.getfield 18, 1, 0, 0), (.getfield 15, 0, 0, 0), (.getfield 21, 2, 0, 0), (.getfield 24, 3, 0, 0), (.getfield 27, 4, 0, 0), (.getfield 9, 5, 0, 0), (.getfield 32, 7, 3, 0), (.getfield 37, 2, 3, 0), (.invokestatic 38, 9, 2, 0), (.invokevirtual 42, 5, 2, 0), (.invokevirtual 46, 6, 2, 0)]
set_option maxRecDepth 100000 in
theorem am_plok0 : ∀ q ∈ am_pl0, am_okP (am_on 0) q := List.forall_mem_cons.mpr ⟨pk_0, List.forall_mem_cons.mpr ⟨pk_1, List.forall_mem_cons.mpr ⟨pk_2, List.forall_mem_cons.mpr ⟨pk_3, List.forall_mem_cons.mpr ⟨pk_4, List.forall_mem_cons.mpr ⟨pk_5, List.forall_mem_cons.mpr ⟨pk_6, List.forall_mem_cons.mpr ⟨pk_7, List.forall_mem_cons.mpr ⟨pk_8, List.forall_mem_cons.mpr ⟨pk_9, List.forall_mem_cons.mpr ⟨pk_10, List.forall_mem_cons.mpr ⟨pk_11, List.forall_mem_cons.mpr ⟨pk_12, List.forall_mem_cons.mpr ⟨pk_13, List.forall_mem_cons.mpr ⟨pk_14, List.forall_mem_cons.mpr ⟨pk_15, List.forall_mem_cons.mpr ⟨pk_16, List.forall_mem_cons.mpr ⟨pk_17, (fun _ h => absurd h List.not_mem_nil)⟩⟩⟩⟩⟩⟩⟩⟩⟩⟩⟩⟩⟩⟩⟩⟩⟩⟩
def am_pl1 : List am_Q := [(.invokespecial 1, 0, 5, 0), (.getfield 7, 7, 3, 0), (.getfield 13, 2, 3, 0), (.getfield 16, 2, 0, 0), (.invokestatic 21, 9, 2, 0), (.invokespecial 25, 7, 2, 0)]
set_option maxRecDepth 100000 in
theorem am_plok1 : ∀ q ∈ am_pl1, am_okP (am_on 1) q := List.forall_mem_cons.mpr ⟨pk_18, List.forall_mem_cons.mpr ⟨pk_19, List.forall_mem_cons.mpr ⟨pk_20, List.forall_mem_cons.mpr ⟨pk_21, List.forall_mem_cons.mpr ⟨pk_22, List.forall_mem_cons.mpr ⟨pk_23, (fun _ h => absurd h List.not_mem_nil)⟩⟩⟩⟩⟩⟩
def am_pl2 : List am_Q := [(.invokespecial 1, 0, 5, 0), (.invokespecial 7, 5, 1, 0), (.getfield 11, 8, 3, 0), (.getfield 17, 7, 3, 0), (.getfield 20, 2, 0, 0), (.invokestatic 25, 9, 2, 0), (.invokespecial 29, 6, 2, 0)]
set_option maxRecDepth 100000 in
theorem am_plok2 : ∀ q ∈ am_pl2, am_okP (am_on 2) q := List.forall_mem_cons.mpr ⟨pk_24, List.forall_mem_cons.mpr ⟨pk_25, List.forall_mem_cons.mpr ⟨pk_26, List.forall_mem_cons.mpr ⟨pk_27, List.forall_mem_cons.mpr ⟨pk_28, List.forall_mem_cons.mpr ⟨pk_29, List.forall_mem_cons.mpr ⟨pk_30, (fun _ h => absurd h List.not_mem_nil)⟩⟩⟩⟩⟩⟩⟩
def am_pl3 : List am_Q := [(.invokespecial 3, 0, 0, 1), (.putfield 9, 0, 3, 2), (.putfield 15, 1, 3, 0), (.putfield 19, 2, 3, 0), (.putfield 22, 3, 3, 0), (.putfield 25, 4, 3, 0), (.putfield 28, 5, 3, 0), (.putfield 31, 6, 3, 1), (.putfield 35, 7, 3, 0), (.putfield 38, 8, 3, 0), (.putfield 41, 9, 3, 0), (.putfield 44, 10, 3, 0), (.putfield 47, 11, 3, 0), (.putfield 50, 12, 3, 0), (.putfield 53, 13, 3, 1), (.putfield 58, 14, 3, 2), (.getfield 58, 14, 3, 2), (.invokevirtual 62, 0, 1, 0), (.getfield 15, 1, 3, 0), (.getfield 22, 3, 3, 0), (.invokevirtual 68, 118, 1, 3), (.getfield 38, 8, 3, 0), (.getfield 35, 7, 3, 0), (.invokevirtual 72, 120, 0, 3), (.invokevirtual 75, 4, 1, 0), (.invokevirtual 79, 119, 0, 3), (.getfield 44, 10, 3, 0), (.getfield 28, 5, 3, 0), (.getfield 31, 6, 3, 1), (.invokevirtual 82, 121, 2, 3), (.invokevirtual 86, 3, 1, 0), (.getfield 41, 9, 3, 0), (.getfield 25, 4, 3, 0), (.getfield 47, 11, 3, 0), (.bipush 99999, 90, 1, 0), (.invokestatic 91, 202, 2, 0), (.getfield 9, 0, 3, 2), (.invokevirtual 96, 134, 3, 6)]
set_option maxRecDepth 100000 in
theorem am_plok3 : ∀ q ∈ am_pl3, am_okP (am_on 3) q := List.forall_mem_cons.mpr ⟨pk_31, List.forall_mem_cons.mpr ⟨pk_32, List.forall_mem_cons.mpr ⟨pk_33, List.forall_mem_cons.mpr ⟨pk_34, List.forall_mem_cons.mpr ⟨pk_35, List.forall_mem_cons.mpr ⟨pk_36, List.forall_mem_cons.mpr ⟨pk_37, List.forall_mem_cons.mpr ⟨pk_38, List.forall_mem_cons.mpr ⟨pk_39, List.forall_mem_cons.mpr ⟨pk_40, List.forall_mem_cons.mpr ⟨pk_41, List.forall_mem_cons.mpr ⟨pk_42, List.forall_mem_cons.mpr ⟨pk_43, List.forall_mem_cons.mpr ⟨pk_44, List.forall_mem_cons.mpr ⟨pk_45, List.forall_mem_cons.mpr ⟨pk_46, List.forall_mem_cons.mpr ⟨pk_47, List.forall_mem_cons.mpr ⟨pk_48, List.forall_mem_cons.mpr ⟨pk_49, List.forall_mem_cons.mpr ⟨pk_50, List.forall_mem_cons.mpr ⟨pk_51, List.forall_mem_cons.mpr ⟨pk_52, List.forall_mem_cons.mpr ⟨pk_53, List.forall_mem_cons.mpr ⟨pk_54, List.forall_mem_cons.mpr ⟨pk_55, List.forall_mem_cons.mpr ⟨pk_56, List.forall_mem_cons.mpr ⟨pk_57, List.forall_mem_cons.mpr ⟨pk_58, List.forall_mem_cons.mpr ⟨pk_59, List.forall_mem_cons.mpr ⟨pk_60, List.forall_mem_cons.mpr ⟨pk_61, List.forall_mem_cons.mpr ⟨pk_62, List.forall_mem_cons.mpr ⟨pk_63, List.forall_mem_cons.mpr ⟨pk_64, List.forall_mem_cons.mpr ⟨pk_65, List.forall_mem_cons.mpr ⟨pk_66, List.forall_mem_cons.mpr ⟨pk_67, List.forall_mem_cons.mpr ⟨pk_68, (fun _ h => absurd h List.not_mem_nil)⟩⟩⟩⟩⟩⟩⟩⟩⟩⟩⟩⟩⟩⟩⟩⟩⟩⟩⟩⟩⟩⟩⟩⟩⟩⟩⟩⟩⟩⟩⟩⟩⟩⟩⟩⟩⟩⟩
def am_pl4 : List am_Q := [(.invokespecial 1, 10, 5, 0), (.getfield 7, 9, 3, 0), (.invokespecial 13, 11, 1, 0), (.invokestatic 17, 9, 2, 0), (.invokespecial 23, 6, 2, 0), (.invokespecial 27, 12, 2, 0)]
set_option maxRecDepth 100000 in
theorem am_plok4 : ∀ q ∈ am_pl4, am_okP (am_on 4) q := List.forall_mem_cons.mpr ⟨pk_69, List.forall_mem_cons.mpr ⟨pk_70, List.forall_mem_cons.mpr ⟨pk_71, List.forall_mem_cons.mpr ⟨pk_72, List.forall_mem_cons.mpr ⟨pk_73, List.forall_mem_cons.mpr ⟨pk_74, (fun _ h => absurd h List.not_mem_nil)⟩⟩⟩⟩⟩⟩
def am_pl5 : List am_Q := [(.invokespecial 1, 0, 5, 0), (.invokestatic 7, 9, 2, 0), (.invokespecial 13, 8, 2, 0), (.invokevirtual 17, 6, 2, 5)]
set_option maxRecDepth 100000 in
theorem am_plok5 : ∀ q ∈ am_pl5, am_okP (am_on 5) q := List.forall_mem_cons.mpr ⟨pk_75, List.forall_mem_cons.mpr ⟨pk_76, List.forall_mem_cons.mpr ⟨pk_77, List.forall_mem_cons.mpr ⟨pk_78, (fun _ h => absurd h List.not_mem_nil)⟩⟩⟩⟩
def am_pl6 : List am_Q := [(.invokespecial 1, 0, 0, 1), (.putfield 9, 0, 6, 2), (.putfield 13, 1, 6, 2), (.putfield 16, 2, 6, 2), (.putfield 19, 3, 6, 0), (.putfield 25, 4, 6, 2), (.putfield 28, 5, 6, 2), (.putfield 31, 6, 6, 2), (.putfield 34, 7, 6, 0), (.getfield 34, 7, 6, 0), (.getfield 25, 4, 6, 2), (.getfield 28, 5, 6, 2), (.getfield 31, 6, 6, 2), (.getfield 19, 3, 6, 0), (.getfield 9, 0, 6, 2), (.getfield 13, 1, 6, 2), (.getfield 16, 2, 6, 2), (.invokevirtual 37, 135, 3, 6)]
set_option maxRecDepth 100000 in
theorem am_plok6 : ∀ q ∈ am_pl6, am_okP (am_on 6) q := List.forall_mem_cons.mpr ⟨pk_79, List.forall_mem_cons.mpr ⟨pk_80, List.forall_mem_cons.mpr ⟨pk_81, List.forall_mem_cons.mpr ⟨pk_82, List.forall_mem_cons.mpr ⟨pk_83, List.forall_mem_cons.mpr ⟨pk_84, List.forall_mem_cons.mpr ⟨pk_85, List.forall_mem_cons.mpr ⟨pk_86, List.forall_mem_cons.mpr ⟨pk_87, List.forall_mem_cons.mpr ⟨pk_88, List.forall_mem_cons.mpr ⟨pk_89, List.forall_mem_cons.mpr ⟨pk_90, List.forall_mem_cons.mpr ⟨pk_91, List.forall_mem_cons.mpr ⟨pk_92, List.forall_mem_cons.mpr ⟨pk_93, List.forall_mem_cons.mpr ⟨pk_94, List.forall_mem_cons.mpr ⟨pk_95, List.forall_mem_cons.mpr ⟨pk_96, (fun _ h => absurd h List.not_mem_nil)⟩⟩⟩⟩⟩⟩⟩⟩⟩⟩⟩⟩⟩⟩⟩⟩⟩⟩
def am_pl7 : List am_Q := [(.invokespecial 3, 0, 0, 1), (.anewarray 9, 24, 0, 0), (.putfield 11, 0, 7, 2), (.putfield 17, 1, 7, 0), (.putfield 21, 2, 7, 2), (.putfield 25, 3, 7, 0), (.putfield 28, 4, 7, 0), (.putfield 31, 5, 7, 2), (.putfield 34, 6, 7, 2), (.putfield 37, 7, 7, 2), (.putfield 40, 8, 7, 0), (.putfield 43, 9, 7, 2), (.putfield 46, 10, 7, 2), (.putfield 50, 11, 7, 0), (.multianewarray 53 2, 26, 20, 0), (.putfield 55, 12, 7, 2), (.getfield 21, 2, 7, 2), (.invokestatic 58, 38, 3, 0), (.invokestatic 62, 200, 1, 0), (.invokestatic 68, 201, 2, 0), (.getfield 11, 0, 7, 2), (.getfield 17, 1, 7, 0), (.invokestatic 72, 0, 5, 1), (.getfield 25, 3, 7, 0), (.getfield 28, 4, 7, 0), (.getfield 31, 5, 7, 2), (.getfield 34, 6, 7, 2), (.getfield 37, 7, 7, 2), (.getfield 40, 8, 7, 0), (.getfield 43, 9, 7, 2), (.getfield 46, 10, 7, 2), (.getfield 50, 11, 7, 0), (.getfield 55, 12, 7, 2), (.invokevirtual 78, 1, 1, 0), (.invokevirtual 82, 2, 1, 0)]
set_option maxRecDepth 100000 in
theorem am_plok7 : ∀ q ∈ am_pl7, am_okP (am_on 7) q := List.forall_mem_cons.mpr ⟨pk_97, List.forall_mem_cons.mpr ⟨pk_98, List.forall_mem_cons.mpr ⟨pk_99, List.forall_mem_cons.mpr ⟨pk_100, List.forall_mem_cons.mpr ⟨pk_101, List.forall_mem_cons.mpr ⟨pk_102, List.forall_mem_cons.mpr ⟨pk_103, List.forall_mem_cons.mpr ⟨pk_104, List.forall_mem_cons.mpr ⟨pk_105, List.forall_mem_cons.mpr ⟨pk_106, List.forall_mem_cons.mpr ⟨pk_107, List.forall_mem_cons.mpr ⟨pk_108, List.forall_mem_cons.mpr ⟨pk_109, List.forall_mem_cons.mpr ⟨pk_110, List.forall_mem_cons.mpr ⟨pk_111, List.forall_mem_cons.mpr ⟨pk_112, List.forall_mem_cons.mpr ⟨pk_113, List.forall_mem_cons.mpr ⟨pk_114, List.forall_mem_cons.mpr ⟨pk_115, List.forall_mem_cons.mpr ⟨pk_116, List.forall_mem_cons.mpr ⟨pk_117, List.forall_mem_cons.mpr ⟨pk_118, List.forall_mem_cons.mpr ⟨pk_119, List.forall_mem_cons.mpr ⟨pk_120, List.forall_mem_cons.mpr ⟨pk_121, List.forall_mem_cons.mpr ⟨pk_122, List.forall_mem_cons.mpr ⟨pk_123, List.forall_mem_cons.mpr ⟨pk_124, List.forall_mem_cons.mpr ⟨pk_125, List.forall_mem_cons.mpr ⟨pk_126, List.forall_mem_cons.mpr ⟨pk_127, List.forall_mem_cons.mpr ⟨pk_128, List.forall_mem_cons.mpr ⟨pk_129, List.forall_mem_cons.mpr ⟨pk_130, List.forall_mem_cons.mpr ⟨pk_131, (fun _ h => absurd h List.not_mem_nil)⟩⟩⟩⟩⟩⟩⟩⟩⟩⟩⟩⟩⟩⟩⟩⟩⟩⟩⟩⟩⟩⟩⟩⟩⟩⟩⟩⟩⟩⟩⟩⟩⟩⟩⟩
def am_pl8 : List am_Q := [(.invokespecial 1, 0, 0, 1), (.putfield 9, 0, 8, 2), (.putfield 13, 1, 8, 0), (.putfield 17, 2, 8, 0), (.getfield 13, 1, 8, 0), (.invokevirtual 20, 143, 0, 8), (.getfield 9, 0, 8, 2), (.invokevirtual 24, 131, 0, 6), (.invokevirtual 29, 146, 1, 8), (.getfield 17, 2, 8, 0), (.invokevirtual 33, 155, 1, 8), (.invokevirtual 37, 147, 0, 8), (.invokevirtual 41, 149, 0, 8), (.invokevirtual 44, 150, 2, 8), (.invokevirtual 48, 133, 2, 6), (.invokevirtual 52, 156, 0, 8), (.ldc 55, 0, 0, 0), (.invokevirtual 57, 148, 1, 8), (.ldc 61, 1, 0, 0), (.ldc 63, 2, 0, 0), (.invokevirtual 65, 304, 0, 13), (.invokevirtual 69, 306, 1, 13), (.invokevirtual 73, 151, 2, 8), (.invokevirtual 76, 132, 3, 6), (.invokevirtual 80, 152, 2, 8), (.invokevirtual 83, 153, 1, 8), (.ldc 86, 3, 0, 0), (.invokevirtual 88, 154, 1, 8), (.ldc 92, 4, 0, 0)]
set_option maxRecDepth 100000 in
theorem am_plok8 : ∀ q ∈ am_pl8, am_okP (am_on 8) q := List.forall_mem_cons.mpr ⟨pk_132, List.forall_mem_cons.mpr ⟨pk_133, List.forall_mem_cons.mpr ⟨pk_134, List.forall_mem_cons.mpr ⟨pk_135, List.forall_mem_cons.mpr ⟨pk_136, List.forall_mem_cons.mpr ⟨pk_137, List.forall_mem_cons.mpr ⟨pk_138, List.forall_mem_cons.mpr ⟨pk_139, List.forall_mem_cons.mpr ⟨pk_140, List.forall_mem_cons.mpr ⟨pk_141, List.forall_mem_cons.mpr ⟨pk_142, List.forall_mem_cons.mpr ⟨pk_143, List.forall_mem_cons.mpr ⟨pk_144, List.forall_mem_cons.mpr ⟨pk_145, List.forall_mem_cons.mpr ⟨pk_146, List.forall_mem_cons.mpr ⟨pk_147, List.forall_mem_cons.mpr ⟨pk_148, List.forall_mem_cons.mpr ⟨pk_149, List.forall_mem_cons.mpr ⟨pk_150, List.forall_mem_cons.mpr ⟨pk_151, List.forall_mem_cons.mpr ⟨pk_152, List.forall_mem_cons.mpr ⟨pk_153, List.forall_mem_cons.mpr ⟨pk_154, List.forall_mem_cons.mpr ⟨pk_155, List.forall_mem_cons.mpr ⟨pk_156, List.forall_mem_cons.mpr ⟨pk_157, List.forall_mem_cons.mpr ⟨pk_158, List.forall_mem_cons.mpr ⟨pk_159, List.forall_mem_cons.mpr ⟨pk_160, (fun _ h => absurd h List.not_mem_nil)⟩⟩⟩⟩⟩⟩⟩⟩⟩⟩⟩⟩⟩⟩⟩⟩⟩⟩⟩⟩⟩⟩⟩⟩⟩⟩⟩⟩⟩
def am_pl9 : List am_Q := [(.invokespecial 3, 27, 5, 0), (.putfield 9, 6, 9, 2), (.invokespecial 15, 2, 1, 0), (.getfield 9, 6, 9, 2), (.invokestatic 19, 0, 5, 1), (.invokespecial 25, 3, 1, 0), (.getfield 28, 7, 3, 0), (.getfield 34, 2, 3, 0), (.getfield 37, 4, 3, 0), (.invokestatic 40, 203, 2, 0), (.invokestatic 46, 9, 2, 0), (.invokespecial 50, 7, 2, 0), (.invokespecial 54, 6, 2, 0), (.getfield 57, 2, 0, 0)]
set_option maxRecDepth 100000 in
theorem am_plok9 : ∀ q ∈ am_pl9, am_okP (am_on 9) q := List.forall_mem_cons.mpr ⟨pk_161, List.forall_mem_cons.mpr ⟨pk_162, List.forall_mem_cons.mpr ⟨pk_163, List.forall_mem_cons.mpr ⟨pk_164, List.forall_mem_cons.mpr ⟨pk_165, List.forall_mem_cons.mpr ⟨pk_166, List.forall_mem_cons.mpr ⟨pk_167, List.forall_mem_cons.mpr ⟨pk_168, List.forall_mem_cons.mpr ⟨pk_169, List.forall_mem_cons.mpr ⟨pk_170, List.forall_mem_cons.mpr ⟨pk_171, List.forall_mem_cons.mpr ⟨pk_172, List.forall_mem_cons.mpr ⟨pk_173, List.forall_mem_cons.mpr ⟨pk_174, (fun _ h => absurd h List.not_mem_nil)⟩⟩⟩⟩⟩⟩⟩⟩⟩⟩⟩⟩⟩⟩
def am_pl10 : List am_Q := [(.invokespecial 1, 13, 5, 0), (.invokespecial 7, 14, 1, 0), (.getfield 11, 9, 3, 0), (.getfield 17, 7, 3, 0), (.invokestatic 20, 9, 2, 0), (.getfield 26, 1, 0, 0), (.invokespecial 29, 8, 2, 0)]
set_option maxRecDepth 100000 in
theorem am_plok10 : ∀ q ∈ am_pl10, am_okP (am_on 10) q := List.forall_mem_cons.mpr ⟨pk_175, List.forall_mem_cons.mpr ⟨pk_176, List.forall_mem_cons.mpr ⟨pk_177, List.forall_mem_cons.mpr ⟨pk_178, List.forall_mem_cons.mpr ⟨pk_179, List.forall_mem_cons.mpr ⟨pk_180, List.forall_mem_cons.mpr ⟨pk_181, (fun _ h => absurd h List.not_mem_nil)⟩⟩⟩⟩⟩⟩⟩
def am_pl11 : List am_Q := [(.invokespecial 3, 0, 0, 1), (.new 9, 7, 0, 0), (.invokespecial 11, 36, 0, 0), (.putfield 12, 0, 11, 2), (.putfield 18, 1, 11, 2), (.new 21, 3, 0, 0), (.invokespecial 23, 16, 0, 0), (.putfield 24, 2, 11, 2), (.new 28, 8, 0, 0), (.invokespecial 30, 42, 0, 0), (.putfield 31, 3, 11, 2), (.anewarray 35, 25, 0, 0), (.putfield 37, 4, 11, 2), (.putfield 41, 5, 11, 0), (.putfield 45, 6, 11, 2), (.putfield 49, 7, 11, 2), (.putfield 53, 8, 11, 0), (.putfield 56, 9, 11, 0), (.putfield 59, 10, 11, 2), (.putfield 62, 11, 11, 2), (.putfield 65, 12, 11, 2), (.multianewarray 68 2, 27, 21, 0), (.putfield 70, 13, 11, 2), (.invokestatic 73, 103, 3, 0), (.getfield 12, 0, 11, 2), (.getfield 77, 1, 7, 0), (.getfield 80, 0, 7, 2), (.invokestatic 84, 105, 5, 0), (.putfield 77, 1, 7, 0), (.invokevirtual 88, 204, 1, 11), (.getfield 92, 0, 0, 0), (.getfield 97, 2, 0, 0), (.getfield 100, 3, 0, 0), (.getfield 103, 4, 0, 0), (.getfield 106, 5, 0, 0), (.putfield 100, 3, 0, 0), (.putfield 103, 4, 0, 0), (.getfield 109, 2, 7, 2), (.instanceof 112, 9, 0, 0), (.checkcast 112, 9, 0, 0), (.getfield 114, 6, 9, 2), (.getfield 31, 3, 11, 2), (.invokevirtual 117, 143, 0, 8), (.invokevirtual 121, 144, 1, 8), (.getfield 125, 1, 8, 0), (.getfield 41, 5, 11, 0), (.getfield 45, 6, 11, 2), (.new 35, 6, 0, 0), (.invokespecial 128, 30, 0, 0), (.invokevirtual 129, 145, 1, 8), (.putfield 125, 1, 8, 0), (.getfield 133, 2, 8, 0), (.getfield 37, 4, 11, 2), (.putfield 136, 4, 7, 0), (.getfield 136, 4, 7, 0), (.invokevirtual 139, 137, 0, 7), (.getfield 143, 3, 7, 0), (.putfield 143, 3, 7, 0), (.invokevirtual 146, 207, 1, 11), (.getfield 24, 2, 11, 2), (.invokevirtual 150, 117, 1, 3), (.getfield 153, 4, 3, 0), (.getfield 154, 12, 3, 0), (.bipush 999999, 157, 1, 0), (.invokestatic 158, 202, 2, 0), (.putfield 106, 5, 0, 0), (.getfield 164, 7, 3, 0), (.getfield 167, 11, 3, 0), (.getfield 170, 13, 3, 1), (.getfield 174, 10, 3, 0), (.invokevirtual 177, 209, 5, 11), (.invokevirtual 181, 211, 1, 11), (.getfield 53, 8, 11, 0), (.getfield 56, 9, 11, 0), (.getfield 49, 7, 11, 2), (.invokevirtual 184, 208, 2, 11), (.putfield 188, 8, 7, 0), (.getfield 188, 8, 7, 0), (.getfield 191, 5, 7, 2), (.getfield 194, 6, 7, 2), (.getfield 197, 7, 7, 2), (.invokevirtual 200, 212, 1, 11), (.bipush (-1000001), 204, 1, 0), (.putfield 205, 6, 3, 1), (.sipush (-9223372036854775808), 208, 1, 0), (.putfield 210, 5, 3, 0), (.invokestatic 213, 113, 3, 0), (.putfield 217, 11, 7, 0), (.getfield 217, 11, 7, 0), (.getfield 220, 9, 7, 2), (.getfield 223, 10, 7, 2), (.putfield 153, 4, 3, 0), (.invokestatic 227, 114, 1, 0), (.invokevirtual 230, 215, 1, 11), (.getfield 62, 11, 11, 2), (.getfield 65, 12, 11, 2), (.getfield 70, 13, 11, 2), (.getfield 18, 1, 11, 2), (.invokevirtual 233, 139, 1, 7), (.invokevirtual 237, 140, 0, 7), (.invokevirtual 240, 141, 0, 7), (.getfield 59, 10, 11, 2), (.invokevirtual 243, 5, 2, 0), (.invokevirtual 247, 6, 2, 0), (.invokevirtual 250, 7, 2, 0), (.invokestatic 253, 106, 2, 0), (.invokestatic 257, 117, 2, 0), (.invokevirtual 261, 216, 3, 11), (.invokestatic 264, 0, 5, 1), (.new 270, 1, 0, 0), (.invokespecial 272, 10, 5, 0), (.new 275, 2, 0, 0), (.invokespecial 277, 13, 5, 0), (.new 278, 5, 0, 0), (.invokespecial 280, 27, 5, 0), (.new 281, 4, 0, 0), (.invokespecial 283, 22, 5, 0), (.new 284, 10, 0, 0), (.invokespecial 286, 63, 5, 0), (.new 112, 9, 0, 0), (.invokespecial 287, 57, 5, 0), (.new 93, 0, 0, 0), (.invokespecial 288, 0, 5, 0), (.instanceof 270, 1, 0, 0), (.instanceof 275, 2, 0, 0), (.instanceof 278, 5, 0, 0), (.instanceof 281, 4, 0, 0), (.instanceof 284, 10, 0, 0), (.putfield 289, 0, 3, 2), (.putfield 291, 1, 3, 0), (.putfield 292, 2, 3, 0), (.putfield 293, 3, 3, 0), (.invokevirtual 295, 210, 2, 11), (.invokestatic 299, 38, 3, 0)]
set_option maxRecDepth 100000 in
theorem am_plok11 : ∀ q ∈ am_pl11, am_okP (am_on 11) q := List.forall_mem_cons.mpr ⟨pk_182, List.forall_mem_cons.mpr ⟨pk_183, List.forall_mem_cons.mpr ⟨pk_184, List.forall_mem_cons.mpr ⟨pk_185, List.forall_mem_cons.mpr ⟨pk_186, List.forall_mem_cons.mpr ⟨pk_187, List.forall_mem_cons.mpr ⟨pk_188, List.forall_mem_cons.mpr ⟨pk_189, List.forall_mem_cons.mpr ⟨pk_190, List.forall_mem_cons.mpr ⟨pk_191, List.forall_mem_cons.mpr ⟨pk_192, List.forall_mem_cons.mpr ⟨pk_193, List.forall_mem_cons.mpr ⟨pk_194, List.forall_mem_cons.mpr ⟨pk_195, List.forall_mem_cons.mpr ⟨pk_196, List.forall_mem_cons.mpr ⟨pk_197, List.forall_mem_cons.mpr ⟨pk_198, List.forall_mem_cons.mpr ⟨pk_199, List.forall_mem_cons.mpr ⟨pk_200, List.forall_mem_cons.mpr ⟨pk_201, List.forall_mem_cons.mpr ⟨pk_202, List.forall_mem_cons.mpr ⟨pk_203, List.forall_mem_cons.mpr ⟨pk_204, List.forall_mem_cons.mpr ⟨pk_205, List.forall_mem_cons.mpr ⟨pk_206, List.forall_mem_cons.mpr ⟨pk_207, List.forall_mem_cons.mpr ⟨pk_208, List.forall_mem_cons.mpr ⟨pk_209, List.forall_mem_cons.mpr ⟨pk_210, List.forall_mem_cons.mpr ⟨pk_211, List.forall_mem_cons.mpr ⟨pk_212, List.forall_mem_cons.mpr ⟨pk_213, List.forall_mem_cons.mpr ⟨pk_214, List.forall_mem_cons.mpr ⟨pk_215, List.forall_mem_cons.mpr ⟨pk_216, List.forall_mem_cons.mpr ⟨pk_217, List.forall_mem_cons.mpr ⟨pk_218, List.forall_mem_cons.mpr ⟨pk_219, List.forall_mem_cons.mpr ⟨pk_220, List.forall_mem_cons.mpr ⟨pk_221, List.forall_mem_cons.mpr ⟨pk_222, List.forall_mem_cons.mpr ⟨pk_223, List.forall_mem_cons.mpr ⟨pk_224, List.forall_mem_cons.mpr ⟨pk_225, List.forall_mem_cons.mpr ⟨pk_226, List.forall_mem_cons.mpr ⟨pk_227, List.forall_mem_cons.mpr ⟨pk_228, List.forall_mem_cons.mpr ⟨pk_229, List.forall_mem_cons.mpr ⟨pk_230, List.forall_mem_cons.mpr ⟨pk_231, List.forall_mem_cons.mpr ⟨pk_232, List.forall_mem_cons.mpr ⟨pk_233, List.forall_mem_cons.mpr ⟨pk_234, List.forall_mem_cons.mpr ⟨pk_235, List.forall_mem_cons.mpr ⟨pk_236, List.forall_mem_cons.mpr ⟨pk_237, List.forall_mem_cons.mpr ⟨pk_238, List.forall_mem_cons.mpr ⟨pk_239, List.forall_mem_cons.mpr ⟨pk_240, List.forall_mem_cons.mpr ⟨pk_241, List.forall_mem_cons.mpr ⟨pk_242, List.forall_mem_cons.mpr ⟨pk_243, List.forall_mem_cons.mpr ⟨pk_244, List.forall_mem_cons.mpr ⟨pk_245, List.forall_mem_cons.mpr ⟨pk_246, List.forall_mem_cons.mpr ⟨pk_247, List.forall_mem_cons.mpr ⟨pk_248, List.forall_mem_cons.mpr ⟨pk_249, List.forall_mem_cons.mpr ⟨pk_250, List.forall_mem_cons.mpr ⟨pk_251, List.forall_mem_cons.mpr ⟨pk_252, List.forall_mem_cons.mpr ⟨pk_253, List.forall_mem_cons.mpr ⟨pk_254, List.forall_mem_cons.mpr ⟨pk_255, List.forall_mem_cons.mpr ⟨pk_256, List.forall_mem_cons.mpr ⟨pk_257, List.forall_mem_cons.mpr ⟨pk_258, List.forall_mem_cons.mpr ⟨pk_259, List.forall_mem_cons.mpr ⟨pk_260, List.forall_mem_cons.mpr ⟨pk_261, List.forall_mem_cons.mpr ⟨pk_262, List.forall_mem_cons.mpr ⟨pk_263, List.forall_mem_cons.mpr ⟨pk_264, List.forall_mem_cons.mpr ⟨pk_265, List.forall_mem_cons.mpr ⟨pk_266, List.forall_mem_cons.mpr ⟨pk_267, List.forall_mem_cons.mpr ⟨pk_268, List.forall_mem_cons.mpr ⟨pk_269, List.forall_mem_cons.mpr ⟨pk_270, List.forall_mem_cons.mpr ⟨pk_271, List.forall_mem_cons.mpr ⟨pk_272, List.forall_mem_cons.mpr ⟨pk_273, List.forall_mem_cons.mpr ⟨pk_274, List.forall_mem_cons.mpr ⟨pk_275, List.forall_mem_cons.mpr ⟨pk_276, List.forall_mem_cons.mpr ⟨pk_277, List.forall_mem_cons.mpr ⟨pk_278, List.forall_mem_cons.mpr ⟨pk_279, List.forall_mem_cons.mpr ⟨pk_280, List.forall_mem_cons.mpr ⟨pk_281, List.forall_mem_cons.mpr ⟨pk_282, List.forall_mem_cons.mpr ⟨pk_283, List.forall_mem_cons.mpr ⟨pk_284, List.forall_mem_cons.mpr ⟨pk_285, List.forall_mem_cons.mpr ⟨pk_286, List.forall_mem_cons.mpr ⟨pk_287, List.forall_mem_cons.mpr ⟨pk_288, List.forall_mem_cons.mpr ⟨pk_289, List.forall_mem_cons.mpr ⟨pk_290, List.forall_mem_cons.mpr ⟨pk_291, List.forall_mem_cons.mpr ⟨pk_292, List.forall_mem_cons.mpr ⟨pk_293, List.forall_mem_cons.mpr ⟨pk_294, List.forall_mem_cons.mpr ⟨pk_295, List.forall_mem_cons.mpr ⟨pk_296, List.forall_mem_cons.mpr ⟨pk_297, List.forall_mem_cons.mpr ⟨pk_298, List.forall_mem_cons.mpr ⟨pk_299, List.forall_mem_cons.mpr ⟨pk_300, List.forall_mem_cons.mpr ⟨pk_301, List.forall_mem_cons.mpr ⟨pk_302, List.forall_mem_cons.mpr ⟨pk_303, List.forall_mem_cons.mpr ⟨pk_304, List.forall_mem_cons.mpr ⟨pk_305, List.forall_mem_cons.mpr ⟨pk_306, List.forall_mem_cons.mpr ⟨pk_307, List.forall_mem_cons.mpr ⟨pk_308, List.forall_mem_cons.mpr ⟨pk_309, List.forall_mem_cons.mpr ⟨pk_310, List.forall_mem_cons.mpr ⟨pk_311, List.forall_mem_cons.mpr ⟨pk_312, List.forall_mem_cons.mpr ⟨pk_313, List.forall_mem_cons.mpr ⟨pk_314, List.forall_mem_cons.mpr ⟨pk_315, (fun _ h => absurd h List.not_mem_nil)⟩⟩⟩⟩⟩⟩⟩⟩⟩⟩⟩⟩⟩⟩⟩⟩⟩⟩⟩⟩⟩⟩⟩⟩⟩⟩⟩⟩⟩⟩⟩⟩⟩⟩⟩⟩⟩⟩⟩⟩⟩⟩⟩⟩⟩⟩⟩⟩⟩⟩⟩⟩⟩⟩⟩⟩⟩⟩⟩⟩⟩⟩⟩⟩⟩⟩⟩⟩⟩⟩⟩⟩⟩⟩⟩⟩⟩⟩⟩⟩⟩⟩⟩⟩⟩⟩⟩⟩⟩⟩⟩⟩⟩⟩⟩⟩⟩⟩⟩⟩⟩⟩⟩⟩⟩⟩⟩⟩⟩⟩⟩⟩⟩⟩⟩⟩⟩⟩⟩⟩⟩⟩⟩⟩⟩⟩⟩⟩⟩⟩⟩⟩⟩⟩
def am_pl12 : List am_Q := [(.invokespecial 1, 0, 0, 1), (.putfield 7, 0, 12, 0), (.putfield 13, 1, 12, 0), (.putfield 16, 2, 12, 2), (.putfield 20, 3, 12, 2), (.putfield 23, 4, 12, 2), (.putfield 26, 5, 12, 2), (.putfield 29, 6, 12, 2), (.putfield 32, 7, 12, 2), (.putfield 35, 8, 12, 2), (.putfield 38, 9, 12, 0), (.putfield 41, 10, 12, 0), (.putfield 44, 11, 12, 0), (.putfield 47, 12, 12, 0), (.putfield 50, 13, 12, 0), (.putfield 53, 14, 12, 2), (.putfield 56, 15, 12, 2), (.putfield 59, 16, 12, 2), (.putfield 62, 17, 12, 2), (.putfield 65, 18, 12, 2), (.putfield 68, 19, 12, 2), (.putfield 71, 20, 12, 2), (.putfield 74, 21, 12, 2), (.putfield 77, 22, 12, 0), (.putfield 80, 23, 12, 0), (.putfield 83, 24, 12, 0), (.putfield 86, 25, 12, 2), (.putfield 89, 26, 12, 2), (.putfield 93, 27, 12, 0), (.putfield 96, 28, 12, 0), (.putfield 99, 29, 12, 0), (.putfield 102, 30, 12, 0), (.putfield 105, 31, 12, 0), (.putfield 108, 32, 12, 0), (.putfield 111, 33, 12, 0), (.putfield 114, 34, 12, 1), (.putfield 118, 35, 12, 1), (.putfield 121, 36, 12, 0), (.putfield 124, 37, 12, 2), (.putfield 127, 38, 12, 0), (.putfield 130, 39, 12, 0), (.putfield 133, 40, 12, 0), (.putfield 136, 41, 12, 2), (.putfield 139, 42, 12, 2), (.putfield 142, 43, 12, 2), (.putfield 145, 44, 12, 0), (.putfield 148, 45, 12, 2), (.putfield 151, 46, 12, 2), (.putfield 154, 47, 12, 1), (.putfield 157, 48, 12, 0), (.putfield 160, 49, 12, 0), (.putfield 163, 50, 12, 0), (.putfield 166, 51, 12, 0), (.putfield 169, 52, 12, 0), (.putfield 172, 53, 12, 2), (.putfield 175, 54, 12, 2), (.putfield 178, 55, 12, 2), (.putfield 181, 56, 12, 2), (.putfield 184, 57, 12, 2), (.putfield 187, 58, 12, 2), (.putfield 190, 59, 12, 2), (.putfield 193, 60, 12, 2), (.putfield 196, 61, 12, 2), (.putfield 199, 62, 12, 2), (.putfield 202, 63, 12, 2), (.putfield 205, 64, 12, 2), (.putfield 208, 65, 12, 0), (.putfield 211, 66, 12, 2), (.putfield 214, 67, 12, 2), (.putfield 217, 68, 12, 2), (.putfield 220, 69, 12, 2), (.putfield 224, 70, 12, 2), (.getfield 7, 0, 12, 0), (.invokevirtual 227, 219, 3, 12), (.getfield 16, 2, 12, 2), (.getfield 20, 3, 12, 2), (.getfield 23, 4, 12, 2), (.getfield 26, 5, 12, 2), (.getfield 29, 6, 12, 2), (.getfield 32, 7, 12, 2), (.invokevirtual 231, 220, 1, 12), (.getfield 35, 8, 12, 2), (.getfield 44, 11, 12, 0), (.getfield 53, 14, 12, 2), (.getfield 47, 12, 12, 0), (.invokevirtual 235, 227, 0, 12), (.getfield 86, 25, 12, 2), (.invokevirtual 239, 228, 1, 12), (.invokevirtual 242, 230, 0, 12), (.getfield 50, 13, 12, 0), (.getfield 71, 20, 12, 2), (.getfield 77, 22, 12, 0), (.getfield 80, 23, 12, 0), (.getfield 74, 21, 12, 2), (.invokevirtual 246, 232, 1, 12), (.getfield 83, 24, 12, 0), (.invokevirtual 250, 235, 1, 12), (.invokevirtual 254, 231, 0, 12), (.invokevirtual 257, 233, 0, 12), (.getfield 65, 18, 12, 2), (.invokevirtual 260, 236, 0, 12), (.invokevirtual 263, 234, 1, 12), (.getfield 68, 19, 12, 2), (.getfield 59, 16, 12, 2), (.invokevirtual 266, 229, 2, 12), (.invokevirtual 270, 238, 1, 12), (.getfield 62, 17, 12, 2), (.invokevirtual 273, 237, 1, 12), (.invokevirtual 276, 239, 1, 12), (.getfield 56, 15, 12, 2), (.getfield 38, 9, 12, 0), (.invokevirtual 279, 240, 1, 12), (.getfield 41, 10, 12, 0), (.getfield 99, 29, 12, 0), (.getfield 93, 27, 12, 0), (.getfield 96, 28, 12, 0), (.getfield 89, 26, 12, 2), (.invokevirtual 282, 244, 2, 12), (.invokevirtual 286, 242, 0, 12), (.invokevirtual 289, 243, 0, 12), (.invokevirtual 292, 245, 2, 12), (.invokevirtual 295, 247, 2, 12), (.invokevirtual 298, 249, 2, 12), (.invokevirtual 301, 250, 0, 12), (.getfield 13, 1, 12, 0), (.invokevirtual 304, 246, 3, 12), (.getfield 105, 31, 12, 0), (.invokevirtual 308, 256, 1, 12), (.sipush 99999, 312, 1, 0), (.getfield 114, 34, 12, 1), (.getfield 118, 35, 12, 1), (.getfield 121, 36, 12, 0), (.invokevirtual 314, 253, 1, 12), (.invokevirtual 317, 254, 2, 12), (.invokevirtual 320, 255, 1, 12), (.invokevirtual 323, 257, 2, 12), (.getfield 111, 33, 12, 0), (.bipush 999999, 327, 2, 0), (.getfield 108, 32, 12, 0), (.invokevirtual 328, 248, 2, 12), (.getfield 102, 30, 12, 0), (.invokevirtual 331, 260, 2, 12), (.getfield 124, 37, 12, 2), (.getfield 130, 39, 12, 0), (.getfield 127, 38, 12, 0), (.invokevirtual 334, 265, 1, 12), (.getfield 133, 40, 12, 0), (.getfield 136, 41, 12, 2), (.getfield 139, 42, 12, 2), (.getfield 142, 43, 12, 2), (.invokevirtual 337, 270, 1, 12), (.bipush (-1000001), 340, 2, 0), (.invokevirtual 341, 273, 2, 12), (.sipush (-9223372036854775808), 345, 1, 0), (.sipush 10, 347, 1, 0), (.invokevirtual 349, 274, 3, 12), (.sipush 12, 353, 1, 0), (.getfield 145, 44, 12, 0), (.getfield 148, 45, 12, 2), (.getfield 151, 46, 12, 2), (.invokevirtual 355, 294, 1, 12), (.getfield 214, 67, 12, 2), (.getfield 217, 68, 12, 2), (.getfield 220, 69, 12, 2), (.getfield 172, 53, 12, 2), (.getfield 175, 54, 12, 2), (.getfield 178, 55, 12, 2), (.getfield 181, 56, 12, 2), (.getfield 184, 57, 12, 2), (.getfield 187, 58, 12, 2), (.getfield 190, 59, 12, 2), (.getfield 193, 60, 12, 2), (.getfield 196, 61, 12, 2), (.getfield 199, 62, 12, 2), (.getfield 202, 63, 12, 2), (.getfield 205, 64, 12, 2), (.getfield 154, 47, 12, 1), (.getfield 157, 48, 12, 0), (.getfield 160, 49, 12, 0), (.getfield 163, 50, 12, 0), (.getfield 166, 51, 12, 0), (.getfield 169, 52, 12, 0), (.getfield 208, 65, 12, 0), (.getfield 211, 66, 12, 2), (.invokevirtual 358, 282, 1, 12), (.invokevirtual 361, 283, 2, 12), (.invokevirtual 364, 284, 2, 12), (.invokevirtual 367, 285, 2, 12), (.invokevirtual 370, 286, 2, 12), (.invokevirtual 373, 287, 2, 12), (.invokevirtual 376, 288, 2, 12), (.invokevirtual 379, 289, 2, 12), (.invokevirtual 382, 296, 2, 12), (.getfield 224, 70, 12, 2)]
set_option maxRecDepth 100000 in
theorem am_plok12 : ∀ q ∈ am_pl12, am_okP (am_on 12) q := List.forall_mem_cons.mpr ⟨pk_316, List.forall_mem_cons.mpr ⟨pk_317, List.forall_mem_cons.mpr ⟨pk_318, List.forall_mem_cons.mpr ⟨pk_319, List.forall_mem_cons.mpr ⟨pk_320, List.forall_mem_cons.mpr ⟨pk_321, List.forall_mem_cons.mpr ⟨pk_322, List.forall_mem_cons.mpr ⟨pk_323, List.forall_mem_cons.mpr ⟨pk_324, List.forall_mem_cons.mpr ⟨pk_325, List.forall_mem_cons.mpr ⟨pk_326, List.forall_mem_cons.mpr ⟨pk_327, List.forall_mem_cons.mpr ⟨pk_328, List.forall_mem_cons.mpr ⟨pk_329, List.forall_mem_cons.mpr ⟨pk_330, List.forall_mem_cons.mpr ⟨pk_331, List.forall_mem_cons.mpr ⟨pk_332, List.forall_mem_cons.mpr ⟨pk_333, List.forall_mem_cons.mpr ⟨pk_334, List.forall_mem_cons.mpr ⟨pk_335, List.forall_mem_cons.mpr ⟨pk_336, List.forall_mem_cons.mpr ⟨pk_337, List.forall_mem_cons.mpr ⟨pk_338, List.forall_mem_cons.mpr ⟨pk_339, List.forall_mem_cons.mpr ⟨pk_340, List.forall_mem_cons.mpr ⟨pk_341, List.forall_mem_cons.mpr ⟨pk_342, List.forall_mem_cons.mpr ⟨pk_343, List.forall_mem_cons.mpr ⟨pk_344, List.forall_mem_cons.mpr ⟨pk_345, List.forall_mem_cons.mpr ⟨pk_346, List.forall_mem_cons.mpr ⟨pk_347, List.forall_mem_cons.mpr ⟨pk_348, List.forall_mem_cons.mpr ⟨pk_349, List.forall_mem_cons.mpr ⟨pk_350, List.forall_mem_cons.mpr ⟨pk_351, List.forall_mem_cons.mpr ⟨pk_352, List.forall_mem_cons.mpr ⟨pk_353, List.forall_mem_cons.mpr ⟨pk_354, List.forall_mem_cons.mpr ⟨pk_355, List.forall_mem_cons.mpr ⟨pk_356, List.forall_mem_cons.mpr ⟨pk_357, List.forall_mem_cons.mpr ⟨pk_358, List.forall_mem_cons.mpr ⟨pk_359, List.forall_mem_cons.mpr ⟨pk_360, List.forall_mem_cons.mpr ⟨pk_361, List.forall_mem_cons.mpr ⟨pk_362, List.forall_mem_cons.mpr ⟨pk_363, List.forall_mem_cons.mpr ⟨pk_364, List.forall_mem_cons.mpr ⟨pk_365, List.forall_mem_cons.mpr ⟨pk_366, List.forall_mem_cons.mpr ⟨pk_367, List.forall_mem_cons.mpr ⟨pk_368, List.forall_mem_cons.mpr ⟨pk_369, List.forall_mem_cons.mpr ⟨pk_370, List.forall_mem_cons.mpr ⟨pk_371, List.forall_mem_cons.mpr ⟨pk_372, List.forall_mem_cons.mpr ⟨pk_373, List.forall_mem_cons.mpr ⟨pk_374, List.forall_mem_cons.mpr ⟨pk_375, List.forall_mem_cons.mpr ⟨pk_376, List.forall_mem_cons.mpr ⟨pk_377, List.forall_mem_cons.mpr ⟨pk_378, List.forall_mem_cons.mpr ⟨pk_379, List.forall_mem_cons.mpr ⟨pk_380, List.forall_mem_cons.mpr ⟨pk_381, List.forall_mem_cons.mpr ⟨pk_382, List.forall_mem_cons.mpr ⟨pk_383, List.forall_mem_cons.mpr ⟨pk_384, List.forall_mem_cons.mpr ⟨pk_385, List.forall_mem_cons.mpr ⟨pk_386, List.forall_mem_cons.mpr ⟨pk_387, List.forall_mem_cons.mpr ⟨pk_388, List.forall_mem_cons.mpr ⟨pk_389, List.forall_mem_cons.mpr ⟨pk_390, List.forall_mem_cons.mpr ⟨pk_391, List.forall_mem_cons.mpr ⟨pk_392, List.forall_mem_cons.mpr ⟨pk_393, List.forall_mem_cons.mpr ⟨pk_394, List.forall_mem_cons.mpr ⟨pk_395, List.forall_mem_cons.mpr ⟨pk_396, List.forall_mem_cons.mpr ⟨pk_397, List.forall_mem_cons.mpr ⟨pk_398, List.forall_mem_cons.mpr ⟨pk_399, List.forall_mem_cons.mpr ⟨pk_400, List.forall_mem_cons.mpr ⟨pk_401, List.forall_mem_cons.mpr ⟨pk_402, List.forall_mem_cons.mpr ⟨pk_403, List.forall_mem_cons.mpr ⟨pk_404, List.forall_mem_cons.mpr ⟨pk_405, List.forall_mem_cons.mpr ⟨pk_406, List.forall_mem_cons.mpr ⟨pk_407, List.forall_mem_cons.mpr ⟨pk_408, List.forall_mem_cons.mpr ⟨pk_409, List.forall_mem_cons.mpr ⟨pk_410, List.forall_mem_cons.mpr ⟨pk_411, List.forall_mem_cons.mpr ⟨pk_412, List.forall_mem_cons.mpr ⟨pk_413, List.forall_mem_cons.mpr ⟨pk_414, List.forall_mem_cons.mpr ⟨pk_415, List.forall_mem_cons.mpr ⟨pk_416, List.forall_mem_cons.mpr ⟨pk_417, List.forall_mem_cons.mpr ⟨pk_418, List.forall_mem_cons.mpr ⟨pk_419, List.forall_mem_cons.mpr ⟨pk_420, List.forall_mem_cons.mpr ⟨pk_421, List.forall_mem_cons.mpr ⟨pk_422, List.forall_mem_cons.mpr ⟨pk_423, List.forall_mem_cons.mpr ⟨pk_424, List.forall_mem_cons.mpr ⟨pk_425, List.forall_mem_cons.mpr ⟨pk_426, List.forall_mem_cons.mpr ⟨pk_427, List.forall_mem_cons.mpr ⟨pk_428, List.forall_mem_cons.mpr ⟨pk_429, List.forall_mem_cons.mpr ⟨pk_430, List.forall_mem_cons.mpr ⟨pk_431, List.forall_mem_cons.mpr ⟨pk_432, List.forall_mem_cons.mpr ⟨pk_433, List.forall_mem_cons.mpr ⟨pk_434, List.forall_mem_cons.mpr ⟨pk_435, List.forall_mem_cons.mpr ⟨pk_436, List.forall_mem_cons.mpr ⟨pk_437, List.forall_mem_cons.mpr ⟨pk_438, List.forall_mem_cons.mpr ⟨pk_439, List.forall_mem_cons.mpr ⟨pk_440, List.forall_mem_cons.mpr ⟨pk_441, List.forall_mem_cons.mpr ⟨pk_442, List.forall_mem_cons.mpr ⟨pk_443, List.forall_mem_cons.mpr ⟨pk_444, List.forall_mem_cons.mpr ⟨pk_445, List.forall_mem_cons.mpr ⟨pk_446, List.forall_mem_cons.mpr ⟨pk_447, List.forall_mem_cons.mpr ⟨pk_448, List.forall_mem_cons.mpr ⟨pk_449, List.forall_mem_cons.mpr ⟨pk_450, List.forall_mem_cons.mpr ⟨pk_451, List.forall_mem_cons.mpr ⟨pk_452, List.forall_mem_cons.mpr ⟨pk_453, List.forall_mem_cons.mpr ⟨pk_454, List.forall_mem_cons.mpr ⟨pk_455, List.forall_mem_cons.mpr ⟨pk_456, List.forall_mem_cons.mpr ⟨pk_457, List.forall_mem_cons.mpr ⟨pk_458, List.forall_mem_cons.mpr ⟨pk_459, List.forall_mem_cons.mpr ⟨pk_460, List.forall_mem_cons.mpr ⟨pk_461, List.forall_mem_cons.mpr ⟨pk_462, List.forall_mem_cons.mpr ⟨pk_463, List.forall_mem_cons.mpr ⟨pk_464, List.forall_mem_cons.mpr ⟨pk_465, List.forall_mem_cons.mpr ⟨pk_466, List.forall_mem_cons.mpr ⟨pk_467, List.forall_mem_cons.mpr ⟨pk_468, List.forall_mem_cons.mpr ⟨pk_469, List.forall_mem_cons.mpr ⟨pk_470, List.forall_mem_cons.mpr ⟨pk_471, List.forall_mem_cons.mpr ⟨pk_472, List.forall_mem_cons.mpr ⟨pk_473, List.forall_mem_cons.mpr ⟨pk_474, List.forall_mem_cons.mpr ⟨pk_475, List.forall_mem_cons.mpr ⟨pk_476, List.forall_mem_cons.mpr ⟨pk_477, List.forall_mem_cons.mpr ⟨pk_478, List.forall_mem_cons.mpr ⟨pk_479, List.forall_mem_cons.mpr ⟨pk_480, List.forall_mem_cons.mpr ⟨pk_481, List.forall_mem_cons.mpr ⟨pk_482, List.forall_mem_cons.mpr ⟨pk_483, List.forall_mem_cons.mpr ⟨pk_484, List.forall_mem_cons.mpr ⟨pk_485, List.forall_mem_cons.mpr ⟨pk_486, List.forall_mem_cons.mpr ⟨pk_487, List.forall_mem_cons.mpr ⟨pk_488, List.forall_mem_cons.mpr ⟨pk_489, List.forall_mem_cons.mpr ⟨pk_490, List.forall_mem_cons.mpr ⟨pk_491, List.forall_mem_cons.mpr ⟨pk_492, List.forall_mem_cons.mpr ⟨pk_493, List.forall_mem_cons.mpr ⟨pk_494, List.forall_mem_cons.mpr ⟨pk_495, List.forall_mem_cons.mpr ⟨pk_496, List.forall_mem_cons.mpr ⟨pk_497, List.forall_mem_cons.mpr ⟨pk_498, List.forall_mem_cons.mpr ⟨pk_499, List.forall_mem_cons.mpr ⟨pk_500, List.forall_mem_cons.mpr ⟨pk_501, List.forall_mem_cons.mpr ⟨pk_502, List.forall_mem_cons.mpr ⟨pk_503, List.forall_mem_cons.mpr ⟨pk_504, List.forall_mem_cons.mpr ⟨pk_505, List.forall_mem_cons.mpr ⟨pk_506, List.forall_mem_cons.mpr ⟨pk_507, List.forall_mem_cons.mpr ⟨pk_508, List.forall_mem_cons.mpr ⟨pk_509, (fun _ h => absurd h List.not_mem_nil)⟩⟩⟩⟩⟩⟩⟩⟩⟩⟩⟩⟩⟩⟩⟩⟩⟩⟩⟩⟩⟩⟩⟩⟩⟩⟩⟩⟩⟩⟩⟩⟩⟩⟩⟩⟩⟩⟩⟩⟩⟩⟩⟩⟩⟩⟩⟩⟩⟩⟩⟩⟩⟩⟩⟩⟩⟩⟩⟩⟩⟩⟩⟩⟩⟩⟩⟩⟩⟩⟩⟩⟩⟩⟩⟩⟩⟩⟩⟩⟩⟩⟩⟩⟩⟩⟩⟩⟩⟩⟩⟩⟩⟩⟩⟩⟩⟩⟩⟩⟩⟩⟩⟩⟩⟩⟩⟩⟩⟩⟩⟩⟩⟩⟩⟩⟩⟩⟩⟩⟩⟩⟩⟩⟩⟩⟩⟩⟩⟩⟩⟩⟩⟩⟩⟩⟩⟩⟩⟩⟩⟩⟩⟩⟩⟩⟩⟩⟩⟩⟩⟩⟩⟩⟩⟩⟩⟩⟩⟩⟩⟩⟩⟩⟩⟩⟩⟩⟩⟩⟩⟩⟩⟩⟩⟩⟩⟩⟩⟩⟩⟩⟩⟩⟩⟩⟩⟩⟩⟩⟩⟩⟩⟩⟩
def am_pl13 : List am_Q := []
theorem am_plok13 : ∀ q ∈ am_pl13, am_okP (am_on 13) q := fun _ h => absurd h List.not_mem_nil
def am_pl14 : List am_Q := [(.getfield 9, 0, 13, 2), (.invokevirtual 335, 305, 0, 13), (.getstatic 38, 0, 0, 0), (.getfield 15, 1, 13, 0), (.invokevirtual 492, 307, 0, 13), (.invokestatic 495, 208, 2, 0), (.getstatic 1053, 1, 0, 0), (.invokestatic 1059, 210, 3, 0)]
set_option maxRecDepth 100000 in
theorem am_plok14 : ∀ q ∈ am_pl14, am_okP (am_on 14) q := List.forall_mem_cons.mpr ⟨pk_510, List.forall_mem_cons.mpr ⟨pk_511, List.forall_mem_cons.mpr ⟨pk_512, List.forall_mem_cons.mpr ⟨pk_513, List.forall_mem_cons.mpr ⟨pk_514, List.forall_mem_cons.mpr ⟨pk_515, List.forall_mem_cons.mpr ⟨pk_517, List.forall_mem_cons.mpr ⟨pk_518, (fun _ h => absurd h List.not_mem_nil)⟩⟩⟩⟩⟩⟩⟩⟩
def am_pl15 : List am_Q := [(.invokestatic 9, 209, 2, 0)]
set_option maxRecDepth 100000 in
theorem am_plok15 : ∀ q ∈ am_pl15, am_okP (am_on 15) q := List.forall_mem_cons.mpr ⟨pk_516, (fun _ h => absurd h List.not_mem_nil)⟩
def am_pl16 : List am_Q := []
theorem am_plok16 : ∀ q ∈ am_pl16, am_okP (am_on 16) q := fun _ h => absurd h List.not_mem_nil
def am_pl17 : List am_Q := [(.new 7, 11, 0, 0), (.invokespecial 9, 66, 0, 0), (.new 10, 12, 0, 0), (.invokespecial 12, 118, 0, 0), (.invokevirtual 13, 167, 4, 11), (.invokevirtual 17, 221, 4, 12), (.invokevirtual 18, 168, 2, 11), (.invokevirtual 22, 222, 2, 12), (.invokevirtual 23, 169, 3, 11), (.invokevirtual 27, 223, 3, 12), (.invokevirtual 28, 170, 2, 11), (.invokevirtual 31, 224, 2, 12), (.invokevirtual 32, 171, 3, 11), (.invokevirtual 35, 225, 3, 12), (.invokevirtual 36, 172, 1, 11), (.invokevirtual 40, 226, 1, 12), (.invokevirtual 41, 173, 0, 11), (.invokevirtual 45, 241, 0, 12), (.invokevirtual 46, 174, 1, 11), (.invokevirtual 49, 251, 1, 12), (.invokevirtual 50, 175, 1, 11), (.invokevirtual 53, 252, 1, 12), (.invokevirtual 54, 176, 1, 11), (.invokevirtual 57, 258, 1, 12), (.invokevirtual 58, 177, 2, 11), (.invokevirtual 61, 259, 2, 12), (.invokevirtual 62, 178, 2, 11), (.invokevirtual 65, 261, 2, 12), (.invokevirtual 66, 179, 2, 11), (.invokevirtual 69, 262, 2, 12), (.invokevirtual 70, 180, 2, 11), (.invokevirtual 73, 263, 2, 12), (.invokevirtual 74, 181, 2, 11), (.invokevirtual 77, 264, 2, 12), (.invokevirtual 78, 182, 2, 11), (.invokevirtual 81, 266, 2, 12), (.invokevirtual 82, 183, 1, 11), (.invokevirtual 85, 267, 1, 12), (.invokevirtual 86, 184, 2, 11), (.invokevirtual 89, 268, 2, 12), (.invokevirtual 90, 185, 3, 11), (.invokevirtual 93, 269, 3, 12), (.invokevirtual 94, 186, 0, 11), (.invokevirtual 97, 271, 0, 12), (.invokevirtual 98, 187, 1, 11), (.invokevirtual 101, 272, 1, 12), (.invokevirtual 102, 188, 2, 11), (.invokevirtual 106, 275, 2, 12), (.invokevirtual 107, 189, 2, 11), (.invokevirtual 110, 276, 2, 12), (.invokevirtual 111, 190, 2, 11), (.invokevirtual 115, 277, 2, 12), (.invokevirtual 116, 191, 0, 11), (.invokevirtual 119, 278, 0, 12), (.invokevirtual 120, 192, 2, 11), (.invokevirtual 123, 279, 2, 12), (.invokevirtual 124, 193, 0, 11), (.invokevirtual 127, 280, 0, 12), (.invokevirtual 128, 194, 0, 11), (.invokevirtual 131, 281, 0, 12), (.invokevirtual 132, 195, 3, 11), (.invokevirtual 135, 290, 3, 12), (.invokevirtual 136, 196, 1, 11), (.invokevirtual 139, 291, 1, 12), (.invokevirtual 140, 197, 2, 11), (.invokevirtual 143, 292, 2, 12), (.invokevirtual 144, 198, 1, 11), (.invokevirtual 147, 293, 1, 12), (.invokevirtual 148, 199, 3, 11), (.invokevirtual 151, 295, 3, 12), (.sipush 4294967295, 152, 1, 0), (.invokevirtual 154, 200, 3, 11), (.invokevirtual 158, 297, 3, 12), (.invokevirtual 159, 201, 2, 11), (.invokevirtual 162, 298, 2, 12), (.invokevirtual 163, 202, 5, 11), (.invokevirtual 167, 299, 5, 12)]
set_option maxRecDepth 100000 in
theorem am_plok17 : ∀ q ∈ am_pl17, am_okP (am_on 17) q := List.forall_mem_cons.mpr ⟨pk_519, List.forall_mem_cons.mpr ⟨pk_520, List.forall_mem_cons.mpr ⟨pk_521, List.forall_mem_cons.mpr ⟨pk_522, List.forall_mem_cons.mpr ⟨pk_523, List.forall_mem_cons.mpr ⟨pk_524, List.forall_mem_cons.mpr ⟨pk_525, List.forall_mem_cons.mpr ⟨pk_526, List.forall_mem_cons.mpr ⟨pk_527, List.forall_mem_cons.mpr ⟨pk_528, List.forall_mem_cons.mpr ⟨pk_529, List.forall_mem_cons.mpr ⟨pk_530, List.forall_mem_cons.mpr ⟨pk_531, List.forall_mem_cons.mpr ⟨pk_532, List.forall_mem_cons.mpr ⟨pk_533, List.forall_mem_cons.mpr ⟨pk_534, List.forall_mem_cons.mpr ⟨pk_535, List.forall_mem_cons.mpr ⟨pk_536, List.forall_mem_cons.mpr ⟨pk_537, List.forall_mem_cons.mpr ⟨pk_538, List.forall_mem_cons.mpr ⟨pk_539, List.forall_mem_cons.mpr ⟨pk_540, List.forall_mem_cons.mpr ⟨pk_541, List.forall_mem_cons.mpr ⟨pk_542, List.forall_mem_cons.mpr ⟨pk_543, List.forall_mem_cons.mpr ⟨pk_544, List.forall_mem_cons.mpr ⟨pk_545, List.forall_mem_cons.mpr ⟨pk_546, List.forall_mem_cons.mpr ⟨pk_547, List.forall_mem_cons.mpr ⟨pk_548, List.forall_mem_cons.mpr ⟨pk_549, List.forall_mem_cons.mpr ⟨pk_550, List.forall_mem_cons.mpr ⟨pk_551, List.forall_mem_cons.mpr ⟨pk_552, List.forall_mem_cons.mpr ⟨pk_553, List.forall_mem_cons.mpr ⟨pk_554, List.forall_mem_cons.mpr ⟨pk_555, List.forall_mem_cons.mpr ⟨pk_556, List.forall_mem_cons.mpr ⟨pk_557, List.forall_mem_cons.mpr ⟨pk_558, List.forall_mem_cons.mpr ⟨pk_559, List.forall_mem_cons.mpr ⟨pk_560, List.forall_mem_cons.mpr ⟨pk_561, List.forall_mem_cons.mpr ⟨pk_562, List.forall_mem_cons.mpr ⟨pk_563, List.forall_mem_cons.mpr ⟨pk_564, List.forall_mem_cons.mpr ⟨pk_565, List.forall_mem_cons.mpr ⟨pk_566, List.forall_mem_cons.mpr ⟨pk_567, List.forall_mem_cons.mpr ⟨pk_568, List.forall_mem_cons.mpr ⟨pk_569, List.forall_mem_cons.mpr ⟨pk_570, List.forall_mem_cons.mpr ⟨pk_571, List.forall_mem_cons.mpr ⟨pk_572, List.forall_mem_cons.mpr ⟨pk_573, List.forall_mem_cons.mpr ⟨pk_574, List.forall_mem_cons.mpr ⟨pk_575, List.forall_mem_cons.mpr ⟨pk_576, List.forall_mem_cons.mpr ⟨pk_577, List.forall_mem_cons.mpr ⟨pk_578, List.forall_mem_cons.mpr ⟨pk_579, List.forall_mem_cons.mpr ⟨pk_580, List.forall_mem_cons.mpr ⟨pk_581, List.forall_mem_cons.mpr ⟨pk_582, List.forall_mem_cons.mpr ⟨pk_583, List.forall_mem_cons.mpr ⟨pk_584, List.forall_mem_cons.mpr ⟨pk_585, List.forall_mem_cons.mpr ⟨pk_586, List.forall_mem_cons.mpr ⟨pk_587, List.forall_mem_cons.mpr ⟨pk_588, List.forall_mem_cons.mpr ⟨pk_589, List.forall_mem_cons.mpr ⟨pk_590, List.forall_mem_cons.mpr ⟨pk_591, List.forall_mem_cons.mpr ⟨pk_592, List.forall_mem_cons.mpr ⟨pk_593, List.forall_mem_cons.mpr ⟨pk_594, List.forall_mem_cons.mpr ⟨pk_595, (fun _ h => absurd h List.not_mem_nil)⟩⟩⟩⟩⟩⟩⟩⟩⟩⟩⟩⟩⟩⟩⟩⟩⟩⟩⟩⟩⟩⟩⟩⟩⟩⟩⟩⟩⟩⟩⟩⟩⟩⟩⟩⟩⟩⟩⟩⟩⟩⟩⟩⟩⟩⟩⟩⟩⟩⟩⟩⟩⟩⟩⟩⟩⟩⟩⟩⟩⟩⟩⟩⟩⟩⟩⟩⟩⟩⟩⟩⟩⟩⟩⟩⟩⟩
def am_plL : List (List am_Q) := [am_pl0, am_pl1, am_pl2, am_pl3, am_pl4, am_pl5, am_pl6, am_pl7, am_pl8, am_pl9, am_pl10, am_pl11, am_pl12, am_pl13, am_pl14, am_pl15, am_pl16, am_pl17]
