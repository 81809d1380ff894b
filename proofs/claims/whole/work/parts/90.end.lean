theorem am_jl {a b : Cond} {A : Array Value} {s : State} (h : (Jvm.Cond.and a b).before A s = true) : a.before A s = true := by
  rw [Cond.before_and, Bool.and_eq_true] at h
  exact h.1
theorem am_jr {a b : Cond} {A : Array Value} {s : State} (h : (Jvm.Cond.and a b).before A s = true) : b.before A s = true := by
  rw [Cond.before_and, Bool.and_eq_true] at h
  exact h.2
theorem nf_0 {args : Array Value} {s : State} (h : (Jvm.Cond.and given_1 narrow_1).before args s = true) : (Jvm.Cond.arrayOf (Jvm.Term.arg (0 : Nat)) Jvm.ClassFile.FieldType.int).before args s = true := am_jl (am_jl (am_jl (am_jl (am_jl (am_jl (am_jl (am_jr h)))))))
theorem nf_1 {args : Array Value} {s : State} (h : (Jvm.Cond.and given_1 narrow_1).before args s = true) : (Jvm.Cond.le (Jvm.Term.length (Jvm.Term.arg (0 : Nat))) (Jvm.Term.int (3072 : Int32))).before args s = true := am_jl (am_jr (am_jl (am_jl (am_jl (am_jl (am_jl (am_jl (am_jr h))))))))
theorem nf_2 {args : Array Value} {s : State} (h : (Jvm.Cond.and given_1 narrow_1).before args s = true) : (Jvm.Cond.eq (Jvm.Term.static "java/lang/String" "COMPACT_STRINGS" "Z") (Jvm.Term.int (1 : Int32))).before args s = true := am_jr (am_jr (am_jl (am_jl (am_jl (am_jl (am_jl (am_jl (am_jr h))))))))
theorem nf_3 {args : Array Value} {s : State} (h : (Jvm.Cond.and given_1 narrow_1).before args s = true) : (Jvm.Cond.isRef (Jvm.Term.static "jdk/internal/util/Preconditions" "SIOOBE_FORMATTER" "Ljava/util/function/BiFunction;")).before args s = true := am_jl (am_jr (am_jl (am_jl (am_jl (am_jl (am_jl (am_jr h)))))))
theorem nf_4 {args : Array Value} {s : State} (h : (Jvm.Cond.and given_1 narrow_1).before args s = true) : (Jvm.Cond.eq (Jvm.Term.static "java/lang/StringUTF16" "$assertionsDisabled" "Z") (Jvm.Term.int (1 : Int32))).before args s = true := am_jl (am_jr (am_jr (am_jl (am_jl (am_jl (am_jl (am_jl (am_jr h))))))))
theorem nf_5 {args : Array Value} {s : State} (h : (Jvm.Cond.and given_1 narrow_1).before args s = true) : (Jvm.Cond.eq (Jvm.Term.static "java/lang/StringUTF16" "HI_BYTE_SHIFT" "I") (Jvm.Term.int (0 : Int32))).before args s = true := am_jr (am_jr (am_jr (am_jl (am_jl (am_jl (am_jl (am_jl (am_jr h))))))))
theorem nf_6 {args : Array Value} {s : State} (h : (Jvm.Cond.and given_1 narrow_1).before args s = true) : (Jvm.Cond.eq (Jvm.Term.static "java/lang/StringUTF16" "LO_BYTE_SHIFT" "I") (Jvm.Term.int (8 : Int32))).before args s = true := am_jl (am_jl (am_jr (am_jl (am_jl (am_jl (am_jl (am_jr h)))))))
theorem nf_7 {args : Array Value} {s : State} (h : (Jvm.Cond.and given_1 narrow_1).before args s = true) : (Jvm.Cond.not (Jvm.Cond.castable "LargeBubble" "LargeBubble$Told")).before args s = true := am_jl (am_jr (am_jl (am_jr (am_jl (am_jl (am_jl (am_jl (am_jr h))))))))
theorem nf_8 {args : Array Value} {s : State} (h : (Jvm.Cond.and given_1 narrow_1).before args s = true) : (Jvm.Cond.not (Jvm.Cond.castable "LargeBubble$State" "LargeBubble$Told")).before args s = true := am_jr (am_jr (am_jl (am_jr (am_jl (am_jl (am_jl (am_jl (am_jr h))))))))
theorem nf_9 {args : Array Value} {s : State} (h : (Jvm.Cond.and given_1 narrow_1).before args s = true) : (Jvm.Cond.not (Jvm.Cond.castable "LargeBubble$Course" "LargeBubble$Told")).before args s = true := am_jl (am_jr (am_jr (am_jl (am_jl (am_jl (am_jl (am_jr h)))))))
theorem nf_10 {args : Array Value} {s : State} (h : (Jvm.Cond.and given_1 narrow_1).before args s = true) : (Jvm.Cond.not (Jvm.Cond.castable "LargeBubble$Text" "LargeBubble$Told")).before args s = true := am_jl (am_jr (am_jr (am_jr (am_jl (am_jl (am_jl (am_jl (am_jr h))))))))
theorem nf_11 {args : Array Value} {s : State} (h : (Jvm.Cond.and given_1 narrow_1).before args s = true) : (Jvm.Cond.not (Jvm.Cond.castable "LargeBubbleModel" "LargeBubble$Told")).before args s = true := am_jr (am_jr (am_jr (am_jr (am_jl (am_jl (am_jl (am_jl (am_jr h))))))))
theorem nf_12 {args : Array Value} {s : State} (h : (Jvm.Cond.and given_1 narrow_1).before args s = true) : (Jvm.Cond.not (Jvm.Cond.castable "LargeBubble$Bold" "LargeBubble$Told")).before args s = true := am_jl (am_jl (am_jl (am_jr (am_jl (am_jl (am_jl (am_jr h)))))))
theorem nf_13 {args : Array Value} {s : State} (h : (Jvm.Cond.and given_1 narrow_1).before args s = true) : (Jvm.Cond.not (Jvm.Cond.castable "LargeBubble$Careful" "LargeBubble$Told")).before args s = true := am_jl (am_jr (am_jl (am_jl (am_jr (am_jl (am_jl (am_jl (am_jr h))))))))
theorem nf_14 {args : Array Value} {s : State} (h : (Jvm.Cond.and given_1 narrow_1).before args s = true) : (Jvm.Cond.not (Jvm.Cond.castable "LargeBubble$Slow" "LargeBubble$Told")).before args s = true := am_jr (am_jr (am_jl (am_jl (am_jr (am_jl (am_jl (am_jl (am_jr h))))))))
theorem nf_15 {args : Array Value} {s : State} (h : (Jvm.Cond.and given_1 narrow_1).before args s = true) : (Jvm.Cond.not (Jvm.Cond.castable "LargeBubble$Mad" "LargeBubble$Told")).before args s = true := am_jl (am_jr (am_jl (am_jr (am_jl (am_jl (am_jl (am_jr h)))))))
theorem nf_16 {args : Array Value} {s : State} (h : (Jvm.Cond.and given_1 narrow_1).before args s = true) : (Jvm.Cond.not (Jvm.Cond.castable "LargeBubble$Wise" "LargeBubble$Told")).before args s = true := am_jl (am_jr (am_jr (am_jl (am_jr (am_jl (am_jl (am_jl (am_jr h))))))))
theorem nf_17 {args : Array Value} {s : State} (h : (Jvm.Cond.and given_1 narrow_1).before args s = true) : (Jvm.Cond.not (Jvm.Cond.castable "LargeBubble$Blower" "LargeBubble$Told")).before args s = true := am_jr (am_jr (am_jr (am_jl (am_jr (am_jl (am_jl (am_jl (am_jr h))))))))
theorem nf_18 {args : Array Value} {s : State} (h : (Jvm.Cond.and given_1 narrow_1).before args s = true) : (Jvm.Cond.not (Jvm.Cond.castable "LargeBubble$Square" "LargeBubble$Told")).before args s = true := am_jl (am_jl (am_jr (am_jr (am_jl (am_jl (am_jl (am_jr h)))))))
theorem nf_19 {args : Array Value} {s : State} (h : (Jvm.Cond.and given_1 narrow_1).before args s = true) : (Jvm.Cond.not (Jvm.Cond.castable "LargeBubble" "LargeBubble$Bold")).before args s = true := am_jl (am_jr (am_jl (am_jr (am_jr (am_jl (am_jl (am_jl (am_jr h))))))))
theorem nf_20 {args : Array Value} {s : State} (h : (Jvm.Cond.and given_1 narrow_1).before args s = true) : (Jvm.Cond.not (Jvm.Cond.castable "LargeBubble$State" "LargeBubble$Bold")).before args s = true := am_jr (am_jr (am_jl (am_jr (am_jr (am_jl (am_jl (am_jl (am_jr h))))))))
theorem nf_21 {args : Array Value} {s : State} (h : (Jvm.Cond.and given_1 narrow_1).before args s = true) : (Jvm.Cond.not (Jvm.Cond.castable "LargeBubble$Course" "LargeBubble$Bold")).before args s = true := am_jl (am_jl (am_jr (am_jr (am_jr (am_jl (am_jl (am_jl (am_jr h))))))))
theorem nf_22 {args : Array Value} {s : State} (h : (Jvm.Cond.and given_1 narrow_1).before args s = true) : (Jvm.Cond.not (Jvm.Cond.castable "LargeBubble$Text" "LargeBubble$Bold")).before args s = true := am_jr (am_jl (am_jr (am_jr (am_jr (am_jl (am_jl (am_jl (am_jr h))))))))
theorem nf_23 {args : Array Value} {s : State} (h : (Jvm.Cond.and given_1 narrow_1).before args s = true) : (Jvm.Cond.not (Jvm.Cond.castable "LargeBubbleModel" "LargeBubble$Bold")).before args s = true := am_jl (am_jr (am_jr (am_jr (am_jr (am_jl (am_jl (am_jl (am_jr h))))))))
theorem nf_24 {args : Array Value} {s : State} (h : (Jvm.Cond.and given_1 narrow_1).before args s = true) : (Jvm.Cond.not (Jvm.Cond.castable "LargeBubble$Careful" "LargeBubble$Bold")).before args s = true := am_jr (am_jr (am_jr (am_jr (am_jr (am_jl (am_jl (am_jl (am_jr h))))))))
theorem nf_25 {args : Array Value} {s : State} (h : (Jvm.Cond.and given_1 narrow_1).before args s = true) : (Jvm.Cond.not (Jvm.Cond.castable "LargeBubble$Slow" "LargeBubble$Bold")).before args s = true := am_jl (am_jl (am_jl (am_jl (am_jr (am_jl (am_jl (am_jr h)))))))
theorem nf_26 {args : Array Value} {s : State} (h : (Jvm.Cond.and given_1 narrow_1).before args s = true) : (Jvm.Cond.not (Jvm.Cond.castable "LargeBubble$Wise" "LargeBubble$Bold")).before args s = true := am_jl (am_jr (am_jl (am_jl (am_jl (am_jr (am_jl (am_jl (am_jr h))))))))
theorem nf_27 {args : Array Value} {s : State} (h : (Jvm.Cond.and given_1 narrow_1).before args s = true) : (Jvm.Cond.not (Jvm.Cond.castable "LargeBubble$Told" "LargeBubble$Bold")).before args s = true := am_jr (am_jr (am_jl (am_jl (am_jl (am_jr (am_jl (am_jl (am_jr h))))))))
theorem nf_28 {args : Array Value} {s : State} (h : (Jvm.Cond.and given_1 narrow_1).before args s = true) : (Jvm.Cond.not (Jvm.Cond.castable "LargeBubble$Blower" "LargeBubble$Bold")).before args s = true := am_jl (am_jr (am_jl (am_jl (am_jr (am_jl (am_jl (am_jr h)))))))
theorem nf_29 {args : Array Value} {s : State} (h : (Jvm.Cond.and given_1 narrow_1).before args s = true) : (Jvm.Cond.not (Jvm.Cond.castable "LargeBubble$Square" "LargeBubble$Bold")).before args s = true := am_jl (am_jr (am_jr (am_jl (am_jl (am_jr (am_jl (am_jl (am_jr h))))))))
theorem nf_30 {args : Array Value} {s : State} (h : (Jvm.Cond.and given_1 narrow_1).before args s = true) : (Jvm.Cond.not (Jvm.Cond.castable "LargeBubble" "LargeBubble$Careful")).before args s = true := am_jr (am_jr (am_jr (am_jl (am_jl (am_jr (am_jl (am_jl (am_jr h))))))))
theorem nf_31 {args : Array Value} {s : State} (h : (Jvm.Cond.and given_1 narrow_1).before args s = true) : (Jvm.Cond.not (Jvm.Cond.castable "LargeBubble$State" "LargeBubble$Careful")).before args s = true := am_jl (am_jl (am_jr (am_jl (am_jr (am_jl (am_jl (am_jr h)))))))
theorem nf_32 {args : Array Value} {s : State} (h : (Jvm.Cond.and given_1 narrow_1).before args s = true) : (Jvm.Cond.not (Jvm.Cond.castable "LargeBubble$Course" "LargeBubble$Careful")).before args s = true := am_jl (am_jr (am_jl (am_jr (am_jl (am_jr (am_jl (am_jl (am_jr h))))))))
theorem nf_33 {args : Array Value} {s : State} (h : (Jvm.Cond.and given_1 narrow_1).before args s = true) : (Jvm.Cond.not (Jvm.Cond.castable "LargeBubble$Text" "LargeBubble$Careful")).before args s = true := am_jr (am_jr (am_jl (am_jr (am_jl (am_jr (am_jl (am_jl (am_jr h))))))))
theorem nf_34 {args : Array Value} {s : State} (h : (Jvm.Cond.and given_1 narrow_1).before args s = true) : (Jvm.Cond.not (Jvm.Cond.castable "LargeBubbleModel" "LargeBubble$Careful")).before args s = true := am_jl (am_jr (am_jr (am_jl (am_jr (am_jl (am_jl (am_jr h)))))))
theorem nf_35 {args : Array Value} {s : State} (h : (Jvm.Cond.and given_1 narrow_1).before args s = true) : (Jvm.Cond.not (Jvm.Cond.castable "LargeBubble$Bold" "LargeBubble$Careful")).before args s = true := am_jl (am_jr (am_jr (am_jr (am_jl (am_jr (am_jl (am_jl (am_jr h))))))))
theorem nf_36 {args : Array Value} {s : State} (h : (Jvm.Cond.and given_1 narrow_1).before args s = true) : (Jvm.Cond.not (Jvm.Cond.castable "LargeBubble$Slow" "LargeBubble$Careful")).before args s = true := am_jr (am_jr (am_jr (am_jr (am_jl (am_jr (am_jl (am_jl (am_jr h))))))))
theorem nf_37 {args : Array Value} {s : State} (h : (Jvm.Cond.and given_1 narrow_1).before args s = true) : (Jvm.Cond.not (Jvm.Cond.castable "LargeBubble$Mad" "LargeBubble$Careful")).before args s = true := am_jl (am_jl (am_jl (am_jr (am_jr (am_jl (am_jl (am_jr h)))))))
theorem nf_38 {args : Array Value} {s : State} (h : (Jvm.Cond.and given_1 narrow_1).before args s = true) : (Jvm.Cond.not (Jvm.Cond.castable "LargeBubble$Told" "LargeBubble$Careful")).before args s = true := am_jl (am_jr (am_jl (am_jl (am_jr (am_jr (am_jl (am_jl (am_jr h))))))))
theorem nf_39 {args : Array Value} {s : State} (h : (Jvm.Cond.and given_1 narrow_1).before args s = true) : (Jvm.Cond.not (Jvm.Cond.castable "LargeBubble$Blower" "LargeBubble$Careful")).before args s = true := am_jr (am_jr (am_jl (am_jl (am_jr (am_jr (am_jl (am_jl (am_jr h))))))))
theorem nf_40 {args : Array Value} {s : State} (h : (Jvm.Cond.and given_1 narrow_1).before args s = true) : (Jvm.Cond.not (Jvm.Cond.castable "LargeBubble$Square" "LargeBubble$Careful")).before args s = true := am_jl (am_jr (am_jl (am_jr (am_jr (am_jl (am_jl (am_jr h)))))))
theorem nf_41 {args : Array Value} {s : State} (h : (Jvm.Cond.and given_1 narrow_1).before args s = true) : (Jvm.Cond.not (Jvm.Cond.castable "LargeBubble" "LargeBubble$Slow")).before args s = true := am_jl (am_jr (am_jr (am_jl (am_jr (am_jr (am_jl (am_jl (am_jr h))))))))
theorem nf_42 {args : Array Value} {s : State} (h : (Jvm.Cond.and given_1 narrow_1).before args s = true) : (Jvm.Cond.not (Jvm.Cond.castable "LargeBubble$State" "LargeBubble$Slow")).before args s = true := am_jr (am_jr (am_jr (am_jl (am_jr (am_jr (am_jl (am_jl (am_jr h))))))))
theorem nf_43 {args : Array Value} {s : State} (h : (Jvm.Cond.and given_1 narrow_1).before args s = true) : (Jvm.Cond.not (Jvm.Cond.castable "LargeBubble$Course" "LargeBubble$Slow")).before args s = true := am_jl (am_jl (am_jr (am_jr (am_jr (am_jl (am_jl (am_jr h)))))))
theorem nf_44 {args : Array Value} {s : State} (h : (Jvm.Cond.and given_1 narrow_1).before args s = true) : (Jvm.Cond.not (Jvm.Cond.castable "LargeBubble$Text" "LargeBubble$Slow")).before args s = true := am_jl (am_jr (am_jl (am_jr (am_jr (am_jr (am_jl (am_jl (am_jr h))))))))
theorem nf_45 {args : Array Value} {s : State} (h : (Jvm.Cond.and given_1 narrow_1).before args s = true) : (Jvm.Cond.not (Jvm.Cond.castable "LargeBubbleModel" "LargeBubble$Slow")).before args s = true := am_jr (am_jr (am_jl (am_jr (am_jr (am_jr (am_jl (am_jl (am_jr h))))))))
theorem nf_46 {args : Array Value} {s : State} (h : (Jvm.Cond.and given_1 narrow_1).before args s = true) : (Jvm.Cond.not (Jvm.Cond.castable "LargeBubble$Bold" "LargeBubble$Slow")).before args s = true := am_jl (am_jl (am_jr (am_jr (am_jr (am_jr (am_jl (am_jl (am_jr h))))))))
theorem nf_47 {args : Array Value} {s : State} (h : (Jvm.Cond.and given_1 narrow_1).before args s = true) : (Jvm.Cond.not (Jvm.Cond.castable "LargeBubble$Careful" "LargeBubble$Slow")).before args s = true := am_jr (am_jl (am_jr (am_jr (am_jr (am_jr (am_jl (am_jl (am_jr h))))))))
theorem nf_48 {args : Array Value} {s : State} (h : (Jvm.Cond.and given_1 narrow_1).before args s = true) : (Jvm.Cond.not (Jvm.Cond.castable "LargeBubble$Mad" "LargeBubble$Slow")).before args s = true := am_jl (am_jr (am_jr (am_jr (am_jr (am_jr (am_jl (am_jl (am_jr h))))))))
theorem nf_49 {args : Array Value} {s : State} (h : (Jvm.Cond.and given_1 narrow_1).before args s = true) : (Jvm.Cond.not (Jvm.Cond.castable "LargeBubble$Wise" "LargeBubble$Slow")).before args s = true := am_jr (am_jr (am_jr (am_jr (am_jr (am_jr (am_jl (am_jl (am_jr h))))))))
theorem nf_50 {args : Array Value} {s : State} (h : (Jvm.Cond.and given_1 narrow_1).before args s = true) : (Jvm.Cond.not (Jvm.Cond.castable "LargeBubble$Blower" "LargeBubble$Slow")).before args s = true := am_jl (am_jl (am_jl (am_jl (am_jl (am_jr (am_jl (am_jr h)))))))
theorem nf_51 {args : Array Value} {s : State} (h : (Jvm.Cond.and given_1 narrow_1).before args s = true) : (Jvm.Cond.not (Jvm.Cond.castable "LargeBubble$Square" "LargeBubble$Slow")).before args s = true := am_jl (am_jr (am_jl (am_jl (am_jl (am_jl (am_jr (am_jl (am_jr h))))))))
theorem nf_52 {args : Array Value} {s : State} (h : (Jvm.Cond.and given_1 narrow_1).before args s = true) : (Jvm.Cond.not (Jvm.Cond.castable "LargeBubble" "LargeBubble$Mad")).before args s = true := am_jr (am_jr (am_jl (am_jl (am_jl (am_jl (am_jr (am_jl (am_jr h))))))))
theorem nf_53 {args : Array Value} {s : State} (h : (Jvm.Cond.and given_1 narrow_1).before args s = true) : (Jvm.Cond.not (Jvm.Cond.castable "LargeBubble$State" "LargeBubble$Mad")).before args s = true := am_jl (am_jr (am_jl (am_jl (am_jl (am_jr (am_jl (am_jr h)))))))
theorem nf_54 {args : Array Value} {s : State} (h : (Jvm.Cond.and given_1 narrow_1).before args s = true) : (Jvm.Cond.not (Jvm.Cond.castable "LargeBubble$Course" "LargeBubble$Mad")).before args s = true := am_jl (am_jr (am_jr (am_jl (am_jl (am_jl (am_jr (am_jl (am_jr h))))))))
theorem nf_55 {args : Array Value} {s : State} (h : (Jvm.Cond.and given_1 narrow_1).before args s = true) : (Jvm.Cond.not (Jvm.Cond.castable "LargeBubble$Text" "LargeBubble$Mad")).before args s = true := am_jr (am_jr (am_jr (am_jl (am_jl (am_jl (am_jr (am_jl (am_jr h))))))))
theorem nf_56 {args : Array Value} {s : State} (h : (Jvm.Cond.and given_1 narrow_1).before args s = true) : (Jvm.Cond.not (Jvm.Cond.castable "LargeBubbleModel" "LargeBubble$Mad")).before args s = true := am_jl (am_jl (am_jr (am_jl (am_jl (am_jr (am_jl (am_jr h)))))))
theorem nf_57 {args : Array Value} {s : State} (h : (Jvm.Cond.and given_1 narrow_1).before args s = true) : (Jvm.Cond.not (Jvm.Cond.castable "LargeBubble$Bold" "LargeBubble$Mad")).before args s = true := am_jl (am_jr (am_jl (am_jr (am_jl (am_jl (am_jr (am_jl (am_jr h))))))))
theorem nf_58 {args : Array Value} {s : State} (h : (Jvm.Cond.and given_1 narrow_1).before args s = true) : (Jvm.Cond.not (Jvm.Cond.castable "LargeBubble$Careful" "LargeBubble$Mad")).before args s = true := am_jr (am_jr (am_jl (am_jr (am_jl (am_jl (am_jr (am_jl (am_jr h))))))))
theorem nf_59 {args : Array Value} {s : State} (h : (Jvm.Cond.and given_1 narrow_1).before args s = true) : (Jvm.Cond.not (Jvm.Cond.castable "LargeBubble$Slow" "LargeBubble$Mad")).before args s = true := am_jl (am_jr (am_jr (am_jl (am_jl (am_jr (am_jl (am_jr h)))))))
theorem nf_60 {args : Array Value} {s : State} (h : (Jvm.Cond.and given_1 narrow_1).before args s = true) : (Jvm.Cond.not (Jvm.Cond.castable "LargeBubble$Wise" "LargeBubble$Mad")).before args s = true := am_jl (am_jr (am_jr (am_jr (am_jl (am_jl (am_jr (am_jl (am_jr h))))))))
theorem nf_61 {args : Array Value} {s : State} (h : (Jvm.Cond.and given_1 narrow_1).before args s = true) : (Jvm.Cond.not (Jvm.Cond.castable "LargeBubble$Told" "LargeBubble$Mad")).before args s = true := am_jr (am_jr (am_jr (am_jr (am_jl (am_jl (am_jr (am_jl (am_jr h))))))))
theorem nf_62 {args : Array Value} {s : State} (h : (Jvm.Cond.and given_1 narrow_1).before args s = true) : (Jvm.Cond.not (Jvm.Cond.castable "LargeBubble$Blower" "LargeBubble$Mad")).before args s = true := am_jl (am_jl (am_jl (am_jr (am_jl (am_jr (am_jl (am_jr h)))))))
theorem nf_63 {args : Array Value} {s : State} (h : (Jvm.Cond.and given_1 narrow_1).before args s = true) : (Jvm.Cond.not (Jvm.Cond.castable "LargeBubble$Square" "LargeBubble$Mad")).before args s = true := am_jl (am_jr (am_jl (am_jl (am_jr (am_jl (am_jr (am_jl (am_jr h))))))))
theorem nf_64 {args : Array Value} {s : State} (h : (Jvm.Cond.and given_1 narrow_1).before args s = true) : (Jvm.Cond.not (Jvm.Cond.castable "LargeBubble" "LargeBubble$Wise")).before args s = true := am_jr (am_jr (am_jl (am_jl (am_jr (am_jl (am_jr (am_jl (am_jr h))))))))
theorem nf_65 {args : Array Value} {s : State} (h : (Jvm.Cond.and given_1 narrow_1).before args s = true) : (Jvm.Cond.not (Jvm.Cond.castable "LargeBubble$State" "LargeBubble$Wise")).before args s = true := am_jl (am_jr (am_jl (am_jr (am_jl (am_jr (am_jl (am_jr h)))))))
theorem nf_66 {args : Array Value} {s : State} (h : (Jvm.Cond.and given_1 narrow_1).before args s = true) : (Jvm.Cond.not (Jvm.Cond.castable "LargeBubble$Course" "LargeBubble$Wise")).before args s = true := am_jl (am_jr (am_jr (am_jl (am_jr (am_jl (am_jr (am_jl (am_jr h))))))))
theorem nf_67 {args : Array Value} {s : State} (h : (Jvm.Cond.and given_1 narrow_1).before args s = true) : (Jvm.Cond.not (Jvm.Cond.castable "LargeBubble$Text" "LargeBubble$Wise")).before args s = true := am_jr (am_jr (am_jr (am_jl (am_jr (am_jl (am_jr (am_jl (am_jr h))))))))
theorem nf_68 {args : Array Value} {s : State} (h : (Jvm.Cond.and given_1 narrow_1).before args s = true) : (Jvm.Cond.not (Jvm.Cond.castable "LargeBubbleModel" "LargeBubble$Wise")).before args s = true := am_jl (am_jl (am_jr (am_jr (am_jl (am_jr (am_jl (am_jr h)))))))
theorem nf_69 {args : Array Value} {s : State} (h : (Jvm.Cond.and given_1 narrow_1).before args s = true) : (Jvm.Cond.not (Jvm.Cond.castable "LargeBubble$Bold" "LargeBubble$Wise")).before args s = true := am_jl (am_jr (am_jl (am_jr (am_jr (am_jl (am_jr (am_jl (am_jr h))))))))
theorem nf_70 {args : Array Value} {s : State} (h : (Jvm.Cond.and given_1 narrow_1).before args s = true) : (Jvm.Cond.not (Jvm.Cond.castable "LargeBubble$Careful" "LargeBubble$Wise")).before args s = true := am_jr (am_jr (am_jl (am_jr (am_jr (am_jl (am_jr (am_jl (am_jr h))))))))
theorem nf_71 {args : Array Value} {s : State} (h : (Jvm.Cond.and given_1 narrow_1).before args s = true) : (Jvm.Cond.not (Jvm.Cond.castable "LargeBubble$Slow" "LargeBubble$Wise")).before args s = true := am_jl (am_jl (am_jr (am_jr (am_jr (am_jl (am_jr (am_jl (am_jr h))))))))
theorem nf_72 {args : Array Value} {s : State} (h : (Jvm.Cond.and given_1 narrow_1).before args s = true) : (Jvm.Cond.not (Jvm.Cond.castable "LargeBubble$Mad" "LargeBubble$Wise")).before args s = true := am_jr (am_jl (am_jr (am_jr (am_jr (am_jl (am_jr (am_jl (am_jr h))))))))
theorem nf_73 {args : Array Value} {s : State} (h : (Jvm.Cond.and given_1 narrow_1).before args s = true) : (Jvm.Cond.not (Jvm.Cond.castable "LargeBubble$Told" "LargeBubble$Wise")).before args s = true := am_jl (am_jr (am_jr (am_jr (am_jr (am_jl (am_jr (am_jl (am_jr h))))))))
theorem nf_74 {args : Array Value} {s : State} (h : (Jvm.Cond.and given_1 narrow_1).before args s = true) : (Jvm.Cond.not (Jvm.Cond.castable "LargeBubble$Blower" "LargeBubble$Wise")).before args s = true := am_jr (am_jr (am_jr (am_jr (am_jr (am_jl (am_jr (am_jl (am_jr h))))))))
theorem nf_75 {args : Array Value} {s : State} (h : (Jvm.Cond.and given_1 narrow_1).before args s = true) : (Jvm.Cond.not (Jvm.Cond.castable "LargeBubble$Square" "LargeBubble$Wise")).before args s = true := am_jl (am_jl (am_jl (am_jl (am_jr (am_jr (am_jl (am_jr h)))))))
theorem nf_76 {args : Array Value} {s : State} (h : (Jvm.Cond.and given_1 narrow_1).before args s = true) : (Jvm.Cond.not (Jvm.Cond.castable "java/lang/String" "LargeBubble$Told")).before args s = true := am_jl (am_jr (am_jl (am_jl (am_jl (am_jr (am_jr (am_jl (am_jr h))))))))
theorem nf_77 {args : Array Value} {s : State} (h : (Jvm.Cond.and given_1 narrow_1).before args s = true) : (Jvm.Cond.not (Jvm.Cond.castable "[LLargeBubble$Blower;" "LargeBubble$Told")).before args s = true := am_jr (am_jr (am_jl (am_jl (am_jl (am_jr (am_jr (am_jl (am_jr h))))))))
theorem nf_78 {args : Array Value} {s : State} (h : (Jvm.Cond.and given_1 narrow_1).before args s = true) : (Jvm.Cond.not (Jvm.Cond.castable "[[I" "LargeBubble$Told")).before args s = true := am_jl (am_jr (am_jl (am_jl (am_jr (am_jr (am_jl (am_jr h)))))))
theorem nf_79 {args : Array Value} {s : State} (h : (Jvm.Cond.and given_1 narrow_1).before args s = true) : (Jvm.Cond.not (Jvm.Cond.castable "[I" "LargeBubble$Told")).before args s = true := am_jl (am_jr (am_jr (am_jl (am_jl (am_jr (am_jr (am_jl (am_jr h))))))))
theorem nf_80 {args : Array Value} {s : State} (h : (Jvm.Cond.and given_1 narrow_1).before args s = true) : (Jvm.Cond.not (Jvm.Cond.castable "[Z" "LargeBubble$Told")).before args s = true := am_jr (am_jr (am_jr (am_jl (am_jl (am_jr (am_jr (am_jl (am_jr h))))))))
theorem nf_81 {args : Array Value} {s : State} (h : (Jvm.Cond.and given_1 narrow_1).before args s = true) : (Jvm.Cond.not (Jvm.Cond.castable "[B" "LargeBubble$Told")).before args s = true := am_jl (am_jl (am_jr (am_jl (am_jr (am_jr (am_jl (am_jr h)))))))
theorem nf_82 {args : Array Value} {s : State} (h : (Jvm.Cond.and given_1 narrow_1).before args s = true) : (Jvm.Cond.not (Jvm.Cond.castable "[LLargeBubble$Square;" "LargeBubble$Told")).before args s = true := am_jl (am_jr (am_jl (am_jr (am_jl (am_jr (am_jr (am_jl (am_jr h))))))))
theorem nf_83 {args : Array Value} {s : State} (h : (Jvm.Cond.and given_1 narrow_1).before args s = true) : (Jvm.Cond.not (Jvm.Cond.castable "[[J" "LargeBubble$Told")).before args s = true := am_jr (am_jr (am_jl (am_jr (am_jl (am_jr (am_jr (am_jl (am_jr h))))))))
theorem nf_84 {args : Array Value} {s : State} (h : (Jvm.Cond.and given_1 narrow_1).before args s = true) : (Jvm.Cond.not (Jvm.Cond.castable "[J" "LargeBubble$Told")).before args s = true := am_jl (am_jr (am_jr (am_jl (am_jr (am_jr (am_jl (am_jr h)))))))
theorem nf_85 {args : Array Value} {s : State} (h : (Jvm.Cond.and given_1 narrow_1).before args s = true) : (Jvm.Cond.not (Jvm.Cond.castable "java/lang/String" "LargeBubble$Bold")).before args s = true := am_jl (am_jr (am_jr (am_jr (am_jl (am_jr (am_jr (am_jl (am_jr h))))))))
theorem nf_86 {args : Array Value} {s : State} (h : (Jvm.Cond.and given_1 narrow_1).before args s = true) : (Jvm.Cond.not (Jvm.Cond.castable "[LLargeBubble$Blower;" "LargeBubble$Bold")).before args s = true := am_jr (am_jr (am_jr (am_jr (am_jl (am_jr (am_jr (am_jl (am_jr h))))))))
theorem nf_87 {args : Array Value} {s : State} (h : (Jvm.Cond.and given_1 narrow_1).before args s = true) : (Jvm.Cond.not (Jvm.Cond.castable "[[I" "LargeBubble$Bold")).before args s = true := am_jl (am_jl (am_jl (am_jr (am_jr (am_jr (am_jl (am_jr h)))))))
theorem nf_88 {args : Array Value} {s : State} (h : (Jvm.Cond.and given_1 narrow_1).before args s = true) : (Jvm.Cond.not (Jvm.Cond.castable "[I" "LargeBubble$Bold")).before args s = true := am_jl (am_jr (am_jl (am_jl (am_jr (am_jr (am_jr (am_jl (am_jr h))))))))
theorem nf_89 {args : Array Value} {s : State} (h : (Jvm.Cond.and given_1 narrow_1).before args s = true) : (Jvm.Cond.not (Jvm.Cond.castable "[Z" "LargeBubble$Bold")).before args s = true := am_jr (am_jr (am_jl (am_jl (am_jr (am_jr (am_jr (am_jl (am_jr h))))))))
theorem nf_90 {args : Array Value} {s : State} (h : (Jvm.Cond.and given_1 narrow_1).before args s = true) : (Jvm.Cond.not (Jvm.Cond.castable "[B" "LargeBubble$Bold")).before args s = true := am_jl (am_jr (am_jl (am_jr (am_jr (am_jr (am_jl (am_jr h)))))))
theorem nf_91 {args : Array Value} {s : State} (h : (Jvm.Cond.and given_1 narrow_1).before args s = true) : (Jvm.Cond.not (Jvm.Cond.castable "[LLargeBubble$Square;" "LargeBubble$Bold")).before args s = true := am_jl (am_jr (am_jr (am_jl (am_jr (am_jr (am_jr (am_jl (am_jr h))))))))
theorem nf_92 {args : Array Value} {s : State} (h : (Jvm.Cond.and given_1 narrow_1).before args s = true) : (Jvm.Cond.not (Jvm.Cond.castable "[[J" "LargeBubble$Bold")).before args s = true := am_jr (am_jr (am_jr (am_jl (am_jr (am_jr (am_jr (am_jl (am_jr h))))))))
theorem nf_93 {args : Array Value} {s : State} (h : (Jvm.Cond.and given_1 narrow_1).before args s = true) : (Jvm.Cond.not (Jvm.Cond.castable "[J" "LargeBubble$Bold")).before args s = true := am_jl (am_jl (am_jr (am_jr (am_jr (am_jr (am_jl (am_jr h)))))))
theorem nf_94 {args : Array Value} {s : State} (h : (Jvm.Cond.and given_1 narrow_1).before args s = true) : (Jvm.Cond.not (Jvm.Cond.castable "java/lang/String" "LargeBubble$Careful")).before args s = true := am_jl (am_jr (am_jl (am_jr (am_jr (am_jr (am_jr (am_jl (am_jr h))))))))
theorem nf_95 {args : Array Value} {s : State} (h : (Jvm.Cond.and given_1 narrow_1).before args s = true) : (Jvm.Cond.not (Jvm.Cond.castable "[LLargeBubble$Blower;" "LargeBubble$Careful")).before args s = true := am_jr (am_jr (am_jl (am_jr (am_jr (am_jr (am_jr (am_jl (am_jr h))))))))
theorem nf_96 {args : Array Value} {s : State} (h : (Jvm.Cond.and given_1 narrow_1).before args s = true) : (Jvm.Cond.not (Jvm.Cond.castable "[[I" "LargeBubble$Careful")).before args s = true := am_jl (am_jl (am_jr (am_jr (am_jr (am_jr (am_jr (am_jl (am_jr h))))))))
theorem nf_97 {args : Array Value} {s : State} (h : (Jvm.Cond.and given_1 narrow_1).before args s = true) : (Jvm.Cond.not (Jvm.Cond.castable "[I" "LargeBubble$Careful")).before args s = true := am_jr (am_jl (am_jr (am_jr (am_jr (am_jr (am_jr (am_jl (am_jr h))))))))
theorem nf_98 {args : Array Value} {s : State} (h : (Jvm.Cond.and given_1 narrow_1).before args s = true) : (Jvm.Cond.not (Jvm.Cond.castable "[Z" "LargeBubble$Careful")).before args s = true := am_jl (am_jr (am_jr (am_jr (am_jr (am_jr (am_jr (am_jl (am_jr h))))))))
theorem nf_99 {args : Array Value} {s : State} (h : (Jvm.Cond.and given_1 narrow_1).before args s = true) : (Jvm.Cond.not (Jvm.Cond.castable "[B" "LargeBubble$Careful")).before args s = true := am_jr (am_jr (am_jr (am_jr (am_jr (am_jr (am_jr (am_jl (am_jr h))))))))
theorem nf_100 {args : Array Value} {s : State} (h : (Jvm.Cond.and given_1 narrow_1).before args s = true) : (Jvm.Cond.not (Jvm.Cond.castable "[LLargeBubble$Square;" "LargeBubble$Careful")).before args s = true := am_jl (am_jl (am_jl (am_jl (am_jl (am_jl (am_jr (am_jr h)))))))
theorem nf_101 {args : Array Value} {s : State} (h : (Jvm.Cond.and given_1 narrow_1).before args s = true) : (Jvm.Cond.not (Jvm.Cond.castable "[[J" "LargeBubble$Careful")).before args s = true := am_jl (am_jr (am_jl (am_jl (am_jl (am_jl (am_jl (am_jr (am_jr h))))))))
theorem nf_102 {args : Array Value} {s : State} (h : (Jvm.Cond.and given_1 narrow_1).before args s = true) : (Jvm.Cond.not (Jvm.Cond.castable "[J" "LargeBubble$Careful")).before args s = true := am_jr (am_jr (am_jl (am_jl (am_jl (am_jl (am_jl (am_jr (am_jr h))))))))
theorem nf_103 {args : Array Value} {s : State} (h : (Jvm.Cond.and given_1 narrow_1).before args s = true) : (Jvm.Cond.not (Jvm.Cond.castable "java/lang/String" "LargeBubble$Slow")).before args s = true := am_jl (am_jr (am_jl (am_jl (am_jl (am_jl (am_jr (am_jr h)))))))
theorem nf_104 {args : Array Value} {s : State} (h : (Jvm.Cond.and given_1 narrow_1).before args s = true) : (Jvm.Cond.not (Jvm.Cond.castable "[LLargeBubble$Blower;" "LargeBubble$Slow")).before args s = true := am_jl (am_jr (am_jr (am_jl (am_jl (am_jl (am_jl (am_jr (am_jr h))))))))
theorem nf_105 {args : Array Value} {s : State} (h : (Jvm.Cond.and given_1 narrow_1).before args s = true) : (Jvm.Cond.not (Jvm.Cond.castable "[[I" "LargeBubble$Slow")).before args s = true := am_jr (am_jr (am_jr (am_jl (am_jl (am_jl (am_jl (am_jr (am_jr h))))))))
theorem nf_106 {args : Array Value} {s : State} (h : (Jvm.Cond.and given_1 narrow_1).before args s = true) : (Jvm.Cond.not (Jvm.Cond.castable "[I" "LargeBubble$Slow")).before args s = true := am_jl (am_jl (am_jr (am_jl (am_jl (am_jl (am_jr (am_jr h)))))))
theorem nf_107 {args : Array Value} {s : State} (h : (Jvm.Cond.and given_1 narrow_1).before args s = true) : (Jvm.Cond.not (Jvm.Cond.castable "[Z" "LargeBubble$Slow")).before args s = true := am_jl (am_jr (am_jl (am_jr (am_jl (am_jl (am_jl (am_jr (am_jr h))))))))
theorem nf_108 {args : Array Value} {s : State} (h : (Jvm.Cond.and given_1 narrow_1).before args s = true) : (Jvm.Cond.not (Jvm.Cond.castable "[B" "LargeBubble$Slow")).before args s = true := am_jr (am_jr (am_jl (am_jr (am_jl (am_jl (am_jl (am_jr (am_jr h))))))))
theorem nf_109 {args : Array Value} {s : State} (h : (Jvm.Cond.and given_1 narrow_1).before args s = true) : (Jvm.Cond.not (Jvm.Cond.castable "[LLargeBubble$Square;" "LargeBubble$Slow")).before args s = true := am_jl (am_jr (am_jr (am_jl (am_jl (am_jl (am_jr (am_jr h)))))))
theorem nf_110 {args : Array Value} {s : State} (h : (Jvm.Cond.and given_1 narrow_1).before args s = true) : (Jvm.Cond.not (Jvm.Cond.castable "[[J" "LargeBubble$Slow")).before args s = true := am_jl (am_jr (am_jr (am_jr (am_jl (am_jl (am_jl (am_jr (am_jr h))))))))
theorem nf_111 {args : Array Value} {s : State} (h : (Jvm.Cond.and given_1 narrow_1).before args s = true) : (Jvm.Cond.not (Jvm.Cond.castable "[J" "LargeBubble$Slow")).before args s = true := am_jr (am_jr (am_jr (am_jr (am_jl (am_jl (am_jl (am_jr (am_jr h))))))))
theorem nf_112 {args : Array Value} {s : State} (h : (Jvm.Cond.and given_1 narrow_1).before args s = true) : (Jvm.Cond.not (Jvm.Cond.castable "java/lang/String" "LargeBubble$Mad")).before args s = true := am_jl (am_jl (am_jl (am_jr (am_jl (am_jl (am_jr (am_jr h)))))))
theorem nf_113 {args : Array Value} {s : State} (h : (Jvm.Cond.and given_1 narrow_1).before args s = true) : (Jvm.Cond.not (Jvm.Cond.castable "[LLargeBubble$Blower;" "LargeBubble$Mad")).before args s = true := am_jl (am_jr (am_jl (am_jl (am_jr (am_jl (am_jl (am_jr (am_jr h))))))))
theorem nf_114 {args : Array Value} {s : State} (h : (Jvm.Cond.and given_1 narrow_1).before args s = true) : (Jvm.Cond.not (Jvm.Cond.castable "[[I" "LargeBubble$Mad")).before args s = true := am_jr (am_jr (am_jl (am_jl (am_jr (am_jl (am_jl (am_jr (am_jr h))))))))
theorem nf_115 {args : Array Value} {s : State} (h : (Jvm.Cond.and given_1 narrow_1).before args s = true) : (Jvm.Cond.not (Jvm.Cond.castable "[I" "LargeBubble$Mad")).before args s = true := am_jl (am_jr (am_jl (am_jr (am_jl (am_jl (am_jr (am_jr h)))))))
theorem nf_116 {args : Array Value} {s : State} (h : (Jvm.Cond.and given_1 narrow_1).before args s = true) : (Jvm.Cond.not (Jvm.Cond.castable "[Z" "LargeBubble$Mad")).before args s = true := am_jl (am_jr (am_jr (am_jl (am_jr (am_jl (am_jl (am_jr (am_jr h))))))))
theorem nf_117 {args : Array Value} {s : State} (h : (Jvm.Cond.and given_1 narrow_1).before args s = true) : (Jvm.Cond.not (Jvm.Cond.castable "[B" "LargeBubble$Mad")).before args s = true := am_jr (am_jr (am_jr (am_jl (am_jr (am_jl (am_jl (am_jr (am_jr h))))))))
theorem nf_118 {args : Array Value} {s : State} (h : (Jvm.Cond.and given_1 narrow_1).before args s = true) : (Jvm.Cond.not (Jvm.Cond.castable "[LLargeBubble$Square;" "LargeBubble$Mad")).before args s = true := am_jl (am_jl (am_jr (am_jr (am_jl (am_jl (am_jr (am_jr h)))))))
theorem nf_119 {args : Array Value} {s : State} (h : (Jvm.Cond.and given_1 narrow_1).before args s = true) : (Jvm.Cond.not (Jvm.Cond.castable "[[J" "LargeBubble$Mad")).before args s = true := am_jl (am_jr (am_jl (am_jr (am_jr (am_jl (am_jl (am_jr (am_jr h))))))))
theorem nf_120 {args : Array Value} {s : State} (h : (Jvm.Cond.and given_1 narrow_1).before args s = true) : (Jvm.Cond.not (Jvm.Cond.castable "[J" "LargeBubble$Mad")).before args s = true := am_jr (am_jr (am_jl (am_jr (am_jr (am_jl (am_jl (am_jr (am_jr h))))))))
theorem nf_121 {args : Array Value} {s : State} (h : (Jvm.Cond.and given_1 narrow_1).before args s = true) : (Jvm.Cond.not (Jvm.Cond.castable "java/lang/String" "LargeBubble$Wise")).before args s = true := am_jl (am_jl (am_jr (am_jr (am_jr (am_jl (am_jl (am_jr (am_jr h))))))))
theorem nf_122 {args : Array Value} {s : State} (h : (Jvm.Cond.and given_1 narrow_1).before args s = true) : (Jvm.Cond.not (Jvm.Cond.castable "[LLargeBubble$Blower;" "LargeBubble$Wise")).before args s = true := am_jr (am_jl (am_jr (am_jr (am_jr (am_jl (am_jl (am_jr (am_jr h))))))))
theorem nf_123 {args : Array Value} {s : State} (h : (Jvm.Cond.and given_1 narrow_1).before args s = true) : (Jvm.Cond.not (Jvm.Cond.castable "[[I" "LargeBubble$Wise")).before args s = true := am_jl (am_jr (am_jr (am_jr (am_jr (am_jl (am_jl (am_jr (am_jr h))))))))
theorem nf_124 {args : Array Value} {s : State} (h : (Jvm.Cond.and given_1 narrow_1).before args s = true) : (Jvm.Cond.not (Jvm.Cond.castable "[I" "LargeBubble$Wise")).before args s = true := am_jr (am_jr (am_jr (am_jr (am_jr (am_jl (am_jl (am_jr (am_jr h))))))))
theorem nf_125 {args : Array Value} {s : State} (h : (Jvm.Cond.and given_1 narrow_1).before args s = true) : (Jvm.Cond.not (Jvm.Cond.castable "[Z" "LargeBubble$Wise")).before args s = true := am_jl (am_jl (am_jl (am_jl (am_jr (am_jl (am_jr (am_jr h)))))))
theorem nf_126 {args : Array Value} {s : State} (h : (Jvm.Cond.and given_1 narrow_1).before args s = true) : (Jvm.Cond.not (Jvm.Cond.castable "[B" "LargeBubble$Wise")).before args s = true := am_jl (am_jr (am_jl (am_jl (am_jl (am_jr (am_jl (am_jr (am_jr h))))))))
theorem nf_127 {args : Array Value} {s : State} (h : (Jvm.Cond.and given_1 narrow_1).before args s = true) : (Jvm.Cond.not (Jvm.Cond.castable "[LLargeBubble$Square;" "LargeBubble$Wise")).before args s = true := am_jr (am_jr (am_jl (am_jl (am_jl (am_jr (am_jl (am_jr (am_jr h))))))))
theorem nf_128 {args : Array Value} {s : State} (h : (Jvm.Cond.and given_1 narrow_1).before args s = true) : (Jvm.Cond.not (Jvm.Cond.castable "[[J" "LargeBubble$Wise")).before args s = true := am_jl (am_jr (am_jl (am_jl (am_jr (am_jl (am_jr (am_jr h)))))))
theorem nf_129 {args : Array Value} {s : State} (h : (Jvm.Cond.and given_1 narrow_1).before args s = true) : (Jvm.Cond.not (Jvm.Cond.castable "[J" "LargeBubble$Wise")).before args s = true := am_jl (am_jr (am_jr (am_jl (am_jl (am_jr (am_jl (am_jr (am_jr h))))))))
theorem nf_130 {args : Array Value} {s : State} (h : (Jvm.Cond.and given_1 narrow_1).before args s = true) : (Jvm.Cond.not (Jvm.Cond.castable "LargeBubble" "LargeBubble$Blower")).before args s = true := am_jr (am_jr (am_jr (am_jl (am_jl (am_jr (am_jl (am_jr (am_jr h))))))))
theorem nf_131 {args : Array Value} {s : State} (h : (Jvm.Cond.and given_1 narrow_1).before args s = true) : (Jvm.Cond.not (Jvm.Cond.castable "LargeBubble$State" "LargeBubble$Blower")).before args s = true := am_jl (am_jl (am_jr (am_jl (am_jr (am_jl (am_jr (am_jr h)))))))
theorem nf_132 {args : Array Value} {s : State} (h : (Jvm.Cond.and given_1 narrow_1).before args s = true) : (Jvm.Cond.not (Jvm.Cond.castable "LargeBubble$Course" "LargeBubble$Blower")).before args s = true := am_jl (am_jr (am_jl (am_jr (am_jl (am_jr (am_jl (am_jr (am_jr h))))))))
theorem nf_133 {args : Array Value} {s : State} (h : (Jvm.Cond.and given_1 narrow_1).before args s = true) : (Jvm.Cond.not (Jvm.Cond.castable "LargeBubble$Text" "LargeBubble$Blower")).before args s = true := am_jr (am_jr (am_jl (am_jr (am_jl (am_jr (am_jl (am_jr (am_jr h))))))))
theorem nf_134 {args : Array Value} {s : State} (h : (Jvm.Cond.and given_1 narrow_1).before args s = true) : (Jvm.Cond.not (Jvm.Cond.castable "LargeBubbleModel" "LargeBubble$Blower")).before args s = true := am_jl (am_jr (am_jr (am_jl (am_jr (am_jl (am_jr (am_jr h)))))))
theorem nf_135 {args : Array Value} {s : State} (h : (Jvm.Cond.and given_1 narrow_1).before args s = true) : (Jvm.Cond.not (Jvm.Cond.castable "LargeBubble$Square" "LargeBubble$Blower")).before args s = true := am_jl (am_jr (am_jr (am_jr (am_jl (am_jr (am_jl (am_jr (am_jr h))))))))
theorem nf_136 {args : Array Value} {s : State} (h : (Jvm.Cond.and given_1 narrow_1).before args s = true) : (Jvm.Cond.not (Jvm.Cond.castable "java/lang/String" "LargeBubble$Blower")).before args s = true := am_jr (am_jr (am_jr (am_jr (am_jl (am_jr (am_jl (am_jr (am_jr h))))))))
theorem nf_137 {args : Array Value} {s : State} (h : (Jvm.Cond.and given_1 narrow_1).before args s = true) : (Jvm.Cond.not (Jvm.Cond.castable "LargeBubble" "LargeBubble$Square")).before args s = true := am_jl (am_jl (am_jl (am_jr (am_jr (am_jl (am_jr (am_jr h)))))))
theorem nf_138 {args : Array Value} {s : State} (h : (Jvm.Cond.and given_1 narrow_1).before args s = true) : (Jvm.Cond.not (Jvm.Cond.castable "LargeBubble$State" "LargeBubble$Square")).before args s = true := am_jl (am_jr (am_jl (am_jl (am_jr (am_jr (am_jl (am_jr (am_jr h))))))))
theorem nf_139 {args : Array Value} {s : State} (h : (Jvm.Cond.and given_1 narrow_1).before args s = true) : (Jvm.Cond.not (Jvm.Cond.castable "LargeBubble$Course" "LargeBubble$Square")).before args s = true := am_jr (am_jr (am_jl (am_jl (am_jr (am_jr (am_jl (am_jr (am_jr h))))))))
theorem nf_140 {args : Array Value} {s : State} (h : (Jvm.Cond.and given_1 narrow_1).before args s = true) : (Jvm.Cond.not (Jvm.Cond.castable "LargeBubble$Text" "LargeBubble$Square")).before args s = true := am_jl (am_jr (am_jl (am_jr (am_jr (am_jl (am_jr (am_jr h)))))))
theorem nf_141 {args : Array Value} {s : State} (h : (Jvm.Cond.and given_1 narrow_1).before args s = true) : (Jvm.Cond.not (Jvm.Cond.castable "LargeBubbleModel" "LargeBubble$Square")).before args s = true := am_jl (am_jr (am_jr (am_jl (am_jr (am_jr (am_jl (am_jr (am_jr h))))))))
theorem nf_142 {args : Array Value} {s : State} (h : (Jvm.Cond.and given_1 narrow_1).before args s = true) : (Jvm.Cond.not (Jvm.Cond.castable "LargeBubble$Bold" "LargeBubble$Square")).before args s = true := am_jr (am_jr (am_jr (am_jl (am_jr (am_jr (am_jl (am_jr (am_jr h))))))))
theorem nf_143 {args : Array Value} {s : State} (h : (Jvm.Cond.and given_1 narrow_1).before args s = true) : (Jvm.Cond.not (Jvm.Cond.castable "LargeBubble$Careful" "LargeBubble$Square")).before args s = true := am_jl (am_jl (am_jr (am_jr (am_jr (am_jl (am_jr (am_jr h)))))))
theorem nf_144 {args : Array Value} {s : State} (h : (Jvm.Cond.and given_1 narrow_1).before args s = true) : (Jvm.Cond.not (Jvm.Cond.castable "LargeBubble$Slow" "LargeBubble$Square")).before args s = true := am_jl (am_jr (am_jl (am_jr (am_jr (am_jr (am_jl (am_jr (am_jr h))))))))
theorem nf_145 {args : Array Value} {s : State} (h : (Jvm.Cond.and given_1 narrow_1).before args s = true) : (Jvm.Cond.not (Jvm.Cond.castable "LargeBubble$Mad" "LargeBubble$Square")).before args s = true := am_jr (am_jr (am_jl (am_jr (am_jr (am_jr (am_jl (am_jr (am_jr h))))))))
theorem nf_146 {args : Array Value} {s : State} (h : (Jvm.Cond.and given_1 narrow_1).before args s = true) : (Jvm.Cond.not (Jvm.Cond.castable "LargeBubble$Wise" "LargeBubble$Square")).before args s = true := am_jl (am_jl (am_jr (am_jr (am_jr (am_jr (am_jl (am_jr (am_jr h))))))))
theorem nf_147 {args : Array Value} {s : State} (h : (Jvm.Cond.and given_1 narrow_1).before args s = true) : (Jvm.Cond.not (Jvm.Cond.castable "LargeBubble$Told" "LargeBubble$Square")).before args s = true := am_jr (am_jl (am_jr (am_jr (am_jr (am_jr (am_jl (am_jr (am_jr h))))))))
theorem nf_148 {args : Array Value} {s : State} (h : (Jvm.Cond.and given_1 narrow_1).before args s = true) : (Jvm.Cond.not (Jvm.Cond.castable "LargeBubble$Blower" "LargeBubble$Square")).before args s = true := am_jl (am_jr (am_jr (am_jr (am_jr (am_jr (am_jl (am_jr (am_jr h))))))))
theorem nf_149 {args : Array Value} {s : State} (h : (Jvm.Cond.and given_1 narrow_1).before args s = true) : (Jvm.Cond.not (Jvm.Cond.castable "java/lang/String" "LargeBubble$Square")).before args s = true := am_jr (am_jr (am_jr (am_jr (am_jr (am_jr (am_jl (am_jr (am_jr h))))))))
theorem nf_150 {args : Array Value} {s : State} (h : (Jvm.Cond.and given_1 narrow_1).before args s = true) : (Jvm.Cond.exactly (Jvm.Term.string "LargeBubble$Text" (55 : Nat)) "java/lang/String").before args s = true := am_jl (am_jl (am_jl (am_jl (am_jl (am_jr (am_jr (am_jr h)))))))
theorem nf_151 {args : Array Value} {s : State} (h : (Jvm.Cond.and given_1 narrow_1).before args s = true) : (Jvm.Cond.eq (Jvm.Term.field (Jvm.Term.string "LargeBubble$Text" (55 : Nat)) "java/lang/String" "coder" "B") (Jvm.Term.int (0 : Int32))).before args s = true := am_jl (am_jr (am_jl (am_jl (am_jl (am_jl (am_jr (am_jr (am_jr h))))))))
theorem nf_152 {args : Array Value} {s : State} (h : (Jvm.Cond.and given_1 narrow_1).before args s = true) : (Jvm.Cond.arrayOf (Jvm.Term.field (Jvm.Term.string "LargeBubble$Text" (55 : Nat)) "java/lang/String" "value" "[B") Jvm.ClassFile.FieldType.byte).before args s = true := am_jr (am_jr (am_jl (am_jl (am_jl (am_jl (am_jr (am_jr (am_jr h))))))))
theorem nf_153 {args : Array Value} {s : State} (h : (Jvm.Cond.and given_1 narrow_1).before args s = true) : (Jvm.Cond.eq (Jvm.Term.length (Jvm.Term.field (Jvm.Term.string "LargeBubble$Text" (55 : Nat)) "java/lang/String" "value" "[B")) (Jvm.Term.int (4 : Int32))).before args s = true := am_jl (am_jr (am_jl (am_jl (am_jl (am_jr (am_jr (am_jr h)))))))
theorem nf_154 {args : Array Value} {s : State} (h : (Jvm.Cond.and given_1 narrow_1).before args s = true) : (Jvm.Cond.eq (Jvm.Term.elem (Jvm.Term.field (Jvm.Term.string "LargeBubble$Text" (55 : Nat)) "java/lang/String" "value" "[B") (Jvm.Term.int (0 : Int32))) (Jvm.Term.int (119 : Int32))).before args s = true := am_jl (am_jr (am_jr (am_jl (am_jl (am_jl (am_jr (am_jr (am_jr h))))))))
theorem nf_155 {args : Array Value} {s : State} (h : (Jvm.Cond.and given_1 narrow_1).before args s = true) : (Jvm.Cond.eq (Jvm.Term.elem (Jvm.Term.field (Jvm.Term.string "LargeBubble$Text" (55 : Nat)) "java/lang/String" "value" "[B") (Jvm.Term.int (1 : Int32))) (Jvm.Term.int (105 : Int32))).before args s = true := am_jr (am_jr (am_jr (am_jl (am_jl (am_jl (am_jr (am_jr (am_jr h))))))))
theorem nf_156 {args : Array Value} {s : State} (h : (Jvm.Cond.and given_1 narrow_1).before args s = true) : (Jvm.Cond.eq (Jvm.Term.elem (Jvm.Term.field (Jvm.Term.string "LargeBubble$Text" (55 : Nat)) "java/lang/String" "value" "[B") (Jvm.Term.int (2 : Int32))) (Jvm.Term.int (110 : Int32))).before args s = true := am_jl (am_jl (am_jr (am_jl (am_jl (am_jr (am_jr (am_jr h)))))))
theorem nf_157 {args : Array Value} {s : State} (h : (Jvm.Cond.and given_1 narrow_1).before args s = true) : (Jvm.Cond.eq (Jvm.Term.elem (Jvm.Term.field (Jvm.Term.string "LargeBubble$Text" (55 : Nat)) "java/lang/String" "value" "[B") (Jvm.Term.int (3 : Int32))) (Jvm.Term.int (100 : Int32))).before args s = true := am_jl (am_jr (am_jl (am_jr (am_jl (am_jl (am_jr (am_jr (am_jr h))))))))
theorem nf_158 {args : Array Value} {s : State} (h : (Jvm.Cond.and given_1 narrow_1).before args s = true) : (Jvm.Cond.exactly (Jvm.Term.string "LargeBubble$Text" (61 : Nat)) "java/lang/String").before args s = true := am_jr (am_jr (am_jl (am_jr (am_jl (am_jl (am_jr (am_jr (am_jr h))))))))
theorem nf_159 {args : Array Value} {s : State} (h : (Jvm.Cond.and given_1 narrow_1).before args s = true) : (Jvm.Cond.eq (Jvm.Term.field (Jvm.Term.string "LargeBubble$Text" (61 : Nat)) "java/lang/String" "coder" "B") (Jvm.Term.int (0 : Int32))).before args s = true := am_jl (am_jr (am_jr (am_jl (am_jl (am_jr (am_jr (am_jr h)))))))
theorem nf_160 {args : Array Value} {s : State} (h : (Jvm.Cond.and given_1 narrow_1).before args s = true) : (Jvm.Cond.arrayOf (Jvm.Term.field (Jvm.Term.string "LargeBubble$Text" (61 : Nat)) "java/lang/String" "value" "[B") Jvm.ClassFile.FieldType.byte).before args s = true := am_jl (am_jr (am_jr (am_jr (am_jl (am_jl (am_jr (am_jr (am_jr h))))))))
theorem nf_161 {args : Array Value} {s : State} (h : (Jvm.Cond.and given_1 narrow_1).before args s = true) : (Jvm.Cond.eq (Jvm.Term.length (Jvm.Term.field (Jvm.Term.string "LargeBubble$Text" (61 : Nat)) "java/lang/String" "value" "[B")) (Jvm.Term.int (3 : Int32))).before args s = true := am_jr (am_jr (am_jr (am_jr (am_jl (am_jl (am_jr (am_jr (am_jr h))))))))
theorem nf_162 {args : Array Value} {s : State} (h : (Jvm.Cond.and given_1 narrow_1).before args s = true) : (Jvm.Cond.eq (Jvm.Term.elem (Jvm.Term.field (Jvm.Term.string "LargeBubble$Text" (61 : Nat)) "java/lang/String" "value" "[B") (Jvm.Term.int (0 : Int32))) (Jvm.Term.int (100 : Int32))).before args s = true := am_jl (am_jl (am_jl (am_jr (am_jl (am_jr (am_jr (am_jr h)))))))
theorem nf_163 {args : Array Value} {s : State} (h : (Jvm.Cond.and given_1 narrow_1).before args s = true) : (Jvm.Cond.eq (Jvm.Term.elem (Jvm.Term.field (Jvm.Term.string "LargeBubble$Text" (61 : Nat)) "java/lang/String" "value" "[B") (Jvm.Term.int (1 : Int32))) (Jvm.Term.int (114 : Int32))).before args s = true := am_jl (am_jr (am_jl (am_jl (am_jr (am_jl (am_jr (am_jr (am_jr h))))))))
theorem nf_164 {args : Array Value} {s : State} (h : (Jvm.Cond.and given_1 narrow_1).before args s = true) : (Jvm.Cond.eq (Jvm.Term.elem (Jvm.Term.field (Jvm.Term.string "LargeBubble$Text" (61 : Nat)) "java/lang/String" "value" "[B") (Jvm.Term.int (2 : Int32))) (Jvm.Term.int (121 : Int32))).before args s = true := am_jr (am_jr (am_jl (am_jl (am_jr (am_jl (am_jr (am_jr (am_jr h))))))))
theorem nf_165 {args : Array Value} {s : State} (h : (Jvm.Cond.and given_1 narrow_1).before args s = true) : (Jvm.Cond.not (Jvm.Cond.eq (Jvm.Term.string "LargeBubble$Text" (55 : Nat)) (Jvm.Term.string "LargeBubble$Text" (61 : Nat)))).before args s = true := am_jl (am_jr (am_jl (am_jr (am_jl (am_jr (am_jr (am_jr h)))))))
theorem nf_166 {args : Array Value} {s : State} (h : (Jvm.Cond.and given_1 narrow_1).before args s = true) : (Jvm.Cond.exactly (Jvm.Term.string "LargeBubble$Text" (63 : Nat)) "java/lang/String").before args s = true := am_jl (am_jr (am_jr (am_jl (am_jr (am_jl (am_jr (am_jr (am_jr h))))))))
theorem nf_167 {args : Array Value} {s : State} (h : (Jvm.Cond.and given_1 narrow_1).before args s = true) : (Jvm.Cond.eq (Jvm.Term.field (Jvm.Term.string "LargeBubble$Text" (63 : Nat)) "java/lang/String" "coder" "B") (Jvm.Term.int (0 : Int32))).before args s = true := am_jr (am_jr (am_jr (am_jl (am_jr (am_jl (am_jr (am_jr (am_jr h))))))))
theorem nf_168 {args : Array Value} {s : State} (h : (Jvm.Cond.and given_1 narrow_1).before args s = true) : (Jvm.Cond.arrayOf (Jvm.Term.field (Jvm.Term.string "LargeBubble$Text" (63 : Nat)) "java/lang/String" "value" "[B") Jvm.ClassFile.FieldType.byte).before args s = true := am_jl (am_jl (am_jr (am_jr (am_jl (am_jr (am_jr (am_jr h)))))))
theorem nf_169 {args : Array Value} {s : State} (h : (Jvm.Cond.and given_1 narrow_1).before args s = true) : (Jvm.Cond.eq (Jvm.Term.length (Jvm.Term.field (Jvm.Term.string "LargeBubble$Text" (63 : Nat)) "java/lang/String" "value" "[B")) (Jvm.Term.int (4 : Int32))).before args s = true := am_jl (am_jr (am_jl (am_jr (am_jr (am_jl (am_jr (am_jr (am_jr h))))))))
theorem nf_170 {args : Array Value} {s : State} (h : (Jvm.Cond.and given_1 narrow_1).before args s = true) : (Jvm.Cond.eq (Jvm.Term.elem (Jvm.Term.field (Jvm.Term.string "LargeBubble$Text" (63 : Nat)) "java/lang/String" "value" "[B") (Jvm.Term.int (0 : Int32))) (Jvm.Term.int (99 : Int32))).before args s = true := am_jr (am_jr (am_jl (am_jr (am_jr (am_jl (am_jr (am_jr (am_jr h))))))))
theorem nf_171 {args : Array Value} {s : State} (h : (Jvm.Cond.and given_1 narrow_1).before args s = true) : (Jvm.Cond.eq (Jvm.Term.elem (Jvm.Term.field (Jvm.Term.string "LargeBubble$Text" (63 : Nat)) "java/lang/String" "value" "[B") (Jvm.Term.int (1 : Int32))) (Jvm.Term.int (111 : Int32))).before args s = true := am_jl (am_jl (am_jr (am_jr (am_jr (am_jl (am_jr (am_jr (am_jr h))))))))
theorem nf_172 {args : Array Value} {s : State} (h : (Jvm.Cond.and given_1 narrow_1).before args s = true) : (Jvm.Cond.eq (Jvm.Term.elem (Jvm.Term.field (Jvm.Term.string "LargeBubble$Text" (63 : Nat)) "java/lang/String" "value" "[B") (Jvm.Term.int (2 : Int32))) (Jvm.Term.int (105 : Int32))).before args s = true := am_jr (am_jl (am_jr (am_jr (am_jr (am_jl (am_jr (am_jr (am_jr h))))))))
theorem nf_173 {args : Array Value} {s : State} (h : (Jvm.Cond.and given_1 narrow_1).before args s = true) : (Jvm.Cond.eq (Jvm.Term.elem (Jvm.Term.field (Jvm.Term.string "LargeBubble$Text" (63 : Nat)) "java/lang/String" "value" "[B") (Jvm.Term.int (3 : Int32))) (Jvm.Term.int (110 : Int32))).before args s = true := am_jl (am_jr (am_jr (am_jr (am_jr (am_jl (am_jr (am_jr (am_jr h))))))))
theorem nf_174 {args : Array Value} {s : State} (h : (Jvm.Cond.and given_1 narrow_1).before args s = true) : (Jvm.Cond.not (Jvm.Cond.eq (Jvm.Term.string "LargeBubble$Text" (55 : Nat)) (Jvm.Term.string "LargeBubble$Text" (63 : Nat)))).before args s = true := am_jr (am_jr (am_jr (am_jr (am_jr (am_jl (am_jr (am_jr (am_jr h))))))))
theorem nf_175 {args : Array Value} {s : State} (h : (Jvm.Cond.and given_1 narrow_1).before args s = true) : (Jvm.Cond.not (Jvm.Cond.eq (Jvm.Term.string "LargeBubble$Text" (61 : Nat)) (Jvm.Term.string "LargeBubble$Text" (63 : Nat)))).before args s = true := am_jl (am_jl (am_jl (am_jl (am_jr (am_jr (am_jr (am_jr h)))))))
theorem nf_176 {args : Array Value} {s : State} (h : (Jvm.Cond.and given_1 narrow_1).before args s = true) : (Jvm.Cond.exactly (Jvm.Term.string "LargeBubble$Text" (86 : Nat)) "java/lang/String").before args s = true := am_jl (am_jr (am_jl (am_jl (am_jl (am_jr (am_jr (am_jr (am_jr h))))))))
theorem nf_177 {args : Array Value} {s : State} (h : (Jvm.Cond.and given_1 narrow_1).before args s = true) : (Jvm.Cond.eq (Jvm.Term.field (Jvm.Term.string "LargeBubble$Text" (86 : Nat)) "java/lang/String" "coder" "B") (Jvm.Term.int (0 : Int32))).before args s = true := am_jr (am_jr (am_jl (am_jl (am_jl (am_jr (am_jr (am_jr (am_jr h))))))))
theorem nf_178 {args : Array Value} {s : State} (h : (Jvm.Cond.and given_1 narrow_1).before args s = true) : (Jvm.Cond.arrayOf (Jvm.Term.field (Jvm.Term.string "LargeBubble$Text" (86 : Nat)) "java/lang/String" "value" "[B") Jvm.ClassFile.FieldType.byte).before args s = true := am_jl (am_jr (am_jl (am_jl (am_jr (am_jr (am_jr (am_jr h)))))))
theorem nf_179 {args : Array Value} {s : State} (h : (Jvm.Cond.and given_1 narrow_1).before args s = true) : (Jvm.Cond.eq (Jvm.Term.length (Jvm.Term.field (Jvm.Term.string "LargeBubble$Text" (86 : Nat)) "java/lang/String" "value" "[B")) (Jvm.Term.int (6 : Int32))).before args s = true := am_jl (am_jr (am_jr (am_jl (am_jl (am_jr (am_jr (am_jr (am_jr h))))))))
theorem nf_180 {args : Array Value} {s : State} (h : (Jvm.Cond.and given_1 narrow_1).before args s = true) : (Jvm.Cond.eq (Jvm.Term.elem (Jvm.Term.field (Jvm.Term.string "LargeBubble$Text" (86 : Nat)) "java/lang/String" "value" "[B") (Jvm.Term.int (0 : Int32))) (Jvm.Term.int (98 : Int32))).before args s = true := am_jr (am_jr (am_jr (am_jl (am_jl (am_jr (am_jr (am_jr (am_jr h))))))))
theorem nf_181 {args : Array Value} {s : State} (h : (Jvm.Cond.and given_1 narrow_1).before args s = true) : (Jvm.Cond.eq (Jvm.Term.elem (Jvm.Term.field (Jvm.Term.string "LargeBubble$Text" (86 : Nat)) "java/lang/String" "value" "[B") (Jvm.Term.int (1 : Int32))) (Jvm.Term.int (107 : Int32))).before args s = true := am_jl (am_jl (am_jr (am_jl (am_jr (am_jr (am_jr (am_jr h)))))))
theorem nf_182 {args : Array Value} {s : State} (h : (Jvm.Cond.and given_1 narrow_1).before args s = true) : (Jvm.Cond.eq (Jvm.Term.elem (Jvm.Term.field (Jvm.Term.string "LargeBubble$Text" (86 : Nat)) "java/lang/String" "value" "[B") (Jvm.Term.int (2 : Int32))) (Jvm.Term.int (118 : Int32))).before args s = true := am_jl (am_jr (am_jl (am_jr (am_jl (am_jr (am_jr (am_jr (am_jr h))))))))
theorem nf_183 {args : Array Value} {s : State} (h : (Jvm.Cond.and given_1 narrow_1).before args s = true) : (Jvm.Cond.eq (Jvm.Term.elem (Jvm.Term.field (Jvm.Term.string "LargeBubble$Text" (86 : Nat)) "java/lang/String" "value" "[B") (Jvm.Term.int (3 : Int32))) (Jvm.Term.int (109 : Int32))).before args s = true := am_jr (am_jr (am_jl (am_jr (am_jl (am_jr (am_jr (am_jr (am_jr h))))))))
theorem nf_184 {args : Array Value} {s : State} (h : (Jvm.Cond.and given_1 narrow_1).before args s = true) : (Jvm.Cond.eq (Jvm.Term.elem (Jvm.Term.field (Jvm.Term.string "LargeBubble$Text" (86 : Nat)) "java/lang/String" "value" "[B") (Jvm.Term.int (4 : Int32))) (Jvm.Term.int (115 : Int32))).before args s = true := am_jl (am_jr (am_jr (am_jl (am_jr (am_jr (am_jr (am_jr h)))))))
theorem nf_185 {args : Array Value} {s : State} (h : (Jvm.Cond.and given_1 narrow_1).before args s = true) : (Jvm.Cond.eq (Jvm.Term.elem (Jvm.Term.field (Jvm.Term.string "LargeBubble$Text" (86 : Nat)) "java/lang/String" "value" "[B") (Jvm.Term.int (5 : Int32))) (Jvm.Term.int (102 : Int32))).before args s = true := am_jl (am_jr (am_jr (am_jr (am_jl (am_jr (am_jr (am_jr (am_jr h))))))))
theorem nf_186 {args : Array Value} {s : State} (h : (Jvm.Cond.and given_1 narrow_1).before args s = true) : (Jvm.Cond.not (Jvm.Cond.eq (Jvm.Term.string "LargeBubble$Text" (55 : Nat)) (Jvm.Term.string "LargeBubble$Text" (86 : Nat)))).before args s = true := am_jr (am_jr (am_jr (am_jr (am_jl (am_jr (am_jr (am_jr (am_jr h))))))))
theorem nf_187 {args : Array Value} {s : State} (h : (Jvm.Cond.and given_1 narrow_1).before args s = true) : (Jvm.Cond.not (Jvm.Cond.eq (Jvm.Term.string "LargeBubble$Text" (61 : Nat)) (Jvm.Term.string "LargeBubble$Text" (86 : Nat)))).before args s = true := am_jl (am_jl (am_jl (am_jr (am_jr (am_jr (am_jr (am_jr h)))))))
theorem nf_188 {args : Array Value} {s : State} (h : (Jvm.Cond.and given_1 narrow_1).before args s = true) : (Jvm.Cond.not (Jvm.Cond.eq (Jvm.Term.string "LargeBubble$Text" (63 : Nat)) (Jvm.Term.string "LargeBubble$Text" (86 : Nat)))).before args s = true := am_jl (am_jr (am_jl (am_jl (am_jr (am_jr (am_jr (am_jr (am_jr h))))))))
theorem nf_189 {args : Array Value} {s : State} (h : (Jvm.Cond.and given_1 narrow_1).before args s = true) : (Jvm.Cond.exactly (Jvm.Term.string "LargeBubble$Text" (92 : Nat)) "java/lang/String").before args s = true := am_jr (am_jr (am_jl (am_jl (am_jr (am_jr (am_jr (am_jr (am_jr h))))))))
theorem nf_190 {args : Array Value} {s : State} (h : (Jvm.Cond.and given_1 narrow_1).before args s = true) : (Jvm.Cond.eq (Jvm.Term.field (Jvm.Term.string "LargeBubble$Text" (92 : Nat)) "java/lang/String" "coder" "B") (Jvm.Term.int (0 : Int32))).before args s = true := am_jl (am_jr (am_jl (am_jr (am_jr (am_jr (am_jr (am_jr h)))))))
theorem nf_191 {args : Array Value} {s : State} (h : (Jvm.Cond.and given_1 narrow_1).before args s = true) : (Jvm.Cond.arrayOf (Jvm.Term.field (Jvm.Term.string "LargeBubble$Text" (92 : Nat)) "java/lang/String" "value" "[B") Jvm.ClassFile.FieldType.byte).before args s = true := am_jl (am_jr (am_jr (am_jl (am_jr (am_jr (am_jr (am_jr (am_jr h))))))))
theorem nf_192 {args : Array Value} {s : State} (h : (Jvm.Cond.and given_1 narrow_1).before args s = true) : (Jvm.Cond.eq (Jvm.Term.length (Jvm.Term.field (Jvm.Term.string "LargeBubble$Text" (92 : Nat)) "java/lang/String" "value" "[B")) (Jvm.Term.int (3 : Int32))).before args s = true := am_jr (am_jr (am_jr (am_jl (am_jr (am_jr (am_jr (am_jr (am_jr h))))))))
theorem nf_193 {args : Array Value} {s : State} (h : (Jvm.Cond.and given_1 narrow_1).before args s = true) : (Jvm.Cond.eq (Jvm.Term.elem (Jvm.Term.field (Jvm.Term.string "LargeBubble$Text" (92 : Nat)) "java/lang/String" "value" "[B") (Jvm.Term.int (0 : Int32))) (Jvm.Term.int (60 : Int32))).before args s = true := am_jl (am_jl (am_jr (am_jr (am_jr (am_jr (am_jr (am_jr h)))))))
theorem nf_194 {args : Array Value} {s : State} (h : (Jvm.Cond.and given_1 narrow_1).before args s = true) : (Jvm.Cond.eq (Jvm.Term.elem (Jvm.Term.field (Jvm.Term.string "LargeBubble$Text" (92 : Nat)) "java/lang/String" "value" "[B") (Jvm.Term.int (1 : Int32))) (Jvm.Term.int (61 : Int32))).before args s = true := am_jl (am_jr (am_jl (am_jr (am_jr (am_jr (am_jr (am_jr (am_jr h))))))))
theorem nf_195 {args : Array Value} {s : State} (h : (Jvm.Cond.and given_1 narrow_1).before args s = true) : (Jvm.Cond.eq (Jvm.Term.elem (Jvm.Term.field (Jvm.Term.string "LargeBubble$Text" (92 : Nat)) "java/lang/String" "value" "[B") (Jvm.Term.int (2 : Int32))) (Jvm.Term.int (62 : Int32))).before args s = true := am_jr (am_jr (am_jl (am_jr (am_jr (am_jr (am_jr (am_jr (am_jr h))))))))
theorem nf_196 {args : Array Value} {s : State} (h : (Jvm.Cond.and given_1 narrow_1).before args s = true) : (Jvm.Cond.not (Jvm.Cond.eq (Jvm.Term.string "LargeBubble$Text" (55 : Nat)) (Jvm.Term.string "LargeBubble$Text" (92 : Nat)))).before args s = true := am_jl (am_jl (am_jr (am_jr (am_jr (am_jr (am_jr (am_jr (am_jr h))))))))
theorem nf_197 {args : Array Value} {s : State} (h : (Jvm.Cond.and given_1 narrow_1).before args s = true) : (Jvm.Cond.not (Jvm.Cond.eq (Jvm.Term.string "LargeBubble$Text" (61 : Nat)) (Jvm.Term.string "LargeBubble$Text" (92 : Nat)))).before args s = true := am_jr (am_jl (am_jr (am_jr (am_jr (am_jr (am_jr (am_jr (am_jr h))))))))
theorem nf_198 {args : Array Value} {s : State} (h : (Jvm.Cond.and given_1 narrow_1).before args s = true) : (Jvm.Cond.not (Jvm.Cond.eq (Jvm.Term.string "LargeBubble$Text" (63 : Nat)) (Jvm.Term.string "LargeBubble$Text" (92 : Nat)))).before args s = true := am_jl (am_jr (am_jr (am_jr (am_jr (am_jr (am_jr (am_jr (am_jr h))))))))
theorem nf_199 {args : Array Value} {s : State} (h : (Jvm.Cond.and given_1 narrow_1).before args s = true) : (Jvm.Cond.not (Jvm.Cond.eq (Jvm.Term.string "LargeBubble$Text" (86 : Nat)) (Jvm.Term.string "LargeBubble$Text" (92 : Nat)))).before args s = true := am_jr (am_jr (am_jr (am_jr (am_jr (am_jr (am_jr (am_jr (am_jr h))))))))
def am_tm (i : Nat) : Term := .string "LargeBubble$Text" (am_sxL.getD i (0, "")).1
theorem am_strs {args : Array Value} {s : State} {A : Nat → Prop} (h : (Jvm.Cond.and given_1 narrow_1).before args s = true) (hA : ∀ a : Nat, a < s.heap.size → ¬ A a) : ∃ adK adV : Nat → Nat, vk_S 5 (am_str.map List.length) am_str adK adV A s s.heap ∧ ∀ i : Nat, i < 5 → (am_tm i).eval args s none [] s = some (.ref (adK i)) := by
  refine vk_Sof (tm := am_tm) (by decide) (fun i hi => match i, hi with
    | 0, _ => nf_150 h
    | 1, _ => nf_158 h
    | 2, _ => nf_166 h
    | 3, _ => nf_176 h
    | 4, _ => nf_189 h
    | i + 5, hi => absurd hi (by omega)) (fun i hi => match i, hi with
    | 0, _ => nf_151 h
    | 1, _ => nf_159 h
    | 2, _ => nf_167 h
    | 3, _ => nf_177 h
    | 4, _ => nf_190 h
    | i + 5, hi => absurd hi (by omega)) (fun i hi => match i, hi with
    | 0, _ => nf_152 h
    | 1, _ => nf_160 h
    | 2, _ => nf_168 h
    | 3, _ => nf_178 h
    | 4, _ => nf_191 h
    | i + 5, hi => absurd hi (by omega)) (fun i hi => match i, hi with
    | 0, _ => nf_153 h
    | 1, _ => nf_161 h
    | 2, _ => nf_169 h
    | 3, _ => nf_179 h
    | 4, _ => nf_192 h
    | i + 5, hi => absurd hi (by omega)) (fun i hi => match i, hi with
    | 0, _ => fun j hj => match j, hj with
      | 0, _ => nf_154 h
      | 1, _ => nf_155 h
      | 2, _ => nf_156 h
      | 3, _ => nf_157 h
      | j + 4, hj => absurd (show j + 4 < 4 from hj) (by omega)
    | 1, _ => fun j hj => match j, hj with
      | 0, _ => nf_162 h
      | 1, _ => nf_163 h
      | 2, _ => nf_164 h
      | j + 3, hj => absurd (show j + 3 < 3 from hj) (by omega)
    | 2, _ => fun j hj => match j, hj with
      | 0, _ => nf_170 h
      | 1, _ => nf_171 h
      | 2, _ => nf_172 h
      | 3, _ => nf_173 h
      | j + 4, hj => absurd (show j + 4 < 4 from hj) (by omega)
    | 3, _ => fun j hj => match j, hj with
      | 0, _ => nf_180 h
      | 1, _ => nf_181 h
      | 2, _ => nf_182 h
      | 3, _ => nf_183 h
      | 4, _ => nf_184 h
      | 5, _ => nf_185 h
      | j + 6, hj => absurd (show j + 6 < 6 from hj) (by omega)
    | 4, _ => fun j hj => match j, hj with
      | 0, _ => nf_193 h
      | 1, _ => nf_194 h
      | 2, _ => nf_195 h
      | j + 3, hj => absurd (show j + 3 < 3 from hj) (by omega)
    | i + 5, hi => absurd hi (by omega)) ?_ hA
  intro i j hi hj hij
  match i, j, hi, hj with
  | 0, 0, _, _ => exact absurd rfl hij
  | 0, 1, _, _ => exact Or.inl (nf_165 h)
  | 0, 2, _, _ => exact Or.inl (nf_174 h)
  | 0, 3, _, _ => exact Or.inl (nf_186 h)
  | 0, 4, _, _ => exact Or.inl (nf_196 h)
  | 1, 0, _, _ => exact Or.inr (nf_165 h)
  | 1, 1, _, _ => exact absurd rfl hij
  | 1, 2, _, _ => exact Or.inl (nf_175 h)
  | 1, 3, _, _ => exact Or.inl (nf_187 h)
  | 1, 4, _, _ => exact Or.inl (nf_197 h)
  | 2, 0, _, _ => exact Or.inr (nf_174 h)
  | 2, 1, _, _ => exact Or.inr (nf_175 h)
  | 2, 2, _, _ => exact absurd rfl hij
  | 2, 3, _, _ => exact Or.inl (nf_188 h)
  | 2, 4, _, _ => exact Or.inl (nf_198 h)
  | 3, 0, _, _ => exact Or.inr (nf_186 h)
  | 3, 1, _, _ => exact Or.inr (nf_187 h)
  | 3, 2, _, _ => exact Or.inr (nf_188 h)
  | 3, 3, _, _ => exact absurd rfl hij
  | 3, 4, _, _ => exact Or.inl (nf_199 h)
  | 4, 0, _, _ => exact Or.inr (nf_196 h)
  | 4, 1, _, _ => exact Or.inr (nf_197 h)
  | 4, 2, _, _ => exact Or.inr (nf_198 h)
  | 4, 3, _, _ => exact Or.inr (nf_199 h)
  | 4, 4, _, _ => exact absurd rfl hij
  | i + 5, _, hi, _ => exact absurd hi (by omega)
  | _, j + 5, _, hj => exact absurd hj (by omega)
theorem am_noCs {args : Array Value} {s : State} (h : (Jvm.Cond.and given_1 narrow_1).before args s = true) : ∀ t c, am_noC t c → va_Nc (am_cn t) (am_cn c) s := by
  intro t c hn
  obtain ⟨ht, hc, hs⟩ := hn
  rcases hc with rfl | rfl | rfl | rfl | rfl | rfl
  · match t, ht, hs with
    | 0, _, hs => exact va_Nc.of (nf_28 h)
    | 1, _, hs => exact absurd hs (by decide)
    | 2, _, hs => exact va_Nc.of (nf_24 h)
    | 3, _, hs => exact va_Nc.of (nf_21 h)
    | 4, _, hs => exact absurd hs (by decide)
    | 5, _, hs => exact va_Nc.of (nf_25 h)
    | 6, _, hs => exact va_Nc.of (nf_29 h)
    | 7, _, hs => exact va_Nc.of (nf_20 h)
    | 8, _, hs => exact va_Nc.of (nf_22 h)
    | 9, _, hs => exact va_Nc.of (nf_27 h)
    | 10, _, hs => exact va_Nc.of (nf_26 h)
    | 11, _, hs => exact va_Nc.of (nf_19 h)
    | 12, _, hs => exact va_Nc.of (nf_23 h)
    | t + 13, ht, _ => exact absurd ht (by omega)
  · match t, ht, hs with
    | 0, _, hs => exact va_Nc.of (nf_39 h)
    | 1, _, hs => exact va_Nc.of (nf_35 h)
    | 2, _, hs => exact absurd hs (by decide)
    | 3, _, hs => exact va_Nc.of (nf_32 h)
    | 4, _, hs => exact va_Nc.of (nf_37 h)
    | 5, _, hs => exact va_Nc.of (nf_36 h)
    | 6, _, hs => exact va_Nc.of (nf_40 h)
    | 7, _, hs => exact va_Nc.of (nf_31 h)
    | 8, _, hs => exact va_Nc.of (nf_33 h)
    | 9, _, hs => exact va_Nc.of (nf_38 h)
    | 10, _, hs => exact absurd hs (by decide)
    | 11, _, hs => exact va_Nc.of (nf_30 h)
    | 12, _, hs => exact va_Nc.of (nf_34 h)
    | t + 13, ht, _ => exact absurd ht (by omega)
  · match t, ht, hs with
    | 0, _, hs => exact va_Nc.of (nf_62 h)
    | 1, _, hs => exact va_Nc.of (nf_57 h)
    | 2, _, hs => exact va_Nc.of (nf_58 h)
    | 3, _, hs => exact va_Nc.of (nf_54 h)
    | 4, _, hs => exact absurd hs (by decide)
    | 5, _, hs => exact va_Nc.of (nf_59 h)
    | 6, _, hs => exact va_Nc.of (nf_63 h)
    | 7, _, hs => exact va_Nc.of (nf_53 h)
    | 8, _, hs => exact va_Nc.of (nf_55 h)
    | 9, _, hs => exact va_Nc.of (nf_61 h)
    | 10, _, hs => exact va_Nc.of (nf_60 h)
    | 11, _, hs => exact va_Nc.of (nf_52 h)
    | 12, _, hs => exact va_Nc.of (nf_56 h)
    | t + 13, ht, _ => exact absurd ht (by omega)
  · match t, ht, hs with
    | 0, _, hs => exact va_Nc.of (nf_50 h)
    | 1, _, hs => exact va_Nc.of (nf_46 h)
    | 2, _, hs => exact va_Nc.of (nf_47 h)
    | 3, _, hs => exact va_Nc.of (nf_43 h)
    | 4, _, hs => exact va_Nc.of (nf_48 h)
    | 5, _, hs => exact absurd hs (by decide)
    | 6, _, hs => exact va_Nc.of (nf_51 h)
    | 7, _, hs => exact va_Nc.of (nf_42 h)
    | 8, _, hs => exact va_Nc.of (nf_44 h)
    | 9, _, hs => exact absurd hs (by decide)
    | 10, _, hs => exact va_Nc.of (nf_49 h)
    | 11, _, hs => exact va_Nc.of (nf_41 h)
    | 12, _, hs => exact va_Nc.of (nf_45 h)
    | t + 13, ht, _ => exact absurd ht (by omega)
  · match t, ht, hs with
    | 0, _, hs => exact va_Nc.of (nf_17 h)
    | 1, _, hs => exact va_Nc.of (nf_12 h)
    | 2, _, hs => exact va_Nc.of (nf_13 h)
    | 3, _, hs => exact va_Nc.of (nf_9 h)
    | 4, _, hs => exact va_Nc.of (nf_15 h)
    | 5, _, hs => exact va_Nc.of (nf_14 h)
    | 6, _, hs => exact va_Nc.of (nf_18 h)
    | 7, _, hs => exact va_Nc.of (nf_8 h)
    | 8, _, hs => exact va_Nc.of (nf_10 h)
    | 9, _, hs => exact absurd hs (by decide)
    | 10, _, hs => exact va_Nc.of (nf_16 h)
    | 11, _, hs => exact va_Nc.of (nf_7 h)
    | 12, _, hs => exact va_Nc.of (nf_11 h)
    | t + 13, ht, _ => exact absurd ht (by omega)
  · match t, ht, hs with
    | 0, _, hs => exact va_Nc.of (nf_74 h)
    | 1, _, hs => exact va_Nc.of (nf_69 h)
    | 2, _, hs => exact va_Nc.of (nf_70 h)
    | 3, _, hs => exact va_Nc.of (nf_66 h)
    | 4, _, hs => exact va_Nc.of (nf_72 h)
    | 5, _, hs => exact va_Nc.of (nf_71 h)
    | 6, _, hs => exact va_Nc.of (nf_75 h)
    | 7, _, hs => exact va_Nc.of (nf_65 h)
    | 8, _, hs => exact va_Nc.of (nf_67 h)
    | 9, _, hs => exact va_Nc.of (nf_73 h)
    | 10, _, hs => exact absurd hs (by decide)
    | 11, _, hs => exact va_Nc.of (nf_64 h)
    | 12, _, hs => exact va_Nc.of (nf_68 h)
    | t + 13, ht, _ => exact absurd ht (by omega)
theorem am_instA : ∀ t, t < 13 → Cond.instantiable (am_cn t) (am_nf t) ∈ am_T0
  | 0, _ => kw_356
  | 1, _ => kw_246
  | 2, _ => kw_287
  | 3, _ => kw_93
  | 4, _ => kw_313
  | 5, _ => kw_300
  | 6, _ => kw_402
  | 7, _ => kw_29
  | 8, _ => kw_169
  | 9, _ => kw_339
  | 10, _ => kw_326
  | 11, _ => kw_21
  | 12, _ => kw_942
  | t + 13, h => absurd h (by omega)
theorem am_undA : ∀ q ∈ am_unders, Cond.castable (am_cn q.1) (am_cn q.2) ∈ lw_tbl := List.forall_mem_cons.mpr ⟨kn_1495, List.forall_mem_cons.mpr ⟨kn_1496, List.forall_mem_cons.mpr ⟨kn_1497, List.forall_mem_cons.mpr ⟨kn_1498, List.forall_mem_cons.mpr ⟨kn_1499, List.forall_mem_cons.mpr ⟨kn_1500, List.forall_mem_cons.mpr ⟨kn_1501, List.forall_mem_cons.mpr ⟨kn_1502, List.forall_mem_cons.mpr ⟨kn_1503, (fun _ h => absurd h List.not_mem_nil)⟩⟩⟩⟩⟩⟩⟩⟩⟩
theorem am_nestA : ∀ q ∈ am_nestL, Cond.methodLinkNest "LargeBubble" q.1 q.2 "LargeBubble" ∈ lw_tbl := List.forall_mem_cons.mpr ⟨kn_30, List.forall_mem_cons.mpr ⟨kn_94, List.forall_mem_cons.mpr ⟨kn_170, List.forall_mem_cons.mpr ⟨kn_403, (fun _ h => absurd h List.not_mem_nil)⟩⟩⟩⟩
theorem am_srA : ∀ k, k < 5 → Cond.stringRef "LargeBubble$Text" (am_sxL.getD k (0, "")).1 (am_sxL.getD k (0, "")).2 ∈ lw_tbl
  | 0, _ => kn_452
  | 1, _ => kn_509
  | 2, _ => kn_510
  | 3, _ => kn_531
  | 4, _ => kn_536
  | k + 5, h => absurd h (by omega)
/-! THE CLAIM OUT OF ONE WALK OF THE LAW'S BODY. Your part is whole_start (and what it stands on); all else here is the same for every law, but numbers. -/
def R_law : String := "LargeBubbleLaw"
def lw_P (b : Addr) (xs : List Int32) (args : Array Value) (s : State) : Prop := args = #[.ref b] ∧ s.IntsAt b xs ∧ xs.length ≤ 3072 ∧ (Jvm.Cond.and given_1 narrow_1).before args s = true
def lw_Q (_ : Array Value) (s : State) (o : Outcome) (t : State) : Prop := o = .returned (some (.int 1)) ∧ Framed s o t [] 600000 7302250
def lw_Z (below : List Frame) (a : Array Value) (s : State) : State → Prop := fun t => ∃ o, t.status = .running ∧ Ended t below o ∧ lw_Q a s o t
/-- the law's own end, with 1 on the stack, nothing written that was there before, its room as the claim has it -/
theorem lw_ret {p : Program} {l : Launch} {e : Env} {s : State} {m : MethodId} {below : List Frame} {meth : Method} {c : Code} {b : Nat} (hx : p.tables.exec = Jvm.exec) (hb : c.code = code) (hr : meth.sig.returnType = ret) (hlocks : meth.locks = false) {pc : Nat} {H : Heap} {ls : Array Slot} (hdg : decode code pc = .ok (.ireturn, 1)) : W p l e room_1 s m #[Value.ref b] below meth c H [] 600000 7302250 (lw_Z below #[Value.ref b] s) (F0 m pc ls [.int 1]) := by
  intro T hT X
  obtain ⟨fs, hret, hrun, hended, hW, hframe⟩ := X.leave (v := some (.int 1)) (hlocks := hlocks) (fun h => by rw [hr] at h; cases h)
  have hmeth' : T.vm.method? m = some meth := X.method'
  refine ⟨T.setFrames fs, ?_, .returned (some (.int 1)), hrun, hended, rfl, ⟨_, rfl⟩, hW, hframe⟩
  jvm_step X.here [X.here.top, hx, hb, hdg, hmeth', hr, ret, narrow_b1]
  (try refine ⟨rfl, ?_⟩); (try refine ⟨rfl, ?_⟩)
  first | (intro acts; rw [hret _ acts rfl rfl rfl]) | rw [hret _ _ rfl rfl rfl]
  exact Steps.refl _
/-- what holds at the law's entry: the machine, the code, the tables' words (any of lw_tbl by 'hts w (by decide +kernel)'), the script of L ints xs at the cell b, what the Statement gives of the start (any of its parts by flat_of_before) -/
def lw_At (p : Program) (s : State) (m : MethodId) (meth : Method) (c : Code) (b L : Nat) (xs : Nat → Int32) : Prop :=
  p.tables.exec = Jvm.exec ∧ c.code = code ∧ meth.sig.returnType = ret ∧ c.maxLocals = 4 ∧ s.vm.findClass R_law = some m.cls ∧ (∀ w ∈ lw_tbl, w.before #[Value.ref b] s = true) ∧ va_X b L xs s s.heap ∧ b < s.heap.size ∧ meth.locks = false ∧ (Jvm.Cond.and given_1 narrow_1).before #[Value.ref b] s = true
theorem am_sub0 {w : Cond} (h : w ∈ am_T0) : w ∈ lw_tbl := (List.mem_filter.mp h).1
/-- the tables, the Strings, the script, at the law's start -/
theorem am_start {p : Program} {s : State} {m : MethodId} {meth : Method} {c : Code} {b L : Nat} {xs : Nat → Int32} (hL : L ≤ 3072) (C0 : lw_At p s m meth c b L xs) : ∃ K : am_C, kB K = s.heap.size ∧ kb K = b ∧ kL K = L ∧ kx K = xs ∧ KF K s s.heap := by
  obtain ⟨hx, hb, hr, hml, hown, hts, hX, hbl, hlocks, hgv⟩ := C0
  have hts0 : ∀ w ∈ am_T0, w.before #[Value.ref b] s = true := fun w hw => hts w (am_sub0 hw)
  have hcl : ∀ t : Nat, ∃ q : ClassId × (Nat → Nat), t < 13 → u_Kn s (am_cn t) (am_T t) (am_nf t) q.1 q.2 := fun t => by
    by_cases ht : t < 13
    · obtain ⟨cC, iS, h⟩ := u_known hts0 (am_uwA t ht) (hts0 _ (am_instA t ht))
      exact ⟨(cC, iS), fun _ => h⟩
    · exact ⟨(0, fun _ => 0), fun h => absurd h ht⟩
  obtain ⟨D0, hD0⟩ := Classical.axiomOfChoice hcl
  have prim : ∀ t : FieldType, (Cond.arrayClass t).before #[Value.ref b] s = true → (∀ C, t ≠ .object C) → ∃ c : ClassId, ArrOfT s c t ∧ va_RA s c t := fun t h ho => by
    obtain ⟨c, k, comp, h1, h2, h3⟩ := Cond.arrayClass_spec h
    refine ⟨c, fun N z => ⟨(fun q hq => by cases hq), k, h2, comp, h3⟩, ?_⟩
    cases t <;> first | exact h1 | exact absurd rfl (ho _)
  have objs : ∀ n : String, (Cond.arrayOver (.object n)).before #[Value.ref b] s = true → ∃ c : ClassId, ArrOfT s c (.object n) ∧ va_RA s c (.object n) := fun n h => by
    obtain ⟨comp, c, k, h1, h2, h3, h4, h5⟩ := Cond.arrayOver_spec h
    exact ⟨c, fun N z => ⟨(fun q hq => by cases hq), k, h3, comp, h4⟩, k, comp, h3, h4, h1, h5⟩
  have arrs : ∀ t : FieldType, (Cond.arrayOver (.array t)).before #[Value.ref b] s = true → ∃ c : ClassId, ArrOfT s c (.array t) ∧ va_RA s c (.array t) := fun t h => by
    obtain ⟨comp, c, k, h1, h2, h3, h4, h5⟩ := arrayOverA_spec h
    exact ⟨c, fun N z => ⟨(fun q hq => by cases hq), k, h3, comp, h4⟩, h5⟩
  obtain ⟨c0, h20⟩ := prim .int (hts0 _ kw_90) (fun C q => by cases q)
  obtain ⟨c1, h21⟩ := prim .long (hts0 _ kw_234) (fun C q => by cases q)
  obtain ⟨c2, h22⟩ := prim .byte (hts0 _ kw_186) (fun C q => by cases q)
  obtain ⟨c3, h23⟩ := prim .boolean (hts0 _ kw_91) (fun C q => by cases q)
  obtain ⟨c4, h24⟩ := objs _ (hts _ kn_35)
  obtain ⟨c5, h25⟩ := objs _ (hts _ kn_188)
  obtain ⟨c6, h26⟩ := arrs _ (hts _ kn_37)
  obtain ⟨c7, h27⟩ := arrs _ (hts _ kn_190)
  have hA : ∀ a : Nat, a < s.heap.size → ¬ (fun q : Nat => s.heap.size ≤ q) a := fun a ha q => absurd ha (Nat.not_lt.mpr q)
  obtain ⟨adK, adV, hvk, hev⟩ := am_strs (A := fun q : Nat => s.heap.size ≤ q) hgv hA
  have hcs : va_Z "java/lang/String" "COMPACT_STRINGS" "Z" (.int 1) (fun q : Nat => s.heap.size ≤ q) s s.heap := va_Zof (hts _ kn_466) (hts0 _ kw_14) (va_eqv (nf_2 hgv) rfl) hA
  have hfm := va_Zqof (A := fun q : Nat => s.heap.size ≤ q) (hts _ kn_482) (hts0 _ kw_16) (nf_3 hgv) hA
  obtain ⟨fv, hfv, hfz⟩ : ∃ fv : Value, (fv = .null ∨ ∃ a, fv = .ref a) ∧ va_Z "jdk/internal/util/Preconditions" "SIOOBE_FORMATTER" "Ljava/util/function/BiFunction;" fv (fun q : Nat => s.heap.size ≤ q) s s.heap := by
    rcases hfm with h | ⟨t, h⟩
    · exact ⟨.null, Or.inl rfl, h⟩
    · exact ⟨.ref t, Or.inr ⟨t, rfl⟩, h⟩
  have hsp : ∀ k : Nat, (if k = 0 then Value.ref b else if k ≤ 5 then .ref (adK (k - 1)) else if 101 ≤ k ∧ k ≤ 105 then .ref (adV (k - 101)) else if k = 200 then fv else .null) = .null ∨ ∃ a, (if k = 0 then Value.ref b else if k ≤ 5 then .ref (adK (k - 1)) else if 101 ≤ k ∧ k ≤ 105 then .ref (adV (k - 101)) else if k = 200 then fv else .null) = .ref a := fun k => by
    split
    · exact Or.inr ⟨_, rfl⟩
    · split
      · exact Or.inr ⟨_, rfl⟩
      · split
        · exact Or.inr ⟨_, rfl⟩
        · split
          · exact hfv
          · exact Or.inl rfl
  refine ⟨(s.heap.size, fun k => if k = 0 then .ref b else if k ≤ 5 then .ref (adK (k - 1)) else if 101 ≤ k ∧ k ≤ 105 then .ref (adV (k - 101)) else if k = 200 then fv else .null, (fun t => (D0 t).1, fun t => (D0 t).2), fun t => if t = 20 then c0 else if t = 21 then c1 else if t = 22 then c2 else if t = 23 then c3 else if t = 24 then c4 else if t = 25 then c5 else if t = 26 then c6 else c7, adK, adV, b, L, xs), rfl, rfl, rfl, rfl, ⟨?_, ?_⟩, fun q hq => va_Nw.of rfl (hts _ (am_nestA q hq)), fun q hq => va_Nw.of rfl (hts _ (am_undA q hq)), am_noCs hgv, ⟨va_AO.of (hts _ kn_35), va_AO.of (hts _ kn_188), hts _ kn_37, hts _ kn_190⟩, fun k hk => ?_, ⟨hvk, hcs, hfz, hX, hbl⟩, Nat.le_refl _, hbl, (by show L < 65536; omega), fun k => ?_, rfl, fun k hk => ⟨?_, ?_⟩⟩
  · intro k q hq
    have hk : k < 13 := (List.getElem?_eq_some_iff.mp hq).1
    rw [am_clA k hk] at hq
    cases hq
    exact hD0 k hk
  · intro k q hq
    have hk : k < 8 := (List.getElem?_eq_some_iff.mp hq).1
    match k, hk, hq with
    | 0, _, hq => cases hq; exact h20
    | 1, _, hq => cases hq; exact h21
    | 2, _, hq => cases hq; exact h22
    | 3, _, hq => cases hq; exact h23
    | 4, _, hq => cases hq; exact h24
    | 5, _, hq => cases hq; exact h25
    | 6, _, hq => cases hq; exact h26
    | 7, _, hq => cases hq; exact h27
    | k + 8, hk, _ => exact absurd hk (by omega)
  · exact vk_R.of (A := #[Value.ref b]) (hts _ (am_srA k hk)) (hev k hk) |> fun h => h
  · exact hsp k
  · show (if k + 1 = 0 then Value.ref b else if k + 1 ≤ 5 then .ref (adK (k + 1 - 1)) else _) = Value.ref (adK k)
    rw [if_neg (by omega), if_pos (by omega), Nat.add_sub_cancel]
  · show (if k + 101 = 0 then Value.ref b else if k + 101 ≤ 5 then .ref (adK (k + 101 - 1)) else if 101 ≤ k + 101 ∧ k + 101 ≤ 105 then .ref (adV (k + 101 - 101)) else _) = Value.ref (adV k)
    rw [if_neg (by omega), if_neg (by omega), if_pos (by omega), Nat.add_sub_cancel]
set_option maxHeartbeats 4000000 in
theorem whole_start {p : Program} {e : Env} {s : State} {m : MethodId} {below : List Frame} {meth : Method} {c : Code} (l : Launch) (hflags : l.flags = flags0) {b L : Nat} {xs : Nat → Int32} (hL : L ≤ 3072) (C0 : lw_At p s m meth c b L xs) : W p l e room_1 s m #[Value.ref b] below meth c s.heap [] 0 0 (lw_Z below #[Value.ref b] s) (entryFrame m ([Value.ref b] : List Value).toArray 4) := by
  obtain ⟨K, k1, k2, k3, k4, hKF⟩ := am_start hL C0
  obtain ⟨hx, hb, hr, hml, hown, hts, hX, hbl, hlocks, hgv⟩ := id C0
  obtain ⟨n, g', fi', fl', hrun, hnx, hsl⟩ := am_law L xs hL
  obtain ⟨-, -, hW⟩ := am_snd _ _ _ _ _ _ _ _ _ _ _ _ _ hrun
  have C : am_CX K 211 p s m #[Value.ref b] meth c := ⟨hx, hb, hml, hown, fun w hw => hts w (am_sub0 hw), fun h => absurd h (by decide), hKF⟩
  have hk0 : kS K 0 = .ref b := by rw [← k2]; exact hKF.2.2.2.2.2.2.2.2.2.2.2.1
  have hLV := am_entLV (K := K) C.hk (avs := [.retAddr 0]) (N := 4) (by decide)
  have ev : ([Value.retAddr 0] : List Value).map (vmp K) = [Value.ref b] := by
    show [kS K 0] = _
    rw [hk0]
  rw [ev] at hLV
  rw [lg_entry_eq]
  refine hW K p l e room_1 s m #[Value.ref b] below meth c s.heap [] 0 0 600000 7302250 _ _ C (by decide) (by decide) (Nat.le_refl _) (Nat.le_refl _) (by rw [Nat.zero_add]; exact hnx) (by rw [Nat.zero_add]; exact hsl) ?_ hLV va_S.rf ?_
  · refine ⟨by rw [k1]; rfl, Nat.zero_le _, fun i hi => absurd hi (Nat.not_lt_zero _), fun i _ => rfl, ?_, fun j hj => ?_⟩
    · show (if am_SC = am_SC then L else 0) = kL K
      rw [if_pos rfl, k3]
    · show (if am_SC = am_SC then xs j else 0) = kx K j
      rw [if_pos rfl, k4]
  · intro op pc sl H1 locs1 cells1 slots1 hd hrok hH hS h1 h2
    have hop : op = .ireturn := by
      unfold am_rok at hrok
      split at hrok
      · rfl
      · rename_i hq
        cases hq
      · rename_i hq
        cases hq
      · rename_i hq
        cases hq
      · rename_i hq
        cases hq
      · exact hrok.elim
    subst hop
    refine va_forget (fun q hq => by rw [← k1]; exact hS.2.2 q hq) ?_
    refine W.widen h1 h2 ?_
    exact lw_ret hx hb hr hlocks hd

set_option maxHeartbeats 4000000 in
theorem lw_walk (l : Launch) (hflags : l.flags = flags0) (b : Addr) (xs : List Int32) : MetFree l x (headSpec (Jvm.Cond.code x code maxLocals ret :: tables_1) room_1) (lw_P b xs) (fun _ _ _ _ _ => True) lw_Q := by
  refine MetFree.of_bodyS (code := code) (maxLocals := maxLocals) (ret := ret) (by decide) ?_ ?_
  · intro args s m h hn
    obtain ⟨meth, c, h1, h2, h3, h4, h5, h6, -, -⟩ := Cond.code_spec hn (atoms_spec (ws := Jvm.Cond.code x code maxLocals ret :: tables_1) h _ List.mem_cons_self)
    exact ⟨meth, c, h1, h2, h3, h4, h5, h6⟩
  · intro p e s m args below meth c s₁ B hml0 hP _
    obtain ⟨rfl, hx, hbd, hgv⟩ := hP
    obtain ⟨scr, harrAt, hlist, hof, hsmall⟩ := hx
    obtain ⟨hcb, hkn, -, -⟩ := State.arrayAt?_spec harrAt
    have hown : s.vm.findClass R_law = some m.cls := findClass_of_methodNamed B.named
    have hts0 : ∀ c ∈ (Jvm.Cond.code x code maxLocals ret :: tables_1), c.before #[Value.ref b] s = true := atoms_spec (ws := Jvm.Cond.code x code maxLocals ret :: tables_1) B.pre
    have hts : ∀ w ∈ lw_tbl, w.before #[Value.ref b] s = true := k2_hts_sels lw_privs (fun w hw => hts0 w (List.mem_cons_of_mem _ hw)) lw_privs_ok
    have hml : c.maxLocals = 4 := B.maxLocals_eq (hts0 _ List.mem_cons_self)
    have X₀ : Stand p l e room_1 s m #[Value.ref b] below meth c s₁ [] 0 0 := Stand.of_body B
    have hh0 : s₁.heap = s.heap := by rw [B.state]; rfl
    have hsz : scr.slots.size = xs.length := by rw [← Array.length_toList, hlist, List.length_map]
    have hval : ∀ j : Nat, j < xs.length → scr.slots[j]? = some (.int (xs.getD j 0)) := fun j hj => by
      rw [← Array.getElem?_toList, hlist]
      simp [hj]
    have hbl : b < s.heap.size := (Array.getElem?_eq_some_iff.mp hcb).1
    have hX : va_X b xs.length (fun j => xs.getD j 0) s s.heap := ⟨scr, hcb, hof, hkn, hsz, hval⟩
    have K : W p l e room_1 s m #[Value.ref b] below meth c s₁.heap [] 0 0 (lw_Z below #[Value.ref b] s) (entryFrame m ([Value.ref b] : List Value).toArray 4) := by
      rw [hh0]
      exact whole_start l hflags hbd ⟨B.exec, B.bytes, B.returns, hml, hown, hts, hX, hbl, B.notSynchronized, hgv⟩
    obtain ⟨t, a1, o, b1, b2, b3⟩ := K s₁ rfl X₀
    exact ⟨t, o, a1, b1, b2, b3⟩
theorem lw_pre_spec {args : Array Value} {s : State} (h : (Jvm.Cond.and given_1 narrow_1).before args s = true) (hr : rest_1_c.before args s = true) : ∃ (b : Addr) (xs : List Int32), lw_P b xs args s := by
  have hs := flat_of_before _ h
  have hq := flat_of_before _ hr
  have hc : (Cond.count 1).before args s = true := hs _ (by decide +kernel)
  have harr : (Cond.arrayOf (.arg 0) .int).before args s = true := hs _ (by decide +kernel)
  have hle : (Cond.le (.length (.arg 0)) (.int 3072)).before args s = true := hs _ (by decide +kernel)
  have hlen : (Cond.isInt (.length (.arg 0))).before args s = true := hq _ (by decide +kernel)
  have hall : (Cond.all (.arg 0) (.isInt (.elem (.arg 0) (.index 0)))).before args s = true := hq _ (by decide +kernel)
  obtain ⟨b, xs, hb, hx⟩ := State.ints_of_pre rfl harr hlen hall
  have hsm : xs.length < 2 ^ 31 := hx.choose_spec.2.2.2
  have hev : (Term.length (.arg 0)).eval args s none [] s = some (.int xs.length.toInt32) := hx.length_eval hb
  have hv := Cond.le_ints hev (show (Term.int 3072).eval args s none [] s = some (.int 3072) from rfl)
  have hd : xs.length.toInt32 ≤ 3072 := by
    simpa [Cond.before, Cond.holds, hv] using hle
  have hN : xs.length ≤ 3072 := (Int32.ofNat_le_ofNat hsm (by decide)).mp (show Int32.ofNat xs.length ≤ Int32.ofNat 3072 from hd)
  exact ⟨b, xs, Cond.one_arg hc (show args[0]? = some (.ref b) from hb), hx, hN, h⟩
theorem lw_comes (l : Launch) (hflags : l.flags = flags0) : Comes l x (Jvm.Cond.code x code maxLocals ret :: tables_1) room_1 (fun tb e args s => Calls_1 tb e args s ∧ rest_1 tb e args s ∧ Pre_1 tb e args s)
    (fun _ _ args s o t => lw_Q args s o t) := by
  intro p e ha hc hk s m args below hf hfit hheap happ hpre
  obtain ⟨b, xs, hP⟩ := lw_pre_spec hpre.2.2 hpre.2.1
  obtain ⟨k, o, h1, h2, h3, hQ⟩ := lw_walk l hflags b xs p e ha hc hk s m args below hf ((Spec.applies_iff_loose hf).mp happ).1 hP trivial
  exact ⟨k, o, h1, h2, h3, hQ⟩
theorem lw_frame {s t : State} {o : Outcome} {args : Array Value} (h : Framed s o t [] 600000 7302250) :
    Framed s o t (fieldLocs frame_1_writes args s ++ arrayLocs frame_1_arrays args s ++ staticLocs frame_1_statics s) 600000 7302250 := h
theorem lw_limb (L : Cond) (hL : ∀ (args : Array Value) (s t : State), L.after args s (.returned (some (.int 1))) t = true) :
    ArmFor flags0 classFile x code maxLocals ret World_1 tables_1 room_1 Calls_1 rest_1 Pre_1
      (fun tb e a s o t => postC L tb e a s o t ∧ Framed s o t (fieldLocs frame_1_writes a s ++ arrayLocs frame_1_arrays a s ++ staticLocs frame_1_statics s) 600000 7302250) := by
  intro l hflags _ _ p e ha hc hk s m args below hf hfit hheap happ hpre
  obtain ⟨k, o, h1, h2, h3, rfl, hF⟩ := lw_comes l hflags p e ha hc hk s m args below hf hfit hheap happ hpre
  exact ⟨k, _, h1, h2, h3, hL args s _, lw_frame hF⟩
theorem i_vc : Claimed_1_1 ∧ Claimed_1_2 := ⟨lw_limb limb_1_1 (fun args s t => by simp [limb_1_1, Cond.after, Cond.holds, Cond.value]), lw_limb limb_1_2 (fun args s t => Cond.after_iff.mpr (by
  first | (rw [show limb_1_2 = Cond.eq .result (.int 1) from rfl, Cond.eq_ints (x := 1) (y := 1) rfl rfl]; simp; done) | (simp [limb_1_2, Cond.value, Term.eval]; done)))⟩

