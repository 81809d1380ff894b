theorem am_gd {α : Type} {l : List α} {i : Nat} {d : α} (h : l.length ≤ i) : l.getD i d = d := by
  rw [List.getD_eq_getElem?_getD, List.getElem?_eq_none h]
  rfl
def am_has (x : am_Q) : List am_Q → Bool
  | [] => false
  | y :: l => (decide (y.2.1 = x.2.1) && (decide (y.2.2.1 = x.2.2.1) && (decide (y.2.2.2 = x.2.2.2) && decide (y.1 = x.1)))) || am_has x l
theorem am_has_mem {x : am_Q} {l : List am_Q} (h : am_has x l = true) : x ∈ l := by
  induction l with
  | nil => cases h
  | cons y l ih =>
    simp only [am_has, Bool.or_eq_true, Bool.and_eq_true, decide_eq_true_eq] at h
    rcases h with ⟨h1, h2, h3, h4⟩ | h
    · obtain ⟨y1, y2, y3, y4⟩ := y
      obtain ⟨x1, x2, x3, x4⟩ := x
      simp only at h1 h2 h3 h4
      subst h1 h2 h3 h4
      exact List.mem_cons_self
    · exact List.mem_cons_of_mem _ (ih h)
def am_pchk (m : Nat) (E : am_E) : Bool := !(am_isP E.1 E.2.2.2.1) || am_has (E.1, E.2.2.1, E.2.2.2.1, E.2.2.2.2) (am_plL.getD (am_O m) [])
set_option maxRecDepth 100000 in
theorem pq_0 : am_c0.all (fun ch => ch.all (fun q => am_pchk 0 q.2)) = true := by decide +kernel
set_option maxRecDepth 100000 in
theorem pq_1 : am_c1.all (fun ch => ch.all (fun q => am_pchk 1 q.2)) = true := by decide +kernel
set_option maxRecDepth 100000 in
theorem pq_2 : am_c2.all (fun ch => ch.all (fun q => am_pchk 2 q.2)) = true := by decide +kernel
set_option maxRecDepth 100000 in
theorem pq_3 : am_c3.all (fun ch => ch.all (fun q => am_pchk 3 q.2)) = true := by decide +kernel
set_option maxRecDepth 100000 in
theorem pq_4 : am_c4.all (fun ch => ch.all (fun q => am_pchk 4 q.2)) = true := by decide +kernel
set_option maxRecDepth 100000 in
theorem pq_5 : am_c5.all (fun ch => ch.all (fun q => am_pchk 5 q.2)) = true := by decide +kernel
set_option maxRecDepth 100000 in
theorem pq_6 : am_c6.all (fun ch => ch.all (fun q => am_pchk 6 q.2)) = true := by decide +kernel
set_option maxRecDepth 100000 in
theorem pq_7 : am_c7.all (fun ch => ch.all (fun q => am_pchk 7 q.2)) = true := by decide +kernel
set_option maxRecDepth 100000 in
theorem pq_8 : am_c8.all (fun ch => ch.all (fun q => am_pchk 8 q.2)) = true := by decide +kernel
set_option maxRecDepth 100000 in
theorem pq_9 : am_c9.all (fun ch => ch.all (fun q => am_pchk 9 q.2)) = true := by decide +kernel
set_option maxRecDepth 100000 in
theorem pq_10 : am_c10.all (fun ch => ch.all (fun q => am_pchk 10 q.2)) = true := by decide +kernel
set_option maxRecDepth 100000 in
theorem pq_11 : am_c11.all (fun ch => ch.all (fun q => am_pchk 11 q.2)) = true := by decide +kernel
set_option maxRecDepth 100000 in
theorem pq_12 : am_c12.all (fun ch => ch.all (fun q => am_pchk 12 q.2)) = true := by decide +kernel
set_option maxRecDepth 100000 in
theorem pq_13 : am_c13.all (fun ch => ch.all (fun q => am_pchk 13 q.2)) = true := by decide +kernel
set_option maxRecDepth 100000 in
theorem pq_14 : am_c14.all (fun ch => ch.all (fun q => am_pchk 14 q.2)) = true := by decide +kernel
set_option maxRecDepth 100000 in
theorem pq_15 : am_c15.all (fun ch => ch.all (fun q => am_pchk 15 q.2)) = true := by decide +kernel
set_option maxRecDepth 100000 in
theorem pq_16 : am_c16.all (fun ch => ch.all (fun q => am_pchk 16 q.2)) = true := by decide +kernel
set_option maxRecDepth 100000 in
theorem pq_17 : am_c17.all (fun ch => ch.all (fun q => am_pchk 17 q.2)) = true := by decide +kernel
set_option maxRecDepth 100000 in
theorem pq_18 : am_c18.all (fun ch => ch.all (fun q => am_pchk 18 q.2)) = true := by decide +kernel
set_option maxRecDepth 100000 in
theorem pq_19 : am_c19.all (fun ch => ch.all (fun q => am_pchk 19 q.2)) = true := by decide +kernel
set_option maxRecDepth 100000 in
theorem pq_20 : am_c20.all (fun ch => ch.all (fun q => am_pchk 20 q.2)) = true := by decide +kernel
set_option maxRecDepth 100000 in
theorem pq_21 : am_c21.all (fun ch => ch.all (fun q => am_pchk 21 q.2)) = true := by decide +kernel
set_option maxRecDepth 100000 in
theorem pq_22 : am_c22.all (fun ch => ch.all (fun q => am_pchk 22 q.2)) = true := by decide +kernel
set_option maxRecDepth 100000 in
theorem pq_23 : am_c23.all (fun ch => ch.all (fun q => am_pchk 23 q.2)) = true := by decide +kernel
set_option maxRecDepth 100000 in
theorem pq_24 : am_c24.all (fun ch => ch.all (fun q => am_pchk 24 q.2)) = true := by decide +kernel
set_option maxRecDepth 100000 in
theorem pq_25 : am_c25.all (fun ch => ch.all (fun q => am_pchk 25 q.2)) = true := by decide +kernel
set_option maxRecDepth 100000 in
theorem pq_26 : am_c26.all (fun ch => ch.all (fun q => am_pchk 26 q.2)) = true := by decide +kernel
set_option maxRecDepth 100000 in
theorem pq_27 : am_c27.all (fun ch => ch.all (fun q => am_pchk 27 q.2)) = true := by decide +kernel
set_option maxRecDepth 100000 in
theorem pq_28 : am_c28.all (fun ch => ch.all (fun q => am_pchk 28 q.2)) = true := by decide +kernel
set_option maxRecDepth 100000 in
theorem pq_29 : am_c29.all (fun ch => ch.all (fun q => am_pchk 29 q.2)) = true := by decide +kernel
set_option maxRecDepth 100000 in
theorem pq_30 : am_c30.all (fun ch => ch.all (fun q => am_pchk 30 q.2)) = true := by decide +kernel
set_option maxRecDepth 100000 in
theorem pq_31 : am_c31.all (fun ch => ch.all (fun q => am_pchk 31 q.2)) = true := by decide +kernel
set_option maxRecDepth 100000 in
theorem pq_32 : am_c32.all (fun ch => ch.all (fun q => am_pchk 32 q.2)) = true := by decide +kernel
set_option maxRecDepth 100000 in
theorem pq_33 : am_c33.all (fun ch => ch.all (fun q => am_pchk 33 q.2)) = true := by decide +kernel
set_option maxRecDepth 100000 in
theorem pq_34 : am_c34.all (fun ch => ch.all (fun q => am_pchk 34 q.2)) = true := by decide +kernel
set_option maxRecDepth 100000 in
theorem pq_35 : am_c35.all (fun ch => ch.all (fun q => am_pchk 35 q.2)) = true := by decide +kernel
set_option maxRecDepth 100000 in
theorem pq_36 : am_c36.all (fun ch => ch.all (fun q => am_pchk 36 q.2)) = true := by decide +kernel
set_option maxRecDepth 100000 in
theorem pq_37 : am_c37.all (fun ch => ch.all (fun q => am_pchk 37 q.2)) = true := by decide +kernel
set_option maxRecDepth 100000 in
theorem pq_38 : am_c38.all (fun ch => ch.all (fun q => am_pchk 38 q.2)) = true := by decide +kernel
set_option maxRecDepth 100000 in
theorem pq_39 : am_c39.all (fun ch => ch.all (fun q => am_pchk 39 q.2)) = true := by decide +kernel
set_option maxRecDepth 100000 in
theorem pq_40 : am_c40.all (fun ch => ch.all (fun q => am_pchk 40 q.2)) = true := by decide +kernel
set_option maxRecDepth 100000 in
theorem pq_41 : am_c41.all (fun ch => ch.all (fun q => am_pchk 41 q.2)) = true := by decide +kernel
set_option maxRecDepth 100000 in
theorem pq_42 : am_c42.all (fun ch => ch.all (fun q => am_pchk 42 q.2)) = true := by decide +kernel
set_option maxRecDepth 100000 in
theorem pq_43 : am_c43.all (fun ch => ch.all (fun q => am_pchk 43 q.2)) = true := by decide +kernel
set_option maxRecDepth 100000 in
theorem pq_44 : am_c44.all (fun ch => ch.all (fun q => am_pchk 44 q.2)) = true := by decide +kernel
set_option maxRecDepth 100000 in
theorem pq_45 : am_c45.all (fun ch => ch.all (fun q => am_pchk 45 q.2)) = true := by decide +kernel
set_option maxRecDepth 100000 in
theorem pq_46 : am_c46.all (fun ch => ch.all (fun q => am_pchk 46 q.2)) = true := by decide +kernel
set_option maxRecDepth 100000 in
theorem pq_47 : am_c47.all (fun ch => ch.all (fun q => am_pchk 47 q.2)) = true := by decide +kernel
set_option maxRecDepth 100000 in
theorem pq_48 : am_c48.all (fun ch => ch.all (fun q => am_pchk 48 q.2)) = true := by decide +kernel
set_option maxRecDepth 100000 in
theorem pq_49 : am_c49.all (fun ch => ch.all (fun q => am_pchk 49 q.2)) = true := by decide +kernel
set_option maxRecDepth 100000 in
theorem pq_50 : am_c50.all (fun ch => ch.all (fun q => am_pchk 50 q.2)) = true := by decide +kernel
set_option maxRecDepth 100000 in
theorem pq_51 : am_c51.all (fun ch => ch.all (fun q => am_pchk 51 q.2)) = true := by decide +kernel
set_option maxRecDepth 100000 in
theorem pq_52 : am_c52.all (fun ch => ch.all (fun q => am_pchk 52 q.2)) = true := by decide +kernel
set_option maxRecDepth 100000 in
theorem pq_53 : am_c53.all (fun ch => ch.all (fun q => am_pchk 53 q.2)) = true := by decide +kernel
set_option maxRecDepth 100000 in
theorem pq_54 : am_c54.all (fun ch => ch.all (fun q => am_pchk 54 q.2)) = true := by decide +kernel
set_option maxRecDepth 100000 in
theorem pq_55 : am_c55.all (fun ch => ch.all (fun q => am_pchk 55 q.2)) = true := by decide +kernel
set_option maxRecDepth 100000 in
theorem pq_56 : am_c56.all (fun ch => ch.all (fun q => am_pchk 56 q.2)) = true := by decide +kernel
set_option maxRecDepth 100000 in
theorem pq_57 : am_c57.all (fun ch => ch.all (fun q => am_pchk 57 q.2)) = true := by decide +kernel
set_option maxRecDepth 100000 in
theorem pq_58 : am_c58.all (fun ch => ch.all (fun q => am_pchk 58 q.2)) = true := by decide +kernel
set_option maxRecDepth 100000 in
theorem pq_59 : am_c59.all (fun ch => ch.all (fun q => am_pchk 59 q.2)) = true := by decide +kernel
set_option maxRecDepth 100000 in
theorem pq_60 : am_c60.all (fun ch => ch.all (fun q => am_pchk 60 q.2)) = true := by decide +kernel
set_option maxRecDepth 100000 in
theorem pq_61 : am_c61.all (fun ch => ch.all (fun q => am_pchk 61 q.2)) = true := by decide +kernel
set_option maxRecDepth 100000 in
theorem pq_62 : am_c62.all (fun ch => ch.all (fun q => am_pchk 62 q.2)) = true := by decide +kernel
set_option maxRecDepth 100000 in
theorem pq_63 : am_c63.all (fun ch => ch.all (fun q => am_pchk 63 q.2)) = true := by decide +kernel
set_option maxRecDepth 100000 in
theorem pq_64 : am_c64.all (fun ch => ch.all (fun q => am_pchk 64 q.2)) = true := by decide +kernel
set_option maxRecDepth 100000 in
theorem pq_65 : am_c65.all (fun ch => ch.all (fun q => am_pchk 65 q.2)) = true := by decide +kernel
set_option maxRecDepth 100000 in
theorem pq_66 : am_c66.all (fun ch => ch.all (fun q => am_pchk 66 q.2)) = true := by decide +kernel
set_option maxRecDepth 100000 in
theorem pq_67 : am_c67.all (fun ch => ch.all (fun q => am_pchk 67 q.2)) = true := by decide +kernel
set_option maxRecDepth 100000 in
theorem pq_68 : am_c68.all (fun ch => ch.all (fun q => am_pchk 68 q.2)) = true := by decide +kernel
set_option maxRecDepth 100000 in
theorem pq_69 : am_c69.all (fun ch => ch.all (fun q => am_pchk 69 q.2)) = true := by decide +kernel
set_option maxRecDepth 100000 in
theorem pq_70 : am_c70.all (fun ch => ch.all (fun q => am_pchk 70 q.2)) = true := by decide +kernel
set_option maxRecDepth 100000 in
theorem pq_71 : am_c71.all (fun ch => ch.all (fun q => am_pchk 71 q.2)) = true := by decide +kernel
set_option maxRecDepth 100000 in
theorem pq_72 : am_c72.all (fun ch => ch.all (fun q => am_pchk 72 q.2)) = true := by decide +kernel
set_option maxRecDepth 100000 in
theorem pq_73 : am_c73.all (fun ch => ch.all (fun q => am_pchk 73 q.2)) = true := by decide +kernel
set_option maxRecDepth 100000 in
theorem pq_74 : am_c74.all (fun ch => ch.all (fun q => am_pchk 74 q.2)) = true := by decide +kernel
set_option maxRecDepth 100000 in
theorem pq_75 : am_c75.all (fun ch => ch.all (fun q => am_pchk 75 q.2)) = true := by decide +kernel
set_option maxRecDepth 100000 in
theorem pq_76 : am_c76.all (fun ch => ch.all (fun q => am_pchk 76 q.2)) = true := by decide +kernel
set_option maxRecDepth 100000 in
theorem pq_77 : am_c77.all (fun ch => ch.all (fun q => am_pchk 77 q.2)) = true := by decide +kernel
set_option maxRecDepth 100000 in
theorem pq_78 : am_c78.all (fun ch => ch.all (fun q => am_pchk 78 q.2)) = true := by decide +kernel
set_option maxRecDepth 100000 in
theorem pq_79 : am_c79.all (fun ch => ch.all (fun q => am_pchk 79 q.2)) = true := by decide +kernel
set_option maxRecDepth 100000 in
theorem pq_80 : am_c80.all (fun ch => ch.all (fun q => am_pchk 80 q.2)) = true := by decide +kernel
set_option maxRecDepth 100000 in
theorem pq_81 : am_c81.all (fun ch => ch.all (fun q => am_pchk 81 q.2)) = true := by decide +kernel
set_option maxRecDepth 100000 in
theorem pq_82 : am_c82.all (fun ch => ch.all (fun q => am_pchk 82 q.2)) = true := by decide +kernel
set_option maxRecDepth 100000 in
theorem pq_83 : am_c83.all (fun ch => ch.all (fun q => am_pchk 83 q.2)) = true := by decide +kernel
set_option maxRecDepth 100000 in
theorem pq_84 : am_c84.all (fun ch => ch.all (fun q => am_pchk 84 q.2)) = true := by decide +kernel
set_option maxRecDepth 100000 in
theorem pq_85 : am_c85.all (fun ch => ch.all (fun q => am_pchk 85 q.2)) = true := by decide +kernel
set_option maxRecDepth 100000 in
theorem pq_86 : am_c86.all (fun ch => ch.all (fun q => am_pchk 86 q.2)) = true := by decide +kernel
set_option maxRecDepth 100000 in
theorem pq_87 : am_c87.all (fun ch => ch.all (fun q => am_pchk 87 q.2)) = true := by decide +kernel
set_option maxRecDepth 100000 in
theorem pq_88 : am_c88.all (fun ch => ch.all (fun q => am_pchk 88 q.2)) = true := by decide +kernel
set_option maxRecDepth 100000 in
theorem pq_89 : am_c89.all (fun ch => ch.all (fun q => am_pchk 89 q.2)) = true := by decide +kernel
set_option maxRecDepth 100000 in
theorem pq_90 : am_c90.all (fun ch => ch.all (fun q => am_pchk 90 q.2)) = true := by decide +kernel
set_option maxRecDepth 100000 in
theorem pq_91 : am_c91.all (fun ch => ch.all (fun q => am_pchk 91 q.2)) = true := by decide +kernel
set_option maxRecDepth 100000 in
theorem pq_92 : am_c92.all (fun ch => ch.all (fun q => am_pchk 92 q.2)) = true := by decide +kernel
set_option maxRecDepth 100000 in
theorem pq_93 : am_c93.all (fun ch => ch.all (fun q => am_pchk 93 q.2)) = true := by decide +kernel
set_option maxRecDepth 100000 in
theorem pq_94 : am_c94.all (fun ch => ch.all (fun q => am_pchk 94 q.2)) = true := by decide +kernel
set_option maxRecDepth 100000 in
theorem pq_95 : am_c95.all (fun ch => ch.all (fun q => am_pchk 95 q.2)) = true := by decide +kernel
set_option maxRecDepth 100000 in
theorem pq_96 : am_c96.all (fun ch => ch.all (fun q => am_pchk 96 q.2)) = true := by decide +kernel
set_option maxRecDepth 100000 in
theorem pq_97 : am_c97.all (fun ch => ch.all (fun q => am_pchk 97 q.2)) = true := by decide +kernel
set_option maxRecDepth 100000 in
theorem pq_98 : am_c98.all (fun ch => ch.all (fun q => am_pchk 98 q.2)) = true := by decide +kernel
set_option maxRecDepth 100000 in
theorem pq_99 : am_c99.all (fun ch => ch.all (fun q => am_pchk 99 q.2)) = true := by decide +kernel
set_option maxRecDepth 100000 in
theorem pq_100 : am_c100.all (fun ch => ch.all (fun q => am_pchk 100 q.2)) = true := by decide +kernel
set_option maxRecDepth 100000 in
theorem pq_101 : am_c101.all (fun ch => ch.all (fun q => am_pchk 101 q.2)) = true := by decide +kernel
set_option maxRecDepth 100000 in
theorem pq_102 : am_c102.all (fun ch => ch.all (fun q => am_pchk 102 q.2)) = true := by decide +kernel
set_option maxRecDepth 100000 in
theorem pq_103 : am_c103.all (fun ch => ch.all (fun q => am_pchk 103 q.2)) = true := by decide +kernel
set_option maxRecDepth 100000 in
theorem pq_104 : am_c104.all (fun ch => ch.all (fun q => am_pchk 104 q.2)) = true := by decide +kernel
set_option maxRecDepth 100000 in
theorem pq_105 : am_c105.all (fun ch => ch.all (fun q => am_pchk 105 q.2)) = true := by decide +kernel
set_option maxRecDepth 100000 in
theorem pq_106 : am_c106.all (fun ch => ch.all (fun q => am_pchk 106 q.2)) = true := by decide +kernel
set_option maxRecDepth 100000 in
theorem pq_107 : am_c107.all (fun ch => ch.all (fun q => am_pchk 107 q.2)) = true := by decide +kernel
set_option maxRecDepth 100000 in
theorem pq_108 : am_c108.all (fun ch => ch.all (fun q => am_pchk 108 q.2)) = true := by decide +kernel
set_option maxRecDepth 100000 in
theorem pq_109 : am_c109.all (fun ch => ch.all (fun q => am_pchk 109 q.2)) = true := by decide +kernel
set_option maxRecDepth 100000 in
theorem pq_110 : am_c110.all (fun ch => ch.all (fun q => am_pchk 110 q.2)) = true := by decide +kernel
set_option maxRecDepth 100000 in
theorem pq_111 : am_c111.all (fun ch => ch.all (fun q => am_pchk 111 q.2)) = true := by decide +kernel
set_option maxRecDepth 100000 in
theorem pq_112 : am_c112.all (fun ch => ch.all (fun q => am_pchk 112 q.2)) = true := by decide +kernel
set_option maxRecDepth 100000 in
theorem pq_113 : am_c113.all (fun ch => ch.all (fun q => am_pchk 113 q.2)) = true := by decide +kernel
set_option maxRecDepth 100000 in
theorem pq_114 : am_c114.all (fun ch => ch.all (fun q => am_pchk 114 q.2)) = true := by decide +kernel
set_option maxRecDepth 100000 in
theorem pq_115 : am_c115.all (fun ch => ch.all (fun q => am_pchk 115 q.2)) = true := by decide +kernel
set_option maxRecDepth 100000 in
theorem pq_116 : am_c116.all (fun ch => ch.all (fun q => am_pchk 116 q.2)) = true := by decide +kernel
set_option maxRecDepth 100000 in
theorem pq_117 : am_c117.all (fun ch => ch.all (fun q => am_pchk 117 q.2)) = true := by decide +kernel
set_option maxRecDepth 100000 in
theorem pq_118 : am_c118.all (fun ch => ch.all (fun q => am_pchk 118 q.2)) = true := by decide +kernel
set_option maxRecDepth 100000 in
theorem pq_119 : am_c119.all (fun ch => ch.all (fun q => am_pchk 119 q.2)) = true := by decide +kernel
set_option maxRecDepth 100000 in
theorem pq_120 : am_c120.all (fun ch => ch.all (fun q => am_pchk 120 q.2)) = true := by decide +kernel
set_option maxRecDepth 100000 in
theorem pq_121 : am_c121.all (fun ch => ch.all (fun q => am_pchk 121 q.2)) = true := by decide +kernel
set_option maxRecDepth 100000 in
theorem pq_122 : am_c122.all (fun ch => ch.all (fun q => am_pchk 122 q.2)) = true := by decide +kernel
set_option maxRecDepth 100000 in
theorem pq_123 : am_c123.all (fun ch => ch.all (fun q => am_pchk 123 q.2)) = true := by decide +kernel
set_option maxRecDepth 100000 in
theorem pq_124 : am_c124.all (fun ch => ch.all (fun q => am_pchk 124 q.2)) = true := by decide +kernel
set_option maxRecDepth 100000 in
theorem pq_125 : am_c125.all (fun ch => ch.all (fun q => am_pchk 125 q.2)) = true := by decide +kernel
set_option maxRecDepth 100000 in
theorem pq_126 : am_c126.all (fun ch => ch.all (fun q => am_pchk 126 q.2)) = true := by decide +kernel
set_option maxRecDepth 100000 in
theorem pq_127 : am_c127.all (fun ch => ch.all (fun q => am_pchk 127 q.2)) = true := by decide +kernel
set_option maxRecDepth 100000 in
theorem pq_128 : am_c128.all (fun ch => ch.all (fun q => am_pchk 128 q.2)) = true := by decide +kernel
set_option maxRecDepth 100000 in
theorem pq_129 : am_c129.all (fun ch => ch.all (fun q => am_pchk 129 q.2)) = true := by decide +kernel
set_option maxRecDepth 100000 in
theorem pq_130 : am_c130.all (fun ch => ch.all (fun q => am_pchk 130 q.2)) = true := by decide +kernel
set_option maxRecDepth 100000 in
theorem pq_131 : am_c131.all (fun ch => ch.all (fun q => am_pchk 131 q.2)) = true := by decide +kernel
set_option maxRecDepth 100000 in
theorem pq_132 : am_c132.all (fun ch => ch.all (fun q => am_pchk 132 q.2)) = true := by decide +kernel
set_option maxRecDepth 100000 in
theorem pq_133 : am_c133.all (fun ch => ch.all (fun q => am_pchk 133 q.2)) = true := by decide +kernel
set_option maxRecDepth 100000 in
theorem pq_134 : am_c134.all (fun ch => ch.all (fun q => am_pchk 134 q.2)) = true := by decide +kernel
set_option maxRecDepth 100000 in
theorem pq_135 : am_c135.all (fun ch => ch.all (fun q => am_pchk 135 q.2)) = true := by decide +kernel
set_option maxRecDepth 100000 in
theorem pq_136 : am_c136.all (fun ch => ch.all (fun q => am_pchk 136 q.2)) = true := by decide +kernel
set_option maxRecDepth 100000 in
theorem pq_137 : am_c137.all (fun ch => ch.all (fun q => am_pchk 137 q.2)) = true := by decide +kernel
set_option maxRecDepth 100000 in
theorem pq_138 : am_c138.all (fun ch => ch.all (fun q => am_pchk 138 q.2)) = true := by decide +kernel
set_option maxRecDepth 100000 in
theorem pq_139 : am_c139.all (fun ch => ch.all (fun q => am_pchk 139 q.2)) = true := by decide +kernel
set_option maxRecDepth 100000 in
theorem pq_140 : am_c140.all (fun ch => ch.all (fun q => am_pchk 140 q.2)) = true := by decide +kernel
set_option maxRecDepth 100000 in
theorem pq_141 : am_c141.all (fun ch => ch.all (fun q => am_pchk 141 q.2)) = true := by decide +kernel
set_option maxRecDepth 100000 in
theorem pq_142 : am_c142.all (fun ch => ch.all (fun q => am_pchk 142 q.2)) = true := by decide +kernel
set_option maxRecDepth 100000 in
theorem pq_143 : am_c143.all (fun ch => ch.all (fun q => am_pchk 143 q.2)) = true := by decide +kernel
set_option maxRecDepth 100000 in
theorem pq_144 : am_c144.all (fun ch => ch.all (fun q => am_pchk 144 q.2)) = true := by decide +kernel
set_option maxRecDepth 100000 in
theorem pq_145 : am_c145.all (fun ch => ch.all (fun q => am_pchk 145 q.2)) = true := by decide +kernel
set_option maxRecDepth 100000 in
theorem pq_146 : am_c146.all (fun ch => ch.all (fun q => am_pchk 146 q.2)) = true := by decide +kernel
set_option maxRecDepth 100000 in
theorem pq_147 : am_c147.all (fun ch => ch.all (fun q => am_pchk 147 q.2)) = true := by decide +kernel
set_option maxRecDepth 100000 in
theorem pq_148 : am_c148.all (fun ch => ch.all (fun q => am_pchk 148 q.2)) = true := by decide +kernel
set_option maxRecDepth 100000 in
theorem pq_149 : am_c149.all (fun ch => ch.all (fun q => am_pchk 149 q.2)) = true := by decide +kernel
set_option maxRecDepth 100000 in
theorem pq_150 : am_c150.all (fun ch => ch.all (fun q => am_pchk 150 q.2)) = true := by decide +kernel
set_option maxRecDepth 100000 in
theorem pq_151 : am_c151.all (fun ch => ch.all (fun q => am_pchk 151 q.2)) = true := by decide +kernel
set_option maxRecDepth 100000 in
theorem pq_152 : am_c152.all (fun ch => ch.all (fun q => am_pchk 152 q.2)) = true := by decide +kernel
set_option maxRecDepth 100000 in
theorem pq_153 : am_c153.all (fun ch => ch.all (fun q => am_pchk 153 q.2)) = true := by decide +kernel
set_option maxRecDepth 100000 in
theorem pq_154 : am_c154.all (fun ch => ch.all (fun q => am_pchk 154 q.2)) = true := by decide +kernel
set_option maxRecDepth 100000 in
theorem pq_155 : am_c155.all (fun ch => ch.all (fun q => am_pchk 155 q.2)) = true := by decide +kernel
set_option maxRecDepth 100000 in
theorem pq_156 : am_c156.all (fun ch => ch.all (fun q => am_pchk 156 q.2)) = true := by decide +kernel
set_option maxRecDepth 100000 in
theorem pq_157 : am_c157.all (fun ch => ch.all (fun q => am_pchk 157 q.2)) = true := by decide +kernel
set_option maxRecDepth 100000 in
theorem pq_158 : am_c158.all (fun ch => ch.all (fun q => am_pchk 158 q.2)) = true := by decide +kernel
set_option maxRecDepth 100000 in
theorem pq_159 : am_c159.all (fun ch => ch.all (fun q => am_pchk 159 q.2)) = true := by decide +kernel
set_option maxRecDepth 100000 in
theorem pq_160 : am_c160.all (fun ch => ch.all (fun q => am_pchk 160 q.2)) = true := by decide +kernel
set_option maxRecDepth 100000 in
theorem pq_161 : am_c161.all (fun ch => ch.all (fun q => am_pchk 161 q.2)) = true := by decide +kernel
set_option maxRecDepth 100000 in
theorem pq_162 : am_c162.all (fun ch => ch.all (fun q => am_pchk 162 q.2)) = true := by decide +kernel
set_option maxRecDepth 100000 in
theorem pq_163 : am_c163.all (fun ch => ch.all (fun q => am_pchk 163 q.2)) = true := by decide +kernel
set_option maxRecDepth 100000 in
theorem pq_164 : am_c164.all (fun ch => ch.all (fun q => am_pchk 164 q.2)) = true := by decide +kernel
set_option maxRecDepth 100000 in
theorem pq_165 : am_c165.all (fun ch => ch.all (fun q => am_pchk 165 q.2)) = true := by decide +kernel
set_option maxRecDepth 100000 in
theorem pq_166 : am_c166.all (fun ch => ch.all (fun q => am_pchk 166 q.2)) = true := by decide +kernel
set_option maxRecDepth 100000 in
theorem pq_167 : am_c167.all (fun ch => ch.all (fun q => am_pchk 167 q.2)) = true := by decide +kernel
set_option maxRecDepth 100000 in
theorem pq_168 : am_c168.all (fun ch => ch.all (fun q => am_pchk 168 q.2)) = true := by decide +kernel
set_option maxRecDepth 100000 in
theorem pq_169 : am_c169.all (fun ch => ch.all (fun q => am_pchk 169 q.2)) = true := by decide +kernel
set_option maxRecDepth 100000 in
theorem pq_170 : am_c170.all (fun ch => ch.all (fun q => am_pchk 170 q.2)) = true := by decide +kernel
set_option maxRecDepth 100000 in
theorem pq_171 : am_c171.all (fun ch => ch.all (fun q => am_pchk 171 q.2)) = true := by decide +kernel
set_option maxRecDepth 100000 in
theorem pq_172 : am_c172.all (fun ch => ch.all (fun q => am_pchk 172 q.2)) = true := by decide +kernel
set_option maxRecDepth 100000 in
theorem pq_173 : am_c173.all (fun ch => ch.all (fun q => am_pchk 173 q.2)) = true := by decide +kernel
set_option maxRecDepth 100000 in
theorem pq_174 : am_c174.all (fun ch => ch.all (fun q => am_pchk 174 q.2)) = true := by decide +kernel
set_option maxRecDepth 100000 in
theorem pq_175 : am_c175.all (fun ch => ch.all (fun q => am_pchk 175 q.2)) = true := by decide +kernel
set_option maxRecDepth 100000 in
theorem pq_176 : am_c176.all (fun ch => ch.all (fun q => am_pchk 176 q.2)) = true := by decide +kernel
set_option maxRecDepth 100000 in
theorem pq_177 : am_c177.all (fun ch => ch.all (fun q => am_pchk 177 q.2)) = true := by decide +kernel
set_option maxRecDepth 100000 in
theorem pq_178 : am_c178.all (fun ch => ch.all (fun q => am_pchk 178 q.2)) = true := by decide +kernel
set_option maxRecDepth 100000 in
theorem pq_179 : am_c179.all (fun ch => ch.all (fun q => am_pchk 179 q.2)) = true := by decide +kernel
set_option maxRecDepth 100000 in
theorem pq_180 : am_c180.all (fun ch => ch.all (fun q => am_pchk 180 q.2)) = true := by decide +kernel
set_option maxRecDepth 100000 in
theorem pq_181 : am_c181.all (fun ch => ch.all (fun q => am_pchk 181 q.2)) = true := by decide +kernel
set_option maxRecDepth 100000 in
theorem pq_182 : am_c182.all (fun ch => ch.all (fun q => am_pchk 182 q.2)) = true := by decide +kernel
set_option maxRecDepth 100000 in
theorem pq_183 : am_c183.all (fun ch => ch.all (fun q => am_pchk 183 q.2)) = true := by decide +kernel
set_option maxRecDepth 100000 in
theorem pq_184 : am_c184.all (fun ch => ch.all (fun q => am_pchk 184 q.2)) = true := by decide +kernel
set_option maxRecDepth 100000 in
theorem pq_185 : am_c185.all (fun ch => ch.all (fun q => am_pchk 185 q.2)) = true := by decide +kernel
set_option maxRecDepth 100000 in
theorem pq_186 : am_c186.all (fun ch => ch.all (fun q => am_pchk 186 q.2)) = true := by decide +kernel
set_option maxRecDepth 100000 in
theorem pq_187 : am_c187.all (fun ch => ch.all (fun q => am_pchk 187 q.2)) = true := by decide +kernel
set_option maxRecDepth 100000 in
theorem pq_188 : am_c188.all (fun ch => ch.all (fun q => am_pchk 188 q.2)) = true := by decide +kernel
set_option maxRecDepth 100000 in
theorem pq_189 : am_c189.all (fun ch => ch.all (fun q => am_pchk 189 q.2)) = true := by decide +kernel
set_option maxRecDepth 100000 in
theorem pq_190 : am_c190.all (fun ch => ch.all (fun q => am_pchk 190 q.2)) = true := by decide +kernel
set_option maxRecDepth 100000 in
theorem pq_191 : am_c191.all (fun ch => ch.all (fun q => am_pchk 191 q.2)) = true := by decide +kernel
set_option maxRecDepth 100000 in
theorem pq_192 : am_c192.all (fun ch => ch.all (fun q => am_pchk 192 q.2)) = true := by decide +kernel
set_option maxRecDepth 100000 in
theorem pq_193 : am_c193.all (fun ch => ch.all (fun q => am_pchk 193 q.2)) = true := by decide +kernel
set_option maxRecDepth 100000 in
theorem pq_194 : am_c194.all (fun ch => ch.all (fun q => am_pchk 194 q.2)) = true := by decide +kernel
set_option maxRecDepth 100000 in
theorem pq_195 : am_c195.all (fun ch => ch.all (fun q => am_pchk 195 q.2)) = true := by decide +kernel
set_option maxRecDepth 100000 in
theorem pq_196 : am_c196.all (fun ch => ch.all (fun q => am_pchk 196 q.2)) = true := by decide +kernel
set_option maxRecDepth 100000 in
theorem pq_197 : am_c197.all (fun ch => ch.all (fun q => am_pchk 197 q.2)) = true := by decide +kernel
set_option maxRecDepth 100000 in
theorem pq_198 : am_c198.all (fun ch => ch.all (fun q => am_pchk 198 q.2)) = true := by decide +kernel
set_option maxRecDepth 100000 in
theorem pq_199 : am_c199.all (fun ch => ch.all (fun q => am_pchk 199 q.2)) = true := by decide +kernel
set_option maxRecDepth 100000 in
theorem pq_200 : am_c200.all (fun ch => ch.all (fun q => am_pchk 200 q.2)) = true := by decide +kernel
set_option maxRecDepth 100000 in
theorem pq_201 : am_c201.all (fun ch => ch.all (fun q => am_pchk 201 q.2)) = true := by decide +kernel
set_option maxRecDepth 100000 in
theorem pq_202 : am_c202.all (fun ch => ch.all (fun q => am_pchk 202 q.2)) = true := by decide +kernel
set_option maxRecDepth 100000 in
theorem pq_203 : am_c203.all (fun ch => ch.all (fun q => am_pchk 203 q.2)) = true := by decide +kernel
set_option maxRecDepth 100000 in
theorem pq_204 : am_c204.all (fun ch => ch.all (fun q => am_pchk 204 q.2)) = true := by decide +kernel
set_option maxRecDepth 100000 in
theorem pq_205 : am_c205.all (fun ch => ch.all (fun q => am_pchk 205 q.2)) = true := by decide +kernel
set_option maxRecDepth 100000 in
theorem pq_206 : am_c206.all (fun ch => ch.all (fun q => am_pchk 206 q.2)) = true := by decide +kernel
set_option maxRecDepth 100000 in
theorem pq_207 : am_c207.all (fun ch => ch.all (fun q => am_pchk 207 q.2)) = true := by decide +kernel
set_option maxRecDepth 100000 in
theorem pq_208 : am_c208.all (fun ch => ch.all (fun q => am_pchk 208 q.2)) = true := by decide +kernel
set_option maxRecDepth 100000 in
theorem pq_209 : am_c209.all (fun ch => ch.all (fun q => am_pchk 209 q.2)) = true := by decide +kernel
set_option maxRecDepth 100000 in
theorem pq_210 : am_c210.all (fun ch => ch.all (fun q => am_pchk 210 q.2)) = true := by decide +kernel
set_option maxRecDepth 100000 in
theorem pq_211 : am_c211.all (fun ch => ch.all (fun q => am_pchk 211 q.2)) = true := by decide +kernel
theorem ck_211 : ∀ ch ∈ am_c211, ch.all (fun q => am_chk 211 q.1 q.2) = true := by
  intro ch h
  obtain ⟨i, hi⟩ := List.getElem?_of_mem h
  have e : am_c211.getD i [] = ch := by rw [List.getD_eq_getElem?_getD, hi]; rfl
  rw [← e]
  have hl : i < 22 := (List.getElem?_eq_some_iff.mp hi).1
  match i, hl with
  | 0, _ => exact ck_211_0
  | 1, _ => exact ck_211_1
  | 2, _ => exact ck_211_2
  | 3, _ => exact ck_211_3
  | 4, _ => exact ck_211_4
  | 5, _ => exact ck_211_5
  | 6, _ => exact ck_211_6
  | 7, _ => exact ck_211_7
  | 8, _ => exact ck_211_8
  | 9, _ => exact ck_211_9
  | 10, _ => exact ck_211_10
  | 11, _ => exact ck_211_11
  | 12, _ => exact ck_211_12
  | 13, _ => exact ck_211_13
  | 14, _ => exact ck_211_14
  | 15, _ => exact ck_211_15
  | 16, _ => exact ck_211_16
  | 17, _ => exact ck_211_17
  | 18, _ => exact ck_211_18
  | 19, _ => exact ck_211_19
  | 20, _ => exact ck_211_20
  | 21, _ => exact ck_211_21
  | i + 22, h => exact absurd h (by omega)
theorem am_ckc_0 : ∀ r, r < 16 → ∀ ch ∈ ((am_cL.getD 0 []).getD r []), ch.all (fun q => am_chk (16 * 0 + r) q.1 q.2) = true
  | 0, _ => List.all_eq_true.mp ck_0
  | 1, _ => List.all_eq_true.mp ck_1
  | 2, _ => List.all_eq_true.mp ck_2
  | 3, _ => List.all_eq_true.mp ck_3
  | 4, _ => List.all_eq_true.mp ck_4
  | 5, _ => List.all_eq_true.mp ck_5
  | 6, _ => List.all_eq_true.mp ck_6
  | 7, _ => List.all_eq_true.mp ck_7
  | 8, _ => List.all_eq_true.mp ck_8
  | 9, _ => List.all_eq_true.mp ck_9
  | 10, _ => List.all_eq_true.mp ck_10
  | 11, _ => List.all_eq_true.mp ck_11
  | 12, _ => List.all_eq_true.mp ck_12
  | 13, _ => List.all_eq_true.mp ck_13
  | 14, _ => List.all_eq_true.mp ck_14
  | 15, _ => List.all_eq_true.mp ck_15
  | r + 16, h => absurd h (by omega)
theorem am_ckc_1 : ∀ r, r < 16 → ∀ ch ∈ ((am_cL.getD 1 []).getD r []), ch.all (fun q => am_chk (16 * 1 + r) q.1 q.2) = true
  | 0, _ => List.all_eq_true.mp ck_16
  | 1, _ => List.all_eq_true.mp ck_17
  | 2, _ => List.all_eq_true.mp ck_18
  | 3, _ => List.all_eq_true.mp ck_19
  | 4, _ => List.all_eq_true.mp ck_20
  | 5, _ => List.all_eq_true.mp ck_21
  | 6, _ => List.all_eq_true.mp ck_22
  | 7, _ => List.all_eq_true.mp ck_23
  | 8, _ => List.all_eq_true.mp ck_24
  | 9, _ => List.all_eq_true.mp ck_25
  | 10, _ => List.all_eq_true.mp ck_26
  | 11, _ => List.all_eq_true.mp ck_27
  | 12, _ => List.all_eq_true.mp ck_28
  | 13, _ => List.all_eq_true.mp ck_29
  | 14, _ => List.all_eq_true.mp ck_30
  | 15, _ => List.all_eq_true.mp ck_31
  | r + 16, h => absurd h (by omega)
theorem am_ckc_2 : ∀ r, r < 16 → ∀ ch ∈ ((am_cL.getD 2 []).getD r []), ch.all (fun q => am_chk (16 * 2 + r) q.1 q.2) = true
  | 0, _ => List.all_eq_true.mp ck_32
  | 1, _ => List.all_eq_true.mp ck_33
  | 2, _ => List.all_eq_true.mp ck_34
  | 3, _ => List.all_eq_true.mp ck_35
  | 4, _ => List.all_eq_true.mp ck_36
  | 5, _ => List.all_eq_true.mp ck_37
  | 6, _ => List.all_eq_true.mp ck_38
  | 7, _ => List.all_eq_true.mp ck_39
  | 8, _ => List.all_eq_true.mp ck_40
  | 9, _ => List.all_eq_true.mp ck_41
  | 10, _ => List.all_eq_true.mp ck_42
  | 11, _ => List.all_eq_true.mp ck_43
  | 12, _ => List.all_eq_true.mp ck_44
  | 13, _ => List.all_eq_true.mp ck_45
  | 14, _ => List.all_eq_true.mp ck_46
  | 15, _ => List.all_eq_true.mp ck_47
  | r + 16, h => absurd h (by omega)
theorem am_ckc_3 : ∀ r, r < 16 → ∀ ch ∈ ((am_cL.getD 3 []).getD r []), ch.all (fun q => am_chk (16 * 3 + r) q.1 q.2) = true
  | 0, _ => List.all_eq_true.mp ck_48
  | 1, _ => List.all_eq_true.mp ck_49
  | 2, _ => List.all_eq_true.mp ck_50
  | 3, _ => List.all_eq_true.mp ck_51
  | 4, _ => List.all_eq_true.mp ck_52
  | 5, _ => List.all_eq_true.mp ck_53
  | 6, _ => List.all_eq_true.mp ck_54
  | 7, _ => List.all_eq_true.mp ck_55
  | 8, _ => List.all_eq_true.mp ck_56
  | 9, _ => List.all_eq_true.mp ck_57
  | 10, _ => List.all_eq_true.mp ck_58
  | 11, _ => List.all_eq_true.mp ck_59
  | 12, _ => List.all_eq_true.mp ck_60
  | 13, _ => List.all_eq_true.mp ck_61
  | 14, _ => List.all_eq_true.mp ck_62
  | 15, _ => List.all_eq_true.mp ck_63
  | r + 16, h => absurd h (by omega)
theorem am_ckc_4 : ∀ r, r < 16 → ∀ ch ∈ ((am_cL.getD 4 []).getD r []), ch.all (fun q => am_chk (16 * 4 + r) q.1 q.2) = true
  | 0, _ => List.all_eq_true.mp ck_64
  | 1, _ => List.all_eq_true.mp ck_65
  | 2, _ => List.all_eq_true.mp ck_66
  | 3, _ => List.all_eq_true.mp ck_67
  | 4, _ => List.all_eq_true.mp ck_68
  | 5, _ => List.all_eq_true.mp ck_69
  | 6, _ => List.all_eq_true.mp ck_70
  | 7, _ => List.all_eq_true.mp ck_71
  | 8, _ => List.all_eq_true.mp ck_72
  | 9, _ => List.all_eq_true.mp ck_73
  | 10, _ => List.all_eq_true.mp ck_74
  | 11, _ => List.all_eq_true.mp ck_75
  | 12, _ => List.all_eq_true.mp ck_76
  | 13, _ => List.all_eq_true.mp ck_77
  | 14, _ => List.all_eq_true.mp ck_78
  | 15, _ => List.all_eq_true.mp ck_79
  | r + 16, h => absurd h (by omega)
theorem am_ckc_5 : ∀ r, r < 16 → ∀ ch ∈ ((am_cL.getD 5 []).getD r []), ch.all (fun q => am_chk (16 * 5 + r) q.1 q.2) = true
  | 0, _ => List.all_eq_true.mp ck_80
  | 1, _ => List.all_eq_true.mp ck_81
  | 2, _ => List.all_eq_true.mp ck_82
  | 3, _ => List.all_eq_true.mp ck_83
  | 4, _ => List.all_eq_true.mp ck_84
  | 5, _ => List.all_eq_true.mp ck_85
  | 6, _ => List.all_eq_true.mp ck_86
  | 7, _ => List.all_eq_true.mp ck_87
  | 8, _ => List.all_eq_true.mp ck_88
  | 9, _ => List.all_eq_true.mp ck_89
  | 10, _ => List.all_eq_true.mp ck_90
  | 11, _ => List.all_eq_true.mp ck_91
  | 12, _ => List.all_eq_true.mp ck_92
  | 13, _ => List.all_eq_true.mp ck_93
  | 14, _ => List.all_eq_true.mp ck_94
  | 15, _ => List.all_eq_true.mp ck_95
  | r + 16, h => absurd h (by omega)
theorem am_ckc_6 : ∀ r, r < 16 → ∀ ch ∈ ((am_cL.getD 6 []).getD r []), ch.all (fun q => am_chk (16 * 6 + r) q.1 q.2) = true
  | 0, _ => List.all_eq_true.mp ck_96
  | 1, _ => List.all_eq_true.mp ck_97
  | 2, _ => List.all_eq_true.mp ck_98
  | 3, _ => List.all_eq_true.mp ck_99
  | 4, _ => List.all_eq_true.mp ck_100
  | 5, _ => List.all_eq_true.mp ck_101
  | 6, _ => List.all_eq_true.mp ck_102
  | 7, _ => List.all_eq_true.mp ck_103
  | 8, _ => List.all_eq_true.mp ck_104
  | 9, _ => List.all_eq_true.mp ck_105
  | 10, _ => List.all_eq_true.mp ck_106
  | 11, _ => List.all_eq_true.mp ck_107
  | 12, _ => List.all_eq_true.mp ck_108
  | 13, _ => List.all_eq_true.mp ck_109
  | 14, _ => List.all_eq_true.mp ck_110
  | 15, _ => List.all_eq_true.mp ck_111
  | r + 16, h => absurd h (by omega)
theorem am_ckc_7 : ∀ r, r < 16 → ∀ ch ∈ ((am_cL.getD 7 []).getD r []), ch.all (fun q => am_chk (16 * 7 + r) q.1 q.2) = true
  | 0, _ => List.all_eq_true.mp ck_112
  | 1, _ => List.all_eq_true.mp ck_113
  | 2, _ => List.all_eq_true.mp ck_114
  | 3, _ => List.all_eq_true.mp ck_115
  | 4, _ => List.all_eq_true.mp ck_116
  | 5, _ => List.all_eq_true.mp ck_117
  | 6, _ => List.all_eq_true.mp ck_118
  | 7, _ => List.all_eq_true.mp ck_119
  | 8, _ => List.all_eq_true.mp ck_120
  | 9, _ => List.all_eq_true.mp ck_121
  | 10, _ => List.all_eq_true.mp ck_122
  | 11, _ => List.all_eq_true.mp ck_123
  | 12, _ => List.all_eq_true.mp ck_124
  | 13, _ => List.all_eq_true.mp ck_125
  | 14, _ => List.all_eq_true.mp ck_126
  | 15, _ => List.all_eq_true.mp ck_127
  | r + 16, h => absurd h (by omega)
theorem am_ckc_8 : ∀ r, r < 16 → ∀ ch ∈ ((am_cL.getD 8 []).getD r []), ch.all (fun q => am_chk (16 * 8 + r) q.1 q.2) = true
  | 0, _ => List.all_eq_true.mp ck_128
  | 1, _ => List.all_eq_true.mp ck_129
  | 2, _ => List.all_eq_true.mp ck_130
  | 3, _ => List.all_eq_true.mp ck_131
  | 4, _ => List.all_eq_true.mp ck_132
  | 5, _ => List.all_eq_true.mp ck_133
  | 6, _ => List.all_eq_true.mp ck_134
  | 7, _ => List.all_eq_true.mp ck_135
  | 8, _ => List.all_eq_true.mp ck_136
  | 9, _ => List.all_eq_true.mp ck_137
  | 10, _ => List.all_eq_true.mp ck_138
  | 11, _ => List.all_eq_true.mp ck_139
  | 12, _ => List.all_eq_true.mp ck_140
  | 13, _ => List.all_eq_true.mp ck_141
  | 14, _ => List.all_eq_true.mp ck_142
  | 15, _ => List.all_eq_true.mp ck_143
  | r + 16, h => absurd h (by omega)
theorem am_ckc_9 : ∀ r, r < 16 → ∀ ch ∈ ((am_cL.getD 9 []).getD r []), ch.all (fun q => am_chk (16 * 9 + r) q.1 q.2) = true
  | 0, _ => List.all_eq_true.mp ck_144
  | 1, _ => List.all_eq_true.mp ck_145
  | 2, _ => List.all_eq_true.mp ck_146
  | 3, _ => List.all_eq_true.mp ck_147
  | 4, _ => List.all_eq_true.mp ck_148
  | 5, _ => List.all_eq_true.mp ck_149
  | 6, _ => List.all_eq_true.mp ck_150
  | 7, _ => List.all_eq_true.mp ck_151
  | 8, _ => List.all_eq_true.mp ck_152
  | 9, _ => List.all_eq_true.mp ck_153
  | 10, _ => List.all_eq_true.mp ck_154
  | 11, _ => List.all_eq_true.mp ck_155
  | 12, _ => List.all_eq_true.mp ck_156
  | 13, _ => List.all_eq_true.mp ck_157
  | 14, _ => List.all_eq_true.mp ck_158
  | 15, _ => List.all_eq_true.mp ck_159
  | r + 16, h => absurd h (by omega)
theorem am_ckc_10 : ∀ r, r < 16 → ∀ ch ∈ ((am_cL.getD 10 []).getD r []), ch.all (fun q => am_chk (16 * 10 + r) q.1 q.2) = true
  | 0, _ => List.all_eq_true.mp ck_160
  | 1, _ => List.all_eq_true.mp ck_161
  | 2, _ => List.all_eq_true.mp ck_162
  | 3, _ => List.all_eq_true.mp ck_163
  | 4, _ => List.all_eq_true.mp ck_164
  | 5, _ => List.all_eq_true.mp ck_165
  | 6, _ => List.all_eq_true.mp ck_166
  | 7, _ => List.all_eq_true.mp ck_167
  | 8, _ => List.all_eq_true.mp ck_168
  | 9, _ => List.all_eq_true.mp ck_169
  | 10, _ => List.all_eq_true.mp ck_170
  | 11, _ => List.all_eq_true.mp ck_171
  | 12, _ => List.all_eq_true.mp ck_172
  | 13, _ => List.all_eq_true.mp ck_173
  | 14, _ => List.all_eq_true.mp ck_174
  | 15, _ => List.all_eq_true.mp ck_175
  | r + 16, h => absurd h (by omega)
theorem am_ckc_11 : ∀ r, r < 16 → ∀ ch ∈ ((am_cL.getD 11 []).getD r []), ch.all (fun q => am_chk (16 * 11 + r) q.1 q.2) = true
  | 0, _ => List.all_eq_true.mp ck_176
  | 1, _ => List.all_eq_true.mp ck_177
  | 2, _ => List.all_eq_true.mp ck_178
  | 3, _ => List.all_eq_true.mp ck_179
  | 4, _ => List.all_eq_true.mp ck_180
  | 5, _ => List.all_eq_true.mp ck_181
  | 6, _ => List.all_eq_true.mp ck_182
  | 7, _ => List.all_eq_true.mp ck_183
  | 8, _ => List.all_eq_true.mp ck_184
  | 9, _ => List.all_eq_true.mp ck_185
  | 10, _ => List.all_eq_true.mp ck_186
  | 11, _ => List.all_eq_true.mp ck_187
  | 12, _ => List.all_eq_true.mp ck_188
  | 13, _ => List.all_eq_true.mp ck_189
  | 14, _ => List.all_eq_true.mp ck_190
  | 15, _ => List.all_eq_true.mp ck_191
  | r + 16, h => absurd h (by omega)
theorem am_ckc_12 : ∀ r, r < 16 → ∀ ch ∈ ((am_cL.getD 12 []).getD r []), ch.all (fun q => am_chk (16 * 12 + r) q.1 q.2) = true
  | 0, _ => List.all_eq_true.mp ck_192
  | 1, _ => List.all_eq_true.mp ck_193
  | 2, _ => List.all_eq_true.mp ck_194
  | 3, _ => List.all_eq_true.mp ck_195
  | 4, _ => List.all_eq_true.mp ck_196
  | 5, _ => List.all_eq_true.mp ck_197
  | 6, _ => List.all_eq_true.mp ck_198
  | 7, _ => List.all_eq_true.mp ck_199
  | 8, _ => List.all_eq_true.mp ck_200
  | 9, _ => List.all_eq_true.mp ck_201
  | 10, _ => List.all_eq_true.mp ck_202
  | 11, _ => List.all_eq_true.mp ck_203
  | 12, _ => List.all_eq_true.mp ck_204
  | 13, _ => List.all_eq_true.mp ck_205
  | 14, _ => List.all_eq_true.mp ck_206
  | 15, _ => List.all_eq_true.mp ck_207
  | r + 16, h => absurd h (by omega)
theorem am_ckc_13 : ∀ r, r < 4 → ∀ ch ∈ ((am_cL.getD 13 []).getD r []), ch.all (fun q => am_chk (16 * 13 + r) q.1 q.2) = true
  | 0, _ => List.all_eq_true.mp ck_208
  | 1, _ => List.all_eq_true.mp ck_209
  | 2, _ => List.all_eq_true.mp ck_210
  | 3, _ => ck_211
  | r + 4, h => absurd h (by omega)
theorem am_pkc_0 : ∀ r, r < 16 → ∀ ch ∈ ((am_cL.getD 0 []).getD r []), ch.all (fun q => am_pchk (16 * 0 + r) q.2) = true
  | 0, _ => List.all_eq_true.mp pq_0
  | 1, _ => List.all_eq_true.mp pq_1
  | 2, _ => List.all_eq_true.mp pq_2
  | 3, _ => List.all_eq_true.mp pq_3
  | 4, _ => List.all_eq_true.mp pq_4
  | 5, _ => List.all_eq_true.mp pq_5
  | 6, _ => List.all_eq_true.mp pq_6
  | 7, _ => List.all_eq_true.mp pq_7
  | 8, _ => List.all_eq_true.mp pq_8
  | 9, _ => List.all_eq_true.mp pq_9
  | 10, _ => List.all_eq_true.mp pq_10
  | 11, _ => List.all_eq_true.mp pq_11
  | 12, _ => List.all_eq_true.mp pq_12
  | 13, _ => List.all_eq_true.mp pq_13
  | 14, _ => List.all_eq_true.mp pq_14
  | 15, _ => List.all_eq_true.mp pq_15
  | r + 16, h => absurd h (by omega)
theorem am_pkc_1 : ∀ r, r < 16 → ∀ ch ∈ ((am_cL.getD 1 []).getD r []), ch.all (fun q => am_pchk (16 * 1 + r) q.2) = true
  | 0, _ => List.all_eq_true.mp pq_16
  | 1, _ => List.all_eq_true.mp pq_17
  | 2, _ => List.all_eq_true.mp pq_18
  | 3, _ => List.all_eq_true.mp pq_19
  | 4, _ => List.all_eq_true.mp pq_20
  | 5, _ => List.all_eq_true.mp pq_21
  | 6, _ => List.all_eq_true.mp pq_22
  | 7, _ => List.all_eq_true.mp pq_23
  | 8, _ => List.all_eq_true.mp pq_24
  | 9, _ => List.all_eq_true.mp pq_25
  | 10, _ => List.all_eq_true.mp pq_26
  | 11, _ => List.all_eq_true.mp pq_27
  | 12, _ => List.all_eq_true.mp pq_28
  | 13, _ => List.all_eq_true.mp pq_29
  | 14, _ => List.all_eq_true.mp pq_30
  | 15, _ => List.all_eq_true.mp pq_31
  | r + 16, h => absurd h (by omega)
theorem am_pkc_2 : ∀ r, r < 16 → ∀ ch ∈ ((am_cL.getD 2 []).getD r []), ch.all (fun q => am_pchk (16 * 2 + r) q.2) = true
  | 0, _ => List.all_eq_true.mp pq_32
  | 1, _ => List.all_eq_true.mp pq_33
  | 2, _ => List.all_eq_true.mp pq_34
  | 3, _ => List.all_eq_true.mp pq_35
  | 4, _ => List.all_eq_true.mp pq_36
  | 5, _ => List.all_eq_true.mp pq_37
  | 6, _ => List.all_eq_true.mp pq_38
  | 7, _ => List.all_eq_true.mp pq_39
  | 8, _ => List.all_eq_true.mp pq_40
  | 9, _ => List.all_eq_true.mp pq_41
  | 10, _ => List.all_eq_true.mp pq_42
  | 11, _ => List.all_eq_true.mp pq_43
  | 12, _ => List.all_eq_true.mp pq_44
  | 13, _ => List.all_eq_true.mp pq_45
  | 14, _ => List.all_eq_true.mp pq_46
  | 15, _ => List.all_eq_true.mp pq_47
  | r + 16, h => absurd h (by omega)
theorem am_pkc_3 : ∀ r, r < 16 → ∀ ch ∈ ((am_cL.getD 3 []).getD r []), ch.all (fun q => am_pchk (16 * 3 + r) q.2) = true
  | 0, _ => List.all_eq_true.mp pq_48
  | 1, _ => List.all_eq_true.mp pq_49
  | 2, _ => List.all_eq_true.mp pq_50
  | 3, _ => List.all_eq_true.mp pq_51
  | 4, _ => List.all_eq_true.mp pq_52
  | 5, _ => List.all_eq_true.mp pq_53
  | 6, _ => List.all_eq_true.mp pq_54
  | 7, _ => List.all_eq_true.mp pq_55
  | 8, _ => List.all_eq_true.mp pq_56
  | 9, _ => List.all_eq_true.mp pq_57
  | 10, _ => List.all_eq_true.mp pq_58
  | 11, _ => List.all_eq_true.mp pq_59
  | 12, _ => List.all_eq_true.mp pq_60
  | 13, _ => List.all_eq_true.mp pq_61
  | 14, _ => List.all_eq_true.mp pq_62
  | 15, _ => List.all_eq_true.mp pq_63
  | r + 16, h => absurd h (by omega)
theorem am_pkc_4 : ∀ r, r < 16 → ∀ ch ∈ ((am_cL.getD 4 []).getD r []), ch.all (fun q => am_pchk (16 * 4 + r) q.2) = true
  | 0, _ => List.all_eq_true.mp pq_64
  | 1, _ => List.all_eq_true.mp pq_65
  | 2, _ => List.all_eq_true.mp pq_66
  | 3, _ => List.all_eq_true.mp pq_67
  | 4, _ => List.all_eq_true.mp pq_68
  | 5, _ => List.all_eq_true.mp pq_69
  | 6, _ => List.all_eq_true.mp pq_70
  | 7, _ => List.all_eq_true.mp pq_71
  | 8, _ => List.all_eq_true.mp pq_72
  | 9, _ => List.all_eq_true.mp pq_73
  | 10, _ => List.all_eq_true.mp pq_74
  | 11, _ => List.all_eq_true.mp pq_75
  | 12, _ => List.all_eq_true.mp pq_76
  | 13, _ => List.all_eq_true.mp pq_77
  | 14, _ => List.all_eq_true.mp pq_78
  | 15, _ => List.all_eq_true.mp pq_79
  | r + 16, h => absurd h (by omega)
theorem am_pkc_5 : ∀ r, r < 16 → ∀ ch ∈ ((am_cL.getD 5 []).getD r []), ch.all (fun q => am_pchk (16 * 5 + r) q.2) = true
  | 0, _ => List.all_eq_true.mp pq_80
  | 1, _ => List.all_eq_true.mp pq_81
  | 2, _ => List.all_eq_true.mp pq_82
  | 3, _ => List.all_eq_true.mp pq_83
  | 4, _ => List.all_eq_true.mp pq_84
  | 5, _ => List.all_eq_true.mp pq_85
  | 6, _ => List.all_eq_true.mp pq_86
  | 7, _ => List.all_eq_true.mp pq_87
  | 8, _ => List.all_eq_true.mp pq_88
  | 9, _ => List.all_eq_true.mp pq_89
  | 10, _ => List.all_eq_true.mp pq_90
  | 11, _ => List.all_eq_true.mp pq_91
  | 12, _ => List.all_eq_true.mp pq_92
  | 13, _ => List.all_eq_true.mp pq_93
  | 14, _ => List.all_eq_true.mp pq_94
  | 15, _ => List.all_eq_true.mp pq_95
  | r + 16, h => absurd h (by omega)
theorem am_pkc_6 : ∀ r, r < 16 → ∀ ch ∈ ((am_cL.getD 6 []).getD r []), ch.all (fun q => am_pchk (16 * 6 + r) q.2) = true
  | 0, _ => List.all_eq_true.mp pq_96
  | 1, _ => List.all_eq_true.mp pq_97
  | 2, _ => List.all_eq_true.mp pq_98
  | 3, _ => List.all_eq_true.mp pq_99
  | 4, _ => List.all_eq_true.mp pq_100
  | 5, _ => List.all_eq_true.mp pq_101
  | 6, _ => List.all_eq_true.mp pq_102
  | 7, _ => List.all_eq_true.mp pq_103
  | 8, _ => List.all_eq_true.mp pq_104
  | 9, _ => List.all_eq_true.mp pq_105
  | 10, _ => List.all_eq_true.mp pq_106
  | 11, _ => List.all_eq_true.mp pq_107
  | 12, _ => List.all_eq_true.mp pq_108
  | 13, _ => List.all_eq_true.mp pq_109
  | 14, _ => List.all_eq_true.mp pq_110
  | 15, _ => List.all_eq_true.mp pq_111
  | r + 16, h => absurd h (by omega)
theorem am_pkc_7 : ∀ r, r < 16 → ∀ ch ∈ ((am_cL.getD 7 []).getD r []), ch.all (fun q => am_pchk (16 * 7 + r) q.2) = true
  | 0, _ => List.all_eq_true.mp pq_112
  | 1, _ => List.all_eq_true.mp pq_113
  | 2, _ => List.all_eq_true.mp pq_114
  | 3, _ => List.all_eq_true.mp pq_115
  | 4, _ => List.all_eq_true.mp pq_116
  | 5, _ => List.all_eq_true.mp pq_117
  | 6, _ => List.all_eq_true.mp pq_118
  | 7, _ => List.all_eq_true.mp pq_119
  | 8, _ => List.all_eq_true.mp pq_120
  | 9, _ => List.all_eq_true.mp pq_121
  | 10, _ => List.all_eq_true.mp pq_122
  | 11, _ => List.all_eq_true.mp pq_123
  | 12, _ => List.all_eq_true.mp pq_124
  | 13, _ => List.all_eq_true.mp pq_125
  | 14, _ => List.all_eq_true.mp pq_126
  | 15, _ => List.all_eq_true.mp pq_127
  | r + 16, h => absurd h (by omega)
theorem am_pkc_8 : ∀ r, r < 16 → ∀ ch ∈ ((am_cL.getD 8 []).getD r []), ch.all (fun q => am_pchk (16 * 8 + r) q.2) = true
  | 0, _ => List.all_eq_true.mp pq_128
  | 1, _ => List.all_eq_true.mp pq_129
  | 2, _ => List.all_eq_true.mp pq_130
  | 3, _ => List.all_eq_true.mp pq_131
  | 4, _ => List.all_eq_true.mp pq_132
  | 5, _ => List.all_eq_true.mp pq_133
  | 6, _ => List.all_eq_true.mp pq_134
  | 7, _ => List.all_eq_true.mp pq_135
  | 8, _ => List.all_eq_true.mp pq_136
  | 9, _ => List.all_eq_true.mp pq_137
  | 10, _ => List.all_eq_true.mp pq_138
  | 11, _ => List.all_eq_true.mp pq_139
  | 12, _ => List.all_eq_true.mp pq_140
  | 13, _ => List.all_eq_true.mp pq_141
  | 14, _ => List.all_eq_true.mp pq_142
  | 15, _ => List.all_eq_true.mp pq_143
  | r + 16, h => absurd h (by omega)
theorem am_pkc_9 : ∀ r, r < 16 → ∀ ch ∈ ((am_cL.getD 9 []).getD r []), ch.all (fun q => am_pchk (16 * 9 + r) q.2) = true
  | 0, _ => List.all_eq_true.mp pq_144
  | 1, _ => List.all_eq_true.mp pq_145
  | 2, _ => List.all_eq_true.mp pq_146
  | 3, _ => List.all_eq_true.mp pq_147
  | 4, _ => List.all_eq_true.mp pq_148
  | 5, _ => List.all_eq_true.mp pq_149
  | 6, _ => List.all_eq_true.mp pq_150
  | 7, _ => List.all_eq_true.mp pq_151
  | 8, _ => List.all_eq_true.mp pq_152
  | 9, _ => List.all_eq_true.mp pq_153
  | 10, _ => List.all_eq_true.mp pq_154
  | 11, _ => List.all_eq_true.mp pq_155
  | 12, _ => List.all_eq_true.mp pq_156
  | 13, _ => List.all_eq_true.mp pq_157
  | 14, _ => List.all_eq_true.mp pq_158
  | 15, _ => List.all_eq_true.mp pq_159
  | r + 16, h => absurd h (by omega)
theorem am_pkc_10 : ∀ r, r < 16 → ∀ ch ∈ ((am_cL.getD 10 []).getD r []), ch.all (fun q => am_pchk (16 * 10 + r) q.2) = true
  | 0, _ => List.all_eq_true.mp pq_160
  | 1, _ => List.all_eq_true.mp pq_161
  | 2, _ => List.all_eq_true.mp pq_162
  | 3, _ => List.all_eq_true.mp pq_163
  | 4, _ => List.all_eq_true.mp pq_164
  | 5, _ => List.all_eq_true.mp pq_165
  | 6, _ => List.all_eq_true.mp pq_166
  | 7, _ => List.all_eq_true.mp pq_167
  | 8, _ => List.all_eq_true.mp pq_168
  | 9, _ => List.all_eq_true.mp pq_169
  | 10, _ => List.all_eq_true.mp pq_170
  | 11, _ => List.all_eq_true.mp pq_171
  | 12, _ => List.all_eq_true.mp pq_172
  | 13, _ => List.all_eq_true.mp pq_173
  | 14, _ => List.all_eq_true.mp pq_174
  | 15, _ => List.all_eq_true.mp pq_175
  | r + 16, h => absurd h (by omega)
theorem am_pkc_11 : ∀ r, r < 16 → ∀ ch ∈ ((am_cL.getD 11 []).getD r []), ch.all (fun q => am_pchk (16 * 11 + r) q.2) = true
  | 0, _ => List.all_eq_true.mp pq_176
  | 1, _ => List.all_eq_true.mp pq_177
  | 2, _ => List.all_eq_true.mp pq_178
  | 3, _ => List.all_eq_true.mp pq_179
  | 4, _ => List.all_eq_true.mp pq_180
  | 5, _ => List.all_eq_true.mp pq_181
  | 6, _ => List.all_eq_true.mp pq_182
  | 7, _ => List.all_eq_true.mp pq_183
  | 8, _ => List.all_eq_true.mp pq_184
  | 9, _ => List.all_eq_true.mp pq_185
  | 10, _ => List.all_eq_true.mp pq_186
  | 11, _ => List.all_eq_true.mp pq_187
  | 12, _ => List.all_eq_true.mp pq_188
  | 13, _ => List.all_eq_true.mp pq_189
  | 14, _ => List.all_eq_true.mp pq_190
  | 15, _ => List.all_eq_true.mp pq_191
  | r + 16, h => absurd h (by omega)
theorem am_pkc_12 : ∀ r, r < 16 → ∀ ch ∈ ((am_cL.getD 12 []).getD r []), ch.all (fun q => am_pchk (16 * 12 + r) q.2) = true
  | 0, _ => List.all_eq_true.mp pq_192
  | 1, _ => List.all_eq_true.mp pq_193
  | 2, _ => List.all_eq_true.mp pq_194
  | 3, _ => List.all_eq_true.mp pq_195
  | 4, _ => List.all_eq_true.mp pq_196
  | 5, _ => List.all_eq_true.mp pq_197
  | 6, _ => List.all_eq_true.mp pq_198
  | 7, _ => List.all_eq_true.mp pq_199
  | 8, _ => List.all_eq_true.mp pq_200
  | 9, _ => List.all_eq_true.mp pq_201
  | 10, _ => List.all_eq_true.mp pq_202
  | 11, _ => List.all_eq_true.mp pq_203
  | 12, _ => List.all_eq_true.mp pq_204
  | 13, _ => List.all_eq_true.mp pq_205
  | 14, _ => List.all_eq_true.mp pq_206
  | 15, _ => List.all_eq_true.mp pq_207
  | r + 16, h => absurd h (by omega)
theorem am_pkc_13 : ∀ r, r < 4 → ∀ ch ∈ ((am_cL.getD 13 []).getD r []), ch.all (fun q => am_pchk (16 * 13 + r) q.2) = true
  | 0, _ => List.all_eq_true.mp pq_208
  | 1, _ => List.all_eq_true.mp pq_209
  | 2, _ => List.all_eq_true.mp pq_210
  | 3, _ => List.all_eq_true.mp pq_211
  | r + 4, h => absurd h (by omega)
theorem am_ckT (m : Nat) : ∀ ch ∈ am_cs m, ch.all (fun q => am_chk m q.1 q.2) = true := by
  intro ch h
  have hm : 16 * (m / 16) + m % 16 = m := by omega
  have hr : m % 16 < 16 := by omega
  unfold am_cs at h
  generalize hk : m / 16 = k at h hm
  generalize hj : m % 16 = r at h hm hr
  rw [← hm]
  match k, h with
  | 0, h => exact am_ckc_0 r hr ch h
  | 1, h => exact am_ckc_1 r hr ch h
  | 2, h => exact am_ckc_2 r hr ch h
  | 3, h => exact am_ckc_3 r hr ch h
  | 4, h => exact am_ckc_4 r hr ch h
  | 5, h => exact am_ckc_5 r hr ch h
  | 6, h => exact am_ckc_6 r hr ch h
  | 7, h => exact am_ckc_7 r hr ch h
  | 8, h => exact am_ckc_8 r hr ch h
  | 9, h => exact am_ckc_9 r hr ch h
  | 10, h => exact am_ckc_10 r hr ch h
  | 11, h => exact am_ckc_11 r hr ch h
  | 12, h => exact am_ckc_12 r hr ch h
  | 13, h =>
    by_cases hz : r < 4
    · exact am_ckc_13 r hz ch h
    · have e : (am_cL.getD 13 []).getD r [] = [] := am_gd (by show 4 ≤ r; omega)
      rw [e] at h
      exact absurd h List.not_mem_nil
  | k + 14, h =>
    have e : am_cL.getD (k + 14) [] = [] := am_gd (by show 14 ≤ k + 14; omega)
    rw [e] at h
    exact absurd h List.not_mem_nil
theorem am_pkT (m : Nat) : ∀ ch ∈ am_cs m, ch.all (fun q => am_pchk m q.2) = true := by
  intro ch h
  have hm : 16 * (m / 16) + m % 16 = m := by omega
  have hr : m % 16 < 16 := by omega
  unfold am_cs at h
  generalize hk : m / 16 = k at h hm
  generalize hj : m % 16 = r at h hm hr
  rw [← hm]
  match k, h with
  | 0, h => exact am_pkc_0 r hr ch h
  | 1, h => exact am_pkc_1 r hr ch h
  | 2, h => exact am_pkc_2 r hr ch h
  | 3, h => exact am_pkc_3 r hr ch h
  | 4, h => exact am_pkc_4 r hr ch h
  | 5, h => exact am_pkc_5 r hr ch h
  | 6, h => exact am_pkc_6 r hr ch h
  | 7, h => exact am_pkc_7 r hr ch h
  | 8, h => exact am_pkc_8 r hr ch h
  | 9, h => exact am_pkc_9 r hr ch h
  | 10, h => exact am_pkc_10 r hr ch h
  | 11, h => exact am_pkc_11 r hr ch h
  | 12, h => exact am_pkc_12 r hr ch h
  | 13, h =>
    by_cases hz : r < 4
    · exact am_pkc_13 r hz ch h
    · have e : (am_cL.getD 13 []).getD r [] = [] := am_gd (by show 4 ≤ r; omega)
      rw [e] at h
      exact absurd h List.not_mem_nil
  | k + 14, h =>
    have e : am_cL.getD (k + 14) [] = [] := am_gd (by show 14 ≤ k + 14; omega)
    rw [e] at h
    exact absurd h List.not_mem_nil
theorem am_lk_mem {l : List (Nat × am_E)} {k : Nat} {e : am_E} (h : am_lk l k = some e) : (k, e) ∈ l := by
  induction l with
  | nil => cases h
  | cons x l ih =>
    obtain ⟨p, e'⟩ := x
    unfold am_lk at h
    split at h
    · rename_i hp
      cases h
      rw [hp]
      exact List.mem_cons_self
    · exact List.mem_cons_of_mem _ (ih h)
theorem am_CT_mem {m pc : Nat} {E : am_E} (h : am_CT m pc = some E) : ∃ ch ∈ am_cs m, (pc, E) ∈ ch := by
  have h1 := am_lk_mem h
  by_cases hl : pc / 64 < (am_cs m).length
  · refine ⟨(am_cs m).getD (pc / 64) [], ?_, h1⟩
    rw [List.getD_eq_getElem?_getD, List.getElem?_eq_getElem hl]
    exact List.getElem_mem hl
  · have e : (am_cs m).getD (pc / 64) [] = [] := am_gd (by omega)
    have h2 : (pc, E) ∈ (am_cs m).getD (pc / 64) [] := h1
    rw [e] at h2
    exact absurd h2 List.not_mem_nil
theorem am_ckA {m pc : Nat} {E : am_E} (h : am_CT m pc = some E) : am_chk m pc E = true := by
  obtain ⟨ch, h1, h2⟩ := am_CT_mem h
  exact List.all_eq_true.mp (am_ckT m ch h1) _ h2
theorem am_plT : ∀ k, ∀ q ∈ am_plL.getD k [], am_okP (am_on k) q
  | 0 => am_plok0
  | 1 => am_plok1
  | 2 => am_plok2
  | 3 => am_plok3
  | 4 => am_plok4
  | 5 => am_plok5
  | 6 => am_plok6
  | 7 => am_plok7
  | 8 => am_plok8
  | 9 => am_plok9
  | 10 => am_plok10
  | 11 => am_plok11
  | 12 => am_plok12
  | 13 => am_plok13
  | 14 => am_plok14
  | 15 => am_plok15
  | 16 => am_plok16
  | 17 => am_plok17
  | k + 18 => fun q h => by
    have e : am_plL.getD (k + 18) [] = [] := am_gd (by show 18 ≤ k + 18; omega)
    rw [e] at h
    exact absurd h List.not_mem_nil
theorem am_plA {m pc : Nat} {op : Instr} {n a b c : Nat} (h : am_CT m pc = some (op, n, a, b, c)) (hp : am_isP op b = true) : am_okP (am_on (am_O m)) (op, a, b, c) := by
  obtain ⟨ch, h1, h2⟩ := am_CT_mem h
  have h3 := List.all_eq_true.mp (am_pkT m ch h1) _ h2
  simp only [am_pchk, hp, Bool.not_true, Bool.false_or] at h3
  exact am_plT _ _ (am_has_mem h3)
theorem am_cdc_0 : ∀ r, r < 16 → Cond.code (am_N (16 * 0 + r)) (am_B (16 * 0 + r)) (am_ML (16 * 0 + r)) (am_Rt (16 * 0 + r)) ∈ am_T0 ∧ Cond.initialized (am_N (16 * 0 + r)).cls ∈ am_T0 ∧ am_on (am_O (16 * 0 + r)) = (am_N (16 * 0 + r)).cls
  | 0, _ => ⟨cd_0, kw_6, rfl⟩
  | 1, _ => ⟨cd_1, kw_6, rfl⟩
  | 2, _ => ⟨cd_2, kw_6, rfl⟩
  | 3, _ => ⟨cd_3, kw_6, rfl⟩
  | 4, _ => ⟨cd_4, kw_6, rfl⟩
  | 5, _ => ⟨cd_5, kw_6, rfl⟩
  | 6, _ => ⟨cd_6, kw_6, rfl⟩
  | 7, _ => ⟨cd_7, kw_6, rfl⟩
  | 8, _ => ⟨cd_8, kw_6, rfl⟩
  | 9, _ => ⟨cd_9, kw_6, rfl⟩
  | 10, _ => ⟨cd_10, kw_7, rfl⟩
  | 11, _ => ⟨cd_11, kw_7, rfl⟩
  | 12, _ => ⟨cd_12, kw_7, rfl⟩
  | 13, _ => ⟨cd_13, kw_8, rfl⟩
  | 14, _ => ⟨cd_14, kw_8, rfl⟩
  | 15, _ => ⟨cd_15, kw_8, rfl⟩
  | r + 16, h => absurd h (by omega)
theorem am_cdc_1 : ∀ r, r < 16 → Cond.code (am_N (16 * 1 + r)) (am_B (16 * 1 + r)) (am_ML (16 * 1 + r)) (am_Rt (16 * 1 + r)) ∈ am_T0 ∧ Cond.initialized (am_N (16 * 1 + r)).cls ∈ am_T0 ∧ am_on (am_O (16 * 1 + r)) = (am_N (16 * 1 + r)).cls
  | 0, _ => ⟨cd_16, kw_3, rfl⟩
  | 1, _ => ⟨cd_17, kw_3, rfl⟩
  | 2, _ => ⟨cd_18, kw_3, rfl⟩
  | 3, _ => ⟨cd_19, kw_3, rfl⟩
  | 4, _ => ⟨cd_20, kw_3, rfl⟩
  | 5, _ => ⟨cd_21, kw_3, rfl⟩
  | 6, _ => ⟨cd_22, kw_10, rfl⟩
  | 7, _ => ⟨cd_23, kw_10, rfl⟩
  | 8, _ => ⟨cd_24, kw_10, rfl⟩
  | 9, _ => ⟨cd_25, kw_10, rfl⟩
  | 10, _ => ⟨cd_26, kw_10, rfl⟩
  | 11, _ => ⟨cd_27, kw_9, rfl⟩
  | 12, _ => ⟨cd_28, kw_9, rfl⟩
  | 13, _ => ⟨cd_29, kw_9, rfl⟩
  | 14, _ => ⟨cd_30, kw_13, rfl⟩
  | 15, _ => ⟨cd_31, kw_13, rfl⟩
  | r + 16, h => absurd h (by omega)
theorem am_cdc_2 : ∀ r, r < 16 → Cond.code (am_N (16 * 2 + r)) (am_B (16 * 2 + r)) (am_ML (16 * 2 + r)) (am_Rt (16 * 2 + r)) ∈ am_T0 ∧ Cond.initialized (am_N (16 * 2 + r)).cls ∈ am_T0 ∧ am_on (am_O (16 * 2 + r)) = (am_N (16 * 2 + r)).cls
  | 0, _ => ⟨cd_32, kw_13, rfl⟩
  | 1, _ => ⟨cd_33, kw_13, rfl⟩
  | 2, _ => ⟨cd_34, kw_13, rfl⟩
  | 3, _ => ⟨cd_35, kw_13, rfl⟩
  | 4, _ => ⟨cd_36, kw_2, rfl⟩
  | 5, _ => ⟨cd_37, kw_2, rfl⟩
  | 6, _ => ⟨cd_38, kw_2, rfl⟩
  | 7, _ => ⟨cd_39, kw_2, rfl⟩
  | 8, _ => ⟨cd_40, kw_2, rfl⟩
  | 9, _ => ⟨cd_41, kw_2, rfl⟩
  | 10, _ => ⟨cd_42, kw_4, rfl⟩
  | 11, _ => ⟨cd_43, kw_4, rfl⟩
  | 12, _ => ⟨cd_44, kw_4, rfl⟩
  | 13, _ => ⟨cd_45, kw_4, rfl⟩
  | 14, _ => ⟨cd_46, kw_4, rfl⟩
  | 15, _ => ⟨cd_47, kw_4, rfl⟩
  | r + 16, h => absurd h (by omega)
theorem am_cdc_3 : ∀ r, r < 16 → Cond.code (am_N (16 * 3 + r)) (am_B (16 * 3 + r)) (am_ML (16 * 3 + r)) (am_Rt (16 * 3 + r)) ∈ am_T0 ∧ Cond.initialized (am_N (16 * 3 + r)).cls ∈ am_T0 ∧ am_on (am_O (16 * 3 + r)) = (am_N (16 * 3 + r)).cls
  | 0, _ => ⟨cd_48, kw_4, rfl⟩
  | 1, _ => ⟨cd_49, kw_4, rfl⟩
  | 2, _ => ⟨cd_50, kw_4, rfl⟩
  | 3, _ => ⟨cd_51, kw_4, rfl⟩
  | 4, _ => ⟨cd_52, kw_4, rfl⟩
  | 5, _ => ⟨cd_53, kw_4, rfl⟩
  | 6, _ => ⟨cd_54, kw_4, rfl⟩
  | 7, _ => ⟨cd_55, kw_4, rfl⟩
  | 8, _ => ⟨cd_56, kw_4, rfl⟩
  | 9, _ => ⟨cd_57, kw_12, rfl⟩
  | 10, _ => ⟨cd_58, kw_12, rfl⟩
  | 11, _ => ⟨cd_59, kw_12, rfl⟩
  | 12, _ => ⟨cd_60, kw_12, rfl⟩
  | 13, _ => ⟨cd_61, kw_12, rfl⟩
  | 14, _ => ⟨cd_62, kw_12, rfl⟩
  | 15, _ => ⟨cd_63, kw_11, rfl⟩
  | r + 16, h => absurd h (by omega)
theorem am_cdc_4 : ∀ r, r < 16 → Cond.code (am_N (16 * 4 + r)) (am_B (16 * 4 + r)) (am_ML (16 * 4 + r)) (am_Rt (16 * 4 + r)) ∈ am_T0 ∧ Cond.initialized (am_N (16 * 4 + r)).cls ∈ am_T0 ∧ am_on (am_O (16 * 4 + r)) = (am_N (16 * 4 + r)).cls
  | 0, _ => ⟨cd_64, kw_11, rfl⟩
  | 1, _ => ⟨cd_65, kw_11, rfl⟩
  | 2, _ => ⟨cd_66, kw_1, rfl⟩
  | 3, _ => ⟨cd_67, kw_1, rfl⟩
  | 4, _ => ⟨cd_68, kw_1, rfl⟩
  | 5, _ => ⟨cd_69, kw_1, rfl⟩
  | 6, _ => ⟨cd_70, kw_1, rfl⟩
  | 7, _ => ⟨cd_71, kw_1, rfl⟩
  | 8, _ => ⟨cd_72, kw_1, rfl⟩
  | 9, _ => ⟨cd_73, kw_1, rfl⟩
  | 10, _ => ⟨cd_74, kw_1, rfl⟩
  | 11, _ => ⟨cd_75, kw_1, rfl⟩
  | 12, _ => ⟨cd_76, kw_1, rfl⟩
  | 13, _ => ⟨cd_77, kw_1, rfl⟩
  | 14, _ => ⟨cd_78, kw_1, rfl⟩
  | 15, _ => ⟨cd_79, kw_1, rfl⟩
  | r + 16, h => absurd h (by omega)
theorem am_cdc_5 : ∀ r, r < 16 → Cond.code (am_N (16 * 5 + r)) (am_B (16 * 5 + r)) (am_ML (16 * 5 + r)) (am_Rt (16 * 5 + r)) ∈ am_T0 ∧ Cond.initialized (am_N (16 * 5 + r)).cls ∈ am_T0 ∧ am_on (am_O (16 * 5 + r)) = (am_N (16 * 5 + r)).cls
  | 0, _ => ⟨cd_80, kw_1, rfl⟩
  | 1, _ => ⟨cd_81, kw_1, rfl⟩
  | 2, _ => ⟨cd_82, kw_1, rfl⟩
  | 3, _ => ⟨cd_83, kw_1, rfl⟩
  | 4, _ => ⟨cd_84, kw_1, rfl⟩
  | 5, _ => ⟨cd_85, kw_1, rfl⟩
  | 6, _ => ⟨cd_86, kw_1, rfl⟩
  | 7, _ => ⟨cd_87, kw_1, rfl⟩
  | 8, _ => ⟨cd_88, kw_1, rfl⟩
  | 9, _ => ⟨cd_89, kw_1, rfl⟩
  | 10, _ => ⟨cd_90, kw_1, rfl⟩
  | 11, _ => ⟨cd_91, kw_1, rfl⟩
  | 12, _ => ⟨cd_92, kw_1, rfl⟩
  | 13, _ => ⟨cd_93, kw_1, rfl⟩
  | 14, _ => ⟨cd_94, kw_1, rfl⟩
  | 15, _ => ⟨cd_95, kw_1, rfl⟩
  | r + 16, h => absurd h (by omega)
theorem am_cdc_6 : ∀ r, r < 16 → Cond.code (am_N (16 * 6 + r)) (am_B (16 * 6 + r)) (am_ML (16 * 6 + r)) (am_Rt (16 * 6 + r)) ∈ am_T0 ∧ Cond.initialized (am_N (16 * 6 + r)).cls ∈ am_T0 ∧ am_on (am_O (16 * 6 + r)) = (am_N (16 * 6 + r)).cls
  | 0, _ => ⟨cd_96, kw_1, rfl⟩
  | 1, _ => ⟨cd_97, kw_1, rfl⟩
  | 2, _ => ⟨cd_98, kw_1, rfl⟩
  | 3, _ => ⟨cd_99, kw_1, rfl⟩
  | 4, _ => ⟨cd_100, kw_1, rfl⟩
  | 5, _ => ⟨cd_101, kw_1, rfl⟩
  | 6, _ => ⟨cd_102, kw_1, rfl⟩
  | 7, _ => ⟨cd_103, kw_1, rfl⟩
  | 8, _ => ⟨cd_104, kw_1, rfl⟩
  | 9, _ => ⟨cd_105, kw_1, rfl⟩
  | 10, _ => ⟨cd_106, kw_1, rfl⟩
  | 11, _ => ⟨cd_107, kw_1, rfl⟩
  | 12, _ => ⟨cd_108, kw_1, rfl⟩
  | 13, _ => ⟨cd_109, kw_1, rfl⟩
  | 14, _ => ⟨cd_110, kw_1, rfl⟩
  | 15, _ => ⟨cd_111, kw_1, rfl⟩
  | r + 16, h => absurd h (by omega)
theorem am_cdc_7 : ∀ r, r < 16 → Cond.code (am_N (16 * 7 + r)) (am_B (16 * 7 + r)) (am_ML (16 * 7 + r)) (am_Rt (16 * 7 + r)) ∈ am_T0 ∧ Cond.initialized (am_N (16 * 7 + r)).cls ∈ am_T0 ∧ am_on (am_O (16 * 7 + r)) = (am_N (16 * 7 + r)).cls
  | 0, _ => ⟨cd_112, kw_1, rfl⟩
  | 1, _ => ⟨cd_113, kw_1, rfl⟩
  | 2, _ => ⟨cd_114, kw_1, rfl⟩
  | 3, _ => ⟨cd_115, kw_1, rfl⟩
  | 4, _ => ⟨cd_116, kw_1, rfl⟩
  | 5, _ => ⟨cd_117, kw_1, rfl⟩
  | 6, _ => ⟨cd_118, kw_5, rfl⟩
  | 7, _ => ⟨cd_119, kw_5, rfl⟩
  | 8, _ => ⟨cd_120, kw_5, rfl⟩
  | 9, _ => ⟨cd_121, kw_5, rfl⟩
  | 10, _ => ⟨cd_122, kw_5, rfl⟩
  | 11, _ => ⟨cd_123, kw_5, rfl⟩
  | 12, _ => ⟨cd_124, kw_5, rfl⟩
  | 13, _ => ⟨cd_125, kw_5, rfl⟩
  | 14, _ => ⟨cd_126, kw_5, rfl⟩
  | 15, _ => ⟨cd_127, kw_5, rfl⟩
  | r + 16, h => absurd h (by omega)
theorem am_cdc_8 : ∀ r, r < 16 → Cond.code (am_N (16 * 8 + r)) (am_B (16 * 8 + r)) (am_ML (16 * 8 + r)) (am_Rt (16 * 8 + r)) ∈ am_T0 ∧ Cond.initialized (am_N (16 * 8 + r)).cls ∈ am_T0 ∧ am_on (am_O (16 * 8 + r)) = (am_N (16 * 8 + r)).cls
  | 0, _ => ⟨cd_128, kw_5, rfl⟩
  | 1, _ => ⟨cd_129, kw_5, rfl⟩
  | 2, _ => ⟨cd_130, kw_5, rfl⟩
  | 3, _ => ⟨cd_131, kw_5, rfl⟩
  | 4, _ => ⟨cd_132, kw_5, rfl⟩
  | 5, _ => ⟨cd_133, kw_5, rfl⟩
  | 6, _ => ⟨cd_134, kw_5, rfl⟩
  | 7, _ => ⟨cd_135, kw_5, rfl⟩
  | 8, _ => ⟨cd_136, kw_5, rfl⟩
  | 9, _ => ⟨cd_137, kw_5, rfl⟩
  | 10, _ => ⟨cd_138, kw_5, rfl⟩
  | 11, _ => ⟨cd_139, kw_5, rfl⟩
  | 12, _ => ⟨cd_140, kw_5, rfl⟩
  | 13, _ => ⟨cd_141, kw_5, rfl⟩
  | 14, _ => ⟨cd_142, kw_5, rfl⟩
  | 15, _ => ⟨cd_143, kw_5, rfl⟩
  | r + 16, h => absurd h (by omega)
theorem am_cdc_9 : ∀ r, r < 16 → Cond.code (am_N (16 * 9 + r)) (am_B (16 * 9 + r)) (am_ML (16 * 9 + r)) (am_Rt (16 * 9 + r)) ∈ am_T0 ∧ Cond.initialized (am_N (16 * 9 + r)).cls ∈ am_T0 ∧ am_on (am_O (16 * 9 + r)) = (am_N (16 * 9 + r)).cls
  | 0, _ => ⟨cd_144, kw_5, rfl⟩
  | 1, _ => ⟨cd_145, kw_5, rfl⟩
  | 2, _ => ⟨cd_146, kw_5, rfl⟩
  | 3, _ => ⟨cd_147, kw_5, rfl⟩
  | 4, _ => ⟨cd_148, kw_5, rfl⟩
  | 5, _ => ⟨cd_149, kw_5, rfl⟩
  | 6, _ => ⟨cd_150, kw_5, rfl⟩
  | 7, _ => ⟨cd_151, kw_5, rfl⟩
  | 8, _ => ⟨cd_152, kw_5, rfl⟩
  | 9, _ => ⟨cd_153, kw_5, rfl⟩
  | 10, _ => ⟨cd_154, kw_5, rfl⟩
  | 11, _ => ⟨cd_155, kw_5, rfl⟩
  | 12, _ => ⟨cd_156, kw_5, rfl⟩
  | 13, _ => ⟨cd_157, kw_5, rfl⟩
  | 14, _ => ⟨cd_158, kw_5, rfl⟩
  | 15, _ => ⟨cd_159, kw_5, rfl⟩
  | r + 16, h => absurd h (by omega)
theorem am_cdc_10 : ∀ r, r < 16 → Cond.code (am_N (16 * 10 + r)) (am_B (16 * 10 + r)) (am_ML (16 * 10 + r)) (am_Rt (16 * 10 + r)) ∈ am_T0 ∧ Cond.initialized (am_N (16 * 10 + r)).cls ∈ am_T0 ∧ am_on (am_O (16 * 10 + r)) = (am_N (16 * 10 + r)).cls
  | 0, _ => ⟨cd_160, kw_5, rfl⟩
  | 1, _ => ⟨cd_161, kw_5, rfl⟩
  | 2, _ => ⟨cd_162, kw_5, rfl⟩
  | 3, _ => ⟨cd_163, kw_5, rfl⟩
  | 4, _ => ⟨cd_164, kw_5, rfl⟩
  | 5, _ => ⟨cd_165, kw_5, rfl⟩
  | 6, _ => ⟨cd_166, kw_5, rfl⟩
  | 7, _ => ⟨cd_167, kw_5, rfl⟩
  | 8, _ => ⟨cd_168, kw_5, rfl⟩
  | 9, _ => ⟨cd_169, kw_5, rfl⟩
  | 10, _ => ⟨cd_170, kw_5, rfl⟩
  | 11, _ => ⟨cd_171, kw_5, rfl⟩
  | 12, _ => ⟨cd_172, kw_5, rfl⟩
  | 13, _ => ⟨cd_173, kw_5, rfl⟩
  | 14, _ => ⟨cd_174, kw_5, rfl⟩
  | 15, _ => ⟨cd_175, kw_5, rfl⟩
  | r + 16, h => absurd h (by omega)
theorem am_cdc_11 : ∀ r, r < 16 → Cond.code (am_N (16 * 11 + r)) (am_B (16 * 11 + r)) (am_ML (16 * 11 + r)) (am_Rt (16 * 11 + r)) ∈ am_T0 ∧ Cond.initialized (am_N (16 * 11 + r)).cls ∈ am_T0 ∧ am_on (am_O (16 * 11 + r)) = (am_N (16 * 11 + r)).cls
  | 0, _ => ⟨cd_176, kw_5, rfl⟩
  | 1, _ => ⟨cd_177, kw_5, rfl⟩
  | 2, _ => ⟨cd_178, kw_5, rfl⟩
  | 3, _ => ⟨cd_179, kw_5, rfl⟩
  | 4, _ => ⟨cd_180, kw_5, rfl⟩
  | 5, _ => ⟨cd_181, kw_5, rfl⟩
  | 6, _ => ⟨cd_182, kw_5, rfl⟩
  | 7, _ => ⟨cd_183, kw_5, rfl⟩
  | 8, _ => ⟨cd_184, kw_5, rfl⟩
  | 9, _ => ⟨cd_185, kw_5, rfl⟩
  | 10, _ => ⟨cd_186, kw_5, rfl⟩
  | 11, _ => ⟨cd_187, kw_5, rfl⟩
  | 12, _ => ⟨cd_188, kw_5, rfl⟩
  | 13, _ => ⟨cd_189, kw_5, rfl⟩
  | 14, _ => ⟨cd_190, kw_5, rfl⟩
  | 15, _ => ⟨cd_191, kw_5, rfl⟩
  | r + 16, h => absurd h (by omega)
theorem am_cdc_12 : ∀ r, r < 16 → Cond.code (am_N (16 * 12 + r)) (am_B (16 * 12 + r)) (am_ML (16 * 12 + r)) (am_Rt (16 * 12 + r)) ∈ am_T0 ∧ Cond.initialized (am_N (16 * 12 + r)).cls ∈ am_T0 ∧ am_on (am_O (16 * 12 + r)) = (am_N (16 * 12 + r)).cls
  | 0, _ => ⟨cd_192, kw_5, rfl⟩
  | 1, _ => ⟨cd_193, kw_5, rfl⟩
  | 2, _ => ⟨cd_194, kw_5, rfl⟩
  | 3, _ => ⟨cd_195, kw_5, rfl⟩
  | 4, _ => ⟨cd_196, kw_5, rfl⟩
  | 5, _ => ⟨cd_197, kw_5, rfl⟩
  | 6, _ => ⟨cd_198, kw_5, rfl⟩
  | 7, _ => ⟨cd_199, kw_5, rfl⟩
  | 8, _ => ⟨cd_200, kw_18, rfl⟩
  | 9, _ => ⟨cd_201, kw_18, rfl⟩
  | 10, _ => ⟨cd_202, kw_18, rfl⟩
  | 11, _ => ⟨cd_203, kw_18, rfl⟩
  | 12, _ => ⟨cd_204, kw_14, rfl⟩
  | 13, _ => ⟨cd_205, kw_14, rfl⟩
  | 14, _ => ⟨cd_206, kw_14, rfl⟩
  | 15, _ => ⟨cd_207, kw_14, rfl⟩
  | r + 16, h => absurd h (by omega)
theorem am_cdc_13 : ∀ r, r < 3 → Cond.code (am_N (16 * 13 + r)) (am_B (16 * 13 + r)) (am_ML (16 * 13 + r)) (am_Rt (16 * 13 + r)) ∈ am_T0 ∧ Cond.initialized (am_N (16 * 13 + r)).cls ∈ am_T0 ∧ am_on (am_O (16 * 13 + r)) = (am_N (16 * 13 + r)).cls
  | 0, _ => ⟨cd_208, kw_15, rfl⟩
  | 1, _ => ⟨cd_209, kw_14, rfl⟩
  | 2, _ => ⟨cd_210, kw_16, rfl⟩
  | r + 3, h => absurd h (by omega)
theorem am_cdA {m : Nat} (hm0 : m < 211) : Cond.code (am_N m) (am_B m) (am_ML m) (am_Rt m) ∈ am_T0 ∧ Cond.initialized (am_N m).cls ∈ am_T0 ∧ am_on (am_O m) = (am_N m).cls := by
  have hm : 16 * (m / 16) + m % 16 = m := by omega
  have hr : m % 16 < 16 := by omega
  have hk0 : m / 16 < 14 := by omega
  generalize hk : m / 16 = k at hm hk0
  generalize hj : m % 16 = r at hm hr
  rw [← hm]
  match k, hk0 with
  | 0, _ => exact am_cdc_0 r hr
  | 1, _ => exact am_cdc_1 r hr
  | 2, _ => exact am_cdc_2 r hr
  | 3, _ => exact am_cdc_3 r hr
  | 4, _ => exact am_cdc_4 r hr
  | 5, _ => exact am_cdc_5 r hr
  | 6, _ => exact am_cdc_6 r hr
  | 7, _ => exact am_cdc_7 r hr
  | 8, _ => exact am_cdc_8 r hr
  | 9, _ => exact am_cdc_9 r hr
  | 10, _ => exact am_cdc_10 r hr
  | 11, _ => exact am_cdc_11 r hr
  | 12, _ => exact am_cdc_12 r hr
  | 13, _ => exact am_cdc_13 r (by omega)
  | k + 14, h => exact absurd h (by omega)
theorem am_plain : ∀ x ∈ am_nL, plainFor x = true ∧ (x.cls ≠ "java/lang/invoke/MethodHandle" ∧ x.cls ≠ "java/lang/invoke/VarHandle") := by decide +kernel
theorem am_nIn {k : Nat} (h : k < 212) : am_N k ∈ am_nL := by
  unfold am_N
  rw [List.getD_eq_getElem?_getD, List.getElem?_eq_getElem (by exact h)]
  exact List.getElem_mem _
theorem am_MLle : ∀ x ∈ am_mlL, x ≤ 21 := by decide +kernel
theorem am_ML21 (m : Nat) : am_ML m ≤ 21 := by
  unfold am_ML
  rw [List.getD_eq_getElem?_getD]
  cases h : am_mlL[m]? with
  | none => simp
  | some x => exact am_MLle x (List.mem_of_getElem? h)
theorem am_uw0 : ∀ w ∈ u_ws (am_cn 0) (am_T 0) (am_nf 0), w ∈ am_T0 := by
  intro w h
  obtain ⟨k, hk, rfl⟩ := List.mem_map.mp h
  have hk := List.mem_range.mp hk
  match k, hk with
  | 0, _ => exact kw_358
  | 1, _ => exact kw_359
  | 2, _ => exact kw_360
  | 3, _ => exact kw_361
  | 4, _ => exact kw_362
  | 5, _ => exact kw_363
  | k + 6, hk => exact absurd (show k + 6 < 6 from hk) (by omega)
theorem am_uw1 : ∀ w ∈ u_ws (am_cn 1) (am_T 1) (am_nf 1), w ∈ am_T0 := by
  intro w h
  obtain ⟨k, hk, rfl⟩ := List.mem_map.mp h
  have hk := List.mem_range.mp hk
  match k, hk with
  | 0, _ => exact kw_273
  | 1, _ => exact kw_275
  | 2, _ => exact kw_277
  | 3, _ => exact kw_279
  | 4, _ => exact kw_281
  | 5, _ => exact kw_283
  | k + 6, hk => exact absurd (show k + 6 < 6 from hk) (by omega)
theorem am_uw2 : ∀ w ∈ u_ws (am_cn 2) (am_T 2) (am_nf 2), w ∈ am_T0 := by
  intro w h
  obtain ⟨k, hk, rfl⟩ := List.mem_map.mp h
  have hk := List.mem_range.mp hk
  match k, hk with
  | 0, _ => exact kw_292
  | 1, _ => exact kw_293
  | 2, _ => exact kw_294
  | 3, _ => exact kw_295
  | 4, _ => exact kw_296
  | 5, _ => exact kw_297
  | k + 6, hk => exact absurd (show k + 6 < 6 from hk) (by omega)
theorem am_uw3 : ∀ w ∈ u_ws (am_cn 3) (am_T 3) (am_nf 3), w ∈ am_T0 := by
  intro w h
  obtain ⟨k, hk, rfl⟩ := List.mem_map.mp h
  have hk := List.mem_range.mp hk
  match k, hk with
  | 0, _ => exact kw_137
  | 1, _ => exact kw_139
  | 2, _ => exact kw_141
  | 3, _ => exact kw_143
  | 4, _ => exact kw_145
  | 5, _ => exact kw_147
  | 6, _ => exact kw_149
  | 7, _ => exact kw_151
  | 8, _ => exact kw_153
  | 9, _ => exact kw_155
  | 10, _ => exact kw_157
  | 11, _ => exact kw_159
  | 12, _ => exact kw_161
  | 13, _ => exact kw_163
  | 14, _ => exact kw_165
  | k + 15, hk => exact absurd (show k + 15 < 15 from hk) (by omega)
theorem am_uw4 : ∀ w ∈ u_ws (am_cn 4) (am_T 4) (am_nf 4), w ∈ am_T0 := by
  intro w h
  obtain ⟨k, hk, rfl⟩ := List.mem_map.mp h
  have hk := List.mem_range.mp hk
  match k, hk with
  | 0, _ => exact kw_318
  | 1, _ => exact kw_319
  | 2, _ => exact kw_320
  | 3, _ => exact kw_321
  | 4, _ => exact kw_322
  | 5, _ => exact kw_323
  | k + 6, hk => exact absurd (show k + 6 < 6 from hk) (by omega)
theorem am_uw5 : ∀ w ∈ u_ws (am_cn 5) (am_T 5) (am_nf 5), w ∈ am_T0 := by
  intro w h
  obtain ⟨k, hk, rfl⟩ := List.mem_map.mp h
  have hk := List.mem_range.mp hk
  match k, hk with
  | 0, _ => exact kw_305
  | 1, _ => exact kw_306
  | 2, _ => exact kw_307
  | 3, _ => exact kw_308
  | 4, _ => exact kw_309
  | 5, _ => exact kw_310
  | k + 6, hk => exact absurd (show k + 6 < 6 from hk) (by omega)
theorem am_uw6 : ∀ w ∈ u_ws (am_cn 6) (am_T 6) (am_nf 6), w ∈ am_T0 := by
  intro w h
  obtain ⟨k, hk, rfl⟩ := List.mem_map.mp h
  have hk := List.mem_range.mp hk
  match k, hk with
  | 0, _ => exact kw_415
  | 1, _ => exact kw_417
  | 2, _ => exact kw_419
  | 3, _ => exact kw_421
  | 4, _ => exact kw_423
  | 5, _ => exact kw_425
  | 6, _ => exact kw_427
  | 7, _ => exact kw_429
  | k + 8, hk => exact absurd (show k + 8 < 8 from hk) (by omega)
theorem am_uw7 : ∀ w ∈ u_ws (am_cn 7) (am_T 7) (am_nf 7), w ∈ am_T0 := by
  intro w h
  obtain ⟨k, hk, rfl⟩ := List.mem_map.mp h
  have hk := List.mem_range.mp hk
  match k, hk with
  | 0, _ => exact kw_63
  | 1, _ => exact kw_65
  | 2, _ => exact kw_67
  | 3, _ => exact kw_69
  | 4, _ => exact kw_71
  | 5, _ => exact kw_73
  | 6, _ => exact kw_75
  | 7, _ => exact kw_77
  | 8, _ => exact kw_79
  | 9, _ => exact kw_81
  | 10, _ => exact kw_83
  | 11, _ => exact kw_85
  | 12, _ => exact kw_87
  | k + 13, hk => exact absurd (show k + 13 < 13 from hk) (by omega)
theorem am_uw8 : ∀ w ∈ u_ws (am_cn 8) (am_T 8) (am_nf 8), w ∈ am_T0 := by
  intro w h
  obtain ⟨k, hk, rfl⟩ := List.mem_map.mp h
  have hk := List.mem_range.mp hk
  match k, hk with
  | 0, _ => exact kw_179
  | 1, _ => exact kw_181
  | 2, _ => exact kw_183
  | k + 3, hk => exact absurd (show k + 3 < 3 from hk) (by omega)
theorem am_uw9 : ∀ w ∈ u_ws (am_cn 9) (am_T 9) (am_nf 9), w ∈ am_T0 := by
  intro w h
  obtain ⟨k, hk, rfl⟩ := List.mem_map.mp h
  have hk := List.mem_range.mp hk
  match k, hk with
  | 0, _ => exact kw_348
  | 1, _ => exact kw_349
  | 2, _ => exact kw_350
  | 3, _ => exact kw_351
  | 4, _ => exact kw_352
  | 5, _ => exact kw_353
  | 6, _ => exact kw_346
  | k + 7, hk => exact absurd (show k + 7 < 7 from hk) (by omega)
theorem am_uw10 : ∀ w ∈ u_ws (am_cn 10) (am_T 10) (am_nf 10), w ∈ am_T0 := by
  intro w h
  obtain ⟨k, hk, rfl⟩ := List.mem_map.mp h
  have hk := List.mem_range.mp hk
  match k, hk with
  | 0, _ => exact kw_331
  | 1, _ => exact kw_332
  | 2, _ => exact kw_333
  | 3, _ => exact kw_334
  | 4, _ => exact kw_335
  | 5, _ => exact kw_336
  | k + 6, hk => exact absurd (show k + 6 < 6 from hk) (by omega)
theorem am_uw11 : ∀ w ∈ u_ws (am_cn 11) (am_T 11) (am_nf 11), w ∈ am_T0 := by
  intro w h
  obtain ⟨k, hk, rfl⟩ := List.mem_map.mp h
  have hk := List.mem_range.mp hk
  match k, hk with
  | 0, _ => exact kw_205
  | 1, _ => exact kw_207
  | 2, _ => exact kw_209
  | 3, _ => exact kw_211
  | 4, _ => exact kw_213
  | 5, _ => exact kw_215
  | 6, _ => exact kw_217
  | 7, _ => exact kw_219
  | 8, _ => exact kw_221
  | 9, _ => exact kw_223
  | 10, _ => exact kw_225
  | 11, _ => exact kw_227
  | 12, _ => exact kw_229
  | 13, _ => exact kw_231
  | k + 14, hk => exact absurd (show k + 14 < 14 from hk) (by omega)
theorem am_uw12 : ∀ w ∈ u_ws (am_cn 12) (am_T 12) (am_nf 12), w ∈ am_T0 := by
  intro w h
  obtain ⟨k, hk, rfl⟩ := List.mem_map.mp h
  have hk := List.mem_range.mp hk
  match k, hk with
  | 0, _ => exact kw_1018
  | 1, _ => exact kw_1020
  | 2, _ => exact kw_1022
  | 3, _ => exact kw_1024
  | 4, _ => exact kw_1026
  | 5, _ => exact kw_1028
  | 6, _ => exact kw_1030
  | 7, _ => exact kw_1032
  | 8, _ => exact kw_1034
  | 9, _ => exact kw_1036
  | 10, _ => exact kw_1038
  | 11, _ => exact kw_1040
  | 12, _ => exact kw_1042
  | 13, _ => exact kw_1044
  | 14, _ => exact kw_1046
  | 15, _ => exact kw_1048
  | 16, _ => exact kw_1050
  | 17, _ => exact kw_1052
  | 18, _ => exact kw_1054
  | 19, _ => exact kw_1056
  | 20, _ => exact kw_1058
  | 21, _ => exact kw_1060
  | 22, _ => exact kw_1062
  | 23, _ => exact kw_1064
  | 24, _ => exact kw_1066
  | 25, _ => exact kw_1068
  | 26, _ => exact kw_1070
  | 27, _ => exact kw_1072
  | 28, _ => exact kw_1074
  | 29, _ => exact kw_1076
  | 30, _ => exact kw_1078
  | 31, _ => exact kw_1080
  | 32, _ => exact kw_1082
  | 33, _ => exact kw_1084
  | 34, _ => exact kw_1086
  | 35, _ => exact kw_1088
  | 36, _ => exact kw_1090
  | 37, _ => exact kw_1092
  | 38, _ => exact kw_1094
  | 39, _ => exact kw_1096
  | 40, _ => exact kw_1098
  | 41, _ => exact kw_1100
  | 42, _ => exact kw_1102
  | 43, _ => exact kw_1104
  | 44, _ => exact kw_1106
  | 45, _ => exact kw_1108
  | 46, _ => exact kw_1110
  | 47, _ => exact kw_1112
  | 48, _ => exact kw_1114
  | 49, _ => exact kw_1116
  | 50, _ => exact kw_1118
  | 51, _ => exact kw_1120
  | 52, _ => exact kw_1122
  | 53, _ => exact kw_1124
  | 54, _ => exact kw_1126
  | 55, _ => exact kw_1128
  | 56, _ => exact kw_1130
  | 57, _ => exact kw_1132
  | 58, _ => exact kw_1134
  | 59, _ => exact kw_1136
  | 60, _ => exact kw_1138
  | 61, _ => exact kw_1140
  | 62, _ => exact kw_1142
  | 63, _ => exact kw_1144
  | 64, _ => exact kw_1146
  | 65, _ => exact kw_1148
  | 66, _ => exact kw_1150
  | 67, _ => exact kw_1152
  | 68, _ => exact kw_1154
  | 69, _ => exact kw_1156
  | 70, _ => exact kw_1158
  | k + 71, hk => exact absurd (show k + 71 < 71 from hk) (by omega)
theorem am_uwA : ∀ t, t < 13 → ∀ w ∈ u_ws (am_cn t) (am_T t) (am_nf t), w ∈ am_T0
  | 0, _ => am_uw0
  | 1, _ => am_uw1
  | 2, _ => am_uw2
  | 3, _ => am_uw3
  | 4, _ => am_uw4
  | 5, _ => am_uw5
  | 6, _ => am_uw6
  | 7, _ => am_uw7
  | 8, _ => am_uw8
  | 9, _ => am_uw9
  | 10, _ => am_uw10
  | 11, _ => am_uw11
  | 12, _ => am_uw12
  | t + 13, h => absurd h (by omega)
def am_ty (t : Nat) : Nat → FieldType := match t with
  | 0 => tyX0
  | 1 => tyX1
  | 2 => tyX2
  | 3 => tyX3
  | 4 => tyX4
  | 5 => tyX5
  | 6 => tyX6
  | 7 => tyX7
  | 8 => tyX8
  | 9 => tyX9
  | 10 => tyX10
  | 11 => tyX11
  | 12 => tyX12
  | _ => tyX0
theorem am_nmA : ∀ t, t < 13 → ∀ a, a < am_nf t → ∀ b, b < am_nf t → a ≠ b → (am_T t a).2.1 ≠ (am_T t b).2.1
  | 0, _ => nmX0
  | 1, _ => nmX1
  | 2, _ => nmX2
  | 3, _ => nmX3
  | 4, _ => nmX4
  | 5, _ => nmX5
  | 6, _ => nmX6
  | 7, _ => nmX7
  | 8, _ => nmX8
  | 9, _ => nmX9
  | 10, _ => nmX10
  | 11, _ => nmX11
  | 12, _ => nmX12
  | t + 13, h => absurd h (by omega)
theorem am_tyA : ∀ t, t < 13 → ∀ k, k < am_nf t → parseFieldDescriptor (am_T t k).2.2.1 = some (am_ty t k)
  | 0, _ => tyX0_ok
  | 1, _ => tyX1_ok
  | 2, _ => tyX2_ok
  | 3, _ => tyX3_ok
  | 4, _ => tyX4_ok
  | 5, _ => tyX5_ok
  | 6, _ => tyX6_ok
  | 7, _ => tyX7_ok
  | 8, _ => tyX8_ok
  | 9, _ => tyX9_ok
  | 10, _ => tyX10_ok
  | 11, _ => tyX11_ok
  | 12, _ => tyX12_ok
  | t + 13, h => absurd h (by omega)
theorem am_clA : ∀ t, t < 13 → vwCl[t]? = some (am_cn t, am_T t, am_nf t)
  | 0, _ => rfl
  | 1, _ => rfl
  | 2, _ => rfl
  | 3, _ => rfl
  | 4, _ => rfl
  | 5, _ => rfl
  | 6, _ => rfl
  | 7, _ => rfl
  | 8, _ => rfl
  | 9, _ => rfl
  | 10, _ => rfl
  | 11, _ => rfl
  | 12, _ => rfl
  | t + 13, h => absurd h (by omega)
def am_isR : FieldType → Bool
  | .object _ => true
  | .array _ => true
  | _ => false
def am_ftOk (ty : FieldType) (c : Nat) : Bool := match c with
  | 0 => (match ty with
    | .int => true
    | _ => false)
  | 1 => (match ty with
    | .boolean => true
    | _ => false)
  | 2 => am_isR ty
  | _ => false
theorem am_ft0 : ∀ k, k < am_nf 0 → am_ftOk (am_ty 0 k) (am_fty 0 k) = true := by decide +kernel
theorem am_ft1 : ∀ k, k < am_nf 1 → am_ftOk (am_ty 1 k) (am_fty 1 k) = true := by decide +kernel
theorem am_ft2 : ∀ k, k < am_nf 2 → am_ftOk (am_ty 2 k) (am_fty 2 k) = true := by decide +kernel
theorem am_ft3 : ∀ k, k < am_nf 3 → am_ftOk (am_ty 3 k) (am_fty 3 k) = true := by decide +kernel
theorem am_ft4 : ∀ k, k < am_nf 4 → am_ftOk (am_ty 4 k) (am_fty 4 k) = true := by decide +kernel
theorem am_ft5 : ∀ k, k < am_nf 5 → am_ftOk (am_ty 5 k) (am_fty 5 k) = true := by decide +kernel
theorem am_ft6 : ∀ k, k < am_nf 6 → am_ftOk (am_ty 6 k) (am_fty 6 k) = true := by decide +kernel
theorem am_ft7 : ∀ k, k < am_nf 7 → am_ftOk (am_ty 7 k) (am_fty 7 k) = true := by decide +kernel
theorem am_ft8 : ∀ k, k < am_nf 8 → am_ftOk (am_ty 8 k) (am_fty 8 k) = true := by decide +kernel
theorem am_ft9 : ∀ k, k < am_nf 9 → am_ftOk (am_ty 9 k) (am_fty 9 k) = true := by decide +kernel
theorem am_ft10 : ∀ k, k < am_nf 10 → am_ftOk (am_ty 10 k) (am_fty 10 k) = true := by decide +kernel
theorem am_ft11 : ∀ k, k < am_nf 11 → am_ftOk (am_ty 11 k) (am_fty 11 k) = true := by decide +kernel
theorem am_ft12 : ∀ k, k < am_nf 12 → am_ftOk (am_ty 12 k) (am_fty 12 k) = true := by decide +kernel
theorem am_ftA : ∀ t, t < 13 → ∀ k, k < am_nf t → am_ftOk (am_ty t k) (am_fty t k) = true
  | 0, _ => am_ft0
  | 1, _ => am_ft1
  | 2, _ => am_ft2
  | 3, _ => am_ft3
  | 4, _ => am_ft4
  | 5, _ => am_ft5
  | 6, _ => am_ft6
  | 7, _ => am_ft7
  | 8, _ => am_ft8
  | 9, _ => am_ft9
  | 10, _ => am_ft10
  | 11, _ => am_ft11
  | 12, _ => am_ft12
  | t + 13, h => absurd h (by omega)
