/-! The cells that both constructors leave: what never changes of them (SF); reads behind writes; ints as integers. -/
def am_tT (q : Nat) : Nat := [11, 7, 24, 20, 20, 20, 20, 20, 23, 26, 20, 20, 20, 20, 20, 3, 20, 8, 22, 25, 20, 20, 20, 20, 27, 21, 21, 21, 21, 21, 21, 12, 20, 20, 20, 20, 20, 20, 20, 20, 20, 20, 20, 20, 20, 20, 20, 20, 23, 20, 20, 20, 20, 20, 23, 20, 20, 20, 20, 20, 20, 20, 20, 20, 20, 20, 23, 20, 20, 20, 21, 21].getD q 99
def am_tL (q : Nat) : Nat := [0, 0, 5, 4, 6, 6, 6, 12, 12, 5, 7, 7, 7, 7, 7, 0, 6, 0, 100, 6, 5, 21, 6, 6, 6, 60, 60, 60, 60, 60, 60, 0, 5, 5, 5, 5, 5, 20, 4, 100, 6, 60, 60, 60, 60, 600, 101, 11, 100, 5, 6, 6, 6, 12, 12, 5, 5, 5, 5, 5, 20, 4, 6, 6, 6, 12, 12, 20, 6, 6, 360, 60].getD q 0
def am_tR : List (Nat × Nat × Nat) := [(0, 0, 1), (0, 2, 15), (0, 3, 17), (0, 4, 19), (0, 7, 20), (0, 10, 21), (0, 11, 22), (0, 12, 23), (0, 13, 24), (1, 0, 2), (1, 2, 3), (1, 5, 4), (1, 6, 5), (1, 7, 6), (1, 9, 7), (1, 10, 8), (1, 12, 9), (9, 0, 10), (9, 1, 11), (9, 2, 12), (9, 3, 13), (9, 4, 14), (15, 14, 16), (17, 0, 18), (24, 0, 25), (24, 1, 26), (24, 2, 27), (24, 3, 28), (24, 4, 29), (24, 5, 30), (31, 2, 32), (31, 3, 33), (31, 4, 34), (31, 5, 35), (31, 6, 36), (31, 7, 37), (31, 8, 38), (31, 14, 39), (31, 15, 40), (31, 16, 41), (31, 17, 42), (31, 18, 43), (31, 19, 44), (31, 20, 45), (31, 21, 46), (31, 25, 47), (31, 26, 48), (31, 37, 49), (31, 41, 50), (31, 42, 51), (31, 43, 52), (31, 45, 53), (31, 46, 54), (31, 53, 55), (31, 54, 56), (31, 55, 57), (31, 56, 58), (31, 57, 59), (31, 58, 60), (31, 59, 61), (31, 60, 62), (31, 61, 63), (31, 62, 64), (31, 63, 65), (31, 64, 66), (31, 66, 67), (31, 67, 68), (31, 68, 69), (31, 69, 70), (31, 70, 71)]
def SF (L : Nat) (g : am_G) : Prop := (∀ q, q < 72 → g.1 q = am_tT q) ∧ (∀ q, q < 72 → g.2.1 q = am_tL q) ∧ (∀ e ∈ am_tR, g.2.2.1 e.1 e.2.1 = some e.2.2) ∧ g.2.1 am_SC = L ∧ 72 ≤ am_nx g
section ASF
variable {L : Nat} {g : am_G}
theorem sT_0 (h : SF L g) : g.1 0 = 11 := h.1 0 (by decide)
theorem sT_1 (h : SF L g) : g.1 1 = 7 := h.1 1 (by decide)
theorem sT_2 (h : SF L g) : g.1 2 = 24 := h.1 2 (by decide)
theorem sL_2 (h : SF L g) : g.2.1 2 = 5 := h.2.1 2 (by decide)
theorem sT_3 (h : SF L g) : g.1 3 = 20 := h.1 3 (by decide)
theorem sL_3 (h : SF L g) : g.2.1 3 = 4 := h.2.1 3 (by decide)
theorem sT_4 (h : SF L g) : g.1 4 = 20 := h.1 4 (by decide)
theorem sL_4 (h : SF L g) : g.2.1 4 = 6 := h.2.1 4 (by decide)
theorem sT_5 (h : SF L g) : g.1 5 = 20 := h.1 5 (by decide)
theorem sL_5 (h : SF L g) : g.2.1 5 = 6 := h.2.1 5 (by decide)
theorem sT_6 (h : SF L g) : g.1 6 = 20 := h.1 6 (by decide)
theorem sL_6 (h : SF L g) : g.2.1 6 = 6 := h.2.1 6 (by decide)
theorem sT_7 (h : SF L g) : g.1 7 = 20 := h.1 7 (by decide)
theorem sL_7 (h : SF L g) : g.2.1 7 = 12 := h.2.1 7 (by decide)
theorem sT_8 (h : SF L g) : g.1 8 = 23 := h.1 8 (by decide)
theorem sL_8 (h : SF L g) : g.2.1 8 = 12 := h.2.1 8 (by decide)
theorem sT_9 (h : SF L g) : g.1 9 = 26 := h.1 9 (by decide)
theorem sL_9 (h : SF L g) : g.2.1 9 = 5 := h.2.1 9 (by decide)
theorem sT_10 (h : SF L g) : g.1 10 = 20 := h.1 10 (by decide)
theorem sL_10 (h : SF L g) : g.2.1 10 = 7 := h.2.1 10 (by decide)
theorem sT_11 (h : SF L g) : g.1 11 = 20 := h.1 11 (by decide)
theorem sL_11 (h : SF L g) : g.2.1 11 = 7 := h.2.1 11 (by decide)
theorem sT_12 (h : SF L g) : g.1 12 = 20 := h.1 12 (by decide)
theorem sL_12 (h : SF L g) : g.2.1 12 = 7 := h.2.1 12 (by decide)
theorem sT_13 (h : SF L g) : g.1 13 = 20 := h.1 13 (by decide)
theorem sL_13 (h : SF L g) : g.2.1 13 = 7 := h.2.1 13 (by decide)
theorem sT_14 (h : SF L g) : g.1 14 = 20 := h.1 14 (by decide)
theorem sL_14 (h : SF L g) : g.2.1 14 = 7 := h.2.1 14 (by decide)
theorem sT_15 (h : SF L g) : g.1 15 = 3 := h.1 15 (by decide)
theorem sT_16 (h : SF L g) : g.1 16 = 20 := h.1 16 (by decide)
theorem sL_16 (h : SF L g) : g.2.1 16 = 6 := h.2.1 16 (by decide)
theorem sT_17 (h : SF L g) : g.1 17 = 8 := h.1 17 (by decide)
theorem sT_18 (h : SF L g) : g.1 18 = 22 := h.1 18 (by decide)
theorem sL_18 (h : SF L g) : g.2.1 18 = 100 := h.2.1 18 (by decide)
theorem sT_19 (h : SF L g) : g.1 19 = 25 := h.1 19 (by decide)
theorem sL_19 (h : SF L g) : g.2.1 19 = 6 := h.2.1 19 (by decide)
theorem sT_20 (h : SF L g) : g.1 20 = 20 := h.1 20 (by decide)
theorem sL_20 (h : SF L g) : g.2.1 20 = 5 := h.2.1 20 (by decide)
theorem sT_21 (h : SF L g) : g.1 21 = 20 := h.1 21 (by decide)
theorem sL_21 (h : SF L g) : g.2.1 21 = 21 := h.2.1 21 (by decide)
theorem sT_22 (h : SF L g) : g.1 22 = 20 := h.1 22 (by decide)
theorem sL_22 (h : SF L g) : g.2.1 22 = 6 := h.2.1 22 (by decide)
theorem sT_23 (h : SF L g) : g.1 23 = 20 := h.1 23 (by decide)
theorem sL_23 (h : SF L g) : g.2.1 23 = 6 := h.2.1 23 (by decide)
theorem sT_24 (h : SF L g) : g.1 24 = 27 := h.1 24 (by decide)
theorem sL_24 (h : SF L g) : g.2.1 24 = 6 := h.2.1 24 (by decide)
theorem sT_25 (h : SF L g) : g.1 25 = 21 := h.1 25 (by decide)
theorem sL_25 (h : SF L g) : g.2.1 25 = 60 := h.2.1 25 (by decide)
theorem sT_26 (h : SF L g) : g.1 26 = 21 := h.1 26 (by decide)
theorem sL_26 (h : SF L g) : g.2.1 26 = 60 := h.2.1 26 (by decide)
theorem sT_27 (h : SF L g) : g.1 27 = 21 := h.1 27 (by decide)
theorem sL_27 (h : SF L g) : g.2.1 27 = 60 := h.2.1 27 (by decide)
theorem sT_28 (h : SF L g) : g.1 28 = 21 := h.1 28 (by decide)
theorem sL_28 (h : SF L g) : g.2.1 28 = 60 := h.2.1 28 (by decide)
theorem sT_29 (h : SF L g) : g.1 29 = 21 := h.1 29 (by decide)
theorem sL_29 (h : SF L g) : g.2.1 29 = 60 := h.2.1 29 (by decide)
theorem sT_30 (h : SF L g) : g.1 30 = 21 := h.1 30 (by decide)
theorem sL_30 (h : SF L g) : g.2.1 30 = 60 := h.2.1 30 (by decide)
theorem sT_31 (h : SF L g) : g.1 31 = 12 := h.1 31 (by decide)
theorem sT_32 (h : SF L g) : g.1 32 = 20 := h.1 32 (by decide)
theorem sL_32 (h : SF L g) : g.2.1 32 = 5 := h.2.1 32 (by decide)
theorem sT_33 (h : SF L g) : g.1 33 = 20 := h.1 33 (by decide)
theorem sL_33 (h : SF L g) : g.2.1 33 = 5 := h.2.1 33 (by decide)
theorem sT_34 (h : SF L g) : g.1 34 = 20 := h.1 34 (by decide)
theorem sL_34 (h : SF L g) : g.2.1 34 = 5 := h.2.1 34 (by decide)
theorem sT_35 (h : SF L g) : g.1 35 = 20 := h.1 35 (by decide)
theorem sL_35 (h : SF L g) : g.2.1 35 = 5 := h.2.1 35 (by decide)
theorem sT_36 (h : SF L g) : g.1 36 = 20 := h.1 36 (by decide)
theorem sL_36 (h : SF L g) : g.2.1 36 = 5 := h.2.1 36 (by decide)
theorem sT_37 (h : SF L g) : g.1 37 = 20 := h.1 37 (by decide)
theorem sL_37 (h : SF L g) : g.2.1 37 = 20 := h.2.1 37 (by decide)
theorem sT_38 (h : SF L g) : g.1 38 = 20 := h.1 38 (by decide)
theorem sL_38 (h : SF L g) : g.2.1 38 = 4 := h.2.1 38 (by decide)
theorem sT_39 (h : SF L g) : g.1 39 = 20 := h.1 39 (by decide)
theorem sL_39 (h : SF L g) : g.2.1 39 = 100 := h.2.1 39 (by decide)
theorem sT_40 (h : SF L g) : g.1 40 = 20 := h.1 40 (by decide)
theorem sL_40 (h : SF L g) : g.2.1 40 = 6 := h.2.1 40 (by decide)
theorem sT_41 (h : SF L g) : g.1 41 = 20 := h.1 41 (by decide)
theorem sL_41 (h : SF L g) : g.2.1 41 = 60 := h.2.1 41 (by decide)
theorem sT_42 (h : SF L g) : g.1 42 = 20 := h.1 42 (by decide)
theorem sL_42 (h : SF L g) : g.2.1 42 = 60 := h.2.1 42 (by decide)
theorem sT_43 (h : SF L g) : g.1 43 = 20 := h.1 43 (by decide)
theorem sL_43 (h : SF L g) : g.2.1 43 = 60 := h.2.1 43 (by decide)
theorem sT_44 (h : SF L g) : g.1 44 = 20 := h.1 44 (by decide)
theorem sL_44 (h : SF L g) : g.2.1 44 = 60 := h.2.1 44 (by decide)
theorem sT_45 (h : SF L g) : g.1 45 = 20 := h.1 45 (by decide)
theorem sL_45 (h : SF L g) : g.2.1 45 = 600 := h.2.1 45 (by decide)
theorem sT_46 (h : SF L g) : g.1 46 = 20 := h.1 46 (by decide)
theorem sL_46 (h : SF L g) : g.2.1 46 = 101 := h.2.1 46 (by decide)
theorem sT_47 (h : SF L g) : g.1 47 = 20 := h.1 47 (by decide)
theorem sL_47 (h : SF L g) : g.2.1 47 = 11 := h.2.1 47 (by decide)
theorem sT_48 (h : SF L g) : g.1 48 = 23 := h.1 48 (by decide)
theorem sL_48 (h : SF L g) : g.2.1 48 = 100 := h.2.1 48 (by decide)
theorem sT_49 (h : SF L g) : g.1 49 = 20 := h.1 49 (by decide)
theorem sL_49 (h : SF L g) : g.2.1 49 = 5 := h.2.1 49 (by decide)
theorem sT_50 (h : SF L g) : g.1 50 = 20 := h.1 50 (by decide)
theorem sL_50 (h : SF L g) : g.2.1 50 = 6 := h.2.1 50 (by decide)
theorem sT_51 (h : SF L g) : g.1 51 = 20 := h.1 51 (by decide)
theorem sL_51 (h : SF L g) : g.2.1 51 = 6 := h.2.1 51 (by decide)
theorem sT_52 (h : SF L g) : g.1 52 = 20 := h.1 52 (by decide)
theorem sL_52 (h : SF L g) : g.2.1 52 = 6 := h.2.1 52 (by decide)
theorem sT_53 (h : SF L g) : g.1 53 = 20 := h.1 53 (by decide)
theorem sL_53 (h : SF L g) : g.2.1 53 = 12 := h.2.1 53 (by decide)
theorem sT_54 (h : SF L g) : g.1 54 = 23 := h.1 54 (by decide)
theorem sL_54 (h : SF L g) : g.2.1 54 = 12 := h.2.1 54 (by decide)
theorem sT_55 (h : SF L g) : g.1 55 = 20 := h.1 55 (by decide)
theorem sL_55 (h : SF L g) : g.2.1 55 = 5 := h.2.1 55 (by decide)
theorem sT_56 (h : SF L g) : g.1 56 = 20 := h.1 56 (by decide)
theorem sL_56 (h : SF L g) : g.2.1 56 = 5 := h.2.1 56 (by decide)
theorem sT_57 (h : SF L g) : g.1 57 = 20 := h.1 57 (by decide)
theorem sL_57 (h : SF L g) : g.2.1 57 = 5 := h.2.1 57 (by decide)
theorem sT_58 (h : SF L g) : g.1 58 = 20 := h.1 58 (by decide)
theorem sL_58 (h : SF L g) : g.2.1 58 = 5 := h.2.1 58 (by decide)
theorem sT_59 (h : SF L g) : g.1 59 = 20 := h.1 59 (by decide)
theorem sL_59 (h : SF L g) : g.2.1 59 = 5 := h.2.1 59 (by decide)
theorem sT_60 (h : SF L g) : g.1 60 = 20 := h.1 60 (by decide)
theorem sL_60 (h : SF L g) : g.2.1 60 = 20 := h.2.1 60 (by decide)
theorem sT_61 (h : SF L g) : g.1 61 = 20 := h.1 61 (by decide)
theorem sL_61 (h : SF L g) : g.2.1 61 = 4 := h.2.1 61 (by decide)
theorem sT_62 (h : SF L g) : g.1 62 = 20 := h.1 62 (by decide)
theorem sL_62 (h : SF L g) : g.2.1 62 = 6 := h.2.1 62 (by decide)
theorem sT_63 (h : SF L g) : g.1 63 = 20 := h.1 63 (by decide)
theorem sL_63 (h : SF L g) : g.2.1 63 = 6 := h.2.1 63 (by decide)
theorem sT_64 (h : SF L g) : g.1 64 = 20 := h.1 64 (by decide)
theorem sL_64 (h : SF L g) : g.2.1 64 = 6 := h.2.1 64 (by decide)
theorem sT_65 (h : SF L g) : g.1 65 = 20 := h.1 65 (by decide)
theorem sL_65 (h : SF L g) : g.2.1 65 = 12 := h.2.1 65 (by decide)
theorem sT_66 (h : SF L g) : g.1 66 = 23 := h.1 66 (by decide)
theorem sL_66 (h : SF L g) : g.2.1 66 = 12 := h.2.1 66 (by decide)
theorem sT_67 (h : SF L g) : g.1 67 = 20 := h.1 67 (by decide)
theorem sL_67 (h : SF L g) : g.2.1 67 = 20 := h.2.1 67 (by decide)
theorem sT_68 (h : SF L g) : g.1 68 = 20 := h.1 68 (by decide)
theorem sL_68 (h : SF L g) : g.2.1 68 = 6 := h.2.1 68 (by decide)
theorem sT_69 (h : SF L g) : g.1 69 = 20 := h.1 69 (by decide)
theorem sL_69 (h : SF L g) : g.2.1 69 = 6 := h.2.1 69 (by decide)
theorem sT_70 (h : SF L g) : g.1 70 = 21 := h.1 70 (by decide)
theorem sL_70 (h : SF L g) : g.2.1 70 = 360 := h.2.1 70 (by decide)
theorem sT_71 (h : SF L g) : g.1 71 = 21 := h.1 71 (by decide)
theorem sL_71 (h : SF L g) : g.2.1 71 = 60 := h.2.1 71 (by decide)
theorem sR_0_0 (h : SF L g) : g.2.2.1 0 0 = some 1 := h.2.2.1 (0, 0, 1) (by decide)
theorem sR_0_2 (h : SF L g) : g.2.2.1 0 2 = some 15 := h.2.2.1 (0, 2, 15) (by decide)
theorem sR_0_3 (h : SF L g) : g.2.2.1 0 3 = some 17 := h.2.2.1 (0, 3, 17) (by decide)
theorem sR_0_4 (h : SF L g) : g.2.2.1 0 4 = some 19 := h.2.2.1 (0, 4, 19) (by decide)
theorem sR_0_7 (h : SF L g) : g.2.2.1 0 7 = some 20 := h.2.2.1 (0, 7, 20) (by decide)
theorem sR_0_10 (h : SF L g) : g.2.2.1 0 10 = some 21 := h.2.2.1 (0, 10, 21) (by decide)
theorem sR_0_11 (h : SF L g) : g.2.2.1 0 11 = some 22 := h.2.2.1 (0, 11, 22) (by decide)
theorem sR_0_12 (h : SF L g) : g.2.2.1 0 12 = some 23 := h.2.2.1 (0, 12, 23) (by decide)
theorem sR_0_13 (h : SF L g) : g.2.2.1 0 13 = some 24 := h.2.2.1 (0, 13, 24) (by decide)
theorem sR_1_0 (h : SF L g) : g.2.2.1 1 0 = some 2 := h.2.2.1 (1, 0, 2) (by decide)
theorem sR_1_2 (h : SF L g) : g.2.2.1 1 2 = some 3 := h.2.2.1 (1, 2, 3) (by decide)
theorem sR_1_5 (h : SF L g) : g.2.2.1 1 5 = some 4 := h.2.2.1 (1, 5, 4) (by decide)
theorem sR_1_6 (h : SF L g) : g.2.2.1 1 6 = some 5 := h.2.2.1 (1, 6, 5) (by decide)
theorem sR_1_7 (h : SF L g) : g.2.2.1 1 7 = some 6 := h.2.2.1 (1, 7, 6) (by decide)
theorem sR_1_9 (h : SF L g) : g.2.2.1 1 9 = some 7 := h.2.2.1 (1, 9, 7) (by decide)
theorem sR_1_10 (h : SF L g) : g.2.2.1 1 10 = some 8 := h.2.2.1 (1, 10, 8) (by decide)
theorem sR_1_12 (h : SF L g) : g.2.2.1 1 12 = some 9 := h.2.2.1 (1, 12, 9) (by decide)
theorem sR_9_0 (h : SF L g) : g.2.2.1 9 0 = some 10 := h.2.2.1 (9, 0, 10) (by decide)
theorem sR_9_1 (h : SF L g) : g.2.2.1 9 1 = some 11 := h.2.2.1 (9, 1, 11) (by decide)
theorem sR_9_2 (h : SF L g) : g.2.2.1 9 2 = some 12 := h.2.2.1 (9, 2, 12) (by decide)
theorem sR_9_3 (h : SF L g) : g.2.2.1 9 3 = some 13 := h.2.2.1 (9, 3, 13) (by decide)
theorem sR_9_4 (h : SF L g) : g.2.2.1 9 4 = some 14 := h.2.2.1 (9, 4, 14) (by decide)
theorem sR_15_14 (h : SF L g) : g.2.2.1 15 14 = some 16 := h.2.2.1 (15, 14, 16) (by decide)
theorem sR_17_0 (h : SF L g) : g.2.2.1 17 0 = some 18 := h.2.2.1 (17, 0, 18) (by decide)
theorem sR_24_0 (h : SF L g) : g.2.2.1 24 0 = some 25 := h.2.2.1 (24, 0, 25) (by decide)
theorem sR_24_1 (h : SF L g) : g.2.2.1 24 1 = some 26 := h.2.2.1 (24, 1, 26) (by decide)
theorem sR_24_2 (h : SF L g) : g.2.2.1 24 2 = some 27 := h.2.2.1 (24, 2, 27) (by decide)
theorem sR_24_3 (h : SF L g) : g.2.2.1 24 3 = some 28 := h.2.2.1 (24, 3, 28) (by decide)
theorem sR_24_4 (h : SF L g) : g.2.2.1 24 4 = some 29 := h.2.2.1 (24, 4, 29) (by decide)
theorem sR_24_5 (h : SF L g) : g.2.2.1 24 5 = some 30 := h.2.2.1 (24, 5, 30) (by decide)
theorem sR_31_2 (h : SF L g) : g.2.2.1 31 2 = some 32 := h.2.2.1 (31, 2, 32) (by decide)
theorem sR_31_3 (h : SF L g) : g.2.2.1 31 3 = some 33 := h.2.2.1 (31, 3, 33) (by decide)
theorem sR_31_4 (h : SF L g) : g.2.2.1 31 4 = some 34 := h.2.2.1 (31, 4, 34) (by decide)
theorem sR_31_5 (h : SF L g) : g.2.2.1 31 5 = some 35 := h.2.2.1 (31, 5, 35) (by decide)
theorem sR_31_6 (h : SF L g) : g.2.2.1 31 6 = some 36 := h.2.2.1 (31, 6, 36) (by decide)
theorem sR_31_7 (h : SF L g) : g.2.2.1 31 7 = some 37 := h.2.2.1 (31, 7, 37) (by decide)
theorem sR_31_8 (h : SF L g) : g.2.2.1 31 8 = some 38 := h.2.2.1 (31, 8, 38) (by decide)
theorem sR_31_14 (h : SF L g) : g.2.2.1 31 14 = some 39 := h.2.2.1 (31, 14, 39) (by decide)
theorem sR_31_15 (h : SF L g) : g.2.2.1 31 15 = some 40 := h.2.2.1 (31, 15, 40) (by decide)
theorem sR_31_16 (h : SF L g) : g.2.2.1 31 16 = some 41 := h.2.2.1 (31, 16, 41) (by decide)
theorem sR_31_17 (h : SF L g) : g.2.2.1 31 17 = some 42 := h.2.2.1 (31, 17, 42) (by decide)
theorem sR_31_18 (h : SF L g) : g.2.2.1 31 18 = some 43 := h.2.2.1 (31, 18, 43) (by decide)
theorem sR_31_19 (h : SF L g) : g.2.2.1 31 19 = some 44 := h.2.2.1 (31, 19, 44) (by decide)
theorem sR_31_20 (h : SF L g) : g.2.2.1 31 20 = some 45 := h.2.2.1 (31, 20, 45) (by decide)
theorem sR_31_21 (h : SF L g) : g.2.2.1 31 21 = some 46 := h.2.2.1 (31, 21, 46) (by decide)
theorem sR_31_25 (h : SF L g) : g.2.2.1 31 25 = some 47 := h.2.2.1 (31, 25, 47) (by decide)
theorem sR_31_26 (h : SF L g) : g.2.2.1 31 26 = some 48 := h.2.2.1 (31, 26, 48) (by decide)
theorem sR_31_37 (h : SF L g) : g.2.2.1 31 37 = some 49 := h.2.2.1 (31, 37, 49) (by decide)
theorem sR_31_41 (h : SF L g) : g.2.2.1 31 41 = some 50 := h.2.2.1 (31, 41, 50) (by decide)
theorem sR_31_42 (h : SF L g) : g.2.2.1 31 42 = some 51 := h.2.2.1 (31, 42, 51) (by decide)
theorem sR_31_43 (h : SF L g) : g.2.2.1 31 43 = some 52 := h.2.2.1 (31, 43, 52) (by decide)
theorem sR_31_45 (h : SF L g) : g.2.2.1 31 45 = some 53 := h.2.2.1 (31, 45, 53) (by decide)
theorem sR_31_46 (h : SF L g) : g.2.2.1 31 46 = some 54 := h.2.2.1 (31, 46, 54) (by decide)
theorem sR_31_53 (h : SF L g) : g.2.2.1 31 53 = some 55 := h.2.2.1 (31, 53, 55) (by decide)
theorem sR_31_54 (h : SF L g) : g.2.2.1 31 54 = some 56 := h.2.2.1 (31, 54, 56) (by decide)
theorem sR_31_55 (h : SF L g) : g.2.2.1 31 55 = some 57 := h.2.2.1 (31, 55, 57) (by decide)
theorem sR_31_56 (h : SF L g) : g.2.2.1 31 56 = some 58 := h.2.2.1 (31, 56, 58) (by decide)
theorem sR_31_57 (h : SF L g) : g.2.2.1 31 57 = some 59 := h.2.2.1 (31, 57, 59) (by decide)
theorem sR_31_58 (h : SF L g) : g.2.2.1 31 58 = some 60 := h.2.2.1 (31, 58, 60) (by decide)
theorem sR_31_59 (h : SF L g) : g.2.2.1 31 59 = some 61 := h.2.2.1 (31, 59, 61) (by decide)
theorem sR_31_60 (h : SF L g) : g.2.2.1 31 60 = some 62 := h.2.2.1 (31, 60, 62) (by decide)
theorem sR_31_61 (h : SF L g) : g.2.2.1 31 61 = some 63 := h.2.2.1 (31, 61, 63) (by decide)
theorem sR_31_62 (h : SF L g) : g.2.2.1 31 62 = some 64 := h.2.2.1 (31, 62, 64) (by decide)
theorem sR_31_63 (h : SF L g) : g.2.2.1 31 63 = some 65 := h.2.2.1 (31, 63, 65) (by decide)
theorem sR_31_64 (h : SF L g) : g.2.2.1 31 64 = some 66 := h.2.2.1 (31, 64, 66) (by decide)
theorem sR_31_66 (h : SF L g) : g.2.2.1 31 66 = some 67 := h.2.2.1 (31, 66, 67) (by decide)
theorem sR_31_67 (h : SF L g) : g.2.2.1 31 67 = some 68 := h.2.2.1 (31, 67, 68) (by decide)
theorem sR_31_68 (h : SF L g) : g.2.2.1 31 68 = some 69 := h.2.2.1 (31, 68, 69) (by decide)
theorem sR_31_69 (h : SF L g) : g.2.2.1 31 69 = some 70 := h.2.2.1 (31, 69, 70) (by decide)
theorem sR_31_70 (h : SF L g) : g.2.2.1 31 70 = some 71 := h.2.2.1 (31, 70, 71) (by decide)
theorem sL_SC (h : SF L g) : g.2.1 am_SC = L := h.2.2.2.1
theorem SF.nx (h : SF L g) : 72 ≤ am_nx g := h.2.2.2.2
/-- the references that change are none of the fixed ones -/
theorem SF.gr (h : SF L g) {q a : Nat} {x : Option Nat} (hn : am_tR.all (fun e => !(e.1 == q && e.2.1 == a)) = true) : SF L (am_gr g q a x) := by
  refine ⟨h.1, h.2.1, fun e he => ?_, h.2.2.2.1, h.2.2.2.2⟩
  have := List.all_eq_true.mp hn e he
  show up2 g.2.2.1 q a x e.1 e.2.1 = _
  unfold up2
  rw [if_neg (fun k => by rw [k.1, k.2] at this; simp at this)]
  exact h.2.2.1 e he
theorem am_tRlt : ∀ e ∈ am_tR, e.1 < 72 := by decide
theorem SF.grd (h : SF L g) {q a : Nat} {x : Option Nat} (hq : 72 ≤ q) : SF L (am_gr g q a x) := by
  refine ⟨h.1, h.2.1, fun e he => ?_, h.2.2.2.1, h.2.2.2.2⟩
  have := am_tRlt e he
  show up2 g.2.2.1 q a x e.1 e.2.1 = _
  unfold up2
  rw [if_neg (fun k => by omega)]
  exact h.2.2.1 e he
theorem SF.mk {t len size : Nat} (h : SF L g) (hn : am_nx g < 900000) : SF L (am_mk g t len size) := by
  have hx := h.nx
  have h9 : am_SC = 1000000 := rfl
  refine ⟨fun q hq => ?_, fun q hq => ?_, fun e he => ?_, ?_, ?_⟩
  · show up1 g.1 (am_nx g) 1 t q = _
    unfold up1
    rw [if_neg (by omega)]
    exact h.1 q hq
  · show up1 g.2.1 (am_nx g) 1 len q = _
    unfold up1
    rw [if_neg (by omega)]
    exact h.2.1 q hq
  · have := am_tRlt e he
    show cl2 g.2.2.1 (am_nx g) 1 none e.1 e.2.1 = _
    unfold cl2
    rw [if_neg (by omega)]
    exact h.2.2.1 e he
  · show up1 g.2.1 (am_nx g) 1 len am_SC = _
    unfold up1
    rw [if_neg (by omega)]
    exact h.2.2.2.1
  · show 72 ≤ am_nx g + 1
    omega
theorem SF.mk2 {t0 t1 n k : Nat} (h : SF L g) (hn : am_nx g + n < 900000) : SF L (am_mk2 g t0 t1 n k) := by
  have hx := h.nx
  have h9 : am_SC = 1000000 := rfl
  refine ⟨fun q hq => ?_, fun q hq => ?_, fun e he => ?_, ?_, ?_⟩
  · show up1 (up1 g.1 (am_nx g) 1 t0) (am_nx g + 1) n t1 q = _
    unfold up1
    rw [if_neg (by omega), if_neg (by omega)]
    exact h.1 q hq
  · show up1 (up1 g.2.1 (am_nx g) 1 n) (am_nx g + 1) n k q = _
    unfold up1
    rw [if_neg (by omega), if_neg (by omega)]
    exact h.2.1 q hq
  · have := am_tRlt e he
    show (if e.1 = am_nx g then (if e.2.1 < n then some (am_nx g + 1 + e.2.1) else none) else if am_nx g < e.1 ∧ e.1 < am_nx g + 1 + n then none else g.2.2.1 e.1 e.2.1) = _
    rw [if_neg (by omega), if_neg (by omega)]
    exact h.2.2.1 e he
  · show up1 (up1 g.2.1 (am_nx g) 1 n) (am_nx g + 1) n k am_SC = _
    unfold up1
    rw [if_neg (by omega), if_neg (by omega)]
    exact h.2.2.2.1
  · show 72 ≤ am_nx g + 1 + n
    omega
end ASF
section AUP
variable {α : Type} {f : Nat → Nat → α} {q j a k n sp dp a0 : Nat} {x : α}
theorem up2_nq (h : q ≠ a) : up2 f a k x q j = f q j := if_neg (fun e => h e.1)
theorem up2_nj (h : j ≠ k) : up2 f a k x q j = f q j := if_neg (fun e => h e.2)
theorem up2_eq : up2 f a k x a k = x := if_pos ⟨rfl, rfl⟩
theorem cl2_nq (h : q < a) : cl2 f a n x q j = f q j := if_neg (by omega)
theorem cl2_eq (h : a ≤ q ∧ q < a + n) : cl2 f a n x q j = x := if_pos h
theorem cp2_nq (h : q ≠ a) : cp2 f a0 a sp dp n q j = f q j := if_neg (fun e => h e.1)
end AUP
theorem dn {p r : Nat} (h : 72 ≤ p) (hr : r < 72) : p ≠ r := by omega
theorem nd {p r : Nat} (h : 72 ≤ p) (hr : r < 72) : r ≠ p := by omega
section AI
variable {x y : Int32} {X Y : Int}
theorem i_add (hx : x.toInt = X) (hy : y.toInt = Y) (h : -2147483648 ≤ X + Y ∧ X + Y ≤ 2147483647) : (x + y).toInt = X + Y := by
  subst hx; subst hy
  rw [Int32.toInt_add]
  exact Int.bmod_eq_of_le (by omega) (by omega)
theorem i_sub (hx : x.toInt = X) (hy : y.toInt = Y) (h : -2147483648 ≤ X - Y ∧ X - Y ≤ 2147483647) : (x - y).toInt = X - Y := by
  subst hx; subst hy
  rw [Int32.toInt_sub]
  exact Int.bmod_eq_of_le (by omega) (by omega)
theorem i_mul (hx : x.toInt = X) (hy : y.toInt = Y) (h : -2147483648 ≤ X * Y ∧ X * Y ≤ 2147483647) : (x * y).toInt = X * Y := by
  subst hx; subst hy
  rw [Int32.toInt_mul]
  exact Int.bmod_eq_of_le (by omega) (by omega)
theorem i_neg (hx : x.toInt = X) (h : -2147483647 ≤ X) : (-x).toInt = -X := by
  have := x.toInt_lt
  subst hx
  rw [Int32.toInt_neg]
  exact Int.bmod_eq_of_le (by omega) (by omega)
theorem i_div (hx : x.toInt = X) (hy : y.toInt = Y) (h0 : 0 ≤ X) (h1 : 0 < Y) : (x / y).toInt = X / Y := by
  have h2 : y ≠ -1 := fun e => by
    rw [e] at hy
    have : (-1 : Int32).toInt = -1 := by decide
    omega
  rw [Int32.toInt_div_of_ne_right x y h2, hx, hy]
  exact Int.tdiv_eq_ediv_of_nonneg h0
theorem i_rem (hx : x.toInt = X) (hy : y.toInt = Y) (h0 : 0 ≤ X) (h1 : 0 < Y) : (x - x / y * y).toInt = X % Y := by
  have hl := x.toInt_lt
  have h3 := Int.mul_ediv_add_emod X Y
  have h4 := Int.emod_nonneg X (show Y ≠ 0 by omega)
  have h5 : X / Y * Y = Y * (X / Y) := Int.mul_comm _ _
  have h6 := Int.ediv_nonneg h0 (show (0 : Int) ≤ Y by omega)
  have h7 : 0 ≤ Y * (X / Y) := Int.mul_nonneg (by omega) h6
  have h8 : (x / y * y).toInt = X / Y * Y := i_mul (i_div hx hy h0 h1) hy (by omega)
  rw [i_sub hx h8 (by omega)]
  omega
theorem i_ext (h : x.toInt = y.toInt) : x = y := Int32.toInt.inj h
theorem i_eq (hx : x.toInt = X) (hy : y.toInt = Y) (h : X = Y) : x = y := Int32.toInt.inj (by omega)
theorem i_cl (hx : x.toInt = X) {k : Nat} (h : X = (k : Int)) : x.toNatClampNeg = k := by
  rw [← Int32.toNat_toInt, hx, h]
  rfl
theorem i_cln (h : 0 ≤ x.toInt) : (x.toNatClampNeg : Int) = x.toInt := by
  rw [← Int32.toNat_toInt]
  omega
theorem i_in {k : Nat} (hx : x.toInt = X) (h : 0 ≤ X ∧ X < (k : Int)) : am_in x k = true := by
  unfold am_in
  rw [hx]
  simp [h.1, h.2]
theorem i_bd : -2147483648 ≤ x.toInt ∧ x.toInt ≤ 2147483647 := by
  have h1 := x.le_toInt
  have h2 := x.toInt_lt
  omega
theorem i_dim (hx : x.toInt = X) (h : 0 ≤ X ∧ X ≤ 65536) : am_dim x = true := by
  unfold am_dim
  rw [hx]
  simp [h.1, h.2]
end AI
theorem kc_m1000001 : Int32.ofInt (-1000001) = (-1000001) := by decide
theorem ki_m1000001 : ((-1000001) : Int32).toInt = (-1000001) := by decide
theorem kc_m38 : Int32.ofInt (-38) = (-38) := by decide
theorem ki_m38 : ((-38) : Int32).toInt = (-38) := by decide
theorem kc_m33 : Int32.ofInt (-33) = (-33) := by decide
theorem ki_m33 : ((-33) : Int32).toInt = (-33) := by decide
theorem kc_m14 : Int32.ofInt (-14) = (-14) := by decide
theorem ki_m14 : ((-14) : Int32).toInt = (-14) := by decide
theorem kc_m13 : Int32.ofInt (-13) = (-13) := by decide
theorem ki_m13 : ((-13) : Int32).toInt = (-13) := by decide
theorem kc_m12 : Int32.ofInt (-12) = (-12) := by decide
theorem ki_m12 : ((-12) : Int32).toInt = (-12) := by decide
theorem kc_m11 : Int32.ofInt (-11) = (-11) := by decide
theorem ki_m11 : ((-11) : Int32).toInt = (-11) := by decide
theorem kc_m10 : Int32.ofInt (-10) = (-10) := by decide
theorem ki_m10 : ((-10) : Int32).toInt = (-10) := by decide
theorem kc_m5 : Int32.ofInt (-5) = (-5) := by decide
theorem ki_m5 : ((-5) : Int32).toInt = (-5) := by decide
theorem kc_m4 : Int32.ofInt (-4) = (-4) := by decide
theorem ki_m4 : ((-4) : Int32).toInt = (-4) := by decide
theorem kc_m3 : Int32.ofInt (-3) = (-3) := by decide
theorem ki_m3 : ((-3) : Int32).toInt = (-3) := by decide
theorem kc_m2 : Int32.ofInt (-2) = (-2) := by decide
theorem ki_m2 : ((-2) : Int32).toInt = (-2) := by decide
theorem kc_m1 : Int32.ofInt (-1) = (-1) := by decide
theorem ki_m1 : ((-1) : Int32).toInt = (-1) := by decide
theorem kc_0 : Int32.ofInt 0 = 0 := by decide
theorem ki_0 : (0 : Int32).toInt = 0 := by decide
theorem kn_c0 : (0 : Int32).toNatClampNeg = 0 := by decide
theorem kc_1 : Int32.ofInt 1 = 1 := by decide
theorem ki_1 : (1 : Int32).toInt = 1 := by decide
theorem kn_c1 : (1 : Int32).toNatClampNeg = 1 := by decide
theorem kc_2 : Int32.ofInt 2 = 2 := by decide
theorem ki_2 : (2 : Int32).toInt = 2 := by decide
theorem kn_c2 : (2 : Int32).toNatClampNeg = 2 := by decide
theorem kc_3 : Int32.ofInt 3 = 3 := by decide
theorem ki_3 : (3 : Int32).toInt = 3 := by decide
theorem kn_c3 : (3 : Int32).toNatClampNeg = 3 := by decide
theorem kc_4 : Int32.ofInt 4 = 4 := by decide
theorem ki_4 : (4 : Int32).toInt = 4 := by decide
theorem kn_c4 : (4 : Int32).toNatClampNeg = 4 := by decide
theorem kc_5 : Int32.ofInt 5 = 5 := by decide
theorem ki_5 : (5 : Int32).toInt = 5 := by decide
theorem kn_c5 : (5 : Int32).toNatClampNeg = 5 := by decide
theorem kc_6 : Int32.ofInt 6 = 6 := by decide
theorem ki_6 : (6 : Int32).toInt = 6 := by decide
theorem kn_c6 : (6 : Int32).toNatClampNeg = 6 := by decide
theorem kc_7 : Int32.ofInt 7 = 7 := by decide
theorem ki_7 : (7 : Int32).toInt = 7 := by decide
theorem kn_c7 : (7 : Int32).toNatClampNeg = 7 := by decide
theorem kc_8 : Int32.ofInt 8 = 8 := by decide
theorem ki_8 : (8 : Int32).toInt = 8 := by decide
theorem kn_c8 : (8 : Int32).toNatClampNeg = 8 := by decide
theorem kc_9 : Int32.ofInt 9 = 9 := by decide
theorem ki_9 : (9 : Int32).toInt = 9 := by decide
theorem kn_c9 : (9 : Int32).toNatClampNeg = 9 := by decide
theorem kc_10 : Int32.ofInt 10 = 10 := by decide
theorem ki_10 : (10 : Int32).toInt = 10 := by decide
theorem kn_c10 : (10 : Int32).toNatClampNeg = 10 := by decide
theorem kc_11 : Int32.ofInt 11 = 11 := by decide
theorem ki_11 : (11 : Int32).toInt = 11 := by decide
theorem kn_c11 : (11 : Int32).toNatClampNeg = 11 := by decide
theorem kc_12 : Int32.ofInt 12 = 12 := by decide
theorem ki_12 : (12 : Int32).toInt = 12 := by decide
theorem kn_c12 : (12 : Int32).toNatClampNeg = 12 := by decide
theorem kc_19 : Int32.ofInt 19 = 19 := by decide
theorem ki_19 : (19 : Int32).toInt = 19 := by decide
theorem kn_c19 : (19 : Int32).toNatClampNeg = 19 := by decide
theorem kc_20 : Int32.ofInt 20 = 20 := by decide
theorem ki_20 : (20 : Int32).toInt = 20 := by decide
theorem kn_c20 : (20 : Int32).toNatClampNeg = 20 := by decide
theorem kc_21 : Int32.ofInt 21 = 21 := by decide
theorem ki_21 : (21 : Int32).toInt = 21 := by decide
theorem kn_c21 : (21 : Int32).toNatClampNeg = 21 := by decide
theorem kc_23 : Int32.ofInt 23 = 23 := by decide
theorem ki_23 : (23 : Int32).toInt = 23 := by decide
theorem kn_c23 : (23 : Int32).toNatClampNeg = 23 := by decide
theorem kc_24 : Int32.ofInt 24 = 24 := by decide
theorem ki_24 : (24 : Int32).toInt = 24 := by decide
theorem kn_c24 : (24 : Int32).toNatClampNeg = 24 := by decide
theorem kc_30 : Int32.ofInt 30 = 30 := by decide
theorem ki_30 : (30 : Int32).toInt = 30 := by decide
theorem kn_c30 : (30 : Int32).toNatClampNeg = 30 := by decide
theorem kc_32 : Int32.ofInt 32 = 32 := by decide
theorem ki_32 : (32 : Int32).toInt = 32 := by decide
theorem kn_c32 : (32 : Int32).toNatClampNeg = 32 := by decide
theorem kc_33 : Int32.ofInt 33 = 33 := by decide
theorem ki_33 : (33 : Int32).toInt = 33 := by decide
theorem kn_c33 : (33 : Int32).toNatClampNeg = 33 := by decide
theorem kc_38 : Int32.ofInt 38 = 38 := by decide
theorem ki_38 : (38 : Int32).toInt = 38 := by decide
theorem kn_c38 : (38 : Int32).toNatClampNeg = 38 := by decide
theorem kc_40 : Int32.ofInt 40 = 40 := by decide
theorem ki_40 : (40 : Int32).toInt = 40 := by decide
theorem kn_c40 : (40 : Int32).toNatClampNeg = 40 := by decide
theorem kc_41 : Int32.ofInt 41 = 41 := by decide
theorem ki_41 : (41 : Int32).toInt = 41 := by decide
theorem kn_c41 : (41 : Int32).toNatClampNeg = 41 := by decide
theorem kc_48 : Int32.ofInt 48 = 48 := by decide
theorem ki_48 : (48 : Int32).toInt = 48 := by decide
theorem kn_c48 : (48 : Int32).toNatClampNeg = 48 := by decide
theorem kc_50 : Int32.ofInt 50 = 50 := by decide
theorem ki_50 : (50 : Int32).toInt = 50 := by decide
theorem kn_c50 : (50 : Int32).toNatClampNeg = 50 := by decide
theorem kc_51 : Int32.ofInt 51 = 51 := by decide
theorem ki_51 : (51 : Int32).toInt = 51 := by decide
theorem kn_c51 : (51 : Int32).toNatClampNeg = 51 := by decide
theorem kc_57 : Int32.ofInt 57 = 57 := by decide
theorem ki_57 : (57 : Int32).toInt = 57 := by decide
theorem kn_c57 : (57 : Int32).toNatClampNeg = 57 := by decide
theorem kc_59 : Int32.ofInt 59 = 59 := by decide
theorem ki_59 : (59 : Int32).toInt = 59 := by decide
theorem kn_c59 : (59 : Int32).toNatClampNeg = 59 := by decide
theorem kc_60 : Int32.ofInt 60 = 60 := by decide
theorem ki_60 : (60 : Int32).toInt = 60 := by decide
theorem kn_c60 : (60 : Int32).toNatClampNeg = 60 := by decide
theorem kc_61 : Int32.ofInt 61 = 61 := by decide
theorem ki_61 : (61 : Int32).toInt = 61 := by decide
theorem kn_c61 : (61 : Int32).toNatClampNeg = 61 := by decide
theorem kc_62 : Int32.ofInt 62 = 62 := by decide
theorem ki_62 : (62 : Int32).toInt = 62 := by decide
theorem kn_c62 : (62 : Int32).toNatClampNeg = 62 := by decide
theorem kc_63 : Int32.ofInt 63 = 63 := by decide
theorem ki_63 : (63 : Int32).toInt = 63 := by decide
theorem kn_c63 : (63 : Int32).toNatClampNeg = 63 := by decide
theorem kc_70 : Int32.ofInt 70 = 70 := by decide
theorem ki_70 : (70 : Int32).toInt = 70 := by decide
theorem kn_c70 : (70 : Int32).toNatClampNeg = 70 := by decide
theorem kc_71 : Int32.ofInt 71 = 71 := by decide
theorem ki_71 : (71 : Int32).toInt = 71 := by decide
theorem kn_c71 : (71 : Int32).toNatClampNeg = 71 := by decide
theorem kc_99 : Int32.ofInt 99 = 99 := by decide
theorem ki_99 : (99 : Int32).toInt = 99 := by decide
theorem kn_c99 : (99 : Int32).toNatClampNeg = 99 := by decide
theorem kc_100 : Int32.ofInt 100 = 100 := by decide
theorem ki_100 : (100 : Int32).toInt = 100 := by decide
theorem kn_c100 : (100 : Int32).toNatClampNeg = 100 := by decide
theorem kc_101 : Int32.ofInt 101 = 101 := by decide
theorem ki_101 : (101 : Int32).toInt = 101 := by decide
theorem kn_c101 : (101 : Int32).toNatClampNeg = 101 := by decide
theorem kc_105 : Int32.ofInt 105 = 105 := by decide
theorem ki_105 : (105 : Int32).toInt = 105 := by decide
theorem kn_c105 : (105 : Int32).toNatClampNeg = 105 := by decide
theorem kc_110 : Int32.ofInt 110 = 110 := by decide
theorem ki_110 : (110 : Int32).toInt = 110 := by decide
theorem kn_c110 : (110 : Int32).toNatClampNeg = 110 := by decide
theorem kc_111 : Int32.ofInt 111 = 111 := by decide
theorem ki_111 : (111 : Int32).toInt = 111 := by decide
theorem kn_c111 : (111 : Int32).toNatClampNeg = 111 := by decide
theorem kc_114 : Int32.ofInt 114 = 114 := by decide
theorem ki_114 : (114 : Int32).toInt = 114 := by decide
theorem kn_c114 : (114 : Int32).toNatClampNeg = 114 := by decide
theorem kc_119 : Int32.ofInt 119 = 119 := by decide
theorem ki_119 : (119 : Int32).toInt = 119 := by decide
theorem kn_c119 : (119 : Int32).toNatClampNeg = 119 := by decide
theorem kc_121 : Int32.ofInt 121 = 121 := by decide
theorem ki_121 : (121 : Int32).toInt = 121 := by decide
theorem kn_c121 : (121 : Int32).toNatClampNeg = 121 := by decide
theorem kc_124 : Int32.ofInt 124 = 124 := by decide
theorem ki_124 : (124 : Int32).toInt = 124 := by decide
theorem kn_c124 : (124 : Int32).toNatClampNeg = 124 := by decide
theorem kc_127 : Int32.ofInt 127 = 127 := by decide
theorem ki_127 : (127 : Int32).toInt = 127 := by decide
theorem kn_c127 : (127 : Int32).toNatClampNeg = 127 := by decide
theorem kc_255 : Int32.ofInt 255 = 255 := by decide
theorem ki_255 : (255 : Int32).toInt = 255 := by decide
theorem kn_c255 : (255 : Int32).toNatClampNeg = 255 := by decide
theorem kc_360 : Int32.ofInt 360 = 360 := by decide
theorem ki_360 : (360 : Int32).toInt = 360 := by decide
theorem kn_c360 : (360 : Int32).toNatClampNeg = 360 := by decide
theorem kc_600 : Int32.ofInt 600 = 600 := by decide
theorem ki_600 : (600 : Int32).toInt = 600 := by decide
theorem kn_c600 : (600 : Int32).toNatClampNeg = 600 := by decide
theorem kc_1000 : Int32.ofInt 1000 = 1000 := by decide
theorem ki_1000 : (1000 : Int32).toInt = 1000 := by decide
theorem kn_c1000 : (1000 : Int32).toNatClampNeg = 1000 := by decide
theorem kc_9900 : Int32.ofInt 9900 = 9900 := by decide
theorem ki_9900 : (9900 : Int32).toInt = 9900 := by decide
theorem kn_c9900 : (9900 : Int32).toNatClampNeg = 9900 := by decide
theorem kc_9999 : Int32.ofInt 9999 = 9999 := by decide
theorem ki_9999 : (9999 : Int32).toInt = 9999 := by decide
theorem kn_c9999 : (9999 : Int32).toNatClampNeg = 9999 := by decide
theorem kc_99999 : Int32.ofInt 99999 = 99999 := by decide
theorem ki_99999 : (99999 : Int32).toInt = 99999 := by decide
theorem kn_c99999 : (99999 : Int32).toNatClampNeg = 99999 := by decide
theorem kc_999999 : Int32.ofInt 999999 = 999999 := by decide
theorem ki_999999 : (999999 : Int32).toInt = 999999 := by decide
theorem kn_c999999 : (999999 : Int32).toNatClampNeg = 999999 := by decide
theorem kl_m9223372036854775808 : Int64.ofInt (-9223372036854775808) = (-9223372036854775808) := by decide
theorem kj_m9223372036854775808 : ((-9223372036854775808) : Int64).toInt = (-9223372036854775808) := by decide
theorem kl_0 : Int64.ofInt 0 = 0 := by decide
theorem kj_0 : (0 : Int64).toInt = 0 := by decide
theorem kl_1 : Int64.ofInt 1 = 1 := by decide
theorem kj_1 : (1 : Int64).toInt = 1 := by decide
theorem kl_10 : Int64.ofInt 10 = 10 := by decide
theorem kj_10 : (10 : Int64).toInt = 10 := by decide
theorem kl_12 : Int64.ofInt 12 = 12 := by decide
theorem kj_12 : (12 : Int64).toInt = 12 := by decide
theorem kl_99999 : Int64.ofInt 99999 = 99999 := by decide
theorem kj_99999 : (99999 : Int64).toInt = 99999 := by decide
theorem kl_4294967295 : Int64.ofInt 4294967295 = 4294967295 := by decide
theorem kj_4294967295 : (4294967295 : Int64).toInt = 4294967295 := by decide
