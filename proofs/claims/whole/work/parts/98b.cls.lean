/-! the class's object: its references, which never change but for herd, draft and the reader's -/
def ptC : List (Nat × Nat × Nat) := [(0, 0, 1), (0, 3, 27), (0, 4, 30), (0, 5, 35), (0, 6, 40), (0, 7, 44), (0, 8, 106), (0, 9, 110), (0, 10, 114), (0, 11, 117), (0, 12, 121), (0, 13, 122), (1, 0, 2), (3, 4, 4), (3, 5, 5), (3, 6, 6), (3, 7, 7), (3, 8, 8), (3, 9, 9), (3, 10, 12), (9, 0, 10), (9, 1, 11), (12, 0, 13), (12, 1, 14), (15, 4, 16), (15, 5, 17), (15, 6, 18), (15, 7, 19), (15, 8, 20), (15, 9, 21), (15, 10, 24), (21, 0, 22), (21, 1, 23), (24, 0, 25), (24, 1, 26), (27, 0, 1), (27, 1, 28), (27, 2, 29), (30, 2, 31), (30, 3, 32), (30, 4, 33), (30, 5, 34), (35, 2, 36), (35, 3, 37), (35, 4, 38), (35, 5, 39), (40, 1, 41), (40, 2, 42), (40, 3, 43), (44, 0, 45), (45, 0, 46), (45, 1, 51), (45, 2, 56), (45, 3, 61), (45, 4, 66), (45, 5, 71), (45, 6, 76), (45, 7, 81), (45, 8, 86), (45, 9, 91), (45, 10, 96), (45, 11, 101), (46, 2, 47), (46, 3, 48), (46, 4, 49), (46, 5, 50), (51, 2, 52), (51, 3, 53), (51, 4, 54), (51, 5, 55), (56, 2, 57), (56, 3, 58), (56, 4, 59), (56, 5, 60), (61, 2, 62), (61, 3, 63), (61, 4, 64), (61, 5, 65), (66, 2, 67), (66, 3, 68), (66, 4, 69), (66, 5, 70), (71, 2, 72), (71, 3, 73), (71, 4, 74), (71, 5, 75), (76, 2, 77), (76, 3, 78), (76, 4, 79), (76, 5, 80), (81, 2, 82), (81, 3, 83), (81, 4, 84), (81, 5, 85), (86, 2, 87), (86, 3, 88), (86, 4, 89), (86, 5, 90), (91, 2, 92), (91, 3, 93), (91, 4, 94), (91, 5, 95), (96, 2, 97), (96, 3, 98), (96, 4, 99), (96, 5, 100), (101, 2, 102), (101, 3, 103), (101, 4, 104), (101, 5, 105), (106, 0, 107), (106, 1, 108), (106, 2, 109), (110, 5, 111), (110, 6, 112), (110, 7, 113), (114, 1, 115), (114, 2, 116), (117, 0, 118), (117, 1, 119), (117, 2, 120), (121, 0, 123), (121, 1, 132), (121, 2, 141), (121, 3, 150), (122, 0, 128), (122, 1, 137), (122, 2, 146), (122, 3, 155), (123, 2, 124), (123, 3, 125), (123, 4, 126), (123, 5, 127), (128, 1, 129), (128, 2, 130), (128, 3, 131), (132, 2, 133), (132, 3, 134), (132, 4, 135), (132, 5, 136), (137, 1, 138), (137, 2, 139), (137, 3, 140), (141, 2, 142), (141, 3, 143), (141, 4, 144), (141, 5, 145), (146, 1, 147), (146, 2, 148), (146, 3, 149), (150, 2, 151), (150, 3, 152), (150, 4, 153), (150, 5, 154), (155, 1, 156), (155, 2, 157), (155, 3, 158)]
def PC (μ : Mem) : Prop := ∀ p ∈ ptC, μ p.1 p.2.1 = rf p.2.2
set_option maxRecDepth 100000 in theorem PC.of {μ μ' : Mem} (h : PC μ) (e : ∀ p ∈ ptC, μ' p.1 p.2.1 = μ p.1 p.2.1) : PC μ' := fun p hp => (e p hp).trans (h p hp)
def pcC : List Nat := [0, 1, 3, 9, 12, 15, 21, 24, 27, 30, 35, 40, 44, 45, 46, 51, 56, 61, 66, 71, 76, 81, 86, 91, 96, 101, 106, 110, 114, 117, 121, 122, 123, 128, 132, 137, 141, 146, 150, 155]
set_option maxRecDepth 100000 in theorem pc_in : ∀ p ∈ ptC, p.1 ∈ pcC := by decide
set_option maxRecDepth 100000 in theorem PC.cells {μ μ' : Mem} (h : PC μ) (e : ∀ a b, a ∈ pcC → μ' a b = μ a b) : PC μ' := h.of (fun p hp => e p.1 p.2.1 (pc_in p hp))
set_option maxRecDepth 100000 in theorem PC.ud0 {μ : Mem} (h : PC μ) {a j : Nat} {v : Int} (ha : a ∉ pcC) : PC (ud μ a j v) := h.cells (fun x y hx => by unfold ud; rw [if_neg (fun z : x = a ∧ y = j => ha (z.1 ▸ hx))])
set_option maxRecDepth 100000 in theorem PC.ud1 {μ : Mem} (h : PC μ) {a j : Nat} {v : Int} (ha : ∀ p ∈ ptC, ¬ (p.1 = a ∧ p.2.1 = j)) : PC (ud μ a j v) := h.of (fun p hp => by unfold ud; rw [if_neg (ha p hp)])
set_option maxRecDepth 100000 in theorem PC.p0_0 {μ : Mem} (h : PC μ) : μ 0 0 = rf 1 := h (0, 0, 1) (by decide)
set_option maxRecDepth 100000 in theorem PC.p0_3 {μ : Mem} (h : PC μ) : μ 0 3 = rf 27 := h (0, 3, 27) (by decide)
set_option maxRecDepth 100000 in theorem PC.p0_4 {μ : Mem} (h : PC μ) : μ 0 4 = rf 30 := h (0, 4, 30) (by decide)
set_option maxRecDepth 100000 in theorem PC.p0_5 {μ : Mem} (h : PC μ) : μ 0 5 = rf 35 := h (0, 5, 35) (by decide)
set_option maxRecDepth 100000 in theorem PC.p0_6 {μ : Mem} (h : PC μ) : μ 0 6 = rf 40 := h (0, 6, 40) (by decide)
set_option maxRecDepth 100000 in theorem PC.p0_7 {μ : Mem} (h : PC μ) : μ 0 7 = rf 44 := h (0, 7, 44) (by decide)
set_option maxRecDepth 100000 in theorem PC.p0_8 {μ : Mem} (h : PC μ) : μ 0 8 = rf 106 := h (0, 8, 106) (by decide)
set_option maxRecDepth 100000 in theorem PC.p0_9 {μ : Mem} (h : PC μ) : μ 0 9 = rf 110 := h (0, 9, 110) (by decide)
set_option maxRecDepth 100000 in theorem PC.p0_10 {μ : Mem} (h : PC μ) : μ 0 10 = rf 114 := h (0, 10, 114) (by decide)
set_option maxRecDepth 100000 in theorem PC.p0_11 {μ : Mem} (h : PC μ) : μ 0 11 = rf 117 := h (0, 11, 117) (by decide)
set_option maxRecDepth 100000 in theorem PC.p0_12 {μ : Mem} (h : PC μ) : μ 0 12 = rf 121 := h (0, 12, 121) (by decide)
set_option maxRecDepth 100000 in theorem PC.p0_13 {μ : Mem} (h : PC μ) : μ 0 13 = rf 122 := h (0, 13, 122) (by decide)
set_option maxRecDepth 100000 in theorem PC.p1_0 {μ : Mem} (h : PC μ) : μ 1 0 = rf 2 := h (1, 0, 2) (by decide)
set_option maxRecDepth 100000 in theorem PC.p3_4 {μ : Mem} (h : PC μ) : μ 3 4 = rf 4 := h (3, 4, 4) (by decide)
set_option maxRecDepth 100000 in theorem PC.p3_5 {μ : Mem} (h : PC μ) : μ 3 5 = rf 5 := h (3, 5, 5) (by decide)
set_option maxRecDepth 100000 in theorem PC.p3_6 {μ : Mem} (h : PC μ) : μ 3 6 = rf 6 := h (3, 6, 6) (by decide)
set_option maxRecDepth 100000 in theorem PC.p3_7 {μ : Mem} (h : PC μ) : μ 3 7 = rf 7 := h (3, 7, 7) (by decide)
set_option maxRecDepth 100000 in theorem PC.p3_8 {μ : Mem} (h : PC μ) : μ 3 8 = rf 8 := h (3, 8, 8) (by decide)
set_option maxRecDepth 100000 in theorem PC.p3_9 {μ : Mem} (h : PC μ) : μ 3 9 = rf 9 := h (3, 9, 9) (by decide)
set_option maxRecDepth 100000 in theorem PC.p3_10 {μ : Mem} (h : PC μ) : μ 3 10 = rf 12 := h (3, 10, 12) (by decide)
set_option maxRecDepth 100000 in theorem PC.p9_0 {μ : Mem} (h : PC μ) : μ 9 0 = rf 10 := h (9, 0, 10) (by decide)
set_option maxRecDepth 100000 in theorem PC.p9_1 {μ : Mem} (h : PC μ) : μ 9 1 = rf 11 := h (9, 1, 11) (by decide)
set_option maxRecDepth 100000 in theorem PC.p12_0 {μ : Mem} (h : PC μ) : μ 12 0 = rf 13 := h (12, 0, 13) (by decide)
set_option maxRecDepth 100000 in theorem PC.p12_1 {μ : Mem} (h : PC μ) : μ 12 1 = rf 14 := h (12, 1, 14) (by decide)
set_option maxRecDepth 100000 in theorem PC.p15_4 {μ : Mem} (h : PC μ) : μ 15 4 = rf 16 := h (15, 4, 16) (by decide)
set_option maxRecDepth 100000 in theorem PC.p15_5 {μ : Mem} (h : PC μ) : μ 15 5 = rf 17 := h (15, 5, 17) (by decide)
set_option maxRecDepth 100000 in theorem PC.p15_6 {μ : Mem} (h : PC μ) : μ 15 6 = rf 18 := h (15, 6, 18) (by decide)
set_option maxRecDepth 100000 in theorem PC.p15_7 {μ : Mem} (h : PC μ) : μ 15 7 = rf 19 := h (15, 7, 19) (by decide)
set_option maxRecDepth 100000 in theorem PC.p15_8 {μ : Mem} (h : PC μ) : μ 15 8 = rf 20 := h (15, 8, 20) (by decide)
set_option maxRecDepth 100000 in theorem PC.p15_9 {μ : Mem} (h : PC μ) : μ 15 9 = rf 21 := h (15, 9, 21) (by decide)
set_option maxRecDepth 100000 in theorem PC.p15_10 {μ : Mem} (h : PC μ) : μ 15 10 = rf 24 := h (15, 10, 24) (by decide)
set_option maxRecDepth 100000 in theorem PC.p21_0 {μ : Mem} (h : PC μ) : μ 21 0 = rf 22 := h (21, 0, 22) (by decide)
set_option maxRecDepth 100000 in theorem PC.p21_1 {μ : Mem} (h : PC μ) : μ 21 1 = rf 23 := h (21, 1, 23) (by decide)
set_option maxRecDepth 100000 in theorem PC.p24_0 {μ : Mem} (h : PC μ) : μ 24 0 = rf 25 := h (24, 0, 25) (by decide)
set_option maxRecDepth 100000 in theorem PC.p24_1 {μ : Mem} (h : PC μ) : μ 24 1 = rf 26 := h (24, 1, 26) (by decide)
set_option maxRecDepth 100000 in theorem PC.p27_0 {μ : Mem} (h : PC μ) : μ 27 0 = rf 1 := h (27, 0, 1) (by decide)
set_option maxRecDepth 100000 in theorem PC.p27_1 {μ : Mem} (h : PC μ) : μ 27 1 = rf 28 := h (27, 1, 28) (by decide)
set_option maxRecDepth 100000 in theorem PC.p27_2 {μ : Mem} (h : PC μ) : μ 27 2 = rf 29 := h (27, 2, 29) (by decide)
set_option maxRecDepth 100000 in theorem PC.p30_2 {μ : Mem} (h : PC μ) : μ 30 2 = rf 31 := h (30, 2, 31) (by decide)
set_option maxRecDepth 100000 in theorem PC.p30_3 {μ : Mem} (h : PC μ) : μ 30 3 = rf 32 := h (30, 3, 32) (by decide)
set_option maxRecDepth 100000 in theorem PC.p30_4 {μ : Mem} (h : PC μ) : μ 30 4 = rf 33 := h (30, 4, 33) (by decide)
set_option maxRecDepth 100000 in theorem PC.p30_5 {μ : Mem} (h : PC μ) : μ 30 5 = rf 34 := h (30, 5, 34) (by decide)
set_option maxRecDepth 100000 in theorem PC.p35_2 {μ : Mem} (h : PC μ) : μ 35 2 = rf 36 := h (35, 2, 36) (by decide)
set_option maxRecDepth 100000 in theorem PC.p35_3 {μ : Mem} (h : PC μ) : μ 35 3 = rf 37 := h (35, 3, 37) (by decide)
set_option maxRecDepth 100000 in theorem PC.p35_4 {μ : Mem} (h : PC μ) : μ 35 4 = rf 38 := h (35, 4, 38) (by decide)
set_option maxRecDepth 100000 in theorem PC.p35_5 {μ : Mem} (h : PC μ) : μ 35 5 = rf 39 := h (35, 5, 39) (by decide)
set_option maxRecDepth 100000 in theorem PC.p40_1 {μ : Mem} (h : PC μ) : μ 40 1 = rf 41 := h (40, 1, 41) (by decide)
set_option maxRecDepth 100000 in theorem PC.p40_2 {μ : Mem} (h : PC μ) : μ 40 2 = rf 42 := h (40, 2, 42) (by decide)
set_option maxRecDepth 100000 in theorem PC.p40_3 {μ : Mem} (h : PC μ) : μ 40 3 = rf 43 := h (40, 3, 43) (by decide)
set_option maxRecDepth 100000 in theorem PC.p44_0 {μ : Mem} (h : PC μ) : μ 44 0 = rf 45 := h (44, 0, 45) (by decide)
set_option maxRecDepth 100000 in theorem PC.p45_0 {μ : Mem} (h : PC μ) : μ 45 0 = rf 46 := h (45, 0, 46) (by decide)
set_option maxRecDepth 100000 in theorem PC.p45_1 {μ : Mem} (h : PC μ) : μ 45 1 = rf 51 := h (45, 1, 51) (by decide)
set_option maxRecDepth 100000 in theorem PC.p45_2 {μ : Mem} (h : PC μ) : μ 45 2 = rf 56 := h (45, 2, 56) (by decide)
set_option maxRecDepth 100000 in theorem PC.p45_3 {μ : Mem} (h : PC μ) : μ 45 3 = rf 61 := h (45, 3, 61) (by decide)
set_option maxRecDepth 100000 in theorem PC.p45_4 {μ : Mem} (h : PC μ) : μ 45 4 = rf 66 := h (45, 4, 66) (by decide)
set_option maxRecDepth 100000 in theorem PC.p45_5 {μ : Mem} (h : PC μ) : μ 45 5 = rf 71 := h (45, 5, 71) (by decide)
set_option maxRecDepth 100000 in theorem PC.p45_6 {μ : Mem} (h : PC μ) : μ 45 6 = rf 76 := h (45, 6, 76) (by decide)
set_option maxRecDepth 100000 in theorem PC.p45_7 {μ : Mem} (h : PC μ) : μ 45 7 = rf 81 := h (45, 7, 81) (by decide)
set_option maxRecDepth 100000 in theorem PC.p45_8 {μ : Mem} (h : PC μ) : μ 45 8 = rf 86 := h (45, 8, 86) (by decide)
set_option maxRecDepth 100000 in theorem PC.p45_9 {μ : Mem} (h : PC μ) : μ 45 9 = rf 91 := h (45, 9, 91) (by decide)
set_option maxRecDepth 100000 in theorem PC.p45_10 {μ : Mem} (h : PC μ) : μ 45 10 = rf 96 := h (45, 10, 96) (by decide)
set_option maxRecDepth 100000 in theorem PC.p45_11 {μ : Mem} (h : PC μ) : μ 45 11 = rf 101 := h (45, 11, 101) (by decide)
set_option maxRecDepth 100000 in theorem PC.p46_2 {μ : Mem} (h : PC μ) : μ 46 2 = rf 47 := h (46, 2, 47) (by decide)
set_option maxRecDepth 100000 in theorem PC.p46_3 {μ : Mem} (h : PC μ) : μ 46 3 = rf 48 := h (46, 3, 48) (by decide)
set_option maxRecDepth 100000 in theorem PC.p46_4 {μ : Mem} (h : PC μ) : μ 46 4 = rf 49 := h (46, 4, 49) (by decide)
set_option maxRecDepth 100000 in theorem PC.p46_5 {μ : Mem} (h : PC μ) : μ 46 5 = rf 50 := h (46, 5, 50) (by decide)
set_option maxRecDepth 100000 in theorem PC.p51_2 {μ : Mem} (h : PC μ) : μ 51 2 = rf 52 := h (51, 2, 52) (by decide)
set_option maxRecDepth 100000 in theorem PC.p51_3 {μ : Mem} (h : PC μ) : μ 51 3 = rf 53 := h (51, 3, 53) (by decide)
set_option maxRecDepth 100000 in theorem PC.p51_4 {μ : Mem} (h : PC μ) : μ 51 4 = rf 54 := h (51, 4, 54) (by decide)
set_option maxRecDepth 100000 in theorem PC.p51_5 {μ : Mem} (h : PC μ) : μ 51 5 = rf 55 := h (51, 5, 55) (by decide)
set_option maxRecDepth 100000 in theorem PC.p56_2 {μ : Mem} (h : PC μ) : μ 56 2 = rf 57 := h (56, 2, 57) (by decide)
set_option maxRecDepth 100000 in theorem PC.p56_3 {μ : Mem} (h : PC μ) : μ 56 3 = rf 58 := h (56, 3, 58) (by decide)
set_option maxRecDepth 100000 in theorem PC.p56_4 {μ : Mem} (h : PC μ) : μ 56 4 = rf 59 := h (56, 4, 59) (by decide)
set_option maxRecDepth 100000 in theorem PC.p56_5 {μ : Mem} (h : PC μ) : μ 56 5 = rf 60 := h (56, 5, 60) (by decide)
set_option maxRecDepth 100000 in theorem PC.p61_2 {μ : Mem} (h : PC μ) : μ 61 2 = rf 62 := h (61, 2, 62) (by decide)
set_option maxRecDepth 100000 in theorem PC.p61_3 {μ : Mem} (h : PC μ) : μ 61 3 = rf 63 := h (61, 3, 63) (by decide)
set_option maxRecDepth 100000 in theorem PC.p61_4 {μ : Mem} (h : PC μ) : μ 61 4 = rf 64 := h (61, 4, 64) (by decide)
set_option maxRecDepth 100000 in theorem PC.p61_5 {μ : Mem} (h : PC μ) : μ 61 5 = rf 65 := h (61, 5, 65) (by decide)
set_option maxRecDepth 100000 in theorem PC.p66_2 {μ : Mem} (h : PC μ) : μ 66 2 = rf 67 := h (66, 2, 67) (by decide)
set_option maxRecDepth 100000 in theorem PC.p66_3 {μ : Mem} (h : PC μ) : μ 66 3 = rf 68 := h (66, 3, 68) (by decide)
set_option maxRecDepth 100000 in theorem PC.p66_4 {μ : Mem} (h : PC μ) : μ 66 4 = rf 69 := h (66, 4, 69) (by decide)
set_option maxRecDepth 100000 in theorem PC.p66_5 {μ : Mem} (h : PC μ) : μ 66 5 = rf 70 := h (66, 5, 70) (by decide)
set_option maxRecDepth 100000 in theorem PC.p71_2 {μ : Mem} (h : PC μ) : μ 71 2 = rf 72 := h (71, 2, 72) (by decide)
set_option maxRecDepth 100000 in theorem PC.p71_3 {μ : Mem} (h : PC μ) : μ 71 3 = rf 73 := h (71, 3, 73) (by decide)
set_option maxRecDepth 100000 in theorem PC.p71_4 {μ : Mem} (h : PC μ) : μ 71 4 = rf 74 := h (71, 4, 74) (by decide)
set_option maxRecDepth 100000 in theorem PC.p71_5 {μ : Mem} (h : PC μ) : μ 71 5 = rf 75 := h (71, 5, 75) (by decide)
set_option maxRecDepth 100000 in theorem PC.p76_2 {μ : Mem} (h : PC μ) : μ 76 2 = rf 77 := h (76, 2, 77) (by decide)
set_option maxRecDepth 100000 in theorem PC.p76_3 {μ : Mem} (h : PC μ) : μ 76 3 = rf 78 := h (76, 3, 78) (by decide)
set_option maxRecDepth 100000 in theorem PC.p76_4 {μ : Mem} (h : PC μ) : μ 76 4 = rf 79 := h (76, 4, 79) (by decide)
set_option maxRecDepth 100000 in theorem PC.p76_5 {μ : Mem} (h : PC μ) : μ 76 5 = rf 80 := h (76, 5, 80) (by decide)
set_option maxRecDepth 100000 in theorem PC.p81_2 {μ : Mem} (h : PC μ) : μ 81 2 = rf 82 := h (81, 2, 82) (by decide)
set_option maxRecDepth 100000 in theorem PC.p81_3 {μ : Mem} (h : PC μ) : μ 81 3 = rf 83 := h (81, 3, 83) (by decide)
set_option maxRecDepth 100000 in theorem PC.p81_4 {μ : Mem} (h : PC μ) : μ 81 4 = rf 84 := h (81, 4, 84) (by decide)
set_option maxRecDepth 100000 in theorem PC.p81_5 {μ : Mem} (h : PC μ) : μ 81 5 = rf 85 := h (81, 5, 85) (by decide)
set_option maxRecDepth 100000 in theorem PC.p86_2 {μ : Mem} (h : PC μ) : μ 86 2 = rf 87 := h (86, 2, 87) (by decide)
set_option maxRecDepth 100000 in theorem PC.p86_3 {μ : Mem} (h : PC μ) : μ 86 3 = rf 88 := h (86, 3, 88) (by decide)
set_option maxRecDepth 100000 in theorem PC.p86_4 {μ : Mem} (h : PC μ) : μ 86 4 = rf 89 := h (86, 4, 89) (by decide)
set_option maxRecDepth 100000 in theorem PC.p86_5 {μ : Mem} (h : PC μ) : μ 86 5 = rf 90 := h (86, 5, 90) (by decide)
set_option maxRecDepth 100000 in theorem PC.p91_2 {μ : Mem} (h : PC μ) : μ 91 2 = rf 92 := h (91, 2, 92) (by decide)
set_option maxRecDepth 100000 in theorem PC.p91_3 {μ : Mem} (h : PC μ) : μ 91 3 = rf 93 := h (91, 3, 93) (by decide)
set_option maxRecDepth 100000 in theorem PC.p91_4 {μ : Mem} (h : PC μ) : μ 91 4 = rf 94 := h (91, 4, 94) (by decide)
set_option maxRecDepth 100000 in theorem PC.p91_5 {μ : Mem} (h : PC μ) : μ 91 5 = rf 95 := h (91, 5, 95) (by decide)
set_option maxRecDepth 100000 in theorem PC.p96_2 {μ : Mem} (h : PC μ) : μ 96 2 = rf 97 := h (96, 2, 97) (by decide)
set_option maxRecDepth 100000 in theorem PC.p96_3 {μ : Mem} (h : PC μ) : μ 96 3 = rf 98 := h (96, 3, 98) (by decide)
set_option maxRecDepth 100000 in theorem PC.p96_4 {μ : Mem} (h : PC μ) : μ 96 4 = rf 99 := h (96, 4, 99) (by decide)
set_option maxRecDepth 100000 in theorem PC.p96_5 {μ : Mem} (h : PC μ) : μ 96 5 = rf 100 := h (96, 5, 100) (by decide)
set_option maxRecDepth 100000 in theorem PC.p101_2 {μ : Mem} (h : PC μ) : μ 101 2 = rf 102 := h (101, 2, 102) (by decide)
set_option maxRecDepth 100000 in theorem PC.p101_3 {μ : Mem} (h : PC μ) : μ 101 3 = rf 103 := h (101, 3, 103) (by decide)
set_option maxRecDepth 100000 in theorem PC.p101_4 {μ : Mem} (h : PC μ) : μ 101 4 = rf 104 := h (101, 4, 104) (by decide)
set_option maxRecDepth 100000 in theorem PC.p101_5 {μ : Mem} (h : PC μ) : μ 101 5 = rf 105 := h (101, 5, 105) (by decide)
set_option maxRecDepth 100000 in theorem PC.p106_0 {μ : Mem} (h : PC μ) : μ 106 0 = rf 107 := h (106, 0, 107) (by decide)
set_option maxRecDepth 100000 in theorem PC.p106_1 {μ : Mem} (h : PC μ) : μ 106 1 = rf 108 := h (106, 1, 108) (by decide)
set_option maxRecDepth 100000 in theorem PC.p106_2 {μ : Mem} (h : PC μ) : μ 106 2 = rf 109 := h (106, 2, 109) (by decide)
set_option maxRecDepth 100000 in theorem PC.p110_5 {μ : Mem} (h : PC μ) : μ 110 5 = rf 111 := h (110, 5, 111) (by decide)
set_option maxRecDepth 100000 in theorem PC.p110_6 {μ : Mem} (h : PC μ) : μ 110 6 = rf 112 := h (110, 6, 112) (by decide)
set_option maxRecDepth 100000 in theorem PC.p110_7 {μ : Mem} (h : PC μ) : μ 110 7 = rf 113 := h (110, 7, 113) (by decide)
set_option maxRecDepth 100000 in theorem PC.p114_1 {μ : Mem} (h : PC μ) : μ 114 1 = rf 115 := h (114, 1, 115) (by decide)
set_option maxRecDepth 100000 in theorem PC.p114_2 {μ : Mem} (h : PC μ) : μ 114 2 = rf 116 := h (114, 2, 116) (by decide)
set_option maxRecDepth 100000 in theorem PC.p117_0 {μ : Mem} (h : PC μ) : μ 117 0 = rf 118 := h (117, 0, 118) (by decide)
set_option maxRecDepth 100000 in theorem PC.p117_1 {μ : Mem} (h : PC μ) : μ 117 1 = rf 119 := h (117, 1, 119) (by decide)
set_option maxRecDepth 100000 in theorem PC.p117_2 {μ : Mem} (h : PC μ) : μ 117 2 = rf 120 := h (117, 2, 120) (by decide)
set_option maxRecDepth 100000 in theorem PC.p121_0 {μ : Mem} (h : PC μ) : μ 121 0 = rf 123 := h (121, 0, 123) (by decide)
set_option maxRecDepth 100000 in theorem PC.p121_1 {μ : Mem} (h : PC μ) : μ 121 1 = rf 132 := h (121, 1, 132) (by decide)
set_option maxRecDepth 100000 in theorem PC.p121_2 {μ : Mem} (h : PC μ) : μ 121 2 = rf 141 := h (121, 2, 141) (by decide)
set_option maxRecDepth 100000 in theorem PC.p121_3 {μ : Mem} (h : PC μ) : μ 121 3 = rf 150 := h (121, 3, 150) (by decide)
set_option maxRecDepth 100000 in theorem PC.p122_0 {μ : Mem} (h : PC μ) : μ 122 0 = rf 128 := h (122, 0, 128) (by decide)
set_option maxRecDepth 100000 in theorem PC.p122_1 {μ : Mem} (h : PC μ) : μ 122 1 = rf 137 := h (122, 1, 137) (by decide)
set_option maxRecDepth 100000 in theorem PC.p122_2 {μ : Mem} (h : PC μ) : μ 122 2 = rf 146 := h (122, 2, 146) (by decide)
set_option maxRecDepth 100000 in theorem PC.p122_3 {μ : Mem} (h : PC μ) : μ 122 3 = rf 155 := h (122, 3, 155) (by decide)
set_option maxRecDepth 100000 in theorem PC.p123_2 {μ : Mem} (h : PC μ) : μ 123 2 = rf 124 := h (123, 2, 124) (by decide)
set_option maxRecDepth 100000 in theorem PC.p123_3 {μ : Mem} (h : PC μ) : μ 123 3 = rf 125 := h (123, 3, 125) (by decide)
set_option maxRecDepth 100000 in theorem PC.p123_4 {μ : Mem} (h : PC μ) : μ 123 4 = rf 126 := h (123, 4, 126) (by decide)
set_option maxRecDepth 100000 in theorem PC.p123_5 {μ : Mem} (h : PC μ) : μ 123 5 = rf 127 := h (123, 5, 127) (by decide)
set_option maxRecDepth 100000 in theorem PC.p128_1 {μ : Mem} (h : PC μ) : μ 128 1 = rf 129 := h (128, 1, 129) (by decide)
set_option maxRecDepth 100000 in theorem PC.p128_2 {μ : Mem} (h : PC μ) : μ 128 2 = rf 130 := h (128, 2, 130) (by decide)
set_option maxRecDepth 100000 in theorem PC.p128_3 {μ : Mem} (h : PC μ) : μ 128 3 = rf 131 := h (128, 3, 131) (by decide)
set_option maxRecDepth 100000 in theorem PC.p132_2 {μ : Mem} (h : PC μ) : μ 132 2 = rf 133 := h (132, 2, 133) (by decide)
set_option maxRecDepth 100000 in theorem PC.p132_3 {μ : Mem} (h : PC μ) : μ 132 3 = rf 134 := h (132, 3, 134) (by decide)
set_option maxRecDepth 100000 in theorem PC.p132_4 {μ : Mem} (h : PC μ) : μ 132 4 = rf 135 := h (132, 4, 135) (by decide)
set_option maxRecDepth 100000 in theorem PC.p132_5 {μ : Mem} (h : PC μ) : μ 132 5 = rf 136 := h (132, 5, 136) (by decide)
set_option maxRecDepth 100000 in theorem PC.p137_1 {μ : Mem} (h : PC μ) : μ 137 1 = rf 138 := h (137, 1, 138) (by decide)
set_option maxRecDepth 100000 in theorem PC.p137_2 {μ : Mem} (h : PC μ) : μ 137 2 = rf 139 := h (137, 2, 139) (by decide)
set_option maxRecDepth 100000 in theorem PC.p137_3 {μ : Mem} (h : PC μ) : μ 137 3 = rf 140 := h (137, 3, 140) (by decide)
set_option maxRecDepth 100000 in theorem PC.p141_2 {μ : Mem} (h : PC μ) : μ 141 2 = rf 142 := h (141, 2, 142) (by decide)
set_option maxRecDepth 100000 in theorem PC.p141_3 {μ : Mem} (h : PC μ) : μ 141 3 = rf 143 := h (141, 3, 143) (by decide)
set_option maxRecDepth 100000 in theorem PC.p141_4 {μ : Mem} (h : PC μ) : μ 141 4 = rf 144 := h (141, 4, 144) (by decide)
set_option maxRecDepth 100000 in theorem PC.p141_5 {μ : Mem} (h : PC μ) : μ 141 5 = rf 145 := h (141, 5, 145) (by decide)
set_option maxRecDepth 100000 in theorem PC.p146_1 {μ : Mem} (h : PC μ) : μ 146 1 = rf 147 := h (146, 1, 147) (by decide)
set_option maxRecDepth 100000 in theorem PC.p146_2 {μ : Mem} (h : PC μ) : μ 146 2 = rf 148 := h (146, 2, 148) (by decide)
set_option maxRecDepth 100000 in theorem PC.p146_3 {μ : Mem} (h : PC μ) : μ 146 3 = rf 149 := h (146, 3, 149) (by decide)
set_option maxRecDepth 100000 in theorem PC.p150_2 {μ : Mem} (h : PC μ) : μ 150 2 = rf 151 := h (150, 2, 151) (by decide)
set_option maxRecDepth 100000 in theorem PC.p150_3 {μ : Mem} (h : PC μ) : μ 150 3 = rf 152 := h (150, 3, 152) (by decide)
set_option maxRecDepth 100000 in theorem PC.p150_4 {μ : Mem} (h : PC μ) : μ 150 4 = rf 153 := h (150, 4, 153) (by decide)
set_option maxRecDepth 100000 in theorem PC.p150_5 {μ : Mem} (h : PC μ) : μ 150 5 = rf 154 := h (150, 5, 154) (by decide)
set_option maxRecDepth 100000 in theorem PC.p155_1 {μ : Mem} (h : PC μ) : μ 155 1 = rf 156 := h (155, 1, 156) (by decide)
set_option maxRecDepth 100000 in theorem PC.p155_2 {μ : Mem} (h : PC μ) : μ 155 2 = rf 157 := h (155, 2, 157) (by decide)
set_option maxRecDepth 100000 in theorem PC.p155_3 {μ : Mem} (h : PC μ) : μ 155 3 = rf 158 := h (155, 3, 158) (by decide)
set_option maxRecDepth 100000 in theorem PC.fl3 {μ : Mem} (h : PC μ) : ObFl shC μ 3 := ⟨rfl, rfl, rfl, rfl, rfl, rfl, rfl, rfl, rfl, rfl, rfl, rfl, h.p3_4, h.p3_5, h.p3_6, h.p3_7, h.p3_8, h.p3_9, h.p3_10, h.p9_0, h.p9_1, h.p12_0, h.p12_1⟩
set_option maxRecDepth 100000 in theorem PC.fl15 {μ : Mem} (h : PC μ) : ObFl shC μ 15 := ⟨rfl, rfl, rfl, rfl, rfl, rfl, rfl, rfl, rfl, rfl, rfl, rfl, h.p15_4, h.p15_5, h.p15_6, h.p15_7, h.p15_8, h.p15_9, h.p15_10, h.p21_0, h.p21_1, h.p24_0, h.p24_1⟩
set_option maxRecDepth 100000 in theorem PC.ly30 {μ : Mem} (h : PC μ) : ObLy shC μ 30 := ⟨rfl, rfl, rfl, rfl, rfl, h.p30_2, h.p30_3, h.p30_4, h.p30_5⟩
set_option maxRecDepth 100000 in theorem PC.ly35 {μ : Mem} (h : PC μ) : ObLy shC μ 35 := ⟨rfl, rfl, rfl, rfl, rfl, h.p35_2, h.p35_3, h.p35_4, h.p35_5⟩
set_option maxRecDepth 100000 in theorem PC.ly46 {μ : Mem} (h : PC μ) : ObLy shC μ 46 := ⟨rfl, rfl, rfl, rfl, rfl, h.p46_2, h.p46_3, h.p46_4, h.p46_5⟩
set_option maxRecDepth 100000 in theorem PC.ly51 {μ : Mem} (h : PC μ) : ObLy shC μ 51 := ⟨rfl, rfl, rfl, rfl, rfl, h.p51_2, h.p51_3, h.p51_4, h.p51_5⟩
set_option maxRecDepth 100000 in theorem PC.ly56 {μ : Mem} (h : PC μ) : ObLy shC μ 56 := ⟨rfl, rfl, rfl, rfl, rfl, h.p56_2, h.p56_3, h.p56_4, h.p56_5⟩
set_option maxRecDepth 100000 in theorem PC.ly61 {μ : Mem} (h : PC μ) : ObLy shC μ 61 := ⟨rfl, rfl, rfl, rfl, rfl, h.p61_2, h.p61_3, h.p61_4, h.p61_5⟩
set_option maxRecDepth 100000 in theorem PC.ly66 {μ : Mem} (h : PC μ) : ObLy shC μ 66 := ⟨rfl, rfl, rfl, rfl, rfl, h.p66_2, h.p66_3, h.p66_4, h.p66_5⟩
set_option maxRecDepth 100000 in theorem PC.ly71 {μ : Mem} (h : PC μ) : ObLy shC μ 71 := ⟨rfl, rfl, rfl, rfl, rfl, h.p71_2, h.p71_3, h.p71_4, h.p71_5⟩
set_option maxRecDepth 100000 in theorem PC.ly76 {μ : Mem} (h : PC μ) : ObLy shC μ 76 := ⟨rfl, rfl, rfl, rfl, rfl, h.p76_2, h.p76_3, h.p76_4, h.p76_5⟩
set_option maxRecDepth 100000 in theorem PC.ly81 {μ : Mem} (h : PC μ) : ObLy shC μ 81 := ⟨rfl, rfl, rfl, rfl, rfl, h.p81_2, h.p81_3, h.p81_4, h.p81_5⟩
set_option maxRecDepth 100000 in theorem PC.ly86 {μ : Mem} (h : PC μ) : ObLy shC μ 86 := ⟨rfl, rfl, rfl, rfl, rfl, h.p86_2, h.p86_3, h.p86_4, h.p86_5⟩
set_option maxRecDepth 100000 in theorem PC.ly91 {μ : Mem} (h : PC μ) : ObLy shC μ 91 := ⟨rfl, rfl, rfl, rfl, rfl, h.p91_2, h.p91_3, h.p91_4, h.p91_5⟩
set_option maxRecDepth 100000 in theorem PC.ly96 {μ : Mem} (h : PC μ) : ObLy shC μ 96 := ⟨rfl, rfl, rfl, rfl, rfl, h.p96_2, h.p96_3, h.p96_4, h.p96_5⟩
set_option maxRecDepth 100000 in theorem PC.ly101 {μ : Mem} (h : PC μ) : ObLy shC μ 101 := ⟨rfl, rfl, rfl, rfl, rfl, h.p101_2, h.p101_3, h.p101_4, h.p101_5⟩
set_option maxRecDepth 100000 in theorem PC.ly123 {μ : Mem} (h : PC μ) : ObLy shC μ 123 := ⟨rfl, rfl, rfl, rfl, rfl, h.p123_2, h.p123_3, h.p123_4, h.p123_5⟩
set_option maxRecDepth 100000 in theorem PC.ly132 {μ : Mem} (h : PC μ) : ObLy shC μ 132 := ⟨rfl, rfl, rfl, rfl, rfl, h.p132_2, h.p132_3, h.p132_4, h.p132_5⟩
set_option maxRecDepth 100000 in theorem PC.ly141 {μ : Mem} (h : PC μ) : ObLy shC μ 141 := ⟨rfl, rfl, rfl, rfl, rfl, h.p141_2, h.p141_3, h.p141_4, h.p141_5⟩
set_option maxRecDepth 100000 in theorem PC.ly150 {μ : Mem} (h : PC μ) : ObLy shC μ 150 := ⟨rfl, rfl, rfl, rfl, rfl, h.p150_2, h.p150_3, h.p150_4, h.p150_5⟩
def ObFg (sh : Shp) (μ : Mem) (k : Nat) : Prop := sh[k]? = some (2, 0) ∧ sh[k + 1]? = some (100, 24) ∧ sh[k + 2]? = some (100, 24) ∧ sh[k + 3]? = some (100, 24) ∧ μ k 1 = rf (k + 1) ∧ μ k 2 = rf (k + 2) ∧ μ k 3 = rf (k + 3)
set_option maxRecDepth 100000 in theorem PC.fg40 {μ : Mem} (h : PC μ) : ObFg shC μ 40 := ⟨rfl, rfl, rfl, rfl, h.p40_1, h.p40_2, h.p40_3⟩
set_option maxRecDepth 100000 in theorem PC.fg128 {μ : Mem} (h : PC μ) : ObFg shC μ 128 := ⟨rfl, rfl, rfl, rfl, h.p128_1, h.p128_2, h.p128_3⟩
set_option maxRecDepth 100000 in theorem PC.fg137 {μ : Mem} (h : PC μ) : ObFg shC μ 137 := ⟨rfl, rfl, rfl, rfl, h.p137_1, h.p137_2, h.p137_3⟩
set_option maxRecDepth 100000 in theorem PC.fg146 {μ : Mem} (h : PC μ) : ObFg shC μ 146 := ⟨rfl, rfl, rfl, rfl, h.p146_1, h.p146_2, h.p146_3⟩
set_option maxRecDepth 100000 in theorem PC.fg155 {μ : Mem} (h : PC μ) : ObFg shC μ 155 := ⟨rfl, rfl, rfl, rfl, h.p155_1, h.p155_2, h.p155_3⟩
set_option maxRecDepth 100000 in theorem PC.past {μ : Mem} (h : PC μ) : ∀ {i : Nat}, i < 12 → μ 45 i = rf (46 + 5 * i) ∧ ObLy shC μ (46 + 5 * i)
  | 0, _ => ⟨h.p45_0, h.ly46⟩
  | 1, _ => ⟨h.p45_1, h.ly51⟩
  | 2, _ => ⟨h.p45_2, h.ly56⟩
  | 3, _ => ⟨h.p45_3, h.ly61⟩
  | 4, _ => ⟨h.p45_4, h.ly66⟩
  | 5, _ => ⟨h.p45_5, h.ly71⟩
  | 6, _ => ⟨h.p45_6, h.ly76⟩
  | 7, _ => ⟨h.p45_7, h.ly81⟩
  | 8, _ => ⟨h.p45_8, h.ly86⟩
  | 9, _ => ⟨h.p45_9, h.ly91⟩
  | 10, _ => ⟨h.p45_10, h.ly96⟩
  | 11, _ => ⟨h.p45_11, h.ly101⟩
  | n + 12, hn => absurd hn (by omega)
set_option maxRecDepth 100000 in theorem PC.mark {μ : Mem} (h : PC μ) : ∀ {i : Nat}, i < 4 → μ 121 i = rf (123 + 9 * i) ∧ μ 122 i = rf (128 + 9 * i) ∧ ObLy shC μ (123 + 9 * i) ∧ ObFg shC μ (128 + 9 * i)
  | 0, _ => ⟨h.p121_0, h.p122_0, h.ly123, h.fg128⟩
  | 1, _ => ⟨h.p121_1, h.p122_1, h.ly132, h.fg137⟩
  | 2, _ => ⟨h.p121_2, h.p122_2, h.ly141, h.fg146⟩
  | 3, _ => ⟨h.p121_3, h.p122_3, h.ly150, h.fg155⟩
  | n + 4, hn => absurd hn (by omega)
def HD (μ : Mem) (h d : Nat) : Prop := (h = 3 ∧ d = 15 ∨ h = 15 ∧ d = 3) ∧ μ 0 1 = rf h ∧ μ 0 2 = rf d
set_option maxRecDepth 100000 in theorem PC.fl {μ : Mem} {h d : Nat} (q : PC μ) (hd : HD μ h d) : ObFl shC μ h := by
  obtain ⟨⟨rfl, rfl⟩ | ⟨rfl, rfl⟩, -, -⟩ := hd
  · exact q.fl3
  · exact q.fl15
set_option maxRecDepth 100000 in theorem PC.fd {μ : Mem} {h d : Nat} (q : PC μ) (hd : HD μ h d) : ObFl shC μ d := by
  obtain ⟨⟨rfl, rfl⟩ | ⟨rfl, rfl⟩, -, -⟩ := hd
  · exact q.fl15
  · exact q.fl3
def ptM : List (Nat × Nat) := [(0, 1), (0, 4), (0, 5), (0, 6), (0, 9), (0, 10), (0, 11), (0, 12), (0, 15), (0, 16), (0, 19), (0, 20), (0, 21), (0, 22), (0, 23), (0, 25), (0, 26), (0, 27), (0, 29), (0, 30), (0, 31), (5, 0), (5, 1), (5, 2), (5, 3), (5, 4), (5, 5), (5, 6), (5, 7), (5, 8), (5, 9), (5, 10), (5, 11), (5, 12), (5, 13), (5, 14), (5, 15), (5, 16), (5, 17), (5, 18), (5, 19), (5, 20), (5, 21), (5, 22), (5, 23), (11, 0), (11, 1), (11, 2), (11, 3), (11, 4), (11, 5), (11, 6), (11, 7), (12, 0), (12, 1), (12, 2), (12, 3), (12, 4), (12, 5)]
set_option maxRecDepth 100000 in theorem PM.keep {μ μ' : Mem} {S : Nat → Nat → Prop} (h : PM μ) (e : ∀ a b, ¬ S a b → μ' a b = μ a b) (hs : ∀ p ∈ ptM, ¬ S p.1 p.2) : PM μ' := by
  have q : ∀ a b, (a, b) ∈ ptM → μ' a b = μ a b := fun a b hp => e a b (hs (a, b) hp)
  unfold PM PMp PMw at *
  simp only [q 0 1 (by decide), q 0 4 (by decide), q 0 5 (by decide), q 0 6 (by decide), q 0 9 (by decide), q 0 10 (by decide), q 0 11 (by decide), q 0 12 (by decide), q 0 15 (by decide), q 0 16 (by decide), q 0 19 (by decide), q 0 20 (by decide), q 0 21 (by decide), q 0 22 (by decide), q 0 23 (by decide), q 0 25 (by decide), q 0 26 (by decide), q 0 27 (by decide), q 0 29 (by decide), q 0 30 (by decide), q 0 31 (by decide), q 5 0 (by decide), q 5 1 (by decide), q 5 2 (by decide), q 5 3 (by decide), q 5 4 (by decide), q 5 5 (by decide), q 5 6 (by decide), q 5 7 (by decide), q 5 8 (by decide), q 5 9 (by decide), q 5 10 (by decide), q 5 11 (by decide), q 5 12 (by decide), q 5 13 (by decide), q 5 14 (by decide), q 5 15 (by decide), q 5 16 (by decide), q 5 17 (by decide), q 5 18 (by decide), q 5 19 (by decide), q 5 20 (by decide), q 5 21 (by decide), q 5 22 (by decide), q 5 23 (by decide), q 11 0 (by decide), q 11 1 (by decide), q 11 2 (by decide), q 11 3 (by decide), q 11 4 (by decide), q 11 5 (by decide), q 11 6 (by decide), q 11 7 (by decide), q 12 0 (by decide), q 12 1 (by decide), q 12 2 (by decide), q 12 3 (by decide), q 12 4 (by decide), q 12 5 (by decide)]
  exact h
