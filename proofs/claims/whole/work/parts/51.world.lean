/-! The heap behind the makers: kinds and sizes, references that never change; printed by a program of ours. -/
def H0 : List (Nat × Nat) := [(0, 9), (1, 8), (100, 600), (100, 3), (202, 2), (203, 2), (204, 2), (2, 9), (100, 8), (100, 8), (100, 8), (100, 6), (100, 6), (100, 6), (3, 4), (100, 40), (100, 40), (100, 40), (4, 3), (100, 8), (100, 8), (2, 9), (100, 8), (100, 8), (100, 8), (100, 6), (100, 6), (100, 6), (3, 4), (100, 40), (100, 40), (100, 40), (4, 3), (100, 8), (100, 8), (201, 3), (102, 3), (5, 11), (2, 9), (100, 8), (100, 8), (100, 8), (100, 6), (100, 6), (100, 6), (3, 4), (100, 40), (100, 40), (100, 40), (4, 3), (100, 8), (100, 8), (6, 6), (100, 0), (100, 2), (100, 2), (7, 15), (100, 6), (100, 48), (2, 9), (100, 8), (100, 8), (100, 8), (100, 6), (100, 6), (100, 6), (8, 6), (100, 8), (100, 4), (100, 4), (7, 15), (100, 6), (100, 48), (2, 9), (100, 8), (100, 8), (100, 8), (100, 6), (100, 6), (100, 6), (9, 7), (100, 8), (100, 256), (102, 256), (100, 8), (10, 2), (100, 4), (100, 4), (11, 4), (100, 60), (100, 60), (1, 8), (100, 600), (100, 3), (202, 2), (203, 2), (204, 2), (2, 9), (100, 8), (100, 8), (100, 8), (100, 6), (100, 6), (100, 6), (3, 4), (100, 40), (100, 40), (100, 40), (4, 3), (100, 8), (100, 8), (2, 9), (100, 8), (100, 8), (100, 8), (100, 6), (100, 6), (100, 6), (3, 4), (100, 40), (100, 40), (100, 40), (4, 3), (100, 8), (100, 8), (1, 8), (100, 600), (100, 3), (202, 2), (203, 2), (204, 2), (2, 9), (100, 8), (100, 8), (100, 8), (100, 6), (100, 6), (100, 6), (3, 4), (100, 40), (100, 40), (100, 40), (4, 3), (100, 8), (100, 8), (2, 9), (100, 8), (100, 8), (100, 8), (100, 6), (100, 6), (100, 6), (3, 4), (100, 40), (100, 40), (100, 40), (4, 3), (100, 8), (100, 8), (1, 8), (100, 600), (100, 3), (202, 2), (203, 2), (204, 2), (2, 9), (100, 8), (100, 8), (100, 8), (100, 6), (100, 6), (100, 6), (3, 4), (100, 40), (100, 40), (100, 40), (4, 3), (100, 8), (100, 8), (2, 9), (100, 8), (100, 8), (100, 8), (100, 6), (100, 6), (100, 6), (3, 4), (100, 40), (100, 40), (100, 40), (4, 3), (100, 8), (100, 8), (12, 51), (101, 2400), (100, 4), (100, 4), (100, 4), (100, 12), (100, 360), (100, 968), (100, 136), (100, 121), (100, 3), (100, 6), (100, 48), (100, 48), (100, 8), (100, 4), (100, 4), (102, 256), (100, 60), (100, 256), (100, 256), (100, 5), (100, 5), (100, 8), (102, 3)]
def R0 : List (Nat × Nat × Nat) := [(0, 0, 1), (0, 1, 35), (0, 2, 36), (0, 3, 37), (0, 4, 56), (0, 5, 66), (0, 6, 80), (0, 7, 85), (0, 8, 88), (1, 0, 2), (1, 1, 3), (1, 2, 4), (1, 3, 5), (1, 4, 6), (4, 0, 7), (4, 1, 21), (5, 0, 14), (5, 1, 28), (6, 0, 18), (6, 1, 32), (7, 0, 8), (7, 1, 9), (7, 2, 10), (7, 3, 11), (7, 4, 12), (7, 5, 13), (14, 0, 15), (14, 1, 16), (14, 2, 17), (18, 0, 19), (18, 1, 20), (21, 0, 22), (21, 1, 23), (21, 2, 24), (21, 3, 25), (21, 4, 26), (21, 5, 27), (28, 0, 29), (28, 1, 30), (28, 2, 31), (32, 0, 33), (32, 1, 34), (35, 0, 91), (35, 1, 125), (35, 2, 159), (37, 0, 38), (37, 1, 45), (37, 2, 49), (37, 5, 52), (37, 6, 54), (37, 7, 55), (38, 0, 39), (38, 1, 40), (38, 2, 41), (38, 3, 42), (38, 4, 43), (38, 5, 44), (45, 0, 46), (45, 1, 47), (45, 2, 48), (49, 0, 50), (49, 1, 51), (56, 0, 57), (56, 2, 58), (59, 0, 60), (59, 1, 61), (59, 2, 62), (59, 3, 63), (59, 4, 64), (59, 5, 65), (66, 0, 67), (66, 1, 68), (66, 2, 69), (66, 4, 70), (70, 0, 71), (70, 2, 72), (73, 0, 74), (73, 1, 75), (73, 2, 76), (73, 3, 77), (73, 4, 78), (73, 5, 79), (80, 0, 81), (80, 4, 82), (80, 5, 83), (80, 6, 84), (85, 0, 86), (85, 1, 87), (88, 0, 89), (88, 2, 90), (91, 0, 92), (91, 1, 93), (91, 2, 94), (91, 3, 95), (91, 4, 96), (94, 0, 97), (94, 1, 111), (95, 0, 104), (95, 1, 118), (96, 0, 108), (96, 1, 122), (97, 0, 98), (97, 1, 99), (97, 2, 100), (97, 3, 101), (97, 4, 102), (97, 5, 103), (104, 0, 105), (104, 1, 106), (104, 2, 107), (108, 0, 109), (108, 1, 110), (111, 0, 112), (111, 1, 113), (111, 2, 114), (111, 3, 115), (111, 4, 116), (111, 5, 117), (118, 0, 119), (118, 1, 120), (118, 2, 121), (122, 0, 123), (122, 1, 124), (125, 0, 126), (125, 1, 127), (125, 2, 128), (125, 3, 129), (125, 4, 130), (128, 0, 131), (128, 1, 145), (129, 0, 138), (129, 1, 152), (130, 0, 142), (130, 1, 156), (131, 0, 132), (131, 1, 133), (131, 2, 134), (131, 3, 135), (131, 4, 136), (131, 5, 137), (138, 0, 139), (138, 1, 140), (138, 2, 141), (142, 0, 143), (142, 1, 144), (145, 0, 146), (145, 1, 147), (145, 2, 148), (145, 3, 149), (145, 4, 150), (145, 5, 151), (152, 0, 153), (152, 1, 154), (152, 2, 155), (156, 0, 157), (156, 1, 158), (159, 0, 160), (159, 1, 161), (159, 2, 162), (159, 3, 163), (159, 4, 164), (162, 0, 165), (162, 1, 179), (163, 0, 172), (163, 1, 186), (164, 0, 176), (164, 1, 190), (165, 0, 166), (165, 1, 167), (165, 2, 168), (165, 3, 169), (165, 4, 170), (165, 5, 171), (172, 0, 173), (172, 1, 174), (172, 2, 175), (176, 0, 177), (176, 1, 178), (179, 0, 180), (179, 1, 181), (179, 2, 182), (179, 3, 183), (179, 4, 184), (179, 5, 185), (186, 0, 187), (186, 1, 188), (186, 2, 189), (190, 0, 191), (190, 1, 192), (193, 1, 194), (193, 2, 195), (193, 3, 196), (193, 4, 197), (193, 5, 198), (193, 6, 199), (193, 7, 200), (193, 8, 201), (193, 18, 202), (193, 19, 203), (193, 32, 204), (193, 33, 205), (193, 34, 206), (193, 36, 207), (193, 38, 208), (193, 39, 209), (193, 40, 210), (193, 42, 211), (193, 45, 212), (193, 46, 213), (193, 47, 214), (193, 48, 215), (193, 49, 216), (193, 50, 217)]
/-- the world: kinds and sizes are those behind the makers, and so are the references that stay -/
def Wd (h : mH) : Prop := h.1 = H0 ∧ ∀ q ∈ R0, mR h q.1 q.2.1 = some q.2.2
theorem wk_ {h : mH} (w : Wd h) (a : Nat) : mK h a = H0.getD a (999, 0) := by unfold mK; rw [w.1]
theorem k0 {h : mH} (w : Wd h) : mK h 0 = (0, 9) := wk_ w 0
theorem k1 {h : mH} (w : Wd h) : mK h 1 = (1, 8) := wk_ w 1
theorem k2 {h : mH} (w : Wd h) : mK h 2 = (100, 600) := wk_ w 2
theorem k3 {h : mH} (w : Wd h) : mK h 3 = (100, 3) := wk_ w 3
theorem k4 {h : mH} (w : Wd h) : mK h 4 = (202, 2) := wk_ w 4
theorem k5 {h : mH} (w : Wd h) : mK h 5 = (203, 2) := wk_ w 5
theorem k6 {h : mH} (w : Wd h) : mK h 6 = (204, 2) := wk_ w 6
theorem k7 {h : mH} (w : Wd h) : mK h 7 = (2, 9) := wk_ w 7
theorem k8 {h : mH} (w : Wd h) : mK h 8 = (100, 8) := wk_ w 8
theorem k9 {h : mH} (w : Wd h) : mK h 9 = (100, 8) := wk_ w 9
theorem k10 {h : mH} (w : Wd h) : mK h 10 = (100, 8) := wk_ w 10
theorem k11 {h : mH} (w : Wd h) : mK h 11 = (100, 6) := wk_ w 11
theorem k12 {h : mH} (w : Wd h) : mK h 12 = (100, 6) := wk_ w 12
theorem k13 {h : mH} (w : Wd h) : mK h 13 = (100, 6) := wk_ w 13
theorem k14 {h : mH} (w : Wd h) : mK h 14 = (3, 4) := wk_ w 14
theorem k15 {h : mH} (w : Wd h) : mK h 15 = (100, 40) := wk_ w 15
theorem k16 {h : mH} (w : Wd h) : mK h 16 = (100, 40) := wk_ w 16
theorem k17 {h : mH} (w : Wd h) : mK h 17 = (100, 40) := wk_ w 17
theorem k18 {h : mH} (w : Wd h) : mK h 18 = (4, 3) := wk_ w 18
theorem k19 {h : mH} (w : Wd h) : mK h 19 = (100, 8) := wk_ w 19
theorem k20 {h : mH} (w : Wd h) : mK h 20 = (100, 8) := wk_ w 20
theorem k21 {h : mH} (w : Wd h) : mK h 21 = (2, 9) := wk_ w 21
theorem k22 {h : mH} (w : Wd h) : mK h 22 = (100, 8) := wk_ w 22
theorem k23 {h : mH} (w : Wd h) : mK h 23 = (100, 8) := wk_ w 23
theorem k24 {h : mH} (w : Wd h) : mK h 24 = (100, 8) := wk_ w 24
theorem k25 {h : mH} (w : Wd h) : mK h 25 = (100, 6) := wk_ w 25
theorem k26 {h : mH} (w : Wd h) : mK h 26 = (100, 6) := wk_ w 26
theorem k27 {h : mH} (w : Wd h) : mK h 27 = (100, 6) := wk_ w 27
theorem k28 {h : mH} (w : Wd h) : mK h 28 = (3, 4) := wk_ w 28
theorem k29 {h : mH} (w : Wd h) : mK h 29 = (100, 40) := wk_ w 29
theorem k30 {h : mH} (w : Wd h) : mK h 30 = (100, 40) := wk_ w 30
theorem k31 {h : mH} (w : Wd h) : mK h 31 = (100, 40) := wk_ w 31
theorem k32 {h : mH} (w : Wd h) : mK h 32 = (4, 3) := wk_ w 32
theorem k33 {h : mH} (w : Wd h) : mK h 33 = (100, 8) := wk_ w 33
theorem k34 {h : mH} (w : Wd h) : mK h 34 = (100, 8) := wk_ w 34
theorem k35 {h : mH} (w : Wd h) : mK h 35 = (201, 3) := wk_ w 35
theorem k36 {h : mH} (w : Wd h) : mK h 36 = (102, 3) := wk_ w 36
theorem k37 {h : mH} (w : Wd h) : mK h 37 = (5, 11) := wk_ w 37
theorem k38 {h : mH} (w : Wd h) : mK h 38 = (2, 9) := wk_ w 38
theorem k39 {h : mH} (w : Wd h) : mK h 39 = (100, 8) := wk_ w 39
theorem k40 {h : mH} (w : Wd h) : mK h 40 = (100, 8) := wk_ w 40
theorem k41 {h : mH} (w : Wd h) : mK h 41 = (100, 8) := wk_ w 41
theorem k42 {h : mH} (w : Wd h) : mK h 42 = (100, 6) := wk_ w 42
theorem k43 {h : mH} (w : Wd h) : mK h 43 = (100, 6) := wk_ w 43
theorem k44 {h : mH} (w : Wd h) : mK h 44 = (100, 6) := wk_ w 44
theorem k45 {h : mH} (w : Wd h) : mK h 45 = (3, 4) := wk_ w 45
theorem k46 {h : mH} (w : Wd h) : mK h 46 = (100, 40) := wk_ w 46
theorem k47 {h : mH} (w : Wd h) : mK h 47 = (100, 40) := wk_ w 47
theorem k48 {h : mH} (w : Wd h) : mK h 48 = (100, 40) := wk_ w 48
theorem k49 {h : mH} (w : Wd h) : mK h 49 = (4, 3) := wk_ w 49
theorem k50 {h : mH} (w : Wd h) : mK h 50 = (100, 8) := wk_ w 50
theorem k51 {h : mH} (w : Wd h) : mK h 51 = (100, 8) := wk_ w 51
theorem k52 {h : mH} (w : Wd h) : mK h 52 = (6, 6) := wk_ w 52
theorem k53 {h : mH} (w : Wd h) : mK h 53 = (100, 0) := wk_ w 53
theorem k54 {h : mH} (w : Wd h) : mK h 54 = (100, 2) := wk_ w 54
theorem k55 {h : mH} (w : Wd h) : mK h 55 = (100, 2) := wk_ w 55
theorem k56 {h : mH} (w : Wd h) : mK h 56 = (7, 15) := wk_ w 56
theorem k57 {h : mH} (w : Wd h) : mK h 57 = (100, 6) := wk_ w 57
theorem k58 {h : mH} (w : Wd h) : mK h 58 = (100, 48) := wk_ w 58
theorem k59 {h : mH} (w : Wd h) : mK h 59 = (2, 9) := wk_ w 59
theorem k60 {h : mH} (w : Wd h) : mK h 60 = (100, 8) := wk_ w 60
theorem k61 {h : mH} (w : Wd h) : mK h 61 = (100, 8) := wk_ w 61
theorem k62 {h : mH} (w : Wd h) : mK h 62 = (100, 8) := wk_ w 62
theorem k63 {h : mH} (w : Wd h) : mK h 63 = (100, 6) := wk_ w 63
theorem k64 {h : mH} (w : Wd h) : mK h 64 = (100, 6) := wk_ w 64
theorem k65 {h : mH} (w : Wd h) : mK h 65 = (100, 6) := wk_ w 65
theorem k66 {h : mH} (w : Wd h) : mK h 66 = (8, 6) := wk_ w 66
theorem k67 {h : mH} (w : Wd h) : mK h 67 = (100, 8) := wk_ w 67
theorem k68 {h : mH} (w : Wd h) : mK h 68 = (100, 4) := wk_ w 68
theorem k69 {h : mH} (w : Wd h) : mK h 69 = (100, 4) := wk_ w 69
theorem k70 {h : mH} (w : Wd h) : mK h 70 = (7, 15) := wk_ w 70
theorem k71 {h : mH} (w : Wd h) : mK h 71 = (100, 6) := wk_ w 71
theorem k72 {h : mH} (w : Wd h) : mK h 72 = (100, 48) := wk_ w 72
theorem k73 {h : mH} (w : Wd h) : mK h 73 = (2, 9) := wk_ w 73
theorem k74 {h : mH} (w : Wd h) : mK h 74 = (100, 8) := wk_ w 74
theorem k75 {h : mH} (w : Wd h) : mK h 75 = (100, 8) := wk_ w 75
theorem k76 {h : mH} (w : Wd h) : mK h 76 = (100, 8) := wk_ w 76
theorem k77 {h : mH} (w : Wd h) : mK h 77 = (100, 6) := wk_ w 77
theorem k78 {h : mH} (w : Wd h) : mK h 78 = (100, 6) := wk_ w 78
theorem k79 {h : mH} (w : Wd h) : mK h 79 = (100, 6) := wk_ w 79
theorem k80 {h : mH} (w : Wd h) : mK h 80 = (9, 7) := wk_ w 80
theorem k81 {h : mH} (w : Wd h) : mK h 81 = (100, 8) := wk_ w 81
theorem k82 {h : mH} (w : Wd h) : mK h 82 = (100, 256) := wk_ w 82
theorem k83 {h : mH} (w : Wd h) : mK h 83 = (102, 256) := wk_ w 83
theorem k84 {h : mH} (w : Wd h) : mK h 84 = (100, 8) := wk_ w 84
theorem k85 {h : mH} (w : Wd h) : mK h 85 = (10, 2) := wk_ w 85
theorem k86 {h : mH} (w : Wd h) : mK h 86 = (100, 4) := wk_ w 86
theorem k87 {h : mH} (w : Wd h) : mK h 87 = (100, 4) := wk_ w 87
theorem k88 {h : mH} (w : Wd h) : mK h 88 = (11, 4) := wk_ w 88
theorem k89 {h : mH} (w : Wd h) : mK h 89 = (100, 60) := wk_ w 89
theorem k90 {h : mH} (w : Wd h) : mK h 90 = (100, 60) := wk_ w 90
theorem k91 {h : mH} (w : Wd h) : mK h 91 = (1, 8) := wk_ w 91
theorem k92 {h : mH} (w : Wd h) : mK h 92 = (100, 600) := wk_ w 92
theorem k93 {h : mH} (w : Wd h) : mK h 93 = (100, 3) := wk_ w 93
theorem k94 {h : mH} (w : Wd h) : mK h 94 = (202, 2) := wk_ w 94
theorem k95 {h : mH} (w : Wd h) : mK h 95 = (203, 2) := wk_ w 95
theorem k96 {h : mH} (w : Wd h) : mK h 96 = (204, 2) := wk_ w 96
theorem k97 {h : mH} (w : Wd h) : mK h 97 = (2, 9) := wk_ w 97
theorem k98 {h : mH} (w : Wd h) : mK h 98 = (100, 8) := wk_ w 98
theorem k99 {h : mH} (w : Wd h) : mK h 99 = (100, 8) := wk_ w 99
theorem k100 {h : mH} (w : Wd h) : mK h 100 = (100, 8) := wk_ w 100
theorem k101 {h : mH} (w : Wd h) : mK h 101 = (100, 6) := wk_ w 101
theorem k102 {h : mH} (w : Wd h) : mK h 102 = (100, 6) := wk_ w 102
theorem k103 {h : mH} (w : Wd h) : mK h 103 = (100, 6) := wk_ w 103
theorem k104 {h : mH} (w : Wd h) : mK h 104 = (3, 4) := wk_ w 104
theorem k105 {h : mH} (w : Wd h) : mK h 105 = (100, 40) := wk_ w 105
theorem k106 {h : mH} (w : Wd h) : mK h 106 = (100, 40) := wk_ w 106
theorem k107 {h : mH} (w : Wd h) : mK h 107 = (100, 40) := wk_ w 107
theorem k108 {h : mH} (w : Wd h) : mK h 108 = (4, 3) := wk_ w 108
theorem k109 {h : mH} (w : Wd h) : mK h 109 = (100, 8) := wk_ w 109
theorem k110 {h : mH} (w : Wd h) : mK h 110 = (100, 8) := wk_ w 110
theorem k111 {h : mH} (w : Wd h) : mK h 111 = (2, 9) := wk_ w 111
theorem k112 {h : mH} (w : Wd h) : mK h 112 = (100, 8) := wk_ w 112
theorem k113 {h : mH} (w : Wd h) : mK h 113 = (100, 8) := wk_ w 113
theorem k114 {h : mH} (w : Wd h) : mK h 114 = (100, 8) := wk_ w 114
theorem k115 {h : mH} (w : Wd h) : mK h 115 = (100, 6) := wk_ w 115
theorem k116 {h : mH} (w : Wd h) : mK h 116 = (100, 6) := wk_ w 116
theorem k117 {h : mH} (w : Wd h) : mK h 117 = (100, 6) := wk_ w 117
theorem k118 {h : mH} (w : Wd h) : mK h 118 = (3, 4) := wk_ w 118
theorem k119 {h : mH} (w : Wd h) : mK h 119 = (100, 40) := wk_ w 119
theorem k120 {h : mH} (w : Wd h) : mK h 120 = (100, 40) := wk_ w 120
theorem k121 {h : mH} (w : Wd h) : mK h 121 = (100, 40) := wk_ w 121
theorem k122 {h : mH} (w : Wd h) : mK h 122 = (4, 3) := wk_ w 122
theorem k123 {h : mH} (w : Wd h) : mK h 123 = (100, 8) := wk_ w 123
theorem k124 {h : mH} (w : Wd h) : mK h 124 = (100, 8) := wk_ w 124
theorem k125 {h : mH} (w : Wd h) : mK h 125 = (1, 8) := wk_ w 125
theorem k126 {h : mH} (w : Wd h) : mK h 126 = (100, 600) := wk_ w 126
theorem k127 {h : mH} (w : Wd h) : mK h 127 = (100, 3) := wk_ w 127
theorem k128 {h : mH} (w : Wd h) : mK h 128 = (202, 2) := wk_ w 128
theorem k129 {h : mH} (w : Wd h) : mK h 129 = (203, 2) := wk_ w 129
theorem k130 {h : mH} (w : Wd h) : mK h 130 = (204, 2) := wk_ w 130
theorem k131 {h : mH} (w : Wd h) : mK h 131 = (2, 9) := wk_ w 131
theorem k132 {h : mH} (w : Wd h) : mK h 132 = (100, 8) := wk_ w 132
theorem k133 {h : mH} (w : Wd h) : mK h 133 = (100, 8) := wk_ w 133
theorem k134 {h : mH} (w : Wd h) : mK h 134 = (100, 8) := wk_ w 134
theorem k135 {h : mH} (w : Wd h) : mK h 135 = (100, 6) := wk_ w 135
theorem k136 {h : mH} (w : Wd h) : mK h 136 = (100, 6) := wk_ w 136
theorem k137 {h : mH} (w : Wd h) : mK h 137 = (100, 6) := wk_ w 137
theorem k138 {h : mH} (w : Wd h) : mK h 138 = (3, 4) := wk_ w 138
theorem k139 {h : mH} (w : Wd h) : mK h 139 = (100, 40) := wk_ w 139
theorem k140 {h : mH} (w : Wd h) : mK h 140 = (100, 40) := wk_ w 140
theorem k141 {h : mH} (w : Wd h) : mK h 141 = (100, 40) := wk_ w 141
theorem k142 {h : mH} (w : Wd h) : mK h 142 = (4, 3) := wk_ w 142
theorem k143 {h : mH} (w : Wd h) : mK h 143 = (100, 8) := wk_ w 143
theorem k144 {h : mH} (w : Wd h) : mK h 144 = (100, 8) := wk_ w 144
theorem k145 {h : mH} (w : Wd h) : mK h 145 = (2, 9) := wk_ w 145
theorem k146 {h : mH} (w : Wd h) : mK h 146 = (100, 8) := wk_ w 146
theorem k147 {h : mH} (w : Wd h) : mK h 147 = (100, 8) := wk_ w 147
theorem k148 {h : mH} (w : Wd h) : mK h 148 = (100, 8) := wk_ w 148
theorem k149 {h : mH} (w : Wd h) : mK h 149 = (100, 6) := wk_ w 149
theorem k150 {h : mH} (w : Wd h) : mK h 150 = (100, 6) := wk_ w 150
theorem k151 {h : mH} (w : Wd h) : mK h 151 = (100, 6) := wk_ w 151
theorem k152 {h : mH} (w : Wd h) : mK h 152 = (3, 4) := wk_ w 152
theorem k153 {h : mH} (w : Wd h) : mK h 153 = (100, 40) := wk_ w 153
theorem k154 {h : mH} (w : Wd h) : mK h 154 = (100, 40) := wk_ w 154
theorem k155 {h : mH} (w : Wd h) : mK h 155 = (100, 40) := wk_ w 155
theorem k156 {h : mH} (w : Wd h) : mK h 156 = (4, 3) := wk_ w 156
theorem k157 {h : mH} (w : Wd h) : mK h 157 = (100, 8) := wk_ w 157
theorem k158 {h : mH} (w : Wd h) : mK h 158 = (100, 8) := wk_ w 158
theorem k159 {h : mH} (w : Wd h) : mK h 159 = (1, 8) := wk_ w 159
theorem k160 {h : mH} (w : Wd h) : mK h 160 = (100, 600) := wk_ w 160
theorem k161 {h : mH} (w : Wd h) : mK h 161 = (100, 3) := wk_ w 161
theorem k162 {h : mH} (w : Wd h) : mK h 162 = (202, 2) := wk_ w 162
theorem k163 {h : mH} (w : Wd h) : mK h 163 = (203, 2) := wk_ w 163
theorem k164 {h : mH} (w : Wd h) : mK h 164 = (204, 2) := wk_ w 164
theorem k165 {h : mH} (w : Wd h) : mK h 165 = (2, 9) := wk_ w 165
theorem k166 {h : mH} (w : Wd h) : mK h 166 = (100, 8) := wk_ w 166
theorem k167 {h : mH} (w : Wd h) : mK h 167 = (100, 8) := wk_ w 167
theorem k168 {h : mH} (w : Wd h) : mK h 168 = (100, 8) := wk_ w 168
theorem k169 {h : mH} (w : Wd h) : mK h 169 = (100, 6) := wk_ w 169
theorem k170 {h : mH} (w : Wd h) : mK h 170 = (100, 6) := wk_ w 170
theorem k171 {h : mH} (w : Wd h) : mK h 171 = (100, 6) := wk_ w 171
theorem k172 {h : mH} (w : Wd h) : mK h 172 = (3, 4) := wk_ w 172
theorem k173 {h : mH} (w : Wd h) : mK h 173 = (100, 40) := wk_ w 173
theorem k174 {h : mH} (w : Wd h) : mK h 174 = (100, 40) := wk_ w 174
theorem k175 {h : mH} (w : Wd h) : mK h 175 = (100, 40) := wk_ w 175
theorem k176 {h : mH} (w : Wd h) : mK h 176 = (4, 3) := wk_ w 176
theorem k177 {h : mH} (w : Wd h) : mK h 177 = (100, 8) := wk_ w 177
theorem k178 {h : mH} (w : Wd h) : mK h 178 = (100, 8) := wk_ w 178
theorem k179 {h : mH} (w : Wd h) : mK h 179 = (2, 9) := wk_ w 179
theorem k180 {h : mH} (w : Wd h) : mK h 180 = (100, 8) := wk_ w 180
theorem k181 {h : mH} (w : Wd h) : mK h 181 = (100, 8) := wk_ w 181
theorem k182 {h : mH} (w : Wd h) : mK h 182 = (100, 8) := wk_ w 182
theorem k183 {h : mH} (w : Wd h) : mK h 183 = (100, 6) := wk_ w 183
theorem k184 {h : mH} (w : Wd h) : mK h 184 = (100, 6) := wk_ w 184
theorem k185 {h : mH} (w : Wd h) : mK h 185 = (100, 6) := wk_ w 185
theorem k186 {h : mH} (w : Wd h) : mK h 186 = (3, 4) := wk_ w 186
theorem k187 {h : mH} (w : Wd h) : mK h 187 = (100, 40) := wk_ w 187
theorem k188 {h : mH} (w : Wd h) : mK h 188 = (100, 40) := wk_ w 188
theorem k189 {h : mH} (w : Wd h) : mK h 189 = (100, 40) := wk_ w 189
theorem k190 {h : mH} (w : Wd h) : mK h 190 = (4, 3) := wk_ w 190
theorem k191 {h : mH} (w : Wd h) : mK h 191 = (100, 8) := wk_ w 191
theorem k192 {h : mH} (w : Wd h) : mK h 192 = (100, 8) := wk_ w 192
theorem k193 {h : mH} (w : Wd h) : mK h 193 = (12, 51) := wk_ w 193
theorem k194 {h : mH} (w : Wd h) : mK h 194 = (101, 2400) := wk_ w 194
theorem k195 {h : mH} (w : Wd h) : mK h 195 = (100, 4) := wk_ w 195
theorem k196 {h : mH} (w : Wd h) : mK h 196 = (100, 4) := wk_ w 196
theorem k197 {h : mH} (w : Wd h) : mK h 197 = (100, 4) := wk_ w 197
theorem k198 {h : mH} (w : Wd h) : mK h 198 = (100, 12) := wk_ w 198
theorem k199 {h : mH} (w : Wd h) : mK h 199 = (100, 360) := wk_ w 199
theorem k200 {h : mH} (w : Wd h) : mK h 200 = (100, 968) := wk_ w 200
theorem k201 {h : mH} (w : Wd h) : mK h 201 = (100, 136) := wk_ w 201
theorem k202 {h : mH} (w : Wd h) : mK h 202 = (100, 121) := wk_ w 202
theorem k203 {h : mH} (w : Wd h) : mK h 203 = (100, 3) := wk_ w 203
theorem k204 {h : mH} (w : Wd h) : mK h 204 = (100, 6) := wk_ w 204
theorem k205 {h : mH} (w : Wd h) : mK h 205 = (100, 48) := wk_ w 205
theorem k206 {h : mH} (w : Wd h) : mK h 206 = (100, 48) := wk_ w 206
theorem k207 {h : mH} (w : Wd h) : mK h 207 = (100, 8) := wk_ w 207
theorem k208 {h : mH} (w : Wd h) : mK h 208 = (100, 4) := wk_ w 208
theorem k209 {h : mH} (w : Wd h) : mK h 209 = (100, 4) := wk_ w 209
theorem k210 {h : mH} (w : Wd h) : mK h 210 = (102, 256) := wk_ w 210
theorem k211 {h : mH} (w : Wd h) : mK h 211 = (100, 60) := wk_ w 211
theorem k212 {h : mH} (w : Wd h) : mK h 212 = (100, 256) := wk_ w 212
theorem k213 {h : mH} (w : Wd h) : mK h 213 = (100, 256) := wk_ w 213
theorem k214 {h : mH} (w : Wd h) : mK h 214 = (100, 5) := wk_ w 214
theorem k215 {h : mH} (w : Wd h) : mK h 215 = (100, 5) := wk_ w 215
theorem k216 {h : mH} (w : Wd h) : mK h 216 = (100, 8) := wk_ w 216
theorem k217 {h : mH} (w : Wd h) : mK h 217 = (102, 3) := wk_ w 217
theorem r0_0 {h : mH} (w : Wd h) : mR h 0 0 = some 1 := w.2 (0, 0, 1) (List.mem_of_getElem? (i := 0) rfl)
theorem r0_1 {h : mH} (w : Wd h) : mR h 0 1 = some 35 := w.2 (0, 1, 35) (List.mem_of_getElem? (i := 1) rfl)
theorem r0_2 {h : mH} (w : Wd h) : mR h 0 2 = some 36 := w.2 (0, 2, 36) (List.mem_of_getElem? (i := 2) rfl)
theorem r0_3 {h : mH} (w : Wd h) : mR h 0 3 = some 37 := w.2 (0, 3, 37) (List.mem_of_getElem? (i := 3) rfl)
theorem r0_4 {h : mH} (w : Wd h) : mR h 0 4 = some 56 := w.2 (0, 4, 56) (List.mem_of_getElem? (i := 4) rfl)
theorem r0_5 {h : mH} (w : Wd h) : mR h 0 5 = some 66 := w.2 (0, 5, 66) (List.mem_of_getElem? (i := 5) rfl)
theorem r0_6 {h : mH} (w : Wd h) : mR h 0 6 = some 80 := w.2 (0, 6, 80) (List.mem_of_getElem? (i := 6) rfl)
theorem r0_7 {h : mH} (w : Wd h) : mR h 0 7 = some 85 := w.2 (0, 7, 85) (List.mem_of_getElem? (i := 7) rfl)
theorem r0_8 {h : mH} (w : Wd h) : mR h 0 8 = some 88 := w.2 (0, 8, 88) (List.mem_of_getElem? (i := 8) rfl)
theorem r1_0 {h : mH} (w : Wd h) : mR h 1 0 = some 2 := w.2 (1, 0, 2) (List.mem_of_getElem? (i := 9) rfl)
theorem r1_1 {h : mH} (w : Wd h) : mR h 1 1 = some 3 := w.2 (1, 1, 3) (List.mem_of_getElem? (i := 10) rfl)
theorem r1_2 {h : mH} (w : Wd h) : mR h 1 2 = some 4 := w.2 (1, 2, 4) (List.mem_of_getElem? (i := 11) rfl)
theorem r1_3 {h : mH} (w : Wd h) : mR h 1 3 = some 5 := w.2 (1, 3, 5) (List.mem_of_getElem? (i := 12) rfl)
theorem r1_4 {h : mH} (w : Wd h) : mR h 1 4 = some 6 := w.2 (1, 4, 6) (List.mem_of_getElem? (i := 13) rfl)
theorem r4_0 {h : mH} (w : Wd h) : mR h 4 0 = some 7 := w.2 (4, 0, 7) (List.mem_of_getElem? (i := 14) rfl)
theorem r4_1 {h : mH} (w : Wd h) : mR h 4 1 = some 21 := w.2 (4, 1, 21) (List.mem_of_getElem? (i := 15) rfl)
theorem r5_0 {h : mH} (w : Wd h) : mR h 5 0 = some 14 := w.2 (5, 0, 14) (List.mem_of_getElem? (i := 16) rfl)
theorem r5_1 {h : mH} (w : Wd h) : mR h 5 1 = some 28 := w.2 (5, 1, 28) (List.mem_of_getElem? (i := 17) rfl)
theorem r6_0 {h : mH} (w : Wd h) : mR h 6 0 = some 18 := w.2 (6, 0, 18) (List.mem_of_getElem? (i := 18) rfl)
theorem r6_1 {h : mH} (w : Wd h) : mR h 6 1 = some 32 := w.2 (6, 1, 32) (List.mem_of_getElem? (i := 19) rfl)
theorem r7_0 {h : mH} (w : Wd h) : mR h 7 0 = some 8 := w.2 (7, 0, 8) (List.mem_of_getElem? (i := 20) rfl)
theorem r7_1 {h : mH} (w : Wd h) : mR h 7 1 = some 9 := w.2 (7, 1, 9) (List.mem_of_getElem? (i := 21) rfl)
theorem r7_2 {h : mH} (w : Wd h) : mR h 7 2 = some 10 := w.2 (7, 2, 10) (List.mem_of_getElem? (i := 22) rfl)
theorem r7_3 {h : mH} (w : Wd h) : mR h 7 3 = some 11 := w.2 (7, 3, 11) (List.mem_of_getElem? (i := 23) rfl)
theorem r7_4 {h : mH} (w : Wd h) : mR h 7 4 = some 12 := w.2 (7, 4, 12) (List.mem_of_getElem? (i := 24) rfl)
theorem r7_5 {h : mH} (w : Wd h) : mR h 7 5 = some 13 := w.2 (7, 5, 13) (List.mem_of_getElem? (i := 25) rfl)
theorem r14_0 {h : mH} (w : Wd h) : mR h 14 0 = some 15 := w.2 (14, 0, 15) (List.mem_of_getElem? (i := 26) rfl)
theorem r14_1 {h : mH} (w : Wd h) : mR h 14 1 = some 16 := w.2 (14, 1, 16) (List.mem_of_getElem? (i := 27) rfl)
theorem r14_2 {h : mH} (w : Wd h) : mR h 14 2 = some 17 := w.2 (14, 2, 17) (List.mem_of_getElem? (i := 28) rfl)
theorem r18_0 {h : mH} (w : Wd h) : mR h 18 0 = some 19 := w.2 (18, 0, 19) (List.mem_of_getElem? (i := 29) rfl)
theorem r18_1 {h : mH} (w : Wd h) : mR h 18 1 = some 20 := w.2 (18, 1, 20) (List.mem_of_getElem? (i := 30) rfl)
theorem r21_0 {h : mH} (w : Wd h) : mR h 21 0 = some 22 := w.2 (21, 0, 22) (List.mem_of_getElem? (i := 31) rfl)
theorem r21_1 {h : mH} (w : Wd h) : mR h 21 1 = some 23 := w.2 (21, 1, 23) (List.mem_of_getElem? (i := 32) rfl)
theorem r21_2 {h : mH} (w : Wd h) : mR h 21 2 = some 24 := w.2 (21, 2, 24) (List.mem_of_getElem? (i := 33) rfl)
theorem r21_3 {h : mH} (w : Wd h) : mR h 21 3 = some 25 := w.2 (21, 3, 25) (List.mem_of_getElem? (i := 34) rfl)
theorem r21_4 {h : mH} (w : Wd h) : mR h 21 4 = some 26 := w.2 (21, 4, 26) (List.mem_of_getElem? (i := 35) rfl)
theorem r21_5 {h : mH} (w : Wd h) : mR h 21 5 = some 27 := w.2 (21, 5, 27) (List.mem_of_getElem? (i := 36) rfl)
theorem r28_0 {h : mH} (w : Wd h) : mR h 28 0 = some 29 := w.2 (28, 0, 29) (List.mem_of_getElem? (i := 37) rfl)
theorem r28_1 {h : mH} (w : Wd h) : mR h 28 1 = some 30 := w.2 (28, 1, 30) (List.mem_of_getElem? (i := 38) rfl)
theorem r28_2 {h : mH} (w : Wd h) : mR h 28 2 = some 31 := w.2 (28, 2, 31) (List.mem_of_getElem? (i := 39) rfl)
theorem r32_0 {h : mH} (w : Wd h) : mR h 32 0 = some 33 := w.2 (32, 0, 33) (List.mem_of_getElem? (i := 40) rfl)
theorem r32_1 {h : mH} (w : Wd h) : mR h 32 1 = some 34 := w.2 (32, 1, 34) (List.mem_of_getElem? (i := 41) rfl)
theorem r35_0 {h : mH} (w : Wd h) : mR h 35 0 = some 91 := w.2 (35, 0, 91) (List.mem_of_getElem? (i := 42) rfl)
theorem r35_1 {h : mH} (w : Wd h) : mR h 35 1 = some 125 := w.2 (35, 1, 125) (List.mem_of_getElem? (i := 43) rfl)
theorem r35_2 {h : mH} (w : Wd h) : mR h 35 2 = some 159 := w.2 (35, 2, 159) (List.mem_of_getElem? (i := 44) rfl)
theorem r37_0 {h : mH} (w : Wd h) : mR h 37 0 = some 38 := w.2 (37, 0, 38) (List.mem_of_getElem? (i := 45) rfl)
theorem r37_1 {h : mH} (w : Wd h) : mR h 37 1 = some 45 := w.2 (37, 1, 45) (List.mem_of_getElem? (i := 46) rfl)
theorem r37_2 {h : mH} (w : Wd h) : mR h 37 2 = some 49 := w.2 (37, 2, 49) (List.mem_of_getElem? (i := 47) rfl)
theorem r37_5 {h : mH} (w : Wd h) : mR h 37 5 = some 52 := w.2 (37, 5, 52) (List.mem_of_getElem? (i := 48) rfl)
theorem r37_6 {h : mH} (w : Wd h) : mR h 37 6 = some 54 := w.2 (37, 6, 54) (List.mem_of_getElem? (i := 49) rfl)
theorem r37_7 {h : mH} (w : Wd h) : mR h 37 7 = some 55 := w.2 (37, 7, 55) (List.mem_of_getElem? (i := 50) rfl)
theorem r38_0 {h : mH} (w : Wd h) : mR h 38 0 = some 39 := w.2 (38, 0, 39) (List.mem_of_getElem? (i := 51) rfl)
theorem r38_1 {h : mH} (w : Wd h) : mR h 38 1 = some 40 := w.2 (38, 1, 40) (List.mem_of_getElem? (i := 52) rfl)
theorem r38_2 {h : mH} (w : Wd h) : mR h 38 2 = some 41 := w.2 (38, 2, 41) (List.mem_of_getElem? (i := 53) rfl)
theorem r38_3 {h : mH} (w : Wd h) : mR h 38 3 = some 42 := w.2 (38, 3, 42) (List.mem_of_getElem? (i := 54) rfl)
theorem r38_4 {h : mH} (w : Wd h) : mR h 38 4 = some 43 := w.2 (38, 4, 43) (List.mem_of_getElem? (i := 55) rfl)
theorem r38_5 {h : mH} (w : Wd h) : mR h 38 5 = some 44 := w.2 (38, 5, 44) (List.mem_of_getElem? (i := 56) rfl)
theorem r45_0 {h : mH} (w : Wd h) : mR h 45 0 = some 46 := w.2 (45, 0, 46) (List.mem_of_getElem? (i := 57) rfl)
theorem r45_1 {h : mH} (w : Wd h) : mR h 45 1 = some 47 := w.2 (45, 1, 47) (List.mem_of_getElem? (i := 58) rfl)
theorem r45_2 {h : mH} (w : Wd h) : mR h 45 2 = some 48 := w.2 (45, 2, 48) (List.mem_of_getElem? (i := 59) rfl)
theorem r49_0 {h : mH} (w : Wd h) : mR h 49 0 = some 50 := w.2 (49, 0, 50) (List.mem_of_getElem? (i := 60) rfl)
theorem r49_1 {h : mH} (w : Wd h) : mR h 49 1 = some 51 := w.2 (49, 1, 51) (List.mem_of_getElem? (i := 61) rfl)
theorem r56_0 {h : mH} (w : Wd h) : mR h 56 0 = some 57 := w.2 (56, 0, 57) (List.mem_of_getElem? (i := 62) rfl)
theorem r56_2 {h : mH} (w : Wd h) : mR h 56 2 = some 58 := w.2 (56, 2, 58) (List.mem_of_getElem? (i := 63) rfl)
theorem r59_0 {h : mH} (w : Wd h) : mR h 59 0 = some 60 := w.2 (59, 0, 60) (List.mem_of_getElem? (i := 64) rfl)
theorem r59_1 {h : mH} (w : Wd h) : mR h 59 1 = some 61 := w.2 (59, 1, 61) (List.mem_of_getElem? (i := 65) rfl)
theorem r59_2 {h : mH} (w : Wd h) : mR h 59 2 = some 62 := w.2 (59, 2, 62) (List.mem_of_getElem? (i := 66) rfl)
theorem r59_3 {h : mH} (w : Wd h) : mR h 59 3 = some 63 := w.2 (59, 3, 63) (List.mem_of_getElem? (i := 67) rfl)
theorem r59_4 {h : mH} (w : Wd h) : mR h 59 4 = some 64 := w.2 (59, 4, 64) (List.mem_of_getElem? (i := 68) rfl)
theorem r59_5 {h : mH} (w : Wd h) : mR h 59 5 = some 65 := w.2 (59, 5, 65) (List.mem_of_getElem? (i := 69) rfl)
theorem r66_0 {h : mH} (w : Wd h) : mR h 66 0 = some 67 := w.2 (66, 0, 67) (List.mem_of_getElem? (i := 70) rfl)
theorem r66_1 {h : mH} (w : Wd h) : mR h 66 1 = some 68 := w.2 (66, 1, 68) (List.mem_of_getElem? (i := 71) rfl)
theorem r66_2 {h : mH} (w : Wd h) : mR h 66 2 = some 69 := w.2 (66, 2, 69) (List.mem_of_getElem? (i := 72) rfl)
theorem r66_4 {h : mH} (w : Wd h) : mR h 66 4 = some 70 := w.2 (66, 4, 70) (List.mem_of_getElem? (i := 73) rfl)
theorem r70_0 {h : mH} (w : Wd h) : mR h 70 0 = some 71 := w.2 (70, 0, 71) (List.mem_of_getElem? (i := 74) rfl)
theorem r70_2 {h : mH} (w : Wd h) : mR h 70 2 = some 72 := w.2 (70, 2, 72) (List.mem_of_getElem? (i := 75) rfl)
theorem r73_0 {h : mH} (w : Wd h) : mR h 73 0 = some 74 := w.2 (73, 0, 74) (List.mem_of_getElem? (i := 76) rfl)
theorem r73_1 {h : mH} (w : Wd h) : mR h 73 1 = some 75 := w.2 (73, 1, 75) (List.mem_of_getElem? (i := 77) rfl)
theorem r73_2 {h : mH} (w : Wd h) : mR h 73 2 = some 76 := w.2 (73, 2, 76) (List.mem_of_getElem? (i := 78) rfl)
theorem r73_3 {h : mH} (w : Wd h) : mR h 73 3 = some 77 := w.2 (73, 3, 77) (List.mem_of_getElem? (i := 79) rfl)
theorem r73_4 {h : mH} (w : Wd h) : mR h 73 4 = some 78 := w.2 (73, 4, 78) (List.mem_of_getElem? (i := 80) rfl)
theorem r73_5 {h : mH} (w : Wd h) : mR h 73 5 = some 79 := w.2 (73, 5, 79) (List.mem_of_getElem? (i := 81) rfl)
theorem r80_0 {h : mH} (w : Wd h) : mR h 80 0 = some 81 := w.2 (80, 0, 81) (List.mem_of_getElem? (i := 82) rfl)
theorem r80_4 {h : mH} (w : Wd h) : mR h 80 4 = some 82 := w.2 (80, 4, 82) (List.mem_of_getElem? (i := 83) rfl)
theorem r80_5 {h : mH} (w : Wd h) : mR h 80 5 = some 83 := w.2 (80, 5, 83) (List.mem_of_getElem? (i := 84) rfl)
theorem r80_6 {h : mH} (w : Wd h) : mR h 80 6 = some 84 := w.2 (80, 6, 84) (List.mem_of_getElem? (i := 85) rfl)
theorem r85_0 {h : mH} (w : Wd h) : mR h 85 0 = some 86 := w.2 (85, 0, 86) (List.mem_of_getElem? (i := 86) rfl)
theorem r85_1 {h : mH} (w : Wd h) : mR h 85 1 = some 87 := w.2 (85, 1, 87) (List.mem_of_getElem? (i := 87) rfl)
theorem r88_0 {h : mH} (w : Wd h) : mR h 88 0 = some 89 := w.2 (88, 0, 89) (List.mem_of_getElem? (i := 88) rfl)
theorem r88_2 {h : mH} (w : Wd h) : mR h 88 2 = some 90 := w.2 (88, 2, 90) (List.mem_of_getElem? (i := 89) rfl)
theorem r91_0 {h : mH} (w : Wd h) : mR h 91 0 = some 92 := w.2 (91, 0, 92) (List.mem_of_getElem? (i := 90) rfl)
theorem r91_1 {h : mH} (w : Wd h) : mR h 91 1 = some 93 := w.2 (91, 1, 93) (List.mem_of_getElem? (i := 91) rfl)
theorem r91_2 {h : mH} (w : Wd h) : mR h 91 2 = some 94 := w.2 (91, 2, 94) (List.mem_of_getElem? (i := 92) rfl)
theorem r91_3 {h : mH} (w : Wd h) : mR h 91 3 = some 95 := w.2 (91, 3, 95) (List.mem_of_getElem? (i := 93) rfl)
theorem r91_4 {h : mH} (w : Wd h) : mR h 91 4 = some 96 := w.2 (91, 4, 96) (List.mem_of_getElem? (i := 94) rfl)
theorem r94_0 {h : mH} (w : Wd h) : mR h 94 0 = some 97 := w.2 (94, 0, 97) (List.mem_of_getElem? (i := 95) rfl)
theorem r94_1 {h : mH} (w : Wd h) : mR h 94 1 = some 111 := w.2 (94, 1, 111) (List.mem_of_getElem? (i := 96) rfl)
theorem r95_0 {h : mH} (w : Wd h) : mR h 95 0 = some 104 := w.2 (95, 0, 104) (List.mem_of_getElem? (i := 97) rfl)
theorem r95_1 {h : mH} (w : Wd h) : mR h 95 1 = some 118 := w.2 (95, 1, 118) (List.mem_of_getElem? (i := 98) rfl)
theorem r96_0 {h : mH} (w : Wd h) : mR h 96 0 = some 108 := w.2 (96, 0, 108) (List.mem_of_getElem? (i := 99) rfl)
theorem r96_1 {h : mH} (w : Wd h) : mR h 96 1 = some 122 := w.2 (96, 1, 122) (List.mem_of_getElem? (i := 100) rfl)
theorem r97_0 {h : mH} (w : Wd h) : mR h 97 0 = some 98 := w.2 (97, 0, 98) (List.mem_of_getElem? (i := 101) rfl)
theorem r97_1 {h : mH} (w : Wd h) : mR h 97 1 = some 99 := w.2 (97, 1, 99) (List.mem_of_getElem? (i := 102) rfl)
theorem r97_2 {h : mH} (w : Wd h) : mR h 97 2 = some 100 := w.2 (97, 2, 100) (List.mem_of_getElem? (i := 103) rfl)
theorem r97_3 {h : mH} (w : Wd h) : mR h 97 3 = some 101 := w.2 (97, 3, 101) (List.mem_of_getElem? (i := 104) rfl)
theorem r97_4 {h : mH} (w : Wd h) : mR h 97 4 = some 102 := w.2 (97, 4, 102) (List.mem_of_getElem? (i := 105) rfl)
theorem r97_5 {h : mH} (w : Wd h) : mR h 97 5 = some 103 := w.2 (97, 5, 103) (List.mem_of_getElem? (i := 106) rfl)
theorem r104_0 {h : mH} (w : Wd h) : mR h 104 0 = some 105 := w.2 (104, 0, 105) (List.mem_of_getElem? (i := 107) rfl)
theorem r104_1 {h : mH} (w : Wd h) : mR h 104 1 = some 106 := w.2 (104, 1, 106) (List.mem_of_getElem? (i := 108) rfl)
theorem r104_2 {h : mH} (w : Wd h) : mR h 104 2 = some 107 := w.2 (104, 2, 107) (List.mem_of_getElem? (i := 109) rfl)
theorem r108_0 {h : mH} (w : Wd h) : mR h 108 0 = some 109 := w.2 (108, 0, 109) (List.mem_of_getElem? (i := 110) rfl)
theorem r108_1 {h : mH} (w : Wd h) : mR h 108 1 = some 110 := w.2 (108, 1, 110) (List.mem_of_getElem? (i := 111) rfl)
theorem r111_0 {h : mH} (w : Wd h) : mR h 111 0 = some 112 := w.2 (111, 0, 112) (List.mem_of_getElem? (i := 112) rfl)
theorem r111_1 {h : mH} (w : Wd h) : mR h 111 1 = some 113 := w.2 (111, 1, 113) (List.mem_of_getElem? (i := 113) rfl)
theorem r111_2 {h : mH} (w : Wd h) : mR h 111 2 = some 114 := w.2 (111, 2, 114) (List.mem_of_getElem? (i := 114) rfl)
theorem r111_3 {h : mH} (w : Wd h) : mR h 111 3 = some 115 := w.2 (111, 3, 115) (List.mem_of_getElem? (i := 115) rfl)
theorem r111_4 {h : mH} (w : Wd h) : mR h 111 4 = some 116 := w.2 (111, 4, 116) (List.mem_of_getElem? (i := 116) rfl)
theorem r111_5 {h : mH} (w : Wd h) : mR h 111 5 = some 117 := w.2 (111, 5, 117) (List.mem_of_getElem? (i := 117) rfl)
theorem r118_0 {h : mH} (w : Wd h) : mR h 118 0 = some 119 := w.2 (118, 0, 119) (List.mem_of_getElem? (i := 118) rfl)
theorem r118_1 {h : mH} (w : Wd h) : mR h 118 1 = some 120 := w.2 (118, 1, 120) (List.mem_of_getElem? (i := 119) rfl)
theorem r118_2 {h : mH} (w : Wd h) : mR h 118 2 = some 121 := w.2 (118, 2, 121) (List.mem_of_getElem? (i := 120) rfl)
theorem r122_0 {h : mH} (w : Wd h) : mR h 122 0 = some 123 := w.2 (122, 0, 123) (List.mem_of_getElem? (i := 121) rfl)
theorem r122_1 {h : mH} (w : Wd h) : mR h 122 1 = some 124 := w.2 (122, 1, 124) (List.mem_of_getElem? (i := 122) rfl)
theorem r125_0 {h : mH} (w : Wd h) : mR h 125 0 = some 126 := w.2 (125, 0, 126) (List.mem_of_getElem? (i := 123) rfl)
theorem r125_1 {h : mH} (w : Wd h) : mR h 125 1 = some 127 := w.2 (125, 1, 127) (List.mem_of_getElem? (i := 124) rfl)
theorem r125_2 {h : mH} (w : Wd h) : mR h 125 2 = some 128 := w.2 (125, 2, 128) (List.mem_of_getElem? (i := 125) rfl)
theorem r125_3 {h : mH} (w : Wd h) : mR h 125 3 = some 129 := w.2 (125, 3, 129) (List.mem_of_getElem? (i := 126) rfl)
theorem r125_4 {h : mH} (w : Wd h) : mR h 125 4 = some 130 := w.2 (125, 4, 130) (List.mem_of_getElem? (i := 127) rfl)
theorem r128_0 {h : mH} (w : Wd h) : mR h 128 0 = some 131 := w.2 (128, 0, 131) (List.mem_of_getElem? (i := 128) rfl)
theorem r128_1 {h : mH} (w : Wd h) : mR h 128 1 = some 145 := w.2 (128, 1, 145) (List.mem_of_getElem? (i := 129) rfl)
theorem r129_0 {h : mH} (w : Wd h) : mR h 129 0 = some 138 := w.2 (129, 0, 138) (List.mem_of_getElem? (i := 130) rfl)
theorem r129_1 {h : mH} (w : Wd h) : mR h 129 1 = some 152 := w.2 (129, 1, 152) (List.mem_of_getElem? (i := 131) rfl)
theorem r130_0 {h : mH} (w : Wd h) : mR h 130 0 = some 142 := w.2 (130, 0, 142) (List.mem_of_getElem? (i := 132) rfl)
theorem r130_1 {h : mH} (w : Wd h) : mR h 130 1 = some 156 := w.2 (130, 1, 156) (List.mem_of_getElem? (i := 133) rfl)
theorem r131_0 {h : mH} (w : Wd h) : mR h 131 0 = some 132 := w.2 (131, 0, 132) (List.mem_of_getElem? (i := 134) rfl)
theorem r131_1 {h : mH} (w : Wd h) : mR h 131 1 = some 133 := w.2 (131, 1, 133) (List.mem_of_getElem? (i := 135) rfl)
theorem r131_2 {h : mH} (w : Wd h) : mR h 131 2 = some 134 := w.2 (131, 2, 134) (List.mem_of_getElem? (i := 136) rfl)
theorem r131_3 {h : mH} (w : Wd h) : mR h 131 3 = some 135 := w.2 (131, 3, 135) (List.mem_of_getElem? (i := 137) rfl)
theorem r131_4 {h : mH} (w : Wd h) : mR h 131 4 = some 136 := w.2 (131, 4, 136) (List.mem_of_getElem? (i := 138) rfl)
theorem r131_5 {h : mH} (w : Wd h) : mR h 131 5 = some 137 := w.2 (131, 5, 137) (List.mem_of_getElem? (i := 139) rfl)
theorem r138_0 {h : mH} (w : Wd h) : mR h 138 0 = some 139 := w.2 (138, 0, 139) (List.mem_of_getElem? (i := 140) rfl)
theorem r138_1 {h : mH} (w : Wd h) : mR h 138 1 = some 140 := w.2 (138, 1, 140) (List.mem_of_getElem? (i := 141) rfl)
theorem r138_2 {h : mH} (w : Wd h) : mR h 138 2 = some 141 := w.2 (138, 2, 141) (List.mem_of_getElem? (i := 142) rfl)
theorem r142_0 {h : mH} (w : Wd h) : mR h 142 0 = some 143 := w.2 (142, 0, 143) (List.mem_of_getElem? (i := 143) rfl)
theorem r142_1 {h : mH} (w : Wd h) : mR h 142 1 = some 144 := w.2 (142, 1, 144) (List.mem_of_getElem? (i := 144) rfl)
theorem r145_0 {h : mH} (w : Wd h) : mR h 145 0 = some 146 := w.2 (145, 0, 146) (List.mem_of_getElem? (i := 145) rfl)
theorem r145_1 {h : mH} (w : Wd h) : mR h 145 1 = some 147 := w.2 (145, 1, 147) (List.mem_of_getElem? (i := 146) rfl)
theorem r145_2 {h : mH} (w : Wd h) : mR h 145 2 = some 148 := w.2 (145, 2, 148) (List.mem_of_getElem? (i := 147) rfl)
theorem r145_3 {h : mH} (w : Wd h) : mR h 145 3 = some 149 := w.2 (145, 3, 149) (List.mem_of_getElem? (i := 148) rfl)
theorem r145_4 {h : mH} (w : Wd h) : mR h 145 4 = some 150 := w.2 (145, 4, 150) (List.mem_of_getElem? (i := 149) rfl)
theorem r145_5 {h : mH} (w : Wd h) : mR h 145 5 = some 151 := w.2 (145, 5, 151) (List.mem_of_getElem? (i := 150) rfl)
theorem r152_0 {h : mH} (w : Wd h) : mR h 152 0 = some 153 := w.2 (152, 0, 153) (List.mem_of_getElem? (i := 151) rfl)
theorem r152_1 {h : mH} (w : Wd h) : mR h 152 1 = some 154 := w.2 (152, 1, 154) (List.mem_of_getElem? (i := 152) rfl)
theorem r152_2 {h : mH} (w : Wd h) : mR h 152 2 = some 155 := w.2 (152, 2, 155) (List.mem_of_getElem? (i := 153) rfl)
theorem r156_0 {h : mH} (w : Wd h) : mR h 156 0 = some 157 := w.2 (156, 0, 157) (List.mem_of_getElem? (i := 154) rfl)
theorem r156_1 {h : mH} (w : Wd h) : mR h 156 1 = some 158 := w.2 (156, 1, 158) (List.mem_of_getElem? (i := 155) rfl)
theorem r159_0 {h : mH} (w : Wd h) : mR h 159 0 = some 160 := w.2 (159, 0, 160) (List.mem_of_getElem? (i := 156) rfl)
theorem r159_1 {h : mH} (w : Wd h) : mR h 159 1 = some 161 := w.2 (159, 1, 161) (List.mem_of_getElem? (i := 157) rfl)
theorem r159_2 {h : mH} (w : Wd h) : mR h 159 2 = some 162 := w.2 (159, 2, 162) (List.mem_of_getElem? (i := 158) rfl)
theorem r159_3 {h : mH} (w : Wd h) : mR h 159 3 = some 163 := w.2 (159, 3, 163) (List.mem_of_getElem? (i := 159) rfl)
theorem r159_4 {h : mH} (w : Wd h) : mR h 159 4 = some 164 := w.2 (159, 4, 164) (List.mem_of_getElem? (i := 160) rfl)
theorem r162_0 {h : mH} (w : Wd h) : mR h 162 0 = some 165 := w.2 (162, 0, 165) (List.mem_of_getElem? (i := 161) rfl)
theorem r162_1 {h : mH} (w : Wd h) : mR h 162 1 = some 179 := w.2 (162, 1, 179) (List.mem_of_getElem? (i := 162) rfl)
theorem r163_0 {h : mH} (w : Wd h) : mR h 163 0 = some 172 := w.2 (163, 0, 172) (List.mem_of_getElem? (i := 163) rfl)
theorem r163_1 {h : mH} (w : Wd h) : mR h 163 1 = some 186 := w.2 (163, 1, 186) (List.mem_of_getElem? (i := 164) rfl)
theorem r164_0 {h : mH} (w : Wd h) : mR h 164 0 = some 176 := w.2 (164, 0, 176) (List.mem_of_getElem? (i := 165) rfl)
theorem r164_1 {h : mH} (w : Wd h) : mR h 164 1 = some 190 := w.2 (164, 1, 190) (List.mem_of_getElem? (i := 166) rfl)
theorem r165_0 {h : mH} (w : Wd h) : mR h 165 0 = some 166 := w.2 (165, 0, 166) (List.mem_of_getElem? (i := 167) rfl)
theorem r165_1 {h : mH} (w : Wd h) : mR h 165 1 = some 167 := w.2 (165, 1, 167) (List.mem_of_getElem? (i := 168) rfl)
theorem r165_2 {h : mH} (w : Wd h) : mR h 165 2 = some 168 := w.2 (165, 2, 168) (List.mem_of_getElem? (i := 169) rfl)
theorem r165_3 {h : mH} (w : Wd h) : mR h 165 3 = some 169 := w.2 (165, 3, 169) (List.mem_of_getElem? (i := 170) rfl)
theorem r165_4 {h : mH} (w : Wd h) : mR h 165 4 = some 170 := w.2 (165, 4, 170) (List.mem_of_getElem? (i := 171) rfl)
theorem r165_5 {h : mH} (w : Wd h) : mR h 165 5 = some 171 := w.2 (165, 5, 171) (List.mem_of_getElem? (i := 172) rfl)
theorem r172_0 {h : mH} (w : Wd h) : mR h 172 0 = some 173 := w.2 (172, 0, 173) (List.mem_of_getElem? (i := 173) rfl)
theorem r172_1 {h : mH} (w : Wd h) : mR h 172 1 = some 174 := w.2 (172, 1, 174) (List.mem_of_getElem? (i := 174) rfl)
theorem r172_2 {h : mH} (w : Wd h) : mR h 172 2 = some 175 := w.2 (172, 2, 175) (List.mem_of_getElem? (i := 175) rfl)
theorem r176_0 {h : mH} (w : Wd h) : mR h 176 0 = some 177 := w.2 (176, 0, 177) (List.mem_of_getElem? (i := 176) rfl)
theorem r176_1 {h : mH} (w : Wd h) : mR h 176 1 = some 178 := w.2 (176, 1, 178) (List.mem_of_getElem? (i := 177) rfl)
theorem r179_0 {h : mH} (w : Wd h) : mR h 179 0 = some 180 := w.2 (179, 0, 180) (List.mem_of_getElem? (i := 178) rfl)
theorem r179_1 {h : mH} (w : Wd h) : mR h 179 1 = some 181 := w.2 (179, 1, 181) (List.mem_of_getElem? (i := 179) rfl)
theorem r179_2 {h : mH} (w : Wd h) : mR h 179 2 = some 182 := w.2 (179, 2, 182) (List.mem_of_getElem? (i := 180) rfl)
theorem r179_3 {h : mH} (w : Wd h) : mR h 179 3 = some 183 := w.2 (179, 3, 183) (List.mem_of_getElem? (i := 181) rfl)
theorem r179_4 {h : mH} (w : Wd h) : mR h 179 4 = some 184 := w.2 (179, 4, 184) (List.mem_of_getElem? (i := 182) rfl)
theorem r179_5 {h : mH} (w : Wd h) : mR h 179 5 = some 185 := w.2 (179, 5, 185) (List.mem_of_getElem? (i := 183) rfl)
theorem r186_0 {h : mH} (w : Wd h) : mR h 186 0 = some 187 := w.2 (186, 0, 187) (List.mem_of_getElem? (i := 184) rfl)
theorem r186_1 {h : mH} (w : Wd h) : mR h 186 1 = some 188 := w.2 (186, 1, 188) (List.mem_of_getElem? (i := 185) rfl)
theorem r186_2 {h : mH} (w : Wd h) : mR h 186 2 = some 189 := w.2 (186, 2, 189) (List.mem_of_getElem? (i := 186) rfl)
theorem r190_0 {h : mH} (w : Wd h) : mR h 190 0 = some 191 := w.2 (190, 0, 191) (List.mem_of_getElem? (i := 187) rfl)
theorem r190_1 {h : mH} (w : Wd h) : mR h 190 1 = some 192 := w.2 (190, 1, 192) (List.mem_of_getElem? (i := 188) rfl)
theorem r193_1 {h : mH} (w : Wd h) : mR h 193 1 = some 194 := w.2 (193, 1, 194) (List.mem_of_getElem? (i := 189) rfl)
theorem r193_2 {h : mH} (w : Wd h) : mR h 193 2 = some 195 := w.2 (193, 2, 195) (List.mem_of_getElem? (i := 190) rfl)
theorem r193_3 {h : mH} (w : Wd h) : mR h 193 3 = some 196 := w.2 (193, 3, 196) (List.mem_of_getElem? (i := 191) rfl)
theorem r193_4 {h : mH} (w : Wd h) : mR h 193 4 = some 197 := w.2 (193, 4, 197) (List.mem_of_getElem? (i := 192) rfl)
theorem r193_5 {h : mH} (w : Wd h) : mR h 193 5 = some 198 := w.2 (193, 5, 198) (List.mem_of_getElem? (i := 193) rfl)
theorem r193_6 {h : mH} (w : Wd h) : mR h 193 6 = some 199 := w.2 (193, 6, 199) (List.mem_of_getElem? (i := 194) rfl)
theorem r193_7 {h : mH} (w : Wd h) : mR h 193 7 = some 200 := w.2 (193, 7, 200) (List.mem_of_getElem? (i := 195) rfl)
theorem r193_8 {h : mH} (w : Wd h) : mR h 193 8 = some 201 := w.2 (193, 8, 201) (List.mem_of_getElem? (i := 196) rfl)
theorem r193_18 {h : mH} (w : Wd h) : mR h 193 18 = some 202 := w.2 (193, 18, 202) (List.mem_of_getElem? (i := 197) rfl)
theorem r193_19 {h : mH} (w : Wd h) : mR h 193 19 = some 203 := w.2 (193, 19, 203) (List.mem_of_getElem? (i := 198) rfl)
theorem r193_32 {h : mH} (w : Wd h) : mR h 193 32 = some 204 := w.2 (193, 32, 204) (List.mem_of_getElem? (i := 199) rfl)
theorem r193_33 {h : mH} (w : Wd h) : mR h 193 33 = some 205 := w.2 (193, 33, 205) (List.mem_of_getElem? (i := 200) rfl)
theorem r193_34 {h : mH} (w : Wd h) : mR h 193 34 = some 206 := w.2 (193, 34, 206) (List.mem_of_getElem? (i := 201) rfl)
theorem r193_36 {h : mH} (w : Wd h) : mR h 193 36 = some 207 := w.2 (193, 36, 207) (List.mem_of_getElem? (i := 202) rfl)
theorem r193_38 {h : mH} (w : Wd h) : mR h 193 38 = some 208 := w.2 (193, 38, 208) (List.mem_of_getElem? (i := 203) rfl)
theorem r193_39 {h : mH} (w : Wd h) : mR h 193 39 = some 209 := w.2 (193, 39, 209) (List.mem_of_getElem? (i := 204) rfl)
theorem r193_40 {h : mH} (w : Wd h) : mR h 193 40 = some 210 := w.2 (193, 40, 210) (List.mem_of_getElem? (i := 205) rfl)
theorem r193_42 {h : mH} (w : Wd h) : mR h 193 42 = some 211 := w.2 (193, 42, 211) (List.mem_of_getElem? (i := 206) rfl)
theorem r193_45 {h : mH} (w : Wd h) : mR h 193 45 = some 212 := w.2 (193, 45, 212) (List.mem_of_getElem? (i := 207) rfl)
theorem r193_46 {h : mH} (w : Wd h) : mR h 193 46 = some 213 := w.2 (193, 46, 213) (List.mem_of_getElem? (i := 208) rfl)
theorem r193_47 {h : mH} (w : Wd h) : mR h 193 47 = some 214 := w.2 (193, 47, 214) (List.mem_of_getElem? (i := 209) rfl)
theorem r193_48 {h : mH} (w : Wd h) : mR h 193 48 = some 215 := w.2 (193, 48, 215) (List.mem_of_getElem? (i := 210) rfl)
theorem r193_49 {h : mH} (w : Wd h) : mR h 193 49 = some 216 := w.2 (193, 49, 216) (List.mem_of_getElem? (i := 211) rfl)
theorem r193_50 {h : mH} (w : Wd h) : mR h 193 50 = some 217 := w.2 (193, 50, 217) (List.mem_of_getElem? (i := 212) rfl)
