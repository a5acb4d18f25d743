/-! The lie of the cells behind both constructors; rules in the form in which walks use them. -/
def jl_S : List jx_K := [.inr (.inl 0), .inr (.inl 1), .inl (1, 400), .inr (.inl 2), .inr (.inl 3), .inl (1, 100), .inl (1, 8), .inl (1, 8), .inl (1, 8), .inl (1, 10), .inl (1, 8), .inl (1, 8), .inr (.inl 4), .inl (1, 10), .inl (1, 10), .inl (1, 10), .inl (1, 8), .inr (.inl 6), .inr (.inl 5), .inl (1, 400), .inl (1, 12), .inl (1, 12), .inl (1, 12), .inl (2, 60), .inr (.inr (5, 6)), .inr (.inl 7), .inr (.inl 3), .inl (1, 100), .inl (1, 8), .inl (1, 8), .inl (1, 8), .inl (1, 10), .inl (1, 8), .inl (1, 8), .inr (.inl 4), .inl (1, 10), .inl (1, 10), .inl (1, 10), .inl (1, 8), .inr (.inl 4), .inl (1, 10), .inl (1, 10), .inl (1, 10), .inl (1, 8), .inl (1, 10), .inl (1, 10), .inl (1, 10), .inl (1, 800), .inr (.inr (7, 4)), .inl (4, 4), .inr (.inl 8), .inr (.inl 3), .inl (1, 100), .inl (1, 8), .inl (1, 8), .inl (1, 8), .inl (1, 10), .inl (1, 8), .inl (1, 8), .inr (.inl 4), .inl (1, 10), .inl (1, 10), .inl (1, 10), .inl (1, 8), .inl (1, 10), .inl (2, 12), .inr (.inl 9), .inr (.inl 4), .inl (1, 10), .inl (1, 10), .inl (1, 10), .inl (1, 8), .inr (.inl 4), .inl (1, 10), .inl (1, 10), .inl (1, 10), .inl (1, 8), .inl (1, 110), .inr (.inl 10), .inr (.inr (4, 5)), .inl (1, 3), .inr (.inl 4), .inl (1, 10), .inl (1, 10), .inl (1, 10), .inl (1, 8), .inr (.inl 4), .inl (1, 10), .inl (1, 10), .inl (1, 10), .inl (1, 8), .inr (.inl 4), .inl (1, 10), .inl (1, 10), .inl (1, 10), .inl (1, 8), .inr (.inl 4), .inl (1, 10), .inl (1, 10), .inl (1, 10), .inl (1, 8), .inr (.inl 4), .inl (1, 10), .inl (1, 10), .inl (1, 10), .inl (1, 8), .inr (.inl 11), .inl (1, 310), .inl (1, 300), .inl (1, 300), .inl (1, 100), .inr (.inl 3), .inl (1, 100), .inl (1, 8), .inl (1, 8), .inl (1, 8), .inl (1, 10), .inl (1, 8), .inl (1, 8), .inr (.inl 4), .inl (1, 10), .inl (1, 10), .inl (1, 10), .inl (1, 8), .inr (.inl 5), .inl (1, 400), .inl (1, 12), .inl (1, 12), .inl (1, 12), .inl (2, 60), .inr (.inl 5), .inl (1, 400), .inl (1, 12), .inl (1, 12), .inl (1, 12), .inl (2, 60), .inr (.inl 5), .inl (1, 400), .inl (1, 12), .inl (1, 12), .inl (1, 12), .inl (2, 60), .inr (.inl 5), .inl (1, 400), .inl (1, 12), .inl (1, 12), .inl (1, 12), .inl (2, 60), .inr (.inl 5), .inl (1, 400), .inl (1, 12), .inl (1, 12), .inl (1, 12), .inl (2, 60), .inr (.inl 5), .inl (1, 400), .inl (1, 12), .inl (1, 12), .inl (1, 12), .inl (2, 60), .inr (.inl 7), .inr (.inl 3), .inl (1, 100), .inl (1, 8), .inl (1, 8), .inl (1, 8), .inl (1, 10), .inl (1, 8), .inl (1, 8), .inr (.inl 4), .inl (1, 10), .inl (1, 10), .inl (1, 10), .inl (1, 8), .inr (.inl 4), .inl (1, 10), .inl (1, 10), .inl (1, 10), .inl (1, 8), .inl (1, 10), .inl (1, 10), .inl (1, 10), .inl (1, 800), .inr (.inl 7), .inr (.inl 3), .inl (1, 100), .inl (1, 8), .inl (1, 8), .inl (1, 8), .inl (1, 10), .inl (1, 8), .inl (1, 8), .inr (.inl 4), .inl (1, 10), .inl (1, 10), .inl (1, 10), .inl (1, 8), .inr (.inl 4), .inl (1, 10), .inl (1, 10), .inl (1, 10), .inl (1, 8), .inl (1, 10), .inl (1, 10), .inl (1, 10), .inl (1, 800), .inr (.inl 7), .inr (.inl 3), .inl (1, 100), .inl (1, 8), .inl (1, 8), .inl (1, 8), .inl (1, 10), .inl (1, 8), .inl (1, 8), .inr (.inl 4), .inl (1, 10), .inl (1, 10), .inl (1, 10), .inl (1, 8), .inr (.inl 4), .inl (1, 10), .inl (1, 10), .inl (1, 10), .inl (1, 8), .inl (1, 10), .inl (1, 10), .inl (1, 10), .inl (1, 800), .inr (.inl 7), .inr (.inl 3), .inl (1, 100), .inl (1, 8), .inl (1, 8), .inl (1, 8), .inl (1, 10), .inl (1, 8), .inl (1, 8), .inr (.inl 4), .inl (1, 10), .inl (1, 10), .inl (1, 10), .inl (1, 8), .inr (.inl 4), .inl (1, 10), .inl (1, 10), .inl (1, 10), .inl (1, 8), .inl (1, 10), .inl (1, 10), .inl (1, 10), .inl (1, 800), .inr (.inl 12), .inl (1, 9), .inl (1, 10), .inl (1, 10), .inl (1, 10), .inl (1, 100), .inl (1, 8), .inl (1, 8), .inl (1, 8), .inl (1, 8), .inl (1, 8), .inl (1, 8), .inl (1, 10), .inl (1, 10), .inl (1, 10), .inl (1, 10), .inl (1, 1), .inl (1, 5), .inl (1, 10), .inl (1, 10), .inl (1, 10), .inl (1, 100), .inl (1, 8), .inl (1, 8), .inl (1, 8), .inl (1, 8), .inl (1, 8), .inl (3, 400), .inl (1, 1800), .inl (1, 1800), .inl (1, 6), .inl (1, 72), .inl (1, 72), .inl (1, 72), .inl (1, 402), .inl (2, 12), .inl (2, 300), .inl (1, 10), .inl (1, 8), .inl (1, 800), .inl (1, 1), .inl (1, 3), .inl (1, 3), .inl (1, 84), .inl (1, 5), .inl (1, 5), .inl (1, 310), .inl (1, 1000), .inl (1, 10), .inl (1, 5500), .inl (4, 4)]
def jl_R : List (Nat × Nat × Nat) := [(1, 0, 2), (1, 1, 4), (1, 2, 18), (1, 3, 25), (1, 5, 26), (1, 6, 49), (1, 7, 50), (1, 8, 51), (1, 9, 67), (1, 10, 79), (1, 11, 107), (2, 0, 3), (4, 0, 2), (5, 4, 6), (5, 5, 7), (5, 6, 8), (5, 7, 9), (5, 8, 10), (5, 9, 11), (5, 10, 12), (5, 11, 13), (13, 0, 14), (13, 1, 15), (13, 2, 16), (13, 3, 17), (18, 0, 2), (19, 0, 20), (19, 2, 21), (19, 3, 22), (19, 4, 23), (19, 6, 24), (25, 0, 125), (25, 1, 131), (25, 2, 137), (25, 3, 143), (25, 4, 149), (25, 5, 155), (26, 1, 40), (26, 5, 45), (26, 6, 46), (26, 7, 47), (26, 8, 48), (27, 4, 28), (27, 5, 29), (27, 6, 30), (27, 7, 31), (27, 8, 32), (27, 9, 33), (27, 10, 34), (27, 11, 35), (35, 0, 36), (35, 1, 37), (35, 2, 38), (35, 3, 39), (40, 0, 41), (40, 1, 42), (40, 2, 43), (40, 3, 44), (49, 0, 161), (49, 1, 184), (49, 2, 207), (49, 3, 230), (51, 2, 65), (51, 3, 66), (52, 4, 53), (52, 5, 54), (52, 6, 55), (52, 7, 56), (52, 8, 57), (52, 9, 58), (52, 10, 59), (52, 11, 60), (60, 0, 61), (60, 1, 62), (60, 2, 63), (60, 3, 64), (67, 0, 51), (67, 1, 68), (67, 2, 73), (67, 3, 78), (68, 0, 69), (68, 1, 70), (68, 2, 71), (68, 3, 72), (73, 0, 74), (73, 1, 75), (73, 2, 76), (73, 3, 77), (79, 0, 51), (79, 1, 80), (79, 2, 81), (80, 0, 82), (80, 1, 87), (80, 2, 92), (80, 3, 97), (80, 4, 102), (82, 0, 83), (82, 1, 84), (82, 2, 85), (82, 3, 86), (87, 0, 88), (87, 1, 89), (87, 2, 90), (87, 3, 91), (92, 0, 93), (92, 1, 94), (92, 2, 95), (92, 3, 96), (97, 0, 98), (97, 1, 99), (97, 2, 100), (97, 3, 101), (102, 0, 103), (102, 1, 104), (102, 2, 105), (102, 3, 106), (107, 0, 108), (107, 1, 109), (107, 2, 110), (107, 3, 111), (112, 4, 113), (112, 5, 114), (112, 6, 115), (112, 7, 116), (112, 8, 117), (112, 9, 118), (112, 10, 119), (112, 11, 120), (120, 0, 121), (120, 1, 122), (120, 2, 123), (120, 3, 124), (125, 0, 126), (125, 2, 127), (125, 3, 128), (125, 4, 129), (125, 6, 130), (131, 0, 132), (131, 2, 133), (131, 3, 134), (131, 4, 135), (131, 6, 136), (137, 0, 138), (137, 2, 139), (137, 3, 140), (137, 4, 141), (137, 6, 142), (143, 0, 144), (143, 2, 145), (143, 3, 146), (143, 4, 147), (143, 6, 148), (149, 0, 150), (149, 2, 151), (149, 3, 152), (149, 4, 153), (149, 6, 154), (155, 0, 156), (155, 2, 157), (155, 3, 158), (155, 4, 159), (155, 6, 160), (161, 1, 175), (161, 5, 180), (161, 6, 181), (161, 7, 182), (161, 8, 183), (162, 4, 163), (162, 5, 164), (162, 6, 165), (162, 7, 166), (162, 8, 167), (162, 9, 168), (162, 10, 169), (162, 11, 170), (170, 0, 171), (170, 1, 172), (170, 2, 173), (170, 3, 174), (175, 0, 176), (175, 1, 177), (175, 2, 178), (175, 3, 179), (184, 1, 198), (184, 5, 203), (184, 6, 204), (184, 7, 205), (184, 8, 206), (185, 4, 186), (185, 5, 187), (185, 6, 188), (185, 7, 189), (185, 8, 190), (185, 9, 191), (185, 10, 192), (185, 11, 193), (193, 0, 194), (193, 1, 195), (193, 2, 196), (193, 3, 197), (198, 0, 199), (198, 1, 200), (198, 2, 201), (198, 3, 202), (207, 1, 221), (207, 5, 226), (207, 6, 227), (207, 7, 228), (207, 8, 229), (208, 4, 209), (208, 5, 210), (208, 6, 211), (208, 7, 212), (208, 8, 213), (208, 9, 214), (208, 10, 215), (208, 11, 216), (216, 0, 217), (216, 1, 218), (216, 2, 219), (216, 3, 220), (221, 0, 222), (221, 1, 223), (221, 2, 224), (221, 3, 225), (230, 1, 244), (230, 5, 249), (230, 6, 250), (230, 7, 251), (230, 8, 252), (231, 4, 232), (231, 5, 233), (231, 6, 234), (231, 7, 235), (231, 8, 236), (231, 9, 237), (231, 10, 238), (231, 11, 239), (239, 0, 240), (239, 1, 241), (239, 2, 242), (239, 3, 243), (244, 0, 245), (244, 1, 246), (244, 2, 247), (244, 3, 248), (253, 1, 254), (253, 2, 255), (253, 3, 256), (253, 4, 257), (253, 5, 258), (253, 6, 259), (253, 7, 260), (253, 8, 261), (253, 9, 262), (253, 10, 263), (253, 11, 264), (253, 12, 265), (253, 13, 266), (253, 14, 267), (253, 15, 268), (253, 16, 269), (253, 17, 270), (253, 18, 271), (253, 19, 272), (253, 20, 273), (253, 21, 274), (253, 22, 275), (253, 23, 276), (253, 24, 277), (253, 25, 278), (253, 26, 279), (253, 37, 280), (253, 38, 281), (253, 39, 282), (253, 40, 283), (253, 41, 284), (253, 42, 285), (253, 43, 286), (253, 44, 287), (253, 45, 288), (253, 46, 289), (253, 47, 290), (253, 48, 291), (253, 49, 292), (253, 50, 293), (253, 54, 294), (253, 55, 295), (253, 56, 296), (253, 57, 297), (253, 58, 298), (253, 60, 299), (253, 62, 300), (253, 63, 301), (253, 64, 302), (253, 65, 303)]
def jx_St (h : jx_H) : Prop := (∀ (a : Nat) (k : jx_K), jl_S[a]? = some k → h.1[a + 1]? = some k) ∧ ∀ q ∈ jl_R, h.2.2.2 q.1 q.2.1 = some q.2.2
theorem sK1 {h : jx_H} (H : jx_St h) : h.1[1]? = some (.inr (.inl 0)) := H.1 0 _ rfl
theorem sK2 {h : jx_H} (H : jx_St h) : h.1[2]? = some (.inr (.inl 1)) := H.1 1 _ rfl
theorem sK3 {h : jx_H} (H : jx_St h) : h.1[3]? = some (.inl (1, 400)) := H.1 2 _ rfl
theorem sK4 {h : jx_H} (H : jx_St h) : h.1[4]? = some (.inr (.inl 2)) := H.1 3 _ rfl
theorem sK5 {h : jx_H} (H : jx_St h) : h.1[5]? = some (.inr (.inl 3)) := H.1 4 _ rfl
theorem sK6 {h : jx_H} (H : jx_St h) : h.1[6]? = some (.inl (1, 100)) := H.1 5 _ rfl
theorem sK7 {h : jx_H} (H : jx_St h) : h.1[7]? = some (.inl (1, 8)) := H.1 6 _ rfl
theorem sK8 {h : jx_H} (H : jx_St h) : h.1[8]? = some (.inl (1, 8)) := H.1 7 _ rfl
theorem sK9 {h : jx_H} (H : jx_St h) : h.1[9]? = some (.inl (1, 8)) := H.1 8 _ rfl
theorem sK10 {h : jx_H} (H : jx_St h) : h.1[10]? = some (.inl (1, 10)) := H.1 9 _ rfl
theorem sK11 {h : jx_H} (H : jx_St h) : h.1[11]? = some (.inl (1, 8)) := H.1 10 _ rfl
theorem sK12 {h : jx_H} (H : jx_St h) : h.1[12]? = some (.inl (1, 8)) := H.1 11 _ rfl
theorem sK13 {h : jx_H} (H : jx_St h) : h.1[13]? = some (.inr (.inl 4)) := H.1 12 _ rfl
theorem sK14 {h : jx_H} (H : jx_St h) : h.1[14]? = some (.inl (1, 10)) := H.1 13 _ rfl
theorem sK15 {h : jx_H} (H : jx_St h) : h.1[15]? = some (.inl (1, 10)) := H.1 14 _ rfl
theorem sK16 {h : jx_H} (H : jx_St h) : h.1[16]? = some (.inl (1, 10)) := H.1 15 _ rfl
theorem sK17 {h : jx_H} (H : jx_St h) : h.1[17]? = some (.inl (1, 8)) := H.1 16 _ rfl
theorem sK18 {h : jx_H} (H : jx_St h) : h.1[18]? = some (.inr (.inl 6)) := H.1 17 _ rfl
theorem sK19 {h : jx_H} (H : jx_St h) : h.1[19]? = some (.inr (.inl 5)) := H.1 18 _ rfl
theorem sK20 {h : jx_H} (H : jx_St h) : h.1[20]? = some (.inl (1, 400)) := H.1 19 _ rfl
theorem sK21 {h : jx_H} (H : jx_St h) : h.1[21]? = some (.inl (1, 12)) := H.1 20 _ rfl
theorem sK22 {h : jx_H} (H : jx_St h) : h.1[22]? = some (.inl (1, 12)) := H.1 21 _ rfl
theorem sK23 {h : jx_H} (H : jx_St h) : h.1[23]? = some (.inl (1, 12)) := H.1 22 _ rfl
theorem sK24 {h : jx_H} (H : jx_St h) : h.1[24]? = some (.inl (2, 60)) := H.1 23 _ rfl
theorem sK25 {h : jx_H} (H : jx_St h) : h.1[25]? = some (.inr (.inr (5, 6))) := H.1 24 _ rfl
theorem sK26 {h : jx_H} (H : jx_St h) : h.1[26]? = some (.inr (.inl 7)) := H.1 25 _ rfl
theorem sK27 {h : jx_H} (H : jx_St h) : h.1[27]? = some (.inr (.inl 3)) := H.1 26 _ rfl
theorem sK28 {h : jx_H} (H : jx_St h) : h.1[28]? = some (.inl (1, 100)) := H.1 27 _ rfl
theorem sK29 {h : jx_H} (H : jx_St h) : h.1[29]? = some (.inl (1, 8)) := H.1 28 _ rfl
theorem sK30 {h : jx_H} (H : jx_St h) : h.1[30]? = some (.inl (1, 8)) := H.1 29 _ rfl
theorem sK31 {h : jx_H} (H : jx_St h) : h.1[31]? = some (.inl (1, 8)) := H.1 30 _ rfl
theorem sK32 {h : jx_H} (H : jx_St h) : h.1[32]? = some (.inl (1, 10)) := H.1 31 _ rfl
theorem sK33 {h : jx_H} (H : jx_St h) : h.1[33]? = some (.inl (1, 8)) := H.1 32 _ rfl
theorem sK34 {h : jx_H} (H : jx_St h) : h.1[34]? = some (.inl (1, 8)) := H.1 33 _ rfl
theorem sK35 {h : jx_H} (H : jx_St h) : h.1[35]? = some (.inr (.inl 4)) := H.1 34 _ rfl
theorem sK36 {h : jx_H} (H : jx_St h) : h.1[36]? = some (.inl (1, 10)) := H.1 35 _ rfl
theorem sK37 {h : jx_H} (H : jx_St h) : h.1[37]? = some (.inl (1, 10)) := H.1 36 _ rfl
theorem sK38 {h : jx_H} (H : jx_St h) : h.1[38]? = some (.inl (1, 10)) := H.1 37 _ rfl
theorem sK39 {h : jx_H} (H : jx_St h) : h.1[39]? = some (.inl (1, 8)) := H.1 38 _ rfl
theorem sK40 {h : jx_H} (H : jx_St h) : h.1[40]? = some (.inr (.inl 4)) := H.1 39 _ rfl
theorem sK41 {h : jx_H} (H : jx_St h) : h.1[41]? = some (.inl (1, 10)) := H.1 40 _ rfl
theorem sK42 {h : jx_H} (H : jx_St h) : h.1[42]? = some (.inl (1, 10)) := H.1 41 _ rfl
theorem sK43 {h : jx_H} (H : jx_St h) : h.1[43]? = some (.inl (1, 10)) := H.1 42 _ rfl
theorem sK44 {h : jx_H} (H : jx_St h) : h.1[44]? = some (.inl (1, 8)) := H.1 43 _ rfl
theorem sK45 {h : jx_H} (H : jx_St h) : h.1[45]? = some (.inl (1, 10)) := H.1 44 _ rfl
theorem sK46 {h : jx_H} (H : jx_St h) : h.1[46]? = some (.inl (1, 10)) := H.1 45 _ rfl
theorem sK47 {h : jx_H} (H : jx_St h) : h.1[47]? = some (.inl (1, 10)) := H.1 46 _ rfl
theorem sK48 {h : jx_H} (H : jx_St h) : h.1[48]? = some (.inl (1, 800)) := H.1 47 _ rfl
theorem sK49 {h : jx_H} (H : jx_St h) : h.1[49]? = some (.inr (.inr (7, 4))) := H.1 48 _ rfl
theorem sK50 {h : jx_H} (H : jx_St h) : h.1[50]? = some (.inl (4, 4)) := H.1 49 _ rfl
theorem sK51 {h : jx_H} (H : jx_St h) : h.1[51]? = some (.inr (.inl 8)) := H.1 50 _ rfl
theorem sK52 {h : jx_H} (H : jx_St h) : h.1[52]? = some (.inr (.inl 3)) := H.1 51 _ rfl
theorem sK53 {h : jx_H} (H : jx_St h) : h.1[53]? = some (.inl (1, 100)) := H.1 52 _ rfl
theorem sK54 {h : jx_H} (H : jx_St h) : h.1[54]? = some (.inl (1, 8)) := H.1 53 _ rfl
theorem sK55 {h : jx_H} (H : jx_St h) : h.1[55]? = some (.inl (1, 8)) := H.1 54 _ rfl
theorem sK56 {h : jx_H} (H : jx_St h) : h.1[56]? = some (.inl (1, 8)) := H.1 55 _ rfl
theorem sK57 {h : jx_H} (H : jx_St h) : h.1[57]? = some (.inl (1, 10)) := H.1 56 _ rfl
theorem sK58 {h : jx_H} (H : jx_St h) : h.1[58]? = some (.inl (1, 8)) := H.1 57 _ rfl
theorem sK59 {h : jx_H} (H : jx_St h) : h.1[59]? = some (.inl (1, 8)) := H.1 58 _ rfl
theorem sK60 {h : jx_H} (H : jx_St h) : h.1[60]? = some (.inr (.inl 4)) := H.1 59 _ rfl
theorem sK61 {h : jx_H} (H : jx_St h) : h.1[61]? = some (.inl (1, 10)) := H.1 60 _ rfl
theorem sK62 {h : jx_H} (H : jx_St h) : h.1[62]? = some (.inl (1, 10)) := H.1 61 _ rfl
theorem sK63 {h : jx_H} (H : jx_St h) : h.1[63]? = some (.inl (1, 10)) := H.1 62 _ rfl
theorem sK64 {h : jx_H} (H : jx_St h) : h.1[64]? = some (.inl (1, 8)) := H.1 63 _ rfl
theorem sK65 {h : jx_H} (H : jx_St h) : h.1[65]? = some (.inl (1, 10)) := H.1 64 _ rfl
theorem sK66 {h : jx_H} (H : jx_St h) : h.1[66]? = some (.inl (2, 12)) := H.1 65 _ rfl
theorem sK67 {h : jx_H} (H : jx_St h) : h.1[67]? = some (.inr (.inl 9)) := H.1 66 _ rfl
theorem sK68 {h : jx_H} (H : jx_St h) : h.1[68]? = some (.inr (.inl 4)) := H.1 67 _ rfl
theorem sK69 {h : jx_H} (H : jx_St h) : h.1[69]? = some (.inl (1, 10)) := H.1 68 _ rfl
theorem sK70 {h : jx_H} (H : jx_St h) : h.1[70]? = some (.inl (1, 10)) := H.1 69 _ rfl
theorem sK71 {h : jx_H} (H : jx_St h) : h.1[71]? = some (.inl (1, 10)) := H.1 70 _ rfl
theorem sK72 {h : jx_H} (H : jx_St h) : h.1[72]? = some (.inl (1, 8)) := H.1 71 _ rfl
theorem sK73 {h : jx_H} (H : jx_St h) : h.1[73]? = some (.inr (.inl 4)) := H.1 72 _ rfl
theorem sK74 {h : jx_H} (H : jx_St h) : h.1[74]? = some (.inl (1, 10)) := H.1 73 _ rfl
theorem sK75 {h : jx_H} (H : jx_St h) : h.1[75]? = some (.inl (1, 10)) := H.1 74 _ rfl
theorem sK76 {h : jx_H} (H : jx_St h) : h.1[76]? = some (.inl (1, 10)) := H.1 75 _ rfl
theorem sK77 {h : jx_H} (H : jx_St h) : h.1[77]? = some (.inl (1, 8)) := H.1 76 _ rfl
theorem sK78 {h : jx_H} (H : jx_St h) : h.1[78]? = some (.inl (1, 110)) := H.1 77 _ rfl
theorem sK79 {h : jx_H} (H : jx_St h) : h.1[79]? = some (.inr (.inl 10)) := H.1 78 _ rfl
theorem sK80 {h : jx_H} (H : jx_St h) : h.1[80]? = some (.inr (.inr (4, 5))) := H.1 79 _ rfl
theorem sK81 {h : jx_H} (H : jx_St h) : h.1[81]? = some (.inl (1, 3)) := H.1 80 _ rfl
theorem sK82 {h : jx_H} (H : jx_St h) : h.1[82]? = some (.inr (.inl 4)) := H.1 81 _ rfl
theorem sK83 {h : jx_H} (H : jx_St h) : h.1[83]? = some (.inl (1, 10)) := H.1 82 _ rfl
theorem sK84 {h : jx_H} (H : jx_St h) : h.1[84]? = some (.inl (1, 10)) := H.1 83 _ rfl
theorem sK85 {h : jx_H} (H : jx_St h) : h.1[85]? = some (.inl (1, 10)) := H.1 84 _ rfl
theorem sK86 {h : jx_H} (H : jx_St h) : h.1[86]? = some (.inl (1, 8)) := H.1 85 _ rfl
theorem sK87 {h : jx_H} (H : jx_St h) : h.1[87]? = some (.inr (.inl 4)) := H.1 86 _ rfl
theorem sK88 {h : jx_H} (H : jx_St h) : h.1[88]? = some (.inl (1, 10)) := H.1 87 _ rfl
theorem sK89 {h : jx_H} (H : jx_St h) : h.1[89]? = some (.inl (1, 10)) := H.1 88 _ rfl
theorem sK90 {h : jx_H} (H : jx_St h) : h.1[90]? = some (.inl (1, 10)) := H.1 89 _ rfl
theorem sK91 {h : jx_H} (H : jx_St h) : h.1[91]? = some (.inl (1, 8)) := H.1 90 _ rfl
theorem sK92 {h : jx_H} (H : jx_St h) : h.1[92]? = some (.inr (.inl 4)) := H.1 91 _ rfl
theorem sK93 {h : jx_H} (H : jx_St h) : h.1[93]? = some (.inl (1, 10)) := H.1 92 _ rfl
theorem sK94 {h : jx_H} (H : jx_St h) : h.1[94]? = some (.inl (1, 10)) := H.1 93 _ rfl
theorem sK95 {h : jx_H} (H : jx_St h) : h.1[95]? = some (.inl (1, 10)) := H.1 94 _ rfl
theorem sK96 {h : jx_H} (H : jx_St h) : h.1[96]? = some (.inl (1, 8)) := H.1 95 _ rfl
theorem sK97 {h : jx_H} (H : jx_St h) : h.1[97]? = some (.inr (.inl 4)) := H.1 96 _ rfl
theorem sK98 {h : jx_H} (H : jx_St h) : h.1[98]? = some (.inl (1, 10)) := H.1 97 _ rfl
theorem sK99 {h : jx_H} (H : jx_St h) : h.1[99]? = some (.inl (1, 10)) := H.1 98 _ rfl
theorem sK100 {h : jx_H} (H : jx_St h) : h.1[100]? = some (.inl (1, 10)) := H.1 99 _ rfl
theorem sK101 {h : jx_H} (H : jx_St h) : h.1[101]? = some (.inl (1, 8)) := H.1 100 _ rfl
theorem sK102 {h : jx_H} (H : jx_St h) : h.1[102]? = some (.inr (.inl 4)) := H.1 101 _ rfl
theorem sK103 {h : jx_H} (H : jx_St h) : h.1[103]? = some (.inl (1, 10)) := H.1 102 _ rfl
theorem sK104 {h : jx_H} (H : jx_St h) : h.1[104]? = some (.inl (1, 10)) := H.1 103 _ rfl
theorem sK105 {h : jx_H} (H : jx_St h) : h.1[105]? = some (.inl (1, 10)) := H.1 104 _ rfl
theorem sK106 {h : jx_H} (H : jx_St h) : h.1[106]? = some (.inl (1, 8)) := H.1 105 _ rfl
theorem sK107 {h : jx_H} (H : jx_St h) : h.1[107]? = some (.inr (.inl 11)) := H.1 106 _ rfl
theorem sK108 {h : jx_H} (H : jx_St h) : h.1[108]? = some (.inl (1, 310)) := H.1 107 _ rfl
theorem sK109 {h : jx_H} (H : jx_St h) : h.1[109]? = some (.inl (1, 300)) := H.1 108 _ rfl
theorem sK110 {h : jx_H} (H : jx_St h) : h.1[110]? = some (.inl (1, 300)) := H.1 109 _ rfl
theorem sK111 {h : jx_H} (H : jx_St h) : h.1[111]? = some (.inl (1, 100)) := H.1 110 _ rfl
theorem sK112 {h : jx_H} (H : jx_St h) : h.1[112]? = some (.inr (.inl 3)) := H.1 111 _ rfl
theorem sK113 {h : jx_H} (H : jx_St h) : h.1[113]? = some (.inl (1, 100)) := H.1 112 _ rfl
theorem sK114 {h : jx_H} (H : jx_St h) : h.1[114]? = some (.inl (1, 8)) := H.1 113 _ rfl
theorem sK115 {h : jx_H} (H : jx_St h) : h.1[115]? = some (.inl (1, 8)) := H.1 114 _ rfl
theorem sK116 {h : jx_H} (H : jx_St h) : h.1[116]? = some (.inl (1, 8)) := H.1 115 _ rfl
theorem sK117 {h : jx_H} (H : jx_St h) : h.1[117]? = some (.inl (1, 10)) := H.1 116 _ rfl
theorem sK118 {h : jx_H} (H : jx_St h) : h.1[118]? = some (.inl (1, 8)) := H.1 117 _ rfl
theorem sK119 {h : jx_H} (H : jx_St h) : h.1[119]? = some (.inl (1, 8)) := H.1 118 _ rfl
theorem sK120 {h : jx_H} (H : jx_St h) : h.1[120]? = some (.inr (.inl 4)) := H.1 119 _ rfl
theorem sK121 {h : jx_H} (H : jx_St h) : h.1[121]? = some (.inl (1, 10)) := H.1 120 _ rfl
theorem sK122 {h : jx_H} (H : jx_St h) : h.1[122]? = some (.inl (1, 10)) := H.1 121 _ rfl
theorem sK123 {h : jx_H} (H : jx_St h) : h.1[123]? = some (.inl (1, 10)) := H.1 122 _ rfl
theorem sK124 {h : jx_H} (H : jx_St h) : h.1[124]? = some (.inl (1, 8)) := H.1 123 _ rfl
theorem sK125 {h : jx_H} (H : jx_St h) : h.1[125]? = some (.inr (.inl 5)) := H.1 124 _ rfl
theorem sK126 {h : jx_H} (H : jx_St h) : h.1[126]? = some (.inl (1, 400)) := H.1 125 _ rfl
theorem sK127 {h : jx_H} (H : jx_St h) : h.1[127]? = some (.inl (1, 12)) := H.1 126 _ rfl
theorem sK128 {h : jx_H} (H : jx_St h) : h.1[128]? = some (.inl (1, 12)) := H.1 127 _ rfl
theorem sK129 {h : jx_H} (H : jx_St h) : h.1[129]? = some (.inl (1, 12)) := H.1 128 _ rfl
theorem sK130 {h : jx_H} (H : jx_St h) : h.1[130]? = some (.inl (2, 60)) := H.1 129 _ rfl
theorem sK131 {h : jx_H} (H : jx_St h) : h.1[131]? = some (.inr (.inl 5)) := H.1 130 _ rfl
theorem sK132 {h : jx_H} (H : jx_St h) : h.1[132]? = some (.inl (1, 400)) := H.1 131 _ rfl
theorem sK133 {h : jx_H} (H : jx_St h) : h.1[133]? = some (.inl (1, 12)) := H.1 132 _ rfl
theorem sK134 {h : jx_H} (H : jx_St h) : h.1[134]? = some (.inl (1, 12)) := H.1 133 _ rfl
theorem sK135 {h : jx_H} (H : jx_St h) : h.1[135]? = some (.inl (1, 12)) := H.1 134 _ rfl
theorem sK136 {h : jx_H} (H : jx_St h) : h.1[136]? = some (.inl (2, 60)) := H.1 135 _ rfl
theorem sK137 {h : jx_H} (H : jx_St h) : h.1[137]? = some (.inr (.inl 5)) := H.1 136 _ rfl
theorem sK138 {h : jx_H} (H : jx_St h) : h.1[138]? = some (.inl (1, 400)) := H.1 137 _ rfl
theorem sK139 {h : jx_H} (H : jx_St h) : h.1[139]? = some (.inl (1, 12)) := H.1 138 _ rfl
theorem sK140 {h : jx_H} (H : jx_St h) : h.1[140]? = some (.inl (1, 12)) := H.1 139 _ rfl
theorem sK141 {h : jx_H} (H : jx_St h) : h.1[141]? = some (.inl (1, 12)) := H.1 140 _ rfl
theorem sK142 {h : jx_H} (H : jx_St h) : h.1[142]? = some (.inl (2, 60)) := H.1 141 _ rfl
theorem sK143 {h : jx_H} (H : jx_St h) : h.1[143]? = some (.inr (.inl 5)) := H.1 142 _ rfl
theorem sK144 {h : jx_H} (H : jx_St h) : h.1[144]? = some (.inl (1, 400)) := H.1 143 _ rfl
theorem sK145 {h : jx_H} (H : jx_St h) : h.1[145]? = some (.inl (1, 12)) := H.1 144 _ rfl
theorem sK146 {h : jx_H} (H : jx_St h) : h.1[146]? = some (.inl (1, 12)) := H.1 145 _ rfl
theorem sK147 {h : jx_H} (H : jx_St h) : h.1[147]? = some (.inl (1, 12)) := H.1 146 _ rfl
theorem sK148 {h : jx_H} (H : jx_St h) : h.1[148]? = some (.inl (2, 60)) := H.1 147 _ rfl
theorem sK149 {h : jx_H} (H : jx_St h) : h.1[149]? = some (.inr (.inl 5)) := H.1 148 _ rfl
theorem sK150 {h : jx_H} (H : jx_St h) : h.1[150]? = some (.inl (1, 400)) := H.1 149 _ rfl
theorem sK151 {h : jx_H} (H : jx_St h) : h.1[151]? = some (.inl (1, 12)) := H.1 150 _ rfl
theorem sK152 {h : jx_H} (H : jx_St h) : h.1[152]? = some (.inl (1, 12)) := H.1 151 _ rfl
theorem sK153 {h : jx_H} (H : jx_St h) : h.1[153]? = some (.inl (1, 12)) := H.1 152 _ rfl
theorem sK154 {h : jx_H} (H : jx_St h) : h.1[154]? = some (.inl (2, 60)) := H.1 153 _ rfl
theorem sK155 {h : jx_H} (H : jx_St h) : h.1[155]? = some (.inr (.inl 5)) := H.1 154 _ rfl
theorem sK156 {h : jx_H} (H : jx_St h) : h.1[156]? = some (.inl (1, 400)) := H.1 155 _ rfl
theorem sK157 {h : jx_H} (H : jx_St h) : h.1[157]? = some (.inl (1, 12)) := H.1 156 _ rfl
theorem sK158 {h : jx_H} (H : jx_St h) : h.1[158]? = some (.inl (1, 12)) := H.1 157 _ rfl
theorem sK159 {h : jx_H} (H : jx_St h) : h.1[159]? = some (.inl (1, 12)) := H.1 158 _ rfl
theorem sK160 {h : jx_H} (H : jx_St h) : h.1[160]? = some (.inl (2, 60)) := H.1 159 _ rfl
theorem sK161 {h : jx_H} (H : jx_St h) : h.1[161]? = some (.inr (.inl 7)) := H.1 160 _ rfl
theorem sK162 {h : jx_H} (H : jx_St h) : h.1[162]? = some (.inr (.inl 3)) := H.1 161 _ rfl
theorem sK163 {h : jx_H} (H : jx_St h) : h.1[163]? = some (.inl (1, 100)) := H.1 162 _ rfl
theorem sK164 {h : jx_H} (H : jx_St h) : h.1[164]? = some (.inl (1, 8)) := H.1 163 _ rfl
theorem sK165 {h : jx_H} (H : jx_St h) : h.1[165]? = some (.inl (1, 8)) := H.1 164 _ rfl
theorem sK166 {h : jx_H} (H : jx_St h) : h.1[166]? = some (.inl (1, 8)) := H.1 165 _ rfl
theorem sK167 {h : jx_H} (H : jx_St h) : h.1[167]? = some (.inl (1, 10)) := H.1 166 _ rfl
theorem sK168 {h : jx_H} (H : jx_St h) : h.1[168]? = some (.inl (1, 8)) := H.1 167 _ rfl
theorem sK169 {h : jx_H} (H : jx_St h) : h.1[169]? = some (.inl (1, 8)) := H.1 168 _ rfl
theorem sK170 {h : jx_H} (H : jx_St h) : h.1[170]? = some (.inr (.inl 4)) := H.1 169 _ rfl
theorem sK171 {h : jx_H} (H : jx_St h) : h.1[171]? = some (.inl (1, 10)) := H.1 170 _ rfl
theorem sK172 {h : jx_H} (H : jx_St h) : h.1[172]? = some (.inl (1, 10)) := H.1 171 _ rfl
theorem sK173 {h : jx_H} (H : jx_St h) : h.1[173]? = some (.inl (1, 10)) := H.1 172 _ rfl
theorem sK174 {h : jx_H} (H : jx_St h) : h.1[174]? = some (.inl (1, 8)) := H.1 173 _ rfl
theorem sK175 {h : jx_H} (H : jx_St h) : h.1[175]? = some (.inr (.inl 4)) := H.1 174 _ rfl
theorem sK176 {h : jx_H} (H : jx_St h) : h.1[176]? = some (.inl (1, 10)) := H.1 175 _ rfl
theorem sK177 {h : jx_H} (H : jx_St h) : h.1[177]? = some (.inl (1, 10)) := H.1 176 _ rfl
theorem sK178 {h : jx_H} (H : jx_St h) : h.1[178]? = some (.inl (1, 10)) := H.1 177 _ rfl
theorem sK179 {h : jx_H} (H : jx_St h) : h.1[179]? = some (.inl (1, 8)) := H.1 178 _ rfl
theorem sK180 {h : jx_H} (H : jx_St h) : h.1[180]? = some (.inl (1, 10)) := H.1 179 _ rfl
theorem sK181 {h : jx_H} (H : jx_St h) : h.1[181]? = some (.inl (1, 10)) := H.1 180 _ rfl
theorem sK182 {h : jx_H} (H : jx_St h) : h.1[182]? = some (.inl (1, 10)) := H.1 181 _ rfl
theorem sK183 {h : jx_H} (H : jx_St h) : h.1[183]? = some (.inl (1, 800)) := H.1 182 _ rfl
theorem sK184 {h : jx_H} (H : jx_St h) : h.1[184]? = some (.inr (.inl 7)) := H.1 183 _ rfl
theorem sK185 {h : jx_H} (H : jx_St h) : h.1[185]? = some (.inr (.inl 3)) := H.1 184 _ rfl
theorem sK186 {h : jx_H} (H : jx_St h) : h.1[186]? = some (.inl (1, 100)) := H.1 185 _ rfl
theorem sK187 {h : jx_H} (H : jx_St h) : h.1[187]? = some (.inl (1, 8)) := H.1 186 _ rfl
theorem sK188 {h : jx_H} (H : jx_St h) : h.1[188]? = some (.inl (1, 8)) := H.1 187 _ rfl
theorem sK189 {h : jx_H} (H : jx_St h) : h.1[189]? = some (.inl (1, 8)) := H.1 188 _ rfl
theorem sK190 {h : jx_H} (H : jx_St h) : h.1[190]? = some (.inl (1, 10)) := H.1 189 _ rfl
theorem sK191 {h : jx_H} (H : jx_St h) : h.1[191]? = some (.inl (1, 8)) := H.1 190 _ rfl
theorem sK192 {h : jx_H} (H : jx_St h) : h.1[192]? = some (.inl (1, 8)) := H.1 191 _ rfl
theorem sK193 {h : jx_H} (H : jx_St h) : h.1[193]? = some (.inr (.inl 4)) := H.1 192 _ rfl
theorem sK194 {h : jx_H} (H : jx_St h) : h.1[194]? = some (.inl (1, 10)) := H.1 193 _ rfl
theorem sK195 {h : jx_H} (H : jx_St h) : h.1[195]? = some (.inl (1, 10)) := H.1 194 _ rfl
theorem sK196 {h : jx_H} (H : jx_St h) : h.1[196]? = some (.inl (1, 10)) := H.1 195 _ rfl
theorem sK197 {h : jx_H} (H : jx_St h) : h.1[197]? = some (.inl (1, 8)) := H.1 196 _ rfl
theorem sK198 {h : jx_H} (H : jx_St h) : h.1[198]? = some (.inr (.inl 4)) := H.1 197 _ rfl
theorem sK199 {h : jx_H} (H : jx_St h) : h.1[199]? = some (.inl (1, 10)) := H.1 198 _ rfl
theorem sK200 {h : jx_H} (H : jx_St h) : h.1[200]? = some (.inl (1, 10)) := H.1 199 _ rfl
theorem sK201 {h : jx_H} (H : jx_St h) : h.1[201]? = some (.inl (1, 10)) := H.1 200 _ rfl
theorem sK202 {h : jx_H} (H : jx_St h) : h.1[202]? = some (.inl (1, 8)) := H.1 201 _ rfl
theorem sK203 {h : jx_H} (H : jx_St h) : h.1[203]? = some (.inl (1, 10)) := H.1 202 _ rfl
theorem sK204 {h : jx_H} (H : jx_St h) : h.1[204]? = some (.inl (1, 10)) := H.1 203 _ rfl
theorem sK205 {h : jx_H} (H : jx_St h) : h.1[205]? = some (.inl (1, 10)) := H.1 204 _ rfl
theorem sK206 {h : jx_H} (H : jx_St h) : h.1[206]? = some (.inl (1, 800)) := H.1 205 _ rfl
theorem sK207 {h : jx_H} (H : jx_St h) : h.1[207]? = some (.inr (.inl 7)) := H.1 206 _ rfl
theorem sK208 {h : jx_H} (H : jx_St h) : h.1[208]? = some (.inr (.inl 3)) := H.1 207 _ rfl
theorem sK209 {h : jx_H} (H : jx_St h) : h.1[209]? = some (.inl (1, 100)) := H.1 208 _ rfl
theorem sK210 {h : jx_H} (H : jx_St h) : h.1[210]? = some (.inl (1, 8)) := H.1 209 _ rfl
theorem sK211 {h : jx_H} (H : jx_St h) : h.1[211]? = some (.inl (1, 8)) := H.1 210 _ rfl
theorem sK212 {h : jx_H} (H : jx_St h) : h.1[212]? = some (.inl (1, 8)) := H.1 211 _ rfl
theorem sK213 {h : jx_H} (H : jx_St h) : h.1[213]? = some (.inl (1, 10)) := H.1 212 _ rfl
theorem sK214 {h : jx_H} (H : jx_St h) : h.1[214]? = some (.inl (1, 8)) := H.1 213 _ rfl
theorem sK215 {h : jx_H} (H : jx_St h) : h.1[215]? = some (.inl (1, 8)) := H.1 214 _ rfl
theorem sK216 {h : jx_H} (H : jx_St h) : h.1[216]? = some (.inr (.inl 4)) := H.1 215 _ rfl
theorem sK217 {h : jx_H} (H : jx_St h) : h.1[217]? = some (.inl (1, 10)) := H.1 216 _ rfl
theorem sK218 {h : jx_H} (H : jx_St h) : h.1[218]? = some (.inl (1, 10)) := H.1 217 _ rfl
theorem sK219 {h : jx_H} (H : jx_St h) : h.1[219]? = some (.inl (1, 10)) := H.1 218 _ rfl
theorem sK220 {h : jx_H} (H : jx_St h) : h.1[220]? = some (.inl (1, 8)) := H.1 219 _ rfl
theorem sK221 {h : jx_H} (H : jx_St h) : h.1[221]? = some (.inr (.inl 4)) := H.1 220 _ rfl
theorem sK222 {h : jx_H} (H : jx_St h) : h.1[222]? = some (.inl (1, 10)) := H.1 221 _ rfl
theorem sK223 {h : jx_H} (H : jx_St h) : h.1[223]? = some (.inl (1, 10)) := H.1 222 _ rfl
theorem sK224 {h : jx_H} (H : jx_St h) : h.1[224]? = some (.inl (1, 10)) := H.1 223 _ rfl
theorem sK225 {h : jx_H} (H : jx_St h) : h.1[225]? = some (.inl (1, 8)) := H.1 224 _ rfl
theorem sK226 {h : jx_H} (H : jx_St h) : h.1[226]? = some (.inl (1, 10)) := H.1 225 _ rfl
theorem sK227 {h : jx_H} (H : jx_St h) : h.1[227]? = some (.inl (1, 10)) := H.1 226 _ rfl
theorem sK228 {h : jx_H} (H : jx_St h) : h.1[228]? = some (.inl (1, 10)) := H.1 227 _ rfl
theorem sK229 {h : jx_H} (H : jx_St h) : h.1[229]? = some (.inl (1, 800)) := H.1 228 _ rfl
theorem sK230 {h : jx_H} (H : jx_St h) : h.1[230]? = some (.inr (.inl 7)) := H.1 229 _ rfl
theorem sK231 {h : jx_H} (H : jx_St h) : h.1[231]? = some (.inr (.inl 3)) := H.1 230 _ rfl
theorem sK232 {h : jx_H} (H : jx_St h) : h.1[232]? = some (.inl (1, 100)) := H.1 231 _ rfl
theorem sK233 {h : jx_H} (H : jx_St h) : h.1[233]? = some (.inl (1, 8)) := H.1 232 _ rfl
theorem sK234 {h : jx_H} (H : jx_St h) : h.1[234]? = some (.inl (1, 8)) := H.1 233 _ rfl
theorem sK235 {h : jx_H} (H : jx_St h) : h.1[235]? = some (.inl (1, 8)) := H.1 234 _ rfl
theorem sK236 {h : jx_H} (H : jx_St h) : h.1[236]? = some (.inl (1, 10)) := H.1 235 _ rfl
theorem sK237 {h : jx_H} (H : jx_St h) : h.1[237]? = some (.inl (1, 8)) := H.1 236 _ rfl
theorem sK238 {h : jx_H} (H : jx_St h) : h.1[238]? = some (.inl (1, 8)) := H.1 237 _ rfl
theorem sK239 {h : jx_H} (H : jx_St h) : h.1[239]? = some (.inr (.inl 4)) := H.1 238 _ rfl
theorem sK240 {h : jx_H} (H : jx_St h) : h.1[240]? = some (.inl (1, 10)) := H.1 239 _ rfl
theorem sK241 {h : jx_H} (H : jx_St h) : h.1[241]? = some (.inl (1, 10)) := H.1 240 _ rfl
theorem sK242 {h : jx_H} (H : jx_St h) : h.1[242]? = some (.inl (1, 10)) := H.1 241 _ rfl
theorem sK243 {h : jx_H} (H : jx_St h) : h.1[243]? = some (.inl (1, 8)) := H.1 242 _ rfl
theorem sK244 {h : jx_H} (H : jx_St h) : h.1[244]? = some (.inr (.inl 4)) := H.1 243 _ rfl
theorem sK245 {h : jx_H} (H : jx_St h) : h.1[245]? = some (.inl (1, 10)) := H.1 244 _ rfl
theorem sK246 {h : jx_H} (H : jx_St h) : h.1[246]? = some (.inl (1, 10)) := H.1 245 _ rfl
theorem sK247 {h : jx_H} (H : jx_St h) : h.1[247]? = some (.inl (1, 10)) := H.1 246 _ rfl
theorem sK248 {h : jx_H} (H : jx_St h) : h.1[248]? = some (.inl (1, 8)) := H.1 247 _ rfl
theorem sK249 {h : jx_H} (H : jx_St h) : h.1[249]? = some (.inl (1, 10)) := H.1 248 _ rfl
theorem sK250 {h : jx_H} (H : jx_St h) : h.1[250]? = some (.inl (1, 10)) := H.1 249 _ rfl
theorem sK251 {h : jx_H} (H : jx_St h) : h.1[251]? = some (.inl (1, 10)) := H.1 250 _ rfl
theorem sK252 {h : jx_H} (H : jx_St h) : h.1[252]? = some (.inl (1, 800)) := H.1 251 _ rfl
theorem sK253 {h : jx_H} (H : jx_St h) : h.1[253]? = some (.inr (.inl 12)) := H.1 252 _ rfl
theorem sK254 {h : jx_H} (H : jx_St h) : h.1[254]? = some (.inl (1, 9)) := H.1 253 _ rfl
theorem sK255 {h : jx_H} (H : jx_St h) : h.1[255]? = some (.inl (1, 10)) := H.1 254 _ rfl
theorem sK256 {h : jx_H} (H : jx_St h) : h.1[256]? = some (.inl (1, 10)) := H.1 255 _ rfl
theorem sK257 {h : jx_H} (H : jx_St h) : h.1[257]? = some (.inl (1, 10)) := H.1 256 _ rfl
theorem sK258 {h : jx_H} (H : jx_St h) : h.1[258]? = some (.inl (1, 100)) := H.1 257 _ rfl
theorem sK259 {h : jx_H} (H : jx_St h) : h.1[259]? = some (.inl (1, 8)) := H.1 258 _ rfl
theorem sK260 {h : jx_H} (H : jx_St h) : h.1[260]? = some (.inl (1, 8)) := H.1 259 _ rfl
theorem sK261 {h : jx_H} (H : jx_St h) : h.1[261]? = some (.inl (1, 8)) := H.1 260 _ rfl
theorem sK262 {h : jx_H} (H : jx_St h) : h.1[262]? = some (.inl (1, 8)) := H.1 261 _ rfl
theorem sK263 {h : jx_H} (H : jx_St h) : h.1[263]? = some (.inl (1, 8)) := H.1 262 _ rfl
theorem sK264 {h : jx_H} (H : jx_St h) : h.1[264]? = some (.inl (1, 8)) := H.1 263 _ rfl
theorem sK265 {h : jx_H} (H : jx_St h) : h.1[265]? = some (.inl (1, 10)) := H.1 264 _ rfl
theorem sK266 {h : jx_H} (H : jx_St h) : h.1[266]? = some (.inl (1, 10)) := H.1 265 _ rfl
theorem sK267 {h : jx_H} (H : jx_St h) : h.1[267]? = some (.inl (1, 10)) := H.1 266 _ rfl
theorem sK268 {h : jx_H} (H : jx_St h) : h.1[268]? = some (.inl (1, 10)) := H.1 267 _ rfl
theorem sK269 {h : jx_H} (H : jx_St h) : h.1[269]? = some (.inl (1, 1)) := H.1 268 _ rfl
theorem sK270 {h : jx_H} (H : jx_St h) : h.1[270]? = some (.inl (1, 5)) := H.1 269 _ rfl
theorem sK271 {h : jx_H} (H : jx_St h) : h.1[271]? = some (.inl (1, 10)) := H.1 270 _ rfl
theorem sK272 {h : jx_H} (H : jx_St h) : h.1[272]? = some (.inl (1, 10)) := H.1 271 _ rfl
theorem sK273 {h : jx_H} (H : jx_St h) : h.1[273]? = some (.inl (1, 10)) := H.1 272 _ rfl
theorem sK274 {h : jx_H} (H : jx_St h) : h.1[274]? = some (.inl (1, 100)) := H.1 273 _ rfl
theorem sK275 {h : jx_H} (H : jx_St h) : h.1[275]? = some (.inl (1, 8)) := H.1 274 _ rfl
theorem sK276 {h : jx_H} (H : jx_St h) : h.1[276]? = some (.inl (1, 8)) := H.1 275 _ rfl
theorem sK277 {h : jx_H} (H : jx_St h) : h.1[277]? = some (.inl (1, 8)) := H.1 276 _ rfl
theorem sK278 {h : jx_H} (H : jx_St h) : h.1[278]? = some (.inl (1, 8)) := H.1 277 _ rfl
theorem sK279 {h : jx_H} (H : jx_St h) : h.1[279]? = some (.inl (1, 8)) := H.1 278 _ rfl
theorem sK280 {h : jx_H} (H : jx_St h) : h.1[280]? = some (.inl (3, 400)) := H.1 279 _ rfl
theorem sK281 {h : jx_H} (H : jx_St h) : h.1[281]? = some (.inl (1, 1800)) := H.1 280 _ rfl
theorem sK282 {h : jx_H} (H : jx_St h) : h.1[282]? = some (.inl (1, 1800)) := H.1 281 _ rfl
theorem sK283 {h : jx_H} (H : jx_St h) : h.1[283]? = some (.inl (1, 6)) := H.1 282 _ rfl
theorem sK284 {h : jx_H} (H : jx_St h) : h.1[284]? = some (.inl (1, 72)) := H.1 283 _ rfl
theorem sK285 {h : jx_H} (H : jx_St h) : h.1[285]? = some (.inl (1, 72)) := H.1 284 _ rfl
theorem sK286 {h : jx_H} (H : jx_St h) : h.1[286]? = some (.inl (1, 72)) := H.1 285 _ rfl
theorem sK287 {h : jx_H} (H : jx_St h) : h.1[287]? = some (.inl (1, 402)) := H.1 286 _ rfl
theorem sK288 {h : jx_H} (H : jx_St h) : h.1[288]? = some (.inl (2, 12)) := H.1 287 _ rfl
theorem sK289 {h : jx_H} (H : jx_St h) : h.1[289]? = some (.inl (2, 300)) := H.1 288 _ rfl
theorem sK290 {h : jx_H} (H : jx_St h) : h.1[290]? = some (.inl (1, 10)) := H.1 289 _ rfl
theorem sK291 {h : jx_H} (H : jx_St h) : h.1[291]? = some (.inl (1, 8)) := H.1 290 _ rfl
theorem sK292 {h : jx_H} (H : jx_St h) : h.1[292]? = some (.inl (1, 800)) := H.1 291 _ rfl
theorem sK293 {h : jx_H} (H : jx_St h) : h.1[293]? = some (.inl (1, 1)) := H.1 292 _ rfl
theorem sK294 {h : jx_H} (H : jx_St h) : h.1[294]? = some (.inl (1, 3)) := H.1 293 _ rfl
theorem sK295 {h : jx_H} (H : jx_St h) : h.1[295]? = some (.inl (1, 3)) := H.1 294 _ rfl
theorem sK296 {h : jx_H} (H : jx_St h) : h.1[296]? = some (.inl (1, 84)) := H.1 295 _ rfl
theorem sK297 {h : jx_H} (H : jx_St h) : h.1[297]? = some (.inl (1, 5)) := H.1 296 _ rfl
theorem sK298 {h : jx_H} (H : jx_St h) : h.1[298]? = some (.inl (1, 5)) := H.1 297 _ rfl
theorem sK299 {h : jx_H} (H : jx_St h) : h.1[299]? = some (.inl (1, 310)) := H.1 298 _ rfl
theorem sK300 {h : jx_H} (H : jx_St h) : h.1[300]? = some (.inl (1, 1000)) := H.1 299 _ rfl
theorem sK301 {h : jx_H} (H : jx_St h) : h.1[301]? = some (.inl (1, 10)) := H.1 300 _ rfl
theorem sK302 {h : jx_H} (H : jx_St h) : h.1[302]? = some (.inl (1, 5500)) := H.1 301 _ rfl
theorem sK303 {h : jx_H} (H : jx_St h) : h.1[303]? = some (.inl (4, 4)) := H.1 302 _ rfl
theorem sR1_0 {h : jx_H} (H : jx_St h) : h.2.2.2 1 0 = some 2 := H.2 (1, 0, 2) (List.mem_of_getElem? (i := 0) rfl)
theorem sR1_1 {h : jx_H} (H : jx_St h) : h.2.2.2 1 1 = some 4 := H.2 (1, 1, 4) (List.mem_of_getElem? (i := 1) rfl)
theorem sR1_2 {h : jx_H} (H : jx_St h) : h.2.2.2 1 2 = some 18 := H.2 (1, 2, 18) (List.mem_of_getElem? (i := 2) rfl)
theorem sR1_3 {h : jx_H} (H : jx_St h) : h.2.2.2 1 3 = some 25 := H.2 (1, 3, 25) (List.mem_of_getElem? (i := 3) rfl)
theorem sR1_5 {h : jx_H} (H : jx_St h) : h.2.2.2 1 5 = some 26 := H.2 (1, 5, 26) (List.mem_of_getElem? (i := 4) rfl)
theorem sR1_6 {h : jx_H} (H : jx_St h) : h.2.2.2 1 6 = some 49 := H.2 (1, 6, 49) (List.mem_of_getElem? (i := 5) rfl)
theorem sR1_7 {h : jx_H} (H : jx_St h) : h.2.2.2 1 7 = some 50 := H.2 (1, 7, 50) (List.mem_of_getElem? (i := 6) rfl)
theorem sR1_8 {h : jx_H} (H : jx_St h) : h.2.2.2 1 8 = some 51 := H.2 (1, 8, 51) (List.mem_of_getElem? (i := 7) rfl)
theorem sR1_9 {h : jx_H} (H : jx_St h) : h.2.2.2 1 9 = some 67 := H.2 (1, 9, 67) (List.mem_of_getElem? (i := 8) rfl)
theorem sR1_10 {h : jx_H} (H : jx_St h) : h.2.2.2 1 10 = some 79 := H.2 (1, 10, 79) (List.mem_of_getElem? (i := 9) rfl)
theorem sR1_11 {h : jx_H} (H : jx_St h) : h.2.2.2 1 11 = some 107 := H.2 (1, 11, 107) (List.mem_of_getElem? (i := 10) rfl)
theorem sR2_0 {h : jx_H} (H : jx_St h) : h.2.2.2 2 0 = some 3 := H.2 (2, 0, 3) (List.mem_of_getElem? (i := 11) rfl)
theorem sR4_0 {h : jx_H} (H : jx_St h) : h.2.2.2 4 0 = some 2 := H.2 (4, 0, 2) (List.mem_of_getElem? (i := 12) rfl)
theorem sR5_4 {h : jx_H} (H : jx_St h) : h.2.2.2 5 4 = some 6 := H.2 (5, 4, 6) (List.mem_of_getElem? (i := 13) rfl)
theorem sR5_5 {h : jx_H} (H : jx_St h) : h.2.2.2 5 5 = some 7 := H.2 (5, 5, 7) (List.mem_of_getElem? (i := 14) rfl)
theorem sR5_6 {h : jx_H} (H : jx_St h) : h.2.2.2 5 6 = some 8 := H.2 (5, 6, 8) (List.mem_of_getElem? (i := 15) rfl)
theorem sR5_7 {h : jx_H} (H : jx_St h) : h.2.2.2 5 7 = some 9 := H.2 (5, 7, 9) (List.mem_of_getElem? (i := 16) rfl)
theorem sR5_8 {h : jx_H} (H : jx_St h) : h.2.2.2 5 8 = some 10 := H.2 (5, 8, 10) (List.mem_of_getElem? (i := 17) rfl)
theorem sR5_9 {h : jx_H} (H : jx_St h) : h.2.2.2 5 9 = some 11 := H.2 (5, 9, 11) (List.mem_of_getElem? (i := 18) rfl)
theorem sR5_10 {h : jx_H} (H : jx_St h) : h.2.2.2 5 10 = some 12 := H.2 (5, 10, 12) (List.mem_of_getElem? (i := 19) rfl)
theorem sR5_11 {h : jx_H} (H : jx_St h) : h.2.2.2 5 11 = some 13 := H.2 (5, 11, 13) (List.mem_of_getElem? (i := 20) rfl)
theorem sR13_0 {h : jx_H} (H : jx_St h) : h.2.2.2 13 0 = some 14 := H.2 (13, 0, 14) (List.mem_of_getElem? (i := 21) rfl)
theorem sR13_1 {h : jx_H} (H : jx_St h) : h.2.2.2 13 1 = some 15 := H.2 (13, 1, 15) (List.mem_of_getElem? (i := 22) rfl)
theorem sR13_2 {h : jx_H} (H : jx_St h) : h.2.2.2 13 2 = some 16 := H.2 (13, 2, 16) (List.mem_of_getElem? (i := 23) rfl)
theorem sR13_3 {h : jx_H} (H : jx_St h) : h.2.2.2 13 3 = some 17 := H.2 (13, 3, 17) (List.mem_of_getElem? (i := 24) rfl)
theorem sR18_0 {h : jx_H} (H : jx_St h) : h.2.2.2 18 0 = some 2 := H.2 (18, 0, 2) (List.mem_of_getElem? (i := 25) rfl)
theorem sR19_0 {h : jx_H} (H : jx_St h) : h.2.2.2 19 0 = some 20 := H.2 (19, 0, 20) (List.mem_of_getElem? (i := 26) rfl)
theorem sR19_2 {h : jx_H} (H : jx_St h) : h.2.2.2 19 2 = some 21 := H.2 (19, 2, 21) (List.mem_of_getElem? (i := 27) rfl)
theorem sR19_3 {h : jx_H} (H : jx_St h) : h.2.2.2 19 3 = some 22 := H.2 (19, 3, 22) (List.mem_of_getElem? (i := 28) rfl)
theorem sR19_4 {h : jx_H} (H : jx_St h) : h.2.2.2 19 4 = some 23 := H.2 (19, 4, 23) (List.mem_of_getElem? (i := 29) rfl)
theorem sR19_6 {h : jx_H} (H : jx_St h) : h.2.2.2 19 6 = some 24 := H.2 (19, 6, 24) (List.mem_of_getElem? (i := 30) rfl)
theorem sR25_0 {h : jx_H} (H : jx_St h) : h.2.2.2 25 0 = some 125 := H.2 (25, 0, 125) (List.mem_of_getElem? (i := 31) rfl)
theorem sR25_1 {h : jx_H} (H : jx_St h) : h.2.2.2 25 1 = some 131 := H.2 (25, 1, 131) (List.mem_of_getElem? (i := 32) rfl)
theorem sR25_2 {h : jx_H} (H : jx_St h) : h.2.2.2 25 2 = some 137 := H.2 (25, 2, 137) (List.mem_of_getElem? (i := 33) rfl)
theorem sR25_3 {h : jx_H} (H : jx_St h) : h.2.2.2 25 3 = some 143 := H.2 (25, 3, 143) (List.mem_of_getElem? (i := 34) rfl)
theorem sR25_4 {h : jx_H} (H : jx_St h) : h.2.2.2 25 4 = some 149 := H.2 (25, 4, 149) (List.mem_of_getElem? (i := 35) rfl)
theorem sR25_5 {h : jx_H} (H : jx_St h) : h.2.2.2 25 5 = some 155 := H.2 (25, 5, 155) (List.mem_of_getElem? (i := 36) rfl)
theorem sR26_1 {h : jx_H} (H : jx_St h) : h.2.2.2 26 1 = some 40 := H.2 (26, 1, 40) (List.mem_of_getElem? (i := 37) rfl)
theorem sR26_5 {h : jx_H} (H : jx_St h) : h.2.2.2 26 5 = some 45 := H.2 (26, 5, 45) (List.mem_of_getElem? (i := 38) rfl)
theorem sR26_6 {h : jx_H} (H : jx_St h) : h.2.2.2 26 6 = some 46 := H.2 (26, 6, 46) (List.mem_of_getElem? (i := 39) rfl)
theorem sR26_7 {h : jx_H} (H : jx_St h) : h.2.2.2 26 7 = some 47 := H.2 (26, 7, 47) (List.mem_of_getElem? (i := 40) rfl)
theorem sR26_8 {h : jx_H} (H : jx_St h) : h.2.2.2 26 8 = some 48 := H.2 (26, 8, 48) (List.mem_of_getElem? (i := 41) rfl)
theorem sR27_4 {h : jx_H} (H : jx_St h) : h.2.2.2 27 4 = some 28 := H.2 (27, 4, 28) (List.mem_of_getElem? (i := 42) rfl)
theorem sR27_5 {h : jx_H} (H : jx_St h) : h.2.2.2 27 5 = some 29 := H.2 (27, 5, 29) (List.mem_of_getElem? (i := 43) rfl)
theorem sR27_6 {h : jx_H} (H : jx_St h) : h.2.2.2 27 6 = some 30 := H.2 (27, 6, 30) (List.mem_of_getElem? (i := 44) rfl)
theorem sR27_7 {h : jx_H} (H : jx_St h) : h.2.2.2 27 7 = some 31 := H.2 (27, 7, 31) (List.mem_of_getElem? (i := 45) rfl)
theorem sR27_8 {h : jx_H} (H : jx_St h) : h.2.2.2 27 8 = some 32 := H.2 (27, 8, 32) (List.mem_of_getElem? (i := 46) rfl)
theorem sR27_9 {h : jx_H} (H : jx_St h) : h.2.2.2 27 9 = some 33 := H.2 (27, 9, 33) (List.mem_of_getElem? (i := 47) rfl)
theorem sR27_10 {h : jx_H} (H : jx_St h) : h.2.2.2 27 10 = some 34 := H.2 (27, 10, 34) (List.mem_of_getElem? (i := 48) rfl)
theorem sR27_11 {h : jx_H} (H : jx_St h) : h.2.2.2 27 11 = some 35 := H.2 (27, 11, 35) (List.mem_of_getElem? (i := 49) rfl)
theorem sR35_0 {h : jx_H} (H : jx_St h) : h.2.2.2 35 0 = some 36 := H.2 (35, 0, 36) (List.mem_of_getElem? (i := 50) rfl)
theorem sR35_1 {h : jx_H} (H : jx_St h) : h.2.2.2 35 1 = some 37 := H.2 (35, 1, 37) (List.mem_of_getElem? (i := 51) rfl)
theorem sR35_2 {h : jx_H} (H : jx_St h) : h.2.2.2 35 2 = some 38 := H.2 (35, 2, 38) (List.mem_of_getElem? (i := 52) rfl)
theorem sR35_3 {h : jx_H} (H : jx_St h) : h.2.2.2 35 3 = some 39 := H.2 (35, 3, 39) (List.mem_of_getElem? (i := 53) rfl)
theorem sR40_0 {h : jx_H} (H : jx_St h) : h.2.2.2 40 0 = some 41 := H.2 (40, 0, 41) (List.mem_of_getElem? (i := 54) rfl)
theorem sR40_1 {h : jx_H} (H : jx_St h) : h.2.2.2 40 1 = some 42 := H.2 (40, 1, 42) (List.mem_of_getElem? (i := 55) rfl)
theorem sR40_2 {h : jx_H} (H : jx_St h) : h.2.2.2 40 2 = some 43 := H.2 (40, 2, 43) (List.mem_of_getElem? (i := 56) rfl)
theorem sR40_3 {h : jx_H} (H : jx_St h) : h.2.2.2 40 3 = some 44 := H.2 (40, 3, 44) (List.mem_of_getElem? (i := 57) rfl)
theorem sR49_0 {h : jx_H} (H : jx_St h) : h.2.2.2 49 0 = some 161 := H.2 (49, 0, 161) (List.mem_of_getElem? (i := 58) rfl)
theorem sR49_1 {h : jx_H} (H : jx_St h) : h.2.2.2 49 1 = some 184 := H.2 (49, 1, 184) (List.mem_of_getElem? (i := 59) rfl)
theorem sR49_2 {h : jx_H} (H : jx_St h) : h.2.2.2 49 2 = some 207 := H.2 (49, 2, 207) (List.mem_of_getElem? (i := 60) rfl)
theorem sR49_3 {h : jx_H} (H : jx_St h) : h.2.2.2 49 3 = some 230 := H.2 (49, 3, 230) (List.mem_of_getElem? (i := 61) rfl)
theorem sR51_2 {h : jx_H} (H : jx_St h) : h.2.2.2 51 2 = some 65 := H.2 (51, 2, 65) (List.mem_of_getElem? (i := 62) rfl)
theorem sR51_3 {h : jx_H} (H : jx_St h) : h.2.2.2 51 3 = some 66 := H.2 (51, 3, 66) (List.mem_of_getElem? (i := 63) rfl)
theorem sR52_4 {h : jx_H} (H : jx_St h) : h.2.2.2 52 4 = some 53 := H.2 (52, 4, 53) (List.mem_of_getElem? (i := 64) rfl)
theorem sR52_5 {h : jx_H} (H : jx_St h) : h.2.2.2 52 5 = some 54 := H.2 (52, 5, 54) (List.mem_of_getElem? (i := 65) rfl)
theorem sR52_6 {h : jx_H} (H : jx_St h) : h.2.2.2 52 6 = some 55 := H.2 (52, 6, 55) (List.mem_of_getElem? (i := 66) rfl)
theorem sR52_7 {h : jx_H} (H : jx_St h) : h.2.2.2 52 7 = some 56 := H.2 (52, 7, 56) (List.mem_of_getElem? (i := 67) rfl)
theorem sR52_8 {h : jx_H} (H : jx_St h) : h.2.2.2 52 8 = some 57 := H.2 (52, 8, 57) (List.mem_of_getElem? (i := 68) rfl)
theorem sR52_9 {h : jx_H} (H : jx_St h) : h.2.2.2 52 9 = some 58 := H.2 (52, 9, 58) (List.mem_of_getElem? (i := 69) rfl)
theorem sR52_10 {h : jx_H} (H : jx_St h) : h.2.2.2 52 10 = some 59 := H.2 (52, 10, 59) (List.mem_of_getElem? (i := 70) rfl)
theorem sR52_11 {h : jx_H} (H : jx_St h) : h.2.2.2 52 11 = some 60 := H.2 (52, 11, 60) (List.mem_of_getElem? (i := 71) rfl)
theorem sR60_0 {h : jx_H} (H : jx_St h) : h.2.2.2 60 0 = some 61 := H.2 (60, 0, 61) (List.mem_of_getElem? (i := 72) rfl)
theorem sR60_1 {h : jx_H} (H : jx_St h) : h.2.2.2 60 1 = some 62 := H.2 (60, 1, 62) (List.mem_of_getElem? (i := 73) rfl)
theorem sR60_2 {h : jx_H} (H : jx_St h) : h.2.2.2 60 2 = some 63 := H.2 (60, 2, 63) (List.mem_of_getElem? (i := 74) rfl)
theorem sR60_3 {h : jx_H} (H : jx_St h) : h.2.2.2 60 3 = some 64 := H.2 (60, 3, 64) (List.mem_of_getElem? (i := 75) rfl)
theorem sR67_0 {h : jx_H} (H : jx_St h) : h.2.2.2 67 0 = some 51 := H.2 (67, 0, 51) (List.mem_of_getElem? (i := 76) rfl)
theorem sR67_1 {h : jx_H} (H : jx_St h) : h.2.2.2 67 1 = some 68 := H.2 (67, 1, 68) (List.mem_of_getElem? (i := 77) rfl)
theorem sR67_2 {h : jx_H} (H : jx_St h) : h.2.2.2 67 2 = some 73 := H.2 (67, 2, 73) (List.mem_of_getElem? (i := 78) rfl)
theorem sR67_3 {h : jx_H} (H : jx_St h) : h.2.2.2 67 3 = some 78 := H.2 (67, 3, 78) (List.mem_of_getElem? (i := 79) rfl)
theorem sR68_0 {h : jx_H} (H : jx_St h) : h.2.2.2 68 0 = some 69 := H.2 (68, 0, 69) (List.mem_of_getElem? (i := 80) rfl)
theorem sR68_1 {h : jx_H} (H : jx_St h) : h.2.2.2 68 1 = some 70 := H.2 (68, 1, 70) (List.mem_of_getElem? (i := 81) rfl)
theorem sR68_2 {h : jx_H} (H : jx_St h) : h.2.2.2 68 2 = some 71 := H.2 (68, 2, 71) (List.mem_of_getElem? (i := 82) rfl)
theorem sR68_3 {h : jx_H} (H : jx_St h) : h.2.2.2 68 3 = some 72 := H.2 (68, 3, 72) (List.mem_of_getElem? (i := 83) rfl)
theorem sR73_0 {h : jx_H} (H : jx_St h) : h.2.2.2 73 0 = some 74 := H.2 (73, 0, 74) (List.mem_of_getElem? (i := 84) rfl)
theorem sR73_1 {h : jx_H} (H : jx_St h) : h.2.2.2 73 1 = some 75 := H.2 (73, 1, 75) (List.mem_of_getElem? (i := 85) rfl)
theorem sR73_2 {h : jx_H} (H : jx_St h) : h.2.2.2 73 2 = some 76 := H.2 (73, 2, 76) (List.mem_of_getElem? (i := 86) rfl)
theorem sR73_3 {h : jx_H} (H : jx_St h) : h.2.2.2 73 3 = some 77 := H.2 (73, 3, 77) (List.mem_of_getElem? (i := 87) rfl)
theorem sR79_0 {h : jx_H} (H : jx_St h) : h.2.2.2 79 0 = some 51 := H.2 (79, 0, 51) (List.mem_of_getElem? (i := 88) rfl)
theorem sR79_1 {h : jx_H} (H : jx_St h) : h.2.2.2 79 1 = some 80 := H.2 (79, 1, 80) (List.mem_of_getElem? (i := 89) rfl)
theorem sR79_2 {h : jx_H} (H : jx_St h) : h.2.2.2 79 2 = some 81 := H.2 (79, 2, 81) (List.mem_of_getElem? (i := 90) rfl)
theorem sR80_0 {h : jx_H} (H : jx_St h) : h.2.2.2 80 0 = some 82 := H.2 (80, 0, 82) (List.mem_of_getElem? (i := 91) rfl)
theorem sR80_1 {h : jx_H} (H : jx_St h) : h.2.2.2 80 1 = some 87 := H.2 (80, 1, 87) (List.mem_of_getElem? (i := 92) rfl)
theorem sR80_2 {h : jx_H} (H : jx_St h) : h.2.2.2 80 2 = some 92 := H.2 (80, 2, 92) (List.mem_of_getElem? (i := 93) rfl)
theorem sR80_3 {h : jx_H} (H : jx_St h) : h.2.2.2 80 3 = some 97 := H.2 (80, 3, 97) (List.mem_of_getElem? (i := 94) rfl)
theorem sR80_4 {h : jx_H} (H : jx_St h) : h.2.2.2 80 4 = some 102 := H.2 (80, 4, 102) (List.mem_of_getElem? (i := 95) rfl)
theorem sR82_0 {h : jx_H} (H : jx_St h) : h.2.2.2 82 0 = some 83 := H.2 (82, 0, 83) (List.mem_of_getElem? (i := 96) rfl)
theorem sR82_1 {h : jx_H} (H : jx_St h) : h.2.2.2 82 1 = some 84 := H.2 (82, 1, 84) (List.mem_of_getElem? (i := 97) rfl)
theorem sR82_2 {h : jx_H} (H : jx_St h) : h.2.2.2 82 2 = some 85 := H.2 (82, 2, 85) (List.mem_of_getElem? (i := 98) rfl)
theorem sR82_3 {h : jx_H} (H : jx_St h) : h.2.2.2 82 3 = some 86 := H.2 (82, 3, 86) (List.mem_of_getElem? (i := 99) rfl)
theorem sR87_0 {h : jx_H} (H : jx_St h) : h.2.2.2 87 0 = some 88 := H.2 (87, 0, 88) (List.mem_of_getElem? (i := 100) rfl)
theorem sR87_1 {h : jx_H} (H : jx_St h) : h.2.2.2 87 1 = some 89 := H.2 (87, 1, 89) (List.mem_of_getElem? (i := 101) rfl)
theorem sR87_2 {h : jx_H} (H : jx_St h) : h.2.2.2 87 2 = some 90 := H.2 (87, 2, 90) (List.mem_of_getElem? (i := 102) rfl)
theorem sR87_3 {h : jx_H} (H : jx_St h) : h.2.2.2 87 3 = some 91 := H.2 (87, 3, 91) (List.mem_of_getElem? (i := 103) rfl)
theorem sR92_0 {h : jx_H} (H : jx_St h) : h.2.2.2 92 0 = some 93 := H.2 (92, 0, 93) (List.mem_of_getElem? (i := 104) rfl)
theorem sR92_1 {h : jx_H} (H : jx_St h) : h.2.2.2 92 1 = some 94 := H.2 (92, 1, 94) (List.mem_of_getElem? (i := 105) rfl)
theorem sR92_2 {h : jx_H} (H : jx_St h) : h.2.2.2 92 2 = some 95 := H.2 (92, 2, 95) (List.mem_of_getElem? (i := 106) rfl)
theorem sR92_3 {h : jx_H} (H : jx_St h) : h.2.2.2 92 3 = some 96 := H.2 (92, 3, 96) (List.mem_of_getElem? (i := 107) rfl)
theorem sR97_0 {h : jx_H} (H : jx_St h) : h.2.2.2 97 0 = some 98 := H.2 (97, 0, 98) (List.mem_of_getElem? (i := 108) rfl)
theorem sR97_1 {h : jx_H} (H : jx_St h) : h.2.2.2 97 1 = some 99 := H.2 (97, 1, 99) (List.mem_of_getElem? (i := 109) rfl)
theorem sR97_2 {h : jx_H} (H : jx_St h) : h.2.2.2 97 2 = some 100 := H.2 (97, 2, 100) (List.mem_of_getElem? (i := 110) rfl)
theorem sR97_3 {h : jx_H} (H : jx_St h) : h.2.2.2 97 3 = some 101 := H.2 (97, 3, 101) (List.mem_of_getElem? (i := 111) rfl)
theorem sR102_0 {h : jx_H} (H : jx_St h) : h.2.2.2 102 0 = some 103 := H.2 (102, 0, 103) (List.mem_of_getElem? (i := 112) rfl)
theorem sR102_1 {h : jx_H} (H : jx_St h) : h.2.2.2 102 1 = some 104 := H.2 (102, 1, 104) (List.mem_of_getElem? (i := 113) rfl)
theorem sR102_2 {h : jx_H} (H : jx_St h) : h.2.2.2 102 2 = some 105 := H.2 (102, 2, 105) (List.mem_of_getElem? (i := 114) rfl)
theorem sR102_3 {h : jx_H} (H : jx_St h) : h.2.2.2 102 3 = some 106 := H.2 (102, 3, 106) (List.mem_of_getElem? (i := 115) rfl)
theorem sR107_0 {h : jx_H} (H : jx_St h) : h.2.2.2 107 0 = some 108 := H.2 (107, 0, 108) (List.mem_of_getElem? (i := 116) rfl)
theorem sR107_1 {h : jx_H} (H : jx_St h) : h.2.2.2 107 1 = some 109 := H.2 (107, 1, 109) (List.mem_of_getElem? (i := 117) rfl)
theorem sR107_2 {h : jx_H} (H : jx_St h) : h.2.2.2 107 2 = some 110 := H.2 (107, 2, 110) (List.mem_of_getElem? (i := 118) rfl)
theorem sR107_3 {h : jx_H} (H : jx_St h) : h.2.2.2 107 3 = some 111 := H.2 (107, 3, 111) (List.mem_of_getElem? (i := 119) rfl)
theorem sR112_4 {h : jx_H} (H : jx_St h) : h.2.2.2 112 4 = some 113 := H.2 (112, 4, 113) (List.mem_of_getElem? (i := 120) rfl)
theorem sR112_5 {h : jx_H} (H : jx_St h) : h.2.2.2 112 5 = some 114 := H.2 (112, 5, 114) (List.mem_of_getElem? (i := 121) rfl)
theorem sR112_6 {h : jx_H} (H : jx_St h) : h.2.2.2 112 6 = some 115 := H.2 (112, 6, 115) (List.mem_of_getElem? (i := 122) rfl)
theorem sR112_7 {h : jx_H} (H : jx_St h) : h.2.2.2 112 7 = some 116 := H.2 (112, 7, 116) (List.mem_of_getElem? (i := 123) rfl)
theorem sR112_8 {h : jx_H} (H : jx_St h) : h.2.2.2 112 8 = some 117 := H.2 (112, 8, 117) (List.mem_of_getElem? (i := 124) rfl)
theorem sR112_9 {h : jx_H} (H : jx_St h) : h.2.2.2 112 9 = some 118 := H.2 (112, 9, 118) (List.mem_of_getElem? (i := 125) rfl)
theorem sR112_10 {h : jx_H} (H : jx_St h) : h.2.2.2 112 10 = some 119 := H.2 (112, 10, 119) (List.mem_of_getElem? (i := 126) rfl)
theorem sR112_11 {h : jx_H} (H : jx_St h) : h.2.2.2 112 11 = some 120 := H.2 (112, 11, 120) (List.mem_of_getElem? (i := 127) rfl)
theorem sR120_0 {h : jx_H} (H : jx_St h) : h.2.2.2 120 0 = some 121 := H.2 (120, 0, 121) (List.mem_of_getElem? (i := 128) rfl)
theorem sR120_1 {h : jx_H} (H : jx_St h) : h.2.2.2 120 1 = some 122 := H.2 (120, 1, 122) (List.mem_of_getElem? (i := 129) rfl)
theorem sR120_2 {h : jx_H} (H : jx_St h) : h.2.2.2 120 2 = some 123 := H.2 (120, 2, 123) (List.mem_of_getElem? (i := 130) rfl)
theorem sR120_3 {h : jx_H} (H : jx_St h) : h.2.2.2 120 3 = some 124 := H.2 (120, 3, 124) (List.mem_of_getElem? (i := 131) rfl)
theorem sR125_0 {h : jx_H} (H : jx_St h) : h.2.2.2 125 0 = some 126 := H.2 (125, 0, 126) (List.mem_of_getElem? (i := 132) rfl)
theorem sR125_2 {h : jx_H} (H : jx_St h) : h.2.2.2 125 2 = some 127 := H.2 (125, 2, 127) (List.mem_of_getElem? (i := 133) rfl)
theorem sR125_3 {h : jx_H} (H : jx_St h) : h.2.2.2 125 3 = some 128 := H.2 (125, 3, 128) (List.mem_of_getElem? (i := 134) rfl)
theorem sR125_4 {h : jx_H} (H : jx_St h) : h.2.2.2 125 4 = some 129 := H.2 (125, 4, 129) (List.mem_of_getElem? (i := 135) rfl)
theorem sR125_6 {h : jx_H} (H : jx_St h) : h.2.2.2 125 6 = some 130 := H.2 (125, 6, 130) (List.mem_of_getElem? (i := 136) rfl)
theorem sR131_0 {h : jx_H} (H : jx_St h) : h.2.2.2 131 0 = some 132 := H.2 (131, 0, 132) (List.mem_of_getElem? (i := 137) rfl)
theorem sR131_2 {h : jx_H} (H : jx_St h) : h.2.2.2 131 2 = some 133 := H.2 (131, 2, 133) (List.mem_of_getElem? (i := 138) rfl)
theorem sR131_3 {h : jx_H} (H : jx_St h) : h.2.2.2 131 3 = some 134 := H.2 (131, 3, 134) (List.mem_of_getElem? (i := 139) rfl)
theorem sR131_4 {h : jx_H} (H : jx_St h) : h.2.2.2 131 4 = some 135 := H.2 (131, 4, 135) (List.mem_of_getElem? (i := 140) rfl)
theorem sR131_6 {h : jx_H} (H : jx_St h) : h.2.2.2 131 6 = some 136 := H.2 (131, 6, 136) (List.mem_of_getElem? (i := 141) rfl)
theorem sR137_0 {h : jx_H} (H : jx_St h) : h.2.2.2 137 0 = some 138 := H.2 (137, 0, 138) (List.mem_of_getElem? (i := 142) rfl)
theorem sR137_2 {h : jx_H} (H : jx_St h) : h.2.2.2 137 2 = some 139 := H.2 (137, 2, 139) (List.mem_of_getElem? (i := 143) rfl)
theorem sR137_3 {h : jx_H} (H : jx_St h) : h.2.2.2 137 3 = some 140 := H.2 (137, 3, 140) (List.mem_of_getElem? (i := 144) rfl)
theorem sR137_4 {h : jx_H} (H : jx_St h) : h.2.2.2 137 4 = some 141 := H.2 (137, 4, 141) (List.mem_of_getElem? (i := 145) rfl)
theorem sR137_6 {h : jx_H} (H : jx_St h) : h.2.2.2 137 6 = some 142 := H.2 (137, 6, 142) (List.mem_of_getElem? (i := 146) rfl)
theorem sR143_0 {h : jx_H} (H : jx_St h) : h.2.2.2 143 0 = some 144 := H.2 (143, 0, 144) (List.mem_of_getElem? (i := 147) rfl)
theorem sR143_2 {h : jx_H} (H : jx_St h) : h.2.2.2 143 2 = some 145 := H.2 (143, 2, 145) (List.mem_of_getElem? (i := 148) rfl)
theorem sR143_3 {h : jx_H} (H : jx_St h) : h.2.2.2 143 3 = some 146 := H.2 (143, 3, 146) (List.mem_of_getElem? (i := 149) rfl)
theorem sR143_4 {h : jx_H} (H : jx_St h) : h.2.2.2 143 4 = some 147 := H.2 (143, 4, 147) (List.mem_of_getElem? (i := 150) rfl)
theorem sR143_6 {h : jx_H} (H : jx_St h) : h.2.2.2 143 6 = some 148 := H.2 (143, 6, 148) (List.mem_of_getElem? (i := 151) rfl)
theorem sR149_0 {h : jx_H} (H : jx_St h) : h.2.2.2 149 0 = some 150 := H.2 (149, 0, 150) (List.mem_of_getElem? (i := 152) rfl)
theorem sR149_2 {h : jx_H} (H : jx_St h) : h.2.2.2 149 2 = some 151 := H.2 (149, 2, 151) (List.mem_of_getElem? (i := 153) rfl)
theorem sR149_3 {h : jx_H} (H : jx_St h) : h.2.2.2 149 3 = some 152 := H.2 (149, 3, 152) (List.mem_of_getElem? (i := 154) rfl)
theorem sR149_4 {h : jx_H} (H : jx_St h) : h.2.2.2 149 4 = some 153 := H.2 (149, 4, 153) (List.mem_of_getElem? (i := 155) rfl)
theorem sR149_6 {h : jx_H} (H : jx_St h) : h.2.2.2 149 6 = some 154 := H.2 (149, 6, 154) (List.mem_of_getElem? (i := 156) rfl)
theorem sR155_0 {h : jx_H} (H : jx_St h) : h.2.2.2 155 0 = some 156 := H.2 (155, 0, 156) (List.mem_of_getElem? (i := 157) rfl)
theorem sR155_2 {h : jx_H} (H : jx_St h) : h.2.2.2 155 2 = some 157 := H.2 (155, 2, 157) (List.mem_of_getElem? (i := 158) rfl)
theorem sR155_3 {h : jx_H} (H : jx_St h) : h.2.2.2 155 3 = some 158 := H.2 (155, 3, 158) (List.mem_of_getElem? (i := 159) rfl)
theorem sR155_4 {h : jx_H} (H : jx_St h) : h.2.2.2 155 4 = some 159 := H.2 (155, 4, 159) (List.mem_of_getElem? (i := 160) rfl)
theorem sR155_6 {h : jx_H} (H : jx_St h) : h.2.2.2 155 6 = some 160 := H.2 (155, 6, 160) (List.mem_of_getElem? (i := 161) rfl)
theorem sR161_1 {h : jx_H} (H : jx_St h) : h.2.2.2 161 1 = some 175 := H.2 (161, 1, 175) (List.mem_of_getElem? (i := 162) rfl)
theorem sR161_5 {h : jx_H} (H : jx_St h) : h.2.2.2 161 5 = some 180 := H.2 (161, 5, 180) (List.mem_of_getElem? (i := 163) rfl)
theorem sR161_6 {h : jx_H} (H : jx_St h) : h.2.2.2 161 6 = some 181 := H.2 (161, 6, 181) (List.mem_of_getElem? (i := 164) rfl)
theorem sR161_7 {h : jx_H} (H : jx_St h) : h.2.2.2 161 7 = some 182 := H.2 (161, 7, 182) (List.mem_of_getElem? (i := 165) rfl)
theorem sR161_8 {h : jx_H} (H : jx_St h) : h.2.2.2 161 8 = some 183 := H.2 (161, 8, 183) (List.mem_of_getElem? (i := 166) rfl)
theorem sR162_4 {h : jx_H} (H : jx_St h) : h.2.2.2 162 4 = some 163 := H.2 (162, 4, 163) (List.mem_of_getElem? (i := 167) rfl)
theorem sR162_5 {h : jx_H} (H : jx_St h) : h.2.2.2 162 5 = some 164 := H.2 (162, 5, 164) (List.mem_of_getElem? (i := 168) rfl)
theorem sR162_6 {h : jx_H} (H : jx_St h) : h.2.2.2 162 6 = some 165 := H.2 (162, 6, 165) (List.mem_of_getElem? (i := 169) rfl)
theorem sR162_7 {h : jx_H} (H : jx_St h) : h.2.2.2 162 7 = some 166 := H.2 (162, 7, 166) (List.mem_of_getElem? (i := 170) rfl)
theorem sR162_8 {h : jx_H} (H : jx_St h) : h.2.2.2 162 8 = some 167 := H.2 (162, 8, 167) (List.mem_of_getElem? (i := 171) rfl)
theorem sR162_9 {h : jx_H} (H : jx_St h) : h.2.2.2 162 9 = some 168 := H.2 (162, 9, 168) (List.mem_of_getElem? (i := 172) rfl)
theorem sR162_10 {h : jx_H} (H : jx_St h) : h.2.2.2 162 10 = some 169 := H.2 (162, 10, 169) (List.mem_of_getElem? (i := 173) rfl)
theorem sR162_11 {h : jx_H} (H : jx_St h) : h.2.2.2 162 11 = some 170 := H.2 (162, 11, 170) (List.mem_of_getElem? (i := 174) rfl)
theorem sR170_0 {h : jx_H} (H : jx_St h) : h.2.2.2 170 0 = some 171 := H.2 (170, 0, 171) (List.mem_of_getElem? (i := 175) rfl)
theorem sR170_1 {h : jx_H} (H : jx_St h) : h.2.2.2 170 1 = some 172 := H.2 (170, 1, 172) (List.mem_of_getElem? (i := 176) rfl)
theorem sR170_2 {h : jx_H} (H : jx_St h) : h.2.2.2 170 2 = some 173 := H.2 (170, 2, 173) (List.mem_of_getElem? (i := 177) rfl)
theorem sR170_3 {h : jx_H} (H : jx_St h) : h.2.2.2 170 3 = some 174 := H.2 (170, 3, 174) (List.mem_of_getElem? (i := 178) rfl)
theorem sR175_0 {h : jx_H} (H : jx_St h) : h.2.2.2 175 0 = some 176 := H.2 (175, 0, 176) (List.mem_of_getElem? (i := 179) rfl)
theorem sR175_1 {h : jx_H} (H : jx_St h) : h.2.2.2 175 1 = some 177 := H.2 (175, 1, 177) (List.mem_of_getElem? (i := 180) rfl)
theorem sR175_2 {h : jx_H} (H : jx_St h) : h.2.2.2 175 2 = some 178 := H.2 (175, 2, 178) (List.mem_of_getElem? (i := 181) rfl)
theorem sR175_3 {h : jx_H} (H : jx_St h) : h.2.2.2 175 3 = some 179 := H.2 (175, 3, 179) (List.mem_of_getElem? (i := 182) rfl)
theorem sR184_1 {h : jx_H} (H : jx_St h) : h.2.2.2 184 1 = some 198 := H.2 (184, 1, 198) (List.mem_of_getElem? (i := 183) rfl)
theorem sR184_5 {h : jx_H} (H : jx_St h) : h.2.2.2 184 5 = some 203 := H.2 (184, 5, 203) (List.mem_of_getElem? (i := 184) rfl)
theorem sR184_6 {h : jx_H} (H : jx_St h) : h.2.2.2 184 6 = some 204 := H.2 (184, 6, 204) (List.mem_of_getElem? (i := 185) rfl)
theorem sR184_7 {h : jx_H} (H : jx_St h) : h.2.2.2 184 7 = some 205 := H.2 (184, 7, 205) (List.mem_of_getElem? (i := 186) rfl)
theorem sR184_8 {h : jx_H} (H : jx_St h) : h.2.2.2 184 8 = some 206 := H.2 (184, 8, 206) (List.mem_of_getElem? (i := 187) rfl)
theorem sR185_4 {h : jx_H} (H : jx_St h) : h.2.2.2 185 4 = some 186 := H.2 (185, 4, 186) (List.mem_of_getElem? (i := 188) rfl)
theorem sR185_5 {h : jx_H} (H : jx_St h) : h.2.2.2 185 5 = some 187 := H.2 (185, 5, 187) (List.mem_of_getElem? (i := 189) rfl)
theorem sR185_6 {h : jx_H} (H : jx_St h) : h.2.2.2 185 6 = some 188 := H.2 (185, 6, 188) (List.mem_of_getElem? (i := 190) rfl)
theorem sR185_7 {h : jx_H} (H : jx_St h) : h.2.2.2 185 7 = some 189 := H.2 (185, 7, 189) (List.mem_of_getElem? (i := 191) rfl)
theorem sR185_8 {h : jx_H} (H : jx_St h) : h.2.2.2 185 8 = some 190 := H.2 (185, 8, 190) (List.mem_of_getElem? (i := 192) rfl)
theorem sR185_9 {h : jx_H} (H : jx_St h) : h.2.2.2 185 9 = some 191 := H.2 (185, 9, 191) (List.mem_of_getElem? (i := 193) rfl)
theorem sR185_10 {h : jx_H} (H : jx_St h) : h.2.2.2 185 10 = some 192 := H.2 (185, 10, 192) (List.mem_of_getElem? (i := 194) rfl)
theorem sR185_11 {h : jx_H} (H : jx_St h) : h.2.2.2 185 11 = some 193 := H.2 (185, 11, 193) (List.mem_of_getElem? (i := 195) rfl)
theorem sR193_0 {h : jx_H} (H : jx_St h) : h.2.2.2 193 0 = some 194 := H.2 (193, 0, 194) (List.mem_of_getElem? (i := 196) rfl)
theorem sR193_1 {h : jx_H} (H : jx_St h) : h.2.2.2 193 1 = some 195 := H.2 (193, 1, 195) (List.mem_of_getElem? (i := 197) rfl)
theorem sR193_2 {h : jx_H} (H : jx_St h) : h.2.2.2 193 2 = some 196 := H.2 (193, 2, 196) (List.mem_of_getElem? (i := 198) rfl)
theorem sR193_3 {h : jx_H} (H : jx_St h) : h.2.2.2 193 3 = some 197 := H.2 (193, 3, 197) (List.mem_of_getElem? (i := 199) rfl)
theorem sR198_0 {h : jx_H} (H : jx_St h) : h.2.2.2 198 0 = some 199 := H.2 (198, 0, 199) (List.mem_of_getElem? (i := 200) rfl)
theorem sR198_1 {h : jx_H} (H : jx_St h) : h.2.2.2 198 1 = some 200 := H.2 (198, 1, 200) (List.mem_of_getElem? (i := 201) rfl)
theorem sR198_2 {h : jx_H} (H : jx_St h) : h.2.2.2 198 2 = some 201 := H.2 (198, 2, 201) (List.mem_of_getElem? (i := 202) rfl)
theorem sR198_3 {h : jx_H} (H : jx_St h) : h.2.2.2 198 3 = some 202 := H.2 (198, 3, 202) (List.mem_of_getElem? (i := 203) rfl)
theorem sR207_1 {h : jx_H} (H : jx_St h) : h.2.2.2 207 1 = some 221 := H.2 (207, 1, 221) (List.mem_of_getElem? (i := 204) rfl)
theorem sR207_5 {h : jx_H} (H : jx_St h) : h.2.2.2 207 5 = some 226 := H.2 (207, 5, 226) (List.mem_of_getElem? (i := 205) rfl)
theorem sR207_6 {h : jx_H} (H : jx_St h) : h.2.2.2 207 6 = some 227 := H.2 (207, 6, 227) (List.mem_of_getElem? (i := 206) rfl)
theorem sR207_7 {h : jx_H} (H : jx_St h) : h.2.2.2 207 7 = some 228 := H.2 (207, 7, 228) (List.mem_of_getElem? (i := 207) rfl)
theorem sR207_8 {h : jx_H} (H : jx_St h) : h.2.2.2 207 8 = some 229 := H.2 (207, 8, 229) (List.mem_of_getElem? (i := 208) rfl)
theorem sR208_4 {h : jx_H} (H : jx_St h) : h.2.2.2 208 4 = some 209 := H.2 (208, 4, 209) (List.mem_of_getElem? (i := 209) rfl)
theorem sR208_5 {h : jx_H} (H : jx_St h) : h.2.2.2 208 5 = some 210 := H.2 (208, 5, 210) (List.mem_of_getElem? (i := 210) rfl)
theorem sR208_6 {h : jx_H} (H : jx_St h) : h.2.2.2 208 6 = some 211 := H.2 (208, 6, 211) (List.mem_of_getElem? (i := 211) rfl)
theorem sR208_7 {h : jx_H} (H : jx_St h) : h.2.2.2 208 7 = some 212 := H.2 (208, 7, 212) (List.mem_of_getElem? (i := 212) rfl)
theorem sR208_8 {h : jx_H} (H : jx_St h) : h.2.2.2 208 8 = some 213 := H.2 (208, 8, 213) (List.mem_of_getElem? (i := 213) rfl)
theorem sR208_9 {h : jx_H} (H : jx_St h) : h.2.2.2 208 9 = some 214 := H.2 (208, 9, 214) (List.mem_of_getElem? (i := 214) rfl)
theorem sR208_10 {h : jx_H} (H : jx_St h) : h.2.2.2 208 10 = some 215 := H.2 (208, 10, 215) (List.mem_of_getElem? (i := 215) rfl)
theorem sR208_11 {h : jx_H} (H : jx_St h) : h.2.2.2 208 11 = some 216 := H.2 (208, 11, 216) (List.mem_of_getElem? (i := 216) rfl)
theorem sR216_0 {h : jx_H} (H : jx_St h) : h.2.2.2 216 0 = some 217 := H.2 (216, 0, 217) (List.mem_of_getElem? (i := 217) rfl)
theorem sR216_1 {h : jx_H} (H : jx_St h) : h.2.2.2 216 1 = some 218 := H.2 (216, 1, 218) (List.mem_of_getElem? (i := 218) rfl)
theorem sR216_2 {h : jx_H} (H : jx_St h) : h.2.2.2 216 2 = some 219 := H.2 (216, 2, 219) (List.mem_of_getElem? (i := 219) rfl)
theorem sR216_3 {h : jx_H} (H : jx_St h) : h.2.2.2 216 3 = some 220 := H.2 (216, 3, 220) (List.mem_of_getElem? (i := 220) rfl)
theorem sR221_0 {h : jx_H} (H : jx_St h) : h.2.2.2 221 0 = some 222 := H.2 (221, 0, 222) (List.mem_of_getElem? (i := 221) rfl)
theorem sR221_1 {h : jx_H} (H : jx_St h) : h.2.2.2 221 1 = some 223 := H.2 (221, 1, 223) (List.mem_of_getElem? (i := 222) rfl)
theorem sR221_2 {h : jx_H} (H : jx_St h) : h.2.2.2 221 2 = some 224 := H.2 (221, 2, 224) (List.mem_of_getElem? (i := 223) rfl)
theorem sR221_3 {h : jx_H} (H : jx_St h) : h.2.2.2 221 3 = some 225 := H.2 (221, 3, 225) (List.mem_of_getElem? (i := 224) rfl)
theorem sR230_1 {h : jx_H} (H : jx_St h) : h.2.2.2 230 1 = some 244 := H.2 (230, 1, 244) (List.mem_of_getElem? (i := 225) rfl)
theorem sR230_5 {h : jx_H} (H : jx_St h) : h.2.2.2 230 5 = some 249 := H.2 (230, 5, 249) (List.mem_of_getElem? (i := 226) rfl)
theorem sR230_6 {h : jx_H} (H : jx_St h) : h.2.2.2 230 6 = some 250 := H.2 (230, 6, 250) (List.mem_of_getElem? (i := 227) rfl)
theorem sR230_7 {h : jx_H} (H : jx_St h) : h.2.2.2 230 7 = some 251 := H.2 (230, 7, 251) (List.mem_of_getElem? (i := 228) rfl)
theorem sR230_8 {h : jx_H} (H : jx_St h) : h.2.2.2 230 8 = some 252 := H.2 (230, 8, 252) (List.mem_of_getElem? (i := 229) rfl)
theorem sR231_4 {h : jx_H} (H : jx_St h) : h.2.2.2 231 4 = some 232 := H.2 (231, 4, 232) (List.mem_of_getElem? (i := 230) rfl)
theorem sR231_5 {h : jx_H} (H : jx_St h) : h.2.2.2 231 5 = some 233 := H.2 (231, 5, 233) (List.mem_of_getElem? (i := 231) rfl)
theorem sR231_6 {h : jx_H} (H : jx_St h) : h.2.2.2 231 6 = some 234 := H.2 (231, 6, 234) (List.mem_of_getElem? (i := 232) rfl)
theorem sR231_7 {h : jx_H} (H : jx_St h) : h.2.2.2 231 7 = some 235 := H.2 (231, 7, 235) (List.mem_of_getElem? (i := 233) rfl)
theorem sR231_8 {h : jx_H} (H : jx_St h) : h.2.2.2 231 8 = some 236 := H.2 (231, 8, 236) (List.mem_of_getElem? (i := 234) rfl)
theorem sR231_9 {h : jx_H} (H : jx_St h) : h.2.2.2 231 9 = some 237 := H.2 (231, 9, 237) (List.mem_of_getElem? (i := 235) rfl)
theorem sR231_10 {h : jx_H} (H : jx_St h) : h.2.2.2 231 10 = some 238 := H.2 (231, 10, 238) (List.mem_of_getElem? (i := 236) rfl)
theorem sR231_11 {h : jx_H} (H : jx_St h) : h.2.2.2 231 11 = some 239 := H.2 (231, 11, 239) (List.mem_of_getElem? (i := 237) rfl)
theorem sR239_0 {h : jx_H} (H : jx_St h) : h.2.2.2 239 0 = some 240 := H.2 (239, 0, 240) (List.mem_of_getElem? (i := 238) rfl)
theorem sR239_1 {h : jx_H} (H : jx_St h) : h.2.2.2 239 1 = some 241 := H.2 (239, 1, 241) (List.mem_of_getElem? (i := 239) rfl)
theorem sR239_2 {h : jx_H} (H : jx_St h) : h.2.2.2 239 2 = some 242 := H.2 (239, 2, 242) (List.mem_of_getElem? (i := 240) rfl)
theorem sR239_3 {h : jx_H} (H : jx_St h) : h.2.2.2 239 3 = some 243 := H.2 (239, 3, 243) (List.mem_of_getElem? (i := 241) rfl)
theorem sR244_0 {h : jx_H} (H : jx_St h) : h.2.2.2 244 0 = some 245 := H.2 (244, 0, 245) (List.mem_of_getElem? (i := 242) rfl)
theorem sR244_1 {h : jx_H} (H : jx_St h) : h.2.2.2 244 1 = some 246 := H.2 (244, 1, 246) (List.mem_of_getElem? (i := 243) rfl)
theorem sR244_2 {h : jx_H} (H : jx_St h) : h.2.2.2 244 2 = some 247 := H.2 (244, 2, 247) (List.mem_of_getElem? (i := 244) rfl)
theorem sR244_3 {h : jx_H} (H : jx_St h) : h.2.2.2 244 3 = some 248 := H.2 (244, 3, 248) (List.mem_of_getElem? (i := 245) rfl)
theorem sR253_1 {h : jx_H} (H : jx_St h) : h.2.2.2 253 1 = some 254 := H.2 (253, 1, 254) (List.mem_of_getElem? (i := 246) rfl)
theorem sR253_2 {h : jx_H} (H : jx_St h) : h.2.2.2 253 2 = some 255 := H.2 (253, 2, 255) (List.mem_of_getElem? (i := 247) rfl)
theorem sR253_3 {h : jx_H} (H : jx_St h) : h.2.2.2 253 3 = some 256 := H.2 (253, 3, 256) (List.mem_of_getElem? (i := 248) rfl)
theorem sR253_4 {h : jx_H} (H : jx_St h) : h.2.2.2 253 4 = some 257 := H.2 (253, 4, 257) (List.mem_of_getElem? (i := 249) rfl)
theorem sR253_5 {h : jx_H} (H : jx_St h) : h.2.2.2 253 5 = some 258 := H.2 (253, 5, 258) (List.mem_of_getElem? (i := 250) rfl)
theorem sR253_6 {h : jx_H} (H : jx_St h) : h.2.2.2 253 6 = some 259 := H.2 (253, 6, 259) (List.mem_of_getElem? (i := 251) rfl)
theorem sR253_7 {h : jx_H} (H : jx_St h) : h.2.2.2 253 7 = some 260 := H.2 (253, 7, 260) (List.mem_of_getElem? (i := 252) rfl)
theorem sR253_8 {h : jx_H} (H : jx_St h) : h.2.2.2 253 8 = some 261 := H.2 (253, 8, 261) (List.mem_of_getElem? (i := 253) rfl)
theorem sR253_9 {h : jx_H} (H : jx_St h) : h.2.2.2 253 9 = some 262 := H.2 (253, 9, 262) (List.mem_of_getElem? (i := 254) rfl)
theorem sR253_10 {h : jx_H} (H : jx_St h) : h.2.2.2 253 10 = some 263 := H.2 (253, 10, 263) (List.mem_of_getElem? (i := 255) rfl)
theorem sR253_11 {h : jx_H} (H : jx_St h) : h.2.2.2 253 11 = some 264 := H.2 (253, 11, 264) (List.mem_of_getElem? (i := 256) rfl)
theorem sR253_12 {h : jx_H} (H : jx_St h) : h.2.2.2 253 12 = some 265 := H.2 (253, 12, 265) (List.mem_of_getElem? (i := 257) rfl)
theorem sR253_13 {h : jx_H} (H : jx_St h) : h.2.2.2 253 13 = some 266 := H.2 (253, 13, 266) (List.mem_of_getElem? (i := 258) rfl)
theorem sR253_14 {h : jx_H} (H : jx_St h) : h.2.2.2 253 14 = some 267 := H.2 (253, 14, 267) (List.mem_of_getElem? (i := 259) rfl)
theorem sR253_15 {h : jx_H} (H : jx_St h) : h.2.2.2 253 15 = some 268 := H.2 (253, 15, 268) (List.mem_of_getElem? (i := 260) rfl)
theorem sR253_16 {h : jx_H} (H : jx_St h) : h.2.2.2 253 16 = some 269 := H.2 (253, 16, 269) (List.mem_of_getElem? (i := 261) rfl)
theorem sR253_17 {h : jx_H} (H : jx_St h) : h.2.2.2 253 17 = some 270 := H.2 (253, 17, 270) (List.mem_of_getElem? (i := 262) rfl)
theorem sR253_18 {h : jx_H} (H : jx_St h) : h.2.2.2 253 18 = some 271 := H.2 (253, 18, 271) (List.mem_of_getElem? (i := 263) rfl)
theorem sR253_19 {h : jx_H} (H : jx_St h) : h.2.2.2 253 19 = some 272 := H.2 (253, 19, 272) (List.mem_of_getElem? (i := 264) rfl)
theorem sR253_20 {h : jx_H} (H : jx_St h) : h.2.2.2 253 20 = some 273 := H.2 (253, 20, 273) (List.mem_of_getElem? (i := 265) rfl)
theorem sR253_21 {h : jx_H} (H : jx_St h) : h.2.2.2 253 21 = some 274 := H.2 (253, 21, 274) (List.mem_of_getElem? (i := 266) rfl)
theorem sR253_22 {h : jx_H} (H : jx_St h) : h.2.2.2 253 22 = some 275 := H.2 (253, 22, 275) (List.mem_of_getElem? (i := 267) rfl)
theorem sR253_23 {h : jx_H} (H : jx_St h) : h.2.2.2 253 23 = some 276 := H.2 (253, 23, 276) (List.mem_of_getElem? (i := 268) rfl)
theorem sR253_24 {h : jx_H} (H : jx_St h) : h.2.2.2 253 24 = some 277 := H.2 (253, 24, 277) (List.mem_of_getElem? (i := 269) rfl)
theorem sR253_25 {h : jx_H} (H : jx_St h) : h.2.2.2 253 25 = some 278 := H.2 (253, 25, 278) (List.mem_of_getElem? (i := 270) rfl)
theorem sR253_26 {h : jx_H} (H : jx_St h) : h.2.2.2 253 26 = some 279 := H.2 (253, 26, 279) (List.mem_of_getElem? (i := 271) rfl)
theorem sR253_37 {h : jx_H} (H : jx_St h) : h.2.2.2 253 37 = some 280 := H.2 (253, 37, 280) (List.mem_of_getElem? (i := 272) rfl)
theorem sR253_38 {h : jx_H} (H : jx_St h) : h.2.2.2 253 38 = some 281 := H.2 (253, 38, 281) (List.mem_of_getElem? (i := 273) rfl)
theorem sR253_39 {h : jx_H} (H : jx_St h) : h.2.2.2 253 39 = some 282 := H.2 (253, 39, 282) (List.mem_of_getElem? (i := 274) rfl)
theorem sR253_40 {h : jx_H} (H : jx_St h) : h.2.2.2 253 40 = some 283 := H.2 (253, 40, 283) (List.mem_of_getElem? (i := 275) rfl)
theorem sR253_41 {h : jx_H} (H : jx_St h) : h.2.2.2 253 41 = some 284 := H.2 (253, 41, 284) (List.mem_of_getElem? (i := 276) rfl)
theorem sR253_42 {h : jx_H} (H : jx_St h) : h.2.2.2 253 42 = some 285 := H.2 (253, 42, 285) (List.mem_of_getElem? (i := 277) rfl)
theorem sR253_43 {h : jx_H} (H : jx_St h) : h.2.2.2 253 43 = some 286 := H.2 (253, 43, 286) (List.mem_of_getElem? (i := 278) rfl)
theorem sR253_44 {h : jx_H} (H : jx_St h) : h.2.2.2 253 44 = some 287 := H.2 (253, 44, 287) (List.mem_of_getElem? (i := 279) rfl)
theorem sR253_45 {h : jx_H} (H : jx_St h) : h.2.2.2 253 45 = some 288 := H.2 (253, 45, 288) (List.mem_of_getElem? (i := 280) rfl)
theorem sR253_46 {h : jx_H} (H : jx_St h) : h.2.2.2 253 46 = some 289 := H.2 (253, 46, 289) (List.mem_of_getElem? (i := 281) rfl)
theorem sR253_47 {h : jx_H} (H : jx_St h) : h.2.2.2 253 47 = some 290 := H.2 (253, 47, 290) (List.mem_of_getElem? (i := 282) rfl)
theorem sR253_48 {h : jx_H} (H : jx_St h) : h.2.2.2 253 48 = some 291 := H.2 (253, 48, 291) (List.mem_of_getElem? (i := 283) rfl)
theorem sR253_49 {h : jx_H} (H : jx_St h) : h.2.2.2 253 49 = some 292 := H.2 (253, 49, 292) (List.mem_of_getElem? (i := 284) rfl)
theorem sR253_50 {h : jx_H} (H : jx_St h) : h.2.2.2 253 50 = some 293 := H.2 (253, 50, 293) (List.mem_of_getElem? (i := 285) rfl)
theorem sR253_54 {h : jx_H} (H : jx_St h) : h.2.2.2 253 54 = some 294 := H.2 (253, 54, 294) (List.mem_of_getElem? (i := 286) rfl)
theorem sR253_55 {h : jx_H} (H : jx_St h) : h.2.2.2 253 55 = some 295 := H.2 (253, 55, 295) (List.mem_of_getElem? (i := 287) rfl)
theorem sR253_56 {h : jx_H} (H : jx_St h) : h.2.2.2 253 56 = some 296 := H.2 (253, 56, 296) (List.mem_of_getElem? (i := 288) rfl)
theorem sR253_57 {h : jx_H} (H : jx_St h) : h.2.2.2 253 57 = some 297 := H.2 (253, 57, 297) (List.mem_of_getElem? (i := 289) rfl)
theorem sR253_58 {h : jx_H} (H : jx_St h) : h.2.2.2 253 58 = some 298 := H.2 (253, 58, 298) (List.mem_of_getElem? (i := 290) rfl)
theorem sR253_60 {h : jx_H} (H : jx_St h) : h.2.2.2 253 60 = some 299 := H.2 (253, 60, 299) (List.mem_of_getElem? (i := 291) rfl)
theorem sR253_62 {h : jx_H} (H : jx_St h) : h.2.2.2 253 62 = some 300 := H.2 (253, 62, 300) (List.mem_of_getElem? (i := 292) rfl)
theorem sR253_63 {h : jx_H} (H : jx_St h) : h.2.2.2 253 63 = some 301 := H.2 (253, 63, 301) (List.mem_of_getElem? (i := 293) rfl)
theorem sR253_64 {h : jx_H} (H : jx_St h) : h.2.2.2 253 64 = some 302 := H.2 (253, 64, 302) (List.mem_of_getElem? (i := 294) rfl)
theorem sR253_65 {h : jx_H} (H : jx_St h) : h.2.2.2 253 65 = some 303 := H.2 (253, 65, 303) (List.mem_of_getElem? (i := 295) rfl)
/-- a Land at a -/
def jx_La (h : jx_H) (a : Nat) : Prop := h.1[a]? = some (.inr (.inl 4)) ∧ (h.1[a + 1]? = some (.inl (1, 10)) ∧ h.2.2.2 a 0 = some (a + 1)) ∧ (h.1[a + 2]? = some (.inl (1, 10)) ∧ h.2.2.2 a 1 = some (a + 2)) ∧ (h.1[a + 3]? = some (.inl (1, 10)) ∧ h.2.2.2 a 2 = some (a + 3)) ∧ (h.1[a + 4]? = some (.inl (1, 8)) ∧ h.2.2.2 a 3 = some (a + 4))
/-- a Strip at a -/
def jx_Sp0 (h : jx_H) (a : Nat) : Prop := h.1[a]? = some (.inr (.inl 3)) ∧ (h.1[a + 1]? = some (.inl (1, 100)) ∧ h.2.2.2 a 4 = some (a + 1)) ∧ (h.1[a + 2]? = some (.inl (1, 8)) ∧ h.2.2.2 a 5 = some (a + 2)) ∧ (h.1[a + 3]? = some (.inl (1, 8)) ∧ h.2.2.2 a 6 = some (a + 3)) ∧ (h.1[a + 4]? = some (.inl (1, 8)) ∧ h.2.2.2 a 7 = some (a + 4)) ∧ (h.1[a + 5]? = some (.inl (1, 10)) ∧ h.2.2.2 a 8 = some (a + 5)) ∧ (h.1[a + 6]? = some (.inl (1, 8)) ∧ h.2.2.2 a 9 = some (a + 6)) ∧ (h.1[a + 7]? = some (.inl (1, 8)) ∧ h.2.2.2 a 10 = some (a + 7)) ∧ (h.1[a + 8]? = some (.inr (.inl 4)) ∧ h.2.2.2 a 11 = some (a + 8))
def jx_Sp (h : jx_H) (a : Nat) : Prop := jx_Sp0 h a ∧ jx_La h (a + 8)
/-- a World at a -/
def jx_Wo0 (h : jx_H) (a : Nat) : Prop := h.1[a]? = some (.inr (.inl 7)) ∧ (h.1[a + 14]? = some (.inr (.inl 4)) ∧ h.2.2.2 a 1 = some (a + 14)) ∧ (h.1[a + 19]? = some (.inl (1, 10)) ∧ h.2.2.2 a 5 = some (a + 19)) ∧ (h.1[a + 20]? = some (.inl (1, 10)) ∧ h.2.2.2 a 6 = some (a + 20)) ∧ (h.1[a + 21]? = some (.inl (1, 10)) ∧ h.2.2.2 a 7 = some (a + 21)) ∧ (h.1[a + 22]? = some (.inl (1, 800)) ∧ h.2.2.2 a 8 = some (a + 22))
def jx_Wo (h : jx_H) (a : Nat) : Prop := jx_Wo0 h a ∧ jx_La h (a + 14)
/-- a Rule at a -/
def jx_Rl (h : jx_H) (a : Nat) : Prop := h.1[a]? = some (.inr (.inl 5)) ∧ (h.1[a + 1]? = some (.inl (1, 400)) ∧ h.2.2.2 a 0 = some (a + 1)) ∧ (h.1[a + 2]? = some (.inl (1, 12)) ∧ h.2.2.2 a 2 = some (a + 2)) ∧ (h.1[a + 3]? = some (.inl (1, 12)) ∧ h.2.2.2 a 3 = some (a + 3)) ∧ (h.1[a + 4]? = some (.inl (1, 12)) ∧ h.2.2.2 a 4 = some (a + 4)) ∧ (h.1[a + 5]? = some (.inl (2, 60)) ∧ h.2.2.2 a 6 = some (a + 5))
/-- h' is h but for what the rows named by X hold -/
def jx_eq (X : Nat → Prop) (h h' : jx_H) : Prop := h'.1 = h.1 ∧ h'.2.2.2 = h.2.2.2 ∧ ∀ b, ¬ X b → h'.2.1 b = h.2.1 b ∧ h'.2.2.1 b = h.2.2.1 b
theorem jx_eq.rf {X : Nat → Prop} {h : jx_H} : jx_eq X h h := ⟨rfl, rfl, fun _ _ => ⟨rfl, rfl⟩⟩
theorem jx_eq.tr {X : Nat → Prop} {h1 h2 h3 : jx_H} (a : jx_eq X h1 h2) (b : jx_eq X h2 h3) : jx_eq X h1 h3 := ⟨b.1.trans a.1, b.2.1.trans a.2.1, fun q hq => ⟨((b.2.2 q hq).1).trans (a.2.2 q hq).1, ((b.2.2 q hq).2).trans (a.2.2 q hq).2⟩⟩
theorem jx_eq.wk {X Y : Nat → Prop} {h1 h2 : jx_H} (a : jx_eq X h1 h2) (hXY : ∀ q, X q → Y q) : jx_eq Y h1 h2 := ⟨a.1, a.2.1, fun q hq => a.2.2 q (fun z => hq (hXY q z))⟩
theorem jx_eq.wI {X : Nat → Prop} {h h' : jx_H} (e : jx_eq X h h') {a k : Nat} {v : Int32} (ha : X a) : jx_eq X h (jx_wI h' a k v) := ⟨e.1, e.2.1, fun q hq => ⟨(jx_row_ne _ _ (fun z => hq (by rw [z]; exact ha))).trans (e.2.2 q hq).1, (e.2.2 q hq).2⟩⟩
theorem jx_eq.wL {X : Nat → Prop} {h h' : jx_H} (e : jx_eq X h h') {a k : Nat} {v : Int64} (ha : X a) : jx_eq X h (jx_wL h' a k v) := ⟨e.1, e.2.1, fun q hq => ⟨(e.2.2 q hq).1, (jx_row_ne _ _ (fun z => hq (by rw [z]; exact ha))).trans (e.2.2 q hq).2⟩⟩
theorem jx_eq.cp {X : Nat → Prop} {h h' : jx_H} (e : jx_eq X h h') {a0 sp a dp n : Nat} (ha : X a) : jx_eq X h (jx_cpI h' a0 sp a dp n) := ⟨e.1, e.2.1, fun q hq => ⟨(jx_row_ne _ _ (fun z => hq (by rw [z]; exact ha))).trans (e.2.2 q hq).1, (e.2.2 q hq).2⟩⟩
theorem jx_eq.I {X : Nat → Prop} {h h' : jx_H} (e : jx_eq X h h') (b : Nat) (hb : ¬ X b) : h'.2.1 b = h.2.1 b := (e.2.2 b hb).1
theorem jx_eq.L {X : Nat → Prop} {h h' : jx_H} (e : jx_eq X h h') (b : Nat) (hb : ¬ X b) : h'.2.2.1 b = h.2.2.1 b := (e.2.2 b hb).2
theorem jx_St.of {X : Nat → Prop} {h h' : jx_H} (H : jx_St h) (e : jx_eq X h h') : jx_St h' := ⟨by rw [e.1]; exact H.1, by rw [e.2.1]; exact H.2⟩
theorem jx_La.of {X : Nat → Prop} {h h' : jx_H} {a : Nat} (H : jx_La h a) (e : jx_eq X h h') : jx_La h' a := by
  unfold jx_La at H ⊢
  rw [e.1, e.2.1]
  exact H
theorem jx_Sp.of {X : Nat → Prop} {h h' : jx_H} {a : Nat} (H : jx_Sp h a) (e : jx_eq X h h') : jx_Sp h' a := by
  unfold jx_Sp jx_Sp0 jx_La at H ⊢
  rw [e.1, e.2.1]
  exact H
theorem jx_Wo.of {X : Nat → Prop} {h h' : jx_H} {a : Nat} (H : jx_Wo h a) (e : jx_eq X h h') : jx_Wo h' a := by
  unfold jx_Wo jx_Wo0 jx_La at H ⊢
  rw [e.1, e.2.1]
  exact H
theorem jx_Rl.of {X : Nat → Prop} {h h' : jx_H} {a : Nat} (H : jx_Rl h a) (e : jx_eq X h h') : jx_Rl h' a := by
  unfold jx_Rl at H ⊢
  rw [e.1, e.2.1]
  exact H
def jx_isi (c k : Nat) : Bool := match jn_ty c k with
  | .int => true
  | .boolean => true
  | _ => false
def jx_isr (c k : Nat) : Bool := match jn_ty c k with
  | .object _ => true
  | .array _ => true
  | _ => false
/-- an int, a boolean field that isn't final -/
def jx_isI (c k : Nat) : Bool := match jn_ty c k, (jn_T c k).2.2.2 with
  | .int, false => true
  | _, _ => false
def jx_isZ (c k : Nat) : Bool := match jn_ty c k, (jn_T c k).2.2.2 with
  | .boolean, false => true
  | _, _ => false
theorem jx_fv_i {h : jx_H} {c a k : Nat} (hty : jx_isi c k = true) : jx_fv h c a k = .int (h.2.1 a k) := by
  unfold jx_isi at hty
  unfold jx_fv
  split at hty <;> simp_all
theorem jx_fv_r {h : jx_H} {c a k : Nat} (hty : jx_isr c k = true) : jx_fv h c a k = jx_rv (h.2.2.2 a k) := by
  unfold jx_isr at hty
  unfold jx_fv
  split at hty <;> simp_all
theorem jx_isI_nf {c k : Nat} (hty : jx_isI c k = true) : (jn_T c k).2.2.2 = false := by
  unfold jx_isI at hty
  split at hty <;> simp_all
theorem jx_isZ_nf {c k : Nat} (hty : jx_isZ c k = true) : (jn_T c k).2.2.2 = false := by
  unfold jx_isZ at hty
  split at hty <;> simp_all
theorem jx_isI_ok {c k : Nat} {v : Int32} (hty : jx_isI c k = true) : jx_fok c k (.int v) := by
  unfold jx_isI at hty
  unfold jx_fok
  split at hty <;> simp_all
theorem jx_isZ_ok {c k : Nat} {v : Int32} (hty : jx_isZ c k = true) (hv : v = 0 ∨ v = 1) : jx_fok c k (.int v) := by
  unfold jx_isZ at hty
  unfold jx_fok
  split at hty <;> simp_all
theorem jx_fw_i {h : jx_H} {c a k : Nat} {v : Int32} (hty : jx_isI c k = true) : jx_fw h c a k (.int v) = jx_wI h a k v := by
  unfold jx_isI at hty
  unfold jx_fw
  split at hty <;> simp_all
theorem jx_fw_z {h : jx_H} {c a k : Nat} {v : Int32} (hty : jx_isZ c k = true) : jx_fw h c a k (.int v) = jx_wI h a k v := by
  unfold jx_isZ at hty
  unfold jx_fw
  split at hty <;> simp_all
theorem jx_isr_ok {c k b : Nat} (hty : jx_isr c k = true) : jx_fok c k (.ref b) ∧ jx_fok c k .null := by
  unfold jx_isr at hty
  unfold jx_fok
  split at hty <;> simp_all
theorem jx_fw_r {h : jx_H} {c a k b : Nat} (hty : jx_isr c k = true) : jx_fw h c a k (.ref b) = jx_wR h a k (some b) ∧ jx_fw h c a k .null = jx_wR h a k none := by
  unfold jx_isr at hty
  unfold jx_fw
  split at hty <;> simp_all
section JU
variable {d bc bs i pc : Nat} {lv : List (Option Value)} {st : List Value} {h : jx_H} {Q : Option Value → jx_H → Prop}
theorem ju_geti {x c0 k0 a : Nat} (hd : decode (jm_b i) pc = .ok (.getfield x, 3)) (hf : jx_F (jm_o i) x c0 k0) (hty : jx_isi c0 k0 = true) (ha : h.1[a]? = some (.inr (.inl c0))) (k : jx_Ev d bc bs i (pc + 3) lv (.int (h.2.1 a k0) :: st) h Q) : jx_Ev d bc bs i pc lv (.ref a :: st) h Q := je_get hd hf ha (jx_fv_i hty) k
theorem ju_getr {x c0 k0 a b : Nat} (hd : decode (jm_b i) pc = .ok (.getfield x, 3)) (hf : jx_F (jm_o i) x c0 k0) (hty : jx_isr c0 k0 = true) (ha : h.1[a]? = some (.inr (.inl c0))) (hr : h.2.2.2 a k0 = some b) (k : jx_Ev d bc bs i (pc + 3) lv (.ref b :: st) h Q) : jx_Ev d bc bs i pc lv (.ref a :: st) h Q := je_get hd hf ha (by rw [jx_fv_r hty, hr]; rfl) k
theorem ju_getn {x c0 k0 a : Nat} (hd : decode (jm_b i) pc = .ok (.getfield x, 3)) (hf : jx_F (jm_o i) x c0 k0) (hty : jx_isr c0 k0 = true) (ha : h.1[a]? = some (.inr (.inl c0))) (hr : h.2.2.2 a k0 = none) (k : jx_Ev d bc bs i (pc + 3) lv (.null :: st) h Q) : jx_Ev d bc bs i pc lv (.ref a :: st) h Q := je_get hd hf ha (by rw [jx_fv_r hty, hr]; rfl) k
theorem ju_puti {x c0 k0 a : Nat} {v : Int32} (hd : decode (jm_b i) pc = .ok (.putfield x, 3)) (hf : jx_F (jm_o i) x c0 k0) (hty : jx_isI c0 k0 = true) (ha : h.1[a]? = some (.inr (.inl c0))) (k : jx_Ev d bc bs i (pc + 3) lv st (jx_wI h a k0 v) Q) : jx_Ev d bc bs i pc lv (.int v :: .ref a :: st) h Q := je_put hd hf (jx_isI_nf hty) ha (jx_isI_ok hty) (jx_fw_i hty) k
theorem ju_putz {x c0 k0 a : Nat} {v : Int32} (hd : decode (jm_b i) pc = .ok (.putfield x, 3)) (hf : jx_F (jm_o i) x c0 k0) (hty : jx_isZ c0 k0 = true) (hv : v = 0 ∨ v = 1) (ha : h.1[a]? = some (.inr (.inl c0))) (k : jx_Ev d bc bs i (pc + 3) lv st (jx_wI h a k0 v) Q) : jx_Ev d bc bs i pc lv (.int v :: .ref a :: st) h Q := je_put hd hf (jx_isZ_nf hty) ha (jx_isZ_ok hty hv) (jx_fw_z hty) k
theorem ju_putr {x c0 k0 a b : Nat} (hd : decode (jm_b i) pc = .ok (.putfield x, 3)) (hf : jx_F (jm_o i) x c0 k0) (hfin : (jn_T c0 k0).2.2.2 = false) (hty : jx_isr c0 k0 = true) (ha : h.1[a]? = some (.inr (.inl c0))) (k : jx_Ev d bc bs i (pc + 3) lv st (jx_wR h a k0 (some b)) Q) : jx_Ev d bc bs i pc lv (.ref b :: .ref a :: st) h Q := je_put hd hf hfin ha (jx_isr_ok hty).1 (jx_fw_r hty).1 k
theorem ju_putn {x c0 k0 a : Nat} (hd : decode (jm_b i) pc = .ok (.putfield x, 3)) (hf : jx_F (jm_o i) x c0 k0) (hfin : (jn_T c0 k0).2.2.2 = false) (hty : jx_isr c0 k0 = true) (ha : h.1[a]? = some (.inr (.inl c0))) (k : jx_Ev d bc bs i (pc + 3) lv st (jx_wR h a k0 none) Q) : jx_Ev d bc bs i pc lv (.null :: .ref a :: st) h Q := je_put hd hf hfin ha (jx_isr_ok (b := 0) hty).2 (jx_fw_r (b := 0) hty).2 k
theorem ju_putrF {x c0 k0 a b : Nat} (hd : decode (jm_b i) pc = .ok (.putfield x, 3)) (hf : jx_F (jm_o i) x c0 k0) (hfin : (jn_T c0 k0).2.2.2 = true) (hi0 : (jm_y i).name = "<init>") (hco : c0 = jm_o i) (hty : jx_isr c0 k0 = true) (ha : h.1[a]? = some (.inr (.inl c0))) (k : jx_Ev d bc bs i (pc + 3) lv st (jx_wR h a k0 (some b)) Q) : jx_Ev d bc bs i pc lv (.ref b :: .ref a :: st) h Q := je_putF hd hf hfin hi0 hco ha (jx_isr_ok hty).1 (jx_fw_r hty).1 k
theorem ju_inc {n : Nat} {z : Int} {x y : Int32} {lv' : List (Option Value)} (hd : decode (jm_b i) pc = .ok (.iinc n z, 3)) (hz : Int32.ofInt z = y) (hx : lv[n]? = some (some (.int x))) (hlv : jx_set lv n (.int (x + y)) = lv') (k : jx_Ev d bc bs i (pc + 3) lv' st h Q) : jx_Ev d bc bs i pc lv st h Q := je_iinc hd hx (by rw [hz]) (by rw [hlv]; exact k)
theorem ju_istore {n : Nat} {x : Int32} {lv' : List (Option Value)} (hd : decode (jm_b i) pc = .ok (.istore n, 2)) (hn : Nat.blt n lv.length = true) (hlv : jx_set lv n (.int x) = lv') (k : jx_Ev d bc bs i (pc + 2) lv' st h Q) : jx_Ev d bc bs i pc lv (.int x :: st) h Q := je_istore hd hn (by rw [hlv]; exact k)
theorem ju_astore {n x : Nat} {lv' : List (Option Value)} (hd : decode (jm_b i) pc = .ok (.astore n, 2)) (hn : Nat.blt n lv.length = true) (hlv : jx_set lv n (.ref x) = lv') (k : jx_Ev d bc bs i (pc + 2) lv' st h Q) : jx_Ev d bc bs i pc lv (.ref x :: st) h Q := je_astore hd hn (by rw [hlv]; exact k)
theorem ju_lstore {n : Nat} {x : Int64} {lv' : List (Option Value)} (hd : decode (jm_b i) pc = .ok (.lstore n, 2)) (hn : Nat.blt (n + 1) lv.length = true) (hlv : jx_set2 lv n (.long x) = lv') (k : jx_Ev d bc bs i (pc + 2) lv' st h Q) : jx_Ev d bc bs i pc lv (.long x :: st) h Q := je_lstore hd hn (by rw [hlv]; exact k)
theorem ju_istore0 {x : Int32} {lv' : List (Option Value)} (hd : decode (jm_b i) pc = .ok (.istore_n 0, 1)) (hn : Nat.blt 0 lv.length = true) (hlv : jx_set lv 0 (.int x) = lv') (k : jx_Ev d bc bs i (pc + 1) lv' st h Q) : jx_Ev d bc bs i pc lv (.int x :: st) h Q := je_istore0 hd hn (by rw [hlv]; exact k)
theorem ju_astore0 {x : Nat} {lv' : List (Option Value)} (hd : decode (jm_b i) pc = .ok (.astore_n 0, 1)) (hn : Nat.blt 0 lv.length = true) (hlv : jx_set lv 0 (.ref x) = lv') (k : jx_Ev d bc bs i (pc + 1) lv' st h Q) : jx_Ev d bc bs i pc lv (.ref x :: st) h Q := je_astore0 hd hn (by rw [hlv]; exact k)
theorem ju_istore1 {x : Int32} {lv' : List (Option Value)} (hd : decode (jm_b i) pc = .ok (.istore_n 1, 1)) (hn : Nat.blt 1 lv.length = true) (hlv : jx_set lv 1 (.int x) = lv') (k : jx_Ev d bc bs i (pc + 1) lv' st h Q) : jx_Ev d bc bs i pc lv (.int x :: st) h Q := je_istore1 hd hn (by rw [hlv]; exact k)
theorem ju_astore1 {x : Nat} {lv' : List (Option Value)} (hd : decode (jm_b i) pc = .ok (.astore_n 1, 1)) (hn : Nat.blt 1 lv.length = true) (hlv : jx_set lv 1 (.ref x) = lv') (k : jx_Ev d bc bs i (pc + 1) lv' st h Q) : jx_Ev d bc bs i pc lv (.ref x :: st) h Q := je_astore1 hd hn (by rw [hlv]; exact k)
theorem ju_istore2 {x : Int32} {lv' : List (Option Value)} (hd : decode (jm_b i) pc = .ok (.istore_n 2, 1)) (hn : Nat.blt 2 lv.length = true) (hlv : jx_set lv 2 (.int x) = lv') (k : jx_Ev d bc bs i (pc + 1) lv' st h Q) : jx_Ev d bc bs i pc lv (.int x :: st) h Q := je_istore2 hd hn (by rw [hlv]; exact k)
theorem ju_astore2 {x : Nat} {lv' : List (Option Value)} (hd : decode (jm_b i) pc = .ok (.astore_n 2, 1)) (hn : Nat.blt 2 lv.length = true) (hlv : jx_set lv 2 (.ref x) = lv') (k : jx_Ev d bc bs i (pc + 1) lv' st h Q) : jx_Ev d bc bs i pc lv (.ref x :: st) h Q := je_astore2 hd hn (by rw [hlv]; exact k)
theorem ju_istore3 {x : Int32} {lv' : List (Option Value)} (hd : decode (jm_b i) pc = .ok (.istore_n 3, 1)) (hn : Nat.blt 3 lv.length = true) (hlv : jx_set lv 3 (.int x) = lv') (k : jx_Ev d bc bs i (pc + 1) lv' st h Q) : jx_Ev d bc bs i pc lv (.int x :: st) h Q := je_istore3 hd hn (by rw [hlv]; exact k)
theorem ju_astore3 {x : Nat} {lv' : List (Option Value)} (hd : decode (jm_b i) pc = .ok (.astore_n 3, 1)) (hn : Nat.blt 3 lv.length = true) (hlv : jx_set lv 3 (.ref x) = lv') (k : jx_Ev d bc bs i (pc + 1) lv' st h Q) : jx_Ev d bc bs i pc lv (.ref x :: st) h Q := je_astore3 hd hn (by rw [hlv]; exact k)
theorem ju_calls {x j n : Nat} {as st0 : List Value} {Q' : Option Value → jx_H → Prop} (hd : decode (jm_b i) pc = .ok (.invokestatic x, 3)) (hl : jx_Ls (jm_o i) x j) (hM : jx_M j n) (hn : as.length = n) (hst : st0 = as.reverse ++ st) (hs : (st.map fun v => v.category).sum ≤ 8) (t : jx_Tr d 0 0 j (as) h Q') (k : ∀ r h', Q' r h' → jx_Ev (d + 1) bc bs i (pc + 3) lv (r.toList ++ st) h' Q) : jx_Ev (d + 1) bc bs i pc lv st0 h Q := by
  have q := je_calls (bc := bc) (bs := bs) hd hl hM hn hst hs t k
  rw [Nat.zero_add, Nat.zero_add] at q
  exact q
theorem ju_callsN {x j n : Nat} {as st0 : List Value} {Q' : Option Value → jx_H → Prop} (hd : decode (jm_b i) pc = .ok (.invokestatic x, 3)) (hl : jx_LsN (jm_o i) x j) (hM : jx_M j n) (hn : as.length = n) (hst : st0 = as.reverse ++ st) (hs : (st.map fun v => v.category).sum ≤ 8) (t : jx_Tr d 0 0 j (as) h Q') (k : ∀ r h', Q' r h' → jx_Ev (d + 1) bc bs i (pc + 3) lv (r.toList ++ st) h' Q) : jx_Ev (d + 1) bc bs i pc lv st0 h Q := by
  have q := je_callsN (bc := bc) (bs := bs) hd hl hM hn hst hs t k
  rw [Nat.zero_add, Nat.zero_add] at q
  exact q
theorem ju_callv {x j n : Nat} {a : Nat} {as st0 : List Value} {Q' : Option Value → jx_H → Prop} (hd : decode (jm_b i) pc = .ok (.invokevirtual x, 3)) (hl : jx_Lv (jm_o i) x j) (hM : jx_M j n) (hn : as.length = n) (ho13 : jm_o j < 13) (ha : h.1[a]? = some (.inr (.inl (jm_o j)))) (hst : st0 = as.reverse ++ .ref a :: st) (hs : (st.map fun v => v.category).sum ≤ 8) (t : jx_Tr d 0 0 j (.ref a :: as) h Q') (k : ∀ r h', Q' r h' → jx_Ev (d + 1) bc bs i (pc + 3) lv (r.toList ++ st) h' Q) : jx_Ev (d + 1) bc bs i pc lv st0 h Q := by
  have q := je_callv (bc := bc) (bs := bs) hd hl hM hn ho13 ha hst hs t k
  rw [Nat.zero_add, Nat.zero_add] at q
  exact q
theorem ju_calli {x j n : Nat} {a : Nat} {as st0 : List Value} {Q' : Option Value → jx_H → Prop} (hd : decode (jm_b i) pc = .ok (.invokespecial x, 3)) (hl : jx_Li (jm_o i) x j) (hM : jx_M j n) (hn : as.length = n) (hst : st0 = as.reverse ++ .ref a :: st) (hs : (st.map fun v => v.category).sum ≤ 8) (t : jx_Tr d 0 0 j (.ref a :: as) h Q') (k : ∀ r h', Q' r h' → jx_Ev (d + 1) bc bs i (pc + 3) lv (r.toList ++ st) h' Q) : jx_Ev (d + 1) bc bs i pc lv st0 h Q := by
  have q := je_calli (bc := bc) (bs := bs) hd hl hM hn hst hs t k
  rw [Nat.zero_add, Nat.zero_add] at q
  exact q
theorem ju_calliN {x j n : Nat} {a : Nat} {as st0 : List Value} {Q' : Option Value → jx_H → Prop} (hd : decode (jm_b i) pc = .ok (.invokespecial x, 3)) (hl : jx_LiN (jm_o i) x j) (hM : jx_M j n) (hn : as.length = n) (hst : st0 = as.reverse ++ .ref a :: st) (hs : (st.map fun v => v.category).sum ≤ 8) (t : jx_Tr d 0 0 j (.ref a :: as) h Q') (k : ∀ r h', Q' r h' → jx_Ev (d + 1) bc bs i (pc + 3) lv (r.toList ++ st) h' Q) : jx_Ev (d + 1) bc bs i pc lv st0 h Q := by
  have q := je_calliN (bc := bc) (bs := bs) hd hl hM hn hst hs t k
  rw [Nat.zero_add, Nat.zero_add] at q
  exact q
end JU
