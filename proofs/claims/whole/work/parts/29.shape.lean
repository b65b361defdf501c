/-! the shape of the whole world: the cells in the order in which they are made; t, dr: the yard that is told, the draft; tx: the reader's text -/
def ZZ (t dr tx : Nat) : zS := [.inr (10, [3, 0, 0, 4, t + 2, dr + 2, 18, 30, 31, 36, 41, 46, 51, 0, 56, 64, 71]), .inl (0, 600), .inr (7, [tx + 2, 0, 0, 0, 0, 0, 0, 0]), .inl (0, 0), .inr (9, [7, 8, 9, 10, 11, 0, 0, 0, 0]), .inl (0, 12), .inl (0, 144), .inl (0, 30), .inl (0, 48), .inl (0, 12), .inr (9, [13, 14, 15, 16, 17, 0, 0, 0, 0]), .inl (0, 12), .inl (0, 144), .inl (0, 30), .inl (0, 48), .inl (0, 12), .inr (5, [19, 20, 21, 22, 23, 24, 25, 26, 0, 27, 28, 29, 0, 0, 0, 0, 0]), .inl (0, 248), .inl (0, 248), .inl (0, 256), .inl (0, 2048), .inl (0, 2048), .inl (0, 8), .inl (0, 4), .inl (0, 8), .inl (0, 8), .inl (0, 8), .inl (0, 8), .inl (0, 30), .inr (6, [32, 33, 34, 35]), .inl (0, 120), .inl (0, 120), .inl (0, 12), .inl (0, 12), .inr (8, [37, 38, 39, 40, 0, 0, 0, 0, 0, 0, 0, 0, 0]), .inl (0, 16384), .inl (0, 16384), .inl (0, 16384), .inl (0, 15), .inr (1, [42, 0, 43, 44, 45]), .inl (0, 10), .inl (0, 1024), .inl (0, 1024), .inl (0, 2613), .inr (0, [47, 0, 48, 49, 0, 50, 0]), .inl (0, 20), .inl (0, 360), .inl (0, 7), .inl (0, 50), .inr (0, [52, 0, 53, 54, 0, 55, 0]), .inl (0, 20), .inl (0, 360), .inl (0, 7), .inl (0, 50), .inr (2, [57, 58, 59, 60, 61, 62, 63]), .inl (0, 96), .inl (0, 96), .inl (0, 96), .inl (0, 96), .inl (0, 12), .inl (0, 12), .inl (0, 200), .inr (3, [65, 66, 67, 0, 68, 0, 69, 70]), .inl (0, 12), .inl (0, 12), .inl (0, 9), .inl (0, 9), .inl (0, 4608), .inl (0, 512), .inr (4, [72, 73, 74]), .inl (0, 6), .inl (0, 72), .inl (0, 6), .inr (11, [76, 0, 77, 78, 79, 80, 81, 82, 83, 84, 85, 86, 0, 0, 0, 0, 0, 0, 0, 0, 0, 0, 87, 88, 89, 90, 0, 0, 0, 91, 92, 93, 94, 0, 0, 0, 0, 0, 95, 0, 0, 0, 0, 96, 0, 0, 0, 0, 97, 98, 99, 100, 101, 102, 0, 0, 0, 0, 0, 103, 104, 105, 106, 107, 108, 109, 110, 111, 112, 113, 114, 0, 0, 115, 116, 117, 0, 0, 118, 119, 120, 121, 122]), .inl (3, 5), .inl (0, 2), .inl (0, 2), .inl (0, 2), .inl (0, 2), .inl (0, 24), .inl (0, 60), .inl (0, 96), .inl (0, 288), .inl (0, 72), .inl (0, 600), .inl (0, 8), .inl (0, 8), .inl (0, 8), .inl (0, 8), .inl (0, 12), .inl (0, 12), .inl (0, 120), .inl (0, 120), .inl (1, 16384), .inl (0, 15), .inl (0, 20), .inl (0, 10), .inl (0, 10), .inl (0, 7), .inl (0, 360), .inl (0, 200), .inl (0, 20), .inl (0, 360), .inl (0, 7), .inl (0, 200), .inl (0, 12), .inl (0, 384), .inl (0, 12), .inl (0, 200), .inl (0, 12), .inl (0, 12), .inl (0, 9), .inl (0, 9), .inl (0, 8), .inl (0, 8), .inl (0, 4), .inl (0, 6), .inl (0, 72), .inl (0, 6), .inl (0, 6), .inl (0, 30), .inl (2, 1)]
theorem c0 {t dr tx : Nat} : (ZZ t dr tx)[0]? = some (.inr (10, [3, 0, 0, 4, t + 2, dr + 2, 18, 30, 31, 36, 41, 46, 51, 0, 56, 64, 71])) := rfl
theorem c1 {t dr tx : Nat} : (ZZ t dr tx)[1]? = some (.inl (0, 600)) := rfl
theorem c2 {t dr tx : Nat} : (ZZ t dr tx)[2]? = some (.inr (7, [tx + 2, 0, 0, 0, 0, 0, 0, 0])) := rfl
theorem c3 {t dr tx : Nat} : (ZZ t dr tx)[3]? = some (.inl (0, 0)) := rfl
theorem c4 {t dr tx : Nat} : (ZZ t dr tx)[4]? = some (.inr (9, [7, 8, 9, 10, 11, 0, 0, 0, 0])) := rfl
theorem c5 {t dr tx : Nat} : (ZZ t dr tx)[5]? = some (.inl (0, 12)) := rfl
theorem c6 {t dr tx : Nat} : (ZZ t dr tx)[6]? = some (.inl (0, 144)) := rfl
theorem c7 {t dr tx : Nat} : (ZZ t dr tx)[7]? = some (.inl (0, 30)) := rfl
theorem c8 {t dr tx : Nat} : (ZZ t dr tx)[8]? = some (.inl (0, 48)) := rfl
theorem c9 {t dr tx : Nat} : (ZZ t dr tx)[9]? = some (.inl (0, 12)) := rfl
theorem c10 {t dr tx : Nat} : (ZZ t dr tx)[10]? = some (.inr (9, [13, 14, 15, 16, 17, 0, 0, 0, 0])) := rfl
theorem c11 {t dr tx : Nat} : (ZZ t dr tx)[11]? = some (.inl (0, 12)) := rfl
theorem c12 {t dr tx : Nat} : (ZZ t dr tx)[12]? = some (.inl (0, 144)) := rfl
theorem c13 {t dr tx : Nat} : (ZZ t dr tx)[13]? = some (.inl (0, 30)) := rfl
theorem c14 {t dr tx : Nat} : (ZZ t dr tx)[14]? = some (.inl (0, 48)) := rfl
theorem c15 {t dr tx : Nat} : (ZZ t dr tx)[15]? = some (.inl (0, 12)) := rfl
theorem c16 {t dr tx : Nat} : (ZZ t dr tx)[16]? = some (.inr (5, [19, 20, 21, 22, 23, 24, 25, 26, 0, 27, 28, 29, 0, 0, 0, 0, 0])) := rfl
theorem c17 {t dr tx : Nat} : (ZZ t dr tx)[17]? = some (.inl (0, 248)) := rfl
theorem c18 {t dr tx : Nat} : (ZZ t dr tx)[18]? = some (.inl (0, 248)) := rfl
theorem c19 {t dr tx : Nat} : (ZZ t dr tx)[19]? = some (.inl (0, 256)) := rfl
theorem c20 {t dr tx : Nat} : (ZZ t dr tx)[20]? = some (.inl (0, 2048)) := rfl
theorem c21 {t dr tx : Nat} : (ZZ t dr tx)[21]? = some (.inl (0, 2048)) := rfl
theorem c22 {t dr tx : Nat} : (ZZ t dr tx)[22]? = some (.inl (0, 8)) := rfl
theorem c23 {t dr tx : Nat} : (ZZ t dr tx)[23]? = some (.inl (0, 4)) := rfl
theorem c24 {t dr tx : Nat} : (ZZ t dr tx)[24]? = some (.inl (0, 8)) := rfl
theorem c25 {t dr tx : Nat} : (ZZ t dr tx)[25]? = some (.inl (0, 8)) := rfl
theorem c26 {t dr tx : Nat} : (ZZ t dr tx)[26]? = some (.inl (0, 8)) := rfl
theorem c27 {t dr tx : Nat} : (ZZ t dr tx)[27]? = some (.inl (0, 8)) := rfl
theorem c28 {t dr tx : Nat} : (ZZ t dr tx)[28]? = some (.inl (0, 30)) := rfl
theorem c29 {t dr tx : Nat} : (ZZ t dr tx)[29]? = some (.inr (6, [32, 33, 34, 35])) := rfl
theorem c30 {t dr tx : Nat} : (ZZ t dr tx)[30]? = some (.inl (0, 120)) := rfl
theorem c31 {t dr tx : Nat} : (ZZ t dr tx)[31]? = some (.inl (0, 120)) := rfl
theorem c32 {t dr tx : Nat} : (ZZ t dr tx)[32]? = some (.inl (0, 12)) := rfl
theorem c33 {t dr tx : Nat} : (ZZ t dr tx)[33]? = some (.inl (0, 12)) := rfl
theorem c34 {t dr tx : Nat} : (ZZ t dr tx)[34]? = some (.inr (8, [37, 38, 39, 40, 0, 0, 0, 0, 0, 0, 0, 0, 0])) := rfl
theorem c35 {t dr tx : Nat} : (ZZ t dr tx)[35]? = some (.inl (0, 16384)) := rfl
theorem c36 {t dr tx : Nat} : (ZZ t dr tx)[36]? = some (.inl (0, 16384)) := rfl
theorem c37 {t dr tx : Nat} : (ZZ t dr tx)[37]? = some (.inl (0, 16384)) := rfl
theorem c38 {t dr tx : Nat} : (ZZ t dr tx)[38]? = some (.inl (0, 15)) := rfl
theorem c39 {t dr tx : Nat} : (ZZ t dr tx)[39]? = some (.inr (1, [42, 0, 43, 44, 45])) := rfl
theorem c40 {t dr tx : Nat} : (ZZ t dr tx)[40]? = some (.inl (0, 10)) := rfl
theorem c41 {t dr tx : Nat} : (ZZ t dr tx)[41]? = some (.inl (0, 1024)) := rfl
theorem c42 {t dr tx : Nat} : (ZZ t dr tx)[42]? = some (.inl (0, 1024)) := rfl
theorem c43 {t dr tx : Nat} : (ZZ t dr tx)[43]? = some (.inl (0, 2613)) := rfl
theorem c44 {t dr tx : Nat} : (ZZ t dr tx)[44]? = some (.inr (0, [47, 0, 48, 49, 0, 50, 0])) := rfl
theorem c45 {t dr tx : Nat} : (ZZ t dr tx)[45]? = some (.inl (0, 20)) := rfl
theorem c46 {t dr tx : Nat} : (ZZ t dr tx)[46]? = some (.inl (0, 360)) := rfl
theorem c47 {t dr tx : Nat} : (ZZ t dr tx)[47]? = some (.inl (0, 7)) := rfl
theorem c48 {t dr tx : Nat} : (ZZ t dr tx)[48]? = some (.inl (0, 50)) := rfl
theorem c49 {t dr tx : Nat} : (ZZ t dr tx)[49]? = some (.inr (0, [52, 0, 53, 54, 0, 55, 0])) := rfl
theorem c50 {t dr tx : Nat} : (ZZ t dr tx)[50]? = some (.inl (0, 20)) := rfl
theorem c51 {t dr tx : Nat} : (ZZ t dr tx)[51]? = some (.inl (0, 360)) := rfl
theorem c52 {t dr tx : Nat} : (ZZ t dr tx)[52]? = some (.inl (0, 7)) := rfl
theorem c53 {t dr tx : Nat} : (ZZ t dr tx)[53]? = some (.inl (0, 50)) := rfl
theorem c54 {t dr tx : Nat} : (ZZ t dr tx)[54]? = some (.inr (2, [57, 58, 59, 60, 61, 62, 63])) := rfl
theorem c55 {t dr tx : Nat} : (ZZ t dr tx)[55]? = some (.inl (0, 96)) := rfl
theorem c56 {t dr tx : Nat} : (ZZ t dr tx)[56]? = some (.inl (0, 96)) := rfl
theorem c57 {t dr tx : Nat} : (ZZ t dr tx)[57]? = some (.inl (0, 96)) := rfl
theorem c58 {t dr tx : Nat} : (ZZ t dr tx)[58]? = some (.inl (0, 96)) := rfl
theorem c59 {t dr tx : Nat} : (ZZ t dr tx)[59]? = some (.inl (0, 12)) := rfl
theorem c60 {t dr tx : Nat} : (ZZ t dr tx)[60]? = some (.inl (0, 12)) := rfl
theorem c61 {t dr tx : Nat} : (ZZ t dr tx)[61]? = some (.inl (0, 200)) := rfl
theorem c62 {t dr tx : Nat} : (ZZ t dr tx)[62]? = some (.inr (3, [65, 66, 67, 0, 68, 0, 69, 70])) := rfl
theorem c63 {t dr tx : Nat} : (ZZ t dr tx)[63]? = some (.inl (0, 12)) := rfl
theorem c64 {t dr tx : Nat} : (ZZ t dr tx)[64]? = some (.inl (0, 12)) := rfl
theorem c65 {t dr tx : Nat} : (ZZ t dr tx)[65]? = some (.inl (0, 9)) := rfl
theorem c66 {t dr tx : Nat} : (ZZ t dr tx)[66]? = some (.inl (0, 9)) := rfl
theorem c67 {t dr tx : Nat} : (ZZ t dr tx)[67]? = some (.inl (0, 4608)) := rfl
theorem c68 {t dr tx : Nat} : (ZZ t dr tx)[68]? = some (.inl (0, 512)) := rfl
theorem c69 {t dr tx : Nat} : (ZZ t dr tx)[69]? = some (.inr (4, [72, 73, 74])) := rfl
theorem c70 {t dr tx : Nat} : (ZZ t dr tx)[70]? = some (.inl (0, 6)) := rfl
theorem c71 {t dr tx : Nat} : (ZZ t dr tx)[71]? = some (.inl (0, 72)) := rfl
theorem c72 {t dr tx : Nat} : (ZZ t dr tx)[72]? = some (.inl (0, 6)) := rfl
theorem c73 {t dr tx : Nat} : (ZZ t dr tx)[73]? = some (.inr (11, [76, 0, 77, 78, 79, 80, 81, 82, 83, 84, 85, 86, 0, 0, 0, 0, 0, 0, 0, 0, 0, 0, 87, 88, 89, 90, 0, 0, 0, 91, 92, 93, 94, 0, 0, 0, 0, 0, 95, 0, 0, 0, 0, 96, 0, 0, 0, 0, 97, 98, 99, 100, 101, 102, 0, 0, 0, 0, 0, 103, 104, 105, 106, 107, 108, 109, 110, 111, 112, 113, 114, 0, 0, 115, 116, 117, 0, 0, 118, 119, 120, 121, 122])) := rfl
theorem c74 {t dr tx : Nat} : (ZZ t dr tx)[74]? = some (.inl (3, 5)) := rfl
theorem c75 {t dr tx : Nat} : (ZZ t dr tx)[75]? = some (.inl (0, 2)) := rfl
theorem c76 {t dr tx : Nat} : (ZZ t dr tx)[76]? = some (.inl (0, 2)) := rfl
theorem c77 {t dr tx : Nat} : (ZZ t dr tx)[77]? = some (.inl (0, 2)) := rfl
theorem c78 {t dr tx : Nat} : (ZZ t dr tx)[78]? = some (.inl (0, 2)) := rfl
theorem c79 {t dr tx : Nat} : (ZZ t dr tx)[79]? = some (.inl (0, 24)) := rfl
theorem c80 {t dr tx : Nat} : (ZZ t dr tx)[80]? = some (.inl (0, 60)) := rfl
theorem c81 {t dr tx : Nat} : (ZZ t dr tx)[81]? = some (.inl (0, 96)) := rfl
theorem c82 {t dr tx : Nat} : (ZZ t dr tx)[82]? = some (.inl (0, 288)) := rfl
theorem c83 {t dr tx : Nat} : (ZZ t dr tx)[83]? = some (.inl (0, 72)) := rfl
theorem c84 {t dr tx : Nat} : (ZZ t dr tx)[84]? = some (.inl (0, 600)) := rfl
theorem c85 {t dr tx : Nat} : (ZZ t dr tx)[85]? = some (.inl (0, 8)) := rfl
theorem c86 {t dr tx : Nat} : (ZZ t dr tx)[86]? = some (.inl (0, 8)) := rfl
theorem c87 {t dr tx : Nat} : (ZZ t dr tx)[87]? = some (.inl (0, 8)) := rfl
theorem c88 {t dr tx : Nat} : (ZZ t dr tx)[88]? = some (.inl (0, 8)) := rfl
theorem c89 {t dr tx : Nat} : (ZZ t dr tx)[89]? = some (.inl (0, 12)) := rfl
theorem c90 {t dr tx : Nat} : (ZZ t dr tx)[90]? = some (.inl (0, 12)) := rfl
theorem c91 {t dr tx : Nat} : (ZZ t dr tx)[91]? = some (.inl (0, 120)) := rfl
theorem c92 {t dr tx : Nat} : (ZZ t dr tx)[92]? = some (.inl (0, 120)) := rfl
theorem c93 {t dr tx : Nat} : (ZZ t dr tx)[93]? = some (.inl (1, 16384)) := rfl
theorem c94 {t dr tx : Nat} : (ZZ t dr tx)[94]? = some (.inl (0, 15)) := rfl
theorem c95 {t dr tx : Nat} : (ZZ t dr tx)[95]? = some (.inl (0, 20)) := rfl
theorem c96 {t dr tx : Nat} : (ZZ t dr tx)[96]? = some (.inl (0, 10)) := rfl
theorem c97 {t dr tx : Nat} : (ZZ t dr tx)[97]? = some (.inl (0, 10)) := rfl
theorem c98 {t dr tx : Nat} : (ZZ t dr tx)[98]? = some (.inl (0, 7)) := rfl
theorem c99 {t dr tx : Nat} : (ZZ t dr tx)[99]? = some (.inl (0, 360)) := rfl
theorem c100 {t dr tx : Nat} : (ZZ t dr tx)[100]? = some (.inl (0, 200)) := rfl
theorem c101 {t dr tx : Nat} : (ZZ t dr tx)[101]? = some (.inl (0, 20)) := rfl
theorem c102 {t dr tx : Nat} : (ZZ t dr tx)[102]? = some (.inl (0, 360)) := rfl
theorem c103 {t dr tx : Nat} : (ZZ t dr tx)[103]? = some (.inl (0, 7)) := rfl
theorem c104 {t dr tx : Nat} : (ZZ t dr tx)[104]? = some (.inl (0, 200)) := rfl
theorem c105 {t dr tx : Nat} : (ZZ t dr tx)[105]? = some (.inl (0, 12)) := rfl
theorem c106 {t dr tx : Nat} : (ZZ t dr tx)[106]? = some (.inl (0, 384)) := rfl
theorem c107 {t dr tx : Nat} : (ZZ t dr tx)[107]? = some (.inl (0, 12)) := rfl
theorem c108 {t dr tx : Nat} : (ZZ t dr tx)[108]? = some (.inl (0, 200)) := rfl
theorem c109 {t dr tx : Nat} : (ZZ t dr tx)[109]? = some (.inl (0, 12)) := rfl
theorem c110 {t dr tx : Nat} : (ZZ t dr tx)[110]? = some (.inl (0, 12)) := rfl
theorem c111 {t dr tx : Nat} : (ZZ t dr tx)[111]? = some (.inl (0, 9)) := rfl
theorem c112 {t dr tx : Nat} : (ZZ t dr tx)[112]? = some (.inl (0, 9)) := rfl
theorem c113 {t dr tx : Nat} : (ZZ t dr tx)[113]? = some (.inl (0, 8)) := rfl
theorem c114 {t dr tx : Nat} : (ZZ t dr tx)[114]? = some (.inl (0, 8)) := rfl
theorem c115 {t dr tx : Nat} : (ZZ t dr tx)[115]? = some (.inl (0, 4)) := rfl
theorem c116 {t dr tx : Nat} : (ZZ t dr tx)[116]? = some (.inl (0, 6)) := rfl
theorem c117 {t dr tx : Nat} : (ZZ t dr tx)[117]? = some (.inl (0, 72)) := rfl
theorem c118 {t dr tx : Nat} : (ZZ t dr tx)[118]? = some (.inl (0, 6)) := rfl
theorem c119 {t dr tx : Nat} : (ZZ t dr tx)[119]? = some (.inl (0, 6)) := rfl
theorem c120 {t dr tx : Nat} : (ZZ t dr tx)[120]? = some (.inl (0, 30)) := rfl
theorem c121 {t dr tx : Nat} : (ZZ t dr tx)[121]? = some (.inl (2, 1)) := rfl
theorem cY0 {t dr tx y : Nat} (hy : y = 4 ∨ y = 10) : (ZZ t dr tx)[y]? = some (.inr (9, [y + 1 + 2, y + 2 + 2, y + 3 + 2, y + 4 + 2, y + 5 + 2, 0, 0, 0, 0])) := by rcases hy with rfl | rfl <;> rfl
theorem cY1 {t dr tx y : Nat} (hy : y = 4 ∨ y = 10) : (ZZ t dr tx)[y + 1]? = some (.inl (0, 12)) := by rcases hy with rfl | rfl <;> rfl
theorem cY2 {t dr tx y : Nat} (hy : y = 4 ∨ y = 10) : (ZZ t dr tx)[y + 2]? = some (.inl (0, 144)) := by rcases hy with rfl | rfl <;> rfl
theorem cY3 {t dr tx y : Nat} (hy : y = 4 ∨ y = 10) : (ZZ t dr tx)[y + 3]? = some (.inl (0, 30)) := by rcases hy with rfl | rfl <;> rfl
theorem cY4 {t dr tx y : Nat} (hy : y = 4 ∨ y = 10) : (ZZ t dr tx)[y + 4]? = some (.inl (0, 48)) := by rcases hy with rfl | rfl <;> rfl
theorem cY5 {t dr tx y : Nat} (hy : y = 4 ∨ y = 10) : (ZZ t dr tx)[y + 5]? = some (.inl (0, 12)) := by rcases hy with rfl | rfl <;> rfl
theorem cC0 {t dr tx o : Nat} (ho : o = 44 ∨ o = 49) : (ZZ t dr tx)[o]? = some (.inr (0, [o + 1 + 2, 0, o + 2 + 2, o + 3 + 2, 0, o + 4 + 2, 0])) := by rcases ho with rfl | rfl <;> rfl
theorem cC1 {t dr tx o : Nat} (ho : o = 44 ∨ o = 49) : (ZZ t dr tx)[o + 1]? = some (.inl (0, 20)) := by rcases ho with rfl | rfl <;> rfl
theorem cC2 {t dr tx o : Nat} (ho : o = 44 ∨ o = 49) : (ZZ t dr tx)[o + 2]? = some (.inl (0, 360)) := by rcases ho with rfl | rfl <;> rfl
theorem cC3 {t dr tx o : Nat} (ho : o = 44 ∨ o = 49) : (ZZ t dr tx)[o + 3]? = some (.inl (0, 7)) := by rcases ho with rfl | rfl <;> rfl
theorem cC4 {t dr tx o : Nat} (ho : o = 44 ∨ o = 49) : (ZZ t dr tx)[o + 4]? = some (.inl (0, 50)) := by rcases ho with rfl | rfl <;> rfl
theorem cT {t dr tx : Nat} (htx : tx = 1) : (ZZ t dr tx)[tx]? = some (.inl (0, 600)) := by subst htx; rfl
abbrev zst0 : String × String × Nat × List Int := (RX1, "X", 3000, [100, 92, 71, 38, 0, -38, -71, -92, -100, -92, -71, -38, 0, 38, 71, 92])
theorem zst0_in : zst0 ∈ zsta := List.mem_of_getElem? (i := 0) rfl
abbrev zsv0 (i : Int) : Int := zst0.2.2.2.getD i.toNat 0
abbrev zst1 : String × String × Nat × List Int := (RX1, "Y", 3001, [0, 38, 71, 92, 100, 92, 71, 38, 0, -38, -71, -92, -100, -92, -71, -38])
theorem zst1_in : zst1 ∈ zsta := List.mem_of_getElem? (i := 1) rfl
abbrev zsv1 (i : Int) : Int := zst1.2.2.2.getD i.toNat 0
abbrev zst2 : String × String × Nat × List Int := (RX12, "EAST", 3002, [100, 92, 71, 38])
theorem zst2_in : zst2 ∈ zsta := List.mem_of_getElem? (i := 2) rfl
abbrev zsv2 (i : Int) : Int := zst2.2.2.2.getD i.toNat 0
abbrev zst3 : String × String × Nat × List Int := (RX12, "NORTH", 3003, [0, 38, 71, 92])
theorem zst3_in : zst3 ∈ zsta := List.mem_of_getElem? (i := 3) rfl
abbrev zsv3 (i : Int) : Int := zst3.2.2.2.getD i.toNat 0
set_option maxRecDepth 100000 in
theorem zw_IAE : ∀ w ∈ Cond.classLink RX11 107 "java/lang/IllegalArgumentException" :: Cond.initialized "java/lang/IllegalArgumentException" :: zn_at RX11 111 "java/lang/IllegalArgumentException" 7 prog_19_method_2_code ["java/lang/RuntimeException", "java/lang/Exception"], w ∈ zTB ∨ w ∈ zthx := by decide +kernel
theorem zIAE_n {M : zM} {pc is : Nat} (d0 : decode M.2.1 pc = .ok (.new 107, 3)) (d3 : decode M.2.1 (pc + 3) = .ok (.dup, 1)) (d4 : decode M.2.1 (pc + 4) = .ok (.ldc is, 2) ∧ decode M.2.1 (pc + 6) = .ok (.invokespecial 111, 3) ∧ decode M.2.1 (pc + 9) = .ok (.athrow, 1)) (hM : M.1.cls = RX11 := by rfl) : zThS M pc "java/lang/IllegalArgumentException" false 107 is 111 := ⟨7, prog_19_method_2_code, ⟨by decide +kernel, by decide +kernel, by decide +kernel, by decide +kernel⟩, d0, d3, by simpa using d4, by decide +kernel, by rw [hM]; exact zw_IAE⟩
theorem zIAE_w {M : zM} {pc is : Nat} (d0 : decode M.2.1 pc = .ok (.new 107, 3)) (d3 : decode M.2.1 (pc + 3) = .ok (.dup, 1)) (d4 : decode M.2.1 (pc + 4) = .ok (.ldc_w is, 3) ∧ decode M.2.1 (pc + 7) = .ok (.invokespecial 111, 3) ∧ decode M.2.1 (pc + 10) = .ok (.athrow, 1)) (hM : M.1.cls = RX11 := by rfl) : zThS M pc "java/lang/IllegalArgumentException" true 107 is 111 := ⟨7, prog_19_method_2_code, ⟨by decide +kernel, by decide +kernel, by decide +kernel, by decide +kernel⟩, d0, d3, by simpa using d4, by decide +kernel, by rw [hM]; exact zw_IAE⟩
set_option maxRecDepth 100000 in
theorem zw_NSE : ∀ w ∈ Cond.classLink RX11 157 "java/util/NoSuchElementException" :: Cond.initialized "java/util/NoSuchElementException" :: zn_at RX11 161 "java/util/NoSuchElementException" 13 prog_31_method_4_code ["java/lang/RuntimeException", "java/lang/Exception"], w ∈ zTB ∨ w ∈ zthx := by decide +kernel
theorem zNSE_n {M : zM} {pc is : Nat} (d0 : decode M.2.1 pc = .ok (.new 157, 3)) (d3 : decode M.2.1 (pc + 3) = .ok (.dup, 1)) (d4 : decode M.2.1 (pc + 4) = .ok (.ldc is, 2) ∧ decode M.2.1 (pc + 6) = .ok (.invokespecial 161, 3) ∧ decode M.2.1 (pc + 9) = .ok (.athrow, 1)) (hM : M.1.cls = RX11 := by rfl) : zThS M pc "java/util/NoSuchElementException" false 157 is 161 := ⟨13, prog_31_method_4_code, ⟨by decide +kernel, by decide +kernel, by decide +kernel, by decide +kernel⟩, d0, d3, by simpa using d4, by decide +kernel, by rw [hM]; exact zw_NSE⟩
theorem zNSE_w {M : zM} {pc is : Nat} (d0 : decode M.2.1 pc = .ok (.new 157, 3)) (d3 : decode M.2.1 (pc + 3) = .ok (.dup, 1)) (d4 : decode M.2.1 (pc + 4) = .ok (.ldc_w is, 3) ∧ decode M.2.1 (pc + 7) = .ok (.invokespecial 161, 3) ∧ decode M.2.1 (pc + 10) = .ok (.athrow, 1)) (hM : M.1.cls = RX11 := by rfl) : zThS M pc "java/util/NoSuchElementException" true 157 is 161 := ⟨13, prog_31_method_4_code, ⟨by decide +kernel, by decide +kernel, by decide +kernel, by decide +kernel⟩, d0, d3, by simpa using d4, by decide +kernel, by rw [hM]; exact zw_NSE⟩
