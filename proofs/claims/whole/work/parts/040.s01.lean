/-- the c.'s state: lengths and contents of its rows, its other ints, what was moved; the reference's: its arrays, its other ints, what was moved; the law's two result cells -/
abbrev zX : Type := (Nat → Int32) × (Nat → Nat → Int32) × (Nat → Int32) × Int64
abbrev zY : Type := (Nat → Nat → Int32) × (Nat → Int32) × Int64
abbrev zO : Type := (Nat → Int64) × (Nat → UInt64)
def xrow (X : zX) (r : Nat) (f : Nat → Int32) (l : Int32) : zX := (va_up X.1 r l, va_up X.2.1 r f, X.2.2)
def xint (X : zX) (j : Nat) (v : Int32) : zX := (X.1, X.2.1, va_up X.2.2.1 j v, X.2.2.2)
def xmv (X : zX) (v : Int64) : zX := (X.1, X.2.1, X.2.2.1, v)
def yarr (Y : zY) (j : Nat) (f : Nat → Int32) : zY := (va_up Y.1 j f, Y.2)
def yint (Y : zY) (j : Nat) (v : Int32) : zY := (Y.1, va_up Y.2.1 j v, Y.2.2)
def ymv (Y : zY) (v : Int64) : zY := (Y.1, Y.2.1, v)
def zw (X : zX) (Y : zY) (O : zO) : zWorld := [.inr (8, [.ref 1, .ref 6, .ref 11, .ref 13, .ref 15, .ref 26, .ref 57, .ref 68, .ref 73, .ref 75, .long X.2.2.2]), .inr (0, [.int 200, .ref 2, .ref 4]), .inr (4, [.ref 3, .int (X.1 0)]), .inl (0, 4, .inl (X.2.1 0)), .inr (4, [.ref 5, .int (X.1 1)]), .inl (0, 4, .inl (X.2.1 1)), .inr (0, [.int 120, .ref 7, .ref 9]), .inr (4, [.ref 8, .int (X.1 2)]), .inl (0, 4, .inl (X.2.1 2)), .inr (4, [.ref 10, .int (X.1 3)]), .inl (0, 4, .inl (X.2.1 3)), .inr (4, [.ref 12, .int (X.1 4)]), .inl (0, 4, .inl (X.2.1 4)), .inr (4, [.ref 14, .int (X.1 5)]), .inl (0, 4, .inl (X.2.1 5)), .inr (7, [.ref 16, .ref 18, .ref 20, .ref 22, .ref 24]), .inr (4, [.ref 17, .int (X.1 6)]), .inl (0, 8, .inl (X.2.1 6)), .inr (4, [.ref 19, .int (X.1 7)]), .inl (0, 8, .inl (X.2.1 7)), .inr (4, [.ref 21, .int (X.1 8)]), .inl (0, 8, .inl (X.2.1 8)), .inr (4, [.ref 23, .int (X.1 9)]), .inl (0, 8, .inl (X.2.1 9)), .inr (4, [.ref 25, .int (X.1 10)]), .inl (0, 8, .inl (X.2.1 10)), .inr (6, [.ref 27, .ref 34, .ref 49, .ref 51, .ref 53, .ref 55, .int (X.2.2.1 0), .int (X.2.2.1 1)]), .inr (1, [.ref 28, .ref 30, .ref 32]), .inr (4, [.ref 29, .int (X.1 11)]), .inl (0, 40, .inl (X.2.1 11)), .inr (4, [.ref 31, .int (X.1 12)]), .inl (0, 4, .inl (X.2.1 12)), .inr (4, [.ref 33, .int (X.1 13)]), .inl (0, 10, .inl (X.2.1 13)), .inr (5, [.ref 35, .ref 37, .ref 39, .ref 41, .ref 43, .ref 45, .ref 47]), .inr (4, [.ref 36, .int (X.1 14)]), .inl (0, 4, .inl (X.2.1 14)), .inr (4, [.ref 38, .int (X.1 15)]), .inl (0, 6, .inl (X.2.1 15)), .inr (4, [.ref 40, .int (X.1 16)]), .inl (0, 6, .inl (X.2.1 16)), .inr (4, [.ref 42, .int (X.1 17)]), .inl (0, 8, .inl (X.2.1 17)), .inr (4, [.ref 44, .int (X.1 18)]), .inl (0, 8, .inl (X.2.1 18)), .inr (4, [.ref 46, .int (X.1 19)]), .inl (0, 8, .inl (X.2.1 19)), .inr (4, [.ref 48, .int (X.1 20)]), .inl (0, 8, .inl (X.2.1 20)), .inr (4, [.ref 50, .int (X.1 21)]), .inl (0, 4, .inl (X.2.1 21)), .inr (4, [.ref 52, .int (X.1 22)]), .inl (0, 4, .inl (X.2.1 22)), .inr (4, [.ref 54, .int (X.1 23)]), .inl (0, 4, .inl (X.2.1 23)), .inr (4, [.ref 56, .int (X.1 24)]), .inl (0, 4, .inl (X.2.1 24)), .inr (2, [.ref 58, .ref 60, .ref 62, .ref 64, .ref 66, .int (X.2.2.1 2), .int (X.2.2.1 3), .int (X.2.2.1 4), .int (X.2.2.1 5)]), .inr (4, [.ref 59, .int (X.1 25)]), .inl (0, 4, .inl (X.2.1 25)), .inr (4, [.ref 61, .int (X.1 26)]), .inl (0, 4, .inl (X.2.1 26)), .inr (4, [.ref 63, .int (X.1 27)]), .inl (0, 4, .inl (X.2.1 27)), .inr (4, [.ref 65, .int (X.1 28)]), .inl (0, 4, .inl (X.2.1 28)), .inr (4, [.ref 67, .int (X.1 29)]), .inl (0, 4, .inl (X.2.1 29)), .inr (3, [.ref 69, .ref 71]), .inr (4, [.ref 70, .int (X.1 30)]), .inl (0, 4, .inl (X.2.1 30)), .inr (4, [.ref 72, .int (X.1 31)]), .inl (0, 4, .inl (X.2.1 31)), .inr (4, [.ref 74, .int (X.1 32)]), .inl (0, 10, .inl (X.2.1 32)), .inr (4, [.ref 76, .int (X.1 33)]), .inl (0, 6, .inl (X.2.1 33)), .inr (9, [.int (Y.2.1 0), .int (Y.2.1 1), .ref 78, .ref 79, .ref 80, .ref 81, .int (Y.2.1 2), .ref 82, .ref 83, .ref 84, .ref 85, .ref 86, .long Y.2.2, .ref 87, .ref 88, .ref 89, .ref 90, .ref 91, .int (Y.2.1 3), .int (Y.2.1 4), .int (Y.2.1 5), .int (Y.2.1 6), .ref 92, .ref 93]), .inl (0, 8, .inl (Y.1 0)), .inl (0, 8, .inl (Y.1 1)), .inl (0, 4, .inl (Y.1 2)), .inl (1, 4, .inl (Y.1 3)), .inl (2, 8, .inl (Y.1 4)), .inl (0, 8, .inl (Y.1 5)), .inl (0, 8, .inl (Y.1 6)), .inl (0, 8, .inl (Y.1 7)), .inl (1, 8, .inl (Y.1 8)), .inl (0, 40, .inl (Y.1 9)), .inl (0, 4, .inl (Y.1 10)), .inl (0, 4, .inl (Y.1 11)), .inl (0, 4, .inl (Y.1 12)), .inl (0, 4, .inl (Y.1 13)), .inl (0, 12, .inl (Y.1 14)), .inl (0, 4, .inl (Y.1 15)), .inl (3, 1, .inr (.inl O.1)), .inl (4, 1, .inr (.inr (.inr (.inl O.2))))]
section
variable (X : zX) (Y : zY) (O : zO)
set_option maxRecDepth 20000 in
theorem wo_x : (zw X Y O)[0]? = some (.inr (8, [.ref 1, .ref 6, .ref 11, .ref 13, .ref 15, .ref 26, .ref 57, .ref 68, .ref 73, .ref 75, .long X.2.2.2])) := rfl
set_option maxRecDepth 20000 in
theorem wo_across : (zw X Y O)[1]? = some (.inr (0, [.int 200, .ref 2, .ref 4])) := rfl
set_option maxRecDepth 20000 in
theorem wo_down : (zw X Y O)[6]? = some (.inr (0, [.int 120, .ref 7, .ref 9])) := rfl
set_option maxRecDepth 20000 in
theorem wo_wishes : (zw X Y O)[15]? = some (.inr (7, [.ref 16, .ref 18, .ref 20, .ref 22, .ref 24])) := rfl
set_option maxRecDepth 20000 in
theorem wo_tidySearch : (zw X Y O)[26]? = some (.inr (6, [.ref 27, .ref 34, .ref 49, .ref 51, .ref 53, .ref 55, .int (X.2.2.1 0), .int (X.2.2.1 1)])) := rfl
set_option maxRecDepth 20000 in
theorem wo_choices : (zw X Y O)[27]? = some (.inr (1, [.ref 28, .ref 30, .ref 32])) := rfl
set_option maxRecDepth 20000 in
theorem wo_rules : (zw X Y O)[34]? = some (.inr (5, [.ref 35, .ref 37, .ref 39, .ref 41, .ref 43, .ref 45, .ref 47])) := rfl
set_option maxRecDepth 20000 in
theorem wo_evenSearch : (zw X Y O)[57]? = some (.inr (2, [.ref 58, .ref 60, .ref 62, .ref 64, .ref 66, .int (X.2.2.1 2), .int (X.2.2.1 3), .int (X.2.2.1 4), .int (X.2.2.1 5)])) := rfl
set_option maxRecDepth 20000 in
theorem wo_nearness : (zw X Y O)[68]? = some (.inr (3, [.ref 69, .ref 71])) := rfl
set_option maxRecDepth 20000 in
theorem wr_0 : isRow (zw X Y O) 2 4 (X.2.1 0) (X.1 0) := ⟨rfl, rfl⟩
set_option maxRecDepth 20000 in
theorem wp_0 (f : Nat → Int32) (l : Int32) : zput (zw X Y O) 2 4 f l = zw (xrow X 0 f l) Y O := rfl
set_option maxRecDepth 20000 in
theorem wr_1 : isRow (zw X Y O) 4 4 (X.2.1 1) (X.1 1) := ⟨rfl, rfl⟩
set_option maxRecDepth 20000 in
theorem wp_1 (f : Nat → Int32) (l : Int32) : zput (zw X Y O) 4 4 f l = zw (xrow X 1 f l) Y O := rfl
set_option maxRecDepth 20000 in
theorem wr_2 : isRow (zw X Y O) 7 4 (X.2.1 2) (X.1 2) := ⟨rfl, rfl⟩
set_option maxRecDepth 20000 in
theorem wp_2 (f : Nat → Int32) (l : Int32) : zput (zw X Y O) 7 4 f l = zw (xrow X 2 f l) Y O := rfl
set_option maxRecDepth 20000 in
theorem wr_3 : isRow (zw X Y O) 9 4 (X.2.1 3) (X.1 3) := ⟨rfl, rfl⟩
set_option maxRecDepth 20000 in
theorem wp_3 (f : Nat → Int32) (l : Int32) : zput (zw X Y O) 9 4 f l = zw (xrow X 3 f l) Y O := rfl
set_option maxRecDepth 20000 in
theorem wr_4 : isRow (zw X Y O) 11 4 (X.2.1 4) (X.1 4) := ⟨rfl, rfl⟩
set_option maxRecDepth 20000 in
theorem wp_4 (f : Nat → Int32) (l : Int32) : zput (zw X Y O) 11 4 f l = zw (xrow X 4 f l) Y O := rfl
set_option maxRecDepth 20000 in
theorem wr_5 : isRow (zw X Y O) 13 4 (X.2.1 5) (X.1 5) := ⟨rfl, rfl⟩
set_option maxRecDepth 20000 in
theorem wp_5 (f : Nat → Int32) (l : Int32) : zput (zw X Y O) 13 4 f l = zw (xrow X 5 f l) Y O := rfl
set_option maxRecDepth 20000 in
theorem wr_6 : isRow (zw X Y O) 16 8 (X.2.1 6) (X.1 6) := ⟨rfl, rfl⟩
set_option maxRecDepth 20000 in
theorem wp_6 (f : Nat → Int32) (l : Int32) : zput (zw X Y O) 16 8 f l = zw (xrow X 6 f l) Y O := rfl
set_option maxRecDepth 20000 in
theorem wr_7 : isRow (zw X Y O) 18 8 (X.2.1 7) (X.1 7) := ⟨rfl, rfl⟩
set_option maxRecDepth 20000 in
theorem wp_7 (f : Nat → Int32) (l : Int32) : zput (zw X Y O) 18 8 f l = zw (xrow X 7 f l) Y O := rfl
set_option maxRecDepth 20000 in
theorem wr_8 : isRow (zw X Y O) 20 8 (X.2.1 8) (X.1 8) := ⟨rfl, rfl⟩
set_option maxRecDepth 20000 in
theorem wp_8 (f : Nat → Int32) (l : Int32) : zput (zw X Y O) 20 8 f l = zw (xrow X 8 f l) Y O := rfl
set_option maxRecDepth 20000 in
theorem wr_9 : isRow (zw X Y O) 22 8 (X.2.1 9) (X.1 9) := ⟨rfl, rfl⟩
set_option maxRecDepth 20000 in
theorem wp_9 (f : Nat → Int32) (l : Int32) : zput (zw X Y O) 22 8 f l = zw (xrow X 9 f l) Y O := rfl
set_option maxRecDepth 20000 in
theorem wr_10 : isRow (zw X Y O) 24 8 (X.2.1 10) (X.1 10) := ⟨rfl, rfl⟩
set_option maxRecDepth 20000 in
theorem wp_10 (f : Nat → Int32) (l : Int32) : zput (zw X Y O) 24 8 f l = zw (xrow X 10 f l) Y O := rfl
set_option maxRecDepth 20000 in
theorem wr_11 : isRow (zw X Y O) 28 40 (X.2.1 11) (X.1 11) := ⟨rfl, rfl⟩
set_option maxRecDepth 20000 in
theorem wp_11 (f : Nat → Int32) (l : Int32) : zput (zw X Y O) 28 40 f l = zw (xrow X 11 f l) Y O := rfl
set_option maxRecDepth 20000 in
theorem wr_12 : isRow (zw X Y O) 30 4 (X.2.1 12) (X.1 12) := ⟨rfl, rfl⟩
set_option maxRecDepth 20000 in
theorem wp_12 (f : Nat → Int32) (l : Int32) : zput (zw X Y O) 30 4 f l = zw (xrow X 12 f l) Y O := rfl
set_option maxRecDepth 20000 in
theorem wr_13 : isRow (zw X Y O) 32 10 (X.2.1 13) (X.1 13) := ⟨rfl, rfl⟩
set_option maxRecDepth 20000 in
theorem wp_13 (f : Nat → Int32) (l : Int32) : zput (zw X Y O) 32 10 f l = zw (xrow X 13 f l) Y O := rfl
set_option maxRecDepth 20000 in
theorem wr_14 : isRow (zw X Y O) 35 4 (X.2.1 14) (X.1 14) := ⟨rfl, rfl⟩
set_option maxRecDepth 20000 in
theorem wp_14 (f : Nat → Int32) (l : Int32) : zput (zw X Y O) 35 4 f l = zw (xrow X 14 f l) Y O := rfl
set_option maxRecDepth 20000 in
theorem wr_15 : isRow (zw X Y O) 37 6 (X.2.1 15) (X.1 15) := ⟨rfl, rfl⟩
set_option maxRecDepth 20000 in
theorem wp_15 (f : Nat → Int32) (l : Int32) : zput (zw X Y O) 37 6 f l = zw (xrow X 15 f l) Y O := rfl
set_option maxRecDepth 20000 in
theorem wr_16 : isRow (zw X Y O) 39 6 (X.2.1 16) (X.1 16) := ⟨rfl, rfl⟩
set_option maxRecDepth 20000 in
theorem wp_16 (f : Nat → Int32) (l : Int32) : zput (zw X Y O) 39 6 f l = zw (xrow X 16 f l) Y O := rfl
set_option maxRecDepth 20000 in
theorem wr_17 : isRow (zw X Y O) 41 8 (X.2.1 17) (X.1 17) := ⟨rfl, rfl⟩
set_option maxRecDepth 20000 in
theorem wp_17 (f : Nat → Int32) (l : Int32) : zput (zw X Y O) 41 8 f l = zw (xrow X 17 f l) Y O := rfl
set_option maxRecDepth 20000 in
theorem wr_18 : isRow (zw X Y O) 43 8 (X.2.1 18) (X.1 18) := ⟨rfl, rfl⟩
set_option maxRecDepth 20000 in
theorem wp_18 (f : Nat → Int32) (l : Int32) : zput (zw X Y O) 43 8 f l = zw (xrow X 18 f l) Y O := rfl
set_option maxRecDepth 20000 in
theorem wr_19 : isRow (zw X Y O) 45 8 (X.2.1 19) (X.1 19) := ⟨rfl, rfl⟩
set_option maxRecDepth 20000 in
theorem wp_19 (f : Nat → Int32) (l : Int32) : zput (zw X Y O) 45 8 f l = zw (xrow X 19 f l) Y O := rfl
set_option maxRecDepth 20000 in
theorem wr_20 : isRow (zw X Y O) 47 8 (X.2.1 20) (X.1 20) := ⟨rfl, rfl⟩
set_option maxRecDepth 20000 in
theorem wp_20 (f : Nat → Int32) (l : Int32) : zput (zw X Y O) 47 8 f l = zw (xrow X 20 f l) Y O := rfl
set_option maxRecDepth 20000 in
theorem wr_21 : isRow (zw X Y O) 49 4 (X.2.1 21) (X.1 21) := ⟨rfl, rfl⟩
set_option maxRecDepth 20000 in
theorem wp_21 (f : Nat → Int32) (l : Int32) : zput (zw X Y O) 49 4 f l = zw (xrow X 21 f l) Y O := rfl
set_option maxRecDepth 20000 in
theorem wr_22 : isRow (zw X Y O) 51 4 (X.2.1 22) (X.1 22) := ⟨rfl, rfl⟩
set_option maxRecDepth 20000 in
theorem wp_22 (f : Nat → Int32) (l : Int32) : zput (zw X Y O) 51 4 f l = zw (xrow X 22 f l) Y O := rfl
set_option maxRecDepth 20000 in
theorem wr_23 : isRow (zw X Y O) 53 4 (X.2.1 23) (X.1 23) := ⟨rfl, rfl⟩
set_option maxRecDepth 20000 in
theorem wp_23 (f : Nat → Int32) (l : Int32) : zput (zw X Y O) 53 4 f l = zw (xrow X 23 f l) Y O := rfl
set_option maxRecDepth 20000 in
theorem wr_24 : isRow (zw X Y O) 55 4 (X.2.1 24) (X.1 24) := ⟨rfl, rfl⟩
set_option maxRecDepth 20000 in
theorem wp_24 (f : Nat → Int32) (l : Int32) : zput (zw X Y O) 55 4 f l = zw (xrow X 24 f l) Y O := rfl
set_option maxRecDepth 20000 in
theorem wr_25 : isRow (zw X Y O) 58 4 (X.2.1 25) (X.1 25) := ⟨rfl, rfl⟩
set_option maxRecDepth 20000 in
theorem wp_25 (f : Nat → Int32) (l : Int32) : zput (zw X Y O) 58 4 f l = zw (xrow X 25 f l) Y O := rfl
set_option maxRecDepth 20000 in
theorem wr_26 : isRow (zw X Y O) 60 4 (X.2.1 26) (X.1 26) := ⟨rfl, rfl⟩
set_option maxRecDepth 20000 in
theorem wp_26 (f : Nat → Int32) (l : Int32) : zput (zw X Y O) 60 4 f l = zw (xrow X 26 f l) Y O := rfl
set_option maxRecDepth 20000 in
theorem wr_27 : isRow (zw X Y O) 62 4 (X.2.1 27) (X.1 27) := ⟨rfl, rfl⟩
set_option maxRecDepth 20000 in
theorem wp_27 (f : Nat → Int32) (l : Int32) : zput (zw X Y O) 62 4 f l = zw (xrow X 27 f l) Y O := rfl
set_option maxRecDepth 20000 in
theorem wr_28 : isRow (zw X Y O) 64 4 (X.2.1 28) (X.1 28) := ⟨rfl, rfl⟩
set_option maxRecDepth 20000 in
theorem wp_28 (f : Nat → Int32) (l : Int32) : zput (zw X Y O) 64 4 f l = zw (xrow X 28 f l) Y O := rfl
set_option maxRecDepth 20000 in
theorem wr_29 : isRow (zw X Y O) 66 4 (X.2.1 29) (X.1 29) := ⟨rfl, rfl⟩
set_option maxRecDepth 20000 in
theorem wp_29 (f : Nat → Int32) (l : Int32) : zput (zw X Y O) 66 4 f l = zw (xrow X 29 f l) Y O := rfl
set_option maxRecDepth 20000 in
theorem wr_30 : isRow (zw X Y O) 69 4 (X.2.1 30) (X.1 30) := ⟨rfl, rfl⟩
set_option maxRecDepth 20000 in
theorem wp_30 (f : Nat → Int32) (l : Int32) : zput (zw X Y O) 69 4 f l = zw (xrow X 30 f l) Y O := rfl
set_option maxRecDepth 20000 in
theorem wr_31 : isRow (zw X Y O) 71 4 (X.2.1 31) (X.1 31) := ⟨rfl, rfl⟩
set_option maxRecDepth 20000 in
theorem wp_31 (f : Nat → Int32) (l : Int32) : zput (zw X Y O) 71 4 f l = zw (xrow X 31 f l) Y O := rfl
set_option maxRecDepth 20000 in
theorem wr_32 : isRow (zw X Y O) 73 10 (X.2.1 32) (X.1 32) := ⟨rfl, rfl⟩
set_option maxRecDepth 20000 in
theorem wp_32 (f : Nat → Int32) (l : Int32) : zput (zw X Y O) 73 10 f l = zw (xrow X 32 f l) Y O := rfl
set_option maxRecDepth 20000 in
theorem wr_33 : isRow (zw X Y O) 75 6 (X.2.1 33) (X.1 33) := ⟨rfl, rfl⟩
set_option maxRecDepth 20000 in
theorem wp_33 (f : Nat → Int32) (l : Int32) : zput (zw X Y O) 75 6 f l = zw (xrow X 33 f l) Y O := rfl
set_option maxRecDepth 20000 in
theorem wi_0 (v : Int32) : (zw X Y O).set 26 (.inr (6, ([.ref 27, .ref 34, .ref 49, .ref 51, .ref 53, .ref 55, .int (X.2.2.1 0), .int (X.2.2.1 1)] : List Value).set 6 (.int v))) = zw (xint X 0 v) Y O := rfl
set_option maxRecDepth 20000 in
theorem wi_1 (v : Int32) : (zw X Y O).set 26 (.inr (6, ([.ref 27, .ref 34, .ref 49, .ref 51, .ref 53, .ref 55, .int (X.2.2.1 0), .int (X.2.2.1 1)] : List Value).set 7 (.int v))) = zw (xint X 1 v) Y O := rfl
set_option maxRecDepth 20000 in
theorem wi_2 (v : Int32) : (zw X Y O).set 57 (.inr (2, ([.ref 58, .ref 60, .ref 62, .ref 64, .ref 66, .int (X.2.2.1 2), .int (X.2.2.1 3), .int (X.2.2.1 4), .int (X.2.2.1 5)] : List Value).set 5 (.int v))) = zw (xint X 2 v) Y O := rfl
set_option maxRecDepth 20000 in
theorem wi_3 (v : Int32) : (zw X Y O).set 57 (.inr (2, ([.ref 58, .ref 60, .ref 62, .ref 64, .ref 66, .int (X.2.2.1 2), .int (X.2.2.1 3), .int (X.2.2.1 4), .int (X.2.2.1 5)] : List Value).set 6 (.int v))) = zw (xint X 3 v) Y O := rfl
set_option maxRecDepth 20000 in
theorem wi_4 (v : Int32) : (zw X Y O).set 57 (.inr (2, ([.ref 58, .ref 60, .ref 62, .ref 64, .ref 66, .int (X.2.2.1 2), .int (X.2.2.1 3), .int (X.2.2.1 4), .int (X.2.2.1 5)] : List Value).set 7 (.int v))) = zw (xint X 4 v) Y O := rfl
set_option maxRecDepth 20000 in
theorem wi_5 (v : Int32) : (zw X Y O).set 57 (.inr (2, ([.ref 58, .ref 60, .ref 62, .ref 64, .ref 66, .int (X.2.2.1 2), .int (X.2.2.1 3), .int (X.2.2.1 4), .int (X.2.2.1 5)] : List Value).set 8 (.int v))) = zw (xint X 5 v) Y O := rfl
set_option maxRecDepth 20000 in
theorem wmv (v : Int64) : (zw X Y O).set 0 (.inr (8, ([.ref 1, .ref 6, .ref 11, .ref 13, .ref 15, .ref 26, .ref 57, .ref 68, .ref 73, .ref 75, .long X.2.2.2] : List Value).set 10 (.long v))) = zw (xmv X v) Y O := rfl
set_option maxRecDepth 20000 in
theorem wm : (zw X Y O)[77]? = some (.inr (9, [.int (Y.2.1 0), .int (Y.2.1 1), .ref 78, .ref 79, .ref 80, .ref 81, .int (Y.2.1 2), .ref 82, .ref 83, .ref 84, .ref 85, .ref 86, .long Y.2.2, .ref 87, .ref 88, .ref 89, .ref 90, .ref 91, .int (Y.2.1 3), .int (Y.2.1 4), .int (Y.2.1 5), .int (Y.2.1 6), .ref 92, .ref 93])) := rfl
set_option maxRecDepth 20000 in
theorem wmi_thrown (v : Int32) : (zw X Y O).set 77 (.inr (9, ([.int (Y.2.1 0), .int (Y.2.1 1), .ref 78, .ref 79, .ref 80, .ref 81, .int (Y.2.1 2), .ref 82, .ref 83, .ref 84, .ref 85, .ref 86, .long Y.2.2, .ref 87, .ref 88, .ref 89, .ref 90, .ref 91, .int (Y.2.1 3), .int (Y.2.1 4), .int (Y.2.1 5), .int (Y.2.1 6), .ref 92, .ref 93] : List Value).set 0 (.int v))) = zw X (yint Y 0 v) O := rfl
set_option maxRecDepth 20000 in
theorem wmi_shapes (v : Int32) : (zw X Y O).set 77 (.inr (9, ([.int (Y.2.1 0), .int (Y.2.1 1), .ref 78, .ref 79, .ref 80, .ref 81, .int (Y.2.1 2), .ref 82, .ref 83, .ref 84, .ref 85, .ref 86, .long Y.2.2, .ref 87, .ref 88, .ref 89, .ref 90, .ref 91, .int (Y.2.1 3), .int (Y.2.1 4), .int (Y.2.1 5), .int (Y.2.1 6), .ref 92, .ref 93] : List Value).set 1 (.int v))) = zw X (yint Y 1 v) O := rfl
set_option maxRecDepth 20000 in
theorem wmi_wishes (v : Int32) : (zw X Y O).set 77 (.inr (9, ([.int (Y.2.1 0), .int (Y.2.1 1), .ref 78, .ref 79, .ref 80, .ref 81, .int (Y.2.1 2), .ref 82, .ref 83, .ref 84, .ref 85, .ref 86, .long Y.2.2, .ref 87, .ref 88, .ref 89, .ref 90, .ref 91, .int (Y.2.1 3), .int (Y.2.1 4), .int (Y.2.1 5), .int (Y.2.1 6), .ref 92, .ref 93] : List Value).set 6 (.int v))) = zw X (yint Y 2 v) O := rfl
set_option maxRecDepth 20000 in
theorem wmi_moved (v : Int64) : (zw X Y O).set 77 (.inr (9, ([.int (Y.2.1 0), .int (Y.2.1 1), .ref 78, .ref 79, .ref 80, .ref 81, .int (Y.2.1 2), .ref 82, .ref 83, .ref 84, .ref 85, .ref 86, .long Y.2.2, .ref 87, .ref 88, .ref 89, .ref 90, .ref 91, .int (Y.2.1 3), .int (Y.2.1 4), .int (Y.2.1 5), .int (Y.2.1 6), .ref 92, .ref 93] : List Value).set 12 (.long v))) = zw X (ymv Y v) O := rfl
set_option maxRecDepth 20000 in
theorem wmi_bestCost (v : Int32) : (zw X Y O).set 77 (.inr (9, ([.int (Y.2.1 0), .int (Y.2.1 1), .ref 78, .ref 79, .ref 80, .ref 81, .int (Y.2.1 2), .ref 82, .ref 83, .ref 84, .ref 85, .ref 86, .long Y.2.2, .ref 87, .ref 88, .ref 89, .ref 90, .ref 91, .int (Y.2.1 3), .int (Y.2.1 4), .int (Y.2.1 5), .int (Y.2.1 6), .ref 92, .ref 93] : List Value).set 18 (.int v))) = zw X (yint Y 3 v) O := rfl
set_option maxRecDepth 20000 in
theorem wmi_bestForce (v : Int32) : (zw X Y O).set 77 (.inr (9, ([.int (Y.2.1 0), .int (Y.2.1 1), .ref 78, .ref 79, .ref 80, .ref 81, .int (Y.2.1 2), .ref 82, .ref 83, .ref 84, .ref 85, .ref 86, .long Y.2.2, .ref 87, .ref 88, .ref 89, .ref 90, .ref 91, .int (Y.2.1 3), .int (Y.2.1 4), .int (Y.2.1 5), .int (Y.2.1 6), .ref 92, .ref 93] : List Value).set 19 (.int v))) = zw X (yint Y 4 v) O := rfl
set_option maxRecDepth 20000 in
theorem wmi_bestGap (v : Int32) : (zw X Y O).set 77 (.inr (9, ([.int (Y.2.1 0), .int (Y.2.1 1), .ref 78, .ref 79, .ref 80, .ref 81, .int (Y.2.1 2), .ref 82, .ref 83, .ref 84, .ref 85, .ref 86, .long Y.2.2, .ref 87, .ref 88, .ref 89, .ref 90, .ref 91, .int (Y.2.1 3), .int (Y.2.1 4), .int (Y.2.1 5), .int (Y.2.1 6), .ref 92, .ref 93] : List Value).set 20 (.int v))) = zw X (yint Y 5 v) O := rfl
set_option maxRecDepth 20000 in
theorem wmi_isFound (v : Int32) : (zw X Y O).set 77 (.inr (9, ([.int (Y.2.1 0), .int (Y.2.1 1), .ref 78, .ref 79, .ref 80, .ref 81, .int (Y.2.1 2), .ref 82, .ref 83, .ref 84, .ref 85, .ref 86, .long Y.2.2, .ref 87, .ref 88, .ref 89, .ref 90, .ref 91, .int (Y.2.1 3), .int (Y.2.1 4), .int (Y.2.1 5), .int (Y.2.1 6), .ref 92, .ref 93] : List Value).set 21 (.int v))) = zw X (yint Y 6 v) O := rfl
set_option maxRecDepth 20000 in
theorem wma_start : (zw X Y O)[78]? = some (.inl (0, 8, .inl (Y.1 0))) := rfl
set_option maxRecDepth 20000 in
theorem wms_start (f : Nat → Int32) : (zw X Y O).set 78 (.inl (0, 8, .inl f)) = zw X (yarr Y 0 f) O := rfl
set_option maxRecDepth 20000 in
theorem wma_size : (zw X Y O)[79]? = some (.inl (0, 8, .inl (Y.1 1))) := rfl
set_option maxRecDepth 20000 in
theorem wms_size (f : Nat → Int32) : (zw X Y O).set 79 (.inl (0, 8, .inl f)) = zw X (yarr Y 1 f) O := rfl
set_option maxRecDepth 20000 in
theorem wma_letters : (zw X Y O)[80]? = some (.inl (0, 4, .inl (Y.1 2))) := rfl
set_option maxRecDepth 20000 in
theorem wms_letters (f : Nat → Int32) : (zw X Y O).set 80 (.inl (0, 4, .inl f)) = zw X (yarr Y 2 f) O := rfl
set_option maxRecDepth 20000 in
theorem wma_isLocked : (zw X Y O)[81]? = some (.inl (1, 4, .inl (Y.1 3))) := rfl
set_option maxRecDepth 20000 in
theorem wms_isLocked (f : Nat → Int32) : (zw X Y O).set 81 (.inl (1, 4, .inl f)) = zw X (yarr Y 3 f) O := rfl
set_option maxRecDepth 20000 in
theorem wma_kind : (zw X Y O)[82]? = some (.inl (2, 8, .inl (Y.1 4))) := rfl
set_option maxRecDepth 20000 in
theorem wms_kind (f : Nat → Int32) : (zw X Y O).set 82 (.inl (2, 8, .inl f)) = zw X (yarr Y 4 f) O := rfl
set_option maxRecDepth 20000 in
theorem wma_one : (zw X Y O)[83]? = some (.inl (0, 8, .inl (Y.1 5))) := rfl
set_option maxRecDepth 20000 in
theorem wms_one (f : Nat → Int32) : (zw X Y O).set 83 (.inl (0, 8, .inl f)) = zw X (yarr Y 5 f) O := rfl
set_option maxRecDepth 20000 in
theorem wma_two : (zw X Y O)[84]? = some (.inl (0, 8, .inl (Y.1 6))) := rfl
set_option maxRecDepth 20000 in
theorem wms_two (f : Nat → Int32) : (zw X Y O).set 84 (.inl (0, 8, .inl f)) = zw X (yarr Y 6 f) O := rfl
set_option maxRecDepth 20000 in
theorem wma_force : (zw X Y O)[85]? = some (.inl (0, 8, .inl (Y.1 7))) := rfl
set_option maxRecDepth 20000 in
theorem wms_force (f : Nat → Int32) : (zw X Y O).set 85 (.inl (0, 8, .inl f)) = zw X (yarr Y 7 f) O := rfl
set_option maxRecDepth 20000 in
theorem wma_isDropped : (zw X Y O)[86]? = some (.inl (1, 8, .inl (Y.1 8))) := rfl
set_option maxRecDepth 20000 in
theorem wms_isDropped (f : Nat → Int32) : (zw X Y O).set 86 (.inl (1, 8, .inl f)) = zw X (yarr Y 8 f) O := rfl
set_option maxRecDepth 20000 in
theorem wma_snap : (zw X Y O)[87]? = some (.inl (0, 40, .inl (Y.1 9))) := rfl
set_option maxRecDepth 20000 in
theorem wms_snap (f : Nat → Int32) : (zw X Y O).set 87 (.inl (0, 40, .inl f)) = zw X (yarr Y 9 f) O := rfl
set_option maxRecDepth 20000 in
theorem wma_many : (zw X Y O)[88]? = some (.inl (0, 4, .inl (Y.1 10))) := rfl
set_option maxRecDepth 20000 in
theorem wms_many (f : Nat → Int32) : (zw X Y O).set 88 (.inl (0, 4, .inl f)) = zw X (yarr Y 10 f) O := rfl
set_option maxRecDepth 20000 in
theorem wma_tried : (zw X Y O)[89]? = some (.inl (0, 4, .inl (Y.1 11))) := rfl
set_option maxRecDepth 20000 in
theorem wms_tried (f : Nat → Int32) : (zw X Y O).set 89 (.inl (0, 4, .inl f)) = zw X (yarr Y 11 f) O := rfl
set_option maxRecDepth 20000 in
theorem wma_now : (zw X Y O)[90]? = some (.inl (0, 4, .inl (Y.1 12))) := rfl
set_option maxRecDepth 20000 in
theorem wms_now (f : Nat → Int32) : (zw X Y O).set 90 (.inl (0, 4, .inl f)) = zw X (yarr Y 12 f) O := rfl
set_option maxRecDepth 20000 in
theorem wma_best : (zw X Y O)[91]? = some (.inl (0, 4, .inl (Y.1 13))) := rfl
set_option maxRecDepth 20000 in
theorem wms_best (f : Nat → Int32) : (zw X Y O).set 91 (.inl (0, 4, .inl f)) = zw X (yarr Y 13 f) O := rfl
set_option maxRecDepth 20000 in
theorem wma_guide : (zw X Y O)[92]? = some (.inl (0, 12, .inl (Y.1 14))) := rfl
set_option maxRecDepth 20000 in
theorem wms_guide (f : Nat → Int32) : (zw X Y O).set 92 (.inl (0, 12, .inl f)) = zw X (yarr Y 14 f) O := rfl
set_option maxRecDepth 20000 in
theorem wma_row : (zw X Y O)[93]? = some (.inl (0, 4, .inl (Y.1 15))) := rfl
set_option maxRecDepth 20000 in
theorem wms_row (f : Nat → Int32) : (zw X Y O).set 93 (.inl (0, 4, .inl f)) = zw X (yarr Y 15 f) O := rfl
set_option maxRecDepth 20000 in
theorem wout : (zw X Y O)[94]? = some (.inl (3, 1, .inr (.inl O.1))) := rfl
set_option maxRecDepth 20000 in
theorem wouts (f : Nat → Int64) : (zw X Y O).set 94 (.inl (3, 1, .inr (.inl f))) = zw X Y (f, O.2) := rfl
set_option maxRecDepth 20000 in
theorem woutD : (zw X Y O)[95]? = some (.inl (4, 1, .inr (.inr (.inr (.inl O.2))))) := rfl
set_option maxRecDepth 20000 in
theorem woutDs (f : Nat → UInt64) : (zw X Y O).set 95 (.inl (4, 1, .inr (.inr (.inr (.inl f))))) = zw X Y (O.1, f) := rfl
end
