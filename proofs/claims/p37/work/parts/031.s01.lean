/- the state of the c.: lengths and contents of its rows, its other ints, what was moved; Y: what lies behind it in the world -/
abbrev zX : Type := (Nat → Int32) × (Nat → Nat → Int32) × (Nat → Int32) × Int64
abbrev zY : Type := List zCell
abbrev zO : Type := Unit
def xrow (X : zX) (r : Nat) (f : Nat → Int32) (l : Int32) : zX := (va_up X.1 r l, va_up X.2.1 r f, X.2.2)
def xint (X : zX) (j : Nat) (v : Int32) : zX := (X.1, X.2.1, va_up X.2.2.1 j v, X.2.2.2)
def xmv (X : zX) (v : Int64) : zX := (X.1, X.2.1, X.2.2.1, v)
def zw (X : zX) (Y : zY) (_ : zO) : zWorld := Sum.inr (8, [.ref 1, .ref 6, .ref 11, .ref 13, .ref 15, .ref 26, .ref 57, .ref 68, .ref 73, .ref 75, .long X.2.2.2]) :: Sum.inr (0, [.int 200, .ref 2, .ref 4]) :: Sum.inr (4, [.ref 3, .int (X.1 0)]) :: Sum.inl (0, 4, .inl (X.2.1 0)) :: Sum.inr (4, [.ref 5, .int (X.1 1)]) :: Sum.inl (0, 4, .inl (X.2.1 1)) :: Sum.inr (0, [.int 120, .ref 7, .ref 9]) :: Sum.inr (4, [.ref 8, .int (X.1 2)]) :: Sum.inl (0, 4, .inl (X.2.1 2)) :: Sum.inr (4, [.ref 10, .int (X.1 3)]) :: Sum.inl (0, 4, .inl (X.2.1 3)) :: Sum.inr (4, [.ref 12, .int (X.1 4)]) :: Sum.inl (0, 4, .inl (X.2.1 4)) :: Sum.inr (4, [.ref 14, .int (X.1 5)]) :: Sum.inl (0, 4, .inl (X.2.1 5)) :: Sum.inr (7, [.ref 16, .ref 18, .ref 20, .ref 22, .ref 24]) :: Sum.inr (4, [.ref 17, .int (X.1 6)]) :: Sum.inl (0, 8, .inl (X.2.1 6)) :: Sum.inr (4, [.ref 19, .int (X.1 7)]) :: Sum.inl (0, 8, .inl (X.2.1 7)) :: Sum.inr (4, [.ref 21, .int (X.1 8)]) :: Sum.inl (0, 8, .inl (X.2.1 8)) :: Sum.inr (4, [.ref 23, .int (X.1 9)]) :: Sum.inl (0, 8, .inl (X.2.1 9)) :: Sum.inr (4, [.ref 25, .int (X.1 10)]) :: Sum.inl (0, 8, .inl (X.2.1 10)) :: Sum.inr (6, [.ref 27, .ref 34, .ref 49, .ref 51, .ref 53, .ref 55, .int (X.2.2.1 0), .int (X.2.2.1 1)]) :: Sum.inr (1, [.ref 28, .ref 30, .ref 32]) :: Sum.inr (4, [.ref 29, .int (X.1 11)]) :: Sum.inl (0, 40, .inl (X.2.1 11)) :: Sum.inr (4, [.ref 31, .int (X.1 12)]) :: Sum.inl (0, 4, .inl (X.2.1 12)) :: Sum.inr (4, [.ref 33, .int (X.1 13)]) :: Sum.inl (0, 10, .inl (X.2.1 13)) :: Sum.inr (5, [.ref 35, .ref 37, .ref 39, .ref 41, .ref 43, .ref 45, .ref 47]) :: Sum.inr (4, [.ref 36, .int (X.1 14)]) :: Sum.inl (0, 4, .inl (X.2.1 14)) :: Sum.inr (4, [.ref 38, .int (X.1 15)]) :: Sum.inl (0, 6, .inl (X.2.1 15)) :: Sum.inr (4, [.ref 40, .int (X.1 16)]) :: Sum.inl (0, 6, .inl (X.2.1 16)) :: Sum.inr (4, [.ref 42, .int (X.1 17)]) :: Sum.inl (0, 8, .inl (X.2.1 17)) :: Sum.inr (4, [.ref 44, .int (X.1 18)]) :: Sum.inl (0, 8, .inl (X.2.1 18)) :: Sum.inr (4, [.ref 46, .int (X.1 19)]) :: Sum.inl (0, 8, .inl (X.2.1 19)) :: Sum.inr (4, [.ref 48, .int (X.1 20)]) :: Sum.inl (0, 8, .inl (X.2.1 20)) :: Sum.inr (4, [.ref 50, .int (X.1 21)]) :: Sum.inl (0, 4, .inl (X.2.1 21)) :: Sum.inr (4, [.ref 52, .int (X.1 22)]) :: Sum.inl (0, 4, .inl (X.2.1 22)) :: Sum.inr (4, [.ref 54, .int (X.1 23)]) :: Sum.inl (0, 4, .inl (X.2.1 23)) :: Sum.inr (4, [.ref 56, .int (X.1 24)]) :: Sum.inl (0, 4, .inl (X.2.1 24)) :: Sum.inr (2, [.ref 58, .ref 60, .ref 62, .ref 64, .ref 66, .int (X.2.2.1 2), .int (X.2.2.1 3), .int (X.2.2.1 4), .int (X.2.2.1 5)]) :: Sum.inr (4, [.ref 59, .int (X.1 25)]) :: Sum.inl (0, 4, .inl (X.2.1 25)) :: Sum.inr (4, [.ref 61, .int (X.1 26)]) :: Sum.inl (0, 4, .inl (X.2.1 26)) :: Sum.inr (4, [.ref 63, .int (X.1 27)]) :: Sum.inl (0, 4, .inl (X.2.1 27)) :: Sum.inr (4, [.ref 65, .int (X.1 28)]) :: Sum.inl (0, 4, .inl (X.2.1 28)) :: Sum.inr (4, [.ref 67, .int (X.1 29)]) :: Sum.inl (0, 4, .inl (X.2.1 29)) :: Sum.inr (3, [.ref 69, .ref 71]) :: Sum.inr (4, [.ref 70, .int (X.1 30)]) :: Sum.inl (0, 4, .inl (X.2.1 30)) :: Sum.inr (4, [.ref 72, .int (X.1 31)]) :: Sum.inl (0, 4, .inl (X.2.1 31)) :: Sum.inr (4, [.ref 74, .int (X.1 32)]) :: Sum.inl (0, 10, .inl (X.2.1 32)) :: Sum.inr (4, [.ref 76, .int (X.1 33)]) :: Sum.inl (0, 6, .inl (X.2.1 33)) :: Y
section
variable (X : zX) (Y : zY) (O : zO)
set_option maxRecDepth 20000 in
theorem wo_x : (zw X Y O)[0]? = some (.inr (8, [.ref 1, .ref 6, .ref 11, .ref 13, .ref 15, .ref 26, .ref 57, .ref 68, .ref 73, .ref 75, .long X.2.2.2])) := rfl
set_option maxRecDepth 20000 in
theorem wo_across : (zw X Y O)[1]? = some (.inr (0, [.int 200, .ref 2, .ref 4])) := rfl
set_option maxRecDepth 20000 in
theorem wo_down : (zw X Y O)[6]? = some (.inr (0, [.int 120, .ref 7, .ref 9])) := rfl
set_option maxRecDepth 20000 in
theorem wo_wishes : (zw X Y O)[15]? = some (.inr (7, [.ref 16, .ref 18, .ref 20, .ref 22, .ref 24])) := rfl
set_option maxRecDepth 20000 in
theorem wo_tidySearch : (zw X Y O)[26]? = some (.inr (6, [.ref 27, .ref 34, .ref 49, .ref 51, .ref 53, .ref 55, .int (X.2.2.1 0), .int (X.2.2.1 1)])) := rfl
set_option maxRecDepth 20000 in
theorem wo_choices : (zw X Y O)[27]? = some (.inr (1, [.ref 28, .ref 30, .ref 32])) := rfl
set_option maxRecDepth 20000 in
theorem wo_rules : (zw X Y O)[34]? = some (.inr (5, [.ref 35, .ref 37, .ref 39, .ref 41, .ref 43, .ref 45, .ref 47])) := rfl
set_option maxRecDepth 20000 in
theorem wo_evenSearch : (zw X Y O)[57]? = some (.inr (2, [.ref 58, .ref 60, .ref 62, .ref 64, .ref 66, .int (X.2.2.1 2), .int (X.2.2.1 3), .int (X.2.2.1 4), .int (X.2.2.1 5)])) := rfl
set_option maxRecDepth 20000 in
theorem wo_nearness : (zw X Y O)[68]? = some (.inr (3, [.ref 69, .ref 71])) := rfl
set_option maxRecDepth 20000 in
theorem wr_0 : isRow (zw X Y O) 2 4 (X.2.1 0) (X.1 0) := ⟨rfl, rfl⟩
set_option maxRecDepth 20000 in
theorem wp_0 (f : Nat → Int32) (l : Int32) : zput (zw X Y O) 2 4 f l = zw (xrow X 0 f l) Y O := rfl
set_option maxRecDepth 20000 in
theorem wr_1 : isRow (zw X Y O) 4 4 (X.2.1 1) (X.1 1) := ⟨rfl, rfl⟩
set_option maxRecDepth 20000 in
theorem wp_1 (f : Nat → Int32) (l : Int32) : zput (zw X Y O) 4 4 f l = zw (xrow X 1 f l) Y O := rfl
set_option maxRecDepth 20000 in
theorem wr_2 : isRow (zw X Y O) 7 4 (X.2.1 2) (X.1 2) := ⟨rfl, rfl⟩
set_option maxRecDepth 20000 in
theorem wp_2 (f : Nat → Int32) (l : Int32) : zput (zw X Y O) 7 4 f l = zw (xrow X 2 f l) Y O := rfl
set_option maxRecDepth 20000 in
theorem wr_3 : isRow (zw X Y O) 9 4 (X.2.1 3) (X.1 3) := ⟨rfl, rfl⟩
set_option maxRecDepth 20000 in
theorem wp_3 (f : Nat → Int32) (l : Int32) : zput (zw X Y O) 9 4 f l = zw (xrow X 3 f l) Y O := rfl
set_option maxRecDepth 20000 in
theorem wr_4 : isRow (zw X Y O) 11 4 (X.2.1 4) (X.1 4) := ⟨rfl, rfl⟩
set_option maxRecDepth 20000 in
theorem wp_4 (f : Nat → Int32) (l : Int32) : zput (zw X Y O) 11 4 f l = zw (xrow X 4 f l) Y O := rfl
set_option maxRecDepth 20000 in
theorem wr_5 : isRow (zw X Y O) 13 4 (X.2.1 5) (X.1 5) := ⟨rfl, rfl⟩
set_option maxRecDepth 20000 in
theorem wp_5 (f : Nat → Int32) (l : Int32) : zput (zw X Y O) 13 4 f l = zw (xrow X 5 f l) Y O := rfl
set_option maxRecDepth 20000 in
theorem wr_6 : isRow (zw X Y O) 16 8 (X.2.1 6) (X.1 6) := ⟨rfl, rfl⟩
set_option maxRecDepth 20000 in
theorem wp_6 (f : Nat → Int32) (l : Int32) : zput (zw X Y O) 16 8 f l = zw (xrow X 6 f l) Y O := rfl
set_option maxRecDepth 20000 in
theorem wr_7 : isRow (zw X Y O) 18 8 (X.2.1 7) (X.1 7) := ⟨rfl, rfl⟩
set_option maxRecDepth 20000 in
theorem wp_7 (f : Nat → Int32) (l : Int32) : zput (zw X Y O) 18 8 f l = zw (xrow X 7 f l) Y O := rfl
set_option maxRecDepth 20000 in
theorem wr_8 : isRow (zw X Y O) 20 8 (X.2.1 8) (X.1 8) := ⟨rfl, rfl⟩
set_option maxRecDepth 20000 in
theorem wp_8 (f : Nat → Int32) (l : Int32) : zput (zw X Y O) 20 8 f l = zw (xrow X 8 f l) Y O := rfl
set_option maxRecDepth 20000 in
theorem wr_9 : isRow (zw X Y O) 22 8 (X.2.1 9) (X.1 9) := ⟨rfl, rfl⟩
set_option maxRecDepth 20000 in
theorem wp_9 (f : Nat → Int32) (l : Int32) : zput (zw X Y O) 22 8 f l = zw (xrow X 9 f l) Y O := rfl
set_option maxRecDepth 20000 in
theorem wr_10 : isRow (zw X Y O) 24 8 (X.2.1 10) (X.1 10) := ⟨rfl, rfl⟩
set_option maxRecDepth 20000 in
theorem wp_10 (f : Nat → Int32) (l : Int32) : zput (zw X Y O) 24 8 f l = zw (xrow X 10 f l) Y O := rfl
set_option maxRecDepth 20000 in
theorem wr_11 : isRow (zw X Y O) 28 40 (X.2.1 11) (X.1 11) := ⟨rfl, rfl⟩
set_option maxRecDepth 20000 in
theorem wp_11 (f : Nat → Int32) (l : Int32) : zput (zw X Y O) 28 40 f l = zw (xrow X 11 f l) Y O := rfl
set_option maxRecDepth 20000 in
theorem wr_12 : isRow (zw X Y O) 30 4 (X.2.1 12) (X.1 12) := ⟨rfl, rfl⟩
set_option maxRecDepth 20000 in
theorem wp_12 (f : Nat → Int32) (l : Int32) : zput (zw X Y O) 30 4 f l = zw (xrow X 12 f l) Y O := rfl
set_option maxRecDepth 20000 in
theorem wr_13 : isRow (zw X Y O) 32 10 (X.2.1 13) (X.1 13) := ⟨rfl, rfl⟩
set_option maxRecDepth 20000 in
theorem wp_13 (f : Nat → Int32) (l : Int32) : zput (zw X Y O) 32 10 f l = zw (xrow X 13 f l) Y O := rfl
set_option maxRecDepth 20000 in
theorem wr_14 : isRow (zw X Y O) 35 4 (X.2.1 14) (X.1 14) := ⟨rfl, rfl⟩
set_option maxRecDepth 20000 in
theorem wp_14 (f : Nat → Int32) (l : Int32) : zput (zw X Y O) 35 4 f l = zw (xrow X 14 f l) Y O := rfl
set_option maxRecDepth 20000 in
theorem wr_15 : isRow (zw X Y O) 37 6 (X.2.1 15) (X.1 15) := ⟨rfl, rfl⟩
set_option maxRecDepth 20000 in
theorem wp_15 (f : Nat → Int32) (l : Int32) : zput (zw X Y O) 37 6 f l = zw (xrow X 15 f l) Y O := rfl
set_option maxRecDepth 20000 in
theorem wr_16 : isRow (zw X Y O) 39 6 (X.2.1 16) (X.1 16) := ⟨rfl, rfl⟩
set_option maxRecDepth 20000 in
theorem wp_16 (f : Nat → Int32) (l : Int32) : zput (zw X Y O) 39 6 f l = zw (xrow X 16 f l) Y O := rfl
set_option maxRecDepth 20000 in
theorem wr_17 : isRow (zw X Y O) 41 8 (X.2.1 17) (X.1 17) := ⟨rfl, rfl⟩
set_option maxRecDepth 20000 in
theorem wp_17 (f : Nat → Int32) (l : Int32) : zput (zw X Y O) 41 8 f l = zw (xrow X 17 f l) Y O := rfl
set_option maxRecDepth 20000 in
theorem wr_18 : isRow (zw X Y O) 43 8 (X.2.1 18) (X.1 18) := ⟨rfl, rfl⟩
set_option maxRecDepth 20000 in
theorem wp_18 (f : Nat → Int32) (l : Int32) : zput (zw X Y O) 43 8 f l = zw (xrow X 18 f l) Y O := rfl
set_option maxRecDepth 20000 in
theorem wr_19 : isRow (zw X Y O) 45 8 (X.2.1 19) (X.1 19) := ⟨rfl, rfl⟩
set_option maxRecDepth 20000 in
theorem wp_19 (f : Nat → Int32) (l : Int32) : zput (zw X Y O) 45 8 f l = zw (xrow X 19 f l) Y O := rfl
set_option maxRecDepth 20000 in
theorem wr_20 : isRow (zw X Y O) 47 8 (X.2.1 20) (X.1 20) := ⟨rfl, rfl⟩
set_option maxRecDepth 20000 in
theorem wp_20 (f : Nat → Int32) (l : Int32) : zput (zw X Y O) 47 8 f l = zw (xrow X 20 f l) Y O := rfl
set_option maxRecDepth 20000 in
theorem wr_21 : isRow (zw X Y O) 49 4 (X.2.1 21) (X.1 21) := ⟨rfl, rfl⟩
set_option maxRecDepth 20000 in
theorem wp_21 (f : Nat → Int32) (l : Int32) : zput (zw X Y O) 49 4 f l = zw (xrow X 21 f l) Y O := rfl
set_option maxRecDepth 20000 in
theorem wr_22 : isRow (zw X Y O) 51 4 (X.2.1 22) (X.1 22) := ⟨rfl, rfl⟩
set_option maxRecDepth 20000 in
theorem wp_22 (f : Nat → Int32) (l : Int32) : zput (zw X Y O) 51 4 f l = zw (xrow X 22 f l) Y O := rfl
set_option maxRecDepth 20000 in
theorem wr_23 : isRow (zw X Y O) 53 4 (X.2.1 23) (X.1 23) := ⟨rfl, rfl⟩
set_option maxRecDepth 20000 in
theorem wp_23 (f : Nat → Int32) (l : Int32) : zput (zw X Y O) 53 4 f l = zw (xrow X 23 f l) Y O := rfl
set_option maxRecDepth 20000 in
theorem wr_24 : isRow (zw X Y O) 55 4 (X.2.1 24) (X.1 24) := ⟨rfl, rfl⟩
set_option maxRecDepth 20000 in
theorem wp_24 (f : Nat → Int32) (l : Int32) : zput (zw X Y O) 55 4 f l = zw (xrow X 24 f l) Y O := rfl
set_option maxRecDepth 20000 in
theorem wr_25 : isRow (zw X Y O) 58 4 (X.2.1 25) (X.1 25) := ⟨rfl, rfl⟩
set_option maxRecDepth 20000 in
theorem wp_25 (f : Nat → Int32) (l : Int32) : zput (zw X Y O) 58 4 f l = zw (xrow X 25 f l) Y O := rfl
set_option maxRecDepth 20000 in
theorem wr_26 : isRow (zw X Y O) 60 4 (X.2.1 26) (X.1 26) := ⟨rfl, rfl⟩
set_option maxRecDepth 20000 in
theorem wp_26 (f : Nat → Int32) (l : Int32) : zput (zw X Y O) 60 4 f l = zw (xrow X 26 f l) Y O := rfl
set_option maxRecDepth 20000 in
theorem wr_27 : isRow (zw X Y O) 62 4 (X.2.1 27) (X.1 27) := ⟨rfl, rfl⟩
set_option maxRecDepth 20000 in
theorem wp_27 (f : Nat → Int32) (l : Int32) : zput (zw X Y O) 62 4 f l = zw (xrow X 27 f l) Y O := rfl
set_option maxRecDepth 20000 in
theorem wr_28 : isRow (zw X Y O) 64 4 (X.2.1 28) (X.1 28) := ⟨rfl, rfl⟩
set_option maxRecDepth 20000 in
theorem wp_28 (f : Nat → Int32) (l : Int32) : zput (zw X Y O) 64 4 f l = zw (xrow X 28 f l) Y O := rfl
set_option maxRecDepth 20000 in
theorem wr_29 : isRow (zw X Y O) 66 4 (X.2.1 29) (X.1 29) := ⟨rfl, rfl⟩
set_option maxRecDepth 20000 in
theorem wp_29 (f : Nat → Int32) (l : Int32) : zput (zw X Y O) 66 4 f l = zw (xrow X 29 f l) Y O := rfl
set_option maxRecDepth 20000 in
theorem wr_30 : isRow (zw X Y O) 69 4 (X.2.1 30) (X.1 30) := ⟨rfl, rfl⟩
set_option maxRecDepth 20000 in
theorem wp_30 (f : Nat → Int32) (l : Int32) : zput (zw X Y O) 69 4 f l = zw (xrow X 30 f l) Y O := rfl
set_option maxRecDepth 20000 in
theorem wr_31 : isRow (zw X Y O) 71 4 (X.2.1 31) (X.1 31) := ⟨rfl, rfl⟩
set_option maxRecDepth 20000 in
theorem wp_31 (f : Nat → Int32) (l : Int32) : zput (zw X Y O) 71 4 f l = zw (xrow X 31 f l) Y O := rfl
set_option maxRecDepth 20000 in
theorem wr_32 : isRow (zw X Y O) 73 10 (X.2.1 32) (X.1 32) := ⟨rfl, rfl⟩
set_option maxRecDepth 20000 in
theorem wp_32 (f : Nat → Int32) (l : Int32) : zput (zw X Y O) 73 10 f l = zw (xrow X 32 f l) Y O := rfl
set_option maxRecDepth 20000 in
theorem wr_33 : isRow (zw X Y O) 75 6 (X.2.1 33) (X.1 33) := ⟨rfl, rfl⟩
set_option maxRecDepth 20000 in
theorem wp_33 (f : Nat → Int32) (l : Int32) : zput (zw X Y O) 75 6 f l = zw (xrow X 33 f l) Y O := rfl
set_option maxRecDepth 20000 in
theorem wi_0 (v : Int32) : (zw X Y O).set 26 (.inr (6, ([.ref 27, .ref 34, .ref 49, .ref 51, .ref 53, .ref 55, .int (X.2.2.1 0), .int (X.2.2.1 1)] : List Value).set 6 (.int v))) = zw (xint X 0 v) Y O := rfl
set_option maxRecDepth 20000 in
theorem wi_1 (v : Int32) : (zw X Y O).set 26 (.inr (6, ([.ref 27, .ref 34, .ref 49, .ref 51, .ref 53, .ref 55, .int (X.2.2.1 0), .int (X.2.2.1 1)] : List Value).set 7 (.int v))) = zw (xint X 1 v) Y O := rfl
set_option maxRecDepth 20000 in
theorem wi_2 (v : Int32) : (zw X Y O).set 57 (.inr (2, ([.ref 58, .ref 60, .ref 62, .ref 64, .ref 66, .int (X.2.2.1 2), .int (X.2.2.1 3), .int (X.2.2.1 4), .int (X.2.2.1 5)] : List Value).set 5 (.int v))) = zw (xint X 2 v) Y O := rfl
set_option maxRecDepth 20000 in
theorem wi_3 (v : Int32) : (zw X Y O).set 57 (.inr (2, ([.ref 58, .ref 60, .ref 62, .ref 64, .ref 66, .int (X.2.2.1 2), .int (X.2.2.1 3), .int (X.2.2.1 4), .int (X.2.2.1 5)] : List Value).set 6 (.int v))) = zw (xint X 3 v) Y O := rfl
set_option maxRecDepth 20000 in
theorem wi_4 (v : Int32) : (zw X Y O).set 57 (.inr (2, ([.ref 58, .ref 60, .ref 62, .ref 64, .ref 66, .int (X.2.2.1 2), .int (X.2.2.1 3), .int (X.2.2.1 4), .int (X.2.2.1 5)] : List Value).set 7 (.int v))) = zw (xint X 4 v) Y O := rfl
set_option maxRecDepth 20000 in
theorem wi_5 (v : Int32) : (zw X Y O).set 57 (.inr (2, ([.ref 58, .ref 60, .ref 62, .ref 64, .ref 66, .int (X.2.2.1 2), .int (X.2.2.1 3), .int (X.2.2.1 4), .int (X.2.2.1 5)] : List Value).set 8 (.int v))) = zw (xint X 5 v) Y O := rfl
set_option maxRecDepth 20000 in
theorem wmv (v : Int64) : (zw X Y O).set 0 (.inr (8, ([.ref 1, .ref 6, .ref 11, .ref 13, .ref 15, .ref 26, .ref 57, .ref 68, .ref 73, .ref 75, .long X.2.2.2] : List Value).set 10 (.long v))) = zw (xmv X v) Y O := rfl
set_option maxRecDepth 20000 in
theorem zw_len : (zw X Y O).length = 77 + Y.length := by
  unfold zw
  simp only [List.length_cons]
  omega
set_option maxRecDepth 20000 in
theorem zw_push (c : zCell) : zw X Y O ++ [c] = zw X (Y ++ [c]) O := rfl
set_option maxRecDepth 20000 in
theorem wy_0 (a : zCell) : (zw X (a :: Y) O)[77]? = some a := rfl
set_option maxRecDepth 20000 in
theorem wy_1 (a b : zCell) : (zw X (a :: b :: Y) O)[78]? = some b := rfl
set_option maxRecDepth 20000 in
theorem wys_0 (a c : zCell) : (zw X (a :: Y) O).set 77 c = zw X (c :: Y) O := rfl
set_option maxRecDepth 20000 in
theorem wys_1 (a b c : zCell) : (zw X (a :: b :: Y) O).set 78 c = zw X (a :: c :: Y) O := rfl
end
