/-! ONE MEMORY: the class's cells 0 .. 27, the reference's 28 .. 47, the law's row 48 -/
abbrev gS : Type := (Nat → Nat → Int32) × (Nat → Nat → Int32) × (Nat → Nat → Int64)
/-- the class's 28 cells, then a tail that no method of the class sees -/
def wOf (t : gW) (S : gS) : gW := .inr (4, [.ref 1, .ref 4, .ref 14, .ref 24, .int (S.1 0 4), .int (S.1 0 5)]) ::
  .inr (1, [.ref 2, .ref 3, .int (S.1 1 2), .int (S.1 1 3)]) ::
  .inl (2, 24032, .inl (S.2.1 2)) ::
  .inl (0, 32192, .inl (S.2.1 3)) ::
  .inr (2, [.ref 5, .ref 6, .ref 10, .ref 11, .ref 12, .ref 13, .int (S.1 4 6), .int (S.1 4 7), .int (S.1 4 8), .int (S.1 4 9), .int (S.1 4 10), .int (S.1 4 11)]) ::
  .inl (1, 64, .inr (.inl (S.2.2 5))) ::
  .inr (0, [.ref 7, .ref 8, .ref 9, .int (S.1 6 3)]) ::
  .inl (0, 315, .inl (S.2.1 7)) ::
  .inl (0, 315, .inl (S.2.1 8)) ::
  .inl (1, 2520, .inr (.inl (S.2.2 9))) ::
  .inl (3, 100, .inl (S.2.1 10)) ::
  .inl (0, 800, .inl (S.2.1 11)) ::
  .inl (0, 100, .inl (S.2.1 12)) ::
  .inl (1, 100, .inr (.inl (S.2.2 13))) ::
  .inr (2, [.ref 15, .ref 16, .ref 20, .ref 21, .ref 22, .ref 23, .int (S.1 14 6), .int (S.1 14 7), .int (S.1 14 8), .int (S.1 14 9), .int (S.1 14 10), .int (S.1 14 11)]) ::
  .inl (1, 64, .inr (.inl (S.2.2 15))) ::
  .inr (0, [.ref 17, .ref 18, .ref 19, .int (S.1 16 3)]) ::
  .inl (0, 315, .inl (S.2.1 17)) ::
  .inl (0, 315, .inl (S.2.1 18)) ::
  .inl (1, 2520, .inr (.inl (S.2.2 19))) ::
  .inl (3, 100, .inl (S.2.1 20)) ::
  .inl (0, 800, .inl (S.2.1 21)) ::
  .inl (0, 100, .inl (S.2.1 22)) ::
  .inl (1, 100, .inr (.inl (S.2.2 23))) ::
  .inr (3, [.ref 25, .ref 26, .ref 27, .int (S.1 24 3)]) ::
  .inl (0, 8, .inl (S.2.1 25)) ::
  .inl (3, 8, .inl (S.2.1 26)) ::
  .inl (3, 323, .inl (S.2.1 27)) ::
  t
/-- the reference's 20 cells, then a tail -/
def rtl (S : gS) (t : gW) : gW := .inr (5, [.int (S.1 28 0), .int (S.1 28 1), .ref 29, .int (S.1 28 3), .int (S.1 28 4), .ref 30, .ref 31, .int (S.1 28 7), .int (S.1 28 8), .int (S.1 28 9), .int (S.1 28 10), .int (S.1 28 11), .ref 32, .ref 33, .int (S.1 28 14), .ref 34, .int (S.1 28 16), .ref 35, .ref 36, .int (S.1 28 19), .ref 37, .ref 38, .ref 39, .ref 40, .ref 41, .ref 42, .ref 43, .ref 44, .ref 45, .ref 46, .ref 47]) ::
  .inl (0, 24032, .inl (S.2.1 29)) ::
  .inl (0, 131072, .inl (S.2.1 30)) ::
  .inl (0, 131072, .inl (S.2.1 31)) ::
  .inl (1, 64, .inr (.inl (S.2.2 32))) ::
  .inl (0, 65536, .inl (S.2.1 33)) ::
  .inl (1, 2560, .inr (.inl (S.2.2 34))) ::
  .inl (3, 100, .inl (S.2.1 35)) ::
  .inl (0, 800, .inl (S.2.1 36)) ::
  .inl (0, 100, .inl (S.2.1 37)) ::
  .inl (1, 100, .inr (.inl (S.2.2 38))) ::
  .inl (0, 8, .inl (S.2.1 39)) ::
  .inl (3, 8, .inl (S.2.1 40)) ::
  .inl (1, 64, .inr (.inl (S.2.2 41))) ::
  .inl (0, 65536, .inl (S.2.1 42)) ::
  .inl (1, 2560, .inr (.inl (S.2.2 43))) ::
  .inl (3, 100, .inl (S.2.1 44)) ::
  .inl (0, 800, .inl (S.2.1 45)) ::
  .inl (0, 100, .inl (S.2.1 46)) ::
  .inl (1, 100, .inr (.inl (S.2.2 47))) ::
  t
/-- the class's cells as they are, the reference's 20, then a tail -/
def wRf (C : gS) (t : gW) (S : gS) : gW := wOf (rtl S t) C
def wOut (f : Nat → Int64) : gW := [.inl (1, 1, .inr (.inl f))]
def mS (S : gS) (k j : Nat) (v : Int32) : gS := (fun a b => if a = k then (if b = j then v else S.1 a b) else S.1 a b, S.2.1, S.2.2)
def mA (S : gS) (k : Nat) (f : Nat → Int32) : gS := (S.1, fun a => if a = k then f else S.2.1 a, S.2.2)
def mL (S : gS) (k : Nat) (f : Nat → Int64) : gS := (S.1, S.2.1, fun a => if a = k then f else S.2.2 a)
theorem wS_0_4 (t : gW) (S : gS) (v : Int32) : (wOf t S).set 0 (.inr (4, ([.ref 1, .ref 4, .ref 14, .ref 24, .int (S.1 0 4), .int (S.1 0 5)]).set 4 (.int v))) = wOf t (mS S 0 4 v) := rfl
theorem wS_0_5 (t : gW) (S : gS) (v : Int32) : (wOf t S).set 0 (.inr (4, ([.ref 1, .ref 4, .ref 14, .ref 24, .int (S.1 0 4), .int (S.1 0 5)]).set 5 (.int v))) = wOf t (mS S 0 5 v) := rfl
theorem wS_1_2 (t : gW) (S : gS) (v : Int32) : (wOf t S).set 1 (.inr (1, ([.ref 2, .ref 3, .int (S.1 1 2), .int (S.1 1 3)]).set 2 (.int v))) = wOf t (mS S 1 2 v) := rfl
theorem wS_1_3 (t : gW) (S : gS) (v : Int32) : (wOf t S).set 1 (.inr (1, ([.ref 2, .ref 3, .int (S.1 1 2), .int (S.1 1 3)]).set 3 (.int v))) = wOf t (mS S 1 3 v) := rfl
theorem wS_4_6 (t : gW) (S : gS) (v : Int32) : (wOf t S).set 4 (.inr (2, ([.ref 5, .ref 6, .ref 10, .ref 11, .ref 12, .ref 13, .int (S.1 4 6), .int (S.1 4 7), .int (S.1 4 8), .int (S.1 4 9), .int (S.1 4 10), .int (S.1 4 11)]).set 6 (.int v))) = wOf t (mS S 4 6 v) := rfl
theorem wS_4_7 (t : gW) (S : gS) (v : Int32) : (wOf t S).set 4 (.inr (2, ([.ref 5, .ref 6, .ref 10, .ref 11, .ref 12, .ref 13, .int (S.1 4 6), .int (S.1 4 7), .int (S.1 4 8), .int (S.1 4 9), .int (S.1 4 10), .int (S.1 4 11)]).set 7 (.int v))) = wOf t (mS S 4 7 v) := rfl
theorem wS_4_8 (t : gW) (S : gS) (v : Int32) : (wOf t S).set 4 (.inr (2, ([.ref 5, .ref 6, .ref 10, .ref 11, .ref 12, .ref 13, .int (S.1 4 6), .int (S.1 4 7), .int (S.1 4 8), .int (S.1 4 9), .int (S.1 4 10), .int (S.1 4 11)]).set 8 (.int v))) = wOf t (mS S 4 8 v) := rfl
theorem wS_4_9 (t : gW) (S : gS) (v : Int32) : (wOf t S).set 4 (.inr (2, ([.ref 5, .ref 6, .ref 10, .ref 11, .ref 12, .ref 13, .int (S.1 4 6), .int (S.1 4 7), .int (S.1 4 8), .int (S.1 4 9), .int (S.1 4 10), .int (S.1 4 11)]).set 9 (.int v))) = wOf t (mS S 4 9 v) := rfl
theorem wS_4_10 (t : gW) (S : gS) (v : Int32) : (wOf t S).set 4 (.inr (2, ([.ref 5, .ref 6, .ref 10, .ref 11, .ref 12, .ref 13, .int (S.1 4 6), .int (S.1 4 7), .int (S.1 4 8), .int (S.1 4 9), .int (S.1 4 10), .int (S.1 4 11)]).set 10 (.int v))) = wOf t (mS S 4 10 v) := rfl
theorem wS_4_11 (t : gW) (S : gS) (v : Int32) : (wOf t S).set 4 (.inr (2, ([.ref 5, .ref 6, .ref 10, .ref 11, .ref 12, .ref 13, .int (S.1 4 6), .int (S.1 4 7), .int (S.1 4 8), .int (S.1 4 9), .int (S.1 4 10), .int (S.1 4 11)]).set 11 (.int v))) = wOf t (mS S 4 11 v) := rfl
theorem wS_6_3 (t : gW) (S : gS) (v : Int32) : (wOf t S).set 6 (.inr (0, ([.ref 7, .ref 8, .ref 9, .int (S.1 6 3)]).set 3 (.int v))) = wOf t (mS S 6 3 v) := rfl
theorem wS_14_6 (t : gW) (S : gS) (v : Int32) : (wOf t S).set 14 (.inr (2, ([.ref 15, .ref 16, .ref 20, .ref 21, .ref 22, .ref 23, .int (S.1 14 6), .int (S.1 14 7), .int (S.1 14 8), .int (S.1 14 9), .int (S.1 14 10), .int (S.1 14 11)]).set 6 (.int v))) = wOf t (mS S 14 6 v) := rfl
theorem wS_14_7 (t : gW) (S : gS) (v : Int32) : (wOf t S).set 14 (.inr (2, ([.ref 15, .ref 16, .ref 20, .ref 21, .ref 22, .ref 23, .int (S.1 14 6), .int (S.1 14 7), .int (S.1 14 8), .int (S.1 14 9), .int (S.1 14 10), .int (S.1 14 11)]).set 7 (.int v))) = wOf t (mS S 14 7 v) := rfl
theorem wS_14_8 (t : gW) (S : gS) (v : Int32) : (wOf t S).set 14 (.inr (2, ([.ref 15, .ref 16, .ref 20, .ref 21, .ref 22, .ref 23, .int (S.1 14 6), .int (S.1 14 7), .int (S.1 14 8), .int (S.1 14 9), .int (S.1 14 10), .int (S.1 14 11)]).set 8 (.int v))) = wOf t (mS S 14 8 v) := rfl
theorem wS_14_9 (t : gW) (S : gS) (v : Int32) : (wOf t S).set 14 (.inr (2, ([.ref 15, .ref 16, .ref 20, .ref 21, .ref 22, .ref 23, .int (S.1 14 6), .int (S.1 14 7), .int (S.1 14 8), .int (S.1 14 9), .int (S.1 14 10), .int (S.1 14 11)]).set 9 (.int v))) = wOf t (mS S 14 9 v) := rfl
theorem wS_14_10 (t : gW) (S : gS) (v : Int32) : (wOf t S).set 14 (.inr (2, ([.ref 15, .ref 16, .ref 20, .ref 21, .ref 22, .ref 23, .int (S.1 14 6), .int (S.1 14 7), .int (S.1 14 8), .int (S.1 14 9), .int (S.1 14 10), .int (S.1 14 11)]).set 10 (.int v))) = wOf t (mS S 14 10 v) := rfl
theorem wS_14_11 (t : gW) (S : gS) (v : Int32) : (wOf t S).set 14 (.inr (2, ([.ref 15, .ref 16, .ref 20, .ref 21, .ref 22, .ref 23, .int (S.1 14 6), .int (S.1 14 7), .int (S.1 14 8), .int (S.1 14 9), .int (S.1 14 10), .int (S.1 14 11)]).set 11 (.int v))) = wOf t (mS S 14 11 v) := rfl
theorem wS_16_3 (t : gW) (S : gS) (v : Int32) : (wOf t S).set 16 (.inr (0, ([.ref 17, .ref 18, .ref 19, .int (S.1 16 3)]).set 3 (.int v))) = wOf t (mS S 16 3 v) := rfl
theorem wS_24_3 (t : gW) (S : gS) (v : Int32) : (wOf t S).set 24 (.inr (3, ([.ref 25, .ref 26, .ref 27, .int (S.1 24 3)]).set 3 (.int v))) = wOf t (mS S 24 3 v) := rfl
theorem wS_28_0 (C : gS) (t : gW) (S : gS) (v : Int32) : (wRf C t S).set 28 (.inr (5, ([.int (S.1 28 0), .int (S.1 28 1), .ref 29, .int (S.1 28 3), .int (S.1 28 4), .ref 30, .ref 31, .int (S.1 28 7), .int (S.1 28 8), .int (S.1 28 9), .int (S.1 28 10), .int (S.1 28 11), .ref 32, .ref 33, .int (S.1 28 14), .ref 34, .int (S.1 28 16), .ref 35, .ref 36, .int (S.1 28 19), .ref 37, .ref 38, .ref 39, .ref 40, .ref 41, .ref 42, .ref 43, .ref 44, .ref 45, .ref 46, .ref 47]).set 0 (.int v))) = wRf C t (mS S 28 0 v) := rfl
theorem wS_28_1 (C : gS) (t : gW) (S : gS) (v : Int32) : (wRf C t S).set 28 (.inr (5, ([.int (S.1 28 0), .int (S.1 28 1), .ref 29, .int (S.1 28 3), .int (S.1 28 4), .ref 30, .ref 31, .int (S.1 28 7), .int (S.1 28 8), .int (S.1 28 9), .int (S.1 28 10), .int (S.1 28 11), .ref 32, .ref 33, .int (S.1 28 14), .ref 34, .int (S.1 28 16), .ref 35, .ref 36, .int (S.1 28 19), .ref 37, .ref 38, .ref 39, .ref 40, .ref 41, .ref 42, .ref 43, .ref 44, .ref 45, .ref 46, .ref 47]).set 1 (.int v))) = wRf C t (mS S 28 1 v) := rfl
theorem wS_28_3 (C : gS) (t : gW) (S : gS) (v : Int32) : (wRf C t S).set 28 (.inr (5, ([.int (S.1 28 0), .int (S.1 28 1), .ref 29, .int (S.1 28 3), .int (S.1 28 4), .ref 30, .ref 31, .int (S.1 28 7), .int (S.1 28 8), .int (S.1 28 9), .int (S.1 28 10), .int (S.1 28 11), .ref 32, .ref 33, .int (S.1 28 14), .ref 34, .int (S.1 28 16), .ref 35, .ref 36, .int (S.1 28 19), .ref 37, .ref 38, .ref 39, .ref 40, .ref 41, .ref 42, .ref 43, .ref 44, .ref 45, .ref 46, .ref 47]).set 3 (.int v))) = wRf C t (mS S 28 3 v) := rfl
theorem wS_28_4 (C : gS) (t : gW) (S : gS) (v : Int32) : (wRf C t S).set 28 (.inr (5, ([.int (S.1 28 0), .int (S.1 28 1), .ref 29, .int (S.1 28 3), .int (S.1 28 4), .ref 30, .ref 31, .int (S.1 28 7), .int (S.1 28 8), .int (S.1 28 9), .int (S.1 28 10), .int (S.1 28 11), .ref 32, .ref 33, .int (S.1 28 14), .ref 34, .int (S.1 28 16), .ref 35, .ref 36, .int (S.1 28 19), .ref 37, .ref 38, .ref 39, .ref 40, .ref 41, .ref 42, .ref 43, .ref 44, .ref 45, .ref 46, .ref 47]).set 4 (.int v))) = wRf C t (mS S 28 4 v) := rfl
theorem wS_28_7 (C : gS) (t : gW) (S : gS) (v : Int32) : (wRf C t S).set 28 (.inr (5, ([.int (S.1 28 0), .int (S.1 28 1), .ref 29, .int (S.1 28 3), .int (S.1 28 4), .ref 30, .ref 31, .int (S.1 28 7), .int (S.1 28 8), .int (S.1 28 9), .int (S.1 28 10), .int (S.1 28 11), .ref 32, .ref 33, .int (S.1 28 14), .ref 34, .int (S.1 28 16), .ref 35, .ref 36, .int (S.1 28 19), .ref 37, .ref 38, .ref 39, .ref 40, .ref 41, .ref 42, .ref 43, .ref 44, .ref 45, .ref 46, .ref 47]).set 7 (.int v))) = wRf C t (mS S 28 7 v) := rfl
theorem wS_28_8 (C : gS) (t : gW) (S : gS) (v : Int32) : (wRf C t S).set 28 (.inr (5, ([.int (S.1 28 0), .int (S.1 28 1), .ref 29, .int (S.1 28 3), .int (S.1 28 4), .ref 30, .ref 31, .int (S.1 28 7), .int (S.1 28 8), .int (S.1 28 9), .int (S.1 28 10), .int (S.1 28 11), .ref 32, .ref 33, .int (S.1 28 14), .ref 34, .int (S.1 28 16), .ref 35, .ref 36, .int (S.1 28 19), .ref 37, .ref 38, .ref 39, .ref 40, .ref 41, .ref 42, .ref 43, .ref 44, .ref 45, .ref 46, .ref 47]).set 8 (.int v))) = wRf C t (mS S 28 8 v) := rfl
theorem wS_28_9 (C : gS) (t : gW) (S : gS) (v : Int32) : (wRf C t S).set 28 (.inr (5, ([.int (S.1 28 0), .int (S.1 28 1), .ref 29, .int (S.1 28 3), .int (S.1 28 4), .ref 30, .ref 31, .int (S.1 28 7), .int (S.1 28 8), .int (S.1 28 9), .int (S.1 28 10), .int (S.1 28 11), .ref 32, .ref 33, .int (S.1 28 14), .ref 34, .int (S.1 28 16), .ref 35, .ref 36, .int (S.1 28 19), .ref 37, .ref 38, .ref 39, .ref 40, .ref 41, .ref 42, .ref 43, .ref 44, .ref 45, .ref 46, .ref 47]).set 9 (.int v))) = wRf C t (mS S 28 9 v) := rfl
theorem wS_28_10 (C : gS) (t : gW) (S : gS) (v : Int32) : (wRf C t S).set 28 (.inr (5, ([.int (S.1 28 0), .int (S.1 28 1), .ref 29, .int (S.1 28 3), .int (S.1 28 4), .ref 30, .ref 31, .int (S.1 28 7), .int (S.1 28 8), .int (S.1 28 9), .int (S.1 28 10), .int (S.1 28 11), .ref 32, .ref 33, .int (S.1 28 14), .ref 34, .int (S.1 28 16), .ref 35, .ref 36, .int (S.1 28 19), .ref 37, .ref 38, .ref 39, .ref 40, .ref 41, .ref 42, .ref 43, .ref 44, .ref 45, .ref 46, .ref 47]).set 10 (.int v))) = wRf C t (mS S 28 10 v) := rfl
theorem wS_28_11 (C : gS) (t : gW) (S : gS) (v : Int32) : (wRf C t S).set 28 (.inr (5, ([.int (S.1 28 0), .int (S.1 28 1), .ref 29, .int (S.1 28 3), .int (S.1 28 4), .ref 30, .ref 31, .int (S.1 28 7), .int (S.1 28 8), .int (S.1 28 9), .int (S.1 28 10), .int (S.1 28 11), .ref 32, .ref 33, .int (S.1 28 14), .ref 34, .int (S.1 28 16), .ref 35, .ref 36, .int (S.1 28 19), .ref 37, .ref 38, .ref 39, .ref 40, .ref 41, .ref 42, .ref 43, .ref 44, .ref 45, .ref 46, .ref 47]).set 11 (.int v))) = wRf C t (mS S 28 11 v) := rfl
theorem wS_28_14 (C : gS) (t : gW) (S : gS) (v : Int32) : (wRf C t S).set 28 (.inr (5, ([.int (S.1 28 0), .int (S.1 28 1), .ref 29, .int (S.1 28 3), .int (S.1 28 4), .ref 30, .ref 31, .int (S.1 28 7), .int (S.1 28 8), .int (S.1 28 9), .int (S.1 28 10), .int (S.1 28 11), .ref 32, .ref 33, .int (S.1 28 14), .ref 34, .int (S.1 28 16), .ref 35, .ref 36, .int (S.1 28 19), .ref 37, .ref 38, .ref 39, .ref 40, .ref 41, .ref 42, .ref 43, .ref 44, .ref 45, .ref 46, .ref 47]).set 14 (.int v))) = wRf C t (mS S 28 14 v) := rfl
theorem wS_28_16 (C : gS) (t : gW) (S : gS) (v : Int32) : (wRf C t S).set 28 (.inr (5, ([.int (S.1 28 0), .int (S.1 28 1), .ref 29, .int (S.1 28 3), .int (S.1 28 4), .ref 30, .ref 31, .int (S.1 28 7), .int (S.1 28 8), .int (S.1 28 9), .int (S.1 28 10), .int (S.1 28 11), .ref 32, .ref 33, .int (S.1 28 14), .ref 34, .int (S.1 28 16), .ref 35, .ref 36, .int (S.1 28 19), .ref 37, .ref 38, .ref 39, .ref 40, .ref 41, .ref 42, .ref 43, .ref 44, .ref 45, .ref 46, .ref 47]).set 16 (.int v))) = wRf C t (mS S 28 16 v) := rfl
theorem wS_28_19 (C : gS) (t : gW) (S : gS) (v : Int32) : (wRf C t S).set 28 (.inr (5, ([.int (S.1 28 0), .int (S.1 28 1), .ref 29, .int (S.1 28 3), .int (S.1 28 4), .ref 30, .ref 31, .int (S.1 28 7), .int (S.1 28 8), .int (S.1 28 9), .int (S.1 28 10), .int (S.1 28 11), .ref 32, .ref 33, .int (S.1 28 14), .ref 34, .int (S.1 28 16), .ref 35, .ref 36, .int (S.1 28 19), .ref 37, .ref 38, .ref 39, .ref 40, .ref 41, .ref 42, .ref 43, .ref 44, .ref 45, .ref 46, .ref 47]).set 19 (.int v))) = wRf C t (mS S 28 19 v) := rfl
theorem wA_2 (t : gW) (S : gS) (f : Nat → Int32) : (wOf t S).set 2 (.inl (2, 24032, .inl f)) = wOf t (mA S 2 f) := rfl
theorem wA_3 (t : gW) (S : gS) (f : Nat → Int32) : (wOf t S).set 3 (.inl (0, 32192, .inl f)) = wOf t (mA S 3 f) := rfl
theorem wA_5 (t : gW) (S : gS) (f : Nat → Int64) : (wOf t S).set 5 (.inl (1, 64, .inr (.inl f))) = wOf t (mL S 5 f) := rfl
theorem wA_7 (t : gW) (S : gS) (f : Nat → Int32) : (wOf t S).set 7 (.inl (0, 315, .inl f)) = wOf t (mA S 7 f) := rfl
theorem wA_8 (t : gW) (S : gS) (f : Nat → Int32) : (wOf t S).set 8 (.inl (0, 315, .inl f)) = wOf t (mA S 8 f) := rfl
theorem wA_9 (t : gW) (S : gS) (f : Nat → Int64) : (wOf t S).set 9 (.inl (1, 2520, .inr (.inl f))) = wOf t (mL S 9 f) := rfl
theorem wA_10 (t : gW) (S : gS) (f : Nat → Int32) : (wOf t S).set 10 (.inl (3, 100, .inl f)) = wOf t (mA S 10 f) := rfl
theorem wA_11 (t : gW) (S : gS) (f : Nat → Int32) : (wOf t S).set 11 (.inl (0, 800, .inl f)) = wOf t (mA S 11 f) := rfl
theorem wA_12 (t : gW) (S : gS) (f : Nat → Int32) : (wOf t S).set 12 (.inl (0, 100, .inl f)) = wOf t (mA S 12 f) := rfl
theorem wA_13 (t : gW) (S : gS) (f : Nat → Int64) : (wOf t S).set 13 (.inl (1, 100, .inr (.inl f))) = wOf t (mL S 13 f) := rfl
theorem wA_15 (t : gW) (S : gS) (f : Nat → Int64) : (wOf t S).set 15 (.inl (1, 64, .inr (.inl f))) = wOf t (mL S 15 f) := rfl
theorem wA_17 (t : gW) (S : gS) (f : Nat → Int32) : (wOf t S).set 17 (.inl (0, 315, .inl f)) = wOf t (mA S 17 f) := rfl
theorem wA_18 (t : gW) (S : gS) (f : Nat → Int32) : (wOf t S).set 18 (.inl (0, 315, .inl f)) = wOf t (mA S 18 f) := rfl
theorem wA_19 (t : gW) (S : gS) (f : Nat → Int64) : (wOf t S).set 19 (.inl (1, 2520, .inr (.inl f))) = wOf t (mL S 19 f) := rfl
theorem wA_20 (t : gW) (S : gS) (f : Nat → Int32) : (wOf t S).set 20 (.inl (3, 100, .inl f)) = wOf t (mA S 20 f) := rfl
theorem wA_21 (t : gW) (S : gS) (f : Nat → Int32) : (wOf t S).set 21 (.inl (0, 800, .inl f)) = wOf t (mA S 21 f) := rfl
theorem wA_22 (t : gW) (S : gS) (f : Nat → Int32) : (wOf t S).set 22 (.inl (0, 100, .inl f)) = wOf t (mA S 22 f) := rfl
theorem wA_23 (t : gW) (S : gS) (f : Nat → Int64) : (wOf t S).set 23 (.inl (1, 100, .inr (.inl f))) = wOf t (mL S 23 f) := rfl
theorem wA_25 (t : gW) (S : gS) (f : Nat → Int32) : (wOf t S).set 25 (.inl (0, 8, .inl f)) = wOf t (mA S 25 f) := rfl
theorem wA_26 (t : gW) (S : gS) (f : Nat → Int32) : (wOf t S).set 26 (.inl (3, 8, .inl f)) = wOf t (mA S 26 f) := rfl
theorem wA_27 (t : gW) (S : gS) (f : Nat → Int32) : (wOf t S).set 27 (.inl (3, 323, .inl f)) = wOf t (mA S 27 f) := rfl
theorem wA_29 (C : gS) (t : gW) (S : gS) (f : Nat → Int32) : (wRf C t S).set 29 (.inl (0, 24032, .inl f)) = wRf C t (mA S 29 f) := rfl
theorem wA_30 (C : gS) (t : gW) (S : gS) (f : Nat → Int32) : (wRf C t S).set 30 (.inl (0, 131072, .inl f)) = wRf C t (mA S 30 f) := rfl
theorem wA_31 (C : gS) (t : gW) (S : gS) (f : Nat → Int32) : (wRf C t S).set 31 (.inl (0, 131072, .inl f)) = wRf C t (mA S 31 f) := rfl
theorem wA_32 (C : gS) (t : gW) (S : gS) (f : Nat → Int64) : (wRf C t S).set 32 (.inl (1, 64, .inr (.inl f))) = wRf C t (mL S 32 f) := rfl
theorem wA_33 (C : gS) (t : gW) (S : gS) (f : Nat → Int32) : (wRf C t S).set 33 (.inl (0, 65536, .inl f)) = wRf C t (mA S 33 f) := rfl
theorem wA_34 (C : gS) (t : gW) (S : gS) (f : Nat → Int64) : (wRf C t S).set 34 (.inl (1, 2560, .inr (.inl f))) = wRf C t (mL S 34 f) := rfl
theorem wA_35 (C : gS) (t : gW) (S : gS) (f : Nat → Int32) : (wRf C t S).set 35 (.inl (3, 100, .inl f)) = wRf C t (mA S 35 f) := rfl
theorem wA_36 (C : gS) (t : gW) (S : gS) (f : Nat → Int32) : (wRf C t S).set 36 (.inl (0, 800, .inl f)) = wRf C t (mA S 36 f) := rfl
theorem wA_37 (C : gS) (t : gW) (S : gS) (f : Nat → Int32) : (wRf C t S).set 37 (.inl (0, 100, .inl f)) = wRf C t (mA S 37 f) := rfl
theorem wA_38 (C : gS) (t : gW) (S : gS) (f : Nat → Int64) : (wRf C t S).set 38 (.inl (1, 100, .inr (.inl f))) = wRf C t (mL S 38 f) := rfl
theorem wA_39 (C : gS) (t : gW) (S : gS) (f : Nat → Int32) : (wRf C t S).set 39 (.inl (0, 8, .inl f)) = wRf C t (mA S 39 f) := rfl
theorem wA_40 (C : gS) (t : gW) (S : gS) (f : Nat → Int32) : (wRf C t S).set 40 (.inl (3, 8, .inl f)) = wRf C t (mA S 40 f) := rfl
theorem wA_41 (C : gS) (t : gW) (S : gS) (f : Nat → Int64) : (wRf C t S).set 41 (.inl (1, 64, .inr (.inl f))) = wRf C t (mL S 41 f) := rfl
theorem wA_42 (C : gS) (t : gW) (S : gS) (f : Nat → Int32) : (wRf C t S).set 42 (.inl (0, 65536, .inl f)) = wRf C t (mA S 42 f) := rfl
theorem wA_43 (C : gS) (t : gW) (S : gS) (f : Nat → Int64) : (wRf C t S).set 43 (.inl (1, 2560, .inr (.inl f))) = wRf C t (mL S 43 f) := rfl
theorem wA_44 (C : gS) (t : gW) (S : gS) (f : Nat → Int32) : (wRf C t S).set 44 (.inl (3, 100, .inl f)) = wRf C t (mA S 44 f) := rfl
theorem wA_45 (C : gS) (t : gW) (S : gS) (f : Nat → Int32) : (wRf C t S).set 45 (.inl (0, 800, .inl f)) = wRf C t (mA S 45 f) := rfl
theorem wA_46 (C : gS) (t : gW) (S : gS) (f : Nat → Int32) : (wRf C t S).set 46 (.inl (0, 100, .inl f)) = wRf C t (mA S 46 f) := rfl
theorem wA_47 (C : gS) (t : gW) (S : gS) (f : Nat → Int64) : (wRf C t S).set 47 (.inl (1, 100, .inr (.inl f))) = wRf C t (mL S 47 f) := rfl
section GP
variable {X : gXs} {M : gM} {d : Nat × Nat} {pc : Nat} {ls : List (Option Value)} {st : List Value} {w : gW} {k n : Nat} {Q : gR → gW → Prop}
theorem p_put {a index ci j : Nat} {fs : List Value} {v : Value} {ty : FieldType} {w' : gW} (hd : decode M.2.1 pc = .ok (.putfield index, 3)) (hf : gFp M.1.cls index ci j ty) (he : w[a]? = some (.inr (ci, fs))) (hl : j < fs.length) (hn : ∀ κ, narrow ty (gv κ v) = gv κ v) (hfit : ∀ κ, fits ty (gv κ v) = true) (hw : w.set a (.inr (ci, fs.set j v)) = w') (kk : GE X M d (pc + 3) ls st w' k n Q) : GE X M d pc ls (v :: .ref a :: st) w k n Q := g_put hd hf he hl hn hfit (hw ▸ kk)
theorem p_iast {a N : Nat} {f : Nat → Int32} {i x : Int32} {w' : gW} (hd : decode M.2.1 pc = .ok (.iastore, 1)) (he : w[a]? = some (.inl (0, N, .inl f))) (hin : vp_in i N) (hw : w.set a (.inl (0, N, .inl (upd f i.toNatClampNeg x))) = w') (kk : GE X M d (pc + 1) ls st w' k n Q) : GE X M d pc ls (.int x :: .int i :: .ref a :: st) w k n Q := g_iast hd he hin (hw ▸ kk)
theorem p_last {a N : Nat} {f : Nat → Int64} {i : Int32} {x : Int64} {w' : gW} (hd : decode M.2.1 pc = .ok (.lastore, 1)) (he : w[a]? = some (.inl (1, N, .inr (.inl f)))) (hin : vp_in i N) (hw : w.set a (.inl (1, N, .inr (.inl (vp_updL f i.toNatClampNeg x)))) = w') (kk : GE X M d (pc + 1) ls st w' k n Q) : GE X M d pc ls (.long x :: .int i :: .ref a :: st) w k n Q := g_last hd he hin (hw ▸ kk)
theorem p_bast {a N : Nat} {f : Nat → Int32} {i x : Int32} {w' : gW} (hd : decode M.2.1 pc = .ok (.bastore, 1)) (he : w[a]? = some (.inl (2, N, .inl f))) (hin : vp_in i N) (hw : w.set a (.inl (2, N, .inl (upd f i.toNatClampNeg x.toInt8.toInt32))) = w') (kk : GE X M d (pc + 1) ls st w' k n Q) : GE X M d pc ls (.int x :: .int i :: .ref a :: st) w k n Q := g_bast hd he hin (hw ▸ kk)
theorem p_zast {a N : Nat} {f : Nat → Int32} {i x : Int32} {w' : gW} (hd : decode M.2.1 pc = .ok (.bastore, 1)) (he : w[a]? = some (.inl (3, N, .inl f))) (hin : vp_in i N) (hw : w.set a (.inl (3, N, .inl (upd f i.toNatClampNeg (vp_nar .boolean x)))) = w') (kk : GE X M d (pc + 1) ls st w' k n Q) : GE X M d pc ls (.int x :: .int i :: .ref a :: st) w k n Q := g_zast hd he hin (hw ▸ kk)
end GP
