/-! THE CLASS: its layout (117 cells, in the order in which the constructors make them) -/
def cellsX : List LK1 := [.inl 10, .inl 9, .inr (0, 200), .inl 6, .inr (0, 30), .inr (0, 30), .inr (0, 30), .inr (0, 30), .inr (0, 30), .inr (0, 30), .inl 4, .inr (0, 2), .inl 8, .inl 6, .inr (0, 30), .inr (0, 30), .inr (0, 30), .inr (0, 30), .inr (0, 30), .inr (0, 30), .inl 3, .inr (0, 8), .inr (0, 8), .inr (0, 8), .inl 2, .inr (3, 4), .inl 8, .inl 6, .inr (0, 30), .inr (0, 30), .inr (0, 30), .inr (0, 30), .inr (0, 30), .inr (0, 30), .inl 3, .inr (0, 8), .inr (0, 8), .inr (0, 8), .inl 8, .inl 6, .inr (0, 30), .inr (0, 30), .inr (0, 30), .inr (0, 30), .inr (0, 30), .inr (0, 30), .inl 3, .inr (0, 8), .inr (0, 8), .inr (0, 8), .inl 8, .inl 6, .inr (0, 30), .inr (0, 30), .inr (0, 30), .inr (0, 30), .inr (0, 30), .inr (0, 30), .inl 3, .inr (0, 8), .inr (0, 8), .inr (0, 8), .inl 8, .inl 6, .inr (0, 30), .inr (0, 30), .inr (0, 30), .inr (0, 30), .inr (0, 30), .inr (0, 30), .inl 3, .inr (0, 8), .inr (0, 8), .inr (0, 8), .inl 0, .inl 1, .inr (0, 2), .inr (1, 8), .inr (1, 8), .inr (2, 30), .inr (2, 30), .inr (1, 30), .inr (1, 30), .inr (0, 30), .inl 5, .inr (0, 30), .inr (0, 30), .inr (2, 30), .inl 7, .inl 1, .inr (0, 2), .inr (1, 8), .inr (2, 30), .inl 7, .inl 1, .inr (0, 2), .inr (1, 8), .inr (2, 30), .inl 3, .inr (0, 8), .inr (0, 8), .inr (0, 8), .inl 0, .inl 1, .inr (0, 2), .inr (1, 8), .inr (1, 8), .inr (2, 30), .inr (2, 30), .inr (1, 30), .inr (1, 30), .inr (0, 30), .inl 7, .inl 1, .inr (0, 2), .inr (1, 8), .inr (2, 30)]
def fldX : Nat → List Nat := fun c => match c with
  | 0 => [2, 0, 0, 2, 2, 0, 2, 2, 2, 2, 2, 1, 1]
  | 1 => [0, 2]
  | 2 => [0, 2]
  | 3 => [2, 2, 2]
  | 4 => [2, 2, 0, 0, 0, 2]
  | 5 => [2, 2, 2]
  | 6 => [0, 2, 2, 2, 2, 2, 2]
  | 7 => [2, 2, 0, 0, 0, 2]
  | 8 => [2, 2]
  | 9 => [2, 0]
  | 10 => [2, 2, 2, 2, 2, 2, 2, 2, 2, 0, 0, 2, 2, 2]
  | _ => []
def offX : Nat → List Nat := fun c => match c with
  | 0 => [1, 0, 0, 3, 4, 0, 5, 6, 7, 8, 9, 0, 0]
  | 1 => [0, 1]
  | 2 => [0, 1]
  | 3 => [1, 2, 3]
  | 5 => [1, 2, 3]
  | 6 => [0, 1, 2, 3, 4, 5, 6]
  | 7 => [1, 3, 0, 0, 0, 4]
  | 8 => [1, 8]
  | 9 => [1, 0]
  | 10 => [1, 3, 10, 12, 24, 74, 84, 88, 93, 0, 0, 98, 102, 112]
  | _ => []
def refX (id j : Nat) : Nat := match cellsX[id]? with
  | some (.inl c) => if c = 4 then [1, 3, 0, 0, 0, 11].getD j 0 else id + (offX c).getD j 0
  | _ => 0
def LX : Lay := (cellsX, fldX, refX)
theorem LX_lt {b : Nat} {x : LK1} (h : LX.1[b]? = some x) : b < 117 := (List.getElem?_eq_some_iff.mp h).1
theorem kX0_0 {b : Nat} (h : LX.1[b]? = some (.inl 0)) : LX.1[b + 1]? = some (.inl 1) := (by decide +kernel : ∀ b, b < 117 → cellsX[b]? = some (.inl 0) → cellsX[b + 1]? = some (.inl 1)) b (LX_lt h) h
theorem rX0_0 {b : Nat} (h : LX.1[b]? = some (.inl 0)) : LX.2.2 b 0 = b + 1 := by
  show refX b 0 = _
  unfold refX
  rw [show cellsX[b]? = some (.inl 0) from h]
  rfl
theorem kX0_3 {b : Nat} (h : LX.1[b]? = some (.inl 0)) : LX.1[b + 3]? = some (.inr (1, 8)) := (by decide +kernel : ∀ b, b < 117 → cellsX[b]? = some (.inl 0) → cellsX[b + 3]? = some (.inr (1, 8))) b (LX_lt h) h
theorem rX0_3 {b : Nat} (h : LX.1[b]? = some (.inl 0)) : LX.2.2 b 3 = b + 3 := by
  show refX b 3 = _
  unfold refX
  rw [show cellsX[b]? = some (.inl 0) from h]
  rfl
theorem kX0_4 {b : Nat} (h : LX.1[b]? = some (.inl 0)) : LX.1[b + 4]? = some (.inr (1, 8)) := (by decide +kernel : ∀ b, b < 117 → cellsX[b]? = some (.inl 0) → cellsX[b + 4]? = some (.inr (1, 8))) b (LX_lt h) h
theorem rX0_4 {b : Nat} (h : LX.1[b]? = some (.inl 0)) : LX.2.2 b 4 = b + 4 := by
  show refX b 4 = _
  unfold refX
  rw [show cellsX[b]? = some (.inl 0) from h]
  rfl
theorem kX0_6 {b : Nat} (h : LX.1[b]? = some (.inl 0)) : LX.1[b + 5]? = some (.inr (2, 30)) := (by decide +kernel : ∀ b, b < 117 → cellsX[b]? = some (.inl 0) → cellsX[b + 5]? = some (.inr (2, 30))) b (LX_lt h) h
theorem rX0_6 {b : Nat} (h : LX.1[b]? = some (.inl 0)) : LX.2.2 b 6 = b + 5 := by
  show refX b 6 = _
  unfold refX
  rw [show cellsX[b]? = some (.inl 0) from h]
  rfl
theorem kX0_7 {b : Nat} (h : LX.1[b]? = some (.inl 0)) : LX.1[b + 6]? = some (.inr (2, 30)) := (by decide +kernel : ∀ b, b < 117 → cellsX[b]? = some (.inl 0) → cellsX[b + 6]? = some (.inr (2, 30))) b (LX_lt h) h
theorem rX0_7 {b : Nat} (h : LX.1[b]? = some (.inl 0)) : LX.2.2 b 7 = b + 6 := by
  show refX b 7 = _
  unfold refX
  rw [show cellsX[b]? = some (.inl 0) from h]
  rfl
theorem kX0_8 {b : Nat} (h : LX.1[b]? = some (.inl 0)) : LX.1[b + 7]? = some (.inr (1, 30)) := (by decide +kernel : ∀ b, b < 117 → cellsX[b]? = some (.inl 0) → cellsX[b + 7]? = some (.inr (1, 30))) b (LX_lt h) h
theorem rX0_8 {b : Nat} (h : LX.1[b]? = some (.inl 0)) : LX.2.2 b 8 = b + 7 := by
  show refX b 8 = _
  unfold refX
  rw [show cellsX[b]? = some (.inl 0) from h]
  rfl
theorem kX0_9 {b : Nat} (h : LX.1[b]? = some (.inl 0)) : LX.1[b + 8]? = some (.inr (1, 30)) := (by decide +kernel : ∀ b, b < 117 → cellsX[b]? = some (.inl 0) → cellsX[b + 8]? = some (.inr (1, 30))) b (LX_lt h) h
theorem rX0_9 {b : Nat} (h : LX.1[b]? = some (.inl 0)) : LX.2.2 b 9 = b + 8 := by
  show refX b 9 = _
  unfold refX
  rw [show cellsX[b]? = some (.inl 0) from h]
  rfl
theorem kX0_10 {b : Nat} (h : LX.1[b]? = some (.inl 0)) : LX.1[b + 9]? = some (.inr (0, 30)) := (by decide +kernel : ∀ b, b < 117 → cellsX[b]? = some (.inl 0) → cellsX[b + 9]? = some (.inr (0, 30))) b (LX_lt h) h
theorem rX0_10 {b : Nat} (h : LX.1[b]? = some (.inl 0)) : LX.2.2 b 10 = b + 9 := by
  show refX b 10 = _
  unfold refX
  rw [show cellsX[b]? = some (.inl 0) from h]
  rfl
theorem kX1_1 {b : Nat} (h : LX.1[b]? = some (.inl 1)) : LX.1[b + 1]? = some (.inr (0, 2)) := (by decide +kernel : ∀ b, b < 117 → cellsX[b]? = some (.inl 1) → cellsX[b + 1]? = some (.inr (0, 2))) b (LX_lt h) h
theorem rX1_1 {b : Nat} (h : LX.1[b]? = some (.inl 1)) : LX.2.2 b 1 = b + 1 := by
  show refX b 1 = _
  unfold refX
  rw [show cellsX[b]? = some (.inl 1) from h]
  rfl
theorem kX2_1 {b : Nat} (h : LX.1[b]? = some (.inl 2)) : LX.1[b + 1]? = some (.inr (3, 4)) := (by decide +kernel : ∀ b, b < 117 → cellsX[b]? = some (.inl 2) → cellsX[b + 1]? = some (.inr (3, 4))) b (LX_lt h) h
theorem rX2_1 {b : Nat} (h : LX.1[b]? = some (.inl 2)) : LX.2.2 b 1 = b + 1 := by
  show refX b 1 = _
  unfold refX
  rw [show cellsX[b]? = some (.inl 2) from h]
  rfl
theorem kX3_0 {b : Nat} (h : LX.1[b]? = some (.inl 3)) : LX.1[b + 1]? = some (.inr (0, 8)) := (by decide +kernel : ∀ b, b < 117 → cellsX[b]? = some (.inl 3) → cellsX[b + 1]? = some (.inr (0, 8))) b (LX_lt h) h
theorem rX3_0 {b : Nat} (h : LX.1[b]? = some (.inl 3)) : LX.2.2 b 0 = b + 1 := by
  show refX b 0 = _
  unfold refX
  rw [show cellsX[b]? = some (.inl 3) from h]
  rfl
theorem kX3_1 {b : Nat} (h : LX.1[b]? = some (.inl 3)) : LX.1[b + 2]? = some (.inr (0, 8)) := (by decide +kernel : ∀ b, b < 117 → cellsX[b]? = some (.inl 3) → cellsX[b + 2]? = some (.inr (0, 8))) b (LX_lt h) h
theorem rX3_1 {b : Nat} (h : LX.1[b]? = some (.inl 3)) : LX.2.2 b 1 = b + 2 := by
  show refX b 1 = _
  unfold refX
  rw [show cellsX[b]? = some (.inl 3) from h]
  rfl
theorem kX3_2 {b : Nat} (h : LX.1[b]? = some (.inl 3)) : LX.1[b + 3]? = some (.inr (0, 8)) := (by decide +kernel : ∀ b, b < 117 → cellsX[b]? = some (.inl 3) → cellsX[b + 3]? = some (.inr (0, 8))) b (LX_lt h) h
theorem rX3_2 {b : Nat} (h : LX.1[b]? = some (.inl 3)) : LX.2.2 b 2 = b + 3 := by
  show refX b 2 = _
  unfold refX
  rw [show cellsX[b]? = some (.inl 3) from h]
  rfl
theorem kX5_0 {b : Nat} (h : LX.1[b]? = some (.inl 5)) : LX.1[b + 1]? = some (.inr (0, 30)) := (by decide +kernel : ∀ b, b < 117 → cellsX[b]? = some (.inl 5) → cellsX[b + 1]? = some (.inr (0, 30))) b (LX_lt h) h
theorem rX5_0 {b : Nat} (h : LX.1[b]? = some (.inl 5)) : LX.2.2 b 0 = b + 1 := by
  show refX b 0 = _
  unfold refX
  rw [show cellsX[b]? = some (.inl 5) from h]
  rfl
theorem kX5_1 {b : Nat} (h : LX.1[b]? = some (.inl 5)) : LX.1[b + 2]? = some (.inr (0, 30)) := (by decide +kernel : ∀ b, b < 117 → cellsX[b]? = some (.inl 5) → cellsX[b + 2]? = some (.inr (0, 30))) b (LX_lt h) h
theorem rX5_1 {b : Nat} (h : LX.1[b]? = some (.inl 5)) : LX.2.2 b 1 = b + 2 := by
  show refX b 1 = _
  unfold refX
  rw [show cellsX[b]? = some (.inl 5) from h]
  rfl
theorem kX5_2 {b : Nat} (h : LX.1[b]? = some (.inl 5)) : LX.1[b + 3]? = some (.inr (2, 30)) := (by decide +kernel : ∀ b, b < 117 → cellsX[b]? = some (.inl 5) → cellsX[b + 3]? = some (.inr (2, 30))) b (LX_lt h) h
theorem rX5_2 {b : Nat} (h : LX.1[b]? = some (.inl 5)) : LX.2.2 b 2 = b + 3 := by
  show refX b 2 = _
  unfold refX
  rw [show cellsX[b]? = some (.inl 5) from h]
  rfl
theorem kX6_1 {b : Nat} (h : LX.1[b]? = some (.inl 6)) : LX.1[b + 1]? = some (.inr (0, 30)) := (by decide +kernel : ∀ b, b < 117 → cellsX[b]? = some (.inl 6) → cellsX[b + 1]? = some (.inr (0, 30))) b (LX_lt h) h
theorem rX6_1 {b : Nat} (h : LX.1[b]? = some (.inl 6)) : LX.2.2 b 1 = b + 1 := by
  show refX b 1 = _
  unfold refX
  rw [show cellsX[b]? = some (.inl 6) from h]
  rfl
theorem kX6_2 {b : Nat} (h : LX.1[b]? = some (.inl 6)) : LX.1[b + 2]? = some (.inr (0, 30)) := (by decide +kernel : ∀ b, b < 117 → cellsX[b]? = some (.inl 6) → cellsX[b + 2]? = some (.inr (0, 30))) b (LX_lt h) h
theorem rX6_2 {b : Nat} (h : LX.1[b]? = some (.inl 6)) : LX.2.2 b 2 = b + 2 := by
  show refX b 2 = _
  unfold refX
  rw [show cellsX[b]? = some (.inl 6) from h]
  rfl
theorem kX6_3 {b : Nat} (h : LX.1[b]? = some (.inl 6)) : LX.1[b + 3]? = some (.inr (0, 30)) := (by decide +kernel : ∀ b, b < 117 → cellsX[b]? = some (.inl 6) → cellsX[b + 3]? = some (.inr (0, 30))) b (LX_lt h) h
theorem rX6_3 {b : Nat} (h : LX.1[b]? = some (.inl 6)) : LX.2.2 b 3 = b + 3 := by
  show refX b 3 = _
  unfold refX
  rw [show cellsX[b]? = some (.inl 6) from h]
  rfl
theorem kX6_4 {b : Nat} (h : LX.1[b]? = some (.inl 6)) : LX.1[b + 4]? = some (.inr (0, 30)) := (by decide +kernel : ∀ b, b < 117 → cellsX[b]? = some (.inl 6) → cellsX[b + 4]? = some (.inr (0, 30))) b (LX_lt h) h
theorem rX6_4 {b : Nat} (h : LX.1[b]? = some (.inl 6)) : LX.2.2 b 4 = b + 4 := by
  show refX b 4 = _
  unfold refX
  rw [show cellsX[b]? = some (.inl 6) from h]
  rfl
theorem kX6_5 {b : Nat} (h : LX.1[b]? = some (.inl 6)) : LX.1[b + 5]? = some (.inr (0, 30)) := (by decide +kernel : ∀ b, b < 117 → cellsX[b]? = some (.inl 6) → cellsX[b + 5]? = some (.inr (0, 30))) b (LX_lt h) h
theorem rX6_5 {b : Nat} (h : LX.1[b]? = some (.inl 6)) : LX.2.2 b 5 = b + 5 := by
  show refX b 5 = _
  unfold refX
  rw [show cellsX[b]? = some (.inl 6) from h]
  rfl
theorem kX6_6 {b : Nat} (h : LX.1[b]? = some (.inl 6)) : LX.1[b + 6]? = some (.inr (0, 30)) := (by decide +kernel : ∀ b, b < 117 → cellsX[b]? = some (.inl 6) → cellsX[b + 6]? = some (.inr (0, 30))) b (LX_lt h) h
theorem rX6_6 {b : Nat} (h : LX.1[b]? = some (.inl 6)) : LX.2.2 b 6 = b + 6 := by
  show refX b 6 = _
  unfold refX
  rw [show cellsX[b]? = some (.inl 6) from h]
  rfl
theorem kX7_0 {b : Nat} (h : LX.1[b]? = some (.inl 7)) : LX.1[b + 1]? = some (.inl 1) := (by decide +kernel : ∀ b, b < 117 → cellsX[b]? = some (.inl 7) → cellsX[b + 1]? = some (.inl 1)) b (LX_lt h) h
theorem rX7_0 {b : Nat} (h : LX.1[b]? = some (.inl 7)) : LX.2.2 b 0 = b + 1 := by
  show refX b 0 = _
  unfold refX
  rw [show cellsX[b]? = some (.inl 7) from h]
  rfl
theorem kX7_1 {b : Nat} (h : LX.1[b]? = some (.inl 7)) : LX.1[b + 3]? = some (.inr (1, 8)) := (by decide +kernel : ∀ b, b < 117 → cellsX[b]? = some (.inl 7) → cellsX[b + 3]? = some (.inr (1, 8))) b (LX_lt h) h
theorem rX7_1 {b : Nat} (h : LX.1[b]? = some (.inl 7)) : LX.2.2 b 1 = b + 3 := by
  show refX b 1 = _
  unfold refX
  rw [show cellsX[b]? = some (.inl 7) from h]
  rfl
theorem kX7_5 {b : Nat} (h : LX.1[b]? = some (.inl 7)) : LX.1[b + 4]? = some (.inr (2, 30)) := (by decide +kernel : ∀ b, b < 117 → cellsX[b]? = some (.inl 7) → cellsX[b + 4]? = some (.inr (2, 30))) b (LX_lt h) h
theorem rX7_5 {b : Nat} (h : LX.1[b]? = some (.inl 7)) : LX.2.2 b 5 = b + 4 := by
  show refX b 5 = _
  unfold refX
  rw [show cellsX[b]? = some (.inl 7) from h]
  rfl
theorem kX8_0 {b : Nat} (h : LX.1[b]? = some (.inl 8)) : LX.1[b + 1]? = some (.inl 6) := (by decide +kernel : ∀ b, b < 117 → cellsX[b]? = some (.inl 8) → cellsX[b + 1]? = some (.inl 6)) b (LX_lt h) h
theorem rX8_0 {b : Nat} (h : LX.1[b]? = some (.inl 8)) : LX.2.2 b 0 = b + 1 := by
  show refX b 0 = _
  unfold refX
  rw [show cellsX[b]? = some (.inl 8) from h]
  rfl
theorem kX8_1 {b : Nat} (h : LX.1[b]? = some (.inl 8)) : LX.1[b + 8]? = some (.inl 3) := (by decide +kernel : ∀ b, b < 117 → cellsX[b]? = some (.inl 8) → cellsX[b + 8]? = some (.inl 3)) b (LX_lt h) h
theorem rX8_1 {b : Nat} (h : LX.1[b]? = some (.inl 8)) : LX.2.2 b 1 = b + 8 := by
  show refX b 1 = _
  unfold refX
  rw [show cellsX[b]? = some (.inl 8) from h]
  rfl
theorem kX9_0 {b : Nat} (h : LX.1[b]? = some (.inl 9)) : LX.1[b + 1]? = some (.inr (0, 200)) := (by decide +kernel : ∀ b, b < 117 → cellsX[b]? = some (.inl 9) → cellsX[b + 1]? = some (.inr (0, 200))) b (LX_lt h) h
theorem rX9_0 {b : Nat} (h : LX.1[b]? = some (.inl 9)) : LX.2.2 b 0 = b + 1 := by
  show refX b 0 = _
  unfold refX
  rw [show cellsX[b]? = some (.inl 9) from h]
  rfl
