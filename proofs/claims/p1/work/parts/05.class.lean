def T_Calc : u_T := fun k => match k with
  | 0 => ("MatrixScripts$Calc", "rest", "LMatrixScripts$Whole;", false)
  | 1 => ("MatrixScripts$Calc", "cofactor", "LMatrixScripts$Whole;", false)
  | 2 => ("MatrixScripts$Calc", "otherCofactor", "LMatrixScripts$Whole;", false)
  | 3 => ("MatrixScripts$Calc", "x", "LMatrixScripts$Whole;", false)
  | 4 => ("MatrixScripts$Calc", "y", "LMatrixScripts$Whole;", false)
  | 5 => ("MatrixScripts$Calc", "spareX", "LMatrixScripts$Whole;", false)
  | 6 => ("MatrixScripts$Calc", "spareY", "LMatrixScripts$Whole;", false)
  | 7 => ("MatrixScripts$Calc", "quotient", "LMatrixScripts$Whole;", true)
  | 8 => ("MatrixScripts$Calc", "u", "LMatrixScripts$Whole;", false)
  | 9 => ("MatrixScripts$Calc", "v", "LMatrixScripts$Whole;", true)
  | 10 => ("MatrixScripts$Calc", "fa", "J", false)
  | 11 => ("MatrixScripts$Calc", "fb", "J", false)
  | 12 => ("MatrixScripts$Calc", "fc", "J", false)
  | _ => ("MatrixScripts$Calc", "fd", "J", false)
def ty_Calc : Nat → FieldType := fun k => match k with
  | 0 => .object "MatrixScripts$Whole"
  | 1 => .object "MatrixScripts$Whole"
  | 2 => .object "MatrixScripts$Whole"
  | 3 => .object "MatrixScripts$Whole"
  | 4 => .object "MatrixScripts$Whole"
  | 5 => .object "MatrixScripts$Whole"
  | 6 => .object "MatrixScripts$Whole"
  | 7 => .object "MatrixScripts$Whole"
  | 8 => .object "MatrixScripts$Whole"
  | 9 => .object "MatrixScripts$Whole"
  | 10 => .long
  | 11 => .long
  | 12 => .long
  | _ => .long
theorem nm_Calc : ∀ a, a < 14 → ∀ b, b < 14 → a ≠ b → (T_Calc a).2.1 ≠ (T_Calc b).2.1 := by decide +kernel
theorem ty_Calc_ok : ∀ k, k < 14 → parseFieldDescriptor (T_Calc k).2.2.1 = some (ty_Calc k) := by decide +kernel
theorem in_Calc : ∀ w ∈ u_ws "MatrixScripts$Calc" T_Calc 14, w ∈ wd_all := wd_ps _ [418, 420, 422, 424, 426, 428, 430, 432, 434, 436, 438, 440, 442, 444] (by decide +kernel) (by decide +kernel)
def T_Elim : u_T := fun k => match k with
  | 0 => ("MatrixScripts$Elimination", "pivots", "[I", true)
  | 1 => ("MatrixScripts$Elimination", "rank", "I", false)
  | 2 => ("MatrixScripts$Elimination", "pivot", "LMatrixScripts$Whole;", true)
  | 3 => ("MatrixScripts$Elimination", "work", "LMatrixScripts$Matrix;", true)
  | 4 => ("MatrixScripts$Elimination", "calc", "LMatrixScripts$Calc;", true)
  | 5 => ("MatrixScripts$Elimination", "scales", "LMatrixScripts$Matrix;", true)
  | 6 => ("MatrixScripts$Elimination", "divisor", "LMatrixScripts$Whole;", true)
  | 7 => ("MatrixScripts$Elimination", "otherDivisor", "LMatrixScripts$Whole;", true)
  | 8 => ("MatrixScripts$Elimination", "factor", "LMatrixScripts$Whole;", true)
  | 9 => ("MatrixScripts$Elimination", "otherFactor", "LMatrixScripts$Whole;", true)
  | 10 => ("MatrixScripts$Elimination", "t", "LMatrixScripts$Whole;", true)
  | 11 => ("MatrixScripts$Elimination", "t2", "LMatrixScripts$Whole;", true)
  | 12 => ("MatrixScripts$Elimination", "odd", "Z", false)
  | 13 => ("MatrixScripts$Elimination", "table", "[I", false)
  | _ => ("MatrixScripts$Elimination", "residue", "J", false)
def ty_Elim : Nat → FieldType := fun k => match k with
  | 0 => .array (.int)
  | 1 => .int
  | 2 => .object "MatrixScripts$Whole"
  | 3 => .object "MatrixScripts$Matrix"
  | 4 => .object "MatrixScripts$Calc"
  | 5 => .object "MatrixScripts$Matrix"
  | 6 => .object "MatrixScripts$Whole"
  | 7 => .object "MatrixScripts$Whole"
  | 8 => .object "MatrixScripts$Whole"
  | 9 => .object "MatrixScripts$Whole"
  | 10 => .object "MatrixScripts$Whole"
  | 11 => .object "MatrixScripts$Whole"
  | 12 => .boolean
  | 13 => .array (.int)
  | _ => .long
theorem nm_Elim : ∀ a, a < 15 → ∀ b, b < 15 → a ≠ b → (T_Elim a).2.1 ≠ (T_Elim b).2.1 := by decide +kernel
theorem ty_Elim_ok : ∀ k, k < 15 → parseFieldDescriptor (T_Elim k).2.2.1 = some (ty_Elim k) := by decide +kernel
theorem in_Elim : ∀ w ∈ u_ws "MatrixScripts$Elimination" T_Elim 15, w ∈ wd_all := wd_ps _ [468, 470, 472, 474, 476, 478, 480, 482, 484, 486, 488, 490, 492, 494, 496] (by decide +kernel) (by decide +kernel)
def T_Latt : u_T := fun k => match k with
  | 0 => ("MatrixScripts$Lattices", "elimination", "LMatrixScripts$Elimination;", true)
  | 1 => ("MatrixScripts$Lattices", "calc", "LMatrixScripts$Calc;", true)
  | 2 => ("MatrixScripts$Lattices", "work", "LMatrixScripts$Matrix;", true)
  | 3 => ("MatrixScripts$Lattices", "modulus", "LMatrixScripts$Whole;", true)
  | 4 => ("MatrixScripts$Lattices", "fa", "LMatrixScripts$Whole;", true)
  | 5 => ("MatrixScripts$Lattices", "fb", "LMatrixScripts$Whole;", true)
  | 6 => ("MatrixScripts$Lattices", "fc", "LMatrixScripts$Whole;", true)
  | 7 => ("MatrixScripts$Lattices", "fd", "LMatrixScripts$Whole;", true)
  | 8 => ("MatrixScripts$Lattices", "t", "LMatrixScripts$Whole;", true)
  | 9 => ("MatrixScripts$Lattices", "t2", "LMatrixScripts$Whole;", true)
  | 10 => ("MatrixScripts$Lattices", "t3", "LMatrixScripts$Whole;", true)
  | _ => ("MatrixScripts$Lattices", "swaps", "I", false)
def ty_Latt : Nat → FieldType := fun k => match k with
  | 0 => .object "MatrixScripts$Elimination"
  | 1 => .object "MatrixScripts$Calc"
  | 2 => .object "MatrixScripts$Matrix"
  | 3 => .object "MatrixScripts$Whole"
  | 4 => .object "MatrixScripts$Whole"
  | 5 => .object "MatrixScripts$Whole"
  | 6 => .object "MatrixScripts$Whole"
  | 7 => .object "MatrixScripts$Whole"
  | 8 => .object "MatrixScripts$Whole"
  | 9 => .object "MatrixScripts$Whole"
  | 10 => .object "MatrixScripts$Whole"
  | _ => .int
theorem nm_Latt : ∀ a, a < 12 → ∀ b, b < 12 → a ≠ b → (T_Latt a).2.1 ≠ (T_Latt b).2.1 := by decide +kernel
theorem ty_Latt_ok : ∀ k, k < 12 → parseFieldDescriptor (T_Latt k).2.2.1 = some (ty_Latt k) := by decide +kernel
theorem in_Latt : ∀ w ∈ u_ws "MatrixScripts$Lattices" T_Latt 12, w ∈ wd_all := wd_ps _ [515, 517, 519, 521, 523, 525, 527, 529, 531, 533, 535, 537] (by decide +kernel) (by decide +kernel)
def T_Maker : u_T := fun k => match k with
  | 0 => ("MatrixScripts$Maker", "steps", "I", false)
  | 1 => ("MatrixScripts$Maker", "hand", "LMatrixScripts$Values;", true)
  | 2 => ("MatrixScripts$Maker", "lattices", "LMatrixScripts$Lattices;", true)
  | 3 => ("MatrixScripts$Maker", "elimination", "LMatrixScripts$Elimination;", true)
  | 4 => ("MatrixScripts$Maker", "polynomials", "LMatrixScripts$Polynomials;", true)
  | 5 => ("MatrixScripts$Maker", "calc", "LMatrixScripts$Calc;", true)
  | 6 => ("MatrixScripts$Maker", "a", "LMatrixScripts$Matrix;", true)
  | 7 => ("MatrixScripts$Maker", "b", "LMatrixScripts$Matrix;", true)
  | 8 => ("MatrixScripts$Maker", "\x72", "LMatrixScripts$Matrix;", true)
  | 9 => ("MatrixScripts$Maker", "first", "LMatrixScripts$Whole;", true)
  | 10 => ("MatrixScripts$Maker", "second", "LMatrixScripts$Whole;", true)
  | _ => ("MatrixScripts$Maker", "product", "LMatrixScripts$Whole;", true)
def ty_Maker : Nat → FieldType := fun k => match k with
  | 0 => .int
  | 1 => .object "MatrixScripts$Values"
  | 2 => .object "MatrixScripts$Lattices"
  | 3 => .object "MatrixScripts$Elimination"
  | 4 => .object "MatrixScripts$Polynomials"
  | 5 => .object "MatrixScripts$Calc"
  | 6 => .object "MatrixScripts$Matrix"
  | 7 => .object "MatrixScripts$Matrix"
  | 8 => .object "MatrixScripts$Matrix"
  | 9 => .object "MatrixScripts$Whole"
  | 10 => .object "MatrixScripts$Whole"
  | _ => .object "MatrixScripts$Whole"
theorem nm_Maker : ∀ a, a < 12 → ∀ b, b < 12 → a ≠ b → (T_Maker a).2.1 ≠ (T_Maker b).2.1 := by decide +kernel
theorem ty_Maker_ok : ∀ k, k < 12 → parseFieldDescriptor (T_Maker k).2.2.1 = some (ty_Maker k) := by decide +kernel
theorem in_Maker : ∀ w ∈ u_ws "MatrixScripts$Maker" T_Maker 12, w ∈ wd_all := wd_ps _ [653, 655, 657, 659, 661, 663, 665, 667, 669, 671, 673, 675] (by decide +kernel) (by decide +kernel)
def T_Matrix : u_T := fun k => match k with
  | 0 => ("MatrixScripts$Matrix", "rows", "I", false)
  | 1 => ("MatrixScripts$Matrix", "columns", "I", false)
  | 2 => ("MatrixScripts$Matrix", "limbs", "I", false)
  | 3 => ("MatrixScripts$Matrix", "common", "LMatrixScripts$Whole;", true)
  | 4 => ("MatrixScripts$Matrix", "cells", "[LMatrixScripts$Whole;", false)
  | _ => ("MatrixScripts$Matrix", "made", "I", false)
def ty_Matrix : Nat → FieldType := fun k => match k with
  | 0 => .int
  | 1 => .int
  | 2 => .int
  | 3 => .object "MatrixScripts$Whole"
  | 4 => .array (.object "MatrixScripts$Whole")
  | _ => .int
theorem nm_Matrix : ∀ a, a < 6 → ∀ b, b < 6 → a ≠ b → (T_Matrix a).2.1 ≠ (T_Matrix b).2.1 := by decide +kernel
theorem ty_Matrix_ok : ∀ k, k < 6 → parseFieldDescriptor (T_Matrix k).2.2.1 = some (ty_Matrix k) := by decide +kernel
theorem in_Matrix : ∀ w ∈ u_ws "MatrixScripts$Matrix" T_Matrix 6, w ∈ wd_all := wd_ps _ [381, 383, 385, 387, 389, 391] (by decide +kernel) (by decide +kernel)
def T_Modu : u_T := fun k => match k with
  | 0 => ("MatrixScripts$Modular", "degrees", "[I", true)
  | 1 => ("MatrixScripts$Modular", "found", "[I", true)
  | 2 => ("MatrixScripts$Modular", "n", "I", false)
  | 3 => ("MatrixScripts$Modular", "prime", "I", false)
  | 4 => ("MatrixScripts$Modular", "cells", "[I", true)
  | 5 => ("MatrixScripts$Modular", "basis", "[I", true)
  | 6 => ("MatrixScripts$Modular", "heads", "[I", true)
  | 7 => ("MatrixScripts$Modular", "ways", "[I", true)
  | 8 => ("MatrixScripts$Modular", "held", "I", false)
  | 9 => ("MatrixScripts$Modular", "spanned", "I", false)
  | 10 => ("MatrixScripts$Modular", "degree", "I", false)
  | 11 => ("MatrixScripts$Modular", "way", "[I", true)
  | 12 => ("MatrixScripts$Modular", "order", "[I", true)
  | 13 => ("MatrixScripts$Modular", "vector", "[I", true)
  | 14 => ("MatrixScripts$Modular", "image", "[I", true)
  | 15 => ("MatrixScripts$Modular", "best", "[I", true)
  | _ => ("MatrixScripts$Modular", "trial", "[I", true)
def ty_Modu : Nat → FieldType := fun k => match k with
  | 0 => .array (.int)
  | 1 => .array (.int)
  | 2 => .int
  | 3 => .int
  | 4 => .array (.int)
  | 5 => .array (.int)
  | 6 => .array (.int)
  | 7 => .array (.int)
  | 8 => .int
  | 9 => .int
  | 10 => .int
  | 11 => .array (.int)
  | 12 => .array (.int)
  | 13 => .array (.int)
  | 14 => .array (.int)
  | 15 => .array (.int)
  | _ => .array (.int)
theorem nm_Modu : ∀ a, a < 17 → ∀ b, b < 17 → a ≠ b → (T_Modu a).2.1 ≠ (T_Modu b).2.1 := by decide +kernel
theorem ty_Modu_ok : ∀ k, k < 17 → parseFieldDescriptor (T_Modu k).2.2.1 = some (ty_Modu k) := by decide +kernel
theorem in_Modu : ∀ w ∈ u_ws "MatrixScripts$Modular" T_Modu 17, w ∈ wd_all := wd_ps _ [571, 573, 575, 577, 579, 581, 583, 585, 587, 589, 591, 593, 595, 597, 599, 601, 603] (by decide +kernel) (by decide +kernel)
def T_Page : u_T := fun k => match k with
  | 0 => ("MatrixScripts$Page", "words", "[I", false)
  | 1 => ("MatrixScripts$Page", "bytes", "I", false)
  | 2 => ("MatrixScripts$Page", "upper", "LMatrixScripts$Whole;", true)
  | 3 => ("MatrixScripts$Page", "lower", "LMatrixScripts$Whole;", true)
  | _ => ("MatrixScripts$Page", "chunks", "[I", true)
def ty_Page : Nat → FieldType := fun k => match k with
  | 0 => .array (.int)
  | 1 => .int
  | 2 => .object "MatrixScripts$Whole"
  | 3 => .object "MatrixScripts$Whole"
  | _ => .array (.int)
theorem nm_Page : ∀ a, a < 5 → ∀ b, b < 5 → a ≠ b → (T_Page a).2.1 ≠ (T_Page b).2.1 := by decide +kernel
theorem ty_Page_ok : ∀ k, k < 5 → parseFieldDescriptor (T_Page k).2.2.1 = some (ty_Page k) := by decide +kernel
theorem in_Page : ∀ w ∈ u_ws "MatrixScripts$Page" T_Page 5, w ∈ wd_all := wd_ps _ [279, 281, 283, 285, 287] (by decide +kernel) (by decide +kernel)
def T_Poly : u_T := fun k => match k with
  | 0 => ("MatrixScripts$Polynomials", "modular", "LMatrixScripts$Modular;", true)
  | 1 => ("MatrixScripts$Polynomials", "lifted", "LMatrixScripts$Matrix;", true)
  | 2 => ("MatrixScripts$Polynomials", "factors", "LMatrixScripts$Matrix;", true)
  | 3 => ("MatrixScripts$Polynomials", "modulus", "LMatrixScripts$Whole;", true)
  | 4 => ("MatrixScripts$Polynomials", "degrees", "[I", true)
  | 5 => ("MatrixScripts$Polynomials", "powers", "LMatrixScripts$Matrix;", true)
  | 6 => ("MatrixScripts$Polynomials", "t", "LMatrixScripts$Whole;", true)
  | _ => ("MatrixScripts$Polynomials", "t2", "LMatrixScripts$Whole;", true)
def ty_Poly : Nat → FieldType := fun k => match k with
  | 0 => .object "MatrixScripts$Modular"
  | 1 => .object "MatrixScripts$Matrix"
  | 2 => .object "MatrixScripts$Matrix"
  | 3 => .object "MatrixScripts$Whole"
  | 4 => .array (.int)
  | 5 => .object "MatrixScripts$Matrix"
  | 6 => .object "MatrixScripts$Whole"
  | _ => .object "MatrixScripts$Whole"
theorem nm_Poly : ∀ a, a < 8 → ∀ b, b < 8 → a ≠ b → (T_Poly a).2.1 ≠ (T_Poly b).2.1 := by decide +kernel
theorem ty_Poly_ok : ∀ k, k < 8 → parseFieldDescriptor (T_Poly k).2.2.1 = some (ty_Poly k) := by decide +kernel
theorem in_Poly : ∀ w ∈ u_ws "MatrixScripts$Polynomials" T_Poly 8, w ∈ wd_all := wd_ps _ [618, 620, 622, 624, 626, 628, 630, 632] (by decide +kernel) (by decide +kernel)
def T_Script : u_T := fun k => match k with
  | 0 => ("MatrixScripts$Script", "tape", "LMatrixScripts$Tape;", true)
  | 1 => ("MatrixScripts$Script", "page", "LMatrixScripts$Page;", true)
  | 2 => ("MatrixScripts$Script", "kept", "LMatrixScripts$Values;", true)
  | 3 => ("MatrixScripts$Script", "codes", "I", false)
  | 4 => ("MatrixScripts$Script", "done", "I", false)
  | 5 => ("MatrixScripts$Script", "doneInAll", "I", false)
  | 6 => ("MatrixScripts$Script", "fault", "I", false)
  | 7 => ("MatrixScripts$Script", "faultPlace", "I", false)
  | 8 => ("MatrixScripts$Script", "maker", "LMatrixScripts$Maker;", true)
  | 9 => ("MatrixScripts$Script", "hand", "LMatrixScripts$Values;", true)
  | 10 => ("MatrixScripts$Script", "key", "[I", true)
  | 11 => ("MatrixScripts$Script", "keys", "[I", false)
  | 12 => ("MatrixScripts$Script", "numbers", "[J", true)
  | 13 => ("MatrixScripts$Script", "numberCount", "I", false)
  | 14 => ("MatrixScripts$Script", "numberPlace", "I", false)
  | 15 => ("MatrixScripts$Script", "code", "[I", false)
  | _ => ("MatrixScripts$Script", "depth", "I", false)
def ty_Script : Nat → FieldType := fun k => match k with
  | 0 => .object "MatrixScripts$Tape"
  | 1 => .object "MatrixScripts$Page"
  | 2 => .object "MatrixScripts$Values"
  | 3 => .int
  | 4 => .int
  | 5 => .int
  | 6 => .int
  | 7 => .int
  | 8 => .object "MatrixScripts$Maker"
  | 9 => .object "MatrixScripts$Values"
  | 10 => .array (.int)
  | 11 => .array (.int)
  | 12 => .array (.long)
  | 13 => .int
  | 14 => .int
  | 15 => .array (.int)
  | _ => .int
theorem nm_Script : ∀ a, a < 17 → ∀ b, b < 17 → a ≠ b → (T_Script a).2.1 ≠ (T_Script b).2.1 := by decide +kernel
theorem ty_Script_ok : ∀ k, k < 17 → parseFieldDescriptor (T_Script k).2.2.1 = some (ty_Script k) := by decide +kernel
theorem in_Script : ∀ w ∈ u_ws "MatrixScripts$Script" T_Script 17, w ∈ wd_all := wd_ps _ [703, 705, 707, 709, 711, 713, 715, 717, 719, 721, 723, 725, 727, 729, 731, 733, 735] (by decide +kernel) (by decide +kernel)
def T_Tape : u_T := fun k => match k with
  | 0 => ("MatrixScripts$Tape", "words", "[I", false)
  | 1 => ("MatrixScripts$Tape", "bytes", "I", false)
  | 2 => ("MatrixScripts$Tape", "kind", "I", false)
  | 3 => ("MatrixScripts$Tape", "start", "I", false)
  | _ => ("MatrixScripts$Tape", "after", "I", false)
def ty_Tape : Nat → FieldType := fun k => match k with
  | 0 => .array (.int)
  | 1 => .int
  | 2 => .int
  | 3 => .int
  | _ => .int
theorem nm_Tape : ∀ a, a < 5 → ∀ b, b < 5 → a ≠ b → (T_Tape a).2.1 ≠ (T_Tape b).2.1 := by decide +kernel
theorem ty_Tape_ok : ∀ k, k < 5 → parseFieldDescriptor (T_Tape k).2.2.1 = some (ty_Tape k) := by decide +kernel
theorem in_Tape : ∀ w ∈ u_ws "MatrixScripts$Tape" T_Tape 5, w ∈ wd_all := wd_ps _ [222, 224, 226, 228, 230] (by decide +kernel) (by decide +kernel)
def T_Values : u_T := fun k => match k with
  | 0 => ("MatrixScripts$Values", "count", "I", false)
  | 1 => ("MatrixScripts$Values", "cells", "I", false)
  | 2 => ("MatrixScripts$Values", "limbs", "I", false)
  | 3 => ("MatrixScripts$Values", "data", "[I", false)
  | 4 => ("MatrixScripts$Values", "starts", "[I", false)
  | _ => ("MatrixScripts$Values", "used", "I", false)
def ty_Values : Nat → FieldType := fun k => match k with
  | 0 => .int
  | 1 => .int
  | 2 => .int
  | 3 => .array (.int)
  | 4 => .array (.int)
  | _ => .int
theorem nm_Values : ∀ a, a < 6 → ∀ b, b < 6 → a ≠ b → (T_Values a).2.1 ≠ (T_Values b).2.1 := by decide +kernel
theorem ty_Values_ok : ∀ k, k < 6 → parseFieldDescriptor (T_Values k).2.2.1 = some (ty_Values k) := by decide +kernel
theorem in_Values : ∀ w ∈ u_ws "MatrixScripts$Values" T_Values 6, w ∈ wd_all := wd_ps _ [310, 312, 314, 316, 318, 320] (by decide +kernel) (by decide +kernel)
def T_Whole : u_T := fun k => match k with
  | 0 => ("MatrixScripts$Whole", "limbs", "[I", false)
  | 1 => ("MatrixScripts$Whole", "size", "I", false)
  | _ => ("MatrixScripts$Whole", "below", "Z", false)
def ty_Whole : Nat → FieldType := fun k => match k with
  | 0 => .array (.int)
  | 1 => .int
  | _ => .boolean
theorem nm_Whole : ∀ a, a < 3 → ∀ b, b < 3 → a ≠ b → (T_Whole a).2.1 ≠ (T_Whole b).2.1 := by decide +kernel
theorem ty_Whole_ok : ∀ k, k < 3 → parseFieldDescriptor (T_Whole k).2.2.1 = some (ty_Whole k) := by decide +kernel
theorem in_Whole : ∀ w ∈ u_ws "MatrixScripts$Whole" T_Whole 3, w ∈ wd_all := wd_ps _ [266, 268, 270] (by decide +kernel) (by decide +kernel)
def T_Ms : u_T := fun k => match k with
  | 0 => ("MatrixScripts", "script", "LMatrixScripts$Script;", true)
  | 1 => ("MatrixScripts", "tape", "LMatrixScripts$Tape;", true)
  | _ => ("MatrixScripts", "page", "LMatrixScripts$Page;", true)
def ty_Ms : Nat → FieldType := fun k => match k with
  | 0 => .object "MatrixScripts$Script"
  | 1 => .object "MatrixScripts$Tape"
  | _ => .object "MatrixScripts$Page"
theorem nm_Ms : ∀ a, a < 3 → ∀ b, b < 3 → a ≠ b → (T_Ms a).2.1 ≠ (T_Ms b).2.1 := by decide +kernel
theorem ty_Ms_ok : ∀ k, k < 3 → parseFieldDescriptor (T_Ms k).2.2.1 = some (ty_Ms k) := by decide +kernel
theorem in_Ms : ∀ w ∈ u_ws "MatrixScripts" T_Ms 3, w ∈ wd_all := wd_ps _ [742, 744, 746] (by decide +kernel) (by decide +kernel)
def T_Forms : u_T := fun k => match k with
  | 0 => ("MatrixScriptsModel$Forms", "f", "LMatrixScriptsModel$Fractions;", true)
  | 1 => ("MatrixScriptsModel$Forms", "w", "LMatrixScriptsModel$Wholes;", true)
  | 2 => ("MatrixScriptsModel$Forms", "z", "[J", true)
  | 3 => ("MatrixScriptsModel$Forms", "pivots", "[I", true)
  | 4 => ("MatrixScriptsModel$Forms", "rank", "I", false)
  | 5 => ("MatrixScriptsModel$Forms", "columnsAt", "[I", true)
  | 6 => ("MatrixScriptsModel$Forms", "rowsAt", "[I", true)
  | 7 => ("MatrixScriptsModel$Forms", "first", "I", false)
  | 8 => ("MatrixScriptsModel$Forms", "second", "I", false)
  | 9 => ("MatrixScriptsModel$Forms", "outside", "[I", true)
  | _ => ("MatrixScriptsModel$Forms", "swaps", "I", false)
def ty_Forms : Nat → FieldType := fun k => match k with
  | 0 => .object "MatrixScriptsModel$Fractions"
  | 1 => .object "MatrixScriptsModel$Wholes"
  | 2 => .array (.long)
  | 3 => .array (.int)
  | 4 => .int
  | 5 => .array (.int)
  | 6 => .array (.int)
  | 7 => .int
  | 8 => .int
  | 9 => .array (.int)
  | _ => .int
theorem nm_Forms : ∀ a, a < 11 → ∀ b, b < 11 → a ≠ b → (T_Forms a).2.1 ≠ (T_Forms b).2.1 := by decide +kernel
theorem ty_Forms_ok : ∀ k, k < 11 → parseFieldDescriptor (T_Forms k).2.2.1 = some (ty_Forms k) := by decide +kernel
theorem in_Forms : ∀ w ∈ u_ws "MatrixScriptsModel$Forms" T_Forms 11, w ∈ wd_all := wd_ps _ [2192, 2194, 2196, 2198, 2200, 2202, 2204, 2206, 2208, 2210, 2212] (by decide +kernel) (by decide +kernel)
def T_Frac : u_T := fun k => match k with
  | 0 => ("MatrixScriptsModel$Fractions", "w", "LMatrixScriptsModel$Wholes;", true)
  | 1 => ("MatrixScriptsModel$Fractions", "v", "[I", false)
  | 2 => ("MatrixScriptsModel$Fractions", "top", "I", false)
  | 3 => ("MatrixScriptsModel$Fractions", "up", "I", false)
  | 4 => ("MatrixScriptsModel$Fractions", "low", "I", false)
  | 5 => ("MatrixScriptsModel$Fractions", "pivots", "[I", true)
  | _ => ("MatrixScriptsModel$Fractions", "rank", "I", false)
def ty_Frac : Nat → FieldType := fun k => match k with
  | 0 => .object "MatrixScriptsModel$Wholes"
  | 1 => .array (.int)
  | 2 => .int
  | 3 => .int
  | 4 => .int
  | 5 => .array (.int)
  | _ => .int
theorem nm_Frac : ∀ a, a < 7 → ∀ b, b < 7 → a ≠ b → (T_Frac a).2.1 ≠ (T_Frac b).2.1 := by decide +kernel
theorem ty_Frac_ok : ∀ k, k < 7 → parseFieldDescriptor (T_Frac k).2.2.1 = some (ty_Frac k) := by decide +kernel
theorem in_Frac : ∀ w ∈ u_ws "MatrixScriptsModel$Fractions" T_Frac 7, w ∈ wd_all := wd_ps _ [2157, 2159, 2161, 2163, 2165, 2167, 2169] (by decide +kernel) (by decide +kernel)
def T_Whs : u_T := fun k => match k with
  | 0 => ("MatrixScriptsModel$Wholes", "d", "[I", false)
  | 1 => ("MatrixScriptsModel$Wholes", "top", "I", false)
  | _ => ("MatrixScriptsModel$Wholes", "rest", "I", false)
def ty_Whs : Nat → FieldType := fun k => match k with
  | 0 => .array (.int)
  | 1 => .int
  | _ => .int
theorem nm_Whs : ∀ a, a < 3 → ∀ b, b < 3 → a ≠ b → (T_Whs a).2.1 ≠ (T_Whs b).2.1 := by decide +kernel
theorem ty_Whs_ok : ∀ k, k < 3 → parseFieldDescriptor (T_Whs k).2.2.1 = some (ty_Whs k) := by decide +kernel
theorem in_Whs : ∀ w ∈ u_ws "MatrixScriptsModel$Wholes" T_Whs 3, w ∈ wd_all := wd_ps _ [2132, 2134, 2136] (by decide +kernel) (by decide +kernel)
def T_Mdl : u_T := fun k => match k with
  | 0 => ("MatrixScriptsModel", "code", "I", false)
  | 1 => ("MatrixScriptsModel", "tape", "[B", true)
  | 2 => ("MatrixScriptsModel", "size", "I", false)
  | 3 => ("MatrixScriptsModel", "f", "LMatrixScriptsModel$Fractions;", true)
  | 4 => ("MatrixScriptsModel", "forms", "LMatrixScriptsModel$Forms;", true)
  | 5 => ("MatrixScriptsModel", "store", "LMatrixScriptsModel$Fractions;", false)
  | 6 => ("MatrixScriptsModel", "spare", "LMatrixScriptsModel$Fractions;", false)
  | 7 => ("MatrixScriptsModel", "names", "[B", true)
  | 8 => ("MatrixScriptsModel", "nameLength", "[I", true)
  | 9 => ("MatrixScriptsModel", "values", "[I", true)
  | 10 => ("MatrixScriptsModel", "commons", "[I", true)
  | 11 => ("MatrixScriptsModel", "valueLimbs", "[I", true)
  | 12 => ("MatrixScriptsModel", "count", "I", false)
  | 13 => ("MatrixScriptsModel", "limbsAll", "I", false)
  | 14 => ("MatrixScriptsModel", "cellsAll", "I", false)
  | 15 => ("MatrixScriptsModel", "page", "[B", false)
  | 16 => ("MatrixScriptsModel", "shown", "I", false)
  | 17 => ("MatrixScriptsModel", "doneAll", "I", false)
  | 18 => ("MatrixScriptsModel", "place", "I", false)
  | 19 => ("MatrixScriptsModel", "at", "I", false)
  | 20 => ("MatrixScriptsModel", "kind", "I", false)
  | 21 => ("MatrixScriptsModel", "begin", "I", false)
  | 22 => ("MatrixScriptsModel", "length", "I", false)
  | 23 => ("MatrixScriptsModel", "depth", "I", false)
  | 24 => ("MatrixScriptsModel", "doing", "Z", false)
  | 25 => ("MatrixScriptsModel", "fault", "I", false)
  | 26 => ("MatrixScriptsModel", "where", "I", false)
  | 27 => ("MatrixScriptsModel", "steps", "J", false)
  | 28 => ("MatrixScriptsModel", "handCells", "I", false)
  | 29 => ("MatrixScriptsModel", "handLimbs", "I", false)
  | 30 => ("MatrixScriptsModel", "numbers", "[J", true)
  | 31 => ("MatrixScriptsModel", "parts", "[I", false)
  | 32 => ("MatrixScriptsModel", "partTop", "I", false)
  | 33 => ("MatrixScriptsModel", "values2", "I", false)
  | 34 => ("MatrixScriptsModel", "numberCount", "I", false)
  | 35 => ("MatrixScriptsModel", "numberAt", "I", false)
  | _ => ("MatrixScriptsModel", "groups", "[I", true)
def ty_Mdl : Nat → FieldType := fun k => match k with
  | 0 => .int
  | 1 => .array (.byte)
  | 2 => .int
  | 3 => .object "MatrixScriptsModel$Fractions"
  | 4 => .object "MatrixScriptsModel$Forms"
  | 5 => .object "MatrixScriptsModel$Fractions"
  | 6 => .object "MatrixScriptsModel$Fractions"
  | 7 => .array (.byte)
  | 8 => .array (.int)
  | 9 => .array (.int)
  | 10 => .array (.int)
  | 11 => .array (.int)
  | 12 => .int
  | 13 => .int
  | 14 => .int
  | 15 => .array (.byte)
  | 16 => .int
  | 17 => .int
  | 18 => .int
  | 19 => .int
  | 20 => .int
  | 21 => .int
  | 22 => .int
  | 23 => .int
  | 24 => .boolean
  | 25 => .int
  | 26 => .int
  | 27 => .long
  | 28 => .int
  | 29 => .int
  | 30 => .array (.long)
  | 31 => .array (.int)
  | 32 => .int
  | 33 => .int
  | 34 => .int
  | 35 => .int
  | _ => .array (.int)
theorem nm_Mdl : ∀ a, a < 37 → ∀ b, b < 37 → a ≠ b → (T_Mdl a).2.1 ≠ (T_Mdl b).2.1 := by decide +kernel
theorem ty_Mdl_ok : ∀ k, k < 37 → parseFieldDescriptor (T_Mdl k).2.2.1 = some (ty_Mdl k) := by decide +kernel
theorem in_Mdl : ∀ w ∈ u_ws "MatrixScriptsModel" T_Mdl 37, w ∈ wd_all := wd_ps _ [2252, 2254, 2256, 2258, 2260, 2262, 2264, 2266, 2268, 2270, 2272, 2274, 2276, 2278, 2280, 2282, 2284, 2286, 2288, 2290, 2292, 2294, 2296, 2298, 2300, 2302, 2304, 2306, 2308, 2310, 2312, 2314, 2316, 2318, 2320, 2322, 2324] (by decide +kernel) (by decide +kernel)
abbrev vC : List vw_C := [("MatrixScripts$Calc", T_Calc, 14), ("MatrixScripts$Elimination", T_Elim, 15), ("MatrixScripts$Lattices", T_Latt, 12), ("MatrixScripts$Maker", T_Maker, 12), ("MatrixScripts$Matrix", T_Matrix, 6), ("MatrixScripts$Modular", T_Modu, 17), ("MatrixScripts$Page", T_Page, 5), ("MatrixScripts$Polynomials", T_Poly, 8), ("MatrixScripts$Script", T_Script, 17), ("MatrixScripts$Tape", T_Tape, 5), ("MatrixScripts$Values", T_Values, 6), ("MatrixScripts$Whole", T_Whole, 3), ("MatrixScripts", T_Ms, 3), ("MatrixScriptsModel$Forms", T_Forms, 11), ("MatrixScriptsModel$Fractions", T_Frac, 7), ("MatrixScriptsModel$Wholes", T_Whs, 3), ("MatrixScriptsModel", T_Mdl, 37)]
