/-! THE ABSTRACT MACHINE (pure): values are pairs of a kind and a number: 0 an int, 1 a long, 2 a cell by its number, 4 a String constant by its place, 5 the script, 9 nothing.
A world: its shapes (kind of cell, its length, what references it holds: 0 null, r + 1 the cell r) and its numbers (cell, place). Kinds of cells: 0 int[], 1 long[], 2 boolean[], 3 rows of Bigs, 4 + c an object of class c. -/
abbrev am_V : Type := Nat × Int
abbrev am_Sh : Type := List (Nat × Nat × List Nat)
abbrev am_G : Type := Nat → Nat → Int
abbrev am_E : Type := Instr × Nat × Nat × Int
abbrev am_St : Type := Nat × List am_V × List am_V × am_Sh × am_G
def w32 (a : Int) : Int := (a + 2147483648) % 4294967296 - 2147483648
def w64 (a : Int) : Int := (a + 9223372036854775808) % 18446744073709551616 - 9223372036854775808
theorem w32_toInt (a : Int) : (Int32.ofInt a).toInt = w32 a := by
  rw [Int32.toInt_ofInt]
  have e : Int32.size = 4294967296 := rfl
  rw [e, Int.bmod_def]
  unfold w32
  split <;> omega
theorem w64_toInt (a : Int) : (Int64.ofInt a).toInt = w64 a := by
  rw [Int64.toInt_ofInt]
  have e : Int64.size = 18446744073709551616 := rfl
  rw [e, Int.bmod_def]
  unfold w64
  split <;> omega
theorem w32_in (a : Int) : -2147483648 ≤ w32 a ∧ w32 a < 2147483648 := by unfold w32; omega
theorem w64_in (a : Int) : -9223372036854775808 ≤ w64 a ∧ w64 a < 9223372036854775808 := by unfold w64; omega
theorem w32_id {a : Int} (h : -2147483648 ≤ a) (h2 : a < 2147483648) : w32 a = a := by unfold w32; omega
theorem w64_id {a : Int} (h : -9223372036854775808 ≤ a) (h2 : a < 9223372036854775808) : w64 a = a := by unfold w64; omega
theorem w32_of (x : Int32) : Int32.ofInt x.toInt = x := Int32.ofInt_toInt x
theorem w32_w (a : Int) : Int32.ofInt (w32 a) = Int32.ofInt a := by rw [← w32_toInt, Int32.ofInt_toInt]
theorem w64_w (a : Int) : Int64.ofInt (w64 a) = Int64.ofInt a := by rw [← w64_toInt, Int64.ofInt_toInt]
theorem w32_eq {a b : Int} : Int32.ofInt a = Int32.ofInt b ↔ w32 a = w32 b := by
  rw [← w32_toInt, ← w32_toInt, Int32.toInt_inj]
theorem w32_lt {a b : Int} : Int32.ofInt a < Int32.ofInt b ↔ w32 a < w32 b := by
  rw [← w32_toInt, ← w32_toInt, Int32.lt_iff_toInt_lt]
theorem w32_le {a b : Int} : Int32.ofInt a ≤ Int32.ofInt b ↔ w32 a ≤ w32 b := by
  rw [← w32_toInt, ← w32_toInt, Int32.le_iff_toInt_le]
theorem w64_eq {a b : Int} : Int64.ofInt a = Int64.ofInt b ↔ w64 a = w64 b := by
  rw [← w64_toInt, ← w64_toInt, Int64.toInt_inj]
theorem w64_lt {a b : Int} : Int64.ofInt a < Int64.ofInt b ↔ w64 a < w64 b := by
  rw [← w64_toInt, ← w64_toInt, Int64.lt_iff_toInt_lt]
theorem w32_0 : Int32.ofInt 0 = 0 := rfl
theorem w64_0 : Int64.ofInt 0 = 0 := rfl
theorem w32_z {a : Int} : Int32.ofInt a = 0 ↔ w32 a = 0 := by
  rw [← w32_0, w32_eq]; rfl
theorem w64_z {a : Int} : Int64.ofInt a = 0 ↔ w64 a = 0 := by
  rw [← w64_0, w64_eq]; rfl
theorem w32_bm (a : Int) : a.bmod (2 ^ 32) = w32 a := by rw [← w32_toInt, Int32.toInt_ofInt]
theorem w64_bm (a : Int) : a.bmod (2 ^ 64) = w64 a := by rw [← w64_toInt, Int64.toInt_ofInt]
theorem w32_div (a b : Int) : Int32.ofInt a / Int32.ofInt b = Int32.ofInt (Int.tdiv (w32 a) (w32 b)) := by
  rw [← Int32.toInt_inj, Int32.toInt_div, w32_toInt, w32_toInt, w32_toInt, w32_bm]
theorem w64_div (a b : Int) : Int64.ofInt a / Int64.ofInt b = Int64.ofInt (Int.tdiv (w64 a) (w64 b)) := by
  rw [← Int64.toInt_inj, Int64.toInt_div, w64_toInt, w64_toInt, w64_toInt, w64_bm]
theorem w32_rem (a b : Int) : Int32.ofInt a - Int32.ofInt a / Int32.ofInt b * Int32.ofInt b = Int32.ofInt (Int.tmod (w32 a) (w32 b)) := by
  rw [w32_div, ← w32_w a, ← w32_w b, ← Int32.ofInt_mul, ← Int32.ofInt_sub]
  congr 1
  have := Int.tmod_add_mul_tdiv (w32 a) (w32 b)
  rw [Int.mul_comm (Int.tdiv _ _)]
  omega
theorem w64_rem (a b : Int) : Int64.ofInt a - Int64.ofInt a / Int64.ofInt b * Int64.ofInt b = Int64.ofInt (Int.tmod (w64 a) (w64 b)) := by
  rw [w64_div, ← w64_w a, ← w64_w b, ← Int64.ofInt_mul, ← Int64.ofInt_sub]
  congr 1
  have := Int.tmod_add_mul_tdiv (w64 a) (w64 b)
  rw [Int.mul_comm (Int.tdiv _ _)]
  omega
theorem w32_l (a : Int) : (Int32.ofInt a).toInt64 = Int64.ofInt (w32 a) := by
  rw [← Int64.toInt_inj, Int32.toInt_toInt64, w32_toInt, w64_toInt, w64_id]
  · exact Int.le_trans (by decide) (w32_in a).1
  · exact Int.lt_trans (w32_in a).2 (by decide)
theorem w64_i (a : Int) : (Int64.ofInt a).toInt32 = Int32.ofInt a := Int64.toInt32_ofInt
def am_up (g : am_G) (k i : Nat) (v : Int) : am_G := fun a j => if a = k then (if j = i then v else g a j) else g a j
def am_pp (k : Nat) (st : List am_V) : Option (Int × List am_V) := match st with
  | [] => none
  | v :: t => if v.1 = k then some (v.2, t) else none
theorem am_pp_iff {k : Nat} {st : List am_V} {q : Int × List am_V} : am_pp k st = some q ↔ st = (k, q.1) :: q.2 := by
  cases st with
  | nil => simp [am_pp]
  | cons v t =>
    obtain ⟨a, x⟩ := v
    obtain ⟨y, u⟩ := q
    simp only [am_pp]
    by_cases h : a = k
    · subst h; simp
    · simp [h]
def am_i1 (f : Int → Int) (st : List am_V) : Option (List am_V) := (am_pp 0 st).bind fun q => some ((0, f q.1) :: q.2)
def am_i2 (f : Int → Int → Int) (st : List am_V) : Option (List am_V) := (am_pp 0 st).bind fun y => (am_pp 0 y.2).bind fun x => some ((0, f x.1 y.1) :: x.2)
def am_l1 (f : Int → Int) (st : List am_V) : Option (List am_V) := (am_pp 1 st).bind fun q => some ((1, f q.1) :: q.2)
def am_l2 (f : Int → Int → Int) (st : List am_V) : Option (List am_V) := (am_pp 1 st).bind fun y => (am_pp 1 y.2).bind fun x => some ((1, f x.1 y.1) :: x.2)
def am_ls (f : Int → Int → Int) (st : List am_V) : Option (List am_V) := (am_pp 0 st).bind fun y => (am_pp 1 y.2).bind fun x => some ((1, f x.1 y.1) :: x.2)
def am_nx (pc : Nat) (L : List am_V) (sh : am_Sh) (g : am_G) (o : Option (List am_V)) : Option am_St := o.bind fun st => some (pc, L, st, sh, g)
def am_isr (k : Nat) : Bool := k == 2 || k == 4 || k == 5
def am_ld (k : Nat) (L : List am_V) (i : Nat) : Option am_V := (L[i]?).bind fun v => if v.1 = k then some v else none
def am_ldr (L : List am_V) (i : Nat) : Option am_V := (L[i]?).bind fun v => if am_isr v.1 = true then some v else none
/-- a long's first half, just below a place that is written, goes -/
def am_k (L : List am_V) (i : Nat) : List am_V := match i with
  | 0 => L
  | j + 1 => match L[j]? with
    | some u => if u.1 = 1 then L.set j (9, 0) else L
    | none => L
def am_s1 (L : List am_V) (i : Nat) (v : am_V) : List am_V := (am_k L i).set i v
def am_s2 (L : List am_V) (i : Nat) (v : am_V) : List am_V := (am_s1 L i v).set (i + 1) (9, 0)
def am_cm (c : ClassFile.Cond) (x y : Int) : Bool := match c with
  | .eq => decide (x = y)
  | .ne => decide (x ≠ y)
  | .lt => decide (x < y)
  | .ge => decide (y ≤ x)
  | .gt => decide (y < x)
  | .le => decide (x ≤ y)
def am_sw (pc : Nat) (d lo hi : Int) (offs : Array Int) (v : Int) : Option Nat := if v < lo ∨ hi < v then (if 0 ≤ (pc : Int) + d then some ((pc : Int) + d).toNat else none) else (offs[(v - lo).toNat]?).bind fun o => if 0 ≤ (pc : Int) + o then some ((pc : Int) + o).toNat else none
def am_xs (len : Nat) (i : Int) : Option Nat := if 0 ≤ w32 i ∧ w32 i < (len : Int) then some (w32 i).toNat else none
