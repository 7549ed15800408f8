/-! base: ints by Int; one world of all cells; a contract's form; rows in these words -/
def q_i (z : Int) : Int32 := Int32.ofInt z
abbrev q_R (z : Int) : Prop := -2147483648 ≤ z ∧ z ≤ 2147483647
theorem q_toInt {z : Int} (h : q_R z) : (q_i z).toInt = z := Int32.toInt_ofInt_of_le (by omega) (by omega)
theorem q_of (x : Int32) : q_i x.toInt = x := Int32.ofInt_toInt x
theorem q_rng (x : Int32) : q_R x.toInt := ⟨by have := x.le_toInt; omega, by have := x.toInt_lt; omega⟩
theorem q_add (a b : Int) : q_i a + q_i b = q_i (a + b) := (Int32.ofInt_add a b).symm
theorem q_sub (a b : Int) : q_i a - q_i b = q_i (a - b) := (Int32.ofInt_sub a b).symm
theorem q_mul (a b : Int) : q_i a * q_i b = q_i (a * b) := (Int32.ofInt_mul a b).symm
theorem q_lt {a b : Int} (ha : q_R a) (hb : q_R b) : q_i a < q_i b ↔ a < b := by rw [Int32.lt_iff_toInt_lt, q_toInt ha, q_toInt hb]
theorem q_le {a b : Int} (ha : q_R a) (hb : q_R b) : q_i a ≤ q_i b ↔ a ≤ b := by rw [Int32.le_iff_toInt_le, q_toInt ha, q_toInt hb]
theorem q_eq {a b : Int} (ha : q_R a) (hb : q_R b) : q_i a = q_i b ↔ a = b := by rw [← Int32.toInt_inj, q_toInt ha, q_toInt hb]
theorem q_0 : (0 : Int32) = q_i 0 := rfl
theorem q_nat {z : Int} (h : q_R z) : (q_i z).toNatClampNeg = z.toNat := Int32.toNatClampNeg_ofInt_of_le (by omega) (by omega)
theorem q_in {z : Int} {n : Nat} (h0 : 0 ≤ z) (h1 : z < n) (hn : n ≤ 2147483647) : vp_in (q_i z) n := by
  have hr : q_R z := ⟨by omega, by omega⟩
  intro h
  rcases h with h | h
  · rw [q_0, q_lt hr ⟨by decide, by decide⟩] at h
    omega
  · rw [q_nat hr] at h
    omega
/-! the world -/
abbrev q_G : Type := va_G × (Nat → ClassId)
def q_tys (g : q_G) : List (ClassId × FieldType) := [(g.2 0, .byte), (g.2 1, .int), (g.2 2, .boolean), (g.2 3, .object "java/lang/Object"), (g.2 4, .object "WakeVillage$Command"), (g.2 5, .object "WakeVillage$Link"), (g.2 6, .object "WakeVillage$Message"), (g.2 7, .object "WakeVillage$Node"), (g.2 8, .object "WakeVillage$Village"), (g.2 9, .array .int)]
def q_U (g : q_G) (L : List Nat) (f : Nat → va_E) (U : State) : Prop := va_P g.1 vwCl (va_pl L f) U.heap ∧ va_K g.1 vwCl (q_tys g) U
def q_W (g : q_G) (L : List Nat) (A : Nat → Prop) (f : Nat → va_E) (s : State) (H : Heap) (locs : List Loc) : Prop := va_P g.1 vwCl (va_pl L f) H ∧ va_D A (va_pl L f) ∧ va_K g.1 vwCl (q_tys g) s ∧ va_S A s.heap H locs
/-- what a cell holds at a place -/
def q_vE : va_E → Nat → Value
  | .inr o, i => o.2.getD i .null
  | .inl (_, _, .inl h), i => .int (h i)
  | .inl (_, _, .inr (.inl h)), i => .long (h i)
  | .inl (_, _, .inr (.inr (.inl h))), i => .float (h i)
  | .inl (_, _, .inr (.inr (.inr (.inl h)))), i => .double (h i)
  | .inl (_, _, .inr (.inr (.inr (.inr h)))), i => va_rf (h i)
def q_v (f : Nat → va_E) (a i : Nat) : Value := q_vE (f a) i
def q_iv : Value → Int
  | .int x => x.toInt
  | _ => 0
def q_rv : Value → Nat
  | .ref a => a
  | _ => 0
def q_lv : Value → Int64
  | .long x => x
  | _ => 0
def q_z (f : Nat → va_E) (a i : Nat) : Int := q_iv (q_v f a i)
def q_r (f : Nat → va_E) (a i : Nat) : Nat := q_rv (q_v f a i)
def q_j (f : Nat → va_E) (a i : Nat) : Int64 := q_lv (q_v f a i)
/-- kinds of what a place may hold: (0, lo, hi) an int within; (1, ..) a long; (2, k, _) a thing of kind k; (3, ..) a double; (4, ..) null or any thing -/
abbrev q_T : Type := Nat × Int × Int
def q_ok (K : Nat → Nat) (L : List Nat) (t : q_T) (v : Value) : Prop :=
  match t with
  | (0, lo, hi) => ∃ x : Int32, v = .int x ∧ lo ≤ x.toInt ∧ x.toInt ≤ hi
  | (1, _, _) => ∃ x : Int64, v = .long x
  | (2, k, _) => ∃ a : Nat, v = .ref a ∧ a ∈ L ∧ K a = k.toNat
  | (4, _, _) => v = .null ∨ ∃ a : Nat, v = .ref a
  | _ => ∃ x : UInt64, v = .double x
/-- an array's row, by the number of its type in q_tys -/
def q_Ar (t : Nat) (h : (Nat → Int32) ⊕ (Nat → Int64) ⊕ (Nat → UInt32) ⊕ (Nat → UInt64) ⊕ (Nat → Option Nat)) : Prop :=
  match t with
  | 0 => ∃ x, h = .inl x
  | 1 => ∃ x, h = .inl x
  | 2 => ∃ x, h = .inl x
  | _ => ∃ x, h = .inr (.inr (.inr (.inr x)))
/-- what the places of an object of class k hold -/
def q_ft : Nat → List q_T := fun k => match k with
  | 0 => [(0, (-2147483648), 2147483647), (0, (-2147483648), 2147483647), (0, (-2147483648), 2147483647), (0, (-2147483648), 2147483647), (0, (-2147483648), 2147483647), (0, (-2147483648), 2147483647), (0, (-2147483648), 2147483647)]
  | 1 => [(2, 15, 0)]
  | 2 => [(2, 218, 0), (0, (-2147483648), 2147483647), (0, (-2147483648), 2147483647)]
  | 3 => [(0, 0, 9), (0, 0, 9), (0, (-2147483648), 2147483647), (0, (-2147483648), 2147483647), (0, (-2147483648), 2147483647)]
  | 4 => [(0, 0, 9), (0, 0, 9), (0, 0, 9), (0, 0, 2), (0, (-2147483648), 2147483647), (0, (-2147483648), 2147483647), (0, (-2147483648), 2147483647), (0, 0, 1)]
  | 5 => [(1, 0, 0), (1, 0, 0), (0, 0, 59), (0, 0, 59), (0, (-2147483648), 2147483647), (0, (-2147483648), 2147483647), (0, (-2147483648), 2147483647), (0, (-2147483648), 2147483647), (0, (-2147483648), 2147483647), (0, (-2147483648), 2147483647)]
  | 6 => [(2, 143, 0), (0, (-2147483648), 2147483647)]
  | 7 => [(2, 141, 0), (0, (-2147483648), 2147483647), (0, (-2147483648), 2147483647), (0, (-2147483648), 2147483647), (0, (-2147483648), 2147483647)]
  | 8 => [(2, 142, 0), (0, 0, 600), (0, (-2147483648), 2147483647), (0, (-2147483648), 2147483647), (1, 0, 0), (0, (-2147483648), 2147483647), (0, (-2147483648), 2147483647), (0, (-2147483648), 2147483647), (0, (-2147483648), 2147483647), (0, (-2147483648), 2147483647)]
  | 9 => [(0, 0, 1), (0, 0, 1), (0, 0, 1)]
  | 10 => [(2, 110, 0), (2, 120, 0), (2, 130, 0), (0, 0, 10), (0, 0, 16), (0, 0, 61), (0, 4, 60), (0, 0, 99), (0, 0, 99), (0, 0, 99), (0, 0, 9), (0, (-2147483648), 2147483647), (0, (-2147483648), 2147483647), (0, (-2147483648), 2147483647), (0, (-2147483648), 2147483647), (0, (-2147483648), 2147483647)]
  | 11 => [(2, 8, 0), (2, 9, 0), (2, 7, 0), (2, 1, 0), (2, 2, 0), (2, 6, 0), (2, 10, 0), (2, 13, 0), (2, 14, 0), (0, 0, 1)]
  | 13 => [(2, 111, 0), (2, 121, 0), (2, 131, 0), (0, 0, 10), (0, 0, 16), (0, 0, 61), (0, 4, 60), (0, 0, 99), (0, 0, 99), (0, 0, 99), (0, 0, 9), (0, (-2147483648), 2147483647), (0, (-2147483648), 2147483647), (0, (-2147483648), 2147483647), (0, (-2147483648), 2147483647), (0, (-2147483648), 2147483647)]
  | 14 => [(2, 112, 0), (2, 122, 0), (2, 132, 0), (0, 0, 10), (0, 0, 16), (0, 0, 61), (0, 4, 60), (0, 0, 99), (0, 0, 99), (0, 0, 99), (0, 0, 9), (0, (-2147483648), 2147483647), (0, (-2147483648), 2147483647), (0, (-2147483648), 2147483647), (0, (-2147483648), 2147483647), (0, (-2147483648), 2147483647)]
  | 15 => [(2, 113, 0), (2, 123, 0), (2, 133, 0), (0, 0, 10), (0, 0, 16), (0, 0, 61), (0, 4, 60), (0, 0, 99), (0, 0, 99), (0, 0, 99), (0, 0, 9), (0, (-2147483648), 2147483647), (0, (-2147483648), 2147483647), (0, (-2147483648), 2147483647), (0, (-2147483648), 2147483647), (0, (-2147483648), 2147483647)]
  | 17 => [(1, 0, 0), (1, 0, 0), (0, 0, 59), (0, 0, 59), (0, (-2147483648), 2147483647), (0, (-2147483648), 2147483647), (0, (-2147483648), 2147483647), (0, (-2147483648), 2147483647), (0, (-2147483648), 2147483647), (0, (-2147483648), 2147483647)]
  | 18 => [(1, 0, 0), (1, 0, 0), (0, 0, 59), (0, 0, 59), (0, (-2147483648), 2147483647), (0, (-2147483648), 2147483647), (0, (-2147483648), 2147483647), (0, (-2147483648), 2147483647), (0, (-2147483648), 2147483647), (0, (-2147483648), 2147483647)]
  | 19 => [(1, 0, 0), (1, 0, 0), (0, 0, 59), (0, 0, 59), (0, (-2147483648), 2147483647), (0, (-2147483648), 2147483647), (0, (-2147483648), 2147483647), (0, (-2147483648), 2147483647), (0, (-2147483648), 2147483647), (0, (-2147483648), 2147483647)]
  | 21 => [(0, 0, 9), (0, 0, 9), (0, (-2147483648), 2147483647), (0, (-2147483648), 2147483647), (0, (-2147483648), 2147483647)]
  | 22 => [(0, 0, 9), (0, 0, 9), (0, (-2147483648), 2147483647), (0, (-2147483648), 2147483647), (0, (-2147483648), 2147483647)]
  | 23 => [(0, 0, 9), (0, 0, 9), (0, (-2147483648), 2147483647), (0, (-2147483648), 2147483647), (0, (-2147483648), 2147483647)]
  | 25 => [(0, 0, 9), (0, 0, 9), (0, 0, 9), (0, 0, 2), (0, (-2147483648), 2147483647), (0, (-2147483648), 2147483647), (0, (-2147483648), 2147483647), (0, 0, 1)]
  | 26 => [(0, 0, 9), (0, 0, 9), (0, 0, 9), (0, 0, 2), (0, (-2147483648), 2147483647), (0, (-2147483648), 2147483647), (0, (-2147483648), 2147483647), (0, 0, 1)]
  | 27 => [(0, 0, 9), (0, 0, 9), (0, 0, 9), (0, 0, 2), (0, (-2147483648), 2147483647), (0, (-2147483648), 2147483647), (0, (-2147483648), 2147483647), (0, 0, 1)]
  | 50 => [(2, 200, 0), (2, 206, 0), (2, 212, 0), (0, 0, 10), (0, 0, 16), (0, 0, 61), (0, 4, 60), (0, 0, 99), (0, 0, 99), (0, 0, 99), (0, 0, 9), (0, (-2147483648), 2147483647), (0, (-2147483648), 2147483647), (0, (-2147483648), 2147483647), (0, (-2147483648), 2147483647), (0, (-2147483648), 2147483647)]
  | 51 => [(2, 201, 0), (2, 207, 0), (2, 213, 0), (0, 0, 10), (0, 0, 16), (0, 0, 61), (0, 4, 60), (0, 0, 99), (0, 0, 99), (0, 0, 99), (0, 0, 9), (0, (-2147483648), 2147483647), (0, (-2147483648), 2147483647), (0, (-2147483648), 2147483647), (0, (-2147483648), 2147483647), (0, (-2147483648), 2147483647)]
  | 52 => [(2, 202, 0), (2, 208, 0), (2, 214, 0), (0, 0, 10), (0, 0, 16), (0, 0, 61), (0, 4, 60), (0, 0, 99), (0, 0, 99), (0, 0, 99), (0, 0, 9), (0, (-2147483648), 2147483647), (0, (-2147483648), 2147483647), (0, (-2147483648), 2147483647), (0, (-2147483648), 2147483647), (0, (-2147483648), 2147483647)]
  | 53 => [(2, 203, 0), (2, 209, 0), (2, 215, 0), (0, 0, 10), (0, 0, 16), (0, 0, 61), (0, 4, 60), (0, 0, 99), (0, 0, 99), (0, 0, 99), (0, 0, 9), (0, (-2147483648), 2147483647), (0, (-2147483648), 2147483647), (0, (-2147483648), 2147483647), (0, (-2147483648), 2147483647), (0, (-2147483648), 2147483647)]
  | 54 => [(2, 204, 0), (2, 210, 0), (2, 216, 0), (0, 0, 10), (0, 0, 16), (0, 0, 61), (0, 4, 60), (0, 0, 99), (0, 0, 99), (0, 0, 99), (0, 0, 9), (0, (-2147483648), 2147483647), (0, (-2147483648), 2147483647), (0, (-2147483648), 2147483647), (0, (-2147483648), 2147483647), (0, (-2147483648), 2147483647)]
  | 55 => [(2, 205, 0), (2, 211, 0), (2, 217, 0), (0, 0, 10), (0, 0, 16), (0, 0, 61), (0, 4, 60), (0, 0, 99), (0, 0, 99), (0, 0, 99), (0, 0, 9), (0, (-2147483648), 2147483647), (0, (-2147483648), 2147483647), (0, (-2147483648), 2147483647), (0, (-2147483648), 2147483647), (0, (-2147483648), 2147483647)]
  | 56 => [(1, 0, 0), (1, 0, 0), (0, 0, 59), (0, 0, 59), (0, (-2147483648), 2147483647), (0, (-2147483648), 2147483647), (0, (-2147483648), 2147483647), (0, (-2147483648), 2147483647), (0, (-2147483648), 2147483647), (0, (-2147483648), 2147483647)]
  | 57 => [(1, 0, 0), (1, 0, 0), (0, 0, 59), (0, 0, 59), (0, (-2147483648), 2147483647), (0, (-2147483648), 2147483647), (0, (-2147483648), 2147483647), (0, (-2147483648), 2147483647), (0, (-2147483648), 2147483647), (0, (-2147483648), 2147483647)]
  | 58 => [(1, 0, 0), (1, 0, 0), (0, 0, 59), (0, 0, 59), (0, (-2147483648), 2147483647), (0, (-2147483648), 2147483647), (0, (-2147483648), 2147483647), (0, (-2147483648), 2147483647), (0, (-2147483648), 2147483647), (0, (-2147483648), 2147483647)]
  | 59 => [(1, 0, 0), (1, 0, 0), (0, 0, 59), (0, 0, 59), (0, (-2147483648), 2147483647), (0, (-2147483648), 2147483647), (0, (-2147483648), 2147483647), (0, (-2147483648), 2147483647), (0, (-2147483648), 2147483647), (0, (-2147483648), 2147483647)]
  | 60 => [(1, 0, 0), (1, 0, 0), (0, 0, 59), (0, 0, 59), (0, (-2147483648), 2147483647), (0, (-2147483648), 2147483647), (0, (-2147483648), 2147483647), (0, (-2147483648), 2147483647), (0, (-2147483648), 2147483647), (0, (-2147483648), 2147483647)]
  | 61 => [(1, 0, 0), (1, 0, 0), (0, 0, 59), (0, 0, 59), (0, (-2147483648), 2147483647), (0, (-2147483648), 2147483647), (0, (-2147483648), 2147483647), (0, (-2147483648), 2147483647), (0, (-2147483648), 2147483647), (0, (-2147483648), 2147483647)]
  | 62 => [(0, 0, 9), (0, 0, 9), (0, (-2147483648), 2147483647), (0, (-2147483648), 2147483647), (0, (-2147483648), 2147483647)]
  | 63 => [(0, 0, 9), (0, 0, 9), (0, (-2147483648), 2147483647), (0, (-2147483648), 2147483647), (0, (-2147483648), 2147483647)]
  | 64 => [(0, 0, 9), (0, 0, 9), (0, (-2147483648), 2147483647), (0, (-2147483648), 2147483647), (0, (-2147483648), 2147483647)]
  | 65 => [(0, 0, 9), (0, 0, 9), (0, (-2147483648), 2147483647), (0, (-2147483648), 2147483647), (0, (-2147483648), 2147483647)]
  | 66 => [(0, 0, 9), (0, 0, 9), (0, (-2147483648), 2147483647), (0, (-2147483648), 2147483647), (0, (-2147483648), 2147483647)]
  | 67 => [(0, 0, 9), (0, 0, 9), (0, (-2147483648), 2147483647), (0, (-2147483648), 2147483647), (0, (-2147483648), 2147483647)]
  | 68 => [(0, 0, 9), (0, 0, 9), (0, 0, 9), (0, 0, 2), (0, (-2147483648), 2147483647), (0, (-2147483648), 2147483647), (0, (-2147483648), 2147483647), (0, 0, 1)]
  | 69 => [(0, 0, 9), (0, 0, 9), (0, 0, 9), (0, 0, 2), (0, (-2147483648), 2147483647), (0, (-2147483648), 2147483647), (0, (-2147483648), 2147483647), (0, 0, 1)]
  | 70 => [(0, 0, 9), (0, 0, 9), (0, 0, 9), (0, 0, 2), (0, (-2147483648), 2147483647), (0, (-2147483648), 2147483647), (0, (-2147483648), 2147483647), (0, 0, 1)]
  | 71 => [(0, 0, 9), (0, 0, 9), (0, 0, 9), (0, 0, 2), (0, (-2147483648), 2147483647), (0, (-2147483648), 2147483647), (0, (-2147483648), 2147483647), (0, 0, 1)]
  | 72 => [(0, 0, 9), (0, 0, 9), (0, 0, 9), (0, 0, 2), (0, (-2147483648), 2147483647), (0, (-2147483648), 2147483647), (0, (-2147483648), 2147483647), (0, 0, 1)]
  | 73 => [(0, 0, 9), (0, 0, 9), (0, 0, 9), (0, 0, 2), (0, (-2147483648), 2147483647), (0, (-2147483648), 2147483647), (0, (-2147483648), 2147483647), (0, 0, 1)]
  | 74 => [(0, 0, 59), (0, 0, 59), (0, (-2147483648), 2147483647), (0, (-2147483648), 2147483647), (0, (-2147483648), 2147483647), (0, (-2147483648), 2147483647), (4, 0, 0)]
  | 75 => [(0, 0, 60), (0, (-2147483648), 2147483647), (0, 0, 99), (0, 0, 99), (0, 0, 99), (0, 0, 9), (0, (-2147483648), 2147483647), (4, 0, 0), (4, 0, 0), (4, 0, 0), (4, 0, 0)]
  | 76 => [(0, (-2147483648), 2147483647), (4, 0, 0), (0, 0, 10)]
  | 77 => [(0, (-2147483648), 2147483647), (4, 0, 0), (0, 0, 10)]
  | 78 => [(0, (-2147483648), 2147483647), (4, 0, 0), (0, 0, 10)]
  | 79 => [(0, 0, 10), (0, (-1), 10), (0, (-2147483648), 2147483647), (4, 0, 0)]
  | 80 => [(0, 0, 10), (0, (-1), 10), (0, (-2147483648), 2147483647), (4, 0, 0)]
  | 81 => [(0, 0, 10), (0, (-1), 10), (0, (-2147483648), 2147483647), (4, 0, 0)]
  | 82 => [(4, 0, 0)]
  | 83 => [(4, 0, 0), (4, 0, 0), (4, 0, 0), (4, 0, 0), (0, 0, 0), (0, (-2147483648), 2147483647), (4, 0, 0), (4, 0, 0), (4, 0, 0)]
  | 84 => [(4, 0, 0)]
  | 85 => [(4, 0, 0), (4, 0, 0), (0, (-2147483648), 2147483647), (4, 0, 0)]
  | 86 => [(4, 0, 0)]
  | 87 => [(4, 0, 0), (4, 0, 0), (4, 0, 0), (4, 0, 0), (0, 0, 6), (0, (-2147483648), 2147483647), (4, 0, 0), (4, 0, 0), (4, 0, 0)]
  | 88 => [(4, 0, 0), (4, 0, 0), (4, 0, 0), (4, 0, 0), (4, 0, 0), (0, 0, 1)]
  | 89 => [(4, 0, 0), (0, 0, 0), (0, 0, 1), (0, 0, 2000)]
  | 90 => [(4, 0, 0), (0, 0, 0), (0, (-2147483648), 2147483647), (0, 0, 1)]
  | _ => []
/-- the class of a kind -/
def q_ck : Nat → Nat := fun k => match k with
  | 0 => 5
  | 1 => 6
  | 2 => 7
  | 3 => 8
  | 4 => 9
  | 5 => 10
  | 6 => 11
  | 7 => 12
  | 8 => 13
  | 9 => 14
  | 10 => 15
  | 11 => 16
  | 13 => 15
  | 14 => 15
  | 15 => 15
  | 17 => 10
  | 18 => 10
  | 19 => 10
  | 21 => 8
  | 22 => 8
  | 23 => 8
  | 25 => 9
  | 26 => 9
  | 27 => 9
  | 50 => 15
  | 51 => 15
  | 52 => 15
  | 53 => 15
  | 54 => 15
  | 55 => 15
  | 56 => 10
  | 57 => 10
  | 58 => 10
  | 59 => 10
  | 60 => 10
  | 61 => 10
  | 62 => 8
  | 63 => 8
  | 64 => 8
  | 65 => 8
  | 66 => 8
  | 67 => 8
  | 68 => 9
  | 69 => 9
  | 70 => 9
  | 71 => 9
  | 72 => 9
  | 73 => 9
  | 74 => 17
  | 75 => 18
  | 76 => 4
  | 77 => 4
  | 78 => 4
  | 79 => 3
  | 80 => 3
  | 81 => 3
  | 82 => 23
  | 83 => 22
  | 84 => 21
  | 85 => 20
  | 86 => 23
  | 87 => 22
  | 88 => 19
  | 89 => 1
  | 90 => 0
  | _ => 0
/-- an array's type by its number in q_tys, its length -/
def q_at : Nat → Nat × Nat := fun k => match k with
  | 110 => (7, 10)
  | 111 => (7, 10)
  | 112 => (7, 10)
  | 113 => (7, 10)
  | 120 => (5, 16)
  | 121 => (5, 16)
  | 122 => (5, 16)
  | 123 => (5, 16)
  | 130 => (6, 61)
  | 131 => (6, 61)
  | 132 => (6, 61)
  | 133 => (6, 61)
  | 141 => (4, 30)
  | 142 => (0, 600)
  | 143 => (0, 600)
  | 160 => (3, 10)
  | 161 => (3, 10)
  | 162 => (3, 10)
  | 163 => (1, 5)
  | 164 => (1, 8)
  | 165 => (1, 10)
  | 166 => (2, 10)
  | 167 => (1, 5)
  | 168 => (1, 2)
  | 170 => (1, 11)
  | 171 => (1, 4)
  | 172 => (1, 10)
  | 173 => (2, 10)
  | 174 => (2, 10)
  | 200 => (7, 10)
  | 201 => (7, 10)
  | 202 => (7, 10)
  | 203 => (7, 10)
  | 204 => (7, 10)
  | 205 => (7, 10)
  | 206 => (5, 16)
  | 207 => (5, 16)
  | 208 => (5, 16)
  | 209 => (5, 16)
  | 210 => (5, 16)
  | 211 => (5, 16)
  | 212 => (6, 61)
  | 213 => (6, 61)
  | 214 => (6, 61)
  | 215 => (6, 61)
  | 216 => (6, 61)
  | 217 => (6, 61)
  | 218 => (8, 6)
  | k => if 1000 ≤ k then (0, k - 1000) else if 600 ≤ k then (9, k - 600) else (0, 0)
/-- the kept villages, by their places -/
def q_ek : Nat → q_T := fun i => match i with
  | 0 => (2, 50, 0)
  | 1 => (2, 51, 0)
  | 2 => (2, 52, 0)
  | 3 => (2, 53, 0)
  | 4 => (2, 54, 0)
  | _ => (2, 55, 0)
def q_et : Nat → Nat → q_T := fun k i => match k, i with
  | 110, _ => (2, 5, 0)
  | 111, _ => (2, 17, 0)
  | 112, _ => (2, 18, 0)
  | 113, _ => (2, 19, 0)
  | 120, _ => (2, 3, 0)
  | 121, _ => (2, 21, 0)
  | 122, _ => (2, 22, 0)
  | 123, _ => (2, 23, 0)
  | 130, _ => (2, 4, 0)
  | 131, _ => (2, 25, 0)
  | 132, _ => (2, 26, 0)
  | 133, _ => (2, 27, 0)
  | 141, _ => (2, 0, 0)
  | 142, _ => (0, (-128), 127)
  | 143, _ => (0, (-128), 127)
  | 160, _ => (4, 0, 0)
  | 161, _ => (4, 0, 0)
  | 162, _ => (4, 0, 0)
  | 163, _ => (0, (-2147483648), 2147483647)
  | 164, _ => (0, (-2147483648), 2147483647)
  | 165, _ => (0, (-2147483648), 2147483647)
  | 166, _ => (0, 0, 1)
  | 167, _ => (0, (-2147483648), 2147483647)
  | 168, _ => (0, 0, 59)
  | 170, _ => (0, (-2147483648), 2147483647)
  | 171, _ => (0, (-2147483648), 2147483647)
  | 172, _ => (0, (-2147483648), 2147483647)
  | 173, _ => (0, 0, 1)
  | 174, _ => (0, 0, 1)
  | 200, _ => (2, 56, 0)
  | 201, _ => (2, 57, 0)
  | 202, _ => (2, 58, 0)
  | 203, _ => (2, 59, 0)
  | 204, _ => (2, 60, 0)
  | 205, _ => (2, 61, 0)
  | 206, _ => (2, 62, 0)
  | 207, _ => (2, 63, 0)
  | 208, _ => (2, 64, 0)
  | 209, _ => (2, 65, 0)
  | 210, _ => (2, 66, 0)
  | 211, _ => (2, 67, 0)
  | 212, _ => (2, 68, 0)
  | 213, _ => (2, 69, 0)
  | 214, _ => (2, 70, 0)
  | 215, _ => (2, 71, 0)
  | 216, _ => (2, 72, 0)
  | 217, _ => (2, 73, 0)
  | 218, i => q_ek i
  | k, _ => if 1000 ≤ k then (0, -128, 127) else if 600 ≤ k then (4, 0, 0) else (0, 0, 0)
/-- a cell of kind k: below 100 an object of class k, above an array -/
def q_Sh (g : q_G) (k : Nat) (e : va_E) (ok : q_T → Value → Prop) : Prop :=
  if k < 100 then ∃ fs : List Value, e = .inr (q_ck k, fs) ∧ fs.length = (q_ft k).length ∧ ∀ (i : Nat) (t : q_T), (q_ft k)[i]? = some t → ok t (fs.getD i .null)
  else ∃ h, e = .inl (g.2 (q_at k).1, (q_at k).2, h) ∧ q_Ar (q_at k).1 h ∧ ∀ i : Nat, i < (q_at k).2 → ok (q_et k i) (q_vE e i)
def q_Ty (g : q_G) (K : Nat → Nat) (L : List Nat) (f : Nat → va_E) : Prop := ∀ a ∈ L, q_Sh g (K a) (f a) (q_ok K L)
/-- which places a method may write: (kind, from, to) -/
abbrev q_Ws : Type := List (Nat × Nat × Nat)
def q_inW (w : q_Ws) (k i : Nat) : Bool := w.any (fun q => q.1 == k && decide (q.2.1 ≤ i) && decide (i ≤ q.2.2))
def q_wsub (w w' : q_Ws) : Bool := w.all (fun q => w'.any (fun r => q.1 == r.1 && decide (r.2.1 ≤ q.2.1) && decide (q.2.2 ≤ r.2.2)))
def q_Fr (w : q_Ws) (K : Nat → Nat) (L : List Nat) (f f1 : Nat → va_E) : Prop := ∀ a ∈ L, ∀ i : Nat, q_inW w (K a) i = false → q_v f1 a i = q_v f a i
theorem q_Fr.rf {w : q_Ws} {K : Nat → Nat} {L : List Nat} {f : Nat → va_E} : q_Fr w K L f f := fun _ _ _ _ => rfl
theorem q_Fr.tr {w : q_Ws} {K : Nat → Nat} {L : List Nat} {f f1 f2 : Nat → va_E} (h : q_Fr w K L f f1) (h2 : q_Fr w K L f1 f2) : q_Fr w K L f f2 := fun a ha i hi => (h2 a ha i hi).trans (h a ha i hi)
theorem q_wsub_in {w w' : q_Ws} (h : q_wsub w w' = true) {k i : Nat} (hi : q_inW w' k i = false) : q_inW w k i = false := by
  cases hw : q_inW w k i with
  | false => rfl
  | true =>
    rw [q_inW, List.any_eq_true] at hw
    obtain ⟨q, hq, h1⟩ := hw
    have h2 := List.all_eq_true.mp h q hq
    rw [List.any_eq_true] at h2
    obtain ⟨r, hr, h3⟩ := h2
    simp only [Bool.and_eq_true, beq_iff_eq, decide_eq_true_eq] at h1 h3
    have h4 : q_inW w' k i = true := by
      rw [q_inW, List.any_eq_true]
      refine ⟨r, hr, ?_⟩
      simp only [Bool.and_eq_true, beq_iff_eq, decide_eq_true_eq]
      omega
    rw [hi] at h4
    cases h4
theorem q_Fr.mono {w w' : q_Ws} {K : Nat → Nat} {L : List Nat} {f f1 : Nat → va_E} (h : q_Fr w K L f f1) (hs : q_wsub w w' = true) : q_Fr w' K L f f1 := fun a ha i hi => h a ha i (q_wsub_in hs hi)
theorem q_Fr.z {w : q_Ws} {K : Nat → Nat} {L : List Nat} {f f1 : Nat → va_E} (h : q_Fr w K L f f1) {a i : Nat} (ha : a ∈ L) (hi : q_inW w (K a) i = false) : q_z f1 a i = q_z f a i := congrArg q_iv (h a ha i hi)
theorem q_Fr.r {w : q_Ws} {K : Nat → Nat} {L : List Nat} {f f1 : Nat → va_E} (h : q_Fr w K L f f1) {a i : Nat} (ha : a ∈ L) (hi : q_inW w (K a) i = false) : q_r f1 a i = q_r f a i := congrArg q_rv (h a ha i hi)
/-- a place written -/
def q_setE : va_E → Nat → Value → va_E
  | .inr o, i, v => .inr (o.1, o.2.set i v)
  | .inl (c, n, .inl h), i, .int x => .inl (c, n, .inl (upd h i x))
  | .inl (c, n, .inr (.inl h)), i, .long x => .inl (c, n, .inr (.inl (vp_updL h i x)))
  | .inl (c, n, .inr (.inr (.inr (.inl h)))), i, .double x => .inl (c, n, .inr (.inr (.inr (.inl (vf_upd h i x)))))
  | .inl (c, n, .inr (.inr (.inr (.inr h)))), i, .ref x => .inl (c, n, .inr (.inr (.inr (.inr (va_up h i (some x))))))
  | e, _, _ => e
def q_set (f : Nat → va_E) (a i : Nat) (v : Value) : Nat → va_E := va_up f a (q_setE (f a) i v)
theorem q_set_ne {f : Nat → va_E} {a i b j : Nat} {v : Value} (h : b ≠ a ∨ j ≠ i) : q_v (q_set f a i v) b j = q_v f b j := by
  by_cases hb : b = a
  · subst hb
    have hj : j ≠ i := h.resolve_left (fun q => q rfl)
    simp only [q_v, q_set, va_up_self]
    generalize f b = e
    obtain ⟨c, n, h | h | h | h | h⟩ | ⟨o, fs⟩ := e
    · cases v <;> simp [q_setE, q_vE, upd, hj]
    · cases v <;> simp [q_setE, q_vE, vp_updL, hj]
    · cases v <;> simp [q_setE, q_vE]
    · cases v <;> simp [q_setE, q_vE, vf_upd, hj]
    · cases v <;> simp [q_setE, q_vE, va_up, hj]
    · simp only [q_setE, q_vE, List.getD_eq_getElem?_getD]
      rw [List.getElem?_set_ne (Ne.symm hj)]
  · simp only [q_v, q_set, va_up_ne _ _ hb]
theorem q_setz {f : Nat → va_E} {a i b j : Nat} {v : Value} (h : b ≠ a ∨ j ≠ i) : q_z (q_set f a i v) b j = q_z f b j := congrArg q_iv (q_set_ne h)
theorem q_setr {f : Nat → va_E} {a i b j : Nat} {v : Value} (h : b ≠ a ∨ j ≠ i) : q_r (q_set f a i v) b j = q_r f b j := congrArg q_rv (q_set_ne h)
/-- the value of an object's place once written -/
theorem q_set_eq {f : Nat → va_E} {a i k : Nat} {fs : List Value} {v : Value} (h : f a = .inr (k, fs)) (hi : i < fs.length) : q_v (q_set f a i v) a i = v := by
  simp only [q_v, q_set, va_up_self, h, q_setE, q_vE, List.getD_eq_getElem?_getD]
  rw [List.getElem?_set_self hi]
  rfl
theorem q_ty_obj {g : q_G} {K : Nat → Nat} {L : List Nat} {f : Nat → va_E} (hT : q_Ty g K L f) {a k : Nat} (ha : a ∈ L) (hk : K a = k) (hc : k < 100) : ∃ fs : List Value, f a = .inr (q_ck k, fs) ∧ fs.length = (q_ft k).length ∧ ∀ (i : Nat) (t : q_T), (q_ft k)[i]? = some t → q_ok K L t (fs.getD i .null) := by
  have h := hT a ha
  rw [hk] at h
  unfold q_Sh at h
  rw [if_pos hc] at h
  exact h
theorem q_ty_arr {g : q_G} {K : Nat → Nat} {L : List Nat} {f : Nat → va_E} (hT : q_Ty g K L f) {a k : Nat} (ha : a ∈ L) (hk : K a = k) (hc : ¬ k < 100) : ∃ h, f a = .inl (g.2 (q_at k).1, (q_at k).2, h) ∧ q_Ar (q_at k).1 h ∧ ∀ i : Nat, i < (q_at k).2 → q_ok K L (q_et k i) (q_v f a i) := by
  have h := hT a ha
  rw [hk] at h
  unfold q_Sh at h
  rw [if_neg hc] at h
  exact h
theorem q_getD {l : List Value} {i : Nat} (h : i < l.length) : l[i]? = some (l.getD i .null) := by
  rw [List.getD_eq_getElem?_getD]
  rw [List.getElem?_eq_getElem h]
  rfl
theorem q_fi {g : q_G} {K : Nat → Nat} {L : List Nat} {f : Nat → va_E} (hT : q_Ty g K L f) {a k j : Nat} {lo hi : Int} (ha : a ∈ L) (hk : K a = k) (hc : k < 100) (hj : (q_ft k)[j]? = some (0, lo, hi)) : ∃ fs : List Value, f a = .inr (q_ck k, fs) ∧ fs.length = (q_ft k).length ∧ fs[j]? = some (.int (q_i (q_z f a j))) ∧ lo ≤ q_z f a j ∧ q_z f a j ≤ hi := by
  obtain ⟨fs, h1, h2, h3⟩ := q_ty_obj hT ha hk hc
  obtain ⟨x, h4, h5, h6⟩ := h3 j _ hj
  have hl : j < fs.length := by rw [h2]; exact (List.getElem?_eq_some_iff.mp hj).1
  have hz : q_z f a j = x.toInt := by simp only [q_z, q_v, h1, q_vE, h4, q_iv]
  refine ⟨fs, h1, h2, ?_, by rw [hz]; exact h5, by rw [hz]; exact h6⟩
  rw [q_getD hl, h4, hz, q_of]
theorem q_fr {g : q_G} {K : Nat → Nat} {L : List Nat} {f : Nat → va_E} (hT : q_Ty g K L f) {a k j : Nat} {k2 hi : Int} (ha : a ∈ L) (hk : K a = k) (hc : k < 100) (hj : (q_ft k)[j]? = some (2, k2, hi)) : ∃ fs : List Value, f a = .inr (q_ck k, fs) ∧ fs.length = (q_ft k).length ∧ fs[j]? = some (.ref (q_r f a j)) ∧ q_r f a j ∈ L ∧ K (q_r f a j) = k2.toNat := by
  obtain ⟨fs, h1, h2, h3⟩ := q_ty_obj hT ha hk hc
  obtain ⟨x, h4, h5, h6⟩ := h3 j _ hj
  have hl : j < fs.length := by rw [h2]; exact (List.getElem?_eq_some_iff.mp hj).1
  have hz : q_r f a j = x := by simp only [q_r, q_v, h1, q_vE, h4, q_rv]
  refine ⟨fs, h1, h2, ?_, by rw [hz]; exact h5, by rw [hz]; exact h6⟩
  rw [q_getD hl, h4, hz]
theorem q_fl {g : q_G} {K : Nat → Nat} {L : List Nat} {f : Nat → va_E} (hT : q_Ty g K L f) {a k j : Nat} {lo hi : Int} (ha : a ∈ L) (hk : K a = k) (hc : k < 100) (hj : (q_ft k)[j]? = some (1, lo, hi)) : ∃ fs : List Value, f a = .inr (q_ck k, fs) ∧ fs.length = (q_ft k).length ∧ fs[j]? = some (.long (q_j f a j)) := by
  obtain ⟨fs, h1, h2, h3⟩ := q_ty_obj hT ha hk hc
  obtain ⟨x, h4⟩ := h3 j _ hj
  have hl : j < fs.length := by rw [h2]; exact (List.getElem?_eq_some_iff.mp hj).1
  have hz : q_j f a j = x := by simp only [q_j, q_v, h1, q_vE, h4, q_lv]
  refine ⟨fs, h1, h2, ?_⟩
  rw [q_getD hl, h4, hz]
/-- writing what fits keeps the kinds -/
theorem q_ty_set {g : q_G} {K : Nat → Nat} {L : List Nat} {f : Nat → va_E} (hT : q_Ty g K L f) {a k i : Nat} {t : q_T} {v : Value} (hk : K a = k) (hc : k < 100) (hi : (q_ft k)[i]? = some t) (hv : q_ok K L t v) : q_Ty g K L (q_set f a i v) := by
  intro b hb
  by_cases hba : b = a
  · subst hba
    obtain ⟨fs, h1, h2, h3⟩ := q_ty_obj hT hb hk hc
    rw [hk]
    unfold q_Sh
    rw [if_pos hc]
    refine ⟨fs.set i v, by simp only [q_set, va_up_self, h1, q_setE], by rw [List.length_set]; exact h2, fun j u hj => ?_⟩
    by_cases hji : j = i
    · subst hji
      have hl : j < fs.length := by rw [h2]; exact (List.getElem?_eq_some_iff.mp hj).1
      rw [List.getD_eq_getElem?_getD, List.getElem?_set_self hl]
      cases hi.symm.trans hj
      exact hv
    · rw [List.getD_eq_getElem?_getD, List.getElem?_set_ne (Ne.symm hji), ← List.getD_eq_getElem?_getD]
      exact h3 j u hj
  · have h := hT b hb
    simp only [q_set, va_up_ne _ _ hba]
    exact h
theorem q_ty_seta {g : q_G} {K : Nat → Nat} {L : List Nat} {f : Nat → va_E} (hT : q_Ty g K L f) {a k i : Nat} {x : Int32} (hk : K a = k) (hc : ¬ k < 100) (hz : (q_at k).1 = 0 ∨ (q_at k).1 = 1 ∨ (q_at k).1 = 2) (hi : q_ok K L (q_et k i) (.int x)) : q_Ty g K L (q_set f a i (.int x)) := by
  intro b hb
  by_cases hba : b = a
  · subst hba
    obtain ⟨h, h1, h2, h3⟩ := q_ty_arr hT hb hk hc
    rw [hk]
    unfold q_Sh
    rw [if_neg hc]
    have h4 : ∃ y, h = .inl y := by rcases hz with q | q | q <;> rw [q] at h2 <;> exact h2
    obtain ⟨y, rfl⟩ := h4
    refine ⟨.inl (upd y i x), by simp only [q_set, va_up_self, h1, q_setE], by rcases hz with q | q | q <;> rw [q] <;> exact ⟨_, rfl⟩, fun j hj => ?_⟩
    by_cases hji : j = i
    · subst hji
      have e : q_vE (q_set f b j (.int x) b) j = .int x := by simp only [q_set, va_up_self, h1, q_setE, q_vE, upd, if_true]
      rw [e]
      exact hi
    · have e := q_set_ne (f := f) (a := b) (i := i) (b := b) (j := j) (v := .int x) (Or.inr hji)
      have e2 : q_vE (q_set f b i (.int x) b) j = q_v f b j := e
      rw [e2]
      exact h3 j hj
  · have h := hT b hb
    simp only [q_set, va_up_ne _ _ hba]
    exact h
/-- all that a body knows of the cells -/
def q_B (g : q_G) (K : Nat → Nat) (L : List Nat) (A : Nat → Prop) (w : q_Ws) (f0 f : Nat → va_E) (s : State) (H : Heap) (locs : List Loc) : Prop := q_W g L A f s H locs ∧ q_Ty g K L f ∧ q_Fr w K L f0 f
/-- said so that arithmetic does not look at it -/
def q_is (a b : Int) : Prop := a = b
def q_ir (a b : Nat) : Prop := a = b
theorem q_isr (a : Int) : q_is a a := rfl
theorem q_irr (a : Nat) : q_ir a a := rfl
def q_al : List Cond := lw_tbl.filter goodWord
theorem q_ali (i : Nat) {w : Cond} (h : lw_tbl[i]? = some w) (hg : goodWord w = true) : w ∈ q_al := List.mem_filter.mpr ⟨List.mem_of_getElem? h, hg⟩
theorem q_good {c0 : Cond} {ws : List Cond} (h : ∀ w ∈ ws, w ∈ q_al) : GoodIn (c0 :: q_al) ws := fun w hw => ⟨List.mem_cons_of_mem _ (h w hw), good_of_word (List.mem_filter.mp (h w hw)).2⟩
theorem q_goodA {ws : List Cond} (h : ∀ w ∈ ws, w ∈ q_al) : GoodIn q_al ws := fun w hw => ⟨h w hw, good_of_word (List.mem_filter.mp (h w hw)).2⟩
theorem q_cons {a : Cond} {l : List Cond} (h : a ∈ q_al) (t : ∀ w ∈ l, w ∈ q_al) : ∀ w ∈ a :: l, w ∈ q_al := fun w hw => (List.mem_cons.mp hw).elim (fun e => e ▸ h) (t w)
theorem q_nil : ∀ w ∈ ([] : List Cond), w ∈ q_al := fun _ h => nomatch h
theorem q_self : ∀ w ∈ q_al, w ∈ q_al := fun _ h => h
section QP
variable {p : Program} {l : Launch} {e : Env} {R : Room} {s : State} {m : MethodId} {args : Array Value} {below : List Frame} {meth : Method} {c : Code} {H : Heap} {locs : List Loc} {cells slots : Nat} {Q : State → Prop}
variable {cc : ByteArray} {pc nL : Nat} {ls : Array Slot} {rest : List Value} {own : String}
/-! pure rows -/
theorem q_iadd (cx : CallFix p m c cc nL s args q_al own) {x y : Int} (hdg : decode cc pc = .ok (.iadd, 1)) (k : W p l e R s m args below meth c H locs cells slots Q (F0 m (pc + 1) ls (.int (q_i (x + y)) :: rest))) : W p l e R s m args below meth c H locs cells slots Q (F0 m pc ls (.int (q_i y) :: .int (q_i x) :: rest)) := lv_iadd cx.1 cx.2.1 hdg (by rw [q_add]; exact k)
theorem q_isub (cx : CallFix p m c cc nL s args q_al own) {x y : Int} (hdg : decode cc pc = .ok (.isub, 1)) (k : W p l e R s m args below meth c H locs cells slots Q (F0 m (pc + 1) ls (.int (q_i (x - y)) :: rest))) : W p l e R s m args below meth c H locs cells slots Q (F0 m pc ls (.int (q_i y) :: .int (q_i x) :: rest)) := lv_isub cx.1 cx.2.1 hdg (by rw [q_sub]; exact k)
theorem q_imul (cx : CallFix p m c cc nL s args q_al own) {x y : Int} (hdg : decode cc pc = .ok (.imul, 1)) (k : W p l e R s m args below meth c H locs cells slots Q (F0 m (pc + 1) ls (.int (q_i (x * y)) :: rest))) : W p l e R s m args below meth c H locs cells slots Q (F0 m pc ls (.int (q_i y) :: .int (q_i x) :: rest)) := lv_imul cx.1 cx.2.1 hdg (by rw [q_mul]; exact k)
/-- a number that nothing is known of gets a name -/
theorem q_any {x : Int32} (k : ∀ z : Int, q_R z → x = q_i z → W p l e R s m args below meth c H locs cells slots Q (F0 m pc ls (.int (q_i z) :: rest))) : W p l e R s m args below meth c H locs cells slots Q (F0 m pc ls (.int x :: rest)) := by
  have h := k x.toInt (q_rng x) (q_of x).symm
  rw [q_of] at h
  exact h
theorem q_iconst (cx : CallFix p m c cc nL s args q_al own) {n : Int} (hdg : decode cc pc = .ok (.iconst n, 1)) (k : W p l e R s m args below meth c H locs cells slots Q (F0 m (pc + 1) ls (.int (q_i n) :: rest))) : W p l e R s m args below meth c H locs cells slots Q (F0 m pc ls rest) := lv_iconst cx.1 cx.2.1 hdg rfl k
theorem q_bipush (cx : CallFix p m c cc nL s args q_al own) {n : Int} (hdg : decode cc pc = .ok (.bipush n, 2)) (hn : (Int8.ofInt n).toInt32 = q_i n) (k : W p l e R s m args below meth c H locs cells slots Q (F0 m (pc + 2) ls (.int (q_i n) :: rest))) : W p l e R s m args below meth c H locs cells slots Q (F0 m pc ls rest) := lv_bipush cx.1 cx.2.1 hdg hn k
theorem q_sipush (cx : CallFix p m c cc nL s args q_al own) {n : Int} (hdg : decode cc pc = .ok (.sipush n, 3)) (hn : (Int16.ofInt n).toInt32 = q_i n) (k : W p l e R s m args below meth c H locs cells slots Q (F0 m (pc + 3) ls (.int (q_i n) :: rest))) : W p l e R s m args below meth c H locs cells slots Q (F0 m pc ls rest) := lv_sipush cx.1 cx.2.1 hdg hn k
theorem q_ild_n (cx : CallFix p m c cc nL s args q_al own) {k : Fin 4} {i : Nat} {x : Int32} (hdg : decode cc pc = .ok (.iload_n k, 1)) (hi : (k : Nat) = i) (hl : ls[i]? = some (.val (.int x))) (kk : W p l e R s m args below meth c H locs cells slots Q (F0 m (pc + 1) ls (.int x :: rest))) : W p l e R s m args below meth c H locs cells slots Q (F0 m pc ls rest) := lv_iload_n cx.1 cx.2.1 hdg hi hl kk
theorem q_ald_n (cx : CallFix p m c cc nL s args q_al own) {k : Fin 4} {i : Nat} {x : Addr} (hdg : decode cc pc = .ok (.aload_n k, 1)) (hi : (k : Nat) = i) (hl : ls[i]? = some (.val (.ref x))) (kk : W p l e R s m args below meth c H locs cells slots Q (F0 m (pc + 1) ls (.ref x :: rest))) : W p l e R s m args below meth c H locs cells slots Q (F0 m pc ls rest) := lv_aload_n cx.1 cx.2.1 hdg hi hl kk
theorem q_lld_n (cx : CallFix p m c cc nL s args q_al own) {k : Fin 4} {i : Nat} {x : Int64} (hdg : decode cc pc = .ok (.lload_n k, 1)) (hi : (k : Nat) = i) (hl : ls[i]? = some (.val (.long x))) (kk : W p l e R s m args below meth c H locs cells slots Q (F0 m (pc + 1) ls (.long x :: rest))) : W p l e R s m args below meth c H locs cells slots Q (F0 m pc ls rest) := lv_lload_n cx.1 cx.2.1 hdg hi hl kk
theorem q_iinc (cx : CallFix p m c cc nL s args q_al own) {i k : Nat} {n x : Int} {lv lv' : List (Nat × Value)} (hdg : decode cc pc = .ok (.iinc i n, 3)) (h : lv_has ls nL lv) (hk : lv[k]? = some (i, .int (q_i x))) (hn : i < nL) (hl : (i, Value.int (q_i (x + n))) :: lv.filter (fun q => !(q.1 == i) && !(q.1 + 1 == i && q.2.category == 2)) = lv')
    (kk : ∀ ls' : Array Slot, lv_has ls' nL lv' → W p l e R s m args below meth c H locs cells slots Q (F0 m (pc + 3) ls' rest)) : W p l e R s m args below meth c H locs cells slots Q (F0 m pc ls rest) := lv_iinc (v := q_i (x + n)) cx.1 cx.2.1 hdg h hk (q_add x n) hn hl kk
theorem q_ifeq (cx : CallFix p m c cc nL s args q_al own) {x : Int} {off : Int} {tgt : Nat} (hx : q_R x) (hdg : decode cc pc = .ok (.ifCond .eq off, 3)) (ht : (pc : Int) + off = (tgt : Int)) (kt : x = 0 → W p l e R s m args below meth c H locs cells slots Q (F0 m tgt ls rest)) (kf : ¬ x = 0 → W p l e R s m args below meth c H locs cells slots Q (F0 m (pc + 3) ls rest)) : W p l e R s m args below meth c H locs cells slots Q (F0 m pc ls (.int (q_i x) :: rest)) :=
  lv_if_eq cx.1 cx.2.1 hdg ht (fun h => kt ((q_eq hx ⟨by decide, by decide⟩).mp h)) (fun h => kf (fun z => h ((q_eq hx ⟨by decide, by decide⟩).mpr z)))
theorem q_ifne (cx : CallFix p m c cc nL s args q_al own) {x : Int} {off : Int} {tgt : Nat} (hx : q_R x) (hdg : decode cc pc = .ok (.ifCond .ne off, 3)) (ht : (pc : Int) + off = (tgt : Int)) (kt : ¬ x = 0 → W p l e R s m args below meth c H locs cells slots Q (F0 m tgt ls rest)) (kf : x = 0 → W p l e R s m args below meth c H locs cells slots Q (F0 m (pc + 3) ls rest)) : W p l e R s m args below meth c H locs cells slots Q (F0 m pc ls (.int (q_i x) :: rest)) :=
  lv_if_ne cx.1 cx.2.1 hdg ht (fun h => kt (fun z => h ((q_eq hx ⟨by decide, by decide⟩).mpr z))) (fun h => kf ((q_eq hx ⟨by decide, by decide⟩).mp h))
theorem q_iflt (cx : CallFix p m c cc nL s args q_al own) {x : Int} {off : Int} {tgt : Nat} (hx : q_R x) (hdg : decode cc pc = .ok (.ifCond .lt off, 3)) (ht : (pc : Int) + off = (tgt : Int)) (kt : x < 0 → W p l e R s m args below meth c H locs cells slots Q (F0 m tgt ls rest)) (kf : 0 ≤ x → W p l e R s m args below meth c H locs cells slots Q (F0 m (pc + 3) ls rest)) : W p l e R s m args below meth c H locs cells slots Q (F0 m pc ls (.int (q_i x) :: rest)) :=
  lv_if_lt cx.1 cx.2.1 hdg ht (fun h => kt ((q_lt hx ⟨by decide, by decide⟩).mp h)) (fun h => kf (Int.not_lt.mp (fun z => h ((q_lt hx ⟨by decide, by decide⟩).mpr z))))
theorem q_ifge (cx : CallFix p m c cc nL s args q_al own) {x : Int} {off : Int} {tgt : Nat} (hx : q_R x) (hdg : decode cc pc = .ok (.ifCond .ge off, 3)) (ht : (pc : Int) + off = (tgt : Int)) (kt : 0 ≤ x → W p l e R s m args below meth c H locs cells slots Q (F0 m tgt ls rest)) (kf : x < 0 → W p l e R s m args below meth c H locs cells slots Q (F0 m (pc + 3) ls rest)) : W p l e R s m args below meth c H locs cells slots Q (F0 m pc ls (.int (q_i x) :: rest)) :=
  lv_if_ge cx.1 cx.2.1 hdg ht (fun h => kt ((q_le ⟨by decide, by decide⟩ hx).mp h)) (fun h => kf (Int.not_le.mp (fun z => h ((q_le ⟨by decide, by decide⟩ hx).mpr z))))
theorem q_ifgt (cx : CallFix p m c cc nL s args q_al own) {x : Int} {off : Int} {tgt : Nat} (hx : q_R x) (hdg : decode cc pc = .ok (.ifCond .gt off, 3)) (ht : (pc : Int) + off = (tgt : Int)) (kt : 0 < x → W p l e R s m args below meth c H locs cells slots Q (F0 m tgt ls rest)) (kf : x ≤ 0 → W p l e R s m args below meth c H locs cells slots Q (F0 m (pc + 3) ls rest)) : W p l e R s m args below meth c H locs cells slots Q (F0 m pc ls (.int (q_i x) :: rest)) :=
  lv_if_gt cx.1 cx.2.1 hdg ht (fun h => kt ((q_lt ⟨by decide, by decide⟩ hx).mp h)) (fun h => kf (Int.not_lt.mp (fun z => h ((q_lt ⟨by decide, by decide⟩ hx).mpr z))))
theorem q_ifle (cx : CallFix p m c cc nL s args q_al own) {x : Int} {off : Int} {tgt : Nat} (hx : q_R x) (hdg : decode cc pc = .ok (.ifCond .le off, 3)) (ht : (pc : Int) + off = (tgt : Int)) (kt : x ≤ 0 → W p l e R s m args below meth c H locs cells slots Q (F0 m tgt ls rest)) (kf : 0 < x → W p l e R s m args below meth c H locs cells slots Q (F0 m (pc + 3) ls rest)) : W p l e R s m args below meth c H locs cells slots Q (F0 m pc ls (.int (q_i x) :: rest)) :=
  lv_if_le cx.1 cx.2.1 hdg ht (fun h => kt ((q_le hx ⟨by decide, by decide⟩).mp h)) (fun h => kf (Int.not_le.mp (fun z => h ((q_le hx ⟨by decide, by decide⟩).mpr z))))
theorem q_iceq (cx : CallFix p m c cc nL s args q_al own) {x y : Int} {off : Int} {tgt : Nat} (hx : q_R x) (hy : q_R y) (hdg : decode cc pc = .ok (.if_icmp .eq off, 3)) (ht : (pc : Int) + off = (tgt : Int)) (kt : x = y → W p l e R s m args below meth c H locs cells slots Q (F0 m tgt ls rest)) (kf : ¬ x = y → W p l e R s m args below meth c H locs cells slots Q (F0 m (pc + 3) ls rest)) : W p l e R s m args below meth c H locs cells slots Q (F0 m pc ls (.int (q_i y) :: .int (q_i x) :: rest)) :=
  lv_icmp_eq cx.1 cx.2.1 hdg ht (fun h => kt ((q_eq hx hy).mp h)) (fun h => kf (fun z => h ((q_eq hx hy).mpr z)))
theorem q_icne (cx : CallFix p m c cc nL s args q_al own) {x y : Int} {off : Int} {tgt : Nat} (hx : q_R x) (hy : q_R y) (hdg : decode cc pc = .ok (.if_icmp .ne off, 3)) (ht : (pc : Int) + off = (tgt : Int)) (kt : ¬ x = y → W p l e R s m args below meth c H locs cells slots Q (F0 m tgt ls rest)) (kf : x = y → W p l e R s m args below meth c H locs cells slots Q (F0 m (pc + 3) ls rest)) : W p l e R s m args below meth c H locs cells slots Q (F0 m pc ls (.int (q_i y) :: .int (q_i x) :: rest)) :=
  lv_icmp_ne cx.1 cx.2.1 hdg ht (fun h => kt (fun z => h ((q_eq hx hy).mpr z))) (fun h => kf ((q_eq hx hy).mp h))
theorem q_iclt (cx : CallFix p m c cc nL s args q_al own) {x y : Int} {off : Int} {tgt : Nat} (hx : q_R x) (hy : q_R y) (hdg : decode cc pc = .ok (.if_icmp .lt off, 3)) (ht : (pc : Int) + off = (tgt : Int)) (kt : x < y → W p l e R s m args below meth c H locs cells slots Q (F0 m tgt ls rest)) (kf : y ≤ x → W p l e R s m args below meth c H locs cells slots Q (F0 m (pc + 3) ls rest)) : W p l e R s m args below meth c H locs cells slots Q (F0 m pc ls (.int (q_i y) :: .int (q_i x) :: rest)) :=
  lv_icmp_lt cx.1 cx.2.1 hdg ht (fun h => kt ((q_lt hx hy).mp h)) (fun h => kf (Int.not_lt.mp (fun z => h ((q_lt hx hy).mpr z))))
theorem q_icge (cx : CallFix p m c cc nL s args q_al own) {x y : Int} {off : Int} {tgt : Nat} (hx : q_R x) (hy : q_R y) (hdg : decode cc pc = .ok (.if_icmp .ge off, 3)) (ht : (pc : Int) + off = (tgt : Int)) (kt : y ≤ x → W p l e R s m args below meth c H locs cells slots Q (F0 m tgt ls rest)) (kf : x < y → W p l e R s m args below meth c H locs cells slots Q (F0 m (pc + 3) ls rest)) : W p l e R s m args below meth c H locs cells slots Q (F0 m pc ls (.int (q_i y) :: .int (q_i x) :: rest)) :=
  lv_icmp_ge cx.1 cx.2.1 hdg ht (fun h => kt ((q_le hy hx).mp h)) (fun h => kf (Int.not_le.mp (fun z => h ((q_le hy hx).mpr z))))
theorem q_icgt (cx : CallFix p m c cc nL s args q_al own) {x y : Int} {off : Int} {tgt : Nat} (hx : q_R x) (hy : q_R y) (hdg : decode cc pc = .ok (.if_icmp .gt off, 3)) (ht : (pc : Int) + off = (tgt : Int)) (kt : y < x → W p l e R s m args below meth c H locs cells slots Q (F0 m tgt ls rest)) (kf : x ≤ y → W p l e R s m args below meth c H locs cells slots Q (F0 m (pc + 3) ls rest)) : W p l e R s m args below meth c H locs cells slots Q (F0 m pc ls (.int (q_i y) :: .int (q_i x) :: rest)) :=
  lv_icmp_gt cx.1 cx.2.1 hdg ht (fun h => kt ((q_lt hy hx).mp h)) (fun h => kf (Int.not_lt.mp (fun z => h ((q_lt hy hx).mpr z))))
theorem q_icle (cx : CallFix p m c cc nL s args q_al own) {x y : Int} {off : Int} {tgt : Nat} (hx : q_R x) (hy : q_R y) (hdg : decode cc pc = .ok (.if_icmp .le off, 3)) (ht : (pc : Int) + off = (tgt : Int)) (kt : x ≤ y → W p l e R s m args below meth c H locs cells slots Q (F0 m tgt ls rest)) (kf : y < x → W p l e R s m args below meth c H locs cells slots Q (F0 m (pc + 3) ls rest)) : W p l e R s m args below meth c H locs cells slots Q (F0 m pc ls (.int (q_i y) :: .int (q_i x) :: rest)) :=
  lv_icmp_le cx.1 cx.2.1 hdg ht (fun h => kt ((q_le hx hy).mp h)) (fun h => kf (Int.not_le.mp (fun z => h ((q_le hx hy).mpr z))))
end QP
