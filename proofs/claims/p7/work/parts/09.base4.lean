/-! the count of what was kept -/
def q_pc (f : Nat → va_E) (mo pa : Nat) (c : Int) : Prop := ∀ j : Int, 0 ≤ j → j < q_z f mo 21 → q_z f pa (Int.toNat (658 * j)) = c
theorem q_pc_tr {f f1 : Nat → va_E} {mo pa : Nat} {c : Int} (h : q_pc f mo pa c) (h1 : q_z f1 mo 21 = q_z f mo 21) (h2 : ∀ i : Nat, q_z f1 pa i = q_z f pa i) : q_pc f1 mo pa c := by
  intro j h3 h4
  rw [h2]
  exact h j h3 (by omega)
theorem k_pcdec {f f1 : Nat → va_E} {mo pa : Nat} {n c : Int} (h : q_pc f mo pa c) (hn : q_z f mo 21 = n) (h1 : q_z f1 mo 21 = n - 1) (h2 : ∀ i : Nat, q_z f1 pa i = q_z f pa i) : q_pc f1 mo pa c := by
  intro j h3 h4
  rw [h2]
  exact h j h3 (by omega)
theorem k_pcinc {f f1 : Nat → va_E} {mo pa : Nat} {n c : Int} (h : q_pc f mo pa c) (hn : q_z f mo 21 = n) (h0 : 0 ≤ n) (h1 : q_z f1 mo 21 = n + 1) (h2 : ∀ i : Nat, (i : Int) < 658 * n → q_z f1 pa i = q_z f pa i) (hy : q_z f1 pa (Int.toNat (658 * n)) = c) : q_pc f1 mo pa c := by
  intro j h3 h4
  by_cases hj : j = n
  · subst hj; exact hy
  · rw [h2 _ (by omega)]
    exact h j h3 (by omega)
theorem k_pcsh {f f1 : Nat → va_E} {mo pa : Nat} {c : Int} (h : q_pc f mo pa c) (hn : q_z f mo 21 = 6) (h1 : q_z f1 mo 21 = 5) (h2 : ∀ i : Int, 0 ≤ i → i < 3290 → q_z f1 pa (Int.toNat i) = q_z f pa (Int.toNat (i + 658))) : q_pc f1 mo pa c := by
  intro j h3 h4
  rw [h2 (658 * j) (by omega) (by omega), show 658 * j + 658 = 658 * (j + 1) by omega]
  exact h (j + 1) (by omega) (by omega)
theorem k_pc0 {f : Nat → va_E} {mo pa : Nat} {c : Int} (h : q_z f mo 21 = 0) : q_pc f mo pa c := fun j h0 h1 => absurd h1 (by omega)
theorem k_pc_row {f f0 : Nat → va_E} {pa a : Nat} {X c : Int} (h : q_z f pa (Int.toNat (X + 0)) = q_z f0 a (Int.toNat (0 + 0))) (ha : q_is (q_z f0 a 0) c) : q_z f pa (Int.toNat X) = c := by
  rw [Int.add_zero] at h
  exact h.trans ha
