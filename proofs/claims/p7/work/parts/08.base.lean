/-! a report's length: what is told of the nodes and of the messages under way -/
def k_uw (f : Nat → va_E) (sr : Nat) (m n : Int) : Prop := q_z f sr (Int.toNat (8 * m + 173)) = 0 ∧ q_z f sr (Int.toNat (8 * m + 172)) = n
def k_ct (f : Nat → va_E) (sr : Nat) (n : Int) : Nat → Int
  | 0 => 0
  | m + 1 => k_ct f sr n m + (if q_z f sr (8 * m + 173) = 0 ∧ q_z f sr (8 * m + 172) = n then 1 else 0)
def k_cl (f : Nat → va_E) (sr : Nat) (n : Int) : Nat → Int
  | 0 => 0
  | m + 1 => k_cl f sr n m + (if q_z f sr (8 * m + 173) = 0 ∧ q_z f sr (8 * m + 172) < n then 1 else 0)
theorem k_cl_1 {f : Nat → va_E} {sr : Nat} {n : Int} (m : Nat) : k_cl f sr (n + 1) m = k_cl f sr n m + k_ct f sr n m := by
  induction m with
  | zero => rfl
  | succ m ih =>
    simp only [k_cl, k_ct]
    rw [ih]
    by_cases h0 : q_z f sr (8 * m + 173) = 0
    · by_cases h1 : q_z f sr (8 * m + 172) < n
      · rw [if_pos ⟨h0, by omega⟩, if_pos ⟨h0, h1⟩, if_neg (fun h => by have := h.2; omega)]; omega
      · by_cases h2 : q_z f sr (8 * m + 172) = n
        · rw [if_pos ⟨h0, by omega⟩, if_neg (fun h => h1 h.2), if_pos ⟨h0, h2⟩]; omega
        · rw [if_neg (fun h => by have := h.2; omega), if_neg (fun h => h1 h.2), if_neg (fun h => h2 h.2)]; omega
    · rw [if_neg (fun h => h0 h.1), if_neg (fun h => h0 h.1), if_neg (fun h => h0 h.1)]; omega
theorem k_cl_le {f : Nat → va_E} {sr : Nat} {n : Int} (m : Nat) : k_cl f sr n m ≤ m ∧ 0 ≤ k_cl f sr n m := by
  induction m with
  | zero => exact ⟨Int.le_refl _, Int.le_refl _⟩
  | succ m ih =>
    simp only [k_cl]
    split <;> omega
theorem k_ct_le (f : Nat → va_E) (sr : Nat) (n : Int) {m m2 : Nat} (h : m ≤ m2) : k_ct f sr n m ≤ k_ct f sr n m2 := by
  induction m2 with
  | zero =>
    obtain rfl : m = 0 := by omega
    exact Int.le_refl _
  | succ k ih =>
    by_cases h1 : m = k + 1
    · subst h1; exact Int.le_refl _
    · have h2 := ih (by omega)
      simp only [k_ct]
      split <;> omega
theorem k_uw_fr {f f1 : Nat → va_E} {sr : Nat} {m n : Int} (h : k_uw f1 sr m n) (e : ∀ i : Nat, q_z f1 sr i = q_z f sr i) : k_uw f sr m n := by
  unfold k_uw at h ⊢
  rw [← e, ← e]
  exact h
theorem k_ct_1 {f : Nat → va_E} {sr : Nat} {n v : Int} (h : k_uw f sr v n) (hv : 0 ≤ v) : k_ct f sr n (Int.toNat (v + 1)) = k_ct f sr n (Int.toNat v) + 1 := by
  unfold k_uw at h
  rw [show Int.toNat (v + 1) = Int.toNat v + 1 by omega]
  simp only [k_ct]
  rw [show Int.toNat (8 * v + 173) = 8 * Int.toNat v + 173 by omega, show Int.toNat (8 * v + 172) = 8 * Int.toNat v + 172 by omega] at h
  rw [if_pos h]
theorem k_cl_fr {f f1 : Nat → va_E} {sr : Nat} {n : Int} {m : Nat} (e : ∀ i : Nat, q_z f1 sr i = q_z f sr i) : k_cl f1 sr n m = k_cl f sr n m := by
  induction m with
  | zero => rfl
  | succ m ih =>
    simp only [k_cl]
    rw [ih, e, e]
theorem k_rb0 {f : Nat → va_E} {sr : Nat} {n w b : Int} (h : w ≤ b) : w ≤ b + 4 * k_ct f sr n (Int.toNat 0) := by
  have e : k_ct f sr n (Int.toNat 0) = 0 := rfl
  rw [e]
  omega
theorem k_rb1 {f : Nat → va_E} {sr : Nat} {n w b v : Int} (h : w ≤ b + 4 * k_ct f sr n (Int.toNat v)) (hv : 0 ≤ v) : w ≤ b + 4 * k_ct f sr n (Int.toNat (v + 1)) := by
  have h1 := k_ct_le f sr n (m := Int.toNat v) (m2 := Int.toNat (v + 1)) (by omega)
  omega
theorem k_rp0 (f : Nat → va_E) (sr : Nat) : (0 : Int) ≤ 23 * 0 + 4 * k_cl f sr 0 60 := by
  have := (k_cl_le (f := f) (sr := sr) (n := 0) 60).2
  omega
theorem q_isu9 {a x hi : Int} (h : q_is a x) (t : a ≤ hi) : x ≤ hi := by
  have h1 : a = x := h
  rw [← h1]
  exact t
theorem q_ewz3 (i : Nat) : q_z3 (q_ew i) = true := by
  unfold q_ew
  split
  · rfl
  · split <;> rfl
