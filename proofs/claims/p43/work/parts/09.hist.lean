/-! the kept villages -/
def tw_krg (k : Nat) : Prop := (50 ≤ k ∧ k < 74) ∨ (200 ≤ k ∧ k < 220)
theorem tw_krw {w : q_Ws} {k i : Nat} (h : w.all (fun q => !(decide (50 ≤ q.1) && decide (q.1 < 74)) && !(decide (200 ≤ q.1) && decide (q.1 < 220))) = true) (hk : tw_krg k) : q_inW w k i = false := by
  cases hw : q_inW w k i with
  | false => rfl
  | true =>
    rw [q_inW, List.any_eq_true] at hw
    obtain ⟨q, hq, h1⟩ := hw
    have h2 := List.all_eq_true.mp h q hq
    simp only [Bool.and_eq_true, beq_iff_eq, decide_eq_true_eq, Bool.not_eq_true', Bool.and_eq_false_iff, decide_eq_false_iff_not] at h1 h2
    unfold tw_krg at hk
    omega
def tw_hu (S : Nat → tw_S) (j : Nat) (σ : tw_S) : Nat → tw_S := fun i => if i = j then σ else S i
def tw_si (s : Int) : Nat := if s = 6 then 0 else Int.toNat s
def tw_ns (s : Int) : Int := (tw_si s : Int) + 1
def tw_ui (s : Int) : Nat := if s = 0 then 5 else Int.toNat (s - 1)
def tw_hk (K : Nat → Nat) (L : List Nat) (f : Nat → va_E) (ka : Nat) (A D : Nat → Nat → Nat) (S : Nat → tw_S) : Prop :=
  (ka ∈ L ∧ K ka = 218) ∧ ∀ j : Nat, j < 6 → ((q_r f ka j = D j 0 ∧ D j 0 ∈ L ∧ K (D j 0) = 50 + j) ∧ (A j 0 ∈ L ∧ K (A j 0) = 200 + j) ∧ (A j 1 ∈ L ∧ K (A j 1) = 206 + j) ∧ (A j 2 ∈ L ∧ K (A j 2) = 212 + j) ∧ q_r f (D j 0) 0 = A j 0 ∧ q_r f (D j 0) 1 = A j 1 ∧ q_r f (D j 0) 2 = A j 2) ∧
    tw_vw K L (50 + j) (56 + j) (62 + j) (68 + j) f (D j 0) (A j 0) (A j 1) (A j 2) (D j) (S j) ∧ tw_nw K L (56 + j) f
section QHK
variable {K : Nat → Nat} {L : List Nat} {f f1 : Nat → va_E} {ka j c : Nat} {A D : Nat → Nat → Nat} {S : Nat → tw_S} {σ : tw_S} {w : q_Ws}
theorem tw_hk_tr (h : tw_hk K L f ka A D S) (e : ∀ a9 : Nat, a9 ∈ L → tw_krg (K a9) → ∀ i9 : Nat, q_v f1 a9 i9 = q_v f a9 i9) : tw_hk K L f1 ka A D S := by
  have ez : ∀ k : Nat, tw_krg k → ∀ a9 : Nat, a9 ∈ L → K a9 = k → ∀ c9 : Nat, q_z f1 a9 c9 = q_z f a9 c9 := fun k hk a ha hka c9 => congrArg q_iv (e a ha (by rw [hka]; exact hk) c9)
  have er : ∀ (k a : Nat), tw_krg k → a ∈ L → K a = k → ∀ c9 : Nat, q_r f1 a c9 = q_r f a c9 := fun k a hk ha hka c9 => congrArg q_rv (e a ha (by rw [hka]; exact hk) c9)
  obtain ⟨⟨h1, h2⟩, h3⟩ := h
  refine ⟨⟨h1, h2⟩, fun j hj => ?_⟩
  obtain ⟨⟨⟨q1, q2, q3⟩, ⟨a0, k0⟩, ⟨a1, k1⟩, ⟨a2, k2⟩, r0, r1, r2⟩, hv, hn⟩ := h3 j hj
  refine ⟨⟨⟨by rw [er 218 ka (by unfold tw_krg; omega) h1 h2]; exact q1, q2, q3⟩, ⟨a0, k0⟩, ⟨a1, k1⟩, ⟨a2, k2⟩, ?_, ?_, ?_⟩, ?_, ?_⟩
  · rw [er _ _ (by unfold tw_krg; omega) q2 q3]; exact r0
  · rw [er _ _ (by unfold tw_krg; omega) q2 q3]; exact r1
  · rw [er _ _ (by unfold tw_krg; omega) q2 q3]; exact r2
  · exact tw_vw_tr hv (ez _ (by unfold tw_krg; omega)) (ez _ (by unfold tw_krg; omega)) (ez _ (by unfold tw_krg; omega)) (ez _ (by unfold tw_krg; omega)) (er _ _ (by unfold tw_krg; omega) a0 k0) (er _ _ (by unfold tw_krg; omega) a1 k1) (er _ _ (by unfold tw_krg; omega) a2 k2)
  · exact tw_nw_tr hn (fun a ha hk => congrArg q_lv (e a ha (by rw [hk]; unfold tw_krg; omega) 1))
/-- one of them, by names -/
theorem tw_hk_get (h : tw_hk K L f ka A D S) (c : Nat) (hc : c < 6) : ∃ (d : Nat → Nat) (v n l m : Nat), (d = D c ∧ v = D c 0 ∧ n = A c 0 ∧ l = A c 1 ∧ m = A c 2) ∧ (v ∈ L ∧ K v = 50 + c) ∧ (n ∈ L ∧ K n = 200 + c) ∧ (l ∈ L ∧ K l = 206 + c) ∧ (m ∈ L ∧ K m = 212 + c) ∧ (q_ir (q_r f ka c) v ∧ q_ir (q_r f v 0) n ∧ q_ir (q_r f v 1) l ∧ q_ir (q_r f v 2) m) ∧ tw_vw K L (50 + c) (56 + c) (62 + c) (68 + c) f v n l m d (S c) ∧ tw_nw K L (56 + c) f := by
  obtain ⟨⟨⟨q1, q2, q3⟩, ⟨a0, k0⟩, ⟨a1, k1⟩, ⟨a2, k2⟩, r0, r1, r2⟩, hv, hn⟩ := h.2 c hc
  exact ⟨D c, D c 0, A c 0, A c 1, A c 2, ⟨rfl, rfl, rfl, rfl, rfl⟩, ⟨q2, q3⟩, ⟨a0, k0⟩, ⟨a1, k1⟩, ⟨a2, k2⟩, ⟨q1, r0, r1, r2⟩, hv, hn⟩
/-- one of them is another now -/
theorem tw_hk_up {d : Nat → Nat} {v n l m : Nat} (h : tw_hk K L f ka A D S) (c : Nat) (hc : c < 6) (hF : q_Fr w K L f f1) (hw : w.all (fun q => decide (q.1 = 50 + c) && decide (3 ≤ q.2.1) || decide (q.1 = 56 + c) || decide (q.1 = 62 + c) || decide (q.1 = 68 + c)) = true) (ed : d = D c ∧ v = D c 0 ∧ n = A c 0 ∧ l = A c 1 ∧ m = A c 2) (hv : tw_vw K L (50 + c) (56 + c) (62 + c) (68 + c) f1 v n l m d σ) (hn : tw_nw K L (56 + c) f1) : tw_hk K L f1 ka A D (tw_hu S c σ) := by
  obtain ⟨e1, e2, e3, e4, e5⟩ := ed
  subst e1 e2 e3 e4 e5
  have hq : ∀ k i : Nat, (k ≠ 50 + c ∨ i < 3) → k ≠ 56 + c → k ≠ 62 + c → k ≠ 68 + c → q_inW w k i = false := fun k i n1 n2 n3 n4 => by
    cases hw2 : q_inW w k i with
    | false => rfl
    | true =>
      rw [q_inW, List.any_eq_true] at hw2
      obtain ⟨q, hq, h1⟩ := hw2
      have h2 := List.all_eq_true.mp hw q hq
      simp only [Bool.and_eq_true, Bool.or_eq_true, beq_iff_eq, decide_eq_true_eq] at h1 h2
      omega
  obtain ⟨⟨h1, h2⟩, h3⟩ := h
  have ez : ∀ k : Nat, k ≠ 50 + c → k ≠ 56 + c → k ≠ 62 + c → k ≠ 68 + c → ∀ a9 : Nat, a9 ∈ L → K a9 = k → ∀ c9 : Nat, q_z f1 a9 c9 = q_z f a9 c9 := fun k n1 n2 n3 n4 a ha hka c9 => hF.z ha (by rw [hka]; exact hq _ _ (Or.inl n1) n2 n3 n4)
  have er : ∀ (k a : Nat), k ≠ 56 + c → k ≠ 62 + c → k ≠ 68 + c → a ∈ L → K a = k → ∀ c9 : Nat, c9 < 3 ∨ k ≠ 50 + c → q_r f1 a c9 = q_r f a c9 := fun k a n2 n3 n4 ha hka c9 hc9 => hF.r ha (by rw [hka]; exact hq _ _ (hc9.elim Or.inr Or.inl) n2 n3 n4)
  refine ⟨⟨h1, h2⟩, fun j hj => ?_⟩
  obtain ⟨⟨⟨q1, q2, q3⟩, ⟨a0, k0⟩, ⟨a1, k1⟩, ⟨a2, k2⟩, r0, r1, r2⟩, hv2, hn2⟩ := h3 j hj
  refine ⟨⟨⟨by rw [er 218 ka (by omega) (by omega) (by omega) h1 h2 _ (by omega)]; exact q1, q2, q3⟩, ⟨a0, k0⟩, ⟨a1, k1⟩, ⟨a2, k2⟩, ?_, ?_, ?_⟩, ?_⟩
  · rw [er _ _ (by omega) (by omega) (by omega) q2 q3 _ (by omega)]; exact r0
  · rw [er _ _ (by omega) (by omega) (by omega) q2 q3 _ (by omega)]; exact r1
  · rw [er _ _ (by omega) (by omega) (by omega) q2 q3 _ (by omega)]; exact r2
  · unfold tw_hu
    by_cases e : j = c
    · subst e
      rw [if_pos rfl]
      exact ⟨hv, hn⟩
    · rw [if_neg e]
      exact ⟨tw_vw_tr hv2 (ez _ (by omega) (by omega) (by omega) (by omega)) (ez _ (by omega) (by omega) (by omega) (by omega)) (ez _ (by omega) (by omega) (by omega) (by omega)) (ez _ (by omega) (by omega) (by omega) (by omega)) (fun i9 => er _ _ (by omega) (by omega) (by omega) a0 k0 i9 (by omega)) (fun i9 => er _ _ (by omega) (by omega) (by omega) a1 k1 i9 (by omega)) (fun i9 => er _ _ (by omega) (by omega) (by omega) a2 k2 i9 (by omega)), tw_nw_tr hn2 (fun a ha hk => hF.j ha (by rw [hk]; exact hq _ _ (Or.inl (by omega)) (by omega) (by omega) (by omega)))⟩
theorem tw_hkg {S' : Nat → tw_S} (h : tw_hk K L f ka A D S) (e : S' = S) : tw_hk K L f ka A D S' := by rw [e]; exact h
end QHK
