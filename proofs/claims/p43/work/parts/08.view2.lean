/-! a village in the world: where its rows lie, what they hold -/
def tw_ki (kv kn kl km r : Nat) : Nat := if r = 0 then kv else if r < 11 then kn else if r < 27 then kl else km
def tw_vw (K : Nat → Nat) (L : List Nat) (kv kn kl km : Nat) (f : Nat → va_E) (v nds lks mss : Nat) (d : Nat → Nat) (σ : tw_S) : Prop :=
  ((v = d 0 ∧ (∀ r : Nat, r < 88 → d r ∈ L ∧ K (d r) = tw_ki kv kn kl km r) ∧ ∀ r q : Nat, r < 88 → q < 88 → d r = d q → r = q) ∧ (∀ i : Nat, i < 10 → q_r f nds i = d (1 + i)) ∧ (∀ i : Nat, i < 16 → q_r f lks i = d (11 + i)) ∧ ∀ i : Nat, i < 61 → q_r f mss i = d (27 + i)) ∧
  ∀ r c : Nat, r < 88 → (3 ≤ c ∨ (2 ≤ c ∧ 1 ≤ r) ∨ 11 ≤ r) → q_z f (d r) c = σ r c
section QTW
variable {K : Nat → Nat} {L : List Nat} {kv kn kl km : Nat} {f f1 : Nat → va_E} {v nds lks mss : Nat} {d : Nat → Nat} {σ σ' : tw_S} {a r c i : Nat} {x : Int}
theorem tw_v0 (h : tw_vw K L kv kn kl km f v nds lks mss d σ) : v = d 0 := h.1.1.1
theorem tw_g (h : tw_vw K L kv kn kl km f v nds lks mss d σ) (e : a = d r) (hr : r < 88) (hc : 3 ≤ c ∨ (2 ≤ c ∧ 1 ≤ r) ∨ 11 ≤ r) (hx : q_is (q_z f a c) x) : q_is x (σ r c) := by
  have hx : q_z f a c = x := hx
  have h2 := h.2 r c hr hc
  rw [← e, hx] at h2
  exact h2
theorem tw_vw_tr (h : tw_vw K L kv kn kl km f v nds lks mss d σ) (e1 : ∀ a9 : Nat, a9 ∈ L → K a9 = kv → ∀ c9 : Nat, q_z f1 a9 c9 = q_z f a9 c9) (e2 : ∀ a9 : Nat, a9 ∈ L → K a9 = kn → ∀ c9 : Nat, q_z f1 a9 c9 = q_z f a9 c9) (e3 : ∀ a9 : Nat, a9 ∈ L → K a9 = kl → ∀ c9 : Nat, q_z f1 a9 c9 = q_z f a9 c9) (e4 : ∀ a9 : Nat, a9 ∈ L → K a9 = km → ∀ c9 : Nat, q_z f1 a9 c9 = q_z f a9 c9) (r1 : ∀ i9 : Nat, q_r f1 nds i9 = q_r f nds i9) (r2 : ∀ i9 : Nat, q_r f1 lks i9 = q_r f lks i9) (r3 : ∀ i9 : Nat, q_r f1 mss i9 = q_r f mss i9) : tw_vw K L kv kn kl km f1 v nds lks mss d σ := by
  obtain ⟨⟨h1, h2, h3, h4⟩, h5⟩ := h
  refine ⟨⟨h1, fun i hi => (r1 i).trans (h2 i hi), fun i hi => (r2 i).trans (h3 i hi), fun i hi => (r3 i).trans (h4 i hi)⟩, fun r c hr hc => ?_⟩
  rw [← h5 r c hr hc]
  obtain ⟨m1, m2⟩ := h1.2.1 r hr
  unfold tw_ki at m2
  split at m2
  · exact e1 _ m1 m2 c
  · split at m2
    · exact e2 _ m1 m2 c
    · split at m2
      · exact e3 _ m1 m2 c
      · exact e4 _ m1 m2 c
theorem tw_cg (h : tw_vw K L kv kn kl km f v nds lks mss d σ) (e : σ' = σ) : tw_vw K L kv kn kl km f v nds lks mss d σ' := by rw [e]; exact h
theorem tw_cgr (h : tw_vw K L kv kn kl km f v nds lks mss d σ) (e : σ = σ') : tw_vw K L kv kn kl km f v nds lks mss d σ' := by rw [← e]; exact h
/-- a place is written -/
theorem tw_vw_s (h : tw_vw K L kv kn kl km f v nds lks mss d σ) (e : a = d r) (hr : r < 88) (hc : 3 ≤ c ∨ (2 ≤ c ∧ 1 ≤ r) ∨ 11 ≤ r) (ef : f1 = q_set f a c (.int (q_i x))) (ez : q_z f1 a c = x) (r1 : ∀ i9 : Nat, q_r f1 nds i9 = q_r f nds i9) (r2 : ∀ i9 : Nat, q_r f1 lks i9 = q_r f lks i9) (r3 : ∀ i9 : Nat, q_r f1 mss i9 = q_r f mss i9) : tw_vw K L kv kn kl km f1 v nds lks mss d (tw_u σ r c x) := by
  obtain ⟨⟨h1, h2, h3, h4⟩, h5⟩ := h
  refine ⟨⟨h1, fun i hi => (r1 i).trans (h2 i hi), fun i hi => (r2 i).trans (h3 i hi), fun i hi => (r3 i).trans (h4 i hi)⟩, fun r1 c1 hr1 hc1 => ?_⟩
  unfold tw_u
  by_cases q : r1 = r ∧ c1 = c
  · rw [if_pos q, q.1, q.2, ← e]
    exact ez
  · rw [if_neg q, ← h5 r1 c1 hr1 hc1, ef]
    refine q_setz ?_
    by_cases q2 : c1 = c
    · exact Or.inl (fun q3 => q ⟨h1.2.2 r1 r hr1 hr (q3.trans e), q2⟩)
    · exact Or.inr q2
/-- a name or a watch is written -/
theorem tw_vw_l {y : Int64} (h : tw_vw K L kv kn kl km f v nds lks mss d σ) (e : a = d r) (hr : r < 11) (h1r : 1 ≤ r) (hc : c < 2) (ef : f1 = q_set f a c (.long y)) (r1 : ∀ i9 : Nat, q_r f1 nds i9 = q_r f nds i9) (r2 : ∀ i9 : Nat, q_r f1 lks i9 = q_r f lks i9) (r3 : ∀ i9 : Nat, q_r f1 mss i9 = q_r f mss i9) : tw_vw K L kv kn kl km f1 v nds lks mss d σ := by
  obtain ⟨⟨h1, h2, h3, h4⟩, h5⟩ := h
  refine ⟨⟨h1, fun i hi => (r1 i).trans (h2 i hi), fun i hi => (r2 i).trans (h3 i hi), fun i hi => (r3 i).trans (h4 i hi)⟩, fun r1 c1 hr1 hc1 => ?_⟩
  rw [← h5 r1 c1 hr1 hc1, ef]
  refine q_setz ?_
  by_cases q2 : c1 = c
  · refine Or.inl (fun q3 => ?_)
    have := h1.2.2 r1 r hr1 (by omega) (q3.trans e)
    omega
  · exact Or.inr q2
theorem tw_at1 (h : tw_vw K L kv kn kl km f v nds lks mss d σ) {z : Nat} {p : Int} (h0 : 0 ≤ p) (h9 : p ≤ 9) (e : q_ir (q_r f nds (Int.toNat p)) z) : z = d (1 + Int.toNat p) := by
  have e : q_r f nds (Int.toNat p) = z := e
  rw [← e]; exact h.1.2.1 _ (by omega)
theorem tw_at2 (h : tw_vw K L kv kn kl km f v nds lks mss d σ) {z : Nat} {p : Int} (h0 : 0 ≤ p) (h9 : p ≤ 15) (e : q_ir (q_r f lks (Int.toNat p)) z) : z = d (11 + Int.toNat p) := by
  have e : q_r f lks (Int.toNat p) = z := e
  rw [← e]; exact h.1.2.2.1 _ (by omega)
theorem tw_at3 (h : tw_vw K L kv kn kl km f v nds lks mss d σ) {z : Nat} {p : Int} (h0 : 0 ≤ p) (h9 : p ≤ 60) (e : q_ir (q_r f mss (Int.toNat p)) z) : z = d (27 + Int.toNat p) := by
  have e : q_r f mss (Int.toNat p) = z := e
  rw [← e]; exact h.1.2.2.2 _ (by omega)
theorem tw_u_same : (tw_u σ r c x) r c = x := if_pos ⟨rfl, rfl⟩
end QTW
/-- nothing is watched besides -/
def tw_nw (K : Nat → Nat) (L : List Nat) (kn : Nat) (f : Nat → va_E) : Prop := ∀ a : Nat, a ∈ L → K a = kn → q_j f a 1 = q_l 0
theorem tw_nw_tr {K : Nat → Nat} {L : List Nat} {kn : Nat} {f f1 : Nat → va_E} (h : tw_nw K L kn f) (e : ∀ a9 : Nat, a9 ∈ L → K a9 = kn → q_j f1 a9 1 = q_j f a9 1) : tw_nw K L kn f1 := fun a ha hk => (e a ha hk).trans (h a ha hk)
theorem tw_hd_1 {x j j2 : Int64} {d y : Int} (e1 : x >>> ((q_i d).toInt64 &&& 63) = j) (e2 : j &&& q_l 1 = j2) (g : y = 0 ↔ j2 = q_l 0) (hy : ¬ y = 0) : tw_hd x d = 1 := by
  unfold tw_hd tw_lb
  rw [e1, e2, if_neg (fun h => hy (g.mpr h))]
theorem tw_hd_0 {x j j2 : Int64} {d y : Int} (e1 : x >>> ((q_i d).toInt64 &&& 63) = j) (e2 : j &&& q_l 1 = j2) (g : y = 0 ↔ j2 = q_l 0) (hy : y = 0) : tw_hd x d = 0 := by
  unfold tw_hd tw_lb
  rw [e1, e2, if_pos (g.mp hy)]
theorem tw_us_of {x y z : Int} (h : q_R z) (e : ((q_i x).toUInt32 >>> ((q_i y).toUInt32 &&& Int32.toUInt32 31)).toInt32 = q_i z) : q_is z (tw_us x y) := by unfold q_is tw_us; rw [e, q_toInt h]
theorem tw_l2_of {x : Int64} {z : Int} (h : q_R z) (e : x.toInt32 = q_i z) : q_is z x.toInt32.toInt := by unfold q_is; rw [e, q_toInt h]
theorem tw_nw_s {K : Nat → Nat} {L : List Nat} {kn a : Nat} {f f1 : Nat → va_E} (h : tw_nw K L kn f) (ef : f1 = q_set f a 1 (.long (q_l 0))) (ez : q_j f1 a 1 = q_l 0) : tw_nw K L kn f1 := fun b hb hk => by
  by_cases e : b = a
  · rw [e]; exact ez
  · rw [ef, q_setj (Or.inl e)]; exact h b hb hk
theorem tw_kf {K : Nat → Nat} {L : List Nat} {kv kn kl km c : Nat} {f : Nat → va_E} {v nds lks mss : Nat} {d : Nat → Nat} {σ : tw_S} {x : Int} (h : tw_vw K L kv kn kl km f v nds lks mss d σ) (hc : 3 ≤ c) (e : σ 0 c = x) : q_is (q_z f v c) x := by
  rw [tw_v0 h]
  exact (h.2 0 c (by decide) (Or.inl hc)).trans e
theorem tw_ex_tr {K : Nat → Nat} {L : List Nat} {kv kn kl km : Nat} {f f1 : Nat → va_E} {v nds lks mss : Nat} {d : Nat → Nat} (h : ∃ s9 : tw_S, tw_vw K L kv kn kl km f v nds lks mss d s9) (e1 : ∀ a9 : Nat, a9 ∈ L → K a9 = kv → ∀ c9 : Nat, q_z f1 a9 c9 = q_z f a9 c9) (e2 : ∀ a9 : Nat, a9 ∈ L → K a9 = kn → ∀ c9 : Nat, q_z f1 a9 c9 = q_z f a9 c9) (e3 : ∀ a9 : Nat, a9 ∈ L → K a9 = kl → ∀ c9 : Nat, q_z f1 a9 c9 = q_z f a9 c9) (e4 : ∀ a9 : Nat, a9 ∈ L → K a9 = km → ∀ c9 : Nat, q_z f1 a9 c9 = q_z f a9 c9) (r1 : ∀ i9 : Nat, q_r f1 nds i9 = q_r f nds i9) (r2 : ∀ i9 : Nat, q_r f1 lks i9 = q_r f lks i9) (r3 : ∀ i9 : Nat, q_r f1 mss i9 = q_r f mss i9) : ∃ s9 : tw_S, tw_vw K L kv kn kl km f1 v nds lks mss d s9 := by
  obtain ⟨s9, h⟩ := h
  exact ⟨s9, tw_vw_tr h e1 e2 e3 e4 r1 r2 r3⟩
