/-! names in villages -/
def tk_ik (K : Nat → Nat) (L : List Nat) (kn : Nat) (f : Nat → va_E) (nds : Nat) : Prop := ∀ i : Nat, i < 10 → (q_r f nds i ∈ L ∧ K (q_r f nds i) = kn) ∧ ∀ j : Nat, j < 10 → q_r f nds i = q_r f nds j → i = j
def tk_vn (K : Nat → Nat) (L : List Nat) (kn : Nat) (f : Nat → va_E) (v nds : Nat) (nl : List (List Int)) : Prop := tk_ik K L kn f nds ∧ (q_z f v 3 = (nl.length : Int) ∧ nl.length ≤ 10) ∧ ∀ i : Nat, i < nl.length → q_j f (q_r f nds i) 0 = tk_cw (nl.getD i []) ∧ tk_isw (nl.getD i [])
/-- the same names -/
def tk_sn (f : Nat → va_E) (u now ndn : Nat) : Prop := q_z f u 3 = q_z f now 3 ∧ ∀ i : Nat, (i : Int) < q_z f now 3 → q_j f (q_r f (q_r f u 0) i) 0 = q_j f (q_r f ndn i) 0
/-- where what was kept j turns ago lies -/
def tk_xi (s : Int) (j : Nat) : Nat := Int.toNat (if (j : Int) + 1 ≤ s then s - 1 - j else s + 5 - j)
/-- the kept villages are all others, their nodes too -/
def tk_ks (K : Nat → Nat) (L : List Nat) (f : Nat → va_E) (ka : Nat) : Prop := ∀ i : Nat, i < 6 → (q_r f ka i ∈ L ∧ K (q_r f ka i) = 16) ∧ (q_r f (q_r f ka i) 0 ∈ L ∧ K (q_r f (q_r f ka i) 0) = 114) ∧ tk_ik K L 20 f (q_r f (q_r f ka i) 0) ∧ ∀ j : Nat, j < 6 → i ≠ j → q_r f ka i ≠ q_r f ka j ∧ ∀ a b : Nat, a < 10 → b < 10 → q_r f (q_r f (q_r f ka i) 0) a ≠ q_r f (q_r f (q_r f ka j) 0) b
def tk_vk (K : Nat → Nat) (L : List Nat) (f : Nat → va_E) (hist ka now ndn : Nat) : Prop := (tk_ks K L f ka ∧ tk_ik K L 5 f ndn) ∧ ((0 ≤ q_z f hist 1 ∧ q_z f hist 1 ≤ 6) ∧ (0 ≤ q_z f hist 2 ∧ q_z f hist 2 ≤ 6)) ∧ q_z f now 3 ≤ 10 ∧ ∀ j : Nat, (j : Int) < q_z f hist 2 → tk_sn f (q_r f ka (tk_xi (q_z f hist 1) j)) now ndn
section QVN
variable {K : Nat → Nat} {L : List Nat} {f f1 f2 : Nat → va_E} {v nds kn : Nat} {nl : List (List Int)}
theorem tk_ik_tr (h : tk_ik K L kn f nds) (e : ∀ i : Nat, q_r f1 nds i = q_r f nds i) : tk_ik K L kn f1 nds := by
  intro i hi
  rw [e i]
  exact ⟨(h i hi).1, fun j hj hq => (h i hi).2 j hj (by rw [e j] at hq; exact hq)⟩
theorem tk_vn_tr (h : tk_vn K L kn f v nds nl) (e3 : q_z f1 v 3 = q_z f v 3) (ej : ∀ a : Nat, a ∈ L → K a = kn → q_j f1 a 0 = q_j f a 0) (er : ∀ i : Nat, q_r f1 nds i = q_r f nds i) : tk_vn K L kn f1 v nds nl := by
  obtain ⟨h1, ⟨h2, h3⟩, h4⟩ := h
  refine ⟨tk_ik_tr h1 er, ⟨e3.trans h2, h3⟩, fun i hi => ?_⟩
  have hm := (h1 i (by omega)).1
  rw [er i, ej _ hm.1 hm.2]
  exact h4 i hi
theorem tk_vn_nn (h : tk_vn K L kn f v nds nl) {x : Int} (hx : q_is (q_z f v 3) x) : (nl.length : Int) = x := h.2.1.1.symm.trans hx
theorem tk_on_tr {u : Nat} (h : ∀ a9 : Nat, a9 ≠ u → q_j f1 a9 0 = q_j f a9 0) (e : ∀ a9 : Nat, a9 ≠ u → q_j f2 a9 0 = q_j f1 a9 0) : ∀ a9 : Nat, a9 ≠ u → q_j f2 a9 0 = q_j f a9 0 := fun a9 h9 => (e a9 h9).trans (h a9 h9)
theorem tk_o3_tr {u kv : Nat} (h : ∀ u9 : Nat, u9 ∈ L → K u9 = kv → u9 ≠ u → q_z f1 u9 3 = q_z f u9 3) (e : ∀ u9 : Nat, u9 ∈ L → K u9 = kv → u9 ≠ u → q_z f2 u9 3 = q_z f1 u9 3) : ∀ u9 : Nat, u9 ∈ L → K u9 = kv → u9 ≠ u → q_z f2 u9 3 = q_z f u9 3 := fun u9 h1 h2 h3 => (e u9 h1 h2 h3).trans (h u9 h1 h2 h3)
theorem tk_o0_tr {P : Nat → Prop} (h : ∀ a9 : Nat, a9 ∈ L → K a9 = kn → P a9 → q_j f1 a9 0 = q_j f a9 0) (e : ∀ a9 : Nat, a9 ∈ L → K a9 = kn → q_j f2 a9 0 = q_j f1 a9 0) : ∀ a9 : Nat, a9 ∈ L → K a9 = kn → P a9 → q_j f2 a9 0 = q_j f a9 0 := fun a9 h1 h2 h3 => (e a9 h1 h2).trans (h a9 h1 h2 h3)
theorem tk_rv_tr (h : ∀ i9 : Nat, q_r f1 nds i9 = q_r f nds i9) (e : ∀ i9 : Nat, q_r f2 nds i9 = q_r f1 nds i9) : ∀ i9 : Nat, q_r f2 nds i9 = q_r f nds i9 := fun i => (e i).trans (h i)
/-- one node more is copied -/
theorem tk_cp_step {ndv ndp p0 ka kb y1 y2 : Nat} {i : Int} (hcp : ∀ j : Nat, (j : Int) < i → q_j f (q_r f ndv j) 0 = tk_cw (nl.getD j [])) (hvp : tk_vn K L kb f p0 ndp nl) (hiv : tk_ik K L ka f ndv) (h0 : 0 ≤ i) (hi : i < (nl.length : Int)) (e1 : y1 = q_r f ndv (Int.toNat i)) (e2 : y2 = q_r f ndp (Int.toNat i)) (t0 : q_j f1 y1 0 = q_j f y2 0) (t1 : ∀ a9 : Nat, a9 ≠ y1 → q_j f1 a9 0 = q_j f a9 0) (er : ∀ i9 : Nat, q_r f1 ndv i9 = q_r f ndv i9) : ∀ j : Nat, (j : Int) < i + 1 → q_j f1 (q_r f1 ndv j) 0 = tk_cw (nl.getD j []) := by
  intro j hj
  have hle := hvp.2.1.2
  rw [er j]
  by_cases e : (j : Int) < i
  · rw [t1 _ (fun q => by have := (hiv j (by omega)).2 (Int.toNat i) (by omega) (q.trans e1); omega)]
    exact hcp j e
  · obtain rfl : j = Int.toNat i := by omega
    rw [← e1, t0, e2]
    exact (hvp.2.2 (Int.toNat i) (by omega)).1
theorem tk_o0_st {f0 : Nat → va_E} {ndv ka y1 : Nat} {i : Int} (h : ∀ a9 : Nat, a9 ∈ L → K a9 = ka → (∀ i9 : Nat, i9 < 10 → a9 ≠ q_r f0 ndv i9) → q_j f a9 0 = q_j f0 a9 0) (hrv : ∀ i9 : Nat, q_r f ndv i9 = q_r f0 ndv i9) (h0 : 0 ≤ i) (hi : i < 10) (e1 : y1 = q_r f ndv (Int.toNat i)) (t1 : ∀ a9 : Nat, a9 ≠ y1 → q_j f1 a9 0 = q_j f a9 0) : ∀ a9 : Nat, a9 ∈ L → K a9 = ka → (∀ i9 : Nat, i9 < 10 → a9 ≠ q_r f0 ndv i9) → q_j f1 a9 0 = q_j f0 a9 0 := by
  intro a9 h1 h2 h3
  rw [t1 a9 (fun q => h3 (Int.toNat i) (by omega) (q.trans (e1.trans (hrv _))))]
  exact h a9 h1 h2 h3
theorem tk_vn_mk {ndv ndp p0 ka kb : Nat} {i x : Int} (hiv : tk_ik K L ka f ndv) (hv3 : q_is (q_z f v 3) x) (hvp : tk_vn K L kb f p0 ndp nl) (hp3 : q_is (q_z f p0 3) x) (hcp : ∀ j : Nat, (j : Int) < i → q_j f (q_r f ndv j) 0 = tk_cw (nl.getD j [])) (hi : x ≤ i) : tk_vn K L ka f v ndv nl := by
  have h1 := tk_vn_nn hvp hp3
  have hv3 : q_z f v 3 = x := hv3
  exact ⟨hiv, ⟨by omega, hvp.2.1.2⟩, fun j hj => ⟨hcp j (by omega), (hvp.2.2 j hj).2⟩⟩
theorem tk_xi_lt {s : Int} {j : Nat} (h0 : 0 ≤ s) (h6 : s ≤ 6) (hj : j < 6) : tk_xi s j < 6 := by
  unfold tk_xi
  split <;> omega
theorem tk_ks_tr {ka : Nat} (h : tk_ks K L f ka) (er : ∀ i : Nat, q_r f1 ka i = q_r f ka i) (e16 : ∀ a : Nat, a ∈ L → K a = 16 → q_r f1 a 0 = q_r f a 0) (e114 : ∀ a : Nat, a ∈ L → K a = 114 → ∀ i : Nat, q_r f1 a i = q_r f a i) : tk_ks K L f1 ka := by
  have key : ∀ i : Nat, i < 6 → q_r f1 ka i = q_r f ka i ∧ q_r f1 (q_r f1 ka i) 0 = q_r f (q_r f ka i) 0 ∧ ∀ a : Nat, q_r f1 (q_r f1 (q_r f1 ka i) 0) a = q_r f (q_r f (q_r f ka i) 0) a := fun i hi => by
    have h1 := h i hi
    have e1 := er i
    have e2 : q_r f1 (q_r f1 ka i) 0 = q_r f (q_r f ka i) 0 := by rw [e1]; exact e16 _ h1.1.1 h1.1.2
    exact ⟨e1, e2, fun a => by rw [e2]; exact e114 _ h1.2.1.1 h1.2.1.2 a⟩
  intro i hi
  obtain ⟨e1, e2, e3⟩ := key i hi
  obtain ⟨h1, h2, h3, h4⟩ := h i hi
  refine ⟨by rw [e1]; exact h1, by rw [e2]; exact h2, ?_, fun j hj hij => ?_⟩
  · rw [e2]
    exact tk_ik_tr h3 (fun a => by have := e3 a; rw [e2] at this; exact this)
  · obtain ⟨g1, g2, g3⟩ := key j hj
    obtain ⟨h5, h6⟩ := h4 j hj hij
    refine ⟨by rw [e1, g1]; exact h5, fun a b ha hb => ?_⟩
    rw [e3, g3]
    exact h6 a b ha hb
theorem tk_vk_tr {hist ka now ndn : Nat} (h : tk_vk K L f hist ka now ndn) (a1 : q_z f1 hist 1 = q_z f hist 1) (a2 : q_z f1 hist 2 = q_z f hist 2) (a3 : q_z f1 now 3 = q_z f now 3) (e5 : ∀ a : Nat, a ∈ L → K a = 5 → q_j f1 a 0 = q_j f a 0) (en : ∀ i : Nat, q_r f1 ndn i = q_r f ndn i) (e163 : ∀ a : Nat, a ∈ L → K a = 16 → q_z f1 a 3 = q_z f a 3) (e20 : ∀ a : Nat, a ∈ L → K a = 20 → q_j f1 a 0 = q_j f a 0) (ek : ∀ i : Nat, q_r f1 ka i = q_r f ka i) (e16 : ∀ a : Nat, a ∈ L → K a = 16 → q_r f1 a 0 = q_r f a 0) (e114 : ∀ a : Nat, a ∈ L → K a = 114 → ∀ i : Nat, q_r f1 a i = q_r f a i) : tk_vk K L f1 hist ka now ndn := by
  obtain ⟨⟨h1, h2⟩, ⟨h3, h4⟩, h5, h6⟩ := h
  refine ⟨⟨tk_ks_tr h1 ek e16 e114, tk_ik_tr h2 en⟩, ⟨by rw [a1]; exact h3, by rw [a2]; exact h4⟩, by rw [a3]; exact h5, fun j hj => ?_⟩
  rw [a2] at hj
  have hx := tk_xi_lt (j := j) h3.1 h3.2 (by omega)
  obtain ⟨g1, g2, g3, -⟩ := h1 _ hx
  obtain ⟨g4, g5⟩ := h6 j hj
  rw [a1, ek]
  refine ⟨by rw [a3, e163 _ g1.1 g1.2]; exact g4, fun i hi => ?_⟩
  rw [a3] at hi
  rw [e16 _ g1.1 g1.2, e114 _ g2.1 g2.2, en]
  have m1 := (g3 i (by omega)).1
  have m2 := (h2 i (by omega)).1
  rw [e20 _ m1.1 m1.2, e5 _ m2.1 m2.2]
  exact g5 i hi
theorem tk_sn_vn {u now ndn kn2 : Nat} (h : tk_sn f u now ndn) (hn : tk_vn K L 5 f now ndn nl) (hi : tk_ik K L kn2 f (q_r f u 0)) : tk_vn K L kn2 f u (q_r f u 0) nl := by
  obtain ⟨h1, h2⟩ := h
  obtain ⟨-, ⟨h4, h5⟩, h6⟩ := hn
  exact ⟨hi, ⟨h1.trans h4, h5⟩, fun i hi9 => ⟨(h2 i (by omega)).trans (h6 i hi9).1, (h6 i hi9).2⟩⟩
theorem tk_vn_sn {u now ndn kn2 : Nat} (h : tk_vn K L kn2 f u (q_r f u 0) nl) (hn : tk_vn K L 5 f now ndn nl) : tk_sn f u now ndn :=
  ⟨h.2.1.1.trans hn.2.1.1.symm, fun i hi => by
    have := hn.2.1.1
    exact (h.2.2 i (by omega)).1.trans (hn.2.2 i (by omega)).1.symm⟩
end QVN
section QVK
variable {K : Nat → Nat} {L : List Nat} {f f1 f2 f3 : Nat → va_E} {hist ka now ndn : Nat} {nl : List (List Int)}
/-- one village more is kept: at the slot s, what was the slot s0 -/
theorem tk_vk_keep {s0 s m m1 : Int} {u ndu : Nat} (h : tk_vk K L f hist ka now ndn) (hn : tk_vn K L 5 f now ndn nl) (h1 : q_is (q_z f hist 1) s0) (h2 : q_is (q_z f hist 2) m) (hs : (s = s0 ∧ s0 < 6) ∨ (s = 0 ∧ s0 = 6)) (hu : u = q_r f ka (Int.toNat s)) (hnu : ndu = q_r f u 0)
    (hv : tk_vn K L 20 f1 u ndu nl) (o3 : ∀ u9 : Nat, u9 ∈ L → K u9 = 16 → u9 ≠ u → q_z f1 u9 3 = q_z f u9 3) (o0 : ∀ a9 : Nat, a9 ∈ L → K a9 = 20 → (∀ i9 : Nat, i9 < 10 → a9 ≠ q_r f ndu i9) → q_j f1 a9 0 = q_j f a9 0)
    (ek : ∀ i : Nat, q_r f1 ka i = q_r f ka i) (en : ∀ i : Nat, q_r f1 ndn i = q_r f ndn i) (e16 : ∀ a : Nat, a ∈ L → K a = 16 → q_r f1 a 0 = q_r f a 0) (e114 : ∀ a : Nat, a ∈ L → K a = 114 → ∀ i : Nat, q_r f1 a i = q_r f a i) (e5 : ∀ a : Nat, a ∈ L → K a = 5 → q_j f1 a 0 = q_j f a 0) (en3 : q_z f1 now 3 = q_z f now 3)
    (hm1 : 0 ≤ m1 ∧ m1 ≤ 6 ∧ m1 ≤ m + 1)
    (g1 : q_z f2 hist 1 = s + 1) (g2 : q_z f2 hist 2 = m1) (g3 : q_z f2 now 3 = q_z f1 now 3) (g5 : ∀ a : Nat, a ∈ L → K a = 5 → q_j f2 a 0 = q_j f1 a 0) (gn : ∀ i : Nat, q_r f2 ndn i = q_r f1 ndn i) (g163 : ∀ a : Nat, a ∈ L → K a = 16 → q_z f2 a 3 = q_z f1 a 3) (g20 : ∀ a : Nat, a ∈ L → K a = 20 → q_j f2 a 0 = q_j f1 a 0) (gk : ∀ i : Nat, q_r f2 ka i = q_r f1 ka i) (g16 : ∀ a : Nat, a ∈ L → K a = 16 → q_r f2 a 0 = q_r f1 a 0) (g114 : ∀ a : Nat, a ∈ L → K a = 114 → ∀ i : Nat, q_r f2 a i = q_r f1 a i) : tk_vk K L f2 hist ka now ndn := by
  have h1 : q_z f hist 1 = s0 := h1
  have h2 : q_z f hist 2 = m := h2
  obtain ⟨⟨k1, k2⟩, ⟨k3, k4⟩, k5, k6⟩ := h
  rw [h1] at k3 k6
  rw [h2] at k4 k6
  have hs5 : 0 ≤ s ∧ s ≤ 5 := by omega
  refine ⟨⟨tk_ks_tr (tk_ks_tr k1 ek e16 e114) gk g16 g114, tk_ik_tr (tk_ik_tr k2 en) gn⟩, ⟨by rw [g1]; omega, by rw [g2]; exact ⟨hm1.1, hm1.2.1⟩⟩, by rw [g3, en3]; exact k5, fun j hj => ?_⟩
  rw [g2] at hj
  have hn1 : tk_vn K L 5 f1 now ndn nl := tk_vn_tr hn en3 e5 en
  have hn2 : tk_vn K L 5 f2 now ndn nl := tk_vn_tr hn1 g3 g5 gn
  rw [g1, gk, ek]
  by_cases j0 : j = 0
  · have e : tk_xi (s + 1) j = Int.toNat s := by unfold tk_xi; rw [j0, if_pos (by omega)]; omega
    rw [e, ← hu]
    have hku := k1 (Int.toNat s) (by omega)
    rw [← hu] at hku
    have e1 : q_r f2 u 0 = ndu := by rw [g16 _ hku.1.1 hku.1.2, e16 _ hku.1.1 hku.1.2, hnu]
    have hnd := hku.2.1
    rw [← hnu] at hnd
    have hv2 : tk_vn K L 20 f2 u ndu nl := tk_vn_tr hv (g163 _ hku.1.1 hku.1.2) g20 (g114 _ hnd.1 hnd.2)
    exact tk_vn_sn (kn2 := 20) (by rw [e1]; exact hv2) hn2
  · have e : tk_xi (s + 1) j = tk_xi s0 (j - 1) := by
      unfold tk_xi
      split <;> split <;> omega
    have hx : tk_xi s0 (j - 1) < 6 := tk_xi_lt k3.1 k3.2 (by omega)
    have hne : tk_xi s0 (j - 1) ≠ Int.toNat s := by
      unfold tk_xi
      split <;> omega
    rw [e]
    obtain ⟨x1, x2, x3, x4⟩ := k1 _ hx
    obtain ⟨y1, y2⟩ := x4 (Int.toNat s) (by omega) hne
    rw [← hu, ← hnu] at y2
    rw [← hu] at y1
    obtain ⟨z1, z2⟩ := k6 (j - 1) (by omega)
    refine ⟨by rw [g163 _ x1.1 x1.2, o3 _ x1.1 x1.2 y1, g3, en3]; exact z1, fun i hi => ?_⟩
    rw [g3, en3] at hi
    rw [g16 _ x1.1 x1.2, e16 _ x1.1 x1.2, g114 _ x2.1 x2.2, e114 _ x2.1 x2.2, gn, en]
    have m1 := (x3 i (by omega)).1
    have m2 := (k2 i (by omega)).1
    rw [g20 _ m1.1 m1.2, o0 _ m1.1 m1.2 (fun i9 h9 => y2 i i9 (by omega) h9), g5 _ m2.1 m2.2, e5 _ m2.1 m2.2]
    exact z2 i hi
/-- what was kept last is now -/
theorem tk_vk_last {s0 s m : Int} {u ndu : Nat} (h : tk_vk K L f hist ka now ndn) (hn : tk_vn K L 5 f now ndn nl) (h1 : q_is (q_z f hist 1) s0) (h2 : q_is (q_z f hist 2) m) (hm : 0 < m) (hs : (1 ≤ s0 ∧ s = s0 - 1) ∨ (s0 = 0 ∧ s = 5)) (hu : u = q_r f ka (Int.toNat s)) (hnu : ndu = q_r f u 0) : tk_vn K L 20 f u ndu nl := by
  have h1 : q_z f hist 1 = s0 := h1
  have h2 : q_z f hist 2 = m := h2
  obtain ⟨⟨k1, k2⟩, ⟨k3, k4⟩, k5, k6⟩ := h
  rw [h1] at k3 k6
  rw [h2] at k6
  have e : tk_xi s0 0 = Int.toNat s := by unfold tk_xi; split <;> omega
  have h0 := k6 0 (by omega)
  rw [e, ← hu] at h0
  have hx := k1 (Int.toNat s) (by omega)
  rw [← hu] at hx
  have := tk_sn_vn h0 hn hx.2.2.1
  rw [← hnu] at this
  exact this
theorem tk_vk_back {s0 s m : Int} (h : tk_vk K L f hist ka now ndn) (hn : tk_vn K L 5 f now ndn nl) (hn2 : tk_vn K L 5 f2 now ndn nl) (h1 : q_is (q_z f hist 1) s0) (h2 : q_is (q_z f hist 2) m) (hm : 0 < m) (hs : (1 ≤ s0 ∧ s = s0 - 1) ∨ (s0 = 0 ∧ s = 5))
    (g1 : q_z f2 hist 1 = s) (g2 : q_z f2 hist 2 = m - 1) (g163 : ∀ a : Nat, a ∈ L → K a = 16 → q_z f2 a 3 = q_z f a 3) (g20 : ∀ a : Nat, a ∈ L → K a = 20 → q_j f2 a 0 = q_j f a 0) (gk : ∀ i : Nat, q_r f2 ka i = q_r f ka i) (g16 : ∀ a : Nat, a ∈ L → K a = 16 → q_r f2 a 0 = q_r f a 0) (g114 : ∀ a : Nat, a ∈ L → K a = 114 → ∀ i : Nat, q_r f2 a i = q_r f a i) : tk_vk K L f2 hist ka now ndn := by
  have h1 : q_z f hist 1 = s0 := h1
  have h2 : q_z f hist 2 = m := h2
  obtain ⟨⟨k1, k2⟩, ⟨k3, k4⟩, k5, k6⟩ := h
  rw [h1] at k3 k6
  rw [h2] at k4 k6
  refine ⟨⟨tk_ks_tr k1 gk g16 g114, hn2.1⟩, ⟨by rw [g1]; omega, by rw [g2]; omega⟩, by have := hn2.2.1; omega, fun j hj => ?_⟩
  rw [g2] at hj
  have e : tk_xi s j = tk_xi s0 (j + 1) := by
    unfold tk_xi
    split <;> split <;> omega
  have hx : tk_xi s0 (j + 1) < 6 := tk_xi_lt k3.1 k3.2 (by omega)
  rw [g1, e, gk]
  obtain ⟨x1, x2, x3, -⟩ := k1 _ hx
  have q1 := tk_sn_vn (k6 (j + 1) (by omega)) hn x3
  have e1 : q_r f2 (q_r f ka (tk_xi s0 (j + 1))) 0 = q_r f (q_r f ka (tk_xi s0 (j + 1))) 0 := g16 _ x1.1 x1.2
  have q2 := tk_vn_tr q1 (g163 _ x1.1 x1.2) g20 (g114 _ x2.1 x2.2)
  exact tk_vn_sn (kn2 := 20) (by rw [e1]; exact q2) hn2
theorem tk_vk_0 (h1 : tk_ks K L f ka) (h2 : tk_ik K L 5 f ndn) (h3 : 0 ≤ q_z f hist 1 ∧ q_z f hist 1 ≤ 6) (h4 : q_z f hist 2 = 0) (h5 : q_z f now 3 ≤ 10) : tk_vk K L f hist ka now ndn := ⟨⟨h1, h2⟩, ⟨h3, by rw [h4]; decide⟩, h5, fun j hj => absurd hj (by rw [h4]; omega)⟩
end QVK
/-! what stays while something is kept -/
def tk_fr (K : Nat → Nat) (L : List Nat) (f0 f : Nat → va_E) (ka ndn now : Nat) : Prop := (∀ i : Nat, q_r f ka i = q_r f0 ka i) ∧ (∀ i : Nat, q_r f ndn i = q_r f0 ndn i) ∧ (∀ a : Nat, a ∈ L → K a = 16 → q_r f a 0 = q_r f0 a 0) ∧ (∀ a : Nat, a ∈ L → K a = 114 → ∀ i : Nat, q_r f a i = q_r f0 a i) ∧ (∀ a : Nat, a ∈ L → K a = 5 → q_j f a 0 = q_j f0 a 0) ∧ q_z f now 3 = q_z f0 now 3 ∧ (∀ a : Nat, a ∈ L → K a = 16 → q_z f a 3 = q_z f0 a 3) ∧ (∀ a : Nat, a ∈ L → K a = 20 → q_j f a 0 = q_j f0 a 0)
theorem tk_fr_0 {K : Nat → Nat} {L : List Nat} {f : Nat → va_E} {ka ndn now : Nat} : tk_fr K L f f ka ndn now := ⟨fun _ => rfl, fun _ => rfl, fun _ _ _ => rfl, fun _ _ _ _ => rfl, fun _ _ _ => rfl, rfl, fun _ _ _ => rfl, fun _ _ _ => rfl⟩
theorem tk_fr_tr {K : Nat → Nat} {L : List Nat} {f0 f f1 : Nat → va_E} {ka ndn now : Nat} (h : tk_fr K L f0 f ka ndn now) (ek : ∀ i : Nat, q_r f1 ka i = q_r f ka i) (en : ∀ i : Nat, q_r f1 ndn i = q_r f ndn i) (e16 : ∀ a : Nat, a ∈ L → K a = 16 → q_r f1 a 0 = q_r f a 0) (e114 : ∀ a : Nat, a ∈ L → K a = 114 → ∀ i : Nat, q_r f1 a i = q_r f a i) (e5 : ∀ a : Nat, a ∈ L → K a = 5 → q_j f1 a 0 = q_j f a 0) (e3 : q_z f1 now 3 = q_z f now 3) (e163 : ∀ a : Nat, a ∈ L → K a = 16 → q_z f1 a 3 = q_z f a 3) (e20 : ∀ a : Nat, a ∈ L → K a = 20 → q_j f1 a 0 = q_j f a 0) : tk_fr K L f0 f1 ka ndn now := by
  obtain ⟨h1, h2, h3, h4, h5, h6, h7, h8⟩ := h
  exact ⟨fun i => (ek i).trans (h1 i), fun i => (en i).trans (h2 i), fun a p q => (e16 a p q).trans (h3 a p q), fun a p q i => (e114 a p q i).trans (h4 a p q i), fun a p q => (e5 a p q).trans (h5 a p q), e3.trans h6, fun a p q => (e163 a p q).trans (h7 a p q), fun a p q => (e20 a p q).trans (h8 a p q)⟩
def tk_f2 (K : Nat → Nat) (L : List Nat) (f0 f : Nat → va_E) (ka ndn : Nat) : Prop := (∀ i : Nat, q_r f ka i = q_r f0 ka i) ∧ (∀ i : Nat, q_r f ndn i = q_r f0 ndn i) ∧ (∀ a : Nat, a ∈ L → K a = 16 → q_r f a 0 = q_r f0 a 0) ∧ (∀ a : Nat, a ∈ L → K a = 114 → ∀ i : Nat, q_r f a i = q_r f0 a i) ∧ (∀ a : Nat, a ∈ L → K a = 16 → q_z f a 3 = q_z f0 a 3) ∧ (∀ a : Nat, a ∈ L → K a = 20 → q_j f a 0 = q_j f0 a 0)
theorem tk_f2_0 {K : Nat → Nat} {L : List Nat} {f : Nat → va_E} {ka ndn : Nat} : tk_f2 K L f f ka ndn := ⟨fun _ => rfl, fun _ => rfl, fun _ _ _ => rfl, fun _ _ _ _ => rfl, fun _ _ _ => rfl, fun _ _ _ => rfl⟩
theorem tk_f2_tr {K : Nat → Nat} {L : List Nat} {f0 f f1 : Nat → va_E} {ka ndn : Nat} (h : tk_f2 K L f0 f ka ndn) (ek : ∀ i : Nat, q_r f1 ka i = q_r f ka i) (en : ∀ i : Nat, q_r f1 ndn i = q_r f ndn i) (e16 : ∀ a : Nat, a ∈ L → K a = 16 → q_r f1 a 0 = q_r f a 0) (e114 : ∀ a : Nat, a ∈ L → K a = 114 → ∀ i : Nat, q_r f1 a i = q_r f a i) (e163 : ∀ a : Nat, a ∈ L → K a = 16 → q_z f1 a 3 = q_z f a 3) (e20 : ∀ a : Nat, a ∈ L → K a = 20 → q_j f1 a 0 = q_j f a 0) : tk_f2 K L f0 f1 ka ndn := by
  obtain ⟨h1, h2, h3, h4, h7, h8⟩ := h
  exact ⟨fun i => (ek i).trans (h1 i), fun i => (en i).trans (h2 i), fun a p q => (e16 a p q).trans (h3 a p q), fun a p q i => (e114 a p q i).trans (h4 a p q i), fun a p q => (e163 a p q).trans (h7 a p q), fun a p q => (e20 a p q).trans (h8 a p q)⟩
theorem tk_ta_vn {K : Nat → Nat} {L : List Nat} {f : Nat → va_E} {rd dr nds : Nat} {A : tk_A} {M : Nat → Nat → Bool} (h : tk_ta K L f rd dr nds A M) : tk_vn K L 17 f dr nds (tk_nd A) := ⟨h.2.2.1, ⟨h.2.1.1, h.2.2.2.1.1⟩, h.2.2.2.2.1⟩
/-- what is saved -/
def tk_vs (K : Nat → Nat) (L : List Nat) (f : Nat → va_E) (x sv nsv : Nat) (nl : List (List Int)) : Prop := tk_ik K L 18 f nsv ∧ (q_z f x 9 = 1 → tk_vn K L 18 f sv nsv nl)
theorem tk_vs_tr {K : Nat → Nat} {L : List Nat} {f f1 : Nat → va_E} {x sv nsv : Nat} {nl : List (List Int)} (h : tk_vs K L f x sv nsv nl) (e9 : q_z f1 x 9 = q_z f x 9) (e3 : q_z f1 sv 3 = q_z f sv 3) (ej : ∀ a : Nat, a ∈ L → K a = 18 → q_j f1 a 0 = q_j f a 0) (er : ∀ i : Nat, q_r f1 nsv i = q_r f nsv i) : tk_vs K L f1 x sv nsv nl := ⟨tk_ik_tr h.1 er, fun h9 => tk_vn_tr (h.2 (e9.symm.trans h9)) e3 ej er⟩
/-- a letter of a name -/
def tk_le (wl : List Int) (i : Int) : Int := if 0 ≤ i then wl.getD (Int.toNat i) 0 else 0
theorem tk_le_in {wl : List Int} {i y : Int} (h0 : 0 ≤ i) (h : y = wl.getD (Int.toNat i) 0) : y = tk_le wl i := by unfold tk_le; rw [if_pos h0]; exact h
theorem tk_le_lo {wl : List Int} {i : Int} (h0 : i < 0) : 0 = tk_le wl i := by unfold tk_le; rw [if_neg (by omega)]
theorem tk_le_hi {wl : List Int} {i : Int} (hl : (wl.length : Int) ≤ i) : 0 = tk_le wl i := by
  unfold tk_le
  rw [if_pos (by omega), tk_getD_out (by omega)]
