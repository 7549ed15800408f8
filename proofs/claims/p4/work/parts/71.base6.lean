/-! what the reference has told -/
theorem t_ix_no {l : List (List Int)} {w : List Int} (h : t_ix l w = none) : ∀ i : Nat, i < l.length → l.getD i [] ≠ w := by
  induction l with
  | nil => intro i hi; exact absurd hi (Nat.not_lt_zero _)
  | cons a l ih =>
    unfold t_ix at h
    split at h
    · exact nomatch h
    · rename_i ha
      cases e : t_ix l w with
      | some k => rw [e] at h; exact nomatch h
      | none =>
        intro i hi
        cases i with
        | zero => exact ha
        | succ i => exact ih e i (by rw [List.length_cons] at hi; omega)
def t_tm (f : Nat → va_E) (mo sr nm : Nat) (A : t_A) : Prop :=
  (t_bt (q_z f mo 23) 0 = t_yr A ∧ t_bt (q_z f mo 23) 1 = t_co A ∧ t_bt (q_z f mo 23) 2 = t_mi A) ∧ (q_z f sr 0 = ((t_nd A).length : Int) ∧ q_z f sr 1 = ((t_lk A).length : Int)) ∧ ((t_nd A).length ≤ 10 ∧ (t_lk A).length ≤ 16) ∧
  (∀ i : Nat, i < (t_nd A).length → q_j f nm i = t_mw ((t_nd A).getD i []) ∧ t_isw ((t_nd A).getD i [])) ∧
  (∀ i j : Nat, i < (t_nd A).length → j < (t_nd A).length → (t_nd A).getD i [] = (t_nd A).getD j [] → i = j) ∧
  (∀ k : Nat, k < (t_lk A).length → q_z f sr (90 + 5 * k) = (((t_lk A).getD k (0, 0)).1 : Int) ∧ q_z f sr (91 + 5 * k) = (((t_lk A).getD k (0, 0)).2 : Int))
section QTM
variable {f f1 : Nat → va_E} {mo sr nm : Nat} {A A1 : t_A} {B : Nat → Int} {n s : Int}
theorem t_tm_g (h : t_tm f mo sr nm A) (hn : t_nd A1 = t_nd A) (hl : t_lk A1 = t_lk A) (e0 : t_bt (q_z f1 mo 23) 0 = t_yr A1 ∧ t_bt (q_z f1 mo 23) 1 = t_co A1 ∧ t_bt (q_z f1 mo 23) 2 = t_mi A1) (e1 : ∀ i : Nat, 0 ≤ i → i ≤ 1 → q_z f1 sr i = q_z f sr i) (e2 : ∀ i : Nat, i < 5 * (t_lk A).length → q_z f1 sr (90 + i) = q_z f sr (90 + i)) (e3 : ∀ i : Nat, i < (t_nd A).length → q_j f1 nm i = q_j f nm i) : t_tm f1 mo sr nm A1 := by
  obtain ⟨-, ⟨h1, h2⟩, h3, h4, h5, h6⟩ := h
  unfold t_tm
  rw [hn, hl]
  refine ⟨e0, ⟨(e1 0 (by decide) (by decide)).trans h1, (e1 1 (by decide) (by decide)).trans h2⟩, h3, fun i hi => ?_, h5, fun k hk => ?_⟩
  · rw [e3 i hi]; exact h4 i hi
  · have a1 := e2 (5 * k) (by omega)
    have a2 := e2 (1 + 5 * k) (by omega)
    rw [show 90 + (1 + 5 * k) = 91 + 5 * k by omega] at a2
    rw [a1, a2]
    exact h6 k hk
theorem t_tm_tr (h : t_tm f mo sr nm A) (e0 : q_z f1 mo 23 = q_z f mo 23) (e1 : ∀ i : Nat, 0 ≤ i → i ≤ 1 → q_z f1 sr i = q_z f sr i) (e2 : ∀ i : Nat, 90 ≤ i → i ≤ 169 → q_z f1 sr i = q_z f sr i) (e3 : ∀ i : Nat, q_j f1 nm i = q_j f nm i) : t_tm f1 mo sr nm A :=
  t_tm_g h rfl rfl (by rw [e0]; exact h.1) e1 (fun i hi => e2 (90 + i) (by omega) (by have := h.2.2.1.2; omega)) (fun i _ => e3 i)
theorem t_tm_0 (e0 : q_is (q_z f mo 23) 0) (e1 : q_is (q_z f sr 0) 0) (e2 : q_is (q_z f sr 1) 0) : t_tm f mo sr nm t_A0 := by
  have e0 : q_z f mo 23 = 0 := e0
  refine ⟨?_, ⟨e1, e2⟩, ⟨Nat.zero_le _, Nat.zero_le _⟩, fun _ hi => absurd hi (Nat.not_lt_zero _), fun _ _ hi => absurd hi (Nat.not_lt_zero _), fun _ hi => absurd hi (Nat.not_lt_zero _)⟩
  rw [e0]
  exact ⟨t_bt0 0, t_bt0 1, t_bt0 2⟩
theorem t_tm_nn (h : t_tm f mo sr nm A) {x : Int} (hx : q_is (q_z f sr 0) x) : ((t_nd A).length : Int) = x := h.2.1.1.symm.trans hx
theorem t_tm_nl (h : t_tm f mo sr nm A) {x : Int} (hx : q_is (q_z f sr 1) x) : ((t_lk A).length : Int) = x := h.2.1.2.symm.trans hx
theorem t_tm_b0 (h : t_tm f mo sr nm A) {x : Int} {b : Bool} (hx : q_is (q_z f mo 23) x) (hb : t_bt x (Int.toNat 0) = b) : t_yr A = b := by
  have hx : q_z f mo 23 = x := hx
  rw [← h.1.1, hx]; exact hb
theorem t_tm_b1 (h : t_tm f mo sr nm A) {x : Int} {b : Bool} (hx : q_is (q_z f mo 23) x) (hb : t_bt x (Int.toNat 1) = b) : t_co A = b := by
  have hx : q_z f mo 23 = x := hx
  rw [← h.1.2.1, hx]; exact hb
theorem t_tm_b2 (h : t_tm f mo sr nm A) {x : Int} {b : Bool} (hx : q_is (q_z f mo 23) x) (hb : t_bt x (Int.toNat 2) = b) : t_mi A = b := by
  have hx : q_z f mo 23 = x := hx
  rw [← h.1.2.2, hx]; exact hb
theorem t_tm_s0 {x y : Int} (h : t_tm f mo sr nm A) (hx : q_is (q_z f mo 23) x) (ey : q_z f1 mo 23 = y) (hz : ∀ j : Nat, j < 10 → t_bt y j = (t_bt x j || (j == Int.toNat 0))) (e1 : ∀ i : Nat, 0 ≤ i → i ≤ 1 → q_z f1 sr i = q_z f sr i) (e2 : ∀ i : Nat, 90 ≤ i → i ≤ 169 → q_z f1 sr i = q_z f sr i) (e3 : ∀ i : Nat, q_j f1 nm i = q_j f nm i) : t_tm f1 mo sr nm (t_sy A) := by
  have hx : q_z f mo 23 = x := hx
  refine t_tm_g h rfl rfl ?_ e1 (fun i hi => e2 (90 + i) (by omega) (by have := h.2.2.1.2; omega)) (fun i _ => e3 i)
  rw [ey, hz 0 (by decide), hz 1 (by decide), hz 2 (by decide), ← hx, h.1.1, h.1.2.1, h.1.2.2]
  exact ⟨Bool.or_true _, Bool.or_false _, Bool.or_false _⟩
theorem t_tm_s1 {x y : Int} (h : t_tm f mo sr nm A) (hx : q_is (q_z f mo 23) x) (ey : q_z f1 mo 23 = y) (hz : ∀ j : Nat, j < 10 → t_bt y j = (t_bt x j || (j == Int.toNat 1))) (e1 : ∀ i : Nat, 0 ≤ i → i ≤ 1 → q_z f1 sr i = q_z f sr i) (e2 : ∀ i : Nat, 90 ≤ i → i ≤ 169 → q_z f1 sr i = q_z f sr i) (e3 : ∀ i : Nat, q_j f1 nm i = q_j f nm i) : t_tm f1 mo sr nm (t_sc A) := by
  have hx : q_z f mo 23 = x := hx
  refine t_tm_g h rfl rfl ?_ e1 (fun i hi => e2 (90 + i) (by omega) (by have := h.2.2.1.2; omega)) (fun i _ => e3 i)
  rw [ey, hz 0 (by decide), hz 1 (by decide), hz 2 (by decide), ← hx, h.1.1, h.1.2.1, h.1.2.2]
  exact ⟨Bool.or_false _, Bool.or_true _, Bool.or_false _⟩
theorem t_tm_s2 {x y : Int} (h : t_tm f mo sr nm A) (hx : q_is (q_z f mo 23) x) (ey : q_z f1 mo 23 = y) (hz : ∀ j : Nat, j < 10 → t_bt y j = (t_bt x j || (j == Int.toNat 2))) (e1 : ∀ i : Nat, 0 ≤ i → i ≤ 1 → q_z f1 sr i = q_z f sr i) (e2 : ∀ i : Nat, 90 ≤ i → i ≤ 169 → q_z f1 sr i = q_z f sr i) (e3 : ∀ i : Nat, q_j f1 nm i = q_j f nm i) : t_tm f1 mo sr nm (t_sm A) := by
  have hx : q_z f mo 23 = x := hx
  refine t_tm_g h rfl rfl ?_ e1 (fun i hi => e2 (90 + i) (by omega) (by have := h.2.2.1.2; omega)) (fun i _ => e3 i)
  rw [ey, hz 0 (by decide), hz 1 (by decide), hz 2 (by decide), ← hx, h.1.1, h.1.2.1, h.1.2.2]
  exact ⟨Bool.or_false _, Bool.or_false _, Bool.or_true _⟩
/-- a name is laid behind the last -/
theorem t_tm_pn (h : t_tm f mo sr nm A) {k : Nat} {v : Value} (hk : (t_nd A).length ≤ k) (ef : f1 = q_set f nm k v) (e0 : q_z f1 mo 23 = q_z f mo 23) (e1 : ∀ i : Nat, 0 ≤ i → i ≤ 1 → q_z f1 sr i = q_z f sr i) (e2 : ∀ i : Nat, 90 ≤ i → i ≤ 169 → q_z f1 sr i = q_z f sr i) : t_tm f1 mo sr nm A :=
  t_tm_g h rfl rfl (by rw [e0]; exact h.1) e1 (fun i hi => e2 (90 + i) (by omega) (by have := h.2.2.1.2; omega)) (fun i hi => by rw [ef, q_setj (Or.inr (by omega))])
theorem t_tm_an (h : t_tm f mo sr nm A) {k : Nat} {w : List Int} {v : Value} (hl : (t_nd A).length = k) (hk : k < 10) (hw : t_isw w) (hi : t_ix (t_nd A) w = none) (hj : q_j f nm k = t_mw w) (ef : f1 = q_set f sr 0 v) (e : q_z f1 sr 0 = (k : Int) + 1) (kmo : mo ≠ sr) (knm : nm ≠ sr) : t_tm f1 mo sr nm (t_an A w) := by
  have hno := t_ix_no hi
  obtain ⟨h0, ⟨h1, h2⟩, h3, h4, h5, h6⟩ := h
  subst ef
  have hlen : (t_nd (t_an A w)).length = (t_nd A).length + 1 := by
    show (A.2.2.2.1 ++ [w]).length = _
    rw [List.length_append, List.length_singleton]
    rfl
  have hg1 : ∀ i : Nat, i < (t_nd A).length → (t_nd (t_an A w)).getD i [] = (t_nd A).getD i [] := fun i hi => by
    show (A.2.2.2.1 ++ [w]).getD i [] = A.2.2.2.1.getD i []
    rw [List.getD_eq_getElem?_getD, List.getD_eq_getElem?_getD, List.getElem?_append_left hi]
  have hg2 : (t_nd (t_an A w)).getD k [] = w := by
    show (A.2.2.2.1 ++ [w]).getD k [] = w
    rw [List.getD_eq_getElem?_getD, ← hl, List.getElem?_append_right (Nat.le_refl _)]
    show ([w] : List (List Int))[A.2.2.2.1.length - A.2.2.2.1.length]?.getD [] = w
    rw [Nat.sub_self]
    rfl
  refine ⟨by rw [q_setz (Or.inl kmo)]; exact h0, ⟨by rw [e, hlen]; omega, (q_setz (Or.inr (by decide))).trans h2⟩, ⟨by rw [hlen]; omega, h3.2⟩, fun i hi => ?_, fun i j hi hj he => ?_, fun k9 hk9 => ?_⟩
  · rw [hlen] at hi
    rw [q_setj (Or.inl knm)]
    by_cases hik : i < (t_nd A).length
    · rw [hg1 i hik]; exact h4 i hik
    · obtain rfl : i = k := by omega
      rw [hg2]; exact ⟨hj, hw⟩
  · rw [hlen] at hi hj
    by_cases hik : i < (t_nd A).length
    · rw [hg1 i hik] at he
      by_cases hjk : j < (t_nd A).length
      · rw [hg1 j hjk] at he; exact h5 i j hik hjk he
      · obtain rfl : j = k := by omega
        rw [hg2] at he
        exact absurd he (hno i hik)
    · obtain rfl : i = k := by omega
      rw [hg2] at he
      by_cases hjk : j < (t_nd A).length
      · rw [hg1 j hjk] at he; exact absurd he.symm (hno j hjk)
      · omega
  · rw [q_setz (Or.inr (by omega)), q_setz (Or.inr (by omega))]
    exact h6 k9 hk9
/-- one link more -/
theorem t_tm_al (h : t_tm f mo sr nm A) {k a b : Nat} {v : Value} (hl : (t_lk A).length = k) (hk : k < 16) (ha : q_z f sr (90 + 5 * k) = (a : Int)) (hb : q_z f sr (91 + 5 * k) = (b : Int)) (ef : f1 = q_set f sr 1 v) (e : q_z f1 sr 1 = (k : Int) + 1) (kmo : mo ≠ sr) (knm : nm ≠ sr) : t_tm f1 mo sr nm (t_al A a b) := by
  obtain ⟨h0, ⟨h1, h2⟩, h3, h4, h5, h6⟩ := h
  subst ef
  have hlen : (t_lk (t_al A a b)).length = (t_lk A).length + 1 := by
    show (A.2.2.2.2 ++ [(a, b)]).length = _
    rw [List.length_append, List.length_singleton]
    rfl
  refine ⟨by rw [q_setz (Or.inl kmo)]; exact h0, ⟨(q_setz (Or.inr (by decide))).trans h1, by rw [e, hlen]; omega⟩, ⟨h3.1, by rw [hlen]; omega⟩, fun i hi => ?_, h5, fun k9 hk9 => ?_⟩
  · rw [q_setj (Or.inl knm)]; exact h4 i hi
  · rw [hlen] at hk9
    rw [q_setz (Or.inr (by omega)), q_setz (Or.inr (by omega))]
    by_cases hkk : k9 < (t_lk A).length
    · rw [show (t_lk (t_al A a b)).getD k9 (0, 0) = (t_lk A).getD k9 (0, 0) by
        show (A.2.2.2.2 ++ [(a, b)]).getD k9 (0, 0) = A.2.2.2.2.getD k9 (0, 0)
        rw [List.getD_eq_getElem?_getD, List.getD_eq_getElem?_getD, List.getElem?_append_left hkk]]
      exact h6 k9 hkk
    · obtain rfl : k9 = k := by omega
      rw [show (t_lk (t_al A a b)).getD k9 (0, 0) = (a, b) by
        show (A.2.2.2.2 ++ [(a, b)]).getD k9 (0, 0) = (a, b)
        rw [List.getD_eq_getElem?_getD, ← hl, List.getElem?_append_right (Nat.le_refl _)]
        show ([(a, b)] : List (Nat × Nat))[A.2.2.2.2.length - A.2.2.2.2.length]?.getD (0, 0) = (a, b)
        rw [Nat.sub_self]
        rfl]
      exact ⟨ha, hb⟩
/-- a link's cell is laid behind the last -/
theorem t_tm_sl (h : t_tm f mo sr nm A) {c : Int} (hc : 90 + 5 * ((t_lk A).length : Int) ≤ c) (ho : ∀ i : Nat, (i : Int) ≠ c → q_z f1 sr i = q_z f sr i) (e0 : q_z f1 mo 23 = q_z f mo 23) (e3 : ∀ i : Nat, q_j f1 nm i = q_j f nm i) : t_tm f1 mo sr nm A :=
  t_tm_g h rfl rfl (by rw [e0]; exact h.1) (fun i _ hi => ho i (by omega)) (fun i hi => ho (90 + i) (by omega)) (fun i _ => e3 i)
/-- the last of those of that name -/
def t_lm (l : List (List Int)) (w : List Int) (k its : Int) : Prop := (its = -1 ∧ ∀ j : Nat, (j : Int) < k → l.getD j [] ≠ w) ∨ (0 ≤ its ∧ its < k ∧ l.getD (Int.toNat its) [] = w)
theorem t_lm_0 {l : List (List Int)} {w : List Int} : t_lm l w 0 (-1) := Or.inl ⟨rfl, fun j hj => absurd hj (by omega)⟩
theorem t_lm_hit {wl : List Int} {k y : Int} {jx jw : Int64} (h : t_tm f mo sr nm A) (h0 : 0 ≤ k) (hi : k < ((t_nd A).length : Int)) (ej : q_j f nm (Int.toNat k) = jx) (ew : jw = t_mw wl) (hg : y = 0 ↔ jx = jw) (hv : t_isw wl) (hy : y = 0) : t_lm (t_nd A) wl (k + 1) k := by
  have h7 := h.2.2.2.1 (Int.toNat k) (by omega)
  have e : t_mw ((t_nd A).getD (Int.toNat k) []) = t_mw wl := by rw [← h7.1, ej, hg.mp hy, ew]
  exact Or.inr ⟨h0, by omega, t_mw_inj h7.2.2 hv.2 h7.2.1 hv.1 e⟩
theorem t_lm_miss {wl : List Int} {k y its : Int} {jx jw : Int64} (hl : t_lm (t_nd A) wl k its) (h : t_tm f mo sr nm A) (h0 : 0 ≤ k) (hi : k < ((t_nd A).length : Int)) (ej : q_j f nm (Int.toNat k) = jx) (ew : jw = t_mw wl) (hg : y = 0 ↔ jx = jw) (hy : ¬ y = 0) : t_lm (t_nd A) wl (k + 1) its := by
  rcases hl with ⟨h1, h2⟩ | ⟨h1, h2, h3⟩
  · refine Or.inl ⟨h1, fun j hj => ?_⟩
    by_cases e : (j : Int) < k
    · exact h2 j e
    · intro hw
      obtain rfl : j = Int.toNat k := by omega
      have h7 := (h.2.2.2.1 (Int.toNat k) (by omega)).1
      rw [hw, ← ew, ej] at h7
      exact hy (hg.mpr h7)
  · exact Or.inr ⟨h1, by omega, h3⟩
theorem t_lm_some {wl : List Int} {k its : Int} (hl : t_lm (t_nd A) wl k its) (h : t_tm f mo sr nm A) (h0 : 0 ≤ its) (hk : k ≤ ((t_nd A).length : Int)) : t_ix (t_nd A) wl = some (Int.toNat its) := by
  rcases hl with ⟨h1, -⟩ | ⟨-, h2, h3⟩
  · omega
  · exact t_ix_some (by omega) h3 (fun j hj hw => by have := h.2.2.2.2.1 j (Int.toNat its) (by omega) (by omega) (hw.trans h3.symm); omega)
theorem t_lm_none {wl : List Int} {k its : Int} (hl : t_lm (t_nd A) wl k its) (hi : its = -1) (hk : ((t_nd A).length : Int) ≤ k) : t_ix (t_nd A) wl = none := by
  rcases hl with ⟨-, h2⟩ | ⟨h1, -, -⟩
  · exact t_ix_none (fun j hj => h2 j (by omega))
  · omega
/-- whether there is a link -/
def t_hl (l : List (Nat × Nat)) (a b k its : Int) : Prop := (its = -1 ∧ ∀ j : Nat, (j : Int) < k → ¬ (((l.getD j (0, 0)).1 : Int) = a ∧ ((l.getD j (0, 0)).2 : Int) = b ∨ ((l.getD j (0, 0)).1 : Int) = b ∧ ((l.getD j (0, 0)).2 : Int) = a)) ∨ (0 ≤ its ∧ its < k ∧ (((l.getD (Int.toNat its) (0, 0)).1 : Int) = a ∧ ((l.getD (Int.toNat its) (0, 0)).2 : Int) = b ∨ ((l.getD (Int.toNat its) (0, 0)).1 : Int) = b ∧ ((l.getD (Int.toNat its) (0, 0)).2 : Int) = a))
theorem t_hl_0 {l : List (Nat × Nat)} {a b : Int} : t_hl l a b 0 (-1) := Or.inl ⟨rfl, fun j hj => absurd hj (by omega)⟩
theorem t_tm_lc {k x y : Int} (h : t_tm f mo sr nm A) (h0 : 0 ≤ k) (hi : k < ((t_lk A).length : Int)) (hx : x = q_z f sr (Int.toNat (5 * k + 90))) (hy : y = q_z f sr (Int.toNat (5 * k + 91))) : (((t_lk A).getD (Int.toNat k) (0, 0)).1 : Int) = x ∧ (((t_lk A).getD (Int.toNat k) (0, 0)).2 : Int) = y := by
  have h7 := h.2.2.2.2.2 (Int.toNat k) (by omega)
  rw [hx, hy, show Int.toNat (5 * k + 90) = 90 + 5 * Int.toNat k by omega, show Int.toNat (5 * k + 91) = 91 + 5 * Int.toNat k by omega]
  exact ⟨h7.1.symm, h7.2.symm⟩
theorem t_hl_hit {a b k x y : Int} (h : t_tm f mo sr nm A) (h0 : 0 ≤ k) (hi : k < ((t_lk A).length : Int)) (hx : x = q_z f sr (Int.toNat (5 * k + 90))) (hy : y = q_z f sr (Int.toNat (5 * k + 91))) (hc : x = a ∧ y = b ∨ x = b ∧ y = a) : t_hl (t_lk A) a b (k + 1) k := by
  have h7 := t_tm_lc h h0 hi hx hy
  refine Or.inr ⟨h0, by omega, ?_⟩
  rw [h7.1, h7.2]
  exact hc
theorem t_hl_miss {a b k x y its : Int} (hl : t_hl (t_lk A) a b k its) (h : t_tm f mo sr nm A) (h0 : 0 ≤ k) (hi : k < ((t_lk A).length : Int)) (hx : x = q_z f sr (Int.toNat (5 * k + 90))) (hy : y = q_z f sr (Int.toNat (5 * k + 91))) (hc : ¬ (x = a ∧ y = b ∨ x = b ∧ y = a)) : t_hl (t_lk A) a b (k + 1) its := by
  have h7 := t_tm_lc h h0 hi hx hy
  rcases hl with ⟨h1, h2⟩ | ⟨h1, h2, h3⟩
  · refine Or.inl ⟨h1, fun j hj => ?_⟩
    by_cases e : (j : Int) < k
    · exact h2 j e
    · obtain rfl : j = Int.toNat k := by omega
      rw [h7.1, h7.2]
      exact hc
  · exact Or.inr ⟨h1, by omega, h3⟩
theorem t_hl_some {a b k its : Int} (hl : t_hl (t_lk A) a b k its) (ha : 0 ≤ a) (hb : 0 ≤ b) (h0 : 0 ≤ its) (hk : k ≤ ((t_lk A).length : Int)) : t_has (t_lk A) (Int.toNat a) (Int.toNat b) = true := by
  rcases hl with ⟨h1, -⟩ | ⟨-, h2, h3⟩
  · omega
  · unfold t_has
    rw [List.any_eq_true]
    have hi : Int.toNat its < (t_lk A).length := by omega
    refine ⟨(t_lk A)[Int.toNat its], List.getElem_mem hi, ?_⟩
    rw [List.getD_eq_getElem?_getD, List.getElem?_eq_getElem hi] at h3
    generalize (t_lk A)[Int.toNat its] = p at h3 ⊢
    have h3 : (p.1 : Int) = a ∧ (p.2 : Int) = b ∨ (p.1 : Int) = b ∧ (p.2 : Int) = a := h3
    rw [Bool.or_eq_true, Bool.and_eq_true, Bool.and_eq_true, beq_iff_eq, beq_iff_eq, beq_iff_eq, beq_iff_eq]
    omega
theorem t_hl_none {a b k its : Int} (hl : t_hl (t_lk A) a b k its) (ha : 0 ≤ a) (hb : 0 ≤ b) (hi : its = -1) (hk : ((t_lk A).length : Int) ≤ k) : t_has (t_lk A) (Int.toNat a) (Int.toNat b) = false := by
  rcases hl with ⟨-, h2⟩ | ⟨h1, -, -⟩
  · unfold t_has
    rw [List.any_eq_false]
    intro p hp hq
    obtain ⟨j, hj, rfl⟩ := List.getElem_of_mem hp
    have h3 := h2 j (by omega)
    rw [List.getD_eq_getElem?_getD, List.getElem?_eq_getElem hj] at h3
    generalize (t_lk A)[j] = p at h3 hq
    have h3 : ¬ ((p.1 : Int) = a ∧ (p.2 : Int) = b ∨ (p.1 : Int) = b ∧ (p.2 : Int) = a) := h3
    rw [Bool.or_eq_true, Bool.and_eq_true, Bool.and_eq_true, beq_iff_eq, beq_iff_eq, beq_iff_eq, beq_iff_eq] at hq
    omega
  · omega
end QTM
/-! a name and a number behind it -/
def t_af (B : Nat → Int) (n : Int) (w : List Int) (lo hi s : Int) : t_R Int := t_bd (t_wd B n w s) (t_nm B n lo hi)
theorem t_bd_as {α β γ : Type} (r : t_R α) (k : α → t_R β) (k2 : β → t_R γ) : t_bd (t_bd r k) k2 = t_bd r fun a => t_bd (k a) k2 := by
  cases r with
  | ok a => rfl
  | error e => rfl
theorem t_rest_af {B : Nat → Int} {n s : Int} : t_rest B n s = t_bd (t_af B n t_wBorn 0 59 s) fun s2 => t_bd (t_shift B n s2) fun s3 => t_af B n t_wEnergy 1 999 s3 := by
  unfold t_rest t_af
  rw [t_bd_as]
section QAF
variable {B : Nat → Int} {n s x x1 x2 x3 x4 x5 a b c p : Int}
theorem t_af_ok {w : List Int} {lo hi : Int} (e1 : t_wd B n w s = t_ok x1) (e2 : t_nm B n lo hi x1 = t_ok x2) : t_af B n w lo hi s = t_ok x2 := by unfold t_af; rw [t_bd_ok e1, e2]
theorem t_af_e1 {w : List Int} {lo hi : Int} (e1 : t_wd B n w s = t_er c p) : t_af B n w lo hi s = t_er c p := by unfold t_af; rw [t_bd_er e1]
theorem t_af_e2 {w : List Int} {lo hi : Int} (e1 : t_wd B n w s = t_ok x1) (e2 : t_nm B n lo hi x1 = t_er c p) : t_af B n w lo hi s = t_er c p := by unfold t_af; rw [t_bd_ok e1, e2]
theorem t_rst_ok (e1 : t_af B n t_wBorn 0 59 s = t_ok x2) (e3 : t_shift B n x2 = t_ok x3) (e4 : t_af B n t_wEnergy 1 999 x3 = t_ok x5) : t_rest B n s = t_ok x5 := by rw [t_rest_af, t_bd_ok e1, t_bd_ok e3, e4]
theorem t_rst_e1 (e1 : t_af B n t_wBorn 0 59 s = t_er c p) : t_rest B n s = t_er c p := by rw [t_rest_af, t_bd_er e1]
theorem t_rst_e3 (e1 : t_af B n t_wBorn 0 59 s = t_ok x2) (e3 : t_shift B n x2 = t_er c p) : t_rest B n s = t_er c p := by rw [t_rest_af, t_bd_ok e1, t_bd_er e3]
theorem t_rst_e4 (e1 : t_af B n t_wBorn 0 59 s = t_ok x2) (e3 : t_shift B n x2 = t_ok x3) (e4 : t_af B n t_wEnergy 1 999 x3 = t_er c p) : t_rest B n s = t_er c p := by rw [t_rest_af, t_bd_ok e1, t_bd_ok e3, e4]
theorem t_erx {α : Type} {F : t_R α} {a b x y : Int} (h : F = t_er a b) (ha : q_is a x) (hb : q_is b y) : F = t_er x y := by
  have ha : a = x := ha
  have hb : b = y := hb
  rw [h, ha, hb]
theorem t_erp {α : Type} {F : t_R α} {a b x y : Int} (h : F = t_er x y) (ha : q_is a x) (hb : q_is b y) : F = t_er a b := by
  have ha : a = x := ha
  have hb : b = y := hb
  rw [h, ha, hb]
end QAF
/-! four bytes of a number -/
def t_by (p k : Int) : Int := ((q_i p >>> (q_i k &&& 31)).toInt8).toInt
def t_g4 (p : Int) (k : Nat) : Int := t_by p (24 - 8 * (k : Int))
def t_wr (f f1 : Nat → va_E) (a : Nat) (n : Int) (G : Nat → Int) (m : Nat) : Prop := (∀ i : Nat, (i : Int) < n → q_z f1 a i = q_z f a i) ∧ ∀ k : Nat, k < m → q_z f1 a (Int.toNat n + k) = G k
def t_g20 (a b c d e : Int) (k : Nat) : Int := if k < 4 then t_g4 a k else if k < 8 then t_g4 b (k - 4) else if k < 12 then t_g4 c (k - 8) else if k < 16 then t_g4 d (k - 12) else t_g4 e (k - 16)
theorem t_wr5 {f f1 f2 f3 f4 f5 : Nat → va_E} {x : Nat} {n a b c d e : Int} {U : Int → Int} (hn : 0 ≤ n) (h1 : t_wr f f1 x n (fun k => U (t_g4 a k)) 4) (h2 : t_wr f1 f2 x (n + 4) (fun k => U (t_g4 b k)) 4) (h3 : t_wr f2 f3 x (n + 4 + 4) (fun k => U (t_g4 c k)) 4) (h4 : t_wr f3 f4 x (n + 4 + 4 + 4) (fun k => U (t_g4 d k)) 4) (h5 : t_wr f4 f5 x (n + 4 + 4 + 4 + 4) (fun k => U (t_g4 e k)) 4) : t_wr f f5 x n (fun k => U (t_g20 a b c d e k)) 20 := by
  refine ⟨fun i hi => ?_, fun k hk => ?_⟩
  · rw [h5.1 i (by omega), h4.1 i (by omega), h3.1 i (by omega), h2.1 i (by omega), h1.1 i hi]
  · show _ = U (t_g20 a b c d e k)
    unfold t_g20
    split
    · rw [h5.1 _ (by omega), h4.1 _ (by omega), h3.1 _ (by omega), h2.1 _ (by omega)]
      exact h1.2 k (by omega)
    · split
      · rw [h5.1 _ (by omega), h4.1 _ (by omega), h3.1 _ (by omega), show Int.toNat n + k = Int.toNat (n + 4) + (k - 4) by omega]
        exact h2.2 (k - 4) (by omega)
      · split
        · rw [h5.1 _ (by omega), h4.1 _ (by omega), show Int.toNat n + k = Int.toNat (n + 4 + 4) + (k - 8) by omega]
          exact h3.2 (k - 8) (by omega)
        · split
          · rw [h5.1 _ (by omega), show Int.toNat n + k = Int.toNat (n + 4 + 4 + 4) + (k - 12) by omega]
            exact h4.2 (k - 12) (by omega)
          · rw [show Int.toNat n + k = Int.toNat (n + 4 + 4 + 4 + 4) + (k - 16) by omega]
            exact h5.2 (k - 16) (by omega)
theorem t_by8 {p k b : Int} (h0 : -128 ≤ b) (h1 : b ≤ 127) {x : Int32} (e1 : q_i p >>> (q_i k &&& 31) = x) (e2 : x.toInt8.toInt32 = q_i b) : b = t_by p k := by
  unfold t_by
  rw [e1]
  have h := congrArg Int32.toInt e2
  rw [Int8.toInt_toInt32] at h
  rw [h]
  exact (q_toInt ⟨by omega, by omega⟩).symm
theorem t_by9 {p k y : Int} {x : Int32} (h0 : 0 ≤ y) (h1 : y ≤ 255) (e1 : q_i p >>> (q_i k &&& 31) = x) (e2 : x &&& q_i 255 = q_i y) : y = t_u (t_by p k) := by
  unfold t_by
  rw [e1]
  have hy : (x &&& q_i 255).toInt = y := by rw [e2]; exact q_toInt ⟨by omega, by omega⟩
  have hb : (x &&& q_i 255).toBitVec = (x.toBitVec.setWidth 8).setWidth 32 := by
    rw [Int32.toBitVec_and]
    apply BitVec.eq_of_getLsbD_eq
    intro i hi
    have hm : ∀ j : Fin 32, (q_i 255).toBitVec.getLsbD (j : Nat) = decide ((j : Nat) < 8) := by decide +kernel
    have hm : (q_i 255).toBitVec.getLsbD i = decide (i < 8) := hm ⟨i, hi⟩
    rw [BitVec.getLsbD_and, hm, BitVec.getLsbD_setWidth, BitVec.getLsbD_setWidth]
    simp only [hi, decide_true, Bool.true_and]
    exact Bool.and_comm _ _
  have h8 : x.toInt8.toInt = (x.toBitVec.setWidth 8).toInt := by
    show x.toInt8.toBitVec.toInt = _
    rw [Int32.toBitVec_toInt8, BitVec.signExtend_eq_setWidth_of_le _ (by decide)]
  have hy2 : y = ((x.toBitVec.setWidth 8).toNat : Int) := by
    rw [← hy]
    show (x &&& q_i 255).toBitVec.toInt = _
    rw [hb, BitVec.toInt_eq_toNat_cond, BitVec.toNat_setWidth]
    have := (x.toBitVec.setWidth 8).isLt
    rw [Nat.mod_eq_of_lt (by omega), if_pos (by omega)]
  rw [h8, hy2, BitVec.toInt_eq_toNat_cond]
  have := (x.toBitVec.setWidth 8).isLt
  unfold t_u
  split
  · rw [if_neg (by omega)]
  · rw [if_pos (by omega)]
    omega
theorem t_wr_0 {f : Nat → va_E} {a : Nat} {n : Int} {G : Nat → Int} : t_wr f f a n G 0 := ⟨fun _ _ => rfl, fun _ h => absurd h (Nat.not_lt_zero _)⟩
theorem t_wr_tr {f f1 f2 : Nat → va_E} {a : Nat} {n : Int} {G : Nat → Int} {m : Nat} (h : t_wr f f1 a n G m) (e : ∀ i : Nat, q_z f2 a i = q_z f1 a i) : t_wr f f2 a n G m := ⟨fun i hi => (e i).trans (h.1 i hi), fun k hk => (e _).trans (h.2 k hk)⟩
theorem t_wr_put {f f1 f2 : Nat → va_E} {a : Nat} {n X y : Int} {G : Nat → Int} {m : Nat} {v : Value} (h : t_wr f f1 a n G m) (ef : f2 = q_set f1 a (Int.toNat X) v) (ez : q_z f2 a (Int.toNat X) = y) (hX : X = n + (m : Int)) (hn : 0 ≤ n) (hy : y = G m) : t_wr f f2 a n G (m + 1) := by
  refine ⟨fun i hi => ?_, fun k hk => ?_⟩
  · rw [ef, q_setz (Or.inr (by omega))]
    exact h.1 i hi
  · by_cases e : k = m
    · rw [e, show Int.toNat n + m = Int.toNat X by omega, ez, hy]
    · rw [ef, q_setz (Or.inr (by omega))]
      exact h.2 k (by omega)
theorem k_nin_n {a b x : Int} (h : k_nin a b x) : ¬ (a ≤ x ∧ x ≤ b) := by
  have h : _ ∨ _ := h
  omega
theorem t_nw_tr {f f1 : Nat → va_E} {nm k : Nat} {w : Int64} (h : q_j f nm k = w) (e : ∀ i : Nat, q_j f1 nm i = q_j f nm i) : q_j f1 nm k = w := (e k).trans h
theorem t_zat {f : Nat → va_E} {a : Nat} {X Y x : Int} (h : q_z f a (Int.toNat X) = x) (e : X = Y) : q_z f a (Int.toNat Y) = x := by rw [← e]; exact h
theorem t_cla {f1 f2 : Nat → va_E} {sr : Nat} {n c : Int} {k : Nat} {a : Int} (ho : ∀ i : Nat, (i : Int) ≠ 5 * n + 91 → q_z f2 sr i = q_z f1 sr i) (h : q_z f1 sr (Int.toNat (5 * n + 90)) = a) (hk : n = (k : Int)) (ha : 0 ≤ a) : q_z f2 sr (90 + 5 * k) = ((Int.toNat a : Nat) : Int) := by
  rw [ho _ (by omega), show 90 + 5 * k = Int.toNat (5 * n + 90) by omega, h]
  omega
theorem t_clb {f2 : Nat → va_E} {sr : Nat} {n : Int} {k : Nat} {a : Int} (h : q_z f2 sr (Int.toNat (5 * n + 91)) = a) (hk : n = (k : Int)) (ha : 0 ≤ a) : q_z f2 sr (91 + 5 * k) = ((Int.toNat a : Nat) : Int) := by
  rw [show 91 + 5 * k = Int.toNat (5 * n + 91) by omega, h]
  omega
theorem t_iYear : t_isw t_wYear := by unfold t_isw t_wYear; decide
theorem t_iCosts : t_isw t_wCosts := by unfold t_isw t_wCosts; decide
theorem t_iMiss : t_isw t_wMiss := by unfold t_isw t_wMiss; decide
theorem t_iNode : t_isw t_wNode := by unfold t_isw t_wNode; decide
theorem t_iBorn : t_isw t_wBorn := by unfold t_isw t_wBorn; decide
theorem t_iShift : t_isw t_wShift := by unfold t_isw t_wShift; decide
theorem t_iEnergy : t_isw t_wEnergy := by unfold t_isw t_wEnergy; decide
theorem t_iLink : t_isw t_wLink := by unfold t_isw t_wLink; decide
