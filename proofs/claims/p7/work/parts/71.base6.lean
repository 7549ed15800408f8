/-! what the reference has told -/
theorem tk_ix_no {l : List (List Int)} {w : List Int} (h : tk_ix l w = none) : ∀ i : Nat, i < l.length → l.getD i [] ≠ w := by
  induction l with
  | nil => intro i hi; exact absurd hi (Nat.not_lt_zero _)
  | cons a l ih =>
    unfold tk_ix at h
    split at h
    · exact nomatch h
    · rename_i ha
      cases e : tk_ix l w with
      | some k => rw [e] at h; exact nomatch h
      | none =>
        intro i hi
        cases i with
        | zero => exact ha
        | succ i => exact ih e i (by rw [List.length_cons] at hi; omega)
def tk_tm (f : Nat → va_E) (mo sr nm : Nat) (A : tk_A) : Prop :=
  (tk_bt (q_z f mo 23) 0 = tk_yr A ∧ tk_bt (q_z f mo 23) 1 = tk_co A ∧ tk_bt (q_z f mo 23) 2 = tk_mi A) ∧ (q_z f sr 0 = ((tk_nd A).length : Int) ∧ q_z f sr 1 = ((tk_lk A).length : Int)) ∧ ((tk_nd A).length ≤ 10 ∧ (tk_lk A).length ≤ 16) ∧
  (∀ i : Nat, i < (tk_nd A).length → q_j f nm i = tk_mw ((tk_nd A).getD i []) ∧ tk_isw ((tk_nd A).getD i [])) ∧
  (∀ i j : Nat, i < (tk_nd A).length → j < (tk_nd A).length → (tk_nd A).getD i [] = (tk_nd A).getD j [] → i = j) ∧
  (∀ k : Nat, k < (tk_lk A).length → q_z f sr (90 + 5 * k) = (((tk_lk A).getD k (0, 0)).1 : Int) ∧ q_z f sr (91 + 5 * k) = (((tk_lk A).getD k (0, 0)).2 : Int))
section QTM
variable {f f1 : Nat → va_E} {mo sr nm : Nat} {A A1 : tk_A} {B : Nat → Int} {n s : Int}
theorem tk_tm_g (h : tk_tm f mo sr nm A) (hn : tk_nd A1 = tk_nd A) (hl : tk_lk A1 = tk_lk A) (e0 : tk_bt (q_z f1 mo 23) 0 = tk_yr A1 ∧ tk_bt (q_z f1 mo 23) 1 = tk_co A1 ∧ tk_bt (q_z f1 mo 23) 2 = tk_mi A1) (e1 : ∀ i : Nat, 0 ≤ i → i ≤ 1 → q_z f1 sr i = q_z f sr i) (e2 : ∀ i : Nat, i < 5 * (tk_lk A).length → q_z f1 sr (90 + i) = q_z f sr (90 + i)) (e3 : ∀ i : Nat, i < (tk_nd A).length → q_j f1 nm i = q_j f nm i) : tk_tm f1 mo sr nm A1 := by
  obtain ⟨-, ⟨h1, h2⟩, h3, h4, h5, h6⟩ := h
  unfold tk_tm
  rw [hn, hl]
  refine ⟨e0, ⟨(e1 0 (by decide) (by decide)).trans h1, (e1 1 (by decide) (by decide)).trans h2⟩, h3, fun i hi => ?_, h5, fun k hk => ?_⟩
  · rw [e3 i hi]; exact h4 i hi
  · have a1 := e2 (5 * k) (by omega)
    have a2 := e2 (1 + 5 * k) (by omega)
    rw [show 90 + (1 + 5 * k) = 91 + 5 * k by omega] at a2
    rw [a1, a2]
    exact h6 k hk
theorem tk_tm_tr (h : tk_tm f mo sr nm A) (e0 : q_z f1 mo 23 = q_z f mo 23) (e1 : ∀ i : Nat, 0 ≤ i → i ≤ 1 → q_z f1 sr i = q_z f sr i) (e2 : ∀ i : Nat, 90 ≤ i → i ≤ 169 → q_z f1 sr i = q_z f sr i) (e3 : ∀ i : Nat, q_j f1 nm i = q_j f nm i) : tk_tm f1 mo sr nm A :=
  tk_tm_g h rfl rfl (by rw [e0]; exact h.1) e1 (fun i hi => e2 (90 + i) (by omega) (by have := h.2.2.1.2; omega)) (fun i _ => e3 i)
theorem tk_tm_0 (e0 : q_is (q_z f mo 23) 0) (e1 : q_is (q_z f sr 0) 0) (e2 : q_is (q_z f sr 1) 0) : tk_tm f mo sr nm tk_A0 := by
  have e0 : q_z f mo 23 = 0 := e0
  refine ⟨?_, ⟨e1, e2⟩, ⟨Nat.zero_le _, Nat.zero_le _⟩, fun _ hi => absurd hi (Nat.not_lt_zero _), fun _ _ hi => absurd hi (Nat.not_lt_zero _), fun _ hi => absurd hi (Nat.not_lt_zero _)⟩
  rw [e0]
  exact ⟨tk_bt0 0, tk_bt0 1, tk_bt0 2⟩
theorem tk_tm_nn (h : tk_tm f mo sr nm A) {x : Int} (hx : q_is (q_z f sr 0) x) : ((tk_nd A).length : Int) = x := h.2.1.1.symm.trans hx
theorem tk_tm_nl (h : tk_tm f mo sr nm A) {x : Int} (hx : q_is (q_z f sr 1) x) : ((tk_lk A).length : Int) = x := h.2.1.2.symm.trans hx
theorem tk_tm_b0 (h : tk_tm f mo sr nm A) {x : Int} {b : Bool} (hx : q_is (q_z f mo 23) x) (hb : tk_bt x (Int.toNat 0) = b) : tk_yr A = b := by
  have hx : q_z f mo 23 = x := hx
  rw [← h.1.1, hx]; exact hb
theorem tk_tm_b1 (h : tk_tm f mo sr nm A) {x : Int} {b : Bool} (hx : q_is (q_z f mo 23) x) (hb : tk_bt x (Int.toNat 1) = b) : tk_co A = b := by
  have hx : q_z f mo 23 = x := hx
  rw [← h.1.2.1, hx]; exact hb
theorem tk_tm_b2 (h : tk_tm f mo sr nm A) {x : Int} {b : Bool} (hx : q_is (q_z f mo 23) x) (hb : tk_bt x (Int.toNat 2) = b) : tk_mi A = b := by
  have hx : q_z f mo 23 = x := hx
  rw [← h.1.2.2, hx]; exact hb
theorem tk_tm_s0 {x y : Int} (h : tk_tm f mo sr nm A) (hx : q_is (q_z f mo 23) x) (ey : q_z f1 mo 23 = y) (hz : ∀ j : Nat, j < 10 → tk_bt y j = (tk_bt x j || (j == Int.toNat 0))) (e1 : ∀ i : Nat, 0 ≤ i → i ≤ 1 → q_z f1 sr i = q_z f sr i) (e2 : ∀ i : Nat, 90 ≤ i → i ≤ 169 → q_z f1 sr i = q_z f sr i) (e3 : ∀ i : Nat, q_j f1 nm i = q_j f nm i) : tk_tm f1 mo sr nm (tk_sy A) := by
  have hx : q_z f mo 23 = x := hx
  refine tk_tm_g h rfl rfl ?_ e1 (fun i hi => e2 (90 + i) (by omega) (by have := h.2.2.1.2; omega)) (fun i _ => e3 i)
  rw [ey, hz 0 (by decide), hz 1 (by decide), hz 2 (by decide), ← hx, h.1.1, h.1.2.1, h.1.2.2]
  exact ⟨Bool.or_true _, Bool.or_false _, Bool.or_false _⟩
theorem tk_tm_s1 {x y : Int} (h : tk_tm f mo sr nm A) (hx : q_is (q_z f mo 23) x) (ey : q_z f1 mo 23 = y) (hz : ∀ j : Nat, j < 10 → tk_bt y j = (tk_bt x j || (j == Int.toNat 1))) (e1 : ∀ i : Nat, 0 ≤ i → i ≤ 1 → q_z f1 sr i = q_z f sr i) (e2 : ∀ i : Nat, 90 ≤ i → i ≤ 169 → q_z f1 sr i = q_z f sr i) (e3 : ∀ i : Nat, q_j f1 nm i = q_j f nm i) : tk_tm f1 mo sr nm (tk_sc A) := by
  have hx : q_z f mo 23 = x := hx
  refine tk_tm_g h rfl rfl ?_ e1 (fun i hi => e2 (90 + i) (by omega) (by have := h.2.2.1.2; omega)) (fun i _ => e3 i)
  rw [ey, hz 0 (by decide), hz 1 (by decide), hz 2 (by decide), ← hx, h.1.1, h.1.2.1, h.1.2.2]
  exact ⟨Bool.or_false _, Bool.or_true _, Bool.or_false _⟩
theorem tk_tm_s2 {x y : Int} (h : tk_tm f mo sr nm A) (hx : q_is (q_z f mo 23) x) (ey : q_z f1 mo 23 = y) (hz : ∀ j : Nat, j < 10 → tk_bt y j = (tk_bt x j || (j == Int.toNat 2))) (e1 : ∀ i : Nat, 0 ≤ i → i ≤ 1 → q_z f1 sr i = q_z f sr i) (e2 : ∀ i : Nat, 90 ≤ i → i ≤ 169 → q_z f1 sr i = q_z f sr i) (e3 : ∀ i : Nat, q_j f1 nm i = q_j f nm i) : tk_tm f1 mo sr nm (tk_sm A) := by
  have hx : q_z f mo 23 = x := hx
  refine tk_tm_g h rfl rfl ?_ e1 (fun i hi => e2 (90 + i) (by omega) (by have := h.2.2.1.2; omega)) (fun i _ => e3 i)
  rw [ey, hz 0 (by decide), hz 1 (by decide), hz 2 (by decide), ← hx, h.1.1, h.1.2.1, h.1.2.2]
  exact ⟨Bool.or_false _, Bool.or_false _, Bool.or_true _⟩
/-- a name is laid behind the last -/
theorem tk_tm_pn (h : tk_tm f mo sr nm A) {k : Nat} {v : Value} (hk : (tk_nd A).length ≤ k) (ef : f1 = q_set f nm k v) (e0 : q_z f1 mo 23 = q_z f mo 23) (e1 : ∀ i : Nat, 0 ≤ i → i ≤ 1 → q_z f1 sr i = q_z f sr i) (e2 : ∀ i : Nat, 90 ≤ i → i ≤ 169 → q_z f1 sr i = q_z f sr i) : tk_tm f1 mo sr nm A :=
  tk_tm_g h rfl rfl (by rw [e0]; exact h.1) e1 (fun i hi => e2 (90 + i) (by omega) (by have := h.2.2.1.2; omega)) (fun i hi => by rw [ef, q_setj (Or.inr (by omega))])
theorem tk_tm_an (h : tk_tm f mo sr nm A) {k : Nat} {w : List Int} {v : Value} (hl : (tk_nd A).length = k) (hk : k < 10) (hw : tk_isw w) (hi : tk_ix (tk_nd A) w = none) (hj : q_j f nm k = tk_mw w) (ef : f1 = q_set f sr 0 v) (e : q_z f1 sr 0 = (k : Int) + 1) (kmo : mo ≠ sr) (knm : nm ≠ sr) : tk_tm f1 mo sr nm (tk_an A w) := by
  have hno := tk_ix_no hi
  obtain ⟨h0, ⟨h1, h2⟩, h3, h4, h5, h6⟩ := h
  subst ef
  have hlen : (tk_nd (tk_an A w)).length = (tk_nd A).length + 1 := by
    show (A.2.2.2.1 ++ [w]).length = _
    rw [List.length_append, List.length_singleton]
    rfl
  have hg1 : ∀ i : Nat, i < (tk_nd A).length → (tk_nd (tk_an A w)).getD i [] = (tk_nd A).getD i [] := fun i hi => by
    show (A.2.2.2.1 ++ [w]).getD i [] = A.2.2.2.1.getD i []
    rw [List.getD_eq_getElem?_getD, List.getD_eq_getElem?_getD, List.getElem?_append_left (show i < A.2.2.2.1.length from hi)]
  have hg2 : (tk_nd (tk_an A w)).getD k [] = w := by
    show (A.2.2.2.1 ++ [w]).getD k [] = w
    rw [List.getD_eq_getElem?_getD, ← hl]
    show (A.2.2.2.1 ++ [w])[A.2.2.2.1.length]?.getD [] = w
    rw [List.getElem?_append_right (Nat.le_refl _)]
    show ([w] : List (List Int))[A.2.2.2.1.length - A.2.2.2.1.length]?.getD [] = w
    rw [Nat.sub_self]
    rfl
  refine ⟨by rw [q_setz (Or.inl kmo)]; exact h0, ⟨by rw [e, hlen]; omega, (q_setz (Or.inr (by decide))).trans h2⟩, ⟨by rw [hlen]; omega, h3.2⟩, fun i hi => ?_, fun i j hi hj he => ?_, fun k9 hk9 => ?_⟩
  · rw [hlen] at hi
    rw [q_setj (Or.inl knm)]
    by_cases hik : i < (tk_nd A).length
    · rw [hg1 i hik]; exact h4 i hik
    · obtain rfl : i = k := by omega
      rw [hg2]; exact ⟨hj, hw⟩
  · rw [hlen] at hi hj
    by_cases hik : i < (tk_nd A).length
    · rw [hg1 i hik] at he
      by_cases hjk : j < (tk_nd A).length
      · rw [hg1 j hjk] at he; exact h5 i j hik hjk he
      · obtain rfl : j = k := by omega
        rw [hg2] at he
        exact absurd he (hno i hik)
    · obtain rfl : i = k := by omega
      rw [hg2] at he
      by_cases hjk : j < (tk_nd A).length
      · rw [hg1 j hjk] at he; exact absurd he.symm (hno j hjk)
      · omega
  · rw [q_setz (Or.inr (by omega)), q_setz (Or.inr (by omega))]
    exact h6 k9 hk9
/-- one link more -/
theorem tk_tm_al (h : tk_tm f mo sr nm A) {k a b : Nat} {v : Value} (hl : (tk_lk A).length = k) (hk : k < 16) (ha : q_z f sr (90 + 5 * k) = (a : Int)) (hb : q_z f sr (91 + 5 * k) = (b : Int)) (ef : f1 = q_set f sr 1 v) (e : q_z f1 sr 1 = (k : Int) + 1) (kmo : mo ≠ sr) (knm : nm ≠ sr) : tk_tm f1 mo sr nm (tk_al A a b) := by
  obtain ⟨h0, ⟨h1, h2⟩, h3, h4, h5, h6⟩ := h
  subst ef
  have hlen : (tk_lk (tk_al A a b)).length = (tk_lk A).length + 1 := by
    show (A.2.2.2.2 ++ [(a, b)]).length = _
    rw [List.length_append, List.length_singleton]
    rfl
  refine ⟨by rw [q_setz (Or.inl kmo)]; exact h0, ⟨(q_setz (Or.inr (by decide))).trans h1, by rw [e, hlen]; omega⟩, ⟨h3.1, by rw [hlen]; omega⟩, fun i hi => ?_, h5, fun k9 hk9 => ?_⟩
  · rw [q_setj (Or.inl knm)]; exact h4 i hi
  · rw [hlen] at hk9
    rw [q_setz (Or.inr (by omega)), q_setz (Or.inr (by omega))]
    by_cases hkk : k9 < (tk_lk A).length
    · rw [show (tk_lk (tk_al A a b)).getD k9 (0, 0) = (tk_lk A).getD k9 (0, 0) by
        show (A.2.2.2.2 ++ [(a, b)]).getD k9 (0, 0) = A.2.2.2.2.getD k9 (0, 0)
        rw [List.getD_eq_getElem?_getD, List.getD_eq_getElem?_getD, List.getElem?_append_left (show k9 < A.2.2.2.2.length from hkk)]]
      exact h6 k9 hkk
    · obtain rfl : k9 = k := by omega
      rw [show (tk_lk (tk_al A a b)).getD k9 (0, 0) = (a, b) by
        show (A.2.2.2.2 ++ [(a, b)]).getD k9 (0, 0) = (a, b)
        rw [List.getD_eq_getElem?_getD, ← hl]
        show (A.2.2.2.2 ++ [(a, b)])[A.2.2.2.2.length]?.getD (0, 0) = (a, b)
        rw [List.getElem?_append_right (Nat.le_refl _)]
        show ([(a, b)] : List (Nat × Nat))[A.2.2.2.2.length - A.2.2.2.2.length]?.getD (0, 0) = (a, b)
        rw [Nat.sub_self]
        rfl]
      exact ⟨ha, hb⟩
/-- a link's cell is laid behind the last -/
theorem tk_tm_sl (h : tk_tm f mo sr nm A) {c : Int} (hc : 90 + 5 * ((tk_lk A).length : Int) ≤ c) (ho : ∀ i : Nat, (i : Int) ≠ c → q_z f1 sr i = q_z f sr i) (e0 : q_z f1 mo 23 = q_z f mo 23) (e3 : ∀ i : Nat, q_j f1 nm i = q_j f nm i) : tk_tm f1 mo sr nm A :=
  tk_tm_g h rfl rfl (by rw [e0]; exact h.1) (fun i _ hi => ho i (by omega)) (fun i hi => ho (90 + i) (by omega)) (fun i _ => e3 i)
/-- the last of those of that name -/
def tk_lm (l : List (List Int)) (w : List Int) (k its : Int) : Prop := (its = -1 ∧ ∀ j : Nat, (j : Int) < k → l.getD j [] ≠ w) ∨ (0 ≤ its ∧ its < k ∧ l.getD (Int.toNat its) [] = w)
theorem tk_lm_0 {l : List (List Int)} {w : List Int} : tk_lm l w 0 (-1) := Or.inl ⟨rfl, fun j hj => absurd hj (by omega)⟩
theorem tk_lm_hit {wl : List Int} {k y : Int} {jx jw : Int64} (h : tk_tm f mo sr nm A) (h0 : 0 ≤ k) (hi : k < ((tk_nd A).length : Int)) (ej : q_j f nm (Int.toNat k) = jx) (ew : jw = tk_mw wl) (hg : y = 0 ↔ jx = jw) (hv : tk_isw wl) (hy : y = 0) : tk_lm (tk_nd A) wl (k + 1) k := by
  have h7 := h.2.2.2.1 (Int.toNat k) (by omega)
  have e : tk_mw ((tk_nd A).getD (Int.toNat k) []) = tk_mw wl := by rw [← h7.1, ej, hg.mp hy, ew]
  exact Or.inr ⟨h0, by omega, tk_mw_inj h7.2.2 hv.2 h7.2.1 hv.1 e⟩
theorem tk_lm_miss {wl : List Int} {k y its : Int} {jx jw : Int64} (hl : tk_lm (tk_nd A) wl k its) (h : tk_tm f mo sr nm A) (h0 : 0 ≤ k) (hi : k < ((tk_nd A).length : Int)) (ej : q_j f nm (Int.toNat k) = jx) (ew : jw = tk_mw wl) (hg : y = 0 ↔ jx = jw) (hy : ¬ y = 0) : tk_lm (tk_nd A) wl (k + 1) its := by
  rcases hl with ⟨h1, h2⟩ | ⟨h1, h2, h3⟩
  · refine Or.inl ⟨h1, fun j hj => ?_⟩
    by_cases e : (j : Int) < k
    · exact h2 j e
    · intro hw
      obtain rfl : j = Int.toNat k := by omega
      have h7 := (h.2.2.2.1 (Int.toNat k) (by omega)).1
      rw [hw, ← ew, ej] at h7
      exact hy (hg.mpr h7)
  · exact Or.inr ⟨h1, by omega, h3⟩
theorem tk_lm_some {wl : List Int} {k its : Int} (hl : tk_lm (tk_nd A) wl k its) (h : tk_tm f mo sr nm A) (h0 : 0 ≤ its) (hk : k ≤ ((tk_nd A).length : Int)) : tk_ix (tk_nd A) wl = some (Int.toNat its) := by
  rcases hl with ⟨h1, -⟩ | ⟨-, h2, h3⟩
  · omega
  · exact tk_ix_some (by omega) h3 (fun j hj hw => by have := h.2.2.2.2.1 j (Int.toNat its) (by omega) (by omega) (hw.trans h3.symm); omega)
theorem tk_lm_none {wl : List Int} {k its : Int} (hl : tk_lm (tk_nd A) wl k its) (hi : its = -1) (hk : ((tk_nd A).length : Int) ≤ k) : tk_ix (tk_nd A) wl = none := by
  rcases hl with ⟨-, h2⟩ | ⟨h1, -, -⟩
  · exact tk_ix_none (fun j hj => h2 j (by omega))
  · omega
/-- whether there is a link -/
def tk_hl (l : List (Nat × Nat)) (a b k its : Int) : Prop := (its = -1 ∧ ∀ j : Nat, (j : Int) < k → ¬ (((l.getD j (0, 0)).1 : Int) = a ∧ ((l.getD j (0, 0)).2 : Int) = b ∨ ((l.getD j (0, 0)).1 : Int) = b ∧ ((l.getD j (0, 0)).2 : Int) = a)) ∨ (0 ≤ its ∧ its < k ∧ (((l.getD (Int.toNat its) (0, 0)).1 : Int) = a ∧ ((l.getD (Int.toNat its) (0, 0)).2 : Int) = b ∨ ((l.getD (Int.toNat its) (0, 0)).1 : Int) = b ∧ ((l.getD (Int.toNat its) (0, 0)).2 : Int) = a))
theorem tk_hl_0 {l : List (Nat × Nat)} {a b : Int} : tk_hl l a b 0 (-1) := Or.inl ⟨rfl, fun j hj => absurd hj (by omega)⟩
theorem tk_tm_lc {k x y : Int} (h : tk_tm f mo sr nm A) (h0 : 0 ≤ k) (hi : k < ((tk_lk A).length : Int)) (hx : x = q_z f sr (Int.toNat (5 * k + 90))) (hy : y = q_z f sr (Int.toNat (5 * k + 91))) : (((tk_lk A).getD (Int.toNat k) (0, 0)).1 : Int) = x ∧ (((tk_lk A).getD (Int.toNat k) (0, 0)).2 : Int) = y := by
  have h7 := h.2.2.2.2.2 (Int.toNat k) (by omega)
  rw [hx, hy, show Int.toNat (5 * k + 90) = 90 + 5 * Int.toNat k by omega, show Int.toNat (5 * k + 91) = 91 + 5 * Int.toNat k by omega]
  exact ⟨h7.1.symm, h7.2.symm⟩
theorem tk_hl_hit {a b k x y : Int} (h : tk_tm f mo sr nm A) (h0 : 0 ≤ k) (hi : k < ((tk_lk A).length : Int)) (hx : x = q_z f sr (Int.toNat (5 * k + 90))) (hy : y = q_z f sr (Int.toNat (5 * k + 91))) (hc : x = a ∧ y = b ∨ x = b ∧ y = a) : tk_hl (tk_lk A) a b (k + 1) k := by
  have h7 := tk_tm_lc h h0 hi hx hy
  refine Or.inr ⟨h0, by omega, ?_⟩
  rw [h7.1, h7.2]
  exact hc
theorem tk_hl_miss {a b k x y its : Int} (hl : tk_hl (tk_lk A) a b k its) (h : tk_tm f mo sr nm A) (h0 : 0 ≤ k) (hi : k < ((tk_lk A).length : Int)) (hx : x = q_z f sr (Int.toNat (5 * k + 90))) (hy : y = q_z f sr (Int.toNat (5 * k + 91))) (hc : ¬ (x = a ∧ y = b ∨ x = b ∧ y = a)) : tk_hl (tk_lk A) a b (k + 1) its := by
  have h7 := tk_tm_lc h h0 hi hx hy
  rcases hl with ⟨h1, h2⟩ | ⟨h1, h2, h3⟩
  · refine Or.inl ⟨h1, fun j hj => ?_⟩
    by_cases e : (j : Int) < k
    · exact h2 j e
    · obtain rfl : j = Int.toNat k := by omega
      rw [h7.1, h7.2]
      exact hc
  · exact Or.inr ⟨h1, by omega, h3⟩
theorem tk_hl_some {a b k its : Int} (hl : tk_hl (tk_lk A) a b k its) (ha : 0 ≤ a) (hb : 0 ≤ b) (h0 : 0 ≤ its) (hk : k ≤ ((tk_lk A).length : Int)) : tk_has (tk_lk A) (Int.toNat a) (Int.toNat b) = true := by
  rcases hl with ⟨h1, -⟩ | ⟨-, h2, h3⟩
  · omega
  · unfold tk_has
    rw [List.any_eq_true]
    have hi : Int.toNat its < (tk_lk A).length := by omega
    refine ⟨(tk_lk A)[Int.toNat its], List.getElem_mem hi, ?_⟩
    rw [List.getD_eq_getElem?_getD, List.getElem?_eq_getElem hi] at h3
    generalize (tk_lk A)[Int.toNat its] = p at h3 ⊢
    have h3 : (p.1 : Int) = a ∧ (p.2 : Int) = b ∨ (p.1 : Int) = b ∧ (p.2 : Int) = a := h3
    rw [Bool.or_eq_true, Bool.and_eq_true, Bool.and_eq_true, beq_iff_eq, beq_iff_eq, beq_iff_eq, beq_iff_eq]
    omega
theorem tk_hl_none {a b k its : Int} (hl : tk_hl (tk_lk A) a b k its) (ha : 0 ≤ a) (hb : 0 ≤ b) (hi : its = -1) (hk : ((tk_lk A).length : Int) ≤ k) : tk_has (tk_lk A) (Int.toNat a) (Int.toNat b) = false := by
  rcases hl with ⟨-, h2⟩ | ⟨h1, -, -⟩
  · unfold tk_has
    rw [List.any_eq_false]
    intro p hp hq
    obtain ⟨j, hj, rfl⟩ := List.getElem_of_mem hp
    have h3 := h2 j (by omega)
    rw [List.getD_eq_getElem?_getD, List.getElem?_eq_getElem hj] at h3
    generalize (tk_lk A)[j] = p at h3 hq
    have h3 : ¬ ((p.1 : Int) = a ∧ (p.2 : Int) = b ∨ (p.1 : Int) = b ∧ (p.2 : Int) = a) := h3
    rw [Bool.or_eq_true, Bool.and_eq_true, Bool.and_eq_true, beq_iff_eq, beq_iff_eq, beq_iff_eq, beq_iff_eq] at hq
    omega
  · omega
end QTM
/-! a name and a number behind it -/
def tk_af (B : Nat → Int) (n : Int) (w : List Int) (lo hi s : Int) : tk_R Int := tk_bd (tk_wd B n w s) (tk_nm B n lo hi)
theorem tk_bd_as {α β γ : Type} (r : tk_R α) (k : α → tk_R β) (k2 : β → tk_R γ) : tk_bd (tk_bd r k) k2 = tk_bd r fun a => tk_bd (k a) k2 := by
  cases r with
  | ok a => rfl
  | error e => rfl
theorem tk_rest_af {B : Nat → Int} {n s : Int} : tk_rest B n s = tk_bd (tk_af B n tk_wBorn 0 59 s) fun s2 => tk_bd (tk_shift B n s2) fun s3 => tk_af B n tk_wEnergy 1 999 s3 := by
  unfold tk_rest tk_af
  rw [tk_bd_as]
section QAF
variable {B : Nat → Int} {n s x x1 x2 x3 x4 x5 a b c p : Int}
theorem tk_af_ok {w : List Int} {lo hi : Int} (e1 : tk_wd B n w s = tk_ok x1) (e2 : tk_nm B n lo hi x1 = tk_ok x2) : tk_af B n w lo hi s = tk_ok x2 := by unfold tk_af; rw [tk_bd_ok e1, e2]
theorem tk_af_e1 {w : List Int} {lo hi : Int} (e1 : tk_wd B n w s = tk_er c p) : tk_af B n w lo hi s = tk_er c p := by unfold tk_af; rw [tk_bd_er e1]
theorem tk_af_e2 {w : List Int} {lo hi : Int} (e1 : tk_wd B n w s = tk_ok x1) (e2 : tk_nm B n lo hi x1 = tk_er c p) : tk_af B n w lo hi s = tk_er c p := by unfold tk_af; rw [tk_bd_ok e1, e2]
theorem tk_rst_ok (e1 : tk_af B n tk_wBorn 0 59 s = tk_ok x2) (e3 : tk_shift B n x2 = tk_ok x3) (e4 : tk_af B n tk_wEnergy 1 999 x3 = tk_ok x5) : tk_rest B n s = tk_ok x5 := by rw [tk_rest_af, tk_bd_ok e1, tk_bd_ok e3, e4]
theorem tk_rst_e1 (e1 : tk_af B n tk_wBorn 0 59 s = tk_er c p) : tk_rest B n s = tk_er c p := by rw [tk_rest_af, tk_bd_er e1]
theorem tk_rst_e3 (e1 : tk_af B n tk_wBorn 0 59 s = tk_ok x2) (e3 : tk_shift B n x2 = tk_er c p) : tk_rest B n s = tk_er c p := by rw [tk_rest_af, tk_bd_ok e1, tk_bd_er e3]
theorem tk_rst_e4 (e1 : tk_af B n tk_wBorn 0 59 s = tk_ok x2) (e3 : tk_shift B n x2 = tk_ok x3) (e4 : tk_af B n tk_wEnergy 1 999 x3 = tk_er c p) : tk_rest B n s = tk_er c p := by rw [tk_rest_af, tk_bd_ok e1, tk_bd_ok e3, e4]
theorem tk_erx {α : Type} {F : tk_R α} {a b x y : Int} (h : F = tk_er a b) (ha : q_is a x) (hb : q_is b y) : F = tk_er x y := by
  have ha : a = x := ha
  have hb : b = y := hb
  rw [h, ha, hb]
theorem tk_erp {α : Type} {F : tk_R α} {a b x y : Int} (h : F = tk_er x y) (ha : q_is a x) (hb : q_is b y) : F = tk_er a b := by
  have ha : a = x := ha
  have hb : b = y := hb
  rw [h, ha, hb]
end QAF
/-! four bytes of a number -/
def tk_by (p k : Int) : Int := ((q_i p >>> (q_i k &&& 31)).toInt8).toInt
def tk_g4 (p : Int) (k : Nat) : Int := tk_by p (24 - 8 * (k : Int))
def tk_wr (f f1 : Nat → va_E) (a : Nat) (n : Int) (G : Nat → Int) (m : Nat) : Prop := (∀ i : Nat, (i : Int) < n → q_z f1 a i = q_z f a i) ∧ ∀ k : Nat, k < m → q_z f1 a (Int.toNat n + k) = G k
def tk_g20 (a b c d e : Int) (k : Nat) : Int := if k < 4 then tk_g4 a k else if k < 8 then tk_g4 b (k - 4) else if k < 12 then tk_g4 c (k - 8) else if k < 16 then tk_g4 d (k - 12) else tk_g4 e (k - 16)
theorem tk_wr5 {f f1 f2 f3 f4 f5 : Nat → va_E} {x : Nat} {n a b c d e : Int} {U : Int → Int} (hn : 0 ≤ n) (h1 : tk_wr f f1 x n (fun k => U (tk_g4 a k)) 4) (h2 : tk_wr f1 f2 x (n + 4) (fun k => U (tk_g4 b k)) 4) (h3 : tk_wr f2 f3 x (n + 4 + 4) (fun k => U (tk_g4 c k)) 4) (h4 : tk_wr f3 f4 x (n + 4 + 4 + 4) (fun k => U (tk_g4 d k)) 4) (h5 : tk_wr f4 f5 x (n + 4 + 4 + 4 + 4) (fun k => U (tk_g4 e k)) 4) : tk_wr f f5 x n (fun k => U (tk_g20 a b c d e k)) 20 := by
  refine ⟨fun i hi => ?_, fun k hk => ?_⟩
  · rw [h5.1 i (by omega), h4.1 i (by omega), h3.1 i (by omega), h2.1 i (by omega), h1.1 i hi]
  · show _ = U (tk_g20 a b c d e k)
    unfold tk_g20
    split
    · rw [h5.1 _ (by omega), h4.1 _ (by omega), h3.1 _ (by omega), h2.1 _ (by omega)]
      exact h1.2 k (by omega)
    · split
      · rw [h5.1 _ (by omega), h4.1 _ (by omega), h3.1 _ (by omega), show Int.toNat n + k = Int.toNat (n + 4) + (k - 4) by omega]
        exact h2.2 (k - 4) (by omega)
      · split
        · rw [h5.1 _ (by omega), h4.1 _ (by omega), show Int.toNat n + k = Int.toNat (n + 4 + 4) + (k - 8) by omega]
          exact h3.2 (k - 8) (by omega)
        · split
          · rw [h5.1 _ (by omega), show Int.toNat n + k = Int.toNat (n + 4 + 4 + 4) + (k - 12) by omega]
            exact h4.2 (k - 12) (by omega)
          · rw [show Int.toNat n + k = Int.toNat (n + 4 + 4 + 4 + 4) + (k - 16) by omega]
            exact h5.2 (k - 16) (by omega)
theorem tk_by8 {p k b : Int} (h0 : -128 ≤ b) (h1 : b ≤ 127) {x : Int32} (e1 : q_i p >>> (q_i k &&& 31) = x) (e2 : x.toInt8.toInt32 = q_i b) : b = tk_by p k := by
  unfold tk_by
  rw [e1]
  have h := congrArg Int32.toInt e2
  rw [Int8.toInt_toInt32] at h
  rw [h]
  exact (q_toInt ⟨by omega, by omega⟩).symm
theorem tk_by9 {p k y : Int} {x : Int32} (h0 : 0 ≤ y) (h1 : y ≤ 255) (e1 : q_i p >>> (q_i k &&& 31) = x) (e2 : x &&& q_i 255 = q_i y) : y = tk_u (tk_by p k) := by
  unfold tk_by
  rw [e1]
  have hy : (x &&& q_i 255).toInt = y := by rw [e2]; exact q_toInt ⟨by omega, by omega⟩
  have hb : (x &&& q_i 255).toBitVec = (x.toBitVec.setWidth 8).setWidth 32 := by
    rw [Int32.toBitVec_and]
    apply BitVec.eq_of_getLsbD_eq
    intro i hi
    have hm : ∀ j : Fin 32, (q_i 255).toBitVec.getLsbD (j : Nat) = decide ((j : Nat) < 8) := by decide +kernel
    have hm : (q_i 255).toBitVec.getLsbD i = decide (i < 8) := hm ⟨i, hi⟩
    rw [BitVec.getLsbD_and, hm, BitVec.getLsbD_setWidth, BitVec.getLsbD_setWidth]
    simp only [hi, decide_true, Bool.true_and]
    exact Bool.and_comm _ _
  have h8 : x.toInt8.toInt = (x.toBitVec.setWidth 8).toInt := by
    show x.toInt8.toBitVec.toInt = _
    rw [Int32.toBitVec_toInt8, BitVec.signExtend_eq_setWidth_of_le _ (by decide)]
  have hy2 : y = ((x.toBitVec.setWidth 8).toNat : Int) := by
    rw [← hy]
    show (x &&& q_i 255).toBitVec.toInt = _
    rw [hb, BitVec.toInt_eq_toNat_cond, BitVec.toNat_setWidth]
    have := (x.toBitVec.setWidth 8).isLt
    rw [Nat.mod_eq_of_lt (by omega), if_pos (by omega)]
  rw [h8, hy2, BitVec.toInt_eq_toNat_cond]
  have := (x.toBitVec.setWidth 8).isLt
  unfold tk_u
  split
  · rw [if_neg (by omega)]
  · rw [if_pos (by omega)]
    omega
theorem tk_wr_0 {f : Nat → va_E} {a : Nat} {n : Int} {G : Nat → Int} : tk_wr f f a n G 0 := ⟨fun _ _ => rfl, fun _ h => absurd h (Nat.not_lt_zero _)⟩
theorem tk_wr_tr {f f1 f2 : Nat → va_E} {a : Nat} {n : Int} {G : Nat → Int} {m : Nat} (h : tk_wr f f1 a n G m) (e : ∀ i : Nat, q_z f2 a i = q_z f1 a i) : tk_wr f f2 a n G m := ⟨fun i hi => (e i).trans (h.1 i hi), fun k hk => (e _).trans (h.2 k hk)⟩
theorem tk_wr_put {f f1 f2 : Nat → va_E} {a : Nat} {n X y : Int} {G : Nat → Int} {m : Nat} {v : Value} (h : tk_wr f f1 a n G m) (ef : f2 = q_set f1 a (Int.toNat X) v) (ez : q_z f2 a (Int.toNat X) = y) (hX : X = n + (m : Int)) (hn : 0 ≤ n) (hy : y = G m) : tk_wr f f2 a n G (m + 1) := by
  refine ⟨fun i hi => ?_, fun k hk => ?_⟩
  · rw [ef, q_setz (Or.inr (by omega))]
    exact h.1 i hi
  · by_cases e : k = m
    · rw [e, show Int.toNat n + m = Int.toNat X by omega, ez, hy]
    · rw [ef, q_setz (Or.inr (by omega))]
      exact h.2 k (by omega)
theorem k_nin_n {a b x : Int} (h : k_nin a b x) : ¬ (a ≤ x ∧ x ≤ b) := by
  have h : _ ∨ _ := h
  omega
theorem tk_nw_tr {f f1 : Nat → va_E} {nm k : Nat} {w : Int64} (h : q_j f nm k = w) (e : ∀ i : Nat, q_j f1 nm i = q_j f nm i) : q_j f1 nm k = w := (e k).trans h
theorem tk_zat {f : Nat → va_E} {a : Nat} {X Y x : Int} (h : q_z f a (Int.toNat X) = x) (e : X = Y) : q_z f a (Int.toNat Y) = x := by rw [← e]; exact h
theorem tk_cla {f1 f2 : Nat → va_E} {sr : Nat} {n : Int} {k : Nat} {a : Int} (ho : ∀ i : Nat, (i : Int) ≠ 5 * n + 91 → q_z f2 sr i = q_z f1 sr i) (h : q_z f1 sr (Int.toNat (5 * n + 90)) = a) (hk : n = (k : Int)) (ha : 0 ≤ a) : q_z f2 sr (90 + 5 * k) = ((Int.toNat a : Nat) : Int) := by
  rw [ho _ (by omega), show 90 + 5 * k = Int.toNat (5 * n + 90) by omega, h]
  omega
theorem tk_clb {f2 : Nat → va_E} {sr : Nat} {n : Int} {k : Nat} {a : Int} (h : q_z f2 sr (Int.toNat (5 * n + 91)) = a) (hk : n = (k : Int)) (ha : 0 ≤ a) : q_z f2 sr (91 + 5 * k) = ((Int.toNat a : Nat) : Int) := by
  rw [show 91 + 5 * k = Int.toNat (5 * n + 91) by omega, h]
  omega
theorem tk_iYear : tk_isw tk_wYear := by unfold tk_isw tk_wYear; decide
theorem tk_iCosts : tk_isw tk_wCosts := by unfold tk_isw tk_wCosts; decide
theorem tk_iMiss : tk_isw tk_wMiss := by unfold tk_isw tk_wMiss; decide
theorem tk_iNode : tk_isw tk_wNode := by unfold tk_isw tk_wNode; decide
theorem tk_iBorn : tk_isw tk_wBorn := by unfold tk_isw tk_wBorn; decide
theorem tk_iShift : tk_isw tk_wShift := by unfold tk_isw tk_wShift; decide
theorem tk_iEnergy : tk_isw tk_wEnergy := by unfold tk_isw tk_wEnergy; decide
theorem tk_iLink : tk_isw tk_wLink := by unfold tk_isw tk_wLink; decide
