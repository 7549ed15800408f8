/-! the names' numbers -/
theorem tk_ix_none {l : List (List Int)} {w : List Int} (h : ∀ i : Nat, i < l.length → l.getD i [] ≠ w) : tk_ix l w = none := by
  induction l with
  | nil => rfl
  | cons a l ih =>
    have h0 : a ≠ w := h 0 (by rw [List.length_cons]; omega)
    have h1 := ih (fun i hi => h (i + 1) (by rw [List.length_cons]; omega))
    unfold tk_ix
    rw [if_neg h0, h1]
    rfl
theorem tk_ix_some {l : List (List Int)} {w : List Int} {i : Nat} (hi : i < l.length) (hw : l.getD i [] = w) (h : ∀ j : Nat, j < i → l.getD j [] ≠ w) : tk_ix l w = some i := by
  induction l generalizing i with
  | nil => exact absurd hi (Nat.not_lt_zero _)
  | cons a l ih =>
    unfold tk_ix
    cases i with
    | zero =>
      have hw : a = w := hw
      rw [if_pos hw]
    | succ i =>
      have h0 : a ≠ w := h 0 (Nat.succ_pos _)
      rw [List.length_cons] at hi
      rw [if_neg h0, ih (i := i) (by omega) hw (fun j hj => h (j + 1) (by omega))]
      rfl
theorem tk_ix_lt {l : List (List Int)} {w : List Int} {i : Nat} (h : tk_ix l w = some i) : i < l.length ∧ l.getD i [] = w := by
  induction l generalizing i with
  | nil => exact nomatch h
  | cons a l ih =>
    unfold tk_ix at h
    rw [List.length_cons]
    split at h
    · rename_i ha
      obtain rfl : 0 = i := Option.some.inj h
      exact ⟨by omega, ha⟩
    · cases e : tk_ix l w with
      | none => rw [e] at h; exact nomatch h
      | some k =>
        rw [e] at h
        obtain rfl : k + 1 = i := Option.some.inj h
        have := ih e
        exact ⟨by omega, this.2⟩
theorem tk_has_lt {l : List (Nat × Nat)} {n i j : Nat} (h : ∀ p ∈ l, p.1 < n ∧ p.2 < n) (hij : n ≤ i ∨ n ≤ j) : tk_has l i j = false := by
  unfold tk_has
  rw [List.any_eq_false]
  intro p hp hq
  have h1 := h p hp
  rw [Bool.or_eq_true, Bool.and_eq_true, Bool.and_eq_true, beq_iff_eq, beq_iff_eq, beq_iff_eq, beq_iff_eq] at hq
  omega
theorem tk_has_app (l : List (Nat × Nat)) (a b i j : Nat) : tk_has (l ++ [(a, b)]) i j = (tk_has l i j || (i == a && j == b) || (i == b && j == a)) := by
  unfold tk_has
  rw [List.any_append, Bool.or_assoc]
  congr 1
  show ((a == i && b == j || a == j && b == i) || false) = _
  rw [Bool.or_false, Bool.eq_iff_iff]
  simp only [Bool.or_eq_true, Bool.and_eq_true, beq_iff_eq]
  constructor <;> intro h <;> omega
/-! sets of nodes -/
def tk_bt (z : Int) (j : Nat) : Bool := (q_i z).toBitVec.getLsbD j
theorem tk_sh9 (x : Int32) {j : Nat} (hj : j < 10) : (x >>> (q_i (j : Int) &&& 31)).toBitVec.getLsbD 0 = x.toBitVec.getLsbD j := by
  have e : ∀ k : Fin 10, ((q_i ((k : Nat) : Int) &&& 31).toBitVec.smod 32).toNat = (k : Nat) := by decide +kernel
  have e := e ⟨j, hj⟩
  have e : ((q_i (j : Int) &&& 31).toBitVec.smod 32).toNat = j := e
  rw [Int32.toBitVec_shiftRight, BitVec.sshiftRight_eq', e, BitVec.getLsbD_sshiftRight, if_pos (by omega)]
  exact Bool.true_and _
theorem tk_has1 {z j y1 y2 : Int} (h0 : 0 ≤ j) (h9 : j ≤ 9) (e1 : q_i z >>> (q_i j &&& 31) = q_i y1) (e2 : q_i y1 &&& q_i 1 = q_i y2) : tk_bt z (Int.toNat j) = (q_i y2).toBitVec.getLsbD 0 := by
  obtain ⟨k, rfl⟩ : ∃ k : Nat, j = (k : Int) := ⟨j.toNat, by omega⟩
  have h := tk_sh9 (q_i z) (j := k) (by omega)
  rw [e1] at h
  have h2 := congrArg (fun x : Int32 => x.toBitVec.getLsbD 0) e2
  have h3 : ((q_i y1).toBitVec &&& (q_i 1).toBitVec).getLsbD 0 = (q_i y2).toBitVec.getLsbD 0 := h2
  rw [BitVec.getLsbD_and, show (q_i 1).toBitVec.getLsbD 0 = true by decide +kernel, Bool.and_true] at h3
  rw [← h3, h]
  rfl
theorem tk_has_y {z j y1 y2 : Int} (h0 : 0 ≤ j) (h9 : j ≤ 9) (e1 : q_i z >>> (q_i j &&& 31) = q_i y1) (e2 : q_i y1 &&& q_i 1 = q_i y2) (hy : y2 = 1) : tk_bt z (Int.toNat j) = true := by
  rw [tk_has1 h0 h9 e1 e2, hy]; decide +kernel
theorem tk_has_n {z j y1 y2 : Int} (h0 : 0 ≤ j) (h9 : j ≤ 9) (e1 : q_i z >>> (q_i j &&& 31) = q_i y1) (e2 : q_i y1 &&& q_i 1 = q_i y2) (hy : y2 = 0) : tk_bt z (Int.toNat j) = false := by
  rw [tk_has1 h0 h9 e1 e2, hy]; decide +kernel
theorem tk_or9 {x b y1 y : Int} (h0 : 0 ≤ b) (h9 : b ≤ 9) (e1 : q_i 1 <<< (q_i b &&& 31) = q_i y1) (e2 : q_i x ||| q_i y1 = q_i y) : ∀ j : Nat, j < 10 → tk_bt y j = (tk_bt x j || (j == Int.toNat b)) := by
  intro j hj
  have k : ∀ a : Fin 10, ∀ j : Fin 10, (q_i 1 <<< (q_i ((a : Nat) : Int) &&& 31)).toBitVec.getLsbD (j : Nat) = ((j : Nat) == (a : Nat)) := by decide +kernel
  obtain ⟨a, rfl⟩ : ∃ a : Nat, b = (a : Int) := ⟨b.toNat, by omega⟩
  have k := k ⟨a, by omega⟩ ⟨j, hj⟩
  have k : (q_i 1 <<< (q_i (a : Int) &&& 31)).toBitVec.getLsbD j = (j == a) := k
  rw [e1] at k
  unfold tk_bt
  rw [← e2, Int32.toBitVec_or, BitVec.getLsbD_or, k]
  rfl
theorem tk_bt0 (j : Nat) : tk_bt 0 j = false := by
  unfold tk_bt
  rw [show (q_i 0).toBitVec = 0#32 by decide +kernel]
  exact BitVec.getLsbD_zero
/-! what stands in the draft and in its reader -/
def tk_ij (K : Nat → Nat) (L : List Nat) (f : Nat → va_E) (nds : Nat) : Prop := ∀ i : Nat, i < 10 → (q_r f nds i ∈ L ∧ K (q_r f nds i) = 17) ∧ ∀ j : Nat, j < 10 → q_r f nds i = q_r f nds j → i = j
theorem tk_ij_tr {K : Nat → Nat} {L : List Nat} {f f1 : Nat → va_E} {nds : Nat} (h : tk_ij K L f nds) (e : ∀ i : Nat, q_r f1 nds i = q_r f nds i) : tk_ij K L f1 nds := by
  intro i hi
  rw [e i]
  exact ⟨(h i hi).1, fun j hj hq => (h i hi).2 j hj (by rw [e j] at hq; exact hq)⟩
def tk_b2 (b : Bool) : Int := if b = true then 1 else 0
theorem tk_b2t {b : Bool} {z x : Int} (h0 : z = tk_b2 b) (hx : q_is z x) (h1 : ¬ x = 0) : b = true := by
  have hx : z = x := hx
  cases b with
  | true => rfl
  | false => exact absurd (hx.symm.trans h0 : x = 0) h1
theorem tk_b2f {b : Bool} {z x : Int} (h0 : z = tk_b2 b) (hx : q_is z x) (h1 : x = 0) : b = false := by
  have hx : z = x := hx
  cases b with
  | false => rfl
  | true => exact absurd (h1.symm.trans (hx.symm.trans h0) : (0 : Int) = 1) (by decide)
def tk_ta (K : Nat → Nat) (L : List Nat) (f : Nat → va_E) (rd dr nds : Nat) (A : tk_A) (M : Nat → Nat → Bool) : Prop :=
  (q_z f rd 0 = tk_b2 (tk_yr A) ∧ q_z f rd 1 = tk_b2 (tk_co A) ∧ q_z f rd 2 = tk_b2 (tk_mi A)) ∧ (q_z f dr 3 = ((tk_nd A).length : Int) ∧ q_z f dr 4 = ((tk_lk A).length : Int)) ∧ tk_ij K L f nds ∧ ((tk_nd A).length ≤ 10 ∧ ∀ p ∈ tk_lk A, p.1 < (tk_nd A).length ∧ p.2 < (tk_nd A).length) ∧
  (∀ i : Nat, i < (tk_nd A).length → q_j f (q_r f nds i) 0 = tk_cw ((tk_nd A).getD i []) ∧ tk_isw ((tk_nd A).getD i [])) ∧
  (∀ i j : Nat, i < (tk_nd A).length → j < 10 → tk_bt (q_z f (q_r f nds i) 5) j = M i j)
section QTA
variable {K : Nat → Nat} {L : List Nat} {f f1 : Nat → va_E} {rd dr nds : Nat} {A A1 : tk_A} {M : Nat → Nat → Bool}
theorem tk_ta_g (h : tk_ta K L f rd dr nds A M) (hn : tk_nd A1 = tk_nd A) (hl : tk_lk A1 = tk_lk A) (e0 : q_z f1 rd 0 = tk_b2 (tk_yr A1)) (e1 : q_z f1 rd 1 = tk_b2 (tk_co A1)) (e2 : q_z f1 rd 2 = tk_b2 (tk_mi A1)) (e3 : q_z f1 dr 3 = q_z f dr 3) (e4 : q_z f1 dr 4 = q_z f dr 4) (ej : ∀ i : Nat, i < (tk_nd A).length → q_j f1 (q_r f nds i) 0 = q_j f (q_r f nds i) 0) (e5 : ∀ i : Nat, i < (tk_nd A).length → q_z f1 (q_r f nds i) 5 = q_z f (q_r f nds i) 5) (er : ∀ i : Nat, q_r f1 nds i = q_r f nds i) : tk_ta K L f1 rd dr nds A1 M := by
  obtain ⟨-, ⟨h3, h4⟩, h5, h6, h7, h8⟩ := h
  unfold tk_ta
  rw [hn, hl]
  refine ⟨⟨e0, e1, e2⟩, ⟨e3.trans h3, e4.trans h4⟩, tk_ij_tr h5 er, h6, fun i hi => ?_, fun i j hi hj => ?_⟩
  · rw [er i, ej i hi]
    exact h7 i hi
  · rw [er i, e5 i hi]
    exact h8 i j hi hj
theorem tk_ta_in (h : tk_ta K L f rd dr nds A M) {i : Nat} (hi : i < (tk_nd A).length) : q_r f nds i ∈ L ∧ K (q_r f nds i) = 17 := (h.2.2.1 i (Nat.lt_of_lt_of_le hi h.2.2.2.1.1)).1
theorem tk_ta_tr (h : tk_ta K L f rd dr nds A M) (e0 : q_z f1 rd 0 = q_z f rd 0) (e1 : q_z f1 rd 1 = q_z f rd 1) (e2 : q_z f1 rd 2 = q_z f rd 2) (e3 : q_z f1 dr 3 = q_z f dr 3) (e4 : q_z f1 dr 4 = q_z f dr 4) (ej : ∀ a : Nat, a ∈ L → K a = 17 → q_j f1 a 0 = q_j f a 0) (e5 : ∀ a : Nat, a ∈ L → K a = 17 → q_z f1 a 5 = q_z f a 5) (er : ∀ i : Nat, q_r f1 nds i = q_r f nds i) : tk_ta K L f1 rd dr nds A M :=
  tk_ta_g h rfl rfl (e0.trans h.1.1) (e1.trans h.1.2.1) (e2.trans h.1.2.2) e3 e4 (fun _ hi => ej _ (tk_ta_in h hi).1 (tk_ta_in h hi).2) (fun _ hi => e5 _ (tk_ta_in h hi).1 (tk_ta_in h hi).2) er
theorem tk_ta_sy (h : tk_ta K L f rd dr nds A M) (e0 : q_z f1 rd 0 = 1) (e1 : q_z f1 rd 1 = q_z f rd 1) (e2 : q_z f1 rd 2 = q_z f rd 2) (e3 : q_z f1 dr 3 = q_z f dr 3) (e4 : q_z f1 dr 4 = q_z f dr 4) (ej : ∀ a : Nat, a ∈ L → K a = 17 → q_j f1 a 0 = q_j f a 0) (e5 : ∀ a : Nat, a ∈ L → K a = 17 → q_z f1 a 5 = q_z f a 5) (er : ∀ i : Nat, q_r f1 nds i = q_r f nds i) : tk_ta K L f1 rd dr nds (tk_sy A) M :=
  tk_ta_g h rfl rfl e0 (e1.trans h.1.2.1) (e2.trans h.1.2.2) e3 e4 (fun _ hi => ej _ (tk_ta_in h hi).1 (tk_ta_in h hi).2) (fun _ hi => e5 _ (tk_ta_in h hi).1 (tk_ta_in h hi).2) er
theorem tk_ta_sc (h : tk_ta K L f rd dr nds A M) (e0 : q_z f1 rd 0 = q_z f rd 0) (e1 : q_z f1 rd 1 = 1) (e2 : q_z f1 rd 2 = q_z f rd 2) (e3 : q_z f1 dr 3 = q_z f dr 3) (e4 : q_z f1 dr 4 = q_z f dr 4) (ej : ∀ a : Nat, a ∈ L → K a = 17 → q_j f1 a 0 = q_j f a 0) (e5 : ∀ a : Nat, a ∈ L → K a = 17 → q_z f1 a 5 = q_z f a 5) (er : ∀ i : Nat, q_r f1 nds i = q_r f nds i) : tk_ta K L f1 rd dr nds (tk_sc A) M :=
  tk_ta_g h rfl rfl (e0.trans h.1.1) e1 (e2.trans h.1.2.2) e3 e4 (fun _ hi => ej _ (tk_ta_in h hi).1 (tk_ta_in h hi).2) (fun _ hi => e5 _ (tk_ta_in h hi).1 (tk_ta_in h hi).2) er
theorem tk_ta_sm (h : tk_ta K L f rd dr nds A M) (e0 : q_z f1 rd 0 = q_z f rd 0) (e1 : q_z f1 rd 1 = q_z f rd 1) (e2 : q_z f1 rd 2 = 1) (e3 : q_z f1 dr 3 = q_z f dr 3) (e4 : q_z f1 dr 4 = q_z f dr 4) (ej : ∀ a : Nat, a ∈ L → K a = 17 → q_j f1 a 0 = q_j f a 0) (e5 : ∀ a : Nat, a ∈ L → K a = 17 → q_z f1 a 5 = q_z f a 5) (er : ∀ i : Nat, q_r f1 nds i = q_r f nds i) : tk_ta K L f1 rd dr nds (tk_sm A) M :=
  tk_ta_g h rfl rfl (e0.trans h.1.1) (e1.trans h.1.2.1) e2 e3 e4 (fun _ hi => ej _ (tk_ta_in h hi).1 (tk_ta_in h hi).2) (fun _ hi => e5 _ (tk_ta_in h hi).1 (tk_ta_in h hi).2) er
theorem tk_ta_0 (h : tk_ij K L f nds) (e0 : q_is (q_z f rd 0) 0) (e1 : q_is (q_z f rd 1) 0) (e2 : q_is (q_z f rd 2) 0) (e3 : q_is (q_z f dr 3) 0) (e4 : q_is (q_z f dr 4) 0) : tk_ta K L f rd dr nds tk_A0 (tk_has (tk_lk tk_A0)) :=
  ⟨⟨e0, e1, e2⟩, ⟨e3, e4⟩, h, ⟨Nat.zero_le _, fun _ hp => nomatch hp⟩, fun _ hi => absurd hi (Nat.not_lt_zero _), fun _ _ hi => absurd hi (Nat.not_lt_zero _)⟩
theorem tk_ta_nn (h : tk_ta K L f rd dr nds A M) {x : Int} (hx : q_is (q_z f dr 3) x) : ((tk_nd A).length : Int) = x := h.2.1.1.symm.trans hx
theorem tk_ta_nl (h : tk_ta K L f rd dr nds A M) {x : Int} (hx : q_is (q_z f dr 4) x) : ((tk_lk A).length : Int) = x := h.2.1.2.symm.trans hx
theorem tk_ta_has (h : tk_ta K L f rd dr nds A M) {z i j : Nat} {x : Int} {b : Bool} (ha : z = q_r f nds i) (hi : i < (tk_nd A).length) (hj : j < 10) (hx : q_is (q_z f z 5) x) (hb : tk_bt x j = b) : M i j = b := by
  have hx : q_z f z 5 = x := hx
  rw [← h.2.2.2.2.2 i j hi hj, ← ha, hx]
  exact hb
theorem tk_nz {a b : Nat} (ka kb : Nat) (ha : K a = ka) (hb : K b = kb) (h : (ka == kb) = false) : a ≠ b := fun q => by
  rw [q, hb] at ha
  rw [ha] at h
  exact absurd h (by simp)
/-- a field of a node that isn't told of yet -/
theorem tk_ta_pn (h : tk_ta K L f rd dr nds A M) {a k idx : Nat} {v : Value} (ha : a = q_r f nds k) (hk : k < 10) (hl : (tk_nd A).length ≤ k) (ef : f1 = q_set f a idx v) (krd : K rd = 9) (kdr : K dr = 13) (knd : K nds = 111) : tk_ta K L f1 rd dr nds A M := by
  have h5 := h.2.2.1
  have hKa : K a = 17 := by rw [ha]; exact (h5 k hk).1.2
  have n1 : rd ≠ a := tk_nz 9 17 krd hKa rfl
  have n2 : dr ≠ a := tk_nz 13 17 kdr hKa rfl
  have n3 : nds ≠ a := tk_nz 111 17 knd hKa rfl
  have n4 : ∀ i : Nat, i < (tk_nd A).length → q_r f nds i ≠ a := fun i hi q => by
    have := (h5 i (by omega)).2 k hk (q.trans ha)
    omega
  subst ef
  exact tk_ta_g h rfl rfl ((q_setz (Or.inl n1)).trans h.1.1) ((q_setz (Or.inl n1)).trans h.1.2.1) ((q_setz (Or.inl n1)).trans h.1.2.2) (q_setz (Or.inl n2)) (q_setz (Or.inl n2)) (fun i hi => q_setj (Or.inl (n4 i hi))) (fun i hi => q_setz (Or.inl (n4 i hi))) (fun i => q_setr (Or.inl n3))
theorem tk_ta_an (h : tk_ta K L f rd dr nds A (tk_has (tk_lk A))) {w : List Int} {a k : Nat} {v : Value} (hw : tk_isw w) (ha : a = q_r f nds k) (hk : k < 10) (hl : (tk_nd A).length = k) (hj : q_j f a 0 = tk_cw w) (h5 : q_is (q_z f a 5) 0) (ef : f1 = q_set f dr 3 v) (e3 : q_z f1 dr 3 = (k : Int) + 1) (krd : K rd = 9) (kdr : K dr = 13) (knd : K nds = 111) : tk_ta K L f1 rd dr nds (tk_an A w) (tk_has (tk_lk (tk_an A w))) := by
  have h5 : q_z f a 5 = 0 := h5
  obtain ⟨⟨a0, a1, a2⟩, ⟨-, a4⟩, a5, a6, a7, a8⟩ := h
  have n1 : rd ≠ dr := tk_nz 9 13 krd kdr rfl
  have n3 : nds ≠ dr := tk_nz 111 13 knd kdr rfl
  have nK : ∀ i : Nat, i < 10 → q_r f nds i ≠ dr := fun i hi => tk_nz 17 13 (a5 i hi).1.2 kdr rfl
  subst ef
  have er : ∀ i : Nat, q_r (q_set f dr 3 v) nds i = q_r f nds i := fun i => q_setr (Or.inl n3)
  have hlen : (tk_nd (tk_an A w)).length = (tk_nd A).length + 1 := by
    show (A.2.2.2.1 ++ [w]).length = _
    rw [List.length_append, List.length_singleton]
    rfl
  have hg1 : ∀ i : Nat, i < (tk_nd A).length → (tk_nd (tk_an A w)).getD i [] = (tk_nd A).getD i [] := fun i hi => by
    show (A.2.2.2.1 ++ [w]).getD i [] = A.2.2.2.1.getD i []
    rw [List.getD_eq_getElem?_getD, List.getD_eq_getElem?_getD, List.getElem?_append_left (show i < A.2.2.2.1.length from hi)]
  have hg2 : (tk_nd (tk_an A w)).getD k [] = w := by
    show (A.2.2.2.1 ++ [w]).getD k [] = w
    rw [List.getD_eq_getElem?_getD, ← hl]
    show (A.2.2.2.1 ++ [w])[A.2.2.2.1.length]?.getD [] = w
    rw [List.getElem?_append_right (Nat.le_refl _)]
    show ([w] : List (List Int))[A.2.2.2.1.length - A.2.2.2.1.length]?.getD [] = w
    rw [Nat.sub_self]
    rfl
  refine ⟨⟨(q_setz (Or.inl n1)).trans a0, (q_setz (Or.inl n1)).trans a1, (q_setz (Or.inl n1)).trans a2⟩, ⟨?_, (q_setz (Or.inr (by decide))).trans a4⟩, tk_ij_tr a5 er, ⟨by rw [hlen]; omega, fun p hp => ?_⟩, fun i hi => ?_, fun i j hi hjj => ?_⟩
  · rw [e3, hlen]; omega
  · have := a6.2 p hp
    rw [hlen]
    omega
  · rw [hlen] at hi
    rw [er i, q_setj (Or.inl (nK i (by omega)))]
    by_cases hik : i < (tk_nd A).length
    · rw [hg1 i hik]
      exact a7 i hik
    · obtain rfl : i = k := by omega
      rw [hg2, ← ha]
      exact ⟨hj, hw⟩
  · rw [hlen] at hi
    rw [er i, q_setz (Or.inl (nK i (by omega)))]
    by_cases hik : i < (tk_nd A).length
    · exact a8 i j hik hjj
    · obtain rfl : i = k := by omega
      rw [← ha, h5, tk_bt0]
      exact (tk_has_lt (n := (tk_nd A).length) a6.2 (Or.inl (by omega))).symm
/-- one end of a link -/
theorem tk_ta_m (h : tk_ta K L f rd dr nds A M) {a k b : Nat} {v : Value} {x y : Int} (ha : a = q_r f nds k) (hk : k < (tk_nd A).length) (hx : q_is (q_z f a 5) x) (ef : f1 = q_set f a 5 v) (ey : q_z f1 a 5 = y) (hz : ∀ j : Nat, j < 10 → tk_bt y j = (tk_bt x j || (j == b))) (krd : K rd = 9) (kdr : K dr = 13) (knd : K nds = 111) : tk_ta K L f1 rd dr nds A (fun i j => M i j || (i == k && j == b)) := by
  have hx : q_z f a 5 = x := hx
  obtain ⟨⟨a0, a1, a2⟩, ⟨a3, a4⟩, a5, a6, a7, a8⟩ := h
  have hKa : K a = 17 := by rw [ha]; exact (a5 k (by omega)).1.2
  have n1 : rd ≠ a := tk_nz 9 17 krd hKa rfl
  have n2 : dr ≠ a := tk_nz 13 17 kdr hKa rfl
  have n3 : nds ≠ a := tk_nz 111 17 knd hKa rfl
  subst ef
  have er : ∀ i : Nat, q_r (q_set f a 5 v) nds i = q_r f nds i := fun i => q_setr (Or.inl n3)
  refine ⟨⟨(q_setz (Or.inl n1)).trans a0, (q_setz (Or.inl n1)).trans a1, (q_setz (Or.inl n1)).trans a2⟩, ⟨(q_setz (Or.inl n2)).trans a3, (q_setz (Or.inl n2)).trans a4⟩, tk_ij_tr a5 er, a6, fun i hi => ?_, fun i j hi hj => ?_⟩
  · rw [er i, q_setj (Or.inr (by decide))]
    exact a7 i hi
  · rw [er i]
    by_cases hik : i = k
    · rw [hik, ← ha, ey, hz j hj, ← hx, ha, a8 k j hk hj]
      show (M k j || j == b) = (M k j || (k == k && j == b))
      rw [show (k == k) = true from beq_self_eq_true k, Bool.true_and]
    · have hne : q_r f nds i ≠ a := fun q => hik ((a5 i (by omega)).2 k (by omega) (q.trans ha))
      rw [q_setz (Or.inl hne), a8 i j hi hj]
      show M i j = (M i j || (i == k && j == b))
      rw [show (i == k) = false from beq_eq_false_iff_ne.mpr hik, Bool.false_and, Bool.or_false]
theorem tk_ta_al {a b : Nat} (h : tk_ta K L f rd dr nds A (fun i j => (tk_has (tk_lk A) i j || (i == a && j == b)) || (i == b && j == a))) {v : Value} (ha : a < (tk_nd A).length) (hb : b < (tk_nd A).length) (ef : f1 = q_set f dr 4 v) {x : Int} (hx : q_is (q_z f dr 4) x) (e4 : q_z f1 dr 4 = x + 1) (krd : K rd = 9) (kdr : K dr = 13) (knd : K nds = 111) : tk_ta K L f1 rd dr nds (tk_al A a b) (tk_has (tk_lk (tk_al A a b))) := by
  have hx : q_z f dr 4 = x := hx
  obtain ⟨⟨a0, a1, a2⟩, ⟨a3, a4⟩, a5, a6, a7, a8⟩ := h
  have n1 : rd ≠ dr := tk_nz 9 13 krd kdr rfl
  have n3 : nds ≠ dr := tk_nz 111 13 knd kdr rfl
  have nK : ∀ i : Nat, i < 10 → q_r f nds i ≠ dr := fun i hi => tk_nz 17 13 (a5 i hi).1.2 kdr rfl
  subst ef
  have er : ∀ i : Nat, q_r (q_set f dr 4 v) nds i = q_r f nds i := fun i => q_setr (Or.inl n3)
  refine ⟨⟨(q_setz (Or.inl n1)).trans a0, (q_setz (Or.inl n1)).trans a1, (q_setz (Or.inl n1)).trans a2⟩, ⟨(q_setz (Or.inr (by decide))).trans a3, ?_⟩, tk_ij_tr a5 er, ⟨a6.1, fun p hp => ?_⟩, fun i hi => ?_, fun i j hi hj => ?_⟩
  · rw [e4, ← hx, a4]
    show _ = ((A.2.2.2.2 ++ [(a, b)]).length : Int)
    rw [List.length_append, List.length_singleton]
    rfl
  · have hp : p ∈ A.2.2.2.2 ++ [(a, b)] := hp
    rcases List.mem_append.mp hp with hp | hp
    · exact a6.2 p hp
    · rw [List.mem_singleton.mp hp]
      exact ⟨ha, hb⟩
  · have hi : i < (tk_nd A).length := hi
    rw [er i, q_setj (Or.inl (nK i (by omega)))]
    exact a7 i hi
  · have hi : i < (tk_nd A).length := hi
    rw [er i, q_setz (Or.inl (nK i (by omega))), a8 i j hi hj]
    exact (tk_has_app (tk_lk A) a b i j).symm
/-! the number of a name -/
theorem tk_no_step {wl : List Int} {i y : Int} {z : Nat} {jx p0 : Int64} (h : ∀ j : Nat, (j : Int) < i → (tk_nd A).getD j [] ≠ wl) (hta : tk_ta K L f rd dr nds A M) (h0 : 0 ≤ i) (hi : i < ((tk_nd A).length : Int)) (hz : z = q_r f nds (Int.toNat i)) (ej : q_j f z 0 = jx) (hg : y = 0 ↔ jx = p0) (hp : p0 = tk_cw wl) (hy : ¬ y = 0) : ∀ j : Nat, (j : Int) < i + 1 → (tk_nd A).getD j [] ≠ wl := by
  intro j hj
  by_cases e : (j : Int) < i
  · exact h j e
  · intro hw
    obtain rfl : j = Int.toNat i := by omega
    have h7 := (hta.2.2.2.2.1 (Int.toNat i) (by omega)).1
    rw [hw, ← hp, ← hz, ej] at h7
    exact hy (hg.mpr h7)
theorem tk_no_hit {wl : List Int} {i y : Int} {z : Nat} {jx p0 : Int64} (h : ∀ j : Nat, (j : Int) < i → (tk_nd A).getD j [] ≠ wl) (hta : tk_ta K L f rd dr nds A M) (h0 : 0 ≤ i) (hi : i < ((tk_nd A).length : Int)) (hz : z = q_r f nds (Int.toNat i)) (ej : q_j f z 0 = jx) (hg : y = 0 ↔ jx = p0) (hp : p0 = tk_cw wl) (hv : tk_isw wl) (hy : y = 0) : tk_ix (tk_nd A) wl = some (Int.toNat i) := by
  have h7 := hta.2.2.2.2.1 (Int.toNat i) (by omega)
  have e : tk_cw ((tk_nd A).getD (Int.toNat i) []) = tk_cw wl := by rw [← h7.1, ← hz, ej, hg.mp hy, hp]
  exact tk_ix_some (by omega) (tk_cw_inj h7.2.2 hv.2 h7.2.1 hv.1 e) (fun j hj => h j (by omega))
theorem tk_no_none {wl : List Int} {i : Int} (h : ∀ j : Nat, (j : Int) < i → (tk_nd A).getD j [] ≠ wl) (hl : ((tk_nd A).length : Int) ≤ i) : tk_ix (tk_nd A) wl = none := tk_ix_none (fun j hj => h j (by omega))
end QTA
