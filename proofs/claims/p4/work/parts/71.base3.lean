/-! the names' numbers -/
theorem t_ix_none {l : List (List Int)} {w : List Int} (h : ∀ i : Nat, i < l.length → l.getD i [] ≠ w) : t_ix l w = none := by
  induction l with
  | nil => rfl
  | cons a l ih =>
    have h0 : a ≠ w := h 0 (by rw [List.length_cons]; omega)
    have h1 := ih (fun i hi => h (i + 1) (by rw [List.length_cons]; omega))
    unfold t_ix
    rw [if_neg h0, h1]
    rfl
theorem t_ix_some {l : List (List Int)} {w : List Int} {i : Nat} (hi : i < l.length) (hw : l.getD i [] = w) (h : ∀ j : Nat, j < i → l.getD j [] ≠ w) : t_ix l w = some i := by
  induction l generalizing i with
  | nil => exact absurd hi (Nat.not_lt_zero _)
  | cons a l ih =>
    unfold t_ix
    cases i with
    | zero =>
      have hw : a = w := hw
      rw [if_pos hw]
    | succ i =>
      have h0 : a ≠ w := h 0 (Nat.succ_pos _)
      rw [List.length_cons] at hi
      rw [if_neg h0, ih (i := i) (by omega) hw (fun j hj => h (j + 1) (by omega))]
      rfl
theorem t_ix_lt {l : List (List Int)} {w : List Int} {i : Nat} (h : t_ix l w = some i) : i < l.length ∧ l.getD i [] = w := by
  induction l generalizing i with
  | nil => exact nomatch h
  | cons a l ih =>
    unfold t_ix at h
    rw [List.length_cons]
    split at h
    · rename_i ha
      obtain rfl : 0 = i := Option.some.inj h
      exact ⟨by omega, ha⟩
    · cases e : t_ix l w with
      | none => rw [e] at h; exact nomatch h
      | some k =>
        rw [e] at h
        obtain rfl : k + 1 = i := Option.some.inj h
        have := ih e
        exact ⟨by omega, this.2⟩
theorem t_has_lt {l : List (Nat × Nat)} {n i j : Nat} (h : ∀ p ∈ l, p.1 < n ∧ p.2 < n) (hij : n ≤ i ∨ n ≤ j) : t_has l i j = false := by
  unfold t_has
  rw [List.any_eq_false]
  intro p hp hq
  have h1 := h p hp
  rw [Bool.or_eq_true, Bool.and_eq_true, Bool.and_eq_true, beq_iff_eq, beq_iff_eq, beq_iff_eq, beq_iff_eq] at hq
  omega
theorem t_has_app (l : List (Nat × Nat)) (a b i j : Nat) : t_has (l ++ [(a, b)]) i j = (t_has l i j || (i == a && j == b) || (i == b && j == a)) := by
  unfold t_has
  rw [List.any_append, Bool.or_assoc]
  congr 1
  show ((a == i && b == j || a == j && b == i) || false) = _
  rw [Bool.or_false, Bool.eq_iff_iff]
  simp only [Bool.or_eq_true, Bool.and_eq_true, beq_iff_eq]
  constructor <;> intro h <;> omega
/-! sets of nodes -/
def t_bt (z : Int) (j : Nat) : Bool := (q_i z).toBitVec.getLsbD j
theorem t_sh9 (x : Int32) {j : Nat} (hj : j < 10) : (x >>> (q_i (j : Int) &&& 31)).toBitVec.getLsbD 0 = x.toBitVec.getLsbD j := by
  have e : ∀ k : Fin 10, ((q_i ((k : Nat) : Int) &&& 31).toBitVec.smod 32).toNat = (k : Nat) := by decide +kernel
  have e := e ⟨j, hj⟩
  have e : ((q_i (j : Int) &&& 31).toBitVec.smod 32).toNat = j := e
  rw [Int32.toBitVec_shiftRight, BitVec.sshiftRight_eq', e, BitVec.getLsbD_sshiftRight, if_pos (by omega)]
  exact Bool.true_and _
theorem t_has1 {z j y1 y2 : Int} (h0 : 0 ≤ j) (h9 : j ≤ 9) (e1 : q_i z >>> (q_i j &&& 31) = q_i y1) (e2 : q_i y1 &&& q_i 1 = q_i y2) : t_bt z (Int.toNat j) = (q_i y2).toBitVec.getLsbD 0 := by
  obtain ⟨k, rfl⟩ : ∃ k : Nat, j = (k : Int) := ⟨j.toNat, by omega⟩
  have h := t_sh9 (q_i z) (j := k) (by omega)
  rw [e1] at h
  have h2 := congrArg (fun x : Int32 => x.toBitVec.getLsbD 0) e2
  have h3 : ((q_i y1).toBitVec &&& (q_i 1).toBitVec).getLsbD 0 = (q_i y2).toBitVec.getLsbD 0 := h2
  rw [BitVec.getLsbD_and, show (q_i 1).toBitVec.getLsbD 0 = true by decide +kernel, Bool.and_true] at h3
  rw [← h3, h]
  rfl
theorem t_has_y {z j y1 y2 : Int} (h0 : 0 ≤ j) (h9 : j ≤ 9) (e1 : q_i z >>> (q_i j &&& 31) = q_i y1) (e2 : q_i y1 &&& q_i 1 = q_i y2) (hy : y2 = 1) : t_bt z (Int.toNat j) = true := by
  rw [t_has1 h0 h9 e1 e2, hy]; decide +kernel
theorem t_has_n {z j y1 y2 : Int} (h0 : 0 ≤ j) (h9 : j ≤ 9) (e1 : q_i z >>> (q_i j &&& 31) = q_i y1) (e2 : q_i y1 &&& q_i 1 = q_i y2) (hy : y2 = 0) : t_bt z (Int.toNat j) = false := by
  rw [t_has1 h0 h9 e1 e2, hy]; decide +kernel
theorem t_or9 {x b y1 y : Int} (h0 : 0 ≤ b) (h9 : b ≤ 9) (e1 : q_i 1 <<< (q_i b &&& 31) = q_i y1) (e2 : q_i x ||| q_i y1 = q_i y) : ∀ j : Nat, j < 10 → t_bt y j = (t_bt x j || (j == Int.toNat b)) := by
  intro j hj
  have k : ∀ a : Fin 10, ∀ j : Fin 10, (q_i 1 <<< (q_i ((a : Nat) : Int) &&& 31)).toBitVec.getLsbD (j : Nat) = ((j : Nat) == (a : Nat)) := by decide +kernel
  obtain ⟨a, rfl⟩ : ∃ a : Nat, b = (a : Int) := ⟨b.toNat, by omega⟩
  have k := k ⟨a, by omega⟩ ⟨j, hj⟩
  have k : (q_i 1 <<< (q_i (a : Int) &&& 31)).toBitVec.getLsbD j = (j == a) := k
  rw [e1] at k
  unfold t_bt
  rw [← e2, Int32.toBitVec_or, BitVec.getLsbD_or, k]
  rfl
theorem t_bt0 (j : Nat) : t_bt 0 j = false := by
  unfold t_bt
  rw [show (q_i 0).toBitVec = 0#32 by decide +kernel]
  exact BitVec.getLsbD_zero
/-! what stands in the draft and in its reader -/
def t_ij (K : Nat → Nat) (L : List Nat) (f : Nat → va_E) (nds : Nat) : Prop := ∀ i : Nat, i < 10 → (q_r f nds i ∈ L ∧ K (q_r f nds i) = 17) ∧ ∀ j : Nat, j < 10 → q_r f nds i = q_r f nds j → i = j
theorem t_ij_tr {K : Nat → Nat} {L : List Nat} {f f1 : Nat → va_E} {nds : Nat} (h : t_ij K L f nds) (e : ∀ i : Nat, q_r f1 nds i = q_r f nds i) : t_ij K L f1 nds := by
  intro i hi
  rw [e i]
  exact ⟨(h i hi).1, fun j hj hq => (h i hi).2 j hj (by rw [e j] at hq; exact hq)⟩
def t_b2 (b : Bool) : Int := if b = true then 1 else 0
theorem t_b2t {b : Bool} {z x : Int} (h0 : z = t_b2 b) (hx : q_is z x) (h1 : ¬ x = 0) : b = true := by
  have hx : z = x := hx
  cases b with
  | true => rfl
  | false => exact absurd (hx.symm.trans h0 : x = 0) h1
theorem t_b2f {b : Bool} {z x : Int} (h0 : z = t_b2 b) (hx : q_is z x) (h1 : x = 0) : b = false := by
  have hx : z = x := hx
  cases b with
  | false => rfl
  | true => exact absurd (h1.symm.trans (hx.symm.trans h0) : (0 : Int) = 1) (by decide)
def t_ta (K : Nat → Nat) (L : List Nat) (f : Nat → va_E) (rd dr nds : Nat) (A : t_A) (M : Nat → Nat → Bool) : Prop :=
  (q_z f rd 0 = t_b2 (t_yr A) ∧ q_z f rd 1 = t_b2 (t_co A) ∧ q_z f rd 2 = t_b2 (t_mi A)) ∧ (q_z f dr 3 = ((t_nd A).length : Int) ∧ q_z f dr 4 = ((t_lk A).length : Int)) ∧ t_ij K L f nds ∧ ((t_nd A).length ≤ 10 ∧ ∀ p ∈ t_lk A, p.1 < (t_nd A).length ∧ p.2 < (t_nd A).length) ∧
  (∀ i : Nat, i < (t_nd A).length → q_j f (q_r f nds i) 0 = t_cw ((t_nd A).getD i []) ∧ t_isw ((t_nd A).getD i [])) ∧
  (∀ i j : Nat, i < (t_nd A).length → j < 10 → t_bt (q_z f (q_r f nds i) 5) j = M i j)
section QTA
variable {K : Nat → Nat} {L : List Nat} {f f1 : Nat → va_E} {rd dr nds : Nat} {A A1 : t_A} {M : Nat → Nat → Bool}
theorem t_ta_g (h : t_ta K L f rd dr nds A M) (hn : t_nd A1 = t_nd A) (hl : t_lk A1 = t_lk A) (e0 : q_z f1 rd 0 = t_b2 (t_yr A1)) (e1 : q_z f1 rd 1 = t_b2 (t_co A1)) (e2 : q_z f1 rd 2 = t_b2 (t_mi A1)) (e3 : q_z f1 dr 3 = q_z f dr 3) (e4 : q_z f1 dr 4 = q_z f dr 4) (ej : ∀ i : Nat, i < (t_nd A).length → q_j f1 (q_r f nds i) 0 = q_j f (q_r f nds i) 0) (e5 : ∀ i : Nat, i < (t_nd A).length → q_z f1 (q_r f nds i) 5 = q_z f (q_r f nds i) 5) (er : ∀ i : Nat, q_r f1 nds i = q_r f nds i) : t_ta K L f1 rd dr nds A1 M := by
  obtain ⟨-, ⟨h3, h4⟩, h5, h6, h7, h8⟩ := h
  unfold t_ta
  rw [hn, hl]
  refine ⟨⟨e0, e1, e2⟩, ⟨e3.trans h3, e4.trans h4⟩, t_ij_tr h5 er, h6, fun i hi => ?_, fun i j hi hj => ?_⟩
  · rw [er i, ej i hi]
    exact h7 i hi
  · rw [er i, e5 i hi]
    exact h8 i j hi hj
theorem t_ta_in (h : t_ta K L f rd dr nds A M) {i : Nat} (hi : i < (t_nd A).length) : q_r f nds i ∈ L ∧ K (q_r f nds i) = 17 := (h.2.2.1 i (Nat.lt_of_lt_of_le hi h.2.2.2.1.1)).1
theorem t_ta_tr (h : t_ta K L f rd dr nds A M) (e0 : q_z f1 rd 0 = q_z f rd 0) (e1 : q_z f1 rd 1 = q_z f rd 1) (e2 : q_z f1 rd 2 = q_z f rd 2) (e3 : q_z f1 dr 3 = q_z f dr 3) (e4 : q_z f1 dr 4 = q_z f dr 4) (ej : ∀ a : Nat, a ∈ L → K a = 17 → q_j f1 a 0 = q_j f a 0) (e5 : ∀ a : Nat, a ∈ L → K a = 17 → q_z f1 a 5 = q_z f a 5) (er : ∀ i : Nat, q_r f1 nds i = q_r f nds i) : t_ta K L f1 rd dr nds A M :=
  t_ta_g h rfl rfl (e0.trans h.1.1) (e1.trans h.1.2.1) (e2.trans h.1.2.2) e3 e4 (fun _ hi => ej _ (t_ta_in h hi).1 (t_ta_in h hi).2) (fun _ hi => e5 _ (t_ta_in h hi).1 (t_ta_in h hi).2) er
theorem t_ta_sy (h : t_ta K L f rd dr nds A M) (e0 : q_z f1 rd 0 = 1) (e1 : q_z f1 rd 1 = q_z f rd 1) (e2 : q_z f1 rd 2 = q_z f rd 2) (e3 : q_z f1 dr 3 = q_z f dr 3) (e4 : q_z f1 dr 4 = q_z f dr 4) (ej : ∀ a : Nat, a ∈ L → K a = 17 → q_j f1 a 0 = q_j f a 0) (e5 : ∀ a : Nat, a ∈ L → K a = 17 → q_z f1 a 5 = q_z f a 5) (er : ∀ i : Nat, q_r f1 nds i = q_r f nds i) : t_ta K L f1 rd dr nds (t_sy A) M :=
  t_ta_g h rfl rfl e0 (e1.trans h.1.2.1) (e2.trans h.1.2.2) e3 e4 (fun _ hi => ej _ (t_ta_in h hi).1 (t_ta_in h hi).2) (fun _ hi => e5 _ (t_ta_in h hi).1 (t_ta_in h hi).2) er
theorem t_ta_sc (h : t_ta K L f rd dr nds A M) (e0 : q_z f1 rd 0 = q_z f rd 0) (e1 : q_z f1 rd 1 = 1) (e2 : q_z f1 rd 2 = q_z f rd 2) (e3 : q_z f1 dr 3 = q_z f dr 3) (e4 : q_z f1 dr 4 = q_z f dr 4) (ej : ∀ a : Nat, a ∈ L → K a = 17 → q_j f1 a 0 = q_j f a 0) (e5 : ∀ a : Nat, a ∈ L → K a = 17 → q_z f1 a 5 = q_z f a 5) (er : ∀ i : Nat, q_r f1 nds i = q_r f nds i) : t_ta K L f1 rd dr nds (t_sc A) M :=
  t_ta_g h rfl rfl (e0.trans h.1.1) e1 (e2.trans h.1.2.2) e3 e4 (fun _ hi => ej _ (t_ta_in h hi).1 (t_ta_in h hi).2) (fun _ hi => e5 _ (t_ta_in h hi).1 (t_ta_in h hi).2) er
theorem t_ta_sm (h : t_ta K L f rd dr nds A M) (e0 : q_z f1 rd 0 = q_z f rd 0) (e1 : q_z f1 rd 1 = q_z f rd 1) (e2 : q_z f1 rd 2 = 1) (e3 : q_z f1 dr 3 = q_z f dr 3) (e4 : q_z f1 dr 4 = q_z f dr 4) (ej : ∀ a : Nat, a ∈ L → K a = 17 → q_j f1 a 0 = q_j f a 0) (e5 : ∀ a : Nat, a ∈ L → K a = 17 → q_z f1 a 5 = q_z f a 5) (er : ∀ i : Nat, q_r f1 nds i = q_r f nds i) : t_ta K L f1 rd dr nds (t_sm A) M :=
  t_ta_g h rfl rfl (e0.trans h.1.1) (e1.trans h.1.2.1) e2 e3 e4 (fun _ hi => ej _ (t_ta_in h hi).1 (t_ta_in h hi).2) (fun _ hi => e5 _ (t_ta_in h hi).1 (t_ta_in h hi).2) er
theorem t_ta_0 (h : t_ij K L f nds) (e0 : q_is (q_z f rd 0) 0) (e1 : q_is (q_z f rd 1) 0) (e2 : q_is (q_z f rd 2) 0) (e3 : q_is (q_z f dr 3) 0) (e4 : q_is (q_z f dr 4) 0) : t_ta K L f rd dr nds t_A0 (t_has (t_lk t_A0)) :=
  ⟨⟨e0, e1, e2⟩, ⟨e3, e4⟩, h, ⟨Nat.zero_le _, fun _ hp => nomatch hp⟩, fun _ hi => absurd hi (Nat.not_lt_zero _), fun _ _ hi => absurd hi (Nat.not_lt_zero _)⟩
theorem t_ta_nn (h : t_ta K L f rd dr nds A M) {x : Int} (hx : q_is (q_z f dr 3) x) : ((t_nd A).length : Int) = x := h.2.1.1.symm.trans hx
theorem t_ta_nl (h : t_ta K L f rd dr nds A M) {x : Int} (hx : q_is (q_z f dr 4) x) : ((t_lk A).length : Int) = x := h.2.1.2.symm.trans hx
theorem t_ta_has (h : t_ta K L f rd dr nds A M) {z i j : Nat} {x : Int} {b : Bool} (ha : z = q_r f nds i) (hi : i < (t_nd A).length) (hj : j < 10) (hx : q_is (q_z f z 5) x) (hb : t_bt x j = b) : M i j = b := by
  have hx : q_z f z 5 = x := hx
  rw [← h.2.2.2.2.2 i j hi hj, ← ha, hx]
  exact hb
theorem t_nz {a b : Nat} (ka kb : Nat) (ha : K a = ka) (hb : K b = kb) (h : (ka == kb) = false) : a ≠ b := fun q => by
  rw [q, hb] at ha
  rw [ha] at h
  exact absurd h (by simp)
/-- a field of a node that isn't told of yet -/
theorem t_ta_pn (h : t_ta K L f rd dr nds A M) {a k idx : Nat} {v : Value} (ha : a = q_r f nds k) (hk : k < 10) (hl : (t_nd A).length ≤ k) (ef : f1 = q_set f a idx v) (krd : K rd = 9) (kdr : K dr = 13) (knd : K nds = 111) : t_ta K L f1 rd dr nds A M := by
  have h5 := h.2.2.1
  have hKa : K a = 17 := by rw [ha]; exact (h5 k hk).1.2
  have n1 : rd ≠ a := t_nz 9 17 krd hKa rfl
  have n2 : dr ≠ a := t_nz 13 17 kdr hKa rfl
  have n3 : nds ≠ a := t_nz 111 17 knd hKa rfl
  have n4 : ∀ i : Nat, i < (t_nd A).length → q_r f nds i ≠ a := fun i hi q => by
    have := (h5 i (by omega)).2 k hk (q.trans ha)
    omega
  subst ef
  exact t_ta_g h rfl rfl ((q_setz (Or.inl n1)).trans h.1.1) ((q_setz (Or.inl n1)).trans h.1.2.1) ((q_setz (Or.inl n1)).trans h.1.2.2) (q_setz (Or.inl n2)) (q_setz (Or.inl n2)) (fun i hi => q_setj (Or.inl (n4 i hi))) (fun i hi => q_setz (Or.inl (n4 i hi))) (fun i => q_setr (Or.inl n3))
theorem t_ta_an (h : t_ta K L f rd dr nds A (t_has (t_lk A))) {w : List Int} {a k : Nat} {v : Value} (hw : t_isw w) (ha : a = q_r f nds k) (hk : k < 10) (hl : (t_nd A).length = k) (hj : q_j f a 0 = t_cw w) (h5 : q_is (q_z f a 5) 0) (ef : f1 = q_set f dr 3 v) (e3 : q_z f1 dr 3 = (k : Int) + 1) (krd : K rd = 9) (kdr : K dr = 13) (knd : K nds = 111) : t_ta K L f1 rd dr nds (t_an A w) (t_has (t_lk (t_an A w))) := by
  have h5 : q_z f a 5 = 0 := h5
  obtain ⟨⟨a0, a1, a2⟩, ⟨-, a4⟩, a5, a6, a7, a8⟩ := h
  have n1 : rd ≠ dr := t_nz 9 13 krd kdr rfl
  have n3 : nds ≠ dr := t_nz 111 13 knd kdr rfl
  have nK : ∀ i : Nat, i < 10 → q_r f nds i ≠ dr := fun i hi => t_nz 17 13 (a5 i hi).1.2 kdr rfl
  subst ef
  have er : ∀ i : Nat, q_r (q_set f dr 3 v) nds i = q_r f nds i := fun i => q_setr (Or.inl n3)
  have hlen : (t_nd (t_an A w)).length = (t_nd A).length + 1 := by
    show (A.2.2.2.1 ++ [w]).length = _
    rw [List.length_append, List.length_singleton]
    rfl
  have hg1 : ∀ i : Nat, i < (t_nd A).length → (t_nd (t_an A w)).getD i [] = (t_nd A).getD i [] := fun i hi => by
    show (A.2.2.2.1 ++ [w]).getD i [] = A.2.2.2.1.getD i []
    rw [List.getD_eq_getElem?_getD, List.getD_eq_getElem?_getD, List.getElem?_append_left hi]
  have hg2 : (t_nd (t_an A w)).getD k [] = w := by
    show (A.2.2.2.1 ++ [w]).getD k [] = w
    rw [List.getD_eq_getElem?_getD, ← hl, List.getElem?_append_right (Nat.le_refl _)]
    show ([w] : List (List Int))[A.2.2.2.1.length - A.2.2.2.1.length]?.getD [] = w
    rw [Nat.sub_self]
    rfl
  refine ⟨⟨(q_setz (Or.inl n1)).trans a0, (q_setz (Or.inl n1)).trans a1, (q_setz (Or.inl n1)).trans a2⟩, ⟨?_, (q_setz (Or.inr (by decide))).trans a4⟩, t_ij_tr a5 er, ⟨by rw [hlen]; omega, fun p hp => ?_⟩, fun i hi => ?_, fun i j hi hjj => ?_⟩
  · rw [e3, hlen]; omega
  · have := a6.2 p hp
    rw [hlen]
    omega
  · rw [hlen] at hi
    rw [er i, q_setj (Or.inl (nK i (by omega)))]
    by_cases hik : i < (t_nd A).length
    · rw [hg1 i hik]
      exact a7 i hik
    · obtain rfl : i = k := by omega
      rw [hg2, ← ha]
      exact ⟨hj, hw⟩
  · rw [hlen] at hi
    rw [er i, q_setz (Or.inl (nK i (by omega)))]
    by_cases hik : i < (t_nd A).length
    · exact a8 i j hik hjj
    · obtain rfl : i = k := by omega
      rw [← ha, h5, t_bt0]
      exact (t_has_lt (n := (t_nd A).length) a6.2 (Or.inl (by omega))).symm
/-- one end of a link -/
theorem t_ta_m (h : t_ta K L f rd dr nds A M) {a k b : Nat} {v : Value} {x y : Int} (ha : a = q_r f nds k) (hk : k < (t_nd A).length) (hx : q_is (q_z f a 5) x) (ef : f1 = q_set f a 5 v) (ey : q_z f1 a 5 = y) (hz : ∀ j : Nat, j < 10 → t_bt y j = (t_bt x j || (j == b))) (krd : K rd = 9) (kdr : K dr = 13) (knd : K nds = 111) : t_ta K L f1 rd dr nds A (fun i j => M i j || (i == k && j == b)) := by
  have hx : q_z f a 5 = x := hx
  obtain ⟨⟨a0, a1, a2⟩, ⟨a3, a4⟩, a5, a6, a7, a8⟩ := h
  have hKa : K a = 17 := by rw [ha]; exact (a5 k (by omega)).1.2
  have n1 : rd ≠ a := t_nz 9 17 krd hKa rfl
  have n2 : dr ≠ a := t_nz 13 17 kdr hKa rfl
  have n3 : nds ≠ a := t_nz 111 17 knd hKa rfl
  subst ef
  have er : ∀ i : Nat, q_r (q_set f a 5 v) nds i = q_r f nds i := fun i => q_setr (Or.inl n3)
  refine ⟨⟨(q_setz (Or.inl n1)).trans a0, (q_setz (Or.inl n1)).trans a1, (q_setz (Or.inl n1)).trans a2⟩, ⟨(q_setz (Or.inl n2)).trans a3, (q_setz (Or.inl n2)).trans a4⟩, t_ij_tr a5 er, a6, fun i hi => ?_, fun i j hi hj => ?_⟩
  · rw [er i, q_setj (Or.inr (by decide))]
    exact a7 i hi
  · rw [er i]
    by_cases hik : i = k
    · rw [hik, ← ha, ey, hz j hj, ← hx, ha, a8 k j hk hj]
      rw [show (k == k) = true from beq_self_eq_true k, Bool.true_and]
    · have hne : q_r f nds i ≠ a := fun q => hik ((a5 i (by omega)).2 k (by omega) (q.trans ha))
      rw [q_setz (Or.inl hne), a8 i j hi hj, show (i == k) = false from beq_eq_false_iff_ne.mpr hik, Bool.false_and, Bool.or_false]
theorem t_ta_al {a b : Nat} (h : t_ta K L f rd dr nds A (fun i j => (t_has (t_lk A) i j || (i == a && j == b)) || (i == b && j == a))) {v : Value} (ha : a < (t_nd A).length) (hb : b < (t_nd A).length) (ef : f1 = q_set f dr 4 v) {x : Int} (hx : q_is (q_z f dr 4) x) (e4 : q_z f1 dr 4 = x + 1) (krd : K rd = 9) (kdr : K dr = 13) (knd : K nds = 111) : t_ta K L f1 rd dr nds (t_al A a b) (t_has (t_lk (t_al A a b))) := by
  have hx : q_z f dr 4 = x := hx
  obtain ⟨⟨a0, a1, a2⟩, ⟨a3, a4⟩, a5, a6, a7, a8⟩ := h
  have n1 : rd ≠ dr := t_nz 9 13 krd kdr rfl
  have n3 : nds ≠ dr := t_nz 111 13 knd kdr rfl
  have nK : ∀ i : Nat, i < 10 → q_r f nds i ≠ dr := fun i hi => t_nz 17 13 (a5 i hi).1.2 kdr rfl
  subst ef
  have er : ∀ i : Nat, q_r (q_set f dr 4 v) nds i = q_r f nds i := fun i => q_setr (Or.inl n3)
  refine ⟨⟨(q_setz (Or.inl n1)).trans a0, (q_setz (Or.inl n1)).trans a1, (q_setz (Or.inl n1)).trans a2⟩, ⟨(q_setz (Or.inr (by decide))).trans a3, ?_⟩, t_ij_tr a5 er, ⟨a6.1, fun p hp => ?_⟩, fun i hi => ?_, fun i j hi hj => ?_⟩
  · rw [e4, ← hx, a4]
    show _ = ((A.2.2.2.2 ++ [(a, b)]).length : Int)
    rw [List.length_append, List.length_singleton]
    rfl
  · have hp : p ∈ A.2.2.2.2 ++ [(a, b)] := hp
    rcases List.mem_append.mp hp with hp | hp
    · exact a6.2 p hp
    · rw [List.mem_singleton.mp hp]
      exact ⟨ha, hb⟩
  · have hi : i < (t_nd A).length := hi
    rw [er i, q_setj (Or.inl (nK i (by omega)))]
    exact a7 i hi
  · have hi : i < (t_nd A).length := hi
    rw [er i, q_setz (Or.inl (nK i (by omega))), a8 i j hi hj]
    exact (t_has_app (t_lk A) a b i j).symm
/-! the number of a name -/
theorem t_no_step {wl : List Int} {i y : Int} {z : Nat} {jx p0 : Int64} (h : ∀ j : Nat, (j : Int) < i → (t_nd A).getD j [] ≠ wl) (hta : t_ta K L f rd dr nds A M) (h0 : 0 ≤ i) (hi : i < ((t_nd A).length : Int)) (hz : z = q_r f nds (Int.toNat i)) (ej : q_j f z 0 = jx) (hg : y = 0 ↔ jx = p0) (hp : p0 = t_cw wl) (hy : ¬ y = 0) : ∀ j : Nat, (j : Int) < i + 1 → (t_nd A).getD j [] ≠ wl := by
  intro j hj
  by_cases e : (j : Int) < i
  · exact h j e
  · intro hw
    obtain rfl : j = Int.toNat i := by omega
    have h7 := (hta.2.2.2.2.1 (Int.toNat i) (by omega)).1
    rw [hw, ← hp, ← hz, ej] at h7
    exact hy (hg.mpr h7)
theorem t_no_hit {wl : List Int} {i y : Int} {z : Nat} {jx p0 : Int64} (h : ∀ j : Nat, (j : Int) < i → (t_nd A).getD j [] ≠ wl) (hta : t_ta K L f rd dr nds A M) (h0 : 0 ≤ i) (hi : i < ((t_nd A).length : Int)) (hz : z = q_r f nds (Int.toNat i)) (ej : q_j f z 0 = jx) (hg : y = 0 ↔ jx = p0) (hp : p0 = t_cw wl) (hv : t_isw wl) (hy : y = 0) : t_ix (t_nd A) wl = some (Int.toNat i) := by
  have h7 := hta.2.2.2.2.1 (Int.toNat i) (by omega)
  have e : t_cw ((t_nd A).getD (Int.toNat i) []) = t_cw wl := by rw [← h7.1, ← hz, ej, hg.mp hy, hp]
  exact t_ix_some (by omega) (t_cw_inj h7.2.2 hv.2 h7.2.1 hv.1 e) (fun j hj => h j (by omega))
theorem t_no_none {wl : List Int} {i : Int} (h : ∀ j : Nat, (j : Int) < i → (t_nd A).getD j [] ≠ wl) (hl : ((t_nd A).length : Int) ≤ i) : t_ix (t_nd A) wl = none := t_ix_none (fun j hj => h j (by omega))
end QTA
