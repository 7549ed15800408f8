/-! the reference's words, letter by letter -/
theorem tk_mn_dig {l : List Int} (hl : ∀ b ∈ l, 97 ≤ b ∧ b ≤ 122) : ∀ {i : Nat}, i < l.length → tk_mn l / 32 ^ (l.length - 1 - i) % 32 = (l.getD i 0 - 96).toNat := by
  have key : ∀ (n : Nat) (l : List Int), l.length = n → (∀ b ∈ l, 97 ≤ b ∧ b ≤ 122) → ∀ i : Nat, i < l.length → tk_mn l / 32 ^ (l.length - 1 - i) % 32 = (l.getD i 0 - 96).toNat := by
    intro n
    induction n with
    | zero => intro l h _ i hi; omega
    | succ n ih =>
      intro l h hl i hi
      rcases tk_snoc l with rfl | ⟨m, b, rfl⟩
      · exact absurd hi (Nat.not_lt_zero _)
      · have hb := hl b (by simp)
        rw [List.length_append, List.length_singleton] at h hi ⊢
        rw [tk_mn_app]
        by_cases e : i = m.length
        · rw [e, show m.length + 1 - 1 - m.length = 0 by omega, Nat.pow_zero, Nat.div_one, List.getD_eq_getElem?_getD, List.getElem?_append_right (Nat.le_refl _), Nat.sub_self]
          show (32 * tk_mn m + (b - 96).toNat) % 32 = (b - 96).toNat
          omega
        · have h1 := ih m (by omega) (fun x hx => hl x (by simp [hx])) i (by omega)
          rw [show m.length + 1 - 1 - i = (m.length - 1 - i) + 1 by omega, Nat.pow_succ, Nat.mul_comm (32 ^ (m.length - 1 - i)) 32, ← Nat.div_div_eq_div_mul, show (32 * tk_mn m + (b - 96).toNat) / 32 = tk_mn m by omega, h1]
          rw [List.getD_eq_getElem?_getD, List.getD_eq_getElem?_getD, List.getElem?_append_left (by omega)]
  intro i hi
  exact key l.length l rfl hl i hi
theorem tk_mn_top {l : List Int} (hl : ∀ b ∈ l, 97 ≤ b ∧ b ≤ 122) (kl : l.length ≤ 8) : tk_mn l < 2 ^ 40 := by
  have h1 := tk_mn_lt l hl
  have h2 : (32 : Nat) ^ l.length ≤ 32 ^ 8 := Nat.pow_le_pow_right (by decide) kl
  have h3 : (32 : Nat) ^ 8 = 2 ^ 40 := by decide
  omega
theorem tk_mw_nat {l : List Int} (hv : tk_isw l) : (tk_mw l).toBitVec.toNat = tk_mn l := tk_ofNat (Nat.lt_trans (tk_mn_top hv.2 hv.1) (by decide))
theorem tk_mw_int {l : List Int} (hv : tk_isw l) : (tk_mw l).toInt = (tk_mn l : Int) := by
  have h := tk_mw_nat hv
  have h2 := tk_mn_top hv.2 hv.1
  show (tk_mw l).toBitVec.toInt = _
  rw [BitVec.toInt_eq_toNat_cond, h, if_pos (by omega)]
theorem tk_isw_take {l : List Int} (hv : tk_isw l) (k : Nat) : tk_isw (l.take k) := ⟨by rw [List.length_take]; have := hv.1; omega, fun b hb => hv.2 b (List.mem_of_mem_take hb)⟩
theorem tk_mw_shr {l : List Int} {k : Nat} {j : Int64} (hv : tk_isw l) (hk : k < l.length) (e : j = tk_mw (l.take (k + 1)) >>> ((q_i 5).toInt64 &&& 63)) : j = tk_mw (l.take k) := by
  have h1 := tk_mw_nat (tk_isw_take hv (k + 1))
  have h2 := tk_mn_top (tk_isw_take hv (k + 1)).2 (tk_isw_take hv (k + 1)).1
  rw [e]
  apply tk_i64
  rw [tk_shr tk_sh5 (by decide) (by rw [h1]; omega), h1, tk_mw_nat (tk_isw_take hv k), Nat.shiftRight_eq_div_pow]
  have h3 : l.take (k + 1) = l.take k ++ [l[k]] := (List.take_succ_eq_append_getElem hk)
  have hb := hv.2 l[k] (List.getElem_mem hk)
  rw [h3, tk_mn_app]
  show (32 * tk_mn (l.take k) + (l[k] - 96).toNat) / 32 = _
  omega
theorem tk_mw_pos {l : List Int} {k : Nat} (hv : tk_isw l) (hk : k < l.length) : 0 < (tk_mw (l.take (k + 1))).toInt := by
  rw [tk_mw_int (tk_isw_take hv (k + 1))]
  have hb := hv.2 l[k] (List.getElem_mem hk)
  rw [show l.take (k + 1) = l.take k ++ [l[k]] from (List.take_succ_eq_append_getElem hk), tk_mn_app]
  omega
theorem tk_mw_0 {l : List Int} : (tk_mw (l.take 0)).toInt = 0 := by
  rw [List.take_zero]; decide +kernel
/-- what is left of a word while its letters are counted -/
def tk_lo (wl : List Int) (left : Int64) (n : Int) : Prop := 0 ≤ n ∧ n ≤ (wl.length : Int) ∧ left = tk_mw (wl.take (wl.length - Int.toNat n))
theorem tk_lo_0 {wl : List Int} {a : Int64} (h : a = tk_mw wl) : tk_lo wl a 0 := ⟨by decide, by omega, by rw [h]; show tk_mw wl = tk_mw (wl.take wl.length); rw [List.take_length]⟩
theorem tk_lo_more {wl : List Int} {left : Int64} {n y : Int} (hv : tk_isw wl) (h : tk_lo wl left n) (hy : y = 1 ↔ 0 < left.toInt) (h1 : 0 < y) (h2 : y ≤ 1) : n < (wl.length : Int) := by
  by_cases e : n = (wl.length : Int)
  · have h3 := hy.mp (by omega)
    rw [h.2.2, e, show wl.length - Int.toNat (wl.length : Int) = 0 by omega, tk_mw_0] at h3
    exact absurd h3 (by decide)
  · have := h.2.1
    omega
theorem tk_lo_step {wl : List Int} {left j : Int64} {n : Int} (hv : tk_isw wl) (h : tk_lo wl left n) (hn : n < (wl.length : Int)) (e : j = left >>> ((q_i 5).toInt64 &&& 63)) : tk_lo wl j (n + 1) := by
  obtain ⟨h0, h1, h2⟩ := h
  refine ⟨by omega, by omega, ?_⟩
  rw [h2, show wl.length - Int.toNat n = (wl.length - Int.toNat (n + 1)) + 1 by omega] at e
  exact tk_mw_shr hv (by omega) e
theorem tk_lo_end {wl : List Int} {left : Int64} {n y : Int} (hv : tk_isw wl) (h : tk_lo wl left n) (hy : y = 1 ↔ 0 < left.toInt) (h1 : ¬ 0 < y) : n = (wl.length : Int) := by
  obtain ⟨h0, h2, h3⟩ := h
  by_cases e : n = (wl.length : Int)
  · exact e
  · have h4 := tk_mw_pos (k := wl.length - Int.toNat n - 1) hv (by omega)
    rw [show wl.length - Int.toNat n - 1 + 1 = wl.length - Int.toNat n by omega, ← h3] at h4
    have h5 := hy.mpr h4
    omega
theorem tk_sh40 : ∀ k : Nat, k < 8 → (((q_i (5 * (k : Int))).toInt64 &&& 63).toBitVec.smod 64 = BitVec.ofNat 64 (5 * k)) := by decide +kernel
theorem tk_mlet {wl : List Int} {n i y : Int} {w j1 j2 : Int64} (hv : tk_isw wl) (hw : w = tk_mw wl) (hn : n = (wl.length : Int)) (h0 : 0 ≤ i) (h1 : i ≤ n - 1) (e1 : j1 = w >>> ((q_i (5 * ((n - 1) - i))).toInt64 &&& 63)) (e2 : j2 = j1 &&& q_l 31) (e3 : j2.toInt32 = q_i y) (hy : -2147483648 ≤ y ∧ y ≤ 2147483647) : y + 96 = tk_le wl i := by
  obtain ⟨k, rfl⟩ : ∃ k : Nat, i = (k : Int) := ⟨i.toNat, by omega⟩
  have hk : k < wl.length := by omega
  have hk8 := hv.1
  have ht := tk_mn_top hv.2 hv.1
  have hb := tk_getD_pos hv hk
  have hb2 := (tk_getD_le hv k).2
  have hd := tk_mn_dig hv.2 hk
  have he : j2 = q_l (wl.getD k 0 - 96) := by
    rw [e2, e1, hw, hn, show (5 * (((wl.length : Nat) : Int) - 1 - (k : Int))) = 5 * ((wl.length - 1 - k : Nat) : Int) by omega]
    apply tk_i64
    have hl1 : (q_l (wl.getD k 0 - 96)).toBitVec.toNat = (wl.getD k 0 - 96).toNat := by rw [tk_lNat (by omega), tk_ofNat (by omega)]
    rw [hl1, Int64.toBitVec_and, BitVec.toNat_and, tk_shr (tk_sh40 _ (by omega)) (by omega) (by rw [tk_mw_nat hv]; omega), tk_mw_nat hv, ← hd]
    rw [show (q_l 31).toBitVec.toNat = 2 ^ 5 - 1 from by decide +kernel, Nat.and_two_pow_sub_one_eq_mod, Nat.shiftRight_eq_div_pow, Nat.pow_mul]
  rw [he] at e3
  have e4 : y = wl.getD k 0 - 96 := by
    refine q_i_inj9 hy (by omega) (e3.symm.trans ?_)
    unfold q_l q_i
    exact Int64.toInt32_ofInt ..
  rw [e4, tk_le, if_pos (by omega)]
  show wl.getD k 0 - 96 + 96 = wl.getD k 0
  omega
/-! the reference's names -/
def tk_nq (f : Nat → va_E) (nm : Nat) (nl : List (List Int)) : Prop := nl.length ≤ 10 ∧ (∀ i : Nat, i < nl.length → q_j f nm i = tk_mw (nl.getD i []) ∧ tk_isw (nl.getD i [])) ∧ ∀ i j : Nat, i < nl.length → j < nl.length → nl.getD i [] = nl.getD j [] → i = j
theorem tk_nq_tr {f f1 : Nat → va_E} {nm : Nat} {nl : List (List Int)} (h : tk_nq f nm nl) (e : ∀ i : Nat, q_j f1 nm i = q_j f nm i) : tk_nq f1 nm nl := ⟨h.1, fun i hi => by rw [e i]; exact h.2.1 i hi, h.2.2⟩
theorem tk_nq_cp {f f1 : Nat → va_E} {nm nm2 : Nat} {nl : List (List Int)} (h : tk_nq f nm nl) (e : ∀ i : Nat, i < 10 → q_j f1 nm2 i = q_j f nm i) : tk_nq f1 nm2 nl := ⟨h.1, fun i hi => by rw [e i (by have := h.1; omega)]; exact h.2.1 i hi, h.2.2⟩
def tk_rs (f : Nat → va_E) (mo sd snm : Nat) (nl : List (List Int)) : Prop := q_z f mo 22 = 1 → q_z f sd 0 = (nl.length : Int) ∧ tk_nq f snm nl
theorem tk_rs_tr {f f1 : Nat → va_E} {mo sd snm : Nat} {nl : List (List Int)} (h : tk_rs f mo sd snm nl) (e1 : q_z f1 mo 22 = q_z f mo 22) (e2 : ∀ i : Nat, 0 ≤ i → i ≤ 0 → q_z f1 sd i = q_z f sd i) (e3 : ∀ i : Nat, q_j f1 snm i = q_j f snm i) : tk_rs f1 mo sd snm nl := fun h9 => by
  have := h (e1.symm.trans h9)
  exact ⟨(e2 0 (by decide) (by decide)).trans this.1, tk_nq_tr this.2 e3⟩
theorem tk_tm_rn {f : Nat → va_E} {mo sr nm : Nat} {A : tk_A} (h : tk_tm f mo sr nm A) : tk_nq f nm (tk_nd A) := ⟨h.2.2.1.1, h.2.2.2.1, h.2.2.2.2.1⟩
theorem tk_cn_step {f fk f1 : Nat → va_E} {pp qq : Nat} {v : Int} {j : Int64} (h : ∀ i : Nat, (i : Int) < v → q_j fk qq i = q_j f pp i) (e : f1 = q_set fk qq (Int.toNat v) (.long j)) (z : q_j f1 qq (Int.toNat v) = j) (ej : q_j fk pp (Int.toNat v) = j) (hp : q_j fk pp (Int.toNat v) = q_j f pp (Int.toNat v)) (hv : 0 ≤ v) : ∀ i : Nat, (i : Int) < v + 1 → q_j f1 qq i = q_j f pp i := by
  intro i hi
  by_cases hiv : (i : Int) < v
  · rw [e, q_setj (Or.inr (by omega))]; exact h i hiv
  · obtain rfl : i = Int.toNat v := by omega
    rw [z, ← hp, ej]
theorem tk_le_out {wl : List Int} {i n : Int} (h : ¬ (0 ≤ i ∧ i ≤ n - 1)) (hn : n = (wl.length : Int)) : 0 = tk_le wl i := by
  by_cases h0 : i < 0
  · exact tk_le_lo h0
  · exact tk_le_hi (by omega)
theorem tk_le_bd {wl : List Int} (h : tk_isw wl) (i : Int) : 0 ≤ tk_le wl i ∧ tk_le wl i ≤ 122 := by
  unfold tk_le
  split
  · exact tk_getD_le h _
  · decide
theorem tk_s2_tr {f f1 : Nat → va_E} {x mo : Nat} (h : q_z f x 9 = q_z f mo 22) (e1 : q_z f1 x 9 = q_z f x 9) (e2 : q_z f1 mo 22 = q_z f mo 22) : q_z f1 x 9 = q_z f1 mo 22 := e1.trans (h.trans e2.symm)
