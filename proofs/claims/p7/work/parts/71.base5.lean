/-! what the reference's token is -/
theorem q_inWr {w : q_Ws} {k lo hi i : Nat} (h : w.all (fun q => !(q.1 == k) || decide (q.2.2 < lo) || decide (hi < q.2.1)) = true) (h1 : lo ≤ i) (h2 : i ≤ hi) : q_inW w k i = false := by
  cases e : q_inW w k i with
  | false => rfl
  | true =>
    rw [q_inW, List.any_eq_true] at e
    obtain ⟨q, hq, e⟩ := e
    have h3 := List.all_eq_true.mp h q hq
    rw [Bool.and_eq_true, Bool.and_eq_true, decide_eq_true_eq, decide_eq_true_eq] at e
    rw [Bool.or_eq_true, Bool.or_eq_true, decide_eq_true_eq, decide_eq_true_eq, e.1.1] at h3
    rcases h3 with (h3 | h3) | h3
    · exact absurd h3 (by decide)
    · omega
    · omega
theorem tk_usp {b : Int} (h : -128 ≤ b) : tk_sp (tk_u b) = tk_sp b := by
  rw [Bool.eq_iff_iff, tk_sp_iff, tk_sp_iff]
  unfold tk_u
  split <;> constructor <;> intro h9 <;> omega
theorem tk_ult {b : Int} (h : -128 ≤ b) : tk_lt (tk_u b) = tk_lt b := by
  rw [Bool.eq_iff_iff, tk_lt_iff, tk_lt_iff]
  unfold tk_u
  split <;> constructor <;> intro h9 <;> omega
theorem tk_udg {b : Int} (h : -128 ≤ b) : tk_dg (tk_u b) = tk_dg b := by
  rw [Bool.eq_iff_iff, tk_dg_iff, tk_dg_iff]
  unfold tk_u
  split <;> constructor <;> intro h9 <;> omega
def tk_ub (f : Nat → va_E) (bu : Nat) (B : Nat → Int) (n : Int) : Prop := ∀ i : Nat, (i : Int) < n → q_z f bu i = tk_u (B i) ∧ -128 ≤ B i ∧ B i ≤ 127
theorem tk_ub_tr {f f1 : Nat → va_E} {bu : Nat} {B : Nat → Int} {n : Int} (h : tk_ub f bu B n) (e : ∀ j : Nat, q_z f1 bu j = q_z f bu j) : tk_ub f1 bu B n := fun i hi => ⟨(e i).trans (h i hi).1, (h i hi).2⟩
theorem tk_ub_at {f : Nat → va_E} {bu : Nat} {B : Nat → Int} {n p x : Int} (h : tk_ub f bu B n) (hx : q_is (q_z f bu (Int.toNat p)) x) (h0 : 0 ≤ p) (hp : p < n) : x = tk_u (B (Int.toNat p)) := (Eq.symm hx).trans (h _ (by omega)).1
section QTR
variable {f f1 : Nat → va_E} {mo bu : Nat} {B : Nat → Int} {n s w v y : Int}
theorem tk_uS {p : Int} (h : tk_ub f bu B n) (hy : y = tk_u (B (Int.toNat p))) (e : p = w) (h0 : 0 ≤ w) (h1 : w < n) : tk_sp y = tk_sp (B (Int.toNat w)) := by
  subst e
  rw [hy, tk_usp (h _ (by omega)).2.1]
theorem tk_uL {p : Int} (h : tk_ub f bu B n) (hy : y = tk_u (B (Int.toNat p))) (e : p = w) (h0 : 0 ≤ w) (h1 : w < n) : tk_lt y = tk_lt (B (Int.toNat w)) := by
  subst e
  rw [hy, tk_ult (h _ (by omega)).2.1]
theorem tk_uD {p : Int} (h : tk_ub f bu B n) (hy : y = tk_u (B (Int.toNat p))) (e : p = w) (h0 : 0 ≤ w) (h1 : w < n) : tk_dg y = tk_dg (B (Int.toNat w)) := by
  subst e
  rw [hy, tk_udg (h _ (by omega)).2.1]
theorem tk_uE {p : Int} (h : tk_ub f bu B n) (hy : y = tk_u (B (Int.toNat p))) (e : p = w) (h0 : 0 ≤ w) (h1 : w < n) (hl : y < 128) : y = B (Int.toNat w) := by
  subst e
  have hb := (h _ (show ((Int.toNat p : Nat) : Int) < n by omega)).2
  rw [hy] at hl ⊢
  unfold tk_u at hl ⊢
  split at hl
  · omega
  · rename_i h2; rw [if_neg h2]
theorem tk_uN {p : Int} (h : tk_ub f bu B n) (hy : y = tk_u (B (Int.toNat p))) (e : p = w) (h0 : 0 ≤ w) (h1 : w < n) : y = tk_u (B (Int.toNat w)) := by subst e; exact hy
def tk_so (a b k : Int) : Prop := (a = 0 ∧ k = 0) ∨ (a = 1 ∧ k = 1) ∨ (a = 2 ∧ k = 2) ∨ (a = 3 ∧ (k = 59 ∨ k = 40 ∨ k = 41) ∧ b = k) ∨ (a = 4 ∧ k = 3)
def tk_tr (f : Nat → va_E) (mo : Nat) (B : Nat → Int) (n : Int) : Prop :=
  (0 ≤ q_z f mo 5 ∧ q_z f mo 5 ≤ n) ∧ q_z f mo 4 = tk_n B n (q_z f mo 5) ∧ tk_so (q_z f mo 6) (q_z f mo 7) (tk_k B n (q_z f mo 5)) ∧ (tk_k B n (q_z f mo 5) = 1 → q_j f mo 12 = tk_mw (tk_w B n (q_z f mo 5))) ∧ (tk_k B n (q_z f mo 5) = 2 → q_z f mo 7 = tk_v B n (q_z f mo 5))
theorem tk_tr_tr (h : tk_tr f mo B n) (e5 : q_z f1 mo 5 = q_z f mo 5) (e4 : q_z f1 mo 4 = q_z f mo 4) (e6 : q_z f1 mo 6 = q_z f mo 6) (e7 : q_z f1 mo 7 = q_z f mo 7) (e12 : q_j f1 mo 12 = q_j f mo 12) : tk_tr f1 mo B n := by
  unfold tk_tr
  rw [e5, e4, e6, e7, e12]
  exact h
theorem tk_tr_n (h : tk_tr f mo B n) (h5 : q_is (q_z f mo 5) s) : q_z f mo 4 = tk_n B n s ∧ 0 ≤ s ∧ s ≤ n ∧ s ≤ tk_n B n s ∧ tk_n B n s ≤ n := by
  have h5 : q_z f mo 5 = s := h5
  obtain ⟨⟨a0, a1⟩, a2, -, -, -⟩ := h
  rw [h5] at a0 a1 a2
  have h1 := tk_n_le (B := B) a1
  exact ⟨a2, a0, a1, h1.1, h1.2⟩
theorem tk_tr_so {a b : Int} (h : tk_tr f mo B n) (h5 : q_is (q_z f mo 5) s) (h6 : q_is (q_z f mo 6) a) (h7 : q_is (q_z f mo 7) b) : tk_so a b (tk_k B n s) := by
  have h5 : q_z f mo 5 = s := h5
  have h6 : q_z f mo 6 = a := h6
  have h7 : q_z f mo 7 = b := h7
  have := h.2.2.1
  rw [h5, h6, h7] at this
  exact this
theorem tk_tr_s {a : Int} (h : tk_tr f mo B n) (h5 : q_is (q_z f mo 5) s) (h6 : q_is (q_z f mo 6) a) : tk_so a (q_z f mo 7) (tk_k B n s) := tk_tr_so h h5 h6 (rfl : q_z f mo 7 = q_z f mo 7)
theorem tk_tr_w (h : tk_tr f mo B n) (h5 : q_is (q_z f mo 5) s) (hk : tk_k B n s = 1) : q_j f mo 12 = tk_mw (tk_w B n s) := by
  have h5 : q_z f mo 5 = s := h5
  have := h.2.2.2.1
  rw [h5] at this
  exact this hk
theorem tk_tr_v {b : Int} (h : tk_tr f mo B n) (h5 : q_is (q_z f mo 5) s) (hk : tk_k B n s = 2) (h7 : q_is (q_z f mo 7) b) : b = tk_v B n s := by
  have h5 : q_z f mo 5 = s := h5
  have h7 : q_z f mo 7 = b := h7
  have := h.2.2.2.2
  rw [h5, h7] at this
  exact this hk
theorem tk_so_0 {a b k : Int} (h : tk_so a b k) (ha : a = 0) : k = 0 := by unfold tk_so at h; omega
theorem tk_so_0n {a b k : Int} (h : tk_so a b k) (ha : ¬ a = 0) : k ≠ 0 := by unfold tk_so at h; omega
theorem tk_so_1 {a b k : Int} (h : tk_so a b k) (ha : a = 1) : k = 1 := by unfold tk_so at h; omega
theorem tk_so_1n {a b k : Int} (h : tk_so a b k) (ha : ¬ a = 1) : k ≠ 1 := by unfold tk_so at h; omega
theorem tk_so_2 {a b k : Int} (h : tk_so a b k) (ha : a = 2) : k = 2 := by unfold tk_so at h; omega
theorem tk_so_2n {a b k : Int} (h : tk_so a b k) (ha : ¬ a = 2) : k ≠ 2 := by unfold tk_so at h; omega
theorem tk_so_w {a b k : Int} (h : tk_so a b k) (hk : k = 1) : a = 1 := by unfold tk_so at h; omega
theorem tk_so_y {a b k c : Int} (h : tk_so a b k) (ha : a = 3) (hb : b = c) : k = c := by unfold tk_so at h; omega
theorem tk_so_n {a b k c : Int} (h : tk_so a b k) (hc : c = 59 ∨ c = 40 ∨ c = 41) (hn : ¬ (a = 3 ∧ b = c)) : k ≠ c := by unfold tk_so at h; omega
theorem tk_tr_over (h5 : q_is (q_z f mo 5) w) (h4 : q_is (q_z f mo 4) w) (h6 : q_is (q_z f mo 6) 0) (h0 : 0 ≤ w) (hw : w = n) : tk_tr f mo B n := by
  have h5 : q_z f mo 5 = w := h5
  have h4 : q_z f mo 4 = w := h4
  have h6 : q_z f mo 6 = 0 := h6
  have hk : tk_k B n w = 0 := tk_k_over (by omega)
  unfold tk_tr
  rw [h5, h4, h6, hk]
  refine ⟨⟨h0, by omega⟩, ?_, Or.inl ⟨rfl, rfl⟩, fun h => absurd h (by decide), fun h => absurd h (by decide)⟩
  unfold tk_n
  rw [if_pos (by omega)]
theorem tk_tr_word {x4 k6 : Int} (h5 : q_is (q_z f mo 5) w) (h4 : q_is (q_z f mo 4) x4) (hx4 : x4 = w + v) (h6 : q_is (q_z f mo 6) k6) (hk6 : (v ≤ 8 ∧ k6 = 1) ∨ (8 < v ∧ k6 = 4)) (h0 : 0 ≤ w) (hw : w < n) (hl : tk_lt (B (Int.toNat w)) = true) (hv : w + v = w + tk_run tk_lt B n w) (h12 : q_j f mo 12 = tk_mw (tk_ls B w (min 8 (Int.toNat v)))) : tk_tr f mo B n := by
  have h5 : q_z f mo 5 = w := h5
  have h4 : q_z f mo 4 = x4 := h4
  have h6 : q_z f mo 6 = k6 := h6
  have hv : v = tk_run tk_lt B n w := by omega
  have hk : tk_k B n w = (if tk_run tk_lt B n w ≤ 8 then 1 else 3) := by
    unfold tk_k
    rw [if_neg (by omega), if_pos hl]
  unfold tk_tr
  rw [h5, h4, h6, hk, ← hv]
  refine ⟨⟨h0, by omega⟩, ?_, ?_, fun _ => ?_, fun h => ?_⟩
  · unfold tk_n
    rw [if_neg (by omega), if_pos hl, hx4, hv]
  · rcases hk6 with ⟨h8, rfl⟩ | ⟨h8, rfl⟩
    · rw [if_pos h8]; exact Or.inr (Or.inl ⟨rfl, rfl⟩)
    · rw [if_neg (by omega)]; exact Or.inr (Or.inr (Or.inr (Or.inr ⟨rfl, rfl⟩)))
  · rw [h12, hv]; rfl
  · split at h <;> exact absurd h (by decide)
theorem tk_tr_num {x4 x7 k6 : Int} (h5 : q_is (q_z f mo 5) w) (h4 : q_is (q_z f mo 4) x4) (hx4 : x4 = w + v) (h6 : q_is (q_z f mo 6) k6) (hk6 : (v ≤ 3 ∧ k6 = 2) ∨ (3 < v ∧ k6 = 4)) (h0 : 0 ≤ w) (hw : w < n) (hl : tk_lt (B (Int.toNat w)) = false) (hd : tk_dg (B (Int.toNat w)) = true) (hv : w + v = w + tk_run tk_dg B n w) (h7 : q_is (q_z f mo 7) x7) (hx7 : q_is x7 (tk_vl B w (min 3 (Int.toNat v)))) : tk_tr f mo B n := by
  have h5 : q_z f mo 5 = w := h5
  have h4 : q_z f mo 4 = x4 := h4
  have h6 : q_z f mo 6 = k6 := h6
  have h7 : q_z f mo 7 = x7 := h7
  have hx7 : x7 = tk_vl B w (min 3 (Int.toNat v)) := hx7
  have hl : ¬ tk_lt (B (Int.toNat w)) = true := by rw [hl]; decide
  have hv : v = tk_run tk_dg B n w := by omega
  have hk : tk_k B n w = (if tk_run tk_dg B n w ≤ 3 then 2 else 3) := by
    unfold tk_k
    rw [if_neg (by omega), if_neg hl, if_pos hd]
  unfold tk_tr
  rw [h5, h4, h6, hk, ← hv]
  refine ⟨⟨h0, by omega⟩, ?_, ?_, fun h => ?_, fun _ => ?_⟩
  · unfold tk_n
    rw [if_neg (by omega), if_neg hl, if_pos hd, hx4, hv]
  · rcases hk6 with ⟨h8, rfl⟩ | ⟨h8, rfl⟩
    · rw [if_pos h8]; exact Or.inr (Or.inr (Or.inl ⟨rfl, rfl⟩))
    · rw [if_neg (by omega)]; exact Or.inr (Or.inr (Or.inr (Or.inr ⟨rfl, rfl⟩)))
  · split at h <;> exact absurd h (by decide)
  · rw [h7, hx7, hv]; rfl
theorem tk_tr_sign {x4 k6 : Int} (h5 : q_is (q_z f mo 5) w) (h4 : q_is (q_z f mo 4) x4) (hx4 : x4 = w + 1) (h6 : q_is (q_z f mo 6) k6) (h7 : q_is (q_z f mo 7) y) (hb : tk_ub f bu B n) (hy : y = tk_u (B (Int.toNat w))) (h0 : 0 ≤ w) (hw : w < n) (hl : tk_lt (B (Int.toNat w)) = false) (hd : tk_dg (B (Int.toNat w)) = false) (hk6 : (k6 = 3 ∧ (y = 59 ∨ y = 40 ∨ y = 41)) ∨ (k6 = 4 ∧ ¬ (y = 59 ∨ y = 40 ∨ y = 41))) : tk_tr f mo B n := by
  have h5 : q_z f mo 5 = w := h5
  have h4 : q_z f mo 4 = x4 := h4
  have h6 : q_z f mo 6 = k6 := h6
  have h7 : q_z f mo 7 = y := h7
  have hl : ¬ tk_lt (B (Int.toNat w)) = true := by rw [hl]; decide
  have hd : ¬ tk_dg (B (Int.toNat w)) = true := by rw [hd]; decide
  have hr := (hb _ (show ((Int.toNat w : Nat) : Int) < n by omega)).2
  have hu : y = B (Int.toNat w) ∨ (y = B (Int.toNat w) + 256 ∧ B (Int.toNat w) < 0) := by
    rw [hy]; unfold tk_u
    split
    · rename_i h9; exact Or.inr ⟨rfl, h9⟩
    · exact Or.inl rfl
  have hk : tk_k B n w = (if B (Int.toNat w) = 59 ∨ B (Int.toNat w) = 40 ∨ B (Int.toNat w) = 41 then B (Int.toNat w) else 3) := by
    unfold tk_k
    rw [if_neg (by omega), if_neg hl, if_neg hd]
  unfold tk_tr
  rw [h5, h4, h6, h7, hk]
  generalize B (Int.toNat w) = b at hr hu
  refine ⟨⟨h0, by omega⟩, ?_, ?_, fun h => ?_, fun h => ?_⟩
  · unfold tk_n
    rw [if_neg (by omega), if_neg hl, if_neg hd, hx4]
  · unfold tk_so
    split <;> omega
  · split at h <;> omega
  · split at h <;> omega
theorem tk_mwo_init (h : q_j f mo 12 = q_l 0) : q_j f mo 12 = tk_mw (tk_ls B s (min 8 (Int.toNat 0))) := h.trans tk_mw_nil.symm
theorem tk_mwo_same (h8 : 8 ≤ v) (h : q_j f mo 12 = tk_mw (tk_ls B s (min 8 (Int.toNat v)))) : q_j f mo 12 = tk_mw (tk_ls B s (min 8 (Int.toNat (v + 1)))) := by
  rw [h, show min 8 (Int.toNat v) = 8 by omega, show min 8 (Int.toNat (v + 1)) = 8 by omega]
theorem tk_mwo_step {j1 j2 : Int64} (h0 : 0 ≤ s) (hv : 0 ≤ v) (hr : (s + v) + tk_run tk_lt B n (s + v) = s + tk_run tk_lt B n s) (hn : s + v < n) (h8 : v < 8) (hl : tk_lt (B (Int.toNat (s + v))) = true) (hy : y = B (Int.toNat (s + v))) (e1 : j1 = tk_mw (tk_ls B s (min 8 (Int.toNat v))) <<< ((q_i 5).toInt64 &&& 63)) (e2 : j2 = j1 ||| q_l ((y - 97) + 1)) (h : q_j f mo 12 = j2) : q_j f mo 12 = tk_mw (tk_ls B s (min 8 (Int.toNat (v + 1)))) := by
  obtain ⟨k, rfl⟩ : ∃ k : Nat, v = (k : Int) := ⟨v.toNat, by omega⟩
  have hlen := tk_ls_len B s k
  have hyb := tk_lt_iff.mp hl
  have hall : ∀ b ∈ tk_ls B s k, 97 ≤ b ∧ b ≤ 122 := tk_isw_ls fun j hj => by
    have h3 := tk_run_0 (P := tk_lt) (B := B) (n := n) (i := s + (k : Int))
    exact tk_lt_iff.mp (tk_run_all (P := tk_lt) (B := B) (n := n) h0 (j := j) (by omega))
  have h4 := tk_mw_snoc (b := B (Int.toNat (s + (k : Int)))) hall (by rw [hlen]; omega) hyb tk_sh5
  rw [show Int.toNat (k : Int) = k from rfl, show min 8 k = k by omega] at e1
  rw [h, e2, e1, show (y - 97) + 1 = B (Int.toNat (s + (k : Int))) - 96 by omega, h4, show min 8 (Int.toNat ((k : Int) + 1)) = k + 1 by omega, tk_ls]
theorem tk_mvo_init : q_is 0 (tk_vl B s (min 3 (Int.toNat 0))) := (rfl : (0 : Int) = tk_vl B s 0)
theorem tk_mvo_same {x : Int} (h3 : 3 ≤ v) (h : q_is x (tk_vl B s (min 3 (Int.toNat v)))) : q_is x (tk_vl B s (min 3 (Int.toNat (v + 1)))) := by
  have h : x = _ := h
  show x = _
  rw [h, show min 3 (Int.toNat v) = 3 by omega, show min 3 (Int.toNat (v + 1)) = 3 by omega]
theorem tk_mvo_step {x z : Int} (hv : 0 ≤ v) (h3 : v < 3) (hy : y = B (Int.toNat (s + v))) (h : q_is x (tk_vl B s (min 3 (Int.toNat v)))) (hz : z = 10 * x + (y - 48)) : q_is z (tk_vl B s (min 3 (Int.toNat (v + 1)))) := by
  obtain ⟨k, rfl⟩ : ∃ k : Nat, v = (k : Int) := ⟨v.toNat, by omega⟩
  have h : x = _ := h
  show z = _
  rw [hz, h, hy, show min 3 (Int.toNat (k : Int)) = k by omega, show min 3 (Int.toNat ((k : Int) + 1)) = k + 1 by omega]
  rfl
/-- one byte more of a run -/
theorem tk_ur_step {P : Int → Bool} (h : (s + v) + tk_run P B n (s + v) = s + tk_run P B n s) (h0 : 0 ≤ s + v) (h1 : s + v < n) (hp : P (B (Int.toNat (s + v))) = true) : (s + (v + 1)) + tk_run P B n (s + (v + 1)) = s + tk_run P B n s := by
  have := tk_run_y (P := P) (B := B) h0 h1 hp
  rw [show s + (v + 1) = s + v + 1 by omega]
  omega
theorem tk_ur_0 {P : Int → Bool} : (s + 0) + tk_run P B n (s + 0) = s + tk_run P B n s := by rw [Int.add_zero]
theorem tk_ur_end {P : Int → Bool} (h : (s + v) + tk_run P B n (s + v) = s + tk_run P B n s) (hp : s + v < n → P (B (Int.toNat (s + v))) = false) : s + v = s + tk_run P B n s := by
  have := tk_run_n (P := P) (B := B) (n := n) (i := s + v) (fun h2 => by rw [hp h2]; decide)
  omega
end QTR
