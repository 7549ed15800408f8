/-! the class's bytes, and what its scans say -/
def tk_tb (f : Nat → va_E) (ba : Nat) (B : Nat → Int) (n : Int) : Prop := ∀ i : Nat, (i : Int) < n → q_z f ba i = B i
theorem tk_tb_tr {f f1 : Nat → va_E} {ba : Nat} {B : Nat → Int} {n : Int} (h : tk_tb f ba B n) (e : ∀ j : Nat, q_z f1 ba j = q_z f ba j) : tk_tb f1 ba B n := fun i hi => (e i).trans (h i hi)
theorem tk_tb_at {f : Nat → va_E} {ba : Nat} {B : Nat → Int} {n p x : Int} (h : tk_tb f ba B n) (hx : q_is (q_z f ba (Int.toNat p)) x) (h0 : 0 ≤ p) (hp : p < n) : x = B (Int.toNat p) := (Eq.symm hx).trans (h _ (by omega))
theorem tk_lt_no {c : Int} (h : ¬ (97 ≤ c ∧ c ≤ 122)) : tk_lt c = false := by
  cases e : tk_lt c with
  | false => rfl
  | true => exact absurd (tk_lt_iff.mp e) h
theorem tk_dg_no {c : Int} (h : ¬ (48 ≤ c ∧ c ≤ 57)) : tk_dg c = false := by
  cases e : tk_dg c with
  | false => rfl
  | true => exact absurd (tk_dg_iff.mp e) h
theorem tk_ru_step {P : Int → Bool} {B : Nat → Int} {n w s y : Int} (h : w + tk_run P B n w = s + tk_run P B n s) (h0 : 0 ≤ w) (h1 : w < n) (hy : w < n → y = B (Int.toNat w)) (hp : P y = true) : (w + 1) + tk_run P B n (w + 1) = s + tk_run P B n s := by
  have := tk_run_y (P := P) (B := B) h0 h1 (by rw [← hy h1]; exact hp)
  omega
theorem tk_ru_end {P : Int → Bool} {B : Nat → Int} {n w s y : Int} (h : w + tk_run P B n w = s + tk_run P B n s) (h1 : w < n) (hy : w < n → y = B (Int.toNat w)) (hp : P y = false) : w = s + tk_run P B n s := by
  have := tk_run_n (P := P) (B := B) (n := n) (i := w) (fun _ => by rw [← hy h1, hp]; decide)
  omega
theorem tk_ru_over {P : Int → Bool} {B : Nat → Int} {n w s : Int} (h : w + tk_run P B n w = s + tk_run P B n s) (h1 : n ≤ w) : w = s + tk_run P B n s := by
  have := tk_run_n (P := P) (B := B) (n := n) (i := w) (fun h2 => absurd h2 (by omega))
  omega
theorem tk_kdy {a w s r k : Int} {m : Int} (h : q_is a k) (he : w = s + r) (hl : w - s ≤ m) : a = (if r ≤ m then k else 3) := by
  rw [if_pos (by omega)]; exact h
theorem tk_kdn {a w s r k : Int} {m : Int} (h : q_is a 3) (he : w = s + r) (hl : ¬ w - s ≤ m) : a = (if r ≤ m then k else 3) := by
  rw [if_neg (by omega)]; exact h
theorem tk_wo_init {f : Nat → va_E} {so : Nat} {B : Nat → Int} {s : Int} (h : q_j f so 4 = q_l 0) : q_j f so 4 = tk_cw (tk_ls B s (min 8 (Int.toNat (s - s)))) := by
  rw [h, show Int.toNat (s - s) = 0 by omega]
  exact tk_cw_nil.symm
theorem tk_wo_same {f : Nat → va_E} {so : Nat} {B : Nat → Int} {s w : Int} (h8 : 8 ≤ w - s) (h : q_j f so 4 = tk_cw (tk_ls B s (min 8 (Int.toNat (w - s))))) : q_j f so 4 = tk_cw (tk_ls B s (min 8 (Int.toNat (w + 1 - s)))) := by
  rw [h, show min 8 (Int.toNat (w - s)) = 8 by omega, show min 8 (Int.toNat (w + 1 - s)) = 8 by omega]
theorem tk_wo_step {f : Nat → va_E} {so : Nat} {B : Nat → Int} {n s w y y2 : Int} {j1 j2 : Int64} (h0 : 0 ≤ s) (hw : s ≤ w) (hr : w + tk_run tk_lt B n w = s + tk_run tk_lt B n s) (hn : w < n) (h8 : w - s < 8) (hy : w < n → y = B (Int.toNat w)) (hl : tk_lt y = true) (hy2 : w < n → y2 = B (Int.toNat w)) (e1 : j1 = q_l y2 <<< ((q_i (8 * (w - s))).toInt64 &&& 63)) (e2 : j2 = tk_cw (tk_ls B s (min 8 (Int.toNat (w - s)))) ||| j1) (h : q_j f so 4 = j2) : q_j f so 4 = tk_cw (tk_ls B s (min 8 (Int.toNat (w + 1 - s)))) := by
  obtain ⟨k, rfl⟩ : ∃ k : Nat, w = s + (k : Int) := ⟨(w - s).toNat, by omega⟩
  have hk : k < 8 := by omega
  have hlen := tk_ls_len B s k
  have hyb := tk_lt_iff.mp hl
  have h2 : y2 = y := (hy2 hn).trans (hy hn).symm
  have hall : ∀ b ∈ tk_ls B s k, 97 ≤ b ∧ b ≤ 122 := tk_isw_ls fun j hj => by
    have h3 := tk_run_0 (P := tk_lt) (B := B) (n := n) (i := s + (k : Int))
    exact tk_lt_iff.mp (tk_run_all (P := tk_lt) (B := B) (n := n) h0 (j := j) (by omega))
  have h4 := tk_cw_snoc (b := y) hall (by rw [hlen]; exact hk) hyb
  rw [hlen] at h4
  rw [show s + (k : Int) - s = (k : Int) by omega] at e1 e2
  rw [show Int.toNat (k : Int) = k from rfl, show min 8 k = k by omega] at e2
  rw [h, e2, e1, h2, h4, show min 8 (Int.toNat (s + (k : Int) + 1 - s)) = k + 1 by omega, tk_ls]
  rw [hy hn]
theorem tk_wo_end {f : Nat → va_E} {so : Nat} {B : Nat → Int} {n s w : Int} (h : q_j f so 4 = tk_cw (tk_ls B s (min 8 (Int.toNat (w - s))))) (he : w = s + tk_run tk_lt B n s) : q_j f so 4 = tk_cw (tk_w B n s) := by
  rw [h, show w - s = tk_run tk_lt B n s by omega]
  rfl
theorem tk_vo_init {B : Nat → Int} {s : Int} : q_is 0 (tk_vl B s (min 3 (Int.toNat (s - s)))) := by
  rw [show Int.toNat (s - s) = 0 by omega]
  exact (rfl : (0 : Int) = tk_vl B s 0)
theorem tk_vo_same {B : Nat → Int} {s w v : Int} (h3 : 3 ≤ w - s) (h : q_is v (tk_vl B s (min 3 (Int.toNat (w - s))))) : q_is v (tk_vl B s (min 3 (Int.toNat (w + 1 - s)))) := by
  have h : v = _ := h
  show v = _
  rw [h, show min 3 (Int.toNat (w - s)) = 3 by omega, show min 3 (Int.toNat (w + 1 - s)) = 3 by omega]
theorem tk_vo_step {B : Nat → Int} {n s w v y x : Int} (h0 : 0 ≤ s) (hw : s ≤ w) (hn : w < n) (h3 : w - s < 3) (hy : w < n → y = B (Int.toNat w)) (h : q_is v (tk_vl B s (min 3 (Int.toNat (w - s))))) (hx : x = 10 * v + (y - 48)) : q_is x (tk_vl B s (min 3 (Int.toNat (w + 1 - s)))) := by
  obtain ⟨k, rfl⟩ : ∃ k : Nat, w = s + (k : Int) := ⟨(w - s).toNat, by omega⟩
  have h : v = _ := h
  show x = _
  rw [hx, h, hy hn, show min 3 (Int.toNat (s + (k : Int) - s)) = k by omega, show min 3 (Int.toNat (s + (k : Int) + 1 - s)) = k + 1 by omega]
  rfl
theorem tk_vo_end {a : Int} {B : Nat → Int} {n s w v : Int} (ha : q_is a v) (h : q_is v (tk_vl B s (min 3 (Int.toNat (w - s))))) (he : w = s + tk_run tk_dg B n s) : a = tk_v B n s := by
  have ha : a = v := ha
  have h : v = _ := h
  rw [ha, h, show w - s = tk_run tk_dg B n s by omega]
  rfl
/-! the class's token -/
theorem tk_sp_y {c : Int} (h : c = 32 ∨ c = 10) : tk_sp c = true := tk_sp_iff.mpr h
theorem tk_sp_n {c : Int} (h : c ≠ 32) (h2 : c ≠ 10) : tk_sp c = false := by
  cases e : tk_sp c with
  | false => rfl
  | true => rcases tk_sp_iff.mp e with e | e <;> contradiction
def tk_tc (f : Nat → va_E) (so : Nat) (B : Nat → Int) (n : Int) : Prop :=
  0 ≤ q_z f so 8 ∧ q_z f so 8 ≤ n ∧ q_z f so 6 = tk_k B n (q_z f so 8) ∧ q_z f so 9 = tk_n B n (q_z f so 8) ∧ (tk_k B n (q_z f so 8) = 1 → q_j f so 4 = tk_cw (tk_w B n (q_z f so 8))) ∧ (tk_k B n (q_z f so 8) = 2 → q_z f so 7 = tk_v B n (q_z f so 8))
theorem tk_tc_tr {f f1 : Nat → va_E} {so : Nat} {B : Nat → Int} {n : Int} (h : tk_tc f so B n) (e8 : q_z f1 so 8 = q_z f so 8) (e6 : q_z f1 so 6 = q_z f so 6) (e9 : q_z f1 so 9 = q_z f so 9) (e4 : q_j f1 so 4 = q_j f so 4) (e7 : q_z f1 so 7 = q_z f so 7) : tk_tc f1 so B n := by
  unfold tk_tc
  rw [e8, e6, e9, e4, e7]
  exact h
theorem tk_tc_end {f : Nat → va_E} {so : Nat} {B : Nat → Int} {n w : Int} (h8 : q_is (q_z f so 8) w) (h6 : q_is (q_z f so 6) 0) (h9 : q_is (q_z f so 9) w) (h0 : 0 ≤ w) (hw : w = n) : tk_tc f so B n := by
  have h8 : q_z f so 8 = w := h8
  have h6 : q_z f so 6 = 0 := h6
  have h9 : q_z f so 9 = w := h9
  have hk : tk_k B n w = 0 := tk_k_over (by omega)
  unfold tk_tc
  rw [h8, h6, h9, hk]
  refine ⟨h0, by omega, rfl, ?_, fun h => absurd h (by decide), fun h => absurd h (by decide)⟩
  unfold tk_n
  rw [if_pos (by omega)]
theorem tk_tc_word {f : Nat → va_E} {so : Nat} {B : Nat → Int} {n w y : Int} (h8 : q_is (q_z f so 8) w) (h0 : 0 ≤ w) (hw : w < n) (hy : w < n → y = B (Int.toNat w)) (hl : tk_lt y = true) (h9 : q_z f so 9 = w + tk_run tk_lt B n w) (h6 : q_z f so 6 = (if tk_run tk_lt B n w ≤ 8 then 1 else 3)) (h4 : q_j f so 4 = tk_cw (tk_w B n w)) : tk_tc f so B n := by
  have h8 : q_z f so 8 = w := h8
  rw [hy hw] at hl
  have hk : tk_k B n w = (if tk_run tk_lt B n w ≤ 8 then 1 else 3) := by
    unfold tk_k
    rw [if_neg (by omega), if_pos hl]
  unfold tk_tc
  rw [h8, h6, h9, hk]
  refine ⟨h0, by omega, rfl, ?_, fun _ => h4, fun h => ?_⟩
  · unfold tk_n
    rw [if_neg (by omega), if_pos hl]
  · split at h <;> exact absurd h (by decide)
theorem tk_tc_num {f : Nat → va_E} {so : Nat} {B : Nat → Int} {n w y : Int} (h8 : q_is (q_z f so 8) w) (h0 : 0 ≤ w) (hw : w < n) (hy : w < n → y = B (Int.toNat w)) (hl : tk_lt y = false) (hd : tk_dg y = true) (h9 : q_z f so 9 = w + tk_run tk_dg B n w) (h6 : q_z f so 6 = (if tk_run tk_dg B n w ≤ 3 then 2 else 3)) (h7 : q_z f so 7 = tk_v B n w) : tk_tc f so B n := by
  have h8 : q_z f so 8 = w := h8
  rw [hy hw] at hl hd
  have hl : ¬ tk_lt (B (Int.toNat w)) = true := by rw [hl]; decide
  have hk : tk_k B n w = (if tk_run tk_dg B n w ≤ 3 then 2 else 3) := by
    unfold tk_k
    rw [if_neg (by omega), if_neg hl, if_pos hd]
  unfold tk_tc
  rw [h8, h6, h9, hk]
  refine ⟨h0, by omega, rfl, ?_, fun h => ?_, fun _ => h7⟩
  · unfold tk_n
    rw [if_neg (by omega), if_neg hl, if_pos hd]
  · split at h <;> exact absurd h (by decide)
theorem tk_tc_mark {f : Nat → va_E} {so : Nat} {B : Nat → Int} {n w y k : Int} (h8 : q_is (q_z f so 8) w) (h0 : 0 ≤ w) (hw : w < n) (hy : w < n → y = B (Int.toNat w)) (hl : tk_lt y = false) (hd : tk_dg y = false) (h6 : q_z f so 6 = k) (h9 : q_is (q_z f so 9) (w + 1)) (hk : k = if y = 59 ∨ y = 40 ∨ y = 41 then y else 3) (h1 : k ≠ 1) (h2 : k ≠ 2) : tk_tc f so B n := by
  have h8 : q_z f so 8 = w := h8
  have h9 : q_z f so 9 = w + 1 := h9
  rw [hy hw] at hl hd hk
  have hl : ¬ tk_lt (B (Int.toNat w)) = true := by rw [hl]; decide
  have hd : ¬ tk_dg (B (Int.toNat w)) = true := by rw [hd]; decide
  have hk2 : tk_k B n w = k := by
    unfold tk_k
    rw [if_neg (by omega), if_neg hl, if_neg hd, hk]
  unfold tk_tc
  rw [h8, h6, h9, hk2]
  refine ⟨h0, by omega, rfl, ?_, fun h => absurd h h1, fun h => absurd h h2⟩
  unfold tk_n
  rw [if_neg (by omega), if_neg hl, if_neg hd]
theorem tk_tc_sign {f : Nat → va_E} {so : Nat} {B : Nat → Int} {n w y k : Int} (h8 : q_is (q_z f so 8) w) (h0 : 0 ≤ w) (hw : w < n) (hy : w < n → y = B (Int.toNat w)) (hl : tk_lt y = false) (hd : tk_dg y = false) (h6 : q_is (q_z f so 6) k) (h9 : q_is (q_z f so 9) (w + 1)) (hk : k = y ∧ (y = 59 ∨ y = 40 ∨ y = 41)) : tk_tc f so B n :=
  tk_tc_mark h8 h0 hw hy hl hd h6 h9 (by rw [if_pos hk.2]; exact hk.1) (by omega) (by omega)
theorem tk_tc_bad {f : Nat → va_E} {so : Nat} {B : Nat → Int} {n w y : Int} (h8 : q_is (q_z f so 8) w) (h0 : 0 ≤ w) (hw : w < n) (hy : w < n → y = B (Int.toNat w)) (hl : tk_lt y = false) (hd : tk_dg y = false) (h6 : q_is (q_z f so 6) 3) (h9 : q_is (q_z f so 9) (w + 1)) (hk : ¬ (y = 59 ∨ y = 40 ∨ y = 41)) : tk_tc f so B n :=
  tk_tc_mark h8 h0 hw hy hl hd h6 h9 (by rw [if_neg hk]) (by decide) (by decide)
