/-! bytes and tokens, as numbers -/
def t_u (c : Int) : Int := if c < 0 then c + 256 else c
def t_sp (c : Int) : Bool := decide (c = 32) || decide (c = 10)
def t_lt (c : Int) : Bool := decide (97 ≤ c) && decide (c ≤ 122)
def t_dg (c : Int) : Bool := decide (48 ≤ c) && decide (c ≤ 57)
theorem t_sp_iff {c : Int} : t_sp c = true ↔ (c = 32 ∨ c = 10) := by simp [t_sp]
theorem t_lt_iff {c : Int} : t_lt c = true ↔ (97 ≤ c ∧ c ≤ 122) := by simp [t_lt]
theorem t_dg_iff {c : Int} : t_dg c = true ↔ (48 ≤ c ∧ c ≤ 57) := by simp [t_dg]
/-- how many from the place i on are P, of the r that are left -/
def t_rn (P : Int → Bool) (B : Nat → Int) : Nat → Nat → Nat
  | 0, _ => 0
  | r + 1, i => if P (B i) = true then t_rn P B r (i + 1) + 1 else 0
def t_run (P : Int → Bool) (B : Nat → Int) (n i : Int) : Int := (t_rn P B (n - i).toNat i.toNat : Int)
theorem t_rn_le (P : Int → Bool) (B : Nat → Int) (r : Nat) : ∀ i : Nat, t_rn P B r i ≤ r := by
  induction r with
  | zero => intro i; exact Nat.le_refl _
  | succ r ih =>
    intro i
    simp only [t_rn]
    split
    · have := ih (i + 1); omega
    · omega
theorem t_run_y {P : Int → Bool} {B : Nat → Int} {n i : Int} (h0 : 0 ≤ i) (h1 : i < n) (hp : P (B i.toNat) = true) : t_run P B n i = t_run P B n (i + 1) + 1 := by
  unfold t_run
  rw [show (n - i).toNat = (n - (i + 1)).toNat + 1 by omega, show (i + 1).toNat = i.toNat + 1 by omega]
  simp only [t_rn]
  rw [if_pos hp]
  omega
theorem t_run_n {P : Int → Bool} {B : Nat → Int} {n i : Int} (hp : i < n → ¬ P (B i.toNat) = true) : t_run P B n i = 0 := by
  unfold t_run
  by_cases h : i < n
  · rw [show (n - i).toNat = (n - i - 1).toNat + 1 by omega]
    simp only [t_rn]
    rw [if_neg (hp h)]
    rfl
  · rw [show (n - i).toNat = 0 by omega]
    rfl
theorem t_run_0 {P : Int → Bool} {B : Nat → Int} {n i : Int} : 0 ≤ t_run P B n i := by unfold t_run; omega
theorem t_run_le {P : Int → Bool} {B : Nat → Int} {n i : Int} (h : i ≤ n) : i + t_run P B n i ≤ n := by
  unfold t_run
  have := t_rn_le P B (n - i).toNat i.toNat
  omega
/-- the bytes from the place s on, m of them -/
def t_ls (B : Nat → Int) (s : Int) : Nat → List Int
  | 0 => []
  | m + 1 => t_ls B s m ++ [B (s + m).toNat]
def t_vl (B : Nat → Int) (s : Int) : Nat → Int
  | 0 => 0
  | m + 1 => 10 * t_vl B s m + (B (s + m).toNat - 48)
/-- a token behind the place c: where it begins, its kind, where it ends, its word, its number -/
def t_S (B : Nat → Int) (n c : Int) : Int := c + t_run t_sp B n c
def t_k (B : Nat → Int) (n s : Int) : Int := if n ≤ s then 0 else if t_lt (B s.toNat) = true then (if t_run t_lt B n s ≤ 8 then 1 else 3) else if t_dg (B s.toNat) = true then (if t_run t_dg B n s ≤ 3 then 2 else 3) else if B s.toNat = 59 ∨ B s.toNat = 40 ∨ B s.toNat = 41 then B s.toNat else 3
def t_K (B : Nat → Int) (n c : Int) : Int := t_k B n (t_S B n c)
def t_n (B : Nat → Int) (n s : Int) : Int := if n ≤ s then s else if t_lt (B s.toNat) = true then s + t_run t_lt B n s else if t_dg (B s.toNat) = true then s + t_run t_dg B n s else s + 1
def t_N (B : Nat → Int) (n c : Int) : Int := t_n B n (t_S B n c)
def t_W (B : Nat → Int) (n c : Int) : List Int := t_ls B (t_S B n c) (min 8 (t_run t_lt B n (t_S B n c)).toNat)
def t_V (B : Nat → Int) (n c : Int) : Int := t_vl B (t_S B n c) (min 3 (t_run t_dg B n (t_S B n c)).toNat)
/-- words as the class and the reference write them -/
def t_cn : List Int → Nat
  | [] => 0
  | b :: t => b.toNat + 256 * t_cn t
def t_mn (l : List Int) : Nat := l.foldl (fun w b => 32 * w + (b - 96).toNat) 0
def t_cw (l : List Int) : Int64 := Int64.ofNat (t_cn l)
def t_mw (l : List Int) : Int64 := Int64.ofNat (t_mn l)
def t_isw (l : List Int) : Prop := l.length ≤ 8 ∧ ∀ b ∈ l, 97 ≤ b ∧ b ≤ 122
theorem t_cn_app (l : List Int) (b : Int) : t_cn (l ++ [b]) = t_cn l + b.toNat * 256 ^ l.length := by
  induction l with
  | nil => simp [t_cn]
  | cons a l ih =>
    simp only [List.cons_append, t_cn, List.length_cons, ih]
    rw [Nat.mul_add, Nat.pow_succ, Nat.mul_comm (256 ^ l.length) 256, ← Nat.mul_assoc, ← Nat.mul_assoc, Nat.mul_comm 256 b.toNat]
    omega
theorem t_mn_app (l : List Int) (b : Int) : t_mn (l ++ [b]) = 32 * t_mn l + (b - 96).toNat := by
  unfold t_mn
  rw [List.foldl_append]
  rfl
theorem t_cn_lt (l : List Int) (h : ∀ b ∈ l, 97 ≤ b ∧ b ≤ 122) : t_cn l < 256 ^ l.length := by
  induction l with
  | nil => simp [t_cn]
  | cons a l ih =>
    have h1 := ih (fun b hb => h b (List.mem_cons_of_mem _ hb))
    have h2 := h a List.mem_cons_self
    simp only [t_cn, List.length_cons, Nat.pow_succ]
    omega
theorem t_cn_inj {l m : List Int} (hl : ∀ b ∈ l, 97 ≤ b ∧ b ≤ 122) (hm : ∀ b ∈ m, 97 ≤ b ∧ b ≤ 122) (h : t_cn l = t_cn m) : l = m := by
  induction l generalizing m with
  | nil =>
    cases m with
    | nil => rfl
    | cons b m =>
      have h2 := hm b List.mem_cons_self
      simp only [t_cn] at h
      omega
  | cons a l ih =>
    have h1 := hl a List.mem_cons_self
    cases m with
    | nil => simp only [t_cn] at h; omega
    | cons b m =>
      have h2 := hm b List.mem_cons_self
      simp only [t_cn] at h
      have e1 : a = b := by omega
      have e2 : t_cn l = t_cn m := by omega
      rw [e1, ih (fun x hx => hl x (List.mem_cons_of_mem _ hx)) (fun x hx => hm x (List.mem_cons_of_mem _ hx)) e2]
theorem t_snoc (l : List Int) : l = [] ∨ ∃ m b, l = m ++ [b] := by
  rcases List.eq_nil_or_concat l with h | ⟨m, b, h⟩
  · exact Or.inl h
  · exact Or.inr ⟨m, b, h.trans (List.concat_eq_append ..)⟩
theorem t_mn_inj {l m : List Int} (hl : ∀ b ∈ l, 97 ≤ b ∧ b ≤ 122) (hm : ∀ b ∈ m, 97 ≤ b ∧ b ≤ 122) (h : t_mn l = t_mn m) : l = m := by
  have key : ∀ (k : Nat) (l m : List Int), l.length ≤ k → (∀ b ∈ l, 97 ≤ b ∧ b ≤ 122) → (∀ b ∈ m, 97 ≤ b ∧ b ≤ 122) → t_mn l = t_mn m → l = m := by
    intro k
    induction k with
    | zero =>
      intro l m hk hl hm h
      obtain rfl : l = [] := List.length_eq_zero_iff.mp (by omega)
      rcases t_snoc m with rfl | ⟨m2, b, rfl⟩
      · rfl
      · have h2 := hm b (by simp)
        rw [t_mn_app] at h
        have : t_mn [] = 0 := rfl
        omega
    | succ k ih =>
      intro l m hk hl hm h
      rcases t_snoc l with rfl | ⟨l2, a, rfl⟩
      · rcases t_snoc m with rfl | ⟨m2, b, rfl⟩
        · rfl
        · have h2 := hm b (by simp)
          rw [t_mn_app] at h
          have : t_mn [] = 0 := rfl
          omega
      · have h1 := hl a (by simp)
        rcases t_snoc m with rfl | ⟨m2, b, rfl⟩
        · rw [t_mn_app] at h
          have : t_mn [] = 0 := rfl
          omega
        · have h2 := hm b (by simp)
          rw [t_mn_app, t_mn_app] at h
          have e1 : a = b := by omega
          have e2 : t_mn l2 = t_mn m2 := by omega
          rw [List.length_append, List.length_singleton] at hk
          rw [e1, ih l2 m2 (by omega) (fun x hx => hl x (by simp [hx])) (fun x hx => hm x (by simp [hx])) e2]
  exact key l.length l m (Nat.le_refl _) hl hm h
/-! what a text says -/
abbrev t_R (α : Type) := Except (Int × Int) α
abbrev t_ok {α : Type} (a : α) : t_R α := Except.ok a
abbrev t_er {α : Type} (c p : Int) : t_R α := Except.error (c, p)
theorem t_no {α : Type} {c p : Int} {a : α} {P : Prop} (h : (t_er c p : t_R α) = t_ok a) : P := nomatch h
theorem t_inj {α : Type} {a b : α} (h : (t_ok a : t_R α) = t_ok b) : a = b := Except.ok.inj h
def t_bd {α β : Type} (r : t_R α) (k : α → t_R β) : t_R β := match r with | Except.ok a => k a | Except.error e => Except.error e
theorem t_bd_ok {α β : Type} {r : t_R α} {a : α} (h : r = t_ok a) (k : α → t_R β) : t_bd r k = k a := by subst h; rfl
theorem t_bd_er {α β : Type} {r : t_R α} {c p : Int} (h : r = t_er c p) (k : α → t_R β) : t_bd r k = t_er c p := by subst h; rfl
theorem t_bd_is {α β : Type} {r : t_R α} {k : α → t_R β} {b : β} (h : t_bd r k = t_ok b) : ∃ a, r = t_ok a ∧ k a = t_ok b := by
  cases r with
  | ok a => exact ⟨a, rfl, h⟩
  | error e => exact nomatch h
/-- where the next token begins, behind the one that begins at s -/
def t_nx (B : Nat → Int) (n s : Int) : Int := t_S B n (t_n B n s)
def t_w (B : Nat → Int) (n s : Int) : List Int := t_ls B s (min 8 (t_run t_lt B n s).toNat)
def t_v (B : Nat → Int) (n s : Int) : Int := t_vl B s (min 3 (t_run t_dg B n s).toNat)
def t_mk (B : Nat → Int) (n q s : Int) : t_R Int := if t_k B n s = q then t_ok (t_nx B n s) else t_er 1 s
def t_wd (B : Nat → Int) (n : Int) (w : List Int) (s : Int) : t_R Int := if t_k B n s = 1 ∧ t_w B n s = w then t_ok (t_nx B n s) else t_er 1 s
def t_nm (B : Nat → Int) (n lo hi s : Int) : t_R Int := if t_k B n s = 2 then (if lo ≤ t_v B n s ∧ t_v B n s ≤ hi then t_ok (t_nx B n s) else t_er 2 s) else t_er 1 s
/-- what a text has told: year, costs, misses; the names; the links -/
abbrev t_A := Bool × Bool × Bool × List (List Int) × List (Nat × Nat)
def t_yr (A : t_A) : Bool := A.1
def t_co (A : t_A) : Bool := A.2.1
def t_mi (A : t_A) : Bool := A.2.2.1
def t_nd (A : t_A) : List (List Int) := A.2.2.2.1
def t_lk (A : t_A) : List (Nat × Nat) := A.2.2.2.2
def t_sy (A : t_A) : t_A := (true, A.2)
def t_sc (A : t_A) : t_A := (A.1, true, A.2.2)
def t_sm (A : t_A) : t_A := (A.1, A.2.1, true, A.2.2.2)
def t_an (A : t_A) (w : List Int) : t_A := (A.1, A.2.1, A.2.2.1, A.2.2.2.1 ++ [w], A.2.2.2.2)
def t_al (A : t_A) (a b : Nat) : t_A := (A.1, A.2.1, A.2.2.1, A.2.2.2.1, A.2.2.2.2 ++ [(a, b)])
def t_A0 : t_A := (false, false, false, [], [])
/-- the number of a name, or none -/
def t_ix : List (List Int) → List Int → Option Nat
  | [], _ => none
  | a :: l, w => if a = w then some 0 else (t_ix l w).map (· + 1)
def t_has (l : List (Nat × Nat)) (a b : Nat) : Bool := l.any fun p => (p.1 == a && p.2 == b) || (p.1 == b && p.2 == a)
def t_year (B : Nat → Int) (n s : Int) (A : t_A) : t_R (Int × t_A) :=
  if t_yr A = true then t_er 3 s else t_bd (t_nm B n 4 60 (t_nx B n s)) fun s1 => t_ok (s1, t_sy A)
def t_miss (B : Nat → Int) (n s : Int) (A : t_A) : t_R (Int × t_A) :=
  if t_mi A = true then t_er 3 s else t_bd (t_nm B n 1 9 (t_nx B n s)) fun s1 => t_ok (s1, t_sm A)
def t_costs (B : Nat → Int) (n s : Int) (A : t_A) : t_R (Int × t_A) :=
  if t_co A = true then t_er 3 s else t_bd (t_nm B n 0 99 (t_nx B n s)) fun s1 => t_bd (t_nm B n 0 99 s1) fun s2 => t_bd (t_nm B n 0 99 s2) fun s3 => t_ok (s3, t_sc A)
def t_wBorn : List Int := [98, 111, 114, 110]
def t_wShift : List Int := [115, 104, 105, 102, 116]
def t_wEnergy : List Int := [101, 110, 101, 114, 103, 121]
def t_wYear : List Int := [121, 101, 97, 114]
def t_wCosts : List Int := [99, 111, 115, 116, 115]
def t_wMiss : List Int := [109, 105, 115, 115]
def t_wNode : List Int := [110, 111, 100, 101]
def t_wLink : List Int := [108, 105, 110, 107]
abbrev t_isw9 (B : Nat → Int) (n : Int) (w : List Int) (s : Int) : Prop := t_k B n s = 1 ∧ t_w B n s = w
def t_shift (B : Nat → Int) (n s : Int) : t_R Int := if t_isw9 B n t_wShift s then t_nm B n 0 59 (t_nx B n s) else t_ok s
/-- the token behind a name: what stands behind it in a node's statement -/
def t_rest (B : Nat → Int) (n s : Int) : t_R Int :=
  t_bd (t_wd B n t_wBorn s) fun s1 => t_bd (t_nm B n 0 59 s1) fun s2 => t_bd (t_shift B n s2) fun s3 => t_bd (t_wd B n t_wEnergy s3) fun s4 => t_nm B n 1 999 s4
def t_node (B : Nat → Int) (n s : Int) (A : t_A) : t_R (Int × t_A) :=
  if 10 ≤ (t_nd A).length then t_er 5 s else
  if t_k B n (t_nx B n s) = 1 then
    (if (t_ix (t_nd A) (t_w B n (t_nx B n s))).isSome then t_er 3 (t_nx B n s)
     else t_bd (t_rest B n (t_nx B n (t_nx B n s))) fun s5 => t_ok (s5, t_an A (t_w B n (t_nx B n s))))
  else t_er 1 (t_nx B n s)
/-- the number of the node that is named at s -/
def t_who (B : Nat → Int) (n s : Int) (l : List (List Int)) : t_R Nat :=
  if t_k B n s = 1 then (match t_ix l (t_w B n s) with | some i => t_ok i | none => t_er 4 s) else t_er 1 s
def t_link (B : Nat → Int) (n s : Int) (A : t_A) : t_R (Int × t_A) :=
  if 16 ≤ (t_lk A).length then t_er 5 s else
  t_bd (t_who B n (t_nx B n s) (t_nd A)) fun a => t_bd (t_who B n (t_nx B n (t_nx B n s)) (t_nd A)) fun b =>
    if b = a ∨ t_has (t_lk A) a b = true then t_er 3 (t_nx B n (t_nx B n s)) else t_ok (t_nx B n (t_nx B n (t_nx B n s)), t_al A a b)
def t_st (B : Nat → Int) (n s : Int) (A : t_A) : t_R (Int × t_A) :=
  if t_isw9 B n t_wYear s then t_year B n s A else if t_isw9 B n t_wCosts s then t_costs B n s A else if t_isw9 B n t_wMiss s then t_miss B n s A
  else if t_isw9 B n t_wNode s then t_node B n s A else if t_isw9 B n t_wLink s then t_link B n s A else t_er 1 s
def t_stm (B : Nat → Int) (n s : Int) (A : t_A) : t_R (Int × t_A) := t_bd (t_st B n s A) fun p => t_bd (t_mk B n 59 p.1) fun s1 => t_ok (s1, p.2)
def t_all (B : Nat → Int) (n : Int) : Nat → Int → t_A → t_R t_A
  | 0, _, A => t_ok A
  | k + 1, s, A => if t_k B n s = 0 then t_ok A else t_bd (t_stm B n s A) fun p => t_all B n k p.1 p.2
theorem t_n_le {B : Nat → Int} {n s : Int} (h : s ≤ n) : s ≤ t_n B n s ∧ t_n B n s ≤ n := by
  unfold t_n
  have h0 := t_run_0 (P := t_lt) (B := B) (n := n) (i := s)
  have h1 := t_run_le (P := t_lt) (B := B) h
  have h2 := t_run_0 (P := t_dg) (B := B) (n := n) (i := s)
  have h3 := t_run_le (P := t_dg) (B := B) h
  split
  · omega
  · split
    · omega
    · split <;> omega
theorem t_S_le {B : Nat → Int} {n s : Int} (h : s ≤ n) : s ≤ t_S B n s ∧ t_S B n s ≤ n := by
  unfold t_S
  have h0 := t_run_0 (P := t_sp) (B := B) (n := n) (i := s)
  have h1 := t_run_le (P := t_sp) (B := B) h
  omega
theorem t_nx_le {B : Nat → Int} {n s : Int} (h : s ≤ n) : s ≤ t_nx B n s ∧ t_nx B n s ≤ n := by
  have h1 := t_n_le (B := B) h
  have h2 := t_S_le (B := B) h1.2
  unfold t_nx
  omega
theorem t_k_over {B : Nat → Int} {n s : Int} (h : n ≤ s) : t_k B n s = 0 := by unfold t_k; rw [if_pos h]
theorem t_n_lt {B : Nat → Int} {n s : Int} (h0 : 0 ≤ s) (h : s < n) : s < t_n B n s := by
  unfold t_n
  rw [if_neg (by omega)]
  split
  · rename_i hl
    have := t_run_y (P := t_lt) (B := B) (n := n) h0 h hl
    have := t_run_0 (P := t_lt) (B := B) (n := n) (i := s + 1)
    omega
  · split
    · rename_i hl
      have := t_run_y (P := t_dg) (B := B) (n := n) h0 h hl
      have := t_run_0 (P := t_dg) (B := B) (n := n) (i := s + 1)
      omega
    · omega
theorem t_nx_lt {B : Nat → Int} {n s : Int} (h0 : 0 ≤ s) (h : s ≤ n) (hk : t_k B n s ≠ 0) : s < t_nx B n s ∧ t_nx B n s ≤ n := by
  have h1 : s < n := by
    by_cases h2 : n ≤ s
    · exact absurd (t_k_over h2) hk
    · omega
  have h2 := t_n_lt (B := B) h0 h1
  have h3 := t_n_le (B := B) h
  have h4 := t_S_le (B := B) h3.2
  unfold t_nx
  omega
theorem t_mk_is {B : Nat → Int} {n q s s1 : Int} (h : t_mk B n q s = t_ok s1) : t_k B n s = q ∧ s1 = t_nx B n s := by
  unfold t_mk at h
  split at h
  · rename_i hk; have h := t_inj h; exact ⟨hk, h.symm⟩
  · exact nomatch h
theorem t_wd_is {B : Nat → Int} {n : Int} {w : List Int} {s s1 : Int} (h : t_wd B n w s = t_ok s1) : s1 = t_nx B n s := by
  unfold t_wd at h
  split at h
  · have h := t_inj h; exact h.symm
  · exact nomatch h
theorem t_nm_is {B : Nat → Int} {n lo hi s s1 : Int} (h : t_nm B n lo hi s = t_ok s1) : s1 = t_nx B n s := by
  unfold t_nm at h
  split at h
  · split at h
    · have h := t_inj h; exact h.symm
    · exact nomatch h
  · exact nomatch h
theorem t_shift_is {B : Nat → Int} {n s s1 : Int} (h : t_shift B n s = t_ok s1) : s1 = s ∨ s1 = t_nx B n (t_nx B n s) := by
  unfold t_shift at h
  split at h
  · exact Or.inr (t_nm_is h)
  · have h := t_inj h; exact Or.inl h.symm
def t_in (n s s1 : Int) : Prop := s ≤ s1 ∧ s1 ≤ n
theorem t_in_nx {B : Nat → Int} {n s s1 : Int} (h : t_in n s s1) : t_in n s (t_nx B n s1) := by
  have := t_nx_le (B := B) h.2
  exact ⟨by have := h.1; omega, this.2⟩
theorem t_rest_in {B : Nat → Int} {n s0 s s1 : Int} (h : t_rest B n s = t_ok s1) (hs : t_in n s0 s) : t_in n s0 s1 := by
  unfold t_rest at h
  obtain ⟨a, ha, h⟩ := t_bd_is h
  obtain ⟨b, hb, h⟩ := t_bd_is h
  obtain ⟨c, hc, h⟩ := t_bd_is h
  obtain ⟨d, hd, h⟩ := t_bd_is h
  rw [t_wd_is ha] at hb
  rw [t_nm_is hb] at hc
  have hs1 := t_in_nx (B := B) (t_in_nx (B := B) hs)
  have hc1 : t_in n s0 c := by
    rcases t_shift_is hc with e | e
    · rw [e]; exact hs1
    · rw [e]; exact t_in_nx (t_in_nx hs1)
  rw [t_wd_is hd] at h
  rw [t_nm_is h]
  exact t_in_nx (t_in_nx hc1)
theorem t_st_in {B : Nat → Int} {n s : Int} {A : t_A} {p : Int × t_A} (h : t_st B n s A = t_ok p) (hs : s ≤ n) : t_in n s p.1 := by
  have h0 : t_in n s s := ⟨by omega, hs⟩
  unfold t_st at h
  split at h
  · unfold t_year at h
    split at h
    · exact nomatch h
    · obtain ⟨a, ha, h⟩ := t_bd_is h
      have h := t_inj h
      rw [← h, t_nm_is ha]
      exact t_in_nx (t_in_nx h0)
  · split at h
    · unfold t_costs at h
      split at h
      · exact nomatch h
      · obtain ⟨a, ha, h⟩ := t_bd_is h
        obtain ⟨b, hb, h⟩ := t_bd_is h
        obtain ⟨c, hc, h⟩ := t_bd_is h
        have h := t_inj h
        rw [t_nm_is ha] at hb
        rw [t_nm_is hb] at hc
        rw [← h, t_nm_is hc]
        exact t_in_nx (t_in_nx (t_in_nx (t_in_nx h0)))
    · split at h
      · unfold t_miss at h
        split at h
        · exact nomatch h
        · obtain ⟨a, ha, h⟩ := t_bd_is h
          have h := t_inj h
          rw [← h, t_nm_is ha]
          exact t_in_nx (t_in_nx h0)
      · split at h
        · unfold t_node at h
          split at h
          · exact nomatch h
          · split at h
            · split at h
              · exact nomatch h
              · obtain ⟨a, ha, h⟩ := t_bd_is h
                have h := t_inj h
                rw [← h]
                exact t_rest_in ha (t_in_nx (t_in_nx h0))
            · exact nomatch h
        · split at h
          · unfold t_link at h
            split at h
            · exact nomatch h
            · obtain ⟨a, ha, h⟩ := t_bd_is h
              obtain ⟨b, hb, h⟩ := t_bd_is h
              split at h
              · exact nomatch h
              · have h := t_inj h
                rw [← h]
                exact t_in_nx (t_in_nx (t_in_nx h0))
          · exact nomatch h
theorem t_stm_in {B : Nat → Int} {n s : Int} {A : t_A} {p : Int × t_A} (h : t_stm B n s A = t_ok p) (h0 : 0 ≤ s) (hs : s ≤ n) : s < p.1 ∧ p.1 ≤ n := by
  unfold t_stm at h
  obtain ⟨a, ha, h⟩ := t_bd_is h
  obtain ⟨b, hb, h⟩ := t_bd_is h
  have h := t_inj h
  have h1 := t_st_in ha hs
  have h2 := t_mk_is hb
  have h3 := t_nx_lt (B := B) (n := n) (s := a.1) (by have := h1.1; omega) h1.2 (by rw [h2.1]; decide)
  rw [← h]
  show s < b ∧ b ≤ n
  have := h1.1
  omega
theorem t_all_more {B : Nat → Int} {n : Int} (k : Nat) : ∀ (s : Int) (A : t_A), 0 ≤ s → s ≤ n → (n - s).toNat < k → t_all B n (k + 1) s A = t_all B n k s A := by
  induction k with
  | zero => intro s A _ _ h; exact absurd h (Nat.not_lt_zero _)
  | succ k ih =>
    intro s A h0 h1 h
    rw [t_all]
    conv => rhs; rw [t_all]
    split
    · rfl
    · generalize he : t_stm B n s A = r
      cases r with
      | error e => rfl
      | ok p =>
        have h2 := t_stm_in he h0 h1
        exact ih p.1 p.2 (by omega) h2.2 (by omega)
theorem t_all_fuel {B : Nat → Int} {n : Int} {s : Int} {A : t_A} {j k : Nat} (h0 : 0 ≤ s) (h1 : s ≤ n) (hj : (n - s).toNat < j) (hk : j ≤ k) : t_all B n k s A = t_all B n j s A := by
  induction k with
  | zero => omega
  | succ k ih =>
    by_cases h : j = k + 1
    · rw [h]
    · rw [t_all_more k s A h0 h1 (by omega)]
      exact ih (by omega)
/-- all that comes, from the token at s on -/
def t_T (B : Nat → Int) (n s : Int) (A : t_A) : t_R t_A := t_all B n ((n - s).toNat + 1) s A
theorem t_T_end {B : Nat → Int} {n s : Int} {A : t_A} (h : t_k B n s = 0) : t_T B n s A = t_ok A := by
  unfold t_T
  rw [t_all, if_pos h]
theorem t_T_ok {B : Nat → Int} {n s s1 : Int} {A A1 : t_A} (h0 : 0 ≤ s) (hs : s ≤ n) (hk : t_k B n s ≠ 0) (h : t_stm B n s A = t_ok (s1, A1)) : t_T B n s A = t_T B n s1 A1 := by
  have h2 := t_stm_in h h0 hs
  have h2 : s < s1 ∧ s1 ≤ n := h2
  unfold t_T
  rw [t_all, if_neg hk, t_bd_ok h]
  exact t_all_fuel (by omega) h2.2 (by omega) (by omega)
theorem t_T_er {B : Nat → Int} {n s c p : Int} {A : t_A} (hk : t_k B n s ≠ 0) (h : t_stm B n s A = t_er c p) : t_T B n s A = t_er c p := by
  unfold t_T
  rw [t_all, if_neg hk, t_bd_er h]
/-! words of letters, as the two write them -/
theorem t_i64 {a b : Int64} (h : a.toBitVec.toNat = b.toBitVec.toNat) : a = b := Int64.toBitVec_inj.mp (BitVec.eq_of_toNat_eq h)
theorem t_ofNat {n : Nat} (h : n < 2 ^ 64) : (Int64.ofNat n).toBitVec.toNat = n := by
  show (BitVec.ofNat 64 n).toNat = n
  rw [BitVec.toNat_ofNat, Nat.mod_eq_of_lt h]
theorem t_lNat {b : Int} (h0 : 0 ≤ b) : q_l b = Int64.ofNat b.toNat := by
  unfold q_l
  conv => lhs; rw [← Int.toNat_of_nonneg h0]
  exact Int64.ofInt_eq_ofNat
theorem t_shl {x : Int64} {y : Int64} {k : Nat} (hk : y.toBitVec.smod 64 = BitVec.ofNat 64 k) (hk6 : k < 64) : (x <<< y).toBitVec.toNat = x.toBitVec.toNat <<< k % 2 ^ 64 := by
  rw [Int64.toBitVec_shiftLeft, hk]
  show (x.toBitVec <<< (BitVec.ofNat 64 k).toNat).toNat = _
  rw [BitVec.toNat_shiftLeft, BitVec.toNat_ofNat, Nat.mod_eq_of_lt (Nat.lt_trans hk6 (by decide))]
theorem t_cwor {A b k : Nat} {y : Int64} (hA : A < 256 ^ k) (hb : b < 256) (hk : k < 8) (hy : y.toBitVec.smod 64 = BitVec.ofNat 64 (8 * k)) : Int64.ofNat A ||| (Int64.ofNat b <<< y) = Int64.ofNat (A + b * 256 ^ k) := by
  have h256 : (256 : Nat) ^ k = 2 ^ (8 * k) := by rw [Nat.pow_mul]
  have hle : 256 ^ k * 256 ≤ 2 ^ 64 := by
    have h1 : (256 : Nat) ^ k ≤ 256 ^ 7 := Nat.pow_le_pow_right (by decide) (by omega)
    have h2 : (256 : Nat) ^ 7 * 256 = 2 ^ 64 := by decide
    calc 256 ^ k * 256 ≤ 256 ^ 7 * 256 := Nat.mul_le_mul_right _ h1
      _ = 2 ^ 64 := h2
  have hbk : b * 256 ^ k + 256 ^ k ≤ 256 ^ k * 256 := by
    have : (b + 1) * 256 ^ k ≤ 256 * 256 ^ k := Nat.mul_le_mul_right _ hb
    rw [Nat.add_mul, Nat.one_mul] at this
    rw [Nat.mul_comm (256 ^ k) 256]
    exact this
  apply t_i64
  rw [Int64.toBitVec_or, BitVec.toNat_or, t_shl hy (by omega), t_ofNat (by omega), t_ofNat (by omega), t_ofNat (by omega), Nat.shiftLeft_eq, ← h256, Nat.mod_eq_of_lt (by omega)]
  have h := Nat.two_pow_add_eq_or_of_lt (i := 8 * k) (b := A) (by rw [← h256]; exact hA) b
  rw [← h256, Nat.mul_comm] at h
  rw [Nat.or_comm, ← h, Nat.add_comm]
theorem t_sh8 : ∀ k : Nat, k < 8 → (((q_i (8 * (k : Int))).toInt64 &&& 63).toBitVec.smod 64 = BitVec.ofNat 64 (8 * k)) := by decide +kernel
theorem t_cw_snoc {l : List Int} {b : Int} (hl : ∀ b ∈ l, 97 ≤ b ∧ b ≤ 122) (hk : l.length < 8) (hb : 97 ≤ b ∧ b ≤ 122) : t_cw l ||| (q_l b <<< ((q_i (8 * (l.length : Int))).toInt64 &&& 63)) = t_cw (l ++ [b]) := by
  unfold t_cw
  rw [t_lNat (by omega), t_cwor (t_cn_lt l hl) (by omega) hk (t_sh8 _ hk), t_cn_app]
theorem t_cw_nil : t_cw [] = q_l 0 := by decide +kernel
theorem t_mn_lt (l : List Int) (hl : ∀ b ∈ l, 97 ≤ b ∧ b ≤ 122) : t_mn l < 32 ^ l.length := by
  have key : ∀ (k : Nat) (l : List Int), l.length = k → (∀ b ∈ l, 97 ≤ b ∧ b ≤ 122) → t_mn l < 32 ^ k := by
    intro k
    induction k with
    | zero => intro l h _; obtain rfl : l = [] := List.length_eq_zero_iff.mp h; decide
    | succ k ih =>
      intro l h hl
      rcases t_snoc l with rfl | ⟨m, b, rfl⟩
      · exact nomatch h
      · have h1 := ih m (by rw [List.length_append, List.length_singleton] at h; omega) (fun x hx => hl x (by simp [hx]))
        have h2 := hl b (by simp)
        rw [t_mn_app, Nat.pow_succ]
        omega
  exact key l.length l rfl hl
theorem t_mw_snoc {l : List Int} {b : Int} {y : Int64} (hl : ∀ b ∈ l, 97 ≤ b ∧ b ≤ 122) (hk : l.length < 8) (hb : 97 ≤ b ∧ b ≤ 122) (hy : y.toBitVec.smod 64 = BitVec.ofNat 64 5) : (t_mw l <<< y) ||| q_l (b - 96) = t_mw (l ++ [b]) := by
  unfold t_mw
  have h1 := t_mn_lt l hl
  have h2 : 32 ^ l.length ≤ 32 ^ 7 := Nat.pow_le_pow_right (by decide) (by omega)
  have h3 : (32 : Nat) ^ 7 = 34359738368 := by decide
  rw [t_lNat (by omega), t_mn_app]
  apply t_i64
  rw [Int64.toBitVec_or, BitVec.toNat_or, t_shl hy (by decide), t_ofNat (by omega), t_ofNat (by omega), t_ofNat (by omega), Nat.shiftLeft_eq, Nat.mod_eq_of_lt (by omega)]
  have h := Nat.two_pow_add_eq_or_of_lt (i := 5) (b := (b - 96).toNat) (by omega) (t_mn l)
  rw [Nat.mul_comm] at h
  rw [← h]
  omega
theorem t_sh5 : ((q_i 5).toInt64 &&& 63).toBitVec.smod 64 = BitVec.ofNat 64 5 := by decide +kernel
theorem t_mw_nil : t_mw [] = q_l 0 := by decide +kernel
theorem t_cw_inj {l m : List Int} (hl : ∀ b ∈ l, 97 ≤ b ∧ b ≤ 122) (hm : ∀ b ∈ m, 97 ≤ b ∧ b ≤ 122) (kl : l.length ≤ 8) (km : m.length ≤ 8) (h : t_cw l = t_cw m) : l = m := by
  have e (l : List Int) (hl : ∀ b ∈ l, 97 ≤ b ∧ b ≤ 122) (kl : l.length ≤ 8) : (t_cw l).toBitVec.toNat = t_cn l := t_ofNat (Nat.lt_of_lt_of_le (t_cn_lt l hl) (by
    have : (256 : Nat) ^ l.length ≤ 256 ^ 8 := Nat.pow_le_pow_right (by decide) kl
    exact Nat.le_trans this (by decide)))
  exact t_cn_inj hl hm (by rw [← e l hl kl, ← e m hm km, h])
theorem t_mw_inj {l m : List Int} (hl : ∀ b ∈ l, 97 ≤ b ∧ b ≤ 122) (hm : ∀ b ∈ m, 97 ≤ b ∧ b ≤ 122) (kl : l.length ≤ 8) (km : m.length ≤ 8) (h : t_mw l = t_mw m) : l = m := by
  have e (l : List Int) (hl : ∀ b ∈ l, 97 ≤ b ∧ b ≤ 122) (kl : l.length ≤ 8) : (t_mw l).toBitVec.toNat = t_mn l := t_ofNat (Nat.lt_of_lt_of_le (t_mn_lt l hl) (by
    have : (32 : Nat) ^ l.length ≤ 32 ^ 8 := Nat.pow_le_pow_right (by decide) kl
    exact Nat.le_trans this (by decide)))
  exact t_mn_inj hl hm (by rw [← e l hl kl, ← e m hm km, h])
theorem t_isw_ls {B : Nat → Int} {s : Int} {m : Nat} (h : ∀ j : Nat, j < m → 97 ≤ B (s + j).toNat ∧ B (s + j).toNat ≤ 122) : ∀ b ∈ t_ls B s m, 97 ≤ b ∧ b ≤ 122 := by
  induction m with
  | zero => intro b hb; exact nomatch hb
  | succ m ih =>
    intro b hb
    rw [t_ls, List.mem_append, List.mem_singleton] at hb
    rcases hb with hb | rfl
    · exact ih (fun j hj => h j (by omega)) b hb
    · exact h m (by omega)
theorem t_ls_len (B : Nat → Int) (s : Int) (m : Nat) : (t_ls B s m).length = m := by
  induction m with
  | zero => rfl
  | succ m ih => rw [t_ls, List.length_append, ih]; rfl
/-- what a run runs over -/
theorem t_rn_all (P : Int → Bool) (B : Nat → Int) (r : Nat) : ∀ (i j : Nat), j < t_rn P B r i → P (B (i + j)) = true := by
  induction r with
  | zero => intro i j h; exact absurd h (Nat.not_lt_zero _)
  | succ r ih =>
    intro i j h
    simp only [t_rn] at h
    split at h
    · rename_i hp
      cases j with
      | zero => exact hp
      | succ j =>
        have := ih (i + 1) j (by omega)
        rw [show i + (j + 1) = i + 1 + j by omega]
        exact this
    · exact absurd h (Nat.not_lt_zero _)
theorem t_run_all {P : Int → Bool} {B : Nat → Int} {n i : Int} (h0 : 0 ≤ i) {j : Nat} (h : (j : Int) < t_run P B n i) : P (B (i + j).toNat) = true := by
  unfold t_run at h
  have := t_rn_all P B (n - i).toNat i.toNat j (by omega)
  rw [show (i + (j : Int)).toNat = i.toNat + j by omega]
  exact this
theorem t_w_ok {B : Nat → Int} {n s : Int} (h0 : 0 ≤ s) : (∀ b ∈ t_w B n s, 97 ≤ b ∧ b ≤ 122) ∧ (t_w B n s).length ≤ 8 := by
  unfold t_w
  refine ⟨t_isw_ls fun j hj => ?_, by rw [t_ls_len]; omega⟩
  have := t_run_all (P := t_lt) (B := B) (n := n) h0 (j := j) (by have := t_run_0 (P := t_lt) (B := B) (n := n) (i := s); omega)
  exact t_lt_iff.mp this
theorem t_cn_dig (l : List Int) (hl : ∀ b ∈ l, 97 ≤ b ∧ b ≤ 122) : ∀ i : Nat, t_cn l / 256 ^ i % 256 = (l.getD i 0).toNat := by
  induction l with
  | nil => intro i; simp [t_cn]
  | cons a l ih =>
    intro i
    have ha := hl a List.mem_cons_self
    cases i with
    | zero => simp only [t_cn, Nat.pow_zero, Nat.div_one, List.getD_cons_zero]; omega
    | succ i =>
      have := ih (fun b hb => hl b (List.mem_cons_of_mem _ hb)) i
      rw [List.getD_cons_succ, ← this, t_cn, Nat.pow_succ, Nat.mul_comm (256 ^ i) 256, ← Nat.div_div_eq_div_mul]
      rw [show (a.toNat + 256 * t_cn l) / 256 = t_cn l by omega]
theorem t_cn_top (l : List Int) (hl : ∀ b ∈ l, 97 ≤ b ∧ b ≤ 122) (k : l.length ≤ 8) : t_cn l < 2 ^ 63 := by
  rcases t_snoc l with rfl | ⟨m, b, rfl⟩
  · decide
  · have h1 := t_cn_lt m (fun x hx => hl x (by simp [hx]))
    have h2 := hl b (by simp)
    rw [List.length_append, List.length_singleton] at k
    rw [t_cn_app]
    have h3 : (256 : Nat) ^ m.length ≤ 256 ^ 7 := Nat.pow_le_pow_right (by decide) (by omega)
    have h4 : (256 : Nat) ^ 7 = 72057594037927936 := by decide
    have h5 : b.toNat * 256 ^ m.length ≤ 122 * 256 ^ m.length := Nat.mul_le_mul_right _ (by omega)
    omega
theorem t_shr {x : Int64} {y : Int64} {k : Nat} (hk : y.toBitVec.smod 64 = BitVec.ofNat 64 k) (hk6 : k < 64) (hx : x.toBitVec.toNat < 2 ^ 63) : (x >>> y).toBitVec.toNat = x.toBitVec.toNat >>> k := by
  rw [Int64.toBitVec_shiftRight, hk]
  show (x.toBitVec.sshiftRight (BitVec.ofNat 64 k).toNat).toNat = _
  rw [BitVec.sshiftRight_eq_of_msb_false (by rw [BitVec.msb_eq_false_iff_two_mul_lt]; omega), BitVec.toNat_ushiftRight, BitVec.toNat_ofNat, Nat.mod_eq_of_lt (Nat.lt_trans hk6 (by decide))]
theorem t_letter {l : List Int} (hl : ∀ b ∈ l, 97 ≤ b ∧ b ≤ 122) (kl : l.length ≤ 8) {i : Nat} (hi : i < 8) : ((t_cw l >>> ((q_i (8 * (i : Int))).toInt64 &&& 63)) &&& q_l 255).toInt32 = q_i (l.getD i 0) := by
  have ht := t_cn_top l hl kl
  have e1 : (t_cw l).toBitVec.toNat = t_cn l := t_ofNat (Nat.lt_trans ht (by decide))
  have hd := t_cn_dig l hl i
  have hb : 0 ≤ l.getD i 0 ∧ l.getD i 0 ≤ 122 := by
    rw [List.getD_eq_getElem?_getD]
    by_cases h : i < l.length
    · rw [List.getElem?_eq_getElem h]
      have := hl l[i] (List.getElem_mem h)
      show 0 ≤ l[i] ∧ l[i] ≤ 122
      omega
    · rw [List.getElem?_eq_none (by omega)]
      exact ⟨Int.le_refl _, by decide⟩
  have e2 : ((t_cw l >>> ((q_i (8 * (i : Int))).toInt64 &&& 63)) &&& q_l 255) = q_l (l.getD i 0) := by
    apply t_i64
    rw [t_lNat hb.1, t_ofNat (by omega), Int64.toBitVec_and, BitVec.toNat_and, t_shr (t_sh8 i hi) (by omega) (by omega), e1, ← hd]
    rw [show (q_l 255).toBitVec.toNat = 2 ^ 8 - 1 from by decide +kernel, Nat.and_two_pow_sub_one_eq_mod, Nat.shiftRight_eq_div_pow, Nat.pow_mul]
  rw [e2]
  unfold q_l q_i
  rw [Int64.toInt32_ofInt]
