/-! bytes and tokens, as numbers -/
def tk_u (c : Int) : Int := if c < 0 then c + 256 else c
def tk_sp (c : Int) : Bool := decide (c = 32) || decide (c = 10)
def tk_lt (c : Int) : Bool := decide (97 ≤ c) && decide (c ≤ 122)
def tk_dg (c : Int) : Bool := decide (48 ≤ c) && decide (c ≤ 57)
theorem tk_sp_iff {c : Int} : tk_sp c = true ↔ (c = 32 ∨ c = 10) := by simp [tk_sp]
theorem tk_lt_iff {c : Int} : tk_lt c = true ↔ (97 ≤ c ∧ c ≤ 122) := by simp [tk_lt]
theorem tk_dg_iff {c : Int} : tk_dg c = true ↔ (48 ≤ c ∧ c ≤ 57) := by simp [tk_dg]
/-- how many from the place i on are P, of the r that are left -/
def tk_rn (P : Int → Bool) (B : Nat → Int) : Nat → Nat → Nat
  | 0, _ => 0
  | r + 1, i => if P (B i) = true then tk_rn P B r (i + 1) + 1 else 0
def tk_run (P : Int → Bool) (B : Nat → Int) (n i : Int) : Int := (tk_rn P B (n - i).toNat i.toNat : Int)
theorem tk_rn_le (P : Int → Bool) (B : Nat → Int) (r : Nat) : ∀ i : Nat, tk_rn P B r i ≤ r := by
  induction r with
  | zero => intro i; exact Nat.le_refl _
  | succ r ih =>
    intro i
    simp only [tk_rn]
    split
    · have := ih (i + 1); omega
    · omega
theorem tk_run_y {P : Int → Bool} {B : Nat → Int} {n i : Int} (h0 : 0 ≤ i) (h1 : i < n) (hp : P (B i.toNat) = true) : tk_run P B n i = tk_run P B n (i + 1) + 1 := by
  unfold tk_run
  rw [show (n - i).toNat = (n - (i + 1)).toNat + 1 by omega, show (i + 1).toNat = i.toNat + 1 by omega]
  simp only [tk_rn]
  rw [if_pos hp]
  omega
theorem tk_run_n {P : Int → Bool} {B : Nat → Int} {n i : Int} (hp : i < n → ¬ P (B i.toNat) = true) : tk_run P B n i = 0 := by
  unfold tk_run
  by_cases h : i < n
  · rw [show (n - i).toNat = (n - i - 1).toNat + 1 by omega]
    simp only [tk_rn]
    rw [if_neg (hp h)]
    rfl
  · rw [show (n - i).toNat = 0 by omega]
    rfl
theorem tk_run_0 {P : Int → Bool} {B : Nat → Int} {n i : Int} : 0 ≤ tk_run P B n i := by unfold tk_run; omega
theorem tk_run_le {P : Int → Bool} {B : Nat → Int} {n i : Int} (h : i ≤ n) : i + tk_run P B n i ≤ n := by
  unfold tk_run
  have := tk_rn_le P B (n - i).toNat i.toNat
  omega
/-- the bytes from the place s on, m of them -/
def tk_ls (B : Nat → Int) (s : Int) : Nat → List Int
  | 0 => []
  | m + 1 => tk_ls B s m ++ [B (s + m).toNat]
def tk_vl (B : Nat → Int) (s : Int) : Nat → Int
  | 0 => 0
  | m + 1 => 10 * tk_vl B s m + (B (s + m).toNat - 48)
/-- a token behind the place c: where it begins, its kind, where it ends, its word, its number -/
def tk_S (B : Nat → Int) (n c : Int) : Int := c + tk_run tk_sp B n c
def tk_k (B : Nat → Int) (n s : Int) : Int := if n ≤ s then 0 else if tk_lt (B s.toNat) = true then (if tk_run tk_lt B n s ≤ 8 then 1 else 3) else if tk_dg (B s.toNat) = true then (if tk_run tk_dg B n s ≤ 3 then 2 else 3) else if B s.toNat = 59 ∨ B s.toNat = 40 ∨ B s.toNat = 41 then B s.toNat else 3
def tk_K (B : Nat → Int) (n c : Int) : Int := tk_k B n (tk_S B n c)
def tk_n (B : Nat → Int) (n s : Int) : Int := if n ≤ s then s else if tk_lt (B s.toNat) = true then s + tk_run tk_lt B n s else if tk_dg (B s.toNat) = true then s + tk_run tk_dg B n s else s + 1
def tk_N (B : Nat → Int) (n c : Int) : Int := tk_n B n (tk_S B n c)
def tk_W (B : Nat → Int) (n c : Int) : List Int := tk_ls B (tk_S B n c) (min 8 (tk_run tk_lt B n (tk_S B n c)).toNat)
def tk_V (B : Nat → Int) (n c : Int) : Int := tk_vl B (tk_S B n c) (min 3 (tk_run tk_dg B n (tk_S B n c)).toNat)
/-- words as the class and the reference write them -/
def tk_cn : List Int → Nat
  | [] => 0
  | b :: t => b.toNat + 256 * tk_cn t
def tk_mn (l : List Int) : Nat := l.foldl (fun w b => 32 * w + (b - 96).toNat) 0
def tk_cw (l : List Int) : Int64 := Int64.ofNat (tk_cn l)
def tk_mw (l : List Int) : Int64 := Int64.ofNat (tk_mn l)
def tk_isw (l : List Int) : Prop := l.length ≤ 8 ∧ ∀ b ∈ l, 97 ≤ b ∧ b ≤ 122
theorem tk_cn_app (l : List Int) (b : Int) : tk_cn (l ++ [b]) = tk_cn l + b.toNat * 256 ^ l.length := by
  induction l with
  | nil => simp [tk_cn]
  | cons a l ih =>
    simp only [List.cons_append, tk_cn, List.length_cons, ih]
    rw [Nat.mul_add, Nat.pow_succ, Nat.mul_comm (256 ^ l.length) 256, ← Nat.mul_assoc, ← Nat.mul_assoc, Nat.mul_comm 256 b.toNat]
    omega
theorem tk_mn_app (l : List Int) (b : Int) : tk_mn (l ++ [b]) = 32 * tk_mn l + (b - 96).toNat := by
  unfold tk_mn
  rw [List.foldl_append]
  rfl
theorem tk_cn_lt (l : List Int) (h : ∀ b ∈ l, 97 ≤ b ∧ b ≤ 122) : tk_cn l < 256 ^ l.length := by
  induction l with
  | nil => simp [tk_cn]
  | cons a l ih =>
    have h1 := ih (fun b hb => h b (List.mem_cons_of_mem _ hb))
    have h2 := h a List.mem_cons_self
    simp only [tk_cn, List.length_cons, Nat.pow_succ]
    omega
theorem tk_cn_inj {l m : List Int} (hl : ∀ b ∈ l, 97 ≤ b ∧ b ≤ 122) (hm : ∀ b ∈ m, 97 ≤ b ∧ b ≤ 122) (h : tk_cn l = tk_cn m) : l = m := by
  induction l generalizing m with
  | nil =>
    cases m with
    | nil => rfl
    | cons b m =>
      have h2 := hm b List.mem_cons_self
      simp only [tk_cn] at h
      omega
  | cons a l ih =>
    have h1 := hl a List.mem_cons_self
    cases m with
    | nil => simp only [tk_cn] at h; omega
    | cons b m =>
      have h2 := hm b List.mem_cons_self
      simp only [tk_cn] at h
      have e1 : a = b := by omega
      have e2 : tk_cn l = tk_cn m := by omega
      rw [e1, ih (fun x hx => hl x (List.mem_cons_of_mem _ hx)) (fun x hx => hm x (List.mem_cons_of_mem _ hx)) e2]
theorem tk_snoc (l : List Int) : l = [] ∨ ∃ m b, l = m ++ [b] := by
  rcases List.eq_nil_or_concat l with h | ⟨m, b, h⟩
  · exact Or.inl h
  · exact Or.inr ⟨m, b, h.trans (List.concat_eq_append ..)⟩
theorem tk_mn_inj {l m : List Int} (hl : ∀ b ∈ l, 97 ≤ b ∧ b ≤ 122) (hm : ∀ b ∈ m, 97 ≤ b ∧ b ≤ 122) (h : tk_mn l = tk_mn m) : l = m := by
  have key : ∀ (k : Nat) (l m : List Int), l.length ≤ k → (∀ b ∈ l, 97 ≤ b ∧ b ≤ 122) → (∀ b ∈ m, 97 ≤ b ∧ b ≤ 122) → tk_mn l = tk_mn m → l = m := by
    intro k
    induction k with
    | zero =>
      intro l m hk hl hm h
      obtain rfl : l = [] := List.length_eq_zero_iff.mp (by omega)
      rcases tk_snoc m with rfl | ⟨m2, b, rfl⟩
      · rfl
      · have h2 := hm b (by simp)
        rw [tk_mn_app] at h
        have : tk_mn [] = 0 := rfl
        omega
    | succ k ih =>
      intro l m hk hl hm h
      rcases tk_snoc l with rfl | ⟨l2, a, rfl⟩
      · rcases tk_snoc m with rfl | ⟨m2, b, rfl⟩
        · rfl
        · have h2 := hm b (by simp)
          rw [tk_mn_app] at h
          have : tk_mn [] = 0 := rfl
          omega
      · have h1 := hl a (by simp)
        rcases tk_snoc m with rfl | ⟨m2, b, rfl⟩
        · rw [tk_mn_app] at h
          have : tk_mn [] = 0 := rfl
          omega
        · have h2 := hm b (by simp)
          rw [tk_mn_app, tk_mn_app] at h
          have e1 : a = b := by omega
          have e2 : tk_mn l2 = tk_mn m2 := by omega
          rw [List.length_append, List.length_singleton] at hk
          rw [e1, ih l2 m2 (by omega) (fun x hx => hl x (by simp [hx])) (fun x hx => hm x (by simp [hx])) e2]
  exact key l.length l m (Nat.le_refl _) hl hm h
/-! what a text says -/
abbrev tk_R (α : Type) := Except (Int × Int) α
abbrev tk_ok {α : Type} (a : α) : tk_R α := Except.ok a
abbrev tk_er {α : Type} (c p : Int) : tk_R α := Except.error (c, p)
theorem tk_no {α : Type} {c p : Int} {a : α} {P : Prop} (h : (tk_er c p : tk_R α) = tk_ok a) : P := nomatch h
theorem tk_inj {α : Type} {a b : α} (h : (tk_ok a : tk_R α) = tk_ok b) : a = b := Except.ok.inj h
def tk_bd {α β : Type} (r : tk_R α) (k : α → tk_R β) : tk_R β := match r with | Except.ok a => k a | Except.error e => Except.error e
theorem tk_bd_ok {α β : Type} {r : tk_R α} {a : α} (h : r = tk_ok a) (k : α → tk_R β) : tk_bd r k = k a := by subst h; rfl
theorem tk_bd_er {α β : Type} {r : tk_R α} {c p : Int} (h : r = tk_er c p) (k : α → tk_R β) : tk_bd r k = tk_er c p := by subst h; rfl
theorem tk_bd_is {α β : Type} {r : tk_R α} {k : α → tk_R β} {b : β} (h : tk_bd r k = tk_ok b) : ∃ a, r = tk_ok a ∧ k a = tk_ok b := by
  cases r with
  | ok a => exact ⟨a, rfl, h⟩
  | error e => exact nomatch h
/-- where the next token begins, behind the one that begins at s -/
def tk_nx (B : Nat → Int) (n s : Int) : Int := tk_S B n (tk_n B n s)
def tk_w (B : Nat → Int) (n s : Int) : List Int := tk_ls B s (min 8 (tk_run tk_lt B n s).toNat)
def tk_v (B : Nat → Int) (n s : Int) : Int := tk_vl B s (min 3 (tk_run tk_dg B n s).toNat)
def tk_mk (B : Nat → Int) (n q s : Int) : tk_R Int := if tk_k B n s = q then tk_ok (tk_nx B n s) else tk_er 1 s
def tk_wd (B : Nat → Int) (n : Int) (w : List Int) (s : Int) : tk_R Int := if tk_k B n s = 1 ∧ tk_w B n s = w then tk_ok (tk_nx B n s) else tk_er 1 s
def tk_nm (B : Nat → Int) (n lo hi s : Int) : tk_R Int := if tk_k B n s = 2 then (if lo ≤ tk_v B n s ∧ tk_v B n s ≤ hi then tk_ok (tk_nx B n s) else tk_er 2 s) else tk_er 1 s
/-- what a text has told: year, costs, misses; the names; the links -/
abbrev tk_A := Bool × Bool × Bool × List (List Int) × List (Nat × Nat)
def tk_yr (A : tk_A) : Bool := A.1
def tk_co (A : tk_A) : Bool := A.2.1
def tk_mi (A : tk_A) : Bool := A.2.2.1
def tk_nd (A : tk_A) : List (List Int) := A.2.2.2.1
def tk_lk (A : tk_A) : List (Nat × Nat) := A.2.2.2.2
def tk_sy (A : tk_A) : tk_A := (true, A.2)
def tk_sc (A : tk_A) : tk_A := (A.1, true, A.2.2)
def tk_sm (A : tk_A) : tk_A := (A.1, A.2.1, true, A.2.2.2)
def tk_an (A : tk_A) (w : List Int) : tk_A := (A.1, A.2.1, A.2.2.1, A.2.2.2.1 ++ [w], A.2.2.2.2)
def tk_al (A : tk_A) (a b : Nat) : tk_A := (A.1, A.2.1, A.2.2.1, A.2.2.2.1, A.2.2.2.2 ++ [(a, b)])
def tk_A0 : tk_A := (false, false, false, [], [])
/-- the number of a name, or none -/
def tk_ix : List (List Int) → List Int → Option Nat
  | [], _ => none
  | a :: l, w => if a = w then some 0 else (tk_ix l w).map (· + 1)
def tk_has (l : List (Nat × Nat)) (a b : Nat) : Bool := l.any fun p => (p.1 == a && p.2 == b) || (p.1 == b && p.2 == a)
def tk_year (B : Nat → Int) (n s : Int) (A : tk_A) : tk_R (Int × tk_A) :=
  if tk_yr A = true then tk_er 3 s else tk_bd (tk_nm B n 4 60 (tk_nx B n s)) fun s1 => tk_ok (s1, tk_sy A)
def tk_miss (B : Nat → Int) (n s : Int) (A : tk_A) : tk_R (Int × tk_A) :=
  if tk_mi A = true then tk_er 3 s else tk_bd (tk_nm B n 1 9 (tk_nx B n s)) fun s1 => tk_ok (s1, tk_sm A)
def tk_costs (B : Nat → Int) (n s : Int) (A : tk_A) : tk_R (Int × tk_A) :=
  if tk_co A = true then tk_er 3 s else tk_bd (tk_nm B n 0 99 (tk_nx B n s)) fun s1 => tk_bd (tk_nm B n 0 99 s1) fun s2 => tk_bd (tk_nm B n 0 99 s2) fun s3 => tk_ok (s3, tk_sc A)
def tk_wBorn : List Int := [98, 111, 114, 110]
def tk_wShift : List Int := [115, 104, 105, 102, 116]
def tk_wEnergy : List Int := [101, 110, 101, 114, 103, 121]
def tk_wYear : List Int := [121, 101, 97, 114]
def tk_wCosts : List Int := [99, 111, 115, 116, 115]
def tk_wMiss : List Int := [109, 105, 115, 115]
def tk_wNode : List Int := [110, 111, 100, 101]
def tk_wLink : List Int := [108, 105, 110, 107]
abbrev tk_isw9 (B : Nat → Int) (n : Int) (w : List Int) (s : Int) : Prop := tk_k B n s = 1 ∧ tk_w B n s = w
def tk_shift (B : Nat → Int) (n s : Int) : tk_R Int := if tk_isw9 B n tk_wShift s then tk_nm B n 0 59 (tk_nx B n s) else tk_ok s
/-- the token behind a name: what stands behind it in a node's statement -/
def tk_rest (B : Nat → Int) (n s : Int) : tk_R Int :=
  tk_bd (tk_wd B n tk_wBorn s) fun s1 => tk_bd (tk_nm B n 0 59 s1) fun s2 => tk_bd (tk_shift B n s2) fun s3 => tk_bd (tk_wd B n tk_wEnergy s3) fun s4 => tk_nm B n 1 999 s4
def tk_node (B : Nat → Int) (n s : Int) (A : tk_A) : tk_R (Int × tk_A) :=
  if 10 ≤ (tk_nd A).length then tk_er 5 s else
  if tk_k B n (tk_nx B n s) = 1 then
    (if (tk_ix (tk_nd A) (tk_w B n (tk_nx B n s))).isSome then tk_er 3 (tk_nx B n s)
     else tk_bd (tk_rest B n (tk_nx B n (tk_nx B n s))) fun s5 => tk_ok (s5, tk_an A (tk_w B n (tk_nx B n s))))
  else tk_er 1 (tk_nx B n s)
/-- the number of the node that is named at s -/
def tk_who (B : Nat → Int) (n s : Int) (l : List (List Int)) : tk_R Nat :=
  if tk_k B n s = 1 then (match tk_ix l (tk_w B n s) with | some i => tk_ok i | none => tk_er 4 s) else tk_er 1 s
def tk_link (B : Nat → Int) (n s : Int) (A : tk_A) : tk_R (Int × tk_A) :=
  if 16 ≤ (tk_lk A).length then tk_er 5 s else
  tk_bd (tk_who B n (tk_nx B n s) (tk_nd A)) fun a => tk_bd (tk_who B n (tk_nx B n (tk_nx B n s)) (tk_nd A)) fun b =>
    if b = a ∨ tk_has (tk_lk A) a b = true then tk_er 3 (tk_nx B n (tk_nx B n s)) else tk_ok (tk_nx B n (tk_nx B n (tk_nx B n s)), tk_al A a b)
def tk_st (B : Nat → Int) (n s : Int) (A : tk_A) : tk_R (Int × tk_A) :=
  if tk_isw9 B n tk_wYear s then tk_year B n s A else if tk_isw9 B n tk_wCosts s then tk_costs B n s A else if tk_isw9 B n tk_wMiss s then tk_miss B n s A
  else if tk_isw9 B n tk_wNode s then tk_node B n s A else if tk_isw9 B n tk_wLink s then tk_link B n s A else tk_er 1 s
def tk_stm (B : Nat → Int) (n s : Int) (A : tk_A) : tk_R (Int × tk_A) := tk_bd (tk_st B n s A) fun p => tk_bd (tk_mk B n 59 p.1) fun s1 => tk_ok (s1, p.2)
def tk_all (B : Nat → Int) (n : Int) : Nat → Int → tk_A → tk_R tk_A
  | 0, _, A => tk_ok A
  | k + 1, s, A => if tk_k B n s = 0 then tk_ok A else tk_bd (tk_stm B n s A) fun p => tk_all B n k p.1 p.2
theorem tk_n_le {B : Nat → Int} {n s : Int} (h : s ≤ n) : s ≤ tk_n B n s ∧ tk_n B n s ≤ n := by
  unfold tk_n
  have h0 := tk_run_0 (P := tk_lt) (B := B) (n := n) (i := s)
  have h1 := tk_run_le (P := tk_lt) (B := B) h
  have h2 := tk_run_0 (P := tk_dg) (B := B) (n := n) (i := s)
  have h3 := tk_run_le (P := tk_dg) (B := B) h
  split
  · omega
  · split
    · omega
    · split <;> omega
theorem tk_S_le {B : Nat → Int} {n s : Int} (h : s ≤ n) : s ≤ tk_S B n s ∧ tk_S B n s ≤ n := by
  unfold tk_S
  have h0 := tk_run_0 (P := tk_sp) (B := B) (n := n) (i := s)
  have h1 := tk_run_le (P := tk_sp) (B := B) h
  omega
theorem tk_nx_le {B : Nat → Int} {n s : Int} (h : s ≤ n) : s ≤ tk_nx B n s ∧ tk_nx B n s ≤ n := by
  have h1 := tk_n_le (B := B) h
  have h2 := tk_S_le (B := B) h1.2
  unfold tk_nx
  omega
theorem tk_k_over {B : Nat → Int} {n s : Int} (h : n ≤ s) : tk_k B n s = 0 := by unfold tk_k; rw [if_pos h]
theorem tk_n_lt {B : Nat → Int} {n s : Int} (h0 : 0 ≤ s) (h : s < n) : s < tk_n B n s := by
  unfold tk_n
  rw [if_neg (by omega)]
  split
  · rename_i hl
    have := tk_run_y (P := tk_lt) (B := B) (n := n) h0 h hl
    have := tk_run_0 (P := tk_lt) (B := B) (n := n) (i := s + 1)
    omega
  · split
    · rename_i hl
      have := tk_run_y (P := tk_dg) (B := B) (n := n) h0 h hl
      have := tk_run_0 (P := tk_dg) (B := B) (n := n) (i := s + 1)
      omega
    · omega
theorem tk_nx_lt {B : Nat → Int} {n s : Int} (h0 : 0 ≤ s) (h : s ≤ n) (hk : tk_k B n s ≠ 0) : s < tk_nx B n s ∧ tk_nx B n s ≤ n := by
  have h1 : s < n := by
    by_cases h2 : n ≤ s
    · exact absurd (tk_k_over h2) hk
    · omega
  have h2 := tk_n_lt (B := B) h0 h1
  have h3 := tk_n_le (B := B) h
  have h4 := tk_S_le (B := B) h3.2
  unfold tk_nx
  omega
theorem tk_mk_is {B : Nat → Int} {n q s s1 : Int} (h : tk_mk B n q s = tk_ok s1) : tk_k B n s = q ∧ s1 = tk_nx B n s := by
  unfold tk_mk at h
  split at h
  · rename_i hk; have h := tk_inj h; exact ⟨hk, h.symm⟩
  · exact nomatch h
theorem tk_wd_is {B : Nat → Int} {n : Int} {w : List Int} {s s1 : Int} (h : tk_wd B n w s = tk_ok s1) : s1 = tk_nx B n s := by
  unfold tk_wd at h
  split at h
  · have h := tk_inj h; exact h.symm
  · exact nomatch h
theorem tk_nm_is {B : Nat → Int} {n lo hi s s1 : Int} (h : tk_nm B n lo hi s = tk_ok s1) : s1 = tk_nx B n s := by
  unfold tk_nm at h
  split at h
  · split at h
    · have h := tk_inj h; exact h.symm
    · exact nomatch h
  · exact nomatch h
theorem tk_shift_is {B : Nat → Int} {n s s1 : Int} (h : tk_shift B n s = tk_ok s1) : s1 = s ∨ s1 = tk_nx B n (tk_nx B n s) := by
  unfold tk_shift at h
  split at h
  · exact Or.inr (tk_nm_is h)
  · have h := tk_inj h; exact Or.inl h.symm
def tk_in (n s s1 : Int) : Prop := s ≤ s1 ∧ s1 ≤ n
theorem tk_in_nx {B : Nat → Int} {n s s1 : Int} (h : tk_in n s s1) : tk_in n s (tk_nx B n s1) := by
  have := tk_nx_le (B := B) h.2
  exact ⟨by have := h.1; omega, this.2⟩
theorem tk_rest_in {B : Nat → Int} {n s0 s s1 : Int} (h : tk_rest B n s = tk_ok s1) (hs : tk_in n s0 s) : tk_in n s0 s1 := by
  unfold tk_rest at h
  obtain ⟨a, ha, h⟩ := tk_bd_is h
  obtain ⟨b, hb, h⟩ := tk_bd_is h
  obtain ⟨c, hc, h⟩ := tk_bd_is h
  obtain ⟨d, hd, h⟩ := tk_bd_is h
  rw [tk_wd_is ha] at hb
  rw [tk_nm_is hb] at hc
  have hs1 := tk_in_nx (B := B) (tk_in_nx (B := B) hs)
  have hc1 : tk_in n s0 c := by
    rcases tk_shift_is hc with e | e
    · rw [e]; exact hs1
    · rw [e]; exact tk_in_nx (tk_in_nx hs1)
  rw [tk_wd_is hd] at h
  rw [tk_nm_is h]
  exact tk_in_nx (tk_in_nx hc1)
theorem tk_st_in {B : Nat → Int} {n s : Int} {A : tk_A} {p : Int × tk_A} (h : tk_st B n s A = tk_ok p) (hs : s ≤ n) : tk_in n s p.1 := by
  have h0 : tk_in n s s := ⟨by omega, hs⟩
  unfold tk_st at h
  split at h
  · unfold tk_year at h
    split at h
    · exact nomatch h
    · obtain ⟨a, ha, h⟩ := tk_bd_is h
      have h := tk_inj h
      rw [← h, tk_nm_is ha]
      exact tk_in_nx (tk_in_nx h0)
  · split at h
    · unfold tk_costs at h
      split at h
      · exact nomatch h
      · obtain ⟨a, ha, h⟩ := tk_bd_is h
        obtain ⟨b, hb, h⟩ := tk_bd_is h
        obtain ⟨c, hc, h⟩ := tk_bd_is h
        have h := tk_inj h
        rw [tk_nm_is ha] at hb
        rw [tk_nm_is hb] at hc
        rw [← h, tk_nm_is hc]
        exact tk_in_nx (tk_in_nx (tk_in_nx (tk_in_nx h0)))
    · split at h
      · unfold tk_miss at h
        split at h
        · exact nomatch h
        · obtain ⟨a, ha, h⟩ := tk_bd_is h
          have h := tk_inj h
          rw [← h, tk_nm_is ha]
          exact tk_in_nx (tk_in_nx h0)
      · split at h
        · unfold tk_node at h
          split at h
          · exact nomatch h
          · split at h
            · split at h
              · exact nomatch h
              · obtain ⟨a, ha, h⟩ := tk_bd_is h
                have h := tk_inj h
                rw [← h]
                exact tk_rest_in ha (tk_in_nx (tk_in_nx h0))
            · exact nomatch h
        · split at h
          · unfold tk_link at h
            split at h
            · exact nomatch h
            · obtain ⟨a, ha, h⟩ := tk_bd_is h
              obtain ⟨b, hb, h⟩ := tk_bd_is h
              split at h
              · exact nomatch h
              · have h := tk_inj h
                rw [← h]
                exact tk_in_nx (tk_in_nx (tk_in_nx h0))
          · exact nomatch h
theorem tk_stm_in {B : Nat → Int} {n s : Int} {A : tk_A} {p : Int × tk_A} (h : tk_stm B n s A = tk_ok p) (h0 : 0 ≤ s) (hs : s ≤ n) : s < p.1 ∧ p.1 ≤ n := by
  unfold tk_stm at h
  obtain ⟨a, ha, h⟩ := tk_bd_is h
  obtain ⟨b, hb, h⟩ := tk_bd_is h
  have h := tk_inj h
  have h1 := tk_st_in ha hs
  have h2 := tk_mk_is hb
  have h3 := tk_nx_lt (B := B) (n := n) (s := a.1) (by have := h1.1; omega) h1.2 (by rw [h2.1]; decide)
  rw [← h]
  show s < b ∧ b ≤ n
  have := h1.1
  omega
theorem tk_all_more {B : Nat → Int} {n : Int} (k : Nat) : ∀ (s : Int) (A : tk_A), 0 ≤ s → s ≤ n → (n - s).toNat < k → tk_all B n (k + 1) s A = tk_all B n k s A := by
  induction k with
  | zero => intro s A _ _ h; exact absurd h (Nat.not_lt_zero _)
  | succ k ih =>
    intro s A h0 h1 h
    rw [tk_all]
    conv => rhs; rw [tk_all]
    split
    · rfl
    · generalize he : tk_stm B n s A = r
      cases r with
      | error e => rfl
      | ok p =>
        have h2 := tk_stm_in he h0 h1
        exact ih p.1 p.2 (by omega) h2.2 (by omega)
theorem tk_all_fuel {B : Nat → Int} {n : Int} {s : Int} {A : tk_A} {j k : Nat} (h0 : 0 ≤ s) (h1 : s ≤ n) (hj : (n - s).toNat < j) (hk : j ≤ k) : tk_all B n k s A = tk_all B n j s A := by
  induction k with
  | zero => omega
  | succ k ih =>
    by_cases h : j = k + 1
    · rw [h]
    · rw [tk_all_more k s A h0 h1 (by omega)]
      exact ih (by omega)
/-- all that comes, from the token at s on -/
def tk_T (B : Nat → Int) (n s : Int) (A : tk_A) : tk_R tk_A := tk_all B n ((n - s).toNat + 1) s A
theorem tk_T_end {B : Nat → Int} {n s : Int} {A : tk_A} (h : tk_k B n s = 0) : tk_T B n s A = tk_ok A := by
  unfold tk_T
  rw [tk_all, if_pos h]
theorem tk_T_ok {B : Nat → Int} {n s s1 : Int} {A A1 : tk_A} (h0 : 0 ≤ s) (hs : s ≤ n) (hk : tk_k B n s ≠ 0) (h : tk_stm B n s A = tk_ok (s1, A1)) : tk_T B n s A = tk_T B n s1 A1 := by
  have h2 := tk_stm_in h h0 hs
  have h2 : s < s1 ∧ s1 ≤ n := h2
  unfold tk_T
  rw [tk_all, if_neg hk, tk_bd_ok h]
  exact tk_all_fuel (by omega) h2.2 (by omega) (by omega)
theorem tk_T_er {B : Nat → Int} {n s c p : Int} {A : tk_A} (hk : tk_k B n s ≠ 0) (h : tk_stm B n s A = tk_er c p) : tk_T B n s A = tk_er c p := by
  unfold tk_T
  rw [tk_all, if_neg hk, tk_bd_er h]
/-! words of letters, as the two write them -/
theorem tk_i64 {a b : Int64} (h : a.toBitVec.toNat = b.toBitVec.toNat) : a = b := Int64.toBitVec_inj.mp (BitVec.eq_of_toNat_eq h)
theorem tk_ofNat {n : Nat} (h : n < 2 ^ 64) : (Int64.ofNat n).toBitVec.toNat = n := by
  show (BitVec.ofNat 64 n).toNat = n
  rw [BitVec.toNat_ofNat, Nat.mod_eq_of_lt h]
theorem tk_lNat {b : Int} (h0 : 0 ≤ b) : q_l b = Int64.ofNat b.toNat := by
  unfold q_l
  conv => lhs; rw [← Int.toNat_of_nonneg h0]
  exact Int64.ofInt_eq_ofNat
theorem tk_shl {x : Int64} {y : Int64} {k : Nat} (hk : y.toBitVec.smod 64 = BitVec.ofNat 64 k) (hk6 : k < 64) : (x <<< y).toBitVec.toNat = x.toBitVec.toNat <<< k % 2 ^ 64 := by
  rw [Int64.toBitVec_shiftLeft, hk]
  show (x.toBitVec <<< (BitVec.ofNat 64 k).toNat).toNat = _
  rw [BitVec.toNat_shiftLeft, BitVec.toNat_ofNat, Nat.mod_eq_of_lt (Nat.lt_trans hk6 (by decide))]
theorem tk_cwor {A b k : Nat} {y : Int64} (hA : A < 256 ^ k) (hb : b < 256) (hk : k < 8) (hy : y.toBitVec.smod 64 = BitVec.ofNat 64 (8 * k)) : Int64.ofNat A ||| (Int64.ofNat b <<< y) = Int64.ofNat (A + b * 256 ^ k) := by
  have h256 : (256 : Nat) ^ k = 2 ^ (8 * k) := by rw [Nat.pow_mul]
  have hle : 256 ^ k * 256 ≤ 2 ^ 64 := by
    have h1 : (256 : Nat) ^ k ≤ 256 ^ 7 := Nat.pow_le_pow_right (by decide) (by omega)
    have h2 : (256 : Nat) ^ 7 * 256 = 2 ^ 64 := by decide
    calc 256 ^ k * 256 ≤ 256 ^ 7 * 256 := Nat.mul_le_mul_right _ h1
      _ = 2 ^ 64 := h2
  have hbk : b * 256 ^ k + 256 ^ k ≤ 256 ^ k * 256 := by
    have : (b + 1) * 256 ^ k ≤ 256 * 256 ^ k := Nat.mul_le_mul_right _ hb
    rw [Nat.add_mul, Nat.one_mul] at this
    rw [Nat.mul_comm (256 ^ k) 256]
    exact this
  apply tk_i64
  rw [Int64.toBitVec_or, BitVec.toNat_or, tk_shl hy (by omega), tk_ofNat (by omega), tk_ofNat (by omega), tk_ofNat (by omega), Nat.shiftLeft_eq, ← h256, Nat.mod_eq_of_lt (by omega)]
  have h := Nat.two_pow_add_eq_or_of_lt (i := 8 * k) (b := A) (by rw [← h256]; exact hA) b
  rw [← h256, Nat.mul_comm] at h
  rw [Nat.or_comm, ← h, Nat.add_comm]
theorem tk_sh8 : ∀ k : Nat, k < 8 → (((q_i (8 * (k : Int))).toInt64 &&& 63).toBitVec.smod 64 = BitVec.ofNat 64 (8 * k)) := by decide +kernel
theorem tk_cw_snoc {l : List Int} {b : Int} (hl : ∀ b ∈ l, 97 ≤ b ∧ b ≤ 122) (hk : l.length < 8) (hb : 97 ≤ b ∧ b ≤ 122) : tk_cw l ||| (q_l b <<< ((q_i (8 * (l.length : Int))).toInt64 &&& 63)) = tk_cw (l ++ [b]) := by
  unfold tk_cw
  rw [tk_lNat (by omega), tk_cwor (tk_cn_lt l hl) (by omega) hk (tk_sh8 _ hk), tk_cn_app]
theorem tk_cw_nil : tk_cw [] = q_l 0 := by decide +kernel
theorem tk_mn_lt (l : List Int) (hl : ∀ b ∈ l, 97 ≤ b ∧ b ≤ 122) : tk_mn l < 32 ^ l.length := by
  have key : ∀ (k : Nat) (l : List Int), l.length = k → (∀ b ∈ l, 97 ≤ b ∧ b ≤ 122) → tk_mn l < 32 ^ k := by
    intro k
    induction k with
    | zero => intro l h _; obtain rfl : l = [] := List.length_eq_zero_iff.mp h; decide
    | succ k ih =>
      intro l h hl
      rcases tk_snoc l with rfl | ⟨m, b, rfl⟩
      · exact nomatch h
      · have h1 := ih m (by rw [List.length_append, List.length_singleton] at h; omega) (fun x hx => hl x (by simp [hx]))
        have h2 := hl b (by simp)
        rw [tk_mn_app, Nat.pow_succ]
        omega
  exact key l.length l rfl hl
theorem tk_mw_snoc {l : List Int} {b : Int} {y : Int64} (hl : ∀ b ∈ l, 97 ≤ b ∧ b ≤ 122) (hk : l.length < 8) (hb : 97 ≤ b ∧ b ≤ 122) (hy : y.toBitVec.smod 64 = BitVec.ofNat 64 5) : (tk_mw l <<< y) ||| q_l (b - 96) = tk_mw (l ++ [b]) := by
  unfold tk_mw
  have h1 := tk_mn_lt l hl
  have h2 : 32 ^ l.length ≤ 32 ^ 7 := Nat.pow_le_pow_right (by decide) (by omega)
  have h3 : (32 : Nat) ^ 7 = 34359738368 := by decide
  rw [tk_lNat (by omega), tk_mn_app]
  apply tk_i64
  rw [Int64.toBitVec_or, BitVec.toNat_or, tk_shl hy (by decide), tk_ofNat (by omega), tk_ofNat (by omega), tk_ofNat (by omega), Nat.shiftLeft_eq, Nat.mod_eq_of_lt (by omega)]
  have h := Nat.two_pow_add_eq_or_of_lt (i := 5) (b := (b - 96).toNat) (by omega) (tk_mn l)
  rw [Nat.mul_comm] at h
  rw [← h]
  omega
theorem tk_sh5 : ((q_i 5).toInt64 &&& 63).toBitVec.smod 64 = BitVec.ofNat 64 5 := by decide +kernel
theorem tk_mw_nil : tk_mw [] = q_l 0 := by decide +kernel
theorem tk_cw_inj {l m : List Int} (hl : ∀ b ∈ l, 97 ≤ b ∧ b ≤ 122) (hm : ∀ b ∈ m, 97 ≤ b ∧ b ≤ 122) (kl : l.length ≤ 8) (km : m.length ≤ 8) (h : tk_cw l = tk_cw m) : l = m := by
  have e (l : List Int) (hl : ∀ b ∈ l, 97 ≤ b ∧ b ≤ 122) (kl : l.length ≤ 8) : (tk_cw l).toBitVec.toNat = tk_cn l := tk_ofNat (Nat.lt_of_lt_of_le (tk_cn_lt l hl) (by
    have : (256 : Nat) ^ l.length ≤ 256 ^ 8 := Nat.pow_le_pow_right (by decide) kl
    exact Nat.le_trans this (by decide)))
  exact tk_cn_inj hl hm (by rw [← e l hl kl, ← e m hm km, h])
theorem tk_mw_inj {l m : List Int} (hl : ∀ b ∈ l, 97 ≤ b ∧ b ≤ 122) (hm : ∀ b ∈ m, 97 ≤ b ∧ b ≤ 122) (kl : l.length ≤ 8) (km : m.length ≤ 8) (h : tk_mw l = tk_mw m) : l = m := by
  have e (l : List Int) (hl : ∀ b ∈ l, 97 ≤ b ∧ b ≤ 122) (kl : l.length ≤ 8) : (tk_mw l).toBitVec.toNat = tk_mn l := tk_ofNat (Nat.lt_of_lt_of_le (tk_mn_lt l hl) (by
    have : (32 : Nat) ^ l.length ≤ 32 ^ 8 := Nat.pow_le_pow_right (by decide) kl
    exact Nat.le_trans this (by decide)))
  exact tk_mn_inj hl hm (by rw [← e l hl kl, ← e m hm km, h])
theorem tk_isw_ls {B : Nat → Int} {s : Int} {m : Nat} (h : ∀ j : Nat, j < m → 97 ≤ B (s + j).toNat ∧ B (s + j).toNat ≤ 122) : ∀ b ∈ tk_ls B s m, 97 ≤ b ∧ b ≤ 122 := by
  induction m with
  | zero => intro b hb; exact nomatch hb
  | succ m ih =>
    intro b hb
    rw [tk_ls, List.mem_append, List.mem_singleton] at hb
    rcases hb with hb | rfl
    · exact ih (fun j hj => h j (by omega)) b hb
    · exact h m (by omega)
theorem tk_ls_len (B : Nat → Int) (s : Int) (m : Nat) : (tk_ls B s m).length = m := by
  induction m with
  | zero => rfl
  | succ m ih => rw [tk_ls, List.length_append, ih]; rfl
/-- what a run runs over -/
theorem tk_rn_all (P : Int → Bool) (B : Nat → Int) (r : Nat) : ∀ (i j : Nat), j < tk_rn P B r i → P (B (i + j)) = true := by
  induction r with
  | zero => intro i j h; exact absurd h (Nat.not_lt_zero _)
  | succ r ih =>
    intro i j h
    simp only [tk_rn] at h
    split at h
    · rename_i hp
      cases j with
      | zero => exact hp
      | succ j =>
        have := ih (i + 1) j (by omega)
        rw [show i + (j + 1) = i + 1 + j by omega]
        exact this
    · exact absurd h (Nat.not_lt_zero _)
theorem tk_run_all {P : Int → Bool} {B : Nat → Int} {n i : Int} (h0 : 0 ≤ i) {j : Nat} (h : (j : Int) < tk_run P B n i) : P (B (i + j).toNat) = true := by
  unfold tk_run at h
  have := tk_rn_all P B (n - i).toNat i.toNat j (by omega)
  rw [show (i + (j : Int)).toNat = i.toNat + j by omega]
  exact this
theorem tk_w_ok {B : Nat → Int} {n s : Int} (h0 : 0 ≤ s) : (∀ b ∈ tk_w B n s, 97 ≤ b ∧ b ≤ 122) ∧ (tk_w B n s).length ≤ 8 := by
  unfold tk_w
  refine ⟨tk_isw_ls fun j hj => ?_, by rw [tk_ls_len]; omega⟩
  have := tk_run_all (P := tk_lt) (B := B) (n := n) h0 (j := j) (by have := tk_run_0 (P := tk_lt) (B := B) (n := n) (i := s); omega)
  exact tk_lt_iff.mp this
theorem tk_cn_dig (l : List Int) (hl : ∀ b ∈ l, 97 ≤ b ∧ b ≤ 122) : ∀ i : Nat, tk_cn l / 256 ^ i % 256 = (l.getD i 0).toNat := by
  induction l with
  | nil => intro i; simp [tk_cn]
  | cons a l ih =>
    intro i
    have ha := hl a List.mem_cons_self
    cases i with
    | zero => simp only [tk_cn, Nat.pow_zero, Nat.div_one, List.getD_cons_zero]; omega
    | succ i =>
      have := ih (fun b hb => hl b (List.mem_cons_of_mem _ hb)) i
      rw [List.getD_cons_succ, ← this, tk_cn, Nat.pow_succ, Nat.mul_comm (256 ^ i) 256, ← Nat.div_div_eq_div_mul]
      rw [show (a.toNat + 256 * tk_cn l) / 256 = tk_cn l by omega]
theorem tk_cn_top (l : List Int) (hl : ∀ b ∈ l, 97 ≤ b ∧ b ≤ 122) (k : l.length ≤ 8) : tk_cn l < 2 ^ 63 := by
  rcases tk_snoc l with rfl | ⟨m, b, rfl⟩
  · decide
  · have h1 := tk_cn_lt m (fun x hx => hl x (by simp [hx]))
    have h2 := hl b (by simp)
    rw [List.length_append, List.length_singleton] at k
    rw [tk_cn_app]
    have h3 : (256 : Nat) ^ m.length ≤ 256 ^ 7 := Nat.pow_le_pow_right (by decide) (by omega)
    have h4 : (256 : Nat) ^ 7 = 72057594037927936 := by decide
    have h5 : b.toNat * 256 ^ m.length ≤ 122 * 256 ^ m.length := Nat.mul_le_mul_right _ (by omega)
    omega
theorem tk_shr {x : Int64} {y : Int64} {k : Nat} (hk : y.toBitVec.smod 64 = BitVec.ofNat 64 k) (hk6 : k < 64) (hx : x.toBitVec.toNat < 2 ^ 63) : (x >>> y).toBitVec.toNat = x.toBitVec.toNat >>> k := by
  rw [Int64.toBitVec_shiftRight, hk]
  show (x.toBitVec.sshiftRight (BitVec.ofNat 64 k).toNat).toNat = _
  rw [BitVec.sshiftRight_eq_of_msb_false (by rw [BitVec.msb_eq_false_iff_two_mul_lt]; omega), BitVec.toNat_ushiftRight, BitVec.toNat_ofNat, Nat.mod_eq_of_lt (Nat.lt_trans hk6 (by decide))]
theorem tk_letter {l : List Int} (hl : ∀ b ∈ l, 97 ≤ b ∧ b ≤ 122) (kl : l.length ≤ 8) {i : Nat} (hi : i < 8) : ((tk_cw l >>> ((q_i (8 * (i : Int))).toInt64 &&& 63)) &&& q_l 255).toInt32 = q_i (l.getD i 0) := by
  have ht := tk_cn_top l hl kl
  have e1 : (tk_cw l).toBitVec.toNat = tk_cn l := tk_ofNat (Nat.lt_trans ht (by decide))
  have hd := tk_cn_dig l hl i
  have hb : 0 ≤ l.getD i 0 ∧ l.getD i 0 ≤ 122 := by
    rw [List.getD_eq_getElem?_getD]
    by_cases h : i < l.length
    · rw [List.getElem?_eq_getElem h]
      have := hl l[i] (List.getElem_mem h)
      show 0 ≤ l[i] ∧ l[i] ≤ 122
      omega
    · rw [List.getElem?_eq_none (by omega)]
      exact ⟨Int.le_refl _, by decide⟩
  have e2 : ((tk_cw l >>> ((q_i (8 * (i : Int))).toInt64 &&& 63)) &&& q_l 255) = q_l (l.getD i 0) := by
    apply tk_i64
    rw [tk_lNat hb.1, tk_ofNat (by omega), Int64.toBitVec_and, BitVec.toNat_and, tk_shr (tk_sh8 i hi) (by omega) (by omega), e1, ← hd]
    rw [show (q_l 255).toBitVec.toNat = 2 ^ 8 - 1 from by decide +kernel, Nat.and_two_pow_sub_one_eq_mod, Nat.shiftRight_eq_div_pow, Nat.pow_mul]
  rw [e2]
  unfold q_l q_i
  rw [Int64.toInt32_ofInt]
