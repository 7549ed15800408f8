/-! what a script says -/
def tk_wTick : List Int := [116, 105, 99, 107]
def tk_wSend : List Int := [115, 101, 110, 100]
def tk_wCall : List Int := [99, 97, 108, 108]
def tk_wWatch : List Int := [119, 97, 116, 99, 104]
def tk_wCharge : List Int := [99, 104, 97, 114, 103, 101]
def tk_wRepeat : List Int := [114, 101, 112, 101, 97, 116]
theorem tk_iTick : tk_isw tk_wTick := by unfold tk_isw tk_wTick; decide
theorem tk_iSend : tk_isw tk_wSend := by unfold tk_isw tk_wSend; decide
theorem tk_iCall : tk_isw tk_wCall := by unfold tk_isw tk_wCall; decide
theorem tk_iWatch : tk_isw tk_wWatch := by unfold tk_isw tk_wWatch; decide
theorem tk_iCharge : tk_isw tk_wCharge := by unfold tk_isw tk_wCharge; decide
theorem tk_iRepeat : tk_isw tk_wRepeat := by unfold tk_isw tk_wRepeat; decide
/-- which command begins at s: tick 0, send 1, call 2, shift 3, watch 4, charge 5, repeat 6, none -1 -/
def tk_kw (B : Nat → Int) (n s : Int) : Int := if tk_isw9 B n tk_wTick s then 0 else if tk_isw9 B n tk_wSend s then 1 else if tk_isw9 B n tk_wCall s then 2 else if tk_isw9 B n tk_wShift s then 3 else if tk_isw9 B n tk_wWatch s then 4 else if tk_isw9 B n tk_wCharge s then 5 else if tk_isw9 B n tk_wRepeat s then 6 else -1
/-- the names behind the word of the command q -/
def tk_ns (B : Nat → Int) (n : Int) (nl : List (List Int)) (q s : Int) : tk_R Int :=
  if q = 0 then tk_ok s
  else if q = 1 ∨ q = 2 then tk_bd (tk_who B n s nl) fun _ => tk_bd (tk_who B n (tk_nx B n s) nl) fun _ => tk_ok (tk_nx B n (tk_nx B n s))
  else tk_bd (tk_who B n s nl) fun _ => tk_ok (tk_nx B n s)
/-- a number and its mark -/
def tk_ob (B : Nat → Int) (n lo hi m s : Int) : tk_R Int := tk_bd (tk_nm B n lo hi s) fun s2 => tk_mk B n m s2
/-- all behind the word of the command q but the mark that ends it -/
def tk_rd (B : Nat → Int) (n : Int) (nl : List (List Int)) (q s : Int) : tk_R Int := if q = 6 then tk_ob B n 1 20 40 s else tk_bd (tk_ns B n nl q s) fun s1 => tk_nm B n 0 999 s1
/-- a command but the mark that ends it: where it ends, how many repeats are open then, how many commands there are -/
def tk_cm (B : Nat → Int) (n : Int) (nl : List (List Int)) (s d c : Int) : tk_R (Int × Int × Int) :=
  if tk_kw B n s = -1 then tk_er 1 s else if tk_kw B n s = 6 ∧ 2 ≤ d then tk_er 3 s else if 30 ≤ c then tk_er 5 s
  else tk_bd (tk_rd B n nl (tk_kw B n s) (tk_nx B n s)) fun s3 => tk_ok (s3, (if tk_kw B n s = 6 then d + 1 else d), c + 1)
def tk_cd (B : Nat → Int) (n : Int) (nl : List (List Int)) (s d c : Int) : tk_R (Int × Int × Int) :=
  tk_bd (tk_cm B n nl s d c) fun p => if p.2.1 = d then tk_bd (tk_mk B n 59 p.1) fun s4 => tk_ok (s4, p.2.1, p.2.2) else tk_ok p
def tk_cl (B : Nat → Int) (n s : Int) : tk_R Int := tk_bd (tk_mk B n 41 s) fun s1 => tk_mk B n 59 s1
def tk_sx (B : Nat → Int) (n : Int) (nl : List (List Int)) (s d c : Int) : tk_R (Int × Int × Int) := if 0 < d ∧ tk_k B n s = 41 then tk_bd (tk_cl B n s) fun s2 => tk_ok (s2, d - 1, c) else tk_cd B n nl s d c
def tk_sl (B : Nat → Int) (n : Int) (nl : List (List Int)) : Nat → Int → Int → Int → tk_R Int
  | 0, _, _, _ => tk_ok 0
  | k + 1, s, d, c => if tk_k B n s = 0 then (if d = 0 then tk_ok 0 else tk_er 1 s) else tk_bd (tk_sx B n nl s d c) fun p => tk_sl B n nl k p.1 p.2.1 p.2.2
section QSL
variable {B : Nat → Int} {n s s1 s2 s3 d c d1 c1 x a b p q lo hi m : Int} {nl : List (List Int)}
theorem tk_ob_in {s0 : Int} (h : tk_ob B n lo hi m s = tk_ok s1) (hs : tk_in n s0 s) : tk_in n s0 s1 := by
  unfold tk_ob at h
  obtain ⟨a, ha, h⟩ := tk_bd_is h
  rw [(tk_mk_is h).2, tk_nm_is ha]
  exact tk_in_nx (tk_in_nx hs)
theorem tk_ns_in {s0 : Int} (h : tk_ns B n nl q s = tk_ok s1) (hs : tk_in n s0 s) : tk_in n s0 s1 := by
  unfold tk_ns at h
  split at h
  · rw [← tk_inj h]; exact hs
  · split at h
    · obtain ⟨a, ha, h⟩ := tk_bd_is h
      obtain ⟨b, hb, h⟩ := tk_bd_is h
      rw [← tk_inj h]
      exact tk_in_nx (tk_in_nx hs)
    · obtain ⟨a, ha, h⟩ := tk_bd_is h
      rw [← tk_inj h]
      exact tk_in_nx hs
theorem tk_rd_in {s0 : Int} (h : tk_rd B n nl q s = tk_ok s1) (hs : tk_in n s0 s) : tk_in n s0 s1 := by
  unfold tk_rd at h
  split at h
  · exact tk_ob_in h hs
  · obtain ⟨a, ha, h⟩ := tk_bd_is h
    rw [tk_nm_is h]
    exact tk_in_nx (tk_ns_in ha hs)
theorem tk_kw_k (h : tk_kw B n s ≠ -1) : tk_k B n s = 1 := by
  unfold tk_kw at h
  split at h
  · rename_i h1; exact h1.1
  · split at h
    · rename_i h1; exact h1.1
    · split at h
      · rename_i h1; exact h1.1
      · split at h
        · rename_i h1; exact h1.1
        · split at h
          · rename_i h1; exact h1.1
          · split at h
            · rename_i h1; exact h1.1
            · split at h
              · rename_i h1; exact h1.1
              · exact absurd rfl h
theorem tk_cm_in {r : Int × Int × Int} (h : tk_cm B n nl s d c = tk_ok r) (h0 : 0 ≤ s) (hs : s ≤ n) : s < r.1 ∧ r.1 ≤ n := by
  unfold tk_cm at h
  split at h
  · exact nomatch h
  · rename_i h1
    split at h
    · exact nomatch h
    · split at h
      · exact nomatch h
      · obtain ⟨a, ha, h⟩ := tk_bd_is h
        have h := tk_inj h
        have h3 := tk_nx_lt (B := B) h0 hs (by rw [tk_kw_k h1]; decide)
        have h4 := tk_rd_in (s0 := tk_nx B n s) ha ⟨Int.le_refl _, h3.2⟩
        rw [← h]
        show s < a ∧ a ≤ n
        have := h4.1
        have := h4.2
        omega
theorem tk_sx_in {r : Int × Int × Int} (h : tk_sx B n nl s d c = tk_ok r) (h0 : 0 ≤ s) (hs : s ≤ n) : s < r.1 ∧ r.1 ≤ n := by
  unfold tk_sx at h
  split at h
  · rename_i h1
    obtain ⟨a, ha, h⟩ := tk_bd_is h
    have h := tk_inj h
    unfold tk_cl at ha
    obtain ⟨b, hb, ha⟩ := tk_bd_is ha
    have h3 := tk_nx_lt (B := B) h0 hs (by rw [h1.2]; decide)
    have h4 := tk_mk_is hb
    have h5 := tk_mk_is ha
    have h6 := tk_nx_le (B := B) (n := n) (s := b) (by rw [h4.2]; exact h3.2)
    rw [← h]
    show s < a ∧ a ≤ n
    rw [h5.2]
    rw [h4.2] at h6 ⊢
    omega
  · unfold tk_cd at h
    obtain ⟨p, hp, h⟩ := tk_bd_is h
    have h2 := tk_cm_in hp h0 hs
    split at h
    · obtain ⟨a, ha, h⟩ := tk_bd_is h
      have h := tk_inj h
      have h5 := tk_mk_is ha
      have h6 := tk_nx_le (B := B) (n := n) (s := p.1) h2.2
      rw [← h]
      show s < a ∧ a ≤ n
      rw [h5.2]
      omega
    · rw [← tk_inj h]
      exact h2
theorem tk_sl_more (k : Nat) : ∀ (s d c : Int), 0 ≤ s → s ≤ n → (n - s).toNat < k → tk_sl B n nl (k + 1) s d c = tk_sl B n nl k s d c := by
  induction k with
  | zero => intro s d c _ _ h; exact absurd h (Nat.not_lt_zero _)
  | succ k ih =>
    intro s d c h0 h1 h
    rw [tk_sl]
    conv => rhs; rw [tk_sl]
    split
    · rfl
    · generalize he : tk_sx B n nl s d c = r
      cases r with
      | error e => rfl
      | ok p =>
        have h2 := tk_sx_in he h0 h1
        exact ih p.1 p.2.1 p.2.2 (by omega) h2.2 (by omega)
theorem tk_sl_fuel {j k : Nat} (h0 : 0 ≤ s) (h1 : s ≤ n) (hj : (n - s).toNat < j) (hk : j ≤ k) : tk_sl B n nl k s d c = tk_sl B n nl j s d c := by
  induction k with
  | zero => omega
  | succ k ih =>
    by_cases h : j = k + 1
    · rw [h]
    · rw [tk_sl_more k s d c h0 h1 (by omega)]
      exact ih (by omega)
/-- all that comes of a script, from the token at s on -/
def tk_U (B : Nat → Int) (n : Int) (nl : List (List Int)) (s d c : Int) : tk_R Int := tk_sl B n nl ((n - s).toNat + 1) s d c
theorem tk_U_end (h : tk_k B n s = 0) (hd : d = 0) : tk_U B n nl s d c = tk_ok 0 := by
  unfold tk_U
  rw [tk_sl, if_pos h, if_pos hd]
theorem tk_U_open (h : tk_k B n s = 0) (hd : d ≠ 0) (ha : q_is a 1) (hb : q_is b s) : tk_U B n nl s d c = tk_er a b := by
  have ha : a = 1 := ha
  have hb : b = s := hb
  unfold tk_U
  rw [tk_sl, if_pos h, if_neg hd, ha, hb]
theorem tk_U_ok (h0 : 0 ≤ s) (hs : s ≤ n) (hk : tk_k B n s ≠ 0) (h : tk_sx B n nl s d c = tk_ok (s1, d1, c1)) : tk_U B n nl s d c = tk_U B n nl s1 d1 c1 := by
  have h2 := tk_sx_in h h0 hs
  have h2 : s < s1 ∧ s1 ≤ n := h2
  unfold tk_U
  rw [tk_sl, if_neg hk, tk_bd_ok h]
  exact tk_sl_fuel (by omega) h2.2 (by omega) (by omega)
theorem tk_U_er (hk : tk_k B n s ≠ 0) (h : tk_sx B n nl s d c = tk_er a b) : tk_U B n nl s d c = tk_er a b := by
  unfold tk_U
  rw [tk_sl, if_neg hk, tk_bd_er h]
theorem tk_sx_cl (hd : 0 < d) (hk : tk_k B n s = 41) (h : tk_cl B n s = tk_ok s2) (e : d1 = d - 1) : tk_sx B n nl s d c = tk_ok (s2, d1, c) := by
  unfold tk_sx; rw [if_pos ⟨hd, hk⟩, tk_bd_ok h, e]
theorem tk_sx_cle (hd : 0 < d) (hk : tk_k B n s = 41) (h : tk_cl B n s = tk_er a b) : tk_sx B n nl s d c = tk_er a b := by
  unfold tk_sx; rw [if_pos ⟨hd, hk⟩, tk_bd_er h]
theorem tk_sx_cd (hn : ¬ (0 < d ∧ tk_k B n s = 41)) : tk_sx B n nl s d c = tk_cd B n nl s d c := by
  unfold tk_sx; rw [if_neg hn]
theorem tk_cl_ok (h1 : tk_mk B n 41 s = tk_ok s1) (h2 : tk_mk B n 59 s1 = tk_ok s2) : tk_cl B n s = tk_ok s2 := by unfold tk_cl; rw [tk_bd_ok h1, h2]
theorem tk_cl_e1 (h1 : tk_mk B n 41 s = tk_er a b) : tk_cl B n s = tk_er a b := by unfold tk_cl; rw [tk_bd_er h1]
theorem tk_cl_e2 (h1 : tk_mk B n 41 s = tk_ok s1) (h2 : tk_mk B n 59 s1 = tk_er a b) : tk_cl B n s = tk_er a b := by unfold tk_cl; rw [tk_bd_ok h1, h2]
theorem tk_ob_ok (h1 : tk_nm B n lo hi s = tk_ok s1) (h2 : tk_mk B n m s1 = tk_ok s2) : tk_ob B n lo hi m s = tk_ok s2 := by unfold tk_ob; rw [tk_bd_ok h1, h2]
theorem tk_ob_e1 (h1 : tk_nm B n lo hi s = tk_er a b) : tk_ob B n lo hi m s = tk_er a b := by unfold tk_ob; rw [tk_bd_er h1]
theorem tk_ob_e2 (h1 : tk_nm B n lo hi s = tk_ok s1) (h2 : tk_mk B n m s1 = tk_er a b) : tk_ob B n lo hi m s = tk_er a b := by unfold tk_ob; rw [tk_bd_ok h1, h2]
-- names
theorem tk_ns_0 (h : q = 0) (e : x = s) : tk_ns B n nl q s = tk_ok x := by unfold tk_ns; rw [if_pos h, e]
theorem tk_ns_1 {i : Nat} (h0 : ¬ q = 0) (h1 : ¬ (q = 1 ∨ q = 2)) (w : tk_who B n s nl = tk_ok i) (e : x = tk_nx B n s) : tk_ns B n nl q s = tk_ok x := by unfold tk_ns; rw [if_neg h0, if_neg h1, tk_bd_ok w, e]
theorem tk_ns_2 {i j : Nat} (h1 : q = 1 ∨ q = 2) (w : tk_who B n s nl = tk_ok i) (e1 : s1 = tk_nx B n s) (w2 : tk_who B n s1 nl = tk_ok j) (e : x = tk_nx B n s1) : tk_ns B n nl q s = tk_ok x := by
  subst e1
  unfold tk_ns; rw [if_neg (by omega), if_pos h1, tk_bd_ok w, tk_bd_ok w2, e]
theorem tk_ns_e1 (h0 : ¬ q = 0) (w : tk_who B n s nl = tk_er a b) : tk_ns B n nl q s = tk_er a b := by
  unfold tk_ns; rw [if_neg h0]
  split
  · rw [tk_bd_er w]
  · rw [tk_bd_er w]
theorem tk_ns_e2 {i : Nat} (h1 : q = 1 ∨ q = 2) (w : tk_who B n s nl = tk_ok i) (e1 : s1 = tk_nx B n s) (w2 : tk_who B n s1 nl = tk_er a b) : tk_ns B n nl q s = tk_er a b := by
  subst e1
  unfold tk_ns; rw [if_neg (by omega), if_pos h1, tk_bd_ok w, tk_bd_er w2]
-- behind the word
theorem tk_rd_6 {r : tk_R Int} (h : q = 6) (e : tk_ob B n 1 20 40 s = r) : tk_rd B n nl q s = r := by unfold tk_rd; rw [if_pos h, e]
theorem tk_rd_n {r : tk_R Int} (h : ¬ q = 6) (e : tk_ns B n nl q s = tk_ok s1) (e2 : tk_nm B n 0 999 s1 = r) : tk_rd B n nl q s = r := by unfold tk_rd; rw [if_neg h, tk_bd_ok e, e2]
theorem tk_rd_e (h : ¬ q = 6) (e : tk_ns B n nl q s = tk_er a b) : tk_rd B n nl q s = tk_er a b := by unfold tk_rd; rw [if_neg h, tk_bd_er e]
-- a command
theorem tk_cm_e1 (h : tk_kw B n s = -1) (ha : q_is a 1) (hb : q_is b s) : tk_cm B n nl s d c = tk_er a b := by
  have ha : a = 1 := ha
  have hb : b = s := hb
  unfold tk_cm; rw [if_pos h, ha, hb]
theorem tk_cm_e3 (h : tk_kw B n s = q) (hq : q = 6) (hd : 2 ≤ d) (ha : q_is a 3) (hb : q_is b s) : tk_cm B n nl s d c = tk_er a b := by
  subst hq
  have ha : a = 3 := ha
  have hb : b = s := hb
  unfold tk_cm; rw [if_neg (by rw [h]; decide), if_pos ⟨h, hd⟩, ha, hb]
theorem tk_cm_e5 (h : tk_kw B n s = q) (hq : q ≠ -1) (hd : ¬ (q = 6 ∧ 2 ≤ d)) (hc : 30 ≤ c) (ha : q_is a 5) (hb : q_is b s) : tk_cm B n nl s d c = tk_er a b := by
  have ha : a = 5 := ha
  have hb : b = s := hb
  unfold tk_cm; rw [h, if_neg hq, if_neg hd, if_pos hc, ha, hb]
theorem tk_cm_go (h : tk_kw B n s = q) (hq : q ≠ -1) (hd : ¬ (q = 6 ∧ 2 ≤ d)) (hc : ¬ 30 ≤ c) (e : x = tk_nx B n s) (r : tk_rd B n nl q x = tk_ok s3) (hd1 : d1 = (if q = 6 then d + 1 else d)) (hc1 : c1 = c + 1) : tk_cm B n nl s d c = tk_ok (s3, d1, c1) := by
  subst e
  unfold tk_cm; rw [h, if_neg hq, if_neg hd, if_neg hc, tk_bd_ok r, ← hd1, hc1]
theorem tk_cm_er (h : tk_kw B n s = q) (hq : q ≠ -1) (hd : ¬ (q = 6 ∧ 2 ≤ d)) (hc : ¬ 30 ≤ c) (e : x = tk_nx B n s) (r : tk_rd B n nl q x = tk_er a b) : tk_cm B n nl s d c = tk_er a b := by
  subst e
  unfold tk_cm; rw [h, if_neg hq, if_neg hd, if_neg hc, tk_bd_er r]
theorem tk_cd_e (h : tk_cm B n nl s d c = tk_er a b) : tk_cd B n nl s d c = tk_er a b := by unfold tk_cd; rw [tk_bd_er h]
theorem tk_cd_6 (h : tk_cm B n nl s d c = tk_ok (s1, d1, c1)) (hd : ¬ d1 = d) : tk_cd B n nl s d c = tk_ok (s1, d1, c1) := by unfold tk_cd; rw [tk_bd_ok h, if_neg hd]
theorem tk_cd_n (h : tk_cm B n nl s d c = tk_ok (s1, d1, c1)) (hd : d1 = d) (e : tk_mk B n 59 s1 = tk_ok s2) : tk_cd B n nl s d c = tk_ok (s2, d1, c1) := by unfold tk_cd; rw [tk_bd_ok h, if_pos hd, tk_bd_ok e]
theorem tk_cd_ne (h : tk_cm B n nl s d c = tk_ok (s1, d1, c1)) (hd : d1 = d) (e : tk_mk B n 59 s1 = tk_er a b) : tk_cd B n nl s d c = tk_er a b := by unfold tk_cd; rw [tk_bd_ok h, if_pos hd, tk_bd_er e]
theorem tk_cd_c (h : tk_kw B n s = q) (hq : q ≠ -1) (h6 : ¬ q = 6) (hd : ¬ (q = 6 ∧ 2 ≤ d)) (hc : ¬ 30 ≤ c) (e : x = tk_nx B n s) (r : tk_ns B n nl q x = tk_ok s1) (o : tk_ob B n 0 999 59 s1 = tk_ok s2) : tk_cd B n nl s d c = tk_ok (s2, d, c + 1) := by
  unfold tk_ob at o
  obtain ⟨s3, h3, h4⟩ := tk_bd_is o
  exact tk_cd_n (tk_cm_go h hq hd hc e (tk_rd_n h6 r h3) (by rw [if_neg h6]) rfl) rfl h4
theorem tk_cd_ce (h : tk_kw B n s = q) (hq : q ≠ -1) (h6 : ¬ q = 6) (hd : ¬ (q = 6 ∧ 2 ≤ d)) (hc : ¬ 30 ≤ c) (e : x = tk_nx B n s) (r : tk_ns B n nl q x = tk_ok s1) (o : tk_ob B n 0 999 59 s1 = tk_er a b) : tk_cd B n nl s d c = tk_er a b := by
  unfold tk_ob at o
  generalize h3 : tk_nm B n 0 999 s1 = y at o
  cases y with
  | ok s3 => exact tk_cd_ne (tk_cm_go h hq hd hc e (tk_rd_n h6 r h3) (by rw [if_neg h6]) rfl) rfl o
  | error p =>
    obtain ⟨a1, b1⟩ := p
    have o : (tk_er a1 b1 : tk_R Int) = tk_er a b := o
    have h5 := Except.error.inj o
    rw [Prod.mk.injEq] at h5
    obtain ⟨rfl, rfl⟩ := h5
    exact tk_cd_e (tk_cm_er h hq hd hc e (tk_rd_n h6 r h3))
theorem tk_if6 (h : q = 6) : d + 1 = (if q = 6 then d + 1 else d) := by rw [if_pos h]
-- which command it is
theorem tk_kw_0 (h0 : tk_isw9 B n tk_wTick s) : tk_kw B n s = 0 := by unfold tk_kw; rw [if_pos h0]
theorem tk_kw_1 (h0 : ¬ tk_isw9 B n tk_wTick s) (h1 : tk_isw9 B n tk_wSend s) : tk_kw B n s = 1 := by unfold tk_kw; rw [if_neg h0, if_pos h1]
theorem tk_kw_2 (h0 : ¬ tk_isw9 B n tk_wTick s) (h1 : ¬ tk_isw9 B n tk_wSend s) (h2 : tk_isw9 B n tk_wCall s) : tk_kw B n s = 2 := by unfold tk_kw; rw [if_neg h0, if_neg h1, if_pos h2]
theorem tk_kw_3 (h0 : ¬ tk_isw9 B n tk_wTick s) (h1 : ¬ tk_isw9 B n tk_wSend s) (h2 : ¬ tk_isw9 B n tk_wCall s) (h3 : tk_isw9 B n tk_wShift s) : tk_kw B n s = 3 := by unfold tk_kw; rw [if_neg h0, if_neg h1, if_neg h2, if_pos h3]
theorem tk_kw_4 (h0 : ¬ tk_isw9 B n tk_wTick s) (h1 : ¬ tk_isw9 B n tk_wSend s) (h2 : ¬ tk_isw9 B n tk_wCall s) (h3 : ¬ tk_isw9 B n tk_wShift s) (h4 : tk_isw9 B n tk_wWatch s) : tk_kw B n s = 4 := by unfold tk_kw; rw [if_neg h0, if_neg h1, if_neg h2, if_neg h3, if_pos h4]
theorem tk_kw_5 (h0 : ¬ tk_isw9 B n tk_wTick s) (h1 : ¬ tk_isw9 B n tk_wSend s) (h2 : ¬ tk_isw9 B n tk_wCall s) (h3 : ¬ tk_isw9 B n tk_wShift s) (h4 : ¬ tk_isw9 B n tk_wWatch s) (h5 : tk_isw9 B n tk_wCharge s) : tk_kw B n s = 5 := by unfold tk_kw; rw [if_neg h0, if_neg h1, if_neg h2, if_neg h3, if_neg h4, if_pos h5]
theorem tk_kw_6 (h0 : ¬ tk_isw9 B n tk_wTick s) (h1 : ¬ tk_isw9 B n tk_wSend s) (h2 : ¬ tk_isw9 B n tk_wCall s) (h3 : ¬ tk_isw9 B n tk_wShift s) (h4 : ¬ tk_isw9 B n tk_wWatch s) (h5 : ¬ tk_isw9 B n tk_wCharge s) (h6 : tk_isw9 B n tk_wRepeat s) : tk_kw B n s = 6 := by unfold tk_kw; rw [if_neg h0, if_neg h1, if_neg h2, if_neg h3, if_neg h4, if_neg h5, if_pos h6]
theorem tk_kw_7 (h0 : ¬ tk_isw9 B n tk_wTick s) (h1 : ¬ tk_isw9 B n tk_wSend s) (h2 : ¬ tk_isw9 B n tk_wCall s) (h3 : ¬ tk_isw9 B n tk_wShift s) (h4 : ¬ tk_isw9 B n tk_wWatch s) (h5 : ¬ tk_isw9 B n tk_wCharge s) (h6 : ¬ tk_isw9 B n tk_wRepeat s) : tk_kw B n s = -1 := by unfold tk_kw; rw [if_neg h0, if_neg h1, if_neg h2, if_neg h3, if_neg h4, if_neg h5, if_neg h6]
end QSL
