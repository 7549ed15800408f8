/-! the statements of a text -/
theorem tk_okx {F : tk_R Int} {a x : Int} (h : F = tk_ok a) (hx : q_is a x) : F = tk_ok x := by
  have hx : a = x := hx
  rw [h, hx]
theorem tk_okp {F : tk_R (Int × tk_A)} {A : tk_A} {a x : Int} (h : F = tk_ok (x, A)) (hx : q_is a x) : F = tk_ok (a, A) := by
  have hx : a = x := hx
  rw [h, hx]
theorem tk_okq {F : tk_R (Int × tk_A)} {A : tk_A} {a x : Int} (h : F = tk_ok (a, A)) (hx : q_is a x) : F = tk_ok (x, A) := by
  have hx : a = x := hx
  rw [h, hx]
theorem tk_nz_tr {f f1 : Nat → va_E} {a nds k : Nat} (h : a = q_r f nds k) (e : ∀ i : Nat, q_r f1 nds i = q_r f nds i) : a = q_r f1 nds k := h.trans (e k).symm
theorem tk_nor {b a : Nat} {x : Bool} (h : ¬ b = a) (hx : x = false) : ¬ (b = a ∨ x = true) := by
  rintro (h9 | h9)
  · exact h h9
  · rw [hx] at h9; exact absurd h9 (by decide)
theorem tk_ex_eq {F G : tk_R (Int × tk_A)} {x : Int} {P : tk_A → Prop} (e : F = G) (h : ∃ A1 : tk_A, G = tk_ok (x, A1) ∧ P A1) : ∃ A1 : tk_A, F = tk_ok (x, A1) ∧ P A1 := by rw [e]; exact h
section QST
variable {B : Nat → Int} {n s x x0 x1 x2 x3 x4 x5 a b c p : Int} {A A1 : tk_A}
theorem tk_who_ok {l : List (List Int)} {i : Nat} (hk : tk_k B n s = 1) (hi : tk_ix l (tk_w B n s) = some i) : tk_who B n s l = tk_ok i := by
  unfold tk_who; rw [if_pos hk, hi]
theorem tk_who_e1 {l : List (List Int)} (hk : tk_k B n s ≠ 1) (ha : q_is a 1) (hb : q_is b s) : tk_who B n s l = tk_er a b := by
  have ha : a = 1 := ha
  have hb : b = s := hb
  unfold tk_who; rw [if_neg hk, ha, hb]
theorem tk_who_e4 {l : List (List Int)} (hk : tk_k B n s = 1) (hi : tk_ix l (tk_w B n s) = none) (ha : q_is a 4) (hb : q_is b s) : tk_who B n s l = tk_er a b := by
  have ha : a = 4 := ha
  have hb : b = s := hb
  unfold tk_who; rw [if_pos hk, hi, ha, hb]
theorem tk_year_ok (hy : tk_yr A = false) (e0 : x0 = tk_nx B n s) (e1 : tk_nm B n 4 60 x0 = tk_ok x1) : tk_year B n s A = tk_ok (x1, tk_sy A) := by
  subst e0
  unfold tk_year; rw [if_neg (by rw [hy]; decide), tk_bd_ok e1]
theorem tk_year_e1 (hy : tk_yr A = false) (e0 : x0 = tk_nx B n s) (e1 : tk_nm B n 4 60 x0 = tk_er c p) : tk_year B n s A = tk_er c p := by
  subst e0
  unfold tk_year; rw [if_neg (by rw [hy]; decide), tk_bd_er e1]
theorem tk_year_told (hy : tk_yr A = true) (ha : q_is a 3) (hb : q_is b s) : tk_year B n s A = tk_er a b := by
  have ha : a = 3 := ha
  have hb : b = s := hb
  unfold tk_year; rw [if_pos hy, ha, hb]
theorem tk_miss_ok (hy : tk_mi A = false) (e0 : x0 = tk_nx B n s) (e1 : tk_nm B n 1 9 x0 = tk_ok x1) : tk_miss B n s A = tk_ok (x1, tk_sm A) := by
  subst e0
  unfold tk_miss; rw [if_neg (by rw [hy]; decide), tk_bd_ok e1]
theorem tk_miss_e1 (hy : tk_mi A = false) (e0 : x0 = tk_nx B n s) (e1 : tk_nm B n 1 9 x0 = tk_er c p) : tk_miss B n s A = tk_er c p := by
  subst e0
  unfold tk_miss; rw [if_neg (by rw [hy]; decide), tk_bd_er e1]
theorem tk_miss_told (hy : tk_mi A = true) (ha : q_is a 3) (hb : q_is b s) : tk_miss B n s A = tk_er a b := by
  have ha : a = 3 := ha
  have hb : b = s := hb
  unfold tk_miss; rw [if_pos hy, ha, hb]
theorem tk_costs_ok (hy : tk_co A = false) (e0 : x0 = tk_nx B n s) (e1 : tk_nm B n 0 99 x0 = tk_ok x1) (e2 : tk_nm B n 0 99 x1 = tk_ok x2) (e3 : tk_nm B n 0 99 x2 = tk_ok x3) : tk_costs B n s A = tk_ok (x3, tk_sc A) := by
  subst e0
  unfold tk_costs; rw [if_neg (by rw [hy]; decide), tk_bd_ok e1, tk_bd_ok e2, tk_bd_ok e3]
theorem tk_costs_e1 (hy : tk_co A = false) (e0 : x0 = tk_nx B n s) (e1 : tk_nm B n 0 99 x0 = tk_er c p) : tk_costs B n s A = tk_er c p := by
  subst e0
  unfold tk_costs; rw [if_neg (by rw [hy]; decide), tk_bd_er e1]
theorem tk_costs_e2 (hy : tk_co A = false) (e0 : x0 = tk_nx B n s) (e1 : tk_nm B n 0 99 x0 = tk_ok x1) (e2 : tk_nm B n 0 99 x1 = tk_er c p) : tk_costs B n s A = tk_er c p := by
  subst e0
  unfold tk_costs; rw [if_neg (by rw [hy]; decide), tk_bd_ok e1, tk_bd_er e2]
theorem tk_costs_e3 (hy : tk_co A = false) (e0 : x0 = tk_nx B n s) (e1 : tk_nm B n 0 99 x0 = tk_ok x1) (e2 : tk_nm B n 0 99 x1 = tk_ok x2) (e3 : tk_nm B n 0 99 x2 = tk_er c p) : tk_costs B n s A = tk_er c p := by
  subst e0
  unfold tk_costs; rw [if_neg (by rw [hy]; decide), tk_bd_ok e1, tk_bd_ok e2, tk_bd_er e3]
theorem tk_costs_told (hy : tk_co A = true) (ha : q_is a 3) (hb : q_is b s) : tk_costs B n s A = tk_er a b := by
  have ha : a = 3 := ha
  have hb : b = s := hb
  unfold tk_costs; rw [if_pos hy, ha, hb]
theorem tk_shift_n (h : ¬ tk_isw9 B n tk_wShift s) : tk_shift B n s = tk_ok s := by unfold tk_shift; rw [if_neg h]
theorem tk_shift_y {r : tk_R Int} (h : tk_isw9 B n tk_wShift s) (e0 : x0 = tk_nx B n s) (e1 : tk_nm B n 0 59 x0 = r) : tk_shift B n s = r := by
  subst e0
  unfold tk_shift; rw [if_pos h, e1]
theorem tk_rest_ok (e1 : tk_wd B n tk_wBorn s = tk_ok x1) (e2 : tk_nm B n 0 59 x1 = tk_ok x2) (e3 : tk_shift B n x2 = tk_ok x3) (e4 : tk_wd B n tk_wEnergy x3 = tk_ok x4) (e5 : tk_nm B n 1 999 x4 = tk_ok x5) : tk_rest B n s = tk_ok x5 := by
  unfold tk_rest; rw [tk_bd_ok e1, tk_bd_ok e2, tk_bd_ok e3, tk_bd_ok e4, e5]
theorem tk_rest_e1 (e1 : tk_wd B n tk_wBorn s = tk_er c p) : tk_rest B n s = tk_er c p := by
  unfold tk_rest; rw [tk_bd_er e1]
theorem tk_rest_e2 (e1 : tk_wd B n tk_wBorn s = tk_ok x1) (e2 : tk_nm B n 0 59 x1 = tk_er c p) : tk_rest B n s = tk_er c p := by
  unfold tk_rest; rw [tk_bd_ok e1, tk_bd_er e2]
theorem tk_rest_e3 (e1 : tk_wd B n tk_wBorn s = tk_ok x1) (e2 : tk_nm B n 0 59 x1 = tk_ok x2) (e3 : tk_shift B n x2 = tk_er c p) : tk_rest B n s = tk_er c p := by
  unfold tk_rest; rw [tk_bd_ok e1, tk_bd_ok e2, tk_bd_er e3]
theorem tk_rest_e4 (e1 : tk_wd B n tk_wBorn s = tk_ok x1) (e2 : tk_nm B n 0 59 x1 = tk_ok x2) (e3 : tk_shift B n x2 = tk_ok x3) (e4 : tk_wd B n tk_wEnergy x3 = tk_er c p) : tk_rest B n s = tk_er c p := by
  unfold tk_rest; rw [tk_bd_ok e1, tk_bd_ok e2, tk_bd_ok e3, tk_bd_er e4]
theorem tk_rest_e5 (e1 : tk_wd B n tk_wBorn s = tk_ok x1) (e2 : tk_nm B n 0 59 x1 = tk_ok x2) (e3 : tk_shift B n x2 = tk_ok x3) (e4 : tk_wd B n tk_wEnergy x3 = tk_ok x4) (e5 : tk_nm B n 1 999 x4 = tk_er c p) : tk_rest B n s = tk_er c p := by
  unfold tk_rest; rw [tk_bd_ok e1, tk_bd_ok e2, tk_bd_ok e3, tk_bd_ok e4, e5]
theorem tk_node_go (hl : ¬ 10 ≤ (tk_nd A).length) (e0 : x0 = tk_nx B n s) (hk : tk_k B n x0 = 1) (hi : tk_ix (tk_nd A) (tk_w B n x0) = none) (e1 : x1 = tk_nx B n x0) : tk_node B n s A = tk_bd (tk_rest B n x1) fun s5 => tk_ok (s5, tk_an A (tk_w B n x0)) := by
  subst e0; subst e1
  unfold tk_node; rw [if_neg hl, if_pos hk, hi]; rfl
theorem tk_node_e5 (hl : 10 ≤ (tk_nd A).length) (ha : q_is a 5) (hb : q_is b s) : tk_node B n s A = tk_er a b := by
  have ha : a = 5 := ha
  have hb : b = s := hb
  unfold tk_node; rw [if_pos hl, ha, hb]
theorem tk_node_e1 (hl : ¬ 10 ≤ (tk_nd A).length) (e0 : x0 = tk_nx B n s) (hk : tk_k B n x0 ≠ 1) (ha : q_is a 1) (hb : q_is b x0) : tk_node B n s A = tk_er a b := by
  have ha : a = 1 := ha
  have hb : b = x0 := hb
  subst e0
  unfold tk_node; rw [if_neg hl, if_neg hk, ha, hb]
theorem tk_node_e3 {k : Nat} (hl : ¬ 10 ≤ (tk_nd A).length) (e0 : x0 = tk_nx B n s) (hk : tk_k B n x0 = 1) (hi : tk_ix (tk_nd A) (tk_w B n x0) = some k) (ha : q_is a 3) (hb : q_is b x0) : tk_node B n s A = tk_er a b := by
  have ha : a = 3 := ha
  have hb : b = x0 := hb
  subst e0
  unfold tk_node; rw [if_neg hl, if_pos hk, hi, ha, hb]; rfl
theorem tk_link_e5 (hl : 16 ≤ (tk_lk A).length) (ha : q_is a 5) (hb : q_is b s) : tk_link B n s A = tk_er a b := by
  have ha : a = 5 := ha
  have hb : b = s := hb
  unfold tk_link; rw [if_pos hl, ha, hb]
theorem tk_link_e1 (hl : ¬ 16 ≤ (tk_lk A).length) (e0 : x0 = tk_nx B n s) (h1 : tk_who B n x0 (tk_nd A) = tk_er c p) : tk_link B n s A = tk_er c p := by
  subst e0
  unfold tk_link; rw [if_neg hl, tk_bd_er h1]
theorem tk_link_e2 {i : Nat} (hl : ¬ 16 ≤ (tk_lk A).length) (e0 : x0 = tk_nx B n s) (h1 : tk_who B n x0 (tk_nd A) = tk_ok i) (e1 : x1 = tk_nx B n x0) (h2 : tk_who B n x1 (tk_nd A) = tk_er c p) : tk_link B n s A = tk_er c p := by
  subst e0; subst e1
  unfold tk_link; rw [if_neg hl, tk_bd_ok h1, tk_bd_er h2]
theorem tk_link_e3 {i j : Nat} (hl : ¬ 16 ≤ (tk_lk A).length) (e0 : x0 = tk_nx B n s) (h1 : tk_who B n x0 (tk_nd A) = tk_ok i) (e1 : x1 = tk_nx B n x0) (h2 : tk_who B n x1 (tk_nd A) = tk_ok j) (h3 : j = i ∨ tk_has (tk_lk A) i j = true) (ha : q_is a 3) (hb : q_is b x1) : tk_link B n s A = tk_er a b := by
  have ha : a = 3 := ha
  have hb : b = x1 := hb
  subst e0; subst e1
  unfold tk_link; rw [if_neg hl, tk_bd_ok h1, tk_bd_ok h2, if_pos h3, ha, hb]
theorem tk_link_ok {i j : Nat} (hl : ¬ 16 ≤ (tk_lk A).length) (e0 : x0 = tk_nx B n s) (h1 : tk_who B n x0 (tk_nd A) = tk_ok i) (e1 : x1 = tk_nx B n x0) (h2 : tk_who B n x1 (tk_nd A) = tk_ok j) (h3 : ¬ (j = i ∨ tk_has (tk_lk A) i j = true)) (e2 : x2 = tk_nx B n x1) : tk_link B n s A = tk_ok (x2, tk_al A i j) := by
  subst e0; subst e1; subst e2
  unfold tk_link; rw [if_neg hl, tk_bd_ok h1, tk_bd_ok h2, if_neg h3]
theorem tk_st_1 (h1 : tk_isw9 B n tk_wYear s) : tk_st B n s A = tk_year B n s A := by unfold tk_st; rw [if_pos h1]
theorem tk_st_2 (h1 : ¬ tk_isw9 B n tk_wYear s) (h2 : tk_isw9 B n tk_wCosts s) : tk_st B n s A = tk_costs B n s A := by unfold tk_st; rw [if_neg h1, if_pos h2]
theorem tk_st_3 (h1 : ¬ tk_isw9 B n tk_wYear s) (h2 : ¬ tk_isw9 B n tk_wCosts s) (h3 : tk_isw9 B n tk_wMiss s) : tk_st B n s A = tk_miss B n s A := by unfold tk_st; rw [if_neg h1, if_neg h2, if_pos h3]
theorem tk_st_4 (h1 : ¬ tk_isw9 B n tk_wYear s) (h2 : ¬ tk_isw9 B n tk_wCosts s) (h3 : ¬ tk_isw9 B n tk_wMiss s) (h4 : tk_isw9 B n tk_wNode s) : tk_st B n s A = tk_node B n s A := by unfold tk_st; rw [if_neg h1, if_neg h2, if_neg h3, if_pos h4]
theorem tk_st_5 (h1 : ¬ tk_isw9 B n tk_wYear s) (h2 : ¬ tk_isw9 B n tk_wCosts s) (h3 : ¬ tk_isw9 B n tk_wMiss s) (h4 : ¬ tk_isw9 B n tk_wNode s) (h5 : tk_isw9 B n tk_wLink s) : tk_st B n s A = tk_link B n s A := by unfold tk_st; rw [if_neg h1, if_neg h2, if_neg h3, if_neg h4, if_pos h5]
theorem tk_st_0 (h1 : ¬ tk_isw9 B n tk_wYear s) (h2 : ¬ tk_isw9 B n tk_wCosts s) (h3 : ¬ tk_isw9 B n tk_wMiss s) (h4 : ¬ tk_isw9 B n tk_wNode s) (h5 : ¬ tk_isw9 B n tk_wLink s) (ha : q_is a 1) (hb : q_is b s) : tk_st B n s A = tk_er a b := by
  have ha : a = 1 := ha
  have hb : b = s := hb
  unfold tk_st; rw [if_neg h1, if_neg h2, if_neg h3, if_neg h4, if_neg h5, ha, hb]
theorem tk_stm_ok (e1 : tk_st B n s A = tk_ok (x, A1)) (e2 : tk_mk B n 59 x = tk_ok x1) : tk_stm B n s A = tk_ok (x1, A1) := by
  unfold tk_stm; rw [tk_bd_ok e1]
  show tk_bd (tk_mk B n 59 x) _ = _
  rw [tk_bd_ok e2]
theorem tk_stm_e1 (e1 : tk_st B n s A = tk_er c p) : tk_stm B n s A = tk_er c p := by unfold tk_stm; rw [tk_bd_er e1]
theorem tk_stm_e2 (e1 : tk_st B n s A = tk_ok (x, A1)) (e2 : tk_mk B n 59 x = tk_er c p) : tk_stm B n s A = tk_er c p := by
  unfold tk_stm; rw [tk_bd_ok e1]
  show tk_bd (tk_mk B n 59 x) _ = _
  rw [tk_bd_er e2]
end QST
