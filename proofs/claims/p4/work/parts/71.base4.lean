/-! the statements of a text -/
theorem t_okx {F : t_R Int} {a x : Int} (h : F = t_ok a) (hx : q_is a x) : F = t_ok x := by
  have hx : a = x := hx
  rw [h, hx]
theorem t_okp {F : t_R (Int × t_A)} {A : t_A} {a x : Int} (h : F = t_ok (x, A)) (hx : q_is a x) : F = t_ok (a, A) := by
  have hx : a = x := hx
  rw [h, hx]
theorem t_okq {F : t_R (Int × t_A)} {A : t_A} {a x : Int} (h : F = t_ok (a, A)) (hx : q_is a x) : F = t_ok (x, A) := by
  have hx : a = x := hx
  rw [h, hx]
theorem t_nz_tr {f f1 : Nat → va_E} {a nds k : Nat} (h : a = q_r f nds k) (e : ∀ i : Nat, q_r f1 nds i = q_r f nds i) : a = q_r f1 nds k := h.trans (e k).symm
theorem t_nor {b a : Nat} {x : Bool} (h : ¬ b = a) (hx : x = false) : ¬ (b = a ∨ x = true) := by
  rintro (h9 | h9)
  · exact h h9
  · rw [hx] at h9; exact absurd h9 (by decide)
theorem t_ex_eq {F G : t_R (Int × t_A)} {x : Int} {P : t_A → Prop} (e : F = G) (h : ∃ A1 : t_A, G = t_ok (x, A1) ∧ P A1) : ∃ A1 : t_A, F = t_ok (x, A1) ∧ P A1 := by rw [e]; exact h
section QST
variable {B : Nat → Int} {n s x x0 x1 x2 x3 x4 x5 a b c p : Int} {A A1 : t_A}
theorem t_who_ok {l : List (List Int)} {i : Nat} (hk : t_k B n s = 1) (hi : t_ix l (t_w B n s) = some i) : t_who B n s l = t_ok i := by
  unfold t_who; rw [if_pos hk, hi]
theorem t_who_e1 {l : List (List Int)} (hk : t_k B n s ≠ 1) (ha : q_is a 1) (hb : q_is b s) : t_who B n s l = t_er a b := by
  have ha : a = 1 := ha
  have hb : b = s := hb
  unfold t_who; rw [if_neg hk, ha, hb]
theorem t_who_e4 {l : List (List Int)} (hk : t_k B n s = 1) (hi : t_ix l (t_w B n s) = none) (ha : q_is a 4) (hb : q_is b s) : t_who B n s l = t_er a b := by
  have ha : a = 4 := ha
  have hb : b = s := hb
  unfold t_who; rw [if_pos hk, hi, ha, hb]
theorem t_year_ok (hy : t_yr A = false) (e0 : x0 = t_nx B n s) (e1 : t_nm B n 4 60 x0 = t_ok x1) : t_year B n s A = t_ok (x1, t_sy A) := by
  subst e0
  unfold t_year; rw [if_neg (by rw [hy]; decide), t_bd_ok e1]
theorem t_year_e1 (hy : t_yr A = false) (e0 : x0 = t_nx B n s) (e1 : t_nm B n 4 60 x0 = t_er c p) : t_year B n s A = t_er c p := by
  subst e0
  unfold t_year; rw [if_neg (by rw [hy]; decide), t_bd_er e1]
theorem t_year_told (hy : t_yr A = true) (ha : q_is a 3) (hb : q_is b s) : t_year B n s A = t_er a b := by
  have ha : a = 3 := ha
  have hb : b = s := hb
  unfold t_year; rw [if_pos hy, ha, hb]
theorem t_miss_ok (hy : t_mi A = false) (e0 : x0 = t_nx B n s) (e1 : t_nm B n 1 9 x0 = t_ok x1) : t_miss B n s A = t_ok (x1, t_sm A) := by
  subst e0
  unfold t_miss; rw [if_neg (by rw [hy]; decide), t_bd_ok e1]
theorem t_miss_e1 (hy : t_mi A = false) (e0 : x0 = t_nx B n s) (e1 : t_nm B n 1 9 x0 = t_er c p) : t_miss B n s A = t_er c p := by
  subst e0
  unfold t_miss; rw [if_neg (by rw [hy]; decide), t_bd_er e1]
theorem t_miss_told (hy : t_mi A = true) (ha : q_is a 3) (hb : q_is b s) : t_miss B n s A = t_er a b := by
  have ha : a = 3 := ha
  have hb : b = s := hb
  unfold t_miss; rw [if_pos hy, ha, hb]
theorem t_costs_ok (hy : t_co A = false) (e0 : x0 = t_nx B n s) (e1 : t_nm B n 0 99 x0 = t_ok x1) (e2 : t_nm B n 0 99 x1 = t_ok x2) (e3 : t_nm B n 0 99 x2 = t_ok x3) : t_costs B n s A = t_ok (x3, t_sc A) := by
  subst e0
  unfold t_costs; rw [if_neg (by rw [hy]; decide), t_bd_ok e1, t_bd_ok e2, t_bd_ok e3]
theorem t_costs_e1 (hy : t_co A = false) (e0 : x0 = t_nx B n s) (e1 : t_nm B n 0 99 x0 = t_er c p) : t_costs B n s A = t_er c p := by
  subst e0
  unfold t_costs; rw [if_neg (by rw [hy]; decide), t_bd_er e1]
theorem t_costs_e2 (hy : t_co A = false) (e0 : x0 = t_nx B n s) (e1 : t_nm B n 0 99 x0 = t_ok x1) (e2 : t_nm B n 0 99 x1 = t_er c p) : t_costs B n s A = t_er c p := by
  subst e0
  unfold t_costs; rw [if_neg (by rw [hy]; decide), t_bd_ok e1, t_bd_er e2]
theorem t_costs_e3 (hy : t_co A = false) (e0 : x0 = t_nx B n s) (e1 : t_nm B n 0 99 x0 = t_ok x1) (e2 : t_nm B n 0 99 x1 = t_ok x2) (e3 : t_nm B n 0 99 x2 = t_er c p) : t_costs B n s A = t_er c p := by
  subst e0
  unfold t_costs; rw [if_neg (by rw [hy]; decide), t_bd_ok e1, t_bd_ok e2, t_bd_er e3]
theorem t_costs_told (hy : t_co A = true) (ha : q_is a 3) (hb : q_is b s) : t_costs B n s A = t_er a b := by
  have ha : a = 3 := ha
  have hb : b = s := hb
  unfold t_costs; rw [if_pos hy, ha, hb]
theorem t_shift_n (h : ¬ t_isw9 B n t_wShift s) : t_shift B n s = t_ok s := by unfold t_shift; rw [if_neg h]
theorem t_shift_y {r : t_R Int} (h : t_isw9 B n t_wShift s) (e0 : x0 = t_nx B n s) (e1 : t_nm B n 0 59 x0 = r) : t_shift B n s = r := by
  subst e0
  unfold t_shift; rw [if_pos h, e1]
theorem t_rest_ok (e1 : t_wd B n t_wBorn s = t_ok x1) (e2 : t_nm B n 0 59 x1 = t_ok x2) (e3 : t_shift B n x2 = t_ok x3) (e4 : t_wd B n t_wEnergy x3 = t_ok x4) (e5 : t_nm B n 1 999 x4 = t_ok x5) : t_rest B n s = t_ok x5 := by
  unfold t_rest; rw [t_bd_ok e1, t_bd_ok e2, t_bd_ok e3, t_bd_ok e4, e5]
theorem t_rest_e1 (e1 : t_wd B n t_wBorn s = t_er c p) : t_rest B n s = t_er c p := by
  unfold t_rest; rw [t_bd_er e1]
theorem t_rest_e2 (e1 : t_wd B n t_wBorn s = t_ok x1) (e2 : t_nm B n 0 59 x1 = t_er c p) : t_rest B n s = t_er c p := by
  unfold t_rest; rw [t_bd_ok e1, t_bd_er e2]
theorem t_rest_e3 (e1 : t_wd B n t_wBorn s = t_ok x1) (e2 : t_nm B n 0 59 x1 = t_ok x2) (e3 : t_shift B n x2 = t_er c p) : t_rest B n s = t_er c p := by
  unfold t_rest; rw [t_bd_ok e1, t_bd_ok e2, t_bd_er e3]
theorem t_rest_e4 (e1 : t_wd B n t_wBorn s = t_ok x1) (e2 : t_nm B n 0 59 x1 = t_ok x2) (e3 : t_shift B n x2 = t_ok x3) (e4 : t_wd B n t_wEnergy x3 = t_er c p) : t_rest B n s = t_er c p := by
  unfold t_rest; rw [t_bd_ok e1, t_bd_ok e2, t_bd_ok e3, t_bd_er e4]
theorem t_rest_e5 (e1 : t_wd B n t_wBorn s = t_ok x1) (e2 : t_nm B n 0 59 x1 = t_ok x2) (e3 : t_shift B n x2 = t_ok x3) (e4 : t_wd B n t_wEnergy x3 = t_ok x4) (e5 : t_nm B n 1 999 x4 = t_er c p) : t_rest B n s = t_er c p := by
  unfold t_rest; rw [t_bd_ok e1, t_bd_ok e2, t_bd_ok e3, t_bd_ok e4, e5]
theorem t_node_go (hl : ¬ 10 ≤ (t_nd A).length) (e0 : x0 = t_nx B n s) (hk : t_k B n x0 = 1) (hi : t_ix (t_nd A) (t_w B n x0) = none) (e1 : x1 = t_nx B n x0) : t_node B n s A = t_bd (t_rest B n x1) fun s5 => t_ok (s5, t_an A (t_w B n x0)) := by
  subst e0; subst e1
  unfold t_node; rw [if_neg hl, if_pos hk, hi]; rfl
theorem t_node_e5 (hl : 10 ≤ (t_nd A).length) (ha : q_is a 5) (hb : q_is b s) : t_node B n s A = t_er a b := by
  have ha : a = 5 := ha
  have hb : b = s := hb
  unfold t_node; rw [if_pos hl, ha, hb]
theorem t_node_e1 (hl : ¬ 10 ≤ (t_nd A).length) (e0 : x0 = t_nx B n s) (hk : t_k B n x0 ≠ 1) (ha : q_is a 1) (hb : q_is b x0) : t_node B n s A = t_er a b := by
  have ha : a = 1 := ha
  have hb : b = x0 := hb
  subst e0
  unfold t_node; rw [if_neg hl, if_neg hk, ha, hb]
theorem t_node_e3 {k : Nat} (hl : ¬ 10 ≤ (t_nd A).length) (e0 : x0 = t_nx B n s) (hk : t_k B n x0 = 1) (hi : t_ix (t_nd A) (t_w B n x0) = some k) (ha : q_is a 3) (hb : q_is b x0) : t_node B n s A = t_er a b := by
  have ha : a = 3 := ha
  have hb : b = x0 := hb
  subst e0
  unfold t_node; rw [if_neg hl, if_pos hk, hi, ha, hb]; rfl
theorem t_link_e5 (hl : 16 ≤ (t_lk A).length) (ha : q_is a 5) (hb : q_is b s) : t_link B n s A = t_er a b := by
  have ha : a = 5 := ha
  have hb : b = s := hb
  unfold t_link; rw [if_pos hl, ha, hb]
theorem t_link_e1 (hl : ¬ 16 ≤ (t_lk A).length) (e0 : x0 = t_nx B n s) (h1 : t_who B n x0 (t_nd A) = t_er c p) : t_link B n s A = t_er c p := by
  subst e0
  unfold t_link; rw [if_neg hl, t_bd_er h1]
theorem t_link_e2 {i : Nat} (hl : ¬ 16 ≤ (t_lk A).length) (e0 : x0 = t_nx B n s) (h1 : t_who B n x0 (t_nd A) = t_ok i) (e1 : x1 = t_nx B n x0) (h2 : t_who B n x1 (t_nd A) = t_er c p) : t_link B n s A = t_er c p := by
  subst e0; subst e1
  unfold t_link; rw [if_neg hl, t_bd_ok h1, t_bd_er h2]
theorem t_link_e3 {i j : Nat} (hl : ¬ 16 ≤ (t_lk A).length) (e0 : x0 = t_nx B n s) (h1 : t_who B n x0 (t_nd A) = t_ok i) (e1 : x1 = t_nx B n x0) (h2 : t_who B n x1 (t_nd A) = t_ok j) (h3 : j = i ∨ t_has (t_lk A) i j = true) (ha : q_is a 3) (hb : q_is b x1) : t_link B n s A = t_er a b := by
  have ha : a = 3 := ha
  have hb : b = x1 := hb
  subst e0; subst e1
  unfold t_link; rw [if_neg hl, t_bd_ok h1, t_bd_ok h2, if_pos h3, ha, hb]
theorem t_link_ok {i j : Nat} (hl : ¬ 16 ≤ (t_lk A).length) (e0 : x0 = t_nx B n s) (h1 : t_who B n x0 (t_nd A) = t_ok i) (e1 : x1 = t_nx B n x0) (h2 : t_who B n x1 (t_nd A) = t_ok j) (h3 : ¬ (j = i ∨ t_has (t_lk A) i j = true)) (e2 : x2 = t_nx B n x1) : t_link B n s A = t_ok (x2, t_al A i j) := by
  subst e0; subst e1; subst e2
  unfold t_link; rw [if_neg hl, t_bd_ok h1, t_bd_ok h2, if_neg h3]
theorem t_st_1 (h1 : t_isw9 B n t_wYear s) : t_st B n s A = t_year B n s A := by unfold t_st; rw [if_pos h1]
theorem t_st_2 (h1 : ¬ t_isw9 B n t_wYear s) (h2 : t_isw9 B n t_wCosts s) : t_st B n s A = t_costs B n s A := by unfold t_st; rw [if_neg h1, if_pos h2]
theorem t_st_3 (h1 : ¬ t_isw9 B n t_wYear s) (h2 : ¬ t_isw9 B n t_wCosts s) (h3 : t_isw9 B n t_wMiss s) : t_st B n s A = t_miss B n s A := by unfold t_st; rw [if_neg h1, if_neg h2, if_pos h3]
theorem t_st_4 (h1 : ¬ t_isw9 B n t_wYear s) (h2 : ¬ t_isw9 B n t_wCosts s) (h3 : ¬ t_isw9 B n t_wMiss s) (h4 : t_isw9 B n t_wNode s) : t_st B n s A = t_node B n s A := by unfold t_st; rw [if_neg h1, if_neg h2, if_neg h3, if_pos h4]
theorem t_st_5 (h1 : ¬ t_isw9 B n t_wYear s) (h2 : ¬ t_isw9 B n t_wCosts s) (h3 : ¬ t_isw9 B n t_wMiss s) (h4 : ¬ t_isw9 B n t_wNode s) (h5 : t_isw9 B n t_wLink s) : t_st B n s A = t_link B n s A := by unfold t_st; rw [if_neg h1, if_neg h2, if_neg h3, if_neg h4, if_pos h5]
theorem t_st_0 (h1 : ¬ t_isw9 B n t_wYear s) (h2 : ¬ t_isw9 B n t_wCosts s) (h3 : ¬ t_isw9 B n t_wMiss s) (h4 : ¬ t_isw9 B n t_wNode s) (h5 : ¬ t_isw9 B n t_wLink s) (ha : q_is a 1) (hb : q_is b s) : t_st B n s A = t_er a b := by
  have ha : a = 1 := ha
  have hb : b = s := hb
  unfold t_st; rw [if_neg h1, if_neg h2, if_neg h3, if_neg h4, if_neg h5, ha, hb]
theorem t_stm_ok (e1 : t_st B n s A = t_ok (x, A1)) (e2 : t_mk B n 59 x = t_ok x1) : t_stm B n s A = t_ok (x1, A1) := by
  unfold t_stm; rw [t_bd_ok e1]
  show t_bd (t_mk B n 59 x) _ = _
  rw [t_bd_ok e2]
theorem t_stm_e1 (e1 : t_st B n s A = t_er c p) : t_stm B n s A = t_er c p := by unfold t_stm; rw [t_bd_er e1]
theorem t_stm_e2 (e1 : t_st B n s A = t_ok (x, A1)) (e2 : t_mk B n 59 x = t_er c p) : t_stm B n s A = t_er c p := by
  unfold t_stm; rw [t_bd_ok e1]
  show t_bd (t_mk B n 59 x) _ = _
  rw [t_bd_er e2]
end QST
