/-! copies, what is sent and charged, figures, what comes -/
def tw_cr (τ : tw_S) (r q : Nat) : List Nat → tw_S → tw_S
  | [], σ => σ
  | c :: cs, σ => tw_cr τ r q cs (tw_u σ r c (τ q c))
def tw_c0 (σ τ : tw_S) : tw_S := tw_cr τ 0 0 [3, 4, 5, 6, 7, 8, 9, 10, 11, 12] σ
def tw_cn (σ τ : tw_S) (r q : Nat) : tw_S := tw_cr τ r q [2, 3, 4, 5, 6, 7, 8] σ
def tw_cl (σ τ : tw_S) (r q : Nat) : tw_S := tw_cr τ r q [0, 1, 2, 3, 4] σ
def tw_cm (σ τ : tw_S) (r q : Nat) : tw_S := tw_cr τ r q [0, 1, 2, 3, 4, 5, 6, 7] σ
def tw_cnl (σ τ : tw_S) : Nat → tw_S
  | 0 => σ
  | i + 1 => tw_cn (tw_cnl σ τ i) τ (1 + i) (1 + i)
def tw_cll (σ τ : tw_S) : Nat → tw_S
  | 0 => σ
  | i + 1 => tw_cl (tw_cll σ τ i) τ (11 + i) (11 + i)
def tw_cml (σ τ : tw_S) : Nat → tw_S
  | 0 => σ
  | i + 1 => tw_cm (tw_cml σ τ i) τ (27 + i) (27 + i)
def tw_cp (σ τ : tw_S) : tw_S := tw_cml (tw_cll (tw_cnl (tw_c0 σ τ) τ (Int.toNat (τ 0 3))) τ (Int.toNat (τ 0 4))) τ (Int.toNat (τ 0 5))
theorem tw_cnl_s {σ τ : tw_S} {v : Int} (h : 0 ≤ v) : tw_cnl σ τ (Int.toNat (v + 1)) = tw_cn (tw_cnl σ τ (Int.toNat v)) τ (1 + Int.toNat v) (1 + Int.toNat v) := by rw [tw_n1 h, tw_cnl]
theorem tw_cll_s {σ τ : tw_S} {v : Int} (h : 0 ≤ v) : tw_cll σ τ (Int.toNat (v + 1)) = tw_cl (tw_cll σ τ (Int.toNat v)) τ (11 + Int.toNat v) (11 + Int.toNat v) := by rw [tw_n1 h, tw_cll]
theorem tw_cml_s {σ τ : tw_S} {v : Int} (h : 0 ≤ v) : tw_cml σ τ (Int.toNat (v + 1)) = tw_cm (tw_cml σ τ (Int.toNat v)) τ (27 + Int.toNat v) (27 + Int.toNat v) := by rw [tw_n1 h, tw_cml]
/-- a message is sent -/
def tw_am2 (σ : tw_S) (r : Nat) (a b w u : Int) : tw_S := tw_u (tw_u (tw_u (tw_u (tw_u (tw_u (tw_u (tw_u σ r 0 a) r 1 b) r 2 a) r 3 0) r 4 ((tw_u (tw_u (tw_u (tw_u σ r 0 a) r 1 b) r 2 a) r 3 0) 0 11 + w)) r 5 (-1)) r 6 0) r 7 u
def tw_am (σ : tw_S) (a b w u : Int) : tw_S := tw_u (tw_am2 σ (27 + Int.toNat (σ 0 5)) a b w u) 0 5 ((tw_am2 σ (27 + Int.toNat (σ 0 5)) a b w u) 0 5 + 1)
/-- a node is charged -/
def tw_ae (σ : tw_S) (k b : Int) : tw_S := tw_u σ (1 + Int.toNat k) 4 (min 9999 (tw_w (σ (1 + Int.toNat k) 4 + b)))
/-- figures -/
def tw_mf (σ : tw_S) (m i : Int) : Int := if i = 0 then σ (27 + Int.toNat m) 0 else if i = 1 then σ (27 + Int.toNat m) 1 else if i = 2 then σ (27 + Int.toNat m) 2 else if i = 3 then σ (27 + Int.toNat m) 3 else if i = 4 then σ (27 + Int.toNat m) 4 else if i = 5 then (if σ (27 + Int.toNat m) 7 = 0 then 0 else 1) else if i = 6 then σ (27 + Int.toNat m) 5 else σ (27 + Int.toNat m) 6
def tw_lf (σ : tw_S) (k i : Int) : Int := if i = 0 then σ (11 + Int.toNat k) 0 else if i = 1 then σ (11 + Int.toNat k) 1 else if i = 2 then σ (11 + Int.toNat k) 2 else if i = 3 then σ (11 + Int.toNat k) 3 else σ (11 + Int.toNat k) 4
/-- how many bits -/
def tw_us (x y : Int) : Int := ((q_i x).toUInt32 >>> ((q_i y).toUInt32 &&& Int32.toUInt32 31)).toInt32.toInt
def tw_b1 (x : Int) : Int := tw_w (x - tw_an (tw_us x 1) 1431655765)
def tw_b2 (x : Int) : Int := tw_w (tw_an x 858993459 + tw_an (tw_us x 2) 858993459)
def tw_b3 (x : Int) : Int := tw_an (tw_w (x + tw_us x 4)) 252645135
def tw_b4 (x : Int) : Int := tw_w (x + tw_us x 8)
def tw_b5 (x : Int) : Int := tw_w (x + tw_us x 16)
def tw_bi (x : Int) : Int := tw_an (tw_b5 (tw_b4 (tw_b3 (tw_b2 (tw_b1 x))))) 63
def tw_ul (x : Int64) (y : Int) : Int64 := (x.toUInt64 >>> ((q_i y).toInt64.toUInt64 &&& Int64.toUInt64 63)).toInt64
def tw_e1 (x : Int64) : Int64 := x - (tw_ul x 1 &&& 6148914691236517205)
def tw_e2 (x : Int64) : Int64 := (x &&& 3689348814741910323) + (tw_ul x 2 &&& 3689348814741910323)
def tw_e3 (x : Int64) : Int64 := (x + tw_ul x 4) &&& 1085102592571150095
def tw_e4 (x : Int64) : Int64 := x + tw_ul x 8
def tw_e5 (x : Int64) : Int64 := x + tw_ul x 16
def tw_e6 (x : Int64) : Int64 := x + tw_ul x 32
def tw_bl (x : Int64) : Int := tw_an (tw_e6 (tw_e5 (tw_e4 (tw_e3 (tw_e2 (tw_e1 x)))))).toInt32.toInt 127
def tw_nf (σ : tw_S) (k i : Int) : Int := if i = 0 then σ (1 + Int.toNat k) 2 else if i = 1 then σ (1 + Int.toNat k) 3 else if i = 2 then σ (1 + Int.toNat k) 4 else if i = 3 then tw_do σ k else if i = 4 then tw_aw σ k else if i = 5 then σ (1 + Int.toNat k) 5 else if i = 6 then σ (1 + Int.toNat k) 6 else if i = 7 then σ (1 + Int.toNat k) 7 else if i = 8 then σ (1 + Int.toNat k) 8 else if i = 9 then tw_bl (tw_tb σ k) else tw_mwl σ k (Int.toNat (σ 0 5))
def tw_vf (σ : tw_S) (i : Int) : Int := if i = 0 then σ 0 3 else if i = 1 then σ 0 4 else if i = 2 then σ 0 6 else if i = 3 then σ 0 11 else if i = 4 then σ 0 5 else if i = 5 then tw_isl σ 1 (Int.toNat (σ 0 5)) else if i = 6 then tw_itl σ (Int.toNat (σ 0 5)) else if i = 7 then tw_isl σ 2 (Int.toNat (σ 0 5)) else if i = 8 then tw_bi (tw_no σ) else σ 0 12
/-- in how many ticks the message m is there: from t on, n of them -/
def tw_arl (m h : Int) : Nat → Int → tw_S → Int
  | 0, _, _ => -1
  | n + 1, t, σ => if σ (27 + Int.toNat m) 3 = 2 then -1 else if σ (27 + Int.toNat m) 3 = 1 then t else tw_arl m h n (t + 1) (tw_ti σ)
def tw_ar (σ : tw_S) (m h : Int) : Int := tw_arl m h (Int.toNat (h + 1)) 0 σ
theorem tw_arl_s {m h t : Int} {σ : tw_S} (ht : t ≤ h) : tw_arl m h (Int.toNat (h + 1 - t)) t σ = if σ (27 + Int.toNat m) 3 = 2 then -1 else if σ (27 + Int.toNat m) 3 = 1 then t else tw_arl m h (Int.toNat (h + 1 - (t + 1))) (t + 1) (tw_ti σ) := by rw [show Int.toNat (h + 1 - t) = Int.toNat (h + 1 - (t + 1)) + 1 by omega, tw_arl]
theorem tw_arl_e {m h t : Int} {σ : tw_S} (ht : h < t) : tw_arl m h (Int.toNat (h + 1 - t)) t σ = -1 := by rw [show Int.toNat (h + 1 - t) = 0 by omega, tw_arl]
/-- in how many ticks a node is out -/
def tw_tol (k : Int) : Nat → Int → tw_S → Int
  | 0, _, _ => -1
  | n + 1, t, σ => if tw_ou σ k = 0 then tw_tol k n (t + 1) (tw_ti σ) else t
def tw_to (σ : tw_S) (k : Int) : Int := tw_tol k 201 0 σ
theorem tw_tol_s {k t : Int} {σ : tw_S} (ht : t ≤ 200) : tw_tol k (Int.toNat (201 - t)) t σ = if tw_ou σ k = 0 then tw_tol k (Int.toNat (201 - (t + 1))) (t + 1) (tw_ti σ) else t := by rw [show Int.toNat (201 - t) = Int.toNat (201 - (t + 1)) + 1 by omega, tw_tol]
theorem tw_tol_e {k t : Int} {σ : tw_S} (ht : 200 < t) : tw_tol k (Int.toNat (201 - t)) t σ = -1 := by rw [show Int.toNat (201 - t) = 0 by omega, tw_tol]
def tw_ia (σ τ : tw_S) (a b u : Int) : Int := if tw_ou σ a = 0 then (if tw_ou σ b = 0 then tw_ar (tw_am (tw_cp τ σ) a b 1 u) ((tw_cp τ σ) 0 5) 200 else -1) else -1
theorem tw_tcl_1 {σ : tw_S} : tw_tsl σ (Int.toNat 1) = tw_ti σ := rfl
