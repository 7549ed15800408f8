/-! a village's state by rows and columns: row 0 its own numbers, 1 to 10 nodes, 11 to 26 links, 27 to 87 messages; a column is a field's place -/
abbrev tw_S : Type := Nat → Nat → Int
def tw_u (σ : tw_S) (r c : Nat) (x : Int) : tw_S := fun r1 c1 => if r1 = r ∧ c1 = c then x else σ r1 c1
/-- an int as the machine keeps it -/
def tw_w (x : Int) : Int := (q_i x).toInt
def tw_or (x y : Int) : Int := (q_i x ||| q_i y).toInt
def tw_an (x y : Int) : Int := (q_i x &&& q_i y).toInt
def tw_sl (x y : Int) : Int := (q_i x <<< (q_i y &&& 31)).toInt
def tw_sr (x y : Int) : Int := (q_i x >>> (q_i y &&& 31)).toInt
theorem tw_w_of {x z : Int} (h : q_R z) (e : q_i x = q_i z) : q_is z (tw_w x) := by unfold q_is tw_w; rw [e, q_toInt h]
theorem tw_or_of {x y z : Int} (h : q_R z) (e : q_i x ||| q_i y = q_i z) : q_is z (tw_or x y) := by unfold q_is tw_or; rw [e, q_toInt h]
theorem tw_an_of {x y z : Int} (h : q_R z) (e : q_i x &&& q_i y = q_i z) : q_is z (tw_an x y) := by unfold q_is tw_an; rw [e, q_toInt h]
theorem tw_sl_of {x y z : Int} (h : q_R z) (e : q_i x <<< (q_i y &&& 31) = q_i z) : q_is z (tw_sl x y) := by unfold q_is tw_sl; rw [e, q_toInt h]
theorem tw_sr_of {x y z : Int} (h : q_R z) (e : q_i x >>> (q_i y &&& 31) = q_i z) : q_is z (tw_sr x y) := by unfold q_is tw_sr; rw [e, q_toInt h]
theorem tw_mx {x y z : Int} (h1 : x ≤ z) (h2 : y ≤ z) (h3 : z = x ∨ z = y) : q_is z (max x y) := by show z = max x y; omega
theorem tw_mn {x y z : Int} (h1 : z ≤ x) (h2 : z ≤ y) (h3 : z = x ∨ z = y) : q_is z (min x y) := by show z = min x y; omega
/-! questions -/
def tw_hz (s n : Int) : Int := if tw_an (tw_sr s n) 1 = 0 then 0 else 1
def tw_lb (x : Int64) (d : Int) : Int64 := (x >>> ((q_i d).toInt64 &&& 63)) &&& q_l 1
def tw_hd (x : Int64) (d : Int) : Int := if tw_lb x d = q_l 0 then 0 else 1
def tw_l1 (d : Int) : Int64 := q_l 1 <<< ((q_i d).toInt64 &&& 63)
def tw_ou (σ : tw_S) (k : Int) : Int := if σ (1 + Int.toNat k) 4 = 0 then 1 else 0
def tw_dy (σ : tw_S) (d : Int) : Int := Int.tmod d (σ 0 6)
def tw_do (σ : tw_S) (k : Int) : Int := tw_dy σ (σ 0 11 + σ (1 + Int.toNat k) 3)
/-- the table of a node, by the nodes below i -/
def tw_tl (σ : tw_S) (k : Int) : Nat → Int64
  | 0 => q_l 0 ||| tw_l1 (σ (1 + Int.toNat k) 2)
  | i + 1 => if tw_hz (σ (1 + Int.toNat k) 5) i = 0 then tw_tl σ k i else tw_tl σ k i ||| tw_l1 (σ (1 + i) 2)
def tw_tb (σ : tw_S) (k : Int) : Int64 := tw_tl σ k (Int.toNat (σ 0 3))
def tw_aw (σ : tw_S) (k : Int) : Int := if tw_ou σ k = 0 then tw_hd (tw_tb σ k) (tw_do σ k) else 0
def tw_wa (σ : tw_S) (k sh t : Int) : Int := if tw_ou σ k = 0 then tw_hd (tw_tb σ k) (tw_dy σ (σ 0 11 + t + sh)) else 0
/-- sets of nodes, by those below i -/
def tw_nol (σ : tw_S) : Nat → Int
  | 0 => 0
  | i + 1 => if 0 < σ (1 + i) 4 then tw_or (tw_nol σ i) (tw_sl 1 i) else tw_nol σ i
def tw_no (σ : tw_S) : Int := tw_nol σ (Int.toNat (σ 0 3))
def tw_aal (σ : tw_S) (t : Int) : Nat → Int
  | 0 => 0
  | i + 1 => if tw_wa σ i (σ (1 + i) 3) t = 0 then tw_aal σ t i else tw_or (tw_aal σ t i) (tw_sl 1 i)
def tw_aa (σ : tw_S) (t : Int) : Int := tw_aal σ t (Int.toNat (σ 0 3))
/-- how many messages, by those below i -/
def tw_isl (σ : tw_S) (w : Int) : Nat → Int
  | 0 => 0
  | i + 1 => if σ (27 + i) 3 = w then tw_isl σ w i + 1 else tw_isl σ w i
def tw_itl (σ : tw_S) : Nat → Int
  | 0 => 0
  | i + 1 => if σ (27 + i) 3 = 1 ∧ σ (27 + i) 5 ≤ σ (27 + i) 4 then tw_itl σ i + 1 else tw_itl σ i
def tw_wt (σ : tw_S) (i k : Int) : Int := if σ (27 + Int.toNat i) 3 = 0 ∧ σ (27 + Int.toNat i) 2 = k then 1 else 0
def tw_mwl (σ : tw_S) (k : Int) : Nat → Int
  | 0 => 0
  | i + 1 => if tw_wt σ i k = 0 then tw_mwl σ k i else tw_mwl σ k i + 1
/-! ways -/
def tw_grl (σ : tw_S) (s o : Int) : Nat → Int
  | 0 => s
  | i + 1 => if tw_an (tw_sr s i) 1 = 0 then tw_grl σ s o i else tw_or (tw_grl σ s o i) (tw_an (σ (1 + i) 5) o)
def tw_gr (σ : tw_S) (s o : Int) : Int := tw_grl σ s o (Int.toNat (σ 0 3))
/-- the lowest of a set, from i on, n of them -/
def tw_lol (s : Int) : Nat → Int → Int
  | 0, _ => -1
  | n + 1, i => if tw_an (tw_sr s i) 1 = 0 then tw_lol s n (i + 1) else i
def tw_lo (s : Int) : Int := tw_lol s 10 0
def tw_nxl (σ : tw_S) (near o : Int) : Nat → Int → Int
  | 0, _ => -1
  | n + 1, re => if tw_an near re = 0 then tw_nxl σ near o n (tw_gr σ re o) else tw_lo (tw_an near re)
def tw_nx (σ : tw_S) (at9 go o : Int) : Int := tw_nxl σ (tw_an (σ (1 + Int.toNat at9) 5) o) o 10 (tw_an (tw_sl 1 go) o)
/-- in how many ticks two are awake: from t on, n of them -/
def tw_mel (σ : tw_S) (k sh j : Int) : Nat → Int → Int
  | 0, _ => -1
  | n + 1, t => if tw_wa σ k sh t = 0 then tw_mel σ k sh j n (t + 1) else if tw_wa σ j (σ (1 + Int.toNat j) 3) t = 0 then tw_mel σ k sh j n (t + 1) else t
def tw_me (σ : tw_S) (k sh j : Int) : Int := tw_mel σ k sh j (Int.toNat (σ 0 6)) 1
/-! ticks -/
def tw_ad (σ : tw_S) (r c : Nat) : tw_S := tw_u σ r c (tw_w (σ r c + 1))
def tw_sb (σ : tw_S) (r c : Nat) (x : Int) : tw_S := tw_u σ r c (tw_w (σ r c - x))
def tw_om (σ : tw_S) (c : Nat) (k : Int) : tw_S := tw_u σ 0 c (tw_or (σ 0 c) (tw_sl 1 k))
/-- a node wakes -/
def tw_wk2 (σ : tw_S) (k : Int) : tw_S := if 0 < σ (1 + Int.toNat k) 4 then tw_ad (tw_om σ 13 k) (1 + Int.toNat k) 6 else σ
def tw_wk1 (σ : tw_S) (k : Int) : tw_S :=
  if tw_aw (tw_u σ (1 + Int.toNat k) 9 (tw_do σ k)) k = 0 then tw_u σ (1 + Int.toNat k) 9 (tw_do σ k)
  else tw_wk2 (tw_u (tw_u σ (1 + Int.toNat k) 9 (tw_do σ k)) (1 + Int.toNat k) 4 (max 0 (tw_w ((tw_u σ (1 + Int.toNat k) 9 (tw_do σ k)) (1 + Int.toNat k) 4 - (tw_u σ (1 + Int.toNat k) 9 (tw_do σ k)) 0 7)))) k
def tw_wkl (σ : tw_S) : Nat → tw_S
  | 0 => tw_u σ 0 13 0
  | i + 1 => tw_wk1 (tw_wkl σ i) i
def tw_wk (σ : tw_S) : tw_S := tw_wkl σ (Int.toNat (σ 0 3))
/-- a link is met or missed -/
def tw_mi2 (σ : tw_S) (k : Int) : tw_S :=
  if tw_w (σ (11 + Int.toNat k) 2) < σ 0 10 then σ
  else tw_ad (tw_u (tw_u σ (1 + Int.toNat (max (σ (11 + Int.toNat k) 0) (σ (11 + Int.toNat k) 1))) 3 (σ (1 + Int.toNat (min (σ (11 + Int.toNat k) 0) (σ (11 + Int.toNat k) 1))) 3)) (11 + Int.toNat k) 2 0) 0 12
def tw_mi (σ : tw_S) (k : Int) : tw_S := tw_mi2 (tw_ad (tw_ad σ (11 + Int.toNat k) 4) (11 + Int.toNat k) 2) k
def tw_mm3 (σ : tw_S) (k d : Int) : tw_S :=
  if d = σ (1 + Int.toNat (σ (11 + Int.toNat k) 0)) 2 ∨ d = σ (1 + Int.toNat (σ (11 + Int.toNat k) 1)) 2 then tw_mi σ k else σ
def tw_mm2 (σ : tw_S) (k fa sa : Int) : tw_S :=
  if fa = 0 then (if sa = 0 then σ else tw_mm3 σ k (σ (1 + Int.toNat (σ (11 + Int.toNat k) 1)) 9))
  else (if sa = 0 then tw_mm3 σ k (σ (1 + Int.toNat (σ (11 + Int.toNat k) 0)) 9) else tw_u (tw_ad σ (11 + Int.toNat k) 3) (11 + Int.toNat k) 2 0)
def tw_mm (σ : tw_S) (k : Int) : tw_S :=
  if σ (1 + Int.toNat (σ (11 + Int.toNat k) 0)) 4 = 0 then σ else if σ (1 + Int.toNat (σ (11 + Int.toNat k) 1)) 4 = 0 then σ
  else tw_mm2 σ k (tw_hz (σ 0 13) (σ (11 + Int.toNat k) 0)) (tw_hz (σ 0 13) (σ (11 + Int.toNat k) 1))
def tw_mml (σ : tw_S) : Nat → tw_S
  | 0 => σ
  | i + 1 => tw_mm (tw_mml σ i) i
/-- a message passes -/
def tw_mv (σ : tw_S) (i n : Int) : tw_S :=
  if n = (tw_ad (tw_u σ (27 + Int.toNat i) 2 n) (27 + Int.toNat i) 6) (27 + Int.toNat i) 1
  then tw_u (tw_u (tw_ad (tw_u σ (27 + Int.toNat i) 2 n) (27 + Int.toNat i) 6) (27 + Int.toNat i) 3 1) (27 + Int.toNat i) 5 ((tw_u (tw_ad (tw_u σ (27 + Int.toNat i) 2 n) (27 + Int.toNat i) 6) (27 + Int.toNat i) 3 1) 0 11)
  else tw_ad (tw_u σ (27 + Int.toNat i) 2 n) (27 + Int.toNat i) 6
def tw_tp4 (σ : tw_S) (i a n co : Int) : tw_S :=
  tw_mv (tw_om (tw_ad (tw_sb (tw_om (tw_ad (tw_sb σ (1 + Int.toNat a) 4 co) (1 + Int.toNat a) 7) 14 a) (1 + Int.toNat n) 4 co) (1 + Int.toNat n) 8) 15 n) i n
def tw_tp3 (σ : tw_S) (i a n both co : Int) : tw_S :=
  if both = 0 ∧ σ (27 + Int.toNat i) 7 = 0 then σ else if σ (1 + Int.toNat a) 4 < co then σ else if σ (1 + Int.toNat n) 4 < co then σ else tw_tp4 σ i a n co
def tw_tp2 (σ : tw_S) (i a n ga na : Int) : tw_S :=
  if ga = 0 ∨ na = 0 then tw_tp3 σ i a n 0 (tw_w (σ 0 8 + σ 0 9)) else tw_tp3 σ i a n 1 (σ 0 8)
def tw_tp1 (σ : tw_S) (i a n ga : Int) : tw_S :=
  if n = -1 then σ else if tw_hz (σ 0 15) n = 0 then tw_tp2 σ i a n ga (tw_hz (σ 0 13) n) else σ
def tw_tp (σ : tw_S) (i : Int) : tw_S :=
  if tw_hz (σ 0 14) (σ (27 + Int.toNat i) 2) = 0 then
    (if tw_hz (σ 0 13) (σ (27 + Int.toNat i) 2) = 0 ∧ σ (27 + Int.toNat i) 7 = 0 then σ
     else tw_tp1 σ i (σ (27 + Int.toNat i) 2) (tw_nx σ (σ (27 + Int.toNat i) 2) (σ (27 + Int.toNat i) 1) (tw_no σ)) (tw_hz (σ 0 13) (σ (27 + Int.toNat i) 2)))
  else σ
/-- all of one sort pass: what comes of it, how many came -/
def tw_pmc (σ : tw_S) (u i : Int) : Bool := decide (σ (27 + Int.toNat i) 3 = 0) && decide (σ (27 + Int.toNat i) 7 = u)
def tw_pml (σ : tw_S) (u : Int) : Nat → tw_S
  | 0 => σ
  | i + 1 => if (tw_pml σ u i) (27 + i) 3 = 0 ∧ (tw_pml σ u i) (27 + i) 7 = u then tw_tp (tw_pml σ u i) i else tw_pml σ u i
def tw_pnl (σ : tw_S) (u : Int) : Nat → Int
  | 0 => 0
  | i + 1 => if (tw_pml σ u i) (27 + i) 3 = 0 ∧ (tw_pml σ u i) (27 + i) 7 = u then (if (tw_tp (tw_pml σ u i) i) (27 + i) 3 = 1 then tw_pnl σ u i + 1 else tw_pnl σ u i) else tw_pnl σ u i
def tw_pm (σ : tw_S) (u : Int) : tw_S := tw_pml σ u (Int.toNat (σ 0 5))
def tw_pn (σ : tw_S) (u : Int) : Int := tw_pnl σ u (Int.toNat (σ 0 5))
def tw_lsl (σ : tw_S) : Nat → tw_S
  | 0 => σ
  | i + 1 => if (tw_lsl σ i) (27 + i) 3 = 0 ∧ tw_ou (tw_lsl σ i) ((tw_lsl σ i) (27 + i) 2) = 1 then tw_u (tw_lsl σ i) (27 + i) 3 2 else tw_lsl σ i
def tw_ls (σ : tw_S) : tw_S := tw_lsl σ (Int.toNat (σ 0 5))
/-- a tick -/
def tw_t1 (σ : tw_S) : tw_S := tw_wk (tw_u σ 0 11 (σ 0 11 + 1))
def tw_t2 (σ : tw_S) : tw_S := tw_u (tw_u (tw_mml (tw_t1 σ) (Int.toNat ((tw_t1 σ) 0 4))) 0 14 0) 0 15 0
def tw_t3 (σ : tw_S) : tw_S := tw_pm (tw_pm (tw_t2 σ) 1) 0
def tw_ti (σ : tw_S) : tw_S := tw_ls (tw_t3 σ)
def tw_tn (σ : tw_S) : Int := tw_pn (tw_t2 σ) 1 + tw_pn (tw_pm (tw_t2 σ) 1) 0
def tw_tsl (σ : tw_S) : Nat → tw_S
  | 0 => σ
  | i + 1 => tw_ti (tw_tsl σ i)
def tw_tcl (σ : tw_S) : Nat → Int
  | 0 => 0
  | i + 1 => tw_tcl σ i + tw_tn (tw_tsl σ i)
