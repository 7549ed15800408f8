/-! one more of a loop -/
section QTS
variable {σ : tw_S} {k t w s o re near sh j u v n : Int}
theorem tw_n1 (h : 0 ≤ v) : Int.toNat (v + 1) = Int.toNat v + 1 := by omega
theorem tw_nc (h : 0 ≤ v) : ((Int.toNat v : Nat) : Int) = v := Int.toNat_of_nonneg h
theorem tw_tl_s (h : 0 ≤ v) : tw_tl σ k (Int.toNat (v + 1)) = if tw_hz (σ (1 + Int.toNat k) 5) v = 0 then tw_tl σ k (Int.toNat v) else tw_tl σ k (Int.toNat v) ||| tw_l1 (σ (1 + Int.toNat v) 2) := by rw [tw_n1 h, tw_tl, tw_nc h]
theorem tw_nol_s (h : 0 ≤ v) : tw_nol σ (Int.toNat (v + 1)) = if 0 < σ (1 + Int.toNat v) 4 then tw_or (tw_nol σ (Int.toNat v)) (tw_sl 1 v) else tw_nol σ (Int.toNat v) := by rw [tw_n1 h, tw_nol, tw_nc h]
theorem tw_aal_s (h : 0 ≤ v) : tw_aal σ t (Int.toNat (v + 1)) = if tw_wa σ v (σ (1 + Int.toNat v) 3) t = 0 then tw_aal σ t (Int.toNat v) else tw_or (tw_aal σ t (Int.toNat v)) (tw_sl 1 v) := by rw [tw_n1 h, tw_aal, tw_nc h]
theorem tw_isl_s (h : 0 ≤ v) : tw_isl σ w (Int.toNat (v + 1)) = if σ (27 + Int.toNat v) 3 = w then tw_isl σ w (Int.toNat v) + 1 else tw_isl σ w (Int.toNat v) := by rw [tw_n1 h, tw_isl]
theorem tw_itl_s (h : 0 ≤ v) : tw_itl σ (Int.toNat (v + 1)) = if σ (27 + Int.toNat v) 3 = 1 ∧ σ (27 + Int.toNat v) 5 ≤ σ (27 + Int.toNat v) 4 then tw_itl σ (Int.toNat v) + 1 else tw_itl σ (Int.toNat v) := by rw [tw_n1 h, tw_itl]
theorem tw_mwl_s (h : 0 ≤ v) : tw_mwl σ k (Int.toNat (v + 1)) = if tw_wt σ v k = 0 then tw_mwl σ k (Int.toNat v) else tw_mwl σ k (Int.toNat v) + 1 := by rw [tw_n1 h, tw_mwl, tw_nc h]
theorem tw_grl_s (h : 0 ≤ v) : tw_grl σ s o (Int.toNat (v + 1)) = if tw_an (tw_sr s v) 1 = 0 then tw_grl σ s o (Int.toNat v) else tw_or (tw_grl σ s o (Int.toNat v)) (tw_an (σ (1 + Int.toNat v) 5) o) := by rw [tw_n1 h, tw_grl, tw_nc h]
theorem tw_lol_s (h : v < 10) : tw_lol s (Int.toNat (10 - v)) v = if tw_an (tw_sr s v) 1 = 0 then tw_lol s (Int.toNat (10 - (v + 1))) (v + 1) else v := by rw [show Int.toNat (10 - v) = Int.toNat (10 - (v + 1)) + 1 by omega, tw_lol]
theorem tw_lol_e (h : 10 ≤ v) : tw_lol s (Int.toNat (10 - v)) v = -1 := by rw [show Int.toNat (10 - v) = 0 by omega, tw_lol]
theorem tw_nxl_s (h : v < 10) : tw_nxl σ near o (Int.toNat (10 - v)) re = if tw_an near re = 0 then tw_nxl σ near o (Int.toNat (10 - (v + 1))) (tw_gr σ re o) else tw_lo (tw_an near re) := by rw [show Int.toNat (10 - v) = Int.toNat (10 - (v + 1)) + 1 by omega, tw_nxl]
theorem tw_nxl_e (h : 10 ≤ v) : tw_nxl σ near o (Int.toNat (10 - v)) re = -1 := by rw [show Int.toNat (10 - v) = 0 by omega, tw_nxl]
theorem tw_mel_s (h : v ≤ n) : tw_mel σ k sh j (Int.toNat (n + 1 - v)) v = if tw_wa σ k sh v = 0 then tw_mel σ k sh j (Int.toNat (n + 1 - (v + 1))) (v + 1) else if tw_wa σ j (σ (1 + Int.toNat j) 3) v = 0 then tw_mel σ k sh j (Int.toNat (n + 1 - (v + 1))) (v + 1) else v := by rw [show Int.toNat (n + 1 - v) = Int.toNat (n + 1 - (v + 1)) + 1 by omega, tw_mel]
theorem tw_mel_e (h : n < v) : tw_mel σ k sh j (Int.toNat (n + 1 - v)) v = -1 := by rw [show Int.toNat (n + 1 - v) = 0 by omega, tw_mel]
theorem tw_wkl_s (h : 0 ≤ v) : tw_wkl σ (Int.toNat (v + 1)) = tw_wk1 (tw_wkl σ (Int.toNat v)) v := by rw [tw_n1 h, tw_wkl, tw_nc h]
theorem tw_mml_s (h : 0 ≤ v) : tw_mml σ (Int.toNat (v + 1)) = tw_mm (tw_mml σ (Int.toNat v)) v := by rw [tw_n1 h, tw_mml, tw_nc h]
theorem tw_pml_s (h : 0 ≤ v) : tw_pml σ u (Int.toNat (v + 1)) = if (tw_pml σ u (Int.toNat v)) (27 + Int.toNat v) 3 = 0 ∧ (tw_pml σ u (Int.toNat v)) (27 + Int.toNat v) 7 = u then tw_tp (tw_pml σ u (Int.toNat v)) v else tw_pml σ u (Int.toNat v) := by rw [tw_n1 h, tw_pml, tw_nc h]
theorem tw_pnl_s (h : 0 ≤ v) : tw_pnl σ u (Int.toNat (v + 1)) = if (tw_pml σ u (Int.toNat v)) (27 + Int.toNat v) 3 = 0 ∧ (tw_pml σ u (Int.toNat v)) (27 + Int.toNat v) 7 = u then (if (tw_tp (tw_pml σ u (Int.toNat v)) v) (27 + Int.toNat v) 3 = 1 then tw_pnl σ u (Int.toNat v) + 1 else tw_pnl σ u (Int.toNat v)) else tw_pnl σ u (Int.toNat v) := by rw [tw_n1 h, tw_pnl, tw_nc h]
theorem tw_lsl_s (h : 0 ≤ v) : tw_lsl σ (Int.toNat (v + 1)) = if (tw_lsl σ (Int.toNat v)) (27 + Int.toNat v) 3 = 0 ∧ tw_ou (tw_lsl σ (Int.toNat v)) ((tw_lsl σ (Int.toNat v)) (27 + Int.toNat v) 2) = 1 then tw_u (tw_lsl σ (Int.toNat v)) (27 + Int.toNat v) 3 2 else tw_lsl σ (Int.toNat v) := by rw [tw_n1 h, tw_lsl]
theorem tw_tsl_s (h : 0 ≤ v) : tw_tsl σ (Int.toNat (v + 1)) = tw_ti (tw_tsl σ (Int.toNat v)) := by rw [tw_n1 h, tw_tsl]
theorem tw_tcl_s (h : 0 ≤ v) : tw_tcl σ (Int.toNat (v + 1)) = tw_tcl σ (Int.toNat v) + tw_tn (tw_tsl σ (Int.toNat v)) := by rw [tw_n1 h, tw_tcl]
end QTS
/-! what a tick leaves as it is: the village's own numbers but the time, the shifts and the sets -/
def tw_kp (σ τ : tw_S) : Prop := ∀ c : Nat, 3 ≤ c → c ≤ 10 → τ 0 c = σ 0 c
section QTK
variable {σ τ : tw_S} {r c i : Nat} {x k n u a co both ga na d fa sa : Int}
theorem tw_kp_rf : tw_kp σ σ := fun _ _ _ => rfl
theorem tw_kp_tr {υ : tw_S} (h : tw_kp σ τ) (h2 : tw_kp τ υ) : tw_kp σ υ := fun c h3 h10 => (h2 c h3 h10).trans (h c h3 h10)
theorem tw_kp_u (h : tw_kp σ τ) (hr : 1 ≤ r ∨ 11 ≤ c) : tw_kp σ (tw_u τ r c x) := fun c1 h3 h10 => by
  unfold tw_u
  rw [if_neg (by omega)]
  exact h c1 h3 h10
theorem tw_kp_ad (h : tw_kp σ τ) (hr : 1 ≤ r ∨ 11 ≤ c) : tw_kp σ (tw_ad τ r c) := tw_kp_u h hr
theorem tw_kp_sb (h : tw_kp σ τ) (hr : 1 ≤ r ∨ 11 ≤ c) : tw_kp σ (tw_sb τ r c x) := tw_kp_u h hr
theorem tw_kp_om (h : tw_kp σ τ) (hr : 11 ≤ c) : tw_kp σ (tw_om τ c k) := tw_kp_u h (Or.inr hr)
theorem tw_kp_wk2 (h : tw_kp σ τ) : tw_kp σ (tw_wk2 τ k) := by
  unfold tw_wk2
  split
  · exact tw_kp_ad (tw_kp_om h (by decide)) (by omega)
  · exact h
theorem tw_kp_wk1 (h : tw_kp σ τ) : tw_kp σ (tw_wk1 τ k) := by
  unfold tw_wk1
  split
  · exact tw_kp_u h (by omega)
  · exact tw_kp_wk2 (tw_kp_u (tw_kp_u h (by omega)) (by omega))
theorem tw_kp_wkl (h : tw_kp σ τ) : ∀ i : Nat, tw_kp σ (tw_wkl τ i)
  | 0 => tw_kp_u h (by omega)
  | i + 1 => tw_kp_wk1 (tw_kp_wkl h i)
theorem tw_kp_wk (h : tw_kp σ τ) : tw_kp σ (tw_wk τ) := tw_kp_wkl h _
theorem tw_kp_mi2 (h : tw_kp σ τ) : tw_kp σ (tw_mi2 τ k) := by
  unfold tw_mi2
  split
  · exact h
  · exact tw_kp_ad (tw_kp_u (tw_kp_u h (by omega)) (by omega)) (by omega)
theorem tw_kp_mi (h : tw_kp σ τ) : tw_kp σ (tw_mi τ k) := tw_kp_mi2 (tw_kp_ad (tw_kp_ad h (by omega)) (by omega))
theorem tw_kp_mm3 (h : tw_kp σ τ) : tw_kp σ (tw_mm3 τ k d) := by
  unfold tw_mm3
  split
  · exact tw_kp_mi h
  · exact h
theorem tw_kp_mm2 (h : tw_kp σ τ) : tw_kp σ (tw_mm2 τ k fa sa) := by
  unfold tw_mm2
  split
  · split
    · exact h
    · exact tw_kp_mm3 h
  · split
    · exact tw_kp_mm3 h
    · exact tw_kp_u (tw_kp_ad h (by omega)) (by omega)
theorem tw_kp_mm (h : tw_kp σ τ) : tw_kp σ (tw_mm τ k) := by
  unfold tw_mm
  split
  · exact h
  · split
    · exact h
    · exact tw_kp_mm2 h
theorem tw_kp_mml (h : tw_kp σ τ) : ∀ i : Nat, tw_kp σ (tw_mml τ i)
  | 0 => h
  | i + 1 => tw_kp_mm (tw_kp_mml h i)
theorem tw_kp_mv (h : tw_kp σ τ) : tw_kp σ (tw_mv τ k n) := by
  unfold tw_mv
  split
  · exact tw_kp_u (tw_kp_u (tw_kp_ad (tw_kp_u h (by omega)) (by omega)) (by omega)) (by omega)
  · exact tw_kp_ad (tw_kp_u h (by omega)) (by omega)
theorem tw_kp_tp4 (h : tw_kp σ τ) : tw_kp σ (tw_tp4 τ k a n co) := tw_kp_mv (tw_kp_om (tw_kp_ad (tw_kp_sb (tw_kp_om (tw_kp_ad (tw_kp_sb h (by omega)) (by omega)) (by decide)) (by omega)) (by omega)) (by decide))
theorem tw_kp_tp3 (h : tw_kp σ τ) : tw_kp σ (tw_tp3 τ k a n both co) := by
  unfold tw_tp3
  split
  · exact h
  · split
    · exact h
    · split
      · exact h
      · exact tw_kp_tp4 h
theorem tw_kp_tp2 (h : tw_kp σ τ) : tw_kp σ (tw_tp2 τ k a n ga na) := by
  unfold tw_tp2
  split
  · exact tw_kp_tp3 h
  · exact tw_kp_tp3 h
theorem tw_kp_tp1 (h : tw_kp σ τ) : tw_kp σ (tw_tp1 τ k a n ga) := by
  unfold tw_tp1
  split
  · exact h
  · split
    · exact tw_kp_tp2 h
    · exact h
theorem tw_kp_tp (h : tw_kp σ τ) : tw_kp σ (tw_tp τ k) := by
  unfold tw_tp
  split
  · split
    · exact h
    · exact tw_kp_tp1 h
  · exact h
theorem tw_kp_pml (h : tw_kp σ τ) : ∀ i : Nat, tw_kp σ (tw_pml τ u i)
  | 0 => h
  | i + 1 => by
    rw [tw_pml]
    split
    · exact tw_kp_tp (tw_kp_pml h i)
    · exact tw_kp_pml h i
theorem tw_kp_pm (h : tw_kp σ τ) : tw_kp σ (tw_pm τ u) := tw_kp_pml h _
theorem tw_kp_lsl (h : tw_kp σ τ) : ∀ i : Nat, tw_kp σ (tw_lsl τ i)
  | 0 => h
  | i + 1 => by
    rw [tw_lsl]
    split
    · exact tw_kp_u (tw_kp_lsl h i) (by omega)
    · exact tw_kp_lsl h i
theorem tw_kp_ls (h : tw_kp σ τ) : tw_kp σ (tw_ls τ) := tw_kp_lsl h _
theorem tw_kp_t1 (h : tw_kp σ τ) : tw_kp σ (tw_t1 τ) := tw_kp_wk (tw_kp_u h (by omega))
theorem tw_kp_t2 (h : tw_kp σ τ) : tw_kp σ (tw_t2 τ) := tw_kp_u (tw_kp_u (tw_kp_mml (tw_kp_t1 h) _) (by omega)) (by omega)
theorem tw_kp_ti (h : tw_kp σ τ) : tw_kp σ (tw_ti τ) := tw_kp_ls (tw_kp_pm (tw_kp_pm (tw_kp_t2 h)))
theorem tw_kp_tsl (h : tw_kp σ τ) : ∀ i : Nat, tw_kp σ (tw_tsl τ i)
  | 0 => h
  | i + 1 => tw_kp_ti (tw_kp_tsl h i)
theorem tw_wkl_c (i c : Nat) (h3 : 3 ≤ c) (h10 : c ≤ 10) : tw_wkl σ i 0 c = σ 0 c := tw_kp_wkl tw_kp_rf i c h3 h10
theorem tw_mml_c (i c : Nat) (h3 : 3 ≤ c) (h10 : c ≤ 10) : tw_mml σ i 0 c = σ 0 c := tw_kp_mml tw_kp_rf i c h3 h10
theorem tw_pml_c (i c : Nat) (h3 : 3 ≤ c) (h10 : c ≤ 10) : tw_pml σ u i 0 c = σ 0 c := tw_kp_pml tw_kp_rf i c h3 h10
theorem tw_lsl_c (i c : Nat) (h3 : 3 ≤ c) (h10 : c ≤ 10) : tw_lsl σ i 0 c = σ 0 c := tw_kp_lsl tw_kp_rf i c h3 h10
end QTK
