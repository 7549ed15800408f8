/-! scripts as read: commands, how deep, what goes round -/
def k_cc (c : Int) (f : Nat → va_E) (c1 c2 : Nat) (k : Nat) : Prop := (c = 6 → 1 ≤ q_z f c1 k ∧ q_z f c1 k ≤ 20) ∧ (1 ≤ c → c ≤ 5 → 0 ≤ q_z f c1 k ∧ q_z f c1 k ≤ 9) ∧ (1 ≤ c → c ≤ 2 → 0 ≤ q_z f c2 k ∧ q_z f c2 k ≤ 9)
theorem k_cc_tr {c : Int} {f f1 : Nat → va_E} {c1 c2 k : Nat} (h : k_cc c f c1 c2 k) (h1 : ∀ i : Nat, q_z f1 c1 i = q_z f c1 i) (h2 : ∀ i : Nat, q_z f1 c2 i = q_z f c2 i) : k_cc c f1 c1 c2 k := by
  unfold k_cc at h ⊢
  rw [h1, h2]
  exact h
def k_bl (f0 f : Nat → va_E) (c1 c2 : Nat) (n : Int) : Prop := ∀ i : Nat, (i : Int) < n → q_z f c1 i = q_z f0 c1 i ∧ q_z f c2 i = q_z f0 c2 i
theorem k_bl_rf (f : Nat → va_E) (c1 c2 : Nat) (n : Int) : k_bl f f c1 c2 n := fun _ _ => ⟨rfl, rfl⟩
theorem k_bl_tr {f0 f f1 : Nat → va_E} {c1 c2 : Nat} {n : Int} (h : k_bl f0 f c1 c2 n) (h1 : ∀ i : Nat, q_z f1 c1 i = q_z f c1 i) (h2 : ∀ i : Nat, q_z f1 c2 i = q_z f c2 i) : k_bl f0 f1 c1 c2 n := fun i hi => ⟨(h1 i).trans (h i hi).1, (h2 i).trans (h i hi).2⟩
theorem k_bl_s1 {f0 f f1 : Nat → va_E} {c1 c2 : Nat} {n j : Int} {v : Value} (h : k_bl f0 f c1 c2 n) (e : f1 = q_set f c1 (Int.toNat j) v) (hj : n ≤ j) (hne : c2 ≠ c1) : k_bl f0 f1 c1 c2 n := fun i hi => ⟨by rw [e, q_setz (Or.inr (by omega))]; exact (h i hi).1, by rw [e, q_setz (Or.inl hne)]; exact (h i hi).2⟩
theorem k_bl_s2 {f0 f f1 : Nat → va_E} {c1 c2 : Nat} {n j : Int} {v : Value} (h : k_bl f0 f c1 c2 n) (e : f1 = q_set f c2 (Int.toNat j) v) (hj : n ≤ j) (hne : c1 ≠ c2) : k_bl f0 f1 c1 c2 n := fun i hi => ⟨by rw [e, q_setz (Or.inl hne)]; exact (h i hi).1, by rw [e, q_setz (Or.inr (by omega))]; exact (h i hi).2⟩
theorem k_bl_cat {f0 f f1 : Nat → va_E} {c1 c2 : Nat} {n : Int} (h : k_bl f0 f c1 c2 60) (h2 : k_bl f f1 c1 c2 n) (hn : n ≤ 60) : k_bl f0 f1 c1 c2 n := fun i hi => ⟨(h2 i hi).1.trans (h i (by omega)).1, (h2 i hi).2.trans (h i (by omega)).2⟩
def k_b1 (f0 f : Nat → va_E) (cs : Nat) (n : Int) : Prop := ∀ i : Nat, (i : Int) < n → q_z f cs i = q_z f0 cs i
theorem k_b1_rf (f : Nat → va_E) (cs : Nat) (n : Int) : k_b1 f f cs n := fun _ _ => rfl
theorem k_b1_tr {f0 f f1 : Nat → va_E} {cs : Nat} {n : Int} (h : k_b1 f0 f cs n) (h1 : ∀ i : Nat, q_z f1 cs i = q_z f cs i) : k_b1 f0 f1 cs n := fun i hi => (h1 i).trans (h i hi)
theorem k_b1_s {f0 f f1 : Nat → va_E} {cs : Nat} {n j : Int} {v : Value} (h : k_b1 f0 f cs n) (e : f1 = q_set f cs (Int.toNat j) v) (hj : n ≤ j) : k_b1 f0 f1 cs n := fun i hi => by rw [e, q_setz (Or.inr (by omega))]; exact h i hi
def k_stp (c : Int) : Int := if c = 6 then 1 else if c = 7 then -1 else 0
def k_dep (f : Nat → va_E) (cs : Nat) : Nat → Int
  | 0 => 0
  | k + 1 => k_dep f cs k + k_stp (q_z f cs k)
theorem k_dep_eq {f f1 : Nat → va_E} {cs : Nat} (k : Nat) (h : ∀ i : Nat, i < k → q_z f1 cs i = q_z f cs i) : k_dep f1 cs k = k_dep f cs k := by
  induction k with
  | zero => rfl
  | succ k ih =>
    simp only [k_dep]
    rw [ih (fun i hi => h i (by omega)), h k (by omega)]
def q_sc (f : Nat → va_E) (mo cs c1 c2 : Nat) : Prop := (∀ k : Nat, (k : Int) < q_z f mo 35 → k_cc (q_z f cs k) f c1 c2 k) ∧ (∀ k : Nat, (k : Int) ≤ q_z f mo 35 → 0 ≤ k_dep f cs k ∧ k_dep f cs k ≤ 2) ∧ k_dep f cs (q_z f mo 35).toNat = q_z f mo 37 ∧ q_z f mo 35 + q_z f mo 37 ≤ 2 * q_z f mo 36
theorem q_sc_tr {f f1 : Nat → va_E} {mo cs c1 c2 : Nat} (h : q_sc f mo cs c1 c2) (a1 : q_z f1 mo 35 = q_z f mo 35) (a2 : q_z f1 mo 36 = q_z f mo 36) (a3 : q_z f1 mo 37 = q_z f mo 37) (b1 : ∀ i : Nat, q_z f1 cs i = q_z f cs i) (b2 : ∀ i : Nat, q_z f1 c1 i = q_z f c1 i) (b3 : ∀ i : Nat, q_z f1 c2 i = q_z f c2 i) : q_sc f1 mo cs c1 c2 := by
  obtain ⟨h1, h2, h3, h4⟩ := h
  unfold q_sc
  rw [a1, a2, a3]
  refine ⟨fun k hk => ?_, fun k hk => ?_, ?_, h4⟩
  · rw [b1]; exact k_cc_tr (h1 k hk) b2 b3
  · rw [k_dep_eq k (fun i _ => b1 i)]; exact h2 k hk
  · rw [k_dep_eq _ (fun i _ => b1 i)]; exact h3
theorem k_sc0 {f : Nat → va_E} {mo cs c1 c2 : Nat} (a1 : q_z f mo 35 = 0) (a2 : q_z f mo 36 = 0) (a3 : q_z f mo 37 = 0) : q_sc f mo cs c1 c2 := by
  unfold q_sc
  rw [a1, a2, a3]
  refine ⟨fun k hk => absurd hk (by omega), fun k hk => ?_, rfl, by decide⟩
  obtain rfl : k = 0 := by omega
  exact ⟨Int.le_refl _, (by decide : (0 : Int) ≤ 2)⟩
/-- one command more -/
theorem k_sc_add {f f1 : Nat → va_E} {mo cs c1 c2 : Nat} {n o w c : Int} (h : q_sc f mo cs c1 c2) (hn : q_is (q_z f mo 35) n) (ho : q_is (q_z f mo 37) o) (hw : q_is (q_z f mo 36) w) (n1 : q_is (q_z f1 mo 35) (n + 1)) (w1 : q_is (q_z f1 mo 36) (w + 1)) (o1 : q_is (q_z f1 mo 37) (o + k_stp c)) (h0 : 0 ≤ n) (hc : q_is (q_z f1 cs (Int.toNat n)) c) (hcc : k_cc c f1 c1 c2 (Int.toNat n)) (hb : k_b1 f f1 cs n) (hl : k_bl f f1 c1 c2 n) (hop : 0 ≤ o + k_stp c ∧ o + k_stp c ≤ 2) (hw9 : n + 1 + (o + k_stp c) ≤ 2 * (w + 1)) : q_sc f1 mo cs c1 c2 := by
  obtain ⟨h1, h2, h3, h4⟩ := h
  have en : q_z f mo 35 = n := hn
  have eo : q_z f mo 37 = o := ho
  have ew : q_z f mo 36 = w := hw
  have en1 : q_z f1 mo 35 = n + 1 := n1
  have ew1 : q_z f1 mo 36 = w + 1 := w1
  have eo1 : q_z f1 mo 37 = o + k_stp c := o1
  have ec : q_z f1 cs (Int.toNat n) = c := hc
  rw [en] at h1 h2 h3
  have hd : k_dep f1 cs (Int.toNat n) = o := by
    rw [k_dep_eq _ (fun i hi => hb i (by omega)), h3, eo]
  have hd1 : k_dep f1 cs (Int.toNat n + 1) = o + k_stp c := by
    simp only [k_dep]
    rw [hd, ec]
  unfold q_sc
  rw [en1, ew1, eo1]
  refine ⟨fun k hk => ?_, fun k hk => ?_, ?_, hw9⟩
  · by_cases hkn : (k : Int) < n
    · rw [hb k hkn]
      have h7 := h1 k hkn
      unfold k_cc at h7 ⊢
      rw [(hl k hkn).1, (hl k hkn).2]
      exact h7
    · obtain rfl : k = Int.toNat n := by omega
      rw [ec]
      exact hcc
  · by_cases hkn : (k : Int) ≤ n
    · rw [k_dep_eq k (fun i hi => hb i (by omega))]
      exact h2 k hkn
    · obtain rfl : k = Int.toNat n + 1 := by omega
      rw [hd1]
      exact hop
  · rw [show Int.toNat (n + 1) = Int.toNat n + 1 by omega]
    exact hd1
/-- one that closes -/
theorem k_sc_cl {f f1 : Nat → va_E} {mo cs c1 c2 : Nat} {n o w : Int} (h : q_sc f mo cs c1 c2) (hn : q_is (q_z f mo 35) n) (ho : q_is (q_z f mo 37) o) (hw : q_is (q_z f mo 36) w) (n1 : q_is (q_z f1 mo 35) (n + 1)) (w1 : q_is (q_z f1 mo 36) w) (o1 : q_is (q_z f1 mo 37) (o - 1)) (h0 : 0 ≤ n) (hc : q_is (q_z f1 cs (Int.toNat n)) 7) (hb : k_b1 f f1 cs n) (hl : k_bl f f1 c1 c2 60) (hop : 1 ≤ o ∧ o ≤ 2) (hn60 : n ≤ 60) : q_sc f1 mo cs c1 c2 := by
  obtain ⟨h1, h2, h3, h4⟩ := h
  have en : q_z f mo 35 = n := hn
  have eo : q_z f mo 37 = o := ho
  have ew : q_z f mo 36 = w := hw
  have en1 : q_z f1 mo 35 = n + 1 := n1
  have ew1 : q_z f1 mo 36 = w := w1
  have eo1 : q_z f1 mo 37 = o - 1 := o1
  have ec : q_z f1 cs (Int.toNat n) = 7 := hc
  rw [en, eo, ew] at h4
  rw [en] at h1 h2 h3
  have hd : k_dep f1 cs (Int.toNat n) = o := by
    rw [k_dep_eq _ (fun i hi => hb i (by omega)), h3, eo]
  have hd1 : k_dep f1 cs (Int.toNat n + 1) = o - 1 := by
    simp only [k_dep]
    rw [hd, ec]
    rfl
  unfold q_sc
  rw [en1, ew1, eo1]
  refine ⟨fun k hk => ?_, fun k hk => ?_, ?_, by omega⟩
  · by_cases hkn : (k : Int) < n
    · rw [hb k hkn]
      have h7 := h1 k hkn
      unfold k_cc at h7 ⊢
      rw [(hl k (by omega)).1, (hl k (by omega)).2]
      exact h7
    · obtain rfl : k = Int.toNat n := by omega
      rw [ec]
      exact ⟨fun h => absurd h (by decide), fun _ h => absurd h (by decide), fun _ h => absurd h (by decide)⟩
  · by_cases hkn : (k : Int) ≤ n
    · rw [k_dep_eq k (fun i hi => hb i (by omega))]
      exact h2 k hkn
    · obtain rfl : k = Int.toNat n + 1 := by omega
      rw [hd1]
      omega
  · rw [show Int.toNat (n + 1) = Int.toNat n + 1 by omega]
    exact hd1
/-! scripts as run -/
def k_rn (f : Nat → va_E) (cs bg lp : Nat) (N i k : Int) : Prop := 0 ≤ k ∧ k ≤ N ∧ 0 ≤ i ∧ i ≤ 2 ∧ k_dep f cs (Int.toNat k) = i ∧ (1 ≤ i → 0 ≤ q_z f bg 0 ∧ q_z f bg 0 < k ∧ q_z f cs (Int.toNat (q_z f bg 0)) = 6 ∧ k_dep f cs (Int.toNat (q_z f bg 0)) = 0 ∧ 1 ≤ q_z f lp 0 ∧ q_z f lp 0 ≤ 20) ∧ (2 ≤ i → q_z f bg 0 < q_z f bg 1 ∧ q_z f bg 1 < k ∧ q_z f cs (Int.toNat (q_z f bg 1)) = 6 ∧ k_dep f cs (Int.toNat (q_z f bg 1)) = 1 ∧ 1 ≤ q_z f lp 1 ∧ q_z f lp 1 ≤ 20)
def k_mu (f : Nat → va_E) (bg lp : Nat) (i k : Int) : Nat := Int.toNat (if i = 0 then (61 - k) * 1700000 else if i = 1 then (60 - q_z f bg 0) * 1700000 + q_z f lp 0 * 80000 + (61 - k) * 1300 else (60 - q_z f bg 0) * 1700000 + q_z f lp 0 * 80000 + (60 - q_z f bg 1) * 1300 + q_z f lp 1 * 61 + (61 - k))
theorem k_dep1 {f : Nat → va_E} {cs : Nat} {k : Int} (h : 0 ≤ k) : k_dep f cs (Int.toNat (k + 1)) = k_dep f cs (Int.toNat k) + k_stp (q_z f cs (Int.toNat k)) := by
  rw [show Int.toNat (k + 1) = Int.toNat k + 1 by omega]
  rfl
theorem k_rn0 {f : Nat → va_E} {cs bg lp : Nat} {N : Int} (h : 0 ≤ N) : k_rn f cs bg lp N 0 0 := ⟨by decide, h, by decide, by decide, rfl, fun h => absurd h (by decide), fun h => absurd h (by decide)⟩
/-- a repeat begins: there is room for it -/
theorem k_rn_i1 {f : Nat → va_E} {mo cs c1 c2 bg lp : Nat} {N i k : Int} (h : k_rn f cs bg lp N i k) (hs : q_sc f mo cs c1 c2) (hN : q_is (q_z f mo 35) N) (hk : k < N) (h6 : q_is (q_z f cs (Int.toNat k)) 6) : i ≤ 1 ∧ 1 ≤ q_z f c1 (Int.toNat k) ∧ q_z f c1 (Int.toNat k) ≤ 20 := by
  obtain ⟨a0, a1, a2, a3, a4, -, -⟩ := h
  have e6 : q_z f cs (Int.toNat k) = 6 := h6
  have eN : q_z f mo 35 = N := hN
  have h2 := hs.2.1 (Int.toNat (k + 1)) (by omega)
  rw [k_dep1 a0, a4, e6] at h2
  have h3 : k_stp 6 = 1 := rfl
  have h4 := hs.1 (Int.toNat k) (by omega)
  rw [e6] at h4
  exact ⟨by omega, h4.1 rfl⟩
/-- a lap ends: there is one open -/
theorem k_rn_l1 {f : Nat → va_E} {mo cs c1 c2 bg lp : Nat} {N i k : Int} (h : k_rn f cs bg lp N i k) (hs : q_sc f mo cs c1 c2) (hN : q_is (q_z f mo 35) N) (hk : k < N) (h7 : q_is (q_z f cs (Int.toNat k)) 7) : 1 ≤ i := by
  obtain ⟨a0, a1, a2, a3, a4, -, -⟩ := h
  have e7 : q_z f cs (Int.toNat k) = 7 := h7
  have eN : q_z f mo 35 = N := hN
  have h2 := hs.2.1 (Int.toNat (k + 1)) (by omega)
  rw [k_dep1 a0, a4, e7] at h2
  have h3 : k_stp 7 = -1 := rfl
  omega
theorem k_rn_rep {f f1 f2 : Nat → va_E} {cs bg lp : Nat} {N i k x : Int} {v1 v2 : Value} (h : k_rn f cs bg lp N i k) (hk : k < N) (hN : N ≤ 60) (h6 : q_is (q_z f cs (Int.toNat k)) 6) (hi : i ≤ 1) (hx : 1 ≤ x ∧ x ≤ 20) (e1 : f1 = q_set f bg (Int.toNat i) v1) (z1 : q_z f1 bg (Int.toNat i) = k) (e2 : f2 = q_set f1 lp (Int.toNat i) v2) (z2 : q_z f2 lp (Int.toNat i) = x) (n1 : cs ≠ bg) (n2 : cs ≠ lp) (n3 : bg ≠ lp) : k_rn f2 cs bg lp N (i + 1) (k + 1) ∧ k_mu f2 bg lp (i + 1) (k + 1) < k_mu f bg lp i k := by
  obtain ⟨a0, a1, a2, a3, a4, a5, a6⟩ := h
  have e6 : q_z f cs (Int.toNat k) = 6 := h6
  have ecs : ∀ j : Nat, q_z f2 cs j = q_z f cs j := fun j => by rw [e2, q_setz (Or.inl n2), e1, q_setz (Or.inl n1)]
  have ed : ∀ j : Nat, k_dep f2 cs j = k_dep f cs j := fun j => k_dep_eq j (fun q _ => ecs q)
  have zb : q_z f2 bg (Int.toNat i) = k := by rw [e2, q_setz (Or.inl n3)]; exact z1
  have hs : k_stp 6 = 1 := rfl
  have hd : k_dep f2 cs (Int.toNat (k + 1)) = i + 1 := by rw [ed, k_dep1 a0, a4, e6, hs]
  rcases (show i = 0 ∨ i = 1 by omega) with rfl | rfl
  · have zb0 : q_z f2 bg 0 = k := zb
    have zl0 : q_z f2 lp 0 = x := z2
    refine ⟨⟨by omega, by omega, by omega, by omega, hd, fun _ => ?_, fun h => absurd h (by decide)⟩, ?_⟩
    · rw [zb0, zl0, ecs, ed]
      exact ⟨a0, by omega, e6, a4, hx.1, hx.2⟩
    · unfold k_mu
      rw [zb0, zl0, if_pos rfl, if_neg (by decide), if_pos (by decide)]
      omega
  · obtain ⟨b1, b2, b3, b4, b5, b6⟩ := a5 (by decide)
    have zb1 : q_z f2 bg 1 = k := zb
    have zl1 : q_z f2 lp 1 = x := z2
    have zb0 : q_z f2 bg 0 = q_z f bg 0 := by rw [e2, q_setz (Or.inl n3), e1, q_setz (Or.inr (by decide))]
    have zl0 : q_z f2 lp 0 = q_z f lp 0 := by rw [e2, q_setz (Or.inr (by decide)), e1, q_setz (Or.inl (Ne.symm n3))]
    refine ⟨⟨by omega, by omega, by omega, by omega, hd, fun _ => ?_, fun _ => ?_⟩, ?_⟩
    · rw [zb0, zl0, ecs, ed]
      exact ⟨b1, by omega, b3, b4, b5, b6⟩
    · rw [zb0, zb1, zl1, ecs, ed]
      exact ⟨b2, by omega, e6, a4, hx.1, hx.2⟩
    · unfold k_mu
      rw [zb0, zb1, zl0, zl1, if_neg (by decide), if_pos rfl, if_neg (by decide), if_neg (by decide)]
      omega
/-- a lap ends, and there is one more: back behind the repeat; else on -/
theorem k_rn_lap {f f1 : Nat → va_E} {mo cs c1 c2 bg lp : Nat} {N i k y : Int} {v1 : Value} (h : k_rn f cs bg lp N i k) (hs : q_sc f mo cs c1 c2) (hNN : q_is (q_z f mo 35) N) (hk : k < N) (hN : N ≤ 60) (h7 : q_is (q_z f cs (Int.toNat k)) 7) (hi : 1 ≤ i) (hy : q_is (q_z f lp (Int.toNat (i - 1))) y) (e1 : f1 = q_set f lp (Int.toNat (i - 1)) v1) (z1 : q_z f1 lp (Int.toNat (i - 1)) = y - 1) (n2 : cs ≠ lp) (n3 : bg ≠ lp) : (1 ≤ y ∧ y ≤ 20) ∧ (0 ≤ q_z f1 bg (Int.toNat (i - 1)) ∧ q_z f1 bg (Int.toNat (i - 1)) ≤ 59) ∧ (0 < y - 1 → k_rn f1 cs bg lp N i (q_z f1 bg (Int.toNat (i - 1)) + 1) ∧ k_mu f1 bg lp i (q_z f1 bg (Int.toNat (i - 1)) + 1) < k_mu f bg lp i k) ∧ (k_rn f1 cs bg lp N (i - 1) (k + 1) ∧ k_mu f1 bg lp (i - 1) (k + 1) < k_mu f bg lp i k) := by
  obtain ⟨a0, a1, a2, a3, a4, a5, a6⟩ := h
  have e7 : q_z f cs (Int.toNat k) = 7 := h7
  have ey : q_z f lp (Int.toNat (i - 1)) = y := hy
  have ecs : ∀ j : Nat, q_z f1 cs j = q_z f cs j := fun j => by rw [e1, q_setz (Or.inl n2)]
  have ebg : ∀ j : Nat, q_z f1 bg j = q_z f bg j := fun j => by rw [e1, q_setz (Or.inl n3)]
  have ed : ∀ j : Nat, k_dep f1 cs j = k_dep f cs j := fun j => k_dep_eq j (fun q _ => ecs q)
  have hs7 : k_stp 7 = -1 := rfl
  have hs6 : k_stp 6 = 1 := rfl
  have hd : k_dep f1 cs (Int.toNat (k + 1)) = i - 1 := by rw [ed, k_dep1 a0, a4, e7, hs7]; omega
  obtain ⟨b1, b2, b3, b4, b5, b6⟩ := a5 hi
  rcases (show i = 1 ∨ i = 2 by omega) with rfl | rfl
  · have ey0 : q_z f lp 0 = y := ey
    have zl0 : q_z f1 lp 0 = y - 1 := z1
    have eb : q_z f1 bg (Int.toNat (1 - 1)) = q_z f bg 0 := ebg 0
    rw [eb]
    refine ⟨by omega, by omega, fun hm => ⟨⟨by omega, by omega, by omega, by omega, ?_, fun _ => ?_, fun h => absurd h (by decide)⟩, ?_⟩, ⟨by omega, by omega, by omega, by omega, by rw [hd], fun h => absurd h (by decide), fun h => absurd h (by decide)⟩, ?_⟩
    · rw [ed, k_dep1 b1, b4, b3, hs6]; rfl
    · rw [ebg, zl0, ecs, ed]
      exact ⟨b1, by omega, b3, b4, by omega, by omega⟩
    · unfold k_mu
      rw [ebg, zl0, if_neg (by decide), if_pos rfl, if_neg (by decide), if_pos rfl]
      omega
    · unfold k_mu
      rw [show (1 : Int) - 1 = 0 from rfl, if_pos rfl, if_neg (by decide), if_pos rfl]
      omega
  · obtain ⟨d1, d2, d3, d4, d5, d6⟩ := a6 (by decide)
    have ey1 : q_z f lp 1 = y := ey
    have zl1 : q_z f1 lp 1 = y - 1 := z1
    have zl0 : q_z f1 lp 0 = q_z f lp 0 := by rw [e1, q_setz (Or.inr (by decide))]
    have eb : q_z f1 bg (Int.toNat (2 - 1)) = q_z f bg 1 := ebg 1
    rw [eb]
    refine ⟨by omega, by omega, fun hm => ⟨⟨by omega, by omega, by omega, by omega, ?_, fun _ => ?_, fun _ => ?_⟩, ?_⟩, ⟨by omega, by omega, by omega, by omega, by rw [hd], fun _ => ?_, fun h => absurd h (by decide)⟩, ?_⟩
    · rw [ed, k_dep1 (by omega), d4, d3, hs6]; rfl
    · rw [ebg, zl0, ecs, ed]
      exact ⟨b1, by omega, b3, b4, b5, b6⟩
    · rw [ebg, ebg, zl1, ecs, ed]
      exact ⟨d1, by omega, d3, d4, by omega, by omega⟩
    · unfold k_mu
      rw [ebg, ebg, zl0, zl1, if_neg (by decide), if_neg (by decide), if_neg (by decide), if_neg (by decide)]
      omega
    · rw [ebg, zl0, ecs, ed]
      exact ⟨b1, by omega, b3, b4, b5, b6⟩
    · unfold k_mu
      rw [ebg, zl0, show (2 : Int) - 1 = 1 from rfl, if_neg (by decide), if_pos rfl, if_neg (by decide), if_neg (by decide)]
      omega
/-- any other command -/
theorem k_rn_oth {f f1 : Nat → va_E} {cs bg lp : Nat} {N i k : Int} (h : k_rn f cs bg lp N i k) (hk : k < N) (hN : N ≤ 60) (h5 : q_z f cs (Int.toNat k) ≤ 5) (e1 : ∀ j : Nat, q_z f1 cs j = q_z f cs j) (e2 : ∀ j : Nat, q_z f1 bg j = q_z f bg j) (e3 : ∀ j : Nat, q_z f1 lp j = q_z f lp j) : k_rn f1 cs bg lp N i (k + 1) ∧ k_mu f1 bg lp i (k + 1) < k_mu f bg lp i k := by
  obtain ⟨a0, a1, a2, a3, a4, a5, a6⟩ := h
  have ed : ∀ j : Nat, k_dep f1 cs j = k_dep f cs j := fun j => k_dep_eq j (fun q _ => e1 q)
  have hs : k_stp (q_z f cs (Int.toNat k)) = 0 := by unfold k_stp; rw [if_neg (by omega), if_neg (by omega)]
  refine ⟨⟨by omega, by omega, a2, a3, by rw [ed, k_dep1 a0, a4, hs]; omega, fun h => ?_, fun h => ?_⟩, ?_⟩
  · obtain ⟨b1, b2, b3, b4, b5, b6⟩ := a5 h
    rw [e2, e3, e1, ed]
    exact ⟨b1, by omega, b3, b4, b5, b6⟩
  · obtain ⟨b1, b2, b3, b4, b5, b6⟩ := a6 h
    rw [e2, e2, e3, e1, ed]
    exact ⟨b1, by omega, b3, b4, b5, b6⟩
  · unfold k_mu
    rw [e2, e2, e3, e3]
    by_cases h0 : i = 0
    · rw [if_pos h0, if_pos h0]; omega
    · obtain ⟨b1, b2, b3, b4, b5, b6⟩ := a5 (by omega)
      by_cases h1 : i = 1
      · rw [if_neg h0, if_pos h1, if_neg h0, if_pos h1]; omega
      · obtain ⟨d1, d2, d3, d4, d5, d6⟩ := a6 (by omega)
        rw [if_neg h0, if_neg h1, if_neg h0, if_neg h1]; omega
def k_may (f : Nat → va_E) (sr cs c1 c2 : Nat) (k : Nat) : Prop := (q_z f cs k = 0 → 1 ≤ q_z f c1 k ∧ q_z f c1 k ≤ 99 ∧ q_z f sr 3 + q_z f c1 k ≤ 9999) ∧ (1 ≤ q_z f cs k → q_z f cs k ≤ 2 → q_z f sr 4 ≤ 59) ∧ (3 ≤ q_z f cs k → q_z f cs k ≤ 4 → 0 ≤ q_z f c2 k ∧ q_z f c2 k ≤ 59) ∧ (5 ≤ q_z f cs k → 1 ≤ q_z f c2 k ∧ q_z f c2 k ≤ 999)
theorem k_rn_y {f : Nat → va_E} {cs bg lp : Nat} {N i k y : Int} (h : k_rn f cs bg lp N i k) (hi : 1 ≤ i) (hy : q_is (q_z f lp (Int.toNat (i - 1))) y) : 1 ≤ y ∧ y ≤ 20 := by
  obtain ⟨a0, a1, a2, a3, a4, a5, a6⟩ := h
  have ey : q_z f lp (Int.toNat (i - 1)) = y := hy
  rcases (show i = 1 ∨ i = 2 by omega) with rfl | rfl
  · have e : q_z f lp 0 = y := ey
    have := a5 (by decide)
    omega
  · have e : q_z f lp 1 = y := ey
    have := a6 (by decide)
    omega
theorem k_rn_mv {f f0 : Nat → va_E} {cs bg lp : Nat} {N i j k0 b x : Int} (hb : q_is b x) (h : k_rn f cs bg lp N j (b + 1) ∧ k_mu f bg lp j (b + 1) < k_mu f0 bg lp j k0) (e : i = j) : k_rn f cs bg lp N i (x + 1) ∧ k_mu f bg lp i (x + 1) < k_mu f0 bg lp j k0 := by
  have e1 : b = x := hb
  rw [e, ← e1]
  exact h
theorem k_rn_mv2 {f f0 : Nat → va_E} {cs bg lp : Nat} {N i j j0 k k0 : Int} (h : k_rn f cs bg lp N j k ∧ k_mu f bg lp j k < k_mu f0 bg lp j0 k0) (e : i = j) : k_rn f cs bg lp N i k ∧ k_mu f bg lp i k < k_mu f0 bg lp j0 k0 := by
  rw [e]
  exact h
