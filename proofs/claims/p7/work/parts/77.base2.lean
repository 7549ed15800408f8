/-! the number of a name, in what there is now -/
section QNV
variable {K : Nat → Nat} {L : List Nat} {f f1 : Nat → va_E} {v nds kn nm : Nat} {nl : List (List Int)}
theorem tk_nv_step {wl : List Int} {i y : Int} {z : Nat} {jx p0 : Int64} (h : ∀ j : Nat, (j : Int) < i → nl.getD j [] ≠ wl) (hv : tk_vn K L kn f v nds nl) (h0 : 0 ≤ i) (hi : i < (nl.length : Int)) (hz : z = q_r f nds (Int.toNat i)) (ej : q_j f z 0 = jx) (hg : y = 0 ↔ jx = p0) (hp : p0 = tk_cw wl) (hy : ¬ y = 0) : ∀ j : Nat, (j : Int) < i + 1 → nl.getD j [] ≠ wl := by
  intro j hj
  by_cases e : (j : Int) < i
  · exact h j e
  · intro hw
    obtain rfl : j = Int.toNat i := by omega
    have h7 := (hv.2.2 (Int.toNat i) (by omega)).1
    rw [hw, ← hp, ← hz, ej] at h7
    exact hy (hg.mpr h7)
theorem tk_nv_hit {wl : List Int} {i y : Int} {z : Nat} {jx p0 : Int64} (h : ∀ j : Nat, (j : Int) < i → nl.getD j [] ≠ wl) (hv : tk_vn K L kn f v nds nl) (h0 : 0 ≤ i) (hi : i < (nl.length : Int)) (hz : z = q_r f nds (Int.toNat i)) (ej : q_j f z 0 = jx) (hg : y = 0 ↔ jx = p0) (hp : p0 = tk_cw wl) (hw : tk_isw wl) (hy : y = 0) : tk_ix nl wl = some (Int.toNat i) := by
  have h7 := hv.2.2 (Int.toNat i) (by omega)
  have e : tk_cw (nl.getD (Int.toNat i) []) = tk_cw wl := by rw [← h7.1, ← hz, ej, hg.mp hy, hp]
  exact tk_ix_some (by omega) (tk_cw_inj h7.2.2 hw.2 h7.2.1 hw.1 e) (fun j hj => h j (by omega))
theorem tk_nv_none {wl : List Int} {i : Int} (h : ∀ j : Nat, (j : Int) < i → nl.getD j [] ≠ wl) (hl : (nl.length : Int) ≤ i) : tk_ix nl wl = none := tk_ix_none (fun j hj => h j (by omega))
theorem tk_lq_hit {wl : List Int} {k y : Int} {jx jw : Int64} (h : tk_nq f nm nl) (h0 : 0 ≤ k) (hi : k < (nl.length : Int)) (ej : q_j f nm (Int.toNat k) = jx) (ew : jw = tk_mw wl) (hg : y = 0 ↔ jx = jw) (hv : tk_isw wl) (hy : y = 0) : tk_lm nl wl (k + 1) k := by
  have h7 := h.2.1 (Int.toNat k) (by omega)
  have e : tk_mw (nl.getD (Int.toNat k) []) = tk_mw wl := by rw [← h7.1, ej, hg.mp hy, ew]
  exact Or.inr ⟨h0, by omega, tk_mw_inj h7.2.2 hv.2 h7.2.1 hv.1 e⟩
theorem tk_lq_miss {wl : List Int} {k y its : Int} {jx jw : Int64} (hl : tk_lm nl wl k its) (h : tk_nq f nm nl) (h0 : 0 ≤ k) (hi : k < (nl.length : Int)) (ej : q_j f nm (Int.toNat k) = jx) (ew : jw = tk_mw wl) (hg : y = 0 ↔ jx = jw) (hy : ¬ y = 0) : tk_lm nl wl (k + 1) its := by
  rcases hl with ⟨h1, h2⟩ | ⟨h1, h2, h3⟩
  · refine Or.inl ⟨h1, fun j hj => ?_⟩
    by_cases e : (j : Int) < k
    · exact h2 j e
    · intro hw
      obtain rfl : j = Int.toNat k := by omega
      have h7 := (h.2.1 (Int.toNat k) (by omega)).1
      rw [hw, ← ew, ej] at h7
      exact hy (hg.mpr h7)
  · exact Or.inr ⟨h1, by omega, h3⟩
theorem tk_lq_some {wl : List Int} {k its : Int} (hl : tk_lm nl wl k its) (h : tk_nq f nm nl) (h0 : 0 ≤ its) (hk : k ≤ (nl.length : Int)) : tk_ix nl wl = some (Int.toNat its) := by
  rcases hl with ⟨h1, -⟩ | ⟨-, h2, h3⟩
  · omega
  · exact tk_ix_some (by omega) h3 (fun j hj hw => by have := h.2.2 j (Int.toNat its) (by omega) (by omega) (hw.trans h3.symm); omega)
theorem tk_lq_none {wl : List Int} {k its : Int} (hl : tk_lm nl wl k its) (hi : its = -1) (hk : (nl.length : Int) ≤ k) : tk_ix nl wl = none := by
  rcases hl with ⟨-, h2⟩ | ⟨h1, -, -⟩
  · exact tk_ix_none (fun j hj => h2 j (by omega))
  · omega
end QNV
/-! the repeats that are open -/
def tk_c3 (K : Nat → Nat) (L : List Nat) (f : Nat → va_E) (cmds : Nat) : Prop := ∀ i : Nat, i < 30 → (q_r f cmds i ∈ L ∧ K (q_r f cmds i) = 0) ∧ ∀ j : Nat, j < 30 → q_r f cmds i = q_r f cmds j → i = j
/-- d are open, the inmost is the command i of c -/
def tk_ch (K : Nat → Nat) (L : List Nat) (f : Nat → va_E) (cmds : Nat) (c i d : Int) : Prop := tk_c3 K L f cmds ∧ (0 ≤ c ∧ c ≤ 30) ∧ ((d = 0 ∧ i = -1) ∨ (d = 1 ∧ (0 ≤ i ∧ i < c) ∧ q_z f (q_r f cmds (Int.toNat i)) 5 = -1) ∨ (d = 2 ∧ (0 ≤ i ∧ i < c) ∧ ∃ j : Int, (0 ≤ j ∧ j < c) ∧ q_z f (q_r f cmds (Int.toNat i)) 5 = j ∧ q_z f (q_r f cmds (Int.toNat j)) 5 = -1))
section QCH
variable {K : Nat → Nat} {L : List Nat} {f f1 : Nat → va_E} {cmds : Nat} {c i d c1 i1 d1 x : Int}
theorem tk_c3_tr (h : tk_c3 K L f cmds) (e : ∀ i : Nat, q_r f1 cmds i = q_r f cmds i) : tk_c3 K L f1 cmds := by
  intro i hi
  rw [e i]
  exact ⟨(h i hi).1, fun j hj q => (h i hi).2 j hj (by rw [e j] at q; exact q)⟩
theorem tk_ch_tr (h : tk_ch K L f cmds c i d) (e5 : ∀ a : Nat, a ∈ L → K a = 0 → q_z f1 a 5 = q_z f a 5) (er : ∀ i : Nat, q_r f1 cmds i = q_r f cmds i) : tk_ch K L f1 cmds c i d := by
  obtain ⟨h1, h2, h3⟩ := h
  have key : ∀ j : Int, 0 ≤ j → j < c → q_z f1 (q_r f1 cmds (Int.toNat j)) 5 = q_z f (q_r f cmds (Int.toNat j)) 5 := fun j h4 h5 => by
    have h6 := (h1 (Int.toNat j) (by omega)).1
    rw [er]
    exact e5 _ h6.1 h6.2
  refine ⟨tk_c3_tr h1 er, h2, ?_⟩
  rcases h3 with h3 | ⟨h3, h4, h5⟩ | ⟨h3, h4, j, h5, h6, h7⟩
  · exact Or.inl h3
  · exact Or.inr (Or.inl ⟨h3, h4, (key i h4.1 h4.2).trans h5⟩)
  · exact Or.inr (Or.inr ⟨h3, h4, j, h5, (key i h4.1 h4.2).trans h6, (key j h5.1 h5.2).trans h7⟩)
theorem tk_ch_0 (h : tk_c3 K L f cmds) (hc : c = 0) (hi : i = -1) (hd : d = 0) : tk_ch K L f cmds c i d := ⟨h, by omega, Or.inl ⟨hd, hi⟩⟩
theorem tk_ch_is (h : tk_ch K L f cmds c i d) : (d = 0 ∧ i = -1) ∨ (1 ≤ d ∧ d ≤ 2 ∧ 0 ≤ i ∧ i < c) := by
  rcases h.2.2 with h3 | ⟨h3, h4, -⟩ | ⟨h3, h4, -⟩
  · exact Or.inl h3
  · exact Or.inr ⟨by omega, by omega, h4⟩
  · exact Or.inr ⟨by omega, by omega, h4⟩
/-- one command more -/
theorem tk_ch_more (h : tk_ch K L f cmds c i d) (hc : c < 30) (e : c1 = c + 1) : tk_ch K L f cmds c1 i d := by
  obtain ⟨h1, h2, h3⟩ := h
  refine ⟨h1, by omega, ?_⟩
  rcases h3 with h3 | ⟨h3, h4, h5⟩ | ⟨h3, h4, j, h5, h6, h7⟩
  · exact Or.inl h3
  · exact Or.inr (Or.inl ⟨h3, ⟨h4.1, by omega⟩, h5⟩)
  · exact Or.inr (Or.inr ⟨h3, ⟨h4.1, by omega⟩, j, ⟨h5.1, by omega⟩, h6, h7⟩)
/-- one repeat more is open -/
theorem tk_ch_open {p : Nat} (h : tk_ch K L f cmds c i d) (hc : c < 30) (hd : d ≤ 1) (hp : p = q_r f cmds (Int.toNat c)) (e5 : q_z f1 p 5 = i) (o5 : ∀ a : Nat, a ∈ L → K a = 0 → a ≠ p → q_z f1 a 5 = q_z f a 5) (er : ∀ i : Nat, q_r f1 cmds i = q_r f cmds i) (ec : c1 = c + 1) (ei : i1 = c) (ed : d1 = d + 1) : tk_ch K L f1 cmds c1 i1 d1 := by
  obtain ⟨h1, h2, h3⟩ := h
  have key : ∀ j : Int, 0 ≤ j → j < c → q_z f1 (q_r f1 cmds (Int.toNat j)) 5 = q_z f (q_r f cmds (Int.toNat j)) 5 := fun j h4 h5 => by
    have h6 := (h1 (Int.toNat j) (by omega)).1
    rw [er]
    exact o5 _ h6.1 h6.2 (fun q => by have := (h1 (Int.toNat j) (by omega)).2 (Int.toNat c) (by omega) (q.trans hp); omega)
  have e5' : q_z f1 (q_r f1 cmds (Int.toNat c)) 5 = i := by rw [er, ← hp]; exact e5
  subst ei
  refine ⟨tk_c3_tr h1 er, by omega, ?_⟩
  rcases h3 with h3 | ⟨h3, h4, h5⟩ | ⟨h3, -⟩
  · exact Or.inr (Or.inl ⟨by omega, by omega, e5'.trans h3.2⟩)
  · exact Or.inr (Or.inr ⟨by omega, by omega, i, ⟨h4.1, by omega⟩, e5', (key i h4.1 h4.2).trans h5⟩)
  · omega
/-- what stands round the inmost -/
theorem tk_ch_o {p : Nat} (h : tk_ch K L f cmds c i d) (hd : 1 ≤ d) (hp : p = q_r f cmds (Int.toNat i)) (hx : q_is (q_z f p 5) x) : -1 ≤ x ∧ x ≤ 29 := by
  have hx : q_z f p 5 = x := hx
  rw [hp] at hx
  obtain ⟨-, h2, h3⟩ := h
  rcases h3 with h3 | ⟨h3, h4, h5⟩ | ⟨h3, h4, j, h5, h6, h7⟩ <;> omega
theorem tk_ch_close {p : Nat} (h : tk_ch K L f cmds c i d) (hd : 1 ≤ d) (hp : p = q_r f cmds (Int.toNat i)) (hx : q_is (q_z f p 5) x) (e : d1 = d - 1) : tk_ch K L f cmds c x d1 := by
  have hx : q_z f p 5 = x := hx
  rw [hp] at hx
  obtain ⟨h1, h2, h3⟩ := h
  refine ⟨h1, h2, ?_⟩
  rcases h3 with h3 | ⟨h3, h4, h5⟩ | ⟨h3, h4, j, h5, h6, h7⟩
  · omega
  · exact Or.inl ⟨by omega, by omega⟩
  · obtain rfl : j = x := h6.symm.trans hx
    exact Or.inr (Or.inl ⟨by omega, h5, h7⟩)
theorem tk_ch_w {a b e : Int} (h : tk_ch K L f cmds c i d) (h1 : q_is a c) (h2 : q_is b i) (h3 : q_is e d) : tk_ch K L f cmds a b e := by
  have h1 : a = c := h1
  have h2 : b = i := h2
  have h3 : e = d := h3
  rw [h1, h2, h3]; exact h
theorem tk_ch_f {a b e : Int} (h : tk_ch K L f cmds a b e) (h1 : q_is a c) (h2 : q_is b i) (h3 : q_is e d) : tk_ch K L f cmds c i d := by
  have h1 : a = c := h1
  have h2 : b = i := h2
  have h3 : e = d := h3
  rw [← h1, ← h2, ← h3]; exact h
theorem tk_o5_tr {p : Nat} {f2 : Nat → va_E} (h : ∀ a9 : Nat, a9 ∈ L → K a9 = 0 → a9 ≠ p → q_z f1 a9 5 = q_z f a9 5) (e : ∀ a9 : Nat, a9 ∈ L → K a9 = 0 → a9 ≠ p → q_z f2 a9 5 = q_z f1 a9 5) : ∀ a9 : Nat, a9 ∈ L → K a9 = 0 → a9 ≠ p → q_z f2 a9 5 = q_z f a9 5 := fun a9 h1 h2 h3 => (e a9 h1 h2 h3).trans (h a9 h1 h2 h3)
theorem tk_xok {F : tk_R (Int × Int × Int)} {a b c x y z : Int} (h : F = tk_ok (x, y, z)) (ha : q_is a x) (hb : q_is b y) (hc : q_is c z) : F = tk_ok (a, b, c) := by
  have ha : a = x := ha
  have hb : b = y := hb
  have hc : c = z := hc
  rw [h, ha, hb, hc]
theorem tk_xof {F : tk_R (Int × Int × Int)} {a b c x y z : Int} (h : F = tk_ok (a, b, c)) (ha : q_is a x) (hb : q_is b y) (hc : q_is c z) : F = tk_ok (x, y, z) := by
  have ha : a = x := ha
  have hb : b = y := hb
  have hc : c = z := hc
  rw [h, ha, hb, hc]
end QCH
section QUW
variable {B : Nat → Int} {n s d c a b x y q : Int} {nl : List (List Int)} {F : tk_R Int}
theorem tk_okr (h : F = tk_ok x) (hx : q_is a x) : F = tk_ok a := by
  have hx : a = x := hx
  rw [h, hx]
theorem tk_U_w (h : F = tk_U B n nl x y c) (e1 : q_is a x) (e2 : q_is b y) : F = tk_U B n nl a b c := by
  have e1 : a = x := e1
  have e2 : b = y := e2
  rw [h, e1, e2]
theorem tk_U_r (h : F = tk_U B n nl a b c) (e1 : q_is a x) (e2 : q_is b y) : F = tk_U B n nl x y c := by
  have e1 : a = x := e1
  have e2 : b = y := e2
  rw [h, e1, e2]
theorem tk_ncl_0 (h : ¬ 0 < y) (e1 : q_is a x) (e2 : q_is b y) : ¬ (0 < b ∧ tk_k B n a = 41) := by
  have e2 : b = y := e2
  rw [e2]; exact fun h9 => h h9.1
theorem tk_ncl_k (h : tk_k B n x ≠ 41) (e1 : q_is a x) (e2 : q_is b y) : ¬ (0 < b ∧ tk_k B n a = 41) := by
  have e1 : a = x := e1
  rw [e1]; exact fun h9 => h h9.2
theorem tk_ncl_r (h : ¬ (0 < b ∧ tk_k B n a = 41)) (e1 : q_is a x) (e2 : q_is b y) : ¬ (0 < y ∧ tk_k B n x = 41) := by
  have e1 : a = x := e1
  have e2 : b = y := e2
  rw [← e1, ← e2]; exact h
theorem tk_k41 (h : tk_k B n s = 41) : tk_k B n s ≠ 0 := by rw [h]; decide
theorem tk_ifn (h : ¬ q = 6) : d = (if q = 6 then d + 1 else d) := by rw [if_neg h]
end QUW
/-- the commands of the script are all others -/
def n_cj (L : List Nat) (f : Nat → va_E) (a : Nat) : Prop := a ∈ L ∧ ∀ i j : Nat, i < 30 → j < 30 → q_r f a i = q_r f a j → i = j
theorem n_cj_tr {L L2 : List Nat} {f f2 : Nat → va_E} {a : Nat} (h : ∀ a ∈ L, a ∈ L2 ∧ f2 a = f a) (hv : n_cj L f a) : n_cj L2 f2 a := ⟨(h _ hv.1).1, fun i j h1 h2 q => by
  rw [q_rc (h _ hv.1).2, q_rc (h _ hv.1).2] at q
  exact hv.2 i j h1 h2 q⟩
theorem n_cj_of {K : Nat → Nat} {g : q_G} {L L0 : List Nat} {f : Nat → va_E} {a t N k : Nat} {r : Nat → Option Nat} (ha : a ∈ L) (e : f a = .inl (g.2 t, N, .inr (.inr (.inr (.inr r))))) (hf : ∀ j : Nat, (j : Int) < 30 → ∃ q, r j = some q ∧ q ∈ L0 ∧ K q = k) (hi : n_ri r 30) : n_cj L f a := by
  refine ⟨ha, fun i j h1 h2 h => ?_⟩
  obtain ⟨q1, a1, -, -⟩ := hf i (by omega)
  obtain ⟨q2, a2, -, -⟩ := hf j (by omega)
  have b1 : q_r f a i = q1 := by
    unfold q_r q_v; rw [e]; show q_rv (va_rf (r i)) = q1; rw [a1]; rfl
  have b2 : q_r f a j = q2 := by
    unfold q_r q_v; rw [e]; show q_rv (va_rf (r j)) = q2; rw [a2]; rfl
  rw [b1, b2] at h
  exact hi i j (by omega) (by omega) (by rw [a1, a2, h])
theorem n_c3 {g : q_G} {K : Nat → Nat} {L : List Nat} {f : Nat → va_E} (hT : q_Ty g K L f) {a : Nat} (hk : K a = 141) (h : n_cj L f a) : tk_c3 K L f a := fun i hi => ⟨n_el (k2 := 0) (n := 30) hT h.1 hk (by decide) rfl (fun _ => rfl) hi, fun j hj e => h.2 i j hi hj e⟩
theorem tk_e2_tr {f f1 : Nat → va_E} {so mo i j : Nat} (h : q_z f so i = q_z f mo j) (e1 : q_z f1 so i = q_z f so i) (e2 : q_z f1 mo j = q_z f mo j) : q_z f1 so i = q_z f1 mo j := e1.trans (h.trans e2.symm)
theorem tk_ere {α : Type} {a b c d : Int} (h : (tk_er a b : tk_R α) = tk_er c d) : a = c ∧ b = d := by
  have h5 := Except.error.inj h
  rw [Prod.mk.injEq] at h5
  exact h5
