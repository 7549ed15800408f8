/-! an array of things that are all others -/
def n_ri (r : Nat → Option Nat) (n : Int) : Prop := ∀ i j : Nat, (i : Int) < n → (j : Int) < n → r i = r j → i = j
def n_inj (f : Nat → va_E) (a : Nat) : Prop := ∀ i j : Nat, i < 10 → j < 10 → q_r f a i = q_r f a j → i = j
theorem n_fresh {g : q_G} {K : Nat → Nat} {L : List Nat} {A : Nat → Prop} {Xs : va_W} {f : Nat → va_E} {s : State} {H : Heap} {locs : List Loc} {b : Nat} {e : va_E} (hN : q_N g K L A (Xs ++ [(b, e)]) f s H locs) : b ∉ L := by
  obtain ⟨hP, hD, hK, hS, hT⟩ := hN
  intro hb
  have h := (q_Dn.mp hD).1
  rw [List.map_append, List.nodup_append, q_plfst] at h
  exact h.2.2 b (List.mem_map.mpr ⟨(b, e), List.mem_append_right _ (List.mem_singleton.mpr rfl), rfl⟩) b hb rfl
theorem n_ri0 {r : Nat → Option Nat} : n_ri r 0 := fun i j hi => absurd hi (by omega)
theorem n_riS {K : Nat → Nat} {L : List Nat} {r : Nat → Option Nat} {n : Int} {k v : Nat} (h0 : 0 ≤ n) (h : n_ri r n) (hf : ∀ j : Nat, (j : Int) < n → ∃ q, r j = some q ∧ q ∈ L ∧ K q = k) (hv : v ∉ L) : n_ri (va_up r n.toNat (some v)) (n + 1) := by
  intro i j hi hj e
  by_cases ei : i = n.toNat
  · by_cases ej : j = n.toNat
    · rw [ei, ej]
    · obtain ⟨q, h1, h2, -⟩ := hf j (by omega)
      rw [ei, va_up_self, va_up_ne _ _ ej, h1] at e
      exact absurd h2 (by rw [← Option.some.inj e]; exact hv)
  · by_cases ej : j = n.toNat
    · obtain ⟨q, h1, h2, -⟩ := hf i (by omega)
      rw [ej, va_up_self, va_up_ne _ _ ei, h1] at e
      exact absurd h2 (by rw [Option.some.inj e]; exact hv)
    · rw [va_up_ne _ _ ei, va_up_ne _ _ ej] at e
      exact h i j (by omega) (by omega) e
theorem n_inj_of {g : q_G} {K : Nat → Nat} {L : List Nat} {f : Nat → va_E} {a t N k : Nat} {r : Nat → Option Nat} (e : f a = .inl (g.2 t, N, .inr (.inr (.inr (.inr r))))) (hf : ∀ j : Nat, (j : Int) < 10 → ∃ q, r j = some q ∧ q ∈ L ∧ K q = k) (hi : n_ri r 10) : n_inj f a := by
  intro i j h1 h2 h
  obtain ⟨q1, a1, -, -⟩ := hf i (by omega)
  obtain ⟨q2, a2, -, -⟩ := hf j (by omega)
  have b1 : q_r f a i = q1 := by
    unfold q_r q_v; rw [e]; show q_rv (va_rf (r i)) = q1; rw [a1]; rfl
  have b2 : q_r f a j = q2 := by
    unfold q_r q_v; rw [e]; show q_rv (va_rf (r j)) = q2; rw [a2]; rfl
  rw [b1, b2] at h
  exact hi i j (by omega) (by omega) (by rw [a1, a2, h])
theorem n_inj_tr {f f1 : Nat → va_E} {a : Nat} (e : f1 a = f a) (h : n_inj f a) : n_inj f1 a := fun i j h1 h2 q => by
  rw [q_rc e, q_rc e] at q
  exact h i j h1 h2 q
theorem n_ij {g : q_G} {K : Nat → Nat} {L : List Nat} {f : Nat → va_E} {a : Nat} (hT : q_Ty g K L f) (ha : a ∈ L) (hk : K a = 111) (hj : n_inj f a) : tk_ij K L f a := by
  obtain ⟨h, h1, h2, h3⟩ := q_ty_arr hT ha hk (by decide)
  intro i hi
  have h5 : q_ok K L (2, 17, 0) (q_v f a i) := h3 i hi
  obtain ⟨y, h6, h7, h8⟩ := h5
  refine ⟨?_, fun j hj9 e => hj i j hi hj9 e⟩
  have e : q_r f a i = y := by unfold q_r; rw [h6]; rfl
  rw [e]
  exact ⟨h7, h8⟩
/-! the two buffers -/
def tk_bb (f : Nat → va_E) (bu ba : Nat) (n : Int) : Prop := ∀ i : Nat, (i : Int) < n → q_z f bu i = tk_u (q_z f ba i)
def tk_b9 (f : Nat → va_E) (ba : Nat) (n : Int) (G : Nat → Int) : Prop := ∀ k : Nat, k < 20 → q_z f ba (Int.toNat n + k) = G k
theorem tk_b9_tr {f f1 : Nat → va_E} {ba : Nat} {n : Int} {G : Nat → Int} (h : tk_b9 f ba n G) (e : ∀ i : Nat, q_z f1 ba i = q_z f ba i) : tk_b9 f1 ba n G := fun k hk => (e _).trans (h k hk)
theorem tk_bb_tr {f f1 : Nat → va_E} {bu ba : Nat} {n : Int} (h : tk_bb f bu ba n) (e1 : ∀ i : Nat, q_z f1 bu i = q_z f bu i) (e2 : ∀ i : Nat, q_z f1 ba i = q_z f ba i) : tk_bb f1 bu ba n := fun i hi => by rw [e1, e2]; exact h i hi
theorem tk_bb_le {f : Nat → va_E} {bu ba : Nat} {n m : Int} (h : tk_bb f bu ba n) (hm : m ≤ n) : tk_bb f bu ba m := fun i hi => h i (by omega)
theorem tk_bb_c {f f1 : Nat → va_E} {bu ba : Nat} {n : Int} {G : Nat → Int} {m : Nat} (h : tk_bb f bu ba n) (t : tk_wr f f1 ba n G m) (e : ∀ i : Nat, q_z f1 bu i = q_z f bu i) : tk_bb f1 bu ba n := fun i hi => by rw [e, t.1 i hi]; exact h i hi
theorem tk_bb_m {f f1 : Nat → va_E} {bu ba : Nat} {n : Int} {G : Nat → Int} (h : tk_bb f bu ba n) (hn : 0 ≤ n) (h9 : tk_b9 f ba n G) (t : tk_wr f f1 bu n (fun k => tk_u (G k)) 20) (e : ∀ i : Nat, q_z f1 ba i = q_z f ba i) : tk_bb f1 bu ba (n + 20) := fun i hi => by
  by_cases hi2 : (i : Int) < n
  · rw [e, t.1 i hi2]; exact h i hi2
  · have h1 := t.2 (i - Int.toNat n) (by omega)
    have h2 := h9 (i - Int.toNat n) (by omega)
    rw [show Int.toNat n + (i - Int.toNat n) = i by omega] at h1 h2
    rw [h1, e, h2]
theorem tk_bb_ub {g : q_G} {K : Nat → Nat} {L : List Nat} {f : Nat → va_E} {bu ba : Nat} {B : Nat → Int} {n : Int} (h : tk_bb f bu ba n) (hT : q_Ty g K L f) (hba : ba ∈ L) (kba : K ba = 142) (hB : ∀ i : Nat, B i = q_z f ba i) (hn : n ≤ 600) : tk_ub f bu B n := fun i hi => by
  rw [hB i]
  exact ⟨h i hi, q_ai hT hba kba (by decide) (show (q_at 142).2 = 600 from rfl) (by omega) rfl⟩
theorem tk_wok {F : tk_R tk_A} {f : Nat → va_E} {a : Nat} {z : Int} (h : ∃ A1 : tk_A, F = tk_ok A1 ∧ z = ((tk_nd A1).length : Int)) (hz : z ≤ 10) (hl : q_j f a 0 = q_l z) : ∃ A1 : tk_A, F = tk_ok A1 ∧ ((tk_nd A1).length ≤ 10 ∧ q_j f a 0 = q_l ((tk_nd A1).length : Int)) := by
  obtain ⟨A1, h1, h2⟩ := h
  exact ⟨A1, h1, by omega, by rw [hl, h2]⟩
