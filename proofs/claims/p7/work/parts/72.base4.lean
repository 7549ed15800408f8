/-! a constructor that is called: what is new is none of the old -/
section QN39
variable {p : Program} {l : Launch} {e : Env} {R : Room} {s : State} {m : MethodId} {args : Array Value} {below : List Frame} {meth : Method} {c : Code} {H : Heap} {locs : List Loc} {cells slots : Nat} {Q : State → Prop}
variable {cc : ByteArray} {pc nL : Nat} {ls : Array Slot} {rest : List Value} {own : String}
variable {g : q_G} {K : Nat → Nat} {L : List Nat} {A : Nat → Prop} {Xs : va_W} {f : Nat → va_E}
theorem n_callI2 {y : MethodName} {bytes : ByteArray} {maxL fr lo mc ms index ci b k : Nat} {fs0 : List Value} {Pf Pf2 : List Nat → (Nat → va_E) → Nat → Prop}
    (cx : CallFix p m c cc nL s args q_al own) (hE : q_Env s) (hA : ∀ q, s.heap.size ≤ q → A q) (hN : q_N g K L A (Xs ++ [(b, .inr (ci, fs0))]) f s H locs) (hM : q_Nw l g y bytes maxL fr lo mc ms ci fs0 k Pf)
    (hm : ∀ (L1 : List Nat) (f1 : Nat → va_E) (L' : List Nat) (f' : Nat → va_E), (∀ a ∈ L1, a ∈ L' ∧ f' a = f1 a) → (∀ a ∈ L1, a ∉ L) → b ∈ L1 → Pf L1 f1 b → Pf2 L' f' b)
    (hini : Cond.initialized y.cls ∈ q_al) (hlk : Cond.methodLink own index y ∈ q_al) (hin : Cond.instanceMethod y ∈ q_al) (hcd : Cond.code y bytes maxL none ∈ q_al) (hy1 : y.name = "<init>")
    (hd : y.cls ≠ "java/lang/invoke/MethodHandle" ∧ y.cls ≠ "java/lang/invoke/VarHandle" ∧ (parseMethodDescriptor y.desc).map (fun d => d.parameters.length) = some 0)
    (hR : (fr + 1 ≤ R.frames ∧ 8 + (maxL + 11) + lo ≤ R.locals) ∧ cells + mc ≤ R.cells ∧ slots + ms ≤ R.slots) (hls : ls.size = nL) (hcat : (rest.map fun v => v.category).sum ≤ 8) (hdg : decode cc pc = .ok (.invokespecial index, 3))
    (kk : ∀ (K' : Nat → Nat) (L' : List Nat) (f' : Nat → va_E) (H1 : Heap) (locs1 : List Loc), b ∈ L' → K' b = k → (∀ a ∈ L, a ∈ L' ∧ K' a = K a ∧ f' a = f a) → Pf2 L' f' b → q_N g K' L' A Xs f' s H1 locs1 → W p l e R s m args below meth c H1 locs1 (cells + mc) (slots + ms) Q (F0 m (pc + 3) ls rest)) : W p l e R s m args below meth c H locs cells slots Q (F0 m pc ls (.ref b :: rest)) := by
  obtain ⟨hP, hD, hK, hS, hT⟩ := hN
  have hp0 : ((Xs ++ [(b, (.inr (ci, fs0) : va_E))]) ++ va_pl L f).Perm ([(b, (.inr (ci, fs0) : va_E))] ++ (Xs ++ va_pl L f)) := by
    rw [List.append_assoc]
    exact List.perm_middle
  obtain ⟨hP0, hD0⟩ := q_perm hp0 hP hD
  have hAb : A b := (q_Dn.mp hD0).2 (b, .inr (ci, fs0)) (List.mem_append_left _ (List.mem_singleton.mpr rfl))
  have hPb : va_P g.1 vwCl [(b, .inr (ci, fs0))] H := q_Pm.mpr fun q hq => q_Pm.mp hP0 q (List.mem_append_left _ hq)
  have hr := va_runI (e := e) (below := below) (meth := meth) (As := []) (rest := rest) (R := R) (cells := cells) (slots := slots) (locs := locs) (g := F0 m pc ls (.ref b :: rest)) cx (hM b H.size) (cwI 0 cx.2.2.2.2 (q_goodA (q_cons hcd q_self)) rfl rfl rfl (cx.2.2.2.2 _ hini) (cx.2.2.2.2 _ hlk) (cx.2.2.2.2 _ hin) hy1 hd hR.1) ⟨n_blind, fun U hU hW => ⟨rfl, by rw [hU], by rw [hU]; exact hPb, va_K.moved hW.alike hK, hE.to hW⟩⟩ rfl rfl hls rfl (lv_room hcat) hdg hR.2
  intro T9 hT9 X9
  obtain ⟨v, st₀, t, T', L9, h0, X', hL, e1, e2, ⟨⟨K1, L1, f1, hv, hb1, hk1, hn1, hs1, hT1, hp1, hP1, hK1⟩, hz, hk⟩, st⟩ := hr T9 hT9 X9
  cases hv
  rw [h0] at hz hk
  have hF : ∀ q, (q = b ∨ H.size ≤ q) → A q := fun q h => h.elim (fun e => e ▸ hAb) (fun h => hA q (Nat.le_trans hS.1 h))
  obtain ⟨hP2, hD2, hdis⟩ := q_join (A1 := fun q => q = b ∨ H.size ≤ q) (w1 := va_pl L1 f1) hP0 hD0 (fun q h hq => h.elim (fun e => ⟨_, List.mem_singleton.mpr rfl, e.symm⟩) (fun h => absurd hq (Nat.not_lt_of_le h))) hk hP1 (by rw [q_plfst]; exact hn1) (fun x hx => by
    obtain ⟨a, ha, rfl⟩ := List.mem_map.mp hx
    exact hs1 a ha) hF
  have hnot : ∀ a ∈ L1, a ∉ L := fun a h1 h2 => hdis (a, f1 a) (List.mem_map.mpr ⟨a, h1, rfl⟩) (a, f a) (List.mem_append_right _ (List.mem_map.mpr ⟨a, h2, rfl⟩)) rfl
  have o1 : ∀ a ∈ L, a ∈ L ++ L1 ∧ (if a ∈ L then K a else K1 a) = K a ∧ (if a ∈ L then f a else f1 a) = f a := fun a ha => ⟨List.mem_append_left _ ha, if_pos ha, if_pos ha⟩
  have o2 : ∀ a ∈ L1, a ∈ L ++ L1 ∧ (if a ∈ L then K a else K1 a) = K1 a ∧ (if a ∈ L then f a else f1 a) = f1 a := fun a ha => ⟨List.mem_append_right _ ha, if_neg (hnot a ha), if_neg (hnot a ha)⟩
  have hp3 : (va_pl L1 f1 ++ (Xs ++ va_pl L f)).Perm (Xs ++ va_pl (L ++ L1) (fun a => if a ∈ L then f a else f1 a)) := by
    rw [q_pl_app (f := f) (f1 := f1) (fun a ha => (o1 a ha).2.2) (fun a ha => (o2 a ha).2.2), show Xs ++ (va_pl L f ++ va_pl L1 f1) = (Xs ++ va_pl L f) ++ va_pl L1 f1 from (List.append_assoc _ _ _).symm]
    exact List.perm_append_comm
  obtain ⟨hP3, hD3⟩ := q_perm hp3 hP2 hD2
  have hT3 : q_Ty g (fun a => if a ∈ L then K a else K1 a) (L ++ L1) (fun a => if a ∈ L then f a else f1 a) := by
    intro a ha
    rcases List.mem_append.mp ha with h | h
    · show q_Sh g (if a ∈ L then K a else K1 a) (if a ∈ L then f a else f1 a) _
      rw [(o1 a h).2.1, (o1 a h).2.2]
      exact q_Sh_mono (fun t v => q_ok_mono (fun x hx => ⟨(o1 x hx).1, (o1 x hx).2.1⟩)) (hT a h)
    · show q_Sh g (if a ∈ L then K a else K1 a) (if a ∈ L then f a else f1 a) _
      rw [(o2 a h).2.1, (o2 a h).2.2]
      exact q_Sh_mono (fun t v => q_ok_mono (fun x hx => ⟨(o2 x hx).1, (o2 x hx).2.1⟩)) (hT1 a h)
  obtain ⟨t2, a1, b1⟩ := kk _ _ _ t.heap (locs ++ L9) (o2 b hb1).1 ((o2 b hb1).2.1.trans hk1) o1 (hm L1 f1 _ _ (fun a ha => ⟨(o2 a ha).1, (o2 a ha).2.2⟩) hnot hb1 hp1) ⟨hP3, hD3, hK, ⟨Nat.le_trans hS.1 hz, fun q h1 h2 => by
      rw [hk q (Nat.lt_of_lt_of_le h1 hS.1) (fun h => h2 (hF q h))]
      exact hS.2.1 q h1 h2, fun q hq => by
      rcases List.mem_append.mp hq with h | h
      · exact hS.2.2 q h
      · exact hF _ (hL q h)⟩, hT3⟩ T' e1 X'
  exact ⟨t2, st t2 a1, b1⟩
end QN39

/-- the kept villages, as they are made -/
def n_ky (L : List Nat) (f : Nat → va_E) (r : Nat → Option Nat) (n : Int) : Prop := ∀ j : Nat, (j : Int) < n → ∃ q, r j = some q ∧ (q ∈ L ∧ q_r f q 0 ∈ L ∧ n_inj f (q_r f q 0) ∧ ∀ t : Nat, t < 10 → q_r f (q_r f q 0) t ∈ L) ∧ ∀ (j2 q2 : Nat), (j2 : Int) < n → j ≠ j2 → r j2 = some q2 → q ≠ q2 ∧ ∀ a b : Nat, a < 10 → b < 10 → q_r f (q_r f q 0) a ≠ q_r f (q_r f q2 0) b
def n_kz (L : List Nat) (f : Nat → va_E) (ka : Nat) : Prop := ka ∈ L ∧ ∀ i : Nat, i < 6 → (q_r f ka i ∈ L ∧ q_r f (q_r f ka i) 0 ∈ L ∧ n_inj f (q_r f (q_r f ka i) 0)) ∧ ∀ j : Nat, j < 6 → i ≠ j → q_r f ka i ≠ q_r f ka j ∧ ∀ a b : Nat, a < 10 → b < 10 → q_r f (q_r f (q_r f ka i) 0) a ≠ q_r f (q_r f (q_r f ka j) 0) b
/-- a village that is made -/
def n_vl (L : List Nat) (f : Nat → va_E) (a1 : Nat) : Prop := a1 ∈ L ∧ n_inj f a1 ∧ ∀ t : Nat, t < 10 → q_r f a1 t ∈ L
theorem n_vl_tr {L L2 : List Nat} {f f2 : Nat → va_E} {a1 : Nat} (h : ∀ a ∈ L, a ∈ L2 ∧ f2 a = f a) (hv : n_vl L f a1) : n_vl L2 f2 a1 := ⟨(h _ hv.1).1, n_inj_tr (h _ hv.1).2 hv.2.1, fun t ht => by rw [q_rc (h _ hv.1).2]; exact (h _ (hv.2.2 t ht)).1⟩
theorem n_in_of {g : q_G} {K : Nat → Nat} {L : List Nat} {f : Nat → va_E} {a t N k : Nat} {r : Nat → Option Nat} (e : f a = .inl (g.2 t, N, .inr (.inr (.inr (.inr r))))) (hf : ∀ j : Nat, (j : Int) < 10 → ∃ q, r j = some q ∧ q ∈ L ∧ K q = k) : ∀ j : Nat, j < 10 → q_r f a j ∈ L := by
  intro i h1
  obtain ⟨q1, a1, h2, -⟩ := hf i (by omega)
  have b1 : q_r f a i = q1 := by
    unfold q_r q_v; rw [e]; show q_rv (va_rf (r i)) = q1; rw [a1]; rfl
  rw [b1]
  exact h2
theorem n_ky0 {L : List Nat} {f : Nat → va_E} {r : Nat → Option Nat} : n_ky L f r 0 := fun j hj => absurd hj (by omega)
theorem n_kyS {L L2 : List Nat} {f f2 : Nat → va_E} {r : Nat → Option Nat} {n : Int} {v d : Nat} (h0 : 0 ≤ n) (h : n_ky L f r n) (ho : ∀ a ∈ L, a ∈ L2 ∧ f2 a = f a) (hv : v ∈ L2) (hvn : v ∉ L) (hd : q_r f2 v 0 = d) (hl : n_vl L2 f2 d) (hn : ∀ t : Nat, t < 10 → q_r f2 d t ∉ L) : n_ky L2 f2 (va_up r n.toNat (some v)) (n + 1) := by
  have old : ∀ q : Nat, (q ∈ L ∧ q_r f q 0 ∈ L ∧ n_inj f (q_r f q 0) ∧ ∀ t : Nat, t < 10 → q_r f (q_r f q 0) t ∈ L) → q_r f2 q 0 = q_r f q 0 ∧ (∀ t : Nat, q_r f2 (q_r f2 q 0) t = q_r f (q_r f q 0) t) := fun q hq => by
    have e1 : q_r f2 q 0 = q_r f q 0 := q_rc (ho _ hq.1).2
    exact ⟨e1, fun t => by rw [e1]; exact q_rc (ho _ hq.2.1).2⟩
  intro j hj
  by_cases e : j = n.toNat
  · refine ⟨v, by rw [e, va_up_self], ⟨hv, by rw [hd]; exact hl.1, by rw [hd]; exact hl.2.1, by rw [hd]; exact hl.2.2⟩, fun j2 q2 hj2 hne h2 => ?_⟩
    rw [va_up_ne _ _ (by omega : j2 ≠ n.toNat)] at h2
    obtain ⟨q, a1, a2, -⟩ := h j2 (by omega)
    obtain rfl : q = q2 := Option.some.inj (a1.symm.trans h2)
    refine ⟨fun e9 => hvn (e9 ▸ a2.1), fun a b ha hb e9 => ?_⟩
    rw [hd, (old q a2).2 b] at e9
    exact hn a ha (by rw [e9]; exact a2.2.2.2 b hb)
  · obtain ⟨q, a1, a2, a3⟩ := h j (by omega)
    obtain ⟨o1, o2⟩ := old q a2
    refine ⟨q, by rw [va_up_ne _ _ e]; exact a1, ⟨(ho _ a2.1).1, by rw [o1]; exact (ho _ a2.2.1).1, by rw [o1]; exact n_inj_tr (ho _ a2.2.1).2 a2.2.2.1, fun t ht => by rw [o2]; exact (ho _ (a2.2.2.2 t ht)).1⟩, fun j2 q2 hj2 hne h2 => ?_⟩
    by_cases e2 : j2 = n.toNat
    · rw [e2, va_up_self] at h2
      obtain rfl : v = q2 := Option.some.inj h2
      refine ⟨fun e9 => hvn (e9 ▸ a2.1), fun a b ha hb e9 => ?_⟩
      rw [hd, o2 a] at e9
      exact hn b hb (by rw [← e9]; exact a2.2.2.2 a ha)
    · rw [va_up_ne _ _ e2] at h2
      obtain ⟨q3, b1, b2, -⟩ := h j2 (by omega)
      obtain rfl : q3 = q2 := Option.some.inj (b1.symm.trans h2)
      obtain ⟨c1, c2⟩ := a3 j2 q3 (by omega) hne b1
      exact ⟨c1, fun a b ha hb => by rw [o2 a, (old q3 b2).2 b]; exact c2 a b ha hb⟩
theorem n_ky_tr {L L2 : List Nat} {f f2 : Nat → va_E} {r : Nat → Option Nat} {n : Int} (h : n_ky L f r n) (ho : ∀ a ∈ L, a ∈ L2 ∧ f2 a = f a) : n_ky L2 f2 r n := by
  have old : ∀ q : Nat, (q ∈ L ∧ q_r f q 0 ∈ L ∧ n_inj f (q_r f q 0) ∧ ∀ t : Nat, t < 10 → q_r f (q_r f q 0) t ∈ L) → q_r f2 q 0 = q_r f q 0 ∧ (∀ t : Nat, q_r f2 (q_r f2 q 0) t = q_r f (q_r f q 0) t) := fun q hq => by
    have e1 : q_r f2 q 0 = q_r f q 0 := q_rc (ho _ hq.1).2
    exact ⟨e1, fun t => by rw [e1]; exact q_rc (ho _ hq.2.1).2⟩
  intro j hj
  obtain ⟨q, a1, a2, a3⟩ := h j hj
  obtain ⟨o1, o2⟩ := old q a2
  refine ⟨q, a1, ⟨(ho _ a2.1).1, by rw [o1]; exact (ho _ a2.2.1).1, by rw [o1]; exact n_inj_tr (ho _ a2.2.1).2 a2.2.2.1, fun t ht => by rw [o2]; exact (ho _ (a2.2.2.2 t ht)).1⟩, fun j2 q2 hj2 hne h2 => ?_⟩
  obtain ⟨q3, b1, b2, -⟩ := h j2 hj2
  obtain rfl : q3 = q2 := Option.some.inj (b1.symm.trans h2)
  obtain ⟨c1, c2⟩ := a3 j2 q3 hj2 hne b1
  exact ⟨c1, fun a b ha hb => by rw [o2 a, (old q3 b2).2 b]; exact c2 a b ha hb⟩
theorem n_kz_of {g : q_G} {L : List Nat} {f : Nat → va_E} {ka t N : Nat} {r : Nat → Option Nat} (hka : ka ∈ L) (e : f ka = .inl (g.2 t, N, .inr (.inr (.inr (.inr r))))) (h : n_ky L f r 6) : n_kz L f ka := by
  have b : ∀ i q : Nat, r i = some q → q_r f ka i = q := fun i q h => by
    unfold q_r q_v; rw [e]; show q_rv (va_rf (r i)) = q; rw [h]; rfl
  refine ⟨hka, fun i hi => ?_⟩
  obtain ⟨q, a1, a2, a3⟩ := h i (by omega)
  rw [b i q a1]
  refine ⟨⟨a2.1, a2.2.1, a2.2.2.1⟩, fun j hj hij => ?_⟩
  obtain ⟨q2, b1, b2, -⟩ := h j (by omega)
  rw [b j q2 b1]
  exact a3 j q2 (by omega) hij b1
theorem n_kz_tr {L L2 : List Nat} {f f2 : Nat → va_E} {ka : Nat} (h : ∀ a ∈ L, a ∈ L2 ∧ f2 a = f a) (hk : n_kz L f ka) : n_kz L2 f2 ka := by
  have key : ∀ i : Nat, i < 6 → q_r f2 ka i = q_r f ka i ∧ q_r f2 (q_r f2 ka i) 0 = q_r f (q_r f ka i) 0 ∧ ∀ a : Nat, q_r f2 (q_r f2 (q_r f2 ka i) 0) a = q_r f (q_r f (q_r f ka i) 0) a := fun i hi => by
    have h1 := (hk.2 i hi).1
    have e1 : q_r f2 ka i = q_r f ka i := q_rc (h _ hk.1).2
    have e2 : q_r f2 (q_r f2 ka i) 0 = q_r f (q_r f ka i) 0 := by rw [e1]; exact q_rc (h _ h1.1).2
    exact ⟨e1, e2, fun a => by rw [e2]; exact q_rc (h _ h1.2.1).2⟩
  refine ⟨(h _ hk.1).1, fun i hi => ?_⟩
  obtain ⟨⟨h1, h2, h3⟩, h4⟩ := hk.2 i hi
  obtain ⟨e1, e2, e3⟩ := key i hi
  refine ⟨⟨by rw [e1]; exact (h _ h1).1, by rw [e2]; exact (h _ h2).1, by rw [e2]; exact n_inj_tr (h _ h2).2 h3⟩, fun j hj hij => ?_⟩
  obtain ⟨g1, g2, g3⟩ := key j hj
  obtain ⟨h5, h6⟩ := h4 j hj hij
  refine ⟨by rw [e1, g1]; exact h5, fun a b ha hb => ?_⟩
  rw [e3, g3]
  exact h6 a b ha hb
theorem n_el {g : q_G} {K : Nat → Nat} {L : List Nat} {f : Nat → va_E} (hT : q_Ty g K L f) {a k k2 : Nat} {n : Nat} (ha : a ∈ L) (hk : K a = k) (hc : ¬ k < 100) (hn : (q_at k).2 = n) (he : ∀ i : Nat, q_et k i = (2, (k2 : Int), 0)) {i : Nat} (hi : i < n) : q_r f a i ∈ L ∧ K (q_r f a i) = k2 := by
  obtain ⟨h, h1, h2, h3⟩ := q_ty_arr hT ha hk hc
  have h5 := h3 i (by rw [hn]; exact hi)
  rw [he i] at h5
  have h5 : ∃ a9 : Nat, q_v f a i = .ref a9 ∧ a9 ∈ L ∧ K a9 = ((k2 : Int)).toNat := h5
  obtain ⟨y, h6, h7, h8⟩ := h5
  have e : q_r f a i = y := by unfold q_r; rw [h6]; rfl
  rw [e]
  exact ⟨h7, h8⟩
theorem n_ik {g : q_G} {K : Nat → Nat} {L : List Nat} {f : Nat → va_E} (hT : q_Ty g K L f) {a k k2 : Nat} (ha : a ∈ L) (hk : K a = k) (hc : ¬ k < 100) (hn : (q_at k).2 = 10) (he : ∀ i : Nat, q_et k i = (2, (k2 : Int), 0)) (hj : n_inj f a) : tk_ik K L k2 f a := fun i hi => ⟨n_el hT ha hk hc hn he hi, fun j hj9 e => hj i j hi hj9 e⟩
theorem n_ks {g : q_G} {K : Nat → Nat} {L : List Nat} {f : Nat → va_E} (hT : q_Ty g K L f) {ka : Nat} (hka : K ka = 140) (h : n_kz L f ka) : tk_ks K L f ka := by
  intro i hi
  obtain ⟨⟨h1, h2, h3⟩, h4⟩ := h.2 i hi
  have e1 := n_el (k2 := 16) (n := 6) hT h.1 hka (by decide) rfl (fun _ => rfl) hi
  obtain ⟨_, _, _, _, g1, g2⟩ := q_fr hT e1.1 e1.2 (by decide) (show (q_ft 16)[0]? = some (2, ((114 : Nat) : Int), 0) from rfl)
  have e2 : q_r f (q_r f ka i) 0 ∈ L ∧ K (q_r f (q_r f ka i) 0) = 114 := ⟨g1, g2⟩
  exact ⟨e1, e2, n_ik hT e2.1 e2.2 (by decide) rfl (fun _ => rfl) h3, h4⟩
