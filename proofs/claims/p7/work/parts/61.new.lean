theorem q_RAu {U : State} {a b : ClassId} {ty : FieldType} (h1 : va_RA U a ty) (h2 : va_RA U b ty) : a = b := by
  cases ty <;> simp only [va_RA] at h1 h2 <;> first
    | exact Option.some.inj (h1.symm.trans h2)
    | (obtain ⟨_, _, _, _, _, e1⟩ := h1
       obtain ⟨_, _, _, _, _, e2⟩ := h2
       exact Option.some.inj (e1.symm.trans e2))
theorem q_setapp {Xs pl : va_W} {q0 : Nat} {y : Nat × va_E} (h : q0 < Xs.length) : (Xs ++ pl).set q0 y = Xs.set q0 y ++ pl := by
  rw [List.set_append, if_pos h]
def q_Has (L : List Nat) (f : Nat → va_E) (ws : va_W) : Prop := ∀ q ∈ ws, q.1 ∈ L ∧ f q.1 = q.2
theorem q_Has.mono {L L' : List Nat} {f f' : Nat → va_E} {ws : va_W} (h : q_Has L f ws) (hm : ∀ a ∈ L, a ∈ L' ∧ f' a = f a) : q_Has L' f' ws := fun q hq => ⟨(hm _ (h q hq).1).1, (hm _ (h q hq).1).2.trans (h q hq).2⟩
theorem q_Has.one {L : List Nat} {f : Nat → va_E} {b : Nat} {e : va_E} (h1 : b ∈ L) (h2 : f b = e) : q_Has L f [(b, e)] := fun q hq => by rw [List.mem_singleton.mp hq]; exact ⟨h1, h2⟩
theorem q_Has.app {L : List Nat} {f : Nat → va_E} {w1 w2 : va_W} (h1 : q_Has L f w1) (h2 : q_Has L f w2) : q_Has L f (w1 ++ w2) := fun q hq => (List.mem_append.mp hq).elim (h1 q) (h2 q)
theorem q_Has.z {L : List Nat} {f : Nat → va_E} {ws : va_W} (h : q_Has L f ws) {b ci i : Nat} {fs : List Value} {x : Int} (hm : (b, (.inr (ci, fs) : va_E)) ∈ ws) (hx : q_iv (fs.getD i .null) = x) : q_z f b i = x := by
  show q_iv (q_vE (f b) i) = x
  rw [(h _ hm).2]
  exact hx
theorem q_Has.r {L : List Nat} {f : Nat → va_E} {ws : va_W} (h : q_Has L f ws) {b ci i : Nat} {fs : List Value} {x : Nat} (hm : (b, (.inr (ci, fs) : va_E)) ∈ ws) (hx : q_rv (fs.getD i .null) = x) : q_r f b i = x := by
  show q_rv (q_vE (f b) i) = x
  rw [(h _ hm).2]
  exact hx
def q_al2 (ok : q_T → Value → Prop) : List q_T → List Value → Prop
  | [], [] => True
  | t :: ts, v :: vs => ok t v ∧ q_al2 ok ts vs
  | _, _ => False
theorem q_al2s {ok : q_T → Value → Prop} : ∀ {ts : List q_T} {fs : List Value}, q_al2 ok ts fs → fs.length = ts.length ∧ ∀ (i : Nat) (t : q_T), ts[i]? = some t → ok t (fs.getD i .null)
  | [], [], _ => ⟨rfl, fun i t h => by simp at h⟩
  | t :: ts, v :: vs, h => by
    obtain ⟨h1, h2⟩ := h
    obtain ⟨h3, h4⟩ := q_al2s h2
    refine ⟨by simp [h3], fun i u hu => ?_⟩
    cases i with
    | zero =>
      simp at hu
      subst hu
      exact h1
    | succ i =>
      simp at hu
      exact h4 i u hu
  | [], _ :: _, h => nomatch h
  | _ :: _, [], h => nomatch h
theorem n_shO {g : q_G} {K : Nat → Nat} {L : List Nat} {k : Nat} {fs : List Value} (hk : k < 100) (h : q_al2 (q_ok K L) (q_ft k) fs) : q_Sh g k (.inr (q_ck k, fs)) (q_ok K L) := by
  unfold q_Sh
  rw [if_pos hk]
  exact ⟨fs, rfl, (q_al2s h).1, (q_al2s h).2⟩
theorem n_shR {g : q_G} {K : Nat → Nat} {L : List Nat} {k n t0 k2 : Nat} {r : Nat → Option Nat} (hk : ¬ k < 100) (hat : q_at k = (t0, n)) (hAr : 4 ≤ t0) (het : ∀ i, q_et k i = (2, (k2 : Int), 0)) (hf : ∀ j : Nat, j < n → ∃ q, r j = some q ∧ q ∈ L ∧ K q = k2) : q_Sh g k (.inl (g.2 t0, n, .inr (.inr (.inr (.inr r))))) (q_ok K L) := by
  unfold q_Sh
  rw [if_neg hk, hat]
  refine ⟨_, rfl, ?_, fun i hi => ?_⟩
  · obtain ⟨u, rfl⟩ : ∃ u, t0 = u + 4 := ⟨t0 - 4, by omega⟩
    exact ⟨r, rfl⟩
  · obtain ⟨q, h1, h2, h3⟩ := hf i hi
    rw [het]
    refine ⟨q, ?_, h2, h3⟩
    show va_rf (r i) = .ref q
    rw [h1]
    rfl
theorem n_shI {g : q_G} {K : Nat → Nat} {L : List Nat} {k n t0 : Nat} (hk : ¬ k < 100) (hat : q_at k = (t0, n)) (ht : t0 = 0 ∨ t0 = 1) (het : ∀ i, q_z3 (q_et k i) = true) : q_Sh g k (.inl (g.2 t0, n, .inl (fun _ => 0))) (q_ok K L) := by
  unfold q_Sh
  rw [if_neg hk, hat]
  refine ⟨_, rfl, by rcases ht with rfl | rfl <;> exact ⟨_, rfl⟩, fun i _ => ?_⟩
  have h := het i
  simp only [q_z3, Bool.and_eq_true, beq_iff_eq, decide_eq_true_eq] at h
  obtain ⟨⟨h1, h2⟩, h3⟩ := h
  rw [show q_et k i = (0, (q_et k i).2.1, (q_et k i).2.2) by rw [← h1]]
  exact ⟨0, rfl, h2, h3⟩
theorem n_shL {g : q_G} {K : Nat → Nat} {L : List Nat} {k n : Nat} (hk : ¬ k < 100) (hat : q_at k = (2, n)) (het : ∀ i, q_et k i = (1, 0, 0)) : q_Sh g k (.inl (g.2 2, n, .inr (.inl (fun _ => 0)))) (q_ok K L) := by
  unfold q_Sh
  rw [if_neg hk, hat]
  exact ⟨_, rfl, ⟨_, rfl⟩, fun i _ => by rw [het]; exact ⟨0, rfl⟩⟩
theorem n_shD {g : q_G} {K : Nat → Nat} {L : List Nat} {k n : Nat} (hk : ¬ k < 100) (hat : q_at k = (3, n)) (het : ∀ i, q_et k i = (3, 0, 0)) : q_Sh g k (.inl (g.2 3, n, .inr (.inr (.inr (.inl (fun _ => 0)))))) (q_ok K L) := by
  unfold q_Sh
  rw [if_neg hk, hat]
  exact ⟨_, rfl, ⟨_, rfl⟩, fun i _ => by rw [het]; exact ⟨0, rfl⟩⟩
theorem q_full {K K' : Nat → Nat} {L L' : List Nat} {n : Int} {k2 : Nat} {r : Nat → Option Nat} (h : ∀ j : Nat, (j : Int) < n → ∃ q, r j = some q ∧ q ∈ L ∧ K q = k2) (hm : ∀ a ∈ L, a ∈ L' ∧ K' a = K a) : ∀ j : Nat, (j : Int) < n → ∃ q, r j = some q ∧ q ∈ L' ∧ K' q = k2 := fun j hj => by
  obtain ⟨q, h1, h2, h3⟩ := h j hj
  exact ⟨q, h1, (hm q h2).1, (hm q h2).2.trans h3⟩
theorem q_fullS {K : Nat → Nat} {L : List Nat} {n : Int} {k2 v : Nat} {r : Nat → Option Nat} (h0 : 0 ≤ n) (h : ∀ j : Nat, (j : Int) < n → ∃ q, r j = some q ∧ q ∈ L ∧ K q = k2) (hv : v ∈ L) (hk : K v = k2) : ∀ j : Nat, (j : Int) < n + 1 → ∃ q, va_up r n.toNat (some v) j = some q ∧ q ∈ L ∧ K q = k2 := fun j hj => by
  by_cases e : j = n.toNat
  · exact ⟨v, by rw [e, va_up_self], hv, hk⟩
  · obtain ⟨q, h1, h2, h3⟩ := h j (by omega)
    exact ⟨q, by rw [va_up_ne _ _ e]; exact h1, h2, h3⟩
section QN9
variable {p : Program} {l : Launch} {e : Env} {R : Room} {s : State} {m : MethodId} {args : Array Value} {below : List Frame} {meth : Method} {c : Code} {H : Heap} {locs : List Loc} {cells slots : Nat} {Q : State → Prop}
variable {cc : ByteArray} {pc nL : Nat} {ls : Array Slot} {rest : List Value} {own : String}
variable {g : q_G} {K : Nat → Nat} {L : List Nat} {A : Nat → Prop} {Xs : va_W} {f : Nat → va_E}
theorem n_newarr {atype : ArrayType} {ty : FieldType} {t0 k N' : Nat} {n : Int} {x0 : (Nat → Int32) ⊕ (Nat → Int64) ⊕ (Nat → UInt32) ⊕ (Nat → UInt64) ⊕ (Nat → Option Nat)} (cx : CallFix p m c cc nL s args q_al own) (hA : ∀ q, s.heap.size ≤ q → A q) (hN : q_N g K L A Xs f s H locs) (harr : Cond.arrayClass (newarray.typeOf atype) ∈ q_al) (hty : newarray.typeOf atype = ty) (ht : (q_tys g)[t0]? = some (g.2 t0, ty))
    (ha : ∀ cA : ClassId, vp_cell cA (N', x0) = arrV cA N' (fun _ => defaultValue ty)) (hr : q_R n) (hn : 0 ≤ n) (hN9 : n.toNat = N') (hbytes : N' * componentBytes ty ≤ 536870912) (hcells : cells + 1 ≤ R.cells) (hslots : slots + N' ≤ R.slots) (hs : q_Sh g k (.inl (g.2 t0, N', x0)) (q_ok K L)) (hdg : decode cc pc = .ok (.newarray atype, 2))
    (kk : ∀ (q : Nat) (K' : Nat → Nat) (L' : List Nat) (f' : Nat → va_E) (H1 : Heap), q ∈ L' → K' q = k → f' q = .inl (g.2 t0, N', x0) → (∀ a ∈ L, a ∈ L' ∧ K' a = K a ∧ f' a = f a) → q_N g K' L' A Xs f' s H1 locs → W p l e R s m args below meth c H1 locs (cells + 1) (slots + N') Q (F0 m (pc + 2) ls (.ref q :: rest))) : W p l e R s m args below meth c H locs cells slots Q (F0 m pc ls (.int (q_i n) :: rest)) := by
  obtain ⟨hP, hD, hK, hS, hT⟩ := hN
  refine va_newa cx.1 cx.2.1 (cx.2.2.2.2 _ harr) hty hK hP hD hS hA ha (fun h => by rw [q_0, q_lt hr ⟨by decide, by decide⟩] at h; omega) (by rw [q_nat hr]; exact hN9) hbytes hcells hslots hdg (fun q cA H1 hK1 hP1 hD1 hS1 => ?_)
  have e1 : cA = g.2 t0 := q_RAu (hK1.2 (q_tys g).length (cA, ty) (by rw [List.getElem?_append_right (Nat.le_refl _), Nat.sub_self]; rfl)).2 (hK.2 t0 _ ht).2
  subst e1
  have hp : ((Xs ++ va_pl L f) ++ [(q, (.inl (g.2 t0, N', x0) : va_E))]).Perm ((Xs ++ [(q, .inl (g.2 t0, N', x0))]) ++ va_pl L f) := by
    rw [List.append_assoc, List.append_assoc]
    exact List.Perm.append_left Xs List.perm_append_comm
  obtain ⟨hP2, hD2⟩ := q_perm hp hP1 hD1
  obtain ⟨K', L', f', z1, z2, z3, z4, z5⟩ := n_seal (k := k) ⟨hP2, hD2, hK, hS1, hT⟩ hs
  exact kk q K' L' f' H1 z1 z2 z3 z4 z5
theorem n_anew {C : String} {index t0 N' : Nat} {n : Int} (cx : CallFix p m c cc nL s args q_al own) (hA : ∀ q, s.heap.size ≤ q → A q) (hover : va_AO C s) (hN : q_N g K L A Xs f s H locs) (hcl : Cond.classLink own index C ∈ q_al) (ht : (q_tys g)[t0]? = some (g.2 t0, .object C)) (hr : q_R n) (hn : 0 ≤ n) (hN9 : n.toNat = N') (hbytes : N' * 4 ≤ 536870912) (hcells : cells + 1 ≤ R.cells) (hslots : slots + N' ≤ R.slots) (hdg : decode cc pc = .ok (.anewarray index, 3))
    (kk : ∀ (q : Nat) (H1 : Heap), q_N g K L A (Xs ++ [(q, .inl (g.2 t0, N', .inr (.inr (.inr (.inr (fun _ => none))))))]) f s H1 locs → W p l e R s m args below meth c H1 locs (cells + 1) (slots + N') Q (F0 m (pc + 3) ls (.ref q :: rest))) : W p l e R s m args below meth c H locs cells slots Q (F0 m pc ls (.int (q_i n) :: rest)) := by
  obtain ⟨hP, hD, hK, hS, hT⟩ := hN
  refine va_newq cx.1 cx.2.1 cx.2.2.2.1 (cx.2.2.2.2 _ hcl) hover hK hP hD hS hA (fun h => by rw [q_0, q_lt hr ⟨by decide, by decide⟩] at h; omega) (by rw [q_nat hr]; exact hN9) hbytes hcells hslots hdg (fun q cA H1 hK1 hP1 hD1 hS1 => ?_)
  have e1 : cA = g.2 t0 := q_RAu (hK1.2 (q_tys g).length (cA, .object C) (by rw [List.getElem?_append_right (Nat.le_refl _), Nat.sub_self]; rfl)).2 (hK.2 t0 _ ht).2
  subst e1
  have hp : ((Xs ++ va_pl L f) ++ [(q, (.inl (g.2 t0, N', .inr (.inr (.inr (.inr (fun _ => none))))) : va_E))]).Perm ((Xs ++ [(q, .inl (g.2 t0, N', .inr (.inr (.inr (.inr (fun _ => none))))))]) ++ va_pl L f) := by
    rw [List.append_assoc, List.append_assoc]
    exact List.Perm.append_left Xs List.perm_append_comm
  obtain ⟨hP2, hD2⟩ := q_perm hp hP1 hD1
  exact kk q H1 ⟨hP2, hD2, hK, hS1, hT⟩
theorem n_putF {ref C : String} {T : u_T} {N ci index a : Nat} {fs : List Value} {v : Value} {ty : FieldType} (cx : CallFix p m c cc nL s args q_al own) (hN : q_N g K L A Xs f s H locs) (q0 : Nat) (he : Xs[q0]? = some (a, .inr (ci, fs))) (hc : vwCl[ci]? = some (C, T, N)) (k : Nat) (hk : k < N) (hin : ∀ w ∈ u_ws C T N, w ∈ q_al) (ty0 : Nat → FieldType) (hty : ∀ k, k < N → parseFieldDescriptor (T k).2.2.1 = some (ty0 k)) (hnm : ∀ a, a < N → ∀ b, b < N → a ≠ b → (T a).2.1 ≠ (T b).2.1)
    (hlink : Cond.fieldLink own index ref (T k).2.1 (T k).2.2.1 ∈ q_al) (href : (T k).1 = ref) (hfin : (T k).2.2.2 = true) (hin2 : meth.name = "<init>") (hdecl : (T k).1 = own) (hd : parseFieldDescriptor (T k).2.2.1 = some ty) (hnar : narrow ty v = v) (hfit : fits ty v = true) (hl : k < fs.length) (hdg : decode cc pc = .ok (.putfield index, 3))
    (kk : ∀ (H1 : Heap) (locs1 : List Loc), q_N g K L A (Xs.set q0 (a, .inr (ci, fs.set k v))) f s H1 locs1 → W p l e R s m args below meth c H1 locs1 cells slots Q (F0 m (pc + 3) ls rest)) : W p l e R s m args below meth c H locs cells slots Q (F0 m pc ls (v :: .ref a :: rest)) := by
  obtain ⟨hP, hD, hK, hS, hT⟩ := hN
  have hq : q0 < Xs.length := (List.getElem?_eq_some_iff.mp he).1
  refine va_putF cx.1 cx.2.1 cx.2.2.2.2 hin ty0 hty hnm cx.2.2.2.1 hK hP hD hS q0 (by rw [List.getElem?_append_left hq]; exact he) hc k hk (cx.2.2.2.2 _ hlink) (fun x hx => by rw [href] at hx; exact hx) hfin hin2 hdecl hd hnar hfit hl hdg (fun H1 locs1 hP1 hD1 hS1 => ?_)
  rw [q_setapp hq] at hP1 hD1
  exact kk H1 locs1 ⟨hP1, hD1, hK, hS1, hT⟩
theorem n_put {ref C : String} {T : u_T} {N ci index a : Nat} {fs : List Value} {v : Value} {ty : FieldType} (cx : CallFix p m c cc nL s args q_al own) (hN : q_N g K L A Xs f s H locs) (q0 : Nat) (he : Xs[q0]? = some (a, .inr (ci, fs))) (hc : vwCl[ci]? = some (C, T, N)) (k : Nat) (hk : k < N) (hin : ∀ w ∈ u_ws C T N, w ∈ q_al) (ty0 : Nat → FieldType) (hty : ∀ k, k < N → parseFieldDescriptor (T k).2.2.1 = some (ty0 k)) (hnm : ∀ a, a < N → ∀ b, b < N → a ≠ b → (T a).2.1 ≠ (T b).2.1)
    (hlink : Cond.fieldLink own index ref (T k).2.1 (T k).2.2.1 ∈ q_al) (href : (T k).1 = ref) (hfin : (T k).2.2.2 = false) (hd : parseFieldDescriptor (T k).2.2.1 = some ty) (hnar : narrow ty v = v) (hfit : fits ty v = true) (hl : k < fs.length) (hdg : decode cc pc = .ok (.putfield index, 3))
    (kk : ∀ (H1 : Heap) (locs1 : List Loc), q_N g K L A (Xs.set q0 (a, .inr (ci, fs.set k v))) f s H1 locs1 → W p l e R s m args below meth c H1 locs1 cells slots Q (F0 m (pc + 3) ls rest)) : W p l e R s m args below meth c H locs cells slots Q (F0 m pc ls (v :: .ref a :: rest)) := by
  obtain ⟨hP, hD, hK, hS, hT⟩ := hN
  have hq : q0 < Xs.length := (List.getElem?_eq_some_iff.mp he).1
  refine va_put cx.1 cx.2.1 cx.2.2.2.2 hin ty0 hty hnm cx.2.2.2.1 hK hP hD hS q0 (by rw [List.getElem?_append_left hq]; exact he) hc k hk (cx.2.2.2.2 _ hlink) (fun x hx => by rw [href] at hx; exact hx) hfin hd hnar hfit hl hdg (fun H1 locs1 hP1 hD1 hS1 => ?_)
  rw [q_setapp hq] at hP1 hD1
  exact kk H1 locs1 ⟨hP1, hD1, hK, hS1, hT⟩
theorem n_get {ref C : String} {T : u_T} {N ci index a : Nat} {fs : List Value} {v : Value} (cx : CallFix p m c cc nL s args q_al own) (hN : q_N g K L A Xs f s H locs) (q0 : Nat) (he : Xs[q0]? = some (a, .inr (ci, fs))) (hc : vwCl[ci]? = some (C, T, N)) (k : Nat) (hk : k < N) (hin : ∀ w ∈ u_ws C T N, w ∈ q_al)
    (hlink : Cond.fieldLink own index ref (T k).2.1 (T k).2.2.1 ∈ q_al) (href : (T k).1 = ref) (hv : fs[k]? = some v) (hdg : decode cc pc = .ok (.getfield index, 3))
    (kk : W p l e R s m args below meth c H locs cells slots Q (F0 m (pc + 3) ls (v :: rest))) : W p l e R s m args below meth c H locs cells slots Q (F0 m pc ls (.ref a :: rest)) := by
  obtain ⟨hP, hD, hK, hS, hT⟩ := hN
  have hq : q0 < Xs.length := (List.getElem?_eq_some_iff.mp he).1
  exact va_get cx.1 cx.2.1 cx.2.2.2.2 hin cx.2.2.2.1 hK hP q0 (by rw [List.getElem?_append_left hq]; exact he) hc k hk (cx.2.2.2.2 _ hlink) (fun x hx => by rw [href] at hx; exact hx) hv hdg kk
theorem n_alen {a t0 n : Nat} {x0 : (Nat → Int32) ⊕ (Nat → Int64) ⊕ (Nat → UInt32) ⊕ (Nat → UInt64) ⊕ (Nat → Option Nat)} {ty : FieldType} (cx : CallFix p m c cc nL s args q_al own) (hN : q_N g K L A Xs f s H locs) (q0 : Nat) (he : Xs[q0]? = some (a, .inl (g.2 t0, n, x0))) (ht : (q_tys g)[t0]? = some (g.2 t0, ty)) (hn : Int32.ofNat n = q_i n) (hdg : decode cc pc = .ok (.arraylength, 1))
    (kk : W p l e R s m args below meth c H locs cells slots Q (F0 m (pc + 1) ls (.int (q_i n) :: rest))) : W p l e R s m args below meth c H locs cells slots Q (F0 m pc ls (.ref a :: rest)) := by
  obtain ⟨hP, hD, hK, hS, hT⟩ := hN
  have hq : q0 < Xs.length := (List.getElem?_eq_some_iff.mp he).1
  exact va_alen cx.1 cx.2.1 hK hP q0 t0 (by rw [List.getElem?_append_left hq]; exact he) ht hn hdg kk
theorem n_ast {a t0 n v k : Nat} {r : vw_C} {h : Nat → Option Nat} {i : Int} (cx : CallFix p m c cc nL s args q_al own) (hN : q_N g K L A Xs f s H locs) (q0 : Nat) (he : Xs[q0]? = some (a, .inl (g.2 t0, n, .inr (.inr (.inr (.inr h)))))) (ht : (q_tys g)[t0]? = some (g.2 t0, .object r.1)) (hv : v ∈ L) (hkv : K v = k) (h100 : k < 100) (hc : vwCl[q_ck k]? = some r) (hi0 : 0 ≤ i) (hi1 : i < n) (hnn : n ≤ 2147483647) (hdg : decode cc pc = .ok (.aastore, 1))
    (kk : ∀ (H1 : Heap) (locs1 : List Loc), q_N g K L A (Xs.set q0 (a, .inl (g.2 t0, n, .inr (.inr (.inr (.inr (va_up h i.toNat (some v)))))))) f s H1 locs1 → W p l e R s m args below meth c H1 locs1 cells slots Q (F0 m (pc + 1) ls rest)) : W p l e R s m args below meth c H locs cells slots Q (F0 m pc ls (.ref v :: .int (q_i i) :: .ref a :: rest)) := by
  obtain ⟨hP, hD, hK, hS, hT⟩ := hN
  have hq : q0 < Xs.length := (List.getElem?_eq_some_iff.mp he).1
  obtain ⟨fs, h1, -, -⟩ := q_ty_obj hT hv hkv h100
  obtain ⟨j, hj⟩ := q_plget (f := f) hv
  rw [h1] at hj
  have hr : q_R i := ⟨by omega, by omega⟩
  refine va_astq cx.1 cx.2.1 hK hP hD hS q0 t0 (Xs.length + j) (q_ck k) (by rw [List.getElem?_append_left hq]; exact he) ht (by rw [List.getElem?_append_right (by omega), Nat.add_sub_cancel_left]; exact hj) hc (q_in hi0 hi1 hnn) hdg (fun H1 locs1 hP1 hD1 hS1 => ?_)
  rw [q_nat hr, q_setapp hq] at hP1 hD1
  exact kk H1 locs1 ⟨hP1, hD1, hK, hS1, hT⟩
end QN9
