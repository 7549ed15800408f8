/-! constructors: cells that are still being built (Xs), ahead of a typed world -/
theorem q_Pm {D : va_G} {cl : List vw_C} {ws : va_W} {H : Heap} : va_P D cl ws H ↔ ∀ q ∈ ws, va_at D cl q H :=
  ⟨fun h q hq => by obtain ⟨k, hk⟩ := List.getElem?_of_mem hq; exact h k q hk, fun h k q hk => h q (List.mem_of_getElem? hk)⟩
theorem q_Dn {A : Nat → Prop} {ws : va_W} : va_D A ws ↔ (ws.map (fun q => q.1)).Nodup ∧ ∀ q ∈ ws, A q.1 := by
  constructor
  · intro h
    obtain ⟨h1, h2⟩ := h
    refine ⟨?_, fun q hq => by obtain ⟨k, hk⟩ := List.getElem?_of_mem hq; exact h2 k q hk⟩
    rw [List.Nodup, List.pairwise_iff_getElem]
    intro i j hi hj hij e
    rw [List.length_map] at hi hj
    rw [List.getElem_map, List.getElem_map] at e
    have := h1 i j _ _ (List.getElem?_eq_getElem hi) (List.getElem?_eq_getElem hj) e
    omega
  · intro h
    obtain ⟨h1, h2⟩ := h
    refine ⟨fun i j x y hx hy e => ?_, fun k q hk => h2 q (List.mem_of_getElem? hk)⟩
    have e1 : (ws.map (fun q => q.1))[i]? = some x.1 := by rw [List.getElem?_map, hx]; rfl
    have e2 : (ws.map (fun q => q.1))[j]? = some y.1 := by rw [List.getElem?_map, hy]; rfl
    have hl : i < (ws.map (fun q => q.1)).length := (List.getElem?_eq_some_iff.mp e1).1
    exact (List.getElem?_inj hl h1).mp (e1.trans (by rw [e2, e]))
theorem q_perm {D : va_G} {cl : List vw_C} {A : Nat → Prop} {ws ws' : va_W} {H : Heap} (h : ws.Perm ws') (hP : va_P D cl ws H) (hD : va_D A ws) : va_P D cl ws' H ∧ va_D A ws' :=
  ⟨q_Pm.mpr fun q hq => q_Pm.mp hP q (h.mem_iff.mpr hq), q_Dn.mpr ⟨((h.map _).nodup_iff).mp (q_Dn.mp hD).1, fun q hq => (q_Dn.mp hD).2 q (h.mem_iff.mpr hq)⟩⟩
theorem q_join {A0 A1 : Nat → Prop} {D : va_G} {cl : List vw_C} {wc wr w1 : va_W} {H H1 : Heap} (hP : va_P D cl (wc ++ wr) H) (hD : va_D A0 (wc ++ wr)) (hA1 : ∀ q, A1 q → q < H.size → ∃ x ∈ wc, x.1 = q) (hk : ∀ q : Nat, q < H.size → ¬ A1 q → H1[q]? = H[q]?) (hP1 : va_P D cl w1 H1) (hn1 : (w1.map (fun q => q.1)).Nodup) (hw1 : ∀ x ∈ w1, A1 x.1) (hF : ∀ q, A1 q → A0 q) : va_P D cl (w1 ++ wr) H1 ∧ va_D A0 (w1 ++ wr) ∧ ∀ x ∈ w1, ∀ y ∈ wr, x.1 ≠ y.1 := by
  obtain ⟨hn, hA⟩ := q_Dn.mp hD
  rw [List.map_append, List.nodup_append] at hn
  obtain ⟨hn2, hn3, hn4⟩ := hn
  have hap : ∀ y ∈ wr, y.1 < H.size ∧ ¬ A1 y.1 := by
    intro y hy
    have hl := (q_Pm.mp hP y (List.mem_append_right _ hy)).lt
    refine ⟨hl, fun h => ?_⟩
    obtain ⟨x, hx, e⟩ := hA1 y.1 h hl
    exact hn4 x.1 (List.mem_map.mpr ⟨x, hx, rfl⟩) y.1 (List.mem_map.mpr ⟨y, hy, rfl⟩) e
  have hdis : ∀ x ∈ w1, ∀ y ∈ wr, x.1 ≠ y.1 := fun x hx y hy e => (hap y hy).2 (e ▸ hw1 x hx)
  have hPr : va_P D cl wr H1 := q_Pm.mpr fun y hy => (q_Pm.mp hP y (List.mem_append_right _ hy)).kept (hk y.1 (hap y hy).1 (hap y hy).2)
  refine ⟨hP1.app hPr, q_Dn.mpr ⟨?_, fun x hx => ?_⟩, hdis⟩
  · rw [List.map_append, List.nodup_append]
    refine ⟨hn1, hn3, fun a ha b hb e => ?_⟩
    obtain ⟨x, hx, rfl⟩ := List.mem_map.mp ha
    obtain ⟨y, hy, rfl⟩ := List.mem_map.mp hb
    exact hdis x hx y hy e
  · rcases List.mem_append.mp hx with h | h
    · exact hF _ (hw1 x h)
    · exact hA x (List.mem_append_right _ h)
theorem q_ok_mono {K K' : Nat → Nat} {L L' : List Nat} (h : ∀ a ∈ L, a ∈ L' ∧ K' a = K a) : ∀ {t : q_T} {v : Value}, q_ok K L t v → q_ok K' L' t v
  | (0, _, _), _, hv => hv
  | (1, _, _), _, hv => hv
  | (2, _, _), _, hv => by
    obtain ⟨a, e, ha, hk⟩ := hv
    exact ⟨a, e, (h a ha).1, (h a ha).2.trans hk⟩
  | (_ + 3, _, _), _, hv => hv
theorem q_Sh_mono {g : q_G} {k : Nat} {e : va_E} {ok ok' : q_T → Value → Prop} (h : ∀ t v, ok t v → ok' t v) (hs : q_Sh g k e ok) : q_Sh g k e ok' := by
  unfold q_Sh at hs ⊢
  by_cases hc : k < 100
  · rw [if_pos hc] at hs ⊢
    obtain ⟨fs, h1, h2, h3⟩ := hs
    exact ⟨fs, h1, h2, fun i t ht => h _ _ (h3 i t ht)⟩
  · rw [if_neg hc] at hs ⊢
    obtain ⟨x, h1, h2, h3⟩ := hs
    exact ⟨x, h1, h2, fun i hi => h _ _ (h3 i hi)⟩
theorem q_pl_app {L L1 : List Nat} {f f1 f' : Nat → va_E} (h1 : ∀ a ∈ L, f' a = f a) (h2 : ∀ a ∈ L1, f' a = f1 a) : va_pl (L ++ L1) f' = va_pl L f ++ va_pl L1 f1 := by
  unfold va_pl
  rw [List.map_append, List.map_congr_left (fun a ha => by rw [h1 a ha] : ∀ a ∈ L, (a, f' a) = (a, f a)), List.map_congr_left (fun a ha => by rw [h2 a ha] : ∀ a ∈ L1, (a, f' a) = (a, f1 a))]
theorem q_plfst {L : List Nat} {f : Nat → va_E} : (va_pl L f).map (fun q => q.1) = L := by
  unfold va_pl
  rw [List.map_map]
  exact List.map_id L
def q_nw : List (String × Nat × MethodName) := [(RX11, 9, yX8_init), (RX11, 18, yX9_init), (RX7, 17, yX0_init), (RX11, 32, yX1_init), (RX10, 29, yX5_init), (RX10, 30, yX3_init), (RX10, 31, yX4_init), (RX11, 46, yX6_init)]
def q_Env (U : State) : Prop := (va_AO "WakeVillage$Command" U ∧ va_AO "WakeVillage$Node" U ∧ va_AO "WakeVillage$Link" U ∧ va_AO "WakeVillage$Message" U ∧ va_AO "WakeVillage$Village" U) ∧ ∀ w ∈ q_nw, va_Nw (.methodLinkNest w.1 w.2.1 w.2.2 "WakeVillage") U
theorem q_Env.to {u U : State} (hW : u.WarmedH U.vm) (h : q_Env u) : q_Env U := ⟨⟨h.1.1.moved hW.alike, h.1.2.1.moved hW.alike, h.1.2.2.1.moved hW.alike, h.1.2.2.2.1.moved hW.alike, h.1.2.2.2.2.moved hW.alike⟩, fun w hw => (h.2 w hw).warmM hW⟩
def q_N (g : q_G) (K : Nat → Nat) (L : List Nat) (A : Nat → Prop) (Xs : va_W) (f : Nat → va_E) (s : State) (H : Heap) (locs : List Loc) : Prop := va_P g.1 vwCl (Xs ++ va_pl L f) H ∧ va_D A (Xs ++ va_pl L f) ∧ va_K g.1 vwCl (q_tys g) s ∧ va_S A s.heap H locs ∧ q_Ty g K L f
theorem n_nodup {g : q_G} {K : Nat → Nat} {L : List Nat} {A : Nat → Prop} {Xs : va_W} {f : Nat → va_E} {s : State} {H : Heap} {locs : List Loc} (hN : q_N g K L A Xs f s H locs) : L.Nodup ∧ ∀ a ∈ L, A a := by
  obtain ⟨h, hA⟩ := q_Dn.mp hN.2.1
  rw [List.map_append, List.nodup_append, q_plfst] at h
  exact ⟨h.2.1, fun a ha => hA (a, f a) (List.mem_append_right _ (List.mem_map.mpr ⟨a, ha, rfl⟩))⟩
/-- a cell that is built comes into the typed world -/
theorem n_seal {g : q_G} {K : Nat → Nat} {L : List Nat} {A : Nat → Prop} {Xs : va_W} {f : Nat → va_E} {s : State} {H : Heap} {locs : List Loc} {b k : Nat} {e : va_E} (hN : q_N g K L A (Xs ++ [(b, e)]) f s H locs) (hs : q_Sh g k e (q_ok K L)) :
    ∃ (K' : Nat → Nat) (L' : List Nat) (f' : Nat → va_E), b ∈ L' ∧ K' b = k ∧ f' b = e ∧ (∀ a ∈ L, a ∈ L' ∧ K' a = K a ∧ f' a = f a) ∧ q_N g K' L' A Xs f' s H locs := by
  obtain ⟨hP, hD, hK, hS, hT⟩ := hN
  have hb : b ∉ L := by
    intro hb
    have h := (q_Dn.mp hD).1
    rw [List.map_append, List.nodup_append, q_plfst] at h
    exact h.2.2 b (List.mem_map.mpr ⟨(b, e), List.mem_append_right _ (List.mem_singleton.mpr rfl), rfl⟩) b hb rfl
  have hold : ∀ a ∈ L, a ∈ L ++ [b] ∧ (if a = b then k else K a) = K a ∧ (if a = b then e else f a) = f a := by
    intro a ha
    have hne : a ≠ b := fun q => hb (q ▸ ha)
    exact ⟨List.mem_append_left _ ha, if_neg hne, if_neg hne⟩
  have hpl : va_pl (L ++ [b]) (fun a => if a = b then e else f a) = va_pl L f ++ [(b, e)] := by
    rw [q_pl_app (f := f) (f1 := fun _ => e) (fun a ha => (hold a ha).2.2) (fun a ha => if_pos (List.mem_singleton.mp ha))]
    rfl
  have hp : ((Xs ++ [(b, e)]) ++ va_pl L f).Perm (Xs ++ va_pl (L ++ [b]) (fun a => if a = b then e else f a)) := by
    rw [hpl, List.append_assoc]
    exact List.Perm.append_left Xs List.perm_append_comm
  obtain ⟨hP', hD'⟩ := q_perm hp hP hD
  refine ⟨fun a => if a = b then k else K a, L ++ [b], fun a => if a = b then e else f a, List.mem_append_right _ (List.mem_singleton.mpr rfl), if_pos rfl, if_pos rfl, hold, hP', hD', hK, hS, ?_⟩
  intro a ha
  rcases List.mem_append.mp ha with h | h
  · show q_Sh g (if a = b then k else K a) (if a = b then e else f a) _
    rw [(hold a h).2.1, (hold a h).2.2]
    exact q_Sh_mono (fun t v => q_ok_mono (fun x hx => ⟨(hold x hx).1, (hold x hx).2.1⟩)) (hT a h)
  · show q_Sh g (if a = b then k else K a) (if a = b then e else f a) _
    rw [if_pos (List.mem_singleton.mp h), if_pos (List.mem_singleton.mp h)]
    exact q_Sh_mono (fun t v => q_ok_mono (fun x hx => ⟨(hold x hx).1, (hold x hx).2.1⟩)) hs
def n_Q (g : q_G) (b sz k : Nat) (Pf : List Nat → (Nat → va_E) → Nat → Prop) : Array Value → State → Outcome → State → Prop := fun _ st o t => (∃ (K1 : Nat → Nat) (L1 : List Nat) (f1 : Nat → va_E), o = .returned none ∧ b ∈ L1 ∧ K1 b = k ∧ L1.Nodup ∧ (∀ a ∈ L1, a = b ∨ sz ≤ a) ∧ q_Ty g K1 L1 f1 ∧ Pf L1 f1 b ∧ va_P g.1 vwCl (va_pl L1 f1) t.heap ∧ va_K g.1 vwCl (q_tys g) t) ∧ va_F (fun q => q = b ∨ sz ≤ q) st t
def q_Nw (l : Launch) (g : q_G) (y : MethodName) (cc : ByteArray) (mL fr lo mc ms : Nat) (ci : Nat) (fs0 : List Value) (k : Nat) (Pf : List Nat → (Nat → va_E) → Nat → Prop) : Prop :=
  ∀ (b sz : Nat), Met l y (.code y cc mL none :: q_al) { frames := fr, cells := mc, slots := ms, locals := lo } (va_Pc [.ref b] (fun U => U.heap.size = sz ∧ va_P g.1 vwCl [(b, .inr (ci, fs0))] U.heap ∧ va_K g.1 vwCl (q_tys g) U ∧ q_Env U)) (n_Q g b sz k Pf) mc ms (fun q => q = b ∨ sz ≤ q)
theorem n_ofb {l : Launch} {g : q_G} {y : MethodName} {cc : ByteArray} {mL fr lo mc ms ci : Nat} {fs0 : List Value} {k : Nat} {Pf : List Nat → (Nat → va_E) → Nat → Prop} (hy : plainName y.cls = true) (hyn : y.name = "<init>") (hlen : 1 ≤ mL)
    (body : ∀ (p : Program) (e : Env) (s : State) (m : MethodId) (below : List Frame) (meth : Method) (c : Code) (ls : Array Slot) (b : Nat), CallFix p m c cc mL s ([.ref b] : List Value).toArray q_al y.cls → meth.sig.returnType = none → meth.locks = false → meth.name = "<init>" → q_Env s → q_N g (fun _ => 0) [] (fun q => q = b ∨ s.heap.size ≤ q) [(b, .inr (ci, fs0))] (fun _ => .inr (0, [])) s s.heap [] → lv_has ls mL [(0, .ref b)] →
      W p l e { frames := fr, cells := mc, slots := ms, locals := lo } s m ([.ref b] : List Value).toArray below meth c s.heap [] 0 0 (MQ below (n_Q g b s.heap.size k Pf) ([.ref b] : List Value).toArray s mc ms (fun q => q = b ∨ s.heap.size ≤ q)) (F0 m 0 ls [])) : q_Nw l g y cc mL fr lo mc ms ci fs0 k Pf := by
  intro b sz
  refine Met.ofW (cc := cc) (maxL := mL) (ret := none) hy rfl ?_
  intro p e s m args below meth c s₁ B hml hv
  obtain ⟨rfl, rfl, hP, hK, hE⟩ := hv
  have hts := atoms_spec (ws := Cond.code y cc mL none :: q_al) B.pre
  have hl := lv_entry [.ref b] (n := mL) hlen
  rw [lg_entry_eq]
  refine body p e s m below meth c _ b ⟨B.exec, B.bytes, hml, findClass_of_methodNamed B.named, fun w hw => hts w (List.mem_cons_of_mem _ hw)⟩ B.returns B.notSynchronized ((name_of_methodNamed B.named B.method).1.trans hyn) hE ⟨hP, q_Dn.mpr ⟨List.pairwise_singleton _ _, fun q hq => Or.inl (by rw [List.mem_singleton.mp hq])⟩, hK, va_S.rf, fun a ha => nomatch ha⟩ hl
section QN
variable {p : Program} {l : Launch} {e : Env} {R : Room} {s : State} {m : MethodId} {args : Array Value} {below : List Frame} {meth : Method} {c : Code} {H : Heap} {locs : List Loc} {cells slots : Nat} {Q : State → Prop}
variable {cc : ByteArray} {pc nL : Nat} {ls : Array Slot} {rest : List Value} {own : String}
variable {g : q_G} {K : Nat → Nat} {L : List Nat} {A : Nat → Prop} {Xs : va_W} {f : Nat → va_E}
theorem n_ret {b k : Nat} {Pf : List Nat → (Nat → va_E) → Nat → Prop} (cx : CallFix p m c cc nL s args q_al own) (hr : meth.sig.returnType = none) (hlk : meth.locks = false) (hN : q_N g K L (fun q => q = b ∨ s.heap.size ≤ q) [] f s H locs) (hb : b ∈ L) (hk : K b = k) (hp : Pf L f b) (hdg : decode cc pc = .ok (.return_, 1)) :
    W p l e R s m args below meth c H locs cells slots (MQ below (n_Q g b s.heap.size k Pf) args s cells slots (fun q => q = b ∨ s.heap.size ≤ q)) (F0 m pc ls []) :=
  W.vret cx.1 cx.2.1 hr (fun t ht hW => ⟨⟨K, L, f, rfl, hb, hk, (n_nodup hN).1, (n_nodup hN).2, hN.2.2.2.2, hp, by rw [ht]; exact hN.1, va_K.moved hW.alike hN.2.2.1⟩, hN.2.2.2.1.F ht⟩) hN.2.2.2.1.2.2 hdg hlk
theorem n_objInit {b index : Nat} (cx : CallFix p m c cc nL s args q_al own) (hlk : Cond.methodLink own index Lib.objectInit ∈ q_al) (hin : Cond.instanceMethod Lib.objectInit ∈ q_al) (hcd : Cond.code Lib.objectInit ⟨#[0xb1]⟩ 1 none ∈ q_al) (hls : ls.size = nL) (hdg : decode cc pc = .ok (.invokespecial index, 3)) (hfr : 1 ≤ R.frames) (hlo : (rest.map fun v => v.category).sum + 12 ≤ R.locals)
    (k : W p l e R s m args below meth c H locs cells slots Q (F0 m (pc + 3) ls rest)) : W p l e R s m args below meth c H locs cells slots Q (F0 m pc ls (.ref b :: rest)) := by
  refine W.objInit cx.1 cx.2.1 cx.2.2.2.1 (cx.2.2.2.2 _ hlk) (cx.2.2.2.2 _ hin) (cx.2.2.2.2 _ hcd) rfl (hls.trans cx.2.2.1.symm) rfl hdg hfr ?_ ?_
  · show 2 * 0 + (rest.map fun v => v.category).sum + 12 ≤ R.locals
    omega
  · exact W.eq (g2 := F0 m (pc + 3) ls rest) rfl k
theorem n_new {C : String} {T : u_T} {N ci index : Nat} {fs : List Value} {ty : Nat → FieldType} (cx : CallFix p m c cc nL s args q_al own) (hA : ∀ q, s.heap.size ≤ q → A q) (hN : q_N g K L A Xs f s H locs) (hin : ∀ w ∈ u_ws C T N, w ∈ q_al) (hty : ∀ k, k < N → parseFieldDescriptor (T k).2.2.1 = some (ty k)) (hcl : Cond.classLink own index C ∈ q_al) (hinst : Cond.instantiable C N ∈ q_al) (hini : Cond.initialized C ∈ q_al)
    (hc : vwCl[ci]? = some (C, T, N)) (hfs : ∀ j, j < N → defaultValue (ty j) = vp_V fs j) (hcells : cells + 1 ≤ R.cells) (hslots : slots + N ≤ R.slots) (hdg : decode cc pc = .ok (.new index, 3))
    (kk : ∀ (q : Nat) (H1 : Heap), q_N g K L A (Xs ++ [(q, .inr (ci, fs))]) f s H1 locs → W p l e R s m args below meth c H1 locs (cells + 1) (slots + N) Q (F0 m (pc + 3) ls (.ref q :: rest))) : W p l e R s m args below meth c H locs cells slots Q (F0 m pc ls rest) := by
  obtain ⟨hP, hD, hK, hS, hT⟩ := hN
  refine va_new cx.1 cx.2.1 cx.2.2.2.2 hin ty hty cx.2.2.2.1 (cx.2.2.2.2 _ hcl) (cx.2.2.2.2 _ hinst) (cx.2.2.2.2 _ hini) hK hP hD hS hA hc hfs hcells hslots hdg (fun q H1 hP1 hD1 hS1 => ?_)
  have hp : ((Xs ++ va_pl L f) ++ [(q, (.inr (ci, fs) : va_E))]).Perm ((Xs ++ [(q, (.inr (ci, fs) : va_E))]) ++ va_pl L f) := by
    rw [List.append_assoc, List.append_assoc]
    exact List.Perm.append_left Xs List.perm_append_comm
  obtain ⟨hP2, hD2⟩ := q_perm hp hP1 hD1
  exact kk q H1 ⟨hP2, hD2, hK, hS1, hT⟩
theorem n_blind {b sz ci : Nat} {fs0 : List Value} : FrameBlind (va_Pc [.ref b] (fun U => U.heap.size = sz ∧ va_P g.1 vwCl [(b, .inr (ci, fs0))] U.heap ∧ va_K g.1 vwCl (q_tys g) U ∧ q_Env U)) := fun a U gf mk h =>
  ⟨h.1, h.2.1, h.2.2.1, va_K.moved (u := U) (U := U.calling gf mk a) (Vm.Alike.refl U.vm) h.2.2.2.1, q_Env.to (u := U) (U := U.calling gf mk a) (State.WarmedH.refl U) h.2.2.2.2⟩
theorem n_callI {y : MethodName} {bytes : ByteArray} {maxL fr lo mc ms index ci b k : Nat} {fs0 : List Value} {Pf : List Nat → (Nat → va_E) → Nat → Prop}
    (cx : CallFix p m c cc nL s args q_al own) (hE : q_Env s) (hA : ∀ q, s.heap.size ≤ q → A q) (hN : q_N g K L A (Xs ++ [(b, .inr (ci, fs0))]) f s H locs) (hM : q_Nw l g y bytes maxL fr lo mc ms ci fs0 k Pf)
    (hm : ∀ (L1 : List Nat) (f1 : Nat → va_E) (L' : List Nat) (f' : Nat → va_E), (∀ a ∈ L1, a ∈ L' ∧ f' a = f1 a) → b ∈ L1 → Pf L1 f1 b → Pf L' f' b)
    (hini : Cond.initialized y.cls ∈ q_al) (hlk : Cond.methodLink own index y ∈ q_al) (hin : Cond.instanceMethod y ∈ q_al) (hcd : Cond.code y bytes maxL none ∈ q_al) (hy1 : y.name = "<init>")
    (hd : y.cls ≠ "java/lang/invoke/MethodHandle" ∧ y.cls ≠ "java/lang/invoke/VarHandle" ∧ (parseMethodDescriptor y.desc).map (fun d => d.parameters.length) = some 0)
    (hR : (fr + 1 ≤ R.frames ∧ 8 + (maxL + 11) + lo ≤ R.locals) ∧ cells + mc ≤ R.cells ∧ slots + ms ≤ R.slots) (hls : ls.size = nL) (hcat : (rest.map fun v => v.category).sum ≤ 8) (hdg : decode cc pc = .ok (.invokespecial index, 3))
    (kk : ∀ (K' : Nat → Nat) (L' : List Nat) (f' : Nat → va_E) (H1 : Heap) (locs1 : List Loc), b ∈ L' → K' b = k → (∀ a ∈ L, a ∈ L' ∧ K' a = K a ∧ f' a = f a) → Pf L' f' b → q_N g K' L' A Xs f' s H1 locs1 → W p l e R s m args below meth c H1 locs1 (cells + mc) (slots + ms) Q (F0 m (pc + 3) ls rest)) : W p l e R s m args below meth c H locs cells slots Q (F0 m pc ls (.ref b :: rest)) := by
  obtain ⟨hP, hD, hK, hS, hT⟩ := hN
  have hp0 : ((Xs ++ [(b, (.inr (ci, fs0) : va_E))]) ++ va_pl L f).Perm ([(b, (.inr (ci, fs0) : va_E))] ++ (Xs ++ va_pl L f)) := by
    rw [List.append_assoc]
    exact List.perm_middle
  obtain ⟨hP0, hD0⟩ := q_perm hp0 hP hD
  have hAb : A b := (q_Dn.mp hD0).2 (b, .inr (ci, fs0)) (List.mem_append_left _ (List.mem_singleton.mpr rfl))
  have hPb : va_P g.1 vwCl [(b, .inr (ci, fs0))] H := q_Pm.mpr fun q hq => q_Pm.mp hP0 q (List.mem_append_left _ hq)
  have hr := va_runI (e := e) (below := below) (meth := meth) (As := []) (rest := rest) (R := R) (cells := cells) (slots := slots) (locs := locs) (g := F0 m pc ls (.ref b :: rest)) cx (hM b H.size) (cwI 0 cx.2.2.2.2 (q_goodA (q_cons hcd q_self)) rfl rfl rfl (cx.2.2.2.2 _ hini) (cx.2.2.2.2 _ hlk) (cx.2.2.2.2 _ hin) hy1 hd hR.1) ⟨n_blind, fun U hU hW => ⟨rfl, by rw [hU], by rw [hU]; exact hPb, va_K.moved hW.alike hK, hE.to hW⟩⟩ rfl rfl hls rfl (lv_room hcat) hdg hR.2
  intro T9 hT9 X9
  obtain ⟨v, st₀, t, T', L9, h0, X', hL, e1, e2, ⟨⟨K1, L1, f1, hv, hb1, hk1, hn1, hs1, hT1, hp1, hP1, hK1⟩, hz, hk⟩, st⟩ := hr T9 hT9 X9
  cases hv
  rw [h0] at hz hk
  have hF : ∀ q, (q = b ∨ H.size ≤ q) → A q := fun q h => h.elim (fun e => e ▸ hAb) (fun h => hA q (Nat.le_trans hS.1 h))
  obtain ⟨hP2, hD2, hdis⟩ := q_join (A1 := fun q => q = b ∨ H.size ≤ q) (w1 := va_pl L1 f1) hP0 hD0 (fun q h hq => h.elim (fun e => ⟨_, List.mem_singleton.mpr rfl, e.symm⟩) (fun h => absurd hq (Nat.not_lt_of_le h))) hk hP1 (by rw [q_plfst]; exact hn1) (fun x hx => by
    obtain ⟨a, ha, rfl⟩ := List.mem_map.mp hx
    exact hs1 a ha) hF
  have hnot : ∀ a ∈ L1, a ∉ L := fun a h1 h2 => hdis (a, f1 a) (List.mem_map.mpr ⟨a, h1, rfl⟩) (a, f a) (List.mem_append_right _ (List.mem_map.mpr ⟨a, h2, rfl⟩)) rfl
  have o1 : ∀ a ∈ L, a ∈ L ++ L1 ∧ (if a ∈ L then K a else K1 a) = K a ∧ (if a ∈ L then f a else f1 a) = f a := fun a ha => ⟨List.mem_append_left _ ha, if_pos ha, if_pos ha⟩
  have o2 : ∀ a ∈ L1, a ∈ L ++ L1 ∧ (if a ∈ L then K a else K1 a) = K1 a ∧ (if a ∈ L then f a else f1 a) = f1 a := fun a ha => ⟨List.mem_append_right _ ha, if_neg (hnot a ha), if_neg (hnot a ha)⟩
  have hp3 : (va_pl L1 f1 ++ (Xs ++ va_pl L f)).Perm (Xs ++ va_pl (L ++ L1) (fun a => if a ∈ L then f a else f1 a)) := by
    rw [q_pl_app (f := f) (f1 := f1) (fun a ha => (o1 a ha).2.2) (fun a ha => (o2 a ha).2.2), show Xs ++ (va_pl L f ++ va_pl L1 f1) = (Xs ++ va_pl L f) ++ va_pl L1 f1 from (List.append_assoc _ _ _).symm]
    exact List.perm_append_comm
  obtain ⟨hP3, hD3⟩ := q_perm hp3 hP2 hD2
  have hT3 : q_Ty g (fun a => if a ∈ L then K a else K1 a) (L ++ L1) (fun a => if a ∈ L then f a else f1 a) := by
    intro a ha
    rcases List.mem_append.mp ha with h | h
    · show q_Sh g (if a ∈ L then K a else K1 a) (if a ∈ L then f a else f1 a) _
      rw [(o1 a h).2.1, (o1 a h).2.2]
      exact q_Sh_mono (fun t v => q_ok_mono (fun x hx => ⟨(o1 x hx).1, (o1 x hx).2.1⟩)) (hT a h)
    · show q_Sh g (if a ∈ L then K a else K1 a) (if a ∈ L then f a else f1 a) _
      rw [(o2 a h).2.1, (o2 a h).2.2]
      exact q_Sh_mono (fun t v => q_ok_mono (fun x hx => ⟨(o2 x hx).1, (o2 x hx).2.1⟩)) (hT1 a h)
  obtain ⟨t2, a1, b1⟩ := kk _ _ _ t.heap (locs ++ L9) (o2 b hb1).1 ((o2 b hb1).2.1.trans hk1) o1 (hm L1 f1 _ _ (fun a ha => ⟨(o2 a ha).1, (o2 a ha).2.2⟩) hb1 hp1) ⟨hP3, hD3, hK, ⟨Nat.le_trans hS.1 hz, fun q h1 h2 => by
      rw [hk q (Nat.lt_of_lt_of_le h1 hS.1) (fun h => h2 (hF q h))]
      exact hS.2.1 q h1 h2, fun q hq => by
      rcases List.mem_append.mp hq with h | h
      · exact hS.2.2 q h
      · exact hF _ (hL q h)⟩, hT3⟩ T' e1 X'
  exact ⟨t2, st t2 a1, b1⟩
end QN
