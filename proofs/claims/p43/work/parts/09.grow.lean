/-! worlds that grow: what is made comes in at once -/
theorem q_Pm {D : va_G} {cl : List vw_C} {ws : va_W} {H : Heap} : va_P D cl ws H ↔ ∀ q ∈ ws, va_at D cl q H :=
  ⟨fun h q hq => by obtain ⟨k, hk⟩ := List.getElem?_of_mem hq; exact h k q hk, fun h k q hk => h q (List.mem_of_getElem? hk)⟩
theorem q_Dn {A : Nat → Prop} {ws : va_W} : va_D A ws ↔ (ws.map (fun q => q.1)).Nodup ∧ ∀ q ∈ ws, A q.1 := by
  constructor
  · intro h
    obtain ⟨h1, h2⟩ := h
    refine ⟨?_, fun q hq => by obtain ⟨k, hk⟩ := List.getElem?_of_mem hq; exact h2 k q hk⟩
    rw [List.Nodup, List.pairwise_iff_getElem]
    intro i j hi hj hij e
    rw [List.length_map] at hi hj
    rw [List.getElem_map, List.getElem_map] at e
    have := h1 i j _ _ (List.getElem?_eq_getElem hi) (List.getElem?_eq_getElem hj) e
    omega
  · intro h
    obtain ⟨h1, h2⟩ := h
    refine ⟨fun i j x y hx hy e => ?_, fun k q hk => h2 q (List.mem_of_getElem? hk)⟩
    have e1 : (ws.map (fun q => q.1))[i]? = some x.1 := by rw [List.getElem?_map, hx]; rfl
    have e2 : (ws.map (fun q => q.1))[j]? = some y.1 := by rw [List.getElem?_map, hy]; rfl
    have hl : i < (ws.map (fun q => q.1)).length := (List.getElem?_eq_some_iff.mp e1).1
    exact (List.getElem?_inj hl h1).mp (e1.trans (by rw [e2, e]))
theorem q_RAu {U : State} {a b : ClassId} {ty : FieldType} (h1 : va_RA U a ty) (h2 : va_RA U b ty) : a = b := by
  cases ty <;> simp only [va_RA] at h1 h2 <;> first
    | exact Option.some.inj (h1.symm.trans h2)
    | (obtain ⟨_, _, _, _, _, e1⟩ := h1
       obtain ⟨_, _, _, _, _, e2⟩ := h2
       exact Option.some.inj (e1.symm.trans e2))
theorem q_Sh_mono {g : q_G} {k : Nat} {e : va_E} {ok ok' : q_T → Value → Prop} (h : ∀ t v, ok t v → ok' t v) (hs : q_Sh g k e ok) : q_Sh g k e ok' := by
  unfold q_Sh at hs ⊢
  by_cases hc : k < 100
  · rw [if_pos hc] at hs ⊢
    obtain ⟨fs, h1, h2, h3⟩ := hs
    exact ⟨fs, h1, h2, fun i t ht => h _ _ (h3 i t ht)⟩
  · rw [if_neg hc] at hs ⊢
    obtain ⟨x, h1, h2, h3⟩ := hs
    exact ⟨x, h1, h2, fun i hi => h _ _ (h3 i hi)⟩
theorem q_pl_app {L L1 : List Nat} {f f1 f' : Nat → va_E} (h1 : ∀ a ∈ L, f' a = f a) (h2 : ∀ a ∈ L1, f' a = f1 a) : va_pl (L ++ L1) f' = va_pl L f ++ va_pl L1 f1 := by
  unfold va_pl
  rw [List.map_append, List.map_congr_left (fun a ha => by rw [h1 a ha] : ∀ a ∈ L, (a, f' a) = (a, f a)), List.map_congr_left (fun a ha => by rw [h2 a ha] : ∀ a ∈ L1, (a, f' a) = (a, f1 a))]
theorem q_plfst {L : List Nat} {f : Nat → va_E} : (va_pl L f).map (fun q => q.1) = L := by
  unfold va_pl
  rw [List.map_map]
  exact List.map_id L
theorem q_ok_up {K K' : Nat → Nat} {L L' : List Nat} (h : ∀ a ∈ L, a ∈ L' ∧ K' a = K a) : ∀ {t : q_T} {v : Value}, q_ok K L t v → q_ok K' L' t v
  | (0, _, _), _, hv => hv
  | (1, _, _), _, hv => hv
  | (2, _, _), _, hv => by
    obtain ⟨a, e, ha, hk⟩ := hv
    exact ⟨a, e, (h a ha).1, (h a ha).2.trans hk⟩
  | (3, _, _), _, hv => hv
  | (4, _, _), _, hv => hv
  | (_ + 5, _, _), _, hv => hv
/-- the kinds of what the law makes -/
def q_nk (k : Nat) : Prop := (74 ≤ k ∧ k ≤ 90) ∨ (160 ≤ k ∧ k ≤ 175) ∨ 600 ≤ k
/-- what goes on holding while things are made -/
def q_Gw (A : Nat → Prop) (K0 : Nat → Nat) (L0 : List Nat) (b0 : Nat → va_E) (K : Nat → Nat) (L : List Nat) (f0 : Nat → va_E) : Prop := L.Nodup ∧ (∀ a, a ∈ L → A a) ∧ (∀ a, a ∈ L0 → a ∈ L ∧ K a = K0 a ∧ f0 a = b0 a) ∧ ∀ a, a ∈ L → a ∈ L0 ∨ q_nk (K a)
/-- a step of it: the old ones stay, with their kinds; the new ones are of the law's kinds -/
def q_Up (K : Nat → Nat) (L : List Nat) (K1 : Nat → Nat) (L1 : List Nat) : Prop := (∀ a, a ∈ L → a ∈ L1 ∧ K1 a = K a) ∧ ∀ a, a ∈ L1 → a ∈ L ∨ q_nk (K1 a)
theorem q_Gw.step {A : Nat → Prop} {K0 K K1 : Nat → Nat} {L0 L L1 : List Nat} {b0 f0 f01 : Nat → va_E} (h : q_Gw A K0 L0 b0 K L f0) (hu : q_Up K L K1 L1) (hn : L1.Nodup) (hA : ∀ a, a ∈ L1 → A a) (hf : ∀ a, a ∈ L → f01 a = f0 a) : q_Gw A K0 L0 b0 K1 L1 f01 :=
  ⟨hn, hA, fun a ha => ⟨(hu.1 a (h.2.2.1 a ha).1).1, ((hu.1 a (h.2.2.1 a ha).1).2).trans (h.2.2.1 a ha).2.1, (hf a (h.2.2.1 a ha).1).trans (h.2.2.1 a ha).2.2⟩, fun a ha => (hu.2 a ha).elim (fun q => (h.2.2.2 a q).imp id (fun z => by rw [(hu.1 a q).2]; exact z)) Or.inr⟩
theorem q_Up.rf {K : Nat → Nat} {L : List Nat} : q_Up K L K L := ⟨fun _ h => ⟨h, rfl⟩, fun _ h => Or.inl h⟩
theorem q_Up.tr {K K1 K2 : Nat → Nat} {L L1 L2 : List Nat} (h : q_Up K L K1 L1) (h2 : q_Up K1 L1 K2 L2) : q_Up K L K2 L2 :=
  ⟨fun a ha => ⟨(h2.1 a (h.1 a ha).1).1, (h2.1 a (h.1 a ha).1).2.trans (h.1 a ha).2⟩, fun a ha => (h2.2 a ha).elim (fun q => (h.2 a q).imp id (fun z => by rw [(h2.1 a q).2]; exact z)) Or.inr⟩
theorem q_Gw.rf {A : Nat → Prop} {K : Nat → Nat} {L : List Nat} {f : Nat → va_E} (hN : L.Nodup) (hA : ∀ a, a ∈ L → A a) : q_Gw A K L f K L f := ⟨hN, hA, fun _ h => ⟨h, rfl, rfl⟩, fun _ h => Or.inl h⟩
theorem q_Gw.up {A : Nat → Prop} {K0 K : Nat → Nat} {L0 L : List Nat} {b0 f0 : Nat → va_E} (h : q_Gw A K0 L0 b0 K L f0) : q_Up K0 L0 K L := ⟨fun a ha => ⟨(h.2.2.1 a ha).1, (h.2.2.1 a ha).2.1⟩, h.2.2.2⟩
/-- a cell that was made comes into the world -/
theorem q_grow {g : q_G} {A : Nat → Prop} {K0 K : Nat → Nat} {L0 L : List Nat} {b0 f0 f : Nat → va_E} {w : q_Ws} {s : State} {H H1 : Heap} {locs : List Loc} {b k : Nat} {e : va_E} (hG : q_Gw A K0 L0 b0 K L f0) (hB : q_B g K L A w f0 f s H locs) (hP1 : va_P g.1 vwCl (va_pl L f ++ [(b, e)]) H1) (hD1 : va_D A (va_pl L f ++ [(b, e)])) (hS1 : va_S A s.heap H1 locs) (hk : q_nk k) (hs : q_Sh g k e (q_ok K L)) :
    ∃ (K1 : Nat → Nat) (L1 : List Nat) (f01 f1 : Nat → va_E), b ∈ L1 ∧ K1 b = k ∧ f1 b = e ∧ b ∉ L ∧ (∀ a, a ∈ L → f1 a = f a) ∧ q_Up K L K1 L1 ∧ q_Gw A K0 L0 b0 K1 L1 f01 ∧ q_B g K1 L1 A w f01 f1 s H1 locs := by
  obtain ⟨⟨hP, hD, hK, hS⟩, hT, hF⟩ := hB
  have hb : b ∉ L := by
    intro hb
    have h := (q_Dn.mp hD1).1
    rw [List.map_append, List.nodup_append, q_plfst] at h
    exact h.2.2 b hb b (List.mem_singleton.mpr rfl) rfl
  have hold : ∀ a ∈ L, a ∈ L ++ [b] ∧ (if a = b then k else K a) = K a := by
    intro a ha
    have hne : a ≠ b := fun q => hb (q ▸ ha)
    exact ⟨List.mem_append_left _ ha, if_neg hne⟩
  have hfo : ∀ (f : Nat → va_E), ∀ a ∈ L, (if a = b then e else f a) = f a := fun f a ha => if_neg (fun q => hb (q ▸ ha))
  have hpl : va_pl (L ++ [b]) (fun a => if a = b then e else f a) = va_pl L f ++ [(b, e)] := by
    rw [q_pl_app (f := f) (f1 := fun _ => e) (hfo f) (fun a ha => if_pos (List.mem_singleton.mp ha))]
    rfl
  have hAb : A b := (q_Dn.mp hD1).2 (b, e) (List.mem_append_right _ (List.mem_singleton.mpr rfl))
  have hup : q_Up K L (fun a => if a = b then k else K a) (L ++ [b]) := ⟨hold, fun a ha => (List.mem_append.mp ha).imp id (fun q => by show q_nk (if a = b then k else K a); rw [if_pos (List.mem_singleton.mp q)]; exact hk)⟩
  refine ⟨fun a => if a = b then k else K a, L ++ [b], fun a => if a = b then e else f0 a, fun a => if a = b then e else f a, List.mem_append_right _ (List.mem_singleton.mpr rfl), if_pos rfl, if_pos rfl, hb, hfo f, hup, hG.step hup ?_ ?_ (hfo f0), ⟨?_, ?_, hK, hS1⟩, ?_, ?_⟩
  · rw [List.nodup_append]
    exact ⟨hG.1, List.pairwise_singleton _ _, fun a ha c hc q => hb (by rw [← List.mem_singleton.mp hc, ← q]; exact ha)⟩
  · intro a ha
    rcases List.mem_append.mp ha with h | h
    · exact hG.2.1 a h
    · rw [List.mem_singleton.mp h]; exact hAb
  · rw [hpl]; exact hP1
  · rw [hpl]; exact hD1
  · intro a ha
    show q_Sh g (if a = b then k else K a) (if a = b then e else f a) _
    rcases List.mem_append.mp ha with h | h
    · rw [(hold a h).2, hfo f a h]
      exact q_Sh_mono (fun t v => q_ok_up hold) (hT a h)
    · rw [if_pos (List.mem_singleton.mp h), if_pos (List.mem_singleton.mp h)]
      exact q_Sh_mono (fun t v => q_ok_up hold) hs
  · intro a ha i hi
    by_cases q : a = b
    · show q_vE (if a = b then e else f a) i = q_vE (if a = b then e else f0 a) i
      rw [if_pos q, if_pos q]
    · have h : a ∈ L := (List.mem_append.mp ha).resolve_right (fun z => q (List.mem_singleton.mp z))
      show q_vE (if a = b then e else f a) i = q_vE (if a = b then e else f0 a) i
      rw [if_neg q, if_neg q]
      exact hF a h i (by rw [← (hold a h).2]; exact hi)
/-- what a method that makes things leaves -/
def q_Qg (g : q_G) (K : Nat → Nat) (L : List Nat) (w : q_Ws) (f : Nat → va_E) (sz : Nat) (Po : Option Value → (Nat → Nat) → List Nat → (Nat → va_E) → Prop) : Array Value → State → Outcome → State → Prop := fun _ st o t =>
  (∃ (r : Option Value) (K1 : Nat → Nat) (L1 : List Nat) (f0 f1 : Nat → va_E), o = .returned r ∧ Po r K1 L1 f1 ∧ q_Gw (fun q => q ∈ L ∨ sz ≤ q) K L f K1 L1 f0 ∧ q_Ty g K1 L1 f1 ∧ q_Fr w K1 L1 f0 f1 ∧ q_U g L1 f1 t) ∧ va_F (fun q => q ∈ L ∨ sz ≤ q) st t
/-- what is told of the launch's own things: less of it, and later on -/
def q_EvOK (E : (Nat → Prop) → State → Prop) : Prop := (∀ (A B : Nat → Prop) (U : State), E A U → (∀ q, B q → A q) → E B U) ∧ ∀ (A : Nat → Prop) (s U : State), s.WarmedH U.vm → (∀ a : Nat, a < s.heap.size → ¬ A a → U.heap[a]? = s.heap[a]?) → E A s → E A U
def q_Cg (l : Launch) (g : q_G) (E : (Nat → Prop) → State → Prop) (K : Nat → Nat) (L : List Nat) (y : MethodName) (cc : ByteArray) (mL : Nat) (ret : Option FieldType) (fr lo mc ms : Nat) (As : List Value) (f : Nat → va_E) (w : q_Ws) (Po : Option Value → (Nat → Nat) → List Nat → (Nat → va_E) → Prop) : Prop :=
  ∀ sz : Nat, Met l y (.code y cc mL ret :: q_al) { frames := fr, cells := mc, slots := ms, locals := lo } (va_Pc As (fun U => U.heap.size = sz ∧ q_U g L f U ∧ E (fun q => q ∈ L ∨ sz ≤ q) U)) (q_Qg g K L w f sz Po) mc ms (fun q => q ∈ L ∨ sz ≤ q)
theorem q_gofb {l : Launch} {g : q_G} {E : (Nat → Prop) → State → Prop} {K : Nat → Nat} {L : List Nat} {y : MethodName} {cc : ByteArray} {mL : Nat} {ret : Option FieldType} {fr lo mc ms : Nat} {As : List Value} {f : Nat → va_E} {w : q_Ws} {Po : Option Value → (Nat → Nat) → List Nat → (Nat → va_E) → Prop}
    (hy : plainName y.cls = true) (hN : L.Nodup) (hT : q_Ty g K L f) (hlen : (lg_sl As).length ≤ mL)
    (body : ∀ (p : Program) (e : Env) (s : State) (m : MethodId) (below : List Frame) (meth : Method) (c : Code) (ls : Array Slot) (A : Nat → Prop) (QQ : Array Value → State → Outcome → State → Prop) (K0 : Nat → Nat) (L0 : List Nat) (b0 : Nat → va_E), CallFix p m c cc mL s As.toArray q_al y.cls → meth.sig.returnType = ret → meth.locks = false → (∀ q, s.heap.size ≤ q → A q) → E A s → q_Gw A K0 L0 b0 K L f → q_B g K L A w f f s s.heap [] → lv_has ls mL (lv_args 0 As) →
      (∀ (r : Option Value) (K1 : Nat → Nat) (L1 : List Nat) (f0 f1 : Nat → va_E) (H1 : Heap) (locs1 : List Loc), Po r K1 L1 f1 → q_Gw A K0 L0 b0 K1 L1 f0 → q_B g K1 L1 A w f0 f1 s H1 locs1 → ∀ t : State, t.heap = H1 → s.WarmedH t.vm → QQ As.toArray s (.returned r) t) →
      W p l e { frames := fr, cells := mc, slots := ms, locals := lo } s m As.toArray below meth c s.heap [] 0 0 (MQ below QQ As.toArray s mc ms A) (F0 m 0 ls [])) : q_Cg l g E K L y cc mL ret fr lo mc ms As f w Po := by
  intro sz
  refine Met.ofW (cc := cc) (maxL := mL) (ret := ret) hy rfl ?_
  intro p e s m args below meth c s₁ B hml hv
  obtain ⟨rfl, rfl, ⟨hP, hK⟩, hE⟩ := hv
  have hts := atoms_spec (ws := Cond.code y cc mL ret :: q_al) B.pre
  have hl := lv_entry As (n := mL) hlen
  rw [lg_entry_eq]
  exact body p e s m below meth c _ (fun q => q ∈ L ∨ s.heap.size ≤ q) (q_Qg g K L w f s.heap.size Po) K L f ⟨B.exec, B.bytes, hml, findClass_of_methodNamed B.named, fun w hw => hts w (List.mem_cons_of_mem _ hw)⟩ B.returns B.notSynchronized (fun q h => Or.inr h) hE (q_Gw.rf hN (fun a h => Or.inl h))
    ⟨⟨hP, q_nodup_D hN (fun a ha => Or.inl ha), hK, va_S.rf⟩, hT, q_Fr.rf⟩ hl
    (fun r K1 L1 f0 f1 H1 locs1 hp hG hB t ht hW => ⟨⟨r, K1, L1, f0, f1, rfl, hp, hG, hB.2.1, hB.2.2, by rw [q_U, ht]; exact ⟨hB.1.1, va_K.moved hW.alike hB.1.2.2.1⟩⟩, hB.1.2.2.2.F ht⟩)
/-- nothing is made that stays -/
def q_Ng (Po : Option Value → (Nat → va_E) → Prop) (K : Nat → Nat) (L : List Nat) : Option Value → (Nat → Nat) → List Nat → (Nat → va_E) → Prop := fun r K1 L1 f => K1 = K ∧ L1 = L ∧ Po r f
theorem q_Ct.g {l : Launch} {g : q_G} {E : (Nat → Prop) → State → Prop} {K : Nat → Nat} {L : List Nat} {y : MethodName} {cc : ByteArray} {mL : Nat} {ret : Option FieldType} {fr lo : Nat} {As : List Value} {f : Nat → va_E} {w : q_Ws} {Po : Option Value → (Nat → va_E) → Prop} (h : q_Ct l g K L y cc mL ret fr lo As f w Po) (hN : L.Nodup) : q_Cg l g E K L y cc mL ret fr lo 0 0 As f w (q_Ng Po K L) := by
  intro sz p e ha hc hk s m args below h1 h2 h3 h4
  obtain ⟨n, o, a, b, c, ⟨⟨r, f1, ho, hp, ht, hf, hu⟩, hF⟩, hL⟩ := h p e ha hc hk s m args below h1 h2 h3 ⟨h4.1, h4.2.2.1⟩
  exact ⟨n, o, a, b, c, ⟨⟨r, K, L, f, f1, ho, ⟨rfl, rfl, hp⟩, q_Gw.rf hN (fun a h => Or.inl h), ht, hf, hu⟩, hF.1, fun q h1 h2 => hF.2 q h1 (fun z => h2 (Or.inl z))⟩, fun q hq => Or.inl (hL q hq)⟩
def q_Gi (P : Int → (Nat → Nat) → List Nat → (Nat → va_E) → Prop) : Option Value → (Nat → Nat) → List Nat → (Nat → va_E) → Prop := fun r K L f => ∃ z : Int, r = some (.int (q_i z)) ∧ q_R z ∧ P z K L f
def q_Gv (P : (Nat → Nat) → List Nat → (Nat → va_E) → Prop) : Option Value → (Nat → Nat) → List Nat → (Nat → va_E) → Prop := fun r K L f => r = none ∧ P K L f
def q_Gr (P : Nat → (Nat → Nat) → List Nat → (Nat → va_E) → Prop) : Option Value → (Nat → Nat) → List Nat → (Nat → va_E) → Prop := fun r K L f => ∃ a : Nat, r = some (.ref a) ∧ P a K L f
/-- null, or a thing -/
def q_Gn (P0 : (Nat → Nat) → List Nat → (Nat → va_E) → Prop) (P : Nat → (Nat → Nat) → List Nat → (Nat → va_E) → Prop) : Option Value → (Nat → Nat) → List Nat → (Nat → va_E) → Prop := fun r K L f => (r = some .null ∧ P0 K L f) ∨ ∃ a : Nat, r = some (.ref a) ∧ P a K L f
section QG1
variable {p : Program} {l : Launch} {e : Env} {R : Room} {s : State} {m : MethodId} {args : Array Value} {below : List Frame} {meth : Method} {c : Code} {H : Heap} {locs : List Loc} {cells slots : Nat} {Q : State → Prop}
variable {cc : ByteArray} {pc nL : Nat} {ls : Array Slot} {rest : List Value} {own : String}
variable {g : q_G} {E : (Nat → Prop) → State → Prop} {K K0 : Nat → Nat} {L L0 : List Nat} {A : Nat → Prop} {w : q_Ws} {f0 b0 f : Nat → va_E} {Po : Option Value → (Nat → Nat) → List Nat → (Nat → va_E) → Prop} {QQ : Array Value → State → Outcome → State → Prop}
theorem q_giret {x : Int} (cx : CallFix p m c cc nL s args q_al own) (hr : meth.sig.returnType = some .int) (hl : meth.locks = false) (hB : q_B g K L A w f0 f s H locs) (hend : ∀ t : State, t.heap = H → s.WarmedH t.vm → QQ args s (.returned (some (.int (q_i x)))) t) (hdg : decode cc pc = .ok (.ireturn, 1)) :
    W p l e R s m args below meth c H locs cells slots (MQ below QQ args s cells slots A) (F0 m pc ls [.int (q_i x)]) :=
  W.iret cx.1 cx.2.1 hr hend hB.1.2.2.2.2.2 hdg hl
theorem q_gzret {x : Int} (cx : CallFix p m c cc nL s args q_al own) (hr : meth.sig.returnType = some .boolean) (hl : meth.locks = false) (hB : q_B g K L A w f0 f s H locs) (hend : ∀ t : State, t.heap = H → s.WarmedH t.vm → QQ args s (.returned (some (.int (q_i x)))) t) (hdg : decode cc pc = .ok (.ireturn, 1)) (h0 : 0 ≤ x) (h1 : x ≤ 1) :
    W p l e R s m args below meth c H locs cells slots (MQ below QQ args s cells slots A) (F0 m pc ls [.int (q_i x)]) :=
  W.zret cx.1 cx.2.1 hr (q_narz h0 h1) hend hB.1.2.2.2.2.2 hdg hl
theorem q_gvret (cx : CallFix p m c cc nL s args q_al own) (hr : meth.sig.returnType = none) (hl : meth.locks = false) (hB : q_B g K L A w f0 f s H locs) (hend : ∀ t : State, t.heap = H → s.WarmedH t.vm → QQ args s (.returned none) t) (hdg : decode cc pc = .ok (.return_, 1)) :
    W p l e R s m args below meth c H locs cells slots (MQ below QQ args s cells slots A) (F0 m pc ls []) :=
  W.vret cx.1 cx.2.1 hr hend hB.1.2.2.2.2.2 hdg hl
theorem q_garet {v : Value} {rt : FieldType} (cx : CallFix p m c cc nL s args q_al own) (hr : meth.sig.returnType = some rt) (hrt : (∃ n, rt = .object n) ∨ ∃ t, rt = .array t) (hl : meth.locks = false) (hv : v = .null ∨ ∃ b : Nat, v = .ref b) (hB : q_B g K L A w f0 f s H locs) (hend : ∀ t : State, t.heap = H → s.WarmedH t.vm → QQ args s (.returned (some v)) t) (hdg : decode cc pc = .ok (.areturn, 1)) :
    W p l e R s m args below meth c H locs cells slots (MQ below QQ args s cells slots A) (F0 m pc ls [v]) :=
  W.aret cx.1 cx.2.1 hr hrt hv hend hB.1.2.2.2.2.2 hdg hl
theorem q_gblind (hEv : q_EvOK E) {As : List Value} {sz : Nat} : FrameBlind (va_Pc As (fun U => U.heap.size = sz ∧ q_U g L f U ∧ E A U)) := fun a U gf mk h =>
  ⟨h.1, h.2.1, ⟨h.2.2.1.1, va_K.moved (u := U) (U := U.calling gf mk a) (Vm.Alike.refl U.vm) h.2.2.1.2⟩, hEv.2 A U (U.calling gf mk a) (State.WarmedH.refl U) (fun _ _ _ => rfl) h.2.2.2⟩
theorem q_gnar (hA : ∀ q, s.heap.size ≤ q → A q) (hG : q_Gw A K0 L0 b0 K L f0) (hB : q_B g K L A w f0 f s H locs) : ∀ q, (q ∈ L ∨ H.size ≤ q) → A q := fun q h => h.elim (hG.2.1 q) (fun h => hA q (Nat.le_trans hB.1.2.2.2.1 h))
theorem q_gpre (hEv : q_EvOK E) (hE : E A s) (hA : ∀ q, s.heap.size ≤ q → A q) (hG : q_Gw A K0 L0 b0 K L f0) (hB : q_B g K L A w f0 f s H locs) {U : State} (hU : U.heap = H) (hW : s.WarmedH U.vm) : U.heap.size = H.size ∧ q_U g L f U ∧ E (fun q => q ∈ L ∨ H.size ≤ q) U :=
  ⟨by rw [hU], ⟨by rw [hU]; exact hB.1.1, va_K.moved hW.alike hB.1.2.2.1⟩, hEv.1 _ _ _ (hEv.2 A s U hW (fun a h1 h2 => by rw [hU]; exact hB.1.2.2.2.2.1 a h1 h2) hE) (q_gnar hA hG hB)⟩
theorem q_gafter {w' : q_Ws} {st t : State} {v : Option Value} {locs1 : List Loc} {a9 : Array Value} (hA : ∀ q, s.heap.size ≤ q → A q) (hG : q_Gw A K0 L0 b0 K L f0) (hB : q_B g K L A w f0 f s H locs) (hsub : q_wsub w' w = true) (h0 : st.heap = H) (hl : ∀ q ∈ locs1, A q.base) (hq : q_Qg g K L w' f H.size Po a9 st (.returned v) t) :
    ∃ (K1 : Nat → Nat) (L1 : List Nat) (f01 f1 : Nat → va_E), Po v K1 L1 f1 ∧ q_Up K L K1 L1 ∧ q_Fr w' K L f f1 ∧ (∀ a, a ∈ L → f01 a = f0 a) ∧ q_Gw A K0 L0 b0 K1 L1 f01 ∧ q_B g K1 L1 A w f01 f1 s t.heap locs1 := by
  obtain ⟨⟨r, K1, L1, fc, f1, hv, hp, hG1, hT1, hF1, hP1, hK1⟩, hz, hkp⟩ := hq
  cases hv
  have hnar := q_gnar hA hG hB
  obtain ⟨⟨hP, hD, hK, hS⟩, hT, hF⟩ := hB
  rw [h0] at hz hkp
  have hup := hG1.up
  have hF' : q_Fr w' K L f f1 := by
    intro a ha i hi
    have e1 := hF1 a (hup.1 a ha).1 i (by rw [(hup.1 a ha).2]; exact hi)
    have e2 : q_v fc a i = q_v f a i := congrArg (fun e => q_vE e i) (hG1.2.2.1 a ha).2.2
    exact e1.trans e2
  have hA1 : ∀ a, a ∈ L1 → A a := fun a ha => hnar a (hG1.2.1 a ha)
  refine ⟨K1, L1, fun a => if a ∈ L then f0 a else f1 a, f1, hp, hup, hF', fun a ha => if_pos ha, hG.step hup hG1.1 hA1 (fun a ha => if_pos ha), ⟨hP1, q_nodup_D hG1.1 hA1, hK, ⟨Nat.le_trans hS.1 hz, fun q h1 h2 => ?_, hl⟩⟩, hT1, ?_⟩
  · rw [hkp q (Nat.lt_of_lt_of_le h1 hS.1) (fun h => h2 (hnar q h))]
    exact hS.2.1 q h1 h2
  · intro a ha i hi
    by_cases h : a ∈ L
    · have hi2 : q_inW w (K a) i = false := by rw [← (hup.1 a h).2]; exact hi
      show q_v f1 a i = q_vE (if a ∈ L then f0 a else f1 a) i
      rw [if_pos h]
      exact (hF' a h i (q_wsub_in hsub hi2)).trans (hF a h i hi2)
    · show q_v f1 a i = q_vE (if a ∈ L then f0 a else f1 a) i
      rw [if_neg h]
      rfl
theorem q_gV {y : MethodName} {bytes : ByteArray} {maxL fr lo mc ms n index : Nat} {ret : Option FieldType} {C : String} {b k : Nat} {T : u_T} {N : Nat} {As st0 : List Value} {w' : q_Ws}
    (cx : CallFix p m c cc nL s args q_al own) (hEv : q_EvOK E) (hE : E A s) (hA : ∀ q, s.heap.size ≤ q → A q) (hG : q_Gw A K0 L0 b0 K L f0) (hB : q_B g K L A w f0 f s H locs) (hb : b ∈ L) (hk : K b = k) (h20 : k < 100) (hcl : vwCl[q_ck k]? = some (C, T, N))
    (hM : q_Cg l g E K L y bytes maxL ret fr lo mc ms (.ref b :: As) f w' Po) (hwd : ∀ w ∈ wsV own index C y (.code y bytes maxL ret :: q_al), w ∈ q_al)
    (hd : y.cls = C ∧ y.cls ≠ "java/lang/invoke/MethodHandle" ∧ y.cls ≠ "java/lang/invoke/VarHandle" ∧ (parseMethodDescriptor y.desc).map (fun d => d.parameters.length) = some n)
    (hR : (fr + 1 ≤ R.frames ∧ 8 + (maxL + 11) + lo ≤ R.locals) ∧ cells + mc ≤ R.cells ∧ slots + ms ≤ R.slots) (hsub : q_wsub w' w = true) (hn : As.length = n) (hls : ls.size = nL) (hst : st0 = As.reverse ++ .ref b :: rest) (hcat : (rest.map fun v => v.category).sum ≤ 8) (hdg : decode cc pc = .ok (.invokevirtual index, 3))
    (kk : ∀ (v : Option Value) (H1 : Heap) (locs1 : List Loc) (K1 : Nat → Nat) (L1 : List Nat) (f01 f1 : Nat → va_E), Po v K1 L1 f1 → q_Up K L K1 L1 → q_Fr w' K L f f1 → (∀ a, a ∈ L → f01 a = f0 a) → q_Gw A K0 L0 b0 K1 L1 f01 → q_B g K1 L1 A w f01 f1 s H1 locs1 → W p l e R s m args below meth c H1 locs1 (cells + mc) (slots + ms) Q (F0 m (pc + 3) ls (v.toList ++ rest))) : W p l e R s m args below meth c H locs cells slots Q (F0 m pc ls st0) := by
  obtain ⟨fs, h1, -, -⟩ := q_ty_obj hB.2.1 hb hk h20
  obtain ⟨q0, hq⟩ := q_plget (f := f) hb
  rw [h1] at hq
  have hnar := q_gnar hA hG hB
  have hr := va_runV (e := e) (below := below) (meth := meth) (As := As) (rest := rest) (R := R) (cells := cells) (slots := slots) (locs := locs) (g := F0 m pc ls st0) cx (hM H.size) (cwV n cx.2.2.2.2 (q_goodA hwd) rfl rfl rfl hd hR.1) ⟨q_gblind hEv, va_recv hB.1.2.2.1 hB.1.1 hcl hq, fun U hU hW => ⟨rfl, q_gpre hEv hE hA hG hB hU hW⟩⟩ rfl hn hls hst (lv_room hcat) hdg ⟨hR.2.1, hR.2.2⟩
  intro T9 hT9 X9
  obtain ⟨v, st₀, t, T', L9, h0, X', hL, e1, e2, hq9, st⟩ := hr T9 hT9 X9
  obtain ⟨K1, L1, f01, f1, p1, p2, p3, p6, p4, p5⟩ := q_gafter hA hG hB hsub h0 (locs1 := locs ++ L9) (fun q hq => by
      rcases List.mem_append.mp hq with h | h
      · exact hB.1.2.2.2.2.2 q h
      · exact hnar _ (hL q h)) hq9
  obtain ⟨t2, a1, b1⟩ := kk v t.heap (locs ++ L9) K1 L1 f01 f1 p1 p2 p3 p6 p4 p5 T' e1 X'
  exact ⟨t2, st t2 a1, b1⟩
theorem q_gS {y : MethodName} {bytes : ByteArray} {maxL fr lo mc ms n index : Nat} {ret : Option FieldType} {As st0 : List Value} {w' : q_Ws}
    (cx : CallFix p m c cc nL s args q_al own) (hEv : q_EvOK E) (hE : E A s) (hA : ∀ q, s.heap.size ≤ q → A q) (hG : q_Gw A K0 L0 b0 K L f0) (hB : q_B g K L A w f0 f s H locs)
    (hM : q_Cg l g E K L y bytes maxL ret fr lo mc ms As f w' Po) (hwd : ∀ w ∈ va_wsS own index y (.code y bytes maxL ret :: q_al), w ∈ q_al)
    (hd : y.cls ≠ "java/lang/invoke/MethodHandle" ∧ y.cls ≠ "java/lang/invoke/VarHandle" ∧ (parseMethodDescriptor y.desc).map (fun d => d.parameters.length) = some n)
    (hR : (fr + 1 ≤ R.frames ∧ 8 + (maxL + 11) + lo ≤ R.locals) ∧ cells + mc ≤ R.cells ∧ slots + ms ≤ R.slots) (hsub : q_wsub w' w = true) (hn : As.length = n) (hls : ls.size = nL) (hst : st0 = As.reverse ++ rest) (hcat : (rest.map fun v => v.category).sum ≤ 8) (hdg : decode cc pc = .ok (.invokestatic index, 3))
    (kk : ∀ (v : Option Value) (H1 : Heap) (locs1 : List Loc) (K1 : Nat → Nat) (L1 : List Nat) (f01 f1 : Nat → va_E), Po v K1 L1 f1 → q_Up K L K1 L1 → q_Fr w' K L f f1 → (∀ a, a ∈ L → f01 a = f0 a) → q_Gw A K0 L0 b0 K1 L1 f01 → q_B g K1 L1 A w f01 f1 s H1 locs1 → W p l e R s m args below meth c H1 locs1 (cells + mc) (slots + ms) Q (F0 m (pc + 3) ls (v.toList ++ rest))) : W p l e R s m args below meth c H locs cells slots Q (F0 m pc ls st0) := by
  have hnar := q_gnar hA hG hB
  have hr := va_runS (e := e) (below := below) (meth := meth) (As := As) (rest := rest) (R := R) (cells := cells) (slots := slots) (locs := locs) (g := F0 m pc ls st0) cx (hM H.size) (va_cwS n cx.2.2.2.2 (q_goodA hwd) rfl rfl rfl hd hR.1) ⟨q_gblind hEv, fun U hU hW => ⟨rfl, q_gpre hEv hE hA hG hB hU hW⟩⟩ rfl hn hls hst (lv_room hcat) hdg ⟨hR.2.1, hR.2.2⟩
  intro T9 hT9 X9
  obtain ⟨v, st₀, t, T', L9, h0, X', hL, e1, e2, hq9, st⟩ := hr T9 hT9 X9
  obtain ⟨K1, L1, f01, f1, p1, p2, p3, p6, p4, p5⟩ := q_gafter hA hG hB hsub h0 (locs1 := locs ++ L9) (fun q hq => by
      rcases List.mem_append.mp hq with h | h
      · exact hB.1.2.2.2.2.2 q h
      · exact hnar _ (hL q h)) hq9
  obtain ⟨t2, a1, b1⟩ := kk v t.heap (locs ++ L9) K1 L1 f01 f1 p1 p2 p3 p6 p4 p5 T' e1 X'
  exact ⟨t2, st t2 a1, b1⟩
/-- a constructor, or a call by its own class alone -/
theorem q_gI {y : MethodName} {bytes : ByteArray} {maxL fr lo mc ms n index : Nat} {b : Nat} {As st0 : List Value} {w' : q_Ws}
    (cx : CallFix p m c cc nL s args q_al own) (hEv : q_EvOK E) (hE : E A s) (hA : ∀ q, s.heap.size ≤ q → A q) (hG : q_Gw A K0 L0 b0 K L f0) (hB : q_B g K L A w f0 f s H locs)
    (hM : q_Cg l g E K L y bytes maxL none fr lo mc ms (.ref b :: As) f w' Po) (hini : Cond.initialized y.cls ∈ q_al) (hlk : Cond.methodLink own index y ∈ q_al) (hin : Cond.instanceMethod y ∈ q_al) (hcd : Cond.code y bytes maxL none ∈ q_al) (hy1 : y.name = "<init>")
    (hd : y.cls ≠ "java/lang/invoke/MethodHandle" ∧ y.cls ≠ "java/lang/invoke/VarHandle" ∧ (parseMethodDescriptor y.desc).map (fun d => d.parameters.length) = some n)
    (hR : (fr + 1 ≤ R.frames ∧ 8 + (maxL + 11) + lo ≤ R.locals) ∧ cells + mc ≤ R.cells ∧ slots + ms ≤ R.slots) (hsub : q_wsub w' w = true) (hn : As.length = n) (hls : ls.size = nL) (hst : st0 = As.reverse ++ .ref b :: rest) (hcat : (rest.map fun v => v.category).sum ≤ 8) (hdg : decode cc pc = .ok (.invokespecial index, 3))
    (kk : ∀ (v : Option Value) (H1 : Heap) (locs1 : List Loc) (K1 : Nat → Nat) (L1 : List Nat) (f01 f1 : Nat → va_E), Po v K1 L1 f1 → q_Up K L K1 L1 → q_Fr w' K L f f1 → (∀ a, a ∈ L → f01 a = f0 a) → q_Gw A K0 L0 b0 K1 L1 f01 → q_B g K1 L1 A w f01 f1 s H1 locs1 → W p l e R s m args below meth c H1 locs1 (cells + mc) (slots + ms) Q (F0 m (pc + 3) ls (v.toList ++ rest))) : W p l e R s m args below meth c H locs cells slots Q (F0 m pc ls st0) := by
  have hnar := q_gnar hA hG hB
  have hr := va_runI (e := e) (below := below) (meth := meth) (As := As) (rest := rest) (R := R) (cells := cells) (slots := slots) (locs := locs) (g := F0 m pc ls st0) cx (hM H.size) (cwI n cx.2.2.2.2 (q_goodA (q_cons hcd q_self)) rfl rfl rfl (cx.2.2.2.2 _ hini) (cx.2.2.2.2 _ hlk) (cx.2.2.2.2 _ hin) hy1 hd hR.1) ⟨q_gblind hEv, fun U hU hW => ⟨rfl, q_gpre hEv hE hA hG hB hU hW⟩⟩ rfl hn hls hst (lv_room hcat) hdg ⟨hR.2.1, hR.2.2⟩
  intro T9 hT9 X9
  obtain ⟨v, st₀, t, T', L9, h0, X', hL, e1, e2, hq9, st⟩ := hr T9 hT9 X9
  obtain ⟨K1, L1, f01, f1, p1, p2, p3, p6, p4, p5⟩ := q_gafter hA hG hB hsub h0 (locs1 := locs ++ L9) (fun q hq => by
      rcases List.mem_append.mp hq with h | h
      · exact hB.1.2.2.2.2.2 q h
      · exact hnar _ (hL q h)) hq9
  obtain ⟨t2, a1, b1⟩ := kk v t.heap (locs ++ L9) K1 L1 f01 f1 p1 p2 p3 p6 p4 p5 T' e1 X'
  exact ⟨t2, st t2 a1, b1⟩
/-- a call through an interface -/
theorem q_gF {x y : MethodName} {bytes : ByteArray} {maxL fr lo mc ms n index count : Nat} {ret : Option FieldType} {C : String} {b k : Nat} {T : u_T} {N : Nat} {As st0 : List Value} {w' : q_Ws}
    (cx : CallFix p m c cc nL s args q_al own) (hEv : q_EvOK E) (hE : E A s) (hA : ∀ q, s.heap.size ≤ q → A q) (hG : q_Gw A K0 L0 b0 K L f0) (hB : q_B g K L A w f0 f s H locs) (hb : b ∈ L) (hk : K b = k) (h20 : k < 100) (hcl : vwCl[q_ck k]? = some (C, T, N)) (hFw : va_Fw C x y s)
    (hM : q_Cg l g E K L y bytes maxL ret fr lo mc ms (.ref b :: As) f w' Po) (hwd : ∀ w ∈ va_wsF own index C x y (.code y bytes maxL ret :: q_al), w ∈ q_al)
    (hd : x.cls ≠ "java/lang/invoke/MethodHandle" ∧ x.cls ≠ "java/lang/invoke/VarHandle" ∧ (parseMethodDescriptor x.desc).map (fun d => d.parameters.length) = some n)
    (hR : (fr + 1 ≤ R.frames ∧ 8 + (maxL + 11) + lo ≤ R.locals) ∧ cells + mc ≤ R.cells ∧ slots + ms ≤ R.slots) (hsub : q_wsub w' w = true) (hn : As.length = n) (hls : ls.size = nL) (hst : st0 = As.reverse ++ .ref b :: rest) (hcat : (rest.map fun v => v.category).sum ≤ 8) (hdg : decode cc pc = .ok (.invokeinterface index count, 5))
    (kk : ∀ (v : Option Value) (H1 : Heap) (locs1 : List Loc) (K1 : Nat → Nat) (L1 : List Nat) (f01 f1 : Nat → va_E), Po v K1 L1 f1 → q_Up K L K1 L1 → q_Fr w' K L f f1 → (∀ a, a ∈ L → f01 a = f0 a) → q_Gw A K0 L0 b0 K1 L1 f01 → q_B g K1 L1 A w f01 f1 s H1 locs1 → W p l e R s m args below meth c H1 locs1 (cells + mc) (slots + ms) Q (F0 m (pc + 5) ls (v.toList ++ rest))) : W p l e R s m args below meth c H locs cells slots Q (F0 m pc ls st0) := by
  obtain ⟨fs, h1, -, -⟩ := q_ty_obj hB.2.1 hb hk h20
  obtain ⟨q0, hq⟩ := q_plget (f := f) hb
  rw [h1] at hq
  have hnar := q_gnar hA hG hB
  have hr := va_runF (e := e) (below := below) (meth := meth) (As := As) (rest := rest) (R := R) (cells := cells) (slots := slots) (locs := locs) (g := F0 m pc ls st0) (hB.1.2.2.1.1 _ _ hcl).2 cx (hM H.size) (va_cwF n cx.2.2.2.2 (q_goodA hwd) rfl rfl rfl hFw hd hR.1) ⟨q_gblind hEv, va_recv hB.1.2.2.1 hB.1.1 hcl hq, fun U hU hW => ⟨rfl, q_gpre hEv hE hA hG hB hU hW⟩⟩ rfl hn hls hst (lv_room hcat) hdg ⟨hR.2.1, hR.2.2⟩
  intro T9 hT9 X9
  obtain ⟨v, st₀, t, T', L9, h0, X', hL, e1, e2, hq9, st⟩ := hr T9 hT9 X9
  obtain ⟨K1, L1, f01, f1, p1, p2, p3, p6, p4, p5⟩ := q_gafter hA hG hB hsub h0 (locs1 := locs ++ L9) (fun q hq => by
      rcases List.mem_append.mp hq with h | h
      · exact hB.1.2.2.2.2.2 q h
      · exact hnar _ (hL q h)) hq9
  obtain ⟨t2, a1, b1⟩ := kk v t.heap (locs ++ L9) K1 L1 f01 f1 p1 p2 p3 p6 p4 p5 T' e1 X'
  exact ⟨t2, st t2 a1, b1⟩
/-- an object is made -/
theorem q_gnew {C : String} {T : u_T} {N index k : Nat} {fs : List Value} {ty : Nat → FieldType} (cx : CallFix p m c cc nL s args q_al own) (hA : ∀ q, s.heap.size ≤ q → A q) (hG : q_Gw A K0 L0 b0 K L f0) (hB : q_B g K L A w f0 f s H locs) (hin : ∀ w ∈ u_ws C T N, w ∈ q_al) (hty : ∀ k, k < N → parseFieldDescriptor (T k).2.2.1 = some (ty k)) (hcl : Cond.classLink own index C ∈ q_al) (hinst : Cond.instantiable C N ∈ q_al) (hini : Cond.initialized C ∈ q_al)
    (hc : vwCl[q_ck k]? = some (C, T, N)) (hfs : ∀ j, j < N → defaultValue (ty j) = vp_V fs j) (hcells : cells + 1 ≤ R.cells) (hslots : slots + N ≤ R.slots) (hk : q_nk k) (hs : q_Sh g k (.inr (q_ck k, fs)) (q_ok K L)) (hdg : decode cc pc = .ok (.new index, 3))
    (kk : ∀ (b : Nat) (H1 : Heap) (K1 : Nat → Nat) (L1 : List Nat) (f01 f1 : Nat → va_E), b ∈ L1 → K1 b = k → f1 b = .inr (q_ck k, fs) → b ∉ L → (∀ a, a ∈ L → f1 a = f a) → q_Up K L K1 L1 → q_Gw A K0 L0 b0 K1 L1 f01 → q_B g K1 L1 A w f01 f1 s H1 locs → W p l e R s m args below meth c H1 locs (cells + 1) (slots + N) Q (F0 m (pc + 3) ls (.ref b :: rest))) : W p l e R s m args below meth c H locs cells slots Q (F0 m pc ls rest) :=
  va_new cx.1 cx.2.1 cx.2.2.2.2 hin ty hty cx.2.2.2.1 (cx.2.2.2.2 _ hcl) (cx.2.2.2.2 _ hinst) (cx.2.2.2.2 _ hini) hB.1.2.2.1 hB.1.1 hB.1.2.1 hB.1.2.2.2 hA hc hfs hcells hslots hdg (fun q H1 hP1 hD1 hS1 => by
    obtain ⟨K1, L1, f01, f1, h1, h2, h3, h4, h5, h6, h7, h8⟩ := q_grow hG hB hP1 hD1 hS1 hk hs
    exact kk q H1 K1 L1 f01 f1 h1 h2 h3 h4 h5 h6 h7 h8)
/-- Object's own constructor -/
theorem q_gobj {b index : Nat} (cx : CallFix p m c cc nL s args q_al own) (hlk : Cond.methodLink own index Lib.objectInit ∈ q_al) (hin : Cond.instanceMethod Lib.objectInit ∈ q_al) (hcd : Cond.code Lib.objectInit ⟨#[0xb1]⟩ 1 none ∈ q_al) (hls : ls.size = nL) (hdg : decode cc pc = .ok (.invokespecial index, 3)) (hfr : 1 ≤ R.frames) (hlo : (rest.map fun v => v.category).sum + 12 ≤ R.locals)
    (k : W p l e R s m args below meth c H locs cells slots Q (F0 m (pc + 3) ls rest)) : W p l e R s m args below meth c H locs cells slots Q (F0 m pc ls (.ref b :: rest)) := by
  refine W.objInit cx.1 cx.2.1 cx.2.2.2.1 (cx.2.2.2.2 _ hlk) (cx.2.2.2.2 _ hin) (cx.2.2.2.2 _ hcd) rfl (hls.trans cx.2.2.1.symm) rfl hdg hfr ?_ ?_
  · show 2 * 0 + (rest.map fun v => v.category).sum + 12 ≤ R.locals
    omega
  · exact W.eq (g2 := F0 m (pc + 3) ls rest) rfl k
/-- an array of ints is made -/
theorem q_gnewi {k n : Nat} {z : Int} {t0 : Nat} {at9 : ArrayType} {ty : FieldType} (cx : CallFix p m c cc nL s args q_al own) (harr : Cond.arrayClass (newarray.typeOf at9) ∈ q_al) (hty : newarray.typeOf at9 = ty) (hd0 : defaultValue ty = .int 0) (hA : ∀ q, s.heap.size ≤ q → A q) (hG : q_Gw A K0 L0 b0 K L f0) (hB : q_B g K L A w f0 f s H locs)
    (h20 : ¬ k < 100) (hn : (q_at k).2 = n) (ht0 : (q_at k).1 = t0) (ht3 : t0 = 0 ∨ t0 = 1 ∨ t0 = 2) (htt : (q_tys g)[t0]? = some (g.2 t0, ty)) (hz : z = n) (hnn : n ≤ 1000) (hb9 : n * componentBytes ty ≤ 536870912) (he : ∀ i, i < n → q_z3 (q_et k i) = true) (hcells : cells + 1 ≤ R.cells) (hslots : slots + n ≤ R.slots) (hk : q_nk k) (hdg : decode cc pc = .ok (.newarray at9, 2))
    (kk : ∀ (b : Nat) (H1 : Heap) (K1 : Nat → Nat) (L1 : List Nat) (f01 f1 : Nat → va_E), b ∈ L1 → K1 b = k → (∀ i, q_z f1 b i = 0) → b ∉ L → (∀ a, a ∈ L → f1 a = f a) → q_Up K L K1 L1 → q_Gw A K0 L0 b0 K1 L1 f01 → q_B g K1 L1 A w f01 f1 s H1 locs → W p l e R s m args below meth c H1 locs (cells + 1) (slots + n) Q (F0 m (pc + 2) ls (.ref b :: rest))) : W p l e R s m args below meth c H locs cells slots Q (F0 m pc ls (.int (q_i z) :: rest)) := by
  subst hz
  have hr : q_R (n : Int) := ⟨by omega, by omega⟩
  refine va_newa (a0 := (n, .inl (fun _ => (0 : Int32)))) cx.1 cx.2.1 (cx.2.2.2.2 _ harr) hty hB.1.2.2.1 hB.1.1 hB.1.2.1 hB.1.2.2.2 hA (fun cA => ?_) (fun h => ?_) (by rw [q_nat hr]; rfl) hb9 hcells hslots hdg (fun q cA H1 hK1 hP1 hD1 hS1 => ?_)
  · rw [hd0]; rfl
  · rw [q_0, q_lt hr ⟨by decide, by decide⟩] at h
    omega
  · have e : cA = g.2 t0 := by
      have h1 := hK1.2 (q_tys g).length (cA, ty) (by simp)
      have h2 := hB.1.2.2.1.2 t0 _ htt
      exact q_RAu h1.2 h2.2
    subst e
    obtain ⟨K1, L1, f01, f1, h1, h2, h3, h4, h5, h6, h7, h8⟩ := q_grow (k := k) hG hB hP1 hD1 hS1 hk (by
      unfold q_Sh
      rw [if_neg h20]
      refine ⟨.inl (fun _ => (0 : Int32)), by rw [ht0, hn], by rw [ht0]; rcases ht3 with q | q | q <;> rw [q] <;> exact ⟨_, rfl⟩, fun i hi => ?_⟩
      have h := he i (by rw [← hn]; exact hi)
      unfold q_z3 at h
      simp only [Bool.and_eq_true, beq_iff_eq, decide_eq_true_eq] at h
      obtain ⟨⟨a1, a2⟩, a3⟩ := h
      generalize q_et k i = t at a1 a2 a3
      obtain ⟨x1, x2, x3⟩ := t
      subst a1
      exact ⟨0, rfl, a2, a3⟩)
    exact kk q H1 K1 L1 f01 f1 h1 h2 (fun i => by show q_iv (q_vE (f1 q) i) = 0; rw [h3]; rfl) h4 h5 h6 h7 h8
theorem q_ngB {K1 : Nat → Nat} {L1 : List Nat} {f01 f1 : Nat → va_E} {H1 : Heap} {locs1 : List Loc} (hG : q_Gw A K0 L0 b0 K L f0) (he : ∀ a, a ∈ L → f01 a = f0 a) (e1 : K1 = K) (e2 : L1 = L) (hB : q_B g K1 L1 A w f01 f1 s H1 locs1) : q_B g K L A w f0 f1 s H1 locs1 := by
  subst e1
  subst e2
  exact ⟨hB.1, hB.2.1, fun a ha i hi => (hB.2.2 a ha i hi).trans (congrArg (fun e => q_vE e i) (he a ha))⟩
end QG1
