/-! methods that throw; their callers; those who catch -/
def q_xn : List String := ["java/lang/RuntimeException", "java/lang/Exception"]
def q_cd : Cond → Bool
  | .castable .. => true
  | .declares _ => true
  | _ => false
def q_xa (ic : Nat) (X : String) : List Cond := vx_atS RX11 ic X q_xn
def q_xb (ic : Nat) (X : String) : List Cond := (q_xa ic X).filter (fun w => !goodWord w)
def q_xw : List Cond := q_xb 72 "java/lang/IllegalStateException" ++ (q_xb 87 "java/lang/IllegalArgumentException" ++ q_xb 145 "java/lang/IndexOutOfBoundsException")
theorem q_xw_cd : q_xw.all q_cd = true := by decide +kernel
def q_xs : List (Nat × String) := [(70, "the buffer is full"), (85, "no such length"), (92, "the text has an error"), (105, "the script has an error"), (120, "no such setting"), (132, "no such number of a node"), (143, "no such link"), (146, "no such number of a link"), (158, "no such number of a message"), (205, "ticks are out of range"), (273, "the time would be too late"), (282, "the same node, or within is out of range"), (288, "a node is out, or too many messages"), (306, "the charge is out of range"), (311, "the misses are out of range"), (320, "no such byte"), (336, "nothing was saved"), (338, "no such node"), (343, "no such message"), (348, "the year has no such day"), (350, "both nodes are the same")]
def q_xnc : List (String × String) := [("java/lang/IllegalArgumentException", "java/lang/IndexOutOfBoundsException"), ("java/lang/IllegalStateException", "java/lang/IndexOutOfBoundsException"), ("java/lang/IllegalStateException", "java/lang/IllegalArgumentException")]
/-! the texts that the class knows words by -/
def q_ss : List (String × Nat × String) := [(RX9, 46, "year"), (RX9, 55, "costs"), (RX9, 60, "miss"), (RX9, 65, "node"), (RX9, 70, "link"), (RX9, 117, "born"), (RX9, 122, "shift"), (RX9, 124, "energy"), (RX7, 52, "tick"), (RX7, 58, "send"), (RX7, 60, "call"), (RX7, 62, "shift"), (RX7, 64, "watch"), (RX7, 66, "charge"), (RX7, 68, "repeat")]
def q_sb : List (List Int32) := [[121, 101, 97, 114], [99, 111, 115, 116, 115], [109, 105, 115, 115], [110, 111, 100, 101], [108, 105, 110, 107], [98, 111, 114, 110], [115, 104, 105, 102, 116], [101, 110, 101, 114, 103, 121], [116, 105, 99, 107], [115, 101, 110, 100], [99, 97, 108, 108], [115, 104, 105, 102, 116], [119, 97, 116, 99, 104], [99, 104, 97, 114, 103, 101], [114, 101, 112, 101, 97, 116]]
def q_sO (bs : List Int32) (a v : Nat) (A : Nat → Prop) (U : State) (H : Heap) : Prop := va_O "java/lang/String" a A U H ∧ va_OF "java/lang/String" "coder" "B" (.int (q_i 0)) a A U H ∧ va_OF "java/lang/String" "value" "[B" (.ref v) a A U H ∧ va_T .byte v bs.length (fun j => .int (bs.getD j 0)) A U H
def q_St (ad : Nat → Nat) (A : Nat → Prop) (U : State) : Prop := va_Z "java/lang/String" "COMPACT_STRINGS" "Z" (.int (q_i 1)) A U U.heap ∧ va_Zq "jdk/internal/util/Preconditions" "SIOOBE_FORMATTER" "Ljava/util/function/BiFunction;" A U U.heap ∧ ∀ i : Nat, i < 15 → vk_R (q_ss.getD i ("", 0, "")).1 (q_ss.getD i ("", 0, "")).2.1 (q_ss.getD i ("", 0, "")).2.2 (ad i) U ∧ q_sO (q_sb.getD i []) (ad i) (ad (100 + i)) A U U.heap
theorem q_St.to {ad : Nat → Nat} {A : Nat → Prop} {s U : State} (hW : s.WarmedH U.vm) (hk : ∀ a : Nat, a < s.heap.size → ¬ A a → U.heap[a]? = s.heap[a]?) (h : q_St ad A s) : q_St ad A U := by
  obtain ⟨h1, h2, h3⟩ := h
  refine ⟨va_Z.moved hW.alike (h1.kept hk), va_Zq.moved hW.alike (h2.kept hk), fun i hi => ?_⟩
  obtain ⟨a0, a1, a2, a3, a4⟩ := h3 i hi
  exact ⟨a0.warm hW, va_O.moved hW.alike (a1.kept hk), va_OF.moved hW.alike (a2.kept hk), va_OF.moved hW.alike (a3.kept hk), va_T.moved hW.alike (a4.kept hk)⟩
theorem q_St.narrow {ad : Nat → Nat} {A B : Nat → Prop} {U : State} (h : q_St ad A U) (hAB : ∀ q, B q → A q) : q_St ad B U := by
  obtain ⟨h1, h2, h3⟩ := h
  refine ⟨h1.narrow hAB, h2.narrow hAB, fun i hi => ?_⟩
  obtain ⟨a0, a1, a2, a3, a4⟩ := h3 i hi
  exact ⟨a0, a1.narrow hAB, a2.narrow hAB, a3.narrow hAB, a4.narrow hAB⟩
def q_sn (i : Nat) : Int := ((q_sb.getD i []).length : Int)
def q_sc9 (i : Nat) (k : Int) : Int := ((q_sb.getD i []).getD k.toNat 0 &&& 255).toInt
/-- what a throw wants of the world; the texts -/
def q_X (ad : Nat → Nat) (A : Nat → Prop) (U : State) : Prop := vx_Zq Bundle.tN "UNASSIGNED_STACK" Bundle.steD A U U.heap ∧ vx_Zq Bundle.tN "SUPPRESSED_SENTINEL" Bundle.listD A U U.heap ∧ (∀ t ∈ q_xs, ∃ a, vk_R RX11 t.1 t.2 a U) ∧ (∀ w ∈ q_xw, va_Nw w U) ∧ (∀ t ∈ q_xnc, va_Nc t.1 t.2 U) ∧ q_St ad A U
theorem q_cd_warm {w : Cond} {s U : State} (hw : q_cd w = true) (hW : s.WarmedH U.vm) (h : va_Nw w s) : va_Nw w U := by
  cases w <;> first | exact va_Nw.warmC hW h | exact va_Nw.warmD hW h | (simp [q_cd] at hw)
theorem q_X.to {ad : Nat → Nat} {A : Nat → Prop} {s U : State} (hW : s.WarmedH U.vm) (hk : ∀ a : Nat, a < s.heap.size → ¬ A a → U.heap[a]? = s.heap[a]?) (h : q_X ad A s) : q_X ad A U := by
  obtain ⟨h1, h2, h3, h4, h5, h6⟩ := h
  refine ⟨vx_Zq.moved hW.alike (h1.kept hk), vx_Zq.moved hW.alike (h2.kept hk), fun t ht => ?_, fun w hw => q_cd_warm (List.all_eq_true.mp q_xw_cd w hw) hW (h4 w hw), fun t ht => (h5 t ht).moved hW.alike, h6.to hW hk⟩
  obtain ⟨a, ha⟩ := h3 t ht
  exact ⟨a, ha.warm hW⟩
theorem q_X.narrow {ad : Nat → Nat} {A B : Nat → Prop} {U : State} (h : q_X ad A U) (hAB : ∀ q, B q → A q) : q_X ad B U := ⟨h.1.narrow hAB, h.2.1.narrow hAB, h.2.2.1, h.2.2.2.1, h.2.2.2.2.1, h.2.2.2.2.2.narrow hAB⟩
def q_XC (g : q_G) (K : Nat → Nat) (L : List Nat) (w : q_Ws) (f : Nat → va_E) (Ex : String → (Nat → va_E) → Prop) : String → State → State → Prop := fun E st t => (∃ f1 : Nat → va_E, Ex E f1 ∧ q_Ty g K L f1 ∧ q_Fr w K L f f1 ∧ q_U g L f1 t) ∧ va_F (fun q => q ∈ L) st t
def q_Xt (l : Launch) (g : q_G) (ad : Nat → Nat) (K : Nat → Nat) (L : List Nat) (y : MethodName) (cc : ByteArray) (mL : Nat) (ret : Option FieldType) (fr lo mc ms : Nat) (As : List Value) (f : Nat → va_E) (w : q_Ws) (Po : Option Value → (Nat → va_E) → Prop) (Ex : String → (Nat → va_E) → Prop) : Prop :=
  vx_Met l y (.code y cc mL ret :: q_al) { frames := fr, cells := mc, slots := ms, locals := lo } (va_Pc As (fun U => q_U g L f U ∧ q_X ad (fun q => q ∈ L) U)) (q_Q g K L w f Po) (q_XC g K L w f Ex) mc ms (fun q => q ∈ L)
def q_Wt (l : Launch) (g : q_G) (ad : Nat → Nat) (K : Nat → Nat) (L : List Nat) (y : MethodName) (cc : ByteArray) (mL : Nat) (ret : Option FieldType) (hh : List (Nat × Nat × Nat × Nat)) (fr lo mc ms : Nat) (As : List Value) (f : Nat → va_E) (w : q_Ws) (Po : Option Value → (Nat → va_E) → Prop) : Prop :=
  Met l y (.codeWith y cc mL ret hh :: q_al) { frames := fr, cells := mc, slots := ms, locals := lo } (va_Pc As (fun U => q_U g L f U ∧ q_X ad (fun q => q ∈ L) U)) (q_Q g K L w f Po) mc ms (fun q => q ∈ L)
theorem q_blindX {ad : Nat → Nat} {g : q_G} {L : List Nat} {f : Nat → va_E} {As : List Value} : FrameBlind (va_Pc As (fun U => q_U g L f U ∧ q_X ad (fun q => q ∈ L) U)) := fun a U gf mk h =>
  ⟨h.1, ⟨h.2.1.1, va_K.moved (u := U) (U := U.calling gf mk a) (Vm.Alike.refl U.vm) h.2.1.2⟩, q_X.to (s := U) (U := U.calling gf mk a) (State.WarmedH.refl U) (fun _ _ _ => rfl) h.2.2⟩
theorem q_xofb {l : Launch} {g : q_G} {ad : Nat → Nat} {K : Nat → Nat} {L : List Nat} {y : MethodName} {cc : ByteArray} {mL : Nat} {ret : Option FieldType} {fr lo mc ms : Nat} {As : List Value} {f : Nat → va_E} {w : q_Ws} {Po : Option Value → (Nat → va_E) → Prop} {Ex : String → (Nat → va_E) → Prop}
    (hy : plainName y.cls = true) (hN : L.Nodup) (hT : q_Ty g K L f) (hlen : (lg_sl As).length ≤ mL)
    (body : ∀ (p : Program) (e : Env) (s : State) (m : MethodId) (below : List Frame) (meth : Method) (c : Code) (ls : Array Slot), CallFix p m c cc mL s As.toArray q_al y.cls → meth.sig.returnType = ret → meth.locks = false → (∀ x ∈ c.exceptionTable.toList, False) → q_X ad (fun q => q ∈ L) s → q_B g K L (fun q => q ∈ L) w f f s s.heap [] → lv_has ls mL (lv_args 0 As) →
      W p l e { frames := fr, cells := mc, slots := ms, locals := lo } s m As.toArray below meth c s.heap [] 0 0 (vx_MQ below (q_Q g K L w f Po) (q_XC g K L w f Ex) As.toArray s mc ms (fun q => q ∈ L)) (F0 m 0 ls [])) : q_Xt l g ad K L y cc mL ret fr lo mc ms As f w Po Ex := by
  refine vx_ofW (cc := cc) (maxL := mL) (ret := ret) hy rfl ?_
  intro p e s m args below meth c s₁ B hml htab hv
  obtain ⟨rfl, ⟨hP, hK⟩, hX⟩ := hv
  have hts := atoms_spec (ws := Cond.code y cc mL ret :: q_al) B.pre
  have hl := lv_entry As (n := mL) hlen
  rw [lg_entry_eq]
  exact body p e s m below meth c _ ⟨B.exec, B.bytes, hml, findClass_of_methodNamed B.named, fun w hw => hts w (List.mem_cons_of_mem _ hw)⟩ B.returns B.notSynchronized htab hX
    ⟨⟨hP, q_nodup_D hN (fun a ha => ha), hK, va_S.rf⟩, hT, q_Fr.rf⟩ hl
theorem q_wofb {l : Launch} {g : q_G} {ad : Nat → Nat} {K : Nat → Nat} {L : List Nat} {y : MethodName} {cc : ByteArray} {mL : Nat} {ret : Option FieldType} {hh : List (Nat × Nat × Nat × Nat)} {fr lo mc ms : Nat} {As : List Value} {f : Nat → va_E} {w : q_Ws} {Po : Option Value → (Nat → va_E) → Prop}
    (hy : plainName y.cls = true) (hN : L.Nodup) (hT : q_Ty g K L f) (hlen : (lg_sl As).length ≤ mL)
    (body : ∀ (p : Program) (e : Env) (s : State) (m : MethodId) (below : List Frame) (meth : Method) (c : Code) (ls : Array Slot), CallFix p m c cc mL s As.toArray q_al y.cls → meth.sig.returnType = ret → meth.locks = false → c.exceptionTable.toList = tableOf hh → q_X ad (fun q => q ∈ L) s → q_B g K L (fun q => q ∈ L) w f f s s.heap [] → lv_has ls mL (lv_args 0 As) →
      W p l e { frames := fr, cells := mc, slots := ms, locals := lo } s m As.toArray below meth c s.heap [] 0 0 (MQ below (q_Q g K L w f Po) As.toArray s mc ms (fun q => q ∈ L)) (F0 m 0 ls [])) : q_Wt l g ad K L y cc mL ret hh fr lo mc ms As f w Po := by
  unfold q_Wt Met
  refine MetFree.of_bodyS (code := cc) (maxLocals := mL) (ret := ret) hy ?_ ?_
  · intro args s m h hn
    obtain ⟨m9, meth, c, hn9, h1, h2, h3, h4, -, h5, h6, -⟩ := Cond.codeWith_spec (atoms_spec (ws := Cond.codeWith y cc mL ret hh :: q_al) h _ List.mem_cons_self)
    cases hn.symm.trans hn9
    exact ⟨meth, c, h1, h2, h3, h4, h5, h6⟩
  · intro p e s m args below meth c s₁ B hml hv _
    have hh0 : s₁.heap = s.heap := by rw [B.state]; rfl
    obtain ⟨rfl, ⟨hP, hK⟩, hX⟩ := hv
    have hts := atoms_spec (ws := Cond.codeWith y cc mL ret hh :: q_al) B.pre
    have htab := vx_table (x := y) B (hts _ List.mem_cons_self)
    have hl := lv_entry As (n := mL) hlen
    have k := body p e s m below meth c _ ⟨B.exec, B.bytes, hml, findClass_of_methodNamed B.named, fun w hw => hts w (List.mem_cons_of_mem _ hw)⟩ B.returns B.notSynchronized htab hX
      ⟨⟨hP, q_nodup_D hN (fun a ha => ha), hK, va_S.rf⟩, hT, q_Fr.rf⟩ hl
    rw [← lg_entry_eq] at k
    obtain ⟨t, a1, o, b1, b2, b3⟩ := k s₁ hh0 (Stand.of_body B)
    exact ⟨t, o, a1, b1, b2, ⟨b3.1, b3.2⟩⟩
section QX
variable {p : Program} {l : Launch} {e : Env} {R : Room} {s : State} {m : MethodId} {args : Array Value} {below : List Frame} {meth : Method} {c : Code} {H : Heap} {locs : List Loc} {cells slots : Nat} {Q : State → Prop}
variable {cc : ByteArray} {pc nL : Nat} {ls : Array Slot} {rest : List Value} {own : String}
variable {ad : Nat → Nat} {g : q_G} {K : Nat → Nat} {L : List Nat} {A : Nat → Prop} {w : q_Ws} {f0 f : Nat → va_E} {Po : Option Value → (Nat → va_E) → Prop} {Ex Ex1 : String → (Nat → va_E) → Prop}
/-- the end by an exception E, seen from the state t -/
theorem q_xend {E : String} (hB : q_B g K L (fun q => q ∈ L) w f0 f s H locs) (hp : Ex E f) {t : State} (hvm : s.vm.Alike t.vm) (hz : H.size ≤ t.heap.size) (hk : ∀ q : Nat, q < H.size → t.heap[q]? = H[q]?) : q_XC g K L w f0 Ex E s t := by
  obtain ⟨⟨hP, hD, hK, hS⟩, hT, hF⟩ := hB
  refine ⟨⟨f, hp, hT, hF, hP.kept (fun k q hq => hk q.1 (hP k q hq).lt), va_K.moved hvm hK⟩, Nat.le_trans hS.1 hz, fun q h1 h2 => ?_⟩
  rw [hk q (Nat.lt_of_lt_of_le h1 hS.1)]
  exact hS.2.1 q h1 h2
theorem q_throw {cls text : String} {ik is ic mc ms : Nat} (hfl : l.stackTraces = false) (cx : CallFix p m c cc nL s args q_al RX11) (hlk : meth.locks = false) (htab : ∀ x ∈ c.exceptionTable.toList, False) (hX : q_X ad (fun q => q ∈ L) s) (hB : q_B g K L (fun q => q ∈ L) w f0 f s H locs) (hls : ls.size = nL)
    (hcls : Bundle.fit cls = true) (hk : Cond.classLink RX11 ik cls ∈ q_al) (hini : Cond.initialized cls ∈ q_al) (hstr : (is, text) ∈ q_xs) (hat : ∀ w ∈ (q_xa ic cls).filter goodWord, w ∈ q_al) (hat2 : ∀ w ∈ q_xb ic cls, w ∈ q_xw) (hot : (Cond.classLink RX11 ik cls :: Cond.initialized cls :: q_xa ic cls).all vx_ot = true)
    (d0 : decode cc pc = .ok (.new ik, 3)) (d3 : decode cc (pc + 3) = .ok (.dup, 1)) (d4 : (decode cc (pc + 4) = .ok (.ldc is, 2) ∧ decode cc (pc + 6) = .ok (.invokespecial ic, 3) ∧ decode cc (pc + 9) = .ok (.athrow, 1)) ∨ (decode cc (pc + 4) = .ok (.ldc_w is, 3) ∧ decode cc (pc + 7) = .ok (.invokespecial ic, 3) ∧ decode cc (pc + 10) = .ok (.athrow, 1)))
    (hR : 5 < R.frames ∧ (rest.map fun v => v.category).sum + 82 ≤ R.locals ∧ cells + 1 ≤ R.cells ∧ slots + 6 ≤ R.slots) (hm : cells + 1 ≤ mc ∧ slots + 6 ≤ ms) (hp : Ex cls f) :
    W p l e R s m args below meth c H locs cells slots (vx_MQ below (q_Q g K L w f0 Po) (q_XC g K L w f0 Ex) args s mc ms (fun q => q ∈ L)) (F0 m pc ls rest) := by
  obtain ⟨sa, hsa⟩ := hX.2.2.1 _ hstr
  have hts := cx.2.2.2.2
  have hat9 : ∀ w ∈ vx_atS RX11 ic cls q_xn, w.before args s = true := vx_hat (B := q_xw) (fun w hw => hts w (hat w hw)) hat2 (fun w hw => va_Nw.use (by
    have := List.all_eq_true.mp q_xw_cd w hw
    cases w <;> first | rfl | (simp [q_cd] at this)) (hX.2.2.2.1 w hw))
  have hS := hB.1.2.2.2
  have hx : ∀ t : State, s.vm.Alike t.vm → H.size ≤ t.heap.size → (∀ q : Nat, q < H.size → t.heap[q]? = H[q]?) → q_XC g K L w f0 Ex cls s t := fun t h1 h2 h3 => q_xend hB hp h1 h2 h3
  have hn : ∀ n ∈ q_xn, Bundle.fit n = true := by decide +kernel
  rcases d4 with ⟨d4, d6, d9⟩ | ⟨d4, d7, d10⟩
  · exact vx_throwS (names := q_xn) cx.1 cx.2.1 hfl cx.2.2.2.1 hcls hn (hts _ hk) (hts _ hini) hsa hat9 (fun w hw => List.all_eq_true.mp hot w hw) hX.1 hX.2.1 hS (hls.trans cx.2.2.1.symm) d0 d3 d4 d6 d9 (fun x hx => (htab x hx).elim) hR.1 hR.2.1 hR.2.2.1 hR.2.2.2 hlk hx hS.2.2 hm.1 hm.2
  · exact vx_throwSW (names := q_xn) cx.1 cx.2.1 hfl cx.2.2.2.1 hcls hn (hts _ hk) (hts _ hini) hsa hat9 (fun w hw => List.all_eq_true.mp hot w hw) hX.1 hX.2.1 hS (hls.trans cx.2.2.1.symm) d0 d3 d4 d7 d10 (fun x hx => (htab x hx).elim) hR.1 hR.2.1 hR.2.2.1 hR.2.2.2 hlk hx hS.2.2 hm.1 hm.2
theorem q_xafter {w' : q_Ws} {E : String} {st t : State} {locs1 : List Loc} (hB : q_B g K L A w f0 f s H locs) (hLA : ∀ q, q ∈ L → A q) (hsub : q_wsub w' w = true) (hN : L.Nodup) (h0 : st.heap = H) (hl : ∀ q ∈ locs1, A q.base) (hq : q_XC g K L w' f Ex E st t) :
    ∃ f1, Ex E f1 ∧ q_Fr w' K L f f1 ∧ q_B g K L A w f0 f1 s t.heap locs1 := by
  obtain ⟨⟨f1, hp, hT1, hF1, hP1, hK1⟩, hz, hk⟩ := hq
  obtain ⟨⟨hP, hD, hK, hS⟩, hT, hF⟩ := hB
  rw [h0] at hz hk
  refine ⟨f1, hp, hF1, ⟨hP1, q_nodup_D hN hLA, hK, Nat.le_trans hS.1 hz, fun q h1 h2 => ?_, hl⟩, hT1, hF.tr (hF1.mono hsub)⟩
  rw [hk q (Nat.lt_of_lt_of_le h1 hS.1) (fun h => h2 (hLA q h))]
  exact hS.2.1 q h1 h2
/-- a call of a method that returns or throws -/
theorem q_cXV {y : MethodName} {bytes : ByteArray} {maxL fr lo mc ms n index : Nat} {ret : Option FieldType} {C : String} {b k : Nat} {T : u_T} {N : Nat} {As st0 : List Value} {w' : q_Ws}
    (cx : CallFix p m c cc nL s args q_al own) (hX : q_X ad (fun q => q ∈ L) s) (hB : q_B g K L A w f0 f s H locs) (hLA : ∀ q, q ∈ L → A q) (hXA : ∀ q, A q → q < s.heap.size → q ∈ L) (hN : L.Nodup) (hb : b ∈ L) (hk : K b = k) (h20 : k < 100) (hcl : vwCl[q_ck k]? = some (C, T, N))
    (hM : q_Xt l g ad K L y bytes maxL ret fr lo mc ms (.ref b :: As) f w' Po Ex) (hwd : ∀ w ∈ wsV own index C y (.code y bytes maxL ret :: q_al), w ∈ q_al)
    (hd : y.cls = C ∧ y.cls ≠ "java/lang/invoke/MethodHandle" ∧ y.cls ≠ "java/lang/invoke/VarHandle" ∧ (parseMethodDescriptor y.desc).map (fun d => d.parameters.length) = some n)
    (hR : (fr + 1 ≤ R.frames ∧ 8 + (maxL + 11) + lo ≤ R.locals) ∧ cells + mc ≤ R.cells ∧ slots + ms ≤ R.slots) (hsub : q_wsub w' w = true) (hn : As.length = n) (hls : ls.size = nL) (hst : st0 = As.reverse ++ .ref b :: rest) (hcat : (rest.map fun v => v.category).sum ≤ 8) (hdg : decode cc pc = .ok (.invokevirtual index, 3))
    (kx : ∀ (E : String) (ce : Cell) (q9 : Addr) (H1 : Heap) (locs1 : List Loc) (f1 : Nat → va_E), Ex E f1 → q_Fr w' K L f f1 → q_B g K L A w f0 f1 s H1 locs1 → H1[q9]? = some ce → ce.vm = .none → s.vm.findClass E = some ce.cls → vx_W p l e R s m args below meth c H1 locs1 (cells + mc) (slots + ms) Q (F0 m pc ls rest) q9)
    (kk : ∀ (v : Option Value) (H1 : Heap) (locs1 : List Loc) (f1 : Nat → va_E), Po v f1 → q_Fr w' K L f f1 → q_B g K L A w f0 f1 s H1 locs1 → W p l e R s m args below meth c H1 locs1 (cells + mc) (slots + ms) Q (F0 m (pc + 3) ls (v.toList ++ rest))) : W p l e R s m args below meth c H locs cells slots Q (F0 m pc ls st0) := by
  obtain ⟨fs, h1, -, -⟩ := q_ty_obj hB.2.1 hb hk h20
  obtain ⟨q0, hq⟩ := q_plget (f := f) hb
  rw [h1] at hq
  have hS := hB.1.2.2.2
  have hr := vx_runV (e := e) (below := below) (meth := meth) (As := As) (rest := rest) (R := R) (cells := cells) (slots := slots) (locs := locs) (g := F0 m pc ls st0) cx hM (cwV n cx.2.2.2.2 (q_goodA hwd) rfl rfl rfl hd hR.1) ⟨q_blindX, va_recv hB.1.2.2.1 hB.1.1 hcl hq, fun U hU hW => ⟨rfl, ⟨by rw [hU]; exact hB.1.1, va_K.moved hW.alike hB.1.2.2.1⟩, hX.to hW (fun a h1 h2 => by rw [hU]; exact hS.2.1 a h1 (fun h => h2 (hXA a h h1)))⟩⟩ rfl hn hls hst (lv_room hcat) hdg ⟨hR.2.1, hR.2.2⟩
  intro T9 hT9 X9
  rcases hr T9 hT9 X9 with ⟨v, st₀, t, T', L', h0, X', hL, e1, e2, hq9, st⟩ | ⟨q9, st₀, t, T', L', E, ce, h0, X', hL, e1, e2, hxc, hce, hcv, hcl9, st⟩
  · obtain ⟨f1, p1, p2, p3⟩ := q_after hB hLA hsub hN h0 (by rw [← e2]; exact X'.warmed.alike) (locs1 := locs ++ L') (fun q hq => by
      rcases List.mem_append.mp hq with h | h
      · exact hS.2.2 q h
      · exact hLA _ (hL q h)) hq9
    obtain ⟨t2, a1, b1⟩ := kk v t.heap (locs ++ L') f1 p1 p2 p3 T' e1 X'
    exact ⟨t2, st t2 a1, b1⟩
  · obtain ⟨f1, p1, p2, p3⟩ := q_xafter hB hLA hsub hN h0 (locs1 := locs ++ L') (fun q hq => by
      rcases List.mem_append.mp hq with h | h
      · exact hS.2.2 q h
      · exact hLA _ (hL q h)) hxc
    obtain ⟨t2, a1, b1⟩ := kx E ce q9 t.heap (locs ++ L') f1 p1 p2 p3 hce hcv hcl9 T' e1 X'
    exact ⟨t2, st.trans a1, b1⟩
/-- a thrown exception goes on to the caller -/
theorem q_xout {E : String} {ce : Cell} {q9 : Addr} {mc ms : Nat} (hlk : meth.locks = false) (htab : ∀ x ∈ c.exceptionTable.toList, False) (hB : q_B g K L (fun q => q ∈ L) w f0 f s H locs) (hcell : H[q9]? = some ce) (hv : ce.vm = .none) (hcl : s.vm.findClass E = some ce.cls) (hm : cells ≤ mc ∧ slots ≤ ms) (hp : Ex E f) :
    vx_W p l e R s m args below meth c H locs cells slots (vx_MQ below (q_Q g K L w f0 Po) (q_XC g K L w f0 Ex) args s mc ms (fun q => q ∈ L)) (F0 m pc ls rest) q9 :=
  vx_out (fun x hx => (htab x hx).elim) hlk hcell hv hcl (fun t ht hvm => q_xend hB hp hvm (by rw [ht]; exact Nat.le_refl _) (fun q _ => by rw [ht])) hB.1.2.2.2.2.2 hm.1 hm.2
/-- a static call of one who catches -/
theorem q_cWS {y : MethodName} {bytes : ByteArray} {maxL fr lo mc ms n index : Nat} {ret : Option FieldType} {hh : List (Nat × Nat × Nat × Nat)} {As st0 : List Value} {w' : q_Ws}
    (cx : CallFix p m c cc nL s args q_al own) (hX : q_X ad (fun q => q ∈ L) s) (hB : q_B g K L A w f0 f s H locs) (hLA : ∀ q, q ∈ L → A q) (hXA : ∀ q, A q → q < s.heap.size → q ∈ L) (hN : L.Nodup)
    (hM : q_Wt l g ad K L y bytes maxL ret hh fr lo mc ms As f w' Po) (hwd : ∀ w ∈ va_wsS own index y (.codeWith y bytes maxL ret hh :: q_al), w ∈ q_al)
    (hd : y.cls ≠ "java/lang/invoke/MethodHandle" ∧ y.cls ≠ "java/lang/invoke/VarHandle" ∧ (parseMethodDescriptor y.desc).map (fun d => d.parameters.length) = some n)
    (hR : (fr + 1 ≤ R.frames ∧ 8 + (maxL + 11) + lo ≤ R.locals) ∧ cells + mc ≤ R.cells ∧ slots + ms ≤ R.slots) (hsub : q_wsub w' w = true) (hn : As.length = n) (hls : ls.size = nL) (hst : st0 = As.reverse ++ rest) (hcat : (rest.map fun v => v.category).sum ≤ 8) (hdg : decode cc pc = .ok (.invokestatic index, 3))
    (kk : ∀ (v : Option Value) (H1 : Heap) (locs1 : List Loc) (f1 : Nat → va_E), Po v f1 → q_Fr w' K L f f1 → q_B g K L A w f0 f1 s H1 locs1 → W p l e R s m args below meth c H1 locs1 (cells + mc) (slots + ms) Q (F0 m (pc + 3) ls (v.toList ++ rest))) : W p l e R s m args below meth c H locs cells slots Q (F0 m pc ls st0) := by
  have hS := hB.1.2.2.2
  have hr := vx_runSW (e := e) (below := below) (meth := meth) (As := As) (rest := rest) (R := R) (cells := cells) (slots := slots) (locs := locs) (g := F0 m pc ls st0) cx hM (vx_cwSW n cx.2.2.2.2 (q_goodA hwd) rfl rfl rfl hd hR.1) ⟨q_blindX, fun U hU hW => ⟨rfl, ⟨by rw [hU]; exact hB.1.1, va_K.moved hW.alike hB.1.2.2.1⟩, hX.to hW (fun a h1 h2 => by rw [hU]; exact hS.2.1 a h1 (fun h => h2 (hXA a h h1)))⟩⟩ rfl hn hls hst (lv_room hcat) hdg ⟨hR.2.1, hR.2.2⟩
  intro T9 hT9 X9
  obtain ⟨v, st₀, t, T', L', h0, X', hL, e1, e2, hq9, st⟩ := hr T9 hT9 X9
  obtain ⟨f1, p1, p2, p3⟩ := q_after hB hLA hsub hN h0 (by rw [← e2]; exact X'.warmed.alike) (locs1 := locs ++ L') (fun q hq => by
      rcases List.mem_append.mp hq with h | h
      · exact hS.2.2 q h
      · exact hLA _ (hL q h)) hq9
  obtain ⟨t2, a1, b1⟩ := kk v t.heap (locs ++ L') f1 p1 p2 p3 T' e1 X'
  exact ⟨t2, st t2 a1, b1⟩
end QX
section QXS
variable {p : Program} {l : Launch} {e : Env} {R : Room} {s : State} {m : MethodId} {args : Array Value} {below : List Frame} {meth : Method} {c : Code} {H : Heap} {locs : List Loc} {cells slots : Nat} {Q : State → Prop}
variable {cc : ByteArray} {pc nL : Nat} {ls : Array Slot} {rest : List Value} {own : String}
variable {ad : Nat → Nat} {g : q_G} {K : Nat → Nat} {L : List Nat} {A : Nat → Prop} {w : q_Ws} {f0 f : Nat → va_E} {Po : Option Value → (Nat → va_E) → Prop} {Ex Ex1 : String → (Nat → va_E) → Prop}
/-- a call of a method that returns or throws -/
theorem q_cXS {y : MethodName} {bytes : ByteArray} {maxL fr lo mc ms n index : Nat} {ret : Option FieldType} {As st0 : List Value} {w' : q_Ws}
    (cx : CallFix p m c cc nL s args q_al own) (hX : q_X ad (fun q => q ∈ L) s) (hB : q_B g K L A w f0 f s H locs) (hLA : ∀ q, q ∈ L → A q) (hXA : ∀ q, A q → q < s.heap.size → q ∈ L) (hN : L.Nodup)
    (hM : q_Xt l g ad K L y bytes maxL ret fr lo mc ms As f w' Po Ex) (hwd : ∀ w ∈ va_wsS own index y (.code y bytes maxL ret :: q_al), w ∈ q_al)
    (hd : y.cls ≠ "java/lang/invoke/MethodHandle" ∧ y.cls ≠ "java/lang/invoke/VarHandle" ∧ (parseMethodDescriptor y.desc).map (fun d => d.parameters.length) = some n)
    (hR : (fr + 1 ≤ R.frames ∧ 8 + (maxL + 11) + lo ≤ R.locals) ∧ cells + mc ≤ R.cells ∧ slots + ms ≤ R.slots) (hsub : q_wsub w' w = true) (hn : As.length = n) (hls : ls.size = nL) (hst : st0 = As.reverse ++ rest) (hcat : (rest.map fun v => v.category).sum ≤ 8) (hdg : decode cc pc = .ok (.invokestatic index, 3))
    (kx : ∀ (E : String) (ce : Cell) (q9 : Addr) (H1 : Heap) (locs1 : List Loc) (f1 : Nat → va_E), Ex E f1 → q_Fr w' K L f f1 → q_B g K L A w f0 f1 s H1 locs1 → H1[q9]? = some ce → ce.vm = .none → s.vm.findClass E = some ce.cls → vx_W p l e R s m args below meth c H1 locs1 (cells + mc) (slots + ms) Q (F0 m pc ls rest) q9)
    (kk : ∀ (v : Option Value) (H1 : Heap) (locs1 : List Loc) (f1 : Nat → va_E), Po v f1 → q_Fr w' K L f f1 → q_B g K L A w f0 f1 s H1 locs1 → W p l e R s m args below meth c H1 locs1 (cells + mc) (slots + ms) Q (F0 m (pc + 3) ls (v.toList ++ rest))) : W p l e R s m args below meth c H locs cells slots Q (F0 m pc ls st0) := by
  have hS := hB.1.2.2.2
  have hr := vx_runS (e := e) (below := below) (meth := meth) (As := As) (rest := rest) (R := R) (cells := cells) (slots := slots) (locs := locs) (g := F0 m pc ls st0) cx hM (va_cwS n cx.2.2.2.2 (q_goodA hwd) rfl rfl rfl hd hR.1) ⟨q_blindX, fun U hU hW => ⟨rfl, ⟨by rw [hU]; exact hB.1.1, va_K.moved hW.alike hB.1.2.2.1⟩, hX.to hW (fun a h1 h2 => by rw [hU]; exact hS.2.1 a h1 (fun h => h2 (hXA a h h1)))⟩⟩ rfl hn hls hst (lv_room hcat) hdg ⟨hR.2.1, hR.2.2⟩
  intro T9 hT9 X9
  rcases hr T9 hT9 X9 with ⟨v, st₀, t, T', L', h0, X', hL, e1, e2, hq9, st⟩ | ⟨q9, st₀, t, T', L', E, ce, h0, X', hL, e1, e2, hxc, hce, hcv, hcl9, st⟩
  · obtain ⟨f1, p1, p2, p3⟩ := q_after hB hLA hsub hN h0 (by rw [← e2]; exact X'.warmed.alike) (locs1 := locs ++ L') (fun q hq => by
      rcases List.mem_append.mp hq with h | h
      · exact hS.2.2 q h
      · exact hLA _ (hL q h)) hq9
    obtain ⟨t2, a1, b1⟩ := kk v t.heap (locs ++ L') f1 p1 p2 p3 T' e1 X'
    exact ⟨t2, st t2 a1, b1⟩
  · obtain ⟨f1, p1, p2, p3⟩ := q_xafter hB hLA hsub hN h0 (locs1 := locs ++ L') (fun q hq => by
      rcases List.mem_append.mp hq with h | h
      · exact hS.2.2 q h
      · exact hLA _ (hL q h)) hxc
    obtain ⟨t2, a1, b1⟩ := kx E ce q9 t.heap (locs ++ L') f1 p1 p2 p3 hce hcv hcl9 T' e1 X'
    exact ⟨t2, st.trans a1, b1⟩
/-- a call of a method that returns or throws -/
theorem q_cXT {y : MethodName} {bytes : ByteArray} {maxL fr lo mc ms n index : Nat} {ret : Option FieldType} {C : String} {b : Nat} {As st0 : List Value} {w' : q_Ws}
    (cx : CallFix p m c cc nL s args q_al own) (hX : q_X ad (fun q => q ∈ L) s) (hB : q_B g K L A w f0 f s H locs) (hLA : ∀ q, q ∈ L → A q) (hXA : ∀ q, A q → q < s.heap.size → q ∈ L) (hN : L.Nodup) (hrec : ∃ cell : Cell, H[b]? = some cell ∧ cell.vm.isStatics = false ∧ s.vm.findClass C = some cell.cls)
    (hM : q_Xt l g ad K L y bytes maxL ret fr lo mc ms (.ref b :: As) f w' Po Ex) (hwd : ∀ w ∈ wsV own index C y (.code y bytes maxL ret :: q_al), w ∈ q_al)
    (hd : y.cls = C ∧ y.cls ≠ "java/lang/invoke/MethodHandle" ∧ y.cls ≠ "java/lang/invoke/VarHandle" ∧ (parseMethodDescriptor y.desc).map (fun d => d.parameters.length) = some n)
    (hR : (fr + 1 ≤ R.frames ∧ 8 + (maxL + 11) + lo ≤ R.locals) ∧ cells + mc ≤ R.cells ∧ slots + ms ≤ R.slots) (hsub : q_wsub w' w = true) (hn : As.length = n) (hls : ls.size = nL) (hst : st0 = As.reverse ++ .ref b :: rest) (hcat : (rest.map fun v => v.category).sum ≤ 8) (hdg : decode cc pc = .ok (.invokevirtual index, 3))
    (kx : ∀ (E : String) (ce : Cell) (q9 : Addr) (H1 : Heap) (locs1 : List Loc) (f1 : Nat → va_E), Ex E f1 → q_Fr w' K L f f1 → q_B g K L A w f0 f1 s H1 locs1 → H1[q9]? = some ce → ce.vm = .none → s.vm.findClass E = some ce.cls → vx_W p l e R s m args below meth c H1 locs1 (cells + mc) (slots + ms) Q (F0 m pc ls rest) q9)
    (kk : ∀ (v : Option Value) (H1 : Heap) (locs1 : List Loc) (f1 : Nat → va_E), Po v f1 → q_Fr w' K L f f1 → q_B g K L A w f0 f1 s H1 locs1 → W p l e R s m args below meth c H1 locs1 (cells + mc) (slots + ms) Q (F0 m (pc + 3) ls (v.toList ++ rest))) : W p l e R s m args below meth c H locs cells slots Q (F0 m pc ls st0) := by
  have hS := hB.1.2.2.2
  have hr := vx_runV (e := e) (below := below) (meth := meth) (As := As) (rest := rest) (R := R) (cells := cells) (slots := slots) (locs := locs) (g := F0 m pc ls st0) cx hM (cwV n cx.2.2.2.2 (q_goodA hwd) rfl rfl rfl hd hR.1) ⟨q_blindX, hrec, fun U hU hW => ⟨rfl, ⟨by rw [hU]; exact hB.1.1, va_K.moved hW.alike hB.1.2.2.1⟩, hX.to hW (fun a h1 h2 => by rw [hU]; exact hS.2.1 a h1 (fun h => h2 (hXA a h h1)))⟩⟩ rfl hn hls hst (lv_room hcat) hdg ⟨hR.2.1, hR.2.2⟩
  intro T9 hT9 X9
  rcases hr T9 hT9 X9 with ⟨v, st₀, t, T', L', h0, X', hL, e1, e2, hq9, st⟩ | ⟨q9, st₀, t, T', L', E, ce, h0, X', hL, e1, e2, hxc, hce, hcv, hcl9, st⟩
  · obtain ⟨f1, p1, p2, p3⟩ := q_after hB hLA hsub hN h0 (by rw [← e2]; exact X'.warmed.alike) (locs1 := locs ++ L') (fun q hq => by
      rcases List.mem_append.mp hq with h | h
      · exact hS.2.2 q h
      · exact hLA _ (hL q h)) hq9
    obtain ⟨t2, a1, b1⟩ := kk v t.heap (locs ++ L') f1 p1 p2 p3 T' e1 X'
    exact ⟨t2, st t2 a1, b1⟩
  · obtain ⟨f1, p1, p2, p3⟩ := q_xafter hB hLA hsub hN h0 (locs1 := locs ++ L') (fun q hq => by
      rcases List.mem_append.mp hq with h | h
      · exact hS.2.2 q h
      · exact hLA _ (hL q h)) hxc
    obtain ⟨t2, a1, b1⟩ := kx E ce q9 t.heap (locs ++ L') f1 p1 p2 p3 hce hcv hcl9 T' e1 X'
    exact ⟨t2, st.trans a1, b1⟩
end QXS
/-! doubles stored -/
theorem q_ty_setd {g : q_G} {K : Nat → Nat} {L : List Nat} {f : Nat → va_E} (hT : q_Ty g K L f) {a k i : Nat} {x : UInt64} (hk : K a = k) (hc : ¬ k < 100) (hz : (q_at k).1 = 3) (hi : q_ok K L (q_et k i) (.double x)) : q_Ty g K L (q_set f a i (.double x)) := by
  intro b hb
  by_cases hba : b = a
  · subst hba
    obtain ⟨h, h1, h2, h3⟩ := q_ty_arr hT hb hk hc
    rw [hk]
    unfold q_Sh
    rw [if_neg hc]
    rw [hz] at h2
    obtain ⟨y, rfl⟩ := h2
    refine ⟨.inr (.inr (.inr (.inl (vf_upd y i x)))), by simp only [q_set, va_up_self, h1, q_setE], by rw [hz]; exact ⟨_, rfl⟩, fun j hj => ?_⟩
    by_cases hji : j = i
    · subst hji
      have e : q_vE (q_set f b j (.double x) b) j = .double x := by simp only [q_set, va_up_self, h1, q_setE, q_vE, vf_upd, if_true]
      rw [e]
      exact hi
    · have e := q_set_ne (f := f) (a := b) (i := i) (b := b) (j := j) (v := .double x) (Or.inr hji)
      have e2 : q_vE (q_set f b i (.double x) b) j = q_v f b j := e
      rw [e2]
      exact h3 j hj
  · have h := hT b hb
    simp only [q_set, va_up_ne _ _ hba]
    exact h
section Q26
variable {p : Program} {l : Launch} {e : Env} {R : Room} {s : State} {m : MethodId} {args : Array Value} {below : List Frame} {meth : Method} {c : Code} {H : Heap} {locs : List Loc} {cells slots : Nat} {Q : State → Prop}
variable {cc : ByteArray} {pc nL : Nat} {ls : Array Slot} {rest : List Value} {own : String} {index a k : Nat}
variable {g : q_G} {K : Nat → Nat} {L : List Nat} {A : Nat → Prop} {w : q_Ws} {f0 f : Nat → va_E}
theorem q_dast {lo hi i : Int} {x : UInt64} {n : Nat} (cx : CallFix p m c cc nL s args q_al own) (hB : q_B g K L A w f0 f s H locs) (ha : a ∈ L) (hk : K a = k) (h20 : ¬ k < 100) (hn : (q_at k).2 = n) (ht0 : (q_at k).1 = 3) (hi0 : 0 ≤ i) (hi1 : i < n) (hnn : n ≤ 2147483647) (he : q_et k i.toNat = (3, lo, hi)) (hw : q_inW w k i.toNat = true) (hdg : decode cc pc = .ok (.dastore, 1))
    (kk : ∀ (H1 : Heap) (locs1 : List Loc) (f1 : Nat → va_E), f1 = q_set f a i.toNat (.double x) → True → q_B g K L A w f0 f1 s H1 locs1 → W p l e R s m args below meth c H1 locs1 cells slots Q (F0 m (pc + 1) ls rest)) : W p l e R s m args below meth c H locs cells slots Q (F0 m pc ls (.double x :: .int (q_i i) :: .ref a :: rest)) := by
  obtain ⟨⟨hP, hD, hK, hS⟩, hT, hF⟩ := hB
  obtain ⟨h, h1, h2, h3⟩ := q_ty_arr hT ha hk h20
  rw [ht0] at h2
  obtain ⟨y, rfl⟩ := h2
  have hri : q_R i := ⟨by omega, by omega⟩
  obtain ⟨q0, hq⟩ := q_plget (f := f) ha
  have hq2 := hq
  rw [h1, hn, ht0] at hq2
  refine va_dast cx.1 cx.2.1 hK hP hD hS q0 3 hq2 rfl (q_in hi0 hi1 hnn) hdg (fun H1 locs1 hP1 hD1 hS1 => ?_)
  rw [q_nat hri] at hP1 hD1
  have e : q_set f a i.toNat (.double x) = va_up f a (.inl (g.2 3, n, .inr (.inr (.inr (.inl (vf_upd y i.toNat x)))))) := by simp only [q_set, h1, q_setE, hn, ht0]
  rw [q_plset hD ha hq, ← e] at hP1 hD1
  refine kk H1 locs1 _ rfl True.intro ⟨⟨hP1, hD1, hK, hS1⟩, q_ty_setd hT hk h20 ht0 (by rw [he]; exact ⟨_, rfl⟩), q_Fr_set hF (by rw [hk]; exact hw)⟩
end Q26
