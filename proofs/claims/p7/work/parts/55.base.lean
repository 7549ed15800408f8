def R_law : String := "WakeVillageLaw"
def lw_P (b : Addr) (xs : List Int32) (args : Array Value) (s : State) : Prop := args = #[.ref b] ∧ s.IntsAt b xs ∧ xs.length ≤ 3072 ∧ (Jvm.Cond.and given_1 narrow_1).before args s = true
/-- what a walk over the start with the record d0 says of its end, said of the start itself -/
theorem lw_closed {s t : State} {o : Outcome} {d0 : Drawn} {L : List Loc} {k n : Nat} (hd0 : s.drawn.sameBut d0 lw_cs) (hv : ∃ v, o = .returned v) (hW : (s.setDrawn d0).WarmedH t.vm) (hs : (s.setDrawn d0).sameButNew ({ t with vm := s.vm } : State) L k n) : State.butDraws s t lw_cs (fun t1 => Framed s o t1 L k n) := by
  have h2 : t.drawn = d0 := congrArg State.drawn hs.1
  refine ⟨⟨hv, hW, State.sameButNew.setDrawn hs s.drawn⟩, ?_, by decide⟩
  rw [h2]
  exact hd0
def lw_Q (_ : Array Value) (s : State) (o : Outcome) (t : State) : Prop := o = .returned (some (.int 1)) ∧ State.butDraws s t lw_cs (fun t1 => Framed s o t1 [] 601024 7293034)
def lw_Z (below : List Frame) (a : Array Value) (s : State) : State → Prop := fun t => ∃ o, t.status = .running ∧ Ended t below o ∧ lw_Q a s o t
/-- the law's own end, with 1 on the stack, nothing written that was there before, its room as the claim has it; d0: the record of draws at this point (at the entry s.drawn: begin with 'refine W.base ?_' and 'have hd0 := Drawn.sameBut.refl s.drawn lw_cs') -/
theorem lw_ret {p : Program} {l : Launch} {e : Env} {s : State} {m : MethodId} {below : List Frame} {meth : Method} {c : Code} {b : Nat} {d0 : Drawn} (hd0 : s.drawn.sameBut d0 lw_cs) (hx : p.tables.exec = Jvm.exec) (hb : c.code = code) (hr : meth.sig.returnType = ret) (hlocks : meth.locks = false) {pc : Nat} {H : Heap} {ls : Array Slot} (hdg : decode code pc = .ok (.ireturn, 1)) : W p l e room_1 (s.setDrawn d0) m #[Value.ref b] below meth c H [] 601024 7293034 (lw_Z below #[Value.ref b] s) (F0 m pc ls [.int 1]) := by
  intro T hT X
  obtain ⟨fs, hret, hrun, hended, hW, hframe⟩ := X.leave (v := some (.int 1)) (hlocks := hlocks) (fun h => by rw [hr] at h; cases h)
  have hmeth' : T.vm.method? m = some meth := X.method'
  refine ⟨T.setFrames fs, ?_, .returned (some (.int 1)), hrun, hended, rfl, lw_closed hd0 ⟨_, rfl⟩ hW hframe⟩
  jvm_step X.here [X.here.top, hx, hb, hdg, hmeth', hr, ret, narrow_b1]
  (try refine ⟨rfl, ?_⟩); (try refine ⟨rfl, ?_⟩)
  first | (intro acts; rw [hret _ acts rfl rfl rfl]) | rw [hret _ _ rfl rfl rfl]
  exact Steps.refl _
/-- what holds at the law's entry: the machine, the code, the tables' words (any of lw_tbl by 'hts w (by decide +kernel)'), the script of L ints xs at the cell b, what the Statement gives of the start (any of its parts by flat_of_before) -/
def lw_At (p : Program) (s : State) (m : MethodId) (meth : Method) (c : Code) (b L : Nat) (xs : Nat → Int32) : Prop :=
  p.tables.exec = Jvm.exec ∧ c.code = code ∧ meth.sig.returnType = ret ∧ c.maxLocals = 10 ∧ s.vm.findClass R_law = some m.cls ∧ (∀ w ∈ lw_tbl, w.before #[Value.ref b] s = true) ∧ va_X b L xs s s.heap ∧ b < s.heap.size ∧ meth.locks = false ∧ (Jvm.Cond.and given_1 narrow_1).before #[Value.ref b] s = true
/-! calls that answer a double or a float; the law's own rows -/
section QC7
variable {p : Program} {l : Launch} {e : Env} {R : Room} {s : State} {m : MethodId} {args : Array Value} {below : List Frame} {meth : Method} {c : Code} {H : Heap} {locs : List Loc} {cells slots : Nat} {Q : State → Prop}
variable {cc : ByteArray} {pc nL : Nat} {ls : Array Slot} {rest : List Value} {own : String}
variable {g : q_G} {K : Nat → Nat} {L : List Nat} {A : Nat → Prop} {w : q_Ws} {f0 f : Nat → va_E}
variable {y : MethodName} {bytes : ByteArray} {maxL fr lo n index : Nat} {ret : Option FieldType} {C : String} {b k : Nat} {T : u_T} {N : Nat} {As st0 : List Value} {w' : q_Ws}
theorem q_cVd {P : UInt64 → (Nat → va_E) → Prop}
    (cx : CallFix p m c cc nL s args q_al own) (hB : q_B g K L A w f0 f s H locs) (hLA : ∀ q, q ∈ L → A q) (hN : L.Nodup) (hb : b ∈ L) (hk : K b = k) (h20 : k < 100) (hcl : vwCl[q_ck k]? = some (C, T, N))
    (hM : q_Ct l g K L y bytes maxL ret fr lo (.ref b :: As) f w' (q_Pd P)) (hwd : ∀ w ∈ wsV own index C y (.code y bytes maxL ret :: q_al), w ∈ q_al)
    (hd : y.cls = C ∧ y.cls ≠ "java/lang/invoke/MethodHandle" ∧ y.cls ≠ "java/lang/invoke/VarHandle" ∧ (parseMethodDescriptor y.desc).map (fun d => d.parameters.length) = some n)
    (hR : (fr + 1 ≤ R.frames ∧ 8 + (maxL + 11) + lo ≤ R.locals) ∧ cells ≤ R.cells ∧ slots ≤ R.slots) (hsub : q_wsub w' w = true) (hn : As.length = n) (hls : ls.size = nL) (hst : st0 = As.reverse ++ .ref b :: rest) (hcat : (rest.map fun v => v.category).sum ≤ 8) (hdg : decode cc pc = .ok (.invokevirtual index, 3))
    (kk : ∀ (z : UInt64) (H1 : Heap) (locs1 : List Loc) (f1 : Nat → va_E), P z f1 → q_Fr w' K L f f1 → q_B g K L A w f0 f1 s H1 locs1 → W p l e R s m args below meth c H1 locs1 cells slots Q (F0 m (pc + 3) ls (.double z :: rest))) : W p l e R s m args below meth c H locs cells slots Q (F0 m pc ls st0) :=
  q_callV cx hB hLA hN hb hk h20 hcl hM hwd hd hR hsub hn hls hst hcat hdg (fun v H1 locs1 f1 hp hF hB1 => by obtain ⟨z, rfl, hp⟩ := hp; exact kk z H1 locs1 f1 hp hF hB1)
theorem q_cVf {P : UInt32 → (Nat → va_E) → Prop}
    (cx : CallFix p m c cc nL s args q_al own) (hB : q_B g K L A w f0 f s H locs) (hLA : ∀ q, q ∈ L → A q) (hN : L.Nodup) (hb : b ∈ L) (hk : K b = k) (h20 : k < 100) (hcl : vwCl[q_ck k]? = some (C, T, N))
    (hM : q_Ct l g K L y bytes maxL ret fr lo (.ref b :: As) f w' (q_Pf P)) (hwd : ∀ w ∈ wsV own index C y (.code y bytes maxL ret :: q_al), w ∈ q_al)
    (hd : y.cls = C ∧ y.cls ≠ "java/lang/invoke/MethodHandle" ∧ y.cls ≠ "java/lang/invoke/VarHandle" ∧ (parseMethodDescriptor y.desc).map (fun d => d.parameters.length) = some n)
    (hR : (fr + 1 ≤ R.frames ∧ 8 + (maxL + 11) + lo ≤ R.locals) ∧ cells ≤ R.cells ∧ slots ≤ R.slots) (hsub : q_wsub w' w = true) (hn : As.length = n) (hls : ls.size = nL) (hst : st0 = As.reverse ++ .ref b :: rest) (hcat : (rest.map fun v => v.category).sum ≤ 8) (hdg : decode cc pc = .ok (.invokevirtual index, 3))
    (kk : ∀ (z : UInt32) (H1 : Heap) (locs1 : List Loc) (f1 : Nat → va_E), P z f1 → q_Fr w' K L f f1 → q_B g K L A w f0 f1 s H1 locs1 → W p l e R s m args below meth c H1 locs1 cells slots Q (F0 m (pc + 3) ls (.float z :: rest))) : W p l e R s m args below meth c H locs cells slots Q (F0 m pc ls st0) :=
  q_callV cx hB hLA hN hb hk h20 hcl hM hwd hd hR hsub hn hls hst hcat hdg (fun v H1 locs1 f1 hp hF hB1 => by obtain ⟨z, rfl, hp⟩ := hp; exact kk z H1 locs1 f1 hp hF hB1)
end QC7
theorem q_lawret {p : Program} {l : Launch} {e : Env} {s : State} {m : MethodId} {below : List Frame} {meth : Method} {c : Code} {b N : Nat} {xs : Nat → Int32} {H : Heap} {locs : List Loc} {cells slots : Nat} {pc : Nat} {ls : Array Slot} {g : q_G} {K : Nat → Nat} {L : List Nat} {w : q_Ws} {f0 f : Nat → va_E}
    (C0 : lw_At p s m meth c b N xs) (hB : q_B g K L (fun q => s.heap.size ≤ q) w f0 f s H locs) (hc : cells ≤ 601024) (hs : slots ≤ 7293034) (hdg : decode code pc = .ok (.ireturn, 1)) : W p l e room_1 s m #[Value.ref b] below meth c H locs cells slots (lw_Z below #[Value.ref b] s) (F0 m pc ls [.int (q_i 1)]) := by
  refine va_forget (fun q hq => hB.1.2.2.2.2.2 q hq) ?_
  refine W.widen (k := 601024) (n := 7293034) hc hs ?_
  refine W.base ?_
  exact lw_ret (Drawn.sameBut.refl s.drawn lw_cs) C0.1 C0.2.1 C0.2.2.1 C0.2.2.2.2.2.2.2.2.1 hdg
theorem q_bA {s : State} {b : Nat} (h : b < s.heap.size) : ¬ s.heap.size ≤ b := Nat.not_le_of_lt h
/-- what stands between two calls -/
def q_Inv (f : Nat → va_E) (src mo sr pa sd : Nat) (xn : Int) : Prop := (q_is (q_z f src 1) xn ∧ q_is (q_z f mo 2) xn ∧ 0 ≤ xn ∧ xn ≤ 600) ∧ q_gr f sr ∧ q_pk f mo pa ∧ q_sv f mo sd ∧ q_z f sr 3 ≤ 9999 ∧ q_z f sr 4 ≤ 60
theorem q_lenN (n : Nat) : Int32.ofNat n = q_i n := Int32.ofInt_eq_ofNat.symm
