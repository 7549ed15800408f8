/-! a method of a cell that is still being built; from a constructor to methods of the typed world -/
def q_Rw (l : Launch) (g : q_G) (y : MethodName) (cc : ByteArray) (mL fr lo : Nat) (e1 e2 : va_E) : Prop :=
  ∀ b : Nat, Met l y (.code y cc mL none :: q_al) { frames := fr, cells := 0, slots := 0, locals := lo } (va_Pc [.ref b] (fun U => va_P g.1 vwCl [(b, e1)] U.heap ∧ va_K g.1 vwCl (q_tys g) U)) (fun _ st o t => (o = .returned none ∧ va_P g.1 vwCl [(b, e2)] t.heap ∧ va_K g.1 vwCl (q_tys g) t) ∧ va_F (fun q => q = b) st t) 0 0 (fun q => q = b)
theorem r_ofb {l : Launch} {g : q_G} {y : MethodName} {cc : ByteArray} {mL fr lo : Nat} {e1 e2 : va_E} (hy : plainName y.cls = true) (hlen : 1 ≤ mL)
    (body : ∀ (p : Program) (e : Env) (s : State) (m : MethodId) (below : List Frame) (meth : Method) (c : Code) (ls : Array Slot) (b : Nat), CallFix p m c cc mL s ([.ref b] : List Value).toArray q_al y.cls → meth.sig.returnType = none → meth.locks = false → q_N g (fun _ => 0) [] (fun q => q = b) [(b, e1)] (fun _ => .inr (0, [])) s s.heap [] → lv_has ls mL [(0, .ref b)] →
      W p l e { frames := fr, cells := 0, slots := 0, locals := lo } s m ([.ref b] : List Value).toArray below meth c s.heap [] 0 0 (MQ below (fun _ st o t => (o = .returned none ∧ va_P g.1 vwCl [(b, e2)] t.heap ∧ va_K g.1 vwCl (q_tys g) t) ∧ va_F (fun q => q = b) st t) ([.ref b] : List Value).toArray s 0 0 (fun q => q = b)) (F0 m 0 ls [])) : q_Rw l g y cc mL fr lo e1 e2 := by
  intro b
  refine Met.ofW (cc := cc) (maxL := mL) (ret := none) hy rfl ?_
  intro p e s m args below meth c s₁ B hml hv
  obtain ⟨rfl, hP, hK⟩ := hv
  have hts := atoms_spec (ws := Cond.code y cc mL none :: q_al) B.pre
  have hl := lv_entry [.ref b] (n := mL) hlen
  rw [lg_entry_eq]
  refine body p e s m below meth c _ b ⟨B.exec, B.bytes, hml, findClass_of_methodNamed B.named, fun w hw => hts w (List.mem_cons_of_mem _ hw)⟩ B.returns B.notSynchronized ⟨hP, q_Dn.mpr ⟨List.pairwise_singleton _ _, fun q hq => by rw [List.mem_singleton.mp hq]⟩, hK, va_S.rf, fun a ha => nomatch ha⟩ hl
theorem r_blind {g : q_G} {b : Nat} {e1 : va_E} : FrameBlind (va_Pc [.ref b] (fun U => va_P g.1 vwCl [(b, e1)] U.heap ∧ va_K g.1 vwCl (q_tys g) U)) := fun a U gf mk h =>
  ⟨h.1, h.2.1, va_K.moved (u := U) (U := U.calling gf mk a) (Vm.Alike.refl U.vm) h.2.2⟩
section QN10
variable {p : Program} {l : Launch} {e : Env} {R : Room} {s : State} {m : MethodId} {args : Array Value} {below : List Frame} {meth : Method} {c : Code} {H : Heap} {locs : List Loc} {cells slots : Nat} {Q : State → Prop}
variable {cc : ByteArray} {pc nL : Nat} {ls : Array Slot} {rest : List Value} {own : String}
variable {g : q_G} {K : Nat → Nat} {L : List Nat} {A : Nat → Prop} {Xs : va_W} {f : Nat → va_E}
theorem r_ret {b : Nat} {e2 : va_E} (cx : CallFix p m c cc nL s args q_al own) (hr : meth.sig.returnType = none) (hlk : meth.locks = false) (hN : q_N g K L (fun q => q = b) [(b, e2)] f s H locs) (hdg : decode cc pc = .ok (.return_, 1)) :
    W p l e R s m args below meth c H locs cells slots (MQ below (fun _ st o t => (o = .returned none ∧ va_P g.1 vwCl [(b, e2)] t.heap ∧ va_K g.1 vwCl (q_tys g) t) ∧ va_F (fun q => q = b) st t) args s cells slots (fun q => q = b)) (F0 m pc ls []) :=
  W.vret cx.1 cx.2.1 hr (fun t ht hW => ⟨⟨rfl, by rw [ht]; exact q_Pm.mpr fun q hq => q_Pm.mp hN.1 q (List.mem_append_left _ hq), va_K.moved hW.alike hN.2.2.1⟩, hN.2.2.2.1.F ht⟩) hN.2.2.2.1.2.2 hdg hlk
theorem n_callR {y : MethodName} {bytes : ByteArray} {maxL fr lo index ci b N : Nat} {C : String} {T : u_T} {fs fs2 : List Value} {Xt : va_W}
    (cx : CallFix p m c cc nL s args q_al own) (hN : q_N g K L A ((b, .inr (ci, fs)) :: Xt) f s H locs) (hA : ∀ q, s.heap.size ≤ q → A q) (hcl : vwCl[ci]? = some (C, T, N)) (hM : q_Rw l g y bytes maxL fr lo (.inr (ci, fs)) (.inr (ci, fs2)))
    (hwd : ∀ w ∈ wsV own index C y (.code y bytes maxL none :: q_al), w ∈ q_al)
    (hd : y.cls = C ∧ y.cls ≠ "java/lang/invoke/MethodHandle" ∧ y.cls ≠ "java/lang/invoke/VarHandle" ∧ (parseMethodDescriptor y.desc).map (fun d => d.parameters.length) = some 0)
    (hR : (fr + 1 ≤ R.frames ∧ 8 + (maxL + 11) + lo ≤ R.locals) ∧ cells ≤ R.cells ∧ slots ≤ R.slots) (hls : ls.size = nL) (hcat : (rest.map fun v => v.category).sum ≤ 8) (hdg : decode cc pc = .ok (.invokevirtual index, 3))
    (kk : ∀ (H1 : Heap) (locs1 : List Loc), q_N g K L A ((b, .inr (ci, fs2)) :: Xt) f s H1 locs1 → W p l e R s m args below meth c H1 locs1 cells slots Q (F0 m (pc + 3) ls rest)) : W p l e R s m args below meth c H locs cells slots Q (F0 m pc ls (.ref b :: rest)) := by
  obtain ⟨hP, hD, hK, hS, hT⟩ := hN
  have hAb : A b := (q_Dn.mp hD).2 (b, .inr (ci, fs)) List.mem_cons_self
  have hPb : va_P g.1 vwCl [(b, .inr (ci, fs))] H := q_Pm.mpr fun q hq => q_Pm.mp hP q (by rw [List.mem_singleton.mp hq]; exact List.mem_cons_self)
  have hr := va_runV (e := e) (below := below) (meth := meth) (As := []) (rest := rest) (R := R) (cells := cells) (slots := slots) (locs := locs) (g := F0 m pc ls (.ref b :: rest)) cx (hM b) (cwV 0 cx.2.2.2.2 (q_goodA hwd) rfl rfl rfl hd hR.1) ⟨r_blind, va_recv hK hP hcl (q0 := 0) rfl, fun U hU hW => ⟨rfl, by rw [hU]; exact hPb, va_K.moved hW.alike hK⟩⟩ rfl rfl hls rfl (lv_room hcat) hdg hR.2
  intro T9 hT9 X9
  obtain ⟨v, st₀, t, T', L9, h0, X', hL, e1, e2, ⟨⟨hv, hP1, hK1⟩, hz, hk⟩, st⟩ := hr T9 hT9 X9
  cases hv
  rw [h0] at hz hk
  obtain ⟨hP2, hD2, -⟩ := q_join (A1 := fun q => q = b) (wc := [(b, .inr (ci, fs))]) (wr := Xt ++ va_pl L f) (w1 := [(b, .inr (ci, fs2))]) hP hD (fun q h _ => ⟨_, List.mem_singleton.mpr rfl, h.symm⟩) hk hP1 (List.pairwise_singleton _ _) (fun x hx => by rw [List.mem_singleton.mp hx]) (fun q h => h ▸ hAb)
  obtain ⟨t2, a1, b1⟩ := kk t.heap (locs ++ L9) ⟨hP2, hD2, hK, ⟨Nat.le_trans hS.1 hz, fun q h1 h2 => by
      rw [hk q (Nat.lt_of_lt_of_le h1 hS.1) (fun h => h2 (h ▸ hAb))]
      exact hS.2.1 q h1 h2, fun q hq => by
      rcases List.mem_append.mp hq with h | h
      · exact hS.2.2 q h
      · exact (hL q h) ▸ hAb⟩, hT⟩ T' e1 X'
  exact ⟨t2, st t2 a1, b1⟩
theorem q_toB {w : q_Ws} (hN : q_N g K L A [] f s H locs) : q_B g K L A w f f s H locs := ⟨⟨hN.1, hN.2.1, hN.2.2.1, hN.2.2.2.1⟩, hN.2.2.2.2, q_Fr.rf⟩
theorem q_toN {w : q_Ws} {f0 : Nat → va_E} (hB : q_B g K L A w f0 f s H locs) : q_N g K L A [] f s H locs := ⟨hB.1.1, hB.1.2.1, hB.1.2.2.1, hB.1.2.2.2, hB.2.1⟩
end QN10
section QN
variable {p : Program} {l : Launch} {e : Env} {R : Room} {s : State} {m : MethodId} {args : Array Value} {below : List Frame} {meth : Method} {c : Code} {H : Heap} {locs : List Loc} {cells slots : Nat} {Q : State → Prop}
variable {cc : ByteArray} {pc nL : Nat} {ls : Array Slot} {rest : List Value} {own : String}
variable {g : q_G} {K : Nat → Nat} {L : List Nat} {A : Nat → Prop} {Xs : va_W} {f : Nat → va_E}
theorem n_callIN {y : MethodName} {bytes : ByteArray} {maxL fr lo mc ms index ci b k : Nat} {fs0 : List Value} {Pf : List Nat → (Nat → va_E) → Nat → Prop}
    (cx : CallFix p m c cc nL s args q_al own) (hE : q_Env s) (hA : ∀ q, s.heap.size ≤ q → A q) (hN : q_N g K L A (Xs ++ [(b, .inr (ci, fs0))]) f s H locs) (hM : q_Nw l g y bytes maxL fr lo mc ms ci fs0 k Pf)
    (hm : ∀ (L1 : List Nat) (f1 : Nat → va_E) (L' : List Nat) (f' : Nat → va_E), (∀ a ∈ L1, a ∈ L' ∧ f' a = f1 a) → b ∈ L1 → Pf L1 f1 b → Pf L' f' b)
    (hini : Cond.initialized y.cls ∈ q_al) (hlk : (own, index, y) ∈ q_nw) (hin : Cond.instanceMethod y ∈ q_al) (hcd : Cond.code y bytes maxL none ∈ q_al) (hy1 : y.name = "<init>")
    (hd : y.cls ≠ "java/lang/invoke/MethodHandle" ∧ y.cls ≠ "java/lang/invoke/VarHandle" ∧ (parseMethodDescriptor y.desc).map (fun d => d.parameters.length) = some 0)
    (hR : (fr + 1 ≤ R.frames ∧ 8 + (maxL + 11) + lo ≤ R.locals) ∧ cells + mc ≤ R.cells ∧ slots + ms ≤ R.slots) (hls : ls.size = nL) (hcat : (rest.map fun v => v.category).sum ≤ 8) (hdg : decode cc pc = .ok (.invokespecial index, 3))
    (kk : ∀ (K' : Nat → Nat) (L' : List Nat) (f' : Nat → va_E) (H1 : Heap) (locs1 : List Loc), b ∈ L' → K' b = k → (∀ a ∈ L, a ∈ L' ∧ K' a = K a ∧ f' a = f a) → Pf L' f' b → q_N g K' L' A Xs f' s H1 locs1 → W p l e R s m args below meth c H1 locs1 (cells + mc) (slots + ms) Q (F0 m (pc + 3) ls rest)) : W p l e R s m args below meth c H locs cells slots Q (F0 m pc ls (.ref b :: rest)) := by
  obtain ⟨hP, hD, hK, hS, hT⟩ := hN
  have hp0 : ((Xs ++ [(b, (.inr (ci, fs0) : va_E))]) ++ va_pl L f).Perm ([(b, (.inr (ci, fs0) : va_E))] ++ (Xs ++ va_pl L f)) := by
    rw [List.append_assoc]
    exact List.perm_middle
  obtain ⟨hP0, hD0⟩ := q_perm hp0 hP hD
  have hAb : A b := (q_Dn.mp hD0).2 (b, .inr (ci, fs0)) (List.mem_append_left _ (List.mem_singleton.mpr rfl))
  have hPb : va_P g.1 vwCl [(b, .inr (ci, fs0))] H := q_Pm.mpr fun q hq => q_Pm.mp hP0 q (List.mem_append_left _ hq)
  have hr := va_runIN (e := e) (below := below) (meth := meth) (As := []) (rest := rest) (R := R) (cells := cells) (slots := slots) (locs := locs) (g := F0 m pc ls (.ref b :: rest)) cx (hM b H.size) ⟨va_cnB 0 cx.2.2.2.2 (q_goodA (q_cons hcd q_self)) rfl rfl rfl (hE.2 _ hlk) (cx.2.2.2.2 _ hini) hd hR.1, hy1, cx.2.2.2.2 _ hin⟩ ⟨n_blind, fun U hU hW => ⟨rfl, by rw [hU], by rw [hU]; exact hPb, va_K.moved hW.alike hK, hE.to hW⟩⟩ rfl rfl hls rfl (lv_room hcat) hdg hR.2
  intro T9 hT9 X9
  obtain ⟨v, st₀, t, T', L9, h0, X', hL, e1, e2, ⟨⟨K1, L1, f1, hv, hb1, hk1, hn1, hs1, hT1, hp1, hP1, hK1⟩, hz, hk⟩, st⟩ := hr T9 hT9 X9
  cases hv
  rw [h0] at hz hk
  have hF : ∀ q, (q = b ∨ H.size ≤ q) → A q := fun q h => h.elim (fun e => e ▸ hAb) (fun h => hA q (Nat.le_trans hS.1 h))
  obtain ⟨hP2, hD2, hdis⟩ := q_join (A1 := fun q => q = b ∨ H.size ≤ q) (w1 := va_pl L1 f1) hP0 hD0 (fun q h hq => h.elim (fun e => ⟨_, List.mem_singleton.mpr rfl, e.symm⟩) (fun h => absurd hq (Nat.not_lt_of_le h))) hk hP1 (by rw [q_plfst]; exact hn1) (fun x hx => by
    obtain ⟨a, ha, rfl⟩ := List.mem_map.mp hx
    exact hs1 a ha) hF
  have hnot : ∀ a ∈ L1, a ∉ L := fun a h1 h2 => hdis (a, f1 a) (List.mem_map.mpr ⟨a, h1, rfl⟩) (a, f a) (List.mem_append_right _ (List.mem_map.mpr ⟨a, h2, rfl⟩)) rfl
  have o1 : ∀ a ∈ L, a ∈ L ++ L1 ∧ (if a ∈ L then K a else K1 a) = K a ∧ (if a ∈ L then f a else f1 a) = f a := fun a ha => ⟨List.mem_append_left _ ha, if_pos ha, if_pos ha⟩
  have o2 : ∀ a ∈ L1, a ∈ L ++ L1 ∧ (if a ∈ L then K a else K1 a) = K1 a ∧ (if a ∈ L then f a else f1 a) = f1 a := fun a ha => ⟨List.mem_append_right _ ha, if_neg (hnot a ha), if_neg (hnot a ha)⟩
  have hp3 : (va_pl L1 f1 ++ (Xs ++ va_pl L f)).Perm (Xs ++ va_pl (L ++ L1) (fun a => if a ∈ L then f a else f1 a)) := by
    rw [q_pl_app (f := f) (f1 := f1) (fun a ha => (o1 a ha).2.2) (fun a ha => (o2 a ha).2.2), show Xs ++ (va_pl L f ++ va_pl L1 f1) = (Xs ++ va_pl L f) ++ va_pl L1 f1 from (List.append_assoc _ _ _).symm]
    exact List.perm_append_comm
  obtain ⟨hP3, hD3⟩ := q_perm hp3 hP2 hD2
  have hT3 : q_Ty g (fun a => if a ∈ L then K a else K1 a) (L ++ L1) (fun a => if a ∈ L then f a else f1 a) := by
    intro a ha
    rcases List.mem_append.mp ha with h | h
    · show q_Sh g (if a ∈ L then K a else K1 a) (if a ∈ L then f a else f1 a) _
      rw [(o1 a h).2.1, (o1 a h).2.2]
      exact q_Sh_mono (fun t v => q_ok_mono (fun x hx => ⟨(o1 x hx).1, (o1 x hx).2.1⟩)) (hT a h)
    · show q_Sh g (if a ∈ L then K a else K1 a) (if a ∈ L then f a else f1 a) _
      rw [(o2 a h).2.1, (o2 a h).2.2]
      exact q_Sh_mono (fun t v => q_ok_mono (fun x hx => ⟨(o2 x hx).1, (o2 x hx).2.1⟩)) (hT1 a h)
  obtain ⟨t2, a1, b1⟩ := kk _ _ _ t.heap (locs ++ L9) (o2 b hb1).1 ((o2 b hb1).2.1.trans hk1) o1 (hm L1 f1 _ _ (fun a ha => ⟨(o2 a ha).1, (o2 a ha).2.2⟩) hb1 hp1) ⟨hP3, hD3, hK, ⟨Nat.le_trans hS.1 hz, fun q h1 h2 => by
      rw [hk q (Nat.lt_of_lt_of_le h1 hS.1) (fun h => h2 (hF q h))]
      exact hS.2.1 q h1 h2, fun q hq => by
      rcases List.mem_append.mp hq with h | h
      · exact hS.2.2 q h
      · exact hF _ (hL q h)⟩, hT3⟩ T' e1 X'
  exact ⟨t2, st t2 a1, b1⟩
end QN
