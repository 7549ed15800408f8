/-! rows over null and any thing; calls that make nothing that stays -/
section QG2
variable {p : Program} {l : Launch} {e : Env} {R : Room} {s : State} {m : MethodId} {args : Array Value} {below : List Frame} {meth : Method} {c : Code} {H : Heap} {locs : List Loc} {cells slots : Nat} {Q : State → Prop}
variable {cc : ByteArray} {pc nL : Nat} {ls : Array Slot} {rest : List Value} {own C ref : String} {T : u_T} {N index a k j : Nat}
variable {g : q_G} {E : (Nat → Prop) → State → Prop} {K K0 : Nat → Nat} {L L0 : List Nat} {A : Nat → Prop} {w : q_Ws} {f0 b0 f : Nat → va_E} {Po : Option Value → (Nat → va_E) → Prop}
/-- a field that is known -/
theorem q_getq {v : Value} (cx : CallFix p m c cc nL s args q_al own) (hB : q_B g K L A w f0 f s H locs) (ha : a ∈ L) (hk : K a = k) (h20 : k < 100) (hj : j < (q_ft k).length) (hcl : vwCl[q_ck k]? = some (C, T, N)) (hin : ∀ w ∈ u_ws C T N, w ∈ q_al) (hjN : j < N) (hlink : Cond.fieldLink own index (T j).1 (T j).2.1 (T j).2.2.1 ∈ q_al) (hv : q_v f a j = v) (hdg : decode cc pc = .ok (.getfield index, 3))
    (kk : W p l e R s m args below meth c H locs cells slots Q (F0 m (pc + 3) ls (v :: rest))) : W p l e R s m args below meth c H locs cells slots Q (F0 m pc ls (.ref a :: rest)) := by
  obtain ⟨fs, h1, h2, -⟩ := q_ty_obj hB.2.1 ha hk h20
  refine q_getv cx hB ha h1 hcl hin hjN hlink ?_ hdg kk
  rw [q_getD (by rw [h2]; exact hj), ← hv]
  simp only [q_v, h1, q_vE]
theorem q_putq {v : Value} (cx : CallFix p m c cc nL s args q_al own) (hB : q_B g K L A w f0 f s H locs) (ha : a ∈ L) (hk : K a = k) (h20 : k < 100) (hj : (q_ft k)[j]? = some (4, 0, 0)) (hcl : vwCl[q_ck k]? = some (C, T, N)) (hin : ∀ w ∈ u_ws C T N, w ∈ q_al) (ty0 : Nat → FieldType) (hty : ∀ k, k < N → parseFieldDescriptor (T k).2.2.1 = some (ty0 k)) (hnm : ∀ a, a < N → ∀ b, b < N → a ≠ b → (T a).2.1 ≠ (T b).2.1) (hjN : j < N) (hfin : (T j).2.2.2 = false) (hlink : Cond.fieldLink own index (T j).1 (T j).2.1 (T j).2.2.1 ∈ q_al) (hn : narrow (ty0 j) v = v) (hfit : fits (ty0 j) v = true) (hv : v = .null ∨ ∃ b : Nat, v = .ref b) (hw : q_inW w k j = true) (hdg : decode cc pc = .ok (.putfield index, 3))
    (kk : ∀ (H1 : Heap) (locs1 : List Loc) (f1 : Nat → va_E), f1 = q_set f a j v → q_v f1 a j = v → q_B g K L A w f0 f1 s H1 locs1 → W p l e R s m args below meth c H1 locs1 cells slots Q (F0 m (pc + 3) ls rest)) : W p l e R s m args below meth c H locs cells slots Q (F0 m pc ls (v :: .ref a :: rest)) :=
  q_putv cx hB ha hk h20 hj hcl hin ty0 hty hnm hjN hfin hlink hn hfit hv hw hdg kk
/-- a place of an array of things that is known -/
theorem q_aaldv {i : Int} {n : Nat} {v : Value} {Ce : String} (cx : CallFix p m c cc nL s args q_al own) (hB : q_B g K L A w f0 f s H locs) (ha : a ∈ L) (hk : K a = k) (h20 : ¬ k < 100) (hn : (q_at k).2 = n) (t0 : Nat) (ht0 : (q_at k).1 = t0) (h4 : 3 ≤ t0) (htt : (q_tys g)[t0]? = some (g.2 t0, .object Ce)) (hi0 : 0 ≤ i) (hi1 : i < n) (hnn : n ≤ 2147483647) (hv : q_v f a i.toNat = v) (hdg : decode cc pc = .ok (.aaload, 1))
    (kk : W p l e R s m args below meth c H locs cells slots Q (F0 m (pc + 1) ls (v :: rest))) : W p l e R s m args below meth c H locs cells slots Q (F0 m pc ls (.int (q_i i) :: .ref a :: rest)) := by
  obtain ⟨⟨hP, hD, hK, hS⟩, hT, -⟩ := hB
  obtain ⟨h, h1, h2, h3⟩ := q_ty_arr hT ha hk h20
  have hx : ∃ x, h = .inr (.inr (.inr (.inr x))) := by
    rw [ht0] at h2
    match t0, h4, h2 with
    | t + 3, _, h2 => exact h2
  obtain ⟨x, rfl⟩ := hx
  have hr : q_R i := ⟨by omega, by omega⟩
  have e1 : va_rf (x i.toNat) = v := by
    have : q_v f a i.toNat = va_rf (x i.toNat) := by simp only [q_v, h1, q_vE]
    rw [← this]; exact hv
  obtain ⟨q0, hq⟩ := q_plget (f := f) ha
  rw [h1, hn, ht0] at hq
  refine va_aldq cx.1 cx.2.1 hK hP q0 t0 hq htt (q_in hi0 hi1 hnn) hdg ?_
  rw [q_nat hr, e1]
  exact kk
theorem q_castY {nm : String} (cx : CallFix p m c cc nL s args q_al own) (hB : q_B g K L A w f0 f s H locs) (ha : a ∈ L) (hk : K a = k) (h20 : k < 100) (hcl : vwCl[q_ck k]? = some (C, T, N)) (hlink : Cond.classLink own index nm ∈ q_al) (hc : va_Nw (.castable C nm) s) (hdg : decode cc pc = .ok (.checkcast index, 3))
    (kk : W p l e R s m args below meth c H locs cells slots Q (F0 m (pc + 3) ls (.ref a :: rest))) : W p l e R s m args below meth c H locs cells slots Q (F0 m pc ls (.ref a :: rest)) := by
  obtain ⟨fs, h1, -, -⟩ := q_ty_obj hB.2.1 ha hk h20
  obtain ⟨q0, hq⟩ := q_plget (f := f) ha
  rw [h1] at hq
  exact va_castY cx.1 cx.2.1 cx.2.2.2.1 (cx.2.2.2.2 _ hlink) hc (va_recv hB.1.2.2.1 hB.1.1 hcl hq) hdg kk
theorem q_instY {nm : String} (cx : CallFix p m c cc nL s args q_al own) (hB : q_B g K L A w f0 f s H locs) (ha : a ∈ L) (hk : K a = k) (h20 : k < 100) (hcl : vwCl[q_ck k]? = some (C, T, N)) (hlink : Cond.classLink own index nm ∈ q_al) (hc : va_Nw (.castable C nm) s) (hdg : decode cc pc = .ok (.instanceof index, 3))
    (kk : W p l e R s m args below meth c H locs cells slots Q (F0 m (pc + 3) ls (.int (q_i 1) :: rest))) : W p l e R s m args below meth c H locs cells slots Q (F0 m pc ls (.ref a :: rest)) := by
  obtain ⟨fs, h1, -, -⟩ := q_ty_obj hB.2.1 ha hk h20
  obtain ⟨q0, hq⟩ := q_plget (f := f) ha
  rw [h1] at hq
  exact va_instY cx.1 cx.2.1 cx.2.2.2.1 (cx.2.2.2.2 _ hlink) hc (va_recv hB.1.2.2.1 hB.1.1 hcl hq) hdg kk
/-- an array of ints is an int[] -/
theorem q_castA (cx : CallFix p m c cc nL s args q_al own) (hB : q_B g K L A w f0 f s H locs) (ha : a ∈ L) (hk : K a = k) (h20 : ¬ k < 100) (ht0 : (q_at k).1 = 1) (hlink : Cond.classLink own index "[I" ∈ q_al) (hdg : decode cc pc = .ok (.checkcast index, 3))
    (kk : W p l e R s m args below meth c H locs cells slots Q (F0 m (pc + 3) ls (.ref a :: rest))) : W p l e R s m args below meth c H locs cells slots Q (F0 m pc ls (.ref a :: rest)) := by
  obtain ⟨⟨hP, hD, hK, hS⟩, hT, -⟩ := hB
  obtain ⟨h, h1, -, -⟩ := q_ty_arr hT ha hk h20
  obtain ⟨q0, hq⟩ := q_plget (f := f) ha
  rw [h1, ht0] at hq
  exact va_castA cx.1 cx.2.1 cx.2.2.2.1 (cx.2.2.2.2 _ hlink) hP q0 hq (hK.2 1 _ rfl).2 hdg kk
theorem q_eV {y : MethodName} {bytes : ByteArray} {maxL fr lo mc ms n : Nat} {ret : Option FieldType} {b : Nat} {As st0 : List Value} {w' : q_Ws}
    (cx : CallFix p m c cc nL s args q_al own) (hEv : q_EvOK E) (hE : E A s) (hA : ∀ q, s.heap.size ≤ q → A q) (hG : q_Gw A K0 L0 b0 K L f0) (hB : q_B g K L A w f0 f s H locs) (hb : b ∈ L) (hk : K b = k) (h20 : k < 100) (hcl : vwCl[q_ck k]? = some (C, T, N))
    (hM : q_Cg l g E K L y bytes maxL ret fr lo mc ms (.ref b :: As) f w' (q_Ng Po K L)) (hwd : ∀ w ∈ wsV own index C y (.code y bytes maxL ret :: q_al), w ∈ q_al)
    (hd : y.cls = C ∧ y.cls ≠ "java/lang/invoke/MethodHandle" ∧ y.cls ≠ "java/lang/invoke/VarHandle" ∧ (parseMethodDescriptor y.desc).map (fun d => d.parameters.length) = some n)
    (hR : (fr + 1 ≤ R.frames ∧ 8 + (maxL + 11) + lo ≤ R.locals) ∧ cells + mc ≤ R.cells ∧ slots + ms ≤ R.slots) (hsub : q_wsub w' w = true) (hn : As.length = n) (hls : ls.size = nL) (hst : st0 = As.reverse ++ .ref b :: rest) (hcat : (rest.map fun v => v.category).sum ≤ 8) (hdg : decode cc pc = .ok (.invokevirtual index, 3))
    (kk : ∀ (v : Option Value) (H1 : Heap) (locs1 : List Loc) (f1 : Nat → va_E), Po v f1 → q_Fr w' K L f f1 → q_B g K L A w f0 f1 s H1 locs1 → W p l e R s m args below meth c H1 locs1 (cells + mc) (slots + ms) Q (F0 m (pc + 3) ls (v.toList ++ rest))) : W p l e R s m args below meth c H locs cells slots Q (F0 m pc ls st0) :=
  q_gV cx hEv hE hA hG hB hb hk h20 hcl hM hwd hd hR hsub hn hls hst hcat hdg (fun v H1 locs1 K1 L1 f01 f1 hp hU hF he hG1 hB1 => kk v H1 locs1 f1 hp.2.2 hF (q_ngB hG he hp.1 hp.2.1 hB1))
theorem q_eS {y : MethodName} {bytes : ByteArray} {maxL fr lo mc ms n : Nat} {ret : Option FieldType} {As st0 : List Value} {w' : q_Ws}
    (cx : CallFix p m c cc nL s args q_al own) (hEv : q_EvOK E) (hE : E A s) (hA : ∀ q, s.heap.size ≤ q → A q) (hG : q_Gw A K0 L0 b0 K L f0) (hB : q_B g K L A w f0 f s H locs)
    (hM : q_Cg l g E K L y bytes maxL ret fr lo mc ms As f w' (q_Ng Po K L)) (hwd : ∀ w ∈ va_wsS own index y (.code y bytes maxL ret :: q_al), w ∈ q_al)
    (hd : y.cls ≠ "java/lang/invoke/MethodHandle" ∧ y.cls ≠ "java/lang/invoke/VarHandle" ∧ (parseMethodDescriptor y.desc).map (fun d => d.parameters.length) = some n)
    (hR : (fr + 1 ≤ R.frames ∧ 8 + (maxL + 11) + lo ≤ R.locals) ∧ cells + mc ≤ R.cells ∧ slots + ms ≤ R.slots) (hsub : q_wsub w' w = true) (hn : As.length = n) (hls : ls.size = nL) (hst : st0 = As.reverse ++ rest) (hcat : (rest.map fun v => v.category).sum ≤ 8) (hdg : decode cc pc = .ok (.invokestatic index, 3))
    (kk : ∀ (v : Option Value) (H1 : Heap) (locs1 : List Loc) (f1 : Nat → va_E), Po v f1 → q_Fr w' K L f f1 → q_B g K L A w f0 f1 s H1 locs1 → W p l e R s m args below meth c H1 locs1 (cells + mc) (slots + ms) Q (F0 m (pc + 3) ls (v.toList ++ rest))) : W p l e R s m args below meth c H locs cells slots Q (F0 m pc ls st0) :=
  q_gS cx hEv hE hA hG hB hM hwd hd hR hsub hn hls hst hcat hdg (fun v H1 locs1 K1 L1 f01 f1 hp hU hF he hG1 hB1 => kk v H1 locs1 f1 hp.2.2 hF (q_ngB hG he hp.1 hp.2.1 hB1))
theorem q_eF {x y : MethodName} {bytes : ByteArray} {maxL fr lo mc ms n count : Nat} {ret : Option FieldType} {b : Nat} {As st0 : List Value} {w' : q_Ws}
    (cx : CallFix p m c cc nL s args q_al own) (hEv : q_EvOK E) (hE : E A s) (hA : ∀ q, s.heap.size ≤ q → A q) (hG : q_Gw A K0 L0 b0 K L f0) (hB : q_B g K L A w f0 f s H locs) (hb : b ∈ L) (hk : K b = k) (h20 : k < 100) (hcl : vwCl[q_ck k]? = some (C, T, N)) (hFw : va_Fw C x y s)
    (hM : q_Cg l g E K L y bytes maxL ret fr lo mc ms (.ref b :: As) f w' (q_Ng Po K L)) (hwd : ∀ w ∈ va_wsF own index C x y (.code y bytes maxL ret :: q_al), w ∈ q_al)
    (hd : x.cls ≠ "java/lang/invoke/MethodHandle" ∧ x.cls ≠ "java/lang/invoke/VarHandle" ∧ (parseMethodDescriptor x.desc).map (fun d => d.parameters.length) = some n)
    (hR : (fr + 1 ≤ R.frames ∧ 8 + (maxL + 11) + lo ≤ R.locals) ∧ cells + mc ≤ R.cells ∧ slots + ms ≤ R.slots) (hsub : q_wsub w' w = true) (hn : As.length = n) (hls : ls.size = nL) (hst : st0 = As.reverse ++ .ref b :: rest) (hcat : (rest.map fun v => v.category).sum ≤ 8) (hdg : decode cc pc = .ok (.invokeinterface index count, 5))
    (kk : ∀ (v : Option Value) (H1 : Heap) (locs1 : List Loc) (f1 : Nat → va_E), Po v f1 → q_Fr w' K L f f1 → q_B g K L A w f0 f1 s H1 locs1 → W p l e R s m args below meth c H1 locs1 (cells + mc) (slots + ms) Q (F0 m (pc + 5) ls (v.toList ++ rest))) : W p l e R s m args below meth c H locs cells slots Q (F0 m pc ls st0) :=
  q_gF cx hEv hE hA hG hB hb hk h20 hcl hFw hM hwd hd hR hsub hn hls hst hcat hdg (fun v H1 locs1 K1 L1 f01 f1 hp hU hF he hG1 hB1 => kk v H1 locs1 f1 hp.2.2 hF (q_ngB hG he hp.1 hp.2.1 hB1))
end QG2
