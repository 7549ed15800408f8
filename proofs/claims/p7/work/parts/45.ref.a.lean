theorem q_h1686 : Cond.methodLink RX12 89 yX12_four ∈ q_al := q_ali 1686 (by decide +kernel) (by decide +kernel)
theorem q_h1689 : Cond.code yX12_four cX12_four 3 none ∈ q_al := q_ali 1689 (by decide +kernel) (by decide +kernel)
theorem q_h1688 : Cond.instanceMethod yX12_four ∈ q_al := q_ali 1688 (by decide +kernel) (by decide +kernel)
theorem q_h43 : Cond.selects RX12 yX12_four yX12_four ∈ q_al := q_ali 43 (by decide +kernel) (by decide +kernel)
theorem q_h1727 : Cond.methodLink RX12 244 yX12_beginsText ∈ q_al := q_ali 1727 (by decide +kernel) (by decide +kernel)
theorem q_h1730 : Cond.code yX12_beginsText cX12_beginsText 1 none ∈ q_al := q_ali 1730 (by decide +kernel) (by decide +kernel)
theorem q_h1729 : Cond.instanceMethod yX12_beginsText ∈ q_al := q_ali 1729 (by decide +kernel) (by decide +kernel)
theorem q_h44 : Cond.selects RX12 yX12_beginsText yX12_beginsText ∈ q_al := q_ali 44 (by decide +kernel) (by decide +kernel)
theorem q_h1569 : Cond.fieldLink RX12 42 (TX12 20).1 (TX12 20).2.1 (TX12 20).2.2.1 ∈ q_al := q_ali 1569 (by decide +kernel) (by decide +kernel)
theorem q_h1716 : Cond.methodLink RX12 164 yX12_copiesNames ∈ q_al := q_ali 1716 (by decide +kernel) (by decide +kernel)
theorem q_h1718 : Cond.code yX12_copiesNames cX12_copiesNames 3 none ∈ q_al := q_ali 1718 (by decide +kernel) (by decide +kernel)
theorem q_h1717 : Cond.static yX12_copiesNames ∈ q_al := q_ali 1717 (by decide +kernel) (by decide +kernel)
theorem q_h1545 : Cond.methodLink RX12 72 yX12_clears ∈ q_al := q_ali 1545 (by decide +kernel) (by decide +kernel)
theorem q_h1548 : Cond.code yX12_clears cX12_clears 2 none ∈ q_al := q_ali 1548 (by decide +kernel) (by decide +kernel)
theorem q_h1547 : Cond.instanceMethod yX12_clears ∈ q_al := q_ali 1547 (by decide +kernel) (by decide +kernel)
theorem q_h41 : Cond.selects RX12 yX12_clears yX12_clears ∈ q_al := q_ali 41 (by decide +kernel) (by decide +kernel)
theorem q_h1843 : Cond.methodLink RX12 253 yX12_endsText ∈ q_al := q_ali 1843 (by decide +kernel) (by decide +kernel)
theorem q_h1846 : Cond.code yX12_endsText cX12_endsText 1 (some .boolean) ∈ q_al := q_ali 1846 (by decide +kernel) (by decide +kernel)
theorem q_h1845 : Cond.instanceMethod yX12_endsText ∈ q_al := q_ali 1845 (by decide +kernel) (by decide +kernel)
theorem q_h68 : Cond.selects RX12 yX12_endsText yX12_endsText ∈ q_al := q_ali 68 (by decide +kernel) (by decide +kernel)
theorem q_h1753 : Cond.methodLink RX12 250 yX12_statement ∈ q_al := q_ali 1753 (by decide +kernel) (by decide +kernel)
theorem q_h1756 : Cond.code yX12_statement cX12_statement 1 none ∈ q_al := q_ali 1756 (by decide +kernel) (by decide +kernel)
theorem q_h1755 : Cond.instanceMethod yX12_statement ∈ q_al := q_ali 1755 (by decide +kernel) (by decide +kernel)
theorem q_h49 : Cond.selects RX12 yX12_statement yX12_statement ∈ q_al := q_ali 49 (by decide +kernel) (by decide +kernel)
theorem q_h1563 : Cond.fieldLink RX12 23 (TX12 14).1 (TX12 14).2.1 (TX12 14).2.2.1 ∈ q_al := q_ali 1563 (by decide +kernel) (by decide +kernel)
theorem q_h1568 : Cond.fieldLink RX12 39 (TX12 19).1 (TX12 19).2.1 (TX12 19).2.2.1 ∈ q_al := q_ali 1568 (by decide +kernel) (by decide +kernel)
theorem q_h1571 : Cond.fieldLink RX12 168 (TX12 22).1 (TX12 22).2.1 (TX12 22).2.2.1 ∈ q_al := q_ali 1571 (by decide +kernel) (by decide +kernel)
theorem q_h1855 : Cond.constantLong RX12 341 (q_l 10) ∈ q_al := q_ali 1855 (by decide +kernel) (by decide +kernel)
theorem q_h1856 : Cond.methodLink RX12 343 yX12_inState ∈ q_al := q_ali 1856 (by decide +kernel) (by decide +kernel)
theorem q_h1859 : Cond.code yX12_inState cX12_inState 4 (some .int) ∈ q_al := q_ali 1859 (by decide +kernel) (by decide +kernel)
theorem q_h1858 : Cond.instanceMethod yX12_inState ∈ q_al := q_ali 1858 (by decide +kernel) (by decide +kernel)
theorem q_h70 : Cond.selects RX12 yX12_inState yX12_inState ∈ q_al := q_ali 70 (by decide +kernel) (by decide +kernel)
theorem q_h1864 : Cond.methodLink RX12 346 yX12_inTime ∈ q_al := q_ali 1864 (by decide +kernel) (by decide +kernel)
theorem q_h1867 : Cond.code yX12_inTime cX12_inTime 3 (some .int) ∈ q_al := q_ali 1867 (by decide +kernel) (by decide +kernel)
theorem q_h1866 : Cond.instanceMethod yX12_inTime ∈ q_al := q_ali 1866 (by decide +kernel) (by decide +kernel)
theorem q_h72 : Cond.selects RX12 yX12_inTime yX12_inTime ∈ q_al := q_ali 72 (by decide +kernel) (by decide +kernel)
theorem q_h1868 : Cond.methodLink RX12 349 yX12_notOut ∈ q_al := q_ali 1868 (by decide +kernel) (by decide +kernel)
theorem q_h1871 : Cond.code yX12_notOut cX12_notOut 3 (some .int) ∈ q_al := q_ali 1871 (by decide +kernel) (by decide +kernel)
theorem q_h1870 : Cond.instanceMethod yX12_notOut ∈ q_al := q_ali 1870 (by decide +kernel) (by decide +kernel)
theorem q_h73 : Cond.selects RX12 yX12_notOut yX12_notOut ∈ q_al := q_ali 73 (by decide +kernel) (by decide +kernel)
theorem q_h1896 : Cond.methodLink RX12 362 yX12_isAwakeNow ∈ q_al := q_ali 1896 (by decide +kernel) (by decide +kernel)
theorem q_h1899 : Cond.code yX12_isAwakeNow cX12_isAwakeNow 2 (some .boolean) ∈ q_al := q_ali 1899 (by decide +kernel) (by decide +kernel)
theorem q_h1898 : Cond.instanceMethod yX12_isAwakeNow ∈ q_al := q_ali 1898 (by decide +kernel) (by decide +kernel)
theorem q_h79 : Cond.selects RX12 yX12_isAwakeNow yX12_isAwakeNow ∈ q_al := q_ali 79 (by decide +kernel) (by decide +kernel)
theorem q_h1916 : Cond.methodLink RX12 365 yX12_daysOf ∈ q_al := q_ali 1916 (by decide +kernel) (by decide +kernel)
theorem q_h1919 : Cond.code yX12_daysOf cX12_daysOf 4 (some .int) ∈ q_al := q_ali 1919 (by decide +kernel) (by decide +kernel)
theorem q_h1918 : Cond.instanceMethod yX12_daysOf ∈ q_al := q_ali 1918 (by decide +kernel) (by decide +kernel)
theorem q_h84 : Cond.selects RX12 yX12_daysOf yX12_daysOf ∈ q_al := q_ali 84 (by decide +kernel) (by decide +kernel)
theorem q_h1920 : Cond.methodLink RX12 368 yX12_underWayAt ∈ q_al := q_ali 1920 (by decide +kernel) (by decide +kernel)
theorem q_h1923 : Cond.code yX12_underWayAt cX12_underWayAt 4 (some .int) ∈ q_al := q_ali 1923 (by decide +kernel) (by decide +kernel)
theorem q_h1922 : Cond.instanceMethod yX12_underWayAt ∈ q_al := q_ali 1922 (by decide +kernel) (by decide +kernel)
theorem q_h85 : Cond.selects RX12 yX12_underWayAt yX12_underWayAt ∈ q_al := q_ali 85 (by decide +kernel) (by decide +kernel)
theorem q_h1932 : Cond.constantLong RX12 371 (q_l 4) ∈ q_al := q_ali 1932 (by decide +kernel) (by decide +kernel)
theorem q_h1941 : Cond.constantLong RX12 376 (q_l 7) ∈ q_al := q_ali 1941 (by decide +kernel) (by decide +kernel)
theorem q_h1946 : Cond.methodLink RX12 384 yX12_letterOf ∈ q_al := q_ali 1946 (by decide +kernel) (by decide +kernel)
theorem q_h1948 : Cond.code yX12_letterOf cX12_letterOf 4 (some .int) ∈ q_al := q_ali 1948 (by decide +kernel) (by decide +kernel)
theorem q_h1947 : Cond.static yX12_letterOf ∈ q_al := q_ali 1947 (by decide +kernel) (by decide +kernel)
theorem q_h1998 : Cond.methodLink RX12 399 yX12_bits ∈ q_al := q_ali 1998 (by decide +kernel) (by decide +kernel)
theorem q_h2000 : Cond.code yX12_bits cX12_bits 3 (some .int) ∈ q_al := q_ali 2000 (by decide +kernel) (by decide +kernel)
theorem q_h1999 : Cond.static yX12_bits ∈ q_al := q_ali 1999 (by decide +kernel) (by decide +kernel)
theorem q_h2005 : Cond.methodLink RX12 402 yX12_hopsBetween ∈ q_al := q_ali 2005 (by decide +kernel) (by decide +kernel)
theorem q_h2008 : Cond.code yX12_hopsBetween cX12_hopsBetween 3 (some .int) ∈ q_al := q_ali 2008 (by decide +kernel) (by decide +kernel)
theorem q_h2007 : Cond.instanceMethod yX12_hopsBetween ∈ q_al := q_ali 2007 (by decide +kernel) (by decide +kernel)
theorem q_h92 : Cond.selects RX12 yX12_hopsBetween yX12_hopsBetween ∈ q_al := q_ali 92 (by decide +kernel) (by decide +kernel)
section QR
variable {p : Program} {l : Launch} {e : Env} {R : Room} {s : State} {m : MethodId} {args : Array Value} {below : List Frame} {meth : Method} {c : Code} {H : Heap} {locs : List Loc} {cells slots : Nat} {Q : State → Prop}
variable {cc : ByteArray} {pc nL : Nat} {ls : Array Slot} {rest : List Value} {g : q_G} {K : Nat → Nat} {L : List Nat} {A : Nat → Prop} {w : q_Ws} {f0 f : Nat → va_E} {a : Nat}
theorem q_cX12_89 : ∀ w ∈ wsV RX12 89 RX12 yX12_four (.code yX12_four cX12_four 3 none :: q_al), w ∈ q_al := q_cons q_h1686 (q_cons q_h1688 (q_cons q_h43 (q_cons q_h147 (q_cons q_h1689 q_self))))
theorem q_dX12_four : yX12_four.cls = RX12 ∧ yX12_four.cls ≠ "java/lang/invoke/MethodHandle" ∧ yX12_four.cls ≠ "java/lang/invoke/VarHandle" ∧ (parseMethodDescriptor yX12_four.desc).map (fun d => d.parameters.length) = some 1 := by decide +kernel
theorem q_gX12_151 {x : Int} (cx : CallFix p m c cc nL s args q_al RX12) (hB : q_B g K L A w f0 f s H locs) (ha : a ∈ L) (hk : K a = 12) (hv : q_z f a 10 = x) (hdg : decode cc pc = .ok (.getfield 151, 3)) (kk : (-2147483648) ≤ x → x ≤ 2147483647 → W p l e R s m args below meth c H locs cells slots Q (F0 m (pc + 3) ls (.int (q_i x) :: rest))) : W p l e R s m args below meth c H locs cells slots Q (F0 m pc ls (.ref a :: rest)) := q_geti cx hB ha hk (by decide) rfl rfl q_inX12 (by decide) q_h1559 hv hdg kk
theorem q_gX12_17 {x : Int} (cx : CallFix p m c cc nL s args q_al RX12) (hB : q_B g K L A w f0 f s H locs) (ha : a ∈ L) (hk : K a = 12) (hv : q_z f a 11 = x) (hdg : decode cc pc = .ok (.getfield 17, 3)) (kk : (-2147483648) ≤ x → x ≤ 2147483647 → W p l e R s m args below meth c H locs cells slots Q (F0 m (pc + 3) ls (.int (q_i x) :: rest))) : W p l e R s m args below meth c H locs cells slots Q (F0 m pc ls (.ref a :: rest)) := q_geti cx hB ha hk (by decide) rfl rfl q_inX12 (by decide) q_h1560 hv hdg kk
theorem q_cX12_244 : ∀ w ∈ wsV RX12 244 RX12 yX12_beginsText (.code yX12_beginsText cX12_beginsText 1 none :: q_al), w ∈ q_al := q_cons q_h1727 (q_cons q_h1729 (q_cons q_h44 (q_cons q_h147 (q_cons q_h1730 q_self))))
theorem q_dX12_beginsText : yX12_beginsText.cls = RX12 ∧ yX12_beginsText.cls ≠ "java/lang/invoke/MethodHandle" ∧ yX12_beginsText.cls ≠ "java/lang/invoke/VarHandle" ∧ (parseMethodDescriptor yX12_beginsText.desc).map (fun d => d.parameters.length) = some 0 := by decide +kernel
theorem q_gX12_42 {b : Nat} (cx : CallFix p m c cc nL s args q_al RX12) (hB : q_B g K L A w f0 f s H locs) (ha : a ∈ L) (hk : K a = 12) (hv : q_r f a 20 = b) (hdg : decode cc pc = .ok (.getfield 42, 3)) (kk : b ∈ L → K b = 158 → W p l e R s m args below meth c H locs cells slots Q (F0 m (pc + 3) ls (.ref b :: rest))) : W p l e R s m args below meth c H locs cells slots Q (F0 m pc ls (.ref a :: rest)) := q_getr (k2 := 158) cx hB ha hk (by decide) rfl rfl q_inX12 (by decide) q_h1569 hv hdg kk
theorem q_cX12_164 : ∀ w ∈ va_wsS RX12 164 yX12_copiesNames (.code yX12_copiesNames cX12_copiesNames 3 none :: q_al), w ∈ q_al := q_cons q_h1716 (q_cons q_h1717 (q_cons q_h147 (q_cons q_h1718 q_self)))
theorem q_dX12_copiesNames : yX12_copiesNames.cls ≠ "java/lang/invoke/MethodHandle" ∧ yX12_copiesNames.cls ≠ "java/lang/invoke/VarHandle" ∧ (parseMethodDescriptor yX12_copiesNames.desc).map (fun d => d.parameters.length) = some 2 := by decide +kernel
theorem q_cX12_72 : ∀ w ∈ wsV RX12 72 RX12 yX12_clears (.code yX12_clears cX12_clears 2 none :: q_al), w ∈ q_al := q_cons q_h1545 (q_cons q_h1547 (q_cons q_h41 (q_cons q_h147 (q_cons q_h1548 q_self))))
theorem q_dX12_clears : yX12_clears.cls = RX12 ∧ yX12_clears.cls ≠ "java/lang/invoke/MethodHandle" ∧ yX12_clears.cls ≠ "java/lang/invoke/VarHandle" ∧ (parseMethodDescriptor yX12_clears.desc).map (fun d => d.parameters.length) = some 0 := by decide +kernel
theorem q_cX12_253 : ∀ w ∈ wsV RX12 253 RX12 yX12_endsText (.code yX12_endsText cX12_endsText 1 (some .boolean) :: q_al), w ∈ q_al := q_cons q_h1843 (q_cons q_h1845 (q_cons q_h68 (q_cons q_h147 (q_cons q_h1846 q_self))))
theorem q_dX12_endsText : yX12_endsText.cls = RX12 ∧ yX12_endsText.cls ≠ "java/lang/invoke/MethodHandle" ∧ yX12_endsText.cls ≠ "java/lang/invoke/VarHandle" ∧ (parseMethodDescriptor yX12_endsText.desc).map (fun d => d.parameters.length) = some 0 := by decide +kernel
theorem q_cX12_250 : ∀ w ∈ wsV RX12 250 RX12 yX12_statement (.code yX12_statement cX12_statement 1 none :: q_al), w ∈ q_al := q_cons q_h1753 (q_cons q_h1755 (q_cons q_h49 (q_cons q_h147 (q_cons q_h1756 q_self))))
theorem q_dX12_statement : yX12_statement.cls = RX12 ∧ yX12_statement.cls ≠ "java/lang/invoke/MethodHandle" ∧ yX12_statement.cls ≠ "java/lang/invoke/VarHandle" ∧ (parseMethodDescriptor yX12_statement.desc).map (fun d => d.parameters.length) = some 0 := by decide +kernel
theorem q_gX12_23 {b : Nat} (cx : CallFix p m c cc nL s args q_al RX12) (hB : q_B g K L A w f0 f s H locs) (ha : a ∈ L) (hk : K a = 12) (hv : q_r f a 14 = b) (hdg : decode cc pc = .ok (.getfield 23, 3)) (kk : b ∈ L → K b = 152 → W p l e R s m args below meth c H locs cells slots Q (F0 m (pc + 3) ls (.ref b :: rest))) : W p l e R s m args below meth c H locs cells slots Q (F0 m pc ls (.ref a :: rest)) := q_getr (k2 := 152) cx hB ha hk (by decide) rfl rfl q_inX12 (by decide) q_h1563 hv hdg kk
theorem q_gX12_39 {b : Nat} (cx : CallFix p m c cc nL s args q_al RX12) (hB : q_B g K L A w f0 f s H locs) (ha : a ∈ L) (hk : K a = 12) (hv : q_r f a 19 = b) (hdg : decode cc pc = .ok (.getfield 39, 3)) (kk : b ∈ L → K b = 157 → W p l e R s m args below meth c H locs cells slots Q (F0 m (pc + 3) ls (.ref b :: rest))) : W p l e R s m args below meth c H locs cells slots Q (F0 m pc ls (.ref a :: rest)) := q_getr (k2 := 157) cx hB ha hk (by decide) rfl rfl q_inX12 (by decide) q_h1568 hv hdg kk
theorem q_pX12_168 {x : Int} (cx : CallFix p m c cc nL s args q_al RX12) (hB : q_B g K L A w f0 f s H locs) (ha : a ∈ L) (hk : K a = 12) (hr : q_R x) (h1 : 0 ≤ x) (h2 : x ≤ 1) (hw : q_inW w 12 22 = true) (hdg : decode cc pc = .ok (.putfield 168, 3)) (kk : ∀ (H1 : Heap) (locs1 : List Loc) (f1 : Nat → va_E), f1 = q_set f a 22 (.int (q_i x)) → q_z f1 a 22 = x → q_B g K L A w f0 f1 s H1 locs1 → W p l e R s m args below meth c H1 locs1 cells slots Q (F0 m (pc + 3) ls rest)) : W p l e R s m args below meth c H locs cells slots Q (F0 m pc ls (.int (q_i x) :: .ref a :: rest)) := q_puti cx hB ha hk (by decide) rfl rfl q_inX12 tyX12 q_yX12 q_nX12 (by decide) rfl q_h1571 (q_narz h1 h2) (q_fitz h1 h2) hr h1 h2 hw hdg kk
theorem q_gX12_168 {x : Int} (cx : CallFix p m c cc nL s args q_al RX12) (hB : q_B g K L A w f0 f s H locs) (ha : a ∈ L) (hk : K a = 12) (hv : q_z f a 22 = x) (hdg : decode cc pc = .ok (.getfield 168, 3)) (kk : 0 ≤ x → x ≤ 1 → W p l e R s m args below meth c H locs cells slots Q (F0 m (pc + 3) ls (.int (q_i x) :: rest))) : W p l e R s m args below meth c H locs cells slots Q (F0 m pc ls (.ref a :: rest)) := q_geti cx hB ha hk (by decide) rfl rfl q_inX12 (by decide) q_h1571 hv hdg kk
theorem q_cX12_343 : ∀ w ∈ wsV RX12 343 RX12 yX12_inState (.code yX12_inState cX12_inState 4 (some .int) :: q_al), w ∈ q_al := q_cons q_h1856 (q_cons q_h1858 (q_cons q_h70 (q_cons q_h147 (q_cons q_h1859 q_self))))
theorem q_dX12_inState : yX12_inState.cls = RX12 ∧ yX12_inState.cls ≠ "java/lang/invoke/MethodHandle" ∧ yX12_inState.cls ≠ "java/lang/invoke/VarHandle" ∧ (parseMethodDescriptor yX12_inState.desc).map (fun d => d.parameters.length) = some 1 := by decide +kernel
theorem q_cX12_346 : ∀ w ∈ wsV RX12 346 RX12 yX12_inTime (.code yX12_inTime cX12_inTime 3 (some .int) :: q_al), w ∈ q_al := q_cons q_h1864 (q_cons q_h1866 (q_cons q_h72 (q_cons q_h147 (q_cons q_h1867 q_self))))
theorem q_dX12_inTime : yX12_inTime.cls = RX12 ∧ yX12_inTime.cls ≠ "java/lang/invoke/MethodHandle" ∧ yX12_inTime.cls ≠ "java/lang/invoke/VarHandle" ∧ (parseMethodDescriptor yX12_inTime.desc).map (fun d => d.parameters.length) = some 0 := by decide +kernel
theorem q_cX12_349 : ∀ w ∈ wsV RX12 349 RX12 yX12_notOut (.code yX12_notOut cX12_notOut 3 (some .int) :: q_al), w ∈ q_al := q_cons q_h1868 (q_cons q_h1870 (q_cons q_h73 (q_cons q_h147 (q_cons q_h1871 q_self))))
theorem q_dX12_notOut : yX12_notOut.cls = RX12 ∧ yX12_notOut.cls ≠ "java/lang/invoke/MethodHandle" ∧ yX12_notOut.cls ≠ "java/lang/invoke/VarHandle" ∧ (parseMethodDescriptor yX12_notOut.desc).map (fun d => d.parameters.length) = some 0 := by decide +kernel
theorem q_cX12_362 : ∀ w ∈ wsV RX12 362 RX12 yX12_isAwakeNow (.code yX12_isAwakeNow cX12_isAwakeNow 2 (some .boolean) :: q_al), w ∈ q_al := q_cons q_h1896 (q_cons q_h1898 (q_cons q_h79 (q_cons q_h147 (q_cons q_h1899 q_self))))
theorem q_dX12_isAwakeNow : yX12_isAwakeNow.cls = RX12 ∧ yX12_isAwakeNow.cls ≠ "java/lang/invoke/MethodHandle" ∧ yX12_isAwakeNow.cls ≠ "java/lang/invoke/VarHandle" ∧ (parseMethodDescriptor yX12_isAwakeNow.desc).map (fun d => d.parameters.length) = some 1 := by decide +kernel
theorem q_cX12_365 : ∀ w ∈ wsV RX12 365 RX12 yX12_daysOf (.code yX12_daysOf cX12_daysOf 4 (some .int) :: q_al), w ∈ q_al := q_cons q_h1916 (q_cons q_h1918 (q_cons q_h84 (q_cons q_h147 (q_cons q_h1919 q_self))))
theorem q_dX12_daysOf : yX12_daysOf.cls = RX12 ∧ yX12_daysOf.cls ≠ "java/lang/invoke/MethodHandle" ∧ yX12_daysOf.cls ≠ "java/lang/invoke/VarHandle" ∧ (parseMethodDescriptor yX12_daysOf.desc).map (fun d => d.parameters.length) = some 1 := by decide +kernel
theorem q_cX12_368 : ∀ w ∈ wsV RX12 368 RX12 yX12_underWayAt (.code yX12_underWayAt cX12_underWayAt 4 (some .int) :: q_al), w ∈ q_al := q_cons q_h1920 (q_cons q_h1922 (q_cons q_h85 (q_cons q_h147 (q_cons q_h1923 q_self))))
theorem q_dX12_underWayAt : yX12_underWayAt.cls = RX12 ∧ yX12_underWayAt.cls ≠ "java/lang/invoke/MethodHandle" ∧ yX12_underWayAt.cls ≠ "java/lang/invoke/VarHandle" ∧ (parseMethodDescriptor yX12_underWayAt.desc).map (fun d => d.parameters.length) = some 1 := by decide +kernel
theorem q_cX12_384 : ∀ w ∈ va_wsS RX12 384 yX12_letterOf (.code yX12_letterOf cX12_letterOf 4 (some .int) :: q_al), w ∈ q_al := q_cons q_h1946 (q_cons q_h1947 (q_cons q_h147 (q_cons q_h1948 q_self)))
theorem q_dX12_letterOf : yX12_letterOf.cls ≠ "java/lang/invoke/MethodHandle" ∧ yX12_letterOf.cls ≠ "java/lang/invoke/VarHandle" ∧ (parseMethodDescriptor yX12_letterOf.desc).map (fun d => d.parameters.length) = some 2 := by decide +kernel
theorem q_cX12_399 : ∀ w ∈ va_wsS RX12 399 yX12_bits (.code yX12_bits cX12_bits 3 (some .int) :: q_al), w ∈ q_al := q_cons q_h1998 (q_cons q_h1999 (q_cons q_h147 (q_cons q_h2000 q_self)))
theorem q_dX12_bits : yX12_bits.cls ≠ "java/lang/invoke/MethodHandle" ∧ yX12_bits.cls ≠ "java/lang/invoke/VarHandle" ∧ (parseMethodDescriptor yX12_bits.desc).map (fun d => d.parameters.length) = some 1 := by decide +kernel
theorem q_cX12_402 : ∀ w ∈ wsV RX12 402 RX12 yX12_hopsBetween (.code yX12_hopsBetween cX12_hopsBetween 3 (some .int) :: q_al), w ∈ q_al := q_cons q_h2005 (q_cons q_h2007 (q_cons q_h92 (q_cons q_h147 (q_cons q_h2008 q_self))))
theorem q_dX12_hopsBetween : yX12_hopsBetween.cls = RX12 ∧ yX12_hopsBetween.cls ≠ "java/lang/invoke/MethodHandle" ∧ yX12_hopsBetween.cls ≠ "java/lang/invoke/VarHandle" ∧ (parseMethodDescriptor yX12_hopsBetween.desc).map (fun d => d.parameters.length) = some 2 := by decide +kernel
end QR
