theorem q_h1690 : Cond.methodLink RX12 89 yX12_four ∈ q_al := q_ali 1690 (by decide +kernel) (by decide +kernel)
theorem q_h1693 : Cond.code yX12_four cX12_four 3 none ∈ q_al := q_ali 1693 (by decide +kernel) (by decide +kernel)
theorem q_h1692 : Cond.instanceMethod yX12_four ∈ q_al := q_ali 1692 (by decide +kernel) (by decide +kernel)
theorem q_h43 : Cond.selects RX12 yX12_four yX12_four ∈ q_al := q_ali 43 (by decide +kernel) (by decide +kernel)
theorem q_h1731 : Cond.methodLink RX12 244 yX12_beginsText ∈ q_al := q_ali 1731 (by decide +kernel) (by decide +kernel)
theorem q_h1734 : Cond.code yX12_beginsText cX12_beginsText 1 none ∈ q_al := q_ali 1734 (by decide +kernel) (by decide +kernel)
theorem q_h1733 : Cond.instanceMethod yX12_beginsText ∈ q_al := q_ali 1733 (by decide +kernel) (by decide +kernel)
theorem q_h44 : Cond.selects RX12 yX12_beginsText yX12_beginsText ∈ q_al := q_ali 44 (by decide +kernel) (by decide +kernel)
theorem q_h1749 : Cond.methodLink RX12 247 yX12_laysAside ∈ q_al := q_ali 1749 (by decide +kernel) (by decide +kernel)
theorem q_h1752 : Cond.code yX12_laysAside cX12_laysAside 1 none ∈ q_al := q_ali 1752 (by decide +kernel) (by decide +kernel)
theorem q_h1751 : Cond.instanceMethod yX12_laysAside ∈ q_al := q_ali 1751 (by decide +kernel) (by decide +kernel)
theorem q_h47 : Cond.selects RX12 yX12_laysAside yX12_laysAside ∈ q_al := q_ali 47 (by decide +kernel) (by decide +kernel)
theorem q_h1569 : Cond.fieldLink RX12 42 (TX12 20).1 (TX12 20).2.1 (TX12 20).2.2.1 ∈ q_al := q_ali 1569 (by decide +kernel) (by decide +kernel)
theorem q_h1720 : Cond.methodLink RX12 164 yX12_copiesNames ∈ q_al := q_ali 1720 (by decide +kernel) (by decide +kernel)
theorem q_h1722 : Cond.code yX12_copiesNames cX12_copiesNames 3 none ∈ q_al := q_ali 1722 (by decide +kernel) (by decide +kernel)
theorem q_h1721 : Cond.static yX12_copiesNames ∈ q_al := q_ali 1721 (by decide +kernel) (by decide +kernel)
theorem q_h1545 : Cond.methodLink RX12 72 yX12_clears ∈ q_al := q_ali 1545 (by decide +kernel) (by decide +kernel)
theorem q_h1548 : Cond.code yX12_clears cX12_clears 2 none ∈ q_al := q_ali 1548 (by decide +kernel) (by decide +kernel)
theorem q_h1547 : Cond.instanceMethod yX12_clears ∈ q_al := q_ali 1547 (by decide +kernel) (by decide +kernel)
theorem q_h41 : Cond.selects RX12 yX12_clears yX12_clears ∈ q_al := q_ali 41 (by decide +kernel) (by decide +kernel)
theorem q_h1572 : Cond.fieldLink RX12 182 (TX12 23).1 (TX12 23).2.1 (TX12 23).2.2.1 ∈ q_al := q_ali 1572 (by decide +kernel) (by decide +kernel)
theorem q_h1753 : Cond.methodLink RX12 130 yX12_isGood ∈ q_al := q_ali 1753 (by decide +kernel) (by decide +kernel)
theorem q_h1756 : Cond.code yX12_isGood cX12_isGood 1 (some .boolean) ∈ q_al := q_ali 1756 (by decide +kernel) (by decide +kernel)
theorem q_h1755 : Cond.instanceMethod yX12_isGood ∈ q_al := q_ali 1755 (by decide +kernel) (by decide +kernel)
theorem q_h48 : Cond.selects RX12 yX12_isGood yX12_isGood ∈ q_al := q_ali 48 (by decide +kernel) (by decide +kernel)
theorem q_h1847 : Cond.methodLink RX12 253 yX12_endsText ∈ q_al := q_ali 1847 (by decide +kernel) (by decide +kernel)
theorem q_h1850 : Cond.code yX12_endsText cX12_endsText 1 (some .boolean) ∈ q_al := q_ali 1850 (by decide +kernel) (by decide +kernel)
theorem q_h1849 : Cond.instanceMethod yX12_endsText ∈ q_al := q_ali 1849 (by decide +kernel) (by decide +kernel)
theorem q_h68 : Cond.selects RX12 yX12_endsText yX12_endsText ∈ q_al := q_ali 68 (by decide +kernel) (by decide +kernel)
theorem q_h1585 : Cond.fieldLink RX12 491 (TX12 36).1 (TX12 36).2.1 (TX12 36).2.2.1 ∈ q_al := q_ali 1585 (by decide +kernel) (by decide +kernel)
theorem q_h1586 : Cond.fieldLink RX12 488 (TX12 37).1 (TX12 37).2.1 (TX12 37).2.2.1 ∈ q_al := q_ali 1586 (by decide +kernel) (by decide +kernel)
theorem q_h2242 : Cond.methodLink RX12 506 yX12_runs ∈ q_al := q_ali 2242 (by decide +kernel) (by decide +kernel)
theorem q_h2245 : Cond.code yX12_runs cX12_runs 6 (some .int) ∈ q_al := q_ali 2245 (by decide +kernel) (by decide +kernel)
theorem q_h2244 : Cond.instanceMethod yX12_runs ∈ q_al := q_ali 2244 (by decide +kernel) (by decide +kernel)
theorem q_h128 : Cond.selects RX12 yX12_runs yX12_runs ∈ q_al := q_ali 128 (by decide +kernel) (by decide +kernel)
theorem q_h1859 : Cond.constantLong RX12 341 (q_l 10) ∈ q_al := q_ali 1859 (by decide +kernel) (by decide +kernel)
theorem q_h1860 : Cond.methodLink RX12 343 yX12_inState ∈ q_al := q_ali 1860 (by decide +kernel) (by decide +kernel)
theorem q_h1863 : Cond.code yX12_inState cX12_inState 4 (some .int) ∈ q_al := q_ali 1863 (by decide +kernel) (by decide +kernel)
theorem q_h1862 : Cond.instanceMethod yX12_inState ∈ q_al := q_ali 1862 (by decide +kernel) (by decide +kernel)
theorem q_h70 : Cond.selects RX12 yX12_inState yX12_inState ∈ q_al := q_ali 70 (by decide +kernel) (by decide +kernel)
theorem q_h1868 : Cond.methodLink RX12 346 yX12_inTime ∈ q_al := q_ali 1868 (by decide +kernel) (by decide +kernel)
theorem q_h1871 : Cond.code yX12_inTime cX12_inTime 3 (some .int) ∈ q_al := q_ali 1871 (by decide +kernel) (by decide +kernel)
theorem q_h1870 : Cond.instanceMethod yX12_inTime ∈ q_al := q_ali 1870 (by decide +kernel) (by decide +kernel)
theorem q_h72 : Cond.selects RX12 yX12_inTime yX12_inTime ∈ q_al := q_ali 72 (by decide +kernel) (by decide +kernel)
theorem q_h1872 : Cond.methodLink RX12 349 yX12_notOut ∈ q_al := q_ali 1872 (by decide +kernel) (by decide +kernel)
theorem q_h1875 : Cond.code yX12_notOut cX12_notOut 3 (some .int) ∈ q_al := q_ali 1875 (by decide +kernel) (by decide +kernel)
theorem q_h1874 : Cond.instanceMethod yX12_notOut ∈ q_al := q_ali 1874 (by decide +kernel) (by decide +kernel)
theorem q_h73 : Cond.selects RX12 yX12_notOut yX12_notOut ∈ q_al := q_ali 73 (by decide +kernel) (by decide +kernel)
theorem q_h1884 : Cond.methodLink RX12 355 yX12_isNode ∈ q_al := q_ali 1884 (by decide +kernel) (by decide +kernel)
theorem q_h1887 : Cond.code yX12_isNode cX12_isNode 2 (some .boolean) ∈ q_al := q_ali 1887 (by decide +kernel) (by decide +kernel)
theorem q_h1886 : Cond.instanceMethod yX12_isNode ∈ q_al := q_ali 1886 (by decide +kernel) (by decide +kernel)
theorem q_h75 : Cond.selects RX12 yX12_isNode yX12_isNode ∈ q_al := q_ali 75 (by decide +kernel) (by decide +kernel)
theorem q_h1941 : Cond.methodLink RX12 373 yX12_isMessage ∈ q_al := q_ali 1941 (by decide +kernel) (by decide +kernel)
theorem q_h1944 : Cond.code yX12_isMessage cX12_isMessage 2 (some .boolean) ∈ q_al := q_ali 1944 (by decide +kernel) (by decide +kernel)
theorem q_h1943 : Cond.instanceMethod yX12_isMessage ∈ q_al := q_ali 1943 (by decide +kernel) (by decide +kernel)
theorem q_h87 : Cond.selects RX12 yX12_isMessage yX12_isMessage ∈ q_al := q_ali 87 (by decide +kernel) (by decide +kernel)
theorem q_h1945 : Cond.constantLong RX12 376 (q_l 7) ∈ q_al := q_ali 1945 (by decide +kernel) (by decide +kernel)
theorem q_h1961 : Cond.methodLink RX12 388 yX12_isDay ∈ q_al := q_ali 1961 (by decide +kernel) (by decide +kernel)
theorem q_h1964 : Cond.code yX12_isDay cX12_isDay 2 (some .boolean) ∈ q_al := q_ali 1964 (by decide +kernel) (by decide +kernel)
theorem q_h1963 : Cond.instanceMethod yX12_isDay ∈ q_al := q_ali 1963 (by decide +kernel) (by decide +kernel)
theorem q_h88 : Cond.selects RX12 yX12_isDay yX12_isDay ∈ q_al := q_ali 88 (by decide +kernel) (by decide +kernel)
theorem q_h2119 : Cond.constantLong RX12 425 (q_l 200) ∈ q_al := q_ali 2119 (by decide +kernel) (by decide +kernel)
theorem q_h2179 : Cond.methodLink RX12 458 yX12_goesAll ∈ q_al := q_ali 2179 (by decide +kernel) (by decide +kernel)
theorem q_h2182 : Cond.code yX12_goesAll cX12_goesAll 4 (some .boolean) ∈ q_al := q_ali 2182 (by decide +kernel) (by decide +kernel)
theorem q_h2181 : Cond.instanceMethod yX12_goesAll ∈ q_al := q_ali 2181 (by decide +kernel) (by decide +kernel)
theorem q_h120 : Cond.selects RX12 yX12_goesAll yX12_goesAll ∈ q_al := q_ali 120 (by decide +kernel) (by decide +kernel)
theorem q_h2171 : Cond.methodLink RX12 452 yX12_isMany ∈ q_al := q_ali 2171 (by decide +kernel) (by decide +kernel)
theorem q_h2173 : Cond.code yX12_isMany cX12_isMany 1 (some .boolean) ∈ q_al := q_ali 2173 (by decide +kernel) (by decide +kernel)
theorem q_h2172 : Cond.static yX12_isMany ∈ q_al := q_ali 2172 (by decide +kernel) (by decide +kernel)
theorem q_h1936 : Cond.constantLong RX12 371 (q_l 4) ∈ q_al := q_ali 1936 (by decide +kernel) (by decide +kernel)
theorem q_h1589 : Cond.fieldLink RX12 524 (TX12 40).1 (TX12 40).2.1 (TX12 40).2.2.1 ∈ q_al := q_ali 1589 (by decide +kernel) (by decide +kernel)
theorem q_h2002 : Cond.methodLink RX12 399 yX12_bits ∈ q_al := q_ali 2002 (by decide +kernel) (by decide +kernel)
theorem q_h2004 : Cond.code yX12_bits cX12_bits 3 (some .int) ∈ q_al := q_ali 2004 (by decide +kernel) (by decide +kernel)
theorem q_h2003 : Cond.static yX12_bits ∈ q_al := q_ali 2003 (by decide +kernel) (by decide +kernel)
theorem q_h2040 : Cond.methodLink RX12 405 yX12_leaves ∈ q_al := q_ali 2040 (by decide +kernel) (by decide +kernel)
theorem q_h2043 : Cond.code yX12_leaves cX12_leaves 1 none ∈ q_al := q_ali 2043 (by decide +kernel) (by decide +kernel)
theorem q_h2042 : Cond.instanceMethod yX12_leaves ∈ q_al := q_ali 2042 (by decide +kernel) (by decide +kernel)
theorem q_h96 : Cond.selects RX12 yX12_leaves yX12_leaves ∈ q_al := q_ali 96 (by decide +kernel) (by decide +kernel)
theorem q_h2091 : Cond.methodLink RX12 411 yX12_comesBack ∈ q_al := q_ali 2091 (by decide +kernel) (by decide +kernel)
theorem q_h2094 : Cond.code yX12_comesBack cX12_comesBack 2 (some .int) ∈ q_al := q_ali 2094 (by decide +kernel) (by decide +kernel)
theorem q_h2093 : Cond.instanceMethod yX12_comesBack ∈ q_al := q_ali 2093 (by decide +kernel) (by decide +kernel)
theorem q_h108 : Cond.selects RX12 yX12_comesBack yX12_comesBack ∈ q_al := q_ali 108 (by decide +kernel) (by decide +kernel)
theorem q_h2156 : Cond.methodLink RX12 446 yX12_areTicks ∈ q_al := q_ali 2156 (by decide +kernel) (by decide +kernel)
theorem q_h2158 : Cond.code yX12_areTicks cX12_areTicks 1 (some .boolean) ∈ q_al := q_ali 2158 (by decide +kernel) (by decide +kernel)
theorem q_h2157 : Cond.static yX12_areTicks ∈ q_al := q_ali 2157 (by decide +kernel) (by decide +kernel)
theorem q_h2120 : Cond.methodLink RX12 427 yX12_ticksOn ∈ q_al := q_ali 2120 (by decide +kernel) (by decide +kernel)
theorem q_h2123 : Cond.code yX12_ticksOn cX12_ticksOn 4 (some .int) ∈ q_al := q_ali 2123 (by decide +kernel) (by decide +kernel)
theorem q_h2122 : Cond.instanceMethod yX12_ticksOn ∈ q_al := q_ali 2122 (by decide +kernel) (by decide +kernel)
theorem q_h112 : Cond.selects RX12 yX12_ticksOn yX12_ticksOn ∈ q_al := q_ali 112 (by decide +kernel) (by decide +kernel)
theorem q_h2159 : Cond.methodLink RX12 449 yX12_kept ∈ q_al := q_ali 2159 (by decide +kernel) (by decide +kernel)
theorem q_h2162 : Cond.code yX12_kept cX12_kept 2 (some .int) ∈ q_al := q_ali 2162 (by decide +kernel) (by decide +kernel)
theorem q_h2161 : Cond.instanceMethod yX12_kept ∈ q_al := q_ali 2161 (by decide +kernel) (by decide +kernel)
theorem q_h117 : Cond.selects RX12 yX12_kept yX12_kept ∈ q_al := q_ali 117 (by decide +kernel) (by decide +kernel)
theorem q_h2211 : Cond.constantLong RX12 468 (q_l 9) ∈ q_al := q_ali 2211 (by decide +kernel) (by decide +kernel)
theorem q_h2187 : Cond.methodLink RX12 462 yX12_swapsCell ∈ q_al := q_ali 2187 (by decide +kernel) (by decide +kernel)
theorem q_h2190 : Cond.code yX12_swapsCell cX12_swapsCell 4 (some .int) ∈ q_al := q_ali 2190 (by decide +kernel) (by decide +kernel)
theorem q_h2189 : Cond.instanceMethod yX12_swapsCell ∈ q_al := q_ali 2189 (by decide +kernel) (by decide +kernel)
theorem q_h121 : Cond.selects RX12 yX12_swapsCell yX12_swapsCell ∈ q_al := q_ali 121 (by decide +kernel) (by decide +kernel)
theorem q_h1588 : Cond.fieldLink RX12 515 (TX12 39).1 (TX12 39).2.1 (TX12 39).2.2.1 ∈ q_al := q_ali 1588 (by decide +kernel) (by decide +kernel)
theorem q_h1563 : Cond.fieldLink RX12 23 (TX12 14).1 (TX12 14).2.1 (TX12 14).2.2.1 ∈ q_al := q_ali 1563 (by decide +kernel) (by decide +kernel)
theorem q_h1568 : Cond.fieldLink RX12 39 (TX12 19).1 (TX12 19).2.1 (TX12 19).2.2.1 ∈ q_al := q_ali 1568 (by decide +kernel) (by decide +kernel)
theorem q_h1571 : Cond.fieldLink RX12 168 (TX12 22).1 (TX12 22).2.1 (TX12 22).2.2.1 ∈ q_al := q_ali 1571 (by decide +kernel) (by decide +kernel)
section QR
variable {p : Program} {l : Launch} {e : Env} {R : Room} {s : State} {m : MethodId} {args : Array Value} {below : List Frame} {meth : Method} {c : Code} {H : Heap} {locs : List Loc} {cells slots : Nat} {Q : State → Prop}
variable {cc : ByteArray} {pc nL : Nat} {ls : Array Slot} {rest : List Value} {g : q_G} {K : Nat → Nat} {L : List Nat} {A : Nat → Prop} {w : q_Ws} {f0 f : Nat → va_E} {a : Nat}
theorem q_cX12_89 : ∀ w ∈ wsV RX12 89 RX12 yX12_four (.code yX12_four cX12_four 3 none :: q_al), w ∈ q_al := q_cons q_h1690 (q_cons q_h1692 (q_cons q_h43 (q_cons q_h147 (q_cons q_h1693 q_self))))
theorem q_dX12_four : yX12_four.cls = RX12 ∧ yX12_four.cls ≠ "java/lang/invoke/MethodHandle" ∧ yX12_four.cls ≠ "java/lang/invoke/VarHandle" ∧ (parseMethodDescriptor yX12_four.desc).map (fun d => d.parameters.length) = some 1 := by decide +kernel
theorem q_cX12_244 : ∀ w ∈ wsV RX12 244 RX12 yX12_beginsText (.code yX12_beginsText cX12_beginsText 1 none :: q_al), w ∈ q_al := q_cons q_h1731 (q_cons q_h1733 (q_cons q_h44 (q_cons q_h147 (q_cons q_h1734 q_self))))
theorem q_dX12_beginsText : yX12_beginsText.cls = RX12 ∧ yX12_beginsText.cls ≠ "java/lang/invoke/MethodHandle" ∧ yX12_beginsText.cls ≠ "java/lang/invoke/VarHandle" ∧ (parseMethodDescriptor yX12_beginsText.desc).map (fun d => d.parameters.length) = some 0 := by decide +kernel
theorem q_cX12_247 : ∀ w ∈ wsV RX12 247 RX12 yX12_laysAside (.code yX12_laysAside cX12_laysAside 1 none :: q_al), w ∈ q_al := q_cons q_h1749 (q_cons q_h1751 (q_cons q_h47 (q_cons q_h147 (q_cons q_h1752 q_self))))
theorem q_dX12_laysAside : yX12_laysAside.cls = RX12 ∧ yX12_laysAside.cls ≠ "java/lang/invoke/MethodHandle" ∧ yX12_laysAside.cls ≠ "java/lang/invoke/VarHandle" ∧ (parseMethodDescriptor yX12_laysAside.desc).map (fun d => d.parameters.length) = some 0 := by decide +kernel
theorem q_gX12_42 {b : Nat} (cx : CallFix p m c cc nL s args q_al RX12) (hB : q_B g K L A w f0 f s H locs) (ha : a ∈ L) (hk : K a = 12) (hv : q_r f a 20 = b) (hdg : decode cc pc = .ok (.getfield 42, 3)) (kk : b ∈ L → K b = 158 → W p l e R s m args below meth c H locs cells slots Q (F0 m (pc + 3) ls (.ref b :: rest))) : W p l e R s m args below meth c H locs cells slots Q (F0 m pc ls (.ref a :: rest)) := q_getr (k2 := 158) cx hB ha hk (by decide) rfl rfl q_inX12 (by decide) q_h1569 hv hdg kk
theorem q_cX12_164 : ∀ w ∈ va_wsS RX12 164 yX12_copiesNames (.code yX12_copiesNames cX12_copiesNames 3 none :: q_al), w ∈ q_al := q_cons q_h1720 (q_cons q_h1721 (q_cons q_h147 (q_cons q_h1722 q_self)))
theorem q_dX12_copiesNames : yX12_copiesNames.cls ≠ "java/lang/invoke/MethodHandle" ∧ yX12_copiesNames.cls ≠ "java/lang/invoke/VarHandle" ∧ (parseMethodDescriptor yX12_copiesNames.desc).map (fun d => d.parameters.length) = some 2 := by decide +kernel
theorem q_cX12_72 : ∀ w ∈ wsV RX12 72 RX12 yX12_clears (.code yX12_clears cX12_clears 2 none :: q_al), w ∈ q_al := q_cons q_h1545 (q_cons q_h1547 (q_cons q_h41 (q_cons q_h147 (q_cons q_h1548 q_self))))
theorem q_dX12_clears : yX12_clears.cls = RX12 ∧ yX12_clears.cls ≠ "java/lang/invoke/MethodHandle" ∧ yX12_clears.cls ≠ "java/lang/invoke/VarHandle" ∧ (parseMethodDescriptor yX12_clears.desc).map (fun d => d.parameters.length) = some 0 := by decide +kernel
theorem q_pX12_182 {x : Int} (cx : CallFix p m c cc nL s args q_al RX12) (hB : q_B g K L A w f0 f s H locs) (ha : a ∈ L) (hk : K a = 12) (hr : q_R x) (h1 : (-2147483648) ≤ x) (h2 : x ≤ 2147483647) (hw : q_inW w 12 23 = true) (hdg : decode cc pc = .ok (.putfield 182, 3)) (kk : ∀ (H1 : Heap) (locs1 : List Loc) (f1 : Nat → va_E), f1 = q_set f a 23 (.int (q_i x)) → q_z f1 a 23 = x → q_B g K L A w f0 f1 s H1 locs1 → W p l e R s m args below meth c H1 locs1 cells slots Q (F0 m (pc + 3) ls rest)) : W p l e R s m args below meth c H locs cells slots Q (F0 m pc ls (.int (q_i x) :: .ref a :: rest)) := q_puti cx hB ha hk (by decide) rfl rfl q_inX12 tyX12 q_yX12 q_nX12 (by decide) rfl q_h1572 rfl rfl hr h1 h2 hw hdg kk
theorem q_cX12_130 : ∀ w ∈ wsV RX12 130 RX12 yX12_isGood (.code yX12_isGood cX12_isGood 1 (some .boolean) :: q_al), w ∈ q_al := q_cons q_h1753 (q_cons q_h1755 (q_cons q_h48 (q_cons q_h147 (q_cons q_h1756 q_self))))
theorem q_dX12_isGood : yX12_isGood.cls = RX12 ∧ yX12_isGood.cls ≠ "java/lang/invoke/MethodHandle" ∧ yX12_isGood.cls ≠ "java/lang/invoke/VarHandle" ∧ (parseMethodDescriptor yX12_isGood.desc).map (fun d => d.parameters.length) = some 0 := by decide +kernel
theorem q_gX12_117 {x : Int} (cx : CallFix p m c cc nL s args q_al RX12) (hB : q_B g K L A w f0 f s H locs) (ha : a ∈ L) (hk : K a = 12) (hv : q_z f a 6 = x) (hdg : decode cc pc = .ok (.getfield 117, 3)) (kk : (-2147483648) ≤ x → x ≤ 2147483647 → W p l e R s m args below meth c H locs cells slots Q (F0 m (pc + 3) ls (.int (q_i x) :: rest))) : W p l e R s m args below meth c H locs cells slots Q (F0 m pc ls (.ref a :: rest)) := q_geti cx hB ha hk (by decide) rfl rfl q_inX12 (by decide) q_h1555 hv hdg kk
theorem q_cX12_253 : ∀ w ∈ wsV RX12 253 RX12 yX12_endsText (.code yX12_endsText cX12_endsText 1 (some .boolean) :: q_al), w ∈ q_al := q_cons q_h1847 (q_cons q_h1849 (q_cons q_h68 (q_cons q_h147 (q_cons q_h1850 q_self))))
theorem q_dX12_endsText : yX12_endsText.cls = RX12 ∧ yX12_endsText.cls ≠ "java/lang/invoke/MethodHandle" ∧ yX12_endsText.cls ≠ "java/lang/invoke/VarHandle" ∧ (parseMethodDescriptor yX12_endsText.desc).map (fun d => d.parameters.length) = some 0 := by decide +kernel
theorem q_pX12_494 {x : Int} (cx : CallFix p m c cc nL s args q_al RX12) (hB : q_B g K L A w f0 f s H locs) (ha : a ∈ L) (hk : K a = 12) (hr : q_R x) (h1 : (-2147483648) ≤ x) (h2 : x ≤ 2147483647) (hw : q_inW w 12 35 = true) (hdg : decode cc pc = .ok (.putfield 494, 3)) (kk : ∀ (H1 : Heap) (locs1 : List Loc) (f1 : Nat → va_E), f1 = q_set f a 35 (.int (q_i x)) → q_z f1 a 35 = x → q_B g K L A w f0 f1 s H1 locs1 → W p l e R s m args below meth c H1 locs1 cells slots Q (F0 m (pc + 3) ls rest)) : W p l e R s m args below meth c H locs cells slots Q (F0 m pc ls (.int (q_i x) :: .ref a :: rest)) := q_puti cx hB ha hk (by decide) rfl rfl q_inX12 tyX12 q_yX12 q_nX12 (by decide) rfl q_h1584 rfl rfl hr h1 h2 hw hdg kk
theorem q_pX12_491 {x : Int} (cx : CallFix p m c cc nL s args q_al RX12) (hB : q_B g K L A w f0 f s H locs) (ha : a ∈ L) (hk : K a = 12) (hr : q_R x) (h1 : (-2147483648) ≤ x) (h2 : x ≤ 2147483647) (hw : q_inW w 12 36 = true) (hdg : decode cc pc = .ok (.putfield 491, 3)) (kk : ∀ (H1 : Heap) (locs1 : List Loc) (f1 : Nat → va_E), f1 = q_set f a 36 (.int (q_i x)) → q_z f1 a 36 = x → q_B g K L A w f0 f1 s H1 locs1 → W p l e R s m args below meth c H1 locs1 cells slots Q (F0 m (pc + 3) ls rest)) : W p l e R s m args below meth c H locs cells slots Q (F0 m pc ls (.int (q_i x) :: .ref a :: rest)) := q_puti cx hB ha hk (by decide) rfl rfl q_inX12 tyX12 q_yX12 q_nX12 (by decide) rfl q_h1585 rfl rfl hr h1 h2 hw hdg kk
theorem q_pX12_488 {x : Int} (cx : CallFix p m c cc nL s args q_al RX12) (hB : q_B g K L A w f0 f s H locs) (ha : a ∈ L) (hk : K a = 12) (hr : q_R x) (h1 : (-2147483648) ≤ x) (h2 : x ≤ 2147483647) (hw : q_inW w 12 37 = true) (hdg : decode cc pc = .ok (.putfield 488, 3)) (kk : ∀ (H1 : Heap) (locs1 : List Loc) (f1 : Nat → va_E), f1 = q_set f a 37 (.int (q_i x)) → q_z f1 a 37 = x → q_B g K L A w f0 f1 s H1 locs1 → W p l e R s m args below meth c H1 locs1 cells slots Q (F0 m (pc + 3) ls rest)) : W p l e R s m args below meth c H locs cells slots Q (F0 m pc ls (.int (q_i x) :: .ref a :: rest)) := q_puti cx hB ha hk (by decide) rfl rfl q_inX12 tyX12 q_yX12 q_nX12 (by decide) rfl q_h1586 rfl rfl hr h1 h2 hw hdg kk
theorem q_gX12_488 {x : Int} (cx : CallFix p m c cc nL s args q_al RX12) (hB : q_B g K L A w f0 f s H locs) (ha : a ∈ L) (hk : K a = 12) (hv : q_z f a 37 = x) (hdg : decode cc pc = .ok (.getfield 488, 3)) (kk : (-2147483648) ≤ x → x ≤ 2147483647 → W p l e R s m args below meth c H locs cells slots Q (F0 m (pc + 3) ls (.int (q_i x) :: rest))) : W p l e R s m args below meth c H locs cells slots Q (F0 m pc ls (.ref a :: rest)) := q_geti cx hB ha hk (by decide) rfl rfl q_inX12 (by decide) q_h1586 hv hdg kk
theorem q_cX12_506 : ∀ w ∈ wsV RX12 506 RX12 yX12_runs (.code yX12_runs cX12_runs 6 (some .int) :: q_al), w ∈ q_al := q_cons q_h2242 (q_cons q_h2244 (q_cons q_h128 (q_cons q_h147 (q_cons q_h2245 q_self))))
theorem q_dX12_runs : yX12_runs.cls = RX12 ∧ yX12_runs.cls ≠ "java/lang/invoke/MethodHandle" ∧ yX12_runs.cls ≠ "java/lang/invoke/VarHandle" ∧ (parseMethodDescriptor yX12_runs.desc).map (fun d => d.parameters.length) = some 0 := by decide +kernel
theorem q_gX12_151 {x : Int} (cx : CallFix p m c cc nL s args q_al RX12) (hB : q_B g K L A w f0 f s H locs) (ha : a ∈ L) (hk : K a = 12) (hv : q_z f a 10 = x) (hdg : decode cc pc = .ok (.getfield 151, 3)) (kk : (-2147483648) ≤ x → x ≤ 2147483647 → W p l e R s m args below meth c H locs cells slots Q (F0 m (pc + 3) ls (.int (q_i x) :: rest))) : W p l e R s m args below meth c H locs cells slots Q (F0 m pc ls (.ref a :: rest)) := q_geti cx hB ha hk (by decide) rfl rfl q_inX12 (by decide) q_h1559 hv hdg kk
theorem q_gX12_17 {x : Int} (cx : CallFix p m c cc nL s args q_al RX12) (hB : q_B g K L A w f0 f s H locs) (ha : a ∈ L) (hk : K a = 12) (hv : q_z f a 11 = x) (hdg : decode cc pc = .ok (.getfield 17, 3)) (kk : (-2147483648) ≤ x → x ≤ 2147483647 → W p l e R s m args below meth c H locs cells slots Q (F0 m (pc + 3) ls (.int (q_i x) :: rest))) : W p l e R s m args below meth c H locs cells slots Q (F0 m pc ls (.ref a :: rest)) := q_geti cx hB ha hk (by decide) rfl rfl q_inX12 (by decide) q_h1560 hv hdg kk
theorem q_cX12_343 : ∀ w ∈ wsV RX12 343 RX12 yX12_inState (.code yX12_inState cX12_inState 4 (some .int) :: q_al), w ∈ q_al := q_cons q_h1860 (q_cons q_h1862 (q_cons q_h70 (q_cons q_h147 (q_cons q_h1863 q_self))))
theorem q_dX12_inState : yX12_inState.cls = RX12 ∧ yX12_inState.cls ≠ "java/lang/invoke/MethodHandle" ∧ yX12_inState.cls ≠ "java/lang/invoke/VarHandle" ∧ (parseMethodDescriptor yX12_inState.desc).map (fun d => d.parameters.length) = some 1 := by decide +kernel
theorem q_cX12_346 : ∀ w ∈ wsV RX12 346 RX12 yX12_inTime (.code yX12_inTime cX12_inTime 3 (some .int) :: q_al), w ∈ q_al := q_cons q_h1868 (q_cons q_h1870 (q_cons q_h72 (q_cons q_h147 (q_cons q_h1871 q_self))))
theorem q_dX12_inTime : yX12_inTime.cls = RX12 ∧ yX12_inTime.cls ≠ "java/lang/invoke/MethodHandle" ∧ yX12_inTime.cls ≠ "java/lang/invoke/VarHandle" ∧ (parseMethodDescriptor yX12_inTime.desc).map (fun d => d.parameters.length) = some 0 := by decide +kernel
theorem q_cX12_349 : ∀ w ∈ wsV RX12 349 RX12 yX12_notOut (.code yX12_notOut cX12_notOut 3 (some .int) :: q_al), w ∈ q_al := q_cons q_h1872 (q_cons q_h1874 (q_cons q_h73 (q_cons q_h147 (q_cons q_h1875 q_self))))
theorem q_dX12_notOut : yX12_notOut.cls = RX12 ∧ yX12_notOut.cls ≠ "java/lang/invoke/MethodHandle" ∧ yX12_notOut.cls ≠ "java/lang/invoke/VarHandle" ∧ (parseMethodDescriptor yX12_notOut.desc).map (fun d => d.parameters.length) = some 0 := by decide +kernel
theorem q_cX12_355 : ∀ w ∈ wsV RX12 355 RX12 yX12_isNode (.code yX12_isNode cX12_isNode 2 (some .boolean) :: q_al), w ∈ q_al := q_cons q_h1884 (q_cons q_h1886 (q_cons q_h75 (q_cons q_h147 (q_cons q_h1887 q_self))))
theorem q_dX12_isNode : yX12_isNode.cls = RX12 ∧ yX12_isNode.cls ≠ "java/lang/invoke/MethodHandle" ∧ yX12_isNode.cls ≠ "java/lang/invoke/VarHandle" ∧ (parseMethodDescriptor yX12_isNode.desc).map (fun d => d.parameters.length) = some 1 := by decide +kernel
theorem q_cX12_373 : ∀ w ∈ wsV RX12 373 RX12 yX12_isMessage (.code yX12_isMessage cX12_isMessage 2 (some .boolean) :: q_al), w ∈ q_al := q_cons q_h1941 (q_cons q_h1943 (q_cons q_h87 (q_cons q_h147 (q_cons q_h1944 q_self))))
theorem q_dX12_isMessage : yX12_isMessage.cls = RX12 ∧ yX12_isMessage.cls ≠ "java/lang/invoke/MethodHandle" ∧ yX12_isMessage.cls ≠ "java/lang/invoke/VarHandle" ∧ (parseMethodDescriptor yX12_isMessage.desc).map (fun d => d.parameters.length) = some 1 := by decide +kernel
theorem q_cX12_388 : ∀ w ∈ wsV RX12 388 RX12 yX12_isDay (.code yX12_isDay cX12_isDay 2 (some .boolean) :: q_al), w ∈ q_al := q_cons q_h1961 (q_cons q_h1963 (q_cons q_h88 (q_cons q_h147 (q_cons q_h1964 q_self))))
theorem q_dX12_isDay : yX12_isDay.cls = RX12 ∧ yX12_isDay.cls ≠ "java/lang/invoke/MethodHandle" ∧ yX12_isDay.cls ≠ "java/lang/invoke/VarHandle" ∧ (parseMethodDescriptor yX12_isDay.desc).map (fun d => d.parameters.length) = some 1 := by decide +kernel
theorem q_cX12_458 : ∀ w ∈ wsV RX12 458 RX12 yX12_goesAll (.code yX12_goesAll cX12_goesAll 4 (some .boolean) :: q_al), w ∈ q_al := q_cons q_h2179 (q_cons q_h2181 (q_cons q_h120 (q_cons q_h147 (q_cons q_h2182 q_self))))
theorem q_dX12_goesAll : yX12_goesAll.cls = RX12 ∧ yX12_goesAll.cls ≠ "java/lang/invoke/MethodHandle" ∧ yX12_goesAll.cls ≠ "java/lang/invoke/VarHandle" ∧ (parseMethodDescriptor yX12_goesAll.desc).map (fun d => d.parameters.length) = some 3 := by decide +kernel
theorem q_cX12_452 : ∀ w ∈ va_wsS RX12 452 yX12_isMany (.code yX12_isMany cX12_isMany 1 (some .boolean) :: q_al), w ∈ q_al := q_cons q_h2171 (q_cons q_h2172 (q_cons q_h147 (q_cons q_h2173 q_self)))
theorem q_dX12_isMany : yX12_isMany.cls ≠ "java/lang/invoke/MethodHandle" ∧ yX12_isMany.cls ≠ "java/lang/invoke/VarHandle" ∧ (parseMethodDescriptor yX12_isMany.desc).map (fun d => d.parameters.length) = some 1 := by decide +kernel
theorem q_gX12_524 {x : Int} (cx : CallFix p m c cc nL s args q_al RX12) (hB : q_B g K L A w f0 f s H locs) (ha : a ∈ L) (hk : K a = 12) (hv : q_z f a 40 = x) (hdg : decode cc pc = .ok (.getfield 524, 3)) (kk : 0 ≤ x → x ≤ 1 → W p l e R s m args below meth c H locs cells slots Q (F0 m (pc + 3) ls (.int (q_i x) :: rest))) : W p l e R s m args below meth c H locs cells slots Q (F0 m pc ls (.ref a :: rest)) := q_geti cx hB ha hk (by decide) rfl rfl q_inX12 (by decide) q_h1589 hv hdg kk
theorem q_cX12_399 : ∀ w ∈ va_wsS RX12 399 yX12_bits (.code yX12_bits cX12_bits 3 (some .int) :: q_al), w ∈ q_al := q_cons q_h2002 (q_cons q_h2003 (q_cons q_h147 (q_cons q_h2004 q_self)))
theorem q_dX12_bits : yX12_bits.cls ≠ "java/lang/invoke/MethodHandle" ∧ yX12_bits.cls ≠ "java/lang/invoke/VarHandle" ∧ (parseMethodDescriptor yX12_bits.desc).map (fun d => d.parameters.length) = some 1 := by decide +kernel
theorem q_cX12_405 : ∀ w ∈ wsV RX12 405 RX12 yX12_leaves (.code yX12_leaves cX12_leaves 1 none :: q_al), w ∈ q_al := q_cons q_h2040 (q_cons q_h2042 (q_cons q_h96 (q_cons q_h147 (q_cons q_h2043 q_self))))
theorem q_dX12_leaves : yX12_leaves.cls = RX12 ∧ yX12_leaves.cls ≠ "java/lang/invoke/MethodHandle" ∧ yX12_leaves.cls ≠ "java/lang/invoke/VarHandle" ∧ (parseMethodDescriptor yX12_leaves.desc).map (fun d => d.parameters.length) = some 0 := by decide +kernel
theorem q_cX12_411 : ∀ w ∈ wsV RX12 411 RX12 yX12_comesBack (.code yX12_comesBack cX12_comesBack 2 (some .int) :: q_al), w ∈ q_al := q_cons q_h2091 (q_cons q_h2093 (q_cons q_h108 (q_cons q_h147 (q_cons q_h2094 q_self))))
theorem q_dX12_comesBack : yX12_comesBack.cls = RX12 ∧ yX12_comesBack.cls ≠ "java/lang/invoke/MethodHandle" ∧ yX12_comesBack.cls ≠ "java/lang/invoke/VarHandle" ∧ (parseMethodDescriptor yX12_comesBack.desc).map (fun d => d.parameters.length) = some 1 := by decide +kernel
theorem q_cX12_446 : ∀ w ∈ va_wsS RX12 446 yX12_areTicks (.code yX12_areTicks cX12_areTicks 1 (some .boolean) :: q_al), w ∈ q_al := q_cons q_h2156 (q_cons q_h2157 (q_cons q_h147 (q_cons q_h2158 q_self)))
theorem q_dX12_areTicks : yX12_areTicks.cls ≠ "java/lang/invoke/MethodHandle" ∧ yX12_areTicks.cls ≠ "java/lang/invoke/VarHandle" ∧ (parseMethodDescriptor yX12_areTicks.desc).map (fun d => d.parameters.length) = some 1 := by decide +kernel
theorem q_cX12_427 : ∀ w ∈ wsV RX12 427 RX12 yX12_ticksOn (.code yX12_ticksOn cX12_ticksOn 4 (some .int) :: q_al), w ∈ q_al := q_cons q_h2120 (q_cons q_h2122 (q_cons q_h112 (q_cons q_h147 (q_cons q_h2123 q_self))))
theorem q_dX12_ticksOn : yX12_ticksOn.cls = RX12 ∧ yX12_ticksOn.cls ≠ "java/lang/invoke/MethodHandle" ∧ yX12_ticksOn.cls ≠ "java/lang/invoke/VarHandle" ∧ (parseMethodDescriptor yX12_ticksOn.desc).map (fun d => d.parameters.length) = some 1 := by decide +kernel
theorem q_cX12_449 : ∀ w ∈ wsV RX12 449 RX12 yX12_kept (.code yX12_kept cX12_kept 2 (some .int) :: q_al), w ∈ q_al := q_cons q_h2159 (q_cons q_h2161 (q_cons q_h117 (q_cons q_h147 (q_cons q_h2162 q_self))))
theorem q_dX12_kept : yX12_kept.cls = RX12 ∧ yX12_kept.cls ≠ "java/lang/invoke/MethodHandle" ∧ yX12_kept.cls ≠ "java/lang/invoke/VarHandle" ∧ (parseMethodDescriptor yX12_kept.desc).map (fun d => d.parameters.length) = some 1 := by decide +kernel
theorem q_cX12_462 : ∀ w ∈ wsV RX12 462 RX12 yX12_swapsCell (.code yX12_swapsCell cX12_swapsCell 4 (some .int) :: q_al), w ∈ q_al := q_cons q_h2187 (q_cons q_h2189 (q_cons q_h121 (q_cons q_h147 (q_cons q_h2190 q_self))))
theorem q_dX12_swapsCell : yX12_swapsCell.cls = RX12 ∧ yX12_swapsCell.cls ≠ "java/lang/invoke/MethodHandle" ∧ yX12_swapsCell.cls ≠ "java/lang/invoke/VarHandle" ∧ (parseMethodDescriptor yX12_swapsCell.desc).map (fun d => d.parameters.length) = some 2 := by decide +kernel
theorem q_pX12_515 {x : Int} (cx : CallFix p m c cc nL s args q_al RX12) (hB : q_B g K L A w f0 f s H locs) (ha : a ∈ L) (hk : K a = 12) (hr : q_R x) (h1 : (-2147483648) ≤ x) (h2 : x ≤ 2147483647) (hw : q_inW w 12 39 = true) (hdg : decode cc pc = .ok (.putfield 515, 3)) (kk : ∀ (H1 : Heap) (locs1 : List Loc) (f1 : Nat → va_E), f1 = q_set f a 39 (.int (q_i x)) → q_z f1 a 39 = x → q_B g K L A w f0 f1 s H1 locs1 → W p l e R s m args below meth c H1 locs1 cells slots Q (F0 m (pc + 3) ls rest)) : W p l e R s m args below meth c H locs cells slots Q (F0 m pc ls (.int (q_i x) :: .ref a :: rest)) := q_puti cx hB ha hk (by decide) rfl rfl q_inX12 tyX12 q_yX12 q_nX12 (by decide) rfl q_h1588 rfl rfl hr h1 h2 hw hdg kk
theorem q_pX12_524 {x : Int} (cx : CallFix p m c cc nL s args q_al RX12) (hB : q_B g K L A w f0 f s H locs) (ha : a ∈ L) (hk : K a = 12) (hr : q_R x) (h1 : 0 ≤ x) (h2 : x ≤ 1) (hw : q_inW w 12 40 = true) (hdg : decode cc pc = .ok (.putfield 524, 3)) (kk : ∀ (H1 : Heap) (locs1 : List Loc) (f1 : Nat → va_E), f1 = q_set f a 40 (.int (q_i x)) → q_z f1 a 40 = x → q_B g K L A w f0 f1 s H1 locs1 → W p l e R s m args below meth c H1 locs1 cells slots Q (F0 m (pc + 3) ls rest)) : W p l e R s m args below meth c H locs cells slots Q (F0 m pc ls (.int (q_i x) :: .ref a :: rest)) := q_puti cx hB ha hk (by decide) rfl rfl q_inX12 tyX12 q_yX12 q_nX12 (by decide) rfl q_h1589 (q_narz h1 h2) (q_fitz h1 h2) hr h1 h2 hw hdg kk
theorem q_gX12_515 {x : Int} (cx : CallFix p m c cc nL s args q_al RX12) (hB : q_B g K L A w f0 f s H locs) (ha : a ∈ L) (hk : K a = 12) (hv : q_z f a 39 = x) (hdg : decode cc pc = .ok (.getfield 515, 3)) (kk : (-2147483648) ≤ x → x ≤ 2147483647 → W p l e R s m args below meth c H locs cells slots Q (F0 m (pc + 3) ls (.int (q_i x) :: rest))) : W p l e R s m args below meth c H locs cells slots Q (F0 m pc ls (.ref a :: rest)) := q_geti cx hB ha hk (by decide) rfl rfl q_inX12 (by decide) q_h1588 hv hdg kk
theorem q_gX12_23 {b : Nat} (cx : CallFix p m c cc nL s args q_al RX12) (hB : q_B g K L A w f0 f s H locs) (ha : a ∈ L) (hk : K a = 12) (hv : q_r f a 14 = b) (hdg : decode cc pc = .ok (.getfield 23, 3)) (kk : b ∈ L → K b = 152 → W p l e R s m args below meth c H locs cells slots Q (F0 m (pc + 3) ls (.ref b :: rest))) : W p l e R s m args below meth c H locs cells slots Q (F0 m pc ls (.ref a :: rest)) := q_getr (k2 := 152) cx hB ha hk (by decide) rfl rfl q_inX12 (by decide) q_h1563 hv hdg kk
theorem q_gX12_39 {b : Nat} (cx : CallFix p m c cc nL s args q_al RX12) (hB : q_B g K L A w f0 f s H locs) (ha : a ∈ L) (hk : K a = 12) (hv : q_r f a 19 = b) (hdg : decode cc pc = .ok (.getfield 39, 3)) (kk : b ∈ L → K b = 157 → W p l e R s m args below meth c H locs cells slots Q (F0 m (pc + 3) ls (.ref b :: rest))) : W p l e R s m args below meth c H locs cells slots Q (F0 m pc ls (.ref a :: rest)) := q_getr (k2 := 157) cx hB ha hk (by decide) rfl rfl q_inX12 (by decide) q_h1568 hv hdg kk
theorem q_pX12_168 {x : Int} (cx : CallFix p m c cc nL s args q_al RX12) (hB : q_B g K L A w f0 f s H locs) (ha : a ∈ L) (hk : K a = 12) (hr : q_R x) (h1 : 0 ≤ x) (h2 : x ≤ 1) (hw : q_inW w 12 22 = true) (hdg : decode cc pc = .ok (.putfield 168, 3)) (kk : ∀ (H1 : Heap) (locs1 : List Loc) (f1 : Nat → va_E), f1 = q_set f a 22 (.int (q_i x)) → q_z f1 a 22 = x → q_B g K L A w f0 f1 s H1 locs1 → W p l e R s m args below meth c H1 locs1 cells slots Q (F0 m (pc + 3) ls rest)) : W p l e R s m args below meth c H locs cells slots Q (F0 m pc ls (.int (q_i x) :: .ref a :: rest)) := q_puti cx hB ha hk (by decide) rfl rfl q_inX12 tyX12 q_yX12 q_nX12 (by decide) rfl q_h1571 (q_narz h1 h2) (q_fitz h1 h2) hr h1 h2 hw hdg kk
theorem q_gX12_168 {x : Int} (cx : CallFix p m c cc nL s args q_al RX12) (hB : q_B g K L A w f0 f s H locs) (ha : a ∈ L) (hk : K a = 12) (hv : q_z f a 22 = x) (hdg : decode cc pc = .ok (.getfield 168, 3)) (kk : 0 ≤ x → x ≤ 1 → W p l e R s m args below meth c H locs cells slots Q (F0 m (pc + 3) ls (.int (q_i x) :: rest))) : W p l e R s m args below meth c H locs cells slots Q (F0 m pc ls (.ref a :: rest)) := q_geti cx hB ha hk (by decide) rfl rfl q_inX12 (by decide) q_h1571 hv hdg kk
end QR
