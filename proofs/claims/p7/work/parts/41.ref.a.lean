theorem q_h1557 : Cond.fieldLink RX12 127 (TX12 8).1 (TX12 8).2.1 (TX12 8).2.2.1 ∈ q_al := q_ali 1557 (by decide +kernel) (by decide +kernel)
theorem q_h1558 : Cond.fieldLink RX12 13 (TX12 9).1 (TX12 9).2.1 (TX12 9).2.2.1 ∈ q_al := q_ali 1558 (by decide +kernel) (by decide +kernel)
theorem q_h1749 : Cond.methodLink RX12 130 yX12_isGood ∈ q_al := q_ali 1749 (by decide +kernel) (by decide +kernel)
theorem q_h1752 : Cond.code yX12_isGood cX12_isGood 1 (some .boolean) ∈ q_al := q_ali 1752 (by decide +kernel) (by decide +kernel)
theorem q_h1751 : Cond.instanceMethod yX12_isGood ∈ q_al := q_ali 1751 (by decide +kernel) (by decide +kernel)
theorem q_h48 : Cond.selects RX12 yX12_isGood yX12_isGood ∈ q_al := q_ali 48 (by decide +kernel) (by decide +kernel)
theorem q_h1839 : Cond.methodLink RX12 134 yX12_isSign ∈ q_al := q_ali 1839 (by decide +kernel) (by decide +kernel)
theorem q_h1842 : Cond.code yX12_isSign cX12_isSign 2 (some .boolean) ∈ q_al := q_ali 1842 (by decide +kernel) (by decide +kernel)
theorem q_h1841 : Cond.instanceMethod yX12_isSign ∈ q_al := q_ali 1841 (by decide +kernel) (by decide +kernel)
theorem q_h67 : Cond.selects RX12 yX12_isSign yX12_isSign ∈ q_al := q_ali 67 (by decide +kernel) (by decide +kernel)
theorem q_h1731 : Cond.methodLink RX12 140 yX12_goOn ∈ q_al := q_ali 1731 (by decide +kernel) (by decide +kernel)
theorem q_h1734 : Cond.code yX12_goOn cX12_goOn 3 none ∈ q_al := q_ali 1734 (by decide +kernel) (by decide +kernel)
theorem q_h1733 : Cond.instanceMethod yX12_goOn ∈ q_al := q_ali 1733 (by decide +kernel) (by decide +kernel)
theorem q_h45 : Cond.selects RX12 yX12_goOn yX12_goOn ∈ q_al := q_ali 45 (by decide +kernel) (by decide +kernel)
theorem q_h1769 : Cond.methodLink RX12 137 yX12_wrong ∈ q_al := q_ali 1769 (by decide +kernel) (by decide +kernel)
theorem q_h1772 : Cond.code yX12_wrong cX12_wrong 2 none ∈ q_al := q_ali 1772 (by decide +kernel) (by decide +kernel)
theorem q_h1771 : Cond.instanceMethod yX12_wrong ∈ q_al := q_ali 1771 (by decide +kernel) (by decide +kernel)
theorem q_h52 : Cond.selects RX12 yX12_wrong yX12_wrong ∈ q_al := q_ali 52 (by decide +kernel) (by decide +kernel)
theorem q_h1758 : Cond.methodLink RX12 143 yX12_isWord ∈ q_al := q_ali 1758 (by decide +kernel) (by decide +kernel)
theorem q_h1761 : Cond.code yX12_isWord cX12_isWord 3 (some .boolean) ∈ q_al := q_ali 1761 (by decide +kernel) (by decide +kernel)
theorem q_h1760 : Cond.instanceMethod yX12_isWord ∈ q_al := q_ali 1760 (by decide +kernel) (by decide +kernel)
theorem q_h50 : Cond.selects RX12 yX12_isWord yX12_isWord ∈ q_al := q_ali 50 (by decide +kernel) (by decide +kernel)
theorem q_h1777 : Cond.methodLink RX12 147 yX12_looks ∈ q_al := q_ali 1777 (by decide +kernel) (by decide +kernel)
theorem q_h1780 : Cond.code yX12_looks cX12_looks 3 (some .int) ∈ q_al := q_ali 1780 (by decide +kernel) (by decide +kernel)
theorem q_h1779 : Cond.instanceMethod yX12_looks ∈ q_al := q_ali 1779 (by decide +kernel) (by decide +kernel)
theorem q_h54 : Cond.selects RX12 yX12_looks yX12_looks ∈ q_al := q_ali 54 (by decide +kernel) (by decide +kernel)
theorem q_h1551 : Cond.fieldLink RX12 82 (TX12 2).1 (TX12 2).2.1 (TX12 2).2.2.1 ∈ q_al := q_ali 1551 (by decide +kernel) (by decide +kernel)
theorem q_h1559 : Cond.fieldLink RX12 151 (TX12 10).1 (TX12 10).2.1 (TX12 10).2.2.1 ∈ q_al := q_ali 1559 (by decide +kernel) (by decide +kernel)
theorem q_h1560 : Cond.fieldLink RX12 17 (TX12 11).1 (TX12 11).2.1 (TX12 11).2.2.1 ∈ q_al := q_ali 1560 (by decide +kernel) (by decide +kernel)
theorem q_h1679 : Cond.methodLink RX12 85 yX12_goes ∈ q_al := q_ali 1679 (by decide +kernel) (by decide +kernel)
theorem q_h1682 : Cond.code yX12_goes cX12_goes 2 (some .boolean) ∈ q_al := q_ali 1682 (by decide +kernel) (by decide +kernel)
theorem q_h1681 : Cond.instanceMethod yX12_goes ∈ q_al := q_ali 1681 (by decide +kernel) (by decide +kernel)
theorem q_h42 : Cond.selects RX12 yX12_goes yX12_goes ∈ q_al := q_ali 42 (by decide +kernel) (by decide +kernel)
theorem q_h1567 : Cond.fieldLink RX12 35 (TX12 18).1 (TX12 18).2.1 (TX12 18).2.2.1 ∈ q_al := q_ali 1567 (by decide +kernel) (by decide +kernel)
theorem q_h1788 : Cond.methodLink RX12 175 yX12_mustBeWord ∈ q_al := q_ali 1788 (by decide +kernel) (by decide +kernel)
theorem q_h1791 : Cond.code yX12_mustBeWord cX12_mustBeWord 1 none ∈ q_al := q_ali 1791 (by decide +kernel) (by decide +kernel)
theorem q_h1790 : Cond.instanceMethod yX12_mustBeWord ∈ q_al := q_ali 1790 (by decide +kernel) (by decide +kernel)
theorem q_h56 : Cond.selects RX12 yX12_mustBeWord yX12_mustBeWord ∈ q_al := q_ali 56 (by decide +kernel) (by decide +kernel)
theorem q_h1792 : Cond.methodLink RX12 178 yX12_named ∈ q_al := q_ali 1792 (by decide +kernel) (by decide +kernel)
theorem q_h1795 : Cond.code yX12_named cX12_named 3 (some .int) ∈ q_al := q_ali 1795 (by decide +kernel) (by decide +kernel)
theorem q_h1794 : Cond.instanceMethod yX12_named ∈ q_al := q_ali 1794 (by decide +kernel) (by decide +kernel)
theorem q_h57 : Cond.selects RX12 yX12_named yX12_named ∈ q_al := q_ali 57 (by decide +kernel) (by decide +kernel)
theorem q_h1572 : Cond.fieldLink RX12 182 (TX12 23).1 (TX12 23).2.1 (TX12 23).2.2.1 ∈ q_al := q_ali 1572 (by decide +kernel) (by decide +kernel)
theorem q_h1766 : Cond.methodLink RX12 185 yX12_has ∈ q_al := q_ali 1766 (by decide +kernel) (by decide +kernel)
theorem q_h1768 : Cond.code yX12_has cX12_has 2 (some .boolean) ∈ q_al := q_ali 1768 (by decide +kernel) (by decide +kernel)
theorem q_h1767 : Cond.static yX12_has ∈ q_al := q_ali 1767 (by decide +kernel) (by decide +kernel)
theorem q_h1801 : Cond.methodLink RX12 189 yX12_mustWord ∈ q_al := q_ali 1801 (by decide +kernel) (by decide +kernel)
theorem q_h1804 : Cond.code yX12_mustWord cX12_mustWord 3 none ∈ q_al := q_ali 1804 (by decide +kernel) (by decide +kernel)
theorem q_h1803 : Cond.instanceMethod yX12_mustWord ∈ q_al := q_ali 1803 (by decide +kernel) (by decide +kernel)
theorem q_h59 : Cond.selects RX12 yX12_mustWord yX12_mustWord ∈ q_al := q_ali 59 (by decide +kernel) (by decide +kernel)
theorem q_h1773 : Cond.methodLink RX12 193 yX12_number ∈ q_al := q_ali 1773 (by decide +kernel) (by decide +kernel)
theorem q_h1776 : Cond.code yX12_number cX12_number 4 (some .int) ∈ q_al := q_ali 1776 (by decide +kernel) (by decide +kernel)
theorem q_h1775 : Cond.instanceMethod yX12_number ∈ q_al := q_ali 1775 (by decide +kernel) (by decide +kernel)
theorem q_h53 : Cond.selects RX12 yX12_number yX12_number ∈ q_al := q_ali 53 (by decide +kernel) (by decide +kernel)
theorem q_h1827 : Cond.methodLink RX12 210 yX12_ofLink ∈ q_al := q_ali 1827 (by decide +kernel) (by decide +kernel)
theorem q_h1830 : Cond.code yX12_ofLink cX12_ofLink 3 (some .int) ∈ q_al := q_ali 1830 (by decide +kernel) (by decide +kernel)
theorem q_h1829 : Cond.instanceMethod yX12_ofLink ∈ q_al := q_ali 1829 (by decide +kernel) (by decide +kernel)
theorem q_h64 : Cond.selects RX12 yX12_ofLink yX12_ofLink ∈ q_al := q_ali 64 (by decide +kernel) (by decide +kernel)
theorem q_h1796 : Cond.constantLong RX12 196 (q_l 81486) ∈ q_al := q_ali 1796 (by decide +kernel) (by decide +kernel)
theorem q_h1797 : Cond.methodLink RX12 198 yX12_after ∈ q_al := q_ali 1797 (by decide +kernel) (by decide +kernel)
theorem q_h1800 : Cond.code yX12_after cX12_after 5 (some .int) ∈ q_al := q_ali 1800 (by decide +kernel) (by decide +kernel)
theorem q_h1799 : Cond.instanceMethod yX12_after ∈ q_al := q_ali 1799 (by decide +kernel) (by decide +kernel)
theorem q_h58 : Cond.selects RX12 yX12_after yX12_after ∈ q_al := q_ali 58 (by decide +kernel) (by decide +kernel)
theorem q_h1805 : Cond.methodLink RX12 202 yX12_setsNode ∈ q_al := q_ali 1805 (by decide +kernel) (by decide +kernel)
theorem q_h1808 : Cond.code yX12_setsNode cX12_setsNode 4 none ∈ q_al := q_ali 1808 (by decide +kernel) (by decide +kernel)
theorem q_h1807 : Cond.instanceMethod yX12_setsNode ∈ q_al := q_ali 1807 (by decide +kernel) (by decide +kernel)
theorem q_h60 : Cond.selects RX12 yX12_setsNode yX12_setsNode ∈ q_al := q_ali 60 (by decide +kernel) (by decide +kernel)
theorem q_h1812 : Cond.constantLong RX12 206 (q_l 20194516) ∈ q_al := q_ali 1812 (by decide +kernel) (by decide +kernel)
theorem q_h1813 : Cond.constantLong RX12 208 (q_l 182634745) ∈ q_al := q_ali 1813 (by decide +kernel) (by decide +kernel)
theorem q_h1819 : Cond.methodLink RX12 213 yX12_told ∈ q_al := q_ali 1819 (by decide +kernel) (by decide +kernel)
theorem q_h1822 : Cond.code yX12_told cX12_told 2 (some .int) ∈ q_al := q_ali 1822 (by decide +kernel) (by decide +kernel)
theorem q_h1821 : Cond.instanceMethod yX12_told ∈ q_al := q_ali 1821 (by decide +kernel) (by decide +kernel)
theorem q_h62 : Cond.selects RX12 yX12_told yX12_told ∈ q_al := q_ali 62 (by decide +kernel) (by decide +kernel)
theorem q_h1823 : Cond.methodLink RX12 216 yX12_linkOf ∈ q_al := q_ali 1823 (by decide +kernel) (by decide +kernel)
theorem q_h1826 : Cond.code yX12_linkOf cX12_linkOf 7 (some .int) ∈ q_al := q_ali 1826 (by decide +kernel) (by decide +kernel)
theorem q_h1825 : Cond.instanceMethod yX12_linkOf ∈ q_al := q_ali 1825 (by decide +kernel) (by decide +kernel)
theorem q_h63 : Cond.selects RX12 yX12_linkOf yX12_linkOf ∈ q_al := q_ali 63 (by decide +kernel) (by decide +kernel)
theorem q_h1831 : Cond.methodLink RX12 219 yX12_setsLink ∈ q_al := q_ali 1831 (by decide +kernel) (by decide +kernel)
theorem q_h1834 : Cond.code yX12_setsLink cX12_setsLink 4 none ∈ q_al := q_ali 1834 (by decide +kernel) (by decide +kernel)
theorem q_h1833 : Cond.instanceMethod yX12_setsLink ∈ q_al := q_ali 1833 (by decide +kernel) (by decide +kernel)
theorem q_h65 : Cond.selects RX12 yX12_setsLink yX12_setsLink ∈ q_al := q_ali 65 (by decide +kernel) (by decide +kernel)
theorem q_h1757 : Cond.constantLong RX12 222 (q_l 824370) ∈ q_al := q_ali 1757 (by decide +kernel) (by decide +kernel)
theorem q_h1762 : Cond.methodLink RX12 224 yX12_once ∈ q_al := q_ali 1762 (by decide +kernel) (by decide +kernel)
theorem q_h1765 : Cond.code yX12_once cX12_once 2 none ∈ q_al := q_ali 1765 (by decide +kernel) (by decide +kernel)
theorem q_h1764 : Cond.instanceMethod yX12_once ∈ q_al := q_ali 1764 (by decide +kernel) (by decide +kernel)
theorem q_h51 : Cond.selects RX12 yX12_once yX12_once ∈ q_al := q_ali 51 (by decide +kernel) (by decide +kernel)
theorem q_h1835 : Cond.methodLink RX12 241 yX12_mustSign ∈ q_al := q_ali 1835 (by decide +kernel) (by decide +kernel)
theorem q_h1838 : Cond.code yX12_mustSign cX12_mustSign 2 none ∈ q_al := q_ali 1838 (by decide +kernel) (by decide +kernel)
theorem q_h1837 : Cond.instanceMethod yX12_mustSign ∈ q_al := q_ali 1837 (by decide +kernel) (by decide +kernel)
theorem q_h66 : Cond.selects RX12 yX12_mustSign yX12_mustSign ∈ q_al := q_ali 66 (by decide +kernel) (by decide +kernel)
theorem q_h1781 : Cond.constantLong RX12 227 (q_l 3657363) ∈ q_al := q_ali 1781 (by decide +kernel) (by decide +kernel)
theorem q_h1782 : Cond.constantLong RX12 229 (q_l 435827) ∈ q_al := q_ali 1782 (by decide +kernel) (by decide +kernel)
theorem q_h1783 : Cond.constantLong RX12 231 (q_l 474245) ∈ q_al := q_ali 1783 (by decide +kernel) (by decide +kernel)
theorem q_h1784 : Cond.methodLink RX12 233 yX12_readsNode ∈ q_al := q_ali 1784 (by decide +kernel) (by decide +kernel)
theorem q_h1787 : Cond.code yX12_readsNode cX12_readsNode 3 none ∈ q_al := q_ali 1787 (by decide +kernel) (by decide +kernel)
theorem q_h1786 : Cond.instanceMethod yX12_readsNode ∈ q_al := q_ali 1786 (by decide +kernel) (by decide +kernel)
theorem q_h55 : Cond.selects RX12 yX12_readsNode yX12_readsNode ∈ q_al := q_ali 55 (by decide +kernel) (by decide +kernel)
theorem q_h1814 : Cond.constantLong RX12 236 (q_l 402891) ∈ q_al := q_ali 1814 (by decide +kernel) (by decide +kernel)
theorem q_h1815 : Cond.methodLink RX12 238 yX12_readsLink ∈ q_al := q_ali 1815 (by decide +kernel) (by decide +kernel)
theorem q_h1818 : Cond.code yX12_readsLink cX12_readsLink 4 none ∈ q_al := q_ali 1818 (by decide +kernel) (by decide +kernel)
theorem q_h1817 : Cond.instanceMethod yX12_readsLink ∈ q_al := q_ali 1817 (by decide +kernel) (by decide +kernel)
theorem q_h61 : Cond.selects RX12 yX12_readsLink yX12_readsLink ∈ q_al := q_ali 61 (by decide +kernel) (by decide +kernel)
section QR
variable {p : Program} {l : Launch} {e : Env} {R : Room} {s : State} {m : MethodId} {args : Array Value} {below : List Frame} {meth : Method} {c : Code} {H : Heap} {locs : List Loc} {cells slots : Nat} {Q : State → Prop}
variable {cc : ByteArray} {pc nL : Nat} {ls : Array Slot} {rest : List Value} {g : q_G} {K : Nat → Nat} {L : List Nat} {A : Nat → Prop} {w : q_Ws} {f0 f : Nat → va_E} {a : Nat}
theorem q_gX12_127 {x : Int} (cx : CallFix p m c cc nL s args q_al RX12) (hB : q_B g K L A w f0 f s H locs) (ha : a ∈ L) (hk : K a = 12) (hv : q_z f a 8 = x) (hdg : decode cc pc = .ok (.getfield 127, 3)) (kk : 0 ≤ x → x ≤ 5 → W p l e R s m args below meth c H locs cells slots Q (F0 m (pc + 3) ls (.int (q_i x) :: rest))) : W p l e R s m args below meth c H locs cells slots Q (F0 m pc ls (.ref a :: rest)) := q_geti cx hB ha hk (by decide) rfl rfl q_inX12 (by decide) q_h1557 hv hdg kk
theorem q_gX12_117 {x : Int} (cx : CallFix p m c cc nL s args q_al RX12) (hB : q_B g K L A w f0 f s H locs) (ha : a ∈ L) (hk : K a = 12) (hv : q_z f a 6 = x) (hdg : decode cc pc = .ok (.getfield 117, 3)) (kk : 0 ≤ x → x ≤ 4 → W p l e R s m args below meth c H locs cells slots Q (F0 m (pc + 3) ls (.int (q_i x) :: rest))) : W p l e R s m args below meth c H locs cells slots Q (F0 m pc ls (.ref a :: rest)) := q_geti cx hB ha hk (by decide) rfl rfl q_inX12 (by decide) q_h1555 hv hdg kk
theorem q_pX12_127 {x : Int} (cx : CallFix p m c cc nL s args q_al RX12) (hB : q_B g K L A w f0 f s H locs) (ha : a ∈ L) (hk : K a = 12) (hr : q_R x) (h1 : 0 ≤ x) (h2 : x ≤ 5) (hw : q_inW w 12 8 = true) (hdg : decode cc pc = .ok (.putfield 127, 3)) (kk : ∀ (H1 : Heap) (locs1 : List Loc) (f1 : Nat → va_E), f1 = q_set f a 8 (.int (q_i x)) → q_z f1 a 8 = x → q_B g K L A w f0 f1 s H1 locs1 → W p l e R s m args below meth c H1 locs1 cells slots Q (F0 m (pc + 3) ls rest)) : W p l e R s m args below meth c H locs cells slots Q (F0 m pc ls (.int (q_i x) :: .ref a :: rest)) := q_puti cx hB ha hk (by decide) rfl rfl q_inX12 tyX12 q_yX12 q_nX12 (by decide) rfl q_h1557 rfl rfl hr h1 h2 hw hdg kk
theorem q_gX12_107 {x : Int} (cx : CallFix p m c cc nL s args q_al RX12) (hB : q_B g K L A w f0 f s H locs) (ha : a ∈ L) (hk : K a = 12) (hv : q_z f a 5 = x) (hdg : decode cc pc = .ok (.getfield 107, 3)) (kk : (-2147483648) ≤ x → x ≤ 2147483647 → W p l e R s m args below meth c H locs cells slots Q (F0 m (pc + 3) ls (.int (q_i x) :: rest))) : W p l e R s m args below meth c H locs cells slots Q (F0 m pc ls (.ref a :: rest)) := q_geti cx hB ha hk (by decide) rfl rfl q_inX12 (by decide) q_h1554 hv hdg kk
theorem q_pX12_13 {x : Int} (cx : CallFix p m c cc nL s args q_al RX12) (hB : q_B g K L A w f0 f s H locs) (ha : a ∈ L) (hk : K a = 12) (hr : q_R x) (h1 : (-2147483648) ≤ x) (h2 : x ≤ 2147483647) (hw : q_inW w 12 9 = true) (hdg : decode cc pc = .ok (.putfield 13, 3)) (kk : ∀ (H1 : Heap) (locs1 : List Loc) (f1 : Nat → va_E), f1 = q_set f a 9 (.int (q_i x)) → q_z f1 a 9 = x → q_B g K L A w f0 f1 s H1 locs1 → W p l e R s m args below meth c H1 locs1 cells slots Q (F0 m (pc + 3) ls rest)) : W p l e R s m args below meth c H locs cells slots Q (F0 m pc ls (.int (q_i x) :: .ref a :: rest)) := q_puti cx hB ha hk (by decide) rfl rfl q_inX12 tyX12 q_yX12 q_nX12 (by decide) rfl q_h1558 rfl rfl hr h1 h2 hw hdg kk
theorem q_cX12_130 : ∀ w ∈ wsV RX12 130 RX12 yX12_isGood (.code yX12_isGood cX12_isGood 1 (some .boolean) :: q_al), w ∈ q_al := q_cons q_h1749 (q_cons q_h1751 (q_cons q_h48 (q_cons q_h147 (q_cons q_h1752 q_self))))
theorem q_dX12_isGood : yX12_isGood.cls = RX12 ∧ yX12_isGood.cls ≠ "java/lang/invoke/MethodHandle" ∧ yX12_isGood.cls ≠ "java/lang/invoke/VarHandle" ∧ (parseMethodDescriptor yX12_isGood.desc).map (fun d => d.parameters.length) = some 0 := by decide +kernel
theorem q_cX12_134 : ∀ w ∈ wsV RX12 134 RX12 yX12_isSign (.code yX12_isSign cX12_isSign 2 (some .boolean) :: q_al), w ∈ q_al := q_cons q_h1839 (q_cons q_h1841 (q_cons q_h67 (q_cons q_h147 (q_cons q_h1842 q_self))))
theorem q_dX12_isSign : yX12_isSign.cls = RX12 ∧ yX12_isSign.cls ≠ "java/lang/invoke/MethodHandle" ∧ yX12_isSign.cls ≠ "java/lang/invoke/VarHandle" ∧ (parseMethodDescriptor yX12_isSign.desc).map (fun d => d.parameters.length) = some 1 := by decide +kernel
theorem q_cX12_140 : ∀ w ∈ wsV RX12 140 RX12 yX12_goOn (.code yX12_goOn cX12_goOn 3 none :: q_al), w ∈ q_al := q_cons q_h1731 (q_cons q_h1733 (q_cons q_h45 (q_cons q_h147 (q_cons q_h1734 q_self))))
theorem q_dX12_goOn : yX12_goOn.cls = RX12 ∧ yX12_goOn.cls ≠ "java/lang/invoke/MethodHandle" ∧ yX12_goOn.cls ≠ "java/lang/invoke/VarHandle" ∧ (parseMethodDescriptor yX12_goOn.desc).map (fun d => d.parameters.length) = some 0 := by decide +kernel
theorem q_cX12_137 : ∀ w ∈ wsV RX12 137 RX12 yX12_wrong (.code yX12_wrong cX12_wrong 2 none :: q_al), w ∈ q_al := q_cons q_h1769 (q_cons q_h1771 (q_cons q_h52 (q_cons q_h147 (q_cons q_h1772 q_self))))
theorem q_dX12_wrong : yX12_wrong.cls = RX12 ∧ yX12_wrong.cls ≠ "java/lang/invoke/MethodHandle" ∧ yX12_wrong.cls ≠ "java/lang/invoke/VarHandle" ∧ (parseMethodDescriptor yX12_wrong.desc).map (fun d => d.parameters.length) = some 1 := by decide +kernel
theorem q_cX12_143 : ∀ w ∈ wsV RX12 143 RX12 yX12_isWord (.code yX12_isWord cX12_isWord 3 (some .boolean) :: q_al), w ∈ q_al := q_cons q_h1758 (q_cons q_h1760 (q_cons q_h50 (q_cons q_h147 (q_cons q_h1761 q_self))))
theorem q_dX12_isWord : yX12_isWord.cls = RX12 ∧ yX12_isWord.cls ≠ "java/lang/invoke/MethodHandle" ∧ yX12_isWord.cls ≠ "java/lang/invoke/VarHandle" ∧ (parseMethodDescriptor yX12_isWord.desc).map (fun d => d.parameters.length) = some 1 := by decide +kernel
theorem q_cX12_147 : ∀ w ∈ wsV RX12 147 RX12 yX12_looks (.code yX12_looks cX12_looks 3 (some .int) :: q_al), w ∈ q_al := q_cons q_h1777 (q_cons q_h1779 (q_cons q_h54 (q_cons q_h147 (q_cons q_h1780 q_self))))
theorem q_dX12_looks : yX12_looks.cls = RX12 ∧ yX12_looks.cls ≠ "java/lang/invoke/MethodHandle" ∧ yX12_looks.cls ≠ "java/lang/invoke/VarHandle" ∧ (parseMethodDescriptor yX12_looks.desc).map (fun d => d.parameters.length) = some 2 := by decide +kernel
theorem q_gX12_82 {x : Int} (cx : CallFix p m c cc nL s args q_al RX12) (hB : q_B g K L A w f0 f s H locs) (ha : a ∈ L) (hk : K a = 12) (hv : q_z f a 2 = x) (hdg : decode cc pc = .ok (.getfield 82, 3)) (kk : 0 ≤ x → x ≤ 600 → W p l e R s m args below meth c H locs cells slots Q (F0 m (pc + 3) ls (.int (q_i x) :: rest))) : W p l e R s m args below meth c H locs cells slots Q (F0 m pc ls (.ref a :: rest)) := q_geti cx hB ha hk (by decide) rfl rfl q_inX12 (by decide) q_h1551 hv hdg kk
theorem q_pX12_100 {x : Int} (cx : CallFix p m c cc nL s args q_al RX12) (hB : q_B g K L A w f0 f s H locs) (ha : a ∈ L) (hk : K a = 12) (hr : q_R x) (h1 : 0 ≤ x) (h2 : x ≤ 600) (hw : q_inW w 12 3 = true) (hdg : decode cc pc = .ok (.putfield 100, 3)) (kk : ∀ (H1 : Heap) (locs1 : List Loc) (f1 : Nat → va_E), f1 = q_set f a 3 (.int (q_i x)) → q_z f1 a 3 = x → q_B g K L A w f0 f1 s H1 locs1 → W p l e R s m args below meth c H1 locs1 cells slots Q (F0 m (pc + 3) ls rest)) : W p l e R s m args below meth c H locs cells slots Q (F0 m pc ls (.int (q_i x) :: .ref a :: rest)) := q_puti cx hB ha hk (by decide) rfl rfl q_inX12 tyX12 q_yX12 q_nX12 (by decide) rfl q_h1552 rfl rfl hr h1 h2 hw hdg kk
theorem q_pX12_82 {x : Int} (cx : CallFix p m c cc nL s args q_al RX12) (hB : q_B g K L A w f0 f s H locs) (ha : a ∈ L) (hk : K a = 12) (hr : q_R x) (h1 : 0 ≤ x) (h2 : x ≤ 600) (hw : q_inW w 12 2 = true) (hdg : decode cc pc = .ok (.putfield 82, 3)) (kk : ∀ (H1 : Heap) (locs1 : List Loc) (f1 : Nat → va_E), f1 = q_set f a 2 (.int (q_i x)) → q_z f1 a 2 = x → q_B g K L A w f0 f1 s H1 locs1 → W p l e R s m args below meth c H1 locs1 cells slots Q (F0 m (pc + 3) ls rest)) : W p l e R s m args below meth c H locs cells slots Q (F0 m pc ls (.int (q_i x) :: .ref a :: rest)) := q_puti cx hB ha hk (by decide) rfl rfl q_inX12 tyX12 q_yX12 q_nX12 (by decide) rfl q_h1551 rfl rfl hr h1 h2 hw hdg kk
theorem q_pX12_151 {x : Int} (cx : CallFix p m c cc nL s args q_al RX12) (hB : q_B g K L A w f0 f s H locs) (ha : a ∈ L) (hk : K a = 12) (hr : q_R x) (h1 : (-2147483648) ≤ x) (h2 : x ≤ 2147483647) (hw : q_inW w 12 10 = true) (hdg : decode cc pc = .ok (.putfield 151, 3)) (kk : ∀ (H1 : Heap) (locs1 : List Loc) (f1 : Nat → va_E), f1 = q_set f a 10 (.int (q_i x)) → q_z f1 a 10 = x → q_B g K L A w f0 f1 s H1 locs1 → W p l e R s m args below meth c H1 locs1 cells slots Q (F0 m (pc + 3) ls rest)) : W p l e R s m args below meth c H locs cells slots Q (F0 m pc ls (.int (q_i x) :: .ref a :: rest)) := q_puti cx hB ha hk (by decide) rfl rfl q_inX12 tyX12 q_yX12 q_nX12 (by decide) rfl q_h1559 rfl rfl hr h1 h2 hw hdg kk
theorem q_gX12_13 {x : Int} (cx : CallFix p m c cc nL s args q_al RX12) (hB : q_B g K L A w f0 f s H locs) (ha : a ∈ L) (hk : K a = 12) (hv : q_z f a 9 = x) (hdg : decode cc pc = .ok (.getfield 13, 3)) (kk : (-2147483648) ≤ x → x ≤ 2147483647 → W p l e R s m args below meth c H locs cells slots Q (F0 m (pc + 3) ls (.int (q_i x) :: rest))) : W p l e R s m args below meth c H locs cells slots Q (F0 m pc ls (.ref a :: rest)) := q_geti cx hB ha hk (by decide) rfl rfl q_inX12 (by decide) q_h1558 hv hdg kk
theorem q_pX12_17 {x : Int} (cx : CallFix p m c cc nL s args q_al RX12) (hB : q_B g K L A w f0 f s H locs) (ha : a ∈ L) (hk : K a = 12) (hr : q_R x) (h1 : (-2147483648) ≤ x) (h2 : x ≤ 2147483647) (hw : q_inW w 12 11 = true) (hdg : decode cc pc = .ok (.putfield 17, 3)) (kk : ∀ (H1 : Heap) (locs1 : List Loc) (f1 : Nat → va_E), f1 = q_set f a 11 (.int (q_i x)) → q_z f1 a 11 = x → q_B g K L A w f0 f1 s H1 locs1 → W p l e R s m args below meth c H1 locs1 cells slots Q (F0 m (pc + 3) ls rest)) : W p l e R s m args below meth c H locs cells slots Q (F0 m pc ls (.int (q_i x) :: .ref a :: rest)) := q_puti cx hB ha hk (by decide) rfl rfl q_inX12 tyX12 q_yX12 q_nX12 (by decide) rfl q_h1560 rfl rfl hr h1 h2 hw hdg kk
theorem q_cX12_85 : ∀ w ∈ wsV RX12 85 RX12 yX12_goes (.code yX12_goes cX12_goes 2 (some .boolean) :: q_al), w ∈ q_al := q_cons q_h1679 (q_cons q_h1681 (q_cons q_h42 (q_cons q_h147 (q_cons q_h1682 q_self))))
theorem q_dX12_goes : yX12_goes.cls = RX12 ∧ yX12_goes.cls ≠ "java/lang/invoke/MethodHandle" ∧ yX12_goes.cls ≠ "java/lang/invoke/VarHandle" ∧ (parseMethodDescriptor yX12_goes.desc).map (fun d => d.parameters.length) = some 1 := by decide +kernel
theorem q_gX12_35 {b : Nat} (cx : CallFix p m c cc nL s args q_al RX12) (hB : q_B g K L A w f0 f s H locs) (ha : a ∈ L) (hk : K a = 12) (hv : q_r f a 18 = b) (hdg : decode cc pc = .ok (.getfield 35, 3)) (kk : b ∈ L → K b = 156 → W p l e R s m args below meth c H locs cells slots Q (F0 m (pc + 3) ls (.ref b :: rest))) : W p l e R s m args below meth c H locs cells slots Q (F0 m pc ls (.ref a :: rest)) := q_getr (k2 := 156) cx hB ha hk (by decide) rfl rfl q_inX12 (by decide) q_h1567 hv hdg kk
theorem q_cX12_175 : ∀ w ∈ wsV RX12 175 RX12 yX12_mustBeWord (.code yX12_mustBeWord cX12_mustBeWord 1 none :: q_al), w ∈ q_al := q_cons q_h1788 (q_cons q_h1790 (q_cons q_h56 (q_cons q_h147 (q_cons q_h1791 q_self))))
theorem q_dX12_mustBeWord : yX12_mustBeWord.cls = RX12 ∧ yX12_mustBeWord.cls ≠ "java/lang/invoke/MethodHandle" ∧ yX12_mustBeWord.cls ≠ "java/lang/invoke/VarHandle" ∧ (parseMethodDescriptor yX12_mustBeWord.desc).map (fun d => d.parameters.length) = some 0 := by decide +kernel
theorem q_cX12_178 : ∀ w ∈ wsV RX12 178 RX12 yX12_named (.code yX12_named cX12_named 3 (some .int) :: q_al), w ∈ q_al := q_cons q_h1792 (q_cons q_h1794 (q_cons q_h57 (q_cons q_h147 (q_cons q_h1795 q_self))))
theorem q_dX12_named : yX12_named.cls = RX12 ∧ yX12_named.cls ≠ "java/lang/invoke/MethodHandle" ∧ yX12_named.cls ≠ "java/lang/invoke/VarHandle" ∧ (parseMethodDescriptor yX12_named.desc).map (fun d => d.parameters.length) = some 0 := by decide +kernel
theorem q_gX12_182 {x : Int} (cx : CallFix p m c cc nL s args q_al RX12) (hB : q_B g K L A w f0 f s H locs) (ha : a ∈ L) (hk : K a = 12) (hv : q_z f a 23 = x) (hdg : decode cc pc = .ok (.getfield 182, 3)) (kk : (-2147483648) ≤ x → x ≤ 2147483647 → W p l e R s m args below meth c H locs cells slots Q (F0 m (pc + 3) ls (.int (q_i x) :: rest))) : W p l e R s m args below meth c H locs cells slots Q (F0 m pc ls (.ref a :: rest)) := q_geti cx hB ha hk (by decide) rfl rfl q_inX12 (by decide) q_h1572 hv hdg kk
theorem q_cX12_185 : ∀ w ∈ va_wsS RX12 185 yX12_has (.code yX12_has cX12_has 2 (some .boolean) :: q_al), w ∈ q_al := q_cons q_h1766 (q_cons q_h1767 (q_cons q_h147 (q_cons q_h1768 q_self)))
theorem q_dX12_has : yX12_has.cls ≠ "java/lang/invoke/MethodHandle" ∧ yX12_has.cls ≠ "java/lang/invoke/VarHandle" ∧ (parseMethodDescriptor yX12_has.desc).map (fun d => d.parameters.length) = some 2 := by decide +kernel
theorem q_pX12_182 {x : Int} (cx : CallFix p m c cc nL s args q_al RX12) (hB : q_B g K L A w f0 f s H locs) (ha : a ∈ L) (hk : K a = 12) (hr : q_R x) (h1 : (-2147483648) ≤ x) (h2 : x ≤ 2147483647) (hw : q_inW w 12 23 = true) (hdg : decode cc pc = .ok (.putfield 182, 3)) (kk : ∀ (H1 : Heap) (locs1 : List Loc) (f1 : Nat → va_E), f1 = q_set f a 23 (.int (q_i x)) → q_z f1 a 23 = x → q_B g K L A w f0 f1 s H1 locs1 → W p l e R s m args below meth c H1 locs1 cells slots Q (F0 m (pc + 3) ls rest)) : W p l e R s m args below meth c H locs cells slots Q (F0 m pc ls (.int (q_i x) :: .ref a :: rest)) := q_puti cx hB ha hk (by decide) rfl rfl q_inX12 tyX12 q_yX12 q_nX12 (by decide) rfl q_h1572 rfl rfl hr h1 h2 hw hdg kk
theorem q_cX12_189 : ∀ w ∈ wsV RX12 189 RX12 yX12_mustWord (.code yX12_mustWord cX12_mustWord 3 none :: q_al), w ∈ q_al := q_cons q_h1801 (q_cons q_h1803 (q_cons q_h59 (q_cons q_h147 (q_cons q_h1804 q_self))))
theorem q_dX12_mustWord : yX12_mustWord.cls = RX12 ∧ yX12_mustWord.cls ≠ "java/lang/invoke/MethodHandle" ∧ yX12_mustWord.cls ≠ "java/lang/invoke/VarHandle" ∧ (parseMethodDescriptor yX12_mustWord.desc).map (fun d => d.parameters.length) = some 1 := by decide +kernel
theorem q_cX12_193 : ∀ w ∈ wsV RX12 193 RX12 yX12_number (.code yX12_number cX12_number 4 (some .int) :: q_al), w ∈ q_al := q_cons q_h1773 (q_cons q_h1775 (q_cons q_h53 (q_cons q_h147 (q_cons q_h1776 q_self))))
theorem q_dX12_number : yX12_number.cls = RX12 ∧ yX12_number.cls ≠ "java/lang/invoke/MethodHandle" ∧ yX12_number.cls ≠ "java/lang/invoke/VarHandle" ∧ (parseMethodDescriptor yX12_number.desc).map (fun d => d.parameters.length) = some 2 := by decide +kernel
theorem q_cX12_210 : ∀ w ∈ wsV RX12 210 RX12 yX12_ofLink (.code yX12_ofLink cX12_ofLink 3 (some .int) :: q_al), w ∈ q_al := q_cons q_h1827 (q_cons q_h1829 (q_cons q_h64 (q_cons q_h147 (q_cons q_h1830 q_self))))
theorem q_dX12_ofLink : yX12_ofLink.cls = RX12 ∧ yX12_ofLink.cls ≠ "java/lang/invoke/MethodHandle" ∧ yX12_ofLink.cls ≠ "java/lang/invoke/VarHandle" ∧ (parseMethodDescriptor yX12_ofLink.desc).map (fun d => d.parameters.length) = some 2 := by decide +kernel
theorem q_cX12_198 : ∀ w ∈ wsV RX12 198 RX12 yX12_after (.code yX12_after cX12_after 5 (some .int) :: q_al), w ∈ q_al := q_cons q_h1797 (q_cons q_h1799 (q_cons q_h58 (q_cons q_h147 (q_cons q_h1800 q_self))))
theorem q_dX12_after : yX12_after.cls = RX12 ∧ yX12_after.cls ≠ "java/lang/invoke/MethodHandle" ∧ yX12_after.cls ≠ "java/lang/invoke/VarHandle" ∧ (parseMethodDescriptor yX12_after.desc).map (fun d => d.parameters.length) = some 3 := by decide +kernel
theorem q_cX12_202 : ∀ w ∈ wsV RX12 202 RX12 yX12_setsNode (.code yX12_setsNode cX12_setsNode 4 none :: q_al), w ∈ q_al := q_cons q_h1805 (q_cons q_h1807 (q_cons q_h60 (q_cons q_h147 (q_cons q_h1808 q_self))))
theorem q_dX12_setsNode : yX12_setsNode.cls = RX12 ∧ yX12_setsNode.cls ≠ "java/lang/invoke/MethodHandle" ∧ yX12_setsNode.cls ≠ "java/lang/invoke/VarHandle" ∧ (parseMethodDescriptor yX12_setsNode.desc).map (fun d => d.parameters.length) = some 3 := by decide +kernel
theorem q_cX12_213 : ∀ w ∈ wsV RX12 213 RX12 yX12_told (.code yX12_told cX12_told 2 (some .int) :: q_al), w ∈ q_al := q_cons q_h1819 (q_cons q_h1821 (q_cons q_h62 (q_cons q_h147 (q_cons q_h1822 q_self))))
theorem q_dX12_told : yX12_told.cls = RX12 ∧ yX12_told.cls ≠ "java/lang/invoke/MethodHandle" ∧ yX12_told.cls ≠ "java/lang/invoke/VarHandle" ∧ (parseMethodDescriptor yX12_told.desc).map (fun d => d.parameters.length) = some 0 := by decide +kernel
theorem q_cX12_216 : ∀ w ∈ wsV RX12 216 RX12 yX12_linkOf (.code yX12_linkOf cX12_linkOf 7 (some .int) :: q_al), w ∈ q_al := q_cons q_h1823 (q_cons q_h1825 (q_cons q_h63 (q_cons q_h147 (q_cons q_h1826 q_self))))
theorem q_dX12_linkOf : yX12_linkOf.cls = RX12 ∧ yX12_linkOf.cls ≠ "java/lang/invoke/MethodHandle" ∧ yX12_linkOf.cls ≠ "java/lang/invoke/VarHandle" ∧ (parseMethodDescriptor yX12_linkOf.desc).map (fun d => d.parameters.length) = some 2 := by decide +kernel
theorem q_cX12_219 : ∀ w ∈ wsV RX12 219 RX12 yX12_setsLink (.code yX12_setsLink cX12_setsLink 4 none :: q_al), w ∈ q_al := q_cons q_h1831 (q_cons q_h1833 (q_cons q_h65 (q_cons q_h147 (q_cons q_h1834 q_self))))
theorem q_dX12_setsLink : yX12_setsLink.cls = RX12 ∧ yX12_setsLink.cls ≠ "java/lang/invoke/MethodHandle" ∧ yX12_setsLink.cls ≠ "java/lang/invoke/VarHandle" ∧ (parseMethodDescriptor yX12_setsLink.desc).map (fun d => d.parameters.length) = some 3 := by decide +kernel
theorem q_cX12_224 : ∀ w ∈ wsV RX12 224 RX12 yX12_once (.code yX12_once cX12_once 2 none :: q_al), w ∈ q_al := q_cons q_h1762 (q_cons q_h1764 (q_cons q_h51 (q_cons q_h147 (q_cons q_h1765 q_self))))
theorem q_dX12_once : yX12_once.cls = RX12 ∧ yX12_once.cls ≠ "java/lang/invoke/MethodHandle" ∧ yX12_once.cls ≠ "java/lang/invoke/VarHandle" ∧ (parseMethodDescriptor yX12_once.desc).map (fun d => d.parameters.length) = some 1 := by decide +kernel
theorem q_cX12_241 : ∀ w ∈ wsV RX12 241 RX12 yX12_mustSign (.code yX12_mustSign cX12_mustSign 2 none :: q_al), w ∈ q_al := q_cons q_h1835 (q_cons q_h1837 (q_cons q_h66 (q_cons q_h147 (q_cons q_h1838 q_self))))
theorem q_dX12_mustSign : yX12_mustSign.cls = RX12 ∧ yX12_mustSign.cls ≠ "java/lang/invoke/MethodHandle" ∧ yX12_mustSign.cls ≠ "java/lang/invoke/VarHandle" ∧ (parseMethodDescriptor yX12_mustSign.desc).map (fun d => d.parameters.length) = some 1 := by decide +kernel
theorem q_cX12_233 : ∀ w ∈ wsV RX12 233 RX12 yX12_readsNode (.code yX12_readsNode cX12_readsNode 3 none :: q_al), w ∈ q_al := q_cons q_h1784 (q_cons q_h1786 (q_cons q_h55 (q_cons q_h147 (q_cons q_h1787 q_self))))
theorem q_dX12_readsNode : yX12_readsNode.cls = RX12 ∧ yX12_readsNode.cls ≠ "java/lang/invoke/MethodHandle" ∧ yX12_readsNode.cls ≠ "java/lang/invoke/VarHandle" ∧ (parseMethodDescriptor yX12_readsNode.desc).map (fun d => d.parameters.length) = some 0 := by decide +kernel
theorem q_cX12_238 : ∀ w ∈ wsV RX12 238 RX12 yX12_readsLink (.code yX12_readsLink cX12_readsLink 4 none :: q_al), w ∈ q_al := q_cons q_h1815 (q_cons q_h1817 (q_cons q_h61 (q_cons q_h147 (q_cons q_h1818 q_self))))
theorem q_dX12_readsLink : yX12_readsLink.cls = RX12 ∧ yX12_readsLink.cls ≠ "java/lang/invoke/MethodHandle" ∧ yX12_readsLink.cls ≠ "java/lang/invoke/VarHandle" ∧ (parseMethodDescriptor yX12_readsLink.desc).map (fun d => d.parameters.length) = some 0 := by decide +kernel
end QR
