section QR
variable {p : Program} {l : Launch} {e : Env} {R : Room} {s : State} {m : MethodId} {args : Array Value} {below : List Frame} {meth : Method} {c : Code} {H : Heap} {locs : List Loc} {cells slots : Nat} {Q : State → Prop}
variable {cc : ByteArray} {pc nL : Nat} {ls : Array Slot} {rest : List Value} {g : q_G} {K : Nat → Nat} {L : List Nat} {A : Nat → Prop} {w : q_Ws} {f0 f : Nat → va_E} {a : Nat}
theorem q_gX10_13 {b : Nat} (cx : CallFix p m c cc nL s args q_al RX10) (hB : q_B g K L A w f0 f s H locs) (ha : a ∈ L) (hk : K a = 10) (hv : q_r f a 0 = b) (hdg : decode cc pc = .ok (.getfield 13, 3)) (kk : b ∈ L → K b = 21 → W p l e R s m args below meth c H locs cells slots Q (F0 m (pc + 3) ls (.ref b :: rest))) : W p l e R s m args below meth c H locs cells slots Q (F0 m pc ls (.ref a :: rest)) := q_getr (k2 := 21) cx hB ha hk (by decide) rfl rfl q_inX10 (by decide) q_h421 hv hdg kk
theorem q_gX10_19 {b : Nat} (cx : CallFix p m c cc nL s args q_al RX10) (hB : q_B g K L A w f0 f s H locs) (ha : a ∈ L) (hk : K a = 10) (hv : q_r f a 1 = b) (hdg : decode cc pc = .ok (.getfield 19, 3)) (kk : b ∈ L → K b = 22 → W p l e R s m args below meth c H locs cells slots Q (F0 m (pc + 3) ls (.ref b :: rest))) : W p l e R s m args below meth c H locs cells slots Q (F0 m pc ls (.ref a :: rest)) := q_getr (k2 := 22) cx hB ha hk (by decide) rfl rfl q_inX10 (by decide) q_h422 hv hdg kk
theorem q_gX10_25 {b : Nat} (cx : CallFix p m c cc nL s args q_al RX10) (hB : q_B g K L A w f0 f s H locs) (ha : a ∈ L) (hk : K a = 10) (hv : q_r f a 2 = b) (hdg : decode cc pc = .ok (.getfield 25, 3)) (kk : b ∈ L → K b = 23 → W p l e R s m args below meth c H locs cells slots Q (F0 m (pc + 3) ls (.ref b :: rest))) : W p l e R s m args below meth c H locs cells slots Q (F0 m pc ls (.ref a :: rest)) := q_getr (k2 := 23) cx hB ha hk (by decide) rfl rfl q_inX10 (by decide) q_h423 hv hdg kk
theorem q_cX10_66 : ∀ w ∈ wsV RX10 66 RX10 yX10_nodeAt (.code yX10_nodeAt cX10_nodeAt 2 (some (.object "WakeVillage$Node")) :: q_al), w ∈ q_al := q_cons q_h574 (q_cons q_h575 (q_cons q_h576 (q_cons q_h141 (q_cons q_h577 q_self))))
theorem q_dX10_nodeAt : yX10_nodeAt.cls = RX10 ∧ yX10_nodeAt.cls ≠ "java/lang/invoke/MethodHandle" ∧ yX10_nodeAt.cls ≠ "java/lang/invoke/VarHandle" ∧ (parseMethodDescriptor yX10_nodeAt.desc).map (fun d => d.parameters.length) = some 1 := by decide +kernel
theorem q_gX10_101 {x : Int} (cx : CallFix p m c cc nL s args q_al RX10) (hB : q_B g K L A w f0 f s H locs) (ha : a ∈ L) (hk : K a = 5) (hv : q_z f a 4 = x) (hdg : decode cc pc = .ok (.getfield 101, 3)) (kk : (-2147483648) ≤ x → x ≤ 2147483647 → W p l e R s m args below meth c H locs cells slots Q (F0 m (pc + 3) ls (.int (q_i x) :: rest))) : W p l e R s m args below meth c H locs cells slots Q (F0 m pc ls (.ref a :: rest)) := q_geti cx hB ha hk (by decide) rfl rfl q_inX5 (by decide) q_h319 hv hdg kk
theorem q_gX10_45 {x : Int} (cx : CallFix p m c cc nL s args q_al RX10) (hB : q_B g K L A w f0 f s H locs) (ha : a ∈ L) (hk : K a = 10) (hv : q_z f a 6 = x) (hdg : decode cc pc = .ok (.getfield 45, 3)) (kk : 4 ≤ x → x ≤ 60 → W p l e R s m args below meth c H locs cells slots Q (F0 m (pc + 3) ls (.int (q_i x) :: rest))) : W p l e R s m args below meth c H locs cells slots Q (F0 m pc ls (.ref a :: rest)) := q_geti cx hB ha hk (by decide) rfl rfl q_inX10 (by decide) q_h434 hv hdg kk
theorem q_gX10_60 {x : Int} (cx : CallFix p m c cc nL s args q_al RX10) (hB : q_B g K L A w f0 f s H locs) (ha : a ∈ L) (hk : K a = 10) (hv : q_z f a 11 = x) (hdg : decode cc pc = .ok (.getfield 60, 3)) (kk : (-2147483648) ≤ x → x ≤ 2147483647 → W p l e R s m args below meth c H locs cells slots Q (F0 m (pc + 3) ls (.int (q_i x) :: rest))) : W p l e R s m args below meth c H locs cells slots Q (F0 m pc ls (.ref a :: rest)) := q_geti cx hB ha hk (by decide) rfl rfl q_inX10 (by decide) q_h447 hv hdg kk
theorem q_gX10_98 {x : Int} (cx : CallFix p m c cc nL s args q_al RX10) (hB : q_B g K L A w f0 f s H locs) (ha : a ∈ L) (hk : K a = 5) (hv : q_z f a 3 = x) (hdg : decode cc pc = .ok (.getfield 98, 3)) (kk : (-2147483648) ≤ x → x ≤ 2147483647 → W p l e R s m args below meth c H locs cells slots Q (F0 m (pc + 3) ls (.int (q_i x) :: rest))) : W p l e R s m args below meth c H locs cells slots Q (F0 m pc ls (.ref a :: rest)) := q_geti cx hB ha hk (by decide) rfl rfl q_inX5 (by decide) q_h313 hv hdg kk
theorem q_cX10_156 : ∀ w ∈ wsV RX10 156 RX10 yX10_dayOfYear (.code yX10_dayOfYear cX10_dayOfYear 2 (some .int) :: q_al), w ∈ q_al := q_cons q_h613 (q_cons q_h614 (q_cons q_h615 (q_cons q_h141 (q_cons q_h616 q_self))))
theorem q_dX10_dayOfYear : yX10_dayOfYear.cls = RX10 ∧ yX10_dayOfYear.cls ≠ "java/lang/invoke/MethodHandle" ∧ yX10_dayOfYear.cls ≠ "java/lang/invoke/VarHandle" ∧ (parseMethodDescriptor yX10_dayOfYear.desc).map (fun d => d.parameters.length) = some 1 := by decide +kernel
theorem q_gX10_92 {x : Int64} (cx : CallFix p m c cc nL s args q_al RX10) (hB : q_B g K L A w f0 f s H locs) (ha : a ∈ L) (hk : K a = 5) (hv : q_j f a 1 = x) (hdg : decode cc pc = .ok (.getfield 92, 3)) (kk : W p l e R s m args below meth c H locs cells slots Q (F0 m (pc + 3) ls (.long x :: rest))) : W p l e R s m args below meth c H locs cells slots Q (F0 m pc ls (.ref a :: rest)) := q_getl cx hB ha hk (by decide) rfl rfl q_inX5 (by decide) q_h308 hv hdg kk
theorem q_gX10_95 {x : Int} (cx : CallFix p m c cc nL s args q_al RX10) (hB : q_B g K L A w f0 f s H locs) (ha : a ∈ L) (hk : K a = 5) (hv : q_z f a 2 = x) (hdg : decode cc pc = .ok (.getfield 95, 3)) (kk : (-2147483648) ≤ x → x ≤ 2147483647 → W p l e R s m args below meth c H locs cells slots Q (F0 m (pc + 3) ls (.int (q_i x) :: rest))) : W p l e R s m args below meth c H locs cells slots Q (F0 m pc ls (.ref a :: rest)) := q_geti cx hB ha hk (by decide) rfl rfl q_inX5 (by decide) q_h310 hv hdg kk
theorem q_gX10_35 {x : Int} (cx : CallFix p m c cc nL s args q_al RX10) (hB : q_B g K L A w f0 f s H locs) (ha : a ∈ L) (hk : K a = 10) (hv : q_z f a 3 = x) (hdg : decode cc pc = .ok (.getfield 35, 3)) (kk : (-2147483648) ≤ x → x ≤ 2147483647 → W p l e R s m args below meth c H locs cells slots Q (F0 m (pc + 3) ls (.int (q_i x) :: rest))) : W p l e R s m args below meth c H locs cells slots Q (F0 m pc ls (.ref a :: rest)) := q_geti cx hB ha hk (by decide) rfl rfl q_inX10 (by decide) q_h424 hv hdg kk
theorem q_gX10_104 {x : Int} (cx : CallFix p m c cc nL s args q_al RX10) (hB : q_B g K L A w f0 f s H locs) (ha : a ∈ L) (hk : K a = 5) (hv : q_z f a 5 = x) (hdg : decode cc pc = .ok (.getfield 104, 3)) (kk : (-2147483648) ≤ x → x ≤ 2147483647 → W p l e R s m args below meth c H locs cells slots Q (F0 m (pc + 3) ls (.int (q_i x) :: rest))) : W p l e R s m args below meth c H locs cells slots Q (F0 m pc ls (.ref a :: rest)) := q_geti cx hB ha hk (by decide) rfl rfl q_inX5 (by decide) q_h321 hv hdg kk
theorem q_cX10_181 : ∀ w ∈ va_wsS RX10 181 yX10_has (.code yX10_has cX10_has 2 (some .boolean) :: q_al), w ∈ q_al := q_cons q_h610 (q_cons q_h611 (q_cons q_h141 (q_cons q_h612 q_self)))
theorem q_dX10_has : yX10_has.cls ≠ "java/lang/invoke/MethodHandle" ∧ yX10_has.cls ≠ "java/lang/invoke/VarHandle" ∧ (parseMethodDescriptor yX10_has.desc).map (fun d => d.parameters.length) = some 2 := by decide +kernel
theorem q_cX10_160 : ∀ w ∈ wsV RX10 160 RX10 yX10_isOut (.code yX10_isOut cX10_isOut 2 (some .boolean) :: q_al), w ∈ q_al := q_cons q_h602 (q_cons q_h603 (q_cons q_h604 (q_cons q_h141 (q_cons q_h605 q_self))))
theorem q_dX10_isOut : yX10_isOut.cls = RX10 ∧ yX10_isOut.cls ≠ "java/lang/invoke/MethodHandle" ∧ yX10_isOut.cls ≠ "java/lang/invoke/VarHandle" ∧ (parseMethodDescriptor yX10_isOut.desc).map (fun d => d.parameters.length) = some 1 := by decide +kernel
theorem q_cX10_174 : ∀ w ∈ wsV RX10 174 RX10 yX10_tableOf (.code yX10_tableOf cX10_tableOf 6 (some .long) :: q_al), w ∈ q_al := q_cons q_h606 (q_cons q_h607 (q_cons q_h608 (q_cons q_h141 (q_cons q_h609 q_self))))
theorem q_dX10_tableOf : yX10_tableOf.cls = RX10 ∧ yX10_tableOf.cls ≠ "java/lang/invoke/MethodHandle" ∧ yX10_tableOf.cls ≠ "java/lang/invoke/VarHandle" ∧ (parseMethodDescriptor yX10_tableOf.desc).map (fun d => d.parameters.length) = some 1 := by decide +kernel
theorem q_cX10_178 : ∀ w ∈ wsV RX10 178 RX10 yX10_dayOf (.code yX10_dayOf cX10_dayOf 2 (some .int) :: q_al), w ∈ q_al := q_cons q_h697 (q_cons q_h698 (q_cons q_h699 (q_cons q_h141 (q_cons q_h700 q_self))))
theorem q_dX10_dayOf : yX10_dayOf.cls = RX10 ∧ yX10_dayOf.cls ≠ "java/lang/invoke/MethodHandle" ∧ yX10_dayOf.cls ≠ "java/lang/invoke/VarHandle" ∧ (parseMethodDescriptor yX10_dayOf.desc).map (fun d => d.parameters.length) = some 1 := by decide +kernel
theorem q_cX10_170 : ∀ w ∈ va_wsS RX10 170 yX10_hasDay (.code yX10_hasDay cX10_hasDay 3 (some .boolean) :: q_al), w ∈ q_al := q_cons q_h617 (q_cons q_h618 (q_cons q_h141 (q_cons q_h619 q_self)))
theorem q_dX10_hasDay : yX10_hasDay.cls ≠ "java/lang/invoke/MethodHandle" ∧ yX10_hasDay.cls ≠ "java/lang/invoke/VarHandle" ∧ (parseMethodDescriptor yX10_hasDay.desc).map (fun d => d.parameters.length) = some 2 := by decide +kernel
end QR
theorem dX10_nodeAt_0 : decode cX10_nodeAt 0 = .ok (.aload_n 0, 1) := by decide +kernel
theorem dX10_nodeAt_1 : decode cX10_nodeAt 1 = .ok (.getfield 13, 3) := by decide +kernel
theorem dX10_nodeAt_4 : decode cX10_nodeAt 4 = .ok (.iload_n 1, 1) := by decide +kernel
theorem dX10_nodeAt_5 : decode cX10_nodeAt 5 = .ok (.ifCond .lt 16, 3) := by decide +kernel
theorem dX10_nodeAt_21 : decode cX10_nodeAt 21 = .ok (.iconst 0, 1) := by decide +kernel
theorem dX10_nodeAt_22 : decode cX10_nodeAt 22 = .ok (.aaload, 1) := by decide +kernel
theorem dX10_nodeAt_23 : decode cX10_nodeAt 23 = .ok (.areturn, 1) := by decide +kernel
theorem dX10_nodeAt_8 : decode cX10_nodeAt 8 = .ok (.iload_n 1, 1) := by decide +kernel
theorem dX10_nodeAt_9 : decode cX10_nodeAt 9 = .ok (.aload_n 0, 1) := by decide +kernel
theorem dX10_nodeAt_10 : decode cX10_nodeAt 10 = .ok (.getfield 13, 3) := by decide +kernel
theorem dX10_nodeAt_13 : decode cX10_nodeAt 13 = .ok (.arraylength, 1) := by decide +kernel
theorem dX10_nodeAt_14 : decode cX10_nodeAt 14 = .ok (.if_icmp .ge 7, 3) := by decide +kernel
theorem dX10_nodeAt_17 : decode cX10_nodeAt 17 = .ok (.iload_n 1, 1) := by decide +kernel
theorem dX10_nodeAt_18 : decode cX10_nodeAt 18 = .ok (.goto 4, 3) := by decide +kernel
theorem dX10_linkAt_0 : decode cX10_linkAt 0 = .ok (.aload_n 0, 1) := by decide +kernel
theorem dX10_linkAt_1 : decode cX10_linkAt 1 = .ok (.getfield 19, 3) := by decide +kernel
theorem dX10_linkAt_4 : decode cX10_linkAt 4 = .ok (.iload_n 1, 1) := by decide +kernel
theorem dX10_linkAt_5 : decode cX10_linkAt 5 = .ok (.ifCond .lt 16, 3) := by decide +kernel
theorem dX10_linkAt_21 : decode cX10_linkAt 21 = .ok (.iconst 0, 1) := by decide +kernel
theorem dX10_linkAt_22 : decode cX10_linkAt 22 = .ok (.aaload, 1) := by decide +kernel
theorem dX10_linkAt_23 : decode cX10_linkAt 23 = .ok (.areturn, 1) := by decide +kernel
theorem dX10_linkAt_8 : decode cX10_linkAt 8 = .ok (.iload_n 1, 1) := by decide +kernel
theorem dX10_linkAt_9 : decode cX10_linkAt 9 = .ok (.aload_n 0, 1) := by decide +kernel
theorem dX10_linkAt_10 : decode cX10_linkAt 10 = .ok (.getfield 19, 3) := by decide +kernel
theorem dX10_linkAt_13 : decode cX10_linkAt 13 = .ok (.arraylength, 1) := by decide +kernel
theorem dX10_linkAt_14 : decode cX10_linkAt 14 = .ok (.if_icmp .ge 7, 3) := by decide +kernel
theorem dX10_linkAt_17 : decode cX10_linkAt 17 = .ok (.iload_n 1, 1) := by decide +kernel
theorem dX10_linkAt_18 : decode cX10_linkAt 18 = .ok (.goto 4, 3) := by decide +kernel
theorem dX10_messageAt_0 : decode cX10_messageAt 0 = .ok (.aload_n 0, 1) := by decide +kernel
theorem dX10_messageAt_1 : decode cX10_messageAt 1 = .ok (.getfield 25, 3) := by decide +kernel
theorem dX10_messageAt_4 : decode cX10_messageAt 4 = .ok (.iload_n 1, 1) := by decide +kernel
theorem dX10_messageAt_5 : decode cX10_messageAt 5 = .ok (.ifCond .lt 16, 3) := by decide +kernel
theorem dX10_messageAt_21 : decode cX10_messageAt 21 = .ok (.iconst 0, 1) := by decide +kernel
theorem dX10_messageAt_22 : decode cX10_messageAt 22 = .ok (.aaload, 1) := by decide +kernel
theorem dX10_messageAt_23 : decode cX10_messageAt 23 = .ok (.areturn, 1) := by decide +kernel
theorem dX10_messageAt_8 : decode cX10_messageAt 8 = .ok (.iload_n 1, 1) := by decide +kernel
theorem dX10_messageAt_9 : decode cX10_messageAt 9 = .ok (.aload_n 0, 1) := by decide +kernel
theorem dX10_messageAt_10 : decode cX10_messageAt 10 = .ok (.getfield 25, 3) := by decide +kernel
theorem dX10_messageAt_13 : decode cX10_messageAt 13 = .ok (.arraylength, 1) := by decide +kernel
theorem dX10_messageAt_14 : decode cX10_messageAt 14 = .ok (.if_icmp .ge 7, 3) := by decide +kernel
theorem dX10_messageAt_17 : decode cX10_messageAt 17 = .ok (.iload_n 1, 1) := by decide +kernel
theorem dX10_messageAt_18 : decode cX10_messageAt 18 = .ok (.goto 4, 3) := by decide +kernel
theorem dX10_has_0 : decode cX10_has 0 = .ok (.iload_n 0, 1) := by decide +kernel
theorem dX10_has_1 : decode cX10_has 1 = .ok (.iload_n 1, 1) := by decide +kernel
theorem dX10_has_2 : decode cX10_has 2 = .ok (.ishr, 1) := by decide +kernel
theorem dX10_has_3 : decode cX10_has 3 = .ok (.iconst 1, 1) := by decide +kernel
theorem dX10_has_4 : decode cX10_has 4 = .ok (.iand, 1) := by decide +kernel
theorem dX10_has_5 : decode cX10_has 5 = .ok (.ifCond .eq 7, 3) := by decide +kernel
theorem dX10_has_12 : decode cX10_has 12 = .ok (.iconst 0, 1) := by decide +kernel
theorem dX10_has_13 : decode cX10_has 13 = .ok (.ireturn, 1) := by decide +kernel
theorem dX10_has_8 : decode cX10_has 8 = .ok (.iconst 1, 1) := by decide +kernel
theorem dX10_has_9 : decode cX10_has 9 = .ok (.goto 4, 3) := by decide +kernel
theorem dX10_isOut_0 : decode cX10_isOut 0 = .ok (.aload_n 0, 1) := by decide +kernel
theorem dX10_isOut_1 : decode cX10_isOut 1 = .ok (.iload_n 1, 1) := by decide +kernel
theorem dX10_isOut_2 : decode cX10_isOut 2 = .ok (.invokevirtual 66, 3) := by decide +kernel
theorem dX10_isOut_5 : decode cX10_isOut 5 = .ok (.getfield 101, 3) := by decide +kernel
theorem dX10_isOut_8 : decode cX10_isOut 8 = .ok (.ifCond .ne 7, 3) := by decide +kernel
theorem dX10_isOut_15 : decode cX10_isOut 15 = .ok (.iconst 0, 1) := by decide +kernel
theorem dX10_isOut_16 : decode cX10_isOut 16 = .ok (.ireturn, 1) := by decide +kernel
theorem dX10_isOut_11 : decode cX10_isOut 11 = .ok (.iconst 1, 1) := by decide +kernel
theorem dX10_isOut_12 : decode cX10_isOut 12 = .ok (.goto 4, 3) := by decide +kernel
theorem dX10_dayOfYear_0 : decode cX10_dayOfYear 0 = .ok (.aload_n 0, 1) := by decide +kernel
theorem dX10_dayOfYear_1 : decode cX10_dayOfYear 1 = .ok (.getfield 45, 3) := by decide +kernel
theorem dX10_dayOfYear_4 : decode cX10_dayOfYear 4 = .ok (.ifCond .le 12, 3) := by decide +kernel
theorem dX10_dayOfYear_7 : decode cX10_dayOfYear 7 = .ok (.iload_n 1, 1) := by decide +kernel
theorem dX10_dayOfYear_8 : decode cX10_dayOfYear 8 = .ok (.aload_n 0, 1) := by decide +kernel
theorem dX10_dayOfYear_9 : decode cX10_dayOfYear 9 = .ok (.getfield 45, 3) := by decide +kernel
theorem dX10_dayOfYear_12 : decode cX10_dayOfYear 12 = .ok (.irem, 1) := by decide +kernel
theorem dX10_dayOfYear_13 : decode cX10_dayOfYear 13 = .ok (.goto 4, 3) := by decide +kernel
theorem dX10_dayOfYear_17 : decode cX10_dayOfYear 17 = .ok (.ireturn, 1) := by decide +kernel
theorem dX10_dayOf_0 : decode cX10_dayOf 0 = .ok (.aload_n 0, 1) := by decide +kernel
theorem dX10_dayOf_1 : decode cX10_dayOf 1 = .ok (.aload_n 0, 1) := by decide +kernel
theorem dX10_dayOf_2 : decode cX10_dayOf 2 = .ok (.getfield 60, 3) := by decide +kernel
theorem dX10_dayOf_5 : decode cX10_dayOf 5 = .ok (.aload_n 0, 1) := by decide +kernel
theorem dX10_dayOf_6 : decode cX10_dayOf 6 = .ok (.iload_n 1, 1) := by decide +kernel
theorem dX10_dayOf_7 : decode cX10_dayOf 7 = .ok (.invokevirtual 66, 3) := by decide +kernel
theorem dX10_dayOf_10 : decode cX10_dayOf 10 = .ok (.getfield 98, 3) := by decide +kernel
theorem dX10_dayOf_13 : decode cX10_dayOf 13 = .ok (.iadd, 1) := by decide +kernel
theorem dX10_dayOf_14 : decode cX10_dayOf 14 = .ok (.invokevirtual 156, 3) := by decide +kernel
theorem dX10_dayOf_17 : decode cX10_dayOf 17 = .ok (.ireturn, 1) := by decide +kernel
theorem dX10_hasDay_0 : decode cX10_hasDay 0 = .ok (.lload_n 0, 1) := by decide +kernel
theorem dX10_hasDay_1 : decode cX10_hasDay 1 = .ok (.iload_n 2, 1) := by decide +kernel
theorem dX10_hasDay_2 : decode cX10_hasDay 2 = .ok (.lshr, 1) := by decide +kernel
theorem dX10_hasDay_3 : decode cX10_hasDay 3 = .ok (.lconst 1, 1) := by decide +kernel
theorem dX10_hasDay_4 : decode cX10_hasDay 4 = .ok (.land, 1) := by decide +kernel
theorem dX10_hasDay_5 : decode cX10_hasDay 5 = .ok (.lconst 0, 1) := by decide +kernel
theorem dX10_hasDay_6 : decode cX10_hasDay 6 = .ok (.lcmp, 1) := by decide +kernel
theorem dX10_hasDay_7 : decode cX10_hasDay 7 = .ok (.ifCond .eq 7, 3) := by decide +kernel
theorem dX10_hasDay_14 : decode cX10_hasDay 14 = .ok (.iconst 0, 1) := by decide +kernel
theorem dX10_hasDay_15 : decode cX10_hasDay 15 = .ok (.ireturn, 1) := by decide +kernel
theorem dX10_hasDay_10 : decode cX10_hasDay 10 = .ok (.iconst 1, 1) := by decide +kernel
theorem dX10_hasDay_11 : decode cX10_hasDay 11 = .ok (.goto 4, 3) := by decide +kernel
theorem dX10_tableOf_0 : decode cX10_tableOf 0 = .ok (.aload_n 0, 1) := by decide +kernel
theorem dX10_tableOf_1 : decode cX10_tableOf 1 = .ok (.iload_n 1, 1) := by decide +kernel
theorem dX10_tableOf_2 : decode cX10_tableOf 2 = .ok (.invokevirtual 66, 3) := by decide +kernel
theorem dX10_tableOf_5 : decode cX10_tableOf 5 = .ok (.astore_n 2, 1) := by decide +kernel
theorem dX10_tableOf_6 : decode cX10_tableOf 6 = .ok (.aload_n 2, 1) := by decide +kernel
theorem dX10_tableOf_7 : decode cX10_tableOf 7 = .ok (.getfield 92, 3) := by decide +kernel
theorem dX10_tableOf_10 : decode cX10_tableOf 10 = .ok (.lconst 1, 1) := by decide +kernel
theorem dX10_tableOf_11 : decode cX10_tableOf 11 = .ok (.aload_n 2, 1) := by decide +kernel
theorem dX10_tableOf_12 : decode cX10_tableOf 12 = .ok (.getfield 95, 3) := by decide +kernel
theorem dX10_tableOf_15 : decode cX10_tableOf 15 = .ok (.lshl, 1) := by decide +kernel
theorem dX10_tableOf_16 : decode cX10_tableOf 16 = .ok (.lor, 1) := by decide +kernel
theorem dX10_tableOf_17 : decode cX10_tableOf 17 = .ok (.lstore_n 3, 1) := by decide +kernel
theorem dX10_tableOf_18 : decode cX10_tableOf 18 = .ok (.iconst 0, 1) := by decide +kernel
theorem dX10_tableOf_19 : decode cX10_tableOf 19 = .ok (.istore 5, 2) := by decide +kernel
theorem dX10_tableOf_21 : decode cX10_tableOf 21 = .ok (.iload 5, 2) := by decide +kernel
theorem dX10_tableOf_23 : decode cX10_tableOf 23 = .ok (.aload_n 0, 1) := by decide +kernel
theorem dX10_tableOf_24 : decode cX10_tableOf 24 = .ok (.getfield 35, 3) := by decide +kernel
theorem dX10_tableOf_27 : decode cX10_tableOf 27 = .ok (.if_icmp .ge 35, 3) := by decide +kernel
theorem dX10_tableOf_62 : decode cX10_tableOf 62 = .ok (.lload_n 3, 1) := by decide +kernel
theorem dX10_tableOf_63 : decode cX10_tableOf 63 = .ok (.lreturn, 1) := by decide +kernel
theorem dX10_tableOf_30 : decode cX10_tableOf 30 = .ok (.aload_n 2, 1) := by decide +kernel
theorem dX10_tableOf_31 : decode cX10_tableOf 31 = .ok (.getfield 104, 3) := by decide +kernel
theorem dX10_tableOf_34 : decode cX10_tableOf 34 = .ok (.iload 5, 2) := by decide +kernel
theorem dX10_tableOf_36 : decode cX10_tableOf 36 = .ok (.invokestatic 181, 3) := by decide +kernel
theorem dX10_tableOf_39 : decode cX10_tableOf 39 = .ok (.ifCond .eq 17, 3) := by decide +kernel
theorem dX10_tableOf_42 : decode cX10_tableOf 42 = .ok (.lload_n 3, 1) := by decide +kernel
theorem dX10_tableOf_43 : decode cX10_tableOf 43 = .ok (.lconst 1, 1) := by decide +kernel
theorem dX10_tableOf_44 : decode cX10_tableOf 44 = .ok (.aload_n 0, 1) := by decide +kernel
theorem dX10_tableOf_45 : decode cX10_tableOf 45 = .ok (.iload 5, 2) := by decide +kernel
theorem dX10_tableOf_47 : decode cX10_tableOf 47 = .ok (.invokevirtual 66, 3) := by decide +kernel
theorem dX10_tableOf_50 : decode cX10_tableOf 50 = .ok (.getfield 95, 3) := by decide +kernel
theorem dX10_tableOf_53 : decode cX10_tableOf 53 = .ok (.lshl, 1) := by decide +kernel
theorem dX10_tableOf_54 : decode cX10_tableOf 54 = .ok (.lor, 1) := by decide +kernel
theorem dX10_tableOf_55 : decode cX10_tableOf 55 = .ok (.lstore_n 3, 1) := by decide +kernel
theorem dX10_tableOf_56 : decode cX10_tableOf 56 = .ok (.iinc 5 1, 3) := by decide +kernel
theorem dX10_tableOf_59 : decode cX10_tableOf 59 = .ok (.goto (-38), 3) := by decide +kernel
theorem dX10_isAwake_0 : decode cX10_isAwake 0 = .ok (.aload_n 0, 1) := by decide +kernel
theorem dX10_isAwake_1 : decode cX10_isAwake 1 = .ok (.iload_n 1, 1) := by decide +kernel
theorem dX10_isAwake_2 : decode cX10_isAwake 2 = .ok (.invokevirtual 160, 3) := by decide +kernel
theorem dX10_isAwake_5 : decode cX10_isAwake 5 = .ok (.ifCond .ne 23, 3) := by decide +kernel
theorem dX10_isAwake_28 : decode cX10_isAwake 28 = .ok (.iconst 0, 1) := by decide +kernel
theorem dX10_isAwake_29 : decode cX10_isAwake 29 = .ok (.ireturn, 1) := by decide +kernel
theorem dX10_isAwake_8 : decode cX10_isAwake 8 = .ok (.aload_n 0, 1) := by decide +kernel
theorem dX10_isAwake_9 : decode cX10_isAwake 9 = .ok (.iload_n 1, 1) := by decide +kernel
theorem dX10_isAwake_10 : decode cX10_isAwake 10 = .ok (.invokevirtual 174, 3) := by decide +kernel
theorem dX10_isAwake_13 : decode cX10_isAwake 13 = .ok (.aload_n 0, 1) := by decide +kernel
theorem dX10_isAwake_14 : decode cX10_isAwake 14 = .ok (.iload_n 1, 1) := by decide +kernel
theorem dX10_isAwake_15 : decode cX10_isAwake 15 = .ok (.invokevirtual 178, 3) := by decide +kernel
theorem dX10_isAwake_18 : decode cX10_isAwake 18 = .ok (.invokestatic 170, 3) := by decide +kernel
theorem dX10_isAwake_21 : decode cX10_isAwake 21 = .ok (.ifCond .eq 7, 3) := by decide +kernel
theorem dX10_isAwake_24 : decode cX10_isAwake 24 = .ok (.iconst 1, 1) := by decide +kernel
theorem dX10_isAwake_25 : decode cX10_isAwake 25 = .ok (.goto 4, 3) := by decide +kernel
theorem dX10_energySum_0 : decode cX10_energySum 0 = .ok (.iconst 0, 1) := by decide +kernel
theorem dX10_energySum_1 : decode cX10_energySum 1 = .ok (.istore_n 1, 1) := by decide +kernel
theorem dX10_energySum_2 : decode cX10_energySum 2 = .ok (.iconst 0, 1) := by decide +kernel
theorem dX10_energySum_3 : decode cX10_energySum 3 = .ok (.istore_n 2, 1) := by decide +kernel
theorem dX10_energySum_4 : decode cX10_energySum 4 = .ok (.iload_n 2, 1) := by decide +kernel
theorem dX10_energySum_5 : decode cX10_energySum 5 = .ok (.aload_n 0, 1) := by decide +kernel
theorem dX10_energySum_6 : decode cX10_energySum 6 = .ok (.getfield 35, 3) := by decide +kernel
theorem dX10_energySum_9 : decode cX10_energySum 9 = .ok (.if_icmp .ge 20, 3) := by decide +kernel
theorem dX10_energySum_29 : decode cX10_energySum 29 = .ok (.iload_n 1, 1) := by decide +kernel
theorem dX10_energySum_30 : decode cX10_energySum 30 = .ok (.ireturn, 1) := by decide +kernel
theorem dX10_energySum_12 : decode cX10_energySum 12 = .ok (.iload_n 1, 1) := by decide +kernel
theorem dX10_energySum_13 : decode cX10_energySum 13 = .ok (.aload_n 0, 1) := by decide +kernel
theorem dX10_energySum_14 : decode cX10_energySum 14 = .ok (.iload_n 2, 1) := by decide +kernel
theorem dX10_energySum_15 : decode cX10_energySum 15 = .ok (.invokevirtual 66, 3) := by decide +kernel
theorem dX10_energySum_18 : decode cX10_energySum 18 = .ok (.getfield 101, 3) := by decide +kernel
theorem dX10_energySum_21 : decode cX10_energySum 21 = .ok (.iadd, 1) := by decide +kernel
theorem dX10_energySum_22 : decode cX10_energySum 22 = .ok (.istore_n 1, 1) := by decide +kernel
theorem dX10_energySum_23 : decode cX10_energySum 23 = .ok (.iinc 2 1, 3) := by decide +kernel
theorem dX10_energySum_26 : decode cX10_energySum 26 = .ok (.goto (-22), 3) := by decide +kernel
theorem dX10_notOut_0 : decode cX10_notOut 0 = .ok (.iconst 0, 1) := by decide +kernel
theorem dX10_notOut_1 : decode cX10_notOut 1 = .ok (.istore_n 1, 1) := by decide +kernel
theorem dX10_notOut_2 : decode cX10_notOut 2 = .ok (.iconst 0, 1) := by decide +kernel
theorem dX10_notOut_3 : decode cX10_notOut 3 = .ok (.istore_n 2, 1) := by decide +kernel
theorem dX10_notOut_4 : decode cX10_notOut 4 = .ok (.iload_n 2, 1) := by decide +kernel
theorem dX10_notOut_5 : decode cX10_notOut 5 = .ok (.aload_n 0, 1) := by decide +kernel
theorem dX10_notOut_6 : decode cX10_notOut 6 = .ok (.getfield 35, 3) := by decide +kernel
theorem dX10_notOut_9 : decode cX10_notOut 9 = .ok (.if_icmp .ge 26, 3) := by decide +kernel
theorem dX10_notOut_35 : decode cX10_notOut 35 = .ok (.iload_n 1, 1) := by decide +kernel
theorem dX10_notOut_36 : decode cX10_notOut 36 = .ok (.ireturn, 1) := by decide +kernel
theorem dX10_notOut_12 : decode cX10_notOut 12 = .ok (.aload_n 0, 1) := by decide +kernel
theorem dX10_notOut_13 : decode cX10_notOut 13 = .ok (.iload_n 2, 1) := by decide +kernel
theorem dX10_notOut_14 : decode cX10_notOut 14 = .ok (.invokevirtual 66, 3) := by decide +kernel
theorem dX10_notOut_17 : decode cX10_notOut 17 = .ok (.getfield 101, 3) := by decide +kernel
theorem dX10_notOut_20 : decode cX10_notOut 20 = .ok (.ifCond .le 9, 3) := by decide +kernel
theorem dX10_notOut_23 : decode cX10_notOut 23 = .ok (.iload_n 1, 1) := by decide +kernel
theorem dX10_notOut_24 : decode cX10_notOut 24 = .ok (.iconst 1, 1) := by decide +kernel
theorem dX10_notOut_25 : decode cX10_notOut 25 = .ok (.iload_n 2, 1) := by decide +kernel
theorem dX10_notOut_26 : decode cX10_notOut 26 = .ok (.ishl, 1) := by decide +kernel
theorem dX10_notOut_27 : decode cX10_notOut 27 = .ok (.ior, 1) := by decide +kernel
theorem dX10_notOut_28 : decode cX10_notOut 28 = .ok (.istore_n 1, 1) := by decide +kernel
theorem dX10_notOut_29 : decode cX10_notOut 29 = .ok (.iinc 2 1, 3) := by decide +kernel
theorem dX10_notOut_32 : decode cX10_notOut 32 = .ok (.goto (-28), 3) := by decide +kernel
