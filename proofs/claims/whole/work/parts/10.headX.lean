def rJ7_fill_53178 : Room := { frames := 0, cells := 0, slots := 0, locals := 0 }
theorem ndJ7_fill_53178 : yJ7_fill_53178.cls = RJ7 ∧ yJ7_fill_53178.cls ≠ "java/lang/invoke/MethodHandle" ∧ yJ7_fill_53178.cls ≠ "java/lang/invoke/VarHandle" ∧ (parseMethodDescriptor yJ7_fill_53178.desc).map (fun d => d.parameters.length) = some 2 := by decide +kernel
def rX0_erase : Room := { frames := 1, cells := 0, slots := 0, locals := 23 }
theorem ndX0_erase : yX0_erase.cls = RX0 ∧ yX0_erase.cls ≠ "java/lang/invoke/MethodHandle" ∧ yX0_erase.cls ≠ "java/lang/invoke/VarHandle" ∧ (parseMethodDescriptor yX0_erase.desc).map (fun d => d.parameters.length) = some 0 := by decide +kernel
theorem iX0_erase_X0 : ∀ w ∈ u_ws RX0 TX0 3, w ∈ wsX0_erase := by decide +kernel
theorem kX0_erase_9 : Cond.fieldLink RX0 9 (TX0 0).1 (TX0 0).2.1 (TX0 0).2.2.1 ∈ wsX0_erase := by decide +kernel
theorem kX0_erase_21 : Cond.fieldLink RX0 21 (TX0 1).1 (TX0 1).2.1 (TX0 1).2.2.1 ∈ wsX0_erase := by decide +kernel
theorem kX0_erase_25 : Cond.fieldLink RX0 25 (TX0 2).1 (TX0 2).2.1 (TX0 2).2.2.1 ∈ wsX0_erase := by decide +kernel
def rX1_vacate : Room := { frames := 0, cells := 0, slots := 0, locals := 0 }
theorem ndX1_vacate : yX1_vacate.cls = RX1 ∧ yX1_vacate.cls ≠ "java/lang/invoke/MethodHandle" ∧ yX1_vacate.cls ≠ "java/lang/invoke/VarHandle" ∧ (parseMethodDescriptor yX1_vacate.desc).map (fun d => d.parameters.length) = some 1 := by decide +kernel
theorem iX1_vacate_X1 : ∀ w ∈ u_ws RX1 TX1 6, w ∈ wsX1_vacate := by decide +kernel
theorem kX1_vacate_9 : Cond.fieldLink RX1 9 (TX1 0).1 (TX1 0).2.1 (TX1 0).2.2.1 ∈ wsX1_vacate := by decide +kernel
theorem kX1_vacate_15 : Cond.fieldLink RX1 15 (TX1 1).1 (TX1 1).2.1 (TX1 1).2.2.1 ∈ wsX1_vacate := by decide +kernel
theorem kX1_vacate_22 : Cond.fieldLink RX1 22 (TX1 3).1 (TX1 3).2.1 (TX1 3).2.2.1 ∈ wsX1_vacate := by decide +kernel
def rX1_empty : Room := { frames := 1, cells := 0, slots := 0, locals := 21 }
theorem ndX1_empty : yX1_empty.cls = RX1 ∧ yX1_empty.cls ≠ "java/lang/invoke/MethodHandle" ∧ yX1_empty.cls ≠ "java/lang/invoke/VarHandle" ∧ (parseMethodDescriptor yX1_empty.desc).map (fun d => d.parameters.length) = some 1 := by decide +kernel
theorem iX1_empty_X1 : ∀ w ∈ u_ws RX1 TX1 6, w ∈ wsX1_empty := by decide +kernel
theorem kX1_empty_29 : Cond.fieldLink RX1 29 (TX1 5).1 (TX1 5).2.1 (TX1 5).2.2.1 ∈ wsX1_empty := by decide +kernel
theorem kX1_empty_33 : Cond.fieldLink RX1 33 (TX1 4).1 (TX1 4).2.1 (TX1 4).2.2.1 ∈ wsX1_empty := by decide +kernel
def rX3_empty : Room := { frames := 0, cells := 0, slots := 0, locals := 0 }
theorem ndX3_empty : yX3_empty.cls = RX3 ∧ yX3_empty.cls ≠ "java/lang/invoke/MethodHandle" ∧ yX3_empty.cls ≠ "java/lang/invoke/VarHandle" ∧ (parseMethodDescriptor yX3_empty.desc).map (fun d => d.parameters.length) = some 1 := by decide +kernel
theorem iX3_empty_X3 : ∀ w ∈ u_ws RX3 TX3 4, w ∈ wsX3_empty := by decide +kernel
theorem kX3_empty_18 : Cond.fieldLink RX3 18 (TX3 3).1 (TX3 3).2.1 (TX3 3).2.2.1 ∈ wsX3_empty := by decide +kernel
theorem kX3_empty_22 : Cond.fieldLink RX3 22 (TX3 2).1 (TX3 2).2.1 (TX3 2).2.2.1 ∈ wsX3_empty := by decide +kernel
def rX2_forgetAll : Room := { frames := 1, cells := 0, slots := 0, locals := 23 }
theorem ndX2_forgetAll : yX2_forgetAll.cls = RX2 ∧ yX2_forgetAll.cls ≠ "java/lang/invoke/MethodHandle" ∧ yX2_forgetAll.cls ≠ "java/lang/invoke/VarHandle" ∧ (parseMethodDescriptor yX2_forgetAll.desc).map (fun d => d.parameters.length) = some 1 := by decide +kernel
theorem iX2_forgetAll_X2 : ∀ w ∈ u_ws RX2 TX2 3, w ∈ wsX2_forgetAll := by decide +kernel
theorem kX2_forgetAll_15 : Cond.fieldLink RX2 15 (TX2 1).1 (TX2 1).2.1 (TX2 1).2.2.1 ∈ wsX2_forgetAll := by decide +kernel
theorem kX2_forgetAll_24 : Cond.fieldLink RX2 24 (TX2 2).1 (TX2 2).2.1 (TX2 2).2.2.1 ∈ wsX2_forgetAll := by decide +kernel
def rX4_startAnew : Room := { frames := 2, cells := 0, slots := 0, locals := 44 }
theorem ndX4_startAnew : yX4_startAnew.cls = RX4 ∧ yX4_startAnew.cls ≠ "java/lang/invoke/MethodHandle" ∧ yX4_startAnew.cls ≠ "java/lang/invoke/VarHandle" ∧ (parseMethodDescriptor yX4_startAnew.desc).map (fun d => d.parameters.length) = some 4 := by decide +kernel
theorem iX4_startAnew_X4 : ∀ w ∈ u_ws RX4 TX4 10, w ∈ wsX4_startAnew := by decide +kernel
theorem kX4_startAnew_10 : Cond.fieldLink RX4 10 (TX4 0).1 (TX4 0).2.1 (TX4 0).2.2.1 ∈ wsX4_startAnew := by decide +kernel
theorem kX4_startAnew_19 : Cond.fieldLink RX4 19 (TX4 1).1 (TX4 1).2.1 (TX4 1).2.2.1 ∈ wsX4_startAnew := by decide +kernel
theorem kX4_startAnew_26 : Cond.fieldLink RX4 26 (TX4 2).1 (TX4 2).2.1 (TX4 2).2.2.1 ∈ wsX4_startAnew := by decide +kernel
theorem kX4_startAnew_33 : Cond.fieldLink RX4 33 (TX4 3).1 (TX4 3).2.1 (TX4 3).2.2.1 ∈ wsX4_startAnew := by decide +kernel
theorem kX4_startAnew_111 : Cond.fieldLink RX4 111 (TX4 5).1 (TX4 5).2.1 (TX4 5).2.2.1 ∈ wsX4_startAnew := by decide +kernel
theorem kX4_startAnew_129 : Cond.fieldLink RX4 129 (TX4 6).1 (TX4 6).2.1 (TX4 6).2.2.1 ∈ wsX4_startAnew := by decide +kernel
theorem kX4_startAnew_132 : Cond.fieldLink RX4 132 (TX4 7).1 (TX4 7).2.1 (TX4 7).2.2.1 ∈ wsX4_startAnew := by decide +kernel
theorem kX4_startAnew_135 : Cond.fieldLink RX4 135 (TX4 8).1 (TX4 8).2.1 (TX4 8).2.2.1 ∈ wsX4_startAnew := by decide +kernel
theorem kX4_startAnew_144 : Cond.fieldLink RX4 144 (TX4 9).1 (TX4 9).2.1 (TX4 9).2.2.1 ∈ wsX4_startAnew := by decide +kernel
theorem kX4_startAnew_157 : Cond.fieldLink RX4 157 (TX4 4).1 (TX4 4).2.1 (TX4 4).2.2.1 ∈ wsX4_startAnew := by decide +kernel
def rX4_isWithin : Room := { frames := 0, cells := 0, slots := 0, locals := 0 }
theorem ndX4_isWithin : yX4_isWithin.cls = RX4 ∧ yX4_isWithin.cls ≠ "java/lang/invoke/MethodHandle" ∧ yX4_isWithin.cls ≠ "java/lang/invoke/VarHandle" ∧ (parseMethodDescriptor yX4_isWithin.desc).map (fun d => d.parameters.length) = some 3 := by decide +kernel
def rX4_reset : Room := { frames := 3, cells := 0, slots := 0, locals := 68 }
theorem ndX4_reset : yX4_reset.cls = RX4 ∧ yX4_reset.cls ≠ "java/lang/invoke/MethodHandle" ∧ yX4_reset.cls ≠ "java/lang/invoke/VarHandle" ∧ (parseMethodDescriptor yX4_reset.desc).map (fun d => d.parameters.length) = some 4 := by decide +kernel
def rX4_isPage : Room := { frames := 1, cells := 0, slots := 0, locals := 22 }
theorem ndX4_isPage : yX4_isPage.cls = RX4 ∧ yX4_isPage.cls ≠ "java/lang/invoke/MethodHandle" ∧ yX4_isPage.cls ≠ "java/lang/invoke/VarHandle" ∧ (parseMethodDescriptor yX4_isPage.desc).map (fun d => d.parameters.length) = some 1 := by decide +kernel
def rX1_holds : Room := { frames := 0, cells := 0, slots := 0, locals := 0 }
theorem ndX1_holds : yX1_holds.cls = RX1 ∧ yX1_holds.cls ≠ "java/lang/invoke/MethodHandle" ∧ yX1_holds.cls ≠ "java/lang/invoke/VarHandle" ∧ (parseMethodDescriptor yX1_holds.desc).map (fun d => d.parameters.length) = some 1 := by decide +kernel
theorem iX1_holds_X1 : ∀ w ∈ u_ws RX1 TX1 6, w ∈ wsX1_holds := by decide +kernel
theorem kX1_holds_9 : Cond.fieldLink RX1 9 (TX1 0).1 (TX1 0).2.1 (TX1 0).2.2.1 ∈ wsX1_holds := by decide +kernel
def rX1_areFull : Room := { frames := 0, cells := 0, slots := 0, locals := 0 }
theorem ndX1_areFull : yX1_areFull.cls = RX1 ∧ yX1_areFull.cls ≠ "java/lang/invoke/MethodHandle" ∧ yX1_areFull.cls ≠ "java/lang/invoke/VarHandle" ∧ (parseMethodDescriptor yX1_areFull.desc).map (fun d => d.parameters.length) = some 0 := by decide +kernel
theorem iX1_areFull_X1 : ∀ w ∈ u_ws RX1 TX1 6, w ∈ wsX1_areFull := by decide +kernel
theorem kX1_areFull_29 : Cond.fieldLink RX1 29 (TX1 5).1 (TX1 5).2.1 (TX1 5).2.2.1 ∈ wsX1_areFull := by decide +kernel
theorem kX1_areFull_33 : Cond.fieldLink RX1 33 (TX1 4).1 (TX1 4).2.1 (TX1 4).2.2.1 ∈ wsX1_areFull := by decide +kernel
def rX1_pinsOf : Room := { frames := 0, cells := 0, slots := 0, locals := 0 }
theorem ndX1_pinsOf : yX1_pinsOf.cls = RX1 ∧ yX1_pinsOf.cls ≠ "java/lang/invoke/MethodHandle" ∧ yX1_pinsOf.cls ≠ "java/lang/invoke/VarHandle" ∧ (parseMethodDescriptor yX1_pinsOf.desc).map (fun d => d.parameters.length) = some 1 := by decide +kernel
theorem iX1_pinsOf_X1 : ∀ w ∈ u_ws RX1 TX1 6, w ∈ wsX1_pinsOf := by decide +kernel
theorem kX1_pinsOf_22 : Cond.fieldLink RX1 22 (TX1 3).1 (TX1 3).2.1 (TX1 3).2.2.1 ∈ wsX1_pinsOf := by decide +kernel
def rX2_timeOf : Room := { frames := 0, cells := 0, slots := 0, locals := 0 }
theorem ndX2_timeOf : yX2_timeOf.cls = RX2 ∧ yX2_timeOf.cls ≠ "java/lang/invoke/MethodHandle" ∧ yX2_timeOf.cls ≠ "java/lang/invoke/VarHandle" ∧ (parseMethodDescriptor yX2_timeOf.desc).map (fun d => d.parameters.length) = some 2 := by decide +kernel
theorem iX2_timeOf_X2 : ∀ w ∈ u_ws RX2 TX2 3, w ∈ wsX2_timeOf := by decide +kernel
theorem kX2_timeOf_9 : Cond.fieldLink RX2 9 (TX2 0).1 (TX2 0).2.1 (TX2 0).2.2.1 ∈ wsX2_timeOf := by decide +kernel
theorem kX2_timeOf_15 : Cond.fieldLink RX2 15 (TX2 1).1 (TX2 1).2.1 (TX2 1).2.2.1 ∈ wsX2_timeOf := by decide +kernel
def rX2_goesBefore : Room := { frames := 1, cells := 0, slots := 0, locals := 22 }
theorem ndX2_goesBefore : yX2_goesBefore.cls = RX2 ∧ yX2_goesBefore.cls ≠ "java/lang/invoke/MethodHandle" ∧ yX2_goesBefore.cls ≠ "java/lang/invoke/VarHandle" ∧ (parseMethodDescriptor yX2_goesBefore.desc).map (fun d => d.parameters.length) = some 2 := by decide +kernel
theorem iX2_goesBefore_X2 : ∀ w ∈ u_ws RX2 TX2 3, w ∈ wsX2_goesBefore := by decide +kernel
theorem kX2_goesBefore_15 : Cond.fieldLink RX2 15 (TX2 1).1 (TX2 1).2.1 (TX2 1).2.2.1 ∈ wsX2_goesBefore := by decide +kernel
theorem kX2_goesBefore_24 : Cond.fieldLink RX2 24 (TX2 2).1 (TX2 2).2.1 (TX2 2).2.2.1 ∈ wsX2_goesBefore := by decide +kernel
def rX4_chooseVictim : Room := { frames := 2, cells := 0, slots := 0, locals := 47 }
theorem ndX4_chooseVictim : yX4_chooseVictim.cls = RX4 ∧ yX4_chooseVictim.cls ≠ "java/lang/invoke/MethodHandle" ∧ yX4_chooseVictim.cls ≠ "java/lang/invoke/VarHandle" ∧ (parseMethodDescriptor yX4_chooseVictim.desc).map (fun d => d.parameters.length) = some 0 := by decide +kernel
theorem iX4_chooseVictim_X4 : ∀ w ∈ u_ws RX4 TX4 10, w ∈ wsX4_chooseVictim := by decide +kernel
theorem kX4_chooseVictim_19 : Cond.fieldLink RX4 19 (TX4 1).1 (TX4 1).2.1 (TX4 1).2.2.1 ∈ wsX4_chooseVictim := by decide +kernel
theorem kX4_chooseVictim_33 : Cond.fieldLink RX4 33 (TX4 3).1 (TX4 3).2.1 (TX4 3).2.2.1 ∈ wsX4_chooseVictim := by decide +kernel
def rX4_canReference : Room := { frames := 3, cells := 0, slots := 0, locals := 69 }
theorem ndX4_canReference : yX4_canReference.cls = RX4 ∧ yX4_canReference.cls ≠ "java/lang/invoke/MethodHandle" ∧ yX4_canReference.cls ≠ "java/lang/invoke/VarHandle" ∧ (parseMethodDescriptor yX4_canReference.desc).map (fun d => d.parameters.length) = some 1 := by decide +kernel
theorem iX4_canReference_X4 : ∀ w ∈ u_ws RX4 TX4 10, w ∈ wsX4_canReference := by decide +kernel
theorem kX4_canReference_19 : Cond.fieldLink RX4 19 (TX4 1).1 (TX4 1).2.1 (TX4 1).2.2.1 ∈ wsX4_canReference := by decide +kernel
def rX1_isChanged : Room := { frames := 0, cells := 0, slots := 0, locals := 0 }
theorem ndX1_isChanged : yX1_isChanged.cls = RX1 ∧ yX1_isChanged.cls ≠ "java/lang/invoke/MethodHandle" ∧ yX1_isChanged.cls ≠ "java/lang/invoke/VarHandle" ∧ (parseMethodDescriptor yX1_isChanged.desc).map (fun d => d.parameters.length) = some 1 := by decide +kernel
theorem iX1_isChanged_X1 : ∀ w ∈ u_ws RX1 TX1 6, w ∈ wsX1_isChanged := by decide +kernel
theorem kX1_isChanged_15 : Cond.fieldLink RX1 15 (TX1 1).1 (TX1 1).2.1 (TX1 1).2.2.1 ∈ wsX1_isChanged := by decide +kernel
def rX1_release : Room := { frames := 1, cells := 0, slots := 0, locals := 21 }
theorem ndX1_release : yX1_release.cls = RX1 ∧ yX1_release.cls ≠ "java/lang/invoke/MethodHandle" ∧ yX1_release.cls ≠ "java/lang/invoke/VarHandle" ∧ (parseMethodDescriptor yX1_release.desc).map (fun d => d.parameters.length) = some 1 := by decide +kernel
theorem iX1_release_X1 : ∀ w ∈ u_ws RX1 TX1 6, w ∈ wsX1_release := by decide +kernel
theorem kX1_release_29 : Cond.fieldLink RX1 29 (TX1 5).1 (TX1 5).2.1 (TX1 5).2.2.1 ∈ wsX1_release := by decide +kernel
def rX3_isFull : Room := { frames := 0, cells := 0, slots := 0, locals := 0 }
theorem ndX3_isFull : yX3_isFull.cls = RX3 ∧ yX3_isFull.cls ≠ "java/lang/invoke/MethodHandle" ∧ yX3_isFull.cls ≠ "java/lang/invoke/VarHandle" ∧ (parseMethodDescriptor yX3_isFull.desc).map (fun d => d.parameters.length) = some 0 := by decide +kernel
theorem iX3_isFull_X3 : ∀ w ∈ u_ws RX3 TX3 4, w ∈ wsX3_isFull := by decide +kernel
theorem kX3_isFull_18 : Cond.fieldLink RX3 18 (TX3 3).1 (TX3 3).2.1 (TX3 3).2.2.1 ∈ wsX3_isFull := by decide +kernel
theorem kX3_isFull_22 : Cond.fieldLink RX3 22 (TX3 2).1 (TX3 2).2.1 (TX3 2).2.2.1 ∈ wsX3_isFull := by decide +kernel
def rX1_valueOf : Room := { frames := 0, cells := 0, slots := 0, locals := 0 }
theorem ndX1_valueOf : yX1_valueOf.cls = RX1 ∧ yX1_valueOf.cls ≠ "java/lang/invoke/MethodHandle" ∧ yX1_valueOf.cls ≠ "java/lang/invoke/VarHandle" ∧ (parseMethodDescriptor yX1_valueOf.desc).map (fun d => d.parameters.length) = some 1 := by decide +kernel
theorem iX1_valueOf_X1 : ∀ w ∈ u_ws RX1 TX1 6, w ∈ wsX1_valueOf := by decide +kernel
theorem kX1_valueOf_18 : Cond.fieldLink RX1 18 (TX1 2).1 (TX1 2).2.1 (TX1 2).2.2.1 ∈ wsX1_valueOf := by decide +kernel
def rX3_append : Room := { frames := 1, cells := 0, slots := 0, locals := 20 }
theorem ndX3_append : yX3_append.cls = RX3 ∧ yX3_append.cls ≠ "java/lang/invoke/MethodHandle" ∧ yX3_append.cls ≠ "java/lang/invoke/VarHandle" ∧ (parseMethodDescriptor yX3_append.desc).map (fun d => d.parameters.length) = some 2 := by decide +kernel
theorem iX3_append_X3 : ∀ w ∈ u_ws RX3 TX3 4, w ∈ wsX3_append := by decide +kernel
theorem kX3_append_9 : Cond.fieldLink RX3 9 (TX3 0).1 (TX3 0).2.1 (TX3 0).2.2.1 ∈ wsX3_append := by decide +kernel
theorem kX3_append_15 : Cond.fieldLink RX3 15 (TX3 1).1 (TX3 1).2.1 (TX3 1).2.2.1 ∈ wsX3_append := by decide +kernel
theorem kX3_append_18 : Cond.fieldLink RX3 18 (TX3 3).1 (TX3 3).2.1 (TX3 3).2.2.1 ∈ wsX3_append := by decide +kernel
def rX3_has : Room := { frames := 0, cells := 0, slots := 0, locals := 0 }
theorem ndX3_has : yX3_has.cls = RX3 ∧ yX3_has.cls ≠ "java/lang/invoke/MethodHandle" ∧ yX3_has.cls ≠ "java/lang/invoke/VarHandle" ∧ (parseMethodDescriptor yX3_has.desc).map (fun d => d.parameters.length) = some 1 := by decide +kernel
theorem iX3_has_X3 : ∀ w ∈ u_ws RX3 TX3 4, w ∈ wsX3_has := by decide +kernel
theorem kX3_has_18 : Cond.fieldLink RX3 18 (TX3 3).1 (TX3 3).2.1 (TX3 3).2.2.1 ∈ wsX3_has := by decide +kernel
def rX3_pageAt : Room := { frames := 1, cells := 0, slots := 0, locals := 21 }
theorem ndX3_pageAt : yX3_pageAt.cls = RX3 ∧ yX3_pageAt.cls ≠ "java/lang/invoke/MethodHandle" ∧ yX3_pageAt.cls ≠ "java/lang/invoke/VarHandle" ∧ (parseMethodDescriptor yX3_pageAt.desc).map (fun d => d.parameters.length) = some 1 := by decide +kernel
theorem iX3_pageAt_X3 : ∀ w ∈ u_ws RX3 TX3 4, w ∈ wsX3_pageAt := by decide +kernel
theorem kX3_pageAt_9 : Cond.fieldLink RX3 9 (TX3 0).1 (TX3 0).2.1 (TX3 0).2.2.1 ∈ wsX3_pageAt := by decide +kernel
def rX3_valueAt : Room := { frames := 1, cells := 0, slots := 0, locals := 21 }
theorem ndX3_valueAt : yX3_valueAt.cls = RX3 ∧ yX3_valueAt.cls ≠ "java/lang/invoke/MethodHandle" ∧ yX3_valueAt.cls ≠ "java/lang/invoke/VarHandle" ∧ (parseMethodDescriptor yX3_valueAt.desc).map (fun d => d.parameters.length) = some 1 := by decide +kernel
theorem iX3_valueAt_X3 : ∀ w ∈ u_ws RX3 TX3 4, w ∈ wsX3_valueAt := by decide +kernel
theorem kX3_valueAt_15 : Cond.fieldLink RX3 15 (TX3 1).1 (TX3 1).2.1 (TX3 1).2.2.1 ∈ wsX3_valueAt := by decide +kernel
def rX0_store : Room := { frames := 0, cells := 0, slots := 0, locals := 0 }
theorem ndX0_store : yX0_store.cls = RX0 ∧ yX0_store.cls ≠ "java/lang/invoke/MethodHandle" ∧ yX0_store.cls ≠ "java/lang/invoke/VarHandle" ∧ (parseMethodDescriptor yX0_store.desc).map (fun d => d.parameters.length) = some 2 := by decide +kernel
theorem iX0_store_X0 : ∀ w ∈ u_ws RX0 TX0 3, w ∈ wsX0_store := by decide +kernel
theorem kX0_store_9 : Cond.fieldLink RX0 9 (TX0 0).1 (TX0 0).2.1 (TX0 0).2.2.1 ∈ wsX0_store := by decide +kernel
theorem kX0_store_25 : Cond.fieldLink RX0 25 (TX0 2).1 (TX0 2).2.1 (TX0 2).2.2.1 ∈ wsX0_store := by decide +kernel
def rX3_removeAt : Room := { frames := 1, cells := 0, slots := 0, locals := 21 }
theorem ndX3_removeAt : yX3_removeAt.cls = RX3 ∧ yX3_removeAt.cls ≠ "java/lang/invoke/MethodHandle" ∧ yX3_removeAt.cls ≠ "java/lang/invoke/VarHandle" ∧ (parseMethodDescriptor yX3_removeAt.desc).map (fun d => d.parameters.length) = some 1 := by decide +kernel
theorem iX3_removeAt_X3 : ∀ w ∈ u_ws RX3 TX3 4, w ∈ wsX3_removeAt := by decide +kernel
theorem kX3_removeAt_9 : Cond.fieldLink RX3 9 (TX3 0).1 (TX3 0).2.1 (TX3 0).2.2.1 ∈ wsX3_removeAt := by decide +kernel
theorem kX3_removeAt_15 : Cond.fieldLink RX3 15 (TX3 1).1 (TX3 1).2.1 (TX3 1).2.2.1 ∈ wsX3_removeAt := by decide +kernel
theorem kX3_removeAt_18 : Cond.fieldLink RX3 18 (TX3 3).1 (TX3 3).2.1 (TX3 3).2.2.1 ∈ wsX3_removeAt := by decide +kernel
def rX4_writeEntry : Room := { frames := 2, cells := 0, slots := 0, locals := 43 }
theorem ndX4_writeEntry : yX4_writeEntry.cls = RX4 ∧ yX4_writeEntry.cls ≠ "java/lang/invoke/MethodHandle" ∧ yX4_writeEntry.cls ≠ "java/lang/invoke/VarHandle" ∧ (parseMethodDescriptor yX4_writeEntry.desc).map (fun d => d.parameters.length) = some 1 := by decide +kernel
theorem iX4_writeEntry_X4 : ∀ w ∈ u_ws RX4 TX4 10, w ∈ wsX4_writeEntry := by decide +kernel
theorem kX4_writeEntry_10 : Cond.fieldLink RX4 10 (TX4 0).1 (TX4 0).2.1 (TX4 0).2.2.1 ∈ wsX4_writeEntry := by decide +kernel
theorem kX4_writeEntry_26 : Cond.fieldLink RX4 26 (TX4 2).1 (TX4 2).2.1 (TX4 2).2.2.1 ∈ wsX4_writeEntry := by decide +kernel
def rX4_enqueue : Room := { frames := 3, cells := 0, slots := 0, locals := 65 }
theorem ndX4_enqueue : yX4_enqueue.cls = RX4 ∧ yX4_enqueue.cls ≠ "java/lang/invoke/MethodHandle" ∧ yX4_enqueue.cls ≠ "java/lang/invoke/VarHandle" ∧ (parseMethodDescriptor yX4_enqueue.desc).map (fun d => d.parameters.length) = some 1 := by decide +kernel
theorem iX4_enqueue_X4 : ∀ w ∈ u_ws RX4 TX4 10, w ∈ wsX4_enqueue := by decide +kernel
theorem kX4_enqueue_19 : Cond.fieldLink RX4 19 (TX4 1).1 (TX4 1).2.1 (TX4 1).2.2.1 ∈ wsX4_enqueue := by decide +kernel
theorem kX4_enqueue_26 : Cond.fieldLink RX4 26 (TX4 2).1 (TX4 2).2.1 (TX4 2).2.2.1 ∈ wsX4_enqueue := by decide +kernel
theorem kX4_enqueue_144 : Cond.fieldLink RX4 144 (TX4 9).1 (TX4 9).2.1 (TX4 9).2.2.1 ∈ wsX4_enqueue := by decide +kernel
def rX4_makeRoom : Room := { frames := 4, cells := 0, slots := 0, locals := 86 }
theorem ndX4_makeRoom : yX4_makeRoom.cls = RX4 ∧ yX4_makeRoom.cls ≠ "java/lang/invoke/MethodHandle" ∧ yX4_makeRoom.cls ≠ "java/lang/invoke/VarHandle" ∧ (parseMethodDescriptor yX4_makeRoom.desc).map (fun d => d.parameters.length) = some 0 := by decide +kernel
theorem iX4_makeRoom_X4 : ∀ w ∈ u_ws RX4 TX4 10, w ∈ wsX4_makeRoom := by decide +kernel
theorem kX4_makeRoom_19 : Cond.fieldLink RX4 19 (TX4 1).1 (TX4 1).2.1 (TX4 1).2.2.1 ∈ wsX4_makeRoom := by decide +kernel
theorem kX4_makeRoom_135 : Cond.fieldLink RX4 135 (TX4 8).1 (TX4 8).2.1 (TX4 8).2.2.1 ∈ wsX4_makeRoom := by decide +kernel
def rX3_positionOf : Room := { frames := 0, cells := 0, slots := 0, locals := 0 }
theorem ndX3_positionOf : yX3_positionOf.cls = RX3 ∧ yX3_positionOf.cls ≠ "java/lang/invoke/MethodHandle" ∧ yX3_positionOf.cls ≠ "java/lang/invoke/VarHandle" ∧ (parseMethodDescriptor yX3_positionOf.desc).map (fun d => d.parameters.length) = some 1 := by decide +kernel
theorem iX3_positionOf_X3 : ∀ w ∈ u_ws RX3 TX3 4, w ∈ wsX3_positionOf := by decide +kernel
theorem kX3_positionOf_9 : Cond.fieldLink RX3 9 (TX3 0).1 (TX3 0).2.1 (TX3 0).2.2.1 ∈ wsX3_positionOf := by decide +kernel
theorem kX3_positionOf_18 : Cond.fieldLink RX3 18 (TX3 3).1 (TX3 3).2.1 (TX3 3).2.2.1 ∈ wsX3_positionOf := by decide +kernel
def rX1_place : Room := { frames := 0, cells := 0, slots := 0, locals := 0 }
theorem ndX1_place : yX1_place.cls = RX1 ∧ yX1_place.cls ≠ "java/lang/invoke/MethodHandle" ∧ yX1_place.cls ≠ "java/lang/invoke/VarHandle" ∧ (parseMethodDescriptor yX1_place.desc).map (fun d => d.parameters.length) = some 2 := by decide +kernel
theorem iX1_place_X1 : ∀ w ∈ u_ws RX1 TX1 6, w ∈ wsX1_place := by decide +kernel
theorem kX1_place_9 : Cond.fieldLink RX1 9 (TX1 0).1 (TX1 0).2.1 (TX1 0).2.2.1 ∈ wsX1_place := by decide +kernel
theorem kX1_place_18 : Cond.fieldLink RX1 18 (TX1 2).1 (TX1 2).2.1 (TX1 2).2.2.1 ∈ wsX1_place := by decide +kernel
theorem kX1_place_29 : Cond.fieldLink RX1 29 (TX1 5).1 (TX1 5).2.1 (TX1 5).2.2.1 ∈ wsX1_place := by decide +kernel
def rX1_change : Room := { frames := 0, cells := 0, slots := 0, locals := 0 }
theorem ndX1_change : yX1_change.cls = RX1 ∧ yX1_change.cls ≠ "java/lang/invoke/MethodHandle" ∧ yX1_change.cls ≠ "java/lang/invoke/VarHandle" ∧ (parseMethodDescriptor yX1_change.desc).map (fun d => d.parameters.length) = some 2 := by decide +kernel
theorem iX1_change_X1 : ∀ w ∈ u_ws RX1 TX1 6, w ∈ wsX1_change := by decide +kernel
theorem kX1_change_15 : Cond.fieldLink RX1 15 (TX1 1).1 (TX1 1).2.1 (TX1 1).2.2.1 ∈ wsX1_change := by decide +kernel
theorem kX1_change_18 : Cond.fieldLink RX1 18 (TX1 2).1 (TX1 2).2.1 (TX1 2).2.2.1 ∈ wsX1_change := by decide +kernel
def rX0_load : Room := { frames := 0, cells := 0, slots := 0, locals := 0 }
theorem ndX0_load : yX0_load.cls = RX0 ∧ yX0_load.cls ≠ "java/lang/invoke/MethodHandle" ∧ yX0_load.cls ≠ "java/lang/invoke/VarHandle" ∧ (parseMethodDescriptor yX0_load.desc).map (fun d => d.parameters.length) = some 1 := by decide +kernel
theorem iX0_load_X0 : ∀ w ∈ u_ws RX0 TX0 3, w ∈ wsX0_load := by decide +kernel
theorem kX0_load_9 : Cond.fieldLink RX0 9 (TX0 0).1 (TX0 0).2.1 (TX0 0).2.2.1 ∈ wsX0_load := by decide +kernel
theorem kX0_load_21 : Cond.fieldLink RX0 21 (TX0 1).1 (TX0 1).2.1 (TX0 1).2.2.1 ∈ wsX0_load := by decide +kernel
def rX4_load : Room := { frames := 2, cells := 0, slots := 0, locals := 43 }
theorem ndX4_load : yX4_load.cls = RX4 ∧ yX4_load.cls ≠ "java/lang/invoke/MethodHandle" ∧ yX4_load.cls ≠ "java/lang/invoke/VarHandle" ∧ (parseMethodDescriptor yX4_load.desc).map (fun d => d.parameters.length) = some 1 := by decide +kernel
theorem iX4_load_X4 : ∀ w ∈ u_ws RX4 TX4 10, w ∈ wsX4_load := by decide +kernel
theorem kX4_load_10 : Cond.fieldLink RX4 10 (TX4 0).1 (TX4 0).2.1 (TX4 0).2.2.1 ∈ wsX4_load := by decide +kernel
theorem kX4_load_19 : Cond.fieldLink RX4 19 (TX4 1).1 (TX4 1).2.1 (TX4 1).2.2.1 ∈ wsX4_load := by decide +kernel
theorem kX4_load_26 : Cond.fieldLink RX4 26 (TX4 2).1 (TX4 2).2.1 (TX4 2).2.2.1 ∈ wsX4_load := by decide +kernel
def rX2_forget : Room := { frames := 0, cells := 0, slots := 0, locals := 0 }
theorem ndX2_forget : yX2_forget.cls = RX2 ∧ yX2_forget.cls ≠ "java/lang/invoke/MethodHandle" ∧ yX2_forget.cls ≠ "java/lang/invoke/VarHandle" ∧ (parseMethodDescriptor yX2_forget.desc).map (fun d => d.parameters.length) = some 1 := by decide +kernel
theorem iX2_forget_X2 : ∀ w ∈ u_ws RX2 TX2 3, w ∈ wsX2_forget := by decide +kernel
theorem kX2_forget_15 : Cond.fieldLink RX2 15 (TX2 1).1 (TX2 1).2.1 (TX2 1).2.2.1 ∈ wsX2_forget := by decide +kernel
def rX4_forgetIfStale : Room := { frames := 1, cells := 0, slots := 0, locals := 22 }
theorem ndX4_forgetIfStale : yX4_forgetIfStale.cls = RX4 ∧ yX4_forgetIfStale.cls ≠ "java/lang/invoke/MethodHandle" ∧ yX4_forgetIfStale.cls ≠ "java/lang/invoke/VarHandle" ∧ (parseMethodDescriptor yX4_forgetIfStale.desc).map (fun d => d.parameters.length) = some 1 := by decide +kernel
theorem iX4_forgetIfStale_X4 : ∀ w ∈ u_ws RX4 TX4 10, w ∈ wsX4_forgetIfStale := by decide +kernel
theorem kX4_forgetIfStale_33 : Cond.fieldLink RX4 33 (TX4 3).1 (TX4 3).2.1 (TX4 3).2.2.1 ∈ wsX4_forgetIfStale := by decide +kernel
theorem kX4_forgetIfStale_111 : Cond.fieldLink RX4 111 (TX4 5).1 (TX4 5).2.1 (TX4 5).2.2.1 ∈ wsX4_forgetIfStale := by decide +kernel
theorem kX4_forgetIfStale_157 : Cond.fieldLink RX4 157 (TX4 4).1 (TX4 4).2.1 (TX4 4).2.2.1 ∈ wsX4_forgetIfStale := by decide +kernel
def rX2_record : Room := { frames := 0, cells := 0, slots := 0, locals := 0 }
theorem ndX2_record : yX2_record.cls = RX2 ∧ yX2_record.cls ≠ "java/lang/invoke/MethodHandle" ∧ yX2_record.cls ≠ "java/lang/invoke/VarHandle" ∧ (parseMethodDescriptor yX2_record.desc).map (fun d => d.parameters.length) = some 2 := by decide +kernel
theorem iX2_record_X2 : ∀ w ∈ u_ws RX2 TX2 3, w ∈ wsX2_record := by decide +kernel
theorem kX2_record_9 : Cond.fieldLink RX2 9 (TX2 0).1 (TX2 0).2.1 (TX2 0).2.2.1 ∈ wsX2_record := by decide +kernel
theorem kX2_record_15 : Cond.fieldLink RX2 15 (TX2 1).1 (TX2 1).2.1 (TX2 1).2.2.1 ∈ wsX2_record := by decide +kernel
theorem kX2_record_24 : Cond.fieldLink RX2 24 (TX2 2).1 (TX2 2).2.1 (TX2 2).2.2.1 ∈ wsX2_record := by decide +kernel
def rX4_reference : Room := { frames := 5, cells := 0, slots := 0, locals := 107 }
theorem ndX4_reference : yX4_reference.cls = RX4 ∧ yX4_reference.cls ≠ "java/lang/invoke/MethodHandle" ∧ yX4_reference.cls ≠ "java/lang/invoke/VarHandle" ∧ (parseMethodDescriptor yX4_reference.desc).map (fun d => d.parameters.length) = some 1 := by decide +kernel
theorem iX4_reference_X4 : ∀ w ∈ u_ws RX4 TX4 10, w ∈ wsX4_reference := by decide +kernel
theorem kX4_reference_19 : Cond.fieldLink RX4 19 (TX4 1).1 (TX4 1).2.1 (TX4 1).2.2.1 ∈ wsX4_reference := by decide +kernel
theorem kX4_reference_33 : Cond.fieldLink RX4 33 (TX4 3).1 (TX4 3).2.1 (TX4 3).2.2.1 ∈ wsX4_reference := by decide +kernel
theorem kX4_reference_111 : Cond.fieldLink RX4 111 (TX4 5).1 (TX4 5).2.1 (TX4 5).2.2.1 ∈ wsX4_reference := by decide +kernel
theorem kX4_reference_129 : Cond.fieldLink RX4 129 (TX4 6).1 (TX4 6).2.1 (TX4 6).2.2.1 ∈ wsX4_reference := by decide +kernel
theorem kX4_reference_132 : Cond.fieldLink RX4 132 (TX4 7).1 (TX4 7).2.1 (TX4 7).2.2.1 ∈ wsX4_reference := by decide +kernel
def rX4_read : Room := { frames := 6, cells := 0, slots := 0, locals := 128 }
theorem ndX4_read : yX4_read.cls = RX4 ∧ yX4_read.cls ≠ "java/lang/invoke/MethodHandle" ∧ yX4_read.cls ≠ "java/lang/invoke/VarHandle" ∧ (parseMethodDescriptor yX4_read.desc).map (fun d => d.parameters.length) = some 1 := by decide +kernel
theorem iX4_read_X4 : ∀ w ∈ u_ws RX4 TX4 10, w ∈ wsX4_read := by decide +kernel
theorem kX4_read_19 : Cond.fieldLink RX4 19 (TX4 1).1 (TX4 1).2.1 (TX4 1).2.2.1 ∈ wsX4_read := by decide +kernel
def rX4_write : Room := { frames := 6, cells := 0, slots := 0, locals := 128 }
theorem ndX4_write : yX4_write.cls = RX4 ∧ yX4_write.cls ≠ "java/lang/invoke/MethodHandle" ∧ yX4_write.cls ≠ "java/lang/invoke/VarHandle" ∧ (parseMethodDescriptor yX4_write.desc).map (fun d => d.parameters.length) = some 2 := by decide +kernel
theorem iX4_write_X4 : ∀ w ∈ u_ws RX4 TX4 10, w ∈ wsX4_write := by decide +kernel
theorem kX4_write_19 : Cond.fieldLink RX4 19 (TX4 1).1 (TX4 1).2.1 (TX4 1).2.2.1 ∈ wsX4_write := by decide +kernel
def rX1_addPin : Room := { frames := 0, cells := 0, slots := 0, locals := 0 }
theorem ndX1_addPin : yX1_addPin.cls = RX1 ∧ yX1_addPin.cls ≠ "java/lang/invoke/MethodHandle" ∧ yX1_addPin.cls ≠ "java/lang/invoke/VarHandle" ∧ (parseMethodDescriptor yX1_addPin.desc).map (fun d => d.parameters.length) = some 1 := by decide +kernel
theorem iX1_addPin_X1 : ∀ w ∈ u_ws RX1 TX1 6, w ∈ wsX1_addPin := by decide +kernel
theorem kX1_addPin_22 : Cond.fieldLink RX1 22 (TX1 3).1 (TX1 3).2.1 (TX1 3).2.2.1 ∈ wsX1_addPin := by decide +kernel
def rX4_pin : Room := { frames := 6, cells := 0, slots := 0, locals := 128 }
theorem ndX4_pin : yX4_pin.cls = RX4 ∧ yX4_pin.cls ≠ "java/lang/invoke/MethodHandle" ∧ yX4_pin.cls ≠ "java/lang/invoke/VarHandle" ∧ (parseMethodDescriptor yX4_pin.desc).map (fun d => d.parameters.length) = some 1 := by decide +kernel
theorem iX4_pin_X4 : ∀ w ∈ u_ws RX4 TX4 10, w ∈ wsX4_pin := by decide +kernel
theorem kX4_pin_19 : Cond.fieldLink RX4 19 (TX4 1).1 (TX4 1).2.1 (TX4 1).2.2.1 ∈ wsX4_pin := by decide +kernel
def rX1_removePin : Room := { frames := 0, cells := 0, slots := 0, locals := 0 }
theorem ndX1_removePin : yX1_removePin.cls = RX1 ∧ yX1_removePin.cls ≠ "java/lang/invoke/MethodHandle" ∧ yX1_removePin.cls ≠ "java/lang/invoke/VarHandle" ∧ (parseMethodDescriptor yX1_removePin.desc).map (fun d => d.parameters.length) = some 1 := by decide +kernel
theorem iX1_removePin_X1 : ∀ w ∈ u_ws RX1 TX1 6, w ∈ wsX1_removePin := by decide +kernel
theorem kX1_removePin_22 : Cond.fieldLink RX1 22 (TX1 3).1 (TX1 3).2.1 (TX1 3).2.2.1 ∈ wsX1_removePin := by decide +kernel
def rX4_unpin : Room := { frames := 2, cells := 0, slots := 0, locals := 42 }
theorem ndX4_unpin : yX4_unpin.cls = RX4 ∧ yX4_unpin.cls ≠ "java/lang/invoke/MethodHandle" ∧ yX4_unpin.cls ≠ "java/lang/invoke/VarHandle" ∧ (parseMethodDescriptor yX4_unpin.desc).map (fun d => d.parameters.length) = some 1 := by decide +kernel
theorem iX4_unpin_X4 : ∀ w ∈ u_ws RX4 TX4 10, w ∈ wsX4_unpin := by decide +kernel
theorem kX4_unpin_19 : Cond.fieldLink RX4 19 (TX4 1).1 (TX4 1).2.1 (TX4 1).2.2.1 ∈ wsX4_unpin := by decide +kernel
def rX1_markClean : Room := { frames := 0, cells := 0, slots := 0, locals := 0 }
theorem ndX1_markClean : yX1_markClean.cls = RX1 ∧ yX1_markClean.cls ≠ "java/lang/invoke/MethodHandle" ∧ yX1_markClean.cls ≠ "java/lang/invoke/VarHandle" ∧ (parseMethodDescriptor yX1_markClean.desc).map (fun d => d.parameters.length) = some 1 := by decide +kernel
theorem iX1_markClean_X1 : ∀ w ∈ u_ws RX1 TX1 6, w ∈ wsX1_markClean := by decide +kernel
theorem kX1_markClean_15 : Cond.fieldLink RX1 15 (TX1 1).1 (TX1 1).2.1 (TX1 1).2.2.1 ∈ wsX1_markClean := by decide +kernel
def rX4_writeFrame : Room := { frames := 1, cells := 0, slots := 0, locals := 22 }
theorem ndX4_writeFrame : yX4_writeFrame.cls = RX4 ∧ yX4_writeFrame.cls ≠ "java/lang/invoke/MethodHandle" ∧ yX4_writeFrame.cls ≠ "java/lang/invoke/VarHandle" ∧ (parseMethodDescriptor yX4_writeFrame.desc).map (fun d => d.parameters.length) = some 1 := by decide +kernel
theorem iX4_writeFrame_X4 : ∀ w ∈ u_ws RX4 TX4 10, w ∈ wsX4_writeFrame := by decide +kernel
theorem kX4_writeFrame_10 : Cond.fieldLink RX4 10 (TX4 0).1 (TX4 0).2.1 (TX4 0).2.2.1 ∈ wsX4_writeFrame := by decide +kernel
theorem kX4_writeFrame_19 : Cond.fieldLink RX4 19 (TX4 1).1 (TX4 1).2.1 (TX4 1).2.2.1 ∈ wsX4_writeFrame := by decide +kernel
def rX4_flush : Room := { frames := 3, cells := 0, slots := 0, locals := 65 }
theorem ndX4_flush : yX4_flush.cls = RX4 ∧ yX4_flush.cls ≠ "java/lang/invoke/MethodHandle" ∧ yX4_flush.cls ≠ "java/lang/invoke/VarHandle" ∧ (parseMethodDescriptor yX4_flush.desc).map (fun d => d.parameters.length) = some 1 := by decide +kernel
theorem iX4_flush_X4 : ∀ w ∈ u_ws RX4 TX4 10, w ∈ wsX4_flush := by decide +kernel
theorem kX4_flush_19 : Cond.fieldLink RX4 19 (TX4 1).1 (TX4 1).2.1 (TX4 1).2.2.1 ∈ wsX4_flush := by decide +kernel
theorem kX4_flush_26 : Cond.fieldLink RX4 26 (TX4 2).1 (TX4 2).2.1 (TX4 2).2.2.1 ∈ wsX4_flush := by decide +kernel
def rX3_length : Room := { frames := 0, cells := 0, slots := 0, locals := 0 }
theorem ndX3_length : yX3_length.cls = RX3 ∧ yX3_length.cls ≠ "java/lang/invoke/MethodHandle" ∧ yX3_length.cls ≠ "java/lang/invoke/VarHandle" ∧ (parseMethodDescriptor yX3_length.desc).map (fun d => d.parameters.length) = some 0 := by decide +kernel
theorem iX3_length_X3 : ∀ w ∈ u_ws RX3 TX3 4, w ∈ wsX3_length := by decide +kernel
theorem kX3_length_18 : Cond.fieldLink RX3 18 (TX3 3).1 (TX3 3).2.1 (TX3 3).2.2.1 ∈ wsX3_length := by decide +kernel
def rX4_writeOldest : Room := { frames := 3, cells := 0, slots := 0, locals := 65 }
theorem ndX4_writeOldest : yX4_writeOldest.cls = RX4 ∧ yX4_writeOldest.cls ≠ "java/lang/invoke/MethodHandle" ∧ yX4_writeOldest.cls ≠ "java/lang/invoke/VarHandle" ∧ (parseMethodDescriptor yX4_writeOldest.desc).map (fun d => d.parameters.length) = some 1 := by decide +kernel
theorem iX4_writeOldest_X4 : ∀ w ∈ u_ws RX4 TX4 10, w ∈ wsX4_writeOldest := by decide +kernel
theorem kX4_writeOldest_26 : Cond.fieldLink RX4 26 (TX4 2).1 (TX4 2).2.1 (TX4 2).2.2.1 ∈ wsX4_writeOldest := by decide +kernel
def rX4_flushAll : Room := { frames := 4, cells := 0, slots := 0, locals := 88 }
theorem ndX4_flushAll : yX4_flushAll.cls = RX4 ∧ yX4_flushAll.cls ≠ "java/lang/invoke/MethodHandle" ∧ yX4_flushAll.cls ≠ "java/lang/invoke/VarHandle" ∧ (parseMethodDescriptor yX4_flushAll.desc).map (fun d => d.parameters.length) = some 0 := by decide +kernel
theorem iX4_flushAll_X4 : ∀ w ∈ u_ws RX4 TX4 10, w ∈ wsX4_flushAll := by decide +kernel
theorem kX4_flushAll_19 : Cond.fieldLink RX4 19 (TX4 1).1 (TX4 1).2.1 (TX4 1).2.2.1 ∈ wsX4_flushAll := by decide +kernel
theorem kX4_flushAll_26 : Cond.fieldLink RX4 26 (TX4 2).1 (TX4 2).2.1 (TX4 2).2.2.1 ∈ wsX4_flushAll := by decide +kernel
def rX4_drain : Room := { frames := 4, cells := 0, slots := 0, locals := 88 }
theorem ndX4_drain : yX4_drain.cls = RX4 ∧ yX4_drain.cls ≠ "java/lang/invoke/MethodHandle" ∧ yX4_drain.cls ≠ "java/lang/invoke/VarHandle" ∧ (parseMethodDescriptor yX4_drain.desc).map (fun d => d.parameters.length) = some 1 := by decide +kernel
def rX4_discard : Room := { frames := 2, cells := 0, slots := 0, locals := 43 }
theorem ndX4_discard : yX4_discard.cls = RX4 ∧ yX4_discard.cls ≠ "java/lang/invoke/MethodHandle" ∧ yX4_discard.cls ≠ "java/lang/invoke/VarHandle" ∧ (parseMethodDescriptor yX4_discard.desc).map (fun d => d.parameters.length) = some 1 := by decide +kernel
theorem iX4_discard_X4 : ∀ w ∈ u_ws RX4 TX4 10, w ∈ wsX4_discard := by decide +kernel
theorem kX4_discard_19 : Cond.fieldLink RX4 19 (TX4 1).1 (TX4 1).2.1 (TX4 1).2.2.1 ∈ wsX4_discard := by decide +kernel
theorem kX4_discard_26 : Cond.fieldLink RX4 26 (TX4 2).1 (TX4 2).2.1 (TX4 2).2.2.1 ∈ wsX4_discard := by decide +kernel
theorem kX4_discard_33 : Cond.fieldLink RX4 33 (TX4 3).1 (TX4 3).2.1 (TX4 3).2.2.1 ∈ wsX4_discard := by decide +kernel
def rX4_isResident : Room := { frames := 2, cells := 0, slots := 0, locals := 42 }
theorem ndX4_isResident : yX4_isResident.cls = RX4 ∧ yX4_isResident.cls ≠ "java/lang/invoke/MethodHandle" ∧ yX4_isResident.cls ≠ "java/lang/invoke/VarHandle" ∧ (parseMethodDescriptor yX4_isResident.desc).map (fun d => d.parameters.length) = some 1 := by decide +kernel
theorem iX4_isResident_X4 : ∀ w ∈ u_ws RX4 TX4 10, w ∈ wsX4_isResident := by decide +kernel
theorem kX4_isResident_19 : Cond.fieldLink RX4 19 (TX4 1).1 (TX4 1).2.1 (TX4 1).2.2.1 ∈ wsX4_isResident := by decide +kernel
def rX4_isDirty : Room := { frames := 2, cells := 0, slots := 0, locals := 42 }
theorem ndX4_isDirty : yX4_isDirty.cls = RX4 ∧ yX4_isDirty.cls ≠ "java/lang/invoke/MethodHandle" ∧ yX4_isDirty.cls ≠ "java/lang/invoke/VarHandle" ∧ (parseMethodDescriptor yX4_isDirty.desc).map (fun d => d.parameters.length) = some 1 := by decide +kernel
theorem iX4_isDirty_X4 : ∀ w ∈ u_ws RX4 TX4 10, w ∈ wsX4_isDirty := by decide +kernel
theorem kX4_isDirty_19 : Cond.fieldLink RX4 19 (TX4 1).1 (TX4 1).2.1 (TX4 1).2.2.1 ∈ wsX4_isDirty := by decide +kernel
def rX4_pinCount : Room := { frames := 2, cells := 0, slots := 0, locals := 42 }
theorem ndX4_pinCount : yX4_pinCount.cls = RX4 ∧ yX4_pinCount.cls ≠ "java/lang/invoke/MethodHandle" ∧ yX4_pinCount.cls ≠ "java/lang/invoke/VarHandle" ∧ (parseMethodDescriptor yX4_pinCount.desc).map (fun d => d.parameters.length) = some 1 := by decide +kernel
theorem iX4_pinCount_X4 : ∀ w ∈ u_ws RX4 TX4 10, w ∈ wsX4_pinCount := by decide +kernel
theorem kX4_pinCount_19 : Cond.fieldLink RX4 19 (TX4 1).1 (TX4 1).2.1 (TX4 1).2.2.1 ∈ wsX4_pinCount := by decide +kernel
def rX2_depth : Room := { frames := 0, cells := 0, slots := 0, locals := 0 }
theorem ndX2_depth : yX2_depth.cls = RX2 ∧ yX2_depth.cls ≠ "java/lang/invoke/MethodHandle" ∧ yX2_depth.cls ≠ "java/lang/invoke/VarHandle" ∧ (parseMethodDescriptor yX2_depth.desc).map (fun d => d.parameters.length) = some 0 := by decide +kernel
theorem iX2_depth_X2 : ∀ w ∈ u_ws RX2 TX2 3, w ∈ wsX2_depth := by decide +kernel
theorem kX2_depth_24 : Cond.fieldLink RX2 24 (TX2 2).1 (TX2 2).2.1 (TX2 2).2.2.1 ∈ wsX2_depth := by decide +kernel
def rX4_referenceTime : Room := { frames := 2, cells := 0, slots := 0, locals := 42 }
theorem ndX4_referenceTime : yX4_referenceTime.cls = RX4 ∧ yX4_referenceTime.cls ≠ "java/lang/invoke/MethodHandle" ∧ yX4_referenceTime.cls ≠ "java/lang/invoke/VarHandle" ∧ (parseMethodDescriptor yX4_referenceTime.desc).map (fun d => d.parameters.length) = some 2 := by decide +kernel
theorem iX4_referenceTime_X4 : ∀ w ∈ u_ws RX4 TX4 10, w ∈ wsX4_referenceTime := by decide +kernel
theorem kX4_referenceTime_33 : Cond.fieldLink RX4 33 (TX4 3).1 (TX4 3).2.1 (TX4 3).2.2.1 ∈ wsX4_referenceTime := by decide +kernel
def rX4_backwardKDistance : Room := { frames := 2, cells := 0, slots := 0, locals := 42 }
theorem ndX4_backwardKDistance : yX4_backwardKDistance.cls = RX4 ∧ yX4_backwardKDistance.cls ≠ "java/lang/invoke/MethodHandle" ∧ yX4_backwardKDistance.cls ≠ "java/lang/invoke/VarHandle" ∧ (parseMethodDescriptor yX4_backwardKDistance.desc).map (fun d => d.parameters.length) = some 1 := by decide +kernel
theorem iX4_backwardKDistance_X4 : ∀ w ∈ u_ws RX4 TX4 10, w ∈ wsX4_backwardKDistance := by decide +kernel
theorem kX4_backwardKDistance_33 : Cond.fieldLink RX4 33 (TX4 3).1 (TX4 3).2.1 (TX4 3).2.2.1 ∈ wsX4_backwardKDistance := by decide +kernel
theorem kX4_backwardKDistance_111 : Cond.fieldLink RX4 111 (TX4 5).1 (TX4 5).2.1 (TX4 5).2.2.1 ∈ wsX4_backwardKDistance := by decide +kernel
def rX4_victim : Room := { frames := 3, cells := 0, slots := 0, locals := 69 }
theorem ndX4_victim : yX4_victim.cls = RX4 ∧ yX4_victim.cls ≠ "java/lang/invoke/MethodHandle" ∧ yX4_victim.cls ≠ "java/lang/invoke/VarHandle" ∧ (parseMethodDescriptor yX4_victim.desc).map (fun d => d.parameters.length) = some 0 := by decide +kernel
def rX0_valueOf : Room := { frames := 0, cells := 0, slots := 0, locals := 0 }
theorem ndX0_valueOf : yX0_valueOf.cls = RX0 ∧ yX0_valueOf.cls ≠ "java/lang/invoke/MethodHandle" ∧ yX0_valueOf.cls ≠ "java/lang/invoke/VarHandle" ∧ (parseMethodDescriptor yX0_valueOf.desc).map (fun d => d.parameters.length) = some 1 := by decide +kernel
theorem iX0_valueOf_X0 : ∀ w ∈ u_ws RX0 TX0 3, w ∈ wsX0_valueOf := by decide +kernel
theorem kX0_valueOf_9 : Cond.fieldLink RX0 9 (TX0 0).1 (TX0 0).2.1 (TX0 0).2.2.1 ∈ wsX0_valueOf := by decide +kernel
def rX4_diskValue : Room := { frames := 2, cells := 0, slots := 0, locals := 42 }
theorem ndX4_diskValue : yX4_diskValue.cls = RX4 ∧ yX4_diskValue.cls ≠ "java/lang/invoke/MethodHandle" ∧ yX4_diskValue.cls ≠ "java/lang/invoke/VarHandle" ∧ (parseMethodDescriptor yX4_diskValue.desc).map (fun d => d.parameters.length) = some 1 := by decide +kernel
theorem iX4_diskValue_X4 : ∀ w ∈ u_ws RX4 TX4 10, w ∈ wsX4_diskValue := by decide +kernel
theorem kX4_diskValue_10 : Cond.fieldLink RX4 10 (TX4 0).1 (TX4 0).2.1 (TX4 0).2.2.1 ∈ wsX4_diskValue := by decide +kernel
def rX1_used : Room := { frames := 0, cells := 0, slots := 0, locals := 0 }
theorem ndX1_used : yX1_used.cls = RX1 ∧ yX1_used.cls ≠ "java/lang/invoke/MethodHandle" ∧ yX1_used.cls ≠ "java/lang/invoke/VarHandle" ∧ (parseMethodDescriptor yX1_used.desc).map (fun d => d.parameters.length) = some 0 := by decide +kernel
theorem iX1_used_X1 : ∀ w ∈ u_ws RX1 TX1 6, w ∈ wsX1_used := by decide +kernel
theorem kX1_used_29 : Cond.fieldLink RX1 29 (TX1 5).1 (TX1 5).2.1 (TX1 5).2.2.1 ∈ wsX1_used := by decide +kernel
def rX4_residentCount : Room := { frames := 1, cells := 0, slots := 0, locals := 20 }
theorem ndX4_residentCount : yX4_residentCount.cls = RX4 ∧ yX4_residentCount.cls ≠ "java/lang/invoke/MethodHandle" ∧ yX4_residentCount.cls ≠ "java/lang/invoke/VarHandle" ∧ (parseMethodDescriptor yX4_residentCount.desc).map (fun d => d.parameters.length) = some 0 := by decide +kernel
theorem iX4_residentCount_X4 : ∀ w ∈ u_ws RX4 TX4 10, w ∈ wsX4_residentCount := by decide +kernel
theorem kX4_residentCount_19 : Cond.fieldLink RX4 19 (TX4 1).1 (TX4 1).2.1 (TX4 1).2.2.1 ∈ wsX4_residentCount := by decide +kernel
def rX1_pageAt : Room := { frames := 0, cells := 0, slots := 0, locals := 0 }
theorem ndX1_pageAt : yX1_pageAt.cls = RX1 ∧ yX1_pageAt.cls ≠ "java/lang/invoke/MethodHandle" ∧ yX1_pageAt.cls ≠ "java/lang/invoke/VarHandle" ∧ (parseMethodDescriptor yX1_pageAt.desc).map (fun d => d.parameters.length) = some 1 := by decide +kernel
theorem iX1_pageAt_X1 : ∀ w ∈ u_ws RX1 TX1 6, w ∈ wsX1_pageAt := by decide +kernel
theorem kX1_pageAt_9 : Cond.fieldLink RX1 9 (TX1 0).1 (TX1 0).2.1 (TX1 0).2.2.1 ∈ wsX1_pageAt := by decide +kernel
def rX4_residentPage : Room := { frames := 1, cells := 0, slots := 0, locals := 23 }
theorem ndX4_residentPage : yX4_residentPage.cls = RX4 ∧ yX4_residentPage.cls ≠ "java/lang/invoke/MethodHandle" ∧ yX4_residentPage.cls ≠ "java/lang/invoke/VarHandle" ∧ (parseMethodDescriptor yX4_residentPage.desc).map (fun d => d.parameters.length) = some 1 := by decide +kernel
theorem iX4_residentPage_X4 : ∀ w ∈ u_ws RX4 TX4 10, w ∈ wsX4_residentPage := by decide +kernel
theorem kX4_residentPage_19 : Cond.fieldLink RX4 19 (TX4 1).1 (TX4 1).2.1 (TX4 1).2.2.1 ∈ wsX4_residentPage := by decide +kernel
def rX4_queueSize : Room := { frames := 1, cells := 0, slots := 0, locals := 20 }
theorem ndX4_queueSize : yX4_queueSize.cls = RX4 ∧ yX4_queueSize.cls ≠ "java/lang/invoke/MethodHandle" ∧ yX4_queueSize.cls ≠ "java/lang/invoke/VarHandle" ∧ (parseMethodDescriptor yX4_queueSize.desc).map (fun d => d.parameters.length) = some 0 := by decide +kernel
theorem iX4_queueSize_X4 : ∀ w ∈ u_ws RX4 TX4 10, w ∈ wsX4_queueSize := by decide +kernel
theorem kX4_queueSize_26 : Cond.fieldLink RX4 26 (TX4 2).1 (TX4 2).2.1 (TX4 2).2.2.1 ∈ wsX4_queueSize := by decide +kernel
def rX4_queuedPage : Room := { frames := 2, cells := 0, slots := 0, locals := 42 }
theorem ndX4_queuedPage : yX4_queuedPage.cls = RX4 ∧ yX4_queuedPage.cls ≠ "java/lang/invoke/MethodHandle" ∧ yX4_queuedPage.cls ≠ "java/lang/invoke/VarHandle" ∧ (parseMethodDescriptor yX4_queuedPage.desc).map (fun d => d.parameters.length) = some 1 := by decide +kernel
theorem iX4_queuedPage_X4 : ∀ w ∈ u_ws RX4 TX4 10, w ∈ wsX4_queuedPage := by decide +kernel
theorem kX4_queuedPage_26 : Cond.fieldLink RX4 26 (TX4 2).1 (TX4 2).2.1 (TX4 2).2.2.1 ∈ wsX4_queuedPage := by decide +kernel
def rX4_queuedValue : Room := { frames := 2, cells := 0, slots := 0, locals := 42 }
theorem ndX4_queuedValue : yX4_queuedValue.cls = RX4 ∧ yX4_queuedValue.cls ≠ "java/lang/invoke/MethodHandle" ∧ yX4_queuedValue.cls ≠ "java/lang/invoke/VarHandle" ∧ (parseMethodDescriptor yX4_queuedValue.desc).map (fun d => d.parameters.length) = some 1 := by decide +kernel
theorem iX4_queuedValue_X4 : ∀ w ∈ u_ws RX4 TX4 10, w ∈ wsX4_queuedValue := by decide +kernel
theorem kX4_queuedValue_26 : Cond.fieldLink RX4 26 (TX4 2).1 (TX4 2).2.1 (TX4 2).2.2.1 ∈ wsX4_queuedValue := by decide +kernel
def rX4_clock : Room := { frames := 0, cells := 0, slots := 0, locals := 0 }
theorem ndX4_clock : yX4_clock.cls = RX4 ∧ yX4_clock.cls ≠ "java/lang/invoke/MethodHandle" ∧ yX4_clock.cls ≠ "java/lang/invoke/VarHandle" ∧ (parseMethodDescriptor yX4_clock.desc).map (fun d => d.parameters.length) = some 0 := by decide +kernel
theorem iX4_clock_X4 : ∀ w ∈ u_ws RX4 TX4 10, w ∈ wsX4_clock := by decide +kernel
theorem kX4_clock_111 : Cond.fieldLink RX4 111 (TX4 5).1 (TX4 5).2.1 (TX4 5).2.2.1 ∈ wsX4_clock := by decide +kernel
def rX4_hits : Room := { frames := 0, cells := 0, slots := 0, locals := 0 }
theorem ndX4_hits : yX4_hits.cls = RX4 ∧ yX4_hits.cls ≠ "java/lang/invoke/MethodHandle" ∧ yX4_hits.cls ≠ "java/lang/invoke/VarHandle" ∧ (parseMethodDescriptor yX4_hits.desc).map (fun d => d.parameters.length) = some 0 := by decide +kernel
theorem iX4_hits_X4 : ∀ w ∈ u_ws RX4 TX4 10, w ∈ wsX4_hits := by decide +kernel
theorem kX4_hits_129 : Cond.fieldLink RX4 129 (TX4 6).1 (TX4 6).2.1 (TX4 6).2.2.1 ∈ wsX4_hits := by decide +kernel
def rX4_misses : Room := { frames := 0, cells := 0, slots := 0, locals := 0 }
theorem ndX4_misses : yX4_misses.cls = RX4 ∧ yX4_misses.cls ≠ "java/lang/invoke/MethodHandle" ∧ yX4_misses.cls ≠ "java/lang/invoke/VarHandle" ∧ (parseMethodDescriptor yX4_misses.desc).map (fun d => d.parameters.length) = some 0 := by decide +kernel
theorem iX4_misses_X4 : ∀ w ∈ u_ws RX4 TX4 10, w ∈ wsX4_misses := by decide +kernel
theorem kX4_misses_132 : Cond.fieldLink RX4 132 (TX4 7).1 (TX4 7).2.1 (TX4 7).2.2.1 ∈ wsX4_misses := by decide +kernel
def rX4_evictions : Room := { frames := 0, cells := 0, slots := 0, locals := 0 }
theorem ndX4_evictions : yX4_evictions.cls = RX4 ∧ yX4_evictions.cls ≠ "java/lang/invoke/MethodHandle" ∧ yX4_evictions.cls ≠ "java/lang/invoke/VarHandle" ∧ (parseMethodDescriptor yX4_evictions.desc).map (fun d => d.parameters.length) = some 0 := by decide +kernel
theorem iX4_evictions_X4 : ∀ w ∈ u_ws RX4 TX4 10, w ∈ wsX4_evictions := by decide +kernel
theorem kX4_evictions_135 : Cond.fieldLink RX4 135 (TX4 8).1 (TX4 8).2.1 (TX4 8).2.2.1 ∈ wsX4_evictions := by decide +kernel
def rX0_loads : Room := { frames := 0, cells := 0, slots := 0, locals := 0 }
theorem ndX0_loads : yX0_loads.cls = RX0 ∧ yX0_loads.cls ≠ "java/lang/invoke/MethodHandle" ∧ yX0_loads.cls ≠ "java/lang/invoke/VarHandle" ∧ (parseMethodDescriptor yX0_loads.desc).map (fun d => d.parameters.length) = some 0 := by decide +kernel
theorem iX0_loads_X0 : ∀ w ∈ u_ws RX0 TX0 3, w ∈ wsX0_loads := by decide +kernel
theorem kX0_loads_21 : Cond.fieldLink RX0 21 (TX0 1).1 (TX0 1).2.1 (TX0 1).2.2.1 ∈ wsX0_loads := by decide +kernel
def rX4_diskReads : Room := { frames := 1, cells := 0, slots := 0, locals := 20 }
theorem ndX4_diskReads : yX4_diskReads.cls = RX4 ∧ yX4_diskReads.cls ≠ "java/lang/invoke/MethodHandle" ∧ yX4_diskReads.cls ≠ "java/lang/invoke/VarHandle" ∧ (parseMethodDescriptor yX4_diskReads.desc).map (fun d => d.parameters.length) = some 0 := by decide +kernel
theorem iX4_diskReads_X4 : ∀ w ∈ u_ws RX4 TX4 10, w ∈ wsX4_diskReads := by decide +kernel
theorem kX4_diskReads_10 : Cond.fieldLink RX4 10 (TX4 0).1 (TX4 0).2.1 (TX4 0).2.2.1 ∈ wsX4_diskReads := by decide +kernel
def rX0_stores : Room := { frames := 0, cells := 0, slots := 0, locals := 0 }
theorem ndX0_stores : yX0_stores.cls = RX0 ∧ yX0_stores.cls ≠ "java/lang/invoke/MethodHandle" ∧ yX0_stores.cls ≠ "java/lang/invoke/VarHandle" ∧ (parseMethodDescriptor yX0_stores.desc).map (fun d => d.parameters.length) = some 0 := by decide +kernel
theorem iX0_stores_X0 : ∀ w ∈ u_ws RX0 TX0 3, w ∈ wsX0_stores := by decide +kernel
theorem kX0_stores_25 : Cond.fieldLink RX0 25 (TX0 2).1 (TX0 2).2.1 (TX0 2).2.2.1 ∈ wsX0_stores := by decide +kernel
def rX4_diskWrites : Room := { frames := 1, cells := 0, slots := 0, locals := 20 }
theorem ndX4_diskWrites : yX4_diskWrites.cls = RX4 ∧ yX4_diskWrites.cls ≠ "java/lang/invoke/MethodHandle" ∧ yX4_diskWrites.cls ≠ "java/lang/invoke/VarHandle" ∧ (parseMethodDescriptor yX4_diskWrites.desc).map (fun d => d.parameters.length) = some 0 := by decide +kernel
theorem iX4_diskWrites_X4 : ∀ w ∈ u_ws RX4 TX4 10, w ∈ wsX4_diskWrites := by decide +kernel
theorem kX4_diskWrites_10 : Cond.fieldLink RX4 10 (TX4 0).1 (TX4 0).2.1 (TX4 0).2.2.1 ∈ wsX4_diskWrites := by decide +kernel
def rX4_stalls : Room := { frames := 0, cells := 0, slots := 0, locals := 0 }
theorem ndX4_stalls : yX4_stalls.cls = RX4 ∧ yX4_stalls.cls ≠ "java/lang/invoke/MethodHandle" ∧ yX4_stalls.cls ≠ "java/lang/invoke/VarHandle" ∧ (parseMethodDescriptor yX4_stalls.desc).map (fun d => d.parameters.length) = some 0 := by decide +kernel
theorem iX4_stalls_X4 : ∀ w ∈ u_ws RX4 TX4 10, w ∈ wsX4_stalls := by decide +kernel
theorem kX4_stalls_144 : Cond.fieldLink RX4 144 (TX4 9).1 (TX4 9).2.1 (TX4 9).2.2.1 ∈ wsX4_stalls := by decide +kernel
