def zD : SD := (fun _ => 0, 0, 0)
def zF : SF := (fun _ => 0, fun _ => 0, fun _ => 0, fun _ => 0, 0, 0)
def zFm : SFm := (fun _ => 0, fun _ => 0, fun _ => 0, fun _ => 0, 0)
def zQ : SQ := (fun _ => 0, fun _ => 0, 0, 0)
def zH : SH := (fun _ => 0, fun _ => 0, 0)
def zC : SC := (0, 0, 0, 0, 0, 0)
def zX : SX := (zD, zF, zQ, zH, zC)
def zM : SM := (zD, zFm, zQ, zH, zC)
def adr (l : List Nat) (k : Nat) : Nat := l.getD k 0
def rX0_init : Room := { frames := 1, cells := 1, slots := 64, locals := 12 }
theorem ndX0_init : yX0_init.cls = RX0 ∧ yX0_init.cls ≠ "java/lang/invoke/MethodHandle" ∧ yX0_init.cls ≠ "java/lang/invoke/VarHandle" ∧ (parseMethodDescriptor yX0_init.desc).map (fun d => d.parameters.length) = some 0 := by decide +kernel
theorem iX0_init_X0 : ∀ w ∈ u_ws RX0 TX0 3, w ∈ wsX0_init := by decide +kernel
theorem kX0_init_9 : Cond.fieldLink RX0 9 (TX0 0).1 (TX0 0).2.1 (TX0 0).2.2.1 ∈ wsX0_init := by decide +kernel
set_option maxRecDepth 100000 in
set_option maxHeartbeats 4000000 in
theorem c_X0_init {cI cZ : ClassId} (o : Nat) : Ct yX0_init wsX0_init rX0_init cI cZ [.ref o] [(o, .inr (0, [.null, .int 0, .int 0]))] 1 64 (fun v w => v = none ∧ ∃ a1 : Nat, w = wD o a1 cI zD) := by
  refine Ct.of (cc := cX0_init) (nL := 1) (own := RX0) (by decide) rfl rfl (Nat.le_of_ble_eq_true rfl) rfl ?_
  intro K hR hN
  refine G.aload_n (pc2 := 1) (x := o) dX0_init_0 rfl rfl rfl ?_
  refine G.objInit (pc2 := 4) (by decide +kernel) (by decide +kernel) (by decide +kernel) (Nat.le_of_ble_eq_true rfl) (Nat.le_of_ble_eq_true rfl) dX0_init_1 rfl ?_
  refine G.aload_n (pc2 := 5) (x := o) dX0_init_4 rfl rfl rfl ?_
  refine G.bipush (pc2 := 7) (v := 64) dX0_init_5 (by decide) rfl ?_
  refine G.newI (pc2 := 9) (N := 64) (by decide +kernel) (by decide) (by decide) (Nat.le_of_ble_eq_true rfl) (Nat.le_of_ble_eq_true rfl) (Nat.le_of_ble_eq_true rfl) dX0_init_7 rfl (fun q_7 => ?_)
  show G K cI cZ cX0_init 1 RX0 wsX0_init rX0_init 1 64 [(o, .inr (0, [.null, .int 0, .int 0])), (q_7, .inl (cI, 64, .inl (fun _ => 0)))] 9 [(0, .ref o)] [.ref q_7, .ref o]
  refine G.putF (pc2 := 12) (q0 := 0) (ci := 0) (k := 0) (ws2 := [(o, .inr (0, [.ref q_7, .int 0, .int 0])), (q_7, .inl (cI, 64, .inl (fun _ => 0)))]) iX0_init_X0 kX0_init_9 tyX0_ok nmX0 rfl rfl (by decide) rfl hN rfl rfl rfl (Nat.le_of_ble_eq_true rfl) rfl dX0_init_9 rfl ?_
  exact G.vreturn hR dX0_init_12 ⟨rfl, q_7, rfl⟩
def rX1_init : Room := { frames := 1, cells := 4, slots := 256, locals := 12 }
theorem ndX1_init : yX1_init.cls = RX1 ∧ yX1_init.cls ≠ "java/lang/invoke/MethodHandle" ∧ yX1_init.cls ≠ "java/lang/invoke/VarHandle" ∧ (parseMethodDescriptor yX1_init.desc).map (fun d => d.parameters.length) = some 0 := by decide +kernel
theorem iX1_init_X1 : ∀ w ∈ u_ws RX1 TX1 6, w ∈ wsX1_init := by decide +kernel
theorem kX1_init_9 : Cond.fieldLink RX1 9 (TX1 0).1 (TX1 0).2.1 (TX1 0).2.2.1 ∈ wsX1_init := by decide +kernel
theorem kX1_init_15 : Cond.fieldLink RX1 15 (TX1 1).1 (TX1 1).2.1 (TX1 1).2.2.1 ∈ wsX1_init := by decide +kernel
theorem kX1_init_18 : Cond.fieldLink RX1 18 (TX1 2).1 (TX1 2).2.1 (TX1 2).2.2.1 ∈ wsX1_init := by decide +kernel
theorem kX1_init_22 : Cond.fieldLink RX1 22 (TX1 3).1 (TX1 3).2.1 (TX1 3).2.2.1 ∈ wsX1_init := by decide +kernel
set_option maxRecDepth 100000 in
set_option maxHeartbeats 4000000 in
theorem c_X1_init {cI cZ : ClassId} (o : Nat) : Ct yX1_init wsX1_init rX1_init cI cZ [.ref o] [(o, .inr (1, [.null, .null, .null, .null, .int 0, .int 0]))] 4 256 (fun v w => v = none ∧ ∃ r1 c1 v1 p1 : Nat, w = wF o r1 c1 v1 p1 cI cZ zF) := by
  refine Ct.of (cc := cX1_init) (nL := 1) (own := RX1) (by decide) rfl rfl (Nat.le_of_ble_eq_true rfl) rfl ?_
  intro K hR hN
  refine G.aload_n (pc2 := 1) (x := o) dX1_init_0 rfl rfl rfl ?_
  refine G.objInit (pc2 := 4) (by decide +kernel) (by decide +kernel) (by decide +kernel) (Nat.le_of_ble_eq_true rfl) (Nat.le_of_ble_eq_true rfl) dX1_init_1 rfl ?_
  refine G.aload_n (pc2 := 5) (x := o) dX1_init_4 rfl rfl rfl ?_
  refine G.bipush (pc2 := 7) (v := 64) dX1_init_5 (by decide) rfl ?_
  refine G.newZ (pc2 := 9) (N := 64) (by decide +kernel) (by decide) (by decide) (Nat.le_of_ble_eq_true rfl) (Nat.le_of_ble_eq_true rfl) (Nat.le_of_ble_eq_true rfl) dX1_init_7 rfl (fun q_7 => ?_)
  show G K cI cZ cX1_init 1 RX1 wsX1_init rX1_init 1 64 [(o, .inr (1, [.null, .null, .null, .null, .int 0, .int 0])), (q_7, .inl (cZ, 64, .inl (fun _ => 0)))] 9 [(0, .ref o)] [.ref q_7, .ref o]
  refine G.putF (pc2 := 12) (q0 := 0) (ci := 1) (k := 0) (ws2 := [(o, .inr (1, [.ref q_7, .null, .null, .null, .int 0, .int 0])), (q_7, .inl (cZ, 64, .inl (fun _ => 0)))]) iX1_init_X1 kX1_init_9 tyX1_ok nmX1 rfl rfl (by decide) rfl hN rfl rfl rfl (Nat.le_of_ble_eq_true rfl) rfl dX1_init_9 rfl ?_
  refine G.aload_n (pc2 := 13) (x := o) dX1_init_12 rfl rfl rfl ?_
  refine G.bipush (pc2 := 15) (v := 64) dX1_init_13 (by decide) rfl ?_
  refine G.newZ (pc2 := 17) (N := 64) (by decide +kernel) (by decide) (by decide) (Nat.le_of_ble_eq_true rfl) (Nat.le_of_ble_eq_true rfl) (Nat.le_of_ble_eq_true rfl) dX1_init_15 rfl (fun q_15 => ?_)
  show G K cI cZ cX1_init 1 RX1 wsX1_init rX1_init 2 128 [(o, .inr (1, [.ref q_7, .null, .null, .null, .int 0, .int 0])), (q_7, .inl (cZ, 64, .inl (fun _ => 0))), (q_15, .inl (cZ, 64, .inl (fun _ => 0)))] 17 [(0, .ref o)] [.ref q_15, .ref o]
  refine G.putF (pc2 := 20) (q0 := 0) (ci := 1) (k := 1) (ws2 := [(o, .inr (1, [.ref q_7, .ref q_15, .null, .null, .int 0, .int 0])), (q_7, .inl (cZ, 64, .inl (fun _ => 0))), (q_15, .inl (cZ, 64, .inl (fun _ => 0)))]) iX1_init_X1 kX1_init_15 tyX1_ok nmX1 rfl rfl (by decide) rfl hN rfl rfl rfl (Nat.le_of_ble_eq_true rfl) rfl dX1_init_17 rfl ?_
  refine G.aload_n (pc2 := 21) (x := o) dX1_init_20 rfl rfl rfl ?_
  refine G.bipush (pc2 := 23) (v := 64) dX1_init_21 (by decide) rfl ?_
  refine G.newI (pc2 := 25) (N := 64) (by decide +kernel) (by decide) (by decide) (Nat.le_of_ble_eq_true rfl) (Nat.le_of_ble_eq_true rfl) (Nat.le_of_ble_eq_true rfl) dX1_init_23 rfl (fun q_23 => ?_)
  show G K cI cZ cX1_init 1 RX1 wsX1_init rX1_init 3 192 [(o, .inr (1, [.ref q_7, .ref q_15, .null, .null, .int 0, .int 0])), (q_7, .inl (cZ, 64, .inl (fun _ => 0))), (q_15, .inl (cZ, 64, .inl (fun _ => 0))), (q_23, .inl (cI, 64, .inl (fun _ => 0)))] 25 [(0, .ref o)] [.ref q_23, .ref o]
  refine G.putF (pc2 := 28) (q0 := 0) (ci := 1) (k := 2) (ws2 := [(o, .inr (1, [.ref q_7, .ref q_15, .ref q_23, .null, .int 0, .int 0])), (q_7, .inl (cZ, 64, .inl (fun _ => 0))), (q_15, .inl (cZ, 64, .inl (fun _ => 0))), (q_23, .inl (cI, 64, .inl (fun _ => 0)))]) iX1_init_X1 kX1_init_18 tyX1_ok nmX1 rfl rfl (by decide) rfl hN rfl rfl rfl (Nat.le_of_ble_eq_true rfl) rfl dX1_init_25 rfl ?_
  refine G.aload_n (pc2 := 29) (x := o) dX1_init_28 rfl rfl rfl ?_
  refine G.bipush (pc2 := 31) (v := 64) dX1_init_29 (by decide) rfl ?_
  refine G.newI (pc2 := 33) (N := 64) (by decide +kernel) (by decide) (by decide) (Nat.le_of_ble_eq_true rfl) (Nat.le_of_ble_eq_true rfl) (Nat.le_of_ble_eq_true rfl) dX1_init_31 rfl (fun q_31 => ?_)
  show G K cI cZ cX1_init 1 RX1 wsX1_init rX1_init 4 256 [(o, .inr (1, [.ref q_7, .ref q_15, .ref q_23, .null, .int 0, .int 0])), (q_7, .inl (cZ, 64, .inl (fun _ => 0))), (q_15, .inl (cZ, 64, .inl (fun _ => 0))), (q_23, .inl (cI, 64, .inl (fun _ => 0))), (q_31, .inl (cI, 64, .inl (fun _ => 0)))] 33 [(0, .ref o)] [.ref q_31, .ref o]
  refine G.putF (pc2 := 36) (q0 := 0) (ci := 1) (k := 3) (ws2 := [(o, .inr (1, [.ref q_7, .ref q_15, .ref q_23, .ref q_31, .int 0, .int 0])), (q_7, .inl (cZ, 64, .inl (fun _ => 0))), (q_15, .inl (cZ, 64, .inl (fun _ => 0))), (q_23, .inl (cI, 64, .inl (fun _ => 0))), (q_31, .inl (cI, 64, .inl (fun _ => 0)))]) iX1_init_X1 kX1_init_22 tyX1_ok nmX1 rfl rfl (by decide) rfl hN rfl rfl rfl (Nat.le_of_ble_eq_true rfl) rfl dX1_init_33 rfl ?_
  exact G.vreturn hR dX1_init_36 ⟨rfl, q_7, q_15, q_23, q_31, rfl⟩
def rX3_init : Room := { frames := 1, cells := 2, slots := 16, locals := 12 }
theorem ndX3_init : yX3_init.cls = RX3 ∧ yX3_init.cls ≠ "java/lang/invoke/MethodHandle" ∧ yX3_init.cls ≠ "java/lang/invoke/VarHandle" ∧ (parseMethodDescriptor yX3_init.desc).map (fun d => d.parameters.length) = some 0 := by decide +kernel
theorem iX3_init_X3 : ∀ w ∈ u_ws RX3 TX3 4, w ∈ wsX3_init := by decide +kernel
theorem kX3_init_9 : Cond.fieldLink RX3 9 (TX3 0).1 (TX3 0).2.1 (TX3 0).2.2.1 ∈ wsX3_init := by decide +kernel
theorem kX3_init_15 : Cond.fieldLink RX3 15 (TX3 1).1 (TX3 1).2.1 (TX3 1).2.2.1 ∈ wsX3_init := by decide +kernel
set_option maxRecDepth 100000 in
set_option maxHeartbeats 4000000 in
theorem c_X3_init {cI cZ : ClassId} (o : Nat) : Ct yX3_init wsX3_init rX3_init cI cZ [.ref o] [(o, .inr (3, [.null, .null, .int 0, .int 0]))] 2 16 (fun v w => v = none ∧ ∃ g1 v1 : Nat, w = wQ o g1 v1 cI zQ) := by
  refine Ct.of (cc := cX3_init) (nL := 1) (own := RX3) (by decide) rfl rfl (Nat.le_of_ble_eq_true rfl) rfl ?_
  intro K hR hN
  refine G.aload_n (pc2 := 1) (x := o) dX3_init_0 rfl rfl rfl ?_
  refine G.objInit (pc2 := 4) (by decide +kernel) (by decide +kernel) (by decide +kernel) (Nat.le_of_ble_eq_true rfl) (Nat.le_of_ble_eq_true rfl) dX3_init_1 rfl ?_
  refine G.aload_n (pc2 := 5) (x := o) dX3_init_4 rfl rfl rfl ?_
  refine G.bipush (pc2 := 7) (v := 8) dX3_init_5 (by decide) rfl ?_
  refine G.newI (pc2 := 9) (N := 8) (by decide +kernel) (by decide) (by decide) (Nat.le_of_ble_eq_true rfl) (Nat.le_of_ble_eq_true rfl) (Nat.le_of_ble_eq_true rfl) dX3_init_7 rfl (fun q_7 => ?_)
  show G K cI cZ cX3_init 1 RX3 wsX3_init rX3_init 1 8 [(o, .inr (3, [.null, .null, .int 0, .int 0])), (q_7, .inl (cI, 8, .inl (fun _ => 0)))] 9 [(0, .ref o)] [.ref q_7, .ref o]
  refine G.putF (pc2 := 12) (q0 := 0) (ci := 3) (k := 0) (ws2 := [(o, .inr (3, [.ref q_7, .null, .int 0, .int 0])), (q_7, .inl (cI, 8, .inl (fun _ => 0)))]) iX3_init_X3 kX3_init_9 tyX3_ok nmX3 rfl rfl (by decide) rfl hN rfl rfl rfl (Nat.le_of_ble_eq_true rfl) rfl dX3_init_9 rfl ?_
  refine G.aload_n (pc2 := 13) (x := o) dX3_init_12 rfl rfl rfl ?_
  refine G.bipush (pc2 := 15) (v := 8) dX3_init_13 (by decide) rfl ?_
  refine G.newI (pc2 := 17) (N := 8) (by decide +kernel) (by decide) (by decide) (Nat.le_of_ble_eq_true rfl) (Nat.le_of_ble_eq_true rfl) (Nat.le_of_ble_eq_true rfl) dX3_init_15 rfl (fun q_15 => ?_)
  show G K cI cZ cX3_init 1 RX3 wsX3_init rX3_init 2 16 [(o, .inr (3, [.ref q_7, .null, .int 0, .int 0])), (q_7, .inl (cI, 8, .inl (fun _ => 0))), (q_15, .inl (cI, 8, .inl (fun _ => 0)))] 17 [(0, .ref o)] [.ref q_15, .ref o]
  refine G.putF (pc2 := 20) (q0 := 0) (ci := 3) (k := 1) (ws2 := [(o, .inr (3, [.ref q_7, .ref q_15, .int 0, .int 0])), (q_7, .inl (cI, 8, .inl (fun _ => 0))), (q_15, .inl (cI, 8, .inl (fun _ => 0)))]) iX3_init_X3 kX3_init_15 tyX3_ok nmX3 rfl rfl (by decide) rfl hN rfl rfl rfl (Nat.le_of_ble_eq_true rfl) rfl dX3_init_17 rfl ?_
  exact G.vreturn hR dX3_init_20 ⟨rfl, q_7, q_15, rfl⟩
def rX2_init : Room := { frames := 1, cells := 2, slots := 256, locals := 12 }
theorem ndX2_init : yX2_init.cls = RX2 ∧ yX2_init.cls ≠ "java/lang/invoke/MethodHandle" ∧ yX2_init.cls ≠ "java/lang/invoke/VarHandle" ∧ (parseMethodDescriptor yX2_init.desc).map (fun d => d.parameters.length) = some 0 := by decide +kernel
theorem iX2_init_X2 : ∀ w ∈ u_ws RX2 TX2 3, w ∈ wsX2_init := by decide +kernel
theorem kX2_init_9 : Cond.fieldLink RX2 9 (TX2 0).1 (TX2 0).2.1 (TX2 0).2.2.1 ∈ wsX2_init := by decide +kernel
theorem kX2_init_15 : Cond.fieldLink RX2 15 (TX2 1).1 (TX2 1).2.1 (TX2 1).2.2.1 ∈ wsX2_init := by decide +kernel
set_option maxRecDepth 100000 in
set_option maxHeartbeats 4000000 in
theorem c_X2_init {cI cZ : ClassId} (o : Nat) : Ct yX2_init wsX2_init rX2_init cI cZ [.ref o] [(o, .inr (2, [.null, .null, .int 0]))] 2 256 (fun v w => v = none ∧ ∃ t1 b1 : Nat, w = wH o t1 b1 cI zH) := by
  refine Ct.of (cc := cX2_init) (nL := 1) (own := RX2) (by decide) rfl rfl (Nat.le_of_ble_eq_true rfl) rfl ?_
  intro K hR hN
  refine G.aload_n (pc2 := 1) (x := o) dX2_init_0 rfl rfl rfl ?_
  refine G.objInit (pc2 := 4) (by decide +kernel) (by decide +kernel) (by decide +kernel) (Nat.le_of_ble_eq_true rfl) (Nat.le_of_ble_eq_true rfl) dX2_init_1 rfl ?_
  refine G.aload_n (pc2 := 5) (x := o) dX2_init_4 rfl rfl rfl ?_
  refine G.sipush (pc2 := 8) (v := 192) dX2_init_5 (by decide) rfl ?_
  refine G.newI (pc2 := 10) (N := 192) (by decide +kernel) (by decide) (by decide) (Nat.le_of_ble_eq_true rfl) (Nat.le_of_ble_eq_true rfl) (Nat.le_of_ble_eq_true rfl) dX2_init_8 rfl (fun q_8 => ?_)
  show G K cI cZ cX2_init 1 RX2 wsX2_init rX2_init 1 192 [(o, .inr (2, [.null, .null, .int 0])), (q_8, .inl (cI, 192, .inl (fun _ => 0)))] 10 [(0, .ref o)] [.ref q_8, .ref o]
  refine G.putF (pc2 := 13) (q0 := 0) (ci := 2) (k := 0) (ws2 := [(o, .inr (2, [.ref q_8, .null, .int 0])), (q_8, .inl (cI, 192, .inl (fun _ => 0)))]) iX2_init_X2 kX2_init_9 tyX2_ok nmX2 rfl rfl (by decide) rfl hN rfl rfl rfl (Nat.le_of_ble_eq_true rfl) rfl dX2_init_10 rfl ?_
  refine G.aload_n (pc2 := 14) (x := o) dX2_init_13 rfl rfl rfl ?_
  refine G.bipush (pc2 := 16) (v := 64) dX2_init_14 (by decide) rfl ?_
  refine G.newI (pc2 := 18) (N := 64) (by decide +kernel) (by decide) (by decide) (Nat.le_of_ble_eq_true rfl) (Nat.le_of_ble_eq_true rfl) (Nat.le_of_ble_eq_true rfl) dX2_init_16 rfl (fun q_16 => ?_)
  show G K cI cZ cX2_init 1 RX2 wsX2_init rX2_init 2 256 [(o, .inr (2, [.ref q_8, .null, .int 0])), (q_8, .inl (cI, 192, .inl (fun _ => 0))), (q_16, .inl (cI, 64, .inl (fun _ => 0)))] 18 [(0, .ref o)] [.ref q_16, .ref o]
  refine G.putF (pc2 := 21) (q0 := 0) (ci := 2) (k := 1) (ws2 := [(o, .inr (2, [.ref q_8, .ref q_16, .int 0])), (q_8, .inl (cI, 192, .inl (fun _ => 0))), (q_16, .inl (cI, 64, .inl (fun _ => 0)))]) iX2_init_X2 kX2_init_15 tyX2_ok nmX2 rfl rfl (by decide) rfl hN rfl rfl rfl (Nat.le_of_ble_eq_true rfl) rfl dX2_init_18 rfl ?_
  exact G.vreturn hR dX2_init_21 ⟨rfl, q_8, q_16, rfl⟩
def rX4_init : Room := { frames := 3, cells := 13, slots := 608, locals := 68 }
theorem ndX4_init : yX4_init.cls = RX4 ∧ yX4_init.cls ≠ "java/lang/invoke/MethodHandle" ∧ yX4_init.cls ≠ "java/lang/invoke/VarHandle" ∧ (parseMethodDescriptor yX4_init.desc).map (fun d => d.parameters.length) = some 0 := by decide +kernel
theorem iX4_init_X4 : ∀ w ∈ u_ws RX4 TX4 10, w ∈ wsX4_init := by decide +kernel
theorem kX4_init_10 : Cond.fieldLink RX4 10 (TX4 0).1 (TX4 0).2.1 (TX4 0).2.2.1 ∈ wsX4_init := by decide +kernel
theorem kX4_init_19 : Cond.fieldLink RX4 19 (TX4 1).1 (TX4 1).2.1 (TX4 1).2.2.1 ∈ wsX4_init := by decide +kernel
theorem kX4_init_26 : Cond.fieldLink RX4 26 (TX4 2).1 (TX4 2).2.1 (TX4 2).2.2.1 ∈ wsX4_init := by decide +kernel
theorem kX4_init_33 : Cond.fieldLink RX4 33 (TX4 3).1 (TX4 3).2.1 (TX4 3).2.2.1 ∈ wsX4_init := by decide +kernel
set_option maxRecDepth 100000 in
set_option maxHeartbeats 4000000 in
theorem c_X4_init {cI cZ : ClassId} (o : Nat) : Ct yX4_init wsX4_init rX4_init cI cZ [.ref o] [(o, .inr (4, [.null, .null, .null, .null, .int 0, .int 0, .int 0, .int 0, .int 0, .int 0]))] 13 608 (fun v w => v = none ∧ ∃ a : Nat → Nat, a 0 = o ∧ w = wX a cI cZ (sX4_startAnew zX 4 2 3 100)) := by
  refine Ct.of (cc := cX4_init) (nL := 1) (own := RX4) (by decide) rfl rfl (Nat.le_of_ble_eq_true rfl) rfl ?_
  intro K hR hN
  refine G.aload_n (pc2 := 1) (x := o) dX4_init_0 rfl rfl rfl ?_
  refine G.objInit (pc2 := 4) (by decide +kernel) (by decide +kernel) (by decide +kernel) (Nat.le_of_ble_eq_true rfl) (Nat.le_of_ble_eq_true rfl) dX4_init_1 rfl ?_
  refine G.aload_n (pc2 := 5) (x := o) dX4_init_4 rfl rfl rfl ?_
  refine G.newO (pc2 := 8) (C := RX0) (T := TX0) (N := 3) (ci := 0) (fs := [.null, .int 0, .int 0]) (ty := tyX0) (by decide +kernel) tyX0_ok (by decide +kernel) (by decide +kernel) (by decide +kernel) rfl (by decide +kernel) (Nat.le_of_ble_eq_true rfl) (Nat.le_of_ble_eq_true rfl) dX4_init_5 rfl (fun q_5 => ?_)
  show G K cI cZ cX4_init 1 RX4 wsX4_init rX4_init 1 3 [(o, .inr (4, [.null, .null, .null, .null, .int 0, .int 0, .int 0, .int 0, .int 0, .int 0])), (q_5, .inr (0, [.null, .int 0, .int 0]))] 8 [(0, .ref o)] [.ref q_5, .ref o]
  refine G.dup (pc2 := 9) dX4_init_8 rfl rfl ?_
  refine G.callI (pc2 := 12) (i := 1) (j := 2) (b := q_5) (As := []) (rest := [.ref q_5, .ref o]) (c_X0_init (cI := cI) (cZ := cZ) q_5) gX4_init_X0_init rfl rfl rfl (by decide +kernel) (by decide +kernel) (by decide +kernel) rfl ndX0_init.2 ⟨Nat.le_of_ble_eq_true rfl, Nat.le_of_ble_eq_true rfl⟩ ⟨Nat.le_of_ble_eq_true rfl, Nat.le_of_ble_eq_true rfl⟩ rfl rfl (Nat.le_of_ble_eq_true rfl) rfl dX4_init_9 rfl ?_
  rintro _ _ ⟨rfl, q_9_a, rfl⟩
  show G K cI cZ cX4_init 1 RX4 wsX4_init rX4_init 2 67 [(o, .inr (4, [.null, .null, .null, .null, .int 0, .int 0, .int 0, .int 0, .int 0, .int 0])), (q_5, .inr (0, [.ref q_9_a, .int 0, .int 0])), (q_9_a, .inl (cI, 64, .inl (fun _ => 0)))] 12 [(0, .ref o)] [.ref q_5, .ref o]
  refine G.putF (pc2 := 15) (q0 := 0) (ci := 4) (k := 0) (ws2 := [(o, .inr (4, [.ref q_5, .null, .null, .null, .int 0, .int 0, .int 0, .int 0, .int 0, .int 0])), (q_5, .inr (0, [.ref q_9_a, .int 0, .int 0])), (q_9_a, .inl (cI, 64, .inl (fun _ => 0)))]) iX4_init_X4 kX4_init_10 tyX4_ok nmX4 rfl rfl (by decide) rfl hN rfl rfl rfl (Nat.le_of_ble_eq_true rfl) rfl dX4_init_12 rfl ?_
  refine G.aload_n (pc2 := 16) (x := o) dX4_init_15 rfl rfl rfl ?_
  refine G.newO (pc2 := 19) (C := RX1) (T := TX1) (N := 6) (ci := 1) (fs := [.null, .null, .null, .null, .int 0, .int 0]) (ty := tyX1) (by decide +kernel) tyX1_ok (by decide +kernel) (by decide +kernel) (by decide +kernel) rfl (by decide +kernel) (Nat.le_of_ble_eq_true rfl) (Nat.le_of_ble_eq_true rfl) dX4_init_16 rfl (fun q_16 => ?_)
  show G K cI cZ cX4_init 1 RX4 wsX4_init rX4_init 3 73 [(o, .inr (4, [.ref q_5, .null, .null, .null, .int 0, .int 0, .int 0, .int 0, .int 0, .int 0])), (q_5, .inr (0, [.ref q_9_a, .int 0, .int 0])), (q_9_a, .inl (cI, 64, .inl (fun _ => 0))), (q_16, .inr (1, [.null, .null, .null, .null, .int 0, .int 0]))] 19 [(0, .ref o)] [.ref q_16, .ref o]
  refine G.dup (pc2 := 20) dX4_init_19 rfl rfl ?_
  refine G.callI (pc2 := 23) (i := 3) (j := 4) (b := q_16) (As := []) (rest := [.ref q_16, .ref o]) (c_X1_init (cI := cI) (cZ := cZ) q_16) gX4_init_X1_init rfl rfl rfl (by decide +kernel) (by decide +kernel) (by decide +kernel) rfl ndX1_init.2 ⟨Nat.le_of_ble_eq_true rfl, Nat.le_of_ble_eq_true rfl⟩ ⟨Nat.le_of_ble_eq_true rfl, Nat.le_of_ble_eq_true rfl⟩ rfl rfl (Nat.le_of_ble_eq_true rfl) rfl dX4_init_20 rfl ?_
  rintro _ _ ⟨rfl, q_20_r, q_20_c, q_20_v, q_20_p, rfl⟩
  show G K cI cZ cX4_init 1 RX4 wsX4_init rX4_init 7 329 [(o, .inr (4, [.ref q_5, .null, .null, .null, .int 0, .int 0, .int 0, .int 0, .int 0, .int 0])), (q_5, .inr (0, [.ref q_9_a, .int 0, .int 0])), (q_9_a, .inl (cI, 64, .inl (fun _ => 0))), (q_16, .inr (1, [.ref q_20_r, .ref q_20_c, .ref q_20_v, .ref q_20_p, .int 0, .int 0])), (q_20_r, .inl (cZ, 64, .inl (fun _ => 0))), (q_20_c, .inl (cZ, 64, .inl (fun _ => 0))), (q_20_v, .inl (cI, 64, .inl (fun _ => 0))), (q_20_p, .inl (cI, 64, .inl (fun _ => 0)))] 23 [(0, .ref o)] [.ref q_16, .ref o]
  refine G.putF (pc2 := 26) (q0 := 0) (ci := 4) (k := 1) (ws2 := [(o, .inr (4, [.ref q_5, .ref q_16, .null, .null, .int 0, .int 0, .int 0, .int 0, .int 0, .int 0])), (q_5, .inr (0, [.ref q_9_a, .int 0, .int 0])), (q_9_a, .inl (cI, 64, .inl (fun _ => 0))), (q_16, .inr (1, [.ref q_20_r, .ref q_20_c, .ref q_20_v, .ref q_20_p, .int 0, .int 0])), (q_20_r, .inl (cZ, 64, .inl (fun _ => 0))), (q_20_c, .inl (cZ, 64, .inl (fun _ => 0))), (q_20_v, .inl (cI, 64, .inl (fun _ => 0))), (q_20_p, .inl (cI, 64, .inl (fun _ => 0)))]) iX4_init_X4 kX4_init_19 tyX4_ok nmX4 rfl rfl (by decide) rfl hN rfl rfl rfl (Nat.le_of_ble_eq_true rfl) rfl dX4_init_23 rfl ?_
  refine G.aload_n (pc2 := 27) (x := o) dX4_init_26 rfl rfl rfl ?_
  refine G.newO (pc2 := 30) (C := RX3) (T := TX3) (N := 4) (ci := 3) (fs := [.null, .null, .int 0, .int 0]) (ty := tyX3) (by decide +kernel) tyX3_ok (by decide +kernel) (by decide +kernel) (by decide +kernel) rfl (by decide +kernel) (Nat.le_of_ble_eq_true rfl) (Nat.le_of_ble_eq_true rfl) dX4_init_27 rfl (fun q_27 => ?_)
  show G K cI cZ cX4_init 1 RX4 wsX4_init rX4_init 8 333 [(o, .inr (4, [.ref q_5, .ref q_16, .null, .null, .int 0, .int 0, .int 0, .int 0, .int 0, .int 0])), (q_5, .inr (0, [.ref q_9_a, .int 0, .int 0])), (q_9_a, .inl (cI, 64, .inl (fun _ => 0))), (q_16, .inr (1, [.ref q_20_r, .ref q_20_c, .ref q_20_v, .ref q_20_p, .int 0, .int 0])), (q_20_r, .inl (cZ, 64, .inl (fun _ => 0))), (q_20_c, .inl (cZ, 64, .inl (fun _ => 0))), (q_20_v, .inl (cI, 64, .inl (fun _ => 0))), (q_20_p, .inl (cI, 64, .inl (fun _ => 0))), (q_27, .inr (3, [.null, .null, .int 0, .int 0]))] 30 [(0, .ref o)] [.ref q_27, .ref o]
  refine G.dup (pc2 := 31) dX4_init_30 rfl rfl ?_
  refine G.callI (pc2 := 34) (i := 8) (j := 9) (b := q_27) (As := []) (rest := [.ref q_27, .ref o]) (c_X3_init (cI := cI) (cZ := cZ) q_27) gX4_init_X3_init rfl rfl rfl (by decide +kernel) (by decide +kernel) (by decide +kernel) rfl ndX3_init.2 ⟨Nat.le_of_ble_eq_true rfl, Nat.le_of_ble_eq_true rfl⟩ ⟨Nat.le_of_ble_eq_true rfl, Nat.le_of_ble_eq_true rfl⟩ rfl rfl (Nat.le_of_ble_eq_true rfl) rfl dX4_init_31 rfl ?_
  rintro _ _ ⟨rfl, q_31_g, q_31_v, rfl⟩
  show G K cI cZ cX4_init 1 RX4 wsX4_init rX4_init 10 349 [(o, .inr (4, [.ref q_5, .ref q_16, .null, .null, .int 0, .int 0, .int 0, .int 0, .int 0, .int 0])), (q_5, .inr (0, [.ref q_9_a, .int 0, .int 0])), (q_9_a, .inl (cI, 64, .inl (fun _ => 0))), (q_16, .inr (1, [.ref q_20_r, .ref q_20_c, .ref q_20_v, .ref q_20_p, .int 0, .int 0])), (q_20_r, .inl (cZ, 64, .inl (fun _ => 0))), (q_20_c, .inl (cZ, 64, .inl (fun _ => 0))), (q_20_v, .inl (cI, 64, .inl (fun _ => 0))), (q_20_p, .inl (cI, 64, .inl (fun _ => 0))), (q_27, .inr (3, [.ref q_31_g, .ref q_31_v, .int 0, .int 0])), (q_31_g, .inl (cI, 8, .inl (fun _ => 0))), (q_31_v, .inl (cI, 8, .inl (fun _ => 0)))] 34 [(0, .ref o)] [.ref q_27, .ref o]
  refine G.putF (pc2 := 37) (q0 := 0) (ci := 4) (k := 2) (ws2 := [(o, .inr (4, [.ref q_5, .ref q_16, .ref q_27, .null, .int 0, .int 0, .int 0, .int 0, .int 0, .int 0])), (q_5, .inr (0, [.ref q_9_a, .int 0, .int 0])), (q_9_a, .inl (cI, 64, .inl (fun _ => 0))), (q_16, .inr (1, [.ref q_20_r, .ref q_20_c, .ref q_20_v, .ref q_20_p, .int 0, .int 0])), (q_20_r, .inl (cZ, 64, .inl (fun _ => 0))), (q_20_c, .inl (cZ, 64, .inl (fun _ => 0))), (q_20_v, .inl (cI, 64, .inl (fun _ => 0))), (q_20_p, .inl (cI, 64, .inl (fun _ => 0))), (q_27, .inr (3, [.ref q_31_g, .ref q_31_v, .int 0, .int 0])), (q_31_g, .inl (cI, 8, .inl (fun _ => 0))), (q_31_v, .inl (cI, 8, .inl (fun _ => 0)))]) iX4_init_X4 kX4_init_26 tyX4_ok nmX4 rfl rfl (by decide) rfl hN rfl rfl rfl (Nat.le_of_ble_eq_true rfl) rfl dX4_init_34 rfl ?_
  refine G.aload_n (pc2 := 38) (x := o) dX4_init_37 rfl rfl rfl ?_
  refine G.newO (pc2 := 41) (C := RX2) (T := TX2) (N := 3) (ci := 2) (fs := [.null, .null, .int 0]) (ty := tyX2) (by decide +kernel) tyX2_ok (by decide +kernel) (by decide +kernel) (by decide +kernel) rfl (by decide +kernel) (Nat.le_of_ble_eq_true rfl) (Nat.le_of_ble_eq_true rfl) dX4_init_38 rfl (fun q_38 => ?_)
  show G K cI cZ cX4_init 1 RX4 wsX4_init rX4_init 11 352 [(o, .inr (4, [.ref q_5, .ref q_16, .ref q_27, .null, .int 0, .int 0, .int 0, .int 0, .int 0, .int 0])), (q_5, .inr (0, [.ref q_9_a, .int 0, .int 0])), (q_9_a, .inl (cI, 64, .inl (fun _ => 0))), (q_16, .inr (1, [.ref q_20_r, .ref q_20_c, .ref q_20_v, .ref q_20_p, .int 0, .int 0])), (q_20_r, .inl (cZ, 64, .inl (fun _ => 0))), (q_20_c, .inl (cZ, 64, .inl (fun _ => 0))), (q_20_v, .inl (cI, 64, .inl (fun _ => 0))), (q_20_p, .inl (cI, 64, .inl (fun _ => 0))), (q_27, .inr (3, [.ref q_31_g, .ref q_31_v, .int 0, .int 0])), (q_31_g, .inl (cI, 8, .inl (fun _ => 0))), (q_31_v, .inl (cI, 8, .inl (fun _ => 0))), (q_38, .inr (2, [.null, .null, .int 0]))] 41 [(0, .ref o)] [.ref q_38, .ref o]
  refine G.dup (pc2 := 42) dX4_init_41 rfl rfl ?_
  refine G.callI (pc2 := 45) (i := 11) (j := 12) (b := q_38) (As := []) (rest := [.ref q_38, .ref o]) (c_X2_init (cI := cI) (cZ := cZ) q_38) gX4_init_X2_init rfl rfl rfl (by decide +kernel) (by decide +kernel) (by decide +kernel) rfl ndX2_init.2 ⟨Nat.le_of_ble_eq_true rfl, Nat.le_of_ble_eq_true rfl⟩ ⟨Nat.le_of_ble_eq_true rfl, Nat.le_of_ble_eq_true rfl⟩ rfl rfl (Nat.le_of_ble_eq_true rfl) rfl dX4_init_42 rfl ?_
  rintro _ _ ⟨rfl, q_42_t, q_42_b, rfl⟩
  show G K cI cZ cX4_init 1 RX4 wsX4_init rX4_init 13 608 [(o, .inr (4, [.ref q_5, .ref q_16, .ref q_27, .null, .int 0, .int 0, .int 0, .int 0, .int 0, .int 0])), (q_5, .inr (0, [.ref q_9_a, .int 0, .int 0])), (q_9_a, .inl (cI, 64, .inl (fun _ => 0))), (q_16, .inr (1, [.ref q_20_r, .ref q_20_c, .ref q_20_v, .ref q_20_p, .int 0, .int 0])), (q_20_r, .inl (cZ, 64, .inl (fun _ => 0))), (q_20_c, .inl (cZ, 64, .inl (fun _ => 0))), (q_20_v, .inl (cI, 64, .inl (fun _ => 0))), (q_20_p, .inl (cI, 64, .inl (fun _ => 0))), (q_27, .inr (3, [.ref q_31_g, .ref q_31_v, .int 0, .int 0])), (q_31_g, .inl (cI, 8, .inl (fun _ => 0))), (q_31_v, .inl (cI, 8, .inl (fun _ => 0))), (q_38, .inr (2, [.ref q_42_t, .ref q_42_b, .int 0])), (q_42_t, .inl (cI, 192, .inl (fun _ => 0))), (q_42_b, .inl (cI, 64, .inl (fun _ => 0)))] 45 [(0, .ref o)] [.ref q_38, .ref o]
  refine G.putF (pc2 := 48) (q0 := 0) (ci := 4) (k := 3) (ws2 := [(o, .inr (4, [.ref q_5, .ref q_16, .ref q_27, .ref q_38, .int 0, .int 0, .int 0, .int 0, .int 0, .int 0])), (q_5, .inr (0, [.ref q_9_a, .int 0, .int 0])), (q_9_a, .inl (cI, 64, .inl (fun _ => 0))), (q_16, .inr (1, [.ref q_20_r, .ref q_20_c, .ref q_20_v, .ref q_20_p, .int 0, .int 0])), (q_20_r, .inl (cZ, 64, .inl (fun _ => 0))), (q_20_c, .inl (cZ, 64, .inl (fun _ => 0))), (q_20_v, .inl (cI, 64, .inl (fun _ => 0))), (q_20_p, .inl (cI, 64, .inl (fun _ => 0))), (q_27, .inr (3, [.ref q_31_g, .ref q_31_v, .int 0, .int 0])), (q_31_g, .inl (cI, 8, .inl (fun _ => 0))), (q_31_v, .inl (cI, 8, .inl (fun _ => 0))), (q_38, .inr (2, [.ref q_42_t, .ref q_42_b, .int 0])), (q_42_t, .inl (cI, 192, .inl (fun _ => 0))), (q_42_b, .inl (cI, 64, .inl (fun _ => 0)))]) iX4_init_X4 kX4_init_33 tyX4_ok nmX4 rfl rfl (by decide) rfl hN rfl rfl rfl (Nat.le_of_ble_eq_true rfl) rfl dX4_init_45 rfl ?_
  refine G.aload_n (pc2 := 49) (x := o) dX4_init_48 rfl rfl rfl ?_
  refine G.iconst (pc2 := 50) (v := 4) dX4_init_49 (by decide) rfl ?_
  refine G.iconst (pc2 := 51) (v := 2) dX4_init_50 (by decide) rfl ?_
  refine G.iconst (pc2 := 52) (v := 3) dX4_init_51 (by decide) rfl ?_
  refine G.bipush (pc2 := 54) (v := 100) dX4_init_52 (by decide) rfl ?_
  refine G.callVd (pc2 := 57) (i := 0) (j := 14) (q0 := 0) (ci := 4) (As := [.int 4, .int 2, .int 3, .int 100]) (rest := []) (ws2 := wX (adr [o, q_5, q_9_a, q_16, q_20_r, q_20_c, q_20_v, q_20_p, q_27, q_31_g, q_31_v, q_38, q_42_t, q_42_b]) cI cZ (sX4_startAnew zX 4 2 3 100)) (st2 := []) (c_X4_startAnew (cI := cI) (cZ := cZ) (adr [o, q_5, q_9_a, q_16, q_20_r, q_20_c, q_20_v, q_20_p, q_27, q_31_g, q_31_v, q_38, q_42_t, q_42_b]) zX 4 2 3 100) gX4_init_X4_startAnew rfl rfl rfl ndX4_startAnew ⟨Nat.le_of_ble_eq_true rfl, Nat.le_of_ble_eq_true rfl⟩ ⟨Nat.le_of_ble_eq_true rfl, Nat.le_of_ble_eq_true rfl⟩ rfl rfl (Nat.le_of_ble_eq_true rfl) rfl rfl rfl rfl rfl rfl dX4_init_54 rfl ?_
  exact G.vreturn hR dX4_init_57 ⟨rfl, (adr [o, q_5, q_9_a, q_16, q_20_r, q_20_c, q_20_v, q_20_p, q_27, q_31_g, q_31_v, q_38, q_42_t, q_42_b]), rfl, rfl⟩
def rX5_init : Room := { frames := 2, cells := 9, slots := 592, locals := 47 }
theorem ndX5_init : yX5_init.cls = RX5 ∧ yX5_init.cls ≠ "java/lang/invoke/MethodHandle" ∧ yX5_init.cls ≠ "java/lang/invoke/VarHandle" ∧ (parseMethodDescriptor yX5_init.desc).map (fun d => d.parameters.length) = some 0 := by decide +kernel
theorem iX5_init_X5 : ∀ w ∈ u_ws RX5 TX5 21, w ∈ wsX5_init := by decide +kernel
theorem kX5_init_7 : Cond.fieldLink RX5 7 (TX5 11).1 (TX5 11).2.1 (TX5 11).2.2.1 ∈ wsX5_init := by decide +kernel
theorem kX5_init_13 : Cond.fieldLink RX5 13 (TX5 12).1 (TX5 12).2.1 (TX5 12).2.2.1 ∈ wsX5_init := by decide +kernel
theorem kX5_init_16 : Cond.fieldLink RX5 16 (TX5 13).1 (TX5 13).2.1 (TX5 13).2.2.1 ∈ wsX5_init := by decide +kernel
theorem kX5_init_19 : Cond.fieldLink RX5 19 (TX5 14).1 (TX5 14).2.1 (TX5 14).2.2.1 ∈ wsX5_init := by decide +kernel
theorem kX5_init_23 : Cond.fieldLink RX5 23 (TX5 15).1 (TX5 15).2.1 (TX5 15).2.2.1 ∈ wsX5_init := by decide +kernel
theorem kX5_init_26 : Cond.fieldLink RX5 26 (TX5 16).1 (TX5 16).2.1 (TX5 16).2.2.1 ∈ wsX5_init := by decide +kernel
theorem kX5_init_29 : Cond.fieldLink RX5 29 (TX5 17).1 (TX5 17).2.1 (TX5 17).2.2.1 ∈ wsX5_init := by decide +kernel
theorem kX5_init_32 : Cond.fieldLink RX5 32 (TX5 18).1 (TX5 18).2.1 (TX5 18).2.2.1 ∈ wsX5_init := by decide +kernel
theorem kX5_init_35 : Cond.fieldLink RX5 35 (TX5 19).1 (TX5 19).2.1 (TX5 19).2.2.1 ∈ wsX5_init := by decide +kernel
set_option maxRecDepth 100000 in
set_option maxHeartbeats 4000000 in
theorem c_X5_init {cI cZ : ClassId} (o : Nat) : Ct yX5_init wsX5_init rX5_init cI cZ [.ref o] [(o, .inr (5, [.int 0, .int 0, .int 0, .int 0, .int 0, .int 0, .int 0, .int 0, .int 0, .int 0, .int 0, .null, .null, .null, .null, .null, .null, .null, .null, .null, .int 0]))] 9 592 (fun v w => v = none ∧ ∃ a : Nat → Nat, a 0 = o ∧ w = wM a cI cZ (sX5_reset zM 4 2 3 100)) := by
  refine Ct.of (cc := cX5_init) (nL := 2) (own := RX5) (by decide) rfl rfl (Nat.le_of_ble_eq_true rfl) rfl ?_
  intro K hR hN
  refine G.aload_n (pc2 := 1) (x := o) dX5_init_0 rfl rfl rfl ?_
  refine G.objInit (pc2 := 4) (by decide +kernel) (by decide +kernel) (by decide +kernel) (Nat.le_of_ble_eq_true rfl) (Nat.le_of_ble_eq_true rfl) dX5_init_1 rfl ?_
  refine G.aload_n (pc2 := 5) (x := o) dX5_init_4 rfl rfl rfl ?_
  refine G.bipush (pc2 := 7) (v := 64) dX5_init_5 (by decide) rfl ?_
  refine G.newI (pc2 := 9) (N := 64) (by decide +kernel) (by decide) (by decide) (Nat.le_of_ble_eq_true rfl) (Nat.le_of_ble_eq_true rfl) (Nat.le_of_ble_eq_true rfl) dX5_init_7 rfl (fun q_7 => ?_)
  show G K cI cZ cX5_init 2 RX5 wsX5_init rX5_init 1 64 [(o, .inr (5, [.int 0, .int 0, .int 0, .int 0, .int 0, .int 0, .int 0, .int 0, .int 0, .int 0, .int 0, .null, .null, .null, .null, .null, .null, .null, .null, .null, .int 0])), (q_7, .inl (cI, 64, .inl (fun _ => 0)))] 9 [(0, .ref o)] [.ref q_7, .ref o]
  refine G.putF (pc2 := 12) (q0 := 0) (ci := 5) (k := 11) (ws2 := [(o, .inr (5, [.int 0, .int 0, .int 0, .int 0, .int 0, .int 0, .int 0, .int 0, .int 0, .int 0, .int 0, .ref q_7, .null, .null, .null, .null, .null, .null, .null, .null, .int 0])), (q_7, .inl (cI, 64, .inl (fun _ => 0)))]) iX5_init_X5 kX5_init_7 tyX5_ok nmX5 rfl rfl (by decide) rfl hN rfl rfl rfl (Nat.le_of_ble_eq_true rfl) rfl dX5_init_9 rfl ?_
  refine G.aload_n (pc2 := 13) (x := o) dX5_init_12 rfl rfl rfl ?_
  refine G.bipush (pc2 := 15) (v := 64) dX5_init_13 (by decide) rfl ?_
  refine G.newI (pc2 := 17) (N := 64) (by decide +kernel) (by decide) (by decide) (Nat.le_of_ble_eq_true rfl) (Nat.le_of_ble_eq_true rfl) (Nat.le_of_ble_eq_true rfl) dX5_init_15 rfl (fun q_15 => ?_)
  show G K cI cZ cX5_init 2 RX5 wsX5_init rX5_init 2 128 [(o, .inr (5, [.int 0, .int 0, .int 0, .int 0, .int 0, .int 0, .int 0, .int 0, .int 0, .int 0, .int 0, .ref q_7, .null, .null, .null, .null, .null, .null, .null, .null, .int 0])), (q_7, .inl (cI, 64, .inl (fun _ => 0))), (q_15, .inl (cI, 64, .inl (fun _ => 0)))] 17 [(0, .ref o)] [.ref q_15, .ref o]
  refine G.putF (pc2 := 20) (q0 := 0) (ci := 5) (k := 12) (ws2 := [(o, .inr (5, [.int 0, .int 0, .int 0, .int 0, .int 0, .int 0, .int 0, .int 0, .int 0, .int 0, .int 0, .ref q_7, .ref q_15, .null, .null, .null, .null, .null, .null, .null, .int 0])), (q_7, .inl (cI, 64, .inl (fun _ => 0))), (q_15, .inl (cI, 64, .inl (fun _ => 0)))]) iX5_init_X5 kX5_init_13 tyX5_ok nmX5 rfl rfl (by decide) rfl hN rfl rfl rfl (Nat.le_of_ble_eq_true rfl) rfl dX5_init_17 rfl ?_
  refine G.aload_n (pc2 := 21) (x := o) dX5_init_20 rfl rfl rfl ?_
  refine G.bipush (pc2 := 23) (v := 64) dX5_init_21 (by decide) rfl ?_
  refine G.newI (pc2 := 25) (N := 64) (by decide +kernel) (by decide) (by decide) (Nat.le_of_ble_eq_true rfl) (Nat.le_of_ble_eq_true rfl) (Nat.le_of_ble_eq_true rfl) dX5_init_23 rfl (fun q_23 => ?_)
  show G K cI cZ cX5_init 2 RX5 wsX5_init rX5_init 3 192 [(o, .inr (5, [.int 0, .int 0, .int 0, .int 0, .int 0, .int 0, .int 0, .int 0, .int 0, .int 0, .int 0, .ref q_7, .ref q_15, .null, .null, .null, .null, .null, .null, .null, .int 0])), (q_7, .inl (cI, 64, .inl (fun _ => 0))), (q_15, .inl (cI, 64, .inl (fun _ => 0))), (q_23, .inl (cI, 64, .inl (fun _ => 0)))] 25 [(0, .ref o)] [.ref q_23, .ref o]
  refine G.putF (pc2 := 28) (q0 := 0) (ci := 5) (k := 13) (ws2 := [(o, .inr (5, [.int 0, .int 0, .int 0, .int 0, .int 0, .int 0, .int 0, .int 0, .int 0, .int 0, .int 0, .ref q_7, .ref q_15, .ref q_23, .null, .null, .null, .null, .null, .null, .int 0])), (q_7, .inl (cI, 64, .inl (fun _ => 0))), (q_15, .inl (cI, 64, .inl (fun _ => 0))), (q_23, .inl (cI, 64, .inl (fun _ => 0)))]) iX5_init_X5 kX5_init_16 tyX5_ok nmX5 rfl rfl (by decide) rfl hN rfl rfl rfl (Nat.le_of_ble_eq_true rfl) rfl dX5_init_25 rfl ?_
  refine G.aload_n (pc2 := 29) (x := o) dX5_init_28 rfl rfl rfl ?_
  refine G.bipush (pc2 := 31) (v := 64) dX5_init_29 (by decide) rfl ?_
  refine G.newZ (pc2 := 33) (N := 64) (by decide +kernel) (by decide) (by decide) (Nat.le_of_ble_eq_true rfl) (Nat.le_of_ble_eq_true rfl) (Nat.le_of_ble_eq_true rfl) dX5_init_31 rfl (fun q_31 => ?_)
  show G K cI cZ cX5_init 2 RX5 wsX5_init rX5_init 4 256 [(o, .inr (5, [.int 0, .int 0, .int 0, .int 0, .int 0, .int 0, .int 0, .int 0, .int 0, .int 0, .int 0, .ref q_7, .ref q_15, .ref q_23, .null, .null, .null, .null, .null, .null, .int 0])), (q_7, .inl (cI, 64, .inl (fun _ => 0))), (q_15, .inl (cI, 64, .inl (fun _ => 0))), (q_23, .inl (cI, 64, .inl (fun _ => 0))), (q_31, .inl (cZ, 64, .inl (fun _ => 0)))] 33 [(0, .ref o)] [.ref q_31, .ref o]
  refine G.putF (pc2 := 36) (q0 := 0) (ci := 5) (k := 14) (ws2 := [(o, .inr (5, [.int 0, .int 0, .int 0, .int 0, .int 0, .int 0, .int 0, .int 0, .int 0, .int 0, .int 0, .ref q_7, .ref q_15, .ref q_23, .ref q_31, .null, .null, .null, .null, .null, .int 0])), (q_7, .inl (cI, 64, .inl (fun _ => 0))), (q_15, .inl (cI, 64, .inl (fun _ => 0))), (q_23, .inl (cI, 64, .inl (fun _ => 0))), (q_31, .inl (cZ, 64, .inl (fun _ => 0)))]) iX5_init_X5 kX5_init_19 tyX5_ok nmX5 rfl rfl (by decide) rfl hN rfl rfl rfl (Nat.le_of_ble_eq_true rfl) rfl dX5_init_33 rfl ?_
  refine G.aload_n (pc2 := 37) (x := o) dX5_init_36 rfl rfl rfl ?_
  refine G.bipush (pc2 := 39) (v := 64) dX5_init_37 (by decide) rfl ?_
  refine G.newZ (pc2 := 41) (N := 64) (by decide +kernel) (by decide) (by decide) (Nat.le_of_ble_eq_true rfl) (Nat.le_of_ble_eq_true rfl) (Nat.le_of_ble_eq_true rfl) dX5_init_39 rfl (fun q_39 => ?_)
  show G K cI cZ cX5_init 2 RX5 wsX5_init rX5_init 5 320 [(o, .inr (5, [.int 0, .int 0, .int 0, .int 0, .int 0, .int 0, .int 0, .int 0, .int 0, .int 0, .int 0, .ref q_7, .ref q_15, .ref q_23, .ref q_31, .null, .null, .null, .null, .null, .int 0])), (q_7, .inl (cI, 64, .inl (fun _ => 0))), (q_15, .inl (cI, 64, .inl (fun _ => 0))), (q_23, .inl (cI, 64, .inl (fun _ => 0))), (q_31, .inl (cZ, 64, .inl (fun _ => 0))), (q_39, .inl (cZ, 64, .inl (fun _ => 0)))] 41 [(0, .ref o)] [.ref q_39, .ref o]
  refine G.putF (pc2 := 44) (q0 := 0) (ci := 5) (k := 15) (ws2 := [(o, .inr (5, [.int 0, .int 0, .int 0, .int 0, .int 0, .int 0, .int 0, .int 0, .int 0, .int 0, .int 0, .ref q_7, .ref q_15, .ref q_23, .ref q_31, .ref q_39, .null, .null, .null, .null, .int 0])), (q_7, .inl (cI, 64, .inl (fun _ => 0))), (q_15, .inl (cI, 64, .inl (fun _ => 0))), (q_23, .inl (cI, 64, .inl (fun _ => 0))), (q_31, .inl (cZ, 64, .inl (fun _ => 0))), (q_39, .inl (cZ, 64, .inl (fun _ => 0)))]) iX5_init_X5 kX5_init_23 tyX5_ok nmX5 rfl rfl (by decide) rfl hN rfl rfl rfl (Nat.le_of_ble_eq_true rfl) rfl dX5_init_41 rfl ?_
  refine G.aload_n (pc2 := 45) (x := o) dX5_init_44 rfl rfl rfl ?_
  refine G.sipush (pc2 := 48) (v := 192) dX5_init_45 (by decide) rfl ?_
  refine G.newI (pc2 := 50) (N := 192) (by decide +kernel) (by decide) (by decide) (Nat.le_of_ble_eq_true rfl) (Nat.le_of_ble_eq_true rfl) (Nat.le_of_ble_eq_true rfl) dX5_init_48 rfl (fun q_48 => ?_)
  show G K cI cZ cX5_init 2 RX5 wsX5_init rX5_init 6 512 [(o, .inr (5, [.int 0, .int 0, .int 0, .int 0, .int 0, .int 0, .int 0, .int 0, .int 0, .int 0, .int 0, .ref q_7, .ref q_15, .ref q_23, .ref q_31, .ref q_39, .null, .null, .null, .null, .int 0])), (q_7, .inl (cI, 64, .inl (fun _ => 0))), (q_15, .inl (cI, 64, .inl (fun _ => 0))), (q_23, .inl (cI, 64, .inl (fun _ => 0))), (q_31, .inl (cZ, 64, .inl (fun _ => 0))), (q_39, .inl (cZ, 64, .inl (fun _ => 0))), (q_48, .inl (cI, 192, .inl (fun _ => 0)))] 50 [(0, .ref o)] [.ref q_48, .ref o]
  refine G.putF (pc2 := 53) (q0 := 0) (ci := 5) (k := 16) (ws2 := [(o, .inr (5, [.int 0, .int 0, .int 0, .int 0, .int 0, .int 0, .int 0, .int 0, .int 0, .int 0, .int 0, .ref q_7, .ref q_15, .ref q_23, .ref q_31, .ref q_39, .ref q_48, .null, .null, .null, .int 0])), (q_7, .inl (cI, 64, .inl (fun _ => 0))), (q_15, .inl (cI, 64, .inl (fun _ => 0))), (q_23, .inl (cI, 64, .inl (fun _ => 0))), (q_31, .inl (cZ, 64, .inl (fun _ => 0))), (q_39, .inl (cZ, 64, .inl (fun _ => 0))), (q_48, .inl (cI, 192, .inl (fun _ => 0)))]) iX5_init_X5 kX5_init_26 tyX5_ok nmX5 rfl rfl (by decide) rfl hN rfl rfl rfl (Nat.le_of_ble_eq_true rfl) rfl dX5_init_50 rfl ?_
  refine G.aload_n (pc2 := 54) (x := o) dX5_init_53 rfl rfl rfl ?_
  refine G.bipush (pc2 := 56) (v := 64) dX5_init_54 (by decide) rfl ?_
  refine G.newI (pc2 := 58) (N := 64) (by decide +kernel) (by decide) (by decide) (Nat.le_of_ble_eq_true rfl) (Nat.le_of_ble_eq_true rfl) (Nat.le_of_ble_eq_true rfl) dX5_init_56 rfl (fun q_56 => ?_)
  show G K cI cZ cX5_init 2 RX5 wsX5_init rX5_init 7 576 [(o, .inr (5, [.int 0, .int 0, .int 0, .int 0, .int 0, .int 0, .int 0, .int 0, .int 0, .int 0, .int 0, .ref q_7, .ref q_15, .ref q_23, .ref q_31, .ref q_39, .ref q_48, .null, .null, .null, .int 0])), (q_7, .inl (cI, 64, .inl (fun _ => 0))), (q_15, .inl (cI, 64, .inl (fun _ => 0))), (q_23, .inl (cI, 64, .inl (fun _ => 0))), (q_31, .inl (cZ, 64, .inl (fun _ => 0))), (q_39, .inl (cZ, 64, .inl (fun _ => 0))), (q_48, .inl (cI, 192, .inl (fun _ => 0))), (q_56, .inl (cI, 64, .inl (fun _ => 0)))] 58 [(0, .ref o)] [.ref q_56, .ref o]
  refine G.putF (pc2 := 61) (q0 := 0) (ci := 5) (k := 17) (ws2 := [(o, .inr (5, [.int 0, .int 0, .int 0, .int 0, .int 0, .int 0, .int 0, .int 0, .int 0, .int 0, .int 0, .ref q_7, .ref q_15, .ref q_23, .ref q_31, .ref q_39, .ref q_48, .ref q_56, .null, .null, .int 0])), (q_7, .inl (cI, 64, .inl (fun _ => 0))), (q_15, .inl (cI, 64, .inl (fun _ => 0))), (q_23, .inl (cI, 64, .inl (fun _ => 0))), (q_31, .inl (cZ, 64, .inl (fun _ => 0))), (q_39, .inl (cZ, 64, .inl (fun _ => 0))), (q_48, .inl (cI, 192, .inl (fun _ => 0))), (q_56, .inl (cI, 64, .inl (fun _ => 0)))]) iX5_init_X5 kX5_init_29 tyX5_ok nmX5 rfl rfl (by decide) rfl hN rfl rfl rfl (Nat.le_of_ble_eq_true rfl) rfl dX5_init_58 rfl ?_
  refine G.aload_n (pc2 := 62) (x := o) dX5_init_61 rfl rfl rfl ?_
  refine G.bipush (pc2 := 64) (v := 8) dX5_init_62 (by decide) rfl ?_
  refine G.newI (pc2 := 66) (N := 8) (by decide +kernel) (by decide) (by decide) (Nat.le_of_ble_eq_true rfl) (Nat.le_of_ble_eq_true rfl) (Nat.le_of_ble_eq_true rfl) dX5_init_64 rfl (fun q_64 => ?_)
  show G K cI cZ cX5_init 2 RX5 wsX5_init rX5_init 8 584 [(o, .inr (5, [.int 0, .int 0, .int 0, .int 0, .int 0, .int 0, .int 0, .int 0, .int 0, .int 0, .int 0, .ref q_7, .ref q_15, .ref q_23, .ref q_31, .ref q_39, .ref q_48, .ref q_56, .null, .null, .int 0])), (q_7, .inl (cI, 64, .inl (fun _ => 0))), (q_15, .inl (cI, 64, .inl (fun _ => 0))), (q_23, .inl (cI, 64, .inl (fun _ => 0))), (q_31, .inl (cZ, 64, .inl (fun _ => 0))), (q_39, .inl (cZ, 64, .inl (fun _ => 0))), (q_48, .inl (cI, 192, .inl (fun _ => 0))), (q_56, .inl (cI, 64, .inl (fun _ => 0))), (q_64, .inl (cI, 8, .inl (fun _ => 0)))] 66 [(0, .ref o)] [.ref q_64, .ref o]
  refine G.putF (pc2 := 69) (q0 := 0) (ci := 5) (k := 18) (ws2 := [(o, .inr (5, [.int 0, .int 0, .int 0, .int 0, .int 0, .int 0, .int 0, .int 0, .int 0, .int 0, .int 0, .ref q_7, .ref q_15, .ref q_23, .ref q_31, .ref q_39, .ref q_48, .ref q_56, .ref q_64, .null, .int 0])), (q_7, .inl (cI, 64, .inl (fun _ => 0))), (q_15, .inl (cI, 64, .inl (fun _ => 0))), (q_23, .inl (cI, 64, .inl (fun _ => 0))), (q_31, .inl (cZ, 64, .inl (fun _ => 0))), (q_39, .inl (cZ, 64, .inl (fun _ => 0))), (q_48, .inl (cI, 192, .inl (fun _ => 0))), (q_56, .inl (cI, 64, .inl (fun _ => 0))), (q_64, .inl (cI, 8, .inl (fun _ => 0)))]) iX5_init_X5 kX5_init_32 tyX5_ok nmX5 rfl rfl (by decide) rfl hN rfl rfl rfl (Nat.le_of_ble_eq_true rfl) rfl dX5_init_66 rfl ?_
  refine G.aload_n (pc2 := 70) (x := o) dX5_init_69 rfl rfl rfl ?_
  refine G.bipush (pc2 := 72) (v := 8) dX5_init_70 (by decide) rfl ?_
  refine G.newI (pc2 := 74) (N := 8) (by decide +kernel) (by decide) (by decide) (Nat.le_of_ble_eq_true rfl) (Nat.le_of_ble_eq_true rfl) (Nat.le_of_ble_eq_true rfl) dX5_init_72 rfl (fun q_72 => ?_)
  show G K cI cZ cX5_init 2 RX5 wsX5_init rX5_init 9 592 [(o, .inr (5, [.int 0, .int 0, .int 0, .int 0, .int 0, .int 0, .int 0, .int 0, .int 0, .int 0, .int 0, .ref q_7, .ref q_15, .ref q_23, .ref q_31, .ref q_39, .ref q_48, .ref q_56, .ref q_64, .null, .int 0])), (q_7, .inl (cI, 64, .inl (fun _ => 0))), (q_15, .inl (cI, 64, .inl (fun _ => 0))), (q_23, .inl (cI, 64, .inl (fun _ => 0))), (q_31, .inl (cZ, 64, .inl (fun _ => 0))), (q_39, .inl (cZ, 64, .inl (fun _ => 0))), (q_48, .inl (cI, 192, .inl (fun _ => 0))), (q_56, .inl (cI, 64, .inl (fun _ => 0))), (q_64, .inl (cI, 8, .inl (fun _ => 0))), (q_72, .inl (cI, 8, .inl (fun _ => 0)))] 74 [(0, .ref o)] [.ref q_72, .ref o]
  refine G.putF (pc2 := 77) (q0 := 0) (ci := 5) (k := 19) (ws2 := [(o, .inr (5, [.int 0, .int 0, .int 0, .int 0, .int 0, .int 0, .int 0, .int 0, .int 0, .int 0, .int 0, .ref q_7, .ref q_15, .ref q_23, .ref q_31, .ref q_39, .ref q_48, .ref q_56, .ref q_64, .ref q_72, .int 0])), (q_7, .inl (cI, 64, .inl (fun _ => 0))), (q_15, .inl (cI, 64, .inl (fun _ => 0))), (q_23, .inl (cI, 64, .inl (fun _ => 0))), (q_31, .inl (cZ, 64, .inl (fun _ => 0))), (q_39, .inl (cZ, 64, .inl (fun _ => 0))), (q_48, .inl (cI, 192, .inl (fun _ => 0))), (q_56, .inl (cI, 64, .inl (fun _ => 0))), (q_64, .inl (cI, 8, .inl (fun _ => 0))), (q_72, .inl (cI, 8, .inl (fun _ => 0)))]) iX5_init_X5 kX5_init_35 tyX5_ok nmX5 rfl rfl (by decide) rfl hN rfl rfl rfl (Nat.le_of_ble_eq_true rfl) rfl dX5_init_74 rfl ?_
  refine G.aload_n (pc2 := 78) (x := o) dX5_init_77 rfl rfl rfl ?_
  refine G.iconst (pc2 := 79) (v := 4) dX5_init_78 (by decide) rfl ?_
  refine G.iconst (pc2 := 80) (v := 2) dX5_init_79 (by decide) rfl ?_
  refine G.iconst (pc2 := 81) (v := 3) dX5_init_80 (by decide) rfl ?_
  refine G.bipush (pc2 := 83) (v := 100) dX5_init_81 (by decide) rfl ?_
  refine G.callVd (pc2 := 86) (i := 0) (j := 10) (q0 := 0) (ci := 5) (As := [.int 4, .int 2, .int 3, .int 100]) (rest := []) (ws2 := wM (adr [o, q_7, q_15, q_23, q_31, q_39, q_48, q_56, q_64, q_72]) cI cZ (sX5_reset zM 4 2 3 100)) (st2 := [.int (vX5_reset zM 4 2 3 100)]) (c_X5_reset (cI := cI) (cZ := cZ) (adr [o, q_7, q_15, q_23, q_31, q_39, q_48, q_56, q_64, q_72]) zM 4 2 3 100) gX5_init_X5_reset rfl rfl rfl ndX5_reset ⟨Nat.le_of_ble_eq_true rfl, Nat.le_of_ble_eq_true rfl⟩ ⟨Nat.le_of_ble_eq_true rfl, Nat.le_of_ble_eq_true rfl⟩ rfl rfl (Nat.le_of_ble_eq_true rfl) rfl rfl rfl rfl rfl rfl dX5_init_83 rfl ?_
  refine G.istore_n (pc2 := 87) (lv2 := [(0, .ref o), (1, .int (vX5_reset zM 4 2 3 100))]) [1, 0] dX5_init_86 rfl (by decide) rfl rfl ?_
  exact G.vreturn hR dX5_init_87 ⟨rfl, (adr [o, q_7, q_15, q_23, q_31, q_39, q_48, q_56, q_64, q_72]), rfl, rfl⟩
