set_option maxRecDepth 100000 in
set_option maxHeartbeats 4000000 in
theorem c_X4_stalls {cI cZ : ClassId} (a : Nat → Nat) (u : SX)  : Ct yX4_stalls wsX4_stalls rX4_stalls cI cZ [.ref (a 0)] (wX a cI cZ u) 0 0 (rt (some (vX4_stalls u)) (wX a cI cZ u)) := by
  refine Ct.of (cc := cX4_stalls) (nL := 1) (own := RX4) (by decide) rfl rfl (Nat.le_of_ble_eq_true rfl) rfl ?_
  intro K hR hN
  refine G.aload_n (pc2 := 1) (x := a 0) dX4_stalls_0 rfl rfl rfl ?_
  refine G.getf (pc2 := 4) (q0 := 0) (ci := 4) (k := 9) (v := .int u.2.2.2.2.2.2.2.2.2) iX4_stalls_X4 kX4_stalls_144 rfl rfl (by decide) rfl dX4_stalls_1 rfl ?_
  exact G.ireturn hR (rfl) dX4_stalls_4 ⟨congrArg some (rfl), rfl⟩
