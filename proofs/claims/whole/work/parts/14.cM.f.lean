set_option maxRecDepth 100000 in
set_option maxHeartbeats 4000000 in
theorem c_X5_evictions {cI cZ : ClassId} (a : Nat → Nat) (u : SM)  : Ct yX5_evictions wsX5_evictions rX5_evictions cI cZ [.ref (a 0)] (wM a cI cZ u) 0 0 (rt (some (vX5_evictions u)) (wM a cI cZ u)) := by
  refine Ct.of (cc := cX5_evictions) (nL := 1) (own := RX5) (by decide) rfl rfl (Nat.le_of_ble_eq_true rfl) rfl ?_
  intro K hR hN
  refine G.aload_n (pc2 := 1) (x := a 0) dX5_evictions_0 rfl rfl rfl ?_
  refine G.getf (pc2 := 4) (q0 := 0) (ci := 5) (k := 7) (v := .int u.2.2.2.2.2.2.2.2.1) iX5_evictions_X5 kX5_evictions_68 rfl rfl (by decide) rfl dX5_evictions_1 rfl ?_
  exact G.ireturn hR (rfl) dX5_evictions_4 ⟨congrArg some (rfl), rfl⟩
set_option maxRecDepth 100000 in
set_option maxHeartbeats 4000000 in
theorem c_X5_diskReads {cI cZ : ClassId} (a : Nat → Nat) (u : SM)  : Ct yX5_diskReads wsX5_diskReads rX5_diskReads cI cZ [.ref (a 0)] (wM a cI cZ u) 0 0 (rt (some (vX5_diskReads u)) (wM a cI cZ u)) := by
  refine Ct.of (cc := cX5_diskReads) (nL := 1) (own := RX5) (by decide) rfl rfl (Nat.le_of_ble_eq_true rfl) rfl ?_
  intro K hR hN
  refine G.aload_n (pc2 := 1) (x := a 0) dX5_diskReads_0 rfl rfl rfl ?_
  refine G.getf (pc2 := 4) (q0 := 0) (ci := 5) (k := 8) (v := .int u.1.2.1) iX5_diskReads_X5 kX5_diskReads_71 rfl rfl (by decide) rfl dX5_diskReads_1 rfl ?_
  exact G.ireturn hR (rfl) dX5_diskReads_4 ⟨congrArg some (rfl), rfl⟩
set_option maxRecDepth 100000 in
set_option maxHeartbeats 4000000 in
theorem c_X5_diskWrites {cI cZ : ClassId} (a : Nat → Nat) (u : SM)  : Ct yX5_diskWrites wsX5_diskWrites rX5_diskWrites cI cZ [.ref (a 0)] (wM a cI cZ u) 0 0 (rt (some (vX5_diskWrites u)) (wM a cI cZ u)) := by
  refine Ct.of (cc := cX5_diskWrites) (nL := 1) (own := RX5) (by decide) rfl rfl (Nat.le_of_ble_eq_true rfl) rfl ?_
  intro K hR hN
  refine G.aload_n (pc2 := 1) (x := a 0) dX5_diskWrites_0 rfl rfl rfl ?_
  refine G.getf (pc2 := 4) (q0 := 0) (ci := 5) (k := 9) (v := .int u.1.2.2) iX5_diskWrites_X5 kX5_diskWrites_74 rfl rfl (by decide) rfl dX5_diskWrites_1 rfl ?_
  exact G.ireturn hR (rfl) dX5_diskWrites_4 ⟨congrArg some (rfl), rfl⟩
set_option maxRecDepth 100000 in
set_option maxHeartbeats 4000000 in
theorem c_X5_stalls {cI cZ : ClassId} (a : Nat → Nat) (u : SM)  : Ct yX5_stalls wsX5_stalls rX5_stalls cI cZ [.ref (a 0)] (wM a cI cZ u) 0 0 (rt (some (vX5_stalls u)) (wM a cI cZ u)) := by
  refine Ct.of (cc := cX5_stalls) (nL := 1) (own := RX5) (by decide) rfl rfl (Nat.le_of_ble_eq_true rfl) rfl ?_
  intro K hR hN
  refine G.aload_n (pc2 := 1) (x := a 0) dX5_stalls_0 rfl rfl rfl ?_
  refine G.getf (pc2 := 4) (q0 := 0) (ci := 5) (k := 10) (v := .int u.2.2.2.2.2.2.2.2.2) iX5_stalls_X5 kX5_stalls_77 rfl rfl (by decide) rfl dX5_stalls_1 rfl ?_
  exact G.ireturn hR (rfl) dX5_stalls_4 ⟨congrArg some (rfl), rfl⟩
