set_option maxRecDepth 100000 in
set_option maxHeartbeats 4000000 in
theorem c_X4_queuedPage {cI cZ : ClassId} (a : Nat → Nat) (u : SX) (p0 : Int32) (hq : QW u.2.2.1) : Ct yX4_queuedPage wsX4_queuedPage rX4_queuedPage cI cZ [.ref (a 0), .int p0] (wX a cI cZ u) 0 0 (rt (some (vX4_queuedPage u p0)) (wX a cI cZ u)) := by
  refine Ct.of (cc := cX4_queuedPage) (nL := 2) (own := RX4) (by decide) rfl rfl (Nat.le_of_ble_eq_true rfl) rfl ?_
  intro K hR hN
  refine G.aload_n (pc2 := 1) (x := a 0) dX4_queuedPage_0 rfl rfl rfl ?_
  refine G.getf (pc2 := 4) (q0 := 0) (ci := 4) (k := 2) (v := .ref (a 8)) iX4_queuedPage_X4 kX4_queuedPage_26 rfl rfl (by decide) rfl dX4_queuedPage_1 rfl ?_
  refine G.iload_n (pc2 := 5) (x := p0) dX4_queuedPage_4 rfl rfl rfl ?_
  refine G.callVd (pc2 := 8) (i := 8) (j := 11) (q0 := 8) (ci := 3) (As := [.int p0]) (rest := []) (ws2 := wX a cI cZ u) (st2 := [.int (vX3_pageAt u.2.2.1 p0)]) (c_X3_pageAt (cI := cI) (cZ := cZ) (a 8) (a 9) (a 10) u.2.2.1 p0 (hq)) gX4_queuedPage_X3_pageAt rfl rfl rfl ndX3_pageAt ⟨Nat.le_of_ble_eq_true rfl, Nat.le_of_ble_eq_true rfl⟩ ⟨Nat.le_of_ble_eq_true rfl, Nat.le_of_ble_eq_true rfl⟩ rfl rfl (Nat.le_of_ble_eq_true rfl) rfl rfl rfl rfl rfl rfl dX4_queuedPage_5 rfl ?_
  generalize ev_5 : vX3_pageAt u.2.2.1 p0 = v_5
  subst ev_5
  exact G.ireturn hR (rfl) dX4_queuedPage_8 ⟨congrArg some (rfl), rfl⟩
set_option maxRecDepth 100000 in
set_option maxHeartbeats 4000000 in
theorem c_X4_queuedValue {cI cZ : ClassId} (a : Nat → Nat) (u : SX) (p0 : Int32) (hq : QW u.2.2.1) : Ct yX4_queuedValue wsX4_queuedValue rX4_queuedValue cI cZ [.ref (a 0), .int p0] (wX a cI cZ u) 0 0 (rt (some (vX4_queuedValue u p0)) (wX a cI cZ u)) := by
  refine Ct.of (cc := cX4_queuedValue) (nL := 2) (own := RX4) (by decide) rfl rfl (Nat.le_of_ble_eq_true rfl) rfl ?_
  intro K hR hN
  refine G.aload_n (pc2 := 1) (x := a 0) dX4_queuedValue_0 rfl rfl rfl ?_
  refine G.getf (pc2 := 4) (q0 := 0) (ci := 4) (k := 2) (v := .ref (a 8)) iX4_queuedValue_X4 kX4_queuedValue_26 rfl rfl (by decide) rfl dX4_queuedValue_1 rfl ?_
  refine G.iload_n (pc2 := 5) (x := p0) dX4_queuedValue_4 rfl rfl rfl ?_
  refine G.callVd (pc2 := 8) (i := 8) (j := 11) (q0 := 8) (ci := 3) (As := [.int p0]) (rest := []) (ws2 := wX a cI cZ u) (st2 := [.int (vX3_valueAt u.2.2.1 p0)]) (c_X3_valueAt (cI := cI) (cZ := cZ) (a 8) (a 9) (a 10) u.2.2.1 p0 (hq)) gX4_queuedValue_X3_valueAt rfl rfl rfl ndX3_valueAt ⟨Nat.le_of_ble_eq_true rfl, Nat.le_of_ble_eq_true rfl⟩ ⟨Nat.le_of_ble_eq_true rfl, Nat.le_of_ble_eq_true rfl⟩ rfl rfl (Nat.le_of_ble_eq_true rfl) rfl rfl rfl rfl rfl rfl dX4_queuedValue_5 rfl ?_
  generalize ev_5 : vX3_valueAt u.2.2.1 p0 = v_5
  subst ev_5
  exact G.ireturn hR (rfl) dX4_queuedValue_8 ⟨congrArg some (rfl), rfl⟩
set_option maxRecDepth 100000 in
set_option maxHeartbeats 4000000 in
theorem c_X4_clock {cI cZ : ClassId} (a : Nat → Nat) (u : SX)  : Ct yX4_clock wsX4_clock rX4_clock cI cZ [.ref (a 0)] (wX a cI cZ u) 0 0 (rt (some (vX4_clock u)) (wX a cI cZ u)) := by
  refine Ct.of (cc := cX4_clock) (nL := 1) (own := RX4) (by decide) rfl rfl (Nat.le_of_ble_eq_true rfl) rfl ?_
  intro K hR hN
  refine G.aload_n (pc2 := 1) (x := a 0) dX4_clock_0 rfl rfl rfl ?_
  refine G.getf (pc2 := 4) (q0 := 0) (ci := 4) (k := 5) (v := .int u.2.2.2.2.2.1) iX4_clock_X4 kX4_clock_111 rfl rfl (by decide) rfl dX4_clock_1 rfl ?_
  exact G.ireturn hR (rfl) dX4_clock_4 ⟨congrArg some (rfl), rfl⟩
set_option maxRecDepth 100000 in
set_option maxHeartbeats 4000000 in
theorem c_X4_hits {cI cZ : ClassId} (a : Nat → Nat) (u : SX)  : Ct yX4_hits wsX4_hits rX4_hits cI cZ [.ref (a 0)] (wX a cI cZ u) 0 0 (rt (some (vX4_hits u)) (wX a cI cZ u)) := by
  refine Ct.of (cc := cX4_hits) (nL := 1) (own := RX4) (by decide) rfl rfl (Nat.le_of_ble_eq_true rfl) rfl ?_
  intro K hR hN
  refine G.aload_n (pc2 := 1) (x := a 0) dX4_hits_0 rfl rfl rfl ?_
  refine G.getf (pc2 := 4) (q0 := 0) (ci := 4) (k := 6) (v := .int u.2.2.2.2.2.2.1) iX4_hits_X4 kX4_hits_129 rfl rfl (by decide) rfl dX4_hits_1 rfl ?_
  exact G.ireturn hR (rfl) dX4_hits_4 ⟨congrArg some (rfl), rfl⟩
set_option maxRecDepth 100000 in
set_option maxHeartbeats 4000000 in
theorem c_X4_misses {cI cZ : ClassId} (a : Nat → Nat) (u : SX)  : Ct yX4_misses wsX4_misses rX4_misses cI cZ [.ref (a 0)] (wX a cI cZ u) 0 0 (rt (some (vX4_misses u)) (wX a cI cZ u)) := by
  refine Ct.of (cc := cX4_misses) (nL := 1) (own := RX4) (by decide) rfl rfl (Nat.le_of_ble_eq_true rfl) rfl ?_
  intro K hR hN
  refine G.aload_n (pc2 := 1) (x := a 0) dX4_misses_0 rfl rfl rfl ?_
  refine G.getf (pc2 := 4) (q0 := 0) (ci := 4) (k := 7) (v := .int u.2.2.2.2.2.2.2.1) iX4_misses_X4 kX4_misses_132 rfl rfl (by decide) rfl dX4_misses_1 rfl ?_
  exact G.ireturn hR (rfl) dX4_misses_4 ⟨congrArg some (rfl), rfl⟩
set_option maxRecDepth 100000 in
set_option maxHeartbeats 4000000 in
theorem c_X4_evictions {cI cZ : ClassId} (a : Nat → Nat) (u : SX)  : Ct yX4_evictions wsX4_evictions rX4_evictions cI cZ [.ref (a 0)] (wX a cI cZ u) 0 0 (rt (some (vX4_evictions u)) (wX a cI cZ u)) := by
  refine Ct.of (cc := cX4_evictions) (nL := 1) (own := RX4) (by decide) rfl rfl (Nat.le_of_ble_eq_true rfl) rfl ?_
  intro K hR hN
  refine G.aload_n (pc2 := 1) (x := a 0) dX4_evictions_0 rfl rfl rfl ?_
  refine G.getf (pc2 := 4) (q0 := 0) (ci := 4) (k := 8) (v := .int u.2.2.2.2.2.2.2.2.1) iX4_evictions_X4 kX4_evictions_135 rfl rfl (by decide) rfl dX4_evictions_1 rfl ?_
  exact G.ireturn hR (rfl) dX4_evictions_4 ⟨congrArg some (rfl), rfl⟩
set_option maxRecDepth 100000 in
set_option maxHeartbeats 4000000 in
theorem c_X4_diskReads {cI cZ : ClassId} (a : Nat → Nat) (u : SX)  : Ct yX4_diskReads wsX4_diskReads rX4_diskReads cI cZ [.ref (a 0)] (wX a cI cZ u) 0 0 (rt (some (vX4_diskReads u)) (wX a cI cZ u)) := by
  refine Ct.of (cc := cX4_diskReads) (nL := 1) (own := RX4) (by decide) rfl rfl (Nat.le_of_ble_eq_true rfl) rfl ?_
  intro K hR hN
  refine G.aload_n (pc2 := 1) (x := a 0) dX4_diskReads_0 rfl rfl rfl ?_
  refine G.getf (pc2 := 4) (q0 := 0) (ci := 4) (k := 0) (v := .ref (a 1)) iX4_diskReads_X4 kX4_diskReads_10 rfl rfl (by decide) rfl dX4_diskReads_1 rfl ?_
  refine G.callVd (pc2 := 7) (i := 1) (j := 3) (q0 := 1) (ci := 0) (As := []) (rest := []) (ws2 := wX a cI cZ u) (st2 := [.int (vX0_loads u.1)]) (c_X0_loads (cI := cI) (cZ := cZ) (a 1) (a 2) u.1) gX4_diskReads_X0_loads rfl rfl rfl ndX0_loads ⟨Nat.le_of_ble_eq_true rfl, Nat.le_of_ble_eq_true rfl⟩ ⟨Nat.le_of_ble_eq_true rfl, Nat.le_of_ble_eq_true rfl⟩ rfl rfl (Nat.le_of_ble_eq_true rfl) rfl rfl rfl rfl rfl rfl dX4_diskReads_4 rfl ?_
  generalize ev_4 : vX0_loads u.1 = v_4
  subst ev_4
  exact G.ireturn hR (rfl) dX4_diskReads_7 ⟨congrArg some (rfl), rfl⟩
set_option maxRecDepth 100000 in
set_option maxHeartbeats 4000000 in
theorem c_X4_diskWrites {cI cZ : ClassId} (a : Nat → Nat) (u : SX)  : Ct yX4_diskWrites wsX4_diskWrites rX4_diskWrites cI cZ [.ref (a 0)] (wX a cI cZ u) 0 0 (rt (some (vX4_diskWrites u)) (wX a cI cZ u)) := by
  refine Ct.of (cc := cX4_diskWrites) (nL := 1) (own := RX4) (by decide) rfl rfl (Nat.le_of_ble_eq_true rfl) rfl ?_
  intro K hR hN
  refine G.aload_n (pc2 := 1) (x := a 0) dX4_diskWrites_0 rfl rfl rfl ?_
  refine G.getf (pc2 := 4) (q0 := 0) (ci := 4) (k := 0) (v := .ref (a 1)) iX4_diskWrites_X4 kX4_diskWrites_10 rfl rfl (by decide) rfl dX4_diskWrites_1 rfl ?_
  refine G.callVd (pc2 := 7) (i := 1) (j := 3) (q0 := 1) (ci := 0) (As := []) (rest := []) (ws2 := wX a cI cZ u) (st2 := [.int (vX0_stores u.1)]) (c_X0_stores (cI := cI) (cZ := cZ) (a 1) (a 2) u.1) gX4_diskWrites_X0_stores rfl rfl rfl ndX0_stores ⟨Nat.le_of_ble_eq_true rfl, Nat.le_of_ble_eq_true rfl⟩ ⟨Nat.le_of_ble_eq_true rfl, Nat.le_of_ble_eq_true rfl⟩ rfl rfl (Nat.le_of_ble_eq_true rfl) rfl rfl rfl rfl rfl rfl dX4_diskWrites_4 rfl ?_
  generalize ev_4 : vX0_stores u.1 = v_4
  subst ev_4
  exact G.ireturn hR (rfl) dX4_diskWrites_7 ⟨congrArg some (rfl), rfl⟩
