set_option maxRecDepth 100000 in
set_option maxHeartbeats 4000000 in
theorem c_X4_pinCount {cI cZ : ClassId} (a : Nat → Nat) (u : SX) (p0 : Int32) (hf : FW u.2.1) : Ct yX4_pinCount wsX4_pinCount rX4_pinCount cI cZ [.ref (a 0), .int p0] (wX a cI cZ u) 0 0 (rt (some (vX4_pinCount u p0)) (wX a cI cZ u)) := by
  refine Ct.of (cc := cX4_pinCount) (nL := 2) (own := RX4) (by decide) rfl rfl (Nat.le_of_ble_eq_true rfl) rfl ?_
  intro K hR hN
  refine G.iload_n (pc2 := 1) (x := p0) dX4_pinCount_0 rfl rfl rfl ?_
  refine G.callSd (pc2 := 4) (i := 0) (j := 0) (As := [.int p0]) (rest := []) (ws2 := wX a cI cZ u) (st2 := [.int (vX4_isPage p0)]) (c_X4_isPage (cI := cI) (cZ := cZ) p0) gX4_pinCount_X4_isPage rfl rfl rfl ndX4_isPage.2 ⟨Nat.le_of_ble_eq_true rfl, Nat.le_of_ble_eq_true rfl⟩ ⟨Nat.le_of_ble_eq_true rfl, Nat.le_of_ble_eq_true rfl⟩ rfl rfl (Nat.le_of_ble_eq_true rfl) rfl rfl rfl dX4_pinCount_1 rfl ?_
  generalize ev_1 : vX4_isPage p0 = v_1
  refine G.if_ne (pc2 := 7) (tgt := 9) dX4_pinCount_4 rfl rfl (fun c_4 => ?_) (fun c_4 => ?_)
  · refine G.aload_n (pc2 := 10) (x := a 0) dX4_pinCount_9 rfl rfl rfl ?_
    refine G.getf (pc2 := 13) (q0 := 0) (ci := 4) (k := 1) (v := .ref (a 3)) iX4_pinCount_X4 kX4_pinCount_19 rfl rfl (by decide) rfl dX4_pinCount_10 rfl ?_
    refine G.iload_n (pc2 := 14) (x := p0) dX4_pinCount_13 rfl rfl rfl ?_
    refine G.callVd (pc2 := 17) (i := 3) (j := 8) (q0 := 3) (ci := 1) (As := [.int p0]) (rest := []) (ws2 := wX a cI cZ u) (st2 := [.int (vX1_holds u.2.1 p0)]) (c_X1_holds (cI := cI) (cZ := cZ) (a 3) (a 4) (a 5) (a 6) (a 7) u.2.1 p0 (by subst ev_1; exact (pgX c_4)) (hf)) gX4_pinCount_X1_holds rfl rfl rfl ndX1_holds ⟨Nat.le_of_ble_eq_true rfl, Nat.le_of_ble_eq_true rfl⟩ ⟨Nat.le_of_ble_eq_true rfl, Nat.le_of_ble_eq_true rfl⟩ rfl rfl (Nat.le_of_ble_eq_true rfl) rfl rfl rfl rfl rfl rfl dX4_pinCount_14 rfl ?_
    generalize ev_14 : vX1_holds u.2.1 p0 = v_14
    refine G.if_ne (pc2 := 20) (tgt := 23) dX4_pinCount_17 rfl rfl (fun c_17 => ?_) (fun c_17 => ?_)
    · refine G.aload_n (pc2 := 24) (x := a 0) dX4_pinCount_23 rfl rfl rfl ?_
      refine G.getf (pc2 := 27) (q0 := 0) (ci := 4) (k := 1) (v := .ref (a 3)) iX4_pinCount_X4 kX4_pinCount_19 rfl rfl (by decide) rfl dX4_pinCount_24 rfl ?_
      refine G.iload_n (pc2 := 28) (x := p0) dX4_pinCount_27 rfl rfl rfl ?_
      refine G.callVd (pc2 := 31) (i := 3) (j := 8) (q0 := 3) (ci := 1) (As := [.int p0]) (rest := []) (ws2 := wX a cI cZ u) (st2 := [.int (vX1_pinsOf u.2.1 p0)]) (c_X1_pinsOf (cI := cI) (cZ := cZ) (a 3) (a 4) (a 5) (a 6) (a 7) u.2.1 p0 (by subst ev_14 ev_1; exact (pgX c_4))) gX4_pinCount_X1_pinsOf rfl rfl rfl ndX1_pinsOf ⟨Nat.le_of_ble_eq_true rfl, Nat.le_of_ble_eq_true rfl⟩ ⟨Nat.le_of_ble_eq_true rfl, Nat.le_of_ble_eq_true rfl⟩ rfl rfl (Nat.le_of_ble_eq_true rfl) rfl rfl rfl rfl rfl rfl dX4_pinCount_28 rfl ?_
      generalize ev_28 : vX1_pinsOf u.2.1 p0 = v_28
      subst ev_28 ev_14 ev_1
      exact G.ireturn hR (rfl) dX4_pinCount_31 ⟨congrArg some (by simp only [vX4_pinCount, if_neg c_4, if_neg c_17]), rfl⟩
    · refine G.bipush (pc2 := 22) (v := (-4)) dX4_pinCount_20 (by decide) rfl ?_
      subst ev_14 ev_1
      exact G.ireturn hR (rfl) dX4_pinCount_22 ⟨congrArg some (by simp only [vX4_pinCount, if_neg c_4, if_pos c_17]), rfl⟩
  · refine G.iconst (pc2 := 8) (v := (-1)) dX4_pinCount_7 (by decide) rfl ?_
    subst ev_1
    exact G.ireturn hR (rfl) dX4_pinCount_8 ⟨congrArg some (by simp only [vX4_pinCount, if_pos c_4]), rfl⟩
set_option maxRecDepth 100000 in
set_option maxHeartbeats 4000000 in
theorem c_X4_referenceTime {cI cZ : ClassId} (a : Nat → Nat) (u : SX) (p0 p1 : Int32) (hh : HW u.2.2.2.1) : Ct yX4_referenceTime wsX4_referenceTime rX4_referenceTime cI cZ [.ref (a 0), .int p0, .int p1] (wX a cI cZ u) 0 0 (rt (some (vX4_referenceTime u p0 p1)) (wX a cI cZ u)) := by
  refine Ct.of (cc := cX4_referenceTime) (nL := 3) (own := RX4) (by decide) rfl rfl (Nat.le_of_ble_eq_true rfl) rfl ?_
  intro K hR hN
  refine G.iload_n (pc2 := 1) (x := p0) dX4_referenceTime_0 rfl rfl rfl ?_
  refine G.callSd (pc2 := 4) (i := 0) (j := 0) (As := [.int p0]) (rest := []) (ws2 := wX a cI cZ u) (st2 := [.int (vX4_isPage p0)]) (c_X4_isPage (cI := cI) (cZ := cZ) p0) gX4_referenceTime_X4_isPage rfl rfl rfl ndX4_isPage.2 ⟨Nat.le_of_ble_eq_true rfl, Nat.le_of_ble_eq_true rfl⟩ ⟨Nat.le_of_ble_eq_true rfl, Nat.le_of_ble_eq_true rfl⟩ rfl rfl (Nat.le_of_ble_eq_true rfl) rfl rfl rfl dX4_referenceTime_1 rfl ?_
  generalize ev_1 : vX4_isPage p0 = v_1
  refine G.if_ne (pc2 := 7) (tgt := 9) dX4_referenceTime_4 rfl rfl (fun c_4 => ?_) (fun c_4 => ?_)
  · refine G.iload_n (pc2 := 10) (x := p1) dX4_referenceTime_9 rfl rfl rfl ?_
    refine G.iconst (pc2 := 11) (v := 1) dX4_referenceTime_10 (by decide) rfl ?_
    refine G.aload_n (pc2 := 12) (x := a 0) dX4_referenceTime_11 rfl rfl rfl ?_
    refine G.getf (pc2 := 15) (q0 := 0) (ci := 4) (k := 3) (v := .ref (a 11)) iX4_referenceTime_X4 kX4_referenceTime_33 rfl rfl (by decide) rfl dX4_referenceTime_12 rfl ?_
    refine G.callVd (pc2 := 18) (i := 11) (j := 14) (q0 := 11) (ci := 2) (As := []) (rest := [.int 1, .int p1]) (ws2 := wX a cI cZ u) (st2 := [.int (vX2_depth u.2.2.2.1), .int 1, .int p1]) (c_X2_depth (cI := cI) (cZ := cZ) (a 11) (a 12) (a 13) u.2.2.2.1) gX4_referenceTime_X2_depth rfl rfl rfl ndX2_depth ⟨Nat.le_of_ble_eq_true rfl, Nat.le_of_ble_eq_true rfl⟩ ⟨Nat.le_of_ble_eq_true rfl, Nat.le_of_ble_eq_true rfl⟩ rfl rfl (Nat.le_of_ble_eq_true rfl) rfl rfl rfl rfl rfl rfl dX4_referenceTime_15 rfl ?_
    generalize ev_15 : vX2_depth u.2.2.2.1 = v_15
    refine G.callSd (pc2 := 21) (i := 0) (j := 0) (As := [.int p1, .int 1, .int v_15]) (rest := []) (ws2 := wX a cI cZ u) (st2 := [.int (vX4_isWithin p1 1 v_15)]) (c_X4_isWithin (cI := cI) (cZ := cZ) p1 1 v_15) gX4_referenceTime_X4_isWithin rfl rfl rfl ndX4_isWithin.2 ⟨Nat.le_of_ble_eq_true rfl, Nat.le_of_ble_eq_true rfl⟩ ⟨Nat.le_of_ble_eq_true rfl, Nat.le_of_ble_eq_true rfl⟩ rfl rfl (Nat.le_of_ble_eq_true rfl) rfl rfl rfl dX4_referenceTime_18 rfl ?_
    generalize ev_18 : vX4_isWithin p1 1 v_15 = v_18
    refine G.if_ne (pc2 := 24) (tgt := 27) dX4_referenceTime_21 rfl rfl (fun c_21 => ?_) (fun c_21 => ?_)
    · refine G.aload_n (pc2 := 28) (x := a 0) dX4_referenceTime_27 rfl rfl rfl ?_
      refine G.getf (pc2 := 31) (q0 := 0) (ci := 4) (k := 3) (v := .ref (a 11)) iX4_referenceTime_X4 kX4_referenceTime_33 rfl rfl (by decide) rfl dX4_referenceTime_28 rfl ?_
      refine G.iload_n (pc2 := 32) (x := p0) dX4_referenceTime_31 rfl rfl rfl ?_
      refine G.iload_n (pc2 := 33) (x := p1) dX4_referenceTime_32 rfl rfl rfl ?_
      refine G.callVd (pc2 := 36) (i := 11) (j := 14) (q0 := 11) (ci := 2) (As := [.int p0, .int p1]) (rest := []) (ws2 := wX a cI cZ u) (st2 := [.int (vX2_timeOf u.2.2.2.1 p0 p1)]) (c_X2_timeOf (cI := cI) (cZ := cZ) (a 11) (a 12) (a 13) u.2.2.2.1 p0 p1 (by subst ev_18 ev_15 ev_1; exact (pgX c_4)) (hh)) gX4_referenceTime_X2_timeOf rfl rfl rfl ndX2_timeOf ⟨Nat.le_of_ble_eq_true rfl, Nat.le_of_ble_eq_true rfl⟩ ⟨Nat.le_of_ble_eq_true rfl, Nat.le_of_ble_eq_true rfl⟩ rfl rfl (Nat.le_of_ble_eq_true rfl) rfl rfl rfl rfl rfl rfl dX4_referenceTime_33 rfl ?_
      generalize ev_33 : vX2_timeOf u.2.2.2.1 p0 p1 = v_33
      subst ev_33 ev_18 ev_15 ev_1
      exact G.ireturn hR (rfl) dX4_referenceTime_36 ⟨congrArg some (by simp only [vX4_referenceTime, if_neg c_4, if_neg c_21]), rfl⟩
    · refine G.bipush (pc2 := 26) (v := (-8)) dX4_referenceTime_24 (by decide) rfl ?_
      subst ev_18 ev_15 ev_1
      exact G.ireturn hR (rfl) dX4_referenceTime_26 ⟨congrArg some (by simp only [vX4_referenceTime, if_neg c_4, if_pos c_21]), rfl⟩
  · refine G.iconst (pc2 := 8) (v := (-1)) dX4_referenceTime_7 (by decide) rfl ?_
    subst ev_1
    exact G.ireturn hR (rfl) dX4_referenceTime_8 ⟨congrArg some (by simp only [vX4_referenceTime, if_pos c_4]), rfl⟩
set_option maxRecDepth 100000 in
set_option maxHeartbeats 4000000 in
theorem c_X4_backwardKDistance {cI cZ : ClassId} (a : Nat → Nat) (u : SX) (p0 : Int32) (hh : HW u.2.2.2.1) : Ct yX4_backwardKDistance wsX4_backwardKDistance rX4_backwardKDistance cI cZ [.ref (a 0), .int p0] (wX a cI cZ u) 0 0 (rt (some (vX4_backwardKDistance u p0)) (wX a cI cZ u)) := by
  refine Ct.of (cc := cX4_backwardKDistance) (nL := 3) (own := RX4) (by decide) rfl rfl (Nat.le_of_ble_eq_true rfl) rfl ?_
  intro K hR hN
  refine G.iload_n (pc2 := 1) (x := p0) dX4_backwardKDistance_0 rfl rfl rfl ?_
  refine G.callSd (pc2 := 4) (i := 0) (j := 0) (As := [.int p0]) (rest := []) (ws2 := wX a cI cZ u) (st2 := [.int (vX4_isPage p0)]) (c_X4_isPage (cI := cI) (cZ := cZ) p0) gX4_backwardKDistance_X4_isPage rfl rfl rfl ndX4_isPage.2 ⟨Nat.le_of_ble_eq_true rfl, Nat.le_of_ble_eq_true rfl⟩ ⟨Nat.le_of_ble_eq_true rfl, Nat.le_of_ble_eq_true rfl⟩ rfl rfl (Nat.le_of_ble_eq_true rfl) rfl rfl rfl dX4_backwardKDistance_1 rfl ?_
  generalize ev_1 : vX4_isPage p0 = v_1
  refine G.if_ne (pc2 := 7) (tgt := 9) dX4_backwardKDistance_4 rfl rfl (fun c_4 => ?_) (fun c_4 => ?_)
  · refine G.aload_n (pc2 := 10) (x := a 0) dX4_backwardKDistance_9 rfl rfl rfl ?_
    refine G.getf (pc2 := 13) (q0 := 0) (ci := 4) (k := 3) (v := .ref (a 11)) iX4_backwardKDistance_X4 kX4_backwardKDistance_33 rfl rfl (by decide) rfl dX4_backwardKDistance_10 rfl ?_
    refine G.iload_n (pc2 := 14) (x := p0) dX4_backwardKDistance_13 rfl rfl rfl ?_
    refine G.aload_n (pc2 := 15) (x := a 0) dX4_backwardKDistance_14 rfl rfl rfl ?_
    refine G.getf (pc2 := 18) (q0 := 0) (ci := 4) (k := 3) (v := .ref (a 11)) iX4_backwardKDistance_X4 kX4_backwardKDistance_33 rfl rfl (by decide) rfl dX4_backwardKDistance_15 rfl ?_
    refine G.callVd (pc2 := 21) (i := 11) (j := 14) (q0 := 11) (ci := 2) (As := []) (rest := [.int p0, .ref (a 11)]) (ws2 := wX a cI cZ u) (st2 := [.int (vX2_depth u.2.2.2.1), .int p0, .ref (a 11)]) (c_X2_depth (cI := cI) (cZ := cZ) (a 11) (a 12) (a 13) u.2.2.2.1) gX4_backwardKDistance_X2_depth rfl rfl rfl ndX2_depth ⟨Nat.le_of_ble_eq_true rfl, Nat.le_of_ble_eq_true rfl⟩ ⟨Nat.le_of_ble_eq_true rfl, Nat.le_of_ble_eq_true rfl⟩ rfl rfl (Nat.le_of_ble_eq_true rfl) rfl rfl rfl rfl rfl rfl dX4_backwardKDistance_18 rfl ?_
    generalize ev_18 : vX2_depth u.2.2.2.1 = v_18
    refine G.callVd (pc2 := 24) (i := 11) (j := 14) (q0 := 11) (ci := 2) (As := [.int p0, .int v_18]) (rest := []) (ws2 := wX a cI cZ u) (st2 := [.int (vX2_timeOf u.2.2.2.1 p0 v_18)]) (c_X2_timeOf (cI := cI) (cZ := cZ) (a 11) (a 12) (a 13) u.2.2.2.1 p0 v_18 (by subst ev_18 ev_1; exact (pgX c_4)) (hh)) gX4_backwardKDistance_X2_timeOf rfl rfl rfl ndX2_timeOf ⟨Nat.le_of_ble_eq_true rfl, Nat.le_of_ble_eq_true rfl⟩ ⟨Nat.le_of_ble_eq_true rfl, Nat.le_of_ble_eq_true rfl⟩ rfl rfl (Nat.le_of_ble_eq_true rfl) rfl rfl rfl rfl rfl rfl dX4_backwardKDistance_21 rfl ?_
    generalize ev_21 : vX2_timeOf u.2.2.2.1 p0 v_18 = v_21
    refine G.istore_n (pc2 := 25) (lv2 := [(0, .ref (a 0)), (1, .int p0), (2, .int v_21)]) [1, 2, 0] dX4_backwardKDistance_24 rfl (by decide) rfl rfl ?_
    refine G.iload_n (pc2 := 26) (x := v_21) dX4_backwardKDistance_25 rfl rfl rfl ?_
    refine G.bipush (pc2 := 28) (v := (-9)) dX4_backwardKDistance_26 (by decide) rfl ?_
    refine G.icmp_ne (pc2 := 31) (tgt := 36) dX4_backwardKDistance_28 rfl rfl (fun c_28 => ?_) (fun c_28 => ?_)
    · refine G.aload_n (pc2 := 37) (x := a 0) dX4_backwardKDistance_36 rfl rfl rfl ?_
      refine G.getf (pc2 := 40) (q0 := 0) (ci := 4) (k := 5) (v := .int u.2.2.2.2.2.1) iX4_backwardKDistance_X4 kX4_backwardKDistance_111 rfl rfl (by decide) rfl dX4_backwardKDistance_37 rfl ?_
      refine G.iload_n (pc2 := 41) (x := v_21) dX4_backwardKDistance_40 rfl rfl rfl ?_
      refine G.isub (pc2 := 42) (v := u.2.2.2.2.2.1 - v_21) dX4_backwardKDistance_41 rfl rfl ?_
      subst ev_21 ev_18 ev_1
      exact G.ireturn hR (rfl) dX4_backwardKDistance_42 ⟨congrArg some (by simp only [vX4_backwardKDistance, if_neg c_4, if_neg c_28]), rfl⟩
    · refine G.bipush (pc2 := 33) (v := (-9)) dX4_backwardKDistance_31 (by decide) rfl ?_
      refine G.goto (tgt := 42) dX4_backwardKDistance_33 rfl ?_
      subst ev_21 ev_18 ev_1
      exact G.ireturn hR (rfl) dX4_backwardKDistance_42 ⟨congrArg some (by simp only [vX4_backwardKDistance, if_neg c_4, if_pos c_28]), rfl⟩
  · refine G.iconst (pc2 := 8) (v := (-1)) dX4_backwardKDistance_7 (by decide) rfl ?_
    subst ev_1
    exact G.ireturn hR (rfl) dX4_backwardKDistance_8 ⟨congrArg some (by simp only [vX4_backwardKDistance, if_pos c_4]), rfl⟩
set_option maxRecDepth 100000 in
set_option maxHeartbeats 4000000 in
theorem c_X4_victim {cI cZ : ClassId} (a : Nat → Nat) (u : SX) (hh : HW u.2.2.2.1) (hf : FW u.2.1) : Ct yX4_victim wsX4_victim rX4_victim cI cZ [.ref (a 0)] (wX a cI cZ u) 0 0 (rt (some (vX4_victim u)) (wX a cI cZ u)) := by
  refine Ct.of (cc := cX4_victim) (nL := 1) (own := RX4) (by decide) rfl rfl (Nat.le_of_ble_eq_true rfl) rfl ?_
  intro K hR hN
  refine G.aload_n (pc2 := 1) (x := a 0) dX4_victim_0 rfl rfl rfl ?_
  refine G.callVd (pc2 := 4) (i := 0) (j := 14) (q0 := 0) (ci := 4) (As := []) (rest := []) (ws2 := wX a cI cZ u) (st2 := [.int (vX4_chooseVictim u)]) (c_X4_chooseVictim (cI := cI) (cZ := cZ) a u (hh) (hf)) gX4_victim_X4_chooseVictim rfl rfl rfl ndX4_chooseVictim ⟨Nat.le_of_ble_eq_true rfl, Nat.le_of_ble_eq_true rfl⟩ ⟨Nat.le_of_ble_eq_true rfl, Nat.le_of_ble_eq_true rfl⟩ rfl rfl (Nat.le_of_ble_eq_true rfl) rfl rfl rfl rfl rfl rfl dX4_victim_1 rfl ?_
  generalize ev_1 : vX4_chooseVictim u = v_1
  subst ev_1
  exact G.ireturn hR (rfl) dX4_victim_4 ⟨congrArg some (rfl), rfl⟩
set_option maxRecDepth 100000 in
set_option maxHeartbeats 4000000 in
theorem c_X4_diskValue {cI cZ : ClassId} (a : Nat → Nat) (u : SX) (p0 : Int32)  : Ct yX4_diskValue wsX4_diskValue rX4_diskValue cI cZ [.ref (a 0), .int p0] (wX a cI cZ u) 0 0 (rt (some (vX4_diskValue u p0)) (wX a cI cZ u)) := by
  refine Ct.of (cc := cX4_diskValue) (nL := 2) (own := RX4) (by decide) rfl rfl (Nat.le_of_ble_eq_true rfl) rfl ?_
  intro K hR hN
  refine G.iload_n (pc2 := 1) (x := p0) dX4_diskValue_0 rfl rfl rfl ?_
  refine G.callSd (pc2 := 4) (i := 0) (j := 0) (As := [.int p0]) (rest := []) (ws2 := wX a cI cZ u) (st2 := [.int (vX4_isPage p0)]) (c_X4_isPage (cI := cI) (cZ := cZ) p0) gX4_diskValue_X4_isPage rfl rfl rfl ndX4_isPage.2 ⟨Nat.le_of_ble_eq_true rfl, Nat.le_of_ble_eq_true rfl⟩ ⟨Nat.le_of_ble_eq_true rfl, Nat.le_of_ble_eq_true rfl⟩ rfl rfl (Nat.le_of_ble_eq_true rfl) rfl rfl rfl dX4_diskValue_1 rfl ?_
  generalize ev_1 : vX4_isPage p0 = v_1
  refine G.if_ne (pc2 := 7) (tgt := 9) dX4_diskValue_4 rfl rfl (fun c_4 => ?_) (fun c_4 => ?_)
  · refine G.aload_n (pc2 := 10) (x := a 0) dX4_diskValue_9 rfl rfl rfl ?_
    refine G.getf (pc2 := 13) (q0 := 0) (ci := 4) (k := 0) (v := .ref (a 1)) iX4_diskValue_X4 kX4_diskValue_10 rfl rfl (by decide) rfl dX4_diskValue_10 rfl ?_
    refine G.iload_n (pc2 := 14) (x := p0) dX4_diskValue_13 rfl rfl rfl ?_
    refine G.callVd (pc2 := 17) (i := 1) (j := 3) (q0 := 1) (ci := 0) (As := [.int p0]) (rest := []) (ws2 := wX a cI cZ u) (st2 := [.int (vX0_valueOf u.1 p0)]) (c_X0_valueOf (cI := cI) (cZ := cZ) (a 1) (a 2) u.1 p0 (by subst ev_1; exact (pgX c_4))) gX4_diskValue_X0_valueOf rfl rfl rfl ndX0_valueOf ⟨Nat.le_of_ble_eq_true rfl, Nat.le_of_ble_eq_true rfl⟩ ⟨Nat.le_of_ble_eq_true rfl, Nat.le_of_ble_eq_true rfl⟩ rfl rfl (Nat.le_of_ble_eq_true rfl) rfl rfl rfl rfl rfl rfl dX4_diskValue_14 rfl ?_
    generalize ev_14 : vX0_valueOf u.1 p0 = v_14
    subst ev_14 ev_1
    exact G.ireturn hR (rfl) dX4_diskValue_17 ⟨congrArg some (by simp only [vX4_diskValue, if_neg c_4]), rfl⟩
  · refine G.iconst (pc2 := 8) (v := (-1)) dX4_diskValue_7 (by decide) rfl ?_
    subst ev_1
    exact G.ireturn hR (rfl) dX4_diskValue_8 ⟨congrArg some (by simp only [vX4_diskValue, if_pos c_4]), rfl⟩
set_option maxRecDepth 100000 in
set_option maxHeartbeats 4000000 in
theorem c_X4_residentCount {cI cZ : ClassId} (a : Nat → Nat) (u : SX)  : Ct yX4_residentCount wsX4_residentCount rX4_residentCount cI cZ [.ref (a 0)] (wX a cI cZ u) 0 0 (rt (some (vX4_residentCount u)) (wX a cI cZ u)) := by
  refine Ct.of (cc := cX4_residentCount) (nL := 1) (own := RX4) (by decide) rfl rfl (Nat.le_of_ble_eq_true rfl) rfl ?_
  intro K hR hN
  refine G.aload_n (pc2 := 1) (x := a 0) dX4_residentCount_0 rfl rfl rfl ?_
  refine G.getf (pc2 := 4) (q0 := 0) (ci := 4) (k := 1) (v := .ref (a 3)) iX4_residentCount_X4 kX4_residentCount_19 rfl rfl (by decide) rfl dX4_residentCount_1 rfl ?_
  refine G.callVd (pc2 := 7) (i := 3) (j := 8) (q0 := 3) (ci := 1) (As := []) (rest := []) (ws2 := wX a cI cZ u) (st2 := [.int (vX1_used u.2.1)]) (c_X1_used (cI := cI) (cZ := cZ) (a 3) (a 4) (a 5) (a 6) (a 7) u.2.1) gX4_residentCount_X1_used rfl rfl rfl ndX1_used ⟨Nat.le_of_ble_eq_true rfl, Nat.le_of_ble_eq_true rfl⟩ ⟨Nat.le_of_ble_eq_true rfl, Nat.le_of_ble_eq_true rfl⟩ rfl rfl (Nat.le_of_ble_eq_true rfl) rfl rfl rfl rfl rfl rfl dX4_residentCount_4 rfl ?_
  generalize ev_4 : vX1_used u.2.1 = v_4
  subst ev_4
  exact G.ireturn hR (rfl) dX4_residentCount_7 ⟨congrArg some (rfl), rfl⟩
set_option maxRecDepth 100000 in
set_option maxHeartbeats 4000000 in
theorem c_X4_residentPage {cI cZ : ClassId} (a : Nat → Nat) (u : SX) (p0 : Int32)  : Ct yX4_residentPage wsX4_residentPage rX4_residentPage cI cZ [.ref (a 0), .int p0] (wX a cI cZ u) 0 0 (rt (some (vX4_residentPage u p0)) (wX a cI cZ u)) := by
  refine Ct.of (cc := cX4_residentPage) (nL := 2) (own := RX4) (by decide) rfl rfl (Nat.le_of_ble_eq_true rfl) rfl ?_
  intro K hR hN
  refine G.aload_n (pc2 := 1) (x := a 0) dX4_residentPage_0 rfl rfl rfl ?_
  refine G.getf (pc2 := 4) (q0 := 0) (ci := 4) (k := 1) (v := .ref (a 3)) iX4_residentPage_X4 kX4_residentPage_19 rfl rfl (by decide) rfl dX4_residentPage_1 rfl ?_
  refine G.iload_n (pc2 := 5) (x := p0) dX4_residentPage_4 rfl rfl rfl ?_
  refine G.callVd (pc2 := 8) (i := 3) (j := 8) (q0 := 3) (ci := 1) (As := [.int p0]) (rest := []) (ws2 := wX a cI cZ u) (st2 := [.int (vX1_pageAt u.2.1 p0)]) (c_X1_pageAt (cI := cI) (cZ := cZ) (a 3) (a 4) (a 5) (a 6) (a 7) u.2.1 p0) gX4_residentPage_X1_pageAt rfl rfl rfl ndX1_pageAt ⟨Nat.le_of_ble_eq_true rfl, Nat.le_of_ble_eq_true rfl⟩ ⟨Nat.le_of_ble_eq_true rfl, Nat.le_of_ble_eq_true rfl⟩ rfl rfl (Nat.le_of_ble_eq_true rfl) rfl rfl rfl rfl rfl rfl dX4_residentPage_5 rfl ?_
  generalize ev_5 : vX1_pageAt u.2.1 p0 = v_5
  subst ev_5
  exact G.ireturn hR (rfl) dX4_residentPage_8 ⟨congrArg some (rfl), rfl⟩
set_option maxRecDepth 100000 in
set_option maxHeartbeats 4000000 in
theorem c_X4_queueSize {cI cZ : ClassId} (a : Nat → Nat) (u : SX)  : Ct yX4_queueSize wsX4_queueSize rX4_queueSize cI cZ [.ref (a 0)] (wX a cI cZ u) 0 0 (rt (some (vX4_queueSize u)) (wX a cI cZ u)) := by
  refine Ct.of (cc := cX4_queueSize) (nL := 1) (own := RX4) (by decide) rfl rfl (Nat.le_of_ble_eq_true rfl) rfl ?_
  intro K hR hN
  refine G.aload_n (pc2 := 1) (x := a 0) dX4_queueSize_0 rfl rfl rfl ?_
  refine G.getf (pc2 := 4) (q0 := 0) (ci := 4) (k := 2) (v := .ref (a 8)) iX4_queueSize_X4 kX4_queueSize_26 rfl rfl (by decide) rfl dX4_queueSize_1 rfl ?_
  refine G.callVd (pc2 := 7) (i := 8) (j := 11) (q0 := 8) (ci := 3) (As := []) (rest := []) (ws2 := wX a cI cZ u) (st2 := [.int (vX3_length u.2.2.1)]) (c_X3_length (cI := cI) (cZ := cZ) (a 8) (a 9) (a 10) u.2.2.1) gX4_queueSize_X3_length rfl rfl rfl ndX3_length ⟨Nat.le_of_ble_eq_true rfl, Nat.le_of_ble_eq_true rfl⟩ ⟨Nat.le_of_ble_eq_true rfl, Nat.le_of_ble_eq_true rfl⟩ rfl rfl (Nat.le_of_ble_eq_true rfl) rfl rfl rfl rfl rfl rfl dX4_queueSize_4 rfl ?_
  generalize ev_4 : vX3_length u.2.2.1 = v_4
  subst ev_4
  exact G.ireturn hR (rfl) dX4_queueSize_7 ⟨congrArg some (rfl), rfl⟩
