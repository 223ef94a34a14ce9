set_option maxRecDepth 100000 in
set_option maxHeartbeats 4000000 in
theorem c_X5_residentPage {cI cZ : ClassId} (a : Nat → Nat) (u : SM) (p0 : Int32)  : Ct yX5_residentPage wsX5_residentPage rX5_residentPage cI cZ [.ref (a 0), .int p0] (wM a cI cZ u) 0 0 (rt (some (vX5_residentPage u p0)) (wM a cI cZ u)) := by
  refine Ct.of (cc := cX5_residentPage) (nL := 4) (own := RX5) (by decide) rfl rfl (Nat.le_of_ble_eq_true rfl) rfl ?_
  intro K hR hN
  have loop4 : ∀ (n : Nat) (l2 l3 : Int32), PI n l3 → vX5_residentPage u p0 = lvX5_residentPage_4 u p0 n l2 l3 → G K cI cZ cX5_residentPage 4 RX5 wsX5_residentPage rX5_residentPage 0 0 (wM a cI cZ u) 4 [(0, .ref (a 0)), (1, .int p0), (2, .int l2), (3, .int l3)] [] := by
    intro n
    induction n with
    | zero =>
      intro l2 l3 hi hv
      exact absurd hi (PI.zero)
    | succ n ih =>
      intro l2 l3 hi hv
      refine G.iload_n (pc2 := 5) (x := l3) dX5_residentPage_4 rfl rfl rfl ?_
      refine G.bipush (pc2 := 7) (v := 64) dX5_residentPage_5 (by decide) rfl ?_
      refine G.icmp_ge (pc2 := 10) (tgt := 41) dX5_residentPage_7 rfl rfl (fun c_7 => ?_) (fun c_7 => ?_)
      · refine G.bipush (pc2 := 43) (v := (-9)) dX5_residentPage_41 (by decide) rfl ?_
        exact G.ireturn hR (rfl) dX5_residentPage_43 ⟨congrArg some (by rw [hv]; simp only [lvX5_residentPage_4, if_neg c_7]), rfl⟩
      · refine G.iload_n (pc2 := 11) (x := l2) dX5_residentPage_10 rfl rfl rfl ?_
        refine G.if_lt (pc2 := 14) (tgt := 41) dX5_residentPage_11 rfl rfl (fun c_11 => ?_) (fun c_11 => ?_)
        · refine G.bipush (pc2 := 43) (v := (-9)) dX5_residentPage_41 (by decide) rfl ?_
          exact G.ireturn hR (rfl) dX5_residentPage_43 ⟨congrArg some (by rw [hv]; simp only [lvX5_residentPage_4, if_pos c_7, if_pos c_11]), rfl⟩
        · refine G.aload_n (pc2 := 15) (x := a 0) dX5_residentPage_14 rfl rfl rfl ?_
          refine G.getf (pc2 := 18) (q0 := 0) (ci := 5) (k := 14) (v := .ref (a 4)) iX5_residentPage_X5 kX5_residentPage_19 rfl rfl (by decide) rfl dX5_residentPage_15 rfl ?_
          refine G.iload_n (pc2 := 19) (x := l3) dX5_residentPage_18 rfl rfl rfl ?_
          refine G.zald (pc2 := 20) (q0 := 4) (j := ix l3) (v := u.2.1.1 (ix l3)) rfl (PI.pg hi c_7) rfl dX5_residentPage_19 rfl ?_
          refine G.if_ne (pc2 := 23) (tgt := 26) dX5_residentPage_20 rfl rfl (fun c_20 => ?_) (fun c_20 => ?_)
          · refine G.iload_n (pc2 := 27) (x := l2) dX5_residentPage_26 rfl rfl rfl ?_
            refine G.if_ne (pc2 := 30) (tgt := 32) dX5_residentPage_27 rfl rfl (fun c_27 => ?_) (fun c_27 => ?_)
            · refine G.iinc (pc2 := 35) (k := 2) (v := l2 + (-1)) (lv2 := [(0, .ref (a 0)), (1, .int p0), (2, .int (l2 + (-1))), (3, .int l3)]) [1, 2, 0, 3] dX5_residentPage_32 rfl rfl (by decide) rfl rfl ?_
              refine G.iinc (pc2 := 38) (k := 3) (v := l3 + 1) (lv2 := [(0, .ref (a 0)), (1, .int p0), (2, .int (l2 + (-1))), (3, .int (l3 + 1))]) [1, 2, 3, 0] dX5_residentPage_35 rfl rfl (by decide) rfl rfl ?_
              refine G.goto (tgt := 4) dX5_residentPage_38 rfl ?_
              exact ih  (l2 + (-1)) (l3 + 1) (PI.next hi c_7) (by rw [hv]; simp only [lvX5_residentPage_4, if_pos c_7, if_neg c_11, if_neg c_20, if_neg c_27])
            · refine G.iload_n (pc2 := 31) (x := l3) dX5_residentPage_30 rfl rfl rfl ?_
              exact G.ireturn hR (rfl) dX5_residentPage_31 ⟨congrArg some (by rw [hv]; simp only [lvX5_residentPage_4, if_pos c_7, if_neg c_11, if_neg c_20, if_pos c_27]), rfl⟩
          · refine G.goto (tgt := 35) dX5_residentPage_23 rfl ?_
            refine G.iinc (pc2 := 38) (k := 3) (v := l3 + 1) (lv2 := [(0, .ref (a 0)), (1, .int p0), (2, .int l2), (3, .int (l3 + 1))]) [1, 2, 3, 0] dX5_residentPage_35 rfl rfl (by decide) rfl rfl ?_
            refine G.goto (tgt := 4) dX5_residentPage_38 rfl ?_
            exact ih  l2 (l3 + 1) (PI.next hi c_7) (by rw [hv]; simp only [lvX5_residentPage_4, if_pos c_7, if_neg c_11, if_pos c_20])
  refine G.iload_n (pc2 := 1) (x := p0) dX5_residentPage_0 rfl rfl rfl ?_
  refine G.istore_n (pc2 := 2) (lv2 := [(0, .ref (a 0)), (1, .int p0), (2, .int p0)]) [1, 2, 0] dX5_residentPage_1 rfl (by decide) rfl rfl ?_
  refine G.iconst (pc2 := 3) (v := 0) dX5_residentPage_2 (by decide) rfl ?_
  refine G.istore_n (pc2 := 4) (lv2 := [(0, .ref (a 0)), (1, .int p0), (2, .int p0), (3, .int 0)]) [1, 2, 3, 0] dX5_residentPage_3 rfl (by decide) rfl rfl ?_
  exact loop4 65 p0 0 (PI.start) (rfl)
set_option maxRecDepth 100000 in
set_option maxHeartbeats 4000000 in
theorem c_X5_queueSize {cI cZ : ClassId} (a : Nat → Nat) (u : SM)  : Ct yX5_queueSize wsX5_queueSize rX5_queueSize cI cZ [.ref (a 0)] (wM a cI cZ u) 0 0 (rt (some (vX5_queueSize u)) (wM a cI cZ u)) := by
  refine Ct.of (cc := cX5_queueSize) (nL := 1) (own := RX5) (by decide) rfl rfl (Nat.le_of_ble_eq_true rfl) rfl ?_
  intro K hR hN
  refine G.aload_n (pc2 := 1) (x := a 0) dX5_queueSize_0 rfl rfl rfl ?_
  refine G.getf (pc2 := 4) (q0 := 0) (ci := 5) (k := 20) (v := .int u.2.2.1.2.2.2) iX5_queueSize_X5 kX5_queueSize_80 rfl rfl (by decide) rfl dX5_queueSize_1 rfl ?_
  exact G.ireturn hR (rfl) dX5_queueSize_4 ⟨congrArg some (rfl), rfl⟩
set_option maxRecDepth 100000 in
set_option maxHeartbeats 4000000 in
theorem c_X5_isInQueue {cI cZ : ClassId} (a : Nat → Nat) (u : SM) (p0 : Int32)  : Ct yX5_isInQueue wsX5_isInQueue rX5_isInQueue cI cZ [.ref (a 0), .int p0] (wM a cI cZ u) 0 0 (rt (some (vX5_isInQueue u p0)) (wM a cI cZ u)) := by
  refine Ct.of (cc := cX5_isInQueue) (nL := 2) (own := RX5) (by decide) rfl rfl (Nat.le_of_ble_eq_true rfl) rfl ?_
  intro K hR hN
  refine G.iload_n (pc2 := 1) (x := p0) dX5_isInQueue_0 rfl rfl rfl ?_
  refine G.iconst (pc2 := 2) (v := 0) dX5_isInQueue_1 (by decide) rfl ?_
  refine G.aload_n (pc2 := 3) (x := a 0) dX5_isInQueue_2 rfl rfl rfl ?_
  refine G.getf (pc2 := 6) (q0 := 0) (ci := 5) (k := 20) (v := .int u.2.2.1.2.2.2) iX5_isInQueue_X5 kX5_isInQueue_80 rfl rfl (by decide) rfl dX5_isInQueue_3 rfl ?_
  refine G.iconst (pc2 := 7) (v := 1) dX5_isInQueue_6 (by decide) rfl ?_
  refine G.isub (pc2 := 8) (v := u.2.2.1.2.2.2 - 1) dX5_isInQueue_7 rfl rfl ?_
  refine G.callSd (pc2 := 11) (i := 0) (j := 0) (As := [.int p0, .int 0, .int (u.2.2.1.2.2.2 - 1)]) (rest := []) (ws2 := wM a cI cZ u) (st2 := [.int (vX5_isFrom p0 0 (u.2.2.1.2.2.2 - 1))]) (c_X5_isFrom (cI := cI) (cZ := cZ) p0 0 (u.2.2.1.2.2.2 - 1)) gX5_isInQueue_X5_isFrom rfl rfl rfl ndX5_isFrom.2 ⟨Nat.le_of_ble_eq_true rfl, Nat.le_of_ble_eq_true rfl⟩ ⟨Nat.le_of_ble_eq_true rfl, Nat.le_of_ble_eq_true rfl⟩ rfl rfl (Nat.le_of_ble_eq_true rfl) rfl rfl rfl dX5_isInQueue_8 rfl ?_
  generalize ev_8 : vX5_isFrom p0 0 (u.2.2.1.2.2.2 - 1) = v_8
  subst ev_8
  exact G.ireturn hR (nbM _ _ _) dX5_isInQueue_11 ⟨congrArg some (rfl), rfl⟩
set_option maxRecDepth 100000 in
set_option maxHeartbeats 4000000 in
theorem c_X5_queuedPage {cI cZ : ClassId} (a : Nat → Nat) (u : SM) (p0 : Int32) (hq : QW u.2.2.1) : Ct yX5_queuedPage wsX5_queuedPage rX5_queuedPage cI cZ [.ref (a 0), .int p0] (wM a cI cZ u) 0 0 (rt (some (vX5_queuedPage u p0)) (wM a cI cZ u)) := by
  refine Ct.of (cc := cX5_queuedPage) (nL := 2) (own := RX5) (by decide) rfl rfl (Nat.le_of_ble_eq_true rfl) rfl ?_
  intro K hR hN
  refine G.aload_n (pc2 := 1) (x := a 0) dX5_queuedPage_0 rfl rfl rfl ?_
  refine G.iload_n (pc2 := 2) (x := p0) dX5_queuedPage_1 rfl rfl rfl ?_
  refine G.callVd (pc2 := 5) (i := 0) (j := 10) (q0 := 0) (ci := 5) (As := [.int p0]) (rest := []) (ws2 := wM a cI cZ u) (st2 := [.int (vX5_isInQueue u p0)]) (c_X5_isInQueue (cI := cI) (cZ := cZ) a u p0) gX5_queuedPage_X5_isInQueue rfl rfl rfl ndX5_isInQueue ⟨Nat.le_of_ble_eq_true rfl, Nat.le_of_ble_eq_true rfl⟩ ⟨Nat.le_of_ble_eq_true rfl, Nat.le_of_ble_eq_true rfl⟩ rfl rfl (Nat.le_of_ble_eq_true rfl) rfl rfl rfl rfl rfl rfl dX5_queuedPage_2 rfl ?_
  generalize ev_2 : vX5_isInQueue u p0 = v_2
  refine G.if_eq (pc2 := 8) (tgt := 17) dX5_queuedPage_5 rfl rfl (fun c_5 => ?_) (fun c_5 => ?_)
  · refine G.bipush (pc2 := 19) (v := (-9)) dX5_queuedPage_17 (by decide) rfl ?_
    subst ev_2
    exact G.ireturn hR (rfl) dX5_queuedPage_19 ⟨congrArg some (by simp only [vX5_queuedPage, if_pos c_5]), rfl⟩
  · refine G.aload_n (pc2 := 9) (x := a 0) dX5_queuedPage_8 rfl rfl rfl ?_
    refine G.getf (pc2 := 12) (q0 := 0) (ci := 5) (k := 18) (v := .ref (a 8)) iX5_queuedPage_X5 kX5_queuedPage_32 rfl rfl (by decide) rfl dX5_queuedPage_9 rfl ?_
    refine G.iload_n (pc2 := 13) (x := p0) dX5_queuedPage_12 rfl rfl rfl ?_
    refine G.iald (pc2 := 14) (q0 := 8) (j := ix p0) (v := u.2.2.1.1 (ix p0)) rfl (by subst ev_2; exact (inqIx hq c_5)) rfl dX5_queuedPage_13 rfl ?_
    refine G.goto (tgt := 19) dX5_queuedPage_14 rfl ?_
    subst ev_2
    exact G.ireturn hR (rfl) dX5_queuedPage_19 ⟨congrArg some (by simp only [vX5_queuedPage, if_neg c_5]), rfl⟩
set_option maxRecDepth 100000 in
set_option maxHeartbeats 4000000 in
theorem c_X5_queuedValue {cI cZ : ClassId} (a : Nat → Nat) (u : SM) (p0 : Int32) (hq : QW u.2.2.1) : Ct yX5_queuedValue wsX5_queuedValue rX5_queuedValue cI cZ [.ref (a 0), .int p0] (wM a cI cZ u) 0 0 (rt (some (vX5_queuedValue u p0)) (wM a cI cZ u)) := by
  refine Ct.of (cc := cX5_queuedValue) (nL := 2) (own := RX5) (by decide) rfl rfl (Nat.le_of_ble_eq_true rfl) rfl ?_
  intro K hR hN
  refine G.aload_n (pc2 := 1) (x := a 0) dX5_queuedValue_0 rfl rfl rfl ?_
  refine G.iload_n (pc2 := 2) (x := p0) dX5_queuedValue_1 rfl rfl rfl ?_
  refine G.callVd (pc2 := 5) (i := 0) (j := 10) (q0 := 0) (ci := 5) (As := [.int p0]) (rest := []) (ws2 := wM a cI cZ u) (st2 := [.int (vX5_isInQueue u p0)]) (c_X5_isInQueue (cI := cI) (cZ := cZ) a u p0) gX5_queuedValue_X5_isInQueue rfl rfl rfl ndX5_isInQueue ⟨Nat.le_of_ble_eq_true rfl, Nat.le_of_ble_eq_true rfl⟩ ⟨Nat.le_of_ble_eq_true rfl, Nat.le_of_ble_eq_true rfl⟩ rfl rfl (Nat.le_of_ble_eq_true rfl) rfl rfl rfl rfl rfl rfl dX5_queuedValue_2 rfl ?_
  generalize ev_2 : vX5_isInQueue u p0 = v_2
  refine G.if_eq (pc2 := 8) (tgt := 17) dX5_queuedValue_5 rfl rfl (fun c_5 => ?_) (fun c_5 => ?_)
  · refine G.bipush (pc2 := 19) (v := (-9)) dX5_queuedValue_17 (by decide) rfl ?_
    subst ev_2
    exact G.ireturn hR (rfl) dX5_queuedValue_19 ⟨congrArg some (by simp only [vX5_queuedValue, if_pos c_5]), rfl⟩
  · refine G.aload_n (pc2 := 9) (x := a 0) dX5_queuedValue_8 rfl rfl rfl ?_
    refine G.getf (pc2 := 12) (q0 := 0) (ci := 5) (k := 19) (v := .ref (a 9)) iX5_queuedValue_X5 kX5_queuedValue_35 rfl rfl (by decide) rfl dX5_queuedValue_9 rfl ?_
    refine G.iload_n (pc2 := 13) (x := p0) dX5_queuedValue_12 rfl rfl rfl ?_
    refine G.iald (pc2 := 14) (q0 := 9) (j := ix p0) (v := u.2.2.1.2.1 (ix p0)) rfl (by subst ev_2; exact (inqIx hq c_5)) rfl dX5_queuedValue_13 rfl ?_
    refine G.goto (tgt := 19) dX5_queuedValue_14 rfl ?_
    subst ev_2
    exact G.ireturn hR (rfl) dX5_queuedValue_19 ⟨congrArg some (by simp only [vX5_queuedValue, if_neg c_5]), rfl⟩
set_option maxRecDepth 100000 in
set_option maxHeartbeats 4000000 in
theorem c_X5_clock {cI cZ : ClassId} (a : Nat → Nat) (u : SM)  : Ct yX5_clock wsX5_clock rX5_clock cI cZ [.ref (a 0)] (wM a cI cZ u) 0 0 (rt (some (vX5_clock u)) (wM a cI cZ u)) := by
  refine Ct.of (cc := cX5_clock) (nL := 1) (own := RX5) (by decide) rfl rfl (Nat.le_of_ble_eq_true rfl) rfl ?_
  intro K hR hN
  refine G.aload_n (pc2 := 1) (x := a 0) dX5_clock_0 rfl rfl rfl ?_
  refine G.getf (pc2 := 4) (q0 := 0) (ci := 5) (k := 4) (v := .int u.2.2.2.2.2.1) iX5_clock_X5 kX5_clock_59 rfl rfl (by decide) rfl dX5_clock_1 rfl ?_
  exact G.ireturn hR (rfl) dX5_clock_4 ⟨congrArg some (rfl), rfl⟩
set_option maxRecDepth 100000 in
set_option maxHeartbeats 4000000 in
theorem c_X5_hits {cI cZ : ClassId} (a : Nat → Nat) (u : SM)  : Ct yX5_hits wsX5_hits rX5_hits cI cZ [.ref (a 0)] (wM a cI cZ u) 0 0 (rt (some (vX5_hits u)) (wM a cI cZ u)) := by
  refine Ct.of (cc := cX5_hits) (nL := 1) (own := RX5) (by decide) rfl rfl (Nat.le_of_ble_eq_true rfl) rfl ?_
  intro K hR hN
  refine G.aload_n (pc2 := 1) (x := a 0) dX5_hits_0 rfl rfl rfl ?_
  refine G.getf (pc2 := 4) (q0 := 0) (ci := 5) (k := 5) (v := .int u.2.2.2.2.2.2.1) iX5_hits_X5 kX5_hits_62 rfl rfl (by decide) rfl dX5_hits_1 rfl ?_
  exact G.ireturn hR (rfl) dX5_hits_4 ⟨congrArg some (rfl), rfl⟩
set_option maxRecDepth 100000 in
set_option maxHeartbeats 4000000 in
theorem c_X5_misses {cI cZ : ClassId} (a : Nat → Nat) (u : SM)  : Ct yX5_misses wsX5_misses rX5_misses cI cZ [.ref (a 0)] (wM a cI cZ u) 0 0 (rt (some (vX5_misses u)) (wM a cI cZ u)) := by
  refine Ct.of (cc := cX5_misses) (nL := 1) (own := RX5) (by decide) rfl rfl (Nat.le_of_ble_eq_true rfl) rfl ?_
  intro K hR hN
  refine G.aload_n (pc2 := 1) (x := a 0) dX5_misses_0 rfl rfl rfl ?_
  refine G.getf (pc2 := 4) (q0 := 0) (ci := 5) (k := 6) (v := .int u.2.2.2.2.2.2.2.1) iX5_misses_X5 kX5_misses_65 rfl rfl (by decide) rfl dX5_misses_1 rfl ?_
  exact G.ireturn hR (rfl) dX5_misses_4 ⟨congrArg some (rfl), rfl⟩
