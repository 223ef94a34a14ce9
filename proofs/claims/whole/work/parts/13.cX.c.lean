set_option maxRecDepth 100000 in
set_option maxHeartbeats 4000000 in
theorem c_X4_writeFrame {cI cZ : ClassId} (a : Nat → Nat) (u : SX) (p0 : Int32) (h0 : Pg p0) : Ct yX4_writeFrame wsX4_writeFrame rX4_writeFrame cI cZ [.ref (a 0), .int p0] (wX a cI cZ u) 0 0 (rt (none) (wX a cI cZ (sX4_writeFrame u p0))) := by
  refine Ct.of (cc := cX4_writeFrame) (nL := 2) (own := RX4) (by decide) rfl rfl (Nat.le_of_ble_eq_true rfl) rfl ?_
  intro K hR hN
  refine G.aload_n (pc2 := 1) (x := a 0) dX4_writeFrame_0 rfl rfl rfl ?_
  refine G.getf (pc2 := 4) (q0 := 0) (ci := 4) (k := 0) (v := .ref (a 1)) iX4_writeFrame_X4 kX4_writeFrame_10 rfl rfl (by decide) rfl dX4_writeFrame_1 rfl ?_
  refine G.iload_n (pc2 := 5) (x := p0) dX4_writeFrame_4 rfl rfl rfl ?_
  refine G.aload_n (pc2 := 6) (x := a 0) dX4_writeFrame_5 rfl rfl rfl ?_
  refine G.getf (pc2 := 9) (q0 := 0) (ci := 4) (k := 1) (v := .ref (a 3)) iX4_writeFrame_X4 kX4_writeFrame_19 rfl rfl (by decide) rfl dX4_writeFrame_6 rfl ?_
  refine G.iload_n (pc2 := 10) (x := p0) dX4_writeFrame_9 rfl rfl rfl ?_
  refine G.callVd (pc2 := 13) (i := 3) (j := 8) (q0 := 3) (ci := 1) (As := [.int p0]) (rest := [.int p0, .ref (a 1)]) (ws2 := wX a cI cZ u) (st2 := [.int (vX1_valueOf u.2.1 p0), .int p0, .ref (a 1)]) (c_X1_valueOf (cI := cI) (cZ := cZ) (a 3) (a 4) (a 5) (a 6) (a 7) u.2.1 p0 (h0)) gX4_writeFrame_X1_valueOf rfl rfl rfl ndX1_valueOf ⟨Nat.le_of_ble_eq_true rfl, Nat.le_of_ble_eq_true rfl⟩ ⟨Nat.le_of_ble_eq_true rfl, Nat.le_of_ble_eq_true rfl⟩ rfl rfl (Nat.le_of_ble_eq_true rfl) rfl rfl rfl rfl rfl rfl dX4_writeFrame_10 rfl ?_
  generalize ev_10 : vX1_valueOf u.2.1 p0 = v_10
  refine G.callVd (pc2 := 16) (i := 1) (j := 3) (q0 := 1) (ci := 0) (As := [.int p0, .int v_10]) (rest := []) (ws2 := wX a cI cZ ((sX0_store u.1 p0 v_10), u.2.1, u.2.2.1, u.2.2.2.1, u.2.2.2.2)) (st2 := []) (c_X0_store (cI := cI) (cZ := cZ) (a 1) (a 2) u.1 p0 v_10 (h0)) gX4_writeFrame_X0_store rfl rfl rfl ndX0_store ⟨Nat.le_of_ble_eq_true rfl, Nat.le_of_ble_eq_true rfl⟩ ⟨Nat.le_of_ble_eq_true rfl, Nat.le_of_ble_eq_true rfl⟩ rfl rfl (Nat.le_of_ble_eq_true rfl) rfl rfl rfl rfl rfl rfl dX4_writeFrame_13 rfl ?_
  generalize et_13 : sX0_store u.1 p0 v_10 = t_13
  refine G.aload_n (pc2 := 17) (x := a 0) dX4_writeFrame_16 rfl rfl rfl ?_
  refine G.getf (pc2 := 20) (q0 := 0) (ci := 4) (k := 1) (v := .ref (a 3)) iX4_writeFrame_X4 kX4_writeFrame_19 rfl rfl (by decide) rfl dX4_writeFrame_17 rfl ?_
  refine G.iload_n (pc2 := 21) (x := p0) dX4_writeFrame_20 rfl rfl rfl ?_
  refine G.callVd (pc2 := 24) (i := 3) (j := 8) (q0 := 3) (ci := 1) (As := [.int p0]) (rest := []) (ws2 := wX a cI cZ (t_13, (sX1_markClean u.2.1 p0), u.2.2.1, u.2.2.2.1, u.2.2.2.2)) (st2 := []) (c_X1_markClean (cI := cI) (cZ := cZ) (a 3) (a 4) (a 5) (a 6) (a 7) u.2.1 p0 (h0)) gX4_writeFrame_X1_markClean rfl rfl rfl ndX1_markClean ⟨Nat.le_of_ble_eq_true rfl, Nat.le_of_ble_eq_true rfl⟩ ⟨Nat.le_of_ble_eq_true rfl, Nat.le_of_ble_eq_true rfl⟩ rfl rfl (Nat.le_of_ble_eq_true rfl) rfl rfl rfl rfl rfl rfl dX4_writeFrame_21 rfl ?_
  generalize et_21 : sX1_markClean u.2.1 p0 = t_21
  subst et_21 et_13 ev_10
  exact G.vreturn hR dX4_writeFrame_24 ⟨rfl, congrArg (wX a cI cZ) (rfl)⟩
set_option maxRecDepth 100000 in
set_option maxHeartbeats 4000000 in
theorem c_X4_flush {cI cZ : ClassId} (a : Nat → Nat) (u : SX) (p0 : Int32) (hq : QW u.2.2.1) (hf : FW u.2.1) : Ct yX4_flush wsX4_flush rX4_flush cI cZ [.ref (a 0), .int p0] (wX a cI cZ u) 0 0 (rt (some (vX4_flush u p0)) (wX a cI cZ (sX4_flush u p0))) := by
  refine Ct.of (cc := cX4_flush) (nL := 3) (own := RX4) (by decide) rfl rfl (Nat.le_of_ble_eq_true rfl) rfl ?_
  intro K hR hN
  refine G.iload_n (pc2 := 1) (x := p0) dX4_flush_0 rfl rfl rfl ?_
  refine G.callSd (pc2 := 4) (i := 0) (j := 0) (As := [.int p0]) (rest := []) (ws2 := wX a cI cZ u) (st2 := [.int (vX4_isPage p0)]) (c_X4_isPage (cI := cI) (cZ := cZ) p0) gX4_flush_X4_isPage rfl rfl rfl ndX4_isPage.2 ⟨Nat.le_of_ble_eq_true rfl, Nat.le_of_ble_eq_true rfl⟩ ⟨Nat.le_of_ble_eq_true rfl, Nat.le_of_ble_eq_true rfl⟩ rfl rfl (Nat.le_of_ble_eq_true rfl) rfl rfl rfl dX4_flush_1 rfl ?_
  generalize ev_1 : vX4_isPage p0 = v_1
  refine G.if_ne (pc2 := 7) (tgt := 9) dX4_flush_4 rfl rfl (fun c_4 => ?_) (fun c_4 => ?_)
  · refine G.aload_n (pc2 := 10) (x := a 0) dX4_flush_9 rfl rfl rfl ?_
    refine G.getf (pc2 := 13) (q0 := 0) (ci := 4) (k := 1) (v := .ref (a 3)) iX4_flush_X4 kX4_flush_19 rfl rfl (by decide) rfl dX4_flush_10 rfl ?_
    refine G.iload_n (pc2 := 14) (x := p0) dX4_flush_13 rfl rfl rfl ?_
    refine G.callVd (pc2 := 17) (i := 3) (j := 8) (q0 := 3) (ci := 1) (As := [.int p0]) (rest := []) (ws2 := wX a cI cZ u) (st2 := [.int (vX1_isChanged u.2.1 p0)]) (c_X1_isChanged (cI := cI) (cZ := cZ) (a 3) (a 4) (a 5) (a 6) (a 7) u.2.1 p0 (by subst ev_1; exact (pgX c_4)) (hf)) gX4_flush_X1_isChanged rfl rfl rfl ndX1_isChanged ⟨Nat.le_of_ble_eq_true rfl, Nat.le_of_ble_eq_true rfl⟩ ⟨Nat.le_of_ble_eq_true rfl, Nat.le_of_ble_eq_true rfl⟩ rfl rfl (Nat.le_of_ble_eq_true rfl) rfl rfl rfl rfl rfl rfl dX4_flush_14 rfl ?_
    generalize ev_14 : vX1_isChanged u.2.1 p0 = v_14
    refine G.if_eq (pc2 := 20) (tgt := 27) dX4_flush_17 rfl rfl (fun c_17 => ?_) (fun c_17 => ?_)
    · refine G.aload_n (pc2 := 28) (x := a 0) dX4_flush_27 rfl rfl rfl ?_
      refine G.getf (pc2 := 31) (q0 := 0) (ci := 4) (k := 2) (v := .ref (a 8)) iX4_flush_X4 kX4_flush_26 rfl rfl (by decide) rfl dX4_flush_28 rfl ?_
      refine G.iload_n (pc2 := 32) (x := p0) dX4_flush_31 rfl rfl rfl ?_
      refine G.callVd (pc2 := 35) (i := 8) (j := 11) (q0 := 8) (ci := 3) (As := [.int p0]) (rest := []) (ws2 := wX a cI cZ u) (st2 := [.int (vX3_positionOf u.2.2.1 p0)]) (c_X3_positionOf (cI := cI) (cZ := cZ) (a 8) (a 9) (a 10) u.2.2.1 p0 (hq)) gX4_flush_X3_positionOf rfl rfl rfl ndX3_positionOf ⟨Nat.le_of_ble_eq_true rfl, Nat.le_of_ble_eq_true rfl⟩ ⟨Nat.le_of_ble_eq_true rfl, Nat.le_of_ble_eq_true rfl⟩ rfl rfl (Nat.le_of_ble_eq_true rfl) rfl rfl rfl rfl rfl rfl dX4_flush_32 rfl ?_
      generalize ev_32 : vX3_positionOf u.2.2.1 p0 = v_32
      refine G.istore_n (pc2 := 36) (lv2 := [(0, .ref (a 0)), (1, .int p0), (2, .int v_32)]) [1, 2, 0] dX4_flush_35 rfl (by decide) rfl rfl ?_
      refine G.iload_n (pc2 := 37) (x := v_32) dX4_flush_36 rfl rfl rfl ?_
      refine G.bipush (pc2 := 39) (v := (-9)) dX4_flush_37 (by decide) rfl ?_
      refine G.icmp_ne (pc2 := 42) (tgt := 44) dX4_flush_39 rfl rfl (fun c_39 => ?_) (fun c_39 => ?_)
      · refine G.aload_n (pc2 := 45) (x := a 0) dX4_flush_44 rfl rfl rfl ?_
        refine G.iload_n (pc2 := 46) (x := v_32) dX4_flush_45 rfl rfl rfl ?_
        refine G.callVd (pc2 := 49) (i := 0) (j := 14) (q0 := 0) (ci := 4) (As := [.int v_32]) (rest := []) (ws2 := wX a cI cZ (sX4_writeEntry u v_32)) (st2 := []) (c_X4_writeEntry (cI := cI) (cZ := cZ) a u v_32 (hq)) gX4_flush_X4_writeEntry rfl rfl rfl ndX4_writeEntry ⟨Nat.le_of_ble_eq_true rfl, Nat.le_of_ble_eq_true rfl⟩ ⟨Nat.le_of_ble_eq_true rfl, Nat.le_of_ble_eq_true rfl⟩ rfl rfl (Nat.le_of_ble_eq_true rfl) rfl rfl rfl rfl rfl rfl dX4_flush_46 rfl ?_
        generalize et_46 : sX4_writeEntry u v_32 = t_46
        refine G.iconst (pc2 := 50) (v := 1) dX4_flush_49 (by decide) rfl ?_
        subst et_46 ev_32 ev_14 ev_1
        exact G.ireturn hR (rfl) dX4_flush_50 ⟨congrArg some (by simp only [vX4_flush, if_neg c_4, if_pos c_17, if_neg c_39]), congrArg (wX a cI cZ) (by simp only [sX4_flush, if_neg c_4, if_pos c_17, if_neg c_39])⟩
      · refine G.iconst (pc2 := 43) (v := 0) dX4_flush_42 (by decide) rfl ?_
        subst ev_32 ev_14 ev_1
        exact G.ireturn hR (rfl) dX4_flush_43 ⟨congrArg some (by simp only [vX4_flush, if_neg c_4, if_pos c_17, if_pos c_39]), congrArg (wX a cI cZ) (by simp only [sX4_flush, if_neg c_4, if_pos c_17, if_pos c_39])⟩
    · refine G.aload_n (pc2 := 21) (x := a 0) dX4_flush_20 rfl rfl rfl ?_
      refine G.iload_n (pc2 := 22) (x := p0) dX4_flush_21 rfl rfl rfl ?_
      refine G.callVd (pc2 := 25) (i := 0) (j := 14) (q0 := 0) (ci := 4) (As := [.int p0]) (rest := []) (ws2 := wX a cI cZ (sX4_writeFrame u p0)) (st2 := []) (c_X4_writeFrame (cI := cI) (cZ := cZ) a u p0 (by subst ev_14 ev_1; exact (pgX c_4))) gX4_flush_X4_writeFrame rfl rfl rfl ndX4_writeFrame ⟨Nat.le_of_ble_eq_true rfl, Nat.le_of_ble_eq_true rfl⟩ ⟨Nat.le_of_ble_eq_true rfl, Nat.le_of_ble_eq_true rfl⟩ rfl rfl (Nat.le_of_ble_eq_true rfl) rfl rfl rfl rfl rfl rfl dX4_flush_22 rfl ?_
      generalize et_22 : sX4_writeFrame u p0 = t_22
      refine G.iconst (pc2 := 26) (v := 1) dX4_flush_25 (by decide) rfl ?_
      subst et_22 ev_14 ev_1
      exact G.ireturn hR (rfl) dX4_flush_26 ⟨congrArg some (by simp only [vX4_flush, if_neg c_4, if_neg c_17]), congrArg (wX a cI cZ) (by simp only [sX4_flush, if_neg c_4, if_neg c_17])⟩
  · refine G.iconst (pc2 := 8) (v := (-1)) dX4_flush_7 (by decide) rfl ?_
    subst ev_1
    exact G.ireturn hR (rfl) dX4_flush_8 ⟨congrArg some (by simp only [vX4_flush, if_pos c_4]), congrArg (wX a cI cZ) (by simp only [sX4_flush, if_pos c_4])⟩
set_option maxRecDepth 100000 in
set_option maxHeartbeats 4000000 in
theorem c_X4_writeOldest {cI cZ : ClassId} (a : Nat → Nat) (u : SX) (p0 : Int32) (hq : QW u.2.2.1) (hc : Sm p0) : Ct yX4_writeOldest wsX4_writeOldest rX4_writeOldest cI cZ [.ref (a 0), .int p0] (wX a cI cZ u) 0 0 (rt (some (vX4_writeOldest u p0)) (wX a cI cZ (sX4_writeOldest u p0))) := by
  refine Ct.of (cc := cX4_writeOldest) (nL := 4) (own := RX4) (by decide) rfl rfl (Nat.le_of_ble_eq_true rfl) rfl ?_
  intro K hR hN
  have loop14 : ∀ (n : Nat) (w : SX) (l2 l3 : Int32), OI n l2 l3 ∧ QW w.2.2.1 → vX4_writeOldest u p0 = lvX4_writeOldest_14 p0 n w l2 l3 → sX4_writeOldest u p0 = lsX4_writeOldest_14 p0 n w l2 l3 → G K cI cZ cX4_writeOldest 4 RX4 wsX4_writeOldest rX4_writeOldest 0 0 (wX a cI cZ w) 14 [(0, .ref (a 0)), (1, .int p0), (2, .int l2), (3, .int l3)] [] := by
    intro n
    induction n with
    | zero =>
      intro w l2 l3 hi hv hs
      exact absurd hi (fun h => OI.zero h.1)
    | succ n ih =>
      intro w l2 l3 hi hv hs
      refine G.iload_n (pc2 := 15) (x := l3) dX4_writeOldest_14 rfl rfl rfl ?_
      refine G.iload_n (pc2 := 16) (x := l2) dX4_writeOldest_15 rfl rfl rfl ?_
      refine G.icmp_ge (pc2 := 19) (tgt := 30) dX4_writeOldest_16 rfl rfl (fun c_16 => ?_) (fun c_16 => ?_)
      · refine G.iload_n (pc2 := 31) (x := l2) dX4_writeOldest_30 rfl rfl rfl ?_
        exact G.ireturn hR (rfl) dX4_writeOldest_31 ⟨congrArg some (by rw [hv]; simp only [lvX4_writeOldest_14, if_neg c_16]), congrArg (wX a cI cZ) (by rw [hs]; simp only [lsX4_writeOldest_14, if_neg c_16])⟩
      · refine G.aload_n (pc2 := 20) (x := a 0) dX4_writeOldest_19 rfl rfl rfl ?_
        refine G.iconst (pc2 := 21) (v := 0) dX4_writeOldest_20 (by decide) rfl ?_
        refine G.callVd (pc2 := 24) (i := 0) (j := 14) (q0 := 0) (ci := 4) (As := [.int 0]) (rest := []) (ws2 := wX a cI cZ (sX4_writeEntry w 0)) (st2 := []) (c_X4_writeEntry (cI := cI) (cZ := cZ) a w 0 (hi.2)) gX4_writeOldest_X4_writeEntry rfl rfl rfl ndX4_writeEntry ⟨Nat.le_of_ble_eq_true rfl, Nat.le_of_ble_eq_true rfl⟩ ⟨Nat.le_of_ble_eq_true rfl, Nat.le_of_ble_eq_true rfl⟩ rfl rfl (Nat.le_of_ble_eq_true rfl) rfl rfl rfl rfl rfl rfl dX4_writeOldest_21 rfl ?_
        generalize et_21 : sX4_writeEntry w 0 = t_21
        refine G.iinc (pc2 := 27) (k := 3) (v := l3 + 1) (lv2 := [(0, .ref (a 0)), (1, .int p0), (2, .int l2), (3, .int (l3 + 1))]) [1, 2, 3, 0] dX4_writeOldest_24 rfl rfl (by decide) rfl rfl ?_
        refine G.goto (tgt := 14) dX4_writeOldest_27 rfl ?_
        subst et_21
        exact ih  (sX4_writeEntry w 0) l2 (l3 + 1) (⟨OI.next hi.1 c_16, qw_writeEntry hi.2⟩) (by rw [hv]; simp only [lvX4_writeOldest_14, if_pos c_16]) (by rw [hs]; simp only [lsX4_writeOldest_14, if_pos c_16])
  refine G.iload_n (pc2 := 1) (x := p0) dX4_writeOldest_0 rfl rfl rfl ?_
  refine G.aload_n (pc2 := 2) (x := a 0) dX4_writeOldest_1 rfl rfl rfl ?_
  refine G.getf (pc2 := 5) (q0 := 0) (ci := 4) (k := 2) (v := .ref (a 8)) iX4_writeOldest_X4 kX4_writeOldest_26 rfl rfl (by decide) rfl dX4_writeOldest_2 rfl ?_
  refine G.callVd (pc2 := 8) (i := 8) (j := 11) (q0 := 8) (ci := 3) (As := []) (rest := [.int p0]) (ws2 := wX a cI cZ u) (st2 := [.int (vX3_length u.2.2.1), .int p0]) (c_X3_length (cI := cI) (cZ := cZ) (a 8) (a 9) (a 10) u.2.2.1) gX4_writeOldest_X3_length rfl rfl rfl ndX3_length ⟨Nat.le_of_ble_eq_true rfl, Nat.le_of_ble_eq_true rfl⟩ ⟨Nat.le_of_ble_eq_true rfl, Nat.le_of_ble_eq_true rfl⟩ rfl rfl (Nat.le_of_ble_eq_true rfl) rfl rfl rfl rfl rfl rfl dX4_writeOldest_5 rfl ?_
  generalize ev_5 : vX3_length u.2.2.1 = v_5
  refine G.mmin (pc2 := 11) (v := if v_5 < p0 then v_5 else p0) (by decide +kernel) (by decide +kernel) (by decide +kernel) (by decide +kernel) ⟨Nat.le_of_ble_eq_true rfl, Nat.le_of_ble_eq_true rfl⟩ ⟨Nat.le_of_ble_eq_true rfl, Nat.le_of_ble_eq_true rfl⟩ rfl dX4_writeOldest_8 rfl ?_
  refine G.istore_n (pc2 := 12) (lv2 := [(0, .ref (a 0)), (1, .int p0), (2, .int (if v_5 < p0 then v_5 else p0))]) [1, 2, 0] dX4_writeOldest_11 rfl (by decide) rfl rfl ?_
  refine G.iconst (pc2 := 13) (v := 0) dX4_writeOldest_12 (by decide) rfl ?_
  refine G.istore_n (pc2 := 14) (lv2 := [(0, .ref (a 0)), (1, .int p0), (2, .int (if v_5 < p0 then v_5 else p0)), (3, .int 0)]) [1, 2, 3, 0] dX4_writeOldest_13 rfl (by decide) rfl rfl ?_
  subst ev_5
  exact loop14 9 u (if (vX3_length u.2.2.1) < p0 then (vX3_length u.2.2.1) else p0) 0 (⟨OI.start hc hq, hq⟩) (rfl) (rfl)
set_option maxRecDepth 100000 in
set_option maxHeartbeats 4000000 in
theorem c_X4_flushAll {cI cZ : ClassId} (a : Nat → Nat) (u : SX) (hq : QW u.2.2.1) (hf : FW u.2.1) : Ct yX4_flushAll wsX4_flushAll rX4_flushAll cI cZ [.ref (a 0)] (wX a cI cZ u) 0 0 (rt (some (vX4_flushAll u)) (wX a cI cZ (sX4_flushAll u))) := by
  refine Ct.of (cc := cX4_flushAll) (nL := 3) (own := RX4) (by decide) rfl rfl (Nat.le_of_ble_eq_true rfl) rfl ?_
  intro K hR hN
  have loop14 : ∀ (n : Nat) (w : SX) (l1 l2 : Int32), PI n l2 ∧ FW w.2.1 → vX4_flushAll u = lvX4_flushAll_14 n w l1 l2 → sX4_flushAll u = lsX4_flushAll_14 n w l1 l2 → G K cI cZ cX4_flushAll 3 RX4 wsX4_flushAll rX4_flushAll 0 0 (wX a cI cZ w) 14 [(0, .ref (a 0)), (1, .int l1), (2, .int l2)] [] := by
    intro n
    induction n with
    | zero =>
      intro w l1 l2 hi hv hs
      exact absurd hi (fun h => PI.zero h.1)
    | succ n ih =>
      intro w l1 l2 hi hv hs
      refine G.iload_n (pc2 := 15) (x := l2) dX4_flushAll_14 rfl rfl rfl ?_
      refine G.bipush (pc2 := 17) (v := 64) dX4_flushAll_15 (by decide) rfl ?_
      refine G.icmp_ge (pc2 := 20) (tgt := 45) dX4_flushAll_17 rfl rfl (fun c_17 => ?_) (fun c_17 => ?_)
      · refine G.iload_n (pc2 := 46) (x := l1) dX4_flushAll_45 rfl rfl rfl ?_
        exact G.ireturn hR (rfl) dX4_flushAll_46 ⟨congrArg some (by rw [hv]; simp only [lvX4_flushAll_14, if_neg c_17]), congrArg (wX a cI cZ) (by rw [hs]; simp only [lsX4_flushAll_14, if_neg c_17])⟩
      · refine G.aload_n (pc2 := 21) (x := a 0) dX4_flushAll_20 rfl rfl rfl ?_
        refine G.getf (pc2 := 24) (q0 := 0) (ci := 4) (k := 1) (v := .ref (a 3)) iX4_flushAll_X4 kX4_flushAll_19 rfl rfl (by decide) rfl dX4_flushAll_21 rfl ?_
        refine G.iload_n (pc2 := 25) (x := l2) dX4_flushAll_24 rfl rfl rfl ?_
        refine G.callVd (pc2 := 28) (i := 3) (j := 8) (q0 := 3) (ci := 1) (As := [.int l2]) (rest := []) (ws2 := wX a cI cZ w) (st2 := [.int (vX1_isChanged w.2.1 l2)]) (c_X1_isChanged (cI := cI) (cZ := cZ) (a 3) (a 4) (a 5) (a 6) (a 7) w.2.1 l2 (PI.pg hi.1 c_17) (hi.2)) gX4_flushAll_X1_isChanged rfl rfl rfl ndX1_isChanged ⟨Nat.le_of_ble_eq_true rfl, Nat.le_of_ble_eq_true rfl⟩ ⟨Nat.le_of_ble_eq_true rfl, Nat.le_of_ble_eq_true rfl⟩ rfl rfl (Nat.le_of_ble_eq_true rfl) rfl rfl rfl rfl rfl rfl dX4_flushAll_25 rfl ?_
        generalize ev_25 : vX1_isChanged w.2.1 l2 = v_25
        refine G.if_eq (pc2 := 31) (tgt := 39) dX4_flushAll_28 rfl rfl (fun c_28 => ?_) (fun c_28 => ?_)
        · refine G.iinc (pc2 := 42) (k := 2) (v := l2 + 1) (lv2 := [(0, .ref (a 0)), (1, .int l1), (2, .int (l2 + 1))]) [1, 2, 0] dX4_flushAll_39 rfl rfl (by decide) rfl rfl ?_
          refine G.goto (tgt := 14) dX4_flushAll_42 rfl ?_
          subst ev_25
          exact ih  w l1 (l2 + 1) (⟨PI.next hi.1 c_17, by first | exact hi.2 | exact fw_writeFrame hi.2⟩) (by rw [hv]; simp only [lvX4_flushAll_14, if_pos c_17, if_pos c_28]) (by rw [hs]; simp only [lsX4_flushAll_14, if_pos c_17, if_pos c_28])
        · refine G.aload_n (pc2 := 32) (x := a 0) dX4_flushAll_31 rfl rfl rfl ?_
          refine G.iload_n (pc2 := 33) (x := l2) dX4_flushAll_32 rfl rfl rfl ?_
          refine G.callVd (pc2 := 36) (i := 0) (j := 14) (q0 := 0) (ci := 4) (As := [.int l2]) (rest := []) (ws2 := wX a cI cZ (sX4_writeFrame w l2)) (st2 := []) (c_X4_writeFrame (cI := cI) (cZ := cZ) a w l2 (by subst ev_25; exact (PI.pg hi.1 c_17))) gX4_flushAll_X4_writeFrame rfl rfl rfl ndX4_writeFrame ⟨Nat.le_of_ble_eq_true rfl, Nat.le_of_ble_eq_true rfl⟩ ⟨Nat.le_of_ble_eq_true rfl, Nat.le_of_ble_eq_true rfl⟩ rfl rfl (Nat.le_of_ble_eq_true rfl) rfl rfl rfl rfl rfl rfl dX4_flushAll_33 rfl ?_
          generalize et_33 : sX4_writeFrame w l2 = t_33
          refine G.iinc (pc2 := 39) (k := 1) (v := l1 + 1) (lv2 := [(0, .ref (a 0)), (1, .int (l1 + 1)), (2, .int l2)]) [1, 0, 2] dX4_flushAll_36 rfl rfl (by decide) rfl rfl ?_
          refine G.iinc (pc2 := 42) (k := 2) (v := l2 + 1) (lv2 := [(0, .ref (a 0)), (1, .int (l1 + 1)), (2, .int (l2 + 1))]) [1, 2, 0] dX4_flushAll_39 rfl rfl (by decide) rfl rfl ?_
          refine G.goto (tgt := 14) dX4_flushAll_42 rfl ?_
          subst et_33 ev_25
          exact ih  (sX4_writeFrame w l2) (l1 + 1) (l2 + 1) (⟨PI.next hi.1 c_17, by first | exact hi.2 | exact fw_writeFrame hi.2⟩) (by rw [hv]; simp only [lvX4_flushAll_14, if_pos c_17, if_neg c_28]) (by rw [hs]; simp only [lsX4_flushAll_14, if_pos c_17, if_neg c_28])
  refine G.aload_n (pc2 := 1) (x := a 0) dX4_flushAll_0 rfl rfl rfl ?_
  refine G.aload_n (pc2 := 2) (x := a 0) dX4_flushAll_1 rfl rfl rfl ?_
  refine G.getf (pc2 := 5) (q0 := 0) (ci := 4) (k := 2) (v := .ref (a 8)) iX4_flushAll_X4 kX4_flushAll_26 rfl rfl (by decide) rfl dX4_flushAll_2 rfl ?_
  refine G.callVd (pc2 := 8) (i := 8) (j := 11) (q0 := 8) (ci := 3) (As := []) (rest := [.ref (a 0)]) (ws2 := wX a cI cZ u) (st2 := [.int (vX3_length u.2.2.1), .ref (a 0)]) (c_X3_length (cI := cI) (cZ := cZ) (a 8) (a 9) (a 10) u.2.2.1) gX4_flushAll_X3_length rfl rfl rfl ndX3_length ⟨Nat.le_of_ble_eq_true rfl, Nat.le_of_ble_eq_true rfl⟩ ⟨Nat.le_of_ble_eq_true rfl, Nat.le_of_ble_eq_true rfl⟩ rfl rfl (Nat.le_of_ble_eq_true rfl) rfl rfl rfl rfl rfl rfl dX4_flushAll_5 rfl ?_
  generalize ev_5 : vX3_length u.2.2.1 = v_5
  refine G.callVd (pc2 := 11) (i := 0) (j := 14) (q0 := 0) (ci := 4) (As := [.int v_5]) (rest := []) (ws2 := wX a cI cZ (sX4_writeOldest u v_5)) (st2 := [.int (vX4_writeOldest u v_5)]) (c_X4_writeOldest (cI := cI) (cZ := cZ) a u v_5 (hq) (by subst ev_5; exact (qwSm hq))) gX4_flushAll_X4_writeOldest rfl rfl rfl ndX4_writeOldest ⟨Nat.le_of_ble_eq_true rfl, Nat.le_of_ble_eq_true rfl⟩ ⟨Nat.le_of_ble_eq_true rfl, Nat.le_of_ble_eq_true rfl⟩ rfl rfl (Nat.le_of_ble_eq_true rfl) rfl rfl rfl rfl rfl rfl dX4_flushAll_8 rfl ?_
  generalize ev_8 : vX4_writeOldest u v_5 = v_8
  generalize et_8 : sX4_writeOldest u v_5 = t_8
  refine G.istore_n (pc2 := 12) (lv2 := [(0, .ref (a 0)), (1, .int v_8)]) [1, 0] dX4_flushAll_11 rfl (by decide) rfl rfl ?_
  refine G.iconst (pc2 := 13) (v := 0) dX4_flushAll_12 (by decide) rfl ?_
  refine G.istore_n (pc2 := 14) (lv2 := [(0, .ref (a 0)), (1, .int v_8), (2, .int 0)]) [1, 2, 0] dX4_flushAll_13 rfl (by decide) rfl rfl ?_
  subst et_8 ev_8 ev_5
  exact loop14 65 (sX4_writeOldest u (vX3_length u.2.2.1)) (vX4_writeOldest u (vX3_length u.2.2.1)) 0 (⟨PI.start, fw_writeOldest hf⟩) (rfl) (rfl)
set_option maxRecDepth 100000 in
set_option maxHeartbeats 4000000 in
theorem c_X4_drain {cI cZ : ClassId} (a : Nat → Nat) (u : SX) (p0 : Int32) (hq : QW u.2.2.1) : Ct yX4_drain wsX4_drain rX4_drain cI cZ [.ref (a 0), .int p0] (wX a cI cZ u) 0 0 (rt (some (vX4_drain u p0)) (wX a cI cZ (sX4_drain u p0))) := by
  refine Ct.of (cc := cX4_drain) (nL := 2) (own := RX4) (by decide) rfl rfl (Nat.le_of_ble_eq_true rfl) rfl ?_
  intro K hR hN
  refine G.iload_n (pc2 := 1) (x := p0) dX4_drain_0 rfl rfl rfl ?_
  refine G.iconst (pc2 := 2) (v := 0) dX4_drain_1 (by decide) rfl ?_
  refine G.bipush (pc2 := 4) (v := 8) dX4_drain_2 (by decide) rfl ?_
  refine G.callSd (pc2 := 7) (i := 0) (j := 0) (As := [.int p0, .int 0, .int 8]) (rest := []) (ws2 := wX a cI cZ u) (st2 := [.int (vX4_isWithin p0 0 8)]) (c_X4_isWithin (cI := cI) (cZ := cZ) p0 0 8) gX4_drain_X4_isWithin rfl rfl rfl ndX4_isWithin.2 ⟨Nat.le_of_ble_eq_true rfl, Nat.le_of_ble_eq_true rfl⟩ ⟨Nat.le_of_ble_eq_true rfl, Nat.le_of_ble_eq_true rfl⟩ rfl rfl (Nat.le_of_ble_eq_true rfl) rfl rfl rfl dX4_drain_4 rfl ?_
  generalize ev_4 : vX4_isWithin p0 0 8 = v_4
  refine G.if_ne (pc2 := 10) (tgt := 13) dX4_drain_7 rfl rfl (fun c_7 => ?_) (fun c_7 => ?_)
  · refine G.aload_n (pc2 := 14) (x := a 0) dX4_drain_13 rfl rfl rfl ?_
    refine G.iload_n (pc2 := 15) (x := p0) dX4_drain_14 rfl rfl rfl ?_
    refine G.callVd (pc2 := 18) (i := 0) (j := 14) (q0 := 0) (ci := 4) (As := [.int p0]) (rest := []) (ws2 := wX a cI cZ (sX4_writeOldest u p0)) (st2 := [.int (vX4_writeOldest u p0)]) (c_X4_writeOldest (cI := cI) (cZ := cZ) a u p0 (hq) (by subst ev_4; exact (smX c_7))) gX4_drain_X4_writeOldest rfl rfl rfl ndX4_writeOldest ⟨Nat.le_of_ble_eq_true rfl, Nat.le_of_ble_eq_true rfl⟩ ⟨Nat.le_of_ble_eq_true rfl, Nat.le_of_ble_eq_true rfl⟩ rfl rfl (Nat.le_of_ble_eq_true rfl) rfl rfl rfl rfl rfl rfl dX4_drain_15 rfl ?_
    generalize ev_15 : vX4_writeOldest u p0 = v_15
    generalize et_15 : sX4_writeOldest u p0 = t_15
    subst et_15 ev_15 ev_4
    exact G.ireturn hR (rfl) dX4_drain_18 ⟨congrArg some (by simp only [vX4_drain, if_neg c_7]), congrArg (wX a cI cZ) (by simp only [sX4_drain, if_neg c_7])⟩
  · refine G.bipush (pc2 := 12) (v := (-8)) dX4_drain_10 (by decide) rfl ?_
    subst ev_4
    exact G.ireturn hR (rfl) dX4_drain_12 ⟨congrArg some (by simp only [vX4_drain, if_pos c_7]), congrArg (wX a cI cZ) (by simp only [sX4_drain, if_pos c_7])⟩
set_option maxRecDepth 100000 in
set_option maxHeartbeats 4000000 in
theorem c_X4_discard {cI cZ : ClassId} (a : Nat → Nat) (u : SX) (p0 : Int32) (hq : QW u.2.2.1) (hf : FW u.2.1) : Ct yX4_discard wsX4_discard rX4_discard cI cZ [.ref (a 0), .int p0] (wX a cI cZ u) 0 0 (rt (some (vX4_discard u p0)) (wX a cI cZ (sX4_discard u p0))) := by
  refine Ct.of (cc := cX4_discard) (nL := 3) (own := RX4) (by decide) rfl rfl (Nat.le_of_ble_eq_true rfl) rfl ?_
  intro K hR hN
  refine G.iload_n (pc2 := 1) (x := p0) dX4_discard_0 rfl rfl rfl ?_
  refine G.callSd (pc2 := 4) (i := 0) (j := 0) (As := [.int p0]) (rest := []) (ws2 := wX a cI cZ u) (st2 := [.int (vX4_isPage p0)]) (c_X4_isPage (cI := cI) (cZ := cZ) p0) gX4_discard_X4_isPage rfl rfl rfl ndX4_isPage.2 ⟨Nat.le_of_ble_eq_true rfl, Nat.le_of_ble_eq_true rfl⟩ ⟨Nat.le_of_ble_eq_true rfl, Nat.le_of_ble_eq_true rfl⟩ rfl rfl (Nat.le_of_ble_eq_true rfl) rfl rfl rfl dX4_discard_1 rfl ?_
  generalize ev_1 : vX4_isPage p0 = v_1
  refine G.if_ne (pc2 := 7) (tgt := 9) dX4_discard_4 rfl rfl (fun c_4 => ?_) (fun c_4 => ?_)
  · refine G.aload_n (pc2 := 10) (x := a 0) dX4_discard_9 rfl rfl rfl ?_
    refine G.getf (pc2 := 13) (q0 := 0) (ci := 4) (k := 1) (v := .ref (a 3)) iX4_discard_X4 kX4_discard_19 rfl rfl (by decide) rfl dX4_discard_10 rfl ?_
    refine G.iload_n (pc2 := 14) (x := p0) dX4_discard_13 rfl rfl rfl ?_
    refine G.callVd (pc2 := 17) (i := 3) (j := 8) (q0 := 3) (ci := 1) (As := [.int p0]) (rest := []) (ws2 := wX a cI cZ u) (st2 := [.int (vX1_pinsOf u.2.1 p0)]) (c_X1_pinsOf (cI := cI) (cZ := cZ) (a 3) (a 4) (a 5) (a 6) (a 7) u.2.1 p0 (by subst ev_1; exact (pgX c_4))) gX4_discard_X1_pinsOf rfl rfl rfl ndX1_pinsOf ⟨Nat.le_of_ble_eq_true rfl, Nat.le_of_ble_eq_true rfl⟩ ⟨Nat.le_of_ble_eq_true rfl, Nat.le_of_ble_eq_true rfl⟩ rfl rfl (Nat.le_of_ble_eq_true rfl) rfl rfl rfl rfl rfl rfl dX4_discard_14 rfl ?_
    generalize ev_14 : vX1_pinsOf u.2.1 p0 = v_14
    refine G.if_le (pc2 := 20) (tgt := 23) dX4_discard_17 rfl rfl (fun c_17 => ?_) (fun c_17 => ?_)
    · refine G.aload_n (pc2 := 24) (x := a 0) dX4_discard_23 rfl rfl rfl ?_
      refine G.getf (pc2 := 27) (q0 := 0) (ci := 4) (k := 3) (v := .ref (a 11)) iX4_discard_X4 kX4_discard_33 rfl rfl (by decide) rfl dX4_discard_24 rfl ?_
      refine G.iload_n (pc2 := 28) (x := p0) dX4_discard_27 rfl rfl rfl ?_
      refine G.callVd (pc2 := 31) (i := 11) (j := 14) (q0 := 11) (ci := 2) (As := [.int p0]) (rest := []) (ws2 := wX a cI cZ (u.1, u.2.1, u.2.2.1, (sX2_forget u.2.2.2.1 p0), u.2.2.2.2)) (st2 := []) (c_X2_forget (cI := cI) (cZ := cZ) (a 11) (a 12) (a 13) u.2.2.2.1 p0 (by subst ev_14 ev_1; exact (pgX c_4))) gX4_discard_X2_forget rfl rfl rfl ndX2_forget ⟨Nat.le_of_ble_eq_true rfl, Nat.le_of_ble_eq_true rfl⟩ ⟨Nat.le_of_ble_eq_true rfl, Nat.le_of_ble_eq_true rfl⟩ rfl rfl (Nat.le_of_ble_eq_true rfl) rfl rfl rfl rfl rfl rfl dX4_discard_28 rfl ?_
      generalize et_28 : sX2_forget u.2.2.2.1 p0 = t_28
      refine G.aload_n (pc2 := 32) (x := a 0) dX4_discard_31 rfl rfl rfl ?_
      refine G.getf (pc2 := 35) (q0 := 0) (ci := 4) (k := 1) (v := .ref (a 3)) iX4_discard_X4 kX4_discard_19 rfl rfl (by decide) rfl dX4_discard_32 rfl ?_
      refine G.iload_n (pc2 := 36) (x := p0) dX4_discard_35 rfl rfl rfl ?_
      refine G.callVd (pc2 := 39) (i := 3) (j := 8) (q0 := 3) (ci := 1) (As := [.int p0]) (rest := []) (ws2 := wX a cI cZ (u.1, u.2.1, u.2.2.1, t_28, u.2.2.2.2)) (st2 := [.int (vX1_holds u.2.1 p0)]) (c_X1_holds (cI := cI) (cZ := cZ) (a 3) (a 4) (a 5) (a 6) (a 7) u.2.1 p0 (by subst et_28 ev_14 ev_1; exact (pgX c_4)) (hf)) gX4_discard_X1_holds rfl rfl rfl ndX1_holds ⟨Nat.le_of_ble_eq_true rfl, Nat.le_of_ble_eq_true rfl⟩ ⟨Nat.le_of_ble_eq_true rfl, Nat.le_of_ble_eq_true rfl⟩ rfl rfl (Nat.le_of_ble_eq_true rfl) rfl rfl rfl rfl rfl rfl dX4_discard_36 rfl ?_
      generalize ev_36 : vX1_holds u.2.1 p0 = v_36
      refine G.if_eq (pc2 := 42) (tgt := 52) dX4_discard_39 rfl rfl (fun c_39 => ?_) (fun c_39 => ?_)
      · refine G.aload_n (pc2 := 53) (x := a 0) dX4_discard_52 rfl rfl rfl ?_
        refine G.getf (pc2 := 56) (q0 := 0) (ci := 4) (k := 2) (v := .ref (a 8)) iX4_discard_X4 kX4_discard_26 rfl rfl (by decide) rfl dX4_discard_53 rfl ?_
        refine G.iload_n (pc2 := 57) (x := p0) dX4_discard_56 rfl rfl rfl ?_
        refine G.callVd (pc2 := 60) (i := 8) (j := 11) (q0 := 8) (ci := 3) (As := [.int p0]) (rest := []) (ws2 := wX a cI cZ (u.1, u.2.1, u.2.2.1, t_28, u.2.2.2.2)) (st2 := [.int (vX3_positionOf u.2.2.1 p0)]) (c_X3_positionOf (cI := cI) (cZ := cZ) (a 8) (a 9) (a 10) u.2.2.1 p0 (hq)) gX4_discard_X3_positionOf rfl rfl rfl ndX3_positionOf ⟨Nat.le_of_ble_eq_true rfl, Nat.le_of_ble_eq_true rfl⟩ ⟨Nat.le_of_ble_eq_true rfl, Nat.le_of_ble_eq_true rfl⟩ rfl rfl (Nat.le_of_ble_eq_true rfl) rfl rfl rfl rfl rfl rfl dX4_discard_57 rfl ?_
        generalize ev_57 : vX3_positionOf u.2.2.1 p0 = v_57
        refine G.istore_n (pc2 := 61) (lv2 := [(0, .ref (a 0)), (1, .int p0), (2, .int v_57)]) [1, 2, 0] dX4_discard_60 rfl (by decide) rfl rfl ?_
        refine G.iload_n (pc2 := 62) (x := v_57) dX4_discard_61 rfl rfl rfl ?_
        refine G.bipush (pc2 := 64) (v := (-9)) dX4_discard_62 (by decide) rfl ?_
        refine G.icmp_ne (pc2 := 67) (tgt := 69) dX4_discard_64 rfl rfl (fun c_64 => ?_) (fun c_64 => ?_)
        · refine G.aload_n (pc2 := 70) (x := a 0) dX4_discard_69 rfl rfl rfl ?_
          refine G.getf (pc2 := 73) (q0 := 0) (ci := 4) (k := 2) (v := .ref (a 8)) iX4_discard_X4 kX4_discard_26 rfl rfl (by decide) rfl dX4_discard_70 rfl ?_
          refine G.iload_n (pc2 := 74) (x := v_57) dX4_discard_73 rfl rfl rfl ?_
          refine G.callVd (pc2 := 77) (i := 8) (j := 11) (q0 := 8) (ci := 3) (As := [.int v_57]) (rest := []) (ws2 := wX a cI cZ (u.1, u.2.1, (sX3_removeAt u.2.2.1 v_57), t_28, u.2.2.2.2)) (st2 := []) (c_X3_removeAt (cI := cI) (cZ := cZ) (a 8) (a 9) (a 10) u.2.2.1 v_57 (hq)) gX4_discard_X3_removeAt rfl rfl rfl ndX3_removeAt ⟨Nat.le_of_ble_eq_true rfl, Nat.le_of_ble_eq_true rfl⟩ ⟨Nat.le_of_ble_eq_true rfl, Nat.le_of_ble_eq_true rfl⟩ rfl rfl (Nat.le_of_ble_eq_true rfl) rfl rfl rfl rfl rfl rfl dX4_discard_74 rfl ?_
          generalize et_74 : sX3_removeAt u.2.2.1 v_57 = t_74
          refine G.iconst (pc2 := 78) (v := 1) dX4_discard_77 (by decide) rfl ?_
          subst et_74 ev_57 ev_36 et_28 ev_14 ev_1
          exact G.ireturn hR (rfl) dX4_discard_78 ⟨congrArg some (by simp only [vX4_discard, if_neg c_4, if_neg c_17, if_pos c_39, if_neg c_64]), congrArg (wX a cI cZ) (by simp only [sX4_discard, if_neg c_4, if_neg c_17, if_pos c_39, if_neg c_64])⟩
        · refine G.iconst (pc2 := 68) (v := 0) dX4_discard_67 (by decide) rfl ?_
          subst ev_57 ev_36 et_28 ev_14 ev_1
          exact G.ireturn hR (rfl) dX4_discard_68 ⟨congrArg some (by simp only [vX4_discard, if_neg c_4, if_neg c_17, if_pos c_39, if_pos c_64]), congrArg (wX a cI cZ) (by simp only [sX4_discard, if_neg c_4, if_neg c_17, if_pos c_39, if_pos c_64])⟩
      · refine G.aload_n (pc2 := 43) (x := a 0) dX4_discard_42 rfl rfl rfl ?_
        refine G.getf (pc2 := 46) (q0 := 0) (ci := 4) (k := 1) (v := .ref (a 3)) iX4_discard_X4 kX4_discard_19 rfl rfl (by decide) rfl dX4_discard_43 rfl ?_
        refine G.iload_n (pc2 := 47) (x := p0) dX4_discard_46 rfl rfl rfl ?_
        refine G.callVd (pc2 := 50) (i := 3) (j := 8) (q0 := 3) (ci := 1) (As := [.int p0]) (rest := []) (ws2 := wX a cI cZ (u.1, (sX1_release u.2.1 p0), u.2.2.1, t_28, u.2.2.2.2)) (st2 := []) (c_X1_release (cI := cI) (cZ := cZ) (a 3) (a 4) (a 5) (a 6) (a 7) u.2.1 p0 (by subst ev_36 et_28 ev_14 ev_1; exact (pgX c_4))) gX4_discard_X1_release rfl rfl rfl ndX1_release ⟨Nat.le_of_ble_eq_true rfl, Nat.le_of_ble_eq_true rfl⟩ ⟨Nat.le_of_ble_eq_true rfl, Nat.le_of_ble_eq_true rfl⟩ rfl rfl (Nat.le_of_ble_eq_true rfl) rfl rfl rfl rfl rfl rfl dX4_discard_47 rfl ?_
        generalize et_47 : sX1_release u.2.1 p0 = t_47
        refine G.iconst (pc2 := 51) (v := 1) dX4_discard_50 (by decide) rfl ?_
        subst et_47 ev_36 et_28 ev_14 ev_1
        exact G.ireturn hR (rfl) dX4_discard_51 ⟨congrArg some (by simp only [vX4_discard, if_neg c_4, if_neg c_17, if_neg c_39]), congrArg (wX a cI cZ) (by simp only [sX4_discard, if_neg c_4, if_neg c_17, if_neg c_39])⟩
    · refine G.bipush (pc2 := 22) (v := (-7)) dX4_discard_20 (by decide) rfl ?_
      subst ev_14 ev_1
      exact G.ireturn hR (rfl) dX4_discard_22 ⟨congrArg some (by simp only [vX4_discard, if_neg c_4, if_pos c_17]), congrArg (wX a cI cZ) (by simp only [sX4_discard, if_neg c_4, if_pos c_17])⟩
  · refine G.iconst (pc2 := 8) (v := (-1)) dX4_discard_7 (by decide) rfl ?_
    subst ev_1
    exact G.ireturn hR (rfl) dX4_discard_8 ⟨congrArg some (by simp only [vX4_discard, if_pos c_4]), congrArg (wX a cI cZ) (by simp only [sX4_discard, if_pos c_4])⟩
set_option maxRecDepth 100000 in
set_option maxHeartbeats 4000000 in
theorem c_X4_isResident {cI cZ : ClassId} (a : Nat → Nat) (u : SX) (p0 : Int32) (hf : FW u.2.1) : Ct yX4_isResident wsX4_isResident rX4_isResident cI cZ [.ref (a 0), .int p0] (wX a cI cZ u) 0 0 (rt (some (vX4_isResident u p0)) (wX a cI cZ u)) := by
  refine Ct.of (cc := cX4_isResident) (nL := 2) (own := RX4) (by decide) rfl rfl (Nat.le_of_ble_eq_true rfl) rfl ?_
  intro K hR hN
  refine G.iload_n (pc2 := 1) (x := p0) dX4_isResident_0 rfl rfl rfl ?_
  refine G.callSd (pc2 := 4) (i := 0) (j := 0) (As := [.int p0]) (rest := []) (ws2 := wX a cI cZ u) (st2 := [.int (vX4_isPage p0)]) (c_X4_isPage (cI := cI) (cZ := cZ) p0) gX4_isResident_X4_isPage rfl rfl rfl ndX4_isPage.2 ⟨Nat.le_of_ble_eq_true rfl, Nat.le_of_ble_eq_true rfl⟩ ⟨Nat.le_of_ble_eq_true rfl, Nat.le_of_ble_eq_true rfl⟩ rfl rfl (Nat.le_of_ble_eq_true rfl) rfl rfl rfl dX4_isResident_1 rfl ?_
  generalize ev_1 : vX4_isPage p0 = v_1
  refine G.if_ne (pc2 := 7) (tgt := 9) dX4_isResident_4 rfl rfl (fun c_4 => ?_) (fun c_4 => ?_)
  · refine G.aload_n (pc2 := 10) (x := a 0) dX4_isResident_9 rfl rfl rfl ?_
    refine G.getf (pc2 := 13) (q0 := 0) (ci := 4) (k := 1) (v := .ref (a 3)) iX4_isResident_X4 kX4_isResident_19 rfl rfl (by decide) rfl dX4_isResident_10 rfl ?_
    refine G.iload_n (pc2 := 14) (x := p0) dX4_isResident_13 rfl rfl rfl ?_
    refine G.callVd (pc2 := 17) (i := 3) (j := 8) (q0 := 3) (ci := 1) (As := [.int p0]) (rest := []) (ws2 := wX a cI cZ u) (st2 := [.int (vX1_holds u.2.1 p0)]) (c_X1_holds (cI := cI) (cZ := cZ) (a 3) (a 4) (a 5) (a 6) (a 7) u.2.1 p0 (by subst ev_1; exact (pgX c_4)) (hf)) gX4_isResident_X1_holds rfl rfl rfl ndX1_holds ⟨Nat.le_of_ble_eq_true rfl, Nat.le_of_ble_eq_true rfl⟩ ⟨Nat.le_of_ble_eq_true rfl, Nat.le_of_ble_eq_true rfl⟩ rfl rfl (Nat.le_of_ble_eq_true rfl) rfl rfl rfl rfl rfl rfl dX4_isResident_14 rfl ?_
    generalize ev_14 : vX1_holds u.2.1 p0 = v_14
    refine G.if_eq (pc2 := 20) (tgt := 24) dX4_isResident_17 rfl rfl (fun c_17 => ?_) (fun c_17 => ?_)
    · refine G.iconst (pc2 := 25) (v := 0) dX4_isResident_24 (by decide) rfl ?_
      subst ev_14 ev_1
      exact G.ireturn hR (rfl) dX4_isResident_25 ⟨congrArg some (by simp only [vX4_isResident, if_neg c_4, if_pos c_17]), rfl⟩
    · refine G.iconst (pc2 := 21) (v := 1) dX4_isResident_20 (by decide) rfl ?_
      refine G.goto (tgt := 25) dX4_isResident_21 rfl ?_
      subst ev_14 ev_1
      exact G.ireturn hR (rfl) dX4_isResident_25 ⟨congrArg some (by simp only [vX4_isResident, if_neg c_4, if_neg c_17]), rfl⟩
  · refine G.iconst (pc2 := 8) (v := (-1)) dX4_isResident_7 (by decide) rfl ?_
    subst ev_1
    exact G.ireturn hR (rfl) dX4_isResident_8 ⟨congrArg some (by simp only [vX4_isResident, if_pos c_4]), rfl⟩
set_option maxRecDepth 100000 in
set_option maxHeartbeats 4000000 in
theorem c_X4_isDirty {cI cZ : ClassId} (a : Nat → Nat) (u : SX) (p0 : Int32) (hf : FW u.2.1) : Ct yX4_isDirty wsX4_isDirty rX4_isDirty cI cZ [.ref (a 0), .int p0] (wX a cI cZ u) 0 0 (rt (some (vX4_isDirty u p0)) (wX a cI cZ u)) := by
  refine Ct.of (cc := cX4_isDirty) (nL := 2) (own := RX4) (by decide) rfl rfl (Nat.le_of_ble_eq_true rfl) rfl ?_
  intro K hR hN
  refine G.iload_n (pc2 := 1) (x := p0) dX4_isDirty_0 rfl rfl rfl ?_
  refine G.callSd (pc2 := 4) (i := 0) (j := 0) (As := [.int p0]) (rest := []) (ws2 := wX a cI cZ u) (st2 := [.int (vX4_isPage p0)]) (c_X4_isPage (cI := cI) (cZ := cZ) p0) gX4_isDirty_X4_isPage rfl rfl rfl ndX4_isPage.2 ⟨Nat.le_of_ble_eq_true rfl, Nat.le_of_ble_eq_true rfl⟩ ⟨Nat.le_of_ble_eq_true rfl, Nat.le_of_ble_eq_true rfl⟩ rfl rfl (Nat.le_of_ble_eq_true rfl) rfl rfl rfl dX4_isDirty_1 rfl ?_
  generalize ev_1 : vX4_isPage p0 = v_1
  refine G.if_ne (pc2 := 7) (tgt := 9) dX4_isDirty_4 rfl rfl (fun c_4 => ?_) (fun c_4 => ?_)
  · refine G.aload_n (pc2 := 10) (x := a 0) dX4_isDirty_9 rfl rfl rfl ?_
    refine G.getf (pc2 := 13) (q0 := 0) (ci := 4) (k := 1) (v := .ref (a 3)) iX4_isDirty_X4 kX4_isDirty_19 rfl rfl (by decide) rfl dX4_isDirty_10 rfl ?_
    refine G.iload_n (pc2 := 14) (x := p0) dX4_isDirty_13 rfl rfl rfl ?_
    refine G.callVd (pc2 := 17) (i := 3) (j := 8) (q0 := 3) (ci := 1) (As := [.int p0]) (rest := []) (ws2 := wX a cI cZ u) (st2 := [.int (vX1_holds u.2.1 p0)]) (c_X1_holds (cI := cI) (cZ := cZ) (a 3) (a 4) (a 5) (a 6) (a 7) u.2.1 p0 (by subst ev_1; exact (pgX c_4)) (hf)) gX4_isDirty_X1_holds rfl rfl rfl ndX1_holds ⟨Nat.le_of_ble_eq_true rfl, Nat.le_of_ble_eq_true rfl⟩ ⟨Nat.le_of_ble_eq_true rfl, Nat.le_of_ble_eq_true rfl⟩ rfl rfl (Nat.le_of_ble_eq_true rfl) rfl rfl rfl rfl rfl rfl dX4_isDirty_14 rfl ?_
    generalize ev_14 : vX1_holds u.2.1 p0 = v_14
    refine G.if_ne (pc2 := 20) (tgt := 23) dX4_isDirty_17 rfl rfl (fun c_17 => ?_) (fun c_17 => ?_)
    · refine G.aload_n (pc2 := 24) (x := a 0) dX4_isDirty_23 rfl rfl rfl ?_
      refine G.getf (pc2 := 27) (q0 := 0) (ci := 4) (k := 1) (v := .ref (a 3)) iX4_isDirty_X4 kX4_isDirty_19 rfl rfl (by decide) rfl dX4_isDirty_24 rfl ?_
      refine G.iload_n (pc2 := 28) (x := p0) dX4_isDirty_27 rfl rfl rfl ?_
      refine G.callVd (pc2 := 31) (i := 3) (j := 8) (q0 := 3) (ci := 1) (As := [.int p0]) (rest := []) (ws2 := wX a cI cZ u) (st2 := [.int (vX1_isChanged u.2.1 p0)]) (c_X1_isChanged (cI := cI) (cZ := cZ) (a 3) (a 4) (a 5) (a 6) (a 7) u.2.1 p0 (by subst ev_14 ev_1; exact (pgX c_4)) (hf)) gX4_isDirty_X1_isChanged rfl rfl rfl ndX1_isChanged ⟨Nat.le_of_ble_eq_true rfl, Nat.le_of_ble_eq_true rfl⟩ ⟨Nat.le_of_ble_eq_true rfl, Nat.le_of_ble_eq_true rfl⟩ rfl rfl (Nat.le_of_ble_eq_true rfl) rfl rfl rfl rfl rfl rfl dX4_isDirty_28 rfl ?_
      generalize ev_28 : vX1_isChanged u.2.1 p0 = v_28
      refine G.if_eq (pc2 := 34) (tgt := 38) dX4_isDirty_31 rfl rfl (fun c_31 => ?_) (fun c_31 => ?_)
      · refine G.iconst (pc2 := 39) (v := 0) dX4_isDirty_38 (by decide) rfl ?_
        subst ev_28 ev_14 ev_1
        exact G.ireturn hR (rfl) dX4_isDirty_39 ⟨congrArg some (by simp only [vX4_isDirty, if_neg c_4, if_neg c_17, if_pos c_31]), rfl⟩
      · refine G.iconst (pc2 := 35) (v := 1) dX4_isDirty_34 (by decide) rfl ?_
        refine G.goto (tgt := 39) dX4_isDirty_35 rfl ?_
        subst ev_28 ev_14 ev_1
        exact G.ireturn hR (rfl) dX4_isDirty_39 ⟨congrArg some (by simp only [vX4_isDirty, if_neg c_4, if_neg c_17, if_neg c_31]), rfl⟩
    · refine G.bipush (pc2 := 22) (v := (-4)) dX4_isDirty_20 (by decide) rfl ?_
      subst ev_14 ev_1
      exact G.ireturn hR (rfl) dX4_isDirty_22 ⟨congrArg some (by simp only [vX4_isDirty, if_neg c_4, if_pos c_17]), rfl⟩
  · refine G.iconst (pc2 := 8) (v := (-1)) dX4_isDirty_7 (by decide) rfl ?_
    subst ev_1
    exact G.ireturn hR (rfl) dX4_isDirty_8 ⟨congrArg some (by simp only [vX4_isDirty, if_pos c_4]), rfl⟩
