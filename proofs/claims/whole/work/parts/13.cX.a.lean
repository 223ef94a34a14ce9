set_option maxRecDepth 100000 in
set_option maxHeartbeats 4000000 in
theorem c_X4_startAnew {cI cZ : ClassId} (a : Nat → Nat) (u : SX) (p0 p1 p2 p3 : Int32)  : Ct yX4_startAnew wsX4_startAnew rX4_startAnew cI cZ [.ref (a 0), .int p0, .int p1, .int p2, .int p3] (wX a cI cZ u) 0 0 (rt (none) (wX a cI cZ (sX4_startAnew u p0 p1 p2 p3))) := by
  refine Ct.of (cc := cX4_startAnew) (nL := 5) (own := RX4) (by decide) rfl rfl (Nat.le_of_ble_eq_true rfl) rfl ?_
  intro K hR hN
  refine G.aload_n (pc2 := 1) (x := a 0) dX4_startAnew_0 rfl rfl rfl ?_
  refine G.getf (pc2 := 4) (q0 := 0) (ci := 4) (k := 0) (v := .ref (a 1)) iX4_startAnew_X4 kX4_startAnew_10 rfl rfl (by decide) rfl dX4_startAnew_1 rfl ?_
  refine G.callVd (pc2 := 7) (i := 1) (j := 3) (q0 := 1) (ci := 0) (As := []) (rest := []) (ws2 := wX a cI cZ ((sX0_erase u.1), u.2.1, u.2.2.1, u.2.2.2.1, u.2.2.2.2)) (st2 := []) (c_X0_erase (cI := cI) (cZ := cZ) (a 1) (a 2) u.1) gX4_startAnew_X0_erase rfl rfl rfl ndX0_erase ⟨Nat.le_of_ble_eq_true rfl, Nat.le_of_ble_eq_true rfl⟩ ⟨Nat.le_of_ble_eq_true rfl, Nat.le_of_ble_eq_true rfl⟩ rfl rfl (Nat.le_of_ble_eq_true rfl) rfl rfl rfl rfl rfl rfl dX4_startAnew_4 rfl ?_
  generalize et_4 : sX0_erase u.1 = t_4
  refine G.aload_n (pc2 := 8) (x := a 0) dX4_startAnew_7 rfl rfl rfl ?_
  refine G.getf (pc2 := 11) (q0 := 0) (ci := 4) (k := 1) (v := .ref (a 3)) iX4_startAnew_X4 kX4_startAnew_19 rfl rfl (by decide) rfl dX4_startAnew_8 rfl ?_
  refine G.iload_n (pc2 := 12) (x := p0) dX4_startAnew_11 rfl rfl rfl ?_
  refine G.callVd (pc2 := 15) (i := 3) (j := 8) (q0 := 3) (ci := 1) (As := [.int p0]) (rest := []) (ws2 := wX a cI cZ (t_4, (sX1_empty u.2.1 p0), u.2.2.1, u.2.2.2.1, u.2.2.2.2)) (st2 := []) (c_X1_empty (cI := cI) (cZ := cZ) (a 3) (a 4) (a 5) (a 6) (a 7) u.2.1 p0) gX4_startAnew_X1_empty rfl rfl rfl ndX1_empty ⟨Nat.le_of_ble_eq_true rfl, Nat.le_of_ble_eq_true rfl⟩ ⟨Nat.le_of_ble_eq_true rfl, Nat.le_of_ble_eq_true rfl⟩ rfl rfl (Nat.le_of_ble_eq_true rfl) rfl rfl rfl rfl rfl rfl dX4_startAnew_12 rfl ?_
  generalize et_12 : sX1_empty u.2.1 p0 = t_12
  refine G.aload_n (pc2 := 16) (x := a 0) dX4_startAnew_15 rfl rfl rfl ?_
  refine G.getf (pc2 := 19) (q0 := 0) (ci := 4) (k := 2) (v := .ref (a 8)) iX4_startAnew_X4 kX4_startAnew_26 rfl rfl (by decide) rfl dX4_startAnew_16 rfl ?_
  refine G.iload_n (pc2 := 20) (x := p2) dX4_startAnew_19 rfl rfl rfl ?_
  refine G.callVd (pc2 := 23) (i := 8) (j := 11) (q0 := 8) (ci := 3) (As := [.int p2]) (rest := []) (ws2 := wX a cI cZ (t_4, t_12, (sX3_empty u.2.2.1 p2), u.2.2.2.1, u.2.2.2.2)) (st2 := []) (c_X3_empty (cI := cI) (cZ := cZ) (a 8) (a 9) (a 10) u.2.2.1 p2) gX4_startAnew_X3_empty rfl rfl rfl ndX3_empty ⟨Nat.le_of_ble_eq_true rfl, Nat.le_of_ble_eq_true rfl⟩ ⟨Nat.le_of_ble_eq_true rfl, Nat.le_of_ble_eq_true rfl⟩ rfl rfl (Nat.le_of_ble_eq_true rfl) rfl rfl rfl rfl rfl rfl dX4_startAnew_20 rfl ?_
  generalize et_20 : sX3_empty u.2.2.1 p2 = t_20
  refine G.aload_n (pc2 := 24) (x := a 0) dX4_startAnew_23 rfl rfl rfl ?_
  refine G.getf (pc2 := 27) (q0 := 0) (ci := 4) (k := 3) (v := .ref (a 11)) iX4_startAnew_X4 kX4_startAnew_33 rfl rfl (by decide) rfl dX4_startAnew_24 rfl ?_
  refine G.iload_n (pc2 := 28) (x := p1) dX4_startAnew_27 rfl rfl rfl ?_
  refine G.callVd (pc2 := 31) (i := 11) (j := 14) (q0 := 11) (ci := 2) (As := [.int p1]) (rest := []) (ws2 := wX a cI cZ (t_4, t_12, t_20, (sX2_forgetAll u.2.2.2.1 p1), u.2.2.2.2)) (st2 := []) (c_X2_forgetAll (cI := cI) (cZ := cZ) (a 11) (a 12) (a 13) u.2.2.2.1 p1) gX4_startAnew_X2_forgetAll rfl rfl rfl ndX2_forgetAll ⟨Nat.le_of_ble_eq_true rfl, Nat.le_of_ble_eq_true rfl⟩ ⟨Nat.le_of_ble_eq_true rfl, Nat.le_of_ble_eq_true rfl⟩ rfl rfl (Nat.le_of_ble_eq_true rfl) rfl rfl rfl rfl rfl rfl dX4_startAnew_28 rfl ?_
  generalize et_28 : sX2_forgetAll u.2.2.2.1 p1 = t_28
  refine G.aload_n (pc2 := 32) (x := a 0) dX4_startAnew_31 rfl rfl rfl ?_
  refine G.iload (pc2 := 34) (x := p3) dX4_startAnew_32 rfl rfl ?_
  refine G.putf (pc2 := 37) (q0 := 0) (ci := 4) (k := 4) (ws2 := wX a cI cZ (t_4, t_12, t_20, t_28, (p3, u.2.2.2.2.2.1, u.2.2.2.2.2.2.1, u.2.2.2.2.2.2.2.1, u.2.2.2.2.2.2.2.2.1, u.2.2.2.2.2.2.2.2.2))) iX4_startAnew_X4 kX4_startAnew_157 tyX4_ok nmX4 rfl rfl (by decide) rfl rfl rfl (Nat.le_of_ble_eq_true rfl) rfl dX4_startAnew_34 rfl ?_
  refine G.aload_n (pc2 := 38) (x := a 0) dX4_startAnew_37 rfl rfl rfl ?_
  refine G.iconst (pc2 := 39) (v := 0) dX4_startAnew_38 (by decide) rfl ?_
  refine G.putf (pc2 := 42) (q0 := 0) (ci := 4) (k := 5) (ws2 := wX a cI cZ (t_4, t_12, t_20, t_28, (p3, 0, u.2.2.2.2.2.2.1, u.2.2.2.2.2.2.2.1, u.2.2.2.2.2.2.2.2.1, u.2.2.2.2.2.2.2.2.2))) iX4_startAnew_X4 kX4_startAnew_111 tyX4_ok nmX4 rfl rfl (by decide) rfl rfl rfl (Nat.le_of_ble_eq_true rfl) rfl dX4_startAnew_39 rfl ?_
  refine G.aload_n (pc2 := 43) (x := a 0) dX4_startAnew_42 rfl rfl rfl ?_
  refine G.iconst (pc2 := 44) (v := 0) dX4_startAnew_43 (by decide) rfl ?_
  refine G.putf (pc2 := 47) (q0 := 0) (ci := 4) (k := 6) (ws2 := wX a cI cZ (t_4, t_12, t_20, t_28, (p3, 0, 0, u.2.2.2.2.2.2.2.1, u.2.2.2.2.2.2.2.2.1, u.2.2.2.2.2.2.2.2.2))) iX4_startAnew_X4 kX4_startAnew_129 tyX4_ok nmX4 rfl rfl (by decide) rfl rfl rfl (Nat.le_of_ble_eq_true rfl) rfl dX4_startAnew_44 rfl ?_
  refine G.aload_n (pc2 := 48) (x := a 0) dX4_startAnew_47 rfl rfl rfl ?_
  refine G.iconst (pc2 := 49) (v := 0) dX4_startAnew_48 (by decide) rfl ?_
  refine G.putf (pc2 := 52) (q0 := 0) (ci := 4) (k := 7) (ws2 := wX a cI cZ (t_4, t_12, t_20, t_28, (p3, 0, 0, 0, u.2.2.2.2.2.2.2.2.1, u.2.2.2.2.2.2.2.2.2))) iX4_startAnew_X4 kX4_startAnew_132 tyX4_ok nmX4 rfl rfl (by decide) rfl rfl rfl (Nat.le_of_ble_eq_true rfl) rfl dX4_startAnew_49 rfl ?_
  refine G.aload_n (pc2 := 53) (x := a 0) dX4_startAnew_52 rfl rfl rfl ?_
  refine G.iconst (pc2 := 54) (v := 0) dX4_startAnew_53 (by decide) rfl ?_
  refine G.putf (pc2 := 57) (q0 := 0) (ci := 4) (k := 8) (ws2 := wX a cI cZ (t_4, t_12, t_20, t_28, (p3, 0, 0, 0, 0, u.2.2.2.2.2.2.2.2.2))) iX4_startAnew_X4 kX4_startAnew_135 tyX4_ok nmX4 rfl rfl (by decide) rfl rfl rfl (Nat.le_of_ble_eq_true rfl) rfl dX4_startAnew_54 rfl ?_
  refine G.aload_n (pc2 := 58) (x := a 0) dX4_startAnew_57 rfl rfl rfl ?_
  refine G.iconst (pc2 := 59) (v := 0) dX4_startAnew_58 (by decide) rfl ?_
  refine G.putf (pc2 := 62) (q0 := 0) (ci := 4) (k := 9) (ws2 := wX a cI cZ (t_4, t_12, t_20, t_28, (p3, 0, 0, 0, 0, 0))) iX4_startAnew_X4 kX4_startAnew_144 tyX4_ok nmX4 rfl rfl (by decide) rfl rfl rfl (Nat.le_of_ble_eq_true rfl) rfl dX4_startAnew_59 rfl ?_
  subst et_28 et_20 et_12 et_4
  exact G.vreturn hR dX4_startAnew_62 ⟨rfl, congrArg (wX a cI cZ) (rfl)⟩
set_option maxRecDepth 100000 in
set_option maxHeartbeats 4000000 in
theorem c_X4_isWithin {cI cZ : ClassId}  (p0 p1 p2 : Int32)  : Ct yX4_isWithin wsX4_isWithin rX4_isWithin cI cZ [.int p0, .int p1, .int p2] ([]) 0 0 (rt (some (vX4_isWithin p0 p1 p2)) ([])) := by
  refine Ct.of (cc := cX4_isWithin) (nL := 3) (own := RX4) (by decide) rfl rfl (Nat.le_of_ble_eq_true rfl) rfl ?_
  intro K hR hN
  refine G.iload_n (pc2 := 1) (x := p0) dX4_isWithin_0 rfl rfl rfl ?_
  refine G.iload_n (pc2 := 2) (x := p1) dX4_isWithin_1 rfl rfl rfl ?_
  refine G.icmp_lt (pc2 := 5) (tgt := 14) dX4_isWithin_2 rfl rfl (fun c_2 => ?_) (fun c_2 => ?_)
  · refine G.iconst (pc2 := 15) (v := 0) dX4_isWithin_14 (by decide) rfl ?_
    exact G.ireturn hR (rfl) dX4_isWithin_15 ⟨congrArg some (by simp only [vX4_isWithin, if_pos c_2]), rfl⟩
  · refine G.iload_n (pc2 := 6) (x := p0) dX4_isWithin_5 rfl rfl rfl ?_
    refine G.iload_n (pc2 := 7) (x := p2) dX4_isWithin_6 rfl rfl rfl ?_
    refine G.icmp_gt (pc2 := 10) (tgt := 14) dX4_isWithin_7 rfl rfl (fun c_7 => ?_) (fun c_7 => ?_)
    · refine G.iconst (pc2 := 15) (v := 0) dX4_isWithin_14 (by decide) rfl ?_
      exact G.ireturn hR (rfl) dX4_isWithin_15 ⟨congrArg some (by simp only [vX4_isWithin, if_neg c_2, if_pos c_7]), rfl⟩
    · refine G.iconst (pc2 := 11) (v := 1) dX4_isWithin_10 (by decide) rfl ?_
      refine G.goto (tgt := 15) dX4_isWithin_11 rfl ?_
      exact G.ireturn hR (rfl) dX4_isWithin_15 ⟨congrArg some (by simp only [vX4_isWithin, if_neg c_2, if_neg c_7]), rfl⟩
set_option maxRecDepth 100000 in
set_option maxHeartbeats 4000000 in
theorem c_X4_reset {cI cZ : ClassId} (a : Nat → Nat) (u : SX) (p0 p1 p2 p3 : Int32)  : Ct yX4_reset wsX4_reset rX4_reset cI cZ [.ref (a 0), .int p0, .int p1, .int p2, .int p3] (wX a cI cZ u) 0 0 (rt (some (vX4_reset u p0 p1 p2 p3)) (wX a cI cZ (sX4_reset u p0 p1 p2 p3))) := by
  refine Ct.of (cc := cX4_reset) (nL := 5) (own := RX4) (by decide) rfl rfl (Nat.le_of_ble_eq_true rfl) rfl ?_
  intro K hR hN
  refine G.iload_n (pc2 := 1) (x := p0) dX4_reset_0 rfl rfl rfl ?_
  refine G.iconst (pc2 := 2) (v := 1) dX4_reset_1 (by decide) rfl ?_
  refine G.bipush (pc2 := 4) (v := 16) dX4_reset_2 (by decide) rfl ?_
  refine G.callSd (pc2 := 7) (i := 0) (j := 0) (As := [.int p0, .int 1, .int 16]) (rest := []) (ws2 := wX a cI cZ u) (st2 := [.int (vX4_isWithin p0 1 16)]) (c_X4_isWithin (cI := cI) (cZ := cZ) p0 1 16) gX4_reset_X4_isWithin rfl rfl rfl ndX4_isWithin.2 ⟨Nat.le_of_ble_eq_true rfl, Nat.le_of_ble_eq_true rfl⟩ ⟨Nat.le_of_ble_eq_true rfl, Nat.le_of_ble_eq_true rfl⟩ rfl rfl (Nat.le_of_ble_eq_true rfl) rfl rfl rfl dX4_reset_4 rfl ?_
  generalize ev_4 : vX4_isWithin p0 1 16 = v_4
  refine G.if_eq (pc2 := 10) (tgt := 41) dX4_reset_7 rfl rfl (fun c_7 => ?_) (fun c_7 => ?_)
  · refine G.bipush (pc2 := 43) (v := (-8)) dX4_reset_41 (by decide) rfl ?_
    subst ev_4
    exact G.ireturn hR (rfl) dX4_reset_43 ⟨congrArg some (by simp only [vX4_reset, if_pos c_7]), congrArg (wX a cI cZ) (by simp only [sX4_reset, if_pos c_7])⟩
  · refine G.iload_n (pc2 := 11) (x := p1) dX4_reset_10 rfl rfl rfl ?_
    refine G.iconst (pc2 := 12) (v := 1) dX4_reset_11 (by decide) rfl ?_
    refine G.iconst (pc2 := 13) (v := 3) dX4_reset_12 (by decide) rfl ?_
    refine G.callSd (pc2 := 16) (i := 0) (j := 0) (As := [.int p1, .int 1, .int 3]) (rest := []) (ws2 := wX a cI cZ u) (st2 := [.int (vX4_isWithin p1 1 3)]) (c_X4_isWithin (cI := cI) (cZ := cZ) p1 1 3) gX4_reset_X4_isWithin rfl rfl rfl ndX4_isWithin.2 ⟨Nat.le_of_ble_eq_true rfl, Nat.le_of_ble_eq_true rfl⟩ ⟨Nat.le_of_ble_eq_true rfl, Nat.le_of_ble_eq_true rfl⟩ rfl rfl (Nat.le_of_ble_eq_true rfl) rfl rfl rfl dX4_reset_13 rfl ?_
    generalize ev_13 : vX4_isWithin p1 1 3 = v_13
    refine G.if_eq (pc2 := 19) (tgt := 41) dX4_reset_16 rfl rfl (fun c_16 => ?_) (fun c_16 => ?_)
    · refine G.bipush (pc2 := 43) (v := (-8)) dX4_reset_41 (by decide) rfl ?_
      subst ev_13 ev_4
      exact G.ireturn hR (rfl) dX4_reset_43 ⟨congrArg some (by simp only [vX4_reset, if_neg c_7, if_pos c_16]), congrArg (wX a cI cZ) (by simp only [sX4_reset, if_neg c_7, if_pos c_16])⟩
    · refine G.iload_n (pc2 := 20) (x := p2) dX4_reset_19 rfl rfl rfl ?_
      refine G.iconst (pc2 := 21) (v := 1) dX4_reset_20 (by decide) rfl ?_
      refine G.bipush (pc2 := 23) (v := 8) dX4_reset_21 (by decide) rfl ?_
      refine G.callSd (pc2 := 26) (i := 0) (j := 0) (As := [.int p2, .int 1, .int 8]) (rest := []) (ws2 := wX a cI cZ u) (st2 := [.int (vX4_isWithin p2 1 8)]) (c_X4_isWithin (cI := cI) (cZ := cZ) p2 1 8) gX4_reset_X4_isWithin rfl rfl rfl ndX4_isWithin.2 ⟨Nat.le_of_ble_eq_true rfl, Nat.le_of_ble_eq_true rfl⟩ ⟨Nat.le_of_ble_eq_true rfl, Nat.le_of_ble_eq_true rfl⟩ rfl rfl (Nat.le_of_ble_eq_true rfl) rfl rfl rfl dX4_reset_23 rfl ?_
      generalize ev_23 : vX4_isWithin p2 1 8 = v_23
      refine G.if_eq (pc2 := 29) (tgt := 41) dX4_reset_26 rfl rfl (fun c_26 => ?_) (fun c_26 => ?_)
      · refine G.bipush (pc2 := 43) (v := (-8)) dX4_reset_41 (by decide) rfl ?_
        subst ev_23 ev_13 ev_4
        exact G.ireturn hR (rfl) dX4_reset_43 ⟨congrArg some (by simp only [vX4_reset, if_neg c_7, if_neg c_16, if_pos c_26]), congrArg (wX a cI cZ) (by simp only [sX4_reset, if_neg c_7, if_neg c_16, if_pos c_26])⟩
      · refine G.iload (pc2 := 31) (x := p3) dX4_reset_29 rfl rfl ?_
        refine G.iconst (pc2 := 32) (v := 0) dX4_reset_31 (by decide) rfl ?_
        refine G.sipush (pc2 := 35) (v := 9999) dX4_reset_32 (by decide) rfl ?_
        refine G.callSd (pc2 := 38) (i := 0) (j := 0) (As := [.int p3, .int 0, .int 9999]) (rest := []) (ws2 := wX a cI cZ u) (st2 := [.int (vX4_isWithin p3 0 9999)]) (c_X4_isWithin (cI := cI) (cZ := cZ) p3 0 9999) gX4_reset_X4_isWithin rfl rfl rfl ndX4_isWithin.2 ⟨Nat.le_of_ble_eq_true rfl, Nat.le_of_ble_eq_true rfl⟩ ⟨Nat.le_of_ble_eq_true rfl, Nat.le_of_ble_eq_true rfl⟩ rfl rfl (Nat.le_of_ble_eq_true rfl) rfl rfl rfl dX4_reset_35 rfl ?_
        generalize ev_35 : vX4_isWithin p3 0 9999 = v_35
        refine G.if_ne (pc2 := 41) (tgt := 44) dX4_reset_38 rfl rfl (fun c_38 => ?_) (fun c_38 => ?_)
        · refine G.aload_n (pc2 := 45) (x := a 0) dX4_reset_44 rfl rfl rfl ?_
          refine G.iload_n (pc2 := 46) (x := p0) dX4_reset_45 rfl rfl rfl ?_
          refine G.iload_n (pc2 := 47) (x := p1) dX4_reset_46 rfl rfl rfl ?_
          refine G.iload_n (pc2 := 48) (x := p2) dX4_reset_47 rfl rfl rfl ?_
          refine G.iload (pc2 := 50) (x := p3) dX4_reset_48 rfl rfl ?_
          refine G.callVd (pc2 := 53) (i := 0) (j := 14) (q0 := 0) (ci := 4) (As := [.int p0, .int p1, .int p2, .int p3]) (rest := []) (ws2 := wX a cI cZ (sX4_startAnew u p0 p1 p2 p3)) (st2 := []) (c_X4_startAnew (cI := cI) (cZ := cZ) a u p0 p1 p2 p3) gX4_reset_X4_startAnew rfl rfl rfl ndX4_startAnew ⟨Nat.le_of_ble_eq_true rfl, Nat.le_of_ble_eq_true rfl⟩ ⟨Nat.le_of_ble_eq_true rfl, Nat.le_of_ble_eq_true rfl⟩ rfl rfl (Nat.le_of_ble_eq_true rfl) rfl rfl rfl rfl rfl rfl dX4_reset_50 rfl ?_
          generalize et_50 : sX4_startAnew u p0 p1 p2 p3 = t_50
          refine G.iconst (pc2 := 54) (v := 0) dX4_reset_53 (by decide) rfl ?_
          subst et_50 ev_35 ev_23 ev_13 ev_4
          exact G.ireturn hR (rfl) dX4_reset_54 ⟨congrArg some (by simp only [vX4_reset, if_neg c_7, if_neg c_16, if_neg c_26, if_neg c_38]), congrArg (wX a cI cZ) (by simp only [sX4_reset, if_neg c_7, if_neg c_16, if_neg c_26, if_neg c_38])⟩
        · refine G.bipush (pc2 := 43) (v := (-8)) dX4_reset_41 (by decide) rfl ?_
          subst ev_35 ev_23 ev_13 ev_4
          exact G.ireturn hR (rfl) dX4_reset_43 ⟨congrArg some (by simp only [vX4_reset, if_neg c_7, if_neg c_16, if_neg c_26, if_pos c_38]), congrArg (wX a cI cZ) (by simp only [sX4_reset, if_neg c_7, if_neg c_16, if_neg c_26, if_pos c_38])⟩
set_option maxRecDepth 100000 in
set_option maxHeartbeats 4000000 in
theorem c_X4_isPage {cI cZ : ClassId}  (p0 : Int32)  : Ct yX4_isPage wsX4_isPage rX4_isPage cI cZ [.int p0] ([]) 0 0 (rt (some (vX4_isPage p0)) ([])) := by
  refine Ct.of (cc := cX4_isPage) (nL := 1) (own := RX4) (by decide) rfl rfl (Nat.le_of_ble_eq_true rfl) rfl ?_
  intro K hR hN
  refine G.iload_n (pc2 := 1) (x := p0) dX4_isPage_0 rfl rfl rfl ?_
  refine G.iconst (pc2 := 2) (v := 0) dX4_isPage_1 (by decide) rfl ?_
  refine G.bipush (pc2 := 4) (v := 63) dX4_isPage_2 (by decide) rfl ?_
  refine G.callSd (pc2 := 7) (i := 0) (j := 0) (As := [.int p0, .int 0, .int 63]) (rest := []) (ws2 := []) (st2 := [.int (vX4_isWithin p0 0 63)]) (c_X4_isWithin (cI := cI) (cZ := cZ) p0 0 63) gX4_isPage_X4_isWithin rfl rfl rfl ndX4_isWithin.2 ⟨Nat.le_of_ble_eq_true rfl, Nat.le_of_ble_eq_true rfl⟩ ⟨Nat.le_of_ble_eq_true rfl, Nat.le_of_ble_eq_true rfl⟩ rfl rfl (Nat.le_of_ble_eq_true rfl) rfl rfl rfl dX4_isPage_4 rfl ?_
  generalize ev_4 : vX4_isWithin p0 0 63 = v_4
  subst ev_4
  exact G.ireturn hR (nbX _ _ _) dX4_isPage_7 ⟨congrArg some (rfl), rfl⟩
set_option maxRecDepth 100000 in
set_option maxHeartbeats 4000000 in
theorem c_X4_chooseVictim {cI cZ : ClassId} (a : Nat → Nat) (u : SX) (hh : HW u.2.2.2.1) (hf : FW u.2.1) : Ct yX4_chooseVictim wsX4_chooseVictim rX4_chooseVictim cI cZ [.ref (a 0)] (wX a cI cZ u) 0 0 (rt (some (vX4_chooseVictim u)) (wX a cI cZ u)) := by
  refine Ct.of (cc := cX4_chooseVictim) (nL := 3) (own := RX4) (by decide) rfl rfl (Nat.le_of_ble_eq_true rfl) rfl ?_
  intro K hR hN
  have loop5 : ∀ (n : Nat) (l1 l2 : Int32), PI n l2 ∧ PgN l1 → vX4_chooseVictim u = lvX4_chooseVictim_5 u n l1 l2 → G K cI cZ cX4_chooseVictim 3 RX4 wsX4_chooseVictim rX4_chooseVictim 0 0 (wX a cI cZ u) 5 [(0, .ref (a 0)), (1, .int l1), (2, .int l2)] [] := by
    intro n
    induction n with
    | zero =>
      intro l1 l2 hi hv
      exact absurd hi (fun h => PI.zero h.1)
    | succ n ih =>
      intro l1 l2 hi hv
      refine G.iload_n (pc2 := 6) (x := l2) dX4_chooseVictim_5 rfl rfl rfl ?_
      refine G.bipush (pc2 := 8) (v := 64) dX4_chooseVictim_6 (by decide) rfl ?_
      refine G.icmp_ge (pc2 := 11) (tgt := 59) dX4_chooseVictim_8 rfl rfl (fun c_8 => ?_) (fun c_8 => ?_)
      · refine G.iload_n (pc2 := 60) (x := l1) dX4_chooseVictim_59 rfl rfl rfl ?_
        exact G.ireturn hR (rfl) dX4_chooseVictim_60 ⟨congrArg some (by rw [hv]; simp only [lvX4_chooseVictim_5, if_neg c_8]), rfl⟩
      · refine G.aload_n (pc2 := 12) (x := a 0) dX4_chooseVictim_11 rfl rfl rfl ?_
        refine G.getf (pc2 := 15) (q0 := 0) (ci := 4) (k := 1) (v := .ref (a 3)) iX4_chooseVictim_X4 kX4_chooseVictim_19 rfl rfl (by decide) rfl dX4_chooseVictim_12 rfl ?_
        refine G.iload_n (pc2 := 16) (x := l2) dX4_chooseVictim_15 rfl rfl rfl ?_
        refine G.callVd (pc2 := 19) (i := 3) (j := 8) (q0 := 3) (ci := 1) (As := [.int l2]) (rest := []) (ws2 := wX a cI cZ u) (st2 := [.int (vX1_holds u.2.1 l2)]) (c_X1_holds (cI := cI) (cZ := cZ) (a 3) (a 4) (a 5) (a 6) (a 7) u.2.1 l2 (PI.pg hi.1 c_8) (hf)) gX4_chooseVictim_X1_holds rfl rfl rfl ndX1_holds ⟨Nat.le_of_ble_eq_true rfl, Nat.le_of_ble_eq_true rfl⟩ ⟨Nat.le_of_ble_eq_true rfl, Nat.le_of_ble_eq_true rfl⟩ rfl rfl (Nat.le_of_ble_eq_true rfl) rfl rfl rfl rfl rfl rfl dX4_chooseVictim_16 rfl ?_
        generalize ev_16 : vX1_holds u.2.1 l2 = v_16
        refine G.if_eq (pc2 := 22) (tgt := 53) dX4_chooseVictim_19 rfl rfl (fun c_19 => ?_) (fun c_19 => ?_)
        · refine G.iinc (pc2 := 56) (k := 2) (v := l2 + 1) (lv2 := [(0, .ref (a 0)), (1, .int l1), (2, .int (l2 + 1))]) [1, 2, 0] dX4_chooseVictim_53 rfl rfl (by decide) rfl rfl ?_
          refine G.goto (tgt := 5) dX4_chooseVictim_56 rfl ?_
          subst ev_16
          exact ih  l1 (l2 + 1) (⟨PI.next hi.1 c_8, by first | exact hi.2 | exact Or.inr (PI.pg hi.1 c_8)⟩) (by rw [hv]; simp only [lvX4_chooseVictim_5, if_pos c_8, if_pos c_19])
        · refine G.aload_n (pc2 := 23) (x := a 0) dX4_chooseVictim_22 rfl rfl rfl ?_
          refine G.getf (pc2 := 26) (q0 := 0) (ci := 4) (k := 1) (v := .ref (a 3)) iX4_chooseVictim_X4 kX4_chooseVictim_19 rfl rfl (by decide) rfl dX4_chooseVictim_23 rfl ?_
          refine G.iload_n (pc2 := 27) (x := l2) dX4_chooseVictim_26 rfl rfl rfl ?_
          refine G.callVd (pc2 := 30) (i := 3) (j := 8) (q0 := 3) (ci := 1) (As := [.int l2]) (rest := []) (ws2 := wX a cI cZ u) (st2 := [.int (vX1_pinsOf u.2.1 l2)]) (c_X1_pinsOf (cI := cI) (cZ := cZ) (a 3) (a 4) (a 5) (a 6) (a 7) u.2.1 l2 (by subst ev_16; exact (PI.pg hi.1 c_8))) gX4_chooseVictim_X1_pinsOf rfl rfl rfl ndX1_pinsOf ⟨Nat.le_of_ble_eq_true rfl, Nat.le_of_ble_eq_true rfl⟩ ⟨Nat.le_of_ble_eq_true rfl, Nat.le_of_ble_eq_true rfl⟩ rfl rfl (Nat.le_of_ble_eq_true rfl) rfl rfl rfl rfl rfl rfl dX4_chooseVictim_27 rfl ?_
          generalize ev_27 : vX1_pinsOf u.2.1 l2 = v_27
          refine G.if_ne (pc2 := 33) (tgt := 53) dX4_chooseVictim_30 rfl rfl (fun c_30 => ?_) (fun c_30 => ?_)
          · refine G.iinc (pc2 := 56) (k := 2) (v := l2 + 1) (lv2 := [(0, .ref (a 0)), (1, .int l1), (2, .int (l2 + 1))]) [1, 2, 0] dX4_chooseVictim_53 rfl rfl (by decide) rfl rfl ?_
            refine G.goto (tgt := 5) dX4_chooseVictim_56 rfl ?_
            subst ev_27 ev_16
            exact ih  l1 (l2 + 1) (⟨PI.next hi.1 c_8, by first | exact hi.2 | exact Or.inr (PI.pg hi.1 c_8)⟩) (by rw [hv]; simp only [lvX4_chooseVictim_5, if_pos c_8, if_neg c_19, if_neg c_30])
          · refine G.iload_n (pc2 := 34) (x := l1) dX4_chooseVictim_33 rfl rfl rfl ?_
            refine G.bipush (pc2 := 36) (v := (-9)) dX4_chooseVictim_34 (by decide) rfl ?_
            refine G.icmp_eq (pc2 := 39) (tgt := 51) dX4_chooseVictim_36 rfl rfl (fun c_36 => ?_) (fun c_36 => ?_)
            · refine G.iload_n (pc2 := 52) (x := l2) dX4_chooseVictim_51 rfl rfl rfl ?_
              refine G.istore_n (pc2 := 53) (lv2 := [(0, .ref (a 0)), (1, .int l2), (2, .int l2)]) [1, 0, 2] dX4_chooseVictim_52 rfl (by decide) rfl rfl ?_
              refine G.iinc (pc2 := 56) (k := 2) (v := l2 + 1) (lv2 := [(0, .ref (a 0)), (1, .int l2), (2, .int (l2 + 1))]) [1, 2, 0] dX4_chooseVictim_53 rfl rfl (by decide) rfl rfl ?_
              refine G.goto (tgt := 5) dX4_chooseVictim_56 rfl ?_
              subst ev_27 ev_16
              exact ih  l2 (l2 + 1) (⟨PI.next hi.1 c_8, by first | exact hi.2 | exact Or.inr (PI.pg hi.1 c_8)⟩) (by rw [hv]; simp only [lvX4_chooseVictim_5, if_pos c_8, if_neg c_19, if_pos c_30, if_pos c_36])
            · refine G.aload_n (pc2 := 40) (x := a 0) dX4_chooseVictim_39 rfl rfl rfl ?_
              refine G.getf (pc2 := 43) (q0 := 0) (ci := 4) (k := 3) (v := .ref (a 11)) iX4_chooseVictim_X4 kX4_chooseVictim_33 rfl rfl (by decide) rfl dX4_chooseVictim_40 rfl ?_
              refine G.iload_n (pc2 := 44) (x := l2) dX4_chooseVictim_43 rfl rfl rfl ?_
              refine G.iload_n (pc2 := 45) (x := l1) dX4_chooseVictim_44 rfl rfl rfl ?_
              refine G.callVd (pc2 := 48) (i := 11) (j := 14) (q0 := 11) (ci := 2) (As := [.int l2, .int l1]) (rest := []) (ws2 := wX a cI cZ u) (st2 := [.int (vX2_goesBefore u.2.2.2.1 l2 l1)]) (c_X2_goesBefore (cI := cI) (cZ := cZ) (a 11) (a 12) (a 13) u.2.2.2.1 l2 l1 (by subst ev_27 ev_16; exact (PI.pg hi.1 c_8)) (by subst ev_27 ev_16; exact (hi.2.resolve_left c_36)) (hh)) gX4_chooseVictim_X2_goesBefore rfl rfl rfl ndX2_goesBefore ⟨Nat.le_of_ble_eq_true rfl, Nat.le_of_ble_eq_true rfl⟩ ⟨Nat.le_of_ble_eq_true rfl, Nat.le_of_ble_eq_true rfl⟩ rfl rfl (Nat.le_of_ble_eq_true rfl) rfl rfl rfl rfl rfl rfl dX4_chooseVictim_45 rfl ?_
              generalize ev_45 : vX2_goesBefore u.2.2.2.1 l2 l1 = v_45
              refine G.if_eq (pc2 := 51) (tgt := 53) dX4_chooseVictim_48 rfl rfl (fun c_48 => ?_) (fun c_48 => ?_)
              · refine G.iinc (pc2 := 56) (k := 2) (v := l2 + 1) (lv2 := [(0, .ref (a 0)), (1, .int l1), (2, .int (l2 + 1))]) [1, 2, 0] dX4_chooseVictim_53 rfl rfl (by decide) rfl rfl ?_
                refine G.goto (tgt := 5) dX4_chooseVictim_56 rfl ?_
                subst ev_45 ev_27 ev_16
                exact ih  l1 (l2 + 1) (⟨PI.next hi.1 c_8, by first | exact hi.2 | exact Or.inr (PI.pg hi.1 c_8)⟩) (by rw [hv]; simp only [lvX4_chooseVictim_5, if_pos c_8, if_neg c_19, if_pos c_30, if_neg c_36, if_pos c_48])
              · refine G.iload_n (pc2 := 52) (x := l2) dX4_chooseVictim_51 rfl rfl rfl ?_
                refine G.istore_n (pc2 := 53) (lv2 := [(0, .ref (a 0)), (1, .int l2), (2, .int l2)]) [1, 0, 2] dX4_chooseVictim_52 rfl (by decide) rfl rfl ?_
                refine G.iinc (pc2 := 56) (k := 2) (v := l2 + 1) (lv2 := [(0, .ref (a 0)), (1, .int l2), (2, .int (l2 + 1))]) [1, 2, 0] dX4_chooseVictim_53 rfl rfl (by decide) rfl rfl ?_
                refine G.goto (tgt := 5) dX4_chooseVictim_56 rfl ?_
                subst ev_45 ev_27 ev_16
                exact ih  l2 (l2 + 1) (⟨PI.next hi.1 c_8, by first | exact hi.2 | exact Or.inr (PI.pg hi.1 c_8)⟩) (by rw [hv]; simp only [lvX4_chooseVictim_5, if_pos c_8, if_neg c_19, if_pos c_30, if_neg c_36, if_neg c_48])
  refine G.bipush (pc2 := 2) (v := (-9)) dX4_chooseVictim_0 (by decide) rfl ?_
  refine G.istore_n (pc2 := 3) (lv2 := [(0, .ref (a 0)), (1, .int (-9))]) [1, 0] dX4_chooseVictim_2 rfl (by decide) rfl rfl ?_
  refine G.iconst (pc2 := 4) (v := 0) dX4_chooseVictim_3 (by decide) rfl ?_
  refine G.istore_n (pc2 := 5) (lv2 := [(0, .ref (a 0)), (1, .int (-9)), (2, .int 0)]) [1, 2, 0] dX4_chooseVictim_4 rfl (by decide) rfl rfl ?_
  exact loop5 65 (-9) 0 (⟨PI.start, Or.inl rfl⟩) (rfl)
set_option maxRecDepth 100000 in
set_option maxHeartbeats 4000000 in
theorem c_X4_canReference {cI cZ : ClassId} (a : Nat → Nat) (u : SX) (p0 : Int32) (h0 : Pg p0) (hh : HW u.2.2.2.1) (hf : FW u.2.1) : Ct yX4_canReference wsX4_canReference rX4_canReference cI cZ [.ref (a 0), .int p0] (wX a cI cZ u) 0 0 (rt (some (vX4_canReference u p0)) (wX a cI cZ u)) := by
  refine Ct.of (cc := cX4_canReference) (nL := 2) (own := RX4) (by decide) rfl rfl (Nat.le_of_ble_eq_true rfl) rfl ?_
  intro K hR hN
  refine G.aload_n (pc2 := 1) (x := a 0) dX4_canReference_0 rfl rfl rfl ?_
  refine G.getf (pc2 := 4) (q0 := 0) (ci := 4) (k := 1) (v := .ref (a 3)) iX4_canReference_X4 kX4_canReference_19 rfl rfl (by decide) rfl dX4_canReference_1 rfl ?_
  refine G.iload_n (pc2 := 5) (x := p0) dX4_canReference_4 rfl rfl rfl ?_
  refine G.callVd (pc2 := 8) (i := 3) (j := 8) (q0 := 3) (ci := 1) (As := [.int p0]) (rest := []) (ws2 := wX a cI cZ u) (st2 := [.int (vX1_holds u.2.1 p0)]) (c_X1_holds (cI := cI) (cZ := cZ) (a 3) (a 4) (a 5) (a 6) (a 7) u.2.1 p0 (h0) (hf)) gX4_canReference_X1_holds rfl rfl rfl ndX1_holds ⟨Nat.le_of_ble_eq_true rfl, Nat.le_of_ble_eq_true rfl⟩ ⟨Nat.le_of_ble_eq_true rfl, Nat.le_of_ble_eq_true rfl⟩ rfl rfl (Nat.le_of_ble_eq_true rfl) rfl rfl rfl rfl rfl rfl dX4_canReference_5 rfl ?_
  generalize ev_5 : vX1_holds u.2.1 p0 = v_5
  refine G.if_ne (pc2 := 11) (tgt := 30) dX4_canReference_8 rfl rfl (fun c_8 => ?_) (fun c_8 => ?_)
  · refine G.iconst (pc2 := 31) (v := 1) dX4_canReference_30 (by decide) rfl ?_
    refine G.goto (tgt := 35) dX4_canReference_31 rfl ?_
    subst ev_5
    exact G.ireturn hR (rfl) dX4_canReference_35 ⟨congrArg some (by simp only [vX4_canReference, if_neg c_8]), rfl⟩
  · refine G.aload_n (pc2 := 12) (x := a 0) dX4_canReference_11 rfl rfl rfl ?_
    refine G.getf (pc2 := 15) (q0 := 0) (ci := 4) (k := 1) (v := .ref (a 3)) iX4_canReference_X4 kX4_canReference_19 rfl rfl (by decide) rfl dX4_canReference_12 rfl ?_
    refine G.callVd (pc2 := 18) (i := 3) (j := 8) (q0 := 3) (ci := 1) (As := []) (rest := []) (ws2 := wX a cI cZ u) (st2 := [.int (vX1_areFull u.2.1)]) (c_X1_areFull (cI := cI) (cZ := cZ) (a 3) (a 4) (a 5) (a 6) (a 7) u.2.1) gX4_canReference_X1_areFull rfl rfl rfl ndX1_areFull ⟨Nat.le_of_ble_eq_true rfl, Nat.le_of_ble_eq_true rfl⟩ ⟨Nat.le_of_ble_eq_true rfl, Nat.le_of_ble_eq_true rfl⟩ rfl rfl (Nat.le_of_ble_eq_true rfl) rfl rfl rfl rfl rfl rfl dX4_canReference_15 rfl ?_
    generalize ev_15 : vX1_areFull u.2.1 = v_15
    refine G.if_eq (pc2 := 21) (tgt := 30) dX4_canReference_18 rfl rfl (fun c_18 => ?_) (fun c_18 => ?_)
    · refine G.iconst (pc2 := 31) (v := 1) dX4_canReference_30 (by decide) rfl ?_
      refine G.goto (tgt := 35) dX4_canReference_31 rfl ?_
      subst ev_15 ev_5
      exact G.ireturn hR (rfl) dX4_canReference_35 ⟨congrArg some (by simp only [vX4_canReference, if_pos c_8, if_pos c_18]), rfl⟩
    · refine G.aload_n (pc2 := 22) (x := a 0) dX4_canReference_21 rfl rfl rfl ?_
      refine G.callVd (pc2 := 25) (i := 0) (j := 14) (q0 := 0) (ci := 4) (As := []) (rest := []) (ws2 := wX a cI cZ u) (st2 := [.int (vX4_chooseVictim u)]) (c_X4_chooseVictim (cI := cI) (cZ := cZ) a u (hh) (hf)) gX4_canReference_X4_chooseVictim rfl rfl rfl ndX4_chooseVictim ⟨Nat.le_of_ble_eq_true rfl, Nat.le_of_ble_eq_true rfl⟩ ⟨Nat.le_of_ble_eq_true rfl, Nat.le_of_ble_eq_true rfl⟩ rfl rfl (Nat.le_of_ble_eq_true rfl) rfl rfl rfl rfl rfl rfl dX4_canReference_22 rfl ?_
      generalize ev_22 : vX4_chooseVictim u = v_22
      refine G.bipush (pc2 := 27) (v := (-9)) dX4_canReference_25 (by decide) rfl ?_
      refine G.icmp_eq (pc2 := 30) (tgt := 34) dX4_canReference_27 rfl rfl (fun c_27 => ?_) (fun c_27 => ?_)
      · refine G.iconst (pc2 := 35) (v := 0) dX4_canReference_34 (by decide) rfl ?_
        subst ev_22 ev_15 ev_5
        exact G.ireturn hR (rfl) dX4_canReference_35 ⟨congrArg some (by simp only [vX4_canReference, if_pos c_8, if_neg c_18, if_pos c_27]), rfl⟩
      · refine G.iconst (pc2 := 31) (v := 1) dX4_canReference_30 (by decide) rfl ?_
        refine G.goto (tgt := 35) dX4_canReference_31 rfl ?_
        subst ev_22 ev_15 ev_5
        exact G.ireturn hR (rfl) dX4_canReference_35 ⟨congrArg some (by simp only [vX4_canReference, if_pos c_8, if_neg c_18, if_neg c_27]), rfl⟩
set_option maxRecDepth 100000 in
set_option maxHeartbeats 4000000 in
theorem c_X4_writeEntry {cI cZ : ClassId} (a : Nat → Nat) (u : SX) (p0 : Int32) (hq : QW u.2.2.1) : Ct yX4_writeEntry wsX4_writeEntry rX4_writeEntry cI cZ [.ref (a 0), .int p0] (wX a cI cZ u) 0 0 (rt (none) (wX a cI cZ (sX4_writeEntry u p0))) := by
  refine Ct.of (cc := cX4_writeEntry) (nL := 3) (own := RX4) (by decide) rfl rfl (Nat.le_of_ble_eq_true rfl) rfl ?_
  intro K hR hN
  refine G.aload_n (pc2 := 1) (x := a 0) dX4_writeEntry_0 rfl rfl rfl ?_
  refine G.getf (pc2 := 4) (q0 := 0) (ci := 4) (k := 2) (v := .ref (a 8)) iX4_writeEntry_X4 kX4_writeEntry_26 rfl rfl (by decide) rfl dX4_writeEntry_1 rfl ?_
  refine G.iload_n (pc2 := 5) (x := p0) dX4_writeEntry_4 rfl rfl rfl ?_
  refine G.callVd (pc2 := 8) (i := 8) (j := 11) (q0 := 8) (ci := 3) (As := [.int p0]) (rest := []) (ws2 := wX a cI cZ u) (st2 := [.int (vX3_pageAt u.2.2.1 p0)]) (c_X3_pageAt (cI := cI) (cZ := cZ) (a 8) (a 9) (a 10) u.2.2.1 p0 (hq)) gX4_writeEntry_X3_pageAt rfl rfl rfl ndX3_pageAt ⟨Nat.le_of_ble_eq_true rfl, Nat.le_of_ble_eq_true rfl⟩ ⟨Nat.le_of_ble_eq_true rfl, Nat.le_of_ble_eq_true rfl⟩ rfl rfl (Nat.le_of_ble_eq_true rfl) rfl rfl rfl rfl rfl rfl dX4_writeEntry_5 rfl ?_
  generalize ev_5 : vX3_pageAt u.2.2.1 p0 = v_5
  refine G.istore_n (pc2 := 9) (lv2 := [(0, .ref (a 0)), (1, .int p0), (2, .int v_5)]) [1, 2, 0] dX4_writeEntry_8 rfl (by decide) rfl rfl ?_
  refine G.iload_n (pc2 := 10) (x := v_5) dX4_writeEntry_9 rfl rfl rfl ?_
  refine G.bipush (pc2 := 12) (v := (-9)) dX4_writeEntry_10 (by decide) rfl ?_
  refine G.icmp_ne (pc2 := 15) (tgt := 16) dX4_writeEntry_12 rfl rfl (fun c_12 => ?_) (fun c_12 => ?_)
  · refine G.aload_n (pc2 := 17) (x := a 0) dX4_writeEntry_16 rfl rfl rfl ?_
    refine G.getf (pc2 := 20) (q0 := 0) (ci := 4) (k := 0) (v := .ref (a 1)) iX4_writeEntry_X4 kX4_writeEntry_10 rfl rfl (by decide) rfl dX4_writeEntry_17 rfl ?_
    refine G.iload_n (pc2 := 21) (x := v_5) dX4_writeEntry_20 rfl rfl rfl ?_
    refine G.aload_n (pc2 := 22) (x := a 0) dX4_writeEntry_21 rfl rfl rfl ?_
    refine G.getf (pc2 := 25) (q0 := 0) (ci := 4) (k := 2) (v := .ref (a 8)) iX4_writeEntry_X4 kX4_writeEntry_26 rfl rfl (by decide) rfl dX4_writeEntry_22 rfl ?_
    refine G.iload_n (pc2 := 26) (x := p0) dX4_writeEntry_25 rfl rfl rfl ?_
    refine G.callVd (pc2 := 29) (i := 8) (j := 11) (q0 := 8) (ci := 3) (As := [.int p0]) (rest := [.int v_5, .ref (a 1)]) (ws2 := wX a cI cZ u) (st2 := [.int (vX3_valueAt u.2.2.1 p0), .int v_5, .ref (a 1)]) (c_X3_valueAt (cI := cI) (cZ := cZ) (a 8) (a 9) (a 10) u.2.2.1 p0 (hq)) gX4_writeEntry_X3_valueAt rfl rfl rfl ndX3_valueAt ⟨Nat.le_of_ble_eq_true rfl, Nat.le_of_ble_eq_true rfl⟩ ⟨Nat.le_of_ble_eq_true rfl, Nat.le_of_ble_eq_true rfl⟩ rfl rfl (Nat.le_of_ble_eq_true rfl) rfl rfl rfl rfl rfl rfl dX4_writeEntry_26 rfl ?_
    generalize ev_26 : vX3_valueAt u.2.2.1 p0 = v_26
    refine G.callVd (pc2 := 32) (i := 1) (j := 3) (q0 := 1) (ci := 0) (As := [.int v_5, .int v_26]) (rest := []) (ws2 := wX a cI cZ ((sX0_store u.1 v_5 v_26), u.2.1, u.2.2.1, u.2.2.2.1, u.2.2.2.2)) (st2 := []) (c_X0_store (cI := cI) (cZ := cZ) (a 1) (a 2) u.1 v_5 v_26 (by subst ev_26 ev_5; exact ((pageAt_pg hq).resolve_left c_12))) gX4_writeEntry_X0_store rfl rfl rfl ndX0_store ⟨Nat.le_of_ble_eq_true rfl, Nat.le_of_ble_eq_true rfl⟩ ⟨Nat.le_of_ble_eq_true rfl, Nat.le_of_ble_eq_true rfl⟩ rfl rfl (Nat.le_of_ble_eq_true rfl) rfl rfl rfl rfl rfl rfl dX4_writeEntry_29 rfl ?_
    generalize et_29 : sX0_store u.1 v_5 v_26 = t_29
    refine G.aload_n (pc2 := 33) (x := a 0) dX4_writeEntry_32 rfl rfl rfl ?_
    refine G.getf (pc2 := 36) (q0 := 0) (ci := 4) (k := 2) (v := .ref (a 8)) iX4_writeEntry_X4 kX4_writeEntry_26 rfl rfl (by decide) rfl dX4_writeEntry_33 rfl ?_
    refine G.iload_n (pc2 := 37) (x := p0) dX4_writeEntry_36 rfl rfl rfl ?_
    refine G.callVd (pc2 := 40) (i := 8) (j := 11) (q0 := 8) (ci := 3) (As := [.int p0]) (rest := []) (ws2 := wX a cI cZ (t_29, u.2.1, (sX3_removeAt u.2.2.1 p0), u.2.2.2.1, u.2.2.2.2)) (st2 := []) (c_X3_removeAt (cI := cI) (cZ := cZ) (a 8) (a 9) (a 10) u.2.2.1 p0 (hq)) gX4_writeEntry_X3_removeAt rfl rfl rfl ndX3_removeAt ⟨Nat.le_of_ble_eq_true rfl, Nat.le_of_ble_eq_true rfl⟩ ⟨Nat.le_of_ble_eq_true rfl, Nat.le_of_ble_eq_true rfl⟩ rfl rfl (Nat.le_of_ble_eq_true rfl) rfl rfl rfl rfl rfl rfl dX4_writeEntry_37 rfl ?_
    generalize et_37 : sX3_removeAt u.2.2.1 p0 = t_37
    subst et_37 et_29 ev_26 ev_5
    exact G.vreturn hR dX4_writeEntry_40 ⟨rfl, congrArg (wX a cI cZ) (by simp only [sX4_writeEntry, if_neg c_12])⟩
  · subst ev_5
    exact G.vreturn hR dX4_writeEntry_15 ⟨rfl, congrArg (wX a cI cZ) (by simp only [sX4_writeEntry, if_pos c_12])⟩
set_option maxRecDepth 100000 in
set_option maxHeartbeats 4000000 in
theorem c_X4_enqueue {cI cZ : ClassId} (a : Nat → Nat) (u : SX) (p0 : Int32) (h0 : Pg p0) (hq : QW u.2.2.1) : Ct yX4_enqueue wsX4_enqueue rX4_enqueue cI cZ [.ref (a 0), .int p0] (wX a cI cZ u) 0 0 (rt (none) (wX a cI cZ (sX4_enqueue u p0))) := by
  refine Ct.of (cc := cX4_enqueue) (nL := 2) (own := RX4) (by decide) rfl rfl (Nat.le_of_ble_eq_true rfl) rfl ?_
  intro K hR hN
  refine G.aload_n (pc2 := 1) (x := a 0) dX4_enqueue_0 rfl rfl rfl ?_
  refine G.getf (pc2 := 4) (q0 := 0) (ci := 4) (k := 2) (v := .ref (a 8)) iX4_enqueue_X4 kX4_enqueue_26 rfl rfl (by decide) rfl dX4_enqueue_1 rfl ?_
  refine G.callVd (pc2 := 7) (i := 8) (j := 11) (q0 := 8) (ci := 3) (As := []) (rest := []) (ws2 := wX a cI cZ u) (st2 := [.int (vX3_isFull u.2.2.1)]) (c_X3_isFull (cI := cI) (cZ := cZ) (a 8) (a 9) (a 10) u.2.2.1) gX4_enqueue_X3_isFull rfl rfl rfl ndX3_isFull ⟨Nat.le_of_ble_eq_true rfl, Nat.le_of_ble_eq_true rfl⟩ ⟨Nat.le_of_ble_eq_true rfl, Nat.le_of_ble_eq_true rfl⟩ rfl rfl (Nat.le_of_ble_eq_true rfl) rfl rfl rfl rfl rfl rfl dX4_enqueue_4 rfl ?_
  generalize ev_4 : vX3_isFull u.2.2.1 = v_4
  refine G.if_eq (pc2 := 10) (tgt := 25) dX4_enqueue_7 rfl rfl (fun c_7 => ?_) (fun c_7 => ?_)
  · refine G.aload_n (pc2 := 26) (x := a 0) dX4_enqueue_25 rfl rfl rfl ?_
    refine G.getf (pc2 := 29) (q0 := 0) (ci := 4) (k := 2) (v := .ref (a 8)) iX4_enqueue_X4 kX4_enqueue_26 rfl rfl (by decide) rfl dX4_enqueue_26 rfl ?_
    refine G.iload_n (pc2 := 30) (x := p0) dX4_enqueue_29 rfl rfl rfl ?_
    refine G.aload_n (pc2 := 31) (x := a 0) dX4_enqueue_30 rfl rfl rfl ?_
    refine G.getf (pc2 := 34) (q0 := 0) (ci := 4) (k := 1) (v := .ref (a 3)) iX4_enqueue_X4 kX4_enqueue_19 rfl rfl (by decide) rfl dX4_enqueue_31 rfl ?_
    refine G.iload_n (pc2 := 35) (x := p0) dX4_enqueue_34 rfl rfl rfl ?_
    refine G.callVd (pc2 := 38) (i := 3) (j := 8) (q0 := 3) (ci := 1) (As := [.int p0]) (rest := [.int p0, .ref (a 8)]) (ws2 := wX a cI cZ u) (st2 := [.int (vX1_valueOf u.2.1 p0), .int p0, .ref (a 8)]) (c_X1_valueOf (cI := cI) (cZ := cZ) (a 3) (a 4) (a 5) (a 6) (a 7) u.2.1 p0 (h0)) gX4_enqueue_X1_valueOf rfl rfl rfl ndX1_valueOf ⟨Nat.le_of_ble_eq_true rfl, Nat.le_of_ble_eq_true rfl⟩ ⟨Nat.le_of_ble_eq_true rfl, Nat.le_of_ble_eq_true rfl⟩ rfl rfl (Nat.le_of_ble_eq_true rfl) rfl rfl rfl rfl rfl rfl dX4_enqueue_35 rfl ?_
    generalize ev_35 : vX1_valueOf u.2.1 p0 = v_35
    refine G.callVd (pc2 := 41) (i := 8) (j := 11) (q0 := 8) (ci := 3) (As := [.int p0, .int v_35]) (rest := []) (ws2 := wX a cI cZ (u.1, u.2.1, (sX3_append u.2.2.1 p0 v_35), u.2.2.2.1, u.2.2.2.2)) (st2 := []) (c_X3_append (cI := cI) (cZ := cZ) (a 8) (a 9) (a 10) u.2.2.1 p0 v_35 (hq)) gX4_enqueue_X3_append rfl rfl rfl ndX3_append ⟨Nat.le_of_ble_eq_true rfl, Nat.le_of_ble_eq_true rfl⟩ ⟨Nat.le_of_ble_eq_true rfl, Nat.le_of_ble_eq_true rfl⟩ rfl rfl (Nat.le_of_ble_eq_true rfl) rfl rfl rfl rfl rfl rfl dX4_enqueue_38 rfl ?_
    generalize et_38 : sX3_append u.2.2.1 p0 v_35 = t_38
    subst et_38 ev_35 ev_4
    exact G.vreturn hR dX4_enqueue_41 ⟨rfl, congrArg (wX a cI cZ) (by simp only [sX4_enqueue, if_pos c_7])⟩
  · refine G.aload_n (pc2 := 11) (x := a 0) dX4_enqueue_10 rfl rfl rfl ?_
    refine G.iconst (pc2 := 12) (v := 0) dX4_enqueue_11 (by decide) rfl ?_
    refine G.callVd (pc2 := 15) (i := 0) (j := 14) (q0 := 0) (ci := 4) (As := [.int 0]) (rest := []) (ws2 := wX a cI cZ (sX4_writeEntry u 0)) (st2 := []) (c_X4_writeEntry (cI := cI) (cZ := cZ) a u 0 (hq)) gX4_enqueue_X4_writeEntry rfl rfl rfl ndX4_writeEntry ⟨Nat.le_of_ble_eq_true rfl, Nat.le_of_ble_eq_true rfl⟩ ⟨Nat.le_of_ble_eq_true rfl, Nat.le_of_ble_eq_true rfl⟩ rfl rfl (Nat.le_of_ble_eq_true rfl) rfl rfl rfl rfl rfl rfl dX4_enqueue_12 rfl ?_
    generalize et_12 : sX4_writeEntry u 0 = t_12
    refine G.aload_n (pc2 := 16) (x := a 0) dX4_enqueue_15 rfl rfl rfl ?_
    refine G.dup (pc2 := 17) dX4_enqueue_16 rfl rfl ?_
    refine G.getf (pc2 := 20) (q0 := 0) (ci := 4) (k := 9) (v := .int t_12.2.2.2.2.2.2.2.2.2) iX4_enqueue_X4 kX4_enqueue_144 rfl rfl (by decide) rfl dX4_enqueue_17 rfl ?_
    refine G.iconst (pc2 := 21) (v := 1) dX4_enqueue_20 (by decide) rfl ?_
    refine G.iadd (pc2 := 22) (v := t_12.2.2.2.2.2.2.2.2.2 + 1) dX4_enqueue_21 rfl rfl ?_
    refine G.putf (pc2 := 25) (q0 := 0) (ci := 4) (k := 9) (ws2 := wX a cI cZ (t_12.1, t_12.2.1, t_12.2.2.1, t_12.2.2.2.1, (t_12.2.2.2.2.1, t_12.2.2.2.2.2.1, t_12.2.2.2.2.2.2.1, t_12.2.2.2.2.2.2.2.1, t_12.2.2.2.2.2.2.2.2.1, t_12.2.2.2.2.2.2.2.2.2 + 1))) iX4_enqueue_X4 kX4_enqueue_144 tyX4_ok nmX4 rfl rfl (by decide) rfl rfl rfl (Nat.le_of_ble_eq_true rfl) rfl dX4_enqueue_22 rfl ?_
    refine G.aload_n (pc2 := 26) (x := a 0) dX4_enqueue_25 rfl rfl rfl ?_
    refine G.getf (pc2 := 29) (q0 := 0) (ci := 4) (k := 2) (v := .ref (a 8)) iX4_enqueue_X4 kX4_enqueue_26 rfl rfl (by decide) rfl dX4_enqueue_26 rfl ?_
    refine G.iload_n (pc2 := 30) (x := p0) dX4_enqueue_29 rfl rfl rfl ?_
    refine G.aload_n (pc2 := 31) (x := a 0) dX4_enqueue_30 rfl rfl rfl ?_
    refine G.getf (pc2 := 34) (q0 := 0) (ci := 4) (k := 1) (v := .ref (a 3)) iX4_enqueue_X4 kX4_enqueue_19 rfl rfl (by decide) rfl dX4_enqueue_31 rfl ?_
    refine G.iload_n (pc2 := 35) (x := p0) dX4_enqueue_34 rfl rfl rfl ?_
    refine G.callVd (pc2 := 38) (i := 3) (j := 8) (q0 := 3) (ci := 1) (As := [.int p0]) (rest := [.int p0, .ref (a 8)]) (ws2 := wX a cI cZ (t_12.1, t_12.2.1, t_12.2.2.1, t_12.2.2.2.1, (t_12.2.2.2.2.1, t_12.2.2.2.2.2.1, t_12.2.2.2.2.2.2.1, t_12.2.2.2.2.2.2.2.1, t_12.2.2.2.2.2.2.2.2.1, t_12.2.2.2.2.2.2.2.2.2 + 1))) (st2 := [.int (vX1_valueOf t_12.2.1 p0), .int p0, .ref (a 8)]) (c_X1_valueOf (cI := cI) (cZ := cZ) (a 3) (a 4) (a 5) (a 6) (a 7) t_12.2.1 p0 (h0)) gX4_enqueue_X1_valueOf rfl rfl rfl ndX1_valueOf ⟨Nat.le_of_ble_eq_true rfl, Nat.le_of_ble_eq_true rfl⟩ ⟨Nat.le_of_ble_eq_true rfl, Nat.le_of_ble_eq_true rfl⟩ rfl rfl (Nat.le_of_ble_eq_true rfl) rfl rfl rfl rfl rfl rfl dX4_enqueue_35 rfl ?_
    generalize ev_35 : vX1_valueOf t_12.2.1 p0 = v_35
    refine G.callVd (pc2 := 41) (i := 8) (j := 11) (q0 := 8) (ci := 3) (As := [.int p0, .int v_35]) (rest := []) (ws2 := wX a cI cZ (t_12.1, t_12.2.1, (sX3_append t_12.2.2.1 p0 v_35), t_12.2.2.2.1, (t_12.2.2.2.2.1, t_12.2.2.2.2.2.1, t_12.2.2.2.2.2.2.1, t_12.2.2.2.2.2.2.2.1, t_12.2.2.2.2.2.2.2.2.1, t_12.2.2.2.2.2.2.2.2.2 + 1))) (st2 := []) (c_X3_append (cI := cI) (cZ := cZ) (a 8) (a 9) (a 10) t_12.2.2.1 p0 v_35 (by subst ev_35 et_12 ev_4; exact (by first | exact hq | exact qw_writeEntry hq))) gX4_enqueue_X3_append rfl rfl rfl ndX3_append ⟨Nat.le_of_ble_eq_true rfl, Nat.le_of_ble_eq_true rfl⟩ ⟨Nat.le_of_ble_eq_true rfl, Nat.le_of_ble_eq_true rfl⟩ rfl rfl (Nat.le_of_ble_eq_true rfl) rfl rfl rfl rfl rfl rfl dX4_enqueue_38 rfl ?_
    generalize et_38 : sX3_append t_12.2.2.1 p0 v_35 = t_38
    subst et_38 ev_35 et_12 ev_4
    exact G.vreturn hR dX4_enqueue_41 ⟨rfl, congrArg (wX a cI cZ) (by simp only [sX4_enqueue, if_neg c_7])⟩
