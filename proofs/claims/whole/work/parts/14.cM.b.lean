set_option maxRecDepth 100000 in
set_option maxHeartbeats 4000000 in
theorem c_X5_isStuck {cI cZ : ClassId} (a : Nat → Nat) (u : SM) (p0 : Int32) (h0 : Pg p0) (hh : HW u.2.2.2.1) : Ct yX5_isStuck wsX5_isStuck rX5_isStuck cI cZ [.ref (a 0), .int p0] (wM a cI cZ u) 0 0 (rt (some (vX5_isStuck u p0)) (wM a cI cZ u)) := by
  refine Ct.of (cc := cX5_isStuck) (nL := 2) (own := RX5) (by decide) rfl rfl (Nat.le_of_ble_eq_true rfl) rfl ?_
  intro K hR hN
  refine G.aload_n (pc2 := 1) (x := a 0) dX5_isStuck_0 rfl rfl rfl ?_
  refine G.getf (pc2 := 4) (q0 := 0) (ci := 5) (k := 14) (v := .ref (a 4)) iX5_isStuck_X5 kX5_isStuck_19 rfl rfl (by decide) rfl dX5_isStuck_1 rfl ?_
  refine G.iload_n (pc2 := 5) (x := p0) dX5_isStuck_4 rfl rfl rfl ?_
  refine G.zald (pc2 := 6) (q0 := 4) (j := ix p0) (v := u.2.1.1 (ix p0)) rfl (h0) rfl dX5_isStuck_5 rfl ?_
  refine G.if_ne (pc2 := 9) (tgt := 20) dX5_isStuck_6 rfl rfl (fun c_6 => ?_) (fun c_6 => ?_)
  · refine G.iconst (pc2 := 21) (v := 0) dX5_isStuck_20 (by decide) rfl ?_
    exact G.ireturn hR (rfl) dX5_isStuck_21 ⟨congrArg some (by simp only [vX5_isStuck, if_neg c_6]), rfl⟩
  · refine G.aload_n (pc2 := 10) (x := a 0) dX5_isStuck_9 rfl rfl rfl ?_
    refine G.callVd (pc2 := 13) (i := 0) (j := 10) (q0 := 0) (ci := 5) (As := []) (rest := []) (ws2 := wM a cI cZ u) (st2 := [.int (vX5_canLoad u)]) (c_X5_canLoad (cI := cI) (cZ := cZ) a u (hh)) gX5_isStuck_X5_canLoad rfl rfl rfl ndX5_canLoad ⟨Nat.le_of_ble_eq_true rfl, Nat.le_of_ble_eq_true rfl⟩ ⟨Nat.le_of_ble_eq_true rfl, Nat.le_of_ble_eq_true rfl⟩ rfl rfl (Nat.le_of_ble_eq_true rfl) rfl rfl rfl rfl rfl rfl dX5_isStuck_10 rfl ?_
    generalize ev_10 : vX5_canLoad u = v_10
    refine G.if_ne (pc2 := 16) (tgt := 20) dX5_isStuck_13 rfl rfl (fun c_13 => ?_) (fun c_13 => ?_)
    · refine G.iconst (pc2 := 21) (v := 0) dX5_isStuck_20 (by decide) rfl ?_
      subst ev_10
      exact G.ireturn hR (rfl) dX5_isStuck_21 ⟨congrArg some (by simp only [vX5_isStuck, if_pos c_6, if_neg c_13]), rfl⟩
    · refine G.iconst (pc2 := 17) (v := 1) dX5_isStuck_16 (by decide) rfl ?_
      refine G.goto (tgt := 21) dX5_isStuck_17 rfl ?_
      subst ev_10
      exact G.ireturn hR (rfl) dX5_isStuck_21 ⟨congrArg some (by simp only [vX5_isStuck, if_pos c_6, if_pos c_13]), rfl⟩
set_option maxRecDepth 100000 in
set_option maxHeartbeats 4000000 in
theorem c_X5_record {cI cZ : ClassId} (a : Nat → Nat) (u : SM) (p0 : Int32) (h0 : Pg p0) (hh : HW u.2.2.2.1) : Ct yX5_record wsX5_record rX5_record cI cZ [.ref (a 0), .int p0] (wM a cI cZ u) 0 0 (rt (none) (wM a cI cZ (sX5_record u p0))) := by
  refine Ct.of (cc := cX5_record) (nL := 3) (own := RX5) (by decide) rfl rfl (Nat.le_of_ble_eq_true rfl) rfl ?_
  intro K hR hN
  have loop58 : ∀ (n : Nat) (w : SM) (l2 : Int32), KI n l2 → sX5_record u p0 = lsX5_record_58 p0 n w l2 → G K cI cZ cX5_record 3 RX5 wsX5_record rX5_record 0 0 (wM a cI cZ w) 58 [(0, .ref (a 0)), (1, .int p0), (2, .int l2)] [] := by
    intro n
    induction n with
    | zero =>
      intro w l2 hi hs
      exact absurd hi (KI.zero)
    | succ n ih =>
      intro w l2 hi hs
      refine G.iload_n (pc2 := 59) (x := l2) dX5_record_58 rfl rfl rfl ?_
      refine G.iconst (pc2 := 60) (v := 1) dX5_record_59 (by decide) rfl ?_
      refine G.icmp_le (pc2 := 63) (tgt := 93) dX5_record_60 rfl rfl (fun c_60 => ?_) (fun c_60 => ?_)
      · refine G.aload_n (pc2 := 94) (x := a 0) dX5_record_93 rfl rfl rfl ?_
        refine G.getf (pc2 := 97) (q0 := 0) (ci := 5) (k := 16) (v := .ref (a 6)) iX5_record_X5 kX5_record_26 rfl rfl (by decide) rfl dX5_record_94 rfl ?_
        refine G.iconst (pc2 := 98) (v := 3) dX5_record_97 (by decide) rfl ?_
        refine G.iload_n (pc2 := 99) (x := p0) dX5_record_98 rfl rfl rfl ?_
        refine G.imul (pc2 := 100) (v := 3 * p0) dX5_record_99 rfl rfl ?_
        refine G.aload_n (pc2 := 101) (x := a 0) dX5_record_100 rfl rfl rfl ?_
        refine G.getf (pc2 := 104) (q0 := 0) (ci := 5) (k := 4) (v := .int w.2.2.2.2.2.1) iX5_record_X5 kX5_record_59 rfl rfl (by decide) rfl dX5_record_101 rfl ?_
        refine G.iast (pc2 := 105) (q0 := 6) (j := ix (3 * p0)) (ws2 := wM a cI cZ (w.1, w.2.1, w.2.2.1, (upd w.2.2.2.1.1 (ix (3 * p0)) w.2.2.2.2.2.1, w.2.2.2.1.2.1, w.2.2.2.1.2.2), w.2.2.2.2)) rfl (recIx3 h0) rfl dX5_record_104 rfl ?_
        refine G.aload_n (pc2 := 106) (x := a 0) dX5_record_105 rfl rfl rfl ?_
        refine G.getf (pc2 := 109) (q0 := 0) (ci := 5) (k := 17) (v := .ref (a 7)) iX5_record_X5 kX5_record_29 rfl rfl (by decide) rfl dX5_record_106 rfl ?_
        refine G.iload_n (pc2 := 110) (x := p0) dX5_record_109 rfl rfl rfl ?_
        refine G.iald (pc2 := 111) (q0 := 7) (j := ix p0) (v := w.2.2.2.1.2.1 (ix p0)) rfl (h0) rfl dX5_record_110 rfl ?_
        refine G.aload_n (pc2 := 112) (x := a 0) dX5_record_111 rfl rfl rfl ?_
        refine G.getf (pc2 := 115) (q0 := 0) (ci := 5) (k := 1) (v := .int w.2.2.2.1.2.2) iX5_record_X5 kX5_record_50 rfl rfl (by decide) rfl dX5_record_112 rfl ?_
        refine G.icmp_ge (pc2 := 118) (tgt := 128) dX5_record_115 rfl rfl (fun c_115 => ?_) (fun c_115 => ?_)
        · exact G.vreturn hR dX5_record_128 ⟨rfl, congrArg (wM a cI cZ) (by rw [hs]; simp only [lsX5_record_58, if_neg c_60, if_neg c_115])⟩
        · refine G.aload_n (pc2 := 119) (x := a 0) dX5_record_118 rfl rfl rfl ?_
          refine G.getf (pc2 := 122) (q0 := 0) (ci := 5) (k := 17) (v := .ref (a 7)) iX5_record_X5 kX5_record_29 rfl rfl (by decide) rfl dX5_record_119 rfl ?_
          refine G.iload_n (pc2 := 123) (x := p0) dX5_record_122 rfl rfl rfl ?_
          refine G.dup2 (pc2 := 124) dX5_record_123 rfl rfl rfl ?_
          refine G.iald (pc2 := 125) (q0 := 7) (j := ix p0) (v := w.2.2.2.1.2.1 (ix p0)) rfl (h0) rfl dX5_record_124 rfl ?_
          refine G.iconst (pc2 := 126) (v := 1) dX5_record_125 (by decide) rfl ?_
          refine G.iadd (pc2 := 127) (v := (w.2.2.2.1.2.1 (ix p0)) + 1) dX5_record_126 rfl rfl ?_
          refine G.iast (pc2 := 128) (q0 := 7) (j := ix p0) (ws2 := wM a cI cZ (w.1, w.2.1, w.2.2.1, (upd w.2.2.2.1.1 (ix (3 * p0)) w.2.2.2.2.2.1, upd w.2.2.2.1.2.1 (ix p0) ((w.2.2.2.1.2.1 (ix p0)) + 1), w.2.2.2.1.2.2), w.2.2.2.2)) rfl (h0) rfl dX5_record_127 rfl ?_
          exact G.vreturn hR dX5_record_128 ⟨rfl, congrArg (wM a cI cZ) (by rw [hs]; simp only [lsX5_record_58, if_neg c_60, if_pos c_115])⟩
      · refine G.aload_n (pc2 := 64) (x := a 0) dX5_record_63 rfl rfl rfl ?_
        refine G.getf (pc2 := 67) (q0 := 0) (ci := 5) (k := 16) (v := .ref (a 6)) iX5_record_X5 kX5_record_26 rfl rfl (by decide) rfl dX5_record_64 rfl ?_
        refine G.iconst (pc2 := 68) (v := 3) dX5_record_67 (by decide) rfl ?_
        refine G.iload_n (pc2 := 69) (x := p0) dX5_record_68 rfl rfl rfl ?_
        refine G.imul (pc2 := 70) (v := 3 * p0) dX5_record_69 rfl rfl ?_
        refine G.iload_n (pc2 := 71) (x := l2) dX5_record_70 rfl rfl rfl ?_
        refine G.iadd (pc2 := 72) (v := (3 * p0) + l2) dX5_record_71 rfl rfl ?_
        refine G.iconst (pc2 := 73) (v := 1) dX5_record_72 (by decide) rfl ?_
        refine G.isub (pc2 := 74) (v := ((3 * p0) + l2) - 1) dX5_record_73 rfl rfl ?_
        refine G.aload_n (pc2 := 75) (x := a 0) dX5_record_74 rfl rfl rfl ?_
        refine G.getf (pc2 := 78) (q0 := 0) (ci := 5) (k := 16) (v := .ref (a 6)) iX5_record_X5 kX5_record_26 rfl rfl (by decide) rfl dX5_record_75 rfl ?_
        refine G.iconst (pc2 := 79) (v := 3) dX5_record_78 (by decide) rfl ?_
        refine G.iload_n (pc2 := 80) (x := p0) dX5_record_79 rfl rfl rfl ?_
        refine G.imul (pc2 := 81) (v := 3 * p0) dX5_record_80 rfl rfl ?_
        refine G.iload_n (pc2 := 82) (x := l2) dX5_record_81 rfl rfl rfl ?_
        refine G.iadd (pc2 := 83) (v := (3 * p0) + l2) dX5_record_82 rfl rfl ?_
        refine G.iconst (pc2 := 84) (v := 2) dX5_record_83 (by decide) rfl ?_
        refine G.isub (pc2 := 85) (v := ((3 * p0) + l2) - 2) dX5_record_84 rfl rfl ?_
        refine G.iald (pc2 := 86) (q0 := 6) (j := ix (((3 * p0) + l2) - 2)) (v := w.2.2.2.1.1 (ix (((3 * p0) + l2) - 2))) rfl (KI.inx2 h0 hi c_60) rfl dX5_record_85 rfl ?_
        refine G.iast (pc2 := 87) (q0 := 6) (j := ix (((3 * p0) + l2) - 1)) (ws2 := wM a cI cZ (w.1, w.2.1, w.2.2.1, (upd w.2.2.2.1.1 (ix (((3 * p0) + l2) - 1)) (w.2.2.2.1.1 (ix (((3 * p0) + l2) - 2))), w.2.2.2.1.2.1, w.2.2.2.1.2.2), w.2.2.2.2)) rfl (KI.inx1 h0 hi) rfl dX5_record_86 rfl ?_
        refine G.iinc (pc2 := 90) (k := 2) (v := l2 + (-1)) (lv2 := [(0, .ref (a 0)), (1, .int p0), (2, .int (l2 + (-1)))]) [1, 2, 0] dX5_record_87 rfl rfl (by decide) rfl rfl ?_
        refine G.goto (tgt := 58) dX5_record_90 rfl ?_
        exact ih  (w.1, w.2.1, w.2.2.1, (upd w.2.2.2.1.1 (ix (((3 * p0) + l2) - 1)) (w.2.2.2.1.1 (ix (((3 * p0) + l2) - 2))), w.2.2.2.1.2.1, w.2.2.2.1.2.2), w.2.2.2.2) (l2 + (-1)) (KI.next hi c_60) (by rw [hs]; simp only [lsX5_record_58, if_pos c_60])
  refine G.aload_n (pc2 := 1) (x := a 0) dX5_record_0 rfl rfl rfl ?_
  refine G.dup (pc2 := 2) dX5_record_1 rfl rfl ?_
  refine G.getf (pc2 := 5) (q0 := 0) (ci := 5) (k := 4) (v := .int u.2.2.2.2.2.1) iX5_record_X5 kX5_record_59 rfl rfl (by decide) rfl dX5_record_2 rfl ?_
  refine G.iconst (pc2 := 6) (v := 1) dX5_record_5 (by decide) rfl ?_
  refine G.iadd (pc2 := 7) (v := u.2.2.2.2.2.1 + 1) dX5_record_6 rfl rfl ?_
  refine G.putf (pc2 := 10) (q0 := 0) (ci := 5) (k := 4) (ws2 := wM a cI cZ (u.1, u.2.1, u.2.2.1, u.2.2.2.1, (u.2.2.2.2.1, u.2.2.2.2.2.1 + 1, u.2.2.2.2.2.2.1, u.2.2.2.2.2.2.2.1, u.2.2.2.2.2.2.2.2.1, u.2.2.2.2.2.2.2.2.2))) iX5_record_X5 kX5_record_59 tyX5_ok nmX5 rfl rfl (by decide) rfl rfl rfl (Nat.le_of_ble_eq_true rfl) rfl dX5_record_7 rfl ?_
  refine G.aload_n (pc2 := 11) (x := a 0) dX5_record_10 rfl rfl rfl ?_
  refine G.getf (pc2 := 14) (q0 := 0) (ci := 5) (k := 14) (v := .ref (a 4)) iX5_record_X5 kX5_record_19 rfl rfl (by decide) rfl dX5_record_11 rfl ?_
  refine G.iload_n (pc2 := 15) (x := p0) dX5_record_14 rfl rfl rfl ?_
  refine G.zald (pc2 := 16) (q0 := 4) (j := ix p0) (v := u.2.1.1 (ix p0)) rfl (h0) rfl dX5_record_15 rfl ?_
  refine G.if_ne (pc2 := 19) (tgt := 53) dX5_record_16 rfl rfl (fun c_16 => ?_) (fun c_16 => ?_)
  · refine G.aload_n (pc2 := 54) (x := a 0) dX5_record_53 rfl rfl rfl ?_
    refine G.getf (pc2 := 57) (q0 := 0) (ci := 5) (k := 1) (v := .int u.2.2.2.1.2.2) iX5_record_X5 kX5_record_50 rfl rfl (by decide) rfl dX5_record_54 rfl ?_
    refine G.istore_n (pc2 := 58) (lv2 := [(0, .ref (a 0)), (1, .int p0), (2, .int u.2.2.2.1.2.2)]) [1, 2, 0] dX5_record_57 rfl (by decide) rfl rfl ?_
    exact loop58 3 (u.1, u.2.1, u.2.2.1, u.2.2.2.1, (u.2.2.2.2.1, u.2.2.2.2.2.1 + 1, u.2.2.2.2.2.2.1, u.2.2.2.2.2.2.2.1, u.2.2.2.2.2.2.2.2.1, u.2.2.2.2.2.2.2.2.2)) u.2.2.2.1.2.2 (KI.start hh) (by simp only [sX5_record, if_neg c_16])
  · refine G.aload_n (pc2 := 20) (x := a 0) dX5_record_19 rfl rfl rfl ?_
    refine G.getf (pc2 := 23) (q0 := 0) (ci := 5) (k := 17) (v := .ref (a 7)) iX5_record_X5 kX5_record_29 rfl rfl (by decide) rfl dX5_record_20 rfl ?_
    refine G.iload_n (pc2 := 24) (x := p0) dX5_record_23 rfl rfl rfl ?_
    refine G.iald (pc2 := 25) (q0 := 7) (j := ix p0) (v := u.2.2.2.1.2.1 (ix p0)) rfl (h0) rfl dX5_record_24 rfl ?_
    refine G.if_le (pc2 := 28) (tgt := 53) dX5_record_25 rfl rfl (fun c_25 => ?_) (fun c_25 => ?_)
    · refine G.aload_n (pc2 := 54) (x := a 0) dX5_record_53 rfl rfl rfl ?_
      refine G.getf (pc2 := 57) (q0 := 0) (ci := 5) (k := 1) (v := .int u.2.2.2.1.2.2) iX5_record_X5 kX5_record_50 rfl rfl (by decide) rfl dX5_record_54 rfl ?_
      refine G.istore_n (pc2 := 58) (lv2 := [(0, .ref (a 0)), (1, .int p0), (2, .int u.2.2.2.1.2.2)]) [1, 2, 0] dX5_record_57 rfl (by decide) rfl rfl ?_
      exact loop58 3 (u.1, u.2.1, u.2.2.1, u.2.2.2.1, (u.2.2.2.2.1, u.2.2.2.2.2.1 + 1, u.2.2.2.2.2.2.1, u.2.2.2.2.2.2.2.1, u.2.2.2.2.2.2.2.2.1, u.2.2.2.2.2.2.2.2.2)) u.2.2.2.1.2.2 (KI.start hh) (by simp only [sX5_record, if_pos c_16, if_neg c_25])
    · refine G.aload_n (pc2 := 29) (x := a 0) dX5_record_28 rfl rfl rfl ?_
      refine G.getf (pc2 := 32) (q0 := 0) (ci := 5) (k := 4) (v := .int (u.2.2.2.2.2.1 + 1)) iX5_record_X5 kX5_record_59 rfl rfl (by decide) rfl dX5_record_29 rfl ?_
      refine G.aload_n (pc2 := 33) (x := a 0) dX5_record_32 rfl rfl rfl ?_
      refine G.iload_n (pc2 := 34) (x := p0) dX5_record_33 rfl rfl rfl ?_
      refine G.iconst (pc2 := 35) (v := 1) dX5_record_34 (by decide) rfl ?_
      refine G.callVd (pc2 := 38) (i := 0) (j := 10) (q0 := 0) (ci := 5) (As := [.int p0, .int 1]) (rest := [.int (u.2.2.2.2.2.1 + 1)]) (ws2 := wM a cI cZ (u.1, u.2.1, u.2.2.1, u.2.2.2.1, (u.2.2.2.2.1, u.2.2.2.2.2.1 + 1, u.2.2.2.2.2.2.1, u.2.2.2.2.2.2.2.1, u.2.2.2.2.2.2.2.2.1, u.2.2.2.2.2.2.2.2.2))) (st2 := [.int (vX5_time (u.1, u.2.1, u.2.2.1, u.2.2.2.1, (u.2.2.2.2.1, u.2.2.2.2.2.1 + 1, u.2.2.2.2.2.2.1, u.2.2.2.2.2.2.2.1, u.2.2.2.2.2.2.2.2.1, u.2.2.2.2.2.2.2.2.2)) p0 1), .int (u.2.2.2.2.2.1 + 1)]) (c_X5_time (cI := cI) (cZ := cZ) a (u.1, u.2.1, u.2.2.1, u.2.2.2.1, (u.2.2.2.2.1, u.2.2.2.2.2.1 + 1, u.2.2.2.2.2.2.1, u.2.2.2.2.2.2.2.1, u.2.2.2.2.2.2.2.2.1, u.2.2.2.2.2.2.2.2.2)) p0 1 (ti1 h0)) gX5_record_X5_time rfl rfl rfl ndX5_time ⟨Nat.le_of_ble_eq_true rfl, Nat.le_of_ble_eq_true rfl⟩ ⟨Nat.le_of_ble_eq_true rfl, Nat.le_of_ble_eq_true rfl⟩ rfl rfl (Nat.le_of_ble_eq_true rfl) rfl rfl rfl rfl rfl rfl dX5_record_35 rfl ?_
      generalize ev_35 : vX5_time (u.1, u.2.1, u.2.2.1, u.2.2.2.1, (u.2.2.2.2.1, u.2.2.2.2.2.1 + 1, u.2.2.2.2.2.2.1, u.2.2.2.2.2.2.2.1, u.2.2.2.2.2.2.2.2.1, u.2.2.2.2.2.2.2.2.2)) p0 1 = v_35
      refine G.isub (pc2 := 39) (v := (u.2.2.2.2.2.1 + 1) - v_35) dX5_record_38 rfl rfl ?_
      refine G.aload_n (pc2 := 40) (x := a 0) dX5_record_39 rfl rfl rfl ?_
      refine G.getf (pc2 := 43) (q0 := 0) (ci := 5) (k := 3) (v := .int u.2.2.2.2.1) iX5_record_X5 kX5_record_56 rfl rfl (by decide) rfl dX5_record_40 rfl ?_
      refine G.icmp_le (pc2 := 46) (tgt := 53) dX5_record_43 rfl rfl (fun c_43 => ?_) (fun c_43 => ?_)
      · refine G.aload_n (pc2 := 54) (x := a 0) dX5_record_53 rfl rfl rfl ?_
        refine G.getf (pc2 := 57) (q0 := 0) (ci := 5) (k := 1) (v := .int u.2.2.2.1.2.2) iX5_record_X5 kX5_record_50 rfl rfl (by decide) rfl dX5_record_54 rfl ?_
        refine G.istore_n (pc2 := 58) (lv2 := [(0, .ref (a 0)), (1, .int p0), (2, .int u.2.2.2.1.2.2)]) [1, 2, 0] dX5_record_57 rfl (by decide) rfl rfl ?_
        subst ev_35
        exact loop58 3 (u.1, u.2.1, u.2.2.1, u.2.2.2.1, (u.2.2.2.2.1, u.2.2.2.2.2.1 + 1, u.2.2.2.2.2.2.1, u.2.2.2.2.2.2.2.1, u.2.2.2.2.2.2.2.2.1, u.2.2.2.2.2.2.2.2.2)) u.2.2.2.1.2.2 (KI.start hh) (by simp only [sX5_record, if_pos c_16, if_pos c_25, if_neg c_43])
      · refine G.aload_n (pc2 := 47) (x := a 0) dX5_record_46 rfl rfl rfl ?_
        refine G.getf (pc2 := 50) (q0 := 0) (ci := 5) (k := 17) (v := .ref (a 7)) iX5_record_X5 kX5_record_29 rfl rfl (by decide) rfl dX5_record_47 rfl ?_
        refine G.iload_n (pc2 := 51) (x := p0) dX5_record_50 rfl rfl rfl ?_
        refine G.iconst (pc2 := 52) (v := 0) dX5_record_51 (by decide) rfl ?_
        refine G.iast (pc2 := 53) (q0 := 7) (j := ix p0) (ws2 := wM a cI cZ (u.1, u.2.1, u.2.2.1, (u.2.2.2.1.1, upd u.2.2.2.1.2.1 (ix p0) 0, u.2.2.2.1.2.2), (u.2.2.2.2.1, u.2.2.2.2.2.1 + 1, u.2.2.2.2.2.2.1, u.2.2.2.2.2.2.2.1, u.2.2.2.2.2.2.2.2.1, u.2.2.2.2.2.2.2.2.2))) rfl (h0) rfl dX5_record_52 rfl ?_
        refine G.aload_n (pc2 := 54) (x := a 0) dX5_record_53 rfl rfl rfl ?_
        refine G.getf (pc2 := 57) (q0 := 0) (ci := 5) (k := 1) (v := .int u.2.2.2.1.2.2) iX5_record_X5 kX5_record_50 rfl rfl (by decide) rfl dX5_record_54 rfl ?_
        refine G.istore_n (pc2 := 58) (lv2 := [(0, .ref (a 0)), (1, .int p0), (2, .int u.2.2.2.1.2.2)]) [1, 2, 0] dX5_record_57 rfl (by decide) rfl rfl ?_
        subst ev_35
        exact loop58 3 (u.1, u.2.1, u.2.2.1, (u.2.2.2.1.1, upd u.2.2.2.1.2.1 (ix p0) 0, u.2.2.2.1.2.2), (u.2.2.2.2.1, u.2.2.2.2.2.1 + 1, u.2.2.2.2.2.2.1, u.2.2.2.2.2.2.2.1, u.2.2.2.2.2.2.2.2.1, u.2.2.2.2.2.2.2.2.2)) u.2.2.2.1.2.2 (KI.start hh) (by simp only [sX5_record, if_pos c_16, if_pos c_25, if_pos c_43])
set_option maxRecDepth 100000 in
set_option maxHeartbeats 4000000 in
theorem c_X5_positionInQueue {cI cZ : ClassId} (a : Nat → Nat) (u : SM) (p0 : Int32) (hq : QW u.2.2.1) : Ct yX5_positionInQueue wsX5_positionInQueue rX5_positionInQueue cI cZ [.ref (a 0), .int p0] (wM a cI cZ u) 0 0 (rt (some (vX5_positionInQueue u p0)) (wM a cI cZ u)) := by
  refine Ct.of (cc := cX5_positionInQueue) (nL := 3) (own := RX5) (by decide) rfl rfl (Nat.le_of_ble_eq_true rfl) rfl ?_
  intro K hR hN
  have loop2 : ∀ (n : Nat) (l2 : Int32), QI n u.2.2.1 l2 → vX5_positionInQueue u p0 = lvX5_positionInQueue_2 u p0 n l2 → G K cI cZ cX5_positionInQueue 3 RX5 wsX5_positionInQueue rX5_positionInQueue 0 0 (wM a cI cZ u) 2 [(0, .ref (a 0)), (1, .int p0), (2, .int l2)] [] := by
    intro n
    induction n with
    | zero =>
      intro l2 hi hv
      exact absurd hi (QI.zero)
    | succ n ih =>
      intro l2 hi hv
      refine G.iload_n (pc2 := 3) (x := l2) dX5_positionInQueue_2 rfl rfl rfl ?_
      refine G.aload_n (pc2 := 4) (x := a 0) dX5_positionInQueue_3 rfl rfl rfl ?_
      refine G.getf (pc2 := 7) (q0 := 0) (ci := 5) (k := 20) (v := .int u.2.2.1.2.2.2) iX5_positionInQueue_X5 kX5_positionInQueue_80 rfl rfl (by decide) rfl dX5_positionInQueue_4 rfl ?_
      refine G.icmp_ge (pc2 := 10) (tgt := 28) dX5_positionInQueue_7 rfl rfl (fun c_7 => ?_) (fun c_7 => ?_)
      · refine G.bipush (pc2 := 30) (v := (-9)) dX5_positionInQueue_28 (by decide) rfl ?_
        exact G.ireturn hR (rfl) dX5_positionInQueue_30 ⟨congrArg some (by rw [hv]; simp only [lvX5_positionInQueue_2, if_neg c_7]), rfl⟩
      · refine G.aload_n (pc2 := 11) (x := a 0) dX5_positionInQueue_10 rfl rfl rfl ?_
        refine G.getf (pc2 := 14) (q0 := 0) (ci := 5) (k := 18) (v := .ref (a 8)) iX5_positionInQueue_X5 kX5_positionInQueue_32 rfl rfl (by decide) rfl dX5_positionInQueue_11 rfl ?_
        refine G.iload_n (pc2 := 15) (x := l2) dX5_positionInQueue_14 rfl rfl rfl ?_
        refine G.iald (pc2 := 16) (q0 := 8) (j := ix l2) (v := u.2.2.1.1 (ix l2)) rfl (QI.inx hi c_7) rfl dX5_positionInQueue_15 rfl ?_
        refine G.iload_n (pc2 := 17) (x := p0) dX5_positionInQueue_16 rfl rfl rfl ?_
        refine G.icmp_ne (pc2 := 20) (tgt := 22) dX5_positionInQueue_17 rfl rfl (fun c_17 => ?_) (fun c_17 => ?_)
        · refine G.iinc (pc2 := 25) (k := 2) (v := l2 + 1) (lv2 := [(0, .ref (a 0)), (1, .int p0), (2, .int (l2 + 1))]) [1, 2, 0] dX5_positionInQueue_22 rfl rfl (by decide) rfl rfl ?_
          refine G.goto (tgt := 2) dX5_positionInQueue_25 rfl ?_
          exact ih  (l2 + 1) (QI.next hi c_7) (by rw [hv]; simp only [lvX5_positionInQueue_2, if_pos c_7, if_neg c_17])
        · refine G.iload_n (pc2 := 21) (x := l2) dX5_positionInQueue_20 rfl rfl rfl ?_
          exact G.ireturn hR (rfl) dX5_positionInQueue_21 ⟨congrArg some (by rw [hv]; simp only [lvX5_positionInQueue_2, if_pos c_7, if_pos c_17]), rfl⟩
  refine G.iconst (pc2 := 1) (v := 0) dX5_positionInQueue_0 (by decide) rfl ?_
  refine G.istore_n (pc2 := 2) (lv2 := [(0, .ref (a 0)), (1, .int p0), (2, .int 0)]) [1, 2, 0] dX5_positionInQueue_1 rfl (by decide) rfl rfl ?_
  exact loop2 9 0 (QI.start hq) (rfl)
set_option maxRecDepth 100000 in
set_option maxHeartbeats 4000000 in
theorem c_X5_removeEntry {cI cZ : ClassId} (a : Nat → Nat) (u : SM) (p0 : Int32) (hq : QW u.2.2.1) (hp : PE p0 u.2.2.1) : Ct yX5_removeEntry wsX5_removeEntry rX5_removeEntry cI cZ [.ref (a 0), .int p0] (wM a cI cZ u) 0 0 (rt (none) (wM a cI cZ (sX5_removeEntry u p0))) := by
  refine Ct.of (cc := cX5_removeEntry) (nL := 3) (own := RX5) (by decide) rfl rfl (Nat.le_of_ble_eq_true rfl) rfl ?_
  intro K hR hN
  have loop12 : ∀ (n : Nat) (w : SM) (l2 : Int32), SI n w.2.2.1 l2 → sX5_removeEntry u p0 = lsX5_removeEntry_12 p0 n w l2 → G K cI cZ cX5_removeEntry 3 RX5 wsX5_removeEntry rX5_removeEntry 0 0 (wM a cI cZ w) 12 [(0, .ref (a 0)), (1, .int p0), (2, .int l2)] [] := by
    intro n
    induction n with
    | zero =>
      intro w l2 hi hs
      exact absurd hi (SI.zero)
    | succ n ih =>
      intro w l2 hi hs
      refine G.iload_n (pc2 := 13) (x := l2) dX5_removeEntry_12 rfl rfl rfl ?_
      refine G.aload_n (pc2 := 14) (x := a 0) dX5_removeEntry_13 rfl rfl rfl ?_
      refine G.getf (pc2 := 17) (q0 := 0) (ci := 5) (k := 20) (v := .int w.2.2.1.2.2.2) iX5_removeEntry_X5 kX5_removeEntry_80 rfl rfl (by decide) rfl dX5_removeEntry_14 rfl ?_
      refine G.icmp_ge (pc2 := 20) (tgt := 54) dX5_removeEntry_17 rfl rfl (fun c_17 => ?_) (fun c_17 => ?_)
      · exact G.vreturn hR dX5_removeEntry_54 ⟨rfl, congrArg (wM a cI cZ) (by rw [hs]; simp only [lsX5_removeEntry_12, if_neg c_17])⟩
      · refine G.aload_n (pc2 := 21) (x := a 0) dX5_removeEntry_20 rfl rfl rfl ?_
        refine G.getf (pc2 := 24) (q0 := 0) (ci := 5) (k := 18) (v := .ref (a 8)) iX5_removeEntry_X5 kX5_removeEntry_32 rfl rfl (by decide) rfl dX5_removeEntry_21 rfl ?_
        refine G.iload_n (pc2 := 25) (x := l2) dX5_removeEntry_24 rfl rfl rfl ?_
        refine G.aload_n (pc2 := 26) (x := a 0) dX5_removeEntry_25 rfl rfl rfl ?_
        refine G.getf (pc2 := 29) (q0 := 0) (ci := 5) (k := 18) (v := .ref (a 8)) iX5_removeEntry_X5 kX5_removeEntry_32 rfl rfl (by decide) rfl dX5_removeEntry_26 rfl ?_
        refine G.iload_n (pc2 := 30) (x := l2) dX5_removeEntry_29 rfl rfl rfl ?_
        refine G.iconst (pc2 := 31) (v := 1) dX5_removeEntry_30 (by decide) rfl ?_
        refine G.iadd (pc2 := 32) (v := l2 + 1) dX5_removeEntry_31 rfl rfl ?_
        refine G.iald (pc2 := 33) (q0 := 8) (j := ix (l2 + 1)) (v := w.2.2.1.1 (ix (l2 + 1))) rfl (SI.inx1 hi c_17) rfl dX5_removeEntry_32 rfl ?_
        refine G.iast (pc2 := 34) (q0 := 8) (j := ix l2) (ws2 := wM a cI cZ (w.1, w.2.1, (upd w.2.2.1.1 (ix l2) (w.2.2.1.1 (ix (l2 + 1))), w.2.2.1.2.1, w.2.2.1.2.2.1, w.2.2.1.2.2.2), w.2.2.2.1, w.2.2.2.2)) rfl (SI.inx hi c_17) rfl dX5_removeEntry_33 rfl ?_
        refine G.aload_n (pc2 := 35) (x := a 0) dX5_removeEntry_34 rfl rfl rfl ?_
        refine G.getf (pc2 := 38) (q0 := 0) (ci := 5) (k := 19) (v := .ref (a 9)) iX5_removeEntry_X5 kX5_removeEntry_35 rfl rfl (by decide) rfl dX5_removeEntry_35 rfl ?_
        refine G.iload_n (pc2 := 39) (x := l2) dX5_removeEntry_38 rfl rfl rfl ?_
        refine G.aload_n (pc2 := 40) (x := a 0) dX5_removeEntry_39 rfl rfl rfl ?_
        refine G.getf (pc2 := 43) (q0 := 0) (ci := 5) (k := 19) (v := .ref (a 9)) iX5_removeEntry_X5 kX5_removeEntry_35 rfl rfl (by decide) rfl dX5_removeEntry_40 rfl ?_
        refine G.iload_n (pc2 := 44) (x := l2) dX5_removeEntry_43 rfl rfl rfl ?_
        refine G.iconst (pc2 := 45) (v := 1) dX5_removeEntry_44 (by decide) rfl ?_
        refine G.iadd (pc2 := 46) (v := l2 + 1) dX5_removeEntry_45 rfl rfl ?_
        refine G.iald (pc2 := 47) (q0 := 9) (j := ix (l2 + 1)) (v := w.2.2.1.2.1 (ix (l2 + 1))) rfl (SI.inx1 hi c_17) rfl dX5_removeEntry_46 rfl ?_
        refine G.iast (pc2 := 48) (q0 := 9) (j := ix l2) (ws2 := wM a cI cZ (w.1, w.2.1, (upd w.2.2.1.1 (ix l2) (w.2.2.1.1 (ix (l2 + 1))), upd w.2.2.1.2.1 (ix l2) (w.2.2.1.2.1 (ix (l2 + 1))), w.2.2.1.2.2.1, w.2.2.1.2.2.2), w.2.2.2.1, w.2.2.2.2)) rfl (SI.inx hi c_17) rfl dX5_removeEntry_47 rfl ?_
        refine G.iinc (pc2 := 51) (k := 2) (v := l2 + 1) (lv2 := [(0, .ref (a 0)), (1, .int p0), (2, .int (l2 + 1))]) [1, 2, 0] dX5_removeEntry_48 rfl rfl (by decide) rfl rfl ?_
        refine G.goto (tgt := 12) dX5_removeEntry_51 rfl ?_
        exact ih  (w.1, w.2.1, (upd w.2.2.1.1 (ix l2) (w.2.2.1.1 (ix (l2 + 1))), upd w.2.2.1.2.1 (ix l2) (w.2.2.1.2.1 (ix (l2 + 1))), w.2.2.1.2.2.1, w.2.2.1.2.2.2), w.2.2.2.1, w.2.2.2.2) (l2 + 1) (SI.next hi c_17) (by rw [hs]; simp only [lsX5_removeEntry_12, if_pos c_17])
  refine G.aload_n (pc2 := 1) (x := a 0) dX5_removeEntry_0 rfl rfl rfl ?_
  refine G.dup (pc2 := 2) dX5_removeEntry_1 rfl rfl ?_
  refine G.getf (pc2 := 5) (q0 := 0) (ci := 5) (k := 20) (v := .int u.2.2.1.2.2.2) iX5_removeEntry_X5 kX5_removeEntry_80 rfl rfl (by decide) rfl dX5_removeEntry_2 rfl ?_
  refine G.iconst (pc2 := 6) (v := 1) dX5_removeEntry_5 (by decide) rfl ?_
  refine G.isub (pc2 := 7) (v := u.2.2.1.2.2.2 - 1) dX5_removeEntry_6 rfl rfl ?_
  refine G.putf (pc2 := 10) (q0 := 0) (ci := 5) (k := 20) (ws2 := wM a cI cZ (u.1, u.2.1, (u.2.2.1.1, u.2.2.1.2.1, u.2.2.1.2.2.1, u.2.2.1.2.2.2 - 1), u.2.2.2.1, u.2.2.2.2)) iX5_removeEntry_X5 kX5_removeEntry_80 tyX5_ok nmX5 rfl rfl (by decide) rfl rfl rfl (Nat.le_of_ble_eq_true rfl) rfl dX5_removeEntry_7 rfl ?_
  refine G.iload_n (pc2 := 11) (x := p0) dX5_removeEntry_10 rfl rfl rfl ?_
  refine G.istore_n (pc2 := 12) (lv2 := [(0, .ref (a 0)), (1, .int p0), (2, .int p0)]) [1, 2, 0] dX5_removeEntry_11 rfl (by decide) rfl rfl ?_
  exact loop12 9 (u.1, u.2.1, (u.2.2.1.1, u.2.2.1.2.1, u.2.2.1.2.2.1, u.2.2.1.2.2.2 - 1), u.2.2.2.1, u.2.2.2.2) p0 (SI.start2 hp) (rfl)
set_option maxRecDepth 100000 in
set_option maxHeartbeats 4000000 in
theorem c_X5_writeToDisk {cI cZ : ClassId} (a : Nat → Nat) (u : SM) (p0 p1 : Int32) (h0 : Pg p0) : Ct yX5_writeToDisk wsX5_writeToDisk rX5_writeToDisk cI cZ [.ref (a 0), .int p0, .int p1] (wM a cI cZ u) 0 0 (rt (none) (wM a cI cZ (sX5_writeToDisk u p0 p1))) := by
  refine Ct.of (cc := cX5_writeToDisk) (nL := 3) (own := RX5) (by decide) rfl rfl (Nat.le_of_ble_eq_true rfl) rfl ?_
  intro K hR hN
  refine G.aload_n (pc2 := 1) (x := a 0) dX5_writeToDisk_0 rfl rfl rfl ?_
  refine G.getf (pc2 := 4) (q0 := 0) (ci := 5) (k := 11) (v := .ref (a 1)) iX5_writeToDisk_X5 kX5_writeToDisk_7 rfl rfl (by decide) rfl dX5_writeToDisk_1 rfl ?_
  refine G.iload_n (pc2 := 5) (x := p0) dX5_writeToDisk_4 rfl rfl rfl ?_
  refine G.iload_n (pc2 := 6) (x := p1) dX5_writeToDisk_5 rfl rfl rfl ?_
  refine G.iast (pc2 := 7) (q0 := 1) (j := ix p0) (ws2 := wM a cI cZ ((upd u.1.1 (ix p0) p1, u.1.2.1, u.1.2.2), u.2.1, u.2.2.1, u.2.2.2.1, u.2.2.2.2)) rfl (h0) rfl dX5_writeToDisk_6 rfl ?_
  refine G.aload_n (pc2 := 8) (x := a 0) dX5_writeToDisk_7 rfl rfl rfl ?_
  refine G.dup (pc2 := 9) dX5_writeToDisk_8 rfl rfl ?_
  refine G.getf (pc2 := 12) (q0 := 0) (ci := 5) (k := 9) (v := .int u.1.2.2) iX5_writeToDisk_X5 kX5_writeToDisk_74 rfl rfl (by decide) rfl dX5_writeToDisk_9 rfl ?_
  refine G.iconst (pc2 := 13) (v := 1) dX5_writeToDisk_12 (by decide) rfl ?_
  refine G.iadd (pc2 := 14) (v := u.1.2.2 + 1) dX5_writeToDisk_13 rfl rfl ?_
  refine G.putf (pc2 := 17) (q0 := 0) (ci := 5) (k := 9) (ws2 := wM a cI cZ ((upd u.1.1 (ix p0) p1, u.1.2.1, u.1.2.2 + 1), u.2.1, u.2.2.1, u.2.2.2.1, u.2.2.2.2)) iX5_writeToDisk_X5 kX5_writeToDisk_74 tyX5_ok nmX5 rfl rfl (by decide) rfl rfl rfl (Nat.le_of_ble_eq_true rfl) rfl dX5_writeToDisk_14 rfl ?_
  exact G.vreturn hR dX5_writeToDisk_17 ⟨rfl, congrArg (wM a cI cZ) (rfl)⟩
set_option maxRecDepth 100000 in
set_option maxHeartbeats 4000000 in
theorem c_X5_writeOldest {cI cZ : ClassId} (a : Nat → Nat) (u : SM) (hq : QW u.2.2.1) (hz : PE 0 u.2.2.1) : Ct yX5_writeOldest wsX5_writeOldest rX5_writeOldest cI cZ [.ref (a 0)] (wM a cI cZ u) 0 0 (rt (none) (wM a cI cZ (sX5_writeOldest u))) := by
  refine Ct.of (cc := cX5_writeOldest) (nL := 1) (own := RX5) (by decide) rfl rfl (Nat.le_of_ble_eq_true rfl) rfl ?_
  intro K hR hN
  refine G.aload_n (pc2 := 1) (x := a 0) dX5_writeOldest_0 rfl rfl rfl ?_
  refine G.aload_n (pc2 := 2) (x := a 0) dX5_writeOldest_1 rfl rfl rfl ?_
  refine G.getf (pc2 := 5) (q0 := 0) (ci := 5) (k := 18) (v := .ref (a 8)) iX5_writeOldest_X5 kX5_writeOldest_32 rfl rfl (by decide) rfl dX5_writeOldest_2 rfl ?_
  refine G.iconst (pc2 := 6) (v := 0) dX5_writeOldest_5 (by decide) rfl ?_
  refine G.iald (pc2 := 7) (q0 := 8) (j := 0) (v := u.2.2.1.1 0) rfl (ix08) rfl dX5_writeOldest_6 rfl ?_
  refine G.aload_n (pc2 := 8) (x := a 0) dX5_writeOldest_7 rfl rfl rfl ?_
  refine G.getf (pc2 := 11) (q0 := 0) (ci := 5) (k := 19) (v := .ref (a 9)) iX5_writeOldest_X5 kX5_writeOldest_35 rfl rfl (by decide) rfl dX5_writeOldest_8 rfl ?_
  refine G.iconst (pc2 := 12) (v := 0) dX5_writeOldest_11 (by decide) rfl ?_
  refine G.iald (pc2 := 13) (q0 := 9) (j := 0) (v := u.2.2.1.2.1 0) rfl (ix08) rfl dX5_writeOldest_12 rfl ?_
  refine G.callVd (pc2 := 16) (i := 0) (j := 10) (q0 := 0) (ci := 5) (As := [.int (u.2.2.1.1 0), .int (u.2.2.1.2.1 0)]) (rest := []) (ws2 := wM a cI cZ (sX5_writeToDisk u (u.2.2.1.1 0) (u.2.2.1.2.1 0))) (st2 := []) (c_X5_writeToDisk (cI := cI) (cZ := cZ) a u (u.2.2.1.1 0) (u.2.2.1.2.1 0) (qwPg hq)) gX5_writeOldest_X5_writeToDisk rfl rfl rfl ndX5_writeToDisk ⟨Nat.le_of_ble_eq_true rfl, Nat.le_of_ble_eq_true rfl⟩ ⟨Nat.le_of_ble_eq_true rfl, Nat.le_of_ble_eq_true rfl⟩ rfl rfl (Nat.le_of_ble_eq_true rfl) rfl rfl rfl rfl rfl rfl dX5_writeOldest_13 rfl ?_
  generalize et_13 : sX5_writeToDisk u (u.2.2.1.1 0) (u.2.2.1.2.1 0) = t_13
  refine G.aload_n (pc2 := 17) (x := a 0) dX5_writeOldest_16 rfl rfl rfl ?_
  refine G.iconst (pc2 := 18) (v := 0) dX5_writeOldest_17 (by decide) rfl ?_
  refine G.callVd (pc2 := 21) (i := 0) (j := 10) (q0 := 0) (ci := 5) (As := [.int 0]) (rest := []) (ws2 := wM a cI cZ (sX5_removeEntry t_13 0)) (st2 := []) (c_X5_removeEntry (cI := cI) (cZ := cZ) a t_13 0 (by subst et_13; exact (hq)) (by subst et_13; exact (hz))) gX5_writeOldest_X5_removeEntry rfl rfl rfl ndX5_removeEntry ⟨Nat.le_of_ble_eq_true rfl, Nat.le_of_ble_eq_true rfl⟩ ⟨Nat.le_of_ble_eq_true rfl, Nat.le_of_ble_eq_true rfl⟩ rfl rfl (Nat.le_of_ble_eq_true rfl) rfl rfl rfl rfl rfl rfl dX5_writeOldest_18 rfl ?_
  generalize et_18 : sX5_removeEntry t_13 0 = t_18
  subst et_18 et_13
  exact G.vreturn hR dX5_writeOldest_21 ⟨rfl, congrArg (wM a cI cZ) (rfl)⟩
set_option maxRecDepth 100000 in
set_option maxHeartbeats 4000000 in
theorem c_X5_evict {cI cZ : ClassId} (a : Nat → Nat) (u : SM) (p0 : Int32) (h0 : Pg p0) (hq : QW u.2.2.1) : Ct yX5_evict wsX5_evict rX5_evict cI cZ [.ref (a 0), .int p0] (wM a cI cZ u) 0 0 (rt (none) (wM a cI cZ (sX5_evict u p0))) := by
  refine Ct.of (cc := cX5_evict) (nL := 2) (own := RX5) (by decide) rfl rfl (Nat.le_of_ble_eq_true rfl) rfl ?_
  intro K hR hN
  refine G.aload_n (pc2 := 1) (x := a 0) dX5_evict_0 rfl rfl rfl ?_
  refine G.dup (pc2 := 2) dX5_evict_1 rfl rfl ?_
  refine G.getf (pc2 := 5) (q0 := 0) (ci := 5) (k := 7) (v := .int u.2.2.2.2.2.2.2.2.1) iX5_evict_X5 kX5_evict_68 rfl rfl (by decide) rfl dX5_evict_2 rfl ?_
  refine G.iconst (pc2 := 6) (v := 1) dX5_evict_5 (by decide) rfl ?_
  refine G.iadd (pc2 := 7) (v := u.2.2.2.2.2.2.2.2.1 + 1) dX5_evict_6 rfl rfl ?_
  refine G.putf (pc2 := 10) (q0 := 0) (ci := 5) (k := 7) (ws2 := wM a cI cZ (u.1, u.2.1, u.2.2.1, u.2.2.2.1, (u.2.2.2.2.1, u.2.2.2.2.2.1, u.2.2.2.2.2.2.1, u.2.2.2.2.2.2.2.1, u.2.2.2.2.2.2.2.2.1 + 1, u.2.2.2.2.2.2.2.2.2))) iX5_evict_X5 kX5_evict_68 tyX5_ok nmX5 rfl rfl (by decide) rfl rfl rfl (Nat.le_of_ble_eq_true rfl) rfl dX5_evict_7 rfl ?_
  refine G.aload_n (pc2 := 11) (x := a 0) dX5_evict_10 rfl rfl rfl ?_
  refine G.getf (pc2 := 14) (q0 := 0) (ci := 5) (k := 14) (v := .ref (a 4)) iX5_evict_X5 kX5_evict_19 rfl rfl (by decide) rfl dX5_evict_11 rfl ?_
  refine G.iload_n (pc2 := 15) (x := p0) dX5_evict_14 rfl rfl rfl ?_
  refine G.iconst (pc2 := 16) (v := 0) dX5_evict_15 (by decide) rfl ?_
  refine G.zast (y := 0) (pc2 := 17) (q0 := 4) (j := ix p0) (ws2 := wM a cI cZ (u.1, (upd u.2.1.1 (ix p0) 0, u.2.1.2.1, u.2.1.2.2.1, u.2.1.2.2.2.1, u.2.1.2.2.2.2), u.2.2.1, u.2.2.2.1, (u.2.2.2.2.1, u.2.2.2.2.2.1, u.2.2.2.2.2.2.1, u.2.2.2.2.2.2.2.1, u.2.2.2.2.2.2.2.2.1 + 1, u.2.2.2.2.2.2.2.2.2))) rfl (h0) rfl rfl dX5_evict_16 rfl ?_
  refine G.aload_n (pc2 := 18) (x := a 0) dX5_evict_17 rfl rfl rfl ?_
  refine G.getf (pc2 := 21) (q0 := 0) (ci := 5) (k := 15) (v := .ref (a 5)) iX5_evict_X5 kX5_evict_23 rfl rfl (by decide) rfl dX5_evict_18 rfl ?_
  refine G.iload_n (pc2 := 22) (x := p0) dX5_evict_21 rfl rfl rfl ?_
  refine G.zald (pc2 := 23) (q0 := 5) (j := ix p0) (v := u.2.1.2.1 (ix p0)) rfl (h0) rfl dX5_evict_22 rfl ?_
  refine G.if_ne (pc2 := 26) (tgt := 27) dX5_evict_23 rfl rfl (fun c_23 => ?_) (fun c_23 => ?_)
  · refine G.aload_n (pc2 := 28) (x := a 0) dX5_evict_27 rfl rfl rfl ?_
    refine G.getf (pc2 := 31) (q0 := 0) (ci := 5) (k := 20) (v := .int u.2.2.1.2.2.2) iX5_evict_X5 kX5_evict_80 rfl rfl (by decide) rfl dX5_evict_28 rfl ?_
    refine G.aload_n (pc2 := 32) (x := a 0) dX5_evict_31 rfl rfl rfl ?_
    refine G.getf (pc2 := 35) (q0 := 0) (ci := 5) (k := 2) (v := .int u.2.2.1.2.2.1) iX5_evict_X5 kX5_evict_53 rfl rfl (by decide) rfl dX5_evict_32 rfl ?_
    refine G.icmp_ne (pc2 := 38) (tgt := 52) dX5_evict_35 rfl rfl (fun c_35 => ?_) (fun c_35 => ?_)
    · refine G.aload_n (pc2 := 53) (x := a 0) dX5_evict_52 rfl rfl rfl ?_
      refine G.getf (pc2 := 56) (q0 := 0) (ci := 5) (k := 18) (v := .ref (a 8)) iX5_evict_X5 kX5_evict_32 rfl rfl (by decide) rfl dX5_evict_53 rfl ?_
      refine G.aload_n (pc2 := 57) (x := a 0) dX5_evict_56 rfl rfl rfl ?_
      refine G.getf (pc2 := 60) (q0 := 0) (ci := 5) (k := 20) (v := .int u.2.2.1.2.2.2) iX5_evict_X5 kX5_evict_80 rfl rfl (by decide) rfl dX5_evict_57 rfl ?_
      refine G.iload_n (pc2 := 61) (x := p0) dX5_evict_60 rfl rfl rfl ?_
      refine G.iast (pc2 := 62) (q0 := 8) (j := ix u.2.2.1.2.2.2) (ws2 := wM a cI cZ (u.1, (upd u.2.1.1 (ix p0) 0, u.2.1.2.1, u.2.1.2.2.1, u.2.1.2.2.2.1, u.2.1.2.2.2.2), (upd u.2.2.1.1 (ix u.2.2.1.2.2.2) p0, u.2.2.1.2.1, u.2.2.1.2.2.1, u.2.2.1.2.2.2), u.2.2.2.1, (u.2.2.2.2.1, u.2.2.2.2.2.1, u.2.2.2.2.2.2.1, u.2.2.2.2.2.2.2.1, u.2.2.2.2.2.2.2.2.1 + 1, u.2.2.2.2.2.2.2.2.2))) rfl (by first | exact evIx hq c_35 | exact woIx hq c_35) rfl dX5_evict_61 rfl ?_
      refine G.aload_n (pc2 := 63) (x := a 0) dX5_evict_62 rfl rfl rfl ?_
      refine G.getf (pc2 := 66) (q0 := 0) (ci := 5) (k := 19) (v := .ref (a 9)) iX5_evict_X5 kX5_evict_35 rfl rfl (by decide) rfl dX5_evict_63 rfl ?_
      refine G.aload_n (pc2 := 67) (x := a 0) dX5_evict_66 rfl rfl rfl ?_
      refine G.getf (pc2 := 70) (q0 := 0) (ci := 5) (k := 20) (v := .int u.2.2.1.2.2.2) iX5_evict_X5 kX5_evict_80 rfl rfl (by decide) rfl dX5_evict_67 rfl ?_
      refine G.aload_n (pc2 := 71) (x := a 0) dX5_evict_70 rfl rfl rfl ?_
      refine G.getf (pc2 := 74) (q0 := 0) (ci := 5) (k := 12) (v := .ref (a 2)) iX5_evict_X5 kX5_evict_13 rfl rfl (by decide) rfl dX5_evict_71 rfl ?_
      refine G.iload_n (pc2 := 75) (x := p0) dX5_evict_74 rfl rfl rfl ?_
      refine G.iald (pc2 := 76) (q0 := 2) (j := ix p0) (v := u.2.1.2.2.1 (ix p0)) rfl (h0) rfl dX5_evict_75 rfl ?_
      refine G.iast (pc2 := 77) (q0 := 9) (j := ix u.2.2.1.2.2.2) (ws2 := wM a cI cZ (u.1, (upd u.2.1.1 (ix p0) 0, u.2.1.2.1, u.2.1.2.2.1, u.2.1.2.2.2.1, u.2.1.2.2.2.2), (upd u.2.2.1.1 (ix u.2.2.1.2.2.2) p0, upd u.2.2.1.2.1 (ix u.2.2.1.2.2.2) (u.2.1.2.2.1 (ix p0)), u.2.2.1.2.2.1, u.2.2.1.2.2.2), u.2.2.2.1, (u.2.2.2.2.1, u.2.2.2.2.2.1, u.2.2.2.2.2.2.1, u.2.2.2.2.2.2.2.1, u.2.2.2.2.2.2.2.2.1 + 1, u.2.2.2.2.2.2.2.2.2))) rfl (by first | exact evIx hq c_35 | exact woIx hq c_35) rfl dX5_evict_76 rfl ?_
      refine G.aload_n (pc2 := 78) (x := a 0) dX5_evict_77 rfl rfl rfl ?_
      refine G.dup (pc2 := 79) dX5_evict_78 rfl rfl ?_
      refine G.getf (pc2 := 82) (q0 := 0) (ci := 5) (k := 20) (v := .int u.2.2.1.2.2.2) iX5_evict_X5 kX5_evict_80 rfl rfl (by decide) rfl dX5_evict_79 rfl ?_
      refine G.iconst (pc2 := 83) (v := 1) dX5_evict_82 (by decide) rfl ?_
      refine G.iadd (pc2 := 84) (v := u.2.2.1.2.2.2 + 1) dX5_evict_83 rfl rfl ?_
      refine G.putf (pc2 := 87) (q0 := 0) (ci := 5) (k := 20) (ws2 := wM a cI cZ (u.1, (upd u.2.1.1 (ix p0) 0, u.2.1.2.1, u.2.1.2.2.1, u.2.1.2.2.2.1, u.2.1.2.2.2.2), (upd u.2.2.1.1 (ix u.2.2.1.2.2.2) p0, upd u.2.2.1.2.1 (ix u.2.2.1.2.2.2) (u.2.1.2.2.1 (ix p0)), u.2.2.1.2.2.1, u.2.2.1.2.2.2 + 1), u.2.2.2.1, (u.2.2.2.2.1, u.2.2.2.2.2.1, u.2.2.2.2.2.2.1, u.2.2.2.2.2.2.2.1, u.2.2.2.2.2.2.2.2.1 + 1, u.2.2.2.2.2.2.2.2.2))) iX5_evict_X5 kX5_evict_80 tyX5_ok nmX5 rfl rfl (by decide) rfl rfl rfl (Nat.le_of_ble_eq_true rfl) rfl dX5_evict_84 rfl ?_
      exact G.vreturn hR dX5_evict_87 ⟨rfl, congrArg (wM a cI cZ) (by simp only [sX5_evict, if_neg c_23, if_neg c_35])⟩
    · refine G.aload_n (pc2 := 39) (x := a 0) dX5_evict_38 rfl rfl rfl ?_
      refine G.dup (pc2 := 40) dX5_evict_39 rfl rfl ?_
      refine G.getf (pc2 := 43) (q0 := 0) (ci := 5) (k := 10) (v := .int u.2.2.2.2.2.2.2.2.2) iX5_evict_X5 kX5_evict_77 rfl rfl (by decide) rfl dX5_evict_40 rfl ?_
      refine G.iconst (pc2 := 44) (v := 1) dX5_evict_43 (by decide) rfl ?_
      refine G.iadd (pc2 := 45) (v := u.2.2.2.2.2.2.2.2.2 + 1) dX5_evict_44 rfl rfl ?_
      refine G.putf (pc2 := 48) (q0 := 0) (ci := 5) (k := 10) (ws2 := wM a cI cZ (u.1, (upd u.2.1.1 (ix p0) 0, u.2.1.2.1, u.2.1.2.2.1, u.2.1.2.2.2.1, u.2.1.2.2.2.2), u.2.2.1, u.2.2.2.1, (u.2.2.2.2.1, u.2.2.2.2.2.1, u.2.2.2.2.2.2.1, u.2.2.2.2.2.2.2.1, u.2.2.2.2.2.2.2.2.1 + 1, u.2.2.2.2.2.2.2.2.2 + 1))) iX5_evict_X5 kX5_evict_77 tyX5_ok nmX5 rfl rfl (by decide) rfl rfl rfl (Nat.le_of_ble_eq_true rfl) rfl dX5_evict_45 rfl ?_
      refine G.aload_n (pc2 := 49) (x := a 0) dX5_evict_48 rfl rfl rfl ?_
      refine G.callVd (pc2 := 52) (i := 0) (j := 10) (q0 := 0) (ci := 5) (As := []) (rest := []) (ws2 := wM a cI cZ (sX5_writeOldest (u.1, (upd u.2.1.1 (ix p0) 0, u.2.1.2.1, u.2.1.2.2.1, u.2.1.2.2.2.1, u.2.1.2.2.2.2), u.2.2.1, u.2.2.2.1, (u.2.2.2.2.1, u.2.2.2.2.2.1, u.2.2.2.2.2.2.1, u.2.2.2.2.2.2.2.1, u.2.2.2.2.2.2.2.2.1 + 1, u.2.2.2.2.2.2.2.2.2 + 1)))) (st2 := []) (c_X5_writeOldest (cI := cI) (cZ := cZ) a (u.1, (upd u.2.1.1 (ix p0) 0, u.2.1.2.1, u.2.1.2.2.1, u.2.1.2.2.2.1, u.2.1.2.2.2.2), u.2.2.1, u.2.2.2.1, (u.2.2.2.2.1, u.2.2.2.2.2.1, u.2.2.2.2.2.2.1, u.2.2.2.2.2.2.2.1, u.2.2.2.2.2.2.2.2.1 + 1, u.2.2.2.2.2.2.2.2.2 + 1)) (hq) (peFull hq c_35)) gX5_evict_X5_writeOldest rfl rfl rfl ndX5_writeOldest ⟨Nat.le_of_ble_eq_true rfl, Nat.le_of_ble_eq_true rfl⟩ ⟨Nat.le_of_ble_eq_true rfl, Nat.le_of_ble_eq_true rfl⟩ rfl rfl (Nat.le_of_ble_eq_true rfl) rfl rfl rfl rfl rfl rfl dX5_evict_49 rfl ?_
      generalize et_49 : sX5_writeOldest (u.1, (upd u.2.1.1 (ix p0) 0, u.2.1.2.1, u.2.1.2.2.1, u.2.1.2.2.2.1, u.2.1.2.2.2.2), u.2.2.1, u.2.2.2.1, (u.2.2.2.2.1, u.2.2.2.2.2.1, u.2.2.2.2.2.2.1, u.2.2.2.2.2.2.2.1, u.2.2.2.2.2.2.2.2.1 + 1, u.2.2.2.2.2.2.2.2.2 + 1)) = t_49
      refine G.aload_n (pc2 := 53) (x := a 0) dX5_evict_52 rfl rfl rfl ?_
      refine G.getf (pc2 := 56) (q0 := 0) (ci := 5) (k := 18) (v := .ref (a 8)) iX5_evict_X5 kX5_evict_32 rfl rfl (by decide) rfl dX5_evict_53 rfl ?_
      refine G.aload_n (pc2 := 57) (x := a 0) dX5_evict_56 rfl rfl rfl ?_
      refine G.getf (pc2 := 60) (q0 := 0) (ci := 5) (k := 20) (v := .int t_49.2.2.1.2.2.2) iX5_evict_X5 kX5_evict_80 rfl rfl (by decide) rfl dX5_evict_57 rfl ?_
      refine G.iload_n (pc2 := 61) (x := p0) dX5_evict_60 rfl rfl rfl ?_
      refine G.iast (pc2 := 62) (q0 := 8) (j := ix t_49.2.2.1.2.2.2) (ws2 := wM a cI cZ (t_49.1, t_49.2.1, (upd t_49.2.2.1.1 (ix t_49.2.2.1.2.2.2) p0, t_49.2.2.1.2.1, t_49.2.2.1.2.2.1, t_49.2.2.1.2.2.2), t_49.2.2.2.1, t_49.2.2.2.2)) rfl (by subst et_49; exact (by first | exact evIx hq c_35 | exact woIx hq c_35)) rfl dX5_evict_61 rfl ?_
      refine G.aload_n (pc2 := 63) (x := a 0) dX5_evict_62 rfl rfl rfl ?_
      refine G.getf (pc2 := 66) (q0 := 0) (ci := 5) (k := 19) (v := .ref (a 9)) iX5_evict_X5 kX5_evict_35 rfl rfl (by decide) rfl dX5_evict_63 rfl ?_
      refine G.aload_n (pc2 := 67) (x := a 0) dX5_evict_66 rfl rfl rfl ?_
      refine G.getf (pc2 := 70) (q0 := 0) (ci := 5) (k := 20) (v := .int t_49.2.2.1.2.2.2) iX5_evict_X5 kX5_evict_80 rfl rfl (by decide) rfl dX5_evict_67 rfl ?_
      refine G.aload_n (pc2 := 71) (x := a 0) dX5_evict_70 rfl rfl rfl ?_
      refine G.getf (pc2 := 74) (q0 := 0) (ci := 5) (k := 12) (v := .ref (a 2)) iX5_evict_X5 kX5_evict_13 rfl rfl (by decide) rfl dX5_evict_71 rfl ?_
      refine G.iload_n (pc2 := 75) (x := p0) dX5_evict_74 rfl rfl rfl ?_
      refine G.iald (pc2 := 76) (q0 := 2) (j := ix p0) (v := t_49.2.1.2.2.1 (ix p0)) rfl (h0) rfl dX5_evict_75 rfl ?_
      refine G.iast (pc2 := 77) (q0 := 9) (j := ix t_49.2.2.1.2.2.2) (ws2 := wM a cI cZ (t_49.1, t_49.2.1, (upd t_49.2.2.1.1 (ix t_49.2.2.1.2.2.2) p0, upd t_49.2.2.1.2.1 (ix t_49.2.2.1.2.2.2) (t_49.2.1.2.2.1 (ix p0)), t_49.2.2.1.2.2.1, t_49.2.2.1.2.2.2), t_49.2.2.2.1, t_49.2.2.2.2)) rfl (by subst et_49; exact (by first | exact evIx hq c_35 | exact woIx hq c_35)) rfl dX5_evict_76 rfl ?_
      refine G.aload_n (pc2 := 78) (x := a 0) dX5_evict_77 rfl rfl rfl ?_
      refine G.dup (pc2 := 79) dX5_evict_78 rfl rfl ?_
      refine G.getf (pc2 := 82) (q0 := 0) (ci := 5) (k := 20) (v := .int t_49.2.2.1.2.2.2) iX5_evict_X5 kX5_evict_80 rfl rfl (by decide) rfl dX5_evict_79 rfl ?_
      refine G.iconst (pc2 := 83) (v := 1) dX5_evict_82 (by decide) rfl ?_
      refine G.iadd (pc2 := 84) (v := t_49.2.2.1.2.2.2 + 1) dX5_evict_83 rfl rfl ?_
      refine G.putf (pc2 := 87) (q0 := 0) (ci := 5) (k := 20) (ws2 := wM a cI cZ (t_49.1, t_49.2.1, (upd t_49.2.2.1.1 (ix t_49.2.2.1.2.2.2) p0, upd t_49.2.2.1.2.1 (ix t_49.2.2.1.2.2.2) (t_49.2.1.2.2.1 (ix p0)), t_49.2.2.1.2.2.1, t_49.2.2.1.2.2.2 + 1), t_49.2.2.2.1, t_49.2.2.2.2)) iX5_evict_X5 kX5_evict_80 tyX5_ok nmX5 rfl rfl (by decide) rfl rfl rfl (Nat.le_of_ble_eq_true rfl) rfl dX5_evict_84 rfl ?_
      subst et_49
      exact G.vreturn hR dX5_evict_87 ⟨rfl, congrArg (wM a cI cZ) (by simp only [sX5_evict, if_neg c_23, if_pos c_35])⟩
  · exact G.vreturn hR dX5_evict_26 ⟨rfl, congrArg (wM a cI cZ) (by simp only [sX5_evict, if_pos c_23])⟩
set_option maxRecDepth 100000 in
set_option maxHeartbeats 4000000 in
theorem c_X5_load {cI cZ : ClassId} (a : Nat → Nat) (u : SM) (p0 : Int32) (h0 : Pg p0) (hq : QW u.2.2.1) (hh : HW u.2.2.2.1) (hv : NV u) : Ct yX5_load wsX5_load rX5_load cI cZ [.ref (a 0), .int p0] (wM a cI cZ u) 0 0 (rt (none) (wM a cI cZ (sX5_load u p0))) := by
  refine Ct.of (cc := cX5_load) (nL := 3) (own := RX5) (by decide) rfl rfl (Nat.le_of_ble_eq_true rfl) rfl ?_
  intro K hR hN
  refine G.aload_n (pc2 := 1) (x := a 0) dX5_load_0 rfl rfl rfl ?_
  refine G.callVd (pc2 := 4) (i := 0) (j := 10) (q0 := 0) (ci := 5) (As := []) (rest := []) (ws2 := wM a cI cZ u) (st2 := [.int (vX5_residentCount u)]) (c_X5_residentCount (cI := cI) (cZ := cZ) a u) gX5_load_X5_residentCount rfl rfl rfl ndX5_residentCount ⟨Nat.le_of_ble_eq_true rfl, Nat.le_of_ble_eq_true rfl⟩ ⟨Nat.le_of_ble_eq_true rfl, Nat.le_of_ble_eq_true rfl⟩ rfl rfl (Nat.le_of_ble_eq_true rfl) rfl rfl rfl rfl rfl rfl dX5_load_1 rfl ?_
  generalize ev_1 : vX5_residentCount u = v_1
  refine G.aload_n (pc2 := 5) (x := a 0) dX5_load_4 rfl rfl rfl ?_
  refine G.getf (pc2 := 8) (q0 := 0) (ci := 5) (k := 0) (v := .int u.2.1.2.2.2.2) iX5_load_X5 kX5_load_46 rfl rfl (by decide) rfl dX5_load_5 rfl ?_
  refine G.icmp_ne (pc2 := 11) (tgt := 19) dX5_load_8 rfl rfl (fun c_8 => ?_) (fun c_8 => ?_)
  · refine G.aload_n (pc2 := 20) (x := a 0) dX5_load_19 rfl rfl rfl ?_
    refine G.iload_n (pc2 := 21) (x := p0) dX5_load_20 rfl rfl rfl ?_
    refine G.callVd (pc2 := 24) (i := 0) (j := 10) (q0 := 0) (ci := 5) (As := [.int p0]) (rest := []) (ws2 := wM a cI cZ u) (st2 := [.int (vX5_positionInQueue u p0)]) (c_X5_positionInQueue (cI := cI) (cZ := cZ) a u p0 (hq)) gX5_load_X5_positionInQueue rfl rfl rfl ndX5_positionInQueue ⟨Nat.le_of_ble_eq_true rfl, Nat.le_of_ble_eq_true rfl⟩ ⟨Nat.le_of_ble_eq_true rfl, Nat.le_of_ble_eq_true rfl⟩ rfl rfl (Nat.le_of_ble_eq_true rfl) rfl rfl rfl rfl rfl rfl dX5_load_21 rfl ?_
    generalize ev_21 : vX5_positionInQueue u p0 = v_21
    refine G.istore_n (pc2 := 25) (lv2 := [(0, .ref (a 0)), (1, .int p0), (2, .int v_21)]) [1, 2, 0] dX5_load_24 rfl (by decide) rfl rfl ?_
    refine G.aload_n (pc2 := 26) (x := a 0) dX5_load_25 rfl rfl rfl ?_
    refine G.getf (pc2 := 29) (q0 := 0) (ci := 5) (k := 14) (v := .ref (a 4)) iX5_load_X5 kX5_load_19 rfl rfl (by decide) rfl dX5_load_26 rfl ?_
    refine G.iload_n (pc2 := 30) (x := p0) dX5_load_29 rfl rfl rfl ?_
    refine G.iconst (pc2 := 31) (v := 1) dX5_load_30 (by decide) rfl ?_
    refine G.zast (y := 1) (pc2 := 32) (q0 := 4) (j := ix p0) (ws2 := wM a cI cZ (u.1, (upd u.2.1.1 (ix p0) 1, u.2.1.2.1, u.2.1.2.2.1, u.2.1.2.2.2.1, u.2.1.2.2.2.2), u.2.2.1, u.2.2.2.1, u.2.2.2.2)) rfl (h0) rfl rfl dX5_load_31 rfl ?_
    refine G.aload_n (pc2 := 33) (x := a 0) dX5_load_32 rfl rfl rfl ?_
    refine G.getf (pc2 := 36) (q0 := 0) (ci := 5) (k := 15) (v := .ref (a 5)) iX5_load_X5 kX5_load_23 rfl rfl (by decide) rfl dX5_load_33 rfl ?_
    refine G.iload_n (pc2 := 37) (x := p0) dX5_load_36 rfl rfl rfl ?_
    refine G.iload_n (pc2 := 38) (x := v_21) dX5_load_37 rfl rfl rfl ?_
    refine G.bipush (pc2 := 40) (v := (-9)) dX5_load_38 (by decide) rfl ?_
    refine G.icmp_eq (pc2 := 43) (tgt := 47) dX5_load_40 rfl rfl (fun c_40 => ?_) (fun c_40 => ?_)
    · refine G.iconst (pc2 := 48) (v := 0) dX5_load_47 (by decide) rfl ?_
      refine G.zast (y := 0) (pc2 := 49) (q0 := 5) (j := ix p0) (ws2 := wM a cI cZ (u.1, (upd u.2.1.1 (ix p0) 1, upd u.2.1.2.1 (ix p0) 0, u.2.1.2.2.1, u.2.1.2.2.2.1, u.2.1.2.2.2.2), u.2.2.1, u.2.2.2.1, u.2.2.2.2)) rfl (h0) rfl rfl dX5_load_48 rfl ?_
      refine G.aload_n (pc2 := 50) (x := a 0) dX5_load_49 rfl rfl rfl ?_
      refine G.getf (pc2 := 53) (q0 := 0) (ci := 5) (k := 13) (v := .ref (a 3)) iX5_load_X5 kX5_load_16 rfl rfl (by decide) rfl dX5_load_50 rfl ?_
      refine G.iload_n (pc2 := 54) (x := p0) dX5_load_53 rfl rfl rfl ?_
      refine G.iconst (pc2 := 55) (v := 0) dX5_load_54 (by decide) rfl ?_
      refine G.iast (pc2 := 56) (q0 := 3) (j := ix p0) (ws2 := wM a cI cZ (u.1, (upd u.2.1.1 (ix p0) 1, upd u.2.1.2.1 (ix p0) 0, u.2.1.2.2.1, upd u.2.1.2.2.2.1 (ix p0) 0, u.2.1.2.2.2.2), u.2.2.1, u.2.2.2.1, u.2.2.2.2)) rfl (h0) rfl dX5_load_55 rfl ?_
      refine G.iload_n (pc2 := 57) (x := v_21) dX5_load_56 rfl rfl rfl ?_
      refine G.bipush (pc2 := 59) (v := (-9)) dX5_load_57 (by decide) rfl ?_
      refine G.icmp_ne (pc2 := 62) (tgt := 87) dX5_load_59 rfl rfl (fun c_59 => ?_) (fun c_59 => ?_)
      · exact absurd c_40 c_59
      · refine G.aload_n (pc2 := 63) (x := a 0) dX5_load_62 rfl rfl rfl ?_
        refine G.getf (pc2 := 66) (q0 := 0) (ci := 5) (k := 12) (v := .ref (a 2)) iX5_load_X5 kX5_load_13 rfl rfl (by decide) rfl dX5_load_63 rfl ?_
        refine G.iload_n (pc2 := 67) (x := p0) dX5_load_66 rfl rfl rfl ?_
        refine G.aload_n (pc2 := 68) (x := a 0) dX5_load_67 rfl rfl rfl ?_
        refine G.getf (pc2 := 71) (q0 := 0) (ci := 5) (k := 11) (v := .ref (a 1)) iX5_load_X5 kX5_load_7 rfl rfl (by decide) rfl dX5_load_68 rfl ?_
        refine G.iload_n (pc2 := 72) (x := p0) dX5_load_71 rfl rfl rfl ?_
        refine G.iald (pc2 := 73) (q0 := 1) (j := ix p0) (v := u.1.1 (ix p0)) rfl (h0) rfl dX5_load_72 rfl ?_
        refine G.iast (pc2 := 74) (q0 := 2) (j := ix p0) (ws2 := wM a cI cZ (u.1, (upd u.2.1.1 (ix p0) 1, upd u.2.1.2.1 (ix p0) 0, upd u.2.1.2.2.1 (ix p0) (u.1.1 (ix p0)), upd u.2.1.2.2.2.1 (ix p0) 0, u.2.1.2.2.2.2), u.2.2.1, u.2.2.2.1, u.2.2.2.2)) rfl (h0) rfl dX5_load_73 rfl ?_
        refine G.aload_n (pc2 := 75) (x := a 0) dX5_load_74 rfl rfl rfl ?_
        refine G.dup (pc2 := 76) dX5_load_75 rfl rfl ?_
        refine G.getf (pc2 := 79) (q0 := 0) (ci := 5) (k := 8) (v := .int u.1.2.1) iX5_load_X5 kX5_load_71 rfl rfl (by decide) rfl dX5_load_76 rfl ?_
        refine G.iconst (pc2 := 80) (v := 1) dX5_load_79 (by decide) rfl ?_
        refine G.iadd (pc2 := 81) (v := u.1.2.1 + 1) dX5_load_80 rfl rfl ?_
        refine G.putf (pc2 := 84) (q0 := 0) (ci := 5) (k := 8) (ws2 := wM a cI cZ ((u.1.1, u.1.2.1 + 1, u.1.2.2), (upd u.2.1.1 (ix p0) 1, upd u.2.1.2.1 (ix p0) 0, upd u.2.1.2.2.1 (ix p0) (u.1.1 (ix p0)), upd u.2.1.2.2.2.1 (ix p0) 0, u.2.1.2.2.2.2), u.2.2.1, u.2.2.2.1, u.2.2.2.2)) iX5_load_X5 kX5_load_71 tyX5_ok nmX5 rfl rfl (by decide) rfl rfl rfl (Nat.le_of_ble_eq_true rfl) rfl dX5_load_81 rfl ?_
        refine G.goto (tgt := 104) dX5_load_84 rfl ?_
        subst ev_21 ev_1
        exact G.vreturn hR dX5_load_104 ⟨rfl, congrArg (wM a cI cZ) (by simp only [sX5_load, if_neg c_8, if_pos c_40])⟩
    · refine G.iconst (pc2 := 44) (v := 1) dX5_load_43 (by decide) rfl ?_
      refine G.goto (tgt := 48) dX5_load_44 rfl ?_
      refine G.zast (y := 1) (pc2 := 49) (q0 := 5) (j := ix p0) (ws2 := wM a cI cZ (u.1, (upd u.2.1.1 (ix p0) 1, upd u.2.1.2.1 (ix p0) 1, u.2.1.2.2.1, u.2.1.2.2.2.1, u.2.1.2.2.2.2), u.2.2.1, u.2.2.2.1, u.2.2.2.2)) rfl (h0) rfl rfl dX5_load_48 rfl ?_
      refine G.aload_n (pc2 := 50) (x := a 0) dX5_load_49 rfl rfl rfl ?_
      refine G.getf (pc2 := 53) (q0 := 0) (ci := 5) (k := 13) (v := .ref (a 3)) iX5_load_X5 kX5_load_16 rfl rfl (by decide) rfl dX5_load_50 rfl ?_
      refine G.iload_n (pc2 := 54) (x := p0) dX5_load_53 rfl rfl rfl ?_
      refine G.iconst (pc2 := 55) (v := 0) dX5_load_54 (by decide) rfl ?_
      refine G.iast (pc2 := 56) (q0 := 3) (j := ix p0) (ws2 := wM a cI cZ (u.1, (upd u.2.1.1 (ix p0) 1, upd u.2.1.2.1 (ix p0) 1, u.2.1.2.2.1, upd u.2.1.2.2.2.1 (ix p0) 0, u.2.1.2.2.2.2), u.2.2.1, u.2.2.2.1, u.2.2.2.2)) rfl (h0) rfl dX5_load_55 rfl ?_
      refine G.iload_n (pc2 := 57) (x := v_21) dX5_load_56 rfl rfl rfl ?_
      refine G.bipush (pc2 := 59) (v := (-9)) dX5_load_57 (by decide) rfl ?_
      refine G.icmp_ne (pc2 := 62) (tgt := 87) dX5_load_59 rfl rfl (fun c_59 => ?_) (fun c_59 => ?_)
      · refine G.aload_n (pc2 := 88) (x := a 0) dX5_load_87 rfl rfl rfl ?_
        refine G.getf (pc2 := 91) (q0 := 0) (ci := 5) (k := 12) (v := .ref (a 2)) iX5_load_X5 kX5_load_13 rfl rfl (by decide) rfl dX5_load_88 rfl ?_
        refine G.iload_n (pc2 := 92) (x := p0) dX5_load_91 rfl rfl rfl ?_
        refine G.aload_n (pc2 := 93) (x := a 0) dX5_load_92 rfl rfl rfl ?_
        refine G.getf (pc2 := 96) (q0 := 0) (ci := 5) (k := 19) (v := .ref (a 9)) iX5_load_X5 kX5_load_35 rfl rfl (by decide) rfl dX5_load_93 rfl ?_
        refine G.iload_n (pc2 := 97) (x := v_21) dX5_load_96 rfl rfl rfl ?_
        refine G.iald (pc2 := 98) (q0 := 9) (j := ix v_21) (v := u.2.2.1.2.1 (ix v_21)) rfl (by subst ev_21 ev_1; exact (posIx (by first | exact hq | exact qw_evict (hv c_8) hq) c_59)) rfl dX5_load_97 rfl ?_
        refine G.iast (pc2 := 99) (q0 := 2) (j := ix p0) (ws2 := wM a cI cZ (u.1, (upd u.2.1.1 (ix p0) 1, upd u.2.1.2.1 (ix p0) 1, upd u.2.1.2.2.1 (ix p0) (u.2.2.1.2.1 (ix v_21)), upd u.2.1.2.2.2.1 (ix p0) 0, u.2.1.2.2.2.2), u.2.2.1, u.2.2.2.1, u.2.2.2.2)) rfl (h0) rfl dX5_load_98 rfl ?_
        refine G.aload_n (pc2 := 100) (x := a 0) dX5_load_99 rfl rfl rfl ?_
        refine G.iload_n (pc2 := 101) (x := v_21) dX5_load_100 rfl rfl rfl ?_
        refine G.callVd (pc2 := 104) (i := 0) (j := 10) (q0 := 0) (ci := 5) (As := [.int v_21]) (rest := []) (ws2 := wM a cI cZ (sX5_removeEntry (u.1, (upd u.2.1.1 (ix p0) 1, upd u.2.1.2.1 (ix p0) 1, upd u.2.1.2.2.1 (ix p0) (u.2.2.1.2.1 (ix v_21)), upd u.2.1.2.2.2.1 (ix p0) 0, u.2.1.2.2.2.2), u.2.2.1, u.2.2.2.1, u.2.2.2.2) v_21)) (st2 := []) (c_X5_removeEntry (cI := cI) (cZ := cZ) a (u.1, (upd u.2.1.1 (ix p0) 1, upd u.2.1.2.1 (ix p0) 1, upd u.2.1.2.2.1 (ix p0) (u.2.2.1.2.1 (ix v_21)), upd u.2.1.2.2.2.1 (ix p0) 0, u.2.1.2.2.2.2), u.2.2.1, u.2.2.2.1, u.2.2.2.2) v_21 (hq) (by subst ev_21 ev_1; exact (posPE (by first | exact hq | exact qw_evict (hv c_8) hq) c_59))) gX5_load_X5_removeEntry rfl rfl rfl ndX5_removeEntry ⟨Nat.le_of_ble_eq_true rfl, Nat.le_of_ble_eq_true rfl⟩ ⟨Nat.le_of_ble_eq_true rfl, Nat.le_of_ble_eq_true rfl⟩ rfl rfl (Nat.le_of_ble_eq_true rfl) rfl rfl rfl rfl rfl rfl dX5_load_101 rfl ?_
        generalize et_101 : sX5_removeEntry (u.1, (upd u.2.1.1 (ix p0) 1, upd u.2.1.2.1 (ix p0) 1, upd u.2.1.2.2.1 (ix p0) (u.2.2.1.2.1 (ix v_21)), upd u.2.1.2.2.2.1 (ix p0) 0, u.2.1.2.2.2.2), u.2.2.1, u.2.2.2.1, u.2.2.2.2) v_21 = t_101
        subst et_101 ev_21 ev_1
        exact G.vreturn hR dX5_load_104 ⟨rfl, congrArg (wM a cI cZ) (by simp only [sX5_load, if_neg c_8, if_neg c_40])⟩
      · exact absurd c_59 c_40
  · refine G.aload_n (pc2 := 12) (x := a 0) dX5_load_11 rfl rfl rfl ?_
    refine G.aload_n (pc2 := 13) (x := a 0) dX5_load_12 rfl rfl rfl ?_
    refine G.callVd (pc2 := 16) (i := 0) (j := 10) (q0 := 0) (ci := 5) (As := []) (rest := [.ref (a 0)]) (ws2 := wM a cI cZ u) (st2 := [.int (vX5_victim u), .ref (a 0)]) (c_X5_victim (cI := cI) (cZ := cZ) a u (hh)) gX5_load_X5_victim rfl rfl rfl ndX5_victim ⟨Nat.le_of_ble_eq_true rfl, Nat.le_of_ble_eq_true rfl⟩ ⟨Nat.le_of_ble_eq_true rfl, Nat.le_of_ble_eq_true rfl⟩ rfl rfl (Nat.le_of_ble_eq_true rfl) rfl rfl rfl rfl rfl rfl dX5_load_13 rfl ?_
    generalize ev_13 : vX5_victim u = v_13
    refine G.callVd (pc2 := 19) (i := 0) (j := 10) (q0 := 0) (ci := 5) (As := [.int v_13]) (rest := []) (ws2 := wM a cI cZ (sX5_evict u v_13)) (st2 := []) (c_X5_evict (cI := cI) (cZ := cZ) a u v_13 (by subst ev_13 ev_1; exact (hv c_8)) (hq)) gX5_load_X5_evict rfl rfl rfl ndX5_evict ⟨Nat.le_of_ble_eq_true rfl, Nat.le_of_ble_eq_true rfl⟩ ⟨Nat.le_of_ble_eq_true rfl, Nat.le_of_ble_eq_true rfl⟩ rfl rfl (Nat.le_of_ble_eq_true rfl) rfl rfl rfl rfl rfl rfl dX5_load_16 rfl ?_
    generalize et_16 : sX5_evict u v_13 = t_16
    refine G.aload_n (pc2 := 20) (x := a 0) dX5_load_19 rfl rfl rfl ?_
    refine G.iload_n (pc2 := 21) (x := p0) dX5_load_20 rfl rfl rfl ?_
    refine G.callVd (pc2 := 24) (i := 0) (j := 10) (q0 := 0) (ci := 5) (As := [.int p0]) (rest := []) (ws2 := wM a cI cZ t_16) (st2 := [.int (vX5_positionInQueue t_16 p0)]) (c_X5_positionInQueue (cI := cI) (cZ := cZ) a t_16 p0 (by subst et_16 ev_13 ev_1; exact (by first | exact hq | exact qw_evict (hv c_8) hq))) gX5_load_X5_positionInQueue rfl rfl rfl ndX5_positionInQueue ⟨Nat.le_of_ble_eq_true rfl, Nat.le_of_ble_eq_true rfl⟩ ⟨Nat.le_of_ble_eq_true rfl, Nat.le_of_ble_eq_true rfl⟩ rfl rfl (Nat.le_of_ble_eq_true rfl) rfl rfl rfl rfl rfl rfl dX5_load_21 rfl ?_
    generalize ev_21 : vX5_positionInQueue t_16 p0 = v_21
    refine G.istore_n (pc2 := 25) (lv2 := [(0, .ref (a 0)), (1, .int p0), (2, .int v_21)]) [1, 2, 0] dX5_load_24 rfl (by decide) rfl rfl ?_
    refine G.aload_n (pc2 := 26) (x := a 0) dX5_load_25 rfl rfl rfl ?_
    refine G.getf (pc2 := 29) (q0 := 0) (ci := 5) (k := 14) (v := .ref (a 4)) iX5_load_X5 kX5_load_19 rfl rfl (by decide) rfl dX5_load_26 rfl ?_
    refine G.iload_n (pc2 := 30) (x := p0) dX5_load_29 rfl rfl rfl ?_
    refine G.iconst (pc2 := 31) (v := 1) dX5_load_30 (by decide) rfl ?_
    refine G.zast (y := 1) (pc2 := 32) (q0 := 4) (j := ix p0) (ws2 := wM a cI cZ (t_16.1, (upd t_16.2.1.1 (ix p0) 1, t_16.2.1.2.1, t_16.2.1.2.2.1, t_16.2.1.2.2.2.1, t_16.2.1.2.2.2.2), t_16.2.2.1, t_16.2.2.2.1, t_16.2.2.2.2)) rfl (h0) rfl rfl dX5_load_31 rfl ?_
    refine G.aload_n (pc2 := 33) (x := a 0) dX5_load_32 rfl rfl rfl ?_
    refine G.getf (pc2 := 36) (q0 := 0) (ci := 5) (k := 15) (v := .ref (a 5)) iX5_load_X5 kX5_load_23 rfl rfl (by decide) rfl dX5_load_33 rfl ?_
    refine G.iload_n (pc2 := 37) (x := p0) dX5_load_36 rfl rfl rfl ?_
    refine G.iload_n (pc2 := 38) (x := v_21) dX5_load_37 rfl rfl rfl ?_
    refine G.bipush (pc2 := 40) (v := (-9)) dX5_load_38 (by decide) rfl ?_
    refine G.icmp_eq (pc2 := 43) (tgt := 47) dX5_load_40 rfl rfl (fun c_40 => ?_) (fun c_40 => ?_)
    · refine G.iconst (pc2 := 48) (v := 0) dX5_load_47 (by decide) rfl ?_
      refine G.zast (y := 0) (pc2 := 49) (q0 := 5) (j := ix p0) (ws2 := wM a cI cZ (t_16.1, (upd t_16.2.1.1 (ix p0) 1, upd t_16.2.1.2.1 (ix p0) 0, t_16.2.1.2.2.1, t_16.2.1.2.2.2.1, t_16.2.1.2.2.2.2), t_16.2.2.1, t_16.2.2.2.1, t_16.2.2.2.2)) rfl (h0) rfl rfl dX5_load_48 rfl ?_
      refine G.aload_n (pc2 := 50) (x := a 0) dX5_load_49 rfl rfl rfl ?_
      refine G.getf (pc2 := 53) (q0 := 0) (ci := 5) (k := 13) (v := .ref (a 3)) iX5_load_X5 kX5_load_16 rfl rfl (by decide) rfl dX5_load_50 rfl ?_
      refine G.iload_n (pc2 := 54) (x := p0) dX5_load_53 rfl rfl rfl ?_
      refine G.iconst (pc2 := 55) (v := 0) dX5_load_54 (by decide) rfl ?_
      refine G.iast (pc2 := 56) (q0 := 3) (j := ix p0) (ws2 := wM a cI cZ (t_16.1, (upd t_16.2.1.1 (ix p0) 1, upd t_16.2.1.2.1 (ix p0) 0, t_16.2.1.2.2.1, upd t_16.2.1.2.2.2.1 (ix p0) 0, t_16.2.1.2.2.2.2), t_16.2.2.1, t_16.2.2.2.1, t_16.2.2.2.2)) rfl (h0) rfl dX5_load_55 rfl ?_
      refine G.iload_n (pc2 := 57) (x := v_21) dX5_load_56 rfl rfl rfl ?_
      refine G.bipush (pc2 := 59) (v := (-9)) dX5_load_57 (by decide) rfl ?_
      refine G.icmp_ne (pc2 := 62) (tgt := 87) dX5_load_59 rfl rfl (fun c_59 => ?_) (fun c_59 => ?_)
      · exact absurd c_40 c_59
      · refine G.aload_n (pc2 := 63) (x := a 0) dX5_load_62 rfl rfl rfl ?_
        refine G.getf (pc2 := 66) (q0 := 0) (ci := 5) (k := 12) (v := .ref (a 2)) iX5_load_X5 kX5_load_13 rfl rfl (by decide) rfl dX5_load_63 rfl ?_
        refine G.iload_n (pc2 := 67) (x := p0) dX5_load_66 rfl rfl rfl ?_
        refine G.aload_n (pc2 := 68) (x := a 0) dX5_load_67 rfl rfl rfl ?_
        refine G.getf (pc2 := 71) (q0 := 0) (ci := 5) (k := 11) (v := .ref (a 1)) iX5_load_X5 kX5_load_7 rfl rfl (by decide) rfl dX5_load_68 rfl ?_
        refine G.iload_n (pc2 := 72) (x := p0) dX5_load_71 rfl rfl rfl ?_
        refine G.iald (pc2 := 73) (q0 := 1) (j := ix p0) (v := t_16.1.1 (ix p0)) rfl (h0) rfl dX5_load_72 rfl ?_
        refine G.iast (pc2 := 74) (q0 := 2) (j := ix p0) (ws2 := wM a cI cZ (t_16.1, (upd t_16.2.1.1 (ix p0) 1, upd t_16.2.1.2.1 (ix p0) 0, upd t_16.2.1.2.2.1 (ix p0) (t_16.1.1 (ix p0)), upd t_16.2.1.2.2.2.1 (ix p0) 0, t_16.2.1.2.2.2.2), t_16.2.2.1, t_16.2.2.2.1, t_16.2.2.2.2)) rfl (h0) rfl dX5_load_73 rfl ?_
        refine G.aload_n (pc2 := 75) (x := a 0) dX5_load_74 rfl rfl rfl ?_
        refine G.dup (pc2 := 76) dX5_load_75 rfl rfl ?_
        refine G.getf (pc2 := 79) (q0 := 0) (ci := 5) (k := 8) (v := .int t_16.1.2.1) iX5_load_X5 kX5_load_71 rfl rfl (by decide) rfl dX5_load_76 rfl ?_
        refine G.iconst (pc2 := 80) (v := 1) dX5_load_79 (by decide) rfl ?_
        refine G.iadd (pc2 := 81) (v := t_16.1.2.1 + 1) dX5_load_80 rfl rfl ?_
        refine G.putf (pc2 := 84) (q0 := 0) (ci := 5) (k := 8) (ws2 := wM a cI cZ ((t_16.1.1, t_16.1.2.1 + 1, t_16.1.2.2), (upd t_16.2.1.1 (ix p0) 1, upd t_16.2.1.2.1 (ix p0) 0, upd t_16.2.1.2.2.1 (ix p0) (t_16.1.1 (ix p0)), upd t_16.2.1.2.2.2.1 (ix p0) 0, t_16.2.1.2.2.2.2), t_16.2.2.1, t_16.2.2.2.1, t_16.2.2.2.2)) iX5_load_X5 kX5_load_71 tyX5_ok nmX5 rfl rfl (by decide) rfl rfl rfl (Nat.le_of_ble_eq_true rfl) rfl dX5_load_81 rfl ?_
        refine G.goto (tgt := 104) dX5_load_84 rfl ?_
        subst ev_21 et_16 ev_13 ev_1
        exact G.vreturn hR dX5_load_104 ⟨rfl, congrArg (wM a cI cZ) (by simp only [sX5_load, if_pos c_8, if_pos c_40])⟩
    · refine G.iconst (pc2 := 44) (v := 1) dX5_load_43 (by decide) rfl ?_
      refine G.goto (tgt := 48) dX5_load_44 rfl ?_
      refine G.zast (y := 1) (pc2 := 49) (q0 := 5) (j := ix p0) (ws2 := wM a cI cZ (t_16.1, (upd t_16.2.1.1 (ix p0) 1, upd t_16.2.1.2.1 (ix p0) 1, t_16.2.1.2.2.1, t_16.2.1.2.2.2.1, t_16.2.1.2.2.2.2), t_16.2.2.1, t_16.2.2.2.1, t_16.2.2.2.2)) rfl (h0) rfl rfl dX5_load_48 rfl ?_
      refine G.aload_n (pc2 := 50) (x := a 0) dX5_load_49 rfl rfl rfl ?_
      refine G.getf (pc2 := 53) (q0 := 0) (ci := 5) (k := 13) (v := .ref (a 3)) iX5_load_X5 kX5_load_16 rfl rfl (by decide) rfl dX5_load_50 rfl ?_
      refine G.iload_n (pc2 := 54) (x := p0) dX5_load_53 rfl rfl rfl ?_
      refine G.iconst (pc2 := 55) (v := 0) dX5_load_54 (by decide) rfl ?_
      refine G.iast (pc2 := 56) (q0 := 3) (j := ix p0) (ws2 := wM a cI cZ (t_16.1, (upd t_16.2.1.1 (ix p0) 1, upd t_16.2.1.2.1 (ix p0) 1, t_16.2.1.2.2.1, upd t_16.2.1.2.2.2.1 (ix p0) 0, t_16.2.1.2.2.2.2), t_16.2.2.1, t_16.2.2.2.1, t_16.2.2.2.2)) rfl (h0) rfl dX5_load_55 rfl ?_
      refine G.iload_n (pc2 := 57) (x := v_21) dX5_load_56 rfl rfl rfl ?_
      refine G.bipush (pc2 := 59) (v := (-9)) dX5_load_57 (by decide) rfl ?_
      refine G.icmp_ne (pc2 := 62) (tgt := 87) dX5_load_59 rfl rfl (fun c_59 => ?_) (fun c_59 => ?_)
      · refine G.aload_n (pc2 := 88) (x := a 0) dX5_load_87 rfl rfl rfl ?_
        refine G.getf (pc2 := 91) (q0 := 0) (ci := 5) (k := 12) (v := .ref (a 2)) iX5_load_X5 kX5_load_13 rfl rfl (by decide) rfl dX5_load_88 rfl ?_
        refine G.iload_n (pc2 := 92) (x := p0) dX5_load_91 rfl rfl rfl ?_
        refine G.aload_n (pc2 := 93) (x := a 0) dX5_load_92 rfl rfl rfl ?_
        refine G.getf (pc2 := 96) (q0 := 0) (ci := 5) (k := 19) (v := .ref (a 9)) iX5_load_X5 kX5_load_35 rfl rfl (by decide) rfl dX5_load_93 rfl ?_
        refine G.iload_n (pc2 := 97) (x := v_21) dX5_load_96 rfl rfl rfl ?_
        refine G.iald (pc2 := 98) (q0 := 9) (j := ix v_21) (v := t_16.2.2.1.2.1 (ix v_21)) rfl (by subst ev_21 et_16 ev_13 ev_1; exact (posIx (by first | exact hq | exact qw_evict (hv c_8) hq) c_59)) rfl dX5_load_97 rfl ?_
        refine G.iast (pc2 := 99) (q0 := 2) (j := ix p0) (ws2 := wM a cI cZ (t_16.1, (upd t_16.2.1.1 (ix p0) 1, upd t_16.2.1.2.1 (ix p0) 1, upd t_16.2.1.2.2.1 (ix p0) (t_16.2.2.1.2.1 (ix v_21)), upd t_16.2.1.2.2.2.1 (ix p0) 0, t_16.2.1.2.2.2.2), t_16.2.2.1, t_16.2.2.2.1, t_16.2.2.2.2)) rfl (h0) rfl dX5_load_98 rfl ?_
        refine G.aload_n (pc2 := 100) (x := a 0) dX5_load_99 rfl rfl rfl ?_
        refine G.iload_n (pc2 := 101) (x := v_21) dX5_load_100 rfl rfl rfl ?_
        refine G.callVd (pc2 := 104) (i := 0) (j := 10) (q0 := 0) (ci := 5) (As := [.int v_21]) (rest := []) (ws2 := wM a cI cZ (sX5_removeEntry (t_16.1, (upd t_16.2.1.1 (ix p0) 1, upd t_16.2.1.2.1 (ix p0) 1, upd t_16.2.1.2.2.1 (ix p0) (t_16.2.2.1.2.1 (ix v_21)), upd t_16.2.1.2.2.2.1 (ix p0) 0, t_16.2.1.2.2.2.2), t_16.2.2.1, t_16.2.2.2.1, t_16.2.2.2.2) v_21)) (st2 := []) (c_X5_removeEntry (cI := cI) (cZ := cZ) a (t_16.1, (upd t_16.2.1.1 (ix p0) 1, upd t_16.2.1.2.1 (ix p0) 1, upd t_16.2.1.2.2.1 (ix p0) (t_16.2.2.1.2.1 (ix v_21)), upd t_16.2.1.2.2.2.1 (ix p0) 0, t_16.2.1.2.2.2.2), t_16.2.2.1, t_16.2.2.2.1, t_16.2.2.2.2) v_21 (by subst ev_21 et_16 ev_13 ev_1; exact (by first | exact hq | exact qw_evict (hv c_8) hq)) (by subst ev_21 et_16 ev_13 ev_1; exact (posPE (by first | exact hq | exact qw_evict (hv c_8) hq) c_59))) gX5_load_X5_removeEntry rfl rfl rfl ndX5_removeEntry ⟨Nat.le_of_ble_eq_true rfl, Nat.le_of_ble_eq_true rfl⟩ ⟨Nat.le_of_ble_eq_true rfl, Nat.le_of_ble_eq_true rfl⟩ rfl rfl (Nat.le_of_ble_eq_true rfl) rfl rfl rfl rfl rfl rfl dX5_load_101 rfl ?_
        generalize et_101 : sX5_removeEntry (t_16.1, (upd t_16.2.1.1 (ix p0) 1, upd t_16.2.1.2.1 (ix p0) 1, upd t_16.2.1.2.2.1 (ix p0) (t_16.2.2.1.2.1 (ix v_21)), upd t_16.2.1.2.2.2.1 (ix p0) 0, t_16.2.1.2.2.2.2), t_16.2.2.1, t_16.2.2.2.1, t_16.2.2.2.2) v_21 = t_101
        subst et_101 ev_21 et_16 ev_13 ev_1
        exact G.vreturn hR dX5_load_104 ⟨rfl, congrArg (wM a cI cZ) (by simp only [sX5_load, if_pos c_8, if_neg c_40])⟩
      · exact absurd c_59 c_40
