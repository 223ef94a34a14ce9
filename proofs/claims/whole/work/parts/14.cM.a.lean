set_option maxRecDepth 100000 in
set_option maxHeartbeats 4000000 in
theorem c_X5_isFrom {cI cZ : ClassId}  (p0 p1 p2 : Int32)  : Ct yX5_isFrom wsX5_isFrom rX5_isFrom cI cZ [.int p0, .int p1, .int p2] ([]) 0 0 (rt (some (vX5_isFrom p0 p1 p2)) ([])) := by
  refine Ct.of (cc := cX5_isFrom) (nL := 3) (own := RX5) (by decide) rfl rfl (Nat.le_of_ble_eq_true rfl) rfl ?_
  intro K hR hN
  refine G.iload_n (pc2 := 1) (x := p0) dX5_isFrom_0 rfl rfl rfl ?_
  refine G.iload_n (pc2 := 2) (x := p1) dX5_isFrom_1 rfl rfl rfl ?_
  refine G.icmp_lt (pc2 := 5) (tgt := 14) dX5_isFrom_2 rfl rfl (fun c_2 => ?_) (fun c_2 => ?_)
  · refine G.iconst (pc2 := 15) (v := 0) dX5_isFrom_14 (by decide) rfl ?_
    exact G.ireturn hR (rfl) dX5_isFrom_15 ⟨congrArg some (by simp only [vX5_isFrom, if_pos c_2]), rfl⟩
  · refine G.iload_n (pc2 := 6) (x := p0) dX5_isFrom_5 rfl rfl rfl ?_
    refine G.iload_n (pc2 := 7) (x := p2) dX5_isFrom_6 rfl rfl rfl ?_
    refine G.icmp_gt (pc2 := 10) (tgt := 14) dX5_isFrom_7 rfl rfl (fun c_7 => ?_) (fun c_7 => ?_)
    · refine G.iconst (pc2 := 15) (v := 0) dX5_isFrom_14 (by decide) rfl ?_
      exact G.ireturn hR (rfl) dX5_isFrom_15 ⟨congrArg some (by simp only [vX5_isFrom, if_neg c_2, if_pos c_7]), rfl⟩
    · refine G.iconst (pc2 := 11) (v := 1) dX5_isFrom_10 (by decide) rfl ?_
      refine G.goto (tgt := 15) dX5_isFrom_11 rfl ?_
      exact G.ireturn hR (rfl) dX5_isFrom_15 ⟨congrArg some (by simp only [vX5_isFrom, if_neg c_2, if_neg c_7]), rfl⟩
set_option maxRecDepth 100000 in
set_option maxHeartbeats 4000000 in
theorem c_X5_reset {cI cZ : ClassId} (a : Nat → Nat) (u : SM) (p0 p1 p2 p3 : Int32)  : Ct yX5_reset wsX5_reset rX5_reset cI cZ [.ref (a 0), .int p0, .int p1, .int p2, .int p3] (wM a cI cZ u) 0 0 (rt (some (vX5_reset u p0 p1 p2 p3)) (wM a cI cZ (sX5_reset u p0 p1 p2 p3))) := by
  refine Ct.of (cc := cX5_reset) (nL := 6) (own := RX5) (by decide) rfl rfl (Nat.le_of_ble_eq_true rfl) rfl ?_
  intro K hR hN
  have loop111 : ∀ (n : Nat) (w : SM) (l5 : Int32), PI n l5 → vX5_reset u p0 p1 p2 p3 = lvX5_reset_111 p0 p1 p2 p3 n w l5 → sX5_reset u p0 p1 p2 p3 = lsX5_reset_111 p0 p1 p2 p3 n w l5 → G K cI cZ cX5_reset 6 RX5 wsX5_reset rX5_reset 0 0 (wM a cI cZ w) 111 [(0, .ref (a 0)), (1, .int p0), (2, .int p1), (3, .int p2), (4, .int p3), (5, .int l5)] [] := by
    intro n
    induction n with
    | zero =>
      intro w l5 hi hv hs
      exact absurd hi (PI.zero)
    | succ n ih =>
      intro w l5 hi hv hs
      refine G.iload (pc2 := 113) (x := l5) dX5_reset_111 rfl rfl ?_
      refine G.bipush (pc2 := 115) (v := 64) dX5_reset_113 (by decide) rfl ?_
      refine G.icmp_ge (pc2 := 118) (tgt := 148) dX5_reset_115 rfl rfl (fun c_115 => ?_) (fun c_115 => ?_)
      · refine G.iconst (pc2 := 149) (v := 0) dX5_reset_148 (by decide) rfl ?_
        exact G.ireturn hR (rfl) dX5_reset_149 ⟨congrArg some (by rw [hv]; simp only [lvX5_reset_111, if_neg c_115]), congrArg (wM a cI cZ) (by rw [hs]; simp only [lsX5_reset_111, if_neg c_115])⟩
      · refine G.aload_n (pc2 := 119) (x := a 0) dX5_reset_118 rfl rfl rfl ?_
        refine G.getf (pc2 := 122) (q0 := 0) (ci := 5) (k := 11) (v := .ref (a 1)) iX5_reset_X5 kX5_reset_7 rfl rfl (by decide) rfl dX5_reset_119 rfl ?_
        refine G.iload (pc2 := 124) (x := l5) dX5_reset_122 rfl rfl ?_
        refine G.iconst (pc2 := 125) (v := 0) dX5_reset_124 (by decide) rfl ?_
        refine G.iast (pc2 := 126) (q0 := 1) (j := ix l5) (ws2 := wM a cI cZ ((upd w.1.1 (ix l5) 0, w.1.2.1, w.1.2.2), w.2.1, w.2.2.1, w.2.2.2.1, w.2.2.2.2)) rfl (PI.pg hi c_115) rfl dX5_reset_125 rfl ?_
        refine G.aload_n (pc2 := 127) (x := a 0) dX5_reset_126 rfl rfl rfl ?_
        refine G.getf (pc2 := 130) (q0 := 0) (ci := 5) (k := 14) (v := .ref (a 4)) iX5_reset_X5 kX5_reset_19 rfl rfl (by decide) rfl dX5_reset_127 rfl ?_
        refine G.iload (pc2 := 132) (x := l5) dX5_reset_130 rfl rfl ?_
        refine G.iconst (pc2 := 133) (v := 0) dX5_reset_132 (by decide) rfl ?_
        refine G.zast (y := 0) (pc2 := 134) (q0 := 4) (j := ix l5) (ws2 := wM a cI cZ ((upd w.1.1 (ix l5) 0, w.1.2.1, w.1.2.2), (upd w.2.1.1 (ix l5) 0, w.2.1.2.1, w.2.1.2.2.1, w.2.1.2.2.2.1, w.2.1.2.2.2.2), w.2.2.1, w.2.2.2.1, w.2.2.2.2)) rfl (PI.pg hi c_115) rfl rfl dX5_reset_133 rfl ?_
        refine G.aload_n (pc2 := 135) (x := a 0) dX5_reset_134 rfl rfl rfl ?_
        refine G.getf (pc2 := 138) (q0 := 0) (ci := 5) (k := 17) (v := .ref (a 7)) iX5_reset_X5 kX5_reset_29 rfl rfl (by decide) rfl dX5_reset_135 rfl ?_
        refine G.iload (pc2 := 140) (x := l5) dX5_reset_138 rfl rfl ?_
        refine G.iconst (pc2 := 141) (v := 0) dX5_reset_140 (by decide) rfl ?_
        refine G.iast (pc2 := 142) (q0 := 7) (j := ix l5) (ws2 := wM a cI cZ ((upd w.1.1 (ix l5) 0, w.1.2.1, w.1.2.2), (upd w.2.1.1 (ix l5) 0, w.2.1.2.1, w.2.1.2.2.1, w.2.1.2.2.2.1, w.2.1.2.2.2.2), w.2.2.1, (w.2.2.2.1.1, upd w.2.2.2.1.2.1 (ix l5) 0, w.2.2.2.1.2.2), w.2.2.2.2)) rfl (PI.pg hi c_115) rfl dX5_reset_141 rfl ?_
        refine G.iinc (pc2 := 145) (k := 5) (v := l5 + 1) (lv2 := [(0, .ref (a 0)), (1, .int p0), (2, .int p1), (3, .int p2), (4, .int p3), (5, .int (l5 + 1))]) [1, 2, 3, 4, 5, 0] dX5_reset_142 rfl rfl (by decide) rfl rfl ?_
        refine G.goto (tgt := 111) dX5_reset_145 rfl ?_
        exact ih  ((upd w.1.1 (ix l5) 0, w.1.2.1, w.1.2.2), (upd w.2.1.1 (ix l5) 0, w.2.1.2.1, w.2.1.2.2.1, w.2.1.2.2.2.1, w.2.1.2.2.2.2), w.2.2.1, (w.2.2.2.1.1, upd w.2.2.2.1.2.1 (ix l5) 0, w.2.2.2.1.2.2), w.2.2.2.2) (l5 + 1) (PI.next hi c_115) (by rw [hv]; simp only [lvX5_reset_111, if_pos c_115]) (by rw [hs]; simp only [lsX5_reset_111, if_pos c_115])
  refine G.iload_n (pc2 := 1) (x := p0) dX5_reset_0 rfl rfl rfl ?_
  refine G.iconst (pc2 := 2) (v := 1) dX5_reset_1 (by decide) rfl ?_
  refine G.bipush (pc2 := 4) (v := 16) dX5_reset_2 (by decide) rfl ?_
  refine G.callSd (pc2 := 7) (i := 0) (j := 0) (As := [.int p0, .int 1, .int 16]) (rest := []) (ws2 := wM a cI cZ u) (st2 := [.int (vX5_isFrom p0 1 16)]) (c_X5_isFrom (cI := cI) (cZ := cZ) p0 1 16) gX5_reset_X5_isFrom rfl rfl rfl ndX5_isFrom.2 ⟨Nat.le_of_ble_eq_true rfl, Nat.le_of_ble_eq_true rfl⟩ ⟨Nat.le_of_ble_eq_true rfl, Nat.le_of_ble_eq_true rfl⟩ rfl rfl (Nat.le_of_ble_eq_true rfl) rfl rfl rfl dX5_reset_4 rfl ?_
  generalize ev_4 : vX5_isFrom p0 1 16 = v_4
  refine G.if_eq (pc2 := 10) (tgt := 19) dX5_reset_7 rfl rfl (fun c_7 => ?_) (fun c_7 => ?_)
  · refine G.bipush (pc2 := 21) (v := (-8)) dX5_reset_19 (by decide) rfl ?_
    subst ev_4
    exact G.ireturn hR (rfl) dX5_reset_21 ⟨congrArg some (by simp only [vX5_reset, if_pos c_7]), congrArg (wM a cI cZ) (by simp only [sX5_reset, if_pos c_7])⟩
  · refine G.iload_n (pc2 := 11) (x := p1) dX5_reset_10 rfl rfl rfl ?_
    refine G.iconst (pc2 := 12) (v := 1) dX5_reset_11 (by decide) rfl ?_
    refine G.iconst (pc2 := 13) (v := 3) dX5_reset_12 (by decide) rfl ?_
    refine G.callSd (pc2 := 16) (i := 0) (j := 0) (As := [.int p1, .int 1, .int 3]) (rest := []) (ws2 := wM a cI cZ u) (st2 := [.int (vX5_isFrom p1 1 3)]) (c_X5_isFrom (cI := cI) (cZ := cZ) p1 1 3) gX5_reset_X5_isFrom rfl rfl rfl ndX5_isFrom.2 ⟨Nat.le_of_ble_eq_true rfl, Nat.le_of_ble_eq_true rfl⟩ ⟨Nat.le_of_ble_eq_true rfl, Nat.le_of_ble_eq_true rfl⟩ rfl rfl (Nat.le_of_ble_eq_true rfl) rfl rfl rfl dX5_reset_13 rfl ?_
    generalize ev_13 : vX5_isFrom p1 1 3 = v_13
    refine G.if_ne (pc2 := 19) (tgt := 22) dX5_reset_16 rfl rfl (fun c_16 => ?_) (fun c_16 => ?_)
    · refine G.iload_n (pc2 := 23) (x := p2) dX5_reset_22 rfl rfl rfl ?_
      refine G.iconst (pc2 := 24) (v := 1) dX5_reset_23 (by decide) rfl ?_
      refine G.bipush (pc2 := 26) (v := 8) dX5_reset_24 (by decide) rfl ?_
      refine G.callSd (pc2 := 29) (i := 0) (j := 0) (As := [.int p2, .int 1, .int 8]) (rest := []) (ws2 := wM a cI cZ u) (st2 := [.int (vX5_isFrom p2 1 8)]) (c_X5_isFrom (cI := cI) (cZ := cZ) p2 1 8) gX5_reset_X5_isFrom rfl rfl rfl ndX5_isFrom.2 ⟨Nat.le_of_ble_eq_true rfl, Nat.le_of_ble_eq_true rfl⟩ ⟨Nat.le_of_ble_eq_true rfl, Nat.le_of_ble_eq_true rfl⟩ rfl rfl (Nat.le_of_ble_eq_true rfl) rfl rfl rfl dX5_reset_26 rfl ?_
      generalize ev_26 : vX5_isFrom p2 1 8 = v_26
      refine G.if_eq (pc2 := 32) (tgt := 44) dX5_reset_29 rfl rfl (fun c_29 => ?_) (fun c_29 => ?_)
      · refine G.bipush (pc2 := 46) (v := (-8)) dX5_reset_44 (by decide) rfl ?_
        subst ev_26 ev_13 ev_4
        exact G.ireturn hR (rfl) dX5_reset_46 ⟨congrArg some (by simp only [vX5_reset, if_neg c_7, if_neg c_16, if_pos c_29]), congrArg (wM a cI cZ) (by simp only [sX5_reset, if_neg c_7, if_neg c_16, if_pos c_29])⟩
      · refine G.iload (pc2 := 34) (x := p3) dX5_reset_32 rfl rfl ?_
        refine G.iconst (pc2 := 35) (v := 0) dX5_reset_34 (by decide) rfl ?_
        refine G.sipush (pc2 := 38) (v := 9999) dX5_reset_35 (by decide) rfl ?_
        refine G.callSd (pc2 := 41) (i := 0) (j := 0) (As := [.int p3, .int 0, .int 9999]) (rest := []) (ws2 := wM a cI cZ u) (st2 := [.int (vX5_isFrom p3 0 9999)]) (c_X5_isFrom (cI := cI) (cZ := cZ) p3 0 9999) gX5_reset_X5_isFrom rfl rfl rfl ndX5_isFrom.2 ⟨Nat.le_of_ble_eq_true rfl, Nat.le_of_ble_eq_true rfl⟩ ⟨Nat.le_of_ble_eq_true rfl, Nat.le_of_ble_eq_true rfl⟩ rfl rfl (Nat.le_of_ble_eq_true rfl) rfl rfl rfl dX5_reset_38 rfl ?_
        generalize ev_38 : vX5_isFrom p3 0 9999 = v_38
        refine G.if_ne (pc2 := 44) (tgt := 47) dX5_reset_41 rfl rfl (fun c_41 => ?_) (fun c_41 => ?_)
        · refine G.aload_n (pc2 := 48) (x := a 0) dX5_reset_47 rfl rfl rfl ?_
          refine G.iload_n (pc2 := 49) (x := p0) dX5_reset_48 rfl rfl rfl ?_
          refine G.putf (pc2 := 52) (q0 := 0) (ci := 5) (k := 0) (ws2 := wM a cI cZ (u.1, (u.2.1.1, u.2.1.2.1, u.2.1.2.2.1, u.2.1.2.2.2.1, p0), u.2.2.1, u.2.2.2.1, u.2.2.2.2)) iX5_reset_X5 kX5_reset_46 tyX5_ok nmX5 rfl rfl (by decide) rfl rfl rfl (Nat.le_of_ble_eq_true rfl) rfl dX5_reset_49 rfl ?_
          refine G.aload_n (pc2 := 53) (x := a 0) dX5_reset_52 rfl rfl rfl ?_
          refine G.iload_n (pc2 := 54) (x := p1) dX5_reset_53 rfl rfl rfl ?_
          refine G.putf (pc2 := 57) (q0 := 0) (ci := 5) (k := 1) (ws2 := wM a cI cZ (u.1, (u.2.1.1, u.2.1.2.1, u.2.1.2.2.1, u.2.1.2.2.2.1, p0), u.2.2.1, (u.2.2.2.1.1, u.2.2.2.1.2.1, p1), u.2.2.2.2)) iX5_reset_X5 kX5_reset_50 tyX5_ok nmX5 rfl rfl (by decide) rfl rfl rfl (Nat.le_of_ble_eq_true rfl) rfl dX5_reset_54 rfl ?_
          refine G.aload_n (pc2 := 58) (x := a 0) dX5_reset_57 rfl rfl rfl ?_
          refine G.iload_n (pc2 := 59) (x := p2) dX5_reset_58 rfl rfl rfl ?_
          refine G.putf (pc2 := 62) (q0 := 0) (ci := 5) (k := 2) (ws2 := wM a cI cZ (u.1, (u.2.1.1, u.2.1.2.1, u.2.1.2.2.1, u.2.1.2.2.2.1, p0), (u.2.2.1.1, u.2.2.1.2.1, p2, u.2.2.1.2.2.2), (u.2.2.2.1.1, u.2.2.2.1.2.1, p1), u.2.2.2.2)) iX5_reset_X5 kX5_reset_53 tyX5_ok nmX5 rfl rfl (by decide) rfl rfl rfl (Nat.le_of_ble_eq_true rfl) rfl dX5_reset_59 rfl ?_
          refine G.aload_n (pc2 := 63) (x := a 0) dX5_reset_62 rfl rfl rfl ?_
          refine G.iload (pc2 := 65) (x := p3) dX5_reset_63 rfl rfl ?_
          refine G.putf (pc2 := 68) (q0 := 0) (ci := 5) (k := 3) (ws2 := wM a cI cZ (u.1, (u.2.1.1, u.2.1.2.1, u.2.1.2.2.1, u.2.1.2.2.2.1, p0), (u.2.2.1.1, u.2.2.1.2.1, p2, u.2.2.1.2.2.2), (u.2.2.2.1.1, u.2.2.2.1.2.1, p1), (p3, u.2.2.2.2.2.1, u.2.2.2.2.2.2.1, u.2.2.2.2.2.2.2.1, u.2.2.2.2.2.2.2.2.1, u.2.2.2.2.2.2.2.2.2))) iX5_reset_X5 kX5_reset_56 tyX5_ok nmX5 rfl rfl (by decide) rfl rfl rfl (Nat.le_of_ble_eq_true rfl) rfl dX5_reset_65 rfl ?_
          refine G.aload_n (pc2 := 69) (x := a 0) dX5_reset_68 rfl rfl rfl ?_
          refine G.iconst (pc2 := 70) (v := 0) dX5_reset_69 (by decide) rfl ?_
          refine G.putf (pc2 := 73) (q0 := 0) (ci := 5) (k := 4) (ws2 := wM a cI cZ (u.1, (u.2.1.1, u.2.1.2.1, u.2.1.2.2.1, u.2.1.2.2.2.1, p0), (u.2.2.1.1, u.2.2.1.2.1, p2, u.2.2.1.2.2.2), (u.2.2.2.1.1, u.2.2.2.1.2.1, p1), (p3, 0, u.2.2.2.2.2.2.1, u.2.2.2.2.2.2.2.1, u.2.2.2.2.2.2.2.2.1, u.2.2.2.2.2.2.2.2.2))) iX5_reset_X5 kX5_reset_59 tyX5_ok nmX5 rfl rfl (by decide) rfl rfl rfl (Nat.le_of_ble_eq_true rfl) rfl dX5_reset_70 rfl ?_
          refine G.aload_n (pc2 := 74) (x := a 0) dX5_reset_73 rfl rfl rfl ?_
          refine G.iconst (pc2 := 75) (v := 0) dX5_reset_74 (by decide) rfl ?_
          refine G.putf (pc2 := 78) (q0 := 0) (ci := 5) (k := 5) (ws2 := wM a cI cZ (u.1, (u.2.1.1, u.2.1.2.1, u.2.1.2.2.1, u.2.1.2.2.2.1, p0), (u.2.2.1.1, u.2.2.1.2.1, p2, u.2.2.1.2.2.2), (u.2.2.2.1.1, u.2.2.2.1.2.1, p1), (p3, 0, 0, u.2.2.2.2.2.2.2.1, u.2.2.2.2.2.2.2.2.1, u.2.2.2.2.2.2.2.2.2))) iX5_reset_X5 kX5_reset_62 tyX5_ok nmX5 rfl rfl (by decide) rfl rfl rfl (Nat.le_of_ble_eq_true rfl) rfl dX5_reset_75 rfl ?_
          refine G.aload_n (pc2 := 79) (x := a 0) dX5_reset_78 rfl rfl rfl ?_
          refine G.iconst (pc2 := 80) (v := 0) dX5_reset_79 (by decide) rfl ?_
          refine G.putf (pc2 := 83) (q0 := 0) (ci := 5) (k := 6) (ws2 := wM a cI cZ (u.1, (u.2.1.1, u.2.1.2.1, u.2.1.2.2.1, u.2.1.2.2.2.1, p0), (u.2.2.1.1, u.2.2.1.2.1, p2, u.2.2.1.2.2.2), (u.2.2.2.1.1, u.2.2.2.1.2.1, p1), (p3, 0, 0, 0, u.2.2.2.2.2.2.2.2.1, u.2.2.2.2.2.2.2.2.2))) iX5_reset_X5 kX5_reset_65 tyX5_ok nmX5 rfl rfl (by decide) rfl rfl rfl (Nat.le_of_ble_eq_true rfl) rfl dX5_reset_80 rfl ?_
          refine G.aload_n (pc2 := 84) (x := a 0) dX5_reset_83 rfl rfl rfl ?_
          refine G.iconst (pc2 := 85) (v := 0) dX5_reset_84 (by decide) rfl ?_
          refine G.putf (pc2 := 88) (q0 := 0) (ci := 5) (k := 7) (ws2 := wM a cI cZ (u.1, (u.2.1.1, u.2.1.2.1, u.2.1.2.2.1, u.2.1.2.2.2.1, p0), (u.2.2.1.1, u.2.2.1.2.1, p2, u.2.2.1.2.2.2), (u.2.2.2.1.1, u.2.2.2.1.2.1, p1), (p3, 0, 0, 0, 0, u.2.2.2.2.2.2.2.2.2))) iX5_reset_X5 kX5_reset_68 tyX5_ok nmX5 rfl rfl (by decide) rfl rfl rfl (Nat.le_of_ble_eq_true rfl) rfl dX5_reset_85 rfl ?_
          refine G.aload_n (pc2 := 89) (x := a 0) dX5_reset_88 rfl rfl rfl ?_
          refine G.iconst (pc2 := 90) (v := 0) dX5_reset_89 (by decide) rfl ?_
          refine G.putf (pc2 := 93) (q0 := 0) (ci := 5) (k := 8) (ws2 := wM a cI cZ ((u.1.1, 0, u.1.2.2), (u.2.1.1, u.2.1.2.1, u.2.1.2.2.1, u.2.1.2.2.2.1, p0), (u.2.2.1.1, u.2.2.1.2.1, p2, u.2.2.1.2.2.2), (u.2.2.2.1.1, u.2.2.2.1.2.1, p1), (p3, 0, 0, 0, 0, u.2.2.2.2.2.2.2.2.2))) iX5_reset_X5 kX5_reset_71 tyX5_ok nmX5 rfl rfl (by decide) rfl rfl rfl (Nat.le_of_ble_eq_true rfl) rfl dX5_reset_90 rfl ?_
          refine G.aload_n (pc2 := 94) (x := a 0) dX5_reset_93 rfl rfl rfl ?_
          refine G.iconst (pc2 := 95) (v := 0) dX5_reset_94 (by decide) rfl ?_
          refine G.putf (pc2 := 98) (q0 := 0) (ci := 5) (k := 9) (ws2 := wM a cI cZ ((u.1.1, 0, 0), (u.2.1.1, u.2.1.2.1, u.2.1.2.2.1, u.2.1.2.2.2.1, p0), (u.2.2.1.1, u.2.2.1.2.1, p2, u.2.2.1.2.2.2), (u.2.2.2.1.1, u.2.2.2.1.2.1, p1), (p3, 0, 0, 0, 0, u.2.2.2.2.2.2.2.2.2))) iX5_reset_X5 kX5_reset_74 tyX5_ok nmX5 rfl rfl (by decide) rfl rfl rfl (Nat.le_of_ble_eq_true rfl) rfl dX5_reset_95 rfl ?_
          refine G.aload_n (pc2 := 99) (x := a 0) dX5_reset_98 rfl rfl rfl ?_
          refine G.iconst (pc2 := 100) (v := 0) dX5_reset_99 (by decide) rfl ?_
          refine G.putf (pc2 := 103) (q0 := 0) (ci := 5) (k := 10) (ws2 := wM a cI cZ ((u.1.1, 0, 0), (u.2.1.1, u.2.1.2.1, u.2.1.2.2.1, u.2.1.2.2.2.1, p0), (u.2.2.1.1, u.2.2.1.2.1, p2, u.2.2.1.2.2.2), (u.2.2.2.1.1, u.2.2.2.1.2.1, p1), (p3, 0, 0, 0, 0, 0))) iX5_reset_X5 kX5_reset_77 tyX5_ok nmX5 rfl rfl (by decide) rfl rfl rfl (Nat.le_of_ble_eq_true rfl) rfl dX5_reset_100 rfl ?_
          refine G.aload_n (pc2 := 104) (x := a 0) dX5_reset_103 rfl rfl rfl ?_
          refine G.iconst (pc2 := 105) (v := 0) dX5_reset_104 (by decide) rfl ?_
          refine G.putf (pc2 := 108) (q0 := 0) (ci := 5) (k := 20) (ws2 := wM a cI cZ ((u.1.1, 0, 0), (u.2.1.1, u.2.1.2.1, u.2.1.2.2.1, u.2.1.2.2.2.1, p0), (u.2.2.1.1, u.2.2.1.2.1, p2, 0), (u.2.2.2.1.1, u.2.2.2.1.2.1, p1), (p3, 0, 0, 0, 0, 0))) iX5_reset_X5 kX5_reset_80 tyX5_ok nmX5 rfl rfl (by decide) rfl rfl rfl (Nat.le_of_ble_eq_true rfl) rfl dX5_reset_105 rfl ?_
          refine G.iconst (pc2 := 109) (v := 0) dX5_reset_108 (by decide) rfl ?_
          refine G.istore (pc2 := 111) (lv2 := [(0, .ref (a 0)), (1, .int p0), (2, .int p1), (3, .int p2), (4, .int p3), (5, .int 0)]) [1, 2, 3, 4, 5, 0] dX5_reset_109 (by decide) rfl rfl ?_
          subst ev_38 ev_26 ev_13 ev_4
          exact loop111 65 ((u.1.1, 0, 0), (u.2.1.1, u.2.1.2.1, u.2.1.2.2.1, u.2.1.2.2.2.1, p0), (u.2.2.1.1, u.2.2.1.2.1, p2, 0), (u.2.2.2.1.1, u.2.2.2.1.2.1, p1), (p3, 0, 0, 0, 0, 0)) 0 (PI.start) (by simp only [vX5_reset, if_neg c_7, if_neg c_16, if_neg c_29, if_neg c_41]) (by simp only [sX5_reset, if_neg c_7, if_neg c_16, if_neg c_29, if_neg c_41])
        · refine G.bipush (pc2 := 46) (v := (-8)) dX5_reset_44 (by decide) rfl ?_
          subst ev_38 ev_26 ev_13 ev_4
          exact G.ireturn hR (rfl) dX5_reset_46 ⟨congrArg some (by simp only [vX5_reset, if_neg c_7, if_neg c_16, if_neg c_29, if_pos c_41]), congrArg (wM a cI cZ) (by simp only [sX5_reset, if_neg c_7, if_neg c_16, if_neg c_29, if_pos c_41])⟩
    · refine G.bipush (pc2 := 21) (v := (-8)) dX5_reset_19 (by decide) rfl ?_
      subst ev_13 ev_4
      exact G.ireturn hR (rfl) dX5_reset_21 ⟨congrArg some (by simp only [vX5_reset, if_neg c_7, if_pos c_16]), congrArg (wM a cI cZ) (by simp only [sX5_reset, if_neg c_7, if_pos c_16])⟩
set_option maxRecDepth 100000 in
set_option maxHeartbeats 4000000 in
theorem c_X5_isPage {cI cZ : ClassId}  (p0 : Int32)  : Ct yX5_isPage wsX5_isPage rX5_isPage cI cZ [.int p0] ([]) 0 0 (rt (some (vX5_isPage p0)) ([])) := by
  refine Ct.of (cc := cX5_isPage) (nL := 1) (own := RX5) (by decide) rfl rfl (Nat.le_of_ble_eq_true rfl) rfl ?_
  intro K hR hN
  refine G.iload_n (pc2 := 1) (x := p0) dX5_isPage_0 rfl rfl rfl ?_
  refine G.iconst (pc2 := 2) (v := 0) dX5_isPage_1 (by decide) rfl ?_
  refine G.bipush (pc2 := 4) (v := 63) dX5_isPage_2 (by decide) rfl ?_
  refine G.callSd (pc2 := 7) (i := 0) (j := 0) (As := [.int p0, .int 0, .int 63]) (rest := []) (ws2 := []) (st2 := [.int (vX5_isFrom p0 0 63)]) (c_X5_isFrom (cI := cI) (cZ := cZ) p0 0 63) gX5_isPage_X5_isFrom rfl rfl rfl ndX5_isFrom.2 ⟨Nat.le_of_ble_eq_true rfl, Nat.le_of_ble_eq_true rfl⟩ ⟨Nat.le_of_ble_eq_true rfl, Nat.le_of_ble_eq_true rfl⟩ rfl rfl (Nat.le_of_ble_eq_true rfl) rfl rfl rfl dX5_isPage_4 rfl ?_
  generalize ev_4 : vX5_isFrom p0 0 63 = v_4
  subst ev_4
  exact G.ireturn hR (nbM _ _ _) dX5_isPage_7 ⟨congrArg some (rfl), rfl⟩
set_option maxRecDepth 100000 in
set_option maxHeartbeats 4000000 in
theorem c_X5_residentCount {cI cZ : ClassId} (a : Nat → Nat) (u : SM)  : Ct yX5_residentCount wsX5_residentCount rX5_residentCount cI cZ [.ref (a 0)] (wM a cI cZ u) 0 0 (rt (some (vX5_residentCount u)) (wM a cI cZ u)) := by
  refine Ct.of (cc := cX5_residentCount) (nL := 3) (own := RX5) (by decide) rfl rfl (Nat.le_of_ble_eq_true rfl) rfl ?_
  intro K hR hN
  have loop4 : ∀ (n : Nat) (l1 l2 : Int32), PI n l2 → vX5_residentCount u = lvX5_residentCount_4 u n l1 l2 → G K cI cZ cX5_residentCount 3 RX5 wsX5_residentCount rX5_residentCount 0 0 (wM a cI cZ u) 4 [(0, .ref (a 0)), (1, .int l1), (2, .int l2)] [] := by
    intro n
    induction n with
    | zero =>
      intro l1 l2 hi hv
      exact absurd hi (PI.zero)
    | succ n ih =>
      intro l1 l2 hi hv
      refine G.iload_n (pc2 := 5) (x := l2) dX5_residentCount_4 rfl rfl rfl ?_
      refine G.bipush (pc2 := 7) (v := 64) dX5_residentCount_5 (by decide) rfl ?_
      refine G.icmp_ge (pc2 := 10) (tgt := 28) dX5_residentCount_7 rfl rfl (fun c_7 => ?_) (fun c_7 => ?_)
      · refine G.iload_n (pc2 := 29) (x := l1) dX5_residentCount_28 rfl rfl rfl ?_
        exact G.ireturn hR (rfl) dX5_residentCount_29 ⟨congrArg some (by rw [hv]; simp only [lvX5_residentCount_4, if_neg c_7]), rfl⟩
      · refine G.aload_n (pc2 := 11) (x := a 0) dX5_residentCount_10 rfl rfl rfl ?_
        refine G.getf (pc2 := 14) (q0 := 0) (ci := 5) (k := 14) (v := .ref (a 4)) iX5_residentCount_X5 kX5_residentCount_19 rfl rfl (by decide) rfl dX5_residentCount_11 rfl ?_
        refine G.iload_n (pc2 := 15) (x := l2) dX5_residentCount_14 rfl rfl rfl ?_
        refine G.zald (pc2 := 16) (q0 := 4) (j := ix l2) (v := u.2.1.1 (ix l2)) rfl (PI.pg hi c_7) rfl dX5_residentCount_15 rfl ?_
        refine G.if_eq (pc2 := 19) (tgt := 22) dX5_residentCount_16 rfl rfl (fun c_16 => ?_) (fun c_16 => ?_)
        · refine G.iinc (pc2 := 25) (k := 2) (v := l2 + 1) (lv2 := [(0, .ref (a 0)), (1, .int l1), (2, .int (l2 + 1))]) [1, 2, 0] dX5_residentCount_22 rfl rfl (by decide) rfl rfl ?_
          refine G.goto (tgt := 4) dX5_residentCount_25 rfl ?_
          exact ih  l1 (l2 + 1) (PI.next hi c_7) (by rw [hv]; simp only [lvX5_residentCount_4, if_pos c_7, if_pos c_16])
        · refine G.iinc (pc2 := 22) (k := 1) (v := l1 + 1) (lv2 := [(0, .ref (a 0)), (1, .int (l1 + 1)), (2, .int l2)]) [1, 0, 2] dX5_residentCount_19 rfl rfl (by decide) rfl rfl ?_
          refine G.iinc (pc2 := 25) (k := 2) (v := l2 + 1) (lv2 := [(0, .ref (a 0)), (1, .int (l1 + 1)), (2, .int (l2 + 1))]) [1, 2, 0] dX5_residentCount_22 rfl rfl (by decide) rfl rfl ?_
          refine G.goto (tgt := 4) dX5_residentCount_25 rfl ?_
          exact ih  (l1 + 1) (l2 + 1) (PI.next hi c_7) (by rw [hv]; simp only [lvX5_residentCount_4, if_pos c_7, if_neg c_16])
  refine G.iconst (pc2 := 1) (v := 0) dX5_residentCount_0 (by decide) rfl ?_
  refine G.istore_n (pc2 := 2) (lv2 := [(0, .ref (a 0)), (1, .int 0)]) [1, 0] dX5_residentCount_1 rfl (by decide) rfl rfl ?_
  refine G.iconst (pc2 := 3) (v := 0) dX5_residentCount_2 (by decide) rfl ?_
  refine G.istore_n (pc2 := 4) (lv2 := [(0, .ref (a 0)), (1, .int 0), (2, .int 0)]) [1, 2, 0] dX5_residentCount_3 rfl (by decide) rfl rfl ?_
  exact loop4 65 0 0 (PI.start) (rfl)
set_option maxRecDepth 100000 in
set_option maxHeartbeats 4000000 in
theorem c_X5_time {cI cZ : ClassId} (a : Nat → Nat) (u : SM) (p0 p1 : Int32) (ht : TI p0 p1) : Ct yX5_time wsX5_time rX5_time cI cZ [.ref (a 0), .int p0, .int p1] (wM a cI cZ u) 0 0 (rt (some (vX5_time u p0 p1)) (wM a cI cZ u)) := by
  refine Ct.of (cc := cX5_time) (nL := 3) (own := RX5) (by decide) rfl rfl (Nat.le_of_ble_eq_true rfl) rfl ?_
  intro K hR hN
  refine G.aload_n (pc2 := 1) (x := a 0) dX5_time_0 rfl rfl rfl ?_
  refine G.getf (pc2 := 4) (q0 := 0) (ci := 5) (k := 16) (v := .ref (a 6)) iX5_time_X5 kX5_time_26 rfl rfl (by decide) rfl dX5_time_1 rfl ?_
  refine G.iconst (pc2 := 5) (v := 3) dX5_time_4 (by decide) rfl ?_
  refine G.iload_n (pc2 := 6) (x := p0) dX5_time_5 rfl rfl rfl ?_
  refine G.imul (pc2 := 7) (v := 3 * p0) dX5_time_6 rfl rfl ?_
  refine G.iload_n (pc2 := 8) (x := p1) dX5_time_7 rfl rfl rfl ?_
  refine G.iadd (pc2 := 9) (v := (3 * p0) + p1) dX5_time_8 rfl rfl ?_
  refine G.iconst (pc2 := 10) (v := 1) dX5_time_9 (by decide) rfl ?_
  refine G.isub (pc2 := 11) (v := ((3 * p0) + p1) - 1) dX5_time_10 rfl rfl ?_
  refine G.iald (pc2 := 12) (q0 := 6) (j := ix (((3 * p0) + p1) - 1)) (v := u.2.2.2.1.1 (ix (((3 * p0) + p1) - 1))) rfl (ht) rfl dX5_time_11 rfl ?_
  exact G.ireturn hR (rfl) dX5_time_12 ⟨congrArg some (rfl), rfl⟩
set_option maxRecDepth 100000 in
set_option maxHeartbeats 4000000 in
theorem c_X5_goesFirst {cI cZ : ClassId} (a : Nat → Nat) (u : SM) (p0 p1 : Int32) (h0 : Pg p0) (h1 : Pg p1) (hh : HW u.2.2.2.1) : Ct yX5_goesFirst wsX5_goesFirst rX5_goesFirst cI cZ [.ref (a 0), .int p0, .int p1] (wM a cI cZ u) 0 0 (rt (some (vX5_goesFirst u p0 p1)) (wM a cI cZ u)) := by
  refine Ct.of (cc := cX5_goesFirst) (nL := 4) (own := RX5) (by decide) rfl rfl (Nat.le_of_ble_eq_true rfl) rfl ?_
  intro K hR hN
  refine G.aload_n (pc2 := 1) (x := a 0) dX5_goesFirst_0 rfl rfl rfl ?_
  refine G.getf (pc2 := 4) (q0 := 0) (ci := 5) (k := 17) (v := .ref (a 7)) iX5_goesFirst_X5 kX5_goesFirst_29 rfl rfl (by decide) rfl dX5_goesFirst_1 rfl ?_
  refine G.iload_n (pc2 := 5) (x := p0) dX5_goesFirst_4 rfl rfl rfl ?_
  refine G.iald (pc2 := 6) (q0 := 7) (j := ix p0) (v := u.2.2.2.1.2.1 (ix p0)) rfl (h0) rfl dX5_goesFirst_5 rfl ?_
  refine G.aload_n (pc2 := 7) (x := a 0) dX5_goesFirst_6 rfl rfl rfl ?_
  refine G.getf (pc2 := 10) (q0 := 0) (ci := 5) (k := 1) (v := .int u.2.2.2.1.2.2) iX5_goesFirst_X5 kX5_goesFirst_50 rfl rfl (by decide) rfl dX5_goesFirst_7 rfl ?_
  refine G.icmp_ge (pc2 := 13) (tgt := 17) dX5_goesFirst_10 rfl rfl (fun c_10 => ?_) (fun c_10 => ?_)
  · refine G.iconst (pc2 := 18) (v := 0) dX5_goesFirst_17 (by decide) rfl ?_
    refine G.istore_n (pc2 := 19) (lv2 := [(0, .ref (a 0)), (1, .int p0), (2, .int p1), (3, .int 0)]) [1, 2, 3, 0] dX5_goesFirst_18 rfl (by decide) rfl rfl ?_
    refine G.iload_n (pc2 := 20) (x := 0) dX5_goesFirst_19 rfl rfl rfl ?_
    refine G.aload_n (pc2 := 21) (x := a 0) dX5_goesFirst_20 rfl rfl rfl ?_
    refine G.getf (pc2 := 24) (q0 := 0) (ci := 5) (k := 17) (v := .ref (a 7)) iX5_goesFirst_X5 kX5_goesFirst_29 rfl rfl (by decide) rfl dX5_goesFirst_21 rfl ?_
    refine G.iload_n (pc2 := 25) (x := p1) dX5_goesFirst_24 rfl rfl rfl ?_
    refine G.iald (pc2 := 26) (q0 := 7) (j := ix p1) (v := u.2.2.2.1.2.1 (ix p1)) rfl (h1) rfl dX5_goesFirst_25 rfl ?_
    refine G.aload_n (pc2 := 27) (x := a 0) dX5_goesFirst_26 rfl rfl rfl ?_
    refine G.getf (pc2 := 30) (q0 := 0) (ci := 5) (k := 1) (v := .int u.2.2.2.1.2.2) iX5_goesFirst_X5 kX5_goesFirst_50 rfl rfl (by decide) rfl dX5_goesFirst_27 rfl ?_
    refine G.icmp_ge (pc2 := 33) (tgt := 37) dX5_goesFirst_30 rfl rfl (fun c_30 => ?_) (fun c_30 => ?_)
    · refine G.iconst (pc2 := 38) (v := 0) dX5_goesFirst_37 (by decide) rfl ?_
      refine G.icmp_eq (pc2 := 41) (tgt := 43) dX5_goesFirst_38 rfl rfl (fun c_38 => ?_) (fun c_38 => ?_)
      · refine G.iload_n (pc2 := 44) (x := 0) dX5_goesFirst_43 rfl rfl rfl ?_
        refine G.if_eq (pc2 := 47) (tgt := 70) dX5_goesFirst_44 rfl rfl (fun c_44 => ?_) (fun c_44 => ?_)
        · refine G.aload_n (pc2 := 71) (x := a 0) dX5_goesFirst_70 rfl rfl rfl ?_
          refine G.iload_n (pc2 := 72) (x := p0) dX5_goesFirst_71 rfl rfl rfl ?_
          refine G.aload_n (pc2 := 73) (x := a 0) dX5_goesFirst_72 rfl rfl rfl ?_
          refine G.getf (pc2 := 76) (q0 := 0) (ci := 5) (k := 1) (v := .int u.2.2.2.1.2.2) iX5_goesFirst_X5 kX5_goesFirst_50 rfl rfl (by decide) rfl dX5_goesFirst_73 rfl ?_
          refine G.callVd (pc2 := 79) (i := 0) (j := 10) (q0 := 0) (ci := 5) (As := [.int p0, .int u.2.2.2.1.2.2]) (rest := []) (ws2 := wM a cI cZ u) (st2 := [.int (vX5_time u p0 u.2.2.2.1.2.2)]) (c_X5_time (cI := cI) (cZ := cZ) a u p0 u.2.2.2.1.2.2 (tik h0 hh)) gX5_goesFirst_X5_time rfl rfl rfl ndX5_time ⟨Nat.le_of_ble_eq_true rfl, Nat.le_of_ble_eq_true rfl⟩ ⟨Nat.le_of_ble_eq_true rfl, Nat.le_of_ble_eq_true rfl⟩ rfl rfl (Nat.le_of_ble_eq_true rfl) rfl rfl rfl rfl rfl rfl dX5_goesFirst_76 rfl ?_
          generalize ev_76 : vX5_time u p0 u.2.2.2.1.2.2 = v_76
          refine G.aload_n (pc2 := 80) (x := a 0) dX5_goesFirst_79 rfl rfl rfl ?_
          refine G.iload_n (pc2 := 81) (x := p1) dX5_goesFirst_80 rfl rfl rfl ?_
          refine G.aload_n (pc2 := 82) (x := a 0) dX5_goesFirst_81 rfl rfl rfl ?_
          refine G.getf (pc2 := 85) (q0 := 0) (ci := 5) (k := 1) (v := .int u.2.2.2.1.2.2) iX5_goesFirst_X5 kX5_goesFirst_50 rfl rfl (by decide) rfl dX5_goesFirst_82 rfl ?_
          refine G.callVd (pc2 := 88) (i := 0) (j := 10) (q0 := 0) (ci := 5) (As := [.int p1, .int u.2.2.2.1.2.2]) (rest := [.int v_76]) (ws2 := wM a cI cZ u) (st2 := [.int (vX5_time u p1 u.2.2.2.1.2.2), .int v_76]) (c_X5_time (cI := cI) (cZ := cZ) a u p1 u.2.2.2.1.2.2 (tik h1 hh)) gX5_goesFirst_X5_time rfl rfl rfl ndX5_time ⟨Nat.le_of_ble_eq_true rfl, Nat.le_of_ble_eq_true rfl⟩ ⟨Nat.le_of_ble_eq_true rfl, Nat.le_of_ble_eq_true rfl⟩ rfl rfl (Nat.le_of_ble_eq_true rfl) rfl rfl rfl rfl rfl rfl dX5_goesFirst_85 rfl ?_
          generalize ev_85 : vX5_time u p1 u.2.2.2.1.2.2 = v_85
          refine G.icmp_ge (pc2 := 91) (tgt := 95) dX5_goesFirst_88 rfl rfl (fun c_88 => ?_) (fun c_88 => ?_)
          · refine G.iconst (pc2 := 96) (v := 0) dX5_goesFirst_95 (by decide) rfl ?_
            subst ev_85 ev_76
            exact G.ireturn hR (rfl) dX5_goesFirst_96 ⟨congrArg some (by simp only [vX5_goesFirst, if_neg c_10, if_neg c_30, if_neg c_88]), rfl⟩
          · refine G.iconst (pc2 := 92) (v := 1) dX5_goesFirst_91 (by decide) rfl ?_
            refine G.goto (tgt := 96) dX5_goesFirst_92 rfl ?_
            subst ev_85 ev_76
            exact G.ireturn hR (rfl) dX5_goesFirst_96 ⟨congrArg some (by simp only [vX5_goesFirst, if_neg c_10, if_neg c_30, if_pos c_88]), rfl⟩
        · exact absurd c_44 (by decide)
      · exact absurd c_38 (by decide)
    · refine G.iconst (pc2 := 34) (v := 1) dX5_goesFirst_33 (by decide) rfl ?_
      refine G.goto (tgt := 38) dX5_goesFirst_34 rfl ?_
      refine G.icmp_eq (pc2 := 41) (tgt := 43) dX5_goesFirst_38 rfl rfl (fun c_38 => ?_) (fun c_38 => ?_)
      · exact absurd c_38 (by decide)
      · refine G.iload_n (pc2 := 42) (x := 0) dX5_goesFirst_41 rfl rfl rfl ?_
        exact G.ireturn hR (rfl) dX5_goesFirst_42 ⟨congrArg some (by simp only [vX5_goesFirst, if_neg c_10, if_pos c_30]), rfl⟩
  · refine G.iconst (pc2 := 14) (v := 1) dX5_goesFirst_13 (by decide) rfl ?_
    refine G.goto (tgt := 18) dX5_goesFirst_14 rfl ?_
    refine G.istore_n (pc2 := 19) (lv2 := [(0, .ref (a 0)), (1, .int p0), (2, .int p1), (3, .int 1)]) [1, 2, 3, 0] dX5_goesFirst_18 rfl (by decide) rfl rfl ?_
    refine G.iload_n (pc2 := 20) (x := 1) dX5_goesFirst_19 rfl rfl rfl ?_
    refine G.aload_n (pc2 := 21) (x := a 0) dX5_goesFirst_20 rfl rfl rfl ?_
    refine G.getf (pc2 := 24) (q0 := 0) (ci := 5) (k := 17) (v := .ref (a 7)) iX5_goesFirst_X5 kX5_goesFirst_29 rfl rfl (by decide) rfl dX5_goesFirst_21 rfl ?_
    refine G.iload_n (pc2 := 25) (x := p1) dX5_goesFirst_24 rfl rfl rfl ?_
    refine G.iald (pc2 := 26) (q0 := 7) (j := ix p1) (v := u.2.2.2.1.2.1 (ix p1)) rfl (h1) rfl dX5_goesFirst_25 rfl ?_
    refine G.aload_n (pc2 := 27) (x := a 0) dX5_goesFirst_26 rfl rfl rfl ?_
    refine G.getf (pc2 := 30) (q0 := 0) (ci := 5) (k := 1) (v := .int u.2.2.2.1.2.2) iX5_goesFirst_X5 kX5_goesFirst_50 rfl rfl (by decide) rfl dX5_goesFirst_27 rfl ?_
    refine G.icmp_ge (pc2 := 33) (tgt := 37) dX5_goesFirst_30 rfl rfl (fun c_30 => ?_) (fun c_30 => ?_)
    · refine G.iconst (pc2 := 38) (v := 0) dX5_goesFirst_37 (by decide) rfl ?_
      refine G.icmp_eq (pc2 := 41) (tgt := 43) dX5_goesFirst_38 rfl rfl (fun c_38 => ?_) (fun c_38 => ?_)
      · exact absurd c_38 (by decide)
      · refine G.iload_n (pc2 := 42) (x := 1) dX5_goesFirst_41 rfl rfl rfl ?_
        exact G.ireturn hR (rfl) dX5_goesFirst_42 ⟨congrArg some (by simp only [vX5_goesFirst, if_pos c_10, if_neg c_30]), rfl⟩
    · refine G.iconst (pc2 := 34) (v := 1) dX5_goesFirst_33 (by decide) rfl ?_
      refine G.goto (tgt := 38) dX5_goesFirst_34 rfl ?_
      refine G.icmp_eq (pc2 := 41) (tgt := 43) dX5_goesFirst_38 rfl rfl (fun c_38 => ?_) (fun c_38 => ?_)
      · refine G.iload_n (pc2 := 44) (x := 1) dX5_goesFirst_43 rfl rfl rfl ?_
        refine G.if_eq (pc2 := 47) (tgt := 70) dX5_goesFirst_44 rfl rfl (fun c_44 => ?_) (fun c_44 => ?_)
        · exact absurd c_44 (by decide)
        · refine G.aload_n (pc2 := 48) (x := a 0) dX5_goesFirst_47 rfl rfl rfl ?_
          refine G.iload_n (pc2 := 49) (x := p0) dX5_goesFirst_48 rfl rfl rfl ?_
          refine G.iconst (pc2 := 50) (v := 1) dX5_goesFirst_49 (by decide) rfl ?_
          refine G.callVd (pc2 := 53) (i := 0) (j := 10) (q0 := 0) (ci := 5) (As := [.int p0, .int 1]) (rest := []) (ws2 := wM a cI cZ u) (st2 := [.int (vX5_time u p0 1)]) (c_X5_time (cI := cI) (cZ := cZ) a u p0 1 (ti1 h0)) gX5_goesFirst_X5_time rfl rfl rfl ndX5_time ⟨Nat.le_of_ble_eq_true rfl, Nat.le_of_ble_eq_true rfl⟩ ⟨Nat.le_of_ble_eq_true rfl, Nat.le_of_ble_eq_true rfl⟩ rfl rfl (Nat.le_of_ble_eq_true rfl) rfl rfl rfl rfl rfl rfl dX5_goesFirst_50 rfl ?_
          generalize ev_50 : vX5_time u p0 1 = v_50
          refine G.aload_n (pc2 := 54) (x := a 0) dX5_goesFirst_53 rfl rfl rfl ?_
          refine G.iload_n (pc2 := 55) (x := p1) dX5_goesFirst_54 rfl rfl rfl ?_
          refine G.iconst (pc2 := 56) (v := 1) dX5_goesFirst_55 (by decide) rfl ?_
          refine G.callVd (pc2 := 59) (i := 0) (j := 10) (q0 := 0) (ci := 5) (As := [.int p1, .int 1]) (rest := [.int v_50]) (ws2 := wM a cI cZ u) (st2 := [.int (vX5_time u p1 1), .int v_50]) (c_X5_time (cI := cI) (cZ := cZ) a u p1 1 (ti1 h1)) gX5_goesFirst_X5_time rfl rfl rfl ndX5_time ⟨Nat.le_of_ble_eq_true rfl, Nat.le_of_ble_eq_true rfl⟩ ⟨Nat.le_of_ble_eq_true rfl, Nat.le_of_ble_eq_true rfl⟩ rfl rfl (Nat.le_of_ble_eq_true rfl) rfl rfl rfl rfl rfl rfl dX5_goesFirst_56 rfl ?_
          generalize ev_56 : vX5_time u p1 1 = v_56
          refine G.icmp_ge (pc2 := 62) (tgt := 66) dX5_goesFirst_59 rfl rfl (fun c_59 => ?_) (fun c_59 => ?_)
          · refine G.iconst (pc2 := 67) (v := 0) dX5_goesFirst_66 (by decide) rfl ?_
            refine G.goto (tgt := 96) dX5_goesFirst_67 rfl ?_
            subst ev_56 ev_50
            exact G.ireturn hR (rfl) dX5_goesFirst_96 ⟨congrArg some (by simp only [vX5_goesFirst, if_pos c_10, if_pos c_30, if_neg c_59]), rfl⟩
          · refine G.iconst (pc2 := 63) (v := 1) dX5_goesFirst_62 (by decide) rfl ?_
            refine G.goto (tgt := 96) dX5_goesFirst_63 rfl ?_
            subst ev_56 ev_50
            exact G.ireturn hR (rfl) dX5_goesFirst_96 ⟨congrArg some (by simp only [vX5_goesFirst, if_pos c_10, if_pos c_30, if_pos c_59]), rfl⟩
      · exact absurd c_38 (by decide)
set_option maxRecDepth 100000 in
set_option maxHeartbeats 4000000 in
theorem c_X5_victim {cI cZ : ClassId} (a : Nat → Nat) (u : SM) (hh : HW u.2.2.2.1) : Ct yX5_victim wsX5_victim rX5_victim cI cZ [.ref (a 0)] (wM a cI cZ u) 0 0 (rt (some (vX5_victim u)) (wM a cI cZ u)) := by
  refine Ct.of (cc := cX5_victim) (nL := 3) (own := RX5) (by decide) rfl rfl (Nat.le_of_ble_eq_true rfl) rfl ?_
  intro K hR hN
  have loop5 : ∀ (n : Nat) (l1 l2 : Int32), PI n l2 ∧ PgN l1 → vX5_victim u = lvX5_victim_5 u n l1 l2 → G K cI cZ cX5_victim 3 RX5 wsX5_victim rX5_victim 0 0 (wM a cI cZ u) 5 [(0, .ref (a 0)), (1, .int l1), (2, .int l2)] [] := by
    intro n
    induction n with
    | zero =>
      intro l1 l2 hi hv
      exact absurd hi (fun h => PI.zero h.1)
    | succ n ih =>
      intro l1 l2 hi hv
      refine G.iload_n (pc2 := 6) (x := l2) dX5_victim_5 rfl rfl rfl ?_
      refine G.bipush (pc2 := 8) (v := 64) dX5_victim_6 (by decide) rfl ?_
      refine G.icmp_ge (pc2 := 11) (tgt := 55) dX5_victim_8 rfl rfl (fun c_8 => ?_) (fun c_8 => ?_)
      · refine G.iload_n (pc2 := 56) (x := l1) dX5_victim_55 rfl rfl rfl ?_
        exact G.ireturn hR (rfl) dX5_victim_56 ⟨congrArg some (by rw [hv]; simp only [lvX5_victim_5, if_neg c_8]), rfl⟩
      · refine G.aload_n (pc2 := 12) (x := a 0) dX5_victim_11 rfl rfl rfl ?_
        refine G.getf (pc2 := 15) (q0 := 0) (ci := 5) (k := 14) (v := .ref (a 4)) iX5_victim_X5 kX5_victim_19 rfl rfl (by decide) rfl dX5_victim_12 rfl ?_
        refine G.iload_n (pc2 := 16) (x := l2) dX5_victim_15 rfl rfl rfl ?_
        refine G.zald (pc2 := 17) (q0 := 4) (j := ix l2) (v := u.2.1.1 (ix l2)) rfl (PI.pg hi.1 c_8) rfl dX5_victim_16 rfl ?_
        refine G.if_eq (pc2 := 20) (tgt := 49) dX5_victim_17 rfl rfl (fun c_17 => ?_) (fun c_17 => ?_)
        · refine G.iinc (pc2 := 52) (k := 2) (v := l2 + 1) (lv2 := [(0, .ref (a 0)), (1, .int l1), (2, .int (l2 + 1))]) [1, 2, 0] dX5_victim_49 rfl rfl (by decide) rfl rfl ?_
          refine G.goto (tgt := 5) dX5_victim_52 rfl ?_
          exact ih  l1 (l2 + 1) (⟨PI.next hi.1 c_8, by first | exact hi.2 | exact Or.inr (PI.pg hi.1 c_8)⟩) (by rw [hv]; simp only [lvX5_victim_5, if_pos c_8, if_pos c_17])
        · refine G.aload_n (pc2 := 21) (x := a 0) dX5_victim_20 rfl rfl rfl ?_
          refine G.getf (pc2 := 24) (q0 := 0) (ci := 5) (k := 13) (v := .ref (a 3)) iX5_victim_X5 kX5_victim_16 rfl rfl (by decide) rfl dX5_victim_21 rfl ?_
          refine G.iload_n (pc2 := 25) (x := l2) dX5_victim_24 rfl rfl rfl ?_
          refine G.iald (pc2 := 26) (q0 := 3) (j := ix l2) (v := u.2.1.2.2.2.1 (ix l2)) rfl (PI.pg hi.1 c_8) rfl dX5_victim_25 rfl ?_
          refine G.if_le (pc2 := 29) (tgt := 32) dX5_victim_26 rfl rfl (fun c_26 => ?_) (fun c_26 => ?_)
          · refine G.iload_n (pc2 := 33) (x := l1) dX5_victim_32 rfl rfl rfl ?_
            refine G.bipush (pc2 := 35) (v := (-9)) dX5_victim_33 (by decide) rfl ?_
            refine G.icmp_eq (pc2 := 38) (tgt := 47) dX5_victim_35 rfl rfl (fun c_35 => ?_) (fun c_35 => ?_)
            · refine G.iload_n (pc2 := 48) (x := l2) dX5_victim_47 rfl rfl rfl ?_
              refine G.istore_n (pc2 := 49) (lv2 := [(0, .ref (a 0)), (1, .int l2), (2, .int l2)]) [1, 0, 2] dX5_victim_48 rfl (by decide) rfl rfl ?_
              refine G.iinc (pc2 := 52) (k := 2) (v := l2 + 1) (lv2 := [(0, .ref (a 0)), (1, .int l2), (2, .int (l2 + 1))]) [1, 2, 0] dX5_victim_49 rfl rfl (by decide) rfl rfl ?_
              refine G.goto (tgt := 5) dX5_victim_52 rfl ?_
              exact ih  l2 (l2 + 1) (⟨PI.next hi.1 c_8, by first | exact hi.2 | exact Or.inr (PI.pg hi.1 c_8)⟩) (by rw [hv]; simp only [lvX5_victim_5, if_pos c_8, if_neg c_17, if_neg c_26, if_pos c_35])
            · refine G.aload_n (pc2 := 39) (x := a 0) dX5_victim_38 rfl rfl rfl ?_
              refine G.iload_n (pc2 := 40) (x := l2) dX5_victim_39 rfl rfl rfl ?_
              refine G.iload_n (pc2 := 41) (x := l1) dX5_victim_40 rfl rfl rfl ?_
              refine G.callVd (pc2 := 44) (i := 0) (j := 10) (q0 := 0) (ci := 5) (As := [.int l2, .int l1]) (rest := []) (ws2 := wM a cI cZ u) (st2 := [.int (vX5_goesFirst u l2 l1)]) (c_X5_goesFirst (cI := cI) (cZ := cZ) a u l2 l1 (PI.pg hi.1 c_8) (hi.2.resolve_left c_35) (hh)) gX5_victim_X5_goesFirst rfl rfl rfl ndX5_goesFirst ⟨Nat.le_of_ble_eq_true rfl, Nat.le_of_ble_eq_true rfl⟩ ⟨Nat.le_of_ble_eq_true rfl, Nat.le_of_ble_eq_true rfl⟩ rfl rfl (Nat.le_of_ble_eq_true rfl) rfl rfl rfl rfl rfl rfl dX5_victim_41 rfl ?_
              generalize ev_41 : vX5_goesFirst u l2 l1 = v_41
              refine G.if_eq (pc2 := 47) (tgt := 49) dX5_victim_44 rfl rfl (fun c_44 => ?_) (fun c_44 => ?_)
              · refine G.iinc (pc2 := 52) (k := 2) (v := l2 + 1) (lv2 := [(0, .ref (a 0)), (1, .int l1), (2, .int (l2 + 1))]) [1, 2, 0] dX5_victim_49 rfl rfl (by decide) rfl rfl ?_
                refine G.goto (tgt := 5) dX5_victim_52 rfl ?_
                subst ev_41
                exact ih  l1 (l2 + 1) (⟨PI.next hi.1 c_8, by first | exact hi.2 | exact Or.inr (PI.pg hi.1 c_8)⟩) (by rw [hv]; simp only [lvX5_victim_5, if_pos c_8, if_neg c_17, if_neg c_26, if_neg c_35, if_pos c_44])
              · refine G.iload_n (pc2 := 48) (x := l2) dX5_victim_47 rfl rfl rfl ?_
                refine G.istore_n (pc2 := 49) (lv2 := [(0, .ref (a 0)), (1, .int l2), (2, .int l2)]) [1, 0, 2] dX5_victim_48 rfl (by decide) rfl rfl ?_
                refine G.iinc (pc2 := 52) (k := 2) (v := l2 + 1) (lv2 := [(0, .ref (a 0)), (1, .int l2), (2, .int (l2 + 1))]) [1, 2, 0] dX5_victim_49 rfl rfl (by decide) rfl rfl ?_
                refine G.goto (tgt := 5) dX5_victim_52 rfl ?_
                subst ev_41
                exact ih  l2 (l2 + 1) (⟨PI.next hi.1 c_8, by first | exact hi.2 | exact Or.inr (PI.pg hi.1 c_8)⟩) (by rw [hv]; simp only [lvX5_victim_5, if_pos c_8, if_neg c_17, if_neg c_26, if_neg c_35, if_neg c_44])
          · refine G.goto (tgt := 49) dX5_victim_29 rfl ?_
            refine G.iinc (pc2 := 52) (k := 2) (v := l2 + 1) (lv2 := [(0, .ref (a 0)), (1, .int l1), (2, .int (l2 + 1))]) [1, 2, 0] dX5_victim_49 rfl rfl (by decide) rfl rfl ?_
            refine G.goto (tgt := 5) dX5_victim_52 rfl ?_
            exact ih  l1 (l2 + 1) (⟨PI.next hi.1 c_8, by first | exact hi.2 | exact Or.inr (PI.pg hi.1 c_8)⟩) (by rw [hv]; simp only [lvX5_victim_5, if_pos c_8, if_neg c_17, if_pos c_26])
  refine G.bipush (pc2 := 2) (v := (-9)) dX5_victim_0 (by decide) rfl ?_
  refine G.istore_n (pc2 := 3) (lv2 := [(0, .ref (a 0)), (1, .int (-9))]) [1, 0] dX5_victim_2 rfl (by decide) rfl rfl ?_
  refine G.iconst (pc2 := 4) (v := 0) dX5_victim_3 (by decide) rfl ?_
  refine G.istore_n (pc2 := 5) (lv2 := [(0, .ref (a 0)), (1, .int (-9)), (2, .int 0)]) [1, 2, 0] dX5_victim_4 rfl (by decide) rfl rfl ?_
  exact loop5 65 (-9) 0 (⟨PI.start, Or.inl rfl⟩) (rfl)
set_option maxRecDepth 100000 in
set_option maxHeartbeats 4000000 in
theorem c_X5_canLoad {cI cZ : ClassId} (a : Nat → Nat) (u : SM) (hh : HW u.2.2.2.1) : Ct yX5_canLoad wsX5_canLoad rX5_canLoad cI cZ [.ref (a 0)] (wM a cI cZ u) 0 0 (rt (some (vX5_canLoad u)) (wM a cI cZ u)) := by
  refine Ct.of (cc := cX5_canLoad) (nL := 1) (own := RX5) (by decide) rfl rfl (Nat.le_of_ble_eq_true rfl) rfl ?_
  intro K hR hN
  refine G.aload_n (pc2 := 1) (x := a 0) dX5_canLoad_0 rfl rfl rfl ?_
  refine G.callVd (pc2 := 4) (i := 0) (j := 10) (q0 := 0) (ci := 5) (As := []) (rest := []) (ws2 := wM a cI cZ u) (st2 := [.int (vX5_residentCount u)]) (c_X5_residentCount (cI := cI) (cZ := cZ) a u) gX5_canLoad_X5_residentCount rfl rfl rfl ndX5_residentCount ⟨Nat.le_of_ble_eq_true rfl, Nat.le_of_ble_eq_true rfl⟩ ⟨Nat.le_of_ble_eq_true rfl, Nat.le_of_ble_eq_true rfl⟩ rfl rfl (Nat.le_of_ble_eq_true rfl) rfl rfl rfl rfl rfl rfl dX5_canLoad_1 rfl ?_
  generalize ev_1 : vX5_residentCount u = v_1
  refine G.aload_n (pc2 := 5) (x := a 0) dX5_canLoad_4 rfl rfl rfl ?_
  refine G.getf (pc2 := 8) (q0 := 0) (ci := 5) (k := 0) (v := .int u.2.1.2.2.2.2) iX5_canLoad_X5 kX5_canLoad_46 rfl rfl (by decide) rfl dX5_canLoad_5 rfl ?_
  refine G.icmp_lt (pc2 := 11) (tgt := 20) dX5_canLoad_8 rfl rfl (fun c_8 => ?_) (fun c_8 => ?_)
  · refine G.iconst (pc2 := 21) (v := 1) dX5_canLoad_20 (by decide) rfl ?_
    refine G.goto (tgt := 25) dX5_canLoad_21 rfl ?_
    subst ev_1
    exact G.ireturn hR (rfl) dX5_canLoad_25 ⟨congrArg some (by simp only [vX5_canLoad, if_pos c_8]), rfl⟩
  · refine G.aload_n (pc2 := 12) (x := a 0) dX5_canLoad_11 rfl rfl rfl ?_
    refine G.callVd (pc2 := 15) (i := 0) (j := 10) (q0 := 0) (ci := 5) (As := []) (rest := []) (ws2 := wM a cI cZ u) (st2 := [.int (vX5_victim u)]) (c_X5_victim (cI := cI) (cZ := cZ) a u (hh)) gX5_canLoad_X5_victim rfl rfl rfl ndX5_victim ⟨Nat.le_of_ble_eq_true rfl, Nat.le_of_ble_eq_true rfl⟩ ⟨Nat.le_of_ble_eq_true rfl, Nat.le_of_ble_eq_true rfl⟩ rfl rfl (Nat.le_of_ble_eq_true rfl) rfl rfl rfl rfl rfl rfl dX5_canLoad_12 rfl ?_
    generalize ev_12 : vX5_victim u = v_12
    refine G.bipush (pc2 := 17) (v := (-9)) dX5_canLoad_15 (by decide) rfl ?_
    refine G.icmp_eq (pc2 := 20) (tgt := 24) dX5_canLoad_17 rfl rfl (fun c_17 => ?_) (fun c_17 => ?_)
    · refine G.iconst (pc2 := 25) (v := 0) dX5_canLoad_24 (by decide) rfl ?_
      subst ev_12 ev_1
      exact G.ireturn hR (rfl) dX5_canLoad_25 ⟨congrArg some (by simp only [vX5_canLoad, if_neg c_8, if_pos c_17]), rfl⟩
    · refine G.iconst (pc2 := 21) (v := 1) dX5_canLoad_20 (by decide) rfl ?_
      refine G.goto (tgt := 25) dX5_canLoad_21 rfl ?_
      subst ev_12 ev_1
      exact G.ireturn hR (rfl) dX5_canLoad_25 ⟨congrArg some (by simp only [vX5_canLoad, if_neg c_8, if_neg c_17]), rfl⟩
