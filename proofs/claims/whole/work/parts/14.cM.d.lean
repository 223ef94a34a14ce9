set_option maxRecDepth 100000 in
set_option maxHeartbeats 4000000 in
theorem c_X5_drain {cI cZ : ClassId} (a : Nat → Nat) (u : SM) (p0 : Int32) (hq : QW u.2.2.1) : Ct yX5_drain wsX5_drain rX5_drain cI cZ [.ref (a 0), .int p0] (wM a cI cZ u) 0 0 (rt (some (vX5_drain u p0)) (wM a cI cZ (sX5_drain u p0))) := by
  refine Ct.of (cc := cX5_drain) (nL := 3) (own := RX5) (by decide) rfl rfl (Nat.le_of_ble_eq_true rfl) rfl ?_
  intro K hR hN
  have loop18 : ∀ (n : Nat) (w : SM) (l2 : Int32), WI n w.2.2.1 → vX5_drain u p0 = lvX5_drain_18 p0 n w l2 → sX5_drain u p0 = lsX5_drain_18 p0 n w l2 → G K cI cZ cX5_drain 3 RX5 wsX5_drain rX5_drain 0 0 (wM a cI cZ w) 18 [(0, .ref (a 0)), (1, .int p0), (2, .int l2)] [] := by
    intro n
    induction n with
    | zero =>
      intro w l2 hi hv hs
      exact absurd hi (WI.zero)
    | succ n ih =>
      intro w l2 hi hv hs
      refine G.aload_n (pc2 := 19) (x := a 0) dX5_drain_18 rfl rfl rfl ?_
      refine G.getf (pc2 := 22) (q0 := 0) (ci := 5) (k := 20) (v := .int w.2.2.1.2.2.2) iX5_drain_X5 kX5_drain_80 rfl rfl (by decide) rfl dX5_drain_19 rfl ?_
      refine G.if_le (pc2 := 25) (tgt := 42) dX5_drain_22 rfl rfl (fun c_22 => ?_) (fun c_22 => ?_)
      · refine G.aload_n (pc2 := 43) (x := a 0) dX5_drain_42 rfl rfl rfl ?_
        refine G.getf (pc2 := 46) (q0 := 0) (ci := 5) (k := 9) (v := .int w.1.2.2) iX5_drain_X5 kX5_drain_74 rfl rfl (by decide) rfl dX5_drain_43 rfl ?_
        refine G.iload_n (pc2 := 47) (x := l2) dX5_drain_46 rfl rfl rfl ?_
        refine G.isub (pc2 := 48) (v := w.1.2.2 - l2) dX5_drain_47 rfl rfl ?_
        exact G.ireturn hR (rfl) dX5_drain_48 ⟨congrArg some (by rw [hv]; simp only [lvX5_drain_18, if_neg c_22]), congrArg (wM a cI cZ) (by rw [hs]; simp only [lsX5_drain_18, if_neg c_22])⟩
      · refine G.aload_n (pc2 := 26) (x := a 0) dX5_drain_25 rfl rfl rfl ?_
        refine G.getf (pc2 := 29) (q0 := 0) (ci := 5) (k := 9) (v := .int w.1.2.2) iX5_drain_X5 kX5_drain_74 rfl rfl (by decide) rfl dX5_drain_26 rfl ?_
        refine G.iload_n (pc2 := 30) (x := l2) dX5_drain_29 rfl rfl rfl ?_
        refine G.isub (pc2 := 31) (v := w.1.2.2 - l2) dX5_drain_30 rfl rfl ?_
        refine G.iload_n (pc2 := 32) (x := p0) dX5_drain_31 rfl rfl rfl ?_
        refine G.icmp_ge (pc2 := 35) (tgt := 42) dX5_drain_32 rfl rfl (fun c_32 => ?_) (fun c_32 => ?_)
        · refine G.aload_n (pc2 := 43) (x := a 0) dX5_drain_42 rfl rfl rfl ?_
          refine G.getf (pc2 := 46) (q0 := 0) (ci := 5) (k := 9) (v := .int w.1.2.2) iX5_drain_X5 kX5_drain_74 rfl rfl (by decide) rfl dX5_drain_43 rfl ?_
          refine G.iload_n (pc2 := 47) (x := l2) dX5_drain_46 rfl rfl rfl ?_
          refine G.isub (pc2 := 48) (v := w.1.2.2 - l2) dX5_drain_47 rfl rfl ?_
          exact G.ireturn hR (rfl) dX5_drain_48 ⟨congrArg some (by rw [hv]; simp only [lvX5_drain_18, if_pos c_22, if_neg c_32]), congrArg (wM a cI cZ) (by rw [hs]; simp only [lsX5_drain_18, if_pos c_22, if_neg c_32])⟩
        · refine G.aload_n (pc2 := 36) (x := a 0) dX5_drain_35 rfl rfl rfl ?_
          refine G.callVd (pc2 := 39) (i := 0) (j := 10) (q0 := 0) (ci := 5) (As := []) (rest := []) (ws2 := wM a cI cZ (sX5_writeOldest w)) (st2 := []) (c_X5_writeOldest (cI := cI) (cZ := cZ) a w (WI.qw hi) (WI.pe hi c_22)) gX5_drain_X5_writeOldest rfl rfl rfl ndX5_writeOldest ⟨Nat.le_of_ble_eq_true rfl, Nat.le_of_ble_eq_true rfl⟩ ⟨Nat.le_of_ble_eq_true rfl, Nat.le_of_ble_eq_true rfl⟩ rfl rfl (Nat.le_of_ble_eq_true rfl) rfl rfl rfl rfl rfl rfl dX5_drain_36 rfl ?_
          generalize et_36 : sX5_writeOldest w = t_36
          refine G.goto (tgt := 18) dX5_drain_39 rfl ?_
          subst et_36
          exact ih  (sX5_writeOldest w) l2 (WI.next hi c_22) (by rw [hv]; simp only [lvX5_drain_18, if_pos c_22, if_pos c_32]) (by rw [hs]; simp only [lsX5_drain_18, if_pos c_22, if_pos c_32])
  refine G.iload_n (pc2 := 1) (x := p0) dX5_drain_0 rfl rfl rfl ?_
  refine G.iconst (pc2 := 2) (v := 0) dX5_drain_1 (by decide) rfl ?_
  refine G.bipush (pc2 := 4) (v := 8) dX5_drain_2 (by decide) rfl ?_
  refine G.callSd (pc2 := 7) (i := 0) (j := 0) (As := [.int p0, .int 0, .int 8]) (rest := []) (ws2 := wM a cI cZ u) (st2 := [.int (vX5_isFrom p0 0 8)]) (c_X5_isFrom (cI := cI) (cZ := cZ) p0 0 8) gX5_drain_X5_isFrom rfl rfl rfl ndX5_isFrom.2 ⟨Nat.le_of_ble_eq_true rfl, Nat.le_of_ble_eq_true rfl⟩ ⟨Nat.le_of_ble_eq_true rfl, Nat.le_of_ble_eq_true rfl⟩ rfl rfl (Nat.le_of_ble_eq_true rfl) rfl rfl rfl dX5_drain_4 rfl ?_
  generalize ev_4 : vX5_isFrom p0 0 8 = v_4
  refine G.if_ne (pc2 := 10) (tgt := 13) dX5_drain_7 rfl rfl (fun c_7 => ?_) (fun c_7 => ?_)
  · refine G.aload_n (pc2 := 14) (x := a 0) dX5_drain_13 rfl rfl rfl ?_
    refine G.getf (pc2 := 17) (q0 := 0) (ci := 5) (k := 9) (v := .int u.1.2.2) iX5_drain_X5 kX5_drain_74 rfl rfl (by decide) rfl dX5_drain_14 rfl ?_
    refine G.istore_n (pc2 := 18) (lv2 := [(0, .ref (a 0)), (1, .int p0), (2, .int u.1.2.2)]) [1, 2, 0] dX5_drain_17 rfl (by decide) rfl rfl ?_
    subst ev_4
    exact loop18 9 u u.1.2.2 (WI.start hq) (by simp only [vX5_drain, if_neg c_7]) (by simp only [sX5_drain, if_neg c_7])
  · refine G.bipush (pc2 := 12) (v := (-8)) dX5_drain_10 (by decide) rfl ?_
    subst ev_4
    exact G.ireturn hR (rfl) dX5_drain_12 ⟨congrArg some (by simp only [vX5_drain, if_pos c_7]), congrArg (wM a cI cZ) (by simp only [sX5_drain, if_pos c_7])⟩
set_option maxRecDepth 100000 in
set_option maxHeartbeats 4000000 in
theorem c_X5_discard {cI cZ : ClassId} (a : Nat → Nat) (u : SM) (p0 : Int32) (hq : QW u.2.2.1) : Ct yX5_discard wsX5_discard rX5_discard cI cZ [.ref (a 0), .int p0] (wM a cI cZ u) 0 0 (rt (some (vX5_discard u p0)) (wM a cI cZ (sX5_discard u p0))) := by
  refine Ct.of (cc := cX5_discard) (nL := 4) (own := RX5) (by decide) rfl rfl (Nat.le_of_ble_eq_true rfl) rfl ?_
  intro K hR hN
  refine G.iload_n (pc2 := 1) (x := p0) dX5_discard_0 rfl rfl rfl ?_
  refine G.callSd (pc2 := 4) (i := 0) (j := 0) (As := [.int p0]) (rest := []) (ws2 := wM a cI cZ u) (st2 := [.int (vX5_isPage p0)]) (c_X5_isPage (cI := cI) (cZ := cZ) p0) gX5_discard_X5_isPage rfl rfl rfl ndX5_isPage.2 ⟨Nat.le_of_ble_eq_true rfl, Nat.le_of_ble_eq_true rfl⟩ ⟨Nat.le_of_ble_eq_true rfl, Nat.le_of_ble_eq_true rfl⟩ rfl rfl (Nat.le_of_ble_eq_true rfl) rfl rfl rfl dX5_discard_1 rfl ?_
  generalize ev_1 : vX5_isPage p0 = v_1
  refine G.if_ne (pc2 := 7) (tgt := 9) dX5_discard_4 rfl rfl (fun c_4 => ?_) (fun c_4 => ?_)
  · refine G.aload_n (pc2 := 10) (x := a 0) dX5_discard_9 rfl rfl rfl ?_
    refine G.getf (pc2 := 13) (q0 := 0) (ci := 5) (k := 14) (v := .ref (a 4)) iX5_discard_X5 kX5_discard_19 rfl rfl (by decide) rfl dX5_discard_10 rfl ?_
    refine G.iload_n (pc2 := 14) (x := p0) dX5_discard_13 rfl rfl rfl ?_
    refine G.zald (pc2 := 15) (q0 := 4) (j := ix p0) (v := u.2.1.1 (ix p0)) rfl (by subst ev_1; exact (pgM c_4)) rfl dX5_discard_14 rfl ?_
    refine G.if_eq (pc2 := 18) (tgt := 30) dX5_discard_15 rfl rfl (fun c_15 => ?_) (fun c_15 => ?_)
    · refine G.aload_n (pc2 := 31) (x := a 0) dX5_discard_30 rfl rfl rfl ?_
      refine G.iload_n (pc2 := 32) (x := p0) dX5_discard_31 rfl rfl rfl ?_
      refine G.callVd (pc2 := 35) (i := 0) (j := 10) (q0 := 0) (ci := 5) (As := [.int p0]) (rest := []) (ws2 := wM a cI cZ u) (st2 := [.int (vX5_positionInQueue u p0)]) (c_X5_positionInQueue (cI := cI) (cZ := cZ) a u p0 (hq)) gX5_discard_X5_positionInQueue rfl rfl rfl ndX5_positionInQueue ⟨Nat.le_of_ble_eq_true rfl, Nat.le_of_ble_eq_true rfl⟩ ⟨Nat.le_of_ble_eq_true rfl, Nat.le_of_ble_eq_true rfl⟩ rfl rfl (Nat.le_of_ble_eq_true rfl) rfl rfl rfl rfl rfl rfl dX5_discard_32 rfl ?_
      generalize ev_32 : vX5_positionInQueue u p0 = v_32
      refine G.istore_n (pc2 := 36) (lv2 := [(0, .ref (a 0)), (1, .int p0), (2, .int v_32)]) [1, 2, 0] dX5_discard_35 rfl (by decide) rfl rfl ?_
      refine G.aload_n (pc2 := 37) (x := a 0) dX5_discard_36 rfl rfl rfl ?_
      refine G.getf (pc2 := 40) (q0 := 0) (ci := 5) (k := 14) (v := .ref (a 4)) iX5_discard_X5 kX5_discard_19 rfl rfl (by decide) rfl dX5_discard_37 rfl ?_
      refine G.iload_n (pc2 := 41) (x := p0) dX5_discard_40 rfl rfl rfl ?_
      refine G.zald (pc2 := 42) (q0 := 4) (j := ix p0) (v := u.2.1.1 (ix p0)) rfl (by subst ev_32 ev_1; exact (pgM c_4)) rfl dX5_discard_41 rfl ?_
      refine G.if_ne (pc2 := 45) (tgt := 51) dX5_discard_42 rfl rfl (fun c_42 => ?_) (fun c_42 => ?_)
      · exact absurd c_15 c_42
      · refine G.iload_n (pc2 := 46) (x := v_32) dX5_discard_45 rfl rfl rfl ?_
        refine G.bipush (pc2 := 48) (v := (-9)) dX5_discard_46 (by decide) rfl ?_
        refine G.icmp_eq (pc2 := 51) (tgt := 55) dX5_discard_48 rfl rfl (fun c_48 => ?_) (fun c_48 => ?_)
        · refine G.iconst (pc2 := 56) (v := 0) dX5_discard_55 (by decide) rfl ?_
          refine G.istore_n (pc2 := 57) (lv2 := [(0, .ref (a 0)), (1, .int p0), (2, .int v_32), (3, .int 0)]) [1, 2, 3, 0] dX5_discard_56 rfl (by decide) rfl rfl ?_
          refine G.aload_n (pc2 := 58) (x := a 0) dX5_discard_57 rfl rfl rfl ?_
          refine G.getf (pc2 := 61) (q0 := 0) (ci := 5) (k := 14) (v := .ref (a 4)) iX5_discard_X5 kX5_discard_19 rfl rfl (by decide) rfl dX5_discard_58 rfl ?_
          refine G.iload_n (pc2 := 62) (x := p0) dX5_discard_61 rfl rfl rfl ?_
          refine G.iconst (pc2 := 63) (v := 0) dX5_discard_62 (by decide) rfl ?_
          refine G.zast (y := 0) (pc2 := 64) (q0 := 4) (j := ix p0) (ws2 := wM a cI cZ (u.1, (upd u.2.1.1 (ix p0) 0, u.2.1.2.1, u.2.1.2.2.1, u.2.1.2.2.2.1, u.2.1.2.2.2.2), u.2.2.1, u.2.2.2.1, u.2.2.2.2)) rfl (by subst ev_32 ev_1; exact (pgM c_4)) rfl rfl dX5_discard_63 rfl ?_
          refine G.aload_n (pc2 := 65) (x := a 0) dX5_discard_64 rfl rfl rfl ?_
          refine G.getf (pc2 := 68) (q0 := 0) (ci := 5) (k := 17) (v := .ref (a 7)) iX5_discard_X5 kX5_discard_29 rfl rfl (by decide) rfl dX5_discard_65 rfl ?_
          refine G.iload_n (pc2 := 69) (x := p0) dX5_discard_68 rfl rfl rfl ?_
          refine G.iconst (pc2 := 70) (v := 0) dX5_discard_69 (by decide) rfl ?_
          refine G.iast (pc2 := 71) (q0 := 7) (j := ix p0) (ws2 := wM a cI cZ (u.1, (upd u.2.1.1 (ix p0) 0, u.2.1.2.1, u.2.1.2.2.1, u.2.1.2.2.2.1, u.2.1.2.2.2.2), u.2.2.1, (u.2.2.2.1.1, upd u.2.2.2.1.2.1 (ix p0) 0, u.2.2.2.1.2.2), u.2.2.2.2)) rfl (by subst ev_32 ev_1; exact (pgM c_4)) rfl dX5_discard_70 rfl ?_
          refine G.iload_n (pc2 := 72) (x := v_32) dX5_discard_71 rfl rfl rfl ?_
          refine G.bipush (pc2 := 74) (v := (-9)) dX5_discard_72 (by decide) rfl ?_
          refine G.icmp_eq (pc2 := 77) (tgt := 82) dX5_discard_74 rfl rfl (fun c_74 => ?_) (fun c_74 => ?_)
          · refine G.iload_n (pc2 := 83) (x := 0) dX5_discard_82 rfl rfl rfl ?_
            refine G.if_eq (pc2 := 86) (tgt := 90) dX5_discard_83 rfl rfl (fun c_83 => ?_) (fun c_83 => ?_)
            · refine G.iconst (pc2 := 91) (v := 0) dX5_discard_90 (by decide) rfl ?_
              subst ev_32 ev_1
              exact G.ireturn hR (rfl) dX5_discard_91 ⟨congrArg some (by simp only [vX5_discard, if_neg c_4, if_pos c_15, if_pos c_48]), congrArg (wM a cI cZ) (by simp only [sX5_discard, if_neg c_4, if_pos c_15, if_pos c_48])⟩
            · exact absurd c_83 (by decide)
          · exact absurd c_48 c_74
        · refine G.iconst (pc2 := 52) (v := 1) dX5_discard_51 (by decide) rfl ?_
          refine G.goto (tgt := 56) dX5_discard_52 rfl ?_
          refine G.istore_n (pc2 := 57) (lv2 := [(0, .ref (a 0)), (1, .int p0), (2, .int v_32), (3, .int 1)]) [1, 2, 3, 0] dX5_discard_56 rfl (by decide) rfl rfl ?_
          refine G.aload_n (pc2 := 58) (x := a 0) dX5_discard_57 rfl rfl rfl ?_
          refine G.getf (pc2 := 61) (q0 := 0) (ci := 5) (k := 14) (v := .ref (a 4)) iX5_discard_X5 kX5_discard_19 rfl rfl (by decide) rfl dX5_discard_58 rfl ?_
          refine G.iload_n (pc2 := 62) (x := p0) dX5_discard_61 rfl rfl rfl ?_
          refine G.iconst (pc2 := 63) (v := 0) dX5_discard_62 (by decide) rfl ?_
          refine G.zast (y := 0) (pc2 := 64) (q0 := 4) (j := ix p0) (ws2 := wM a cI cZ (u.1, (upd u.2.1.1 (ix p0) 0, u.2.1.2.1, u.2.1.2.2.1, u.2.1.2.2.2.1, u.2.1.2.2.2.2), u.2.2.1, u.2.2.2.1, u.2.2.2.2)) rfl (by subst ev_32 ev_1; exact (pgM c_4)) rfl rfl dX5_discard_63 rfl ?_
          refine G.aload_n (pc2 := 65) (x := a 0) dX5_discard_64 rfl rfl rfl ?_
          refine G.getf (pc2 := 68) (q0 := 0) (ci := 5) (k := 17) (v := .ref (a 7)) iX5_discard_X5 kX5_discard_29 rfl rfl (by decide) rfl dX5_discard_65 rfl ?_
          refine G.iload_n (pc2 := 69) (x := p0) dX5_discard_68 rfl rfl rfl ?_
          refine G.iconst (pc2 := 70) (v := 0) dX5_discard_69 (by decide) rfl ?_
          refine G.iast (pc2 := 71) (q0 := 7) (j := ix p0) (ws2 := wM a cI cZ (u.1, (upd u.2.1.1 (ix p0) 0, u.2.1.2.1, u.2.1.2.2.1, u.2.1.2.2.2.1, u.2.1.2.2.2.2), u.2.2.1, (u.2.2.2.1.1, upd u.2.2.2.1.2.1 (ix p0) 0, u.2.2.2.1.2.2), u.2.2.2.2)) rfl (by subst ev_32 ev_1; exact (pgM c_4)) rfl dX5_discard_70 rfl ?_
          refine G.iload_n (pc2 := 72) (x := v_32) dX5_discard_71 rfl rfl rfl ?_
          refine G.bipush (pc2 := 74) (v := (-9)) dX5_discard_72 (by decide) rfl ?_
          refine G.icmp_eq (pc2 := 77) (tgt := 82) dX5_discard_74 rfl rfl (fun c_74 => ?_) (fun c_74 => ?_)
          · exact absurd c_74 c_48
          · refine G.aload_n (pc2 := 78) (x := a 0) dX5_discard_77 rfl rfl rfl ?_
            refine G.iload_n (pc2 := 79) (x := v_32) dX5_discard_78 rfl rfl rfl ?_
            refine G.callVd (pc2 := 82) (i := 0) (j := 10) (q0 := 0) (ci := 5) (As := [.int v_32]) (rest := []) (ws2 := wM a cI cZ (sX5_removeEntry (u.1, (upd u.2.1.1 (ix p0) 0, u.2.1.2.1, u.2.1.2.2.1, u.2.1.2.2.2.1, u.2.1.2.2.2.2), u.2.2.1, (u.2.2.2.1.1, upd u.2.2.2.1.2.1 (ix p0) 0, u.2.2.2.1.2.2), u.2.2.2.2) v_32)) (st2 := []) (c_X5_removeEntry (cI := cI) (cZ := cZ) a (u.1, (upd u.2.1.1 (ix p0) 0, u.2.1.2.1, u.2.1.2.2.1, u.2.1.2.2.2.1, u.2.1.2.2.2.2), u.2.2.1, (u.2.2.2.1.1, upd u.2.2.2.1.2.1 (ix p0) 0, u.2.2.2.1.2.2), u.2.2.2.2) v_32 (hq) (by subst ev_32 ev_1; exact (posPE hq (by first | exact c_48 | exact c_74)))) gX5_discard_X5_removeEntry rfl rfl rfl ndX5_removeEntry ⟨Nat.le_of_ble_eq_true rfl, Nat.le_of_ble_eq_true rfl⟩ ⟨Nat.le_of_ble_eq_true rfl, Nat.le_of_ble_eq_true rfl⟩ rfl rfl (Nat.le_of_ble_eq_true rfl) rfl rfl rfl rfl rfl rfl dX5_discard_79 rfl ?_
            generalize et_79 : sX5_removeEntry (u.1, (upd u.2.1.1 (ix p0) 0, u.2.1.2.1, u.2.1.2.2.1, u.2.1.2.2.2.1, u.2.1.2.2.2.2), u.2.2.1, (u.2.2.2.1.1, upd u.2.2.2.1.2.1 (ix p0) 0, u.2.2.2.1.2.2), u.2.2.2.2) v_32 = t_79
            refine G.iload_n (pc2 := 83) (x := 1) dX5_discard_82 rfl rfl rfl ?_
            refine G.if_eq (pc2 := 86) (tgt := 90) dX5_discard_83 rfl rfl (fun c_83 => ?_) (fun c_83 => ?_)
            · exact absurd c_83 (by decide)
            · refine G.iconst (pc2 := 87) (v := 1) dX5_discard_86 (by decide) rfl ?_
              refine G.goto (tgt := 91) dX5_discard_87 rfl ?_
              subst et_79 ev_32 ev_1
              exact G.ireturn hR (rfl) dX5_discard_91 ⟨congrArg some (by simp only [vX5_discard, if_neg c_4, if_pos c_15, if_neg c_48]), congrArg (wM a cI cZ) (by simp only [sX5_discard, if_neg c_4, if_pos c_15, if_neg c_48])⟩
    · refine G.aload_n (pc2 := 19) (x := a 0) dX5_discard_18 rfl rfl rfl ?_
      refine G.getf (pc2 := 22) (q0 := 0) (ci := 5) (k := 13) (v := .ref (a 3)) iX5_discard_X5 kX5_discard_16 rfl rfl (by decide) rfl dX5_discard_19 rfl ?_
      refine G.iload_n (pc2 := 23) (x := p0) dX5_discard_22 rfl rfl rfl ?_
      refine G.iald (pc2 := 24) (q0 := 3) (j := ix p0) (v := u.2.1.2.2.2.1 (ix p0)) rfl (by subst ev_1; exact (pgM c_4)) rfl dX5_discard_23 rfl ?_
      refine G.if_le (pc2 := 27) (tgt := 30) dX5_discard_24 rfl rfl (fun c_24 => ?_) (fun c_24 => ?_)
      · refine G.aload_n (pc2 := 31) (x := a 0) dX5_discard_30 rfl rfl rfl ?_
        refine G.iload_n (pc2 := 32) (x := p0) dX5_discard_31 rfl rfl rfl ?_
        refine G.callVd (pc2 := 35) (i := 0) (j := 10) (q0 := 0) (ci := 5) (As := [.int p0]) (rest := []) (ws2 := wM a cI cZ u) (st2 := [.int (vX5_positionInQueue u p0)]) (c_X5_positionInQueue (cI := cI) (cZ := cZ) a u p0 (hq)) gX5_discard_X5_positionInQueue rfl rfl rfl ndX5_positionInQueue ⟨Nat.le_of_ble_eq_true rfl, Nat.le_of_ble_eq_true rfl⟩ ⟨Nat.le_of_ble_eq_true rfl, Nat.le_of_ble_eq_true rfl⟩ rfl rfl (Nat.le_of_ble_eq_true rfl) rfl rfl rfl rfl rfl rfl dX5_discard_32 rfl ?_
        generalize ev_32 : vX5_positionInQueue u p0 = v_32
        refine G.istore_n (pc2 := 36) (lv2 := [(0, .ref (a 0)), (1, .int p0), (2, .int v_32)]) [1, 2, 0] dX5_discard_35 rfl (by decide) rfl rfl ?_
        refine G.aload_n (pc2 := 37) (x := a 0) dX5_discard_36 rfl rfl rfl ?_
        refine G.getf (pc2 := 40) (q0 := 0) (ci := 5) (k := 14) (v := .ref (a 4)) iX5_discard_X5 kX5_discard_19 rfl rfl (by decide) rfl dX5_discard_37 rfl ?_
        refine G.iload_n (pc2 := 41) (x := p0) dX5_discard_40 rfl rfl rfl ?_
        refine G.zald (pc2 := 42) (q0 := 4) (j := ix p0) (v := u.2.1.1 (ix p0)) rfl (by subst ev_32 ev_1; exact (pgM c_4)) rfl dX5_discard_41 rfl ?_
        refine G.if_ne (pc2 := 45) (tgt := 51) dX5_discard_42 rfl rfl (fun c_42 => ?_) (fun c_42 => ?_)
        · refine G.iconst (pc2 := 52) (v := 1) dX5_discard_51 (by decide) rfl ?_
          refine G.goto (tgt := 56) dX5_discard_52 rfl ?_
          refine G.istore_n (pc2 := 57) (lv2 := [(0, .ref (a 0)), (1, .int p0), (2, .int v_32), (3, .int 1)]) [1, 2, 3, 0] dX5_discard_56 rfl (by decide) rfl rfl ?_
          refine G.aload_n (pc2 := 58) (x := a 0) dX5_discard_57 rfl rfl rfl ?_
          refine G.getf (pc2 := 61) (q0 := 0) (ci := 5) (k := 14) (v := .ref (a 4)) iX5_discard_X5 kX5_discard_19 rfl rfl (by decide) rfl dX5_discard_58 rfl ?_
          refine G.iload_n (pc2 := 62) (x := p0) dX5_discard_61 rfl rfl rfl ?_
          refine G.iconst (pc2 := 63) (v := 0) dX5_discard_62 (by decide) rfl ?_
          refine G.zast (y := 0) (pc2 := 64) (q0 := 4) (j := ix p0) (ws2 := wM a cI cZ (u.1, (upd u.2.1.1 (ix p0) 0, u.2.1.2.1, u.2.1.2.2.1, u.2.1.2.2.2.1, u.2.1.2.2.2.2), u.2.2.1, u.2.2.2.1, u.2.2.2.2)) rfl (by subst ev_32 ev_1; exact (pgM c_4)) rfl rfl dX5_discard_63 rfl ?_
          refine G.aload_n (pc2 := 65) (x := a 0) dX5_discard_64 rfl rfl rfl ?_
          refine G.getf (pc2 := 68) (q0 := 0) (ci := 5) (k := 17) (v := .ref (a 7)) iX5_discard_X5 kX5_discard_29 rfl rfl (by decide) rfl dX5_discard_65 rfl ?_
          refine G.iload_n (pc2 := 69) (x := p0) dX5_discard_68 rfl rfl rfl ?_
          refine G.iconst (pc2 := 70) (v := 0) dX5_discard_69 (by decide) rfl ?_
          refine G.iast (pc2 := 71) (q0 := 7) (j := ix p0) (ws2 := wM a cI cZ (u.1, (upd u.2.1.1 (ix p0) 0, u.2.1.2.1, u.2.1.2.2.1, u.2.1.2.2.2.1, u.2.1.2.2.2.2), u.2.2.1, (u.2.2.2.1.1, upd u.2.2.2.1.2.1 (ix p0) 0, u.2.2.2.1.2.2), u.2.2.2.2)) rfl (by subst ev_32 ev_1; exact (pgM c_4)) rfl dX5_discard_70 rfl ?_
          refine G.iload_n (pc2 := 72) (x := v_32) dX5_discard_71 rfl rfl rfl ?_
          refine G.bipush (pc2 := 74) (v := (-9)) dX5_discard_72 (by decide) rfl ?_
          refine G.icmp_eq (pc2 := 77) (tgt := 82) dX5_discard_74 rfl rfl (fun c_74 => ?_) (fun c_74 => ?_)
          · refine G.iload_n (pc2 := 83) (x := 1) dX5_discard_82 rfl rfl rfl ?_
            refine G.if_eq (pc2 := 86) (tgt := 90) dX5_discard_83 rfl rfl (fun c_83 => ?_) (fun c_83 => ?_)
            · exact absurd c_83 (by decide)
            · refine G.iconst (pc2 := 87) (v := 1) dX5_discard_86 (by decide) rfl ?_
              refine G.goto (tgt := 91) dX5_discard_87 rfl ?_
              subst ev_32 ev_1
              exact G.ireturn hR (rfl) dX5_discard_91 ⟨congrArg some (by simp only [vX5_discard, if_neg c_4, if_neg c_15, if_neg c_24, if_pos c_74]), congrArg (wM a cI cZ) (by simp only [sX5_discard, if_neg c_4, if_neg c_15, if_neg c_24, if_pos c_74])⟩
          · refine G.aload_n (pc2 := 78) (x := a 0) dX5_discard_77 rfl rfl rfl ?_
            refine G.iload_n (pc2 := 79) (x := v_32) dX5_discard_78 rfl rfl rfl ?_
            refine G.callVd (pc2 := 82) (i := 0) (j := 10) (q0 := 0) (ci := 5) (As := [.int v_32]) (rest := []) (ws2 := wM a cI cZ (sX5_removeEntry (u.1, (upd u.2.1.1 (ix p0) 0, u.2.1.2.1, u.2.1.2.2.1, u.2.1.2.2.2.1, u.2.1.2.2.2.2), u.2.2.1, (u.2.2.2.1.1, upd u.2.2.2.1.2.1 (ix p0) 0, u.2.2.2.1.2.2), u.2.2.2.2) v_32)) (st2 := []) (c_X5_removeEntry (cI := cI) (cZ := cZ) a (u.1, (upd u.2.1.1 (ix p0) 0, u.2.1.2.1, u.2.1.2.2.1, u.2.1.2.2.2.1, u.2.1.2.2.2.2), u.2.2.1, (u.2.2.2.1.1, upd u.2.2.2.1.2.1 (ix p0) 0, u.2.2.2.1.2.2), u.2.2.2.2) v_32 (hq) (by subst ev_32 ev_1; exact (posPE hq (by first | exact c_48 | exact c_74)))) gX5_discard_X5_removeEntry rfl rfl rfl ndX5_removeEntry ⟨Nat.le_of_ble_eq_true rfl, Nat.le_of_ble_eq_true rfl⟩ ⟨Nat.le_of_ble_eq_true rfl, Nat.le_of_ble_eq_true rfl⟩ rfl rfl (Nat.le_of_ble_eq_true rfl) rfl rfl rfl rfl rfl rfl dX5_discard_79 rfl ?_
            generalize et_79 : sX5_removeEntry (u.1, (upd u.2.1.1 (ix p0) 0, u.2.1.2.1, u.2.1.2.2.1, u.2.1.2.2.2.1, u.2.1.2.2.2.2), u.2.2.1, (u.2.2.2.1.1, upd u.2.2.2.1.2.1 (ix p0) 0, u.2.2.2.1.2.2), u.2.2.2.2) v_32 = t_79
            refine G.iload_n (pc2 := 83) (x := 1) dX5_discard_82 rfl rfl rfl ?_
            refine G.if_eq (pc2 := 86) (tgt := 90) dX5_discard_83 rfl rfl (fun c_83 => ?_) (fun c_83 => ?_)
            · exact absurd c_83 (by decide)
            · refine G.iconst (pc2 := 87) (v := 1) dX5_discard_86 (by decide) rfl ?_
              refine G.goto (tgt := 91) dX5_discard_87 rfl ?_
              subst et_79 ev_32 ev_1
              exact G.ireturn hR (rfl) dX5_discard_91 ⟨congrArg some (by simp only [vX5_discard, if_neg c_4, if_neg c_15, if_neg c_24, if_neg c_74]), congrArg (wM a cI cZ) (by simp only [sX5_discard, if_neg c_4, if_neg c_15, if_neg c_24, if_neg c_74])⟩
        · exact absurd c_42 c_15
      · refine G.bipush (pc2 := 29) (v := (-7)) dX5_discard_27 (by decide) rfl ?_
        subst ev_1
        exact G.ireturn hR (rfl) dX5_discard_29 ⟨congrArg some (by simp only [vX5_discard, if_neg c_4, if_neg c_15, if_pos c_24]), congrArg (wM a cI cZ) (by simp only [sX5_discard, if_neg c_4, if_neg c_15, if_pos c_24])⟩
  · refine G.iconst (pc2 := 8) (v := (-1)) dX5_discard_7 (by decide) rfl ?_
    subst ev_1
    exact G.ireturn hR (rfl) dX5_discard_8 ⟨congrArg some (by simp only [vX5_discard, if_pos c_4]), congrArg (wM a cI cZ) (by simp only [sX5_discard, if_pos c_4])⟩
set_option maxRecDepth 100000 in
set_option maxHeartbeats 4000000 in
theorem c_X5_isResident {cI cZ : ClassId} (a : Nat → Nat) (u : SM) (p0 : Int32)  : Ct yX5_isResident wsX5_isResident rX5_isResident cI cZ [.ref (a 0), .int p0] (wM a cI cZ u) 0 0 (rt (some (vX5_isResident u p0)) (wM a cI cZ u)) := by
  refine Ct.of (cc := cX5_isResident) (nL := 2) (own := RX5) (by decide) rfl rfl (Nat.le_of_ble_eq_true rfl) rfl ?_
  intro K hR hN
  refine G.iload_n (pc2 := 1) (x := p0) dX5_isResident_0 rfl rfl rfl ?_
  refine G.callSd (pc2 := 4) (i := 0) (j := 0) (As := [.int p0]) (rest := []) (ws2 := wM a cI cZ u) (st2 := [.int (vX5_isPage p0)]) (c_X5_isPage (cI := cI) (cZ := cZ) p0) gX5_isResident_X5_isPage rfl rfl rfl ndX5_isPage.2 ⟨Nat.le_of_ble_eq_true rfl, Nat.le_of_ble_eq_true rfl⟩ ⟨Nat.le_of_ble_eq_true rfl, Nat.le_of_ble_eq_true rfl⟩ rfl rfl (Nat.le_of_ble_eq_true rfl) rfl rfl rfl dX5_isResident_1 rfl ?_
  generalize ev_1 : vX5_isPage p0 = v_1
  refine G.if_ne (pc2 := 7) (tgt := 9) dX5_isResident_4 rfl rfl (fun c_4 => ?_) (fun c_4 => ?_)
  · refine G.aload_n (pc2 := 10) (x := a 0) dX5_isResident_9 rfl rfl rfl ?_
    refine G.getf (pc2 := 13) (q0 := 0) (ci := 5) (k := 14) (v := .ref (a 4)) iX5_isResident_X5 kX5_isResident_19 rfl rfl (by decide) rfl dX5_isResident_10 rfl ?_
    refine G.iload_n (pc2 := 14) (x := p0) dX5_isResident_13 rfl rfl rfl ?_
    refine G.zald (pc2 := 15) (q0 := 4) (j := ix p0) (v := u.2.1.1 (ix p0)) rfl (by subst ev_1; exact (pgM c_4)) rfl dX5_isResident_14 rfl ?_
    refine G.if_eq (pc2 := 18) (tgt := 22) dX5_isResident_15 rfl rfl (fun c_15 => ?_) (fun c_15 => ?_)
    · refine G.iconst (pc2 := 23) (v := 0) dX5_isResident_22 (by decide) rfl ?_
      subst ev_1
      exact G.ireturn hR (rfl) dX5_isResident_23 ⟨congrArg some (by simp only [vX5_isResident, if_neg c_4, if_pos c_15]), rfl⟩
    · refine G.iconst (pc2 := 19) (v := 1) dX5_isResident_18 (by decide) rfl ?_
      refine G.goto (tgt := 23) dX5_isResident_19 rfl ?_
      subst ev_1
      exact G.ireturn hR (rfl) dX5_isResident_23 ⟨congrArg some (by simp only [vX5_isResident, if_neg c_4, if_neg c_15]), rfl⟩
  · refine G.iconst (pc2 := 8) (v := (-1)) dX5_isResident_7 (by decide) rfl ?_
    subst ev_1
    exact G.ireturn hR (rfl) dX5_isResident_8 ⟨congrArg some (by simp only [vX5_isResident, if_pos c_4]), rfl⟩
set_option maxRecDepth 100000 in
set_option maxHeartbeats 4000000 in
theorem c_X5_isDirty {cI cZ : ClassId} (a : Nat → Nat) (u : SM) (p0 : Int32)  : Ct yX5_isDirty wsX5_isDirty rX5_isDirty cI cZ [.ref (a 0), .int p0] (wM a cI cZ u) 0 0 (rt (some (vX5_isDirty u p0)) (wM a cI cZ u)) := by
  refine Ct.of (cc := cX5_isDirty) (nL := 2) (own := RX5) (by decide) rfl rfl (Nat.le_of_ble_eq_true rfl) rfl ?_
  intro K hR hN
  refine G.iload_n (pc2 := 1) (x := p0) dX5_isDirty_0 rfl rfl rfl ?_
  refine G.callSd (pc2 := 4) (i := 0) (j := 0) (As := [.int p0]) (rest := []) (ws2 := wM a cI cZ u) (st2 := [.int (vX5_isPage p0)]) (c_X5_isPage (cI := cI) (cZ := cZ) p0) gX5_isDirty_X5_isPage rfl rfl rfl ndX5_isPage.2 ⟨Nat.le_of_ble_eq_true rfl, Nat.le_of_ble_eq_true rfl⟩ ⟨Nat.le_of_ble_eq_true rfl, Nat.le_of_ble_eq_true rfl⟩ rfl rfl (Nat.le_of_ble_eq_true rfl) rfl rfl rfl dX5_isDirty_1 rfl ?_
  generalize ev_1 : vX5_isPage p0 = v_1
  refine G.if_ne (pc2 := 7) (tgt := 9) dX5_isDirty_4 rfl rfl (fun c_4 => ?_) (fun c_4 => ?_)
  · refine G.aload_n (pc2 := 10) (x := a 0) dX5_isDirty_9 rfl rfl rfl ?_
    refine G.getf (pc2 := 13) (q0 := 0) (ci := 5) (k := 14) (v := .ref (a 4)) iX5_isDirty_X5 kX5_isDirty_19 rfl rfl (by decide) rfl dX5_isDirty_10 rfl ?_
    refine G.iload_n (pc2 := 14) (x := p0) dX5_isDirty_13 rfl rfl rfl ?_
    refine G.zald (pc2 := 15) (q0 := 4) (j := ix p0) (v := u.2.1.1 (ix p0)) rfl (by subst ev_1; exact (pgM c_4)) rfl dX5_isDirty_14 rfl ?_
    refine G.if_ne (pc2 := 18) (tgt := 21) dX5_isDirty_15 rfl rfl (fun c_15 => ?_) (fun c_15 => ?_)
    · refine G.aload_n (pc2 := 22) (x := a 0) dX5_isDirty_21 rfl rfl rfl ?_
      refine G.getf (pc2 := 25) (q0 := 0) (ci := 5) (k := 15) (v := .ref (a 5)) iX5_isDirty_X5 kX5_isDirty_23 rfl rfl (by decide) rfl dX5_isDirty_22 rfl ?_
      refine G.iload_n (pc2 := 26) (x := p0) dX5_isDirty_25 rfl rfl rfl ?_
      refine G.zald (pc2 := 27) (q0 := 5) (j := ix p0) (v := u.2.1.2.1 (ix p0)) rfl (by subst ev_1; exact (pgM c_4)) rfl dX5_isDirty_26 rfl ?_
      refine G.if_eq (pc2 := 30) (tgt := 34) dX5_isDirty_27 rfl rfl (fun c_27 => ?_) (fun c_27 => ?_)
      · refine G.iconst (pc2 := 35) (v := 0) dX5_isDirty_34 (by decide) rfl ?_
        subst ev_1
        exact G.ireturn hR (rfl) dX5_isDirty_35 ⟨congrArg some (by simp only [vX5_isDirty, if_neg c_4, if_neg c_15, if_pos c_27]), rfl⟩
      · refine G.iconst (pc2 := 31) (v := 1) dX5_isDirty_30 (by decide) rfl ?_
        refine G.goto (tgt := 35) dX5_isDirty_31 rfl ?_
        subst ev_1
        exact G.ireturn hR (rfl) dX5_isDirty_35 ⟨congrArg some (by simp only [vX5_isDirty, if_neg c_4, if_neg c_15, if_neg c_27]), rfl⟩
    · refine G.bipush (pc2 := 20) (v := (-4)) dX5_isDirty_18 (by decide) rfl ?_
      subst ev_1
      exact G.ireturn hR (rfl) dX5_isDirty_20 ⟨congrArg some (by simp only [vX5_isDirty, if_neg c_4, if_pos c_15]), rfl⟩
  · refine G.iconst (pc2 := 8) (v := (-1)) dX5_isDirty_7 (by decide) rfl ?_
    subst ev_1
    exact G.ireturn hR (rfl) dX5_isDirty_8 ⟨congrArg some (by simp only [vX5_isDirty, if_pos c_4]), rfl⟩
set_option maxRecDepth 100000 in
set_option maxHeartbeats 4000000 in
theorem c_X5_pinCount {cI cZ : ClassId} (a : Nat → Nat) (u : SM) (p0 : Int32)  : Ct yX5_pinCount wsX5_pinCount rX5_pinCount cI cZ [.ref (a 0), .int p0] (wM a cI cZ u) 0 0 (rt (some (vX5_pinCount u p0)) (wM a cI cZ u)) := by
  refine Ct.of (cc := cX5_pinCount) (nL := 2) (own := RX5) (by decide) rfl rfl (Nat.le_of_ble_eq_true rfl) rfl ?_
  intro K hR hN
  refine G.iload_n (pc2 := 1) (x := p0) dX5_pinCount_0 rfl rfl rfl ?_
  refine G.callSd (pc2 := 4) (i := 0) (j := 0) (As := [.int p0]) (rest := []) (ws2 := wM a cI cZ u) (st2 := [.int (vX5_isPage p0)]) (c_X5_isPage (cI := cI) (cZ := cZ) p0) gX5_pinCount_X5_isPage rfl rfl rfl ndX5_isPage.2 ⟨Nat.le_of_ble_eq_true rfl, Nat.le_of_ble_eq_true rfl⟩ ⟨Nat.le_of_ble_eq_true rfl, Nat.le_of_ble_eq_true rfl⟩ rfl rfl (Nat.le_of_ble_eq_true rfl) rfl rfl rfl dX5_pinCount_1 rfl ?_
  generalize ev_1 : vX5_isPage p0 = v_1
  refine G.if_ne (pc2 := 7) (tgt := 9) dX5_pinCount_4 rfl rfl (fun c_4 => ?_) (fun c_4 => ?_)
  · refine G.aload_n (pc2 := 10) (x := a 0) dX5_pinCount_9 rfl rfl rfl ?_
    refine G.getf (pc2 := 13) (q0 := 0) (ci := 5) (k := 14) (v := .ref (a 4)) iX5_pinCount_X5 kX5_pinCount_19 rfl rfl (by decide) rfl dX5_pinCount_10 rfl ?_
    refine G.iload_n (pc2 := 14) (x := p0) dX5_pinCount_13 rfl rfl rfl ?_
    refine G.zald (pc2 := 15) (q0 := 4) (j := ix p0) (v := u.2.1.1 (ix p0)) rfl (by subst ev_1; exact (pgM c_4)) rfl dX5_pinCount_14 rfl ?_
    refine G.if_eq (pc2 := 18) (tgt := 27) dX5_pinCount_15 rfl rfl (fun c_15 => ?_) (fun c_15 => ?_)
    · refine G.bipush (pc2 := 29) (v := (-4)) dX5_pinCount_27 (by decide) rfl ?_
      subst ev_1
      exact G.ireturn hR (rfl) dX5_pinCount_29 ⟨congrArg some (by simp only [vX5_pinCount, if_neg c_4, if_pos c_15]), rfl⟩
    · refine G.aload_n (pc2 := 19) (x := a 0) dX5_pinCount_18 rfl rfl rfl ?_
      refine G.getf (pc2 := 22) (q0 := 0) (ci := 5) (k := 13) (v := .ref (a 3)) iX5_pinCount_X5 kX5_pinCount_16 rfl rfl (by decide) rfl dX5_pinCount_19 rfl ?_
      refine G.iload_n (pc2 := 23) (x := p0) dX5_pinCount_22 rfl rfl rfl ?_
      refine G.iald (pc2 := 24) (q0 := 3) (j := ix p0) (v := u.2.1.2.2.2.1 (ix p0)) rfl (by subst ev_1; exact (pgM c_4)) rfl dX5_pinCount_23 rfl ?_
      refine G.goto (tgt := 29) dX5_pinCount_24 rfl ?_
      subst ev_1
      exact G.ireturn hR (rfl) dX5_pinCount_29 ⟨congrArg some (by simp only [vX5_pinCount, if_neg c_4, if_neg c_15]), rfl⟩
  · refine G.iconst (pc2 := 8) (v := (-1)) dX5_pinCount_7 (by decide) rfl ?_
    subst ev_1
    exact G.ireturn hR (rfl) dX5_pinCount_8 ⟨congrArg some (by simp only [vX5_pinCount, if_pos c_4]), rfl⟩
set_option maxRecDepth 100000 in
set_option maxHeartbeats 4000000 in
theorem c_X5_referenceTime {cI cZ : ClassId} (a : Nat → Nat) (u : SM) (p0 p1 : Int32) (hh : HW u.2.2.2.1) : Ct yX5_referenceTime wsX5_referenceTime rX5_referenceTime cI cZ [.ref (a 0), .int p0, .int p1] (wM a cI cZ u) 0 0 (rt (some (vX5_referenceTime u p0 p1)) (wM a cI cZ u)) := by
  refine Ct.of (cc := cX5_referenceTime) (nL := 3) (own := RX5) (by decide) rfl rfl (Nat.le_of_ble_eq_true rfl) rfl ?_
  intro K hR hN
  refine G.iload_n (pc2 := 1) (x := p0) dX5_referenceTime_0 rfl rfl rfl ?_
  refine G.callSd (pc2 := 4) (i := 0) (j := 0) (As := [.int p0]) (rest := []) (ws2 := wM a cI cZ u) (st2 := [.int (vX5_isPage p0)]) (c_X5_isPage (cI := cI) (cZ := cZ) p0) gX5_referenceTime_X5_isPage rfl rfl rfl ndX5_isPage.2 ⟨Nat.le_of_ble_eq_true rfl, Nat.le_of_ble_eq_true rfl⟩ ⟨Nat.le_of_ble_eq_true rfl, Nat.le_of_ble_eq_true rfl⟩ rfl rfl (Nat.le_of_ble_eq_true rfl) rfl rfl rfl dX5_referenceTime_1 rfl ?_
  generalize ev_1 : vX5_isPage p0 = v_1
  refine G.if_ne (pc2 := 7) (tgt := 9) dX5_referenceTime_4 rfl rfl (fun c_4 => ?_) (fun c_4 => ?_)
  · refine G.iload_n (pc2 := 10) (x := p1) dX5_referenceTime_9 rfl rfl rfl ?_
    refine G.iconst (pc2 := 11) (v := 1) dX5_referenceTime_10 (by decide) rfl ?_
    refine G.aload_n (pc2 := 12) (x := a 0) dX5_referenceTime_11 rfl rfl rfl ?_
    refine G.getf (pc2 := 15) (q0 := 0) (ci := 5) (k := 1) (v := .int u.2.2.2.1.2.2) iX5_referenceTime_X5 kX5_referenceTime_50 rfl rfl (by decide) rfl dX5_referenceTime_12 rfl ?_
    refine G.callSd (pc2 := 18) (i := 0) (j := 0) (As := [.int p1, .int 1, .int u.2.2.2.1.2.2]) (rest := []) (ws2 := wM a cI cZ u) (st2 := [.int (vX5_isFrom p1 1 u.2.2.2.1.2.2)]) (c_X5_isFrom (cI := cI) (cZ := cZ) p1 1 u.2.2.2.1.2.2) gX5_referenceTime_X5_isFrom rfl rfl rfl ndX5_isFrom.2 ⟨Nat.le_of_ble_eq_true rfl, Nat.le_of_ble_eq_true rfl⟩ ⟨Nat.le_of_ble_eq_true rfl, Nat.le_of_ble_eq_true rfl⟩ rfl rfl (Nat.le_of_ble_eq_true rfl) rfl rfl rfl dX5_referenceTime_15 rfl ?_
    generalize ev_15 : vX5_isFrom p1 1 u.2.2.2.1.2.2 = v_15
    refine G.if_ne (pc2 := 21) (tgt := 24) dX5_referenceTime_18 rfl rfl (fun c_18 => ?_) (fun c_18 => ?_)
    · refine G.iload_n (pc2 := 25) (x := p1) dX5_referenceTime_24 rfl rfl rfl ?_
      refine G.aload_n (pc2 := 26) (x := a 0) dX5_referenceTime_25 rfl rfl rfl ?_
      refine G.getf (pc2 := 29) (q0 := 0) (ci := 5) (k := 17) (v := .ref (a 7)) iX5_referenceTime_X5 kX5_referenceTime_29 rfl rfl (by decide) rfl dX5_referenceTime_26 rfl ?_
      refine G.iload_n (pc2 := 30) (x := p0) dX5_referenceTime_29 rfl rfl rfl ?_
      refine G.iald (pc2 := 31) (q0 := 7) (j := ix p0) (v := u.2.2.2.1.2.1 (ix p0)) rfl (by subst ev_15 ev_1; exact (pgM c_4)) rfl dX5_referenceTime_30 rfl ?_
      refine G.icmp_gt (pc2 := 34) (tgt := 43) dX5_referenceTime_31 rfl rfl (fun c_31 => ?_) (fun c_31 => ?_)
      · refine G.bipush (pc2 := 45) (v := (-9)) dX5_referenceTime_43 (by decide) rfl ?_
        subst ev_15 ev_1
        exact G.ireturn hR (rfl) dX5_referenceTime_45 ⟨congrArg some (by simp only [vX5_referenceTime, if_neg c_4, if_neg c_18, if_pos c_31]), rfl⟩
      · refine G.aload_n (pc2 := 35) (x := a 0) dX5_referenceTime_34 rfl rfl rfl ?_
        refine G.iload_n (pc2 := 36) (x := p0) dX5_referenceTime_35 rfl rfl rfl ?_
        refine G.iload_n (pc2 := 37) (x := p1) dX5_referenceTime_36 rfl rfl rfl ?_
        refine G.callVd (pc2 := 40) (i := 0) (j := 10) (q0 := 0) (ci := 5) (As := [.int p0, .int p1]) (rest := []) (ws2 := wM a cI cZ u) (st2 := [.int (vX5_time u p0 p1)]) (c_X5_time (cI := cI) (cZ := cZ) a u p0 p1 (by subst ev_15 ev_1; exact (tiR (pgM c_4) hh c_18 c_31))) gX5_referenceTime_X5_time rfl rfl rfl ndX5_time ⟨Nat.le_of_ble_eq_true rfl, Nat.le_of_ble_eq_true rfl⟩ ⟨Nat.le_of_ble_eq_true rfl, Nat.le_of_ble_eq_true rfl⟩ rfl rfl (Nat.le_of_ble_eq_true rfl) rfl rfl rfl rfl rfl rfl dX5_referenceTime_37 rfl ?_
        generalize ev_37 : vX5_time u p0 p1 = v_37
        refine G.goto (tgt := 45) dX5_referenceTime_40 rfl ?_
        subst ev_37 ev_15 ev_1
        exact G.ireturn hR (rfl) dX5_referenceTime_45 ⟨congrArg some (by simp only [vX5_referenceTime, if_neg c_4, if_neg c_18, if_neg c_31]), rfl⟩
    · refine G.bipush (pc2 := 23) (v := (-8)) dX5_referenceTime_21 (by decide) rfl ?_
      subst ev_15 ev_1
      exact G.ireturn hR (rfl) dX5_referenceTime_23 ⟨congrArg some (by simp only [vX5_referenceTime, if_neg c_4, if_pos c_18]), rfl⟩
  · refine G.iconst (pc2 := 8) (v := (-1)) dX5_referenceTime_7 (by decide) rfl ?_
    subst ev_1
    exact G.ireturn hR (rfl) dX5_referenceTime_8 ⟨congrArg some (by simp only [vX5_referenceTime, if_pos c_4]), rfl⟩
set_option maxRecDepth 100000 in
set_option maxHeartbeats 4000000 in
theorem c_X5_backwardKDistance {cI cZ : ClassId} (a : Nat → Nat) (u : SM) (p0 : Int32) (hh : HW u.2.2.2.1) : Ct yX5_backwardKDistance wsX5_backwardKDistance rX5_backwardKDistance cI cZ [.ref (a 0), .int p0] (wM a cI cZ u) 0 0 (rt (some (vX5_backwardKDistance u p0)) (wM a cI cZ u)) := by
  refine Ct.of (cc := cX5_backwardKDistance) (nL := 2) (own := RX5) (by decide) rfl rfl (Nat.le_of_ble_eq_true rfl) rfl ?_
  intro K hR hN
  refine G.iload_n (pc2 := 1) (x := p0) dX5_backwardKDistance_0 rfl rfl rfl ?_
  refine G.callSd (pc2 := 4) (i := 0) (j := 0) (As := [.int p0]) (rest := []) (ws2 := wM a cI cZ u) (st2 := [.int (vX5_isPage p0)]) (c_X5_isPage (cI := cI) (cZ := cZ) p0) gX5_backwardKDistance_X5_isPage rfl rfl rfl ndX5_isPage.2 ⟨Nat.le_of_ble_eq_true rfl, Nat.le_of_ble_eq_true rfl⟩ ⟨Nat.le_of_ble_eq_true rfl, Nat.le_of_ble_eq_true rfl⟩ rfl rfl (Nat.le_of_ble_eq_true rfl) rfl rfl rfl dX5_backwardKDistance_1 rfl ?_
  generalize ev_1 : vX5_isPage p0 = v_1
  refine G.if_ne (pc2 := 7) (tgt := 9) dX5_backwardKDistance_4 rfl rfl (fun c_4 => ?_) (fun c_4 => ?_)
  · refine G.aload_n (pc2 := 10) (x := a 0) dX5_backwardKDistance_9 rfl rfl rfl ?_
    refine G.getf (pc2 := 13) (q0 := 0) (ci := 5) (k := 17) (v := .ref (a 7)) iX5_backwardKDistance_X5 kX5_backwardKDistance_29 rfl rfl (by decide) rfl dX5_backwardKDistance_10 rfl ?_
    refine G.iload_n (pc2 := 14) (x := p0) dX5_backwardKDistance_13 rfl rfl rfl ?_
    refine G.iald (pc2 := 15) (q0 := 7) (j := ix p0) (v := u.2.2.2.1.2.1 (ix p0)) rfl (by subst ev_1; exact (pgM c_4)) rfl dX5_backwardKDistance_14 rfl ?_
    refine G.aload_n (pc2 := 16) (x := a 0) dX5_backwardKDistance_15 rfl rfl rfl ?_
    refine G.getf (pc2 := 19) (q0 := 0) (ci := 5) (k := 1) (v := .int u.2.2.2.1.2.2) iX5_backwardKDistance_X5 kX5_backwardKDistance_50 rfl rfl (by decide) rfl dX5_backwardKDistance_16 rfl ?_
    refine G.icmp_ge (pc2 := 22) (tgt := 27) dX5_backwardKDistance_19 rfl rfl (fun c_19 => ?_) (fun c_19 => ?_)
    · refine G.aload_n (pc2 := 28) (x := a 0) dX5_backwardKDistance_27 rfl rfl rfl ?_
      refine G.getf (pc2 := 31) (q0 := 0) (ci := 5) (k := 4) (v := .int u.2.2.2.2.2.1) iX5_backwardKDistance_X5 kX5_backwardKDistance_59 rfl rfl (by decide) rfl dX5_backwardKDistance_28 rfl ?_
      refine G.aload_n (pc2 := 32) (x := a 0) dX5_backwardKDistance_31 rfl rfl rfl ?_
      refine G.iload_n (pc2 := 33) (x := p0) dX5_backwardKDistance_32 rfl rfl rfl ?_
      refine G.aload_n (pc2 := 34) (x := a 0) dX5_backwardKDistance_33 rfl rfl rfl ?_
      refine G.getf (pc2 := 37) (q0 := 0) (ci := 5) (k := 1) (v := .int u.2.2.2.1.2.2) iX5_backwardKDistance_X5 kX5_backwardKDistance_50 rfl rfl (by decide) rfl dX5_backwardKDistance_34 rfl ?_
      refine G.callVd (pc2 := 40) (i := 0) (j := 10) (q0 := 0) (ci := 5) (As := [.int p0, .int u.2.2.2.1.2.2]) (rest := [.int u.2.2.2.2.2.1]) (ws2 := wM a cI cZ u) (st2 := [.int (vX5_time u p0 u.2.2.2.1.2.2), .int u.2.2.2.2.2.1]) (c_X5_time (cI := cI) (cZ := cZ) a u p0 u.2.2.2.1.2.2 (by subst ev_1; exact (tik (pgM c_4) hh))) gX5_backwardKDistance_X5_time rfl rfl rfl ndX5_time ⟨Nat.le_of_ble_eq_true rfl, Nat.le_of_ble_eq_true rfl⟩ ⟨Nat.le_of_ble_eq_true rfl, Nat.le_of_ble_eq_true rfl⟩ rfl rfl (Nat.le_of_ble_eq_true rfl) rfl rfl rfl rfl rfl rfl dX5_backwardKDistance_37 rfl ?_
      generalize ev_37 : vX5_time u p0 u.2.2.2.1.2.2 = v_37
      refine G.isub (pc2 := 41) (v := u.2.2.2.2.2.1 - v_37) dX5_backwardKDistance_40 rfl rfl ?_
      subst ev_37 ev_1
      exact G.ireturn hR (rfl) dX5_backwardKDistance_41 ⟨congrArg some (by simp only [vX5_backwardKDistance, if_neg c_4, if_neg c_19]), rfl⟩
    · refine G.bipush (pc2 := 24) (v := (-9)) dX5_backwardKDistance_22 (by decide) rfl ?_
      refine G.goto (tgt := 41) dX5_backwardKDistance_24 rfl ?_
      subst ev_1
      exact G.ireturn hR (rfl) dX5_backwardKDistance_41 ⟨congrArg some (by simp only [vX5_backwardKDistance, if_neg c_4, if_pos c_19]), rfl⟩
  · refine G.iconst (pc2 := 8) (v := (-1)) dX5_backwardKDistance_7 (by decide) rfl ?_
    subst ev_1
    exact G.ireturn hR (rfl) dX5_backwardKDistance_8 ⟨congrArg some (by simp only [vX5_backwardKDistance, if_pos c_4]), rfl⟩
set_option maxRecDepth 100000 in
set_option maxHeartbeats 4000000 in
theorem c_X5_diskValue {cI cZ : ClassId} (a : Nat → Nat) (u : SM) (p0 : Int32)  : Ct yX5_diskValue wsX5_diskValue rX5_diskValue cI cZ [.ref (a 0), .int p0] (wM a cI cZ u) 0 0 (rt (some (vX5_diskValue u p0)) (wM a cI cZ u)) := by
  refine Ct.of (cc := cX5_diskValue) (nL := 2) (own := RX5) (by decide) rfl rfl (Nat.le_of_ble_eq_true rfl) rfl ?_
  intro K hR hN
  refine G.iload_n (pc2 := 1) (x := p0) dX5_diskValue_0 rfl rfl rfl ?_
  refine G.callSd (pc2 := 4) (i := 0) (j := 0) (As := [.int p0]) (rest := []) (ws2 := wM a cI cZ u) (st2 := [.int (vX5_isPage p0)]) (c_X5_isPage (cI := cI) (cZ := cZ) p0) gX5_diskValue_X5_isPage rfl rfl rfl ndX5_isPage.2 ⟨Nat.le_of_ble_eq_true rfl, Nat.le_of_ble_eq_true rfl⟩ ⟨Nat.le_of_ble_eq_true rfl, Nat.le_of_ble_eq_true rfl⟩ rfl rfl (Nat.le_of_ble_eq_true rfl) rfl rfl rfl dX5_diskValue_1 rfl ?_
  generalize ev_1 : vX5_isPage p0 = v_1
  refine G.if_eq (pc2 := 7) (tgt := 16) dX5_diskValue_4 rfl rfl (fun c_4 => ?_) (fun c_4 => ?_)
  · refine G.iconst (pc2 := 17) (v := (-1)) dX5_diskValue_16 (by decide) rfl ?_
    subst ev_1
    exact G.ireturn hR (rfl) dX5_diskValue_17 ⟨congrArg some (by simp only [vX5_diskValue, if_pos c_4]), rfl⟩
  · refine G.aload_n (pc2 := 8) (x := a 0) dX5_diskValue_7 rfl rfl rfl ?_
    refine G.getf (pc2 := 11) (q0 := 0) (ci := 5) (k := 11) (v := .ref (a 1)) iX5_diskValue_X5 kX5_diskValue_7 rfl rfl (by decide) rfl dX5_diskValue_8 rfl ?_
    refine G.iload_n (pc2 := 12) (x := p0) dX5_diskValue_11 rfl rfl rfl ?_
    refine G.iald (pc2 := 13) (q0 := 1) (j := ix p0) (v := u.1.1 (ix p0)) rfl (by subst ev_1; exact (pgM c_4)) rfl dX5_diskValue_12 rfl ?_
    refine G.goto (tgt := 17) dX5_diskValue_13 rfl ?_
    subst ev_1
    exact G.ireturn hR (rfl) dX5_diskValue_17 ⟨congrArg some (by simp only [vX5_diskValue, if_neg c_4]), rfl⟩
