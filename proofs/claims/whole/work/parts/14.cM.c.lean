set_option maxRecDepth 100000 in
set_option maxHeartbeats 4000000 in
theorem c_X5_reference {cI cZ : ClassId} (a : Nat → Nat) (u : SM) (p0 : Int32) (h0 : Pg p0) (hq : QW u.2.2.1) (hh : HW u.2.2.2.1) (hl : (sX5_record u p0).2.1.1 (ix p0) = 0 → NV (sX5_record u p0)) : Ct yX5_reference wsX5_reference rX5_reference cI cZ [.ref (a 0), .int p0] (wM a cI cZ u) 0 0 (rt (none) (wM a cI cZ (sX5_reference u p0))) := by
  refine Ct.of (cc := cX5_reference) (nL := 2) (own := RX5) (by decide) rfl rfl (Nat.le_of_ble_eq_true rfl) rfl ?_
  intro K hR hN
  refine G.aload_n (pc2 := 1) (x := a 0) dX5_reference_0 rfl rfl rfl ?_
  refine G.iload_n (pc2 := 2) (x := p0) dX5_reference_1 rfl rfl rfl ?_
  refine G.callVd (pc2 := 5) (i := 0) (j := 10) (q0 := 0) (ci := 5) (As := [.int p0]) (rest := []) (ws2 := wM a cI cZ (sX5_record u p0)) (st2 := []) (c_X5_record (cI := cI) (cZ := cZ) a u p0 (h0) (hh)) gX5_reference_X5_record rfl rfl rfl ndX5_record ⟨Nat.le_of_ble_eq_true rfl, Nat.le_of_ble_eq_true rfl⟩ ⟨Nat.le_of_ble_eq_true rfl, Nat.le_of_ble_eq_true rfl⟩ rfl rfl (Nat.le_of_ble_eq_true rfl) rfl rfl rfl rfl rfl rfl dX5_reference_2 rfl ?_
  generalize et_2 : sX5_record u p0 = t_2
  refine G.aload_n (pc2 := 6) (x := a 0) dX5_reference_5 rfl rfl rfl ?_
  refine G.getf (pc2 := 9) (q0 := 0) (ci := 5) (k := 14) (v := .ref (a 4)) iX5_reference_X5 kX5_reference_19 rfl rfl (by decide) rfl dX5_reference_6 rfl ?_
  refine G.iload_n (pc2 := 10) (x := p0) dX5_reference_9 rfl rfl rfl ?_
  refine G.zald (pc2 := 11) (q0 := 4) (j := ix p0) (v := t_2.2.1.1 (ix p0)) rfl (h0) rfl dX5_reference_10 rfl ?_
  refine G.if_eq (pc2 := 14) (tgt := 27) dX5_reference_11 rfl rfl (fun c_11 => ?_) (fun c_11 => ?_)
  · refine G.aload_n (pc2 := 28) (x := a 0) dX5_reference_27 rfl rfl rfl ?_
    refine G.dup (pc2 := 29) dX5_reference_28 rfl rfl ?_
    refine G.getf (pc2 := 32) (q0 := 0) (ci := 5) (k := 6) (v := .int t_2.2.2.2.2.2.2.2.1) iX5_reference_X5 kX5_reference_65 rfl rfl (by decide) rfl dX5_reference_29 rfl ?_
    refine G.iconst (pc2 := 33) (v := 1) dX5_reference_32 (by decide) rfl ?_
    refine G.iadd (pc2 := 34) (v := t_2.2.2.2.2.2.2.2.1 + 1) dX5_reference_33 rfl rfl ?_
    refine G.putf (pc2 := 37) (q0 := 0) (ci := 5) (k := 6) (ws2 := wM a cI cZ (t_2.1, t_2.2.1, t_2.2.2.1, t_2.2.2.2.1, (t_2.2.2.2.2.1, t_2.2.2.2.2.2.1, t_2.2.2.2.2.2.2.1, t_2.2.2.2.2.2.2.2.1 + 1, t_2.2.2.2.2.2.2.2.2.1, t_2.2.2.2.2.2.2.2.2.2))) iX5_reference_X5 kX5_reference_65 tyX5_ok nmX5 rfl rfl (by decide) rfl rfl rfl (Nat.le_of_ble_eq_true rfl) rfl dX5_reference_34 rfl ?_
    refine G.aload_n (pc2 := 38) (x := a 0) dX5_reference_37 rfl rfl rfl ?_
    refine G.iload_n (pc2 := 39) (x := p0) dX5_reference_38 rfl rfl rfl ?_
    refine G.callVd (pc2 := 42) (i := 0) (j := 10) (q0 := 0) (ci := 5) (As := [.int p0]) (rest := []) (ws2 := wM a cI cZ (sX5_load (t_2.1, t_2.2.1, t_2.2.2.1, t_2.2.2.2.1, (t_2.2.2.2.2.1, t_2.2.2.2.2.2.1, t_2.2.2.2.2.2.2.1, t_2.2.2.2.2.2.2.2.1 + 1, t_2.2.2.2.2.2.2.2.2.1, t_2.2.2.2.2.2.2.2.2.2)) p0)) (st2 := []) (c_X5_load (cI := cI) (cZ := cZ) a (t_2.1, t_2.2.1, t_2.2.2.1, t_2.2.2.2.1, (t_2.2.2.2.2.1, t_2.2.2.2.2.2.1, t_2.2.2.2.2.2.2.1, t_2.2.2.2.2.2.2.2.1 + 1, t_2.2.2.2.2.2.2.2.2.1, t_2.2.2.2.2.2.2.2.2.2)) p0 (h0) (by subst et_2; exact (qw_record hq)) (by subst et_2; exact (hw_record h0 hh)) (by subst et_2; exact (nv_C (hl c_11)))) gX5_reference_X5_load rfl rfl rfl ndX5_load ⟨Nat.le_of_ble_eq_true rfl, Nat.le_of_ble_eq_true rfl⟩ ⟨Nat.le_of_ble_eq_true rfl, Nat.le_of_ble_eq_true rfl⟩ rfl rfl (Nat.le_of_ble_eq_true rfl) rfl rfl rfl rfl rfl rfl dX5_reference_39 rfl ?_
    generalize et_39 : sX5_load (t_2.1, t_2.2.1, t_2.2.2.1, t_2.2.2.2.1, (t_2.2.2.2.2.1, t_2.2.2.2.2.2.1, t_2.2.2.2.2.2.2.1, t_2.2.2.2.2.2.2.2.1 + 1, t_2.2.2.2.2.2.2.2.2.1, t_2.2.2.2.2.2.2.2.2.2)) p0 = t_39
    subst et_39 et_2
    exact G.vreturn hR dX5_reference_42 ⟨rfl, congrArg (wM a cI cZ) (by simp only [sX5_reference, if_pos c_11])⟩
  · refine G.aload_n (pc2 := 15) (x := a 0) dX5_reference_14 rfl rfl rfl ?_
    refine G.dup (pc2 := 16) dX5_reference_15 rfl rfl ?_
    refine G.getf (pc2 := 19) (q0 := 0) (ci := 5) (k := 5) (v := .int t_2.2.2.2.2.2.2.1) iX5_reference_X5 kX5_reference_62 rfl rfl (by decide) rfl dX5_reference_16 rfl ?_
    refine G.iconst (pc2 := 20) (v := 1) dX5_reference_19 (by decide) rfl ?_
    refine G.iadd (pc2 := 21) (v := t_2.2.2.2.2.2.2.1 + 1) dX5_reference_20 rfl rfl ?_
    refine G.putf (pc2 := 24) (q0 := 0) (ci := 5) (k := 5) (ws2 := wM a cI cZ (t_2.1, t_2.2.1, t_2.2.2.1, t_2.2.2.2.1, (t_2.2.2.2.2.1, t_2.2.2.2.2.2.1, t_2.2.2.2.2.2.2.1 + 1, t_2.2.2.2.2.2.2.2.1, t_2.2.2.2.2.2.2.2.2.1, t_2.2.2.2.2.2.2.2.2.2))) iX5_reference_X5 kX5_reference_62 tyX5_ok nmX5 rfl rfl (by decide) rfl rfl rfl (Nat.le_of_ble_eq_true rfl) rfl dX5_reference_21 rfl ?_
    refine G.goto (tgt := 42) dX5_reference_24 rfl ?_
    subst et_2
    exact G.vreturn hR dX5_reference_42 ⟨rfl, congrArg (wM a cI cZ) (by simp only [sX5_reference, if_neg c_11])⟩
set_option maxRecDepth 100000 in
set_option maxHeartbeats 4000000 in
theorem c_X5_read {cI cZ : ClassId} (a : Nat → Nat) (u : SM) (p0 : Int32) (hq : QW u.2.2.1) (hh : HW u.2.2.2.1) : Ct yX5_read wsX5_read rX5_read cI cZ [.ref (a 0), .int p0] (wM a cI cZ u) 0 0 (rt (some (vX5_read u p0)) (wM a cI cZ (sX5_read u p0))) := by
  refine Ct.of (cc := cX5_read) (nL := 2) (own := RX5) (by decide) rfl rfl (Nat.le_of_ble_eq_true rfl) rfl ?_
  intro K hR hN
  refine G.iload_n (pc2 := 1) (x := p0) dX5_read_0 rfl rfl rfl ?_
  refine G.callSd (pc2 := 4) (i := 0) (j := 0) (As := [.int p0]) (rest := []) (ws2 := wM a cI cZ u) (st2 := [.int (vX5_isPage p0)]) (c_X5_isPage (cI := cI) (cZ := cZ) p0) gX5_read_X5_isPage rfl rfl rfl ndX5_isPage.2 ⟨Nat.le_of_ble_eq_true rfl, Nat.le_of_ble_eq_true rfl⟩ ⟨Nat.le_of_ble_eq_true rfl, Nat.le_of_ble_eq_true rfl⟩ rfl rfl (Nat.le_of_ble_eq_true rfl) rfl rfl rfl dX5_read_1 rfl ?_
  generalize ev_1 : vX5_isPage p0 = v_1
  refine G.if_ne (pc2 := 7) (tgt := 9) dX5_read_4 rfl rfl (fun c_4 => ?_) (fun c_4 => ?_)
  · refine G.aload_n (pc2 := 10) (x := a 0) dX5_read_9 rfl rfl rfl ?_
    refine G.iload_n (pc2 := 11) (x := p0) dX5_read_10 rfl rfl rfl ?_
    refine G.callVd (pc2 := 14) (i := 0) (j := 10) (q0 := 0) (ci := 5) (As := [.int p0]) (rest := []) (ws2 := wM a cI cZ u) (st2 := [.int (vX5_isStuck u p0)]) (c_X5_isStuck (cI := cI) (cZ := cZ) a u p0 (by subst ev_1; exact (pgM c_4)) (hh)) gX5_read_X5_isStuck rfl rfl rfl ndX5_isStuck ⟨Nat.le_of_ble_eq_true rfl, Nat.le_of_ble_eq_true rfl⟩ ⟨Nat.le_of_ble_eq_true rfl, Nat.le_of_ble_eq_true rfl⟩ rfl rfl (Nat.le_of_ble_eq_true rfl) rfl rfl rfl rfl rfl rfl dX5_read_11 rfl ?_
    generalize ev_11 : vX5_isStuck u p0 = v_11
    refine G.if_eq (pc2 := 17) (tgt := 20) dX5_read_14 rfl rfl (fun c_14 => ?_) (fun c_14 => ?_)
    · refine G.aload_n (pc2 := 21) (x := a 0) dX5_read_20 rfl rfl rfl ?_
      refine G.iload_n (pc2 := 22) (x := p0) dX5_read_21 rfl rfl rfl ?_
      refine G.callVd (pc2 := 25) (i := 0) (j := 10) (q0 := 0) (ci := 5) (As := [.int p0]) (rest := []) (ws2 := wM a cI cZ (sX5_reference u p0)) (st2 := []) (c_X5_reference (cI := cI) (cZ := cZ) a u p0 (by subst ev_11 ev_1; exact (pgM c_4)) (hq) (hh) (by subst ev_11 ev_1; exact (notStuck (pgM c_4) hh c_14))) gX5_read_X5_reference rfl rfl rfl ndX5_reference ⟨Nat.le_of_ble_eq_true rfl, Nat.le_of_ble_eq_true rfl⟩ ⟨Nat.le_of_ble_eq_true rfl, Nat.le_of_ble_eq_true rfl⟩ rfl rfl (Nat.le_of_ble_eq_true rfl) rfl rfl rfl rfl rfl rfl dX5_read_22 rfl ?_
      generalize et_22 : sX5_reference u p0 = t_22
      refine G.aload_n (pc2 := 26) (x := a 0) dX5_read_25 rfl rfl rfl ?_
      refine G.getf (pc2 := 29) (q0 := 0) (ci := 5) (k := 12) (v := .ref (a 2)) iX5_read_X5 kX5_read_13 rfl rfl (by decide) rfl dX5_read_26 rfl ?_
      refine G.iload_n (pc2 := 30) (x := p0) dX5_read_29 rfl rfl rfl ?_
      refine G.iald (pc2 := 31) (q0 := 2) (j := ix p0) (v := t_22.2.1.2.2.1 (ix p0)) rfl (by subst et_22 ev_11 ev_1; exact (pgM c_4)) rfl dX5_read_30 rfl ?_
      subst et_22 ev_11 ev_1
      exact G.ireturn hR (rfl) dX5_read_31 ⟨congrArg some (by simp only [vX5_read, if_neg c_4, if_pos c_14]), congrArg (wM a cI cZ) (by simp only [sX5_read, if_neg c_4, if_pos c_14])⟩
    · refine G.bipush (pc2 := 19) (v := (-3)) dX5_read_17 (by decide) rfl ?_
      subst ev_11 ev_1
      exact G.ireturn hR (rfl) dX5_read_19 ⟨congrArg some (by simp only [vX5_read, if_neg c_4, if_neg c_14]), congrArg (wM a cI cZ) (by simp only [sX5_read, if_neg c_4, if_neg c_14])⟩
  · refine G.iconst (pc2 := 8) (v := (-1)) dX5_read_7 (by decide) rfl ?_
    subst ev_1
    exact G.ireturn hR (rfl) dX5_read_8 ⟨congrArg some (by simp only [vX5_read, if_pos c_4]), congrArg (wM a cI cZ) (by simp only [sX5_read, if_pos c_4])⟩
set_option maxRecDepth 100000 in
set_option maxHeartbeats 4000000 in
theorem c_X5_write {cI cZ : ClassId} (a : Nat → Nat) (u : SM) (p0 p1 : Int32) (hq : QW u.2.2.1) (hh : HW u.2.2.2.1) : Ct yX5_write wsX5_write rX5_write cI cZ [.ref (a 0), .int p0, .int p1] (wM a cI cZ u) 0 0 (rt (some (vX5_write u p0 p1)) (wM a cI cZ (sX5_write u p0 p1))) := by
  refine Ct.of (cc := cX5_write) (nL := 4) (own := RX5) (by decide) rfl rfl (Nat.le_of_ble_eq_true rfl) rfl ?_
  intro K hR hN
  refine G.iload_n (pc2 := 1) (x := p0) dX5_write_0 rfl rfl rfl ?_
  refine G.callSd (pc2 := 4) (i := 0) (j := 0) (As := [.int p0]) (rest := []) (ws2 := wM a cI cZ u) (st2 := [.int (vX5_isPage p0)]) (c_X5_isPage (cI := cI) (cZ := cZ) p0) gX5_write_X5_isPage rfl rfl rfl ndX5_isPage.2 ⟨Nat.le_of_ble_eq_true rfl, Nat.le_of_ble_eq_true rfl⟩ ⟨Nat.le_of_ble_eq_true rfl, Nat.le_of_ble_eq_true rfl⟩ rfl rfl (Nat.le_of_ble_eq_true rfl) rfl rfl rfl dX5_write_1 rfl ?_
  generalize ev_1 : vX5_isPage p0 = v_1
  refine G.if_ne (pc2 := 7) (tgt := 9) dX5_write_4 rfl rfl (fun c_4 => ?_) (fun c_4 => ?_)
  · refine G.iload_n (pc2 := 10) (x := p1) dX5_write_9 rfl rfl rfl ?_
    refine G.iconst (pc2 := 11) (v := 0) dX5_write_10 (by decide) rfl ?_
    refine G.sipush (pc2 := 14) (v := 9999) dX5_write_11 (by decide) rfl ?_
    refine G.callSd (pc2 := 17) (i := 0) (j := 0) (As := [.int p1, .int 0, .int 9999]) (rest := []) (ws2 := wM a cI cZ u) (st2 := [.int (vX5_isFrom p1 0 9999)]) (c_X5_isFrom (cI := cI) (cZ := cZ) p1 0 9999) gX5_write_X5_isFrom rfl rfl rfl ndX5_isFrom.2 ⟨Nat.le_of_ble_eq_true rfl, Nat.le_of_ble_eq_true rfl⟩ ⟨Nat.le_of_ble_eq_true rfl, Nat.le_of_ble_eq_true rfl⟩ rfl rfl (Nat.le_of_ble_eq_true rfl) rfl rfl rfl dX5_write_14 rfl ?_
    generalize ev_14 : vX5_isFrom p1 0 9999 = v_14
    refine G.if_ne (pc2 := 20) (tgt := 23) dX5_write_17 rfl rfl (fun c_17 => ?_) (fun c_17 => ?_)
    · refine G.aload_n (pc2 := 24) (x := a 0) dX5_write_23 rfl rfl rfl ?_
      refine G.iload_n (pc2 := 25) (x := p0) dX5_write_24 rfl rfl rfl ?_
      refine G.callVd (pc2 := 28) (i := 0) (j := 10) (q0 := 0) (ci := 5) (As := [.int p0]) (rest := []) (ws2 := wM a cI cZ u) (st2 := [.int (vX5_isStuck u p0)]) (c_X5_isStuck (cI := cI) (cZ := cZ) a u p0 (by subst ev_14 ev_1; exact (pgM c_4)) (hh)) gX5_write_X5_isStuck rfl rfl rfl ndX5_isStuck ⟨Nat.le_of_ble_eq_true rfl, Nat.le_of_ble_eq_true rfl⟩ ⟨Nat.le_of_ble_eq_true rfl, Nat.le_of_ble_eq_true rfl⟩ rfl rfl (Nat.le_of_ble_eq_true rfl) rfl rfl rfl rfl rfl rfl dX5_write_25 rfl ?_
      generalize ev_25 : vX5_isStuck u p0 = v_25
      refine G.if_eq (pc2 := 31) (tgt := 34) dX5_write_28 rfl rfl (fun c_28 => ?_) (fun c_28 => ?_)
      · refine G.aload_n (pc2 := 35) (x := a 0) dX5_write_34 rfl rfl rfl ?_
        refine G.iload_n (pc2 := 36) (x := p0) dX5_write_35 rfl rfl rfl ?_
        refine G.callVd (pc2 := 39) (i := 0) (j := 10) (q0 := 0) (ci := 5) (As := [.int p0]) (rest := []) (ws2 := wM a cI cZ (sX5_reference u p0)) (st2 := []) (c_X5_reference (cI := cI) (cZ := cZ) a u p0 (by subst ev_25 ev_14 ev_1; exact (pgM c_4)) (hq) (hh) (by subst ev_25 ev_14 ev_1; exact (notStuck (pgM c_4) hh c_28))) gX5_write_X5_reference rfl rfl rfl ndX5_reference ⟨Nat.le_of_ble_eq_true rfl, Nat.le_of_ble_eq_true rfl⟩ ⟨Nat.le_of_ble_eq_true rfl, Nat.le_of_ble_eq_true rfl⟩ rfl rfl (Nat.le_of_ble_eq_true rfl) rfl rfl rfl rfl rfl rfl dX5_write_36 rfl ?_
        generalize et_36 : sX5_reference u p0 = t_36
        refine G.aload_n (pc2 := 40) (x := a 0) dX5_write_39 rfl rfl rfl ?_
        refine G.getf (pc2 := 43) (q0 := 0) (ci := 5) (k := 12) (v := .ref (a 2)) iX5_write_X5 kX5_write_13 rfl rfl (by decide) rfl dX5_write_40 rfl ?_
        refine G.iload_n (pc2 := 44) (x := p0) dX5_write_43 rfl rfl rfl ?_
        refine G.iald (pc2 := 45) (q0 := 2) (j := ix p0) (v := t_36.2.1.2.2.1 (ix p0)) rfl (by subst et_36 ev_25 ev_14 ev_1; exact (pgM c_4)) rfl dX5_write_44 rfl ?_
        refine G.istore_n (pc2 := 46) (lv2 := [(0, .ref (a 0)), (1, .int p0), (2, .int p1), (3, .int (t_36.2.1.2.2.1 (ix p0)))]) [1, 2, 3, 0] dX5_write_45 rfl (by decide) rfl rfl ?_
        refine G.aload_n (pc2 := 47) (x := a 0) dX5_write_46 rfl rfl rfl ?_
        refine G.getf (pc2 := 50) (q0 := 0) (ci := 5) (k := 12) (v := .ref (a 2)) iX5_write_X5 kX5_write_13 rfl rfl (by decide) rfl dX5_write_47 rfl ?_
        refine G.iload_n (pc2 := 51) (x := p0) dX5_write_50 rfl rfl rfl ?_
        refine G.iload_n (pc2 := 52) (x := p1) dX5_write_51 rfl rfl rfl ?_
        refine G.iast (pc2 := 53) (q0 := 2) (j := ix p0) (ws2 := wM a cI cZ (t_36.1, (t_36.2.1.1, t_36.2.1.2.1, upd t_36.2.1.2.2.1 (ix p0) p1, t_36.2.1.2.2.2.1, t_36.2.1.2.2.2.2), t_36.2.2.1, t_36.2.2.2.1, t_36.2.2.2.2)) rfl (by subst et_36 ev_25 ev_14 ev_1; exact (pgM c_4)) rfl dX5_write_52 rfl ?_
        refine G.aload_n (pc2 := 54) (x := a 0) dX5_write_53 rfl rfl rfl ?_
        refine G.getf (pc2 := 57) (q0 := 0) (ci := 5) (k := 15) (v := .ref (a 5)) iX5_write_X5 kX5_write_23 rfl rfl (by decide) rfl dX5_write_54 rfl ?_
        refine G.iload_n (pc2 := 58) (x := p0) dX5_write_57 rfl rfl rfl ?_
        refine G.iconst (pc2 := 59) (v := 1) dX5_write_58 (by decide) rfl ?_
        refine G.zast (y := 1) (pc2 := 60) (q0 := 5) (j := ix p0) (ws2 := wM a cI cZ (t_36.1, (t_36.2.1.1, upd t_36.2.1.2.1 (ix p0) 1, upd t_36.2.1.2.2.1 (ix p0) p1, t_36.2.1.2.2.2.1, t_36.2.1.2.2.2.2), t_36.2.2.1, t_36.2.2.2.1, t_36.2.2.2.2)) rfl (by subst et_36 ev_25 ev_14 ev_1; exact (pgM c_4)) rfl rfl dX5_write_59 rfl ?_
        refine G.iload_n (pc2 := 61) (x := t_36.2.1.2.2.1 (ix p0)) dX5_write_60 rfl rfl rfl ?_
        subst et_36 ev_25 ev_14 ev_1
        exact G.ireturn hR (rfl) dX5_write_61 ⟨congrArg some (by simp only [vX5_write, if_neg c_4, if_neg c_17, if_pos c_28]), congrArg (wM a cI cZ) (by simp only [sX5_write, if_neg c_4, if_neg c_17, if_pos c_28])⟩
      · refine G.bipush (pc2 := 33) (v := (-3)) dX5_write_31 (by decide) rfl ?_
        subst ev_25 ev_14 ev_1
        exact G.ireturn hR (rfl) dX5_write_33 ⟨congrArg some (by simp only [vX5_write, if_neg c_4, if_neg c_17, if_neg c_28]), congrArg (wM a cI cZ) (by simp only [sX5_write, if_neg c_4, if_neg c_17, if_neg c_28])⟩
    · refine G.bipush (pc2 := 22) (v := (-2)) dX5_write_20 (by decide) rfl ?_
      subst ev_14 ev_1
      exact G.ireturn hR (rfl) dX5_write_22 ⟨congrArg some (by simp only [vX5_write, if_neg c_4, if_pos c_17]), congrArg (wM a cI cZ) (by simp only [sX5_write, if_neg c_4, if_pos c_17])⟩
  · refine G.iconst (pc2 := 8) (v := (-1)) dX5_write_7 (by decide) rfl ?_
    subst ev_1
    exact G.ireturn hR (rfl) dX5_write_8 ⟨congrArg some (by simp only [vX5_write, if_pos c_4]), congrArg (wM a cI cZ) (by simp only [sX5_write, if_pos c_4])⟩
set_option maxRecDepth 100000 in
set_option maxHeartbeats 4000000 in
theorem c_X5_pin {cI cZ : ClassId} (a : Nat → Nat) (u : SM) (p0 : Int32) (hq : QW u.2.2.1) (hh : HW u.2.2.2.1) : Ct yX5_pin wsX5_pin rX5_pin cI cZ [.ref (a 0), .int p0] (wM a cI cZ u) 0 0 (rt (some (vX5_pin u p0)) (wM a cI cZ (sX5_pin u p0))) := by
  refine Ct.of (cc := cX5_pin) (nL := 2) (own := RX5) (by decide) rfl rfl (Nat.le_of_ble_eq_true rfl) rfl ?_
  intro K hR hN
  refine G.iload_n (pc2 := 1) (x := p0) dX5_pin_0 rfl rfl rfl ?_
  refine G.callSd (pc2 := 4) (i := 0) (j := 0) (As := [.int p0]) (rest := []) (ws2 := wM a cI cZ u) (st2 := [.int (vX5_isPage p0)]) (c_X5_isPage (cI := cI) (cZ := cZ) p0) gX5_pin_X5_isPage rfl rfl rfl ndX5_isPage.2 ⟨Nat.le_of_ble_eq_true rfl, Nat.le_of_ble_eq_true rfl⟩ ⟨Nat.le_of_ble_eq_true rfl, Nat.le_of_ble_eq_true rfl⟩ rfl rfl (Nat.le_of_ble_eq_true rfl) rfl rfl rfl dX5_pin_1 rfl ?_
  generalize ev_1 : vX5_isPage p0 = v_1
  refine G.if_ne (pc2 := 7) (tgt := 9) dX5_pin_4 rfl rfl (fun c_4 => ?_) (fun c_4 => ?_)
  · refine G.aload_n (pc2 := 10) (x := a 0) dX5_pin_9 rfl rfl rfl ?_
    refine G.getf (pc2 := 13) (q0 := 0) (ci := 5) (k := 14) (v := .ref (a 4)) iX5_pin_X5 kX5_pin_19 rfl rfl (by decide) rfl dX5_pin_10 rfl ?_
    refine G.iload_n (pc2 := 14) (x := p0) dX5_pin_13 rfl rfl rfl ?_
    refine G.zald (pc2 := 15) (q0 := 4) (j := ix p0) (v := u.2.1.1 (ix p0)) rfl (by subst ev_1; exact (pgM c_4)) rfl dX5_pin_14 rfl ?_
    refine G.if_eq (pc2 := 18) (tgt := 32) dX5_pin_15 rfl rfl (fun c_15 => ?_) (fun c_15 => ?_)
    · refine G.aload_n (pc2 := 33) (x := a 0) dX5_pin_32 rfl rfl rfl ?_
      refine G.iload_n (pc2 := 34) (x := p0) dX5_pin_33 rfl rfl rfl ?_
      refine G.callVd (pc2 := 37) (i := 0) (j := 10) (q0 := 0) (ci := 5) (As := [.int p0]) (rest := []) (ws2 := wM a cI cZ u) (st2 := [.int (vX5_isStuck u p0)]) (c_X5_isStuck (cI := cI) (cZ := cZ) a u p0 (by subst ev_1; exact (pgM c_4)) (hh)) gX5_pin_X5_isStuck rfl rfl rfl ndX5_isStuck ⟨Nat.le_of_ble_eq_true rfl, Nat.le_of_ble_eq_true rfl⟩ ⟨Nat.le_of_ble_eq_true rfl, Nat.le_of_ble_eq_true rfl⟩ rfl rfl (Nat.le_of_ble_eq_true rfl) rfl rfl rfl rfl rfl rfl dX5_pin_34 rfl ?_
      generalize ev_34 : vX5_isStuck u p0 = v_34
      refine G.if_eq (pc2 := 40) (tgt := 43) dX5_pin_37 rfl rfl (fun c_37 => ?_) (fun c_37 => ?_)
      · refine G.aload_n (pc2 := 44) (x := a 0) dX5_pin_43 rfl rfl rfl ?_
        refine G.iload_n (pc2 := 45) (x := p0) dX5_pin_44 rfl rfl rfl ?_
        refine G.callVd (pc2 := 48) (i := 0) (j := 10) (q0 := 0) (ci := 5) (As := [.int p0]) (rest := []) (ws2 := wM a cI cZ (sX5_reference u p0)) (st2 := []) (c_X5_reference (cI := cI) (cZ := cZ) a u p0 (by subst ev_34 ev_1; exact (pgM c_4)) (hq) (hh) (by subst ev_34 ev_1; exact (notStuck (pgM c_4) hh c_37))) gX5_pin_X5_reference rfl rfl rfl ndX5_reference ⟨Nat.le_of_ble_eq_true rfl, Nat.le_of_ble_eq_true rfl⟩ ⟨Nat.le_of_ble_eq_true rfl, Nat.le_of_ble_eq_true rfl⟩ rfl rfl (Nat.le_of_ble_eq_true rfl) rfl rfl rfl rfl rfl rfl dX5_pin_45 rfl ?_
        generalize et_45 : sX5_reference u p0 = t_45
        refine G.aload_n (pc2 := 49) (x := a 0) dX5_pin_48 rfl rfl rfl ?_
        refine G.getf (pc2 := 52) (q0 := 0) (ci := 5) (k := 13) (v := .ref (a 3)) iX5_pin_X5 kX5_pin_16 rfl rfl (by decide) rfl dX5_pin_49 rfl ?_
        refine G.iload_n (pc2 := 53) (x := p0) dX5_pin_52 rfl rfl rfl ?_
        refine G.dup2 (pc2 := 54) dX5_pin_53 rfl rfl rfl ?_
        refine G.iald (pc2 := 55) (q0 := 3) (j := ix p0) (v := t_45.2.1.2.2.2.1 (ix p0)) rfl (by subst et_45 ev_34 ev_1; exact (pgM c_4)) rfl dX5_pin_54 rfl ?_
        refine G.iconst (pc2 := 56) (v := 1) dX5_pin_55 (by decide) rfl ?_
        refine G.iadd (pc2 := 57) (v := (t_45.2.1.2.2.2.1 (ix p0)) + 1) dX5_pin_56 rfl rfl ?_
        refine G.iast (pc2 := 58) (q0 := 3) (j := ix p0) (ws2 := wM a cI cZ (t_45.1, (t_45.2.1.1, t_45.2.1.2.1, t_45.2.1.2.2.1, upd t_45.2.1.2.2.2.1 (ix p0) ((t_45.2.1.2.2.2.1 (ix p0)) + 1), t_45.2.1.2.2.2.2), t_45.2.2.1, t_45.2.2.2.1, t_45.2.2.2.2)) rfl (by subst et_45 ev_34 ev_1; exact (pgM c_4)) rfl dX5_pin_57 rfl ?_
        refine G.aload_n (pc2 := 59) (x := a 0) dX5_pin_58 rfl rfl rfl ?_
        refine G.getf (pc2 := 62) (q0 := 0) (ci := 5) (k := 13) (v := .ref (a 3)) iX5_pin_X5 kX5_pin_16 rfl rfl (by decide) rfl dX5_pin_59 rfl ?_
        refine G.iload_n (pc2 := 63) (x := p0) dX5_pin_62 rfl rfl rfl ?_
        refine G.iald (pc2 := 64) (q0 := 3) (j := ix p0) (v := (upd t_45.2.1.2.2.2.1 (ix p0) ((t_45.2.1.2.2.2.1 (ix p0)) + 1)) (ix p0)) rfl (by subst et_45 ev_34 ev_1; exact (pgM c_4)) rfl dX5_pin_63 rfl ?_
        subst et_45 ev_34 ev_1
        exact G.ireturn hR (rfl) dX5_pin_64 ⟨congrArg some (by simp only [vX5_pin, if_neg c_4, if_pos c_15, if_pos c_37]), congrArg (wM a cI cZ) (by simp only [sX5_pin, if_neg c_4, if_pos c_15, if_pos c_37])⟩
      · refine G.bipush (pc2 := 42) (v := (-3)) dX5_pin_40 (by decide) rfl ?_
        subst ev_34 ev_1
        exact G.ireturn hR (rfl) dX5_pin_42 ⟨congrArg some (by simp only [vX5_pin, if_neg c_4, if_pos c_15, if_neg c_37]), congrArg (wM a cI cZ) (by simp only [sX5_pin, if_neg c_4, if_pos c_15, if_neg c_37])⟩
    · refine G.aload_n (pc2 := 19) (x := a 0) dX5_pin_18 rfl rfl rfl ?_
      refine G.getf (pc2 := 22) (q0 := 0) (ci := 5) (k := 13) (v := .ref (a 3)) iX5_pin_X5 kX5_pin_16 rfl rfl (by decide) rfl dX5_pin_19 rfl ?_
      refine G.iload_n (pc2 := 23) (x := p0) dX5_pin_22 rfl rfl rfl ?_
      refine G.iald (pc2 := 24) (q0 := 3) (j := ix p0) (v := u.2.1.2.2.2.1 (ix p0)) rfl (by subst ev_1; exact (pgM c_4)) rfl dX5_pin_23 rfl ?_
      refine G.bipush (pc2 := 26) (v := 9) dX5_pin_24 (by decide) rfl ?_
      refine G.icmp_ne (pc2 := 29) (tgt := 32) dX5_pin_26 rfl rfl (fun c_26 => ?_) (fun c_26 => ?_)
      · refine G.aload_n (pc2 := 33) (x := a 0) dX5_pin_32 rfl rfl rfl ?_
        refine G.iload_n (pc2 := 34) (x := p0) dX5_pin_33 rfl rfl rfl ?_
        refine G.callVd (pc2 := 37) (i := 0) (j := 10) (q0 := 0) (ci := 5) (As := [.int p0]) (rest := []) (ws2 := wM a cI cZ u) (st2 := [.int (vX5_isStuck u p0)]) (c_X5_isStuck (cI := cI) (cZ := cZ) a u p0 (by subst ev_1; exact (pgM c_4)) (hh)) gX5_pin_X5_isStuck rfl rfl rfl ndX5_isStuck ⟨Nat.le_of_ble_eq_true rfl, Nat.le_of_ble_eq_true rfl⟩ ⟨Nat.le_of_ble_eq_true rfl, Nat.le_of_ble_eq_true rfl⟩ rfl rfl (Nat.le_of_ble_eq_true rfl) rfl rfl rfl rfl rfl rfl dX5_pin_34 rfl ?_
        generalize ev_34 : vX5_isStuck u p0 = v_34
        refine G.if_eq (pc2 := 40) (tgt := 43) dX5_pin_37 rfl rfl (fun c_37 => ?_) (fun c_37 => ?_)
        · refine G.aload_n (pc2 := 44) (x := a 0) dX5_pin_43 rfl rfl rfl ?_
          refine G.iload_n (pc2 := 45) (x := p0) dX5_pin_44 rfl rfl rfl ?_
          refine G.callVd (pc2 := 48) (i := 0) (j := 10) (q0 := 0) (ci := 5) (As := [.int p0]) (rest := []) (ws2 := wM a cI cZ (sX5_reference u p0)) (st2 := []) (c_X5_reference (cI := cI) (cZ := cZ) a u p0 (by subst ev_34 ev_1; exact (pgM c_4)) (hq) (hh) (by subst ev_34 ev_1; exact (notStuck (pgM c_4) hh c_37))) gX5_pin_X5_reference rfl rfl rfl ndX5_reference ⟨Nat.le_of_ble_eq_true rfl, Nat.le_of_ble_eq_true rfl⟩ ⟨Nat.le_of_ble_eq_true rfl, Nat.le_of_ble_eq_true rfl⟩ rfl rfl (Nat.le_of_ble_eq_true rfl) rfl rfl rfl rfl rfl rfl dX5_pin_45 rfl ?_
          generalize et_45 : sX5_reference u p0 = t_45
          refine G.aload_n (pc2 := 49) (x := a 0) dX5_pin_48 rfl rfl rfl ?_
          refine G.getf (pc2 := 52) (q0 := 0) (ci := 5) (k := 13) (v := .ref (a 3)) iX5_pin_X5 kX5_pin_16 rfl rfl (by decide) rfl dX5_pin_49 rfl ?_
          refine G.iload_n (pc2 := 53) (x := p0) dX5_pin_52 rfl rfl rfl ?_
          refine G.dup2 (pc2 := 54) dX5_pin_53 rfl rfl rfl ?_
          refine G.iald (pc2 := 55) (q0 := 3) (j := ix p0) (v := t_45.2.1.2.2.2.1 (ix p0)) rfl (by subst et_45 ev_34 ev_1; exact (pgM c_4)) rfl dX5_pin_54 rfl ?_
          refine G.iconst (pc2 := 56) (v := 1) dX5_pin_55 (by decide) rfl ?_
          refine G.iadd (pc2 := 57) (v := (t_45.2.1.2.2.2.1 (ix p0)) + 1) dX5_pin_56 rfl rfl ?_
          refine G.iast (pc2 := 58) (q0 := 3) (j := ix p0) (ws2 := wM a cI cZ (t_45.1, (t_45.2.1.1, t_45.2.1.2.1, t_45.2.1.2.2.1, upd t_45.2.1.2.2.2.1 (ix p0) ((t_45.2.1.2.2.2.1 (ix p0)) + 1), t_45.2.1.2.2.2.2), t_45.2.2.1, t_45.2.2.2.1, t_45.2.2.2.2)) rfl (by subst et_45 ev_34 ev_1; exact (pgM c_4)) rfl dX5_pin_57 rfl ?_
          refine G.aload_n (pc2 := 59) (x := a 0) dX5_pin_58 rfl rfl rfl ?_
          refine G.getf (pc2 := 62) (q0 := 0) (ci := 5) (k := 13) (v := .ref (a 3)) iX5_pin_X5 kX5_pin_16 rfl rfl (by decide) rfl dX5_pin_59 rfl ?_
          refine G.iload_n (pc2 := 63) (x := p0) dX5_pin_62 rfl rfl rfl ?_
          refine G.iald (pc2 := 64) (q0 := 3) (j := ix p0) (v := (upd t_45.2.1.2.2.2.1 (ix p0) ((t_45.2.1.2.2.2.1 (ix p0)) + 1)) (ix p0)) rfl (by subst et_45 ev_34 ev_1; exact (pgM c_4)) rfl dX5_pin_63 rfl ?_
          subst et_45 ev_34 ev_1
          exact G.ireturn hR (rfl) dX5_pin_64 ⟨congrArg some (by simp only [vX5_pin, if_neg c_4, if_neg c_15, if_neg c_26, if_pos c_37]), congrArg (wM a cI cZ) (by simp only [sX5_pin, if_neg c_4, if_neg c_15, if_neg c_26, if_pos c_37])⟩
        · refine G.bipush (pc2 := 42) (v := (-3)) dX5_pin_40 (by decide) rfl ?_
          subst ev_34 ev_1
          exact G.ireturn hR (rfl) dX5_pin_42 ⟨congrArg some (by simp only [vX5_pin, if_neg c_4, if_neg c_15, if_neg c_26, if_neg c_37]), congrArg (wM a cI cZ) (by simp only [sX5_pin, if_neg c_4, if_neg c_15, if_neg c_26, if_neg c_37])⟩
      · refine G.bipush (pc2 := 31) (v := (-6)) dX5_pin_29 (by decide) rfl ?_
        subst ev_1
        exact G.ireturn hR (rfl) dX5_pin_31 ⟨congrArg some (by simp only [vX5_pin, if_neg c_4, if_neg c_15, if_pos c_26]), congrArg (wM a cI cZ) (by simp only [sX5_pin, if_neg c_4, if_neg c_15, if_pos c_26])⟩
  · refine G.iconst (pc2 := 8) (v := (-1)) dX5_pin_7 (by decide) rfl ?_
    subst ev_1
    exact G.ireturn hR (rfl) dX5_pin_8 ⟨congrArg some (by simp only [vX5_pin, if_pos c_4]), congrArg (wM a cI cZ) (by simp only [sX5_pin, if_pos c_4])⟩
set_option maxRecDepth 100000 in
set_option maxHeartbeats 4000000 in
theorem c_X5_unpin {cI cZ : ClassId} (a : Nat → Nat) (u : SM) (p0 : Int32)  : Ct yX5_unpin wsX5_unpin rX5_unpin cI cZ [.ref (a 0), .int p0] (wM a cI cZ u) 0 0 (rt (some (vX5_unpin u p0)) (wM a cI cZ (sX5_unpin u p0))) := by
  refine Ct.of (cc := cX5_unpin) (nL := 2) (own := RX5) (by decide) rfl rfl (Nat.le_of_ble_eq_true rfl) rfl ?_
  intro K hR hN
  refine G.iload_n (pc2 := 1) (x := p0) dX5_unpin_0 rfl rfl rfl ?_
  refine G.callSd (pc2 := 4) (i := 0) (j := 0) (As := [.int p0]) (rest := []) (ws2 := wM a cI cZ u) (st2 := [.int (vX5_isPage p0)]) (c_X5_isPage (cI := cI) (cZ := cZ) p0) gX5_unpin_X5_isPage rfl rfl rfl ndX5_isPage.2 ⟨Nat.le_of_ble_eq_true rfl, Nat.le_of_ble_eq_true rfl⟩ ⟨Nat.le_of_ble_eq_true rfl, Nat.le_of_ble_eq_true rfl⟩ rfl rfl (Nat.le_of_ble_eq_true rfl) rfl rfl rfl dX5_unpin_1 rfl ?_
  generalize ev_1 : vX5_isPage p0 = v_1
  refine G.if_ne (pc2 := 7) (tgt := 9) dX5_unpin_4 rfl rfl (fun c_4 => ?_) (fun c_4 => ?_)
  · refine G.aload_n (pc2 := 10) (x := a 0) dX5_unpin_9 rfl rfl rfl ?_
    refine G.getf (pc2 := 13) (q0 := 0) (ci := 5) (k := 14) (v := .ref (a 4)) iX5_unpin_X5 kX5_unpin_19 rfl rfl (by decide) rfl dX5_unpin_10 rfl ?_
    refine G.iload_n (pc2 := 14) (x := p0) dX5_unpin_13 rfl rfl rfl ?_
    refine G.zald (pc2 := 15) (q0 := 4) (j := ix p0) (v := u.2.1.1 (ix p0)) rfl (by subst ev_1; exact (pgM c_4)) rfl dX5_unpin_14 rfl ?_
    refine G.if_ne (pc2 := 18) (tgt := 21) dX5_unpin_15 rfl rfl (fun c_15 => ?_) (fun c_15 => ?_)
    · refine G.aload_n (pc2 := 22) (x := a 0) dX5_unpin_21 rfl rfl rfl ?_
      refine G.getf (pc2 := 25) (q0 := 0) (ci := 5) (k := 13) (v := .ref (a 3)) iX5_unpin_X5 kX5_unpin_16 rfl rfl (by decide) rfl dX5_unpin_22 rfl ?_
      refine G.iload_n (pc2 := 26) (x := p0) dX5_unpin_25 rfl rfl rfl ?_
      refine G.iald (pc2 := 27) (q0 := 3) (j := ix p0) (v := u.2.1.2.2.2.1 (ix p0)) rfl (by subst ev_1; exact (pgM c_4)) rfl dX5_unpin_26 rfl ?_
      refine G.if_ne (pc2 := 30) (tgt := 33) dX5_unpin_27 rfl rfl (fun c_27 => ?_) (fun c_27 => ?_)
      · refine G.aload_n (pc2 := 34) (x := a 0) dX5_unpin_33 rfl rfl rfl ?_
        refine G.getf (pc2 := 37) (q0 := 0) (ci := 5) (k := 13) (v := .ref (a 3)) iX5_unpin_X5 kX5_unpin_16 rfl rfl (by decide) rfl dX5_unpin_34 rfl ?_
        refine G.iload_n (pc2 := 38) (x := p0) dX5_unpin_37 rfl rfl rfl ?_
        refine G.dup2 (pc2 := 39) dX5_unpin_38 rfl rfl rfl ?_
        refine G.iald (pc2 := 40) (q0 := 3) (j := ix p0) (v := u.2.1.2.2.2.1 (ix p0)) rfl (by subst ev_1; exact (pgM c_4)) rfl dX5_unpin_39 rfl ?_
        refine G.iconst (pc2 := 41) (v := 1) dX5_unpin_40 (by decide) rfl ?_
        refine G.isub (pc2 := 42) (v := (u.2.1.2.2.2.1 (ix p0)) - 1) dX5_unpin_41 rfl rfl ?_
        refine G.iast (pc2 := 43) (q0 := 3) (j := ix p0) (ws2 := wM a cI cZ (u.1, (u.2.1.1, u.2.1.2.1, u.2.1.2.2.1, upd u.2.1.2.2.2.1 (ix p0) ((u.2.1.2.2.2.1 (ix p0)) - 1), u.2.1.2.2.2.2), u.2.2.1, u.2.2.2.1, u.2.2.2.2)) rfl (by subst ev_1; exact (pgM c_4)) rfl dX5_unpin_42 rfl ?_
        refine G.aload_n (pc2 := 44) (x := a 0) dX5_unpin_43 rfl rfl rfl ?_
        refine G.getf (pc2 := 47) (q0 := 0) (ci := 5) (k := 13) (v := .ref (a 3)) iX5_unpin_X5 kX5_unpin_16 rfl rfl (by decide) rfl dX5_unpin_44 rfl ?_
        refine G.iload_n (pc2 := 48) (x := p0) dX5_unpin_47 rfl rfl rfl ?_
        refine G.iald (pc2 := 49) (q0 := 3) (j := ix p0) (v := (upd u.2.1.2.2.2.1 (ix p0) ((u.2.1.2.2.2.1 (ix p0)) - 1)) (ix p0)) rfl (by subst ev_1; exact (pgM c_4)) rfl dX5_unpin_48 rfl ?_
        subst ev_1
        exact G.ireturn hR (rfl) dX5_unpin_49 ⟨congrArg some (by simp only [vX5_unpin, if_neg c_4, if_neg c_15, if_neg c_27]), congrArg (wM a cI cZ) (by simp only [sX5_unpin, if_neg c_4, if_neg c_15, if_neg c_27])⟩
      · refine G.bipush (pc2 := 32) (v := (-5)) dX5_unpin_30 (by decide) rfl ?_
        subst ev_1
        exact G.ireturn hR (rfl) dX5_unpin_32 ⟨congrArg some (by simp only [vX5_unpin, if_neg c_4, if_neg c_15, if_pos c_27]), congrArg (wM a cI cZ) (by simp only [sX5_unpin, if_neg c_4, if_neg c_15, if_pos c_27])⟩
    · refine G.bipush (pc2 := 20) (v := (-4)) dX5_unpin_18 (by decide) rfl ?_
      subst ev_1
      exact G.ireturn hR (rfl) dX5_unpin_20 ⟨congrArg some (by simp only [vX5_unpin, if_neg c_4, if_pos c_15]), congrArg (wM a cI cZ) (by simp only [sX5_unpin, if_neg c_4, if_pos c_15])⟩
  · refine G.iconst (pc2 := 8) (v := (-1)) dX5_unpin_7 (by decide) rfl ?_
    subst ev_1
    exact G.ireturn hR (rfl) dX5_unpin_8 ⟨congrArg some (by simp only [vX5_unpin, if_pos c_4]), congrArg (wM a cI cZ) (by simp only [sX5_unpin, if_pos c_4])⟩
set_option maxRecDepth 100000 in
set_option maxHeartbeats 4000000 in
theorem c_X5_writeResident {cI cZ : ClassId} (a : Nat → Nat) (u : SM) (p0 : Int32) (h0 : Pg p0) : Ct yX5_writeResident wsX5_writeResident rX5_writeResident cI cZ [.ref (a 0), .int p0] (wM a cI cZ u) 0 0 (rt (some (vX5_writeResident u p0)) (wM a cI cZ (sX5_writeResident u p0))) := by
  refine Ct.of (cc := cX5_writeResident) (nL := 2) (own := RX5) (by decide) rfl rfl (Nat.le_of_ble_eq_true rfl) rfl ?_
  intro K hR hN
  refine G.aload_n (pc2 := 1) (x := a 0) dX5_writeResident_0 rfl rfl rfl ?_
  refine G.getf (pc2 := 4) (q0 := 0) (ci := 5) (k := 14) (v := .ref (a 4)) iX5_writeResident_X5 kX5_writeResident_19 rfl rfl (by decide) rfl dX5_writeResident_1 rfl ?_
  refine G.iload_n (pc2 := 5) (x := p0) dX5_writeResident_4 rfl rfl rfl ?_
  refine G.zald (pc2 := 6) (q0 := 4) (j := ix p0) (v := u.2.1.1 (ix p0)) rfl (h0) rfl dX5_writeResident_5 rfl ?_
  refine G.if_eq (pc2 := 9) (tgt := 18) dX5_writeResident_6 rfl rfl (fun c_6 => ?_) (fun c_6 => ?_)
  · refine G.iconst (pc2 := 19) (v := 0) dX5_writeResident_18 (by decide) rfl ?_
    exact G.ireturn hR (rfl) dX5_writeResident_19 ⟨congrArg some (by simp only [vX5_writeResident, if_pos c_6]), congrArg (wM a cI cZ) (by simp only [sX5_writeResident, if_pos c_6])⟩
  · refine G.aload_n (pc2 := 10) (x := a 0) dX5_writeResident_9 rfl rfl rfl ?_
    refine G.getf (pc2 := 13) (q0 := 0) (ci := 5) (k := 15) (v := .ref (a 5)) iX5_writeResident_X5 kX5_writeResident_23 rfl rfl (by decide) rfl dX5_writeResident_10 rfl ?_
    refine G.iload_n (pc2 := 14) (x := p0) dX5_writeResident_13 rfl rfl rfl ?_
    refine G.zald (pc2 := 15) (q0 := 5) (j := ix p0) (v := u.2.1.2.1 (ix p0)) rfl (h0) rfl dX5_writeResident_14 rfl ?_
    refine G.if_ne (pc2 := 18) (tgt := 20) dX5_writeResident_15 rfl rfl (fun c_15 => ?_) (fun c_15 => ?_)
    · refine G.aload_n (pc2 := 21) (x := a 0) dX5_writeResident_20 rfl rfl rfl ?_
      refine G.iload_n (pc2 := 22) (x := p0) dX5_writeResident_21 rfl rfl rfl ?_
      refine G.aload_n (pc2 := 23) (x := a 0) dX5_writeResident_22 rfl rfl rfl ?_
      refine G.getf (pc2 := 26) (q0 := 0) (ci := 5) (k := 12) (v := .ref (a 2)) iX5_writeResident_X5 kX5_writeResident_13 rfl rfl (by decide) rfl dX5_writeResident_23 rfl ?_
      refine G.iload_n (pc2 := 27) (x := p0) dX5_writeResident_26 rfl rfl rfl ?_
      refine G.iald (pc2 := 28) (q0 := 2) (j := ix p0) (v := u.2.1.2.2.1 (ix p0)) rfl (h0) rfl dX5_writeResident_27 rfl ?_
      refine G.callVd (pc2 := 31) (i := 0) (j := 10) (q0 := 0) (ci := 5) (As := [.int p0, .int (u.2.1.2.2.1 (ix p0))]) (rest := []) (ws2 := wM a cI cZ (sX5_writeToDisk u p0 (u.2.1.2.2.1 (ix p0)))) (st2 := []) (c_X5_writeToDisk (cI := cI) (cZ := cZ) a u p0 (u.2.1.2.2.1 (ix p0)) (h0)) gX5_writeResident_X5_writeToDisk rfl rfl rfl ndX5_writeToDisk ⟨Nat.le_of_ble_eq_true rfl, Nat.le_of_ble_eq_true rfl⟩ ⟨Nat.le_of_ble_eq_true rfl, Nat.le_of_ble_eq_true rfl⟩ rfl rfl (Nat.le_of_ble_eq_true rfl) rfl rfl rfl rfl rfl rfl dX5_writeResident_28 rfl ?_
      generalize et_28 : sX5_writeToDisk u p0 (u.2.1.2.2.1 (ix p0)) = t_28
      refine G.aload_n (pc2 := 32) (x := a 0) dX5_writeResident_31 rfl rfl rfl ?_
      refine G.getf (pc2 := 35) (q0 := 0) (ci := 5) (k := 15) (v := .ref (a 5)) iX5_writeResident_X5 kX5_writeResident_23 rfl rfl (by decide) rfl dX5_writeResident_32 rfl ?_
      refine G.iload_n (pc2 := 36) (x := p0) dX5_writeResident_35 rfl rfl rfl ?_
      refine G.iconst (pc2 := 37) (v := 0) dX5_writeResident_36 (by decide) rfl ?_
      refine G.zast (y := 0) (pc2 := 38) (q0 := 5) (j := ix p0) (ws2 := wM a cI cZ (t_28.1, (t_28.2.1.1, upd t_28.2.1.2.1 (ix p0) 0, t_28.2.1.2.2.1, t_28.2.1.2.2.2.1, t_28.2.1.2.2.2.2), t_28.2.2.1, t_28.2.2.2.1, t_28.2.2.2.2)) rfl (h0) rfl rfl dX5_writeResident_37 rfl ?_
      refine G.iconst (pc2 := 39) (v := 1) dX5_writeResident_38 (by decide) rfl ?_
      subst et_28
      exact G.ireturn hR (rfl) dX5_writeResident_39 ⟨congrArg some (by simp only [vX5_writeResident, if_neg c_6, if_neg c_15]), congrArg (wM a cI cZ) (by simp only [sX5_writeResident, if_neg c_6, if_neg c_15])⟩
    · refine G.iconst (pc2 := 19) (v := 0) dX5_writeResident_18 (by decide) rfl ?_
      exact G.ireturn hR (rfl) dX5_writeResident_19 ⟨congrArg some (by simp only [vX5_writeResident, if_neg c_6, if_pos c_15]), congrArg (wM a cI cZ) (by simp only [sX5_writeResident, if_neg c_6, if_pos c_15])⟩
set_option maxRecDepth 100000 in
set_option maxHeartbeats 4000000 in
theorem c_X5_flush {cI cZ : ClassId} (a : Nat → Nat) (u : SM) (p0 : Int32) (hq : QW u.2.2.1) : Ct yX5_flush wsX5_flush rX5_flush cI cZ [.ref (a 0), .int p0] (wM a cI cZ u) 0 0 (rt (some (vX5_flush u p0)) (wM a cI cZ (sX5_flush u p0))) := by
  refine Ct.of (cc := cX5_flush) (nL := 3) (own := RX5) (by decide) rfl rfl (Nat.le_of_ble_eq_true rfl) rfl ?_
  intro K hR hN
  refine G.iload_n (pc2 := 1) (x := p0) dX5_flush_0 rfl rfl rfl ?_
  refine G.callSd (pc2 := 4) (i := 0) (j := 0) (As := [.int p0]) (rest := []) (ws2 := wM a cI cZ u) (st2 := [.int (vX5_isPage p0)]) (c_X5_isPage (cI := cI) (cZ := cZ) p0) gX5_flush_X5_isPage rfl rfl rfl ndX5_isPage.2 ⟨Nat.le_of_ble_eq_true rfl, Nat.le_of_ble_eq_true rfl⟩ ⟨Nat.le_of_ble_eq_true rfl, Nat.le_of_ble_eq_true rfl⟩ rfl rfl (Nat.le_of_ble_eq_true rfl) rfl rfl rfl dX5_flush_1 rfl ?_
  generalize ev_1 : vX5_isPage p0 = v_1
  refine G.if_ne (pc2 := 7) (tgt := 9) dX5_flush_4 rfl rfl (fun c_4 => ?_) (fun c_4 => ?_)
  · refine G.aload_n (pc2 := 10) (x := a 0) dX5_flush_9 rfl rfl rfl ?_
    refine G.iload_n (pc2 := 11) (x := p0) dX5_flush_10 rfl rfl rfl ?_
    refine G.callVd (pc2 := 14) (i := 0) (j := 10) (q0 := 0) (ci := 5) (As := [.int p0]) (rest := []) (ws2 := wM a cI cZ (sX5_writeResident u p0)) (st2 := [.int (vX5_writeResident u p0)]) (c_X5_writeResident (cI := cI) (cZ := cZ) a u p0 (by subst ev_1; exact (pgM c_4))) gX5_flush_X5_writeResident rfl rfl rfl ndX5_writeResident ⟨Nat.le_of_ble_eq_true rfl, Nat.le_of_ble_eq_true rfl⟩ ⟨Nat.le_of_ble_eq_true rfl, Nat.le_of_ble_eq_true rfl⟩ rfl rfl (Nat.le_of_ble_eq_true rfl) rfl rfl rfl rfl rfl rfl dX5_flush_11 rfl ?_
    generalize ev_11 : vX5_writeResident u p0 = v_11
    generalize et_11 : sX5_writeResident u p0 = t_11
    refine G.if_eq (pc2 := 17) (tgt := 19) dX5_flush_14 rfl rfl (fun c_14 => ?_) (fun c_14 => ?_)
    · refine G.aload_n (pc2 := 20) (x := a 0) dX5_flush_19 rfl rfl rfl ?_
      refine G.iload_n (pc2 := 21) (x := p0) dX5_flush_20 rfl rfl rfl ?_
      refine G.callVd (pc2 := 24) (i := 0) (j := 10) (q0 := 0) (ci := 5) (As := [.int p0]) (rest := []) (ws2 := wM a cI cZ t_11) (st2 := [.int (vX5_positionInQueue t_11 p0)]) (c_X5_positionInQueue (cI := cI) (cZ := cZ) a t_11 p0 (by subst et_11 ev_11 ev_1; exact (qw_wr hq))) gX5_flush_X5_positionInQueue rfl rfl rfl ndX5_positionInQueue ⟨Nat.le_of_ble_eq_true rfl, Nat.le_of_ble_eq_true rfl⟩ ⟨Nat.le_of_ble_eq_true rfl, Nat.le_of_ble_eq_true rfl⟩ rfl rfl (Nat.le_of_ble_eq_true rfl) rfl rfl rfl rfl rfl rfl dX5_flush_21 rfl ?_
      generalize ev_21 : vX5_positionInQueue t_11 p0 = v_21
      refine G.istore_n (pc2 := 25) (lv2 := [(0, .ref (a 0)), (1, .int p0), (2, .int v_21)]) [1, 2, 0] dX5_flush_24 rfl (by decide) rfl rfl ?_
      refine G.iload_n (pc2 := 26) (x := v_21) dX5_flush_25 rfl rfl rfl ?_
      refine G.bipush (pc2 := 28) (v := (-9)) dX5_flush_26 (by decide) rfl ?_
      refine G.icmp_ne (pc2 := 31) (tgt := 33) dX5_flush_28 rfl rfl (fun c_28 => ?_) (fun c_28 => ?_)
      · refine G.aload_n (pc2 := 34) (x := a 0) dX5_flush_33 rfl rfl rfl ?_
        refine G.iload_n (pc2 := 35) (x := p0) dX5_flush_34 rfl rfl rfl ?_
        refine G.aload_n (pc2 := 36) (x := a 0) dX5_flush_35 rfl rfl rfl ?_
        refine G.getf (pc2 := 39) (q0 := 0) (ci := 5) (k := 19) (v := .ref (a 9)) iX5_flush_X5 kX5_flush_35 rfl rfl (by decide) rfl dX5_flush_36 rfl ?_
        refine G.iload_n (pc2 := 40) (x := v_21) dX5_flush_39 rfl rfl rfl ?_
        refine G.iald (pc2 := 41) (q0 := 9) (j := ix v_21) (v := t_11.2.2.1.2.1 (ix v_21)) rfl (by subst ev_21 et_11 ev_11 ev_1; exact (posIx (qw_wr hq) c_28)) rfl dX5_flush_40 rfl ?_
        refine G.callVd (pc2 := 44) (i := 0) (j := 10) (q0 := 0) (ci := 5) (As := [.int p0, .int (t_11.2.2.1.2.1 (ix v_21))]) (rest := []) (ws2 := wM a cI cZ (sX5_writeToDisk t_11 p0 (t_11.2.2.1.2.1 (ix v_21)))) (st2 := []) (c_X5_writeToDisk (cI := cI) (cZ := cZ) a t_11 p0 (t_11.2.2.1.2.1 (ix v_21)) (by subst ev_21 et_11 ev_11 ev_1; exact (pgM c_4))) gX5_flush_X5_writeToDisk rfl rfl rfl ndX5_writeToDisk ⟨Nat.le_of_ble_eq_true rfl, Nat.le_of_ble_eq_true rfl⟩ ⟨Nat.le_of_ble_eq_true rfl, Nat.le_of_ble_eq_true rfl⟩ rfl rfl (Nat.le_of_ble_eq_true rfl) rfl rfl rfl rfl rfl rfl dX5_flush_41 rfl ?_
        generalize et_41 : sX5_writeToDisk t_11 p0 (t_11.2.2.1.2.1 (ix v_21)) = t_41
        refine G.aload_n (pc2 := 45) (x := a 0) dX5_flush_44 rfl rfl rfl ?_
        refine G.iload_n (pc2 := 46) (x := v_21) dX5_flush_45 rfl rfl rfl ?_
        refine G.callVd (pc2 := 49) (i := 0) (j := 10) (q0 := 0) (ci := 5) (As := [.int v_21]) (rest := []) (ws2 := wM a cI cZ (sX5_removeEntry t_41 v_21)) (st2 := []) (c_X5_removeEntry (cI := cI) (cZ := cZ) a t_41 v_21 (by subst et_41 ev_21 et_11 ev_11 ev_1; exact (qw_wr hq)) (by subst et_41 ev_21 et_11 ev_11 ev_1; exact (posPE (qw_wr hq) c_28))) gX5_flush_X5_removeEntry rfl rfl rfl ndX5_removeEntry ⟨Nat.le_of_ble_eq_true rfl, Nat.le_of_ble_eq_true rfl⟩ ⟨Nat.le_of_ble_eq_true rfl, Nat.le_of_ble_eq_true rfl⟩ rfl rfl (Nat.le_of_ble_eq_true rfl) rfl rfl rfl rfl rfl rfl dX5_flush_46 rfl ?_
        generalize et_46 : sX5_removeEntry t_41 v_21 = t_46
        refine G.iconst (pc2 := 50) (v := 1) dX5_flush_49 (by decide) rfl ?_
        subst et_46 et_41 ev_21 et_11 ev_11 ev_1
        exact G.ireturn hR (rfl) dX5_flush_50 ⟨congrArg some (by simp only [vX5_flush, if_neg c_4, if_pos c_14, if_neg c_28]), congrArg (wM a cI cZ) (by simp only [sX5_flush, if_neg c_4, if_pos c_14, if_neg c_28])⟩
      · refine G.iconst (pc2 := 32) (v := 0) dX5_flush_31 (by decide) rfl ?_
        subst ev_21 et_11 ev_11 ev_1
        exact G.ireturn hR (rfl) dX5_flush_32 ⟨congrArg some (by simp only [vX5_flush, if_neg c_4, if_pos c_14, if_pos c_28]), congrArg (wM a cI cZ) (by simp only [sX5_flush, if_neg c_4, if_pos c_14, if_pos c_28])⟩
    · refine G.iconst (pc2 := 18) (v := 1) dX5_flush_17 (by decide) rfl ?_
      subst et_11 ev_11 ev_1
      exact G.ireturn hR (rfl) dX5_flush_18 ⟨congrArg some (by simp only [vX5_flush, if_neg c_4, if_neg c_14]), congrArg (wM a cI cZ) (by simp only [sX5_flush, if_neg c_4, if_neg c_14])⟩
  · refine G.iconst (pc2 := 8) (v := (-1)) dX5_flush_7 (by decide) rfl ?_
    subst ev_1
    exact G.ireturn hR (rfl) dX5_flush_8 ⟨congrArg some (by simp only [vX5_flush, if_pos c_4]), congrArg (wM a cI cZ) (by simp only [sX5_flush, if_pos c_4])⟩
set_option maxRecDepth 100000 in
set_option maxHeartbeats 4000000 in
theorem c_X5_flushAll {cI cZ : ClassId} (a : Nat → Nat) (u : SM) (hq : QW u.2.2.1) : Ct yX5_flushAll wsX5_flushAll rX5_flushAll cI cZ [.ref (a 0)] (wM a cI cZ u) 0 0 (rt (some (vX5_flushAll u)) (wM a cI cZ (sX5_flushAll u))) := by
  refine Ct.of (cc := cX5_flushAll) (nL := 4) (own := RX5) (by decide) rfl rfl (Nat.le_of_ble_eq_true rfl) rfl ?_
  intro K hR hN
  have loop23 : ∀ (n : Nat) (w : SM) (l1 l2 l3 : Int32), PI n l3 → vX5_flushAll u = lvX5_flushAll_23 n w l1 l2 l3 → sX5_flushAll u = lsX5_flushAll_23 n w l1 l2 l3 → G K cI cZ cX5_flushAll 4 RX5 wsX5_flushAll rX5_flushAll 0 0 (wM a cI cZ w) 23 [(0, .ref (a 0)), (1, .int l1), (2, .int l2), (3, .int l3)] [] := by
    intro n
    induction n with
    | zero =>
      intro w l1 l2 l3 hi hv hs
      exact absurd hi (PI.zero)
    | succ n ih =>
      intro w l1 l2 l3 hi hv hs
      refine G.iload_n (pc2 := 24) (x := l3) dX5_flushAll_23 rfl rfl rfl ?_
      refine G.bipush (pc2 := 26) (v := 64) dX5_flushAll_24 (by decide) rfl ?_
      refine G.icmp_ge (pc2 := 29) (tgt := 51) dX5_flushAll_26 rfl rfl (fun c_26 => ?_) (fun c_26 => ?_)
      · refine G.aload_n (pc2 := 52) (x := a 0) dX5_flushAll_51 rfl rfl rfl ?_
        refine G.getf (pc2 := 55) (q0 := 0) (ci := 5) (k := 9) (v := .int w.1.2.2) iX5_flushAll_X5 kX5_flushAll_74 rfl rfl (by decide) rfl dX5_flushAll_52 rfl ?_
        refine G.iload_n (pc2 := 56) (x := l1) dX5_flushAll_55 rfl rfl rfl ?_
        refine G.isub (pc2 := 57) (v := w.1.2.2 - l1) dX5_flushAll_56 rfl rfl ?_
        exact G.ireturn hR (rfl) dX5_flushAll_57 ⟨congrArg some (by rw [hv]; simp only [lvX5_flushAll_23, if_neg c_26]), congrArg (wM a cI cZ) (by rw [hs]; simp only [lsX5_flushAll_23, if_neg c_26])⟩
      · refine G.iload_n (pc2 := 30) (x := l2) dX5_flushAll_29 rfl rfl rfl ?_
        refine G.aload_n (pc2 := 31) (x := a 0) dX5_flushAll_30 rfl rfl rfl ?_
        refine G.iload_n (pc2 := 32) (x := l3) dX5_flushAll_31 rfl rfl rfl ?_
        refine G.callVd (pc2 := 35) (i := 0) (j := 10) (q0 := 0) (ci := 5) (As := [.int l3]) (rest := [.int l2]) (ws2 := wM a cI cZ (sX5_writeResident w l3)) (st2 := [.int (vX5_writeResident w l3), .int l2]) (c_X5_writeResident (cI := cI) (cZ := cZ) a w l3 (PI.pg hi c_26)) gX5_flushAll_X5_writeResident rfl rfl rfl ndX5_writeResident ⟨Nat.le_of_ble_eq_true rfl, Nat.le_of_ble_eq_true rfl⟩ ⟨Nat.le_of_ble_eq_true rfl, Nat.le_of_ble_eq_true rfl⟩ rfl rfl (Nat.le_of_ble_eq_true rfl) rfl rfl rfl rfl rfl rfl dX5_flushAll_32 rfl ?_
        generalize ev_32 : vX5_writeResident w l3 = v_32
        generalize et_32 : sX5_writeResident w l3 = t_32
        refine G.if_eq (pc2 := 38) (tgt := 42) dX5_flushAll_35 rfl rfl (fun c_35 => ?_) (fun c_35 => ?_)
        · refine G.iconst (pc2 := 43) (v := 0) dX5_flushAll_42 (by decide) rfl ?_
          refine G.iadd (pc2 := 44) (v := l2 + 0) dX5_flushAll_43 rfl rfl ?_
          refine G.istore_n (pc2 := 45) (lv2 := [(0, .ref (a 0)), (1, .int l1), (2, .int (l2 + 0)), (3, .int l3)]) [1, 2, 0, 3] dX5_flushAll_44 rfl (by decide) rfl rfl ?_
          refine G.iinc (pc2 := 48) (k := 3) (v := l3 + 1) (lv2 := [(0, .ref (a 0)), (1, .int l1), (2, .int (l2 + 0)), (3, .int (l3 + 1))]) [1, 2, 3, 0] dX5_flushAll_45 rfl rfl (by decide) rfl rfl ?_
          refine G.goto (tgt := 23) dX5_flushAll_48 rfl ?_
          subst et_32 ev_32
          exact ih  (sX5_writeResident w l3) l1 (l2 + 0) (l3 + 1) (PI.next hi c_26) (by rw [hv]; simp only [lvX5_flushAll_23, if_pos c_26, if_pos c_35]) (by rw [hs]; simp only [lsX5_flushAll_23, if_pos c_26, if_pos c_35])
        · refine G.iconst (pc2 := 39) (v := 1) dX5_flushAll_38 (by decide) rfl ?_
          refine G.goto (tgt := 43) dX5_flushAll_39 rfl ?_
          refine G.iadd (pc2 := 44) (v := l2 + 1) dX5_flushAll_43 rfl rfl ?_
          refine G.istore_n (pc2 := 45) (lv2 := [(0, .ref (a 0)), (1, .int l1), (2, .int (l2 + 1)), (3, .int l3)]) [1, 2, 0, 3] dX5_flushAll_44 rfl (by decide) rfl rfl ?_
          refine G.iinc (pc2 := 48) (k := 3) (v := l3 + 1) (lv2 := [(0, .ref (a 0)), (1, .int l1), (2, .int (l2 + 1)), (3, .int (l3 + 1))]) [1, 2, 3, 0] dX5_flushAll_45 rfl rfl (by decide) rfl rfl ?_
          refine G.goto (tgt := 23) dX5_flushAll_48 rfl ?_
          subst et_32 ev_32
          exact ih  (sX5_writeResident w l3) l1 (l2 + 1) (l3 + 1) (PI.next hi c_26) (by rw [hv]; simp only [lvX5_flushAll_23, if_pos c_26, if_neg c_35]) (by rw [hs]; simp only [lsX5_flushAll_23, if_pos c_26, if_neg c_35])
  have loop5 : ∀ (n : Nat) (w : SM) (l1 : Int32), WI n w.2.2.1 → vX5_flushAll u = lvX5_flushAll_5 n w l1 → sX5_flushAll u = lsX5_flushAll_5 n w l1 → G K cI cZ cX5_flushAll 4 RX5 wsX5_flushAll rX5_flushAll 0 0 (wM a cI cZ w) 5 [(0, .ref (a 0)), (1, .int l1)] [] := by
    intro n
    induction n with
    | zero =>
      intro w l1 hi hv hs
      exact absurd hi (WI.zero)
    | succ n ih =>
      intro w l1 hi hv hs
      refine G.aload_n (pc2 := 6) (x := a 0) dX5_flushAll_5 rfl rfl rfl ?_
      refine G.getf (pc2 := 9) (q0 := 0) (ci := 5) (k := 20) (v := .int w.2.2.1.2.2.2) iX5_flushAll_X5 kX5_flushAll_80 rfl rfl (by decide) rfl dX5_flushAll_6 rfl ?_
      refine G.if_le (pc2 := 12) (tgt := 19) dX5_flushAll_9 rfl rfl (fun c_9 => ?_) (fun c_9 => ?_)
      · refine G.iconst (pc2 := 20) (v := 0) dX5_flushAll_19 (by decide) rfl ?_
        refine G.istore_n (pc2 := 21) (lv2 := [(0, .ref (a 0)), (1, .int l1), (2, .int 0)]) [1, 2, 0] dX5_flushAll_20 rfl (by decide) rfl rfl ?_
        refine G.iconst (pc2 := 22) (v := 0) dX5_flushAll_21 (by decide) rfl ?_
        refine G.istore_n (pc2 := 23) (lv2 := [(0, .ref (a 0)), (1, .int l1), (2, .int 0), (3, .int 0)]) [1, 2, 3, 0] dX5_flushAll_22 rfl (by decide) rfl rfl ?_
        exact loop23 65 w l1 0 0 (PI.start) (by rw [hv]; simp only [lvX5_flushAll_5, if_neg c_9]) (by rw [hs]; simp only [lsX5_flushAll_5, if_neg c_9])
      · refine G.aload_n (pc2 := 13) (x := a 0) dX5_flushAll_12 rfl rfl rfl ?_
        refine G.callVd (pc2 := 16) (i := 0) (j := 10) (q0 := 0) (ci := 5) (As := []) (rest := []) (ws2 := wM a cI cZ (sX5_writeOldest w)) (st2 := []) (c_X5_writeOldest (cI := cI) (cZ := cZ) a w (WI.qw hi) (WI.pe hi c_9)) gX5_flushAll_X5_writeOldest rfl rfl rfl ndX5_writeOldest ⟨Nat.le_of_ble_eq_true rfl, Nat.le_of_ble_eq_true rfl⟩ ⟨Nat.le_of_ble_eq_true rfl, Nat.le_of_ble_eq_true rfl⟩ rfl rfl (Nat.le_of_ble_eq_true rfl) rfl rfl rfl rfl rfl rfl dX5_flushAll_13 rfl ?_
        generalize et_13 : sX5_writeOldest w = t_13
        refine G.goto (tgt := 5) dX5_flushAll_16 rfl ?_
        subst et_13
        exact ih  (sX5_writeOldest w) l1 (WI.next hi c_9) (by rw [hv]; simp only [lvX5_flushAll_5, if_pos c_9]) (by rw [hs]; simp only [lsX5_flushAll_5, if_pos c_9])
  refine G.aload_n (pc2 := 1) (x := a 0) dX5_flushAll_0 rfl rfl rfl ?_
  refine G.getf (pc2 := 4) (q0 := 0) (ci := 5) (k := 9) (v := .int u.1.2.2) iX5_flushAll_X5 kX5_flushAll_74 rfl rfl (by decide) rfl dX5_flushAll_1 rfl ?_
  refine G.istore_n (pc2 := 5) (lv2 := [(0, .ref (a 0)), (1, .int u.1.2.2)]) [1, 0] dX5_flushAll_4 rfl (by decide) rfl rfl ?_
  exact loop5 9 u u.1.2.2 (WI.start hq) (rfl) (rfl)
