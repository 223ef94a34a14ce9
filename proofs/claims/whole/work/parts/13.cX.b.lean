set_option maxRecDepth 100000 in
set_option maxHeartbeats 4000000 in
theorem c_X4_makeRoom {cI cZ : ClassId} (a : Nat → Nat) (u : SX) (hq : QW u.2.2.1) (hh : HW u.2.2.2.1) (hf : FW u.2.1) : Ct yX4_makeRoom wsX4_makeRoom rX4_makeRoom cI cZ [.ref (a 0)] (wX a cI cZ u) 0 0 (rt (none) (wX a cI cZ (sX4_makeRoom u))) := by
  refine Ct.of (cc := cX4_makeRoom) (nL := 2) (own := RX4) (by decide) rfl rfl (Nat.le_of_ble_eq_true rfl) rfl ?_
  intro K hR hN
  refine G.aload_n (pc2 := 1) (x := a 0) dX4_makeRoom_0 rfl rfl rfl ?_
  refine G.getf (pc2 := 4) (q0 := 0) (ci := 4) (k := 1) (v := .ref (a 3)) iX4_makeRoom_X4 kX4_makeRoom_19 rfl rfl (by decide) rfl dX4_makeRoom_1 rfl ?_
  refine G.callVd (pc2 := 7) (i := 3) (j := 8) (q0 := 3) (ci := 1) (As := []) (rest := []) (ws2 := wX a cI cZ u) (st2 := [.int (vX1_areFull u.2.1)]) (c_X1_areFull (cI := cI) (cZ := cZ) (a 3) (a 4) (a 5) (a 6) (a 7) u.2.1) gX4_makeRoom_X1_areFull rfl rfl rfl ndX1_areFull ⟨Nat.le_of_ble_eq_true rfl, Nat.le_of_ble_eq_true rfl⟩ ⟨Nat.le_of_ble_eq_true rfl, Nat.le_of_ble_eq_true rfl⟩ rfl rfl (Nat.le_of_ble_eq_true rfl) rfl rfl rfl rfl rfl rfl dX4_makeRoom_4 rfl ?_
  generalize ev_4 : vX1_areFull u.2.1 = v_4
  refine G.if_ne (pc2 := 10) (tgt := 11) dX4_makeRoom_7 rfl rfl (fun c_7 => ?_) (fun c_7 => ?_)
  · refine G.aload_n (pc2 := 12) (x := a 0) dX4_makeRoom_11 rfl rfl rfl ?_
    refine G.callVd (pc2 := 15) (i := 0) (j := 14) (q0 := 0) (ci := 4) (As := []) (rest := []) (ws2 := wX a cI cZ u) (st2 := [.int (vX4_chooseVictim u)]) (c_X4_chooseVictim (cI := cI) (cZ := cZ) a u (hh) (hf)) gX4_makeRoom_X4_chooseVictim rfl rfl rfl ndX4_chooseVictim ⟨Nat.le_of_ble_eq_true rfl, Nat.le_of_ble_eq_true rfl⟩ ⟨Nat.le_of_ble_eq_true rfl, Nat.le_of_ble_eq_true rfl⟩ rfl rfl (Nat.le_of_ble_eq_true rfl) rfl rfl rfl rfl rfl rfl dX4_makeRoom_12 rfl ?_
    generalize ev_12 : vX4_chooseVictim u = v_12
    refine G.istore_n (pc2 := 16) (lv2 := [(0, .ref (a 0)), (1, .int v_12)]) [1, 0] dX4_makeRoom_15 rfl (by decide) rfl rfl ?_
    refine G.iload_n (pc2 := 17) (x := v_12) dX4_makeRoom_16 rfl rfl rfl ?_
    refine G.bipush (pc2 := 19) (v := (-9)) dX4_makeRoom_17 (by decide) rfl ?_
    refine G.icmp_ne (pc2 := 22) (tgt := 23) dX4_makeRoom_19 rfl rfl (fun c_19 => ?_) (fun c_19 => ?_)
    · refine G.aload_n (pc2 := 24) (x := a 0) dX4_makeRoom_23 rfl rfl rfl ?_
      refine G.getf (pc2 := 27) (q0 := 0) (ci := 4) (k := 1) (v := .ref (a 3)) iX4_makeRoom_X4 kX4_makeRoom_19 rfl rfl (by decide) rfl dX4_makeRoom_24 rfl ?_
      refine G.iload_n (pc2 := 28) (x := v_12) dX4_makeRoom_27 rfl rfl rfl ?_
      refine G.callVd (pc2 := 31) (i := 3) (j := 8) (q0 := 3) (ci := 1) (As := [.int v_12]) (rest := []) (ws2 := wX a cI cZ u) (st2 := [.int (vX1_isChanged u.2.1 v_12)]) (c_X1_isChanged (cI := cI) (cZ := cZ) (a 3) (a 4) (a 5) (a 6) (a 7) u.2.1 v_12 (by subst ev_12 ev_4; exact ((victim_pg u).resolve_left c_19)) (hf)) gX4_makeRoom_X1_isChanged rfl rfl rfl ndX1_isChanged ⟨Nat.le_of_ble_eq_true rfl, Nat.le_of_ble_eq_true rfl⟩ ⟨Nat.le_of_ble_eq_true rfl, Nat.le_of_ble_eq_true rfl⟩ rfl rfl (Nat.le_of_ble_eq_true rfl) rfl rfl rfl rfl rfl rfl dX4_makeRoom_28 rfl ?_
      generalize ev_28 : vX1_isChanged u.2.1 v_12 = v_28
      refine G.if_eq (pc2 := 34) (tgt := 39) dX4_makeRoom_31 rfl rfl (fun c_31 => ?_) (fun c_31 => ?_)
      · refine G.aload_n (pc2 := 40) (x := a 0) dX4_makeRoom_39 rfl rfl rfl ?_
        refine G.getf (pc2 := 43) (q0 := 0) (ci := 4) (k := 1) (v := .ref (a 3)) iX4_makeRoom_X4 kX4_makeRoom_19 rfl rfl (by decide) rfl dX4_makeRoom_40 rfl ?_
        refine G.iload_n (pc2 := 44) (x := v_12) dX4_makeRoom_43 rfl rfl rfl ?_
        refine G.callVd (pc2 := 47) (i := 3) (j := 8) (q0 := 3) (ci := 1) (As := [.int v_12]) (rest := []) (ws2 := wX a cI cZ (u.1, (sX1_release u.2.1 v_12), u.2.2.1, u.2.2.2.1, u.2.2.2.2)) (st2 := []) (c_X1_release (cI := cI) (cZ := cZ) (a 3) (a 4) (a 5) (a 6) (a 7) u.2.1 v_12 (by subst ev_28 ev_12 ev_4; exact ((victim_pg u).resolve_left c_19))) gX4_makeRoom_X1_release rfl rfl rfl ndX1_release ⟨Nat.le_of_ble_eq_true rfl, Nat.le_of_ble_eq_true rfl⟩ ⟨Nat.le_of_ble_eq_true rfl, Nat.le_of_ble_eq_true rfl⟩ rfl rfl (Nat.le_of_ble_eq_true rfl) rfl rfl rfl rfl rfl rfl dX4_makeRoom_44 rfl ?_
        generalize et_44 : sX1_release u.2.1 v_12 = t_44
        refine G.aload_n (pc2 := 48) (x := a 0) dX4_makeRoom_47 rfl rfl rfl ?_
        refine G.dup (pc2 := 49) dX4_makeRoom_48 rfl rfl ?_
        refine G.getf (pc2 := 52) (q0 := 0) (ci := 4) (k := 8) (v := .int u.2.2.2.2.2.2.2.2.1) iX4_makeRoom_X4 kX4_makeRoom_135 rfl rfl (by decide) rfl dX4_makeRoom_49 rfl ?_
        refine G.iconst (pc2 := 53) (v := 1) dX4_makeRoom_52 (by decide) rfl ?_
        refine G.iadd (pc2 := 54) (v := u.2.2.2.2.2.2.2.2.1 + 1) dX4_makeRoom_53 rfl rfl ?_
        refine G.putf (pc2 := 57) (q0 := 0) (ci := 4) (k := 8) (ws2 := wX a cI cZ (u.1, t_44, u.2.2.1, u.2.2.2.1, (u.2.2.2.2.1, u.2.2.2.2.2.1, u.2.2.2.2.2.2.1, u.2.2.2.2.2.2.2.1, u.2.2.2.2.2.2.2.2.1 + 1, u.2.2.2.2.2.2.2.2.2))) iX4_makeRoom_X4 kX4_makeRoom_135 tyX4_ok nmX4 rfl rfl (by decide) rfl rfl rfl (Nat.le_of_ble_eq_true rfl) rfl dX4_makeRoom_54 rfl ?_
        subst et_44 ev_28 ev_12 ev_4
        exact G.vreturn hR dX4_makeRoom_57 ⟨rfl, congrArg (wX a cI cZ) (by simp only [sX4_makeRoom, if_neg c_7, if_neg c_19, if_pos c_31])⟩
      · refine G.aload_n (pc2 := 35) (x := a 0) dX4_makeRoom_34 rfl rfl rfl ?_
        refine G.iload_n (pc2 := 36) (x := v_12) dX4_makeRoom_35 rfl rfl rfl ?_
        refine G.callVd (pc2 := 39) (i := 0) (j := 14) (q0 := 0) (ci := 4) (As := [.int v_12]) (rest := []) (ws2 := wX a cI cZ (sX4_enqueue u v_12)) (st2 := []) (c_X4_enqueue (cI := cI) (cZ := cZ) a u v_12 (by subst ev_28 ev_12 ev_4; exact ((victim_pg u).resolve_left c_19)) (hq)) gX4_makeRoom_X4_enqueue rfl rfl rfl ndX4_enqueue ⟨Nat.le_of_ble_eq_true rfl, Nat.le_of_ble_eq_true rfl⟩ ⟨Nat.le_of_ble_eq_true rfl, Nat.le_of_ble_eq_true rfl⟩ rfl rfl (Nat.le_of_ble_eq_true rfl) rfl rfl rfl rfl rfl rfl dX4_makeRoom_36 rfl ?_
        generalize et_36 : sX4_enqueue u v_12 = t_36
        refine G.aload_n (pc2 := 40) (x := a 0) dX4_makeRoom_39 rfl rfl rfl ?_
        refine G.getf (pc2 := 43) (q0 := 0) (ci := 4) (k := 1) (v := .ref (a 3)) iX4_makeRoom_X4 kX4_makeRoom_19 rfl rfl (by decide) rfl dX4_makeRoom_40 rfl ?_
        refine G.iload_n (pc2 := 44) (x := v_12) dX4_makeRoom_43 rfl rfl rfl ?_
        refine G.callVd (pc2 := 47) (i := 3) (j := 8) (q0 := 3) (ci := 1) (As := [.int v_12]) (rest := []) (ws2 := wX a cI cZ (t_36.1, (sX1_release t_36.2.1 v_12), t_36.2.2.1, t_36.2.2.2.1, t_36.2.2.2.2)) (st2 := []) (c_X1_release (cI := cI) (cZ := cZ) (a 3) (a 4) (a 5) (a 6) (a 7) t_36.2.1 v_12 (by subst et_36 ev_28 ev_12 ev_4; exact ((victim_pg u).resolve_left c_19))) gX4_makeRoom_X1_release rfl rfl rfl ndX1_release ⟨Nat.le_of_ble_eq_true rfl, Nat.le_of_ble_eq_true rfl⟩ ⟨Nat.le_of_ble_eq_true rfl, Nat.le_of_ble_eq_true rfl⟩ rfl rfl (Nat.le_of_ble_eq_true rfl) rfl rfl rfl rfl rfl rfl dX4_makeRoom_44 rfl ?_
        generalize et_44 : sX1_release t_36.2.1 v_12 = t_44
        refine G.aload_n (pc2 := 48) (x := a 0) dX4_makeRoom_47 rfl rfl rfl ?_
        refine G.dup (pc2 := 49) dX4_makeRoom_48 rfl rfl ?_
        refine G.getf (pc2 := 52) (q0 := 0) (ci := 4) (k := 8) (v := .int t_36.2.2.2.2.2.2.2.2.1) iX4_makeRoom_X4 kX4_makeRoom_135 rfl rfl (by decide) rfl dX4_makeRoom_49 rfl ?_
        refine G.iconst (pc2 := 53) (v := 1) dX4_makeRoom_52 (by decide) rfl ?_
        refine G.iadd (pc2 := 54) (v := t_36.2.2.2.2.2.2.2.2.1 + 1) dX4_makeRoom_53 rfl rfl ?_
        refine G.putf (pc2 := 57) (q0 := 0) (ci := 4) (k := 8) (ws2 := wX a cI cZ (t_36.1, t_44, t_36.2.2.1, t_36.2.2.2.1, (t_36.2.2.2.2.1, t_36.2.2.2.2.2.1, t_36.2.2.2.2.2.2.1, t_36.2.2.2.2.2.2.2.1, t_36.2.2.2.2.2.2.2.2.1 + 1, t_36.2.2.2.2.2.2.2.2.2))) iX4_makeRoom_X4 kX4_makeRoom_135 tyX4_ok nmX4 rfl rfl (by decide) rfl rfl rfl (Nat.le_of_ble_eq_true rfl) rfl dX4_makeRoom_54 rfl ?_
        subst et_44 et_36 ev_28 ev_12 ev_4
        exact G.vreturn hR dX4_makeRoom_57 ⟨rfl, congrArg (wX a cI cZ) (by simp only [sX4_makeRoom, if_neg c_7, if_neg c_19, if_neg c_31])⟩
    · subst ev_12 ev_4
      exact G.vreturn hR dX4_makeRoom_22 ⟨rfl, congrArg (wX a cI cZ) (by simp only [sX4_makeRoom, if_neg c_7, if_pos c_19])⟩
  · subst ev_4
    exact G.vreturn hR dX4_makeRoom_10 ⟨rfl, congrArg (wX a cI cZ) (by simp only [sX4_makeRoom, if_pos c_7])⟩
set_option maxRecDepth 100000 in
set_option maxHeartbeats 4000000 in
theorem c_X4_load {cI cZ : ClassId} (a : Nat → Nat) (u : SX) (p0 : Int32) (h0 : Pg p0) (hq : QW u.2.2.1) : Ct yX4_load wsX4_load rX4_load cI cZ [.ref (a 0), .int p0] (wX a cI cZ u) 0 0 (rt (none) (wX a cI cZ (sX4_load u p0))) := by
  refine Ct.of (cc := cX4_load) (nL := 4) (own := RX4) (by decide) rfl rfl (Nat.le_of_ble_eq_true rfl) rfl ?_
  intro K hR hN
  refine G.aload_n (pc2 := 1) (x := a 0) dX4_load_0 rfl rfl rfl ?_
  refine G.getf (pc2 := 4) (q0 := 0) (ci := 4) (k := 2) (v := .ref (a 8)) iX4_load_X4 kX4_load_26 rfl rfl (by decide) rfl dX4_load_1 rfl ?_
  refine G.iload_n (pc2 := 5) (x := p0) dX4_load_4 rfl rfl rfl ?_
  refine G.callVd (pc2 := 8) (i := 8) (j := 11) (q0 := 8) (ci := 3) (As := [.int p0]) (rest := []) (ws2 := wX a cI cZ u) (st2 := [.int (vX3_positionOf u.2.2.1 p0)]) (c_X3_positionOf (cI := cI) (cZ := cZ) (a 8) (a 9) (a 10) u.2.2.1 p0 (hq)) gX4_load_X3_positionOf rfl rfl rfl ndX3_positionOf ⟨Nat.le_of_ble_eq_true rfl, Nat.le_of_ble_eq_true rfl⟩ ⟨Nat.le_of_ble_eq_true rfl, Nat.le_of_ble_eq_true rfl⟩ rfl rfl (Nat.le_of_ble_eq_true rfl) rfl rfl rfl rfl rfl rfl dX4_load_5 rfl ?_
  generalize ev_5 : vX3_positionOf u.2.2.1 p0 = v_5
  refine G.istore_n (pc2 := 9) (lv2 := [(0, .ref (a 0)), (1, .int p0), (2, .int v_5)]) [1, 2, 0] dX4_load_8 rfl (by decide) rfl rfl ?_
  refine G.iload_n (pc2 := 10) (x := v_5) dX4_load_9 rfl rfl rfl ?_
  refine G.bipush (pc2 := 12) (v := (-9)) dX4_load_10 (by decide) rfl ?_
  refine G.icmp_ne (pc2 := 15) (tgt := 32) dX4_load_12 rfl rfl (fun c_12 => ?_) (fun c_12 => ?_)
  · refine G.aload_n (pc2 := 33) (x := a 0) dX4_load_32 rfl rfl rfl ?_
    refine G.getf (pc2 := 36) (q0 := 0) (ci := 4) (k := 2) (v := .ref (a 8)) iX4_load_X4 kX4_load_26 rfl rfl (by decide) rfl dX4_load_33 rfl ?_
    refine G.iload_n (pc2 := 37) (x := v_5) dX4_load_36 rfl rfl rfl ?_
    refine G.callVd (pc2 := 40) (i := 8) (j := 11) (q0 := 8) (ci := 3) (As := [.int v_5]) (rest := []) (ws2 := wX a cI cZ u) (st2 := [.int (vX3_valueAt u.2.2.1 v_5)]) (c_X3_valueAt (cI := cI) (cZ := cZ) (a 8) (a 9) (a 10) u.2.2.1 v_5 (hq)) gX4_load_X3_valueAt rfl rfl rfl ndX3_valueAt ⟨Nat.le_of_ble_eq_true rfl, Nat.le_of_ble_eq_true rfl⟩ ⟨Nat.le_of_ble_eq_true rfl, Nat.le_of_ble_eq_true rfl⟩ rfl rfl (Nat.le_of_ble_eq_true rfl) rfl rfl rfl rfl rfl rfl dX4_load_37 rfl ?_
    generalize ev_37 : vX3_valueAt u.2.2.1 v_5 = v_37
    refine G.istore_n (pc2 := 41) (lv2 := [(0, .ref (a 0)), (1, .int p0), (2, .int v_5), (3, .int v_37)]) [1, 2, 3, 0] dX4_load_40 rfl (by decide) rfl rfl ?_
    refine G.aload_n (pc2 := 42) (x := a 0) dX4_load_41 rfl rfl rfl ?_
    refine G.getf (pc2 := 45) (q0 := 0) (ci := 4) (k := 2) (v := .ref (a 8)) iX4_load_X4 kX4_load_26 rfl rfl (by decide) rfl dX4_load_42 rfl ?_
    refine G.iload_n (pc2 := 46) (x := v_5) dX4_load_45 rfl rfl rfl ?_
    refine G.callVd (pc2 := 49) (i := 8) (j := 11) (q0 := 8) (ci := 3) (As := [.int v_5]) (rest := []) (ws2 := wX a cI cZ (u.1, u.2.1, (sX3_removeAt u.2.2.1 v_5), u.2.2.2.1, u.2.2.2.2)) (st2 := []) (c_X3_removeAt (cI := cI) (cZ := cZ) (a 8) (a 9) (a 10) u.2.2.1 v_5 (hq)) gX4_load_X3_removeAt rfl rfl rfl ndX3_removeAt ⟨Nat.le_of_ble_eq_true rfl, Nat.le_of_ble_eq_true rfl⟩ ⟨Nat.le_of_ble_eq_true rfl, Nat.le_of_ble_eq_true rfl⟩ rfl rfl (Nat.le_of_ble_eq_true rfl) rfl rfl rfl rfl rfl rfl dX4_load_46 rfl ?_
    generalize et_46 : sX3_removeAt u.2.2.1 v_5 = t_46
    refine G.aload_n (pc2 := 50) (x := a 0) dX4_load_49 rfl rfl rfl ?_
    refine G.getf (pc2 := 53) (q0 := 0) (ci := 4) (k := 1) (v := .ref (a 3)) iX4_load_X4 kX4_load_19 rfl rfl (by decide) rfl dX4_load_50 rfl ?_
    refine G.iload_n (pc2 := 54) (x := p0) dX4_load_53 rfl rfl rfl ?_
    refine G.iload_n (pc2 := 55) (x := v_37) dX4_load_54 rfl rfl rfl ?_
    refine G.callVd (pc2 := 58) (i := 3) (j := 8) (q0 := 3) (ci := 1) (As := [.int p0, .int v_37]) (rest := []) (ws2 := wX a cI cZ (u.1, (sX1_place u.2.1 p0 v_37), t_46, u.2.2.2.1, u.2.2.2.2)) (st2 := []) (c_X1_place (cI := cI) (cZ := cZ) (a 3) (a 4) (a 5) (a 6) (a 7) u.2.1 p0 v_37 (h0)) gX4_load_X1_place rfl rfl rfl ndX1_place ⟨Nat.le_of_ble_eq_true rfl, Nat.le_of_ble_eq_true rfl⟩ ⟨Nat.le_of_ble_eq_true rfl, Nat.le_of_ble_eq_true rfl⟩ rfl rfl (Nat.le_of_ble_eq_true rfl) rfl rfl rfl rfl rfl rfl dX4_load_55 rfl ?_
    generalize et_55 : sX1_place u.2.1 p0 v_37 = t_55
    refine G.aload_n (pc2 := 59) (x := a 0) dX4_load_58 rfl rfl rfl ?_
    refine G.getf (pc2 := 62) (q0 := 0) (ci := 4) (k := 1) (v := .ref (a 3)) iX4_load_X4 kX4_load_19 rfl rfl (by decide) rfl dX4_load_59 rfl ?_
    refine G.iload_n (pc2 := 63) (x := p0) dX4_load_62 rfl rfl rfl ?_
    refine G.iload_n (pc2 := 64) (x := v_37) dX4_load_63 rfl rfl rfl ?_
    refine G.callVd (pc2 := 67) (i := 3) (j := 8) (q0 := 3) (ci := 1) (As := [.int p0, .int v_37]) (rest := []) (ws2 := wX a cI cZ (u.1, (sX1_change t_55 p0 v_37), t_46, u.2.2.2.1, u.2.2.2.2)) (st2 := []) (c_X1_change (cI := cI) (cZ := cZ) (a 3) (a 4) (a 5) (a 6) (a 7) t_55 p0 v_37 (h0)) gX4_load_X1_change rfl rfl rfl ndX1_change ⟨Nat.le_of_ble_eq_true rfl, Nat.le_of_ble_eq_true rfl⟩ ⟨Nat.le_of_ble_eq_true rfl, Nat.le_of_ble_eq_true rfl⟩ rfl rfl (Nat.le_of_ble_eq_true rfl) rfl rfl rfl rfl rfl rfl dX4_load_64 rfl ?_
    generalize et_64 : sX1_change t_55 p0 v_37 = t_64
    subst et_64 et_55 et_46 ev_37 ev_5
    exact G.vreturn hR dX4_load_67 ⟨rfl, congrArg (wX a cI cZ) (by simp only [sX4_load, if_neg c_12])⟩
  · refine G.aload_n (pc2 := 16) (x := a 0) dX4_load_15 rfl rfl rfl ?_
    refine G.getf (pc2 := 19) (q0 := 0) (ci := 4) (k := 1) (v := .ref (a 3)) iX4_load_X4 kX4_load_19 rfl rfl (by decide) rfl dX4_load_16 rfl ?_
    refine G.iload_n (pc2 := 20) (x := p0) dX4_load_19 rfl rfl rfl ?_
    refine G.aload_n (pc2 := 21) (x := a 0) dX4_load_20 rfl rfl rfl ?_
    refine G.getf (pc2 := 24) (q0 := 0) (ci := 4) (k := 0) (v := .ref (a 1)) iX4_load_X4 kX4_load_10 rfl rfl (by decide) rfl dX4_load_21 rfl ?_
    refine G.iload_n (pc2 := 25) (x := p0) dX4_load_24 rfl rfl rfl ?_
    refine G.callVd (pc2 := 28) (i := 1) (j := 3) (q0 := 1) (ci := 0) (As := [.int p0]) (rest := [.int p0, .ref (a 3)]) (ws2 := wX a cI cZ ((sX0_load u.1 p0), u.2.1, u.2.2.1, u.2.2.2.1, u.2.2.2.2)) (st2 := [.int (vX0_load u.1 p0), .int p0, .ref (a 3)]) (c_X0_load (cI := cI) (cZ := cZ) (a 1) (a 2) u.1 p0 (h0)) gX4_load_X0_load rfl rfl rfl ndX0_load ⟨Nat.le_of_ble_eq_true rfl, Nat.le_of_ble_eq_true rfl⟩ ⟨Nat.le_of_ble_eq_true rfl, Nat.le_of_ble_eq_true rfl⟩ rfl rfl (Nat.le_of_ble_eq_true rfl) rfl rfl rfl rfl rfl rfl dX4_load_25 rfl ?_
    generalize ev_25 : vX0_load u.1 p0 = v_25
    generalize et_25 : sX0_load u.1 p0 = t_25
    refine G.callVd (pc2 := 31) (i := 3) (j := 8) (q0 := 3) (ci := 1) (As := [.int p0, .int v_25]) (rest := []) (ws2 := wX a cI cZ (t_25, (sX1_place u.2.1 p0 v_25), u.2.2.1, u.2.2.2.1, u.2.2.2.2)) (st2 := []) (c_X1_place (cI := cI) (cZ := cZ) (a 3) (a 4) (a 5) (a 6) (a 7) u.2.1 p0 v_25 (h0)) gX4_load_X1_place rfl rfl rfl ndX1_place ⟨Nat.le_of_ble_eq_true rfl, Nat.le_of_ble_eq_true rfl⟩ ⟨Nat.le_of_ble_eq_true rfl, Nat.le_of_ble_eq_true rfl⟩ rfl rfl (Nat.le_of_ble_eq_true rfl) rfl rfl rfl rfl rfl rfl dX4_load_28 rfl ?_
    generalize et_28 : sX1_place u.2.1 p0 v_25 = t_28
    subst et_28 et_25 ev_25 ev_5
    exact G.vreturn hR dX4_load_31 ⟨rfl, congrArg (wX a cI cZ) (by simp only [sX4_load, if_pos c_12])⟩
set_option maxRecDepth 100000 in
set_option maxHeartbeats 4000000 in
theorem c_X4_forgetIfStale {cI cZ : ClassId} (a : Nat → Nat) (u : SX) (p0 : Int32) (h0 : Pg p0) (hh : HW u.2.2.2.1) : Ct yX4_forgetIfStale wsX4_forgetIfStale rX4_forgetIfStale cI cZ [.ref (a 0), .int p0] (wX a cI cZ u) 0 0 (rt (none) (wX a cI cZ (sX4_forgetIfStale u p0))) := by
  refine Ct.of (cc := cX4_forgetIfStale) (nL := 3) (own := RX4) (by decide) rfl rfl (Nat.le_of_ble_eq_true rfl) rfl ?_
  intro K hR hN
  refine G.aload_n (pc2 := 1) (x := a 0) dX4_forgetIfStale_0 rfl rfl rfl ?_
  refine G.getf (pc2 := 4) (q0 := 0) (ci := 4) (k := 3) (v := .ref (a 11)) iX4_forgetIfStale_X4 kX4_forgetIfStale_33 rfl rfl (by decide) rfl dX4_forgetIfStale_1 rfl ?_
  refine G.iload_n (pc2 := 5) (x := p0) dX4_forgetIfStale_4 rfl rfl rfl ?_
  refine G.iconst (pc2 := 6) (v := 1) dX4_forgetIfStale_5 (by decide) rfl ?_
  refine G.callVd (pc2 := 9) (i := 11) (j := 14) (q0 := 11) (ci := 2) (As := [.int p0, .int 1]) (rest := []) (ws2 := wX a cI cZ u) (st2 := [.int (vX2_timeOf u.2.2.2.1 p0 1)]) (c_X2_timeOf (cI := cI) (cZ := cZ) (a 11) (a 12) (a 13) u.2.2.2.1 p0 1 (h0) (hh)) gX4_forgetIfStale_X2_timeOf rfl rfl rfl ndX2_timeOf ⟨Nat.le_of_ble_eq_true rfl, Nat.le_of_ble_eq_true rfl⟩ ⟨Nat.le_of_ble_eq_true rfl, Nat.le_of_ble_eq_true rfl⟩ rfl rfl (Nat.le_of_ble_eq_true rfl) rfl rfl rfl rfl rfl rfl dX4_forgetIfStale_6 rfl ?_
  generalize ev_6 : vX2_timeOf u.2.2.2.1 p0 1 = v_6
  refine G.istore_n (pc2 := 10) (lv2 := [(0, .ref (a 0)), (1, .int p0), (2, .int v_6)]) [1, 2, 0] dX4_forgetIfStale_9 rfl (by decide) rfl rfl ?_
  refine G.iload_n (pc2 := 11) (x := v_6) dX4_forgetIfStale_10 rfl rfl rfl ?_
  refine G.bipush (pc2 := 13) (v := (-9)) dX4_forgetIfStale_11 (by decide) rfl ?_
  refine G.icmp_eq (pc2 := 16) (tgt := 37) dX4_forgetIfStale_13 rfl rfl (fun c_13 => ?_) (fun c_13 => ?_)
  · subst ev_6
    exact G.vreturn hR dX4_forgetIfStale_37 ⟨rfl, congrArg (wX a cI cZ) (by simp only [sX4_forgetIfStale, if_pos c_13])⟩
  · refine G.aload_n (pc2 := 17) (x := a 0) dX4_forgetIfStale_16 rfl rfl rfl ?_
    refine G.getf (pc2 := 20) (q0 := 0) (ci := 4) (k := 5) (v := .int u.2.2.2.2.2.1) iX4_forgetIfStale_X4 kX4_forgetIfStale_111 rfl rfl (by decide) rfl dX4_forgetIfStale_17 rfl ?_
    refine G.iload_n (pc2 := 21) (x := v_6) dX4_forgetIfStale_20 rfl rfl rfl ?_
    refine G.isub (pc2 := 22) (v := u.2.2.2.2.2.1 - v_6) dX4_forgetIfStale_21 rfl rfl ?_
    refine G.aload_n (pc2 := 23) (x := a 0) dX4_forgetIfStale_22 rfl rfl rfl ?_
    refine G.getf (pc2 := 26) (q0 := 0) (ci := 4) (k := 4) (v := .int u.2.2.2.2.1) iX4_forgetIfStale_X4 kX4_forgetIfStale_157 rfl rfl (by decide) rfl dX4_forgetIfStale_23 rfl ?_
    refine G.icmp_le (pc2 := 29) (tgt := 37) dX4_forgetIfStale_26 rfl rfl (fun c_26 => ?_) (fun c_26 => ?_)
    · subst ev_6
      exact G.vreturn hR dX4_forgetIfStale_37 ⟨rfl, congrArg (wX a cI cZ) (by simp only [sX4_forgetIfStale, if_neg c_13, if_neg c_26])⟩
    · refine G.aload_n (pc2 := 30) (x := a 0) dX4_forgetIfStale_29 rfl rfl rfl ?_
      refine G.getf (pc2 := 33) (q0 := 0) (ci := 4) (k := 3) (v := .ref (a 11)) iX4_forgetIfStale_X4 kX4_forgetIfStale_33 rfl rfl (by decide) rfl dX4_forgetIfStale_30 rfl ?_
      refine G.iload_n (pc2 := 34) (x := p0) dX4_forgetIfStale_33 rfl rfl rfl ?_
      refine G.callVd (pc2 := 37) (i := 11) (j := 14) (q0 := 11) (ci := 2) (As := [.int p0]) (rest := []) (ws2 := wX a cI cZ (u.1, u.2.1, u.2.2.1, (sX2_forget u.2.2.2.1 p0), u.2.2.2.2)) (st2 := []) (c_X2_forget (cI := cI) (cZ := cZ) (a 11) (a 12) (a 13) u.2.2.2.1 p0 (h0)) gX4_forgetIfStale_X2_forget rfl rfl rfl ndX2_forget ⟨Nat.le_of_ble_eq_true rfl, Nat.le_of_ble_eq_true rfl⟩ ⟨Nat.le_of_ble_eq_true rfl, Nat.le_of_ble_eq_true rfl⟩ rfl rfl (Nat.le_of_ble_eq_true rfl) rfl rfl rfl rfl rfl rfl dX4_forgetIfStale_34 rfl ?_
      generalize et_34 : sX2_forget u.2.2.2.1 p0 = t_34
      subst et_34 ev_6
      exact G.vreturn hR dX4_forgetIfStale_37 ⟨rfl, congrArg (wX a cI cZ) (by simp only [sX4_forgetIfStale, if_neg c_13, if_pos c_26])⟩
set_option maxRecDepth 100000 in
set_option maxHeartbeats 4000000 in
theorem c_X4_reference {cI cZ : ClassId} (a : Nat → Nat) (u : SX) (p0 : Int32) (h0 : Pg p0) (hq : QW u.2.2.1) (hh : HW u.2.2.2.1) (hf : FW u.2.1) : Ct yX4_reference wsX4_reference rX4_reference cI cZ [.ref (a 0), .int p0] (wX a cI cZ u) 0 0 (rt (none) (wX a cI cZ (sX4_reference u p0))) := by
  refine Ct.of (cc := cX4_reference) (nL := 2) (own := RX4) (by decide) rfl rfl (Nat.le_of_ble_eq_true rfl) rfl ?_
  intro K hR hN
  refine G.aload_n (pc2 := 1) (x := a 0) dX4_reference_0 rfl rfl rfl ?_
  refine G.dup (pc2 := 2) dX4_reference_1 rfl rfl ?_
  refine G.getf (pc2 := 5) (q0 := 0) (ci := 4) (k := 5) (v := .int u.2.2.2.2.2.1) iX4_reference_X4 kX4_reference_111 rfl rfl (by decide) rfl dX4_reference_2 rfl ?_
  refine G.iconst (pc2 := 6) (v := 1) dX4_reference_5 (by decide) rfl ?_
  refine G.iadd (pc2 := 7) (v := u.2.2.2.2.2.1 + 1) dX4_reference_6 rfl rfl ?_
  refine G.putf (pc2 := 10) (q0 := 0) (ci := 4) (k := 5) (ws2 := wX a cI cZ (u.1, u.2.1, u.2.2.1, u.2.2.2.1, (u.2.2.2.2.1, u.2.2.2.2.2.1 + 1, u.2.2.2.2.2.2.1, u.2.2.2.2.2.2.2.1, u.2.2.2.2.2.2.2.2.1, u.2.2.2.2.2.2.2.2.2))) iX4_reference_X4 kX4_reference_111 tyX4_ok nmX4 rfl rfl (by decide) rfl rfl rfl (Nat.le_of_ble_eq_true rfl) rfl dX4_reference_7 rfl ?_
  refine G.aload_n (pc2 := 11) (x := a 0) dX4_reference_10 rfl rfl rfl ?_
  refine G.getf (pc2 := 14) (q0 := 0) (ci := 4) (k := 1) (v := .ref (a 3)) iX4_reference_X4 kX4_reference_19 rfl rfl (by decide) rfl dX4_reference_11 rfl ?_
  refine G.iload_n (pc2 := 15) (x := p0) dX4_reference_14 rfl rfl rfl ?_
  refine G.callVd (pc2 := 18) (i := 3) (j := 8) (q0 := 3) (ci := 1) (As := [.int p0]) (rest := []) (ws2 := wX a cI cZ (u.1, u.2.1, u.2.2.1, u.2.2.2.1, (u.2.2.2.2.1, u.2.2.2.2.2.1 + 1, u.2.2.2.2.2.2.1, u.2.2.2.2.2.2.2.1, u.2.2.2.2.2.2.2.2.1, u.2.2.2.2.2.2.2.2.2))) (st2 := [.int (vX1_holds u.2.1 p0)]) (c_X1_holds (cI := cI) (cZ := cZ) (a 3) (a 4) (a 5) (a 6) (a 7) u.2.1 p0 (h0) (hf)) gX4_reference_X1_holds rfl rfl rfl ndX1_holds ⟨Nat.le_of_ble_eq_true rfl, Nat.le_of_ble_eq_true rfl⟩ ⟨Nat.le_of_ble_eq_true rfl, Nat.le_of_ble_eq_true rfl⟩ rfl rfl (Nat.le_of_ble_eq_true rfl) rfl rfl rfl rfl rfl rfl dX4_reference_15 rfl ?_
  generalize ev_15 : vX1_holds u.2.1 p0 = v_15
  refine G.if_eq (pc2 := 21) (tgt := 34) dX4_reference_18 rfl rfl (fun c_18 => ?_) (fun c_18 => ?_)
  · refine G.aload_n (pc2 := 35) (x := a 0) dX4_reference_34 rfl rfl rfl ?_
    refine G.dup (pc2 := 36) dX4_reference_35 rfl rfl ?_
    refine G.getf (pc2 := 39) (q0 := 0) (ci := 4) (k := 7) (v := .int u.2.2.2.2.2.2.2.1) iX4_reference_X4 kX4_reference_132 rfl rfl (by decide) rfl dX4_reference_36 rfl ?_
    refine G.iconst (pc2 := 40) (v := 1) dX4_reference_39 (by decide) rfl ?_
    refine G.iadd (pc2 := 41) (v := u.2.2.2.2.2.2.2.1 + 1) dX4_reference_40 rfl rfl ?_
    refine G.putf (pc2 := 44) (q0 := 0) (ci := 4) (k := 7) (ws2 := wX a cI cZ (u.1, u.2.1, u.2.2.1, u.2.2.2.1, (u.2.2.2.2.1, u.2.2.2.2.2.1 + 1, u.2.2.2.2.2.2.1, u.2.2.2.2.2.2.2.1 + 1, u.2.2.2.2.2.2.2.2.1, u.2.2.2.2.2.2.2.2.2))) iX4_reference_X4 kX4_reference_132 tyX4_ok nmX4 rfl rfl (by decide) rfl rfl rfl (Nat.le_of_ble_eq_true rfl) rfl dX4_reference_41 rfl ?_
    refine G.aload_n (pc2 := 45) (x := a 0) dX4_reference_44 rfl rfl rfl ?_
    refine G.callVd (pc2 := 48) (i := 0) (j := 14) (q0 := 0) (ci := 4) (As := []) (rest := []) (ws2 := wX a cI cZ (sX4_makeRoom (u.1, u.2.1, u.2.2.1, u.2.2.2.1, (u.2.2.2.2.1, u.2.2.2.2.2.1 + 1, u.2.2.2.2.2.2.1, u.2.2.2.2.2.2.2.1 + 1, u.2.2.2.2.2.2.2.2.1, u.2.2.2.2.2.2.2.2.2)))) (st2 := []) (c_X4_makeRoom (cI := cI) (cZ := cZ) a (u.1, u.2.1, u.2.2.1, u.2.2.2.1, (u.2.2.2.2.1, u.2.2.2.2.2.1 + 1, u.2.2.2.2.2.2.1, u.2.2.2.2.2.2.2.1 + 1, u.2.2.2.2.2.2.2.2.1, u.2.2.2.2.2.2.2.2.2)) (hq) (hh) (hf)) gX4_reference_X4_makeRoom rfl rfl rfl ndX4_makeRoom ⟨Nat.le_of_ble_eq_true rfl, Nat.le_of_ble_eq_true rfl⟩ ⟨Nat.le_of_ble_eq_true rfl, Nat.le_of_ble_eq_true rfl⟩ rfl rfl (Nat.le_of_ble_eq_true rfl) rfl rfl rfl rfl rfl rfl dX4_reference_45 rfl ?_
    generalize et_45 : sX4_makeRoom (u.1, u.2.1, u.2.2.1, u.2.2.2.1, (u.2.2.2.2.1, u.2.2.2.2.2.1 + 1, u.2.2.2.2.2.2.1, u.2.2.2.2.2.2.2.1 + 1, u.2.2.2.2.2.2.2.2.1, u.2.2.2.2.2.2.2.2.2)) = t_45
    refine G.aload_n (pc2 := 49) (x := a 0) dX4_reference_48 rfl rfl rfl ?_
    refine G.iload_n (pc2 := 50) (x := p0) dX4_reference_49 rfl rfl rfl ?_
    refine G.callVd (pc2 := 53) (i := 0) (j := 14) (q0 := 0) (ci := 4) (As := [.int p0]) (rest := []) (ws2 := wX a cI cZ (sX4_load t_45 p0)) (st2 := []) (c_X4_load (cI := cI) (cZ := cZ) a t_45 p0 (h0) (by subst et_45 ev_15; exact (qw_makeRoom hq))) gX4_reference_X4_load rfl rfl rfl ndX4_load ⟨Nat.le_of_ble_eq_true rfl, Nat.le_of_ble_eq_true rfl⟩ ⟨Nat.le_of_ble_eq_true rfl, Nat.le_of_ble_eq_true rfl⟩ rfl rfl (Nat.le_of_ble_eq_true rfl) rfl rfl rfl rfl rfl rfl dX4_reference_50 rfl ?_
    generalize et_50 : sX4_load t_45 p0 = t_50
    refine G.aload_n (pc2 := 54) (x := a 0) dX4_reference_53 rfl rfl rfl ?_
    refine G.iload_n (pc2 := 55) (x := p0) dX4_reference_54 rfl rfl rfl ?_
    refine G.callVd (pc2 := 58) (i := 0) (j := 14) (q0 := 0) (ci := 4) (As := [.int p0]) (rest := []) (ws2 := wX a cI cZ (sX4_forgetIfStale t_50 p0)) (st2 := []) (c_X4_forgetIfStale (cI := cI) (cZ := cZ) a t_50 p0 (h0) (by subst et_50 et_45 ev_15; exact (hw_load (hw_makeRoom hh)))) gX4_reference_X4_forgetIfStale rfl rfl rfl ndX4_forgetIfStale ⟨Nat.le_of_ble_eq_true rfl, Nat.le_of_ble_eq_true rfl⟩ ⟨Nat.le_of_ble_eq_true rfl, Nat.le_of_ble_eq_true rfl⟩ rfl rfl (Nat.le_of_ble_eq_true rfl) rfl rfl rfl rfl rfl rfl dX4_reference_55 rfl ?_
    generalize et_55 : sX4_forgetIfStale t_50 p0 = t_55
    refine G.aload_n (pc2 := 59) (x := a 0) dX4_reference_58 rfl rfl rfl ?_
    refine G.getf (pc2 := 62) (q0 := 0) (ci := 4) (k := 3) (v := .ref (a 11)) iX4_reference_X4 kX4_reference_33 rfl rfl (by decide) rfl dX4_reference_59 rfl ?_
    refine G.iload_n (pc2 := 63) (x := p0) dX4_reference_62 rfl rfl rfl ?_
    refine G.aload_n (pc2 := 64) (x := a 0) dX4_reference_63 rfl rfl rfl ?_
    refine G.getf (pc2 := 67) (q0 := 0) (ci := 4) (k := 5) (v := .int t_55.2.2.2.2.2.1) iX4_reference_X4 kX4_reference_111 rfl rfl (by decide) rfl dX4_reference_64 rfl ?_
    refine G.callVd (pc2 := 70) (i := 11) (j := 14) (q0 := 11) (ci := 2) (As := [.int p0, .int t_55.2.2.2.2.2.1]) (rest := []) (ws2 := wX a cI cZ (t_55.1, t_55.2.1, t_55.2.2.1, (sX2_record t_55.2.2.2.1 p0 t_55.2.2.2.2.2.1), t_55.2.2.2.2)) (st2 := []) (c_X2_record (cI := cI) (cZ := cZ) (a 11) (a 12) (a 13) t_55.2.2.2.1 p0 t_55.2.2.2.2.2.1 (h0)) gX4_reference_X2_record rfl rfl rfl ndX2_record ⟨Nat.le_of_ble_eq_true rfl, Nat.le_of_ble_eq_true rfl⟩ ⟨Nat.le_of_ble_eq_true rfl, Nat.le_of_ble_eq_true rfl⟩ rfl rfl (Nat.le_of_ble_eq_true rfl) rfl rfl rfl rfl rfl rfl dX4_reference_67 rfl ?_
    generalize et_67 : sX2_record t_55.2.2.2.1 p0 t_55.2.2.2.2.2.1 = t_67
    subst et_67 et_55 et_50 et_45 ev_15
    exact G.vreturn hR dX4_reference_70 ⟨rfl, congrArg (wX a cI cZ) (by simp only [sX4_reference, if_pos c_18])⟩
  · refine G.aload_n (pc2 := 22) (x := a 0) dX4_reference_21 rfl rfl rfl ?_
    refine G.dup (pc2 := 23) dX4_reference_22 rfl rfl ?_
    refine G.getf (pc2 := 26) (q0 := 0) (ci := 4) (k := 6) (v := .int u.2.2.2.2.2.2.1) iX4_reference_X4 kX4_reference_129 rfl rfl (by decide) rfl dX4_reference_23 rfl ?_
    refine G.iconst (pc2 := 27) (v := 1) dX4_reference_26 (by decide) rfl ?_
    refine G.iadd (pc2 := 28) (v := u.2.2.2.2.2.2.1 + 1) dX4_reference_27 rfl rfl ?_
    refine G.putf (pc2 := 31) (q0 := 0) (ci := 4) (k := 6) (ws2 := wX a cI cZ (u.1, u.2.1, u.2.2.1, u.2.2.2.1, (u.2.2.2.2.1, u.2.2.2.2.2.1 + 1, u.2.2.2.2.2.2.1 + 1, u.2.2.2.2.2.2.2.1, u.2.2.2.2.2.2.2.2.1, u.2.2.2.2.2.2.2.2.2))) iX4_reference_X4 kX4_reference_129 tyX4_ok nmX4 rfl rfl (by decide) rfl rfl rfl (Nat.le_of_ble_eq_true rfl) rfl dX4_reference_28 rfl ?_
    refine G.goto (tgt := 58) dX4_reference_31 rfl ?_
    refine G.aload_n (pc2 := 59) (x := a 0) dX4_reference_58 rfl rfl rfl ?_
    refine G.getf (pc2 := 62) (q0 := 0) (ci := 4) (k := 3) (v := .ref (a 11)) iX4_reference_X4 kX4_reference_33 rfl rfl (by decide) rfl dX4_reference_59 rfl ?_
    refine G.iload_n (pc2 := 63) (x := p0) dX4_reference_62 rfl rfl rfl ?_
    refine G.aload_n (pc2 := 64) (x := a 0) dX4_reference_63 rfl rfl rfl ?_
    refine G.getf (pc2 := 67) (q0 := 0) (ci := 4) (k := 5) (v := .int (u.2.2.2.2.2.1 + 1)) iX4_reference_X4 kX4_reference_111 rfl rfl (by decide) rfl dX4_reference_64 rfl ?_
    refine G.callVd (pc2 := 70) (i := 11) (j := 14) (q0 := 11) (ci := 2) (As := [.int p0, .int (u.2.2.2.2.2.1 + 1)]) (rest := []) (ws2 := wX a cI cZ (u.1, u.2.1, u.2.2.1, (sX2_record u.2.2.2.1 p0 (u.2.2.2.2.2.1 + 1)), (u.2.2.2.2.1, u.2.2.2.2.2.1 + 1, u.2.2.2.2.2.2.1 + 1, u.2.2.2.2.2.2.2.1, u.2.2.2.2.2.2.2.2.1, u.2.2.2.2.2.2.2.2.2))) (st2 := []) (c_X2_record (cI := cI) (cZ := cZ) (a 11) (a 12) (a 13) u.2.2.2.1 p0 (u.2.2.2.2.2.1 + 1) (h0)) gX4_reference_X2_record rfl rfl rfl ndX2_record ⟨Nat.le_of_ble_eq_true rfl, Nat.le_of_ble_eq_true rfl⟩ ⟨Nat.le_of_ble_eq_true rfl, Nat.le_of_ble_eq_true rfl⟩ rfl rfl (Nat.le_of_ble_eq_true rfl) rfl rfl rfl rfl rfl rfl dX4_reference_67 rfl ?_
    generalize et_67 : sX2_record u.2.2.2.1 p0 (u.2.2.2.2.2.1 + 1) = t_67
    subst et_67 ev_15
    exact G.vreturn hR dX4_reference_70 ⟨rfl, congrArg (wX a cI cZ) (by simp only [sX4_reference, if_neg c_18])⟩
set_option maxRecDepth 100000 in
set_option maxHeartbeats 4000000 in
theorem c_X4_read {cI cZ : ClassId} (a : Nat → Nat) (u : SX) (p0 : Int32) (hq : QW u.2.2.1) (hh : HW u.2.2.2.1) (hf : FW u.2.1) : Ct yX4_read wsX4_read rX4_read cI cZ [.ref (a 0), .int p0] (wX a cI cZ u) 0 0 (rt (some (vX4_read u p0)) (wX a cI cZ (sX4_read u p0))) := by
  refine Ct.of (cc := cX4_read) (nL := 2) (own := RX4) (by decide) rfl rfl (Nat.le_of_ble_eq_true rfl) rfl ?_
  intro K hR hN
  refine G.iload_n (pc2 := 1) (x := p0) dX4_read_0 rfl rfl rfl ?_
  refine G.callSd (pc2 := 4) (i := 0) (j := 0) (As := [.int p0]) (rest := []) (ws2 := wX a cI cZ u) (st2 := [.int (vX4_isPage p0)]) (c_X4_isPage (cI := cI) (cZ := cZ) p0) gX4_read_X4_isPage rfl rfl rfl ndX4_isPage.2 ⟨Nat.le_of_ble_eq_true rfl, Nat.le_of_ble_eq_true rfl⟩ ⟨Nat.le_of_ble_eq_true rfl, Nat.le_of_ble_eq_true rfl⟩ rfl rfl (Nat.le_of_ble_eq_true rfl) rfl rfl rfl dX4_read_1 rfl ?_
  generalize ev_1 : vX4_isPage p0 = v_1
  refine G.if_ne (pc2 := 7) (tgt := 9) dX4_read_4 rfl rfl (fun c_4 => ?_) (fun c_4 => ?_)
  · refine G.aload_n (pc2 := 10) (x := a 0) dX4_read_9 rfl rfl rfl ?_
    refine G.iload_n (pc2 := 11) (x := p0) dX4_read_10 rfl rfl rfl ?_
    refine G.callVd (pc2 := 14) (i := 0) (j := 14) (q0 := 0) (ci := 4) (As := [.int p0]) (rest := []) (ws2 := wX a cI cZ u) (st2 := [.int (vX4_canReference u p0)]) (c_X4_canReference (cI := cI) (cZ := cZ) a u p0 (by subst ev_1; exact (pgX c_4)) (hh) (hf)) gX4_read_X4_canReference rfl rfl rfl ndX4_canReference ⟨Nat.le_of_ble_eq_true rfl, Nat.le_of_ble_eq_true rfl⟩ ⟨Nat.le_of_ble_eq_true rfl, Nat.le_of_ble_eq_true rfl⟩ rfl rfl (Nat.le_of_ble_eq_true rfl) rfl rfl rfl rfl rfl rfl dX4_read_11 rfl ?_
    generalize ev_11 : vX4_canReference u p0 = v_11
    refine G.if_ne (pc2 := 17) (tgt := 20) dX4_read_14 rfl rfl (fun c_14 => ?_) (fun c_14 => ?_)
    · refine G.aload_n (pc2 := 21) (x := a 0) dX4_read_20 rfl rfl rfl ?_
      refine G.iload_n (pc2 := 22) (x := p0) dX4_read_21 rfl rfl rfl ?_
      refine G.callVd (pc2 := 25) (i := 0) (j := 14) (q0 := 0) (ci := 4) (As := [.int p0]) (rest := []) (ws2 := wX a cI cZ (sX4_reference u p0)) (st2 := []) (c_X4_reference (cI := cI) (cZ := cZ) a u p0 (by subst ev_11 ev_1; exact (pgX c_4)) (hq) (hh) (hf)) gX4_read_X4_reference rfl rfl rfl ndX4_reference ⟨Nat.le_of_ble_eq_true rfl, Nat.le_of_ble_eq_true rfl⟩ ⟨Nat.le_of_ble_eq_true rfl, Nat.le_of_ble_eq_true rfl⟩ rfl rfl (Nat.le_of_ble_eq_true rfl) rfl rfl rfl rfl rfl rfl dX4_read_22 rfl ?_
      generalize et_22 : sX4_reference u p0 = t_22
      refine G.aload_n (pc2 := 26) (x := a 0) dX4_read_25 rfl rfl rfl ?_
      refine G.getf (pc2 := 29) (q0 := 0) (ci := 4) (k := 1) (v := .ref (a 3)) iX4_read_X4 kX4_read_19 rfl rfl (by decide) rfl dX4_read_26 rfl ?_
      refine G.iload_n (pc2 := 30) (x := p0) dX4_read_29 rfl rfl rfl ?_
      refine G.callVd (pc2 := 33) (i := 3) (j := 8) (q0 := 3) (ci := 1) (As := [.int p0]) (rest := []) (ws2 := wX a cI cZ t_22) (st2 := [.int (vX1_valueOf t_22.2.1 p0)]) (c_X1_valueOf (cI := cI) (cZ := cZ) (a 3) (a 4) (a 5) (a 6) (a 7) t_22.2.1 p0 (by subst et_22 ev_11 ev_1; exact (pgX c_4))) gX4_read_X1_valueOf rfl rfl rfl ndX1_valueOf ⟨Nat.le_of_ble_eq_true rfl, Nat.le_of_ble_eq_true rfl⟩ ⟨Nat.le_of_ble_eq_true rfl, Nat.le_of_ble_eq_true rfl⟩ rfl rfl (Nat.le_of_ble_eq_true rfl) rfl rfl rfl rfl rfl rfl dX4_read_30 rfl ?_
      generalize ev_30 : vX1_valueOf t_22.2.1 p0 = v_30
      subst ev_30 et_22 ev_11 ev_1
      exact G.ireturn hR (rfl) dX4_read_33 ⟨congrArg some (by simp only [vX4_read, if_neg c_4, if_neg c_14]), congrArg (wX a cI cZ) (by simp only [sX4_read, if_neg c_4, if_neg c_14])⟩
    · refine G.bipush (pc2 := 19) (v := (-3)) dX4_read_17 (by decide) rfl ?_
      subst ev_11 ev_1
      exact G.ireturn hR (rfl) dX4_read_19 ⟨congrArg some (by simp only [vX4_read, if_neg c_4, if_pos c_14]), congrArg (wX a cI cZ) (by simp only [sX4_read, if_neg c_4, if_pos c_14])⟩
  · refine G.iconst (pc2 := 8) (v := (-1)) dX4_read_7 (by decide) rfl ?_
    subst ev_1
    exact G.ireturn hR (rfl) dX4_read_8 ⟨congrArg some (by simp only [vX4_read, if_pos c_4]), congrArg (wX a cI cZ) (by simp only [sX4_read, if_pos c_4])⟩
set_option maxRecDepth 100000 in
set_option maxHeartbeats 4000000 in
theorem c_X4_write {cI cZ : ClassId} (a : Nat → Nat) (u : SX) (p0 p1 : Int32) (hq : QW u.2.2.1) (hh : HW u.2.2.2.1) (hf : FW u.2.1) : Ct yX4_write wsX4_write rX4_write cI cZ [.ref (a 0), .int p0, .int p1] (wX a cI cZ u) 0 0 (rt (some (vX4_write u p0 p1)) (wX a cI cZ (sX4_write u p0 p1))) := by
  refine Ct.of (cc := cX4_write) (nL := 4) (own := RX4) (by decide) rfl rfl (Nat.le_of_ble_eq_true rfl) rfl ?_
  intro K hR hN
  refine G.iload_n (pc2 := 1) (x := p0) dX4_write_0 rfl rfl rfl ?_
  refine G.callSd (pc2 := 4) (i := 0) (j := 0) (As := [.int p0]) (rest := []) (ws2 := wX a cI cZ u) (st2 := [.int (vX4_isPage p0)]) (c_X4_isPage (cI := cI) (cZ := cZ) p0) gX4_write_X4_isPage rfl rfl rfl ndX4_isPage.2 ⟨Nat.le_of_ble_eq_true rfl, Nat.le_of_ble_eq_true rfl⟩ ⟨Nat.le_of_ble_eq_true rfl, Nat.le_of_ble_eq_true rfl⟩ rfl rfl (Nat.le_of_ble_eq_true rfl) rfl rfl rfl dX4_write_1 rfl ?_
  generalize ev_1 : vX4_isPage p0 = v_1
  refine G.if_ne (pc2 := 7) (tgt := 9) dX4_write_4 rfl rfl (fun c_4 => ?_) (fun c_4 => ?_)
  · refine G.iload_n (pc2 := 10) (x := p1) dX4_write_9 rfl rfl rfl ?_
    refine G.iconst (pc2 := 11) (v := 0) dX4_write_10 (by decide) rfl ?_
    refine G.sipush (pc2 := 14) (v := 9999) dX4_write_11 (by decide) rfl ?_
    refine G.callSd (pc2 := 17) (i := 0) (j := 0) (As := [.int p1, .int 0, .int 9999]) (rest := []) (ws2 := wX a cI cZ u) (st2 := [.int (vX4_isWithin p1 0 9999)]) (c_X4_isWithin (cI := cI) (cZ := cZ) p1 0 9999) gX4_write_X4_isWithin rfl rfl rfl ndX4_isWithin.2 ⟨Nat.le_of_ble_eq_true rfl, Nat.le_of_ble_eq_true rfl⟩ ⟨Nat.le_of_ble_eq_true rfl, Nat.le_of_ble_eq_true rfl⟩ rfl rfl (Nat.le_of_ble_eq_true rfl) rfl rfl rfl dX4_write_14 rfl ?_
    generalize ev_14 : vX4_isWithin p1 0 9999 = v_14
    refine G.if_ne (pc2 := 20) (tgt := 23) dX4_write_17 rfl rfl (fun c_17 => ?_) (fun c_17 => ?_)
    · refine G.aload_n (pc2 := 24) (x := a 0) dX4_write_23 rfl rfl rfl ?_
      refine G.iload_n (pc2 := 25) (x := p0) dX4_write_24 rfl rfl rfl ?_
      refine G.callVd (pc2 := 28) (i := 0) (j := 14) (q0 := 0) (ci := 4) (As := [.int p0]) (rest := []) (ws2 := wX a cI cZ u) (st2 := [.int (vX4_canReference u p0)]) (c_X4_canReference (cI := cI) (cZ := cZ) a u p0 (by subst ev_14 ev_1; exact (pgX c_4)) (hh) (hf)) gX4_write_X4_canReference rfl rfl rfl ndX4_canReference ⟨Nat.le_of_ble_eq_true rfl, Nat.le_of_ble_eq_true rfl⟩ ⟨Nat.le_of_ble_eq_true rfl, Nat.le_of_ble_eq_true rfl⟩ rfl rfl (Nat.le_of_ble_eq_true rfl) rfl rfl rfl rfl rfl rfl dX4_write_25 rfl ?_
      generalize ev_25 : vX4_canReference u p0 = v_25
      refine G.if_ne (pc2 := 31) (tgt := 34) dX4_write_28 rfl rfl (fun c_28 => ?_) (fun c_28 => ?_)
      · refine G.aload_n (pc2 := 35) (x := a 0) dX4_write_34 rfl rfl rfl ?_
        refine G.iload_n (pc2 := 36) (x := p0) dX4_write_35 rfl rfl rfl ?_
        refine G.callVd (pc2 := 39) (i := 0) (j := 14) (q0 := 0) (ci := 4) (As := [.int p0]) (rest := []) (ws2 := wX a cI cZ (sX4_reference u p0)) (st2 := []) (c_X4_reference (cI := cI) (cZ := cZ) a u p0 (by subst ev_25 ev_14 ev_1; exact (pgX c_4)) (hq) (hh) (hf)) gX4_write_X4_reference rfl rfl rfl ndX4_reference ⟨Nat.le_of_ble_eq_true rfl, Nat.le_of_ble_eq_true rfl⟩ ⟨Nat.le_of_ble_eq_true rfl, Nat.le_of_ble_eq_true rfl⟩ rfl rfl (Nat.le_of_ble_eq_true rfl) rfl rfl rfl rfl rfl rfl dX4_write_36 rfl ?_
        generalize et_36 : sX4_reference u p0 = t_36
        refine G.aload_n (pc2 := 40) (x := a 0) dX4_write_39 rfl rfl rfl ?_
        refine G.getf (pc2 := 43) (q0 := 0) (ci := 4) (k := 1) (v := .ref (a 3)) iX4_write_X4 kX4_write_19 rfl rfl (by decide) rfl dX4_write_40 rfl ?_
        refine G.iload_n (pc2 := 44) (x := p0) dX4_write_43 rfl rfl rfl ?_
        refine G.callVd (pc2 := 47) (i := 3) (j := 8) (q0 := 3) (ci := 1) (As := [.int p0]) (rest := []) (ws2 := wX a cI cZ t_36) (st2 := [.int (vX1_valueOf t_36.2.1 p0)]) (c_X1_valueOf (cI := cI) (cZ := cZ) (a 3) (a 4) (a 5) (a 6) (a 7) t_36.2.1 p0 (by subst et_36 ev_25 ev_14 ev_1; exact (pgX c_4))) gX4_write_X1_valueOf rfl rfl rfl ndX1_valueOf ⟨Nat.le_of_ble_eq_true rfl, Nat.le_of_ble_eq_true rfl⟩ ⟨Nat.le_of_ble_eq_true rfl, Nat.le_of_ble_eq_true rfl⟩ rfl rfl (Nat.le_of_ble_eq_true rfl) rfl rfl rfl rfl rfl rfl dX4_write_44 rfl ?_
        generalize ev_44 : vX1_valueOf t_36.2.1 p0 = v_44
        refine G.istore_n (pc2 := 48) (lv2 := [(0, .ref (a 0)), (1, .int p0), (2, .int p1), (3, .int v_44)]) [1, 2, 3, 0] dX4_write_47 rfl (by decide) rfl rfl ?_
        refine G.aload_n (pc2 := 49) (x := a 0) dX4_write_48 rfl rfl rfl ?_
        refine G.getf (pc2 := 52) (q0 := 0) (ci := 4) (k := 1) (v := .ref (a 3)) iX4_write_X4 kX4_write_19 rfl rfl (by decide) rfl dX4_write_49 rfl ?_
        refine G.iload_n (pc2 := 53) (x := p0) dX4_write_52 rfl rfl rfl ?_
        refine G.iload_n (pc2 := 54) (x := p1) dX4_write_53 rfl rfl rfl ?_
        refine G.callVd (pc2 := 57) (i := 3) (j := 8) (q0 := 3) (ci := 1) (As := [.int p0, .int p1]) (rest := []) (ws2 := wX a cI cZ (t_36.1, (sX1_change t_36.2.1 p0 p1), t_36.2.2.1, t_36.2.2.2.1, t_36.2.2.2.2)) (st2 := []) (c_X1_change (cI := cI) (cZ := cZ) (a 3) (a 4) (a 5) (a 6) (a 7) t_36.2.1 p0 p1 (by subst ev_44 et_36 ev_25 ev_14 ev_1; exact (pgX c_4))) gX4_write_X1_change rfl rfl rfl ndX1_change ⟨Nat.le_of_ble_eq_true rfl, Nat.le_of_ble_eq_true rfl⟩ ⟨Nat.le_of_ble_eq_true rfl, Nat.le_of_ble_eq_true rfl⟩ rfl rfl (Nat.le_of_ble_eq_true rfl) rfl rfl rfl rfl rfl rfl dX4_write_54 rfl ?_
        generalize et_54 : sX1_change t_36.2.1 p0 p1 = t_54
        refine G.iload_n (pc2 := 58) (x := v_44) dX4_write_57 rfl rfl rfl ?_
        subst et_54 ev_44 et_36 ev_25 ev_14 ev_1
        exact G.ireturn hR (rfl) dX4_write_58 ⟨congrArg some (by simp only [vX4_write, if_neg c_4, if_neg c_17, if_neg c_28]), congrArg (wX a cI cZ) (by simp only [sX4_write, if_neg c_4, if_neg c_17, if_neg c_28])⟩
      · refine G.bipush (pc2 := 33) (v := (-3)) dX4_write_31 (by decide) rfl ?_
        subst ev_25 ev_14 ev_1
        exact G.ireturn hR (rfl) dX4_write_33 ⟨congrArg some (by simp only [vX4_write, if_neg c_4, if_neg c_17, if_pos c_28]), congrArg (wX a cI cZ) (by simp only [sX4_write, if_neg c_4, if_neg c_17, if_pos c_28])⟩
    · refine G.bipush (pc2 := 22) (v := (-2)) dX4_write_20 (by decide) rfl ?_
      subst ev_14 ev_1
      exact G.ireturn hR (rfl) dX4_write_22 ⟨congrArg some (by simp only [vX4_write, if_neg c_4, if_pos c_17]), congrArg (wX a cI cZ) (by simp only [sX4_write, if_neg c_4, if_pos c_17])⟩
  · refine G.iconst (pc2 := 8) (v := (-1)) dX4_write_7 (by decide) rfl ?_
    subst ev_1
    exact G.ireturn hR (rfl) dX4_write_8 ⟨congrArg some (by simp only [vX4_write, if_pos c_4]), congrArg (wX a cI cZ) (by simp only [sX4_write, if_pos c_4])⟩
set_option maxRecDepth 100000 in
set_option maxHeartbeats 4000000 in
theorem c_X4_pin {cI cZ : ClassId} (a : Nat → Nat) (u : SX) (p0 : Int32) (hq : QW u.2.2.1) (hh : HW u.2.2.2.1) (hf : FW u.2.1) : Ct yX4_pin wsX4_pin rX4_pin cI cZ [.ref (a 0), .int p0] (wX a cI cZ u) 0 0 (rt (some (vX4_pin u p0)) (wX a cI cZ (sX4_pin u p0))) := by
  refine Ct.of (cc := cX4_pin) (nL := 2) (own := RX4) (by decide) rfl rfl (Nat.le_of_ble_eq_true rfl) rfl ?_
  intro K hR hN
  refine G.iload_n (pc2 := 1) (x := p0) dX4_pin_0 rfl rfl rfl ?_
  refine G.callSd (pc2 := 4) (i := 0) (j := 0) (As := [.int p0]) (rest := []) (ws2 := wX a cI cZ u) (st2 := [.int (vX4_isPage p0)]) (c_X4_isPage (cI := cI) (cZ := cZ) p0) gX4_pin_X4_isPage rfl rfl rfl ndX4_isPage.2 ⟨Nat.le_of_ble_eq_true rfl, Nat.le_of_ble_eq_true rfl⟩ ⟨Nat.le_of_ble_eq_true rfl, Nat.le_of_ble_eq_true rfl⟩ rfl rfl (Nat.le_of_ble_eq_true rfl) rfl rfl rfl dX4_pin_1 rfl ?_
  generalize ev_1 : vX4_isPage p0 = v_1
  refine G.if_ne (pc2 := 7) (tgt := 9) dX4_pin_4 rfl rfl (fun c_4 => ?_) (fun c_4 => ?_)
  · refine G.aload_n (pc2 := 10) (x := a 0) dX4_pin_9 rfl rfl rfl ?_
    refine G.getf (pc2 := 13) (q0 := 0) (ci := 4) (k := 1) (v := .ref (a 3)) iX4_pin_X4 kX4_pin_19 rfl rfl (by decide) rfl dX4_pin_10 rfl ?_
    refine G.iload_n (pc2 := 14) (x := p0) dX4_pin_13 rfl rfl rfl ?_
    refine G.callVd (pc2 := 17) (i := 3) (j := 8) (q0 := 3) (ci := 1) (As := [.int p0]) (rest := []) (ws2 := wX a cI cZ u) (st2 := [.int (vX1_pinsOf u.2.1 p0)]) (c_X1_pinsOf (cI := cI) (cZ := cZ) (a 3) (a 4) (a 5) (a 6) (a 7) u.2.1 p0 (by subst ev_1; exact (pgX c_4))) gX4_pin_X1_pinsOf rfl rfl rfl ndX1_pinsOf ⟨Nat.le_of_ble_eq_true rfl, Nat.le_of_ble_eq_true rfl⟩ ⟨Nat.le_of_ble_eq_true rfl, Nat.le_of_ble_eq_true rfl⟩ rfl rfl (Nat.le_of_ble_eq_true rfl) rfl rfl rfl rfl rfl rfl dX4_pin_14 rfl ?_
    generalize ev_14 : vX1_pinsOf u.2.1 p0 = v_14
    refine G.bipush (pc2 := 19) (v := 9) dX4_pin_17 (by decide) rfl ?_
    refine G.icmp_lt (pc2 := 22) (tgt := 25) dX4_pin_19 rfl rfl (fun c_19 => ?_) (fun c_19 => ?_)
    · refine G.aload_n (pc2 := 26) (x := a 0) dX4_pin_25 rfl rfl rfl ?_
      refine G.iload_n (pc2 := 27) (x := p0) dX4_pin_26 rfl rfl rfl ?_
      refine G.callVd (pc2 := 30) (i := 0) (j := 14) (q0 := 0) (ci := 4) (As := [.int p0]) (rest := []) (ws2 := wX a cI cZ u) (st2 := [.int (vX4_canReference u p0)]) (c_X4_canReference (cI := cI) (cZ := cZ) a u p0 (by subst ev_14 ev_1; exact (pgX c_4)) (hh) (hf)) gX4_pin_X4_canReference rfl rfl rfl ndX4_canReference ⟨Nat.le_of_ble_eq_true rfl, Nat.le_of_ble_eq_true rfl⟩ ⟨Nat.le_of_ble_eq_true rfl, Nat.le_of_ble_eq_true rfl⟩ rfl rfl (Nat.le_of_ble_eq_true rfl) rfl rfl rfl rfl rfl rfl dX4_pin_27 rfl ?_
      generalize ev_27 : vX4_canReference u p0 = v_27
      refine G.if_ne (pc2 := 33) (tgt := 36) dX4_pin_30 rfl rfl (fun c_30 => ?_) (fun c_30 => ?_)
      · refine G.aload_n (pc2 := 37) (x := a 0) dX4_pin_36 rfl rfl rfl ?_
        refine G.iload_n (pc2 := 38) (x := p0) dX4_pin_37 rfl rfl rfl ?_
        refine G.callVd (pc2 := 41) (i := 0) (j := 14) (q0 := 0) (ci := 4) (As := [.int p0]) (rest := []) (ws2 := wX a cI cZ (sX4_reference u p0)) (st2 := []) (c_X4_reference (cI := cI) (cZ := cZ) a u p0 (by subst ev_27 ev_14 ev_1; exact (pgX c_4)) (hq) (hh) (hf)) gX4_pin_X4_reference rfl rfl rfl ndX4_reference ⟨Nat.le_of_ble_eq_true rfl, Nat.le_of_ble_eq_true rfl⟩ ⟨Nat.le_of_ble_eq_true rfl, Nat.le_of_ble_eq_true rfl⟩ rfl rfl (Nat.le_of_ble_eq_true rfl) rfl rfl rfl rfl rfl rfl dX4_pin_38 rfl ?_
        generalize et_38 : sX4_reference u p0 = t_38
        refine G.aload_n (pc2 := 42) (x := a 0) dX4_pin_41 rfl rfl rfl ?_
        refine G.getf (pc2 := 45) (q0 := 0) (ci := 4) (k := 1) (v := .ref (a 3)) iX4_pin_X4 kX4_pin_19 rfl rfl (by decide) rfl dX4_pin_42 rfl ?_
        refine G.iload_n (pc2 := 46) (x := p0) dX4_pin_45 rfl rfl rfl ?_
        refine G.callVd (pc2 := 49) (i := 3) (j := 8) (q0 := 3) (ci := 1) (As := [.int p0]) (rest := []) (ws2 := wX a cI cZ (t_38.1, (sX1_addPin t_38.2.1 p0), t_38.2.2.1, t_38.2.2.2.1, t_38.2.2.2.2)) (st2 := []) (c_X1_addPin (cI := cI) (cZ := cZ) (a 3) (a 4) (a 5) (a 6) (a 7) t_38.2.1 p0 (by subst et_38 ev_27 ev_14 ev_1; exact (pgX c_4))) gX4_pin_X1_addPin rfl rfl rfl ndX1_addPin ⟨Nat.le_of_ble_eq_true rfl, Nat.le_of_ble_eq_true rfl⟩ ⟨Nat.le_of_ble_eq_true rfl, Nat.le_of_ble_eq_true rfl⟩ rfl rfl (Nat.le_of_ble_eq_true rfl) rfl rfl rfl rfl rfl rfl dX4_pin_46 rfl ?_
        generalize et_46 : sX1_addPin t_38.2.1 p0 = t_46
        refine G.aload_n (pc2 := 50) (x := a 0) dX4_pin_49 rfl rfl rfl ?_
        refine G.getf (pc2 := 53) (q0 := 0) (ci := 4) (k := 1) (v := .ref (a 3)) iX4_pin_X4 kX4_pin_19 rfl rfl (by decide) rfl dX4_pin_50 rfl ?_
        refine G.iload_n (pc2 := 54) (x := p0) dX4_pin_53 rfl rfl rfl ?_
        refine G.callVd (pc2 := 57) (i := 3) (j := 8) (q0 := 3) (ci := 1) (As := [.int p0]) (rest := []) (ws2 := wX a cI cZ (t_38.1, t_46, t_38.2.2.1, t_38.2.2.2.1, t_38.2.2.2.2)) (st2 := [.int (vX1_pinsOf t_46 p0)]) (c_X1_pinsOf (cI := cI) (cZ := cZ) (a 3) (a 4) (a 5) (a 6) (a 7) t_46 p0 (by subst et_46 et_38 ev_27 ev_14 ev_1; exact (pgX c_4))) gX4_pin_X1_pinsOf rfl rfl rfl ndX1_pinsOf ⟨Nat.le_of_ble_eq_true rfl, Nat.le_of_ble_eq_true rfl⟩ ⟨Nat.le_of_ble_eq_true rfl, Nat.le_of_ble_eq_true rfl⟩ rfl rfl (Nat.le_of_ble_eq_true rfl) rfl rfl rfl rfl rfl rfl dX4_pin_54 rfl ?_
        generalize ev_54 : vX1_pinsOf t_46 p0 = v_54
        subst ev_54 et_46 et_38 ev_27 ev_14 ev_1
        exact G.ireturn hR (rfl) dX4_pin_57 ⟨congrArg some (by simp only [vX4_pin, if_neg c_4, if_pos c_19, if_neg c_30]), congrArg (wX a cI cZ) (by simp only [sX4_pin, if_neg c_4, if_pos c_19, if_neg c_30])⟩
      · refine G.bipush (pc2 := 35) (v := (-3)) dX4_pin_33 (by decide) rfl ?_
        subst ev_27 ev_14 ev_1
        exact G.ireturn hR (rfl) dX4_pin_35 ⟨congrArg some (by simp only [vX4_pin, if_neg c_4, if_pos c_19, if_pos c_30]), congrArg (wX a cI cZ) (by simp only [sX4_pin, if_neg c_4, if_pos c_19, if_pos c_30])⟩
    · refine G.bipush (pc2 := 24) (v := (-6)) dX4_pin_22 (by decide) rfl ?_
      subst ev_14 ev_1
      exact G.ireturn hR (rfl) dX4_pin_24 ⟨congrArg some (by simp only [vX4_pin, if_neg c_4, if_neg c_19]), congrArg (wX a cI cZ) (by simp only [sX4_pin, if_neg c_4, if_neg c_19])⟩
  · refine G.iconst (pc2 := 8) (v := (-1)) dX4_pin_7 (by decide) rfl ?_
    subst ev_1
    exact G.ireturn hR (rfl) dX4_pin_8 ⟨congrArg some (by simp only [vX4_pin, if_pos c_4]), congrArg (wX a cI cZ) (by simp only [sX4_pin, if_pos c_4])⟩
set_option maxRecDepth 100000 in
set_option maxHeartbeats 4000000 in
theorem c_X4_unpin {cI cZ : ClassId} (a : Nat → Nat) (u : SX) (p0 : Int32) (hf : FW u.2.1) : Ct yX4_unpin wsX4_unpin rX4_unpin cI cZ [.ref (a 0), .int p0] (wX a cI cZ u) 0 0 (rt (some (vX4_unpin u p0)) (wX a cI cZ (sX4_unpin u p0))) := by
  refine Ct.of (cc := cX4_unpin) (nL := 2) (own := RX4) (by decide) rfl rfl (Nat.le_of_ble_eq_true rfl) rfl ?_
  intro K hR hN
  refine G.iload_n (pc2 := 1) (x := p0) dX4_unpin_0 rfl rfl rfl ?_
  refine G.callSd (pc2 := 4) (i := 0) (j := 0) (As := [.int p0]) (rest := []) (ws2 := wX a cI cZ u) (st2 := [.int (vX4_isPage p0)]) (c_X4_isPage (cI := cI) (cZ := cZ) p0) gX4_unpin_X4_isPage rfl rfl rfl ndX4_isPage.2 ⟨Nat.le_of_ble_eq_true rfl, Nat.le_of_ble_eq_true rfl⟩ ⟨Nat.le_of_ble_eq_true rfl, Nat.le_of_ble_eq_true rfl⟩ rfl rfl (Nat.le_of_ble_eq_true rfl) rfl rfl rfl dX4_unpin_1 rfl ?_
  generalize ev_1 : vX4_isPage p0 = v_1
  refine G.if_ne (pc2 := 7) (tgt := 9) dX4_unpin_4 rfl rfl (fun c_4 => ?_) (fun c_4 => ?_)
  · refine G.aload_n (pc2 := 10) (x := a 0) dX4_unpin_9 rfl rfl rfl ?_
    refine G.getf (pc2 := 13) (q0 := 0) (ci := 4) (k := 1) (v := .ref (a 3)) iX4_unpin_X4 kX4_unpin_19 rfl rfl (by decide) rfl dX4_unpin_10 rfl ?_
    refine G.iload_n (pc2 := 14) (x := p0) dX4_unpin_13 rfl rfl rfl ?_
    refine G.callVd (pc2 := 17) (i := 3) (j := 8) (q0 := 3) (ci := 1) (As := [.int p0]) (rest := []) (ws2 := wX a cI cZ u) (st2 := [.int (vX1_holds u.2.1 p0)]) (c_X1_holds (cI := cI) (cZ := cZ) (a 3) (a 4) (a 5) (a 6) (a 7) u.2.1 p0 (by subst ev_1; exact (pgX c_4)) (hf)) gX4_unpin_X1_holds rfl rfl rfl ndX1_holds ⟨Nat.le_of_ble_eq_true rfl, Nat.le_of_ble_eq_true rfl⟩ ⟨Nat.le_of_ble_eq_true rfl, Nat.le_of_ble_eq_true rfl⟩ rfl rfl (Nat.le_of_ble_eq_true rfl) rfl rfl rfl rfl rfl rfl dX4_unpin_14 rfl ?_
    generalize ev_14 : vX1_holds u.2.1 p0 = v_14
    refine G.if_ne (pc2 := 20) (tgt := 23) dX4_unpin_17 rfl rfl (fun c_17 => ?_) (fun c_17 => ?_)
    · refine G.aload_n (pc2 := 24) (x := a 0) dX4_unpin_23 rfl rfl rfl ?_
      refine G.getf (pc2 := 27) (q0 := 0) (ci := 4) (k := 1) (v := .ref (a 3)) iX4_unpin_X4 kX4_unpin_19 rfl rfl (by decide) rfl dX4_unpin_24 rfl ?_
      refine G.iload_n (pc2 := 28) (x := p0) dX4_unpin_27 rfl rfl rfl ?_
      refine G.callVd (pc2 := 31) (i := 3) (j := 8) (q0 := 3) (ci := 1) (As := [.int p0]) (rest := []) (ws2 := wX a cI cZ u) (st2 := [.int (vX1_pinsOf u.2.1 p0)]) (c_X1_pinsOf (cI := cI) (cZ := cZ) (a 3) (a 4) (a 5) (a 6) (a 7) u.2.1 p0 (by subst ev_14 ev_1; exact (pgX c_4))) gX4_unpin_X1_pinsOf rfl rfl rfl ndX1_pinsOf ⟨Nat.le_of_ble_eq_true rfl, Nat.le_of_ble_eq_true rfl⟩ ⟨Nat.le_of_ble_eq_true rfl, Nat.le_of_ble_eq_true rfl⟩ rfl rfl (Nat.le_of_ble_eq_true rfl) rfl rfl rfl rfl rfl rfl dX4_unpin_28 rfl ?_
      generalize ev_28 : vX1_pinsOf u.2.1 p0 = v_28
      refine G.if_ne (pc2 := 34) (tgt := 37) dX4_unpin_31 rfl rfl (fun c_31 => ?_) (fun c_31 => ?_)
      · refine G.aload_n (pc2 := 38) (x := a 0) dX4_unpin_37 rfl rfl rfl ?_
        refine G.getf (pc2 := 41) (q0 := 0) (ci := 4) (k := 1) (v := .ref (a 3)) iX4_unpin_X4 kX4_unpin_19 rfl rfl (by decide) rfl dX4_unpin_38 rfl ?_
        refine G.iload_n (pc2 := 42) (x := p0) dX4_unpin_41 rfl rfl rfl ?_
        refine G.callVd (pc2 := 45) (i := 3) (j := 8) (q0 := 3) (ci := 1) (As := [.int p0]) (rest := []) (ws2 := wX a cI cZ (u.1, (sX1_removePin u.2.1 p0), u.2.2.1, u.2.2.2.1, u.2.2.2.2)) (st2 := []) (c_X1_removePin (cI := cI) (cZ := cZ) (a 3) (a 4) (a 5) (a 6) (a 7) u.2.1 p0 (by subst ev_28 ev_14 ev_1; exact (pgX c_4))) gX4_unpin_X1_removePin rfl rfl rfl ndX1_removePin ⟨Nat.le_of_ble_eq_true rfl, Nat.le_of_ble_eq_true rfl⟩ ⟨Nat.le_of_ble_eq_true rfl, Nat.le_of_ble_eq_true rfl⟩ rfl rfl (Nat.le_of_ble_eq_true rfl) rfl rfl rfl rfl rfl rfl dX4_unpin_42 rfl ?_
        generalize et_42 : sX1_removePin u.2.1 p0 = t_42
        refine G.aload_n (pc2 := 46) (x := a 0) dX4_unpin_45 rfl rfl rfl ?_
        refine G.getf (pc2 := 49) (q0 := 0) (ci := 4) (k := 1) (v := .ref (a 3)) iX4_unpin_X4 kX4_unpin_19 rfl rfl (by decide) rfl dX4_unpin_46 rfl ?_
        refine G.iload_n (pc2 := 50) (x := p0) dX4_unpin_49 rfl rfl rfl ?_
        refine G.callVd (pc2 := 53) (i := 3) (j := 8) (q0 := 3) (ci := 1) (As := [.int p0]) (rest := []) (ws2 := wX a cI cZ (u.1, t_42, u.2.2.1, u.2.2.2.1, u.2.2.2.2)) (st2 := [.int (vX1_pinsOf t_42 p0)]) (c_X1_pinsOf (cI := cI) (cZ := cZ) (a 3) (a 4) (a 5) (a 6) (a 7) t_42 p0 (by subst et_42 ev_28 ev_14 ev_1; exact (pgX c_4))) gX4_unpin_X1_pinsOf rfl rfl rfl ndX1_pinsOf ⟨Nat.le_of_ble_eq_true rfl, Nat.le_of_ble_eq_true rfl⟩ ⟨Nat.le_of_ble_eq_true rfl, Nat.le_of_ble_eq_true rfl⟩ rfl rfl (Nat.le_of_ble_eq_true rfl) rfl rfl rfl rfl rfl rfl dX4_unpin_50 rfl ?_
        generalize ev_50 : vX1_pinsOf t_42 p0 = v_50
        subst ev_50 et_42 ev_28 ev_14 ev_1
        exact G.ireturn hR (rfl) dX4_unpin_53 ⟨congrArg some (by simp only [vX4_unpin, if_neg c_4, if_neg c_17, if_neg c_31]), congrArg (wX a cI cZ) (by simp only [sX4_unpin, if_neg c_4, if_neg c_17, if_neg c_31])⟩
      · refine G.bipush (pc2 := 36) (v := (-5)) dX4_unpin_34 (by decide) rfl ?_
        subst ev_28 ev_14 ev_1
        exact G.ireturn hR (rfl) dX4_unpin_36 ⟨congrArg some (by simp only [vX4_unpin, if_neg c_4, if_neg c_17, if_pos c_31]), congrArg (wX a cI cZ) (by simp only [sX4_unpin, if_neg c_4, if_neg c_17, if_pos c_31])⟩
    · refine G.bipush (pc2 := 22) (v := (-4)) dX4_unpin_20 (by decide) rfl ?_
      subst ev_14 ev_1
      exact G.ireturn hR (rfl) dX4_unpin_22 ⟨congrArg some (by simp only [vX4_unpin, if_neg c_4, if_pos c_17]), congrArg (wX a cI cZ) (by simp only [sX4_unpin, if_neg c_4, if_pos c_17])⟩
  · refine G.iconst (pc2 := 8) (v := (-1)) dX4_unpin_7 (by decide) rfl ?_
    subst ev_1
    exact G.ireturn hR (rfl) dX4_unpin_8 ⟨congrArg some (by simp only [vX4_unpin, if_pos c_4]), congrArg (wX a cI cZ) (by simp only [sX4_unpin, if_pos c_4])⟩
