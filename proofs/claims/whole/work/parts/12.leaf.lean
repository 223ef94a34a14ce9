set_option maxRecDepth 100000 in
set_option maxHeartbeats 4000000 in
theorem c_J7_fill_53178 {cI cZ : ClassId} (q : Nat) (u : (Nat → Int32)) (p1 : Int32)  : Ct yJ7_fill_53178 wsJ7_fill_53178 rJ7_fill_53178 cI cZ [.ref q, .int p1] (wA q cI u) 0 0 (rt (none) (wA q cI (sJ7_fill_53178 u p1))) := by
  refine Ct.of (cc := cJ7_fill_53178) (nL := 4) (own := RJ7) (by decide) rfl rfl (Nat.le_of_ble_eq_true rfl) rfl ?_
  intro K hR hN
  have loop5 : ∀ (n : Nat) (w : (Nat → Int32)) (l2 : Int32), PI n l2 → sJ7_fill_53178 u p1 = lsJ7_fill_53178_5 p1 n w l2 → G K cI cZ cJ7_fill_53178 4 RJ7 wsJ7_fill_53178 rJ7_fill_53178 0 0 (wA q cI w) 5 [(0, .ref q), (1, .int p1), (2, .int l2), (3, .int (nI 64))] [] := by
    intro n
    induction n with
    | zero =>
      intro w l2 hi hs
      exact absurd hi (PI.zero)
    | succ n ih =>
      intro w l2 hi hs
      refine G.iload_n (pc2 := 6) (x := l2) dJ7_fill_53178_5 rfl rfl rfl ?_
      refine G.iload_n (pc2 := 7) (x := nI 64) dJ7_fill_53178_6 rfl rfl rfl ?_
      refine G.icmp_ge (pc2 := 10) (tgt := 20) dJ7_fill_53178_7 rfl rfl (fun c_7 => ?_) (fun c_7 => ?_)
      · exact G.vreturn hR dJ7_fill_53178_20 ⟨rfl, congrArg (wA q cI) (by rw [hs]; simp only [lsJ7_fill_53178_5, if_neg c_7])⟩
      · refine G.aload_n (pc2 := 11) (x := q) dJ7_fill_53178_10 rfl rfl rfl ?_
        refine G.iload_n (pc2 := 12) (x := l2) dJ7_fill_53178_11 rfl rfl rfl ?_
        refine G.iload_n (pc2 := 13) (x := p1) dJ7_fill_53178_12 rfl rfl rfl ?_
        refine G.iast (pc2 := 14) (q0 := 0) (j := ix l2) (ws2 := wA q cI (upd w (ix l2) p1)) rfl (PI.pg hi (show l2 < 64 from c_7)) rfl dJ7_fill_53178_13 rfl ?_
        refine G.iinc (pc2 := 17) (k := 2) (v := l2 + 1) (lv2 := [(0, .ref q), (1, .int p1), (2, .int (l2 + 1)), (3, .int (nI 64))]) [1, 2, 0, 3] dJ7_fill_53178_14 rfl rfl (by decide) rfl rfl ?_
        refine G.goto (tgt := 5) dJ7_fill_53178_17 rfl ?_
        exact ih  (upd w (ix l2) p1) (l2 + 1) (PI.next hi (show l2 < 64 from c_7)) (by rw [hs]; simp only [lsJ7_fill_53178_5, if_pos c_7])
  refine G.iconst (pc2 := 1) (v := 0) dJ7_fill_53178_0 (by decide) rfl ?_
  refine G.istore_n (pc2 := 2) (lv2 := [(0, .ref q), (1, .int p1), (2, .int 0)]) [1, 2, 0] dJ7_fill_53178_1 rfl (by decide) rfl rfl ?_
  refine G.aload_n (pc2 := 3) (x := q) dJ7_fill_53178_2 rfl rfl rfl ?_
  refine G.alen (pc2 := 4) (q0 := 0) rfl dJ7_fill_53178_3 rfl ?_
  refine G.istore_n (pc2 := 5) (lv2 := [(0, .ref q), (1, .int p1), (2, .int 0), (3, .int (nI 64))]) [1, 2, 3, 0] dJ7_fill_53178_4 rfl (by decide) rfl rfl ?_
  exact loop5 65 u 0 (PI.start) (rfl)
set_option maxRecDepth 100000 in
set_option maxHeartbeats 4000000 in
theorem c_X0_erase {cI cZ : ClassId} (o a : Nat) (u : SD)  : Ct yX0_erase wsX0_erase rX0_erase cI cZ [.ref o] (wD o a cI u) 0 0 (rt (none) (wD o a cI (sX0_erase u))) := by
  refine Ct.of (cc := cX0_erase) (nL := 1) (own := RX0) (by decide) rfl rfl (Nat.le_of_ble_eq_true rfl) rfl ?_
  intro K hR hN
  refine G.aload_n (pc2 := 1) (x := o) dX0_erase_0 rfl rfl rfl ?_
  refine G.getf (pc2 := 4) (q0 := 0) (ci := 0) (k := 0) (v := .ref a) iX0_erase_X0 kX0_erase_9 rfl rfl (by decide) rfl dX0_erase_1 rfl ?_
  refine G.iconst (pc2 := 5) (v := 0) dX0_erase_4 (by decide) rfl ?_
  refine G.callSd (pc2 := 8) (i := 1) (j := 2) (As := [.ref a, .int 0]) (rest := []) (ws2 := wD o a cI (sJ7_fill_53178 u.1 0, u.2.1, u.2.2)) (st2 := []) (c_J7_fill_53178 (cI := cI) (cZ := cZ) a u.1 0) gX0_erase_J7_fill_53178 rfl rfl rfl ndJ7_fill_53178.2 ⟨Nat.le_of_ble_eq_true rfl, Nat.le_of_ble_eq_true rfl⟩ ⟨Nat.le_of_ble_eq_true rfl, Nat.le_of_ble_eq_true rfl⟩ rfl rfl (Nat.le_of_ble_eq_true rfl) rfl rfl rfl dX0_erase_5 rfl ?_
  generalize et_5 : sJ7_fill_53178 u.1 0 = t_5
  refine G.aload_n (pc2 := 9) (x := o) dX0_erase_8 rfl rfl rfl ?_
  refine G.iconst (pc2 := 10) (v := 0) dX0_erase_9 (by decide) rfl ?_
  refine G.putf (pc2 := 13) (q0 := 0) (ci := 0) (k := 1) (ws2 := wD o a cI (t_5, 0, u.2.2)) iX0_erase_X0 kX0_erase_21 tyX0_ok nmX0 rfl rfl (by decide) rfl rfl rfl (Nat.le_of_ble_eq_true rfl) rfl dX0_erase_10 rfl ?_
  refine G.aload_n (pc2 := 14) (x := o) dX0_erase_13 rfl rfl rfl ?_
  refine G.iconst (pc2 := 15) (v := 0) dX0_erase_14 (by decide) rfl ?_
  refine G.putf (pc2 := 18) (q0 := 0) (ci := 0) (k := 2) (ws2 := wD o a cI (t_5, 0, 0)) iX0_erase_X0 kX0_erase_25 tyX0_ok nmX0 rfl rfl (by decide) rfl rfl rfl (Nat.le_of_ble_eq_true rfl) rfl dX0_erase_15 rfl ?_
  subst et_5
  exact G.vreturn hR dX0_erase_18 ⟨rfl, congrArg (wD o a cI) (rfl)⟩
set_option maxRecDepth 100000 in
set_option maxHeartbeats 4000000 in
theorem c_X1_vacate {cI cZ : ClassId} (o r c v p : Nat) (u : SF) (p0 : Int32) (h0 : Pg p0) : Ct yX1_vacate wsX1_vacate rX1_vacate cI cZ [.ref o, .int p0] (wF o r c v p cI cZ u) 0 0 (rt (none) (wF o r c v p cI cZ (sX1_vacate u p0))) := by
  refine Ct.of (cc := cX1_vacate) (nL := 2) (own := RX1) (by decide) rfl rfl (Nat.le_of_ble_eq_true rfl) rfl ?_
  intro K hR hN
  refine G.aload_n (pc2 := 1) (x := o) dX1_vacate_0 rfl rfl rfl ?_
  refine G.getf (pc2 := 4) (q0 := 0) (ci := 1) (k := 0) (v := .ref r) iX1_vacate_X1 kX1_vacate_9 rfl rfl (by decide) rfl dX1_vacate_1 rfl ?_
  refine G.iload_n (pc2 := 5) (x := p0) dX1_vacate_4 rfl rfl rfl ?_
  refine G.iconst (pc2 := 6) (v := 0) dX1_vacate_5 (by decide) rfl ?_
  refine G.zast (y := 0) (pc2 := 7) (q0 := 1) (j := ix p0) (ws2 := wF o r c v p cI cZ (upd u.1 (ix p0) 0, u.2.1, u.2.2.1, u.2.2.2.1, u.2.2.2.2.1, u.2.2.2.2.2)) rfl (h0) rfl rfl dX1_vacate_6 rfl ?_
  refine G.aload_n (pc2 := 8) (x := o) dX1_vacate_7 rfl rfl rfl ?_
  refine G.getf (pc2 := 11) (q0 := 0) (ci := 1) (k := 1) (v := .ref c) iX1_vacate_X1 kX1_vacate_15 rfl rfl (by decide) rfl dX1_vacate_8 rfl ?_
  refine G.iload_n (pc2 := 12) (x := p0) dX1_vacate_11 rfl rfl rfl ?_
  refine G.iconst (pc2 := 13) (v := 0) dX1_vacate_12 (by decide) rfl ?_
  refine G.zast (y := 0) (pc2 := 14) (q0 := 2) (j := ix p0) (ws2 := wF o r c v p cI cZ (upd u.1 (ix p0) 0, upd u.2.1 (ix p0) 0, u.2.2.1, u.2.2.2.1, u.2.2.2.2.1, u.2.2.2.2.2)) rfl (h0) rfl rfl dX1_vacate_13 rfl ?_
  refine G.aload_n (pc2 := 15) (x := o) dX1_vacate_14 rfl rfl rfl ?_
  refine G.getf (pc2 := 18) (q0 := 0) (ci := 1) (k := 3) (v := .ref p) iX1_vacate_X1 kX1_vacate_22 rfl rfl (by decide) rfl dX1_vacate_15 rfl ?_
  refine G.iload_n (pc2 := 19) (x := p0) dX1_vacate_18 rfl rfl rfl ?_
  refine G.iconst (pc2 := 20) (v := 0) dX1_vacate_19 (by decide) rfl ?_
  refine G.iast (pc2 := 21) (q0 := 4) (j := ix p0) (ws2 := wF o r c v p cI cZ (upd u.1 (ix p0) 0, upd u.2.1 (ix p0) 0, u.2.2.1, upd u.2.2.2.1 (ix p0) 0, u.2.2.2.2.1, u.2.2.2.2.2)) rfl (h0) rfl dX1_vacate_20 rfl ?_
  exact G.vreturn hR dX1_vacate_21 ⟨rfl, congrArg (wF o r c v p cI cZ) (rfl)⟩
set_option maxRecDepth 100000 in
set_option maxHeartbeats 4000000 in
theorem c_X1_empty {cI cZ : ClassId} (o r c v p : Nat) (u : SF) (p0 : Int32)  : Ct yX1_empty wsX1_empty rX1_empty cI cZ [.ref o, .int p0] (wF o r c v p cI cZ u) 0 0 (rt (none) (wF o r c v p cI cZ (sX1_empty u p0))) := by
  refine Ct.of (cc := cX1_empty) (nL := 3) (own := RX1) (by decide) rfl rfl (Nat.le_of_ble_eq_true rfl) rfl ?_
  intro K hR hN
  have loop2 : ∀ (n : Nat) (w : SF) (l2 : Int32), PI n l2 → sX1_empty u p0 = lsX1_empty_2 p0 n w l2 → G K cI cZ cX1_empty 3 RX1 wsX1_empty rX1_empty 0 0 (wF o r c v p cI cZ w) 2 [(0, .ref o), (1, .int p0), (2, .int l2)] [] := by
    intro n
    induction n with
    | zero =>
      intro w l2 hi hs
      exact absurd hi (PI.zero)
    | succ n ih =>
      intro w l2 hi hs
      refine G.iload_n (pc2 := 3) (x := l2) dX1_empty_2 rfl rfl rfl ?_
      refine G.bipush (pc2 := 5) (v := 64) dX1_empty_3 (by decide) rfl ?_
      refine G.icmp_ge (pc2 := 8) (tgt := 19) dX1_empty_5 rfl rfl (fun c_5 => ?_) (fun c_5 => ?_)
      · refine G.aload_n (pc2 := 20) (x := o) dX1_empty_19 rfl rfl rfl ?_
        refine G.iconst (pc2 := 21) (v := 0) dX1_empty_20 (by decide) rfl ?_
        refine G.putf (pc2 := 24) (q0 := 0) (ci := 1) (k := 5) (ws2 := wF o r c v p cI cZ (w.1, w.2.1, w.2.2.1, w.2.2.2.1, w.2.2.2.2.1, 0)) iX1_empty_X1 kX1_empty_29 tyX1_ok nmX1 rfl rfl (by decide) rfl rfl rfl (Nat.le_of_ble_eq_true rfl) rfl dX1_empty_21 rfl ?_
        refine G.aload_n (pc2 := 25) (x := o) dX1_empty_24 rfl rfl rfl ?_
        refine G.iload_n (pc2 := 26) (x := p0) dX1_empty_25 rfl rfl rfl ?_
        refine G.putf (pc2 := 29) (q0 := 0) (ci := 1) (k := 4) (ws2 := wF o r c v p cI cZ (w.1, w.2.1, w.2.2.1, w.2.2.2.1, p0, 0)) iX1_empty_X1 kX1_empty_33 tyX1_ok nmX1 rfl rfl (by decide) rfl rfl rfl (Nat.le_of_ble_eq_true rfl) rfl dX1_empty_26 rfl ?_
        exact G.vreturn hR dX1_empty_29 ⟨rfl, congrArg (wF o r c v p cI cZ) (by rw [hs]; simp only [lsX1_empty_2, if_neg c_5])⟩
      · refine G.aload_n (pc2 := 9) (x := o) dX1_empty_8 rfl rfl rfl ?_
        refine G.iload_n (pc2 := 10) (x := l2) dX1_empty_9 rfl rfl rfl ?_
        refine G.callVd (pc2 := 13) (i := 0) (j := 5) (q0 := 0) (ci := 1) (As := [.int l2]) (rest := []) (ws2 := wF o r c v p cI cZ (sX1_vacate w l2)) (st2 := []) (c_X1_vacate (cI := cI) (cZ := cZ) o r c v p w l2 (PI.pg hi c_5)) gX1_empty_X1_vacate rfl rfl rfl ndX1_vacate ⟨Nat.le_of_ble_eq_true rfl, Nat.le_of_ble_eq_true rfl⟩ ⟨Nat.le_of_ble_eq_true rfl, Nat.le_of_ble_eq_true rfl⟩ rfl rfl (Nat.le_of_ble_eq_true rfl) rfl rfl rfl rfl rfl rfl dX1_empty_10 rfl ?_
        generalize et_10 : sX1_vacate w l2 = t_10
        refine G.iinc (pc2 := 16) (k := 2) (v := l2 + 1) (lv2 := [(0, .ref o), (1, .int p0), (2, .int (l2 + 1))]) [1, 2, 0] dX1_empty_13 rfl rfl (by decide) rfl rfl ?_
        refine G.goto (tgt := 2) dX1_empty_16 rfl ?_
        subst et_10
        exact ih  (sX1_vacate w l2) (l2 + 1) (PI.next hi c_5) (by rw [hs]; simp only [lsX1_empty_2, if_pos c_5])
  refine G.iconst (pc2 := 1) (v := 0) dX1_empty_0 (by decide) rfl ?_
  refine G.istore_n (pc2 := 2) (lv2 := [(0, .ref o), (1, .int p0), (2, .int 0)]) [1, 2, 0] dX1_empty_1 rfl (by decide) rfl rfl ?_
  exact loop2 65 u 0 (PI.start) (rfl)
set_option maxRecDepth 100000 in
set_option maxHeartbeats 4000000 in
theorem c_X3_empty {cI cZ : ClassId} (o g v : Nat) (u : SQ) (p0 : Int32)  : Ct yX3_empty wsX3_empty rX3_empty cI cZ [.ref o, .int p0] (wQ o g v cI u) 0 0 (rt (none) (wQ o g v cI (sX3_empty u p0))) := by
  refine Ct.of (cc := cX3_empty) (nL := 2) (own := RX3) (by decide) rfl rfl (Nat.le_of_ble_eq_true rfl) rfl ?_
  intro K hR hN
  refine G.aload_n (pc2 := 1) (x := o) dX3_empty_0 rfl rfl rfl ?_
  refine G.iconst (pc2 := 2) (v := 0) dX3_empty_1 (by decide) rfl ?_
  refine G.putf (pc2 := 5) (q0 := 0) (ci := 3) (k := 3) (ws2 := wQ o g v cI (u.1, u.2.1, u.2.2.1, 0)) iX3_empty_X3 kX3_empty_18 tyX3_ok nmX3 rfl rfl (by decide) rfl rfl rfl (Nat.le_of_ble_eq_true rfl) rfl dX3_empty_2 rfl ?_
  refine G.aload_n (pc2 := 6) (x := o) dX3_empty_5 rfl rfl rfl ?_
  refine G.iload_n (pc2 := 7) (x := p0) dX3_empty_6 rfl rfl rfl ?_
  refine G.putf (pc2 := 10) (q0 := 0) (ci := 3) (k := 2) (ws2 := wQ o g v cI (u.1, u.2.1, p0, 0)) iX3_empty_X3 kX3_empty_22 tyX3_ok nmX3 rfl rfl (by decide) rfl rfl rfl (Nat.le_of_ble_eq_true rfl) rfl dX3_empty_7 rfl ?_
  exact G.vreturn hR dX3_empty_10 ⟨rfl, congrArg (wQ o g v cI) (rfl)⟩
set_option maxRecDepth 100000 in
set_option maxHeartbeats 4000000 in
theorem c_X2_forgetAll {cI cZ : ClassId} (o t b : Nat) (u : SH) (p0 : Int32)  : Ct yX2_forgetAll wsX2_forgetAll rX2_forgetAll cI cZ [.ref o, .int p0] (wH o t b cI u) 0 0 (rt (none) (wH o t b cI (sX2_forgetAll u p0))) := by
  refine Ct.of (cc := cX2_forgetAll) (nL := 2) (own := RX2) (by decide) rfl rfl (Nat.le_of_ble_eq_true rfl) rfl ?_
  intro K hR hN
  refine G.aload_n (pc2 := 1) (x := o) dX2_forgetAll_0 rfl rfl rfl ?_
  refine G.getf (pc2 := 4) (q0 := 0) (ci := 2) (k := 1) (v := .ref b) iX2_forgetAll_X2 kX2_forgetAll_15 rfl rfl (by decide) rfl dX2_forgetAll_1 rfl ?_
  refine G.iconst (pc2 := 5) (v := 0) dX2_forgetAll_4 (by decide) rfl ?_
  refine G.callSd (pc2 := 8) (i := 2) (j := 3) (As := [.ref b, .int 0]) (rest := []) (ws2 := wH o t b cI (u.1, sJ7_fill_53178 u.2.1 0, u.2.2)) (st2 := []) (c_J7_fill_53178 (cI := cI) (cZ := cZ) b u.2.1 0) gX2_forgetAll_J7_fill_53178 rfl rfl rfl ndJ7_fill_53178.2 ⟨Nat.le_of_ble_eq_true rfl, Nat.le_of_ble_eq_true rfl⟩ ⟨Nat.le_of_ble_eq_true rfl, Nat.le_of_ble_eq_true rfl⟩ rfl rfl (Nat.le_of_ble_eq_true rfl) rfl rfl rfl dX2_forgetAll_5 rfl ?_
  generalize et_5 : sJ7_fill_53178 u.2.1 0 = t_5
  refine G.aload_n (pc2 := 9) (x := o) dX2_forgetAll_8 rfl rfl rfl ?_
  refine G.iload_n (pc2 := 10) (x := p0) dX2_forgetAll_9 rfl rfl rfl ?_
  refine G.putf (pc2 := 13) (q0 := 0) (ci := 2) (k := 2) (ws2 := wH o t b cI (u.1, t_5, p0)) iX2_forgetAll_X2 kX2_forgetAll_24 tyX2_ok nmX2 rfl rfl (by decide) rfl rfl rfl (Nat.le_of_ble_eq_true rfl) rfl dX2_forgetAll_10 rfl ?_
  subst et_5
  exact G.vreturn hR dX2_forgetAll_13 ⟨rfl, congrArg (wH o t b cI) (rfl)⟩
set_option maxRecDepth 100000 in
set_option maxHeartbeats 4000000 in
theorem c_X1_holds {cI cZ : ClassId} (o r c v p : Nat) (u : SF) (p0 : Int32) (h0 : Pg p0) (hf : FW u) : Ct yX1_holds wsX1_holds rX1_holds cI cZ [.ref o, .int p0] (wF o r c v p cI cZ u) 0 0 (rt (some (vX1_holds u p0)) (wF o r c v p cI cZ u)) := by
  refine Ct.of (cc := cX1_holds) (nL := 2) (own := RX1) (by decide) rfl rfl (Nat.le_of_ble_eq_true rfl) rfl ?_
  intro K hR hN
  refine G.aload_n (pc2 := 1) (x := o) dX1_holds_0 rfl rfl rfl ?_
  refine G.getf (pc2 := 4) (q0 := 0) (ci := 1) (k := 0) (v := .ref r) iX1_holds_X1 kX1_holds_9 rfl rfl (by decide) rfl dX1_holds_1 rfl ?_
  refine G.iload_n (pc2 := 5) (x := p0) dX1_holds_4 rfl rfl rfl ?_
  refine G.zald (pc2 := 6) (q0 := 1) (j := ix p0) (v := u.1 (ix p0)) rfl (h0) rfl dX1_holds_5 rfl ?_
  exact G.ireturn hR (hf.r _) dX1_holds_6 ⟨congrArg some (rfl), rfl⟩
set_option maxRecDepth 100000 in
set_option maxHeartbeats 4000000 in
theorem c_X1_areFull {cI cZ : ClassId} (o r c v p : Nat) (u : SF)  : Ct yX1_areFull wsX1_areFull rX1_areFull cI cZ [.ref o] (wF o r c v p cI cZ u) 0 0 (rt (some (vX1_areFull u)) (wF o r c v p cI cZ u)) := by
  refine Ct.of (cc := cX1_areFull) (nL := 1) (own := RX1) (by decide) rfl rfl (Nat.le_of_ble_eq_true rfl) rfl ?_
  intro K hR hN
  refine G.aload_n (pc2 := 1) (x := o) dX1_areFull_0 rfl rfl rfl ?_
  refine G.getf (pc2 := 4) (q0 := 0) (ci := 1) (k := 5) (v := .int u.2.2.2.2.2) iX1_areFull_X1 kX1_areFull_29 rfl rfl (by decide) rfl dX1_areFull_1 rfl ?_
  refine G.aload_n (pc2 := 5) (x := o) dX1_areFull_4 rfl rfl rfl ?_
  refine G.getf (pc2 := 8) (q0 := 0) (ci := 1) (k := 4) (v := .int u.2.2.2.2.1) iX1_areFull_X1 kX1_areFull_33 rfl rfl (by decide) rfl dX1_areFull_5 rfl ?_
  refine G.icmp_lt (pc2 := 11) (tgt := 15) dX1_areFull_8 rfl rfl (fun c_8 => ?_) (fun c_8 => ?_)
  · refine G.iconst (pc2 := 16) (v := 0) dX1_areFull_15 (by decide) rfl ?_
    exact G.ireturn hR (rfl) dX1_areFull_16 ⟨congrArg some (by simp only [vX1_areFull, if_pos c_8]), rfl⟩
  · refine G.iconst (pc2 := 12) (v := 1) dX1_areFull_11 (by decide) rfl ?_
    refine G.goto (tgt := 16) dX1_areFull_12 rfl ?_
    exact G.ireturn hR (rfl) dX1_areFull_16 ⟨congrArg some (by simp only [vX1_areFull, if_neg c_8]), rfl⟩
set_option maxRecDepth 100000 in
set_option maxHeartbeats 4000000 in
theorem c_X1_pinsOf {cI cZ : ClassId} (o r c v p : Nat) (u : SF) (p0 : Int32) (h0 : Pg p0) : Ct yX1_pinsOf wsX1_pinsOf rX1_pinsOf cI cZ [.ref o, .int p0] (wF o r c v p cI cZ u) 0 0 (rt (some (vX1_pinsOf u p0)) (wF o r c v p cI cZ u)) := by
  refine Ct.of (cc := cX1_pinsOf) (nL := 2) (own := RX1) (by decide) rfl rfl (Nat.le_of_ble_eq_true rfl) rfl ?_
  intro K hR hN
  refine G.aload_n (pc2 := 1) (x := o) dX1_pinsOf_0 rfl rfl rfl ?_
  refine G.getf (pc2 := 4) (q0 := 0) (ci := 1) (k := 3) (v := .ref p) iX1_pinsOf_X1 kX1_pinsOf_22 rfl rfl (by decide) rfl dX1_pinsOf_1 rfl ?_
  refine G.iload_n (pc2 := 5) (x := p0) dX1_pinsOf_4 rfl rfl rfl ?_
  refine G.iald (pc2 := 6) (q0 := 4) (j := ix p0) (v := u.2.2.2.1 (ix p0)) rfl (h0) rfl dX1_pinsOf_5 rfl ?_
  exact G.ireturn hR (rfl) dX1_pinsOf_6 ⟨congrArg some (rfl), rfl⟩
set_option maxRecDepth 100000 in
set_option maxHeartbeats 4000000 in
theorem c_X2_timeOf {cI cZ : ClassId} (o t b : Nat) (u : SH) (p0 p1 : Int32) (h0 : Pg p0) (hh : HW u) : Ct yX2_timeOf wsX2_timeOf rX2_timeOf cI cZ [.ref o, .int p0, .int p1] (wH o t b cI u) 0 0 (rt (some (vX2_timeOf u p0 p1)) (wH o t b cI u)) := by
  refine Ct.of (cc := cX2_timeOf) (nL := 3) (own := RX2) (by decide) rfl rfl (Nat.le_of_ble_eq_true rfl) rfl ?_
  intro K hR hN
  refine G.iload_n (pc2 := 1) (x := p1) dX2_timeOf_0 rfl rfl rfl ?_
  refine G.iconst (pc2 := 2) (v := 1) dX2_timeOf_1 (by decide) rfl ?_
  refine G.icmp_lt (pc2 := 5) (tgt := 30) dX2_timeOf_2 rfl rfl (fun c_2 => ?_) (fun c_2 => ?_)
  · refine G.bipush (pc2 := 32) (v := (-9)) dX2_timeOf_30 (by decide) rfl ?_
    exact G.ireturn hR (rfl) dX2_timeOf_32 ⟨congrArg some (by simp only [vX2_timeOf, if_pos c_2]), rfl⟩
  · refine G.iload_n (pc2 := 6) (x := p1) dX2_timeOf_5 rfl rfl rfl ?_
    refine G.aload_n (pc2 := 7) (x := o) dX2_timeOf_6 rfl rfl rfl ?_
    refine G.getf (pc2 := 10) (q0 := 0) (ci := 2) (k := 1) (v := .ref b) iX2_timeOf_X2 kX2_timeOf_15 rfl rfl (by decide) rfl dX2_timeOf_7 rfl ?_
    refine G.iload_n (pc2 := 11) (x := p0) dX2_timeOf_10 rfl rfl rfl ?_
    refine G.iald (pc2 := 12) (q0 := 2) (j := ix p0) (v := u.2.1 (ix p0)) rfl (h0) rfl dX2_timeOf_11 rfl ?_
    refine G.icmp_gt (pc2 := 15) (tgt := 30) dX2_timeOf_12 rfl rfl (fun c_12 => ?_) (fun c_12 => ?_)
    · refine G.bipush (pc2 := 32) (v := (-9)) dX2_timeOf_30 (by decide) rfl ?_
      exact G.ireturn hR (rfl) dX2_timeOf_32 ⟨congrArg some (by simp only [vX2_timeOf, if_neg c_2, if_pos c_12]), rfl⟩
    · refine G.aload_n (pc2 := 16) (x := o) dX2_timeOf_15 rfl rfl rfl ?_
      refine G.getf (pc2 := 19) (q0 := 0) (ci := 2) (k := 0) (v := .ref t) iX2_timeOf_X2 kX2_timeOf_9 rfl rfl (by decide) rfl dX2_timeOf_16 rfl ?_
      refine G.iload_n (pc2 := 20) (x := p0) dX2_timeOf_19 rfl rfl rfl ?_
      refine G.iconst (pc2 := 21) (v := 3) dX2_timeOf_20 (by decide) rfl ?_
      refine G.imul (pc2 := 22) (v := p0 * 3) dX2_timeOf_21 rfl rfl ?_
      refine G.iload_n (pc2 := 23) (x := p1) dX2_timeOf_22 rfl rfl rfl ?_
      refine G.iadd (pc2 := 24) (v := (p0 * 3) + p1) dX2_timeOf_23 rfl rfl ?_
      refine G.iconst (pc2 := 25) (v := 1) dX2_timeOf_24 (by decide) rfl ?_
      refine G.isub (pc2 := 26) (v := ((p0 * 3) + p1) - 1) dX2_timeOf_25 rfl rfl ?_
      refine G.iald (pc2 := 27) (q0 := 1) (j := ix (((p0 * 3) + p1) - 1)) (v := u.1 (ix (((p0 * 3) + p1) - 1))) rfl (timeIx h0 hh c_2 c_12) rfl dX2_timeOf_26 rfl ?_
      refine G.goto (tgt := 32) dX2_timeOf_27 rfl ?_
      exact G.ireturn hR (rfl) dX2_timeOf_32 ⟨congrArg some (by simp only [vX2_timeOf, if_neg c_2, if_neg c_12]), rfl⟩
set_option maxRecDepth 100000 in
set_option maxHeartbeats 4000000 in
theorem c_X2_goesBefore {cI cZ : ClassId} (o t b : Nat) (u : SH) (p0 p1 : Int32) (h0 : Pg p0) (h1 : Pg p1) (hh : HW u) : Ct yX2_goesBefore wsX2_goesBefore rX2_goesBefore cI cZ [.ref o, .int p0, .int p1] (wH o t b cI u) 0 0 (rt (some (vX2_goesBefore u p0 p1)) (wH o t b cI u)) := by
  refine Ct.of (cc := cX2_goesBefore) (nL := 6) (own := RX2) (by decide) rfl rfl (Nat.le_of_ble_eq_true rfl) rfl ?_
  intro K hR hN
  refine G.aload_n (pc2 := 1) (x := o) dX2_goesBefore_0 rfl rfl rfl ?_
  refine G.getf (pc2 := 4) (q0 := 0) (ci := 2) (k := 1) (v := .ref b) iX2_goesBefore_X2 kX2_goesBefore_15 rfl rfl (by decide) rfl dX2_goesBefore_1 rfl ?_
  refine G.iload_n (pc2 := 5) (x := p0) dX2_goesBefore_4 rfl rfl rfl ?_
  refine G.iald (pc2 := 6) (q0 := 2) (j := ix p0) (v := u.2.1 (ix p0)) rfl (h0) rfl dX2_goesBefore_5 rfl ?_
  refine G.aload_n (pc2 := 7) (x := o) dX2_goesBefore_6 rfl rfl rfl ?_
  refine G.getf (pc2 := 10) (q0 := 0) (ci := 2) (k := 2) (v := .int u.2.2) iX2_goesBefore_X2 kX2_goesBefore_24 rfl rfl (by decide) rfl dX2_goesBefore_7 rfl ?_
  refine G.icmp_ge (pc2 := 13) (tgt := 17) dX2_goesBefore_10 rfl rfl (fun c_10 => ?_) (fun c_10 => ?_)
  · refine G.iconst (pc2 := 18) (v := 0) dX2_goesBefore_17 (by decide) rfl ?_
    refine G.istore_n (pc2 := 19) (lv2 := [(0, .ref o), (1, .int p0), (2, .int p1), (3, .int 0)]) [1, 2, 3, 0] dX2_goesBefore_18 rfl (by decide) rfl rfl ?_
    refine G.aload_n (pc2 := 20) (x := o) dX2_goesBefore_19 rfl rfl rfl ?_
    refine G.getf (pc2 := 23) (q0 := 0) (ci := 2) (k := 1) (v := .ref b) iX2_goesBefore_X2 kX2_goesBefore_15 rfl rfl (by decide) rfl dX2_goesBefore_20 rfl ?_
    refine G.iload_n (pc2 := 24) (x := p1) dX2_goesBefore_23 rfl rfl rfl ?_
    refine G.iald (pc2 := 25) (q0 := 2) (j := ix p1) (v := u.2.1 (ix p1)) rfl (h1) rfl dX2_goesBefore_24 rfl ?_
    refine G.aload_n (pc2 := 26) (x := o) dX2_goesBefore_25 rfl rfl rfl ?_
    refine G.getf (pc2 := 29) (q0 := 0) (ci := 2) (k := 2) (v := .int u.2.2) iX2_goesBefore_X2 kX2_goesBefore_24 rfl rfl (by decide) rfl dX2_goesBefore_26 rfl ?_
    refine G.icmp_ge (pc2 := 32) (tgt := 36) dX2_goesBefore_29 rfl rfl (fun c_29 => ?_) (fun c_29 => ?_)
    · refine G.iconst (pc2 := 37) (v := 0) dX2_goesBefore_36 (by decide) rfl ?_
      refine G.istore (pc2 := 39) (lv2 := [(0, .ref o), (1, .int p0), (2, .int p1), (3, .int 0), (4, .int 0)]) [1, 2, 3, 4, 0] dX2_goesBefore_37 (by decide) rfl rfl ?_
      refine G.iload_n (pc2 := 40) (x := 0) dX2_goesBefore_39 rfl rfl rfl ?_
      refine G.iload (pc2 := 42) (x := 0) dX2_goesBefore_40 rfl rfl ?_
      refine G.icmp_eq (pc2 := 45) (tgt := 47) dX2_goesBefore_42 rfl rfl (fun c_42 => ?_) (fun c_42 => ?_)
      · refine G.iload_n (pc2 := 48) (x := 0) dX2_goesBefore_47 rfl rfl rfl ?_
        refine G.if_eq (pc2 := 51) (tgt := 55) dX2_goesBefore_48 rfl rfl (fun c_48 => ?_) (fun c_48 => ?_)
        · refine G.aload_n (pc2 := 56) (x := o) dX2_goesBefore_55 rfl rfl rfl ?_
          refine G.getf (pc2 := 59) (q0 := 0) (ci := 2) (k := 2) (v := .int u.2.2) iX2_goesBefore_X2 kX2_goesBefore_24 rfl rfl (by decide) rfl dX2_goesBefore_56 rfl ?_
          refine G.istore (pc2 := 61) (lv2 := [(0, .ref o), (1, .int p0), (2, .int p1), (3, .int 0), (4, .int 0), (5, .int u.2.2)]) [1, 2, 3, 4, 5, 0] dX2_goesBefore_59 (by decide) rfl rfl ?_
          refine G.aload_n (pc2 := 62) (x := o) dX2_goesBefore_61 rfl rfl rfl ?_
          refine G.iload_n (pc2 := 63) (x := p0) dX2_goesBefore_62 rfl rfl rfl ?_
          refine G.iload (pc2 := 65) (x := u.2.2) dX2_goesBefore_63 rfl rfl ?_
          refine G.callVd (pc2 := 68) (i := 0) (j := 3) (q0 := 0) (ci := 2) (As := [.int p0, .int u.2.2]) (rest := []) (ws2 := wH o t b cI u) (st2 := [.int (vX2_timeOf u p0 u.2.2)]) (c_X2_timeOf (cI := cI) (cZ := cZ) o t b u p0 u.2.2 (h0) (hh)) gX2_goesBefore_X2_timeOf rfl rfl rfl ndX2_timeOf ⟨Nat.le_of_ble_eq_true rfl, Nat.le_of_ble_eq_true rfl⟩ ⟨Nat.le_of_ble_eq_true rfl, Nat.le_of_ble_eq_true rfl⟩ rfl rfl (Nat.le_of_ble_eq_true rfl) rfl rfl rfl rfl rfl rfl dX2_goesBefore_65 rfl ?_
          generalize ev_65 : vX2_timeOf u p0 u.2.2 = v_65
          refine G.aload_n (pc2 := 69) (x := o) dX2_goesBefore_68 rfl rfl rfl ?_
          refine G.iload_n (pc2 := 70) (x := p1) dX2_goesBefore_69 rfl rfl rfl ?_
          refine G.iload (pc2 := 72) (x := u.2.2) dX2_goesBefore_70 rfl rfl ?_
          refine G.callVd (pc2 := 75) (i := 0) (j := 3) (q0 := 0) (ci := 2) (As := [.int p1, .int u.2.2]) (rest := [.int v_65]) (ws2 := wH o t b cI u) (st2 := [.int (vX2_timeOf u p1 u.2.2), .int v_65]) (c_X2_timeOf (cI := cI) (cZ := cZ) o t b u p1 u.2.2 (h1) (hh)) gX2_goesBefore_X2_timeOf rfl rfl rfl ndX2_timeOf ⟨Nat.le_of_ble_eq_true rfl, Nat.le_of_ble_eq_true rfl⟩ ⟨Nat.le_of_ble_eq_true rfl, Nat.le_of_ble_eq_true rfl⟩ rfl rfl (Nat.le_of_ble_eq_true rfl) rfl rfl rfl rfl rfl rfl dX2_goesBefore_72 rfl ?_
          generalize ev_72 : vX2_timeOf u p1 u.2.2 = v_72
          refine G.icmp_ge (pc2 := 78) (tgt := 82) dX2_goesBefore_75 rfl rfl (fun c_75 => ?_) (fun c_75 => ?_)
          · refine G.iconst (pc2 := 83) (v := 0) dX2_goesBefore_82 (by decide) rfl ?_
            subst ev_72 ev_65
            exact G.ireturn hR (rfl) dX2_goesBefore_83 ⟨congrArg some (by simp only [vX2_goesBefore, if_neg c_10, if_neg c_29, if_neg c_75]), rfl⟩
          · refine G.iconst (pc2 := 79) (v := 1) dX2_goesBefore_78 (by decide) rfl ?_
            refine G.goto (tgt := 83) dX2_goesBefore_79 rfl ?_
            subst ev_72 ev_65
            exact G.ireturn hR (rfl) dX2_goesBefore_83 ⟨congrArg some (by simp only [vX2_goesBefore, if_neg c_10, if_neg c_29, if_pos c_75]), rfl⟩
        · exact absurd c_48 (by decide)
      · exact absurd c_42 (by decide)
    · refine G.iconst (pc2 := 33) (v := 1) dX2_goesBefore_32 (by decide) rfl ?_
      refine G.goto (tgt := 37) dX2_goesBefore_33 rfl ?_
      refine G.istore (pc2 := 39) (lv2 := [(0, .ref o), (1, .int p0), (2, .int p1), (3, .int 0), (4, .int 1)]) [1, 2, 3, 4, 0] dX2_goesBefore_37 (by decide) rfl rfl ?_
      refine G.iload_n (pc2 := 40) (x := 0) dX2_goesBefore_39 rfl rfl rfl ?_
      refine G.iload (pc2 := 42) (x := 1) dX2_goesBefore_40 rfl rfl ?_
      refine G.icmp_eq (pc2 := 45) (tgt := 47) dX2_goesBefore_42 rfl rfl (fun c_42 => ?_) (fun c_42 => ?_)
      · exact absurd c_42 (by decide)
      · refine G.iload_n (pc2 := 46) (x := 0) dX2_goesBefore_45 rfl rfl rfl ?_
        exact G.ireturn hR (rfl) dX2_goesBefore_46 ⟨congrArg some (by simp only [vX2_goesBefore, if_neg c_10, if_pos c_29]), rfl⟩
  · refine G.iconst (pc2 := 14) (v := 1) dX2_goesBefore_13 (by decide) rfl ?_
    refine G.goto (tgt := 18) dX2_goesBefore_14 rfl ?_
    refine G.istore_n (pc2 := 19) (lv2 := [(0, .ref o), (1, .int p0), (2, .int p1), (3, .int 1)]) [1, 2, 3, 0] dX2_goesBefore_18 rfl (by decide) rfl rfl ?_
    refine G.aload_n (pc2 := 20) (x := o) dX2_goesBefore_19 rfl rfl rfl ?_
    refine G.getf (pc2 := 23) (q0 := 0) (ci := 2) (k := 1) (v := .ref b) iX2_goesBefore_X2 kX2_goesBefore_15 rfl rfl (by decide) rfl dX2_goesBefore_20 rfl ?_
    refine G.iload_n (pc2 := 24) (x := p1) dX2_goesBefore_23 rfl rfl rfl ?_
    refine G.iald (pc2 := 25) (q0 := 2) (j := ix p1) (v := u.2.1 (ix p1)) rfl (h1) rfl dX2_goesBefore_24 rfl ?_
    refine G.aload_n (pc2 := 26) (x := o) dX2_goesBefore_25 rfl rfl rfl ?_
    refine G.getf (pc2 := 29) (q0 := 0) (ci := 2) (k := 2) (v := .int u.2.2) iX2_goesBefore_X2 kX2_goesBefore_24 rfl rfl (by decide) rfl dX2_goesBefore_26 rfl ?_
    refine G.icmp_ge (pc2 := 32) (tgt := 36) dX2_goesBefore_29 rfl rfl (fun c_29 => ?_) (fun c_29 => ?_)
    · refine G.iconst (pc2 := 37) (v := 0) dX2_goesBefore_36 (by decide) rfl ?_
      refine G.istore (pc2 := 39) (lv2 := [(0, .ref o), (1, .int p0), (2, .int p1), (3, .int 1), (4, .int 0)]) [1, 2, 3, 4, 0] dX2_goesBefore_37 (by decide) rfl rfl ?_
      refine G.iload_n (pc2 := 40) (x := 1) dX2_goesBefore_39 rfl rfl rfl ?_
      refine G.iload (pc2 := 42) (x := 0) dX2_goesBefore_40 rfl rfl ?_
      refine G.icmp_eq (pc2 := 45) (tgt := 47) dX2_goesBefore_42 rfl rfl (fun c_42 => ?_) (fun c_42 => ?_)
      · exact absurd c_42 (by decide)
      · refine G.iload_n (pc2 := 46) (x := 1) dX2_goesBefore_45 rfl rfl rfl ?_
        exact G.ireturn hR (rfl) dX2_goesBefore_46 ⟨congrArg some (by simp only [vX2_goesBefore, if_pos c_10, if_neg c_29]), rfl⟩
    · refine G.iconst (pc2 := 33) (v := 1) dX2_goesBefore_32 (by decide) rfl ?_
      refine G.goto (tgt := 37) dX2_goesBefore_33 rfl ?_
      refine G.istore (pc2 := 39) (lv2 := [(0, .ref o), (1, .int p0), (2, .int p1), (3, .int 1), (4, .int 1)]) [1, 2, 3, 4, 0] dX2_goesBefore_37 (by decide) rfl rfl ?_
      refine G.iload_n (pc2 := 40) (x := 1) dX2_goesBefore_39 rfl rfl rfl ?_
      refine G.iload (pc2 := 42) (x := 1) dX2_goesBefore_40 rfl rfl ?_
      refine G.icmp_eq (pc2 := 45) (tgt := 47) dX2_goesBefore_42 rfl rfl (fun c_42 => ?_) (fun c_42 => ?_)
      · refine G.iload_n (pc2 := 48) (x := 1) dX2_goesBefore_47 rfl rfl rfl ?_
        refine G.if_eq (pc2 := 51) (tgt := 55) dX2_goesBefore_48 rfl rfl (fun c_48 => ?_) (fun c_48 => ?_)
        · exact absurd c_48 (by decide)
        · refine G.iconst (pc2 := 52) (v := 1) dX2_goesBefore_51 (by decide) rfl ?_
          refine G.goto (tgt := 59) dX2_goesBefore_52 rfl ?_
          refine G.istore (pc2 := 61) (lv2 := [(0, .ref o), (1, .int p0), (2, .int p1), (3, .int 1), (4, .int 1), (5, .int 1)]) [1, 2, 3, 4, 5, 0] dX2_goesBefore_59 (by decide) rfl rfl ?_
          refine G.aload_n (pc2 := 62) (x := o) dX2_goesBefore_61 rfl rfl rfl ?_
          refine G.iload_n (pc2 := 63) (x := p0) dX2_goesBefore_62 rfl rfl rfl ?_
          refine G.iload (pc2 := 65) (x := 1) dX2_goesBefore_63 rfl rfl ?_
          refine G.callVd (pc2 := 68) (i := 0) (j := 3) (q0 := 0) (ci := 2) (As := [.int p0, .int 1]) (rest := []) (ws2 := wH o t b cI u) (st2 := [.int (vX2_timeOf u p0 1)]) (c_X2_timeOf (cI := cI) (cZ := cZ) o t b u p0 1 (h0) (hh)) gX2_goesBefore_X2_timeOf rfl rfl rfl ndX2_timeOf ⟨Nat.le_of_ble_eq_true rfl, Nat.le_of_ble_eq_true rfl⟩ ⟨Nat.le_of_ble_eq_true rfl, Nat.le_of_ble_eq_true rfl⟩ rfl rfl (Nat.le_of_ble_eq_true rfl) rfl rfl rfl rfl rfl rfl dX2_goesBefore_65 rfl ?_
          generalize ev_65 : vX2_timeOf u p0 1 = v_65
          refine G.aload_n (pc2 := 69) (x := o) dX2_goesBefore_68 rfl rfl rfl ?_
          refine G.iload_n (pc2 := 70) (x := p1) dX2_goesBefore_69 rfl rfl rfl ?_
          refine G.iload (pc2 := 72) (x := 1) dX2_goesBefore_70 rfl rfl ?_
          refine G.callVd (pc2 := 75) (i := 0) (j := 3) (q0 := 0) (ci := 2) (As := [.int p1, .int 1]) (rest := [.int v_65]) (ws2 := wH o t b cI u) (st2 := [.int (vX2_timeOf u p1 1), .int v_65]) (c_X2_timeOf (cI := cI) (cZ := cZ) o t b u p1 1 (h1) (hh)) gX2_goesBefore_X2_timeOf rfl rfl rfl ndX2_timeOf ⟨Nat.le_of_ble_eq_true rfl, Nat.le_of_ble_eq_true rfl⟩ ⟨Nat.le_of_ble_eq_true rfl, Nat.le_of_ble_eq_true rfl⟩ rfl rfl (Nat.le_of_ble_eq_true rfl) rfl rfl rfl rfl rfl rfl dX2_goesBefore_72 rfl ?_
          generalize ev_72 : vX2_timeOf u p1 1 = v_72
          refine G.icmp_ge (pc2 := 78) (tgt := 82) dX2_goesBefore_75 rfl rfl (fun c_75 => ?_) (fun c_75 => ?_)
          · refine G.iconst (pc2 := 83) (v := 0) dX2_goesBefore_82 (by decide) rfl ?_
            subst ev_72 ev_65
            exact G.ireturn hR (rfl) dX2_goesBefore_83 ⟨congrArg some (by simp only [vX2_goesBefore, if_pos c_10, if_pos c_29, if_neg c_75]), rfl⟩
          · refine G.iconst (pc2 := 79) (v := 1) dX2_goesBefore_78 (by decide) rfl ?_
            refine G.goto (tgt := 83) dX2_goesBefore_79 rfl ?_
            subst ev_72 ev_65
            exact G.ireturn hR (rfl) dX2_goesBefore_83 ⟨congrArg some (by simp only [vX2_goesBefore, if_pos c_10, if_pos c_29, if_pos c_75]), rfl⟩
      · exact absurd c_42 (by decide)
set_option maxRecDepth 100000 in
set_option maxHeartbeats 4000000 in
theorem c_X1_isChanged {cI cZ : ClassId} (o r c v p : Nat) (u : SF) (p0 : Int32) (h0 : Pg p0) (hf : FW u) : Ct yX1_isChanged wsX1_isChanged rX1_isChanged cI cZ [.ref o, .int p0] (wF o r c v p cI cZ u) 0 0 (rt (some (vX1_isChanged u p0)) (wF o r c v p cI cZ u)) := by
  refine Ct.of (cc := cX1_isChanged) (nL := 2) (own := RX1) (by decide) rfl rfl (Nat.le_of_ble_eq_true rfl) rfl ?_
  intro K hR hN
  refine G.aload_n (pc2 := 1) (x := o) dX1_isChanged_0 rfl rfl rfl ?_
  refine G.getf (pc2 := 4) (q0 := 0) (ci := 1) (k := 1) (v := .ref c) iX1_isChanged_X1 kX1_isChanged_15 rfl rfl (by decide) rfl dX1_isChanged_1 rfl ?_
  refine G.iload_n (pc2 := 5) (x := p0) dX1_isChanged_4 rfl rfl rfl ?_
  refine G.zald (pc2 := 6) (q0 := 2) (j := ix p0) (v := u.2.1 (ix p0)) rfl (h0) rfl dX1_isChanged_5 rfl ?_
  exact G.ireturn hR (hf.c _) dX1_isChanged_6 ⟨congrArg some (rfl), rfl⟩
set_option maxRecDepth 100000 in
set_option maxHeartbeats 4000000 in
theorem c_X1_release {cI cZ : ClassId} (o r c v p : Nat) (u : SF) (p0 : Int32) (h0 : Pg p0) : Ct yX1_release wsX1_release rX1_release cI cZ [.ref o, .int p0] (wF o r c v p cI cZ u) 0 0 (rt (none) (wF o r c v p cI cZ (sX1_release u p0))) := by
  refine Ct.of (cc := cX1_release) (nL := 2) (own := RX1) (by decide) rfl rfl (Nat.le_of_ble_eq_true rfl) rfl ?_
  intro K hR hN
  refine G.aload_n (pc2 := 1) (x := o) dX1_release_0 rfl rfl rfl ?_
  refine G.iload_n (pc2 := 2) (x := p0) dX1_release_1 rfl rfl rfl ?_
  refine G.callVd (pc2 := 5) (i := 0) (j := 5) (q0 := 0) (ci := 1) (As := [.int p0]) (rest := []) (ws2 := wF o r c v p cI cZ (sX1_vacate u p0)) (st2 := []) (c_X1_vacate (cI := cI) (cZ := cZ) o r c v p u p0 (h0)) gX1_release_X1_vacate rfl rfl rfl ndX1_vacate ⟨Nat.le_of_ble_eq_true rfl, Nat.le_of_ble_eq_true rfl⟩ ⟨Nat.le_of_ble_eq_true rfl, Nat.le_of_ble_eq_true rfl⟩ rfl rfl (Nat.le_of_ble_eq_true rfl) rfl rfl rfl rfl rfl rfl dX1_release_2 rfl ?_
  generalize et_2 : sX1_vacate u p0 = t_2
  refine G.aload_n (pc2 := 6) (x := o) dX1_release_5 rfl rfl rfl ?_
  refine G.dup (pc2 := 7) dX1_release_6 rfl rfl ?_
  refine G.getf (pc2 := 10) (q0 := 0) (ci := 1) (k := 5) (v := .int t_2.2.2.2.2.2) iX1_release_X1 kX1_release_29 rfl rfl (by decide) rfl dX1_release_7 rfl ?_
  refine G.iconst (pc2 := 11) (v := 1) dX1_release_10 (by decide) rfl ?_
  refine G.isub (pc2 := 12) (v := t_2.2.2.2.2.2 - 1) dX1_release_11 rfl rfl ?_
  refine G.putf (pc2 := 15) (q0 := 0) (ci := 1) (k := 5) (ws2 := wF o r c v p cI cZ (t_2.1, t_2.2.1, t_2.2.2.1, t_2.2.2.2.1, t_2.2.2.2.2.1, t_2.2.2.2.2.2 - 1)) iX1_release_X1 kX1_release_29 tyX1_ok nmX1 rfl rfl (by decide) rfl rfl rfl (Nat.le_of_ble_eq_true rfl) rfl dX1_release_12 rfl ?_
  subst et_2
  exact G.vreturn hR dX1_release_15 ⟨rfl, congrArg (wF o r c v p cI cZ) (rfl)⟩
set_option maxRecDepth 100000 in
set_option maxHeartbeats 4000000 in
theorem c_X3_isFull {cI cZ : ClassId} (o g v : Nat) (u : SQ)  : Ct yX3_isFull wsX3_isFull rX3_isFull cI cZ [.ref o] (wQ o g v cI u) 0 0 (rt (some (vX3_isFull u)) (wQ o g v cI u)) := by
  refine Ct.of (cc := cX3_isFull) (nL := 1) (own := RX3) (by decide) rfl rfl (Nat.le_of_ble_eq_true rfl) rfl ?_
  intro K hR hN
  refine G.aload_n (pc2 := 1) (x := o) dX3_isFull_0 rfl rfl rfl ?_
  refine G.getf (pc2 := 4) (q0 := 0) (ci := 3) (k := 3) (v := .int u.2.2.2) iX3_isFull_X3 kX3_isFull_18 rfl rfl (by decide) rfl dX3_isFull_1 rfl ?_
  refine G.aload_n (pc2 := 5) (x := o) dX3_isFull_4 rfl rfl rfl ?_
  refine G.getf (pc2 := 8) (q0 := 0) (ci := 3) (k := 2) (v := .int u.2.2.1) iX3_isFull_X3 kX3_isFull_22 rfl rfl (by decide) rfl dX3_isFull_5 rfl ?_
  refine G.icmp_lt (pc2 := 11) (tgt := 15) dX3_isFull_8 rfl rfl (fun c_8 => ?_) (fun c_8 => ?_)
  · refine G.iconst (pc2 := 16) (v := 0) dX3_isFull_15 (by decide) rfl ?_
    exact G.ireturn hR (rfl) dX3_isFull_16 ⟨congrArg some (by simp only [vX3_isFull, if_pos c_8]), rfl⟩
  · refine G.iconst (pc2 := 12) (v := 1) dX3_isFull_11 (by decide) rfl ?_
    refine G.goto (tgt := 16) dX3_isFull_12 rfl ?_
    exact G.ireturn hR (rfl) dX3_isFull_16 ⟨congrArg some (by simp only [vX3_isFull, if_neg c_8]), rfl⟩
set_option maxRecDepth 100000 in
set_option maxHeartbeats 4000000 in
theorem c_X1_valueOf {cI cZ : ClassId} (o r c v p : Nat) (u : SF) (p0 : Int32) (h0 : Pg p0) : Ct yX1_valueOf wsX1_valueOf rX1_valueOf cI cZ [.ref o, .int p0] (wF o r c v p cI cZ u) 0 0 (rt (some (vX1_valueOf u p0)) (wF o r c v p cI cZ u)) := by
  refine Ct.of (cc := cX1_valueOf) (nL := 2) (own := RX1) (by decide) rfl rfl (Nat.le_of_ble_eq_true rfl) rfl ?_
  intro K hR hN
  refine G.aload_n (pc2 := 1) (x := o) dX1_valueOf_0 rfl rfl rfl ?_
  refine G.getf (pc2 := 4) (q0 := 0) (ci := 1) (k := 2) (v := .ref v) iX1_valueOf_X1 kX1_valueOf_18 rfl rfl (by decide) rfl dX1_valueOf_1 rfl ?_
  refine G.iload_n (pc2 := 5) (x := p0) dX1_valueOf_4 rfl rfl rfl ?_
  refine G.iald (pc2 := 6) (q0 := 3) (j := ix p0) (v := u.2.2.1 (ix p0)) rfl (h0) rfl dX1_valueOf_5 rfl ?_
  exact G.ireturn hR (rfl) dX1_valueOf_6 ⟨congrArg some (rfl), rfl⟩
set_option maxRecDepth 100000 in
set_option maxHeartbeats 4000000 in
theorem c_X3_append {cI cZ : ClassId} (o g v : Nat) (u : SQ) (p0 p1 : Int32) (hq : QW u) : Ct yX3_append wsX3_append rX3_append cI cZ [.ref o, .int p0, .int p1] (wQ o g v cI u) 0 0 (rt (none) (wQ o g v cI (sX3_append u p0 p1))) := by
  refine Ct.of (cc := cX3_append) (nL := 3) (own := RX3) (by decide) rfl rfl (Nat.le_of_ble_eq_true rfl) rfl ?_
  intro K hR hN
  refine G.aload_n (pc2 := 1) (x := o) dX3_append_0 rfl rfl rfl ?_
  refine G.callVd (pc2 := 4) (i := 0) (j := 3) (q0 := 0) (ci := 3) (As := []) (rest := []) (ws2 := wQ o g v cI u) (st2 := [.int (vX3_isFull u)]) (c_X3_isFull (cI := cI) (cZ := cZ) o g v u) gX3_append_X3_isFull rfl rfl rfl ndX3_isFull ⟨Nat.le_of_ble_eq_true rfl, Nat.le_of_ble_eq_true rfl⟩ ⟨Nat.le_of_ble_eq_true rfl, Nat.le_of_ble_eq_true rfl⟩ rfl rfl (Nat.le_of_ble_eq_true rfl) rfl rfl rfl rfl rfl rfl dX3_append_1 rfl ?_
  generalize ev_1 : vX3_isFull u = v_1
  refine G.if_eq (pc2 := 7) (tgt := 8) dX3_append_4 rfl rfl (fun c_4 => ?_) (fun c_4 => ?_)
  · refine G.aload_n (pc2 := 9) (x := o) dX3_append_8 rfl rfl rfl ?_
    refine G.getf (pc2 := 12) (q0 := 0) (ci := 3) (k := 0) (v := .ref g) iX3_append_X3 kX3_append_9 rfl rfl (by decide) rfl dX3_append_9 rfl ?_
    refine G.aload_n (pc2 := 13) (x := o) dX3_append_12 rfl rfl rfl ?_
    refine G.getf (pc2 := 16) (q0 := 0) (ci := 3) (k := 3) (v := .int u.2.2.2) iX3_append_X3 kX3_append_18 rfl rfl (by decide) rfl dX3_append_13 rfl ?_
    refine G.iload_n (pc2 := 17) (x := p0) dX3_append_16 rfl rfl rfl ?_
    refine G.iast (pc2 := 18) (q0 := 1) (j := ix u.2.2.2) (ws2 := wQ o g v cI (upd u.1 (ix u.2.2.2) p0, u.2.1, u.2.2.1, u.2.2.2)) rfl (by subst ev_1; exact (appIx hq c_4)) rfl dX3_append_17 rfl ?_
    refine G.aload_n (pc2 := 19) (x := o) dX3_append_18 rfl rfl rfl ?_
    refine G.getf (pc2 := 22) (q0 := 0) (ci := 3) (k := 1) (v := .ref v) iX3_append_X3 kX3_append_15 rfl rfl (by decide) rfl dX3_append_19 rfl ?_
    refine G.aload_n (pc2 := 23) (x := o) dX3_append_22 rfl rfl rfl ?_
    refine G.getf (pc2 := 26) (q0 := 0) (ci := 3) (k := 3) (v := .int u.2.2.2) iX3_append_X3 kX3_append_18 rfl rfl (by decide) rfl dX3_append_23 rfl ?_
    refine G.iload_n (pc2 := 27) (x := p1) dX3_append_26 rfl rfl rfl ?_
    refine G.iast (pc2 := 28) (q0 := 2) (j := ix u.2.2.2) (ws2 := wQ o g v cI (upd u.1 (ix u.2.2.2) p0, upd u.2.1 (ix u.2.2.2) p1, u.2.2.1, u.2.2.2)) rfl (by subst ev_1; exact (appIx hq c_4)) rfl dX3_append_27 rfl ?_
    refine G.aload_n (pc2 := 29) (x := o) dX3_append_28 rfl rfl rfl ?_
    refine G.dup (pc2 := 30) dX3_append_29 rfl rfl ?_
    refine G.getf (pc2 := 33) (q0 := 0) (ci := 3) (k := 3) (v := .int u.2.2.2) iX3_append_X3 kX3_append_18 rfl rfl (by decide) rfl dX3_append_30 rfl ?_
    refine G.iconst (pc2 := 34) (v := 1) dX3_append_33 (by decide) rfl ?_
    refine G.iadd (pc2 := 35) (v := u.2.2.2 + 1) dX3_append_34 rfl rfl ?_
    refine G.putf (pc2 := 38) (q0 := 0) (ci := 3) (k := 3) (ws2 := wQ o g v cI (upd u.1 (ix u.2.2.2) p0, upd u.2.1 (ix u.2.2.2) p1, u.2.2.1, u.2.2.2 + 1)) iX3_append_X3 kX3_append_18 tyX3_ok nmX3 rfl rfl (by decide) rfl rfl rfl (Nat.le_of_ble_eq_true rfl) rfl dX3_append_35 rfl ?_
    subst ev_1
    exact G.vreturn hR dX3_append_38 ⟨rfl, congrArg (wQ o g v cI) (by simp only [sX3_append, if_pos c_4])⟩
  · subst ev_1
    exact G.vreturn hR dX3_append_7 ⟨rfl, congrArg (wQ o g v cI) (by simp only [sX3_append, if_neg c_4])⟩
set_option maxRecDepth 100000 in
set_option maxHeartbeats 4000000 in
theorem c_X3_has {cI cZ : ClassId} (o g v : Nat) (u : SQ) (p0 : Int32)  : Ct yX3_has wsX3_has rX3_has cI cZ [.ref o, .int p0] (wQ o g v cI u) 0 0 (rt (some (vX3_has u p0)) (wQ o g v cI u)) := by
  refine Ct.of (cc := cX3_has) (nL := 2) (own := RX3) (by decide) rfl rfl (Nat.le_of_ble_eq_true rfl) rfl ?_
  intro K hR hN
  refine G.iload_n (pc2 := 1) (x := p0) dX3_has_0 rfl rfl rfl ?_
  refine G.if_lt (pc2 := 4) (tgt := 16) dX3_has_1 rfl rfl (fun c_1 => ?_) (fun c_1 => ?_)
  · refine G.iconst (pc2 := 17) (v := 0) dX3_has_16 (by decide) rfl ?_
    exact G.ireturn hR (rfl) dX3_has_17 ⟨congrArg some (by simp only [vX3_has, if_pos c_1]), rfl⟩
  · refine G.iload_n (pc2 := 5) (x := p0) dX3_has_4 rfl rfl rfl ?_
    refine G.aload_n (pc2 := 6) (x := o) dX3_has_5 rfl rfl rfl ?_
    refine G.getf (pc2 := 9) (q0 := 0) (ci := 3) (k := 3) (v := .int u.2.2.2) iX3_has_X3 kX3_has_18 rfl rfl (by decide) rfl dX3_has_6 rfl ?_
    refine G.icmp_ge (pc2 := 12) (tgt := 16) dX3_has_9 rfl rfl (fun c_9 => ?_) (fun c_9 => ?_)
    · refine G.iconst (pc2 := 17) (v := 0) dX3_has_16 (by decide) rfl ?_
      exact G.ireturn hR (rfl) dX3_has_17 ⟨congrArg some (by simp only [vX3_has, if_neg c_1, if_neg c_9]), rfl⟩
    · refine G.iconst (pc2 := 13) (v := 1) dX3_has_12 (by decide) rfl ?_
      refine G.goto (tgt := 17) dX3_has_13 rfl ?_
      exact G.ireturn hR (rfl) dX3_has_17 ⟨congrArg some (by simp only [vX3_has, if_neg c_1, if_pos c_9]), rfl⟩
set_option maxRecDepth 100000 in
set_option maxHeartbeats 4000000 in
theorem c_X3_pageAt {cI cZ : ClassId} (o g v : Nat) (u : SQ) (p0 : Int32) (hq : QW u) : Ct yX3_pageAt wsX3_pageAt rX3_pageAt cI cZ [.ref o, .int p0] (wQ o g v cI u) 0 0 (rt (some (vX3_pageAt u p0)) (wQ o g v cI u)) := by
  refine Ct.of (cc := cX3_pageAt) (nL := 2) (own := RX3) (by decide) rfl rfl (Nat.le_of_ble_eq_true rfl) rfl ?_
  intro K hR hN
  refine G.aload_n (pc2 := 1) (x := o) dX3_pageAt_0 rfl rfl rfl ?_
  refine G.iload_n (pc2 := 2) (x := p0) dX3_pageAt_1 rfl rfl rfl ?_
  refine G.callVd (pc2 := 5) (i := 0) (j := 3) (q0 := 0) (ci := 3) (As := [.int p0]) (rest := []) (ws2 := wQ o g v cI u) (st2 := [.int (vX3_has u p0)]) (c_X3_has (cI := cI) (cZ := cZ) o g v u p0) gX3_pageAt_X3_has rfl rfl rfl ndX3_has ⟨Nat.le_of_ble_eq_true rfl, Nat.le_of_ble_eq_true rfl⟩ ⟨Nat.le_of_ble_eq_true rfl, Nat.le_of_ble_eq_true rfl⟩ rfl rfl (Nat.le_of_ble_eq_true rfl) rfl rfl rfl rfl rfl rfl dX3_pageAt_2 rfl ?_
  generalize ev_2 : vX3_has u p0 = v_2
  refine G.if_eq (pc2 := 8) (tgt := 17) dX3_pageAt_5 rfl rfl (fun c_5 => ?_) (fun c_5 => ?_)
  · refine G.bipush (pc2 := 19) (v := (-9)) dX3_pageAt_17 (by decide) rfl ?_
    subst ev_2
    exact G.ireturn hR (rfl) dX3_pageAt_19 ⟨congrArg some (by simp only [vX3_pageAt, if_pos c_5]), rfl⟩
  · refine G.aload_n (pc2 := 9) (x := o) dX3_pageAt_8 rfl rfl rfl ?_
    refine G.getf (pc2 := 12) (q0 := 0) (ci := 3) (k := 0) (v := .ref g) iX3_pageAt_X3 kX3_pageAt_9 rfl rfl (by decide) rfl dX3_pageAt_9 rfl ?_
    refine G.iload_n (pc2 := 13) (x := p0) dX3_pageAt_12 rfl rfl rfl ?_
    refine G.iald (pc2 := 14) (q0 := 1) (j := ix p0) (v := u.1 (ix p0)) rfl (by subst ev_2; exact (hasIx hq c_5)) rfl dX3_pageAt_13 rfl ?_
    refine G.goto (tgt := 19) dX3_pageAt_14 rfl ?_
    subst ev_2
    exact G.ireturn hR (rfl) dX3_pageAt_19 ⟨congrArg some (by simp only [vX3_pageAt, if_neg c_5]), rfl⟩
set_option maxRecDepth 100000 in
set_option maxHeartbeats 4000000 in
theorem c_X3_valueAt {cI cZ : ClassId} (o g v : Nat) (u : SQ) (p0 : Int32) (hq : QW u) : Ct yX3_valueAt wsX3_valueAt rX3_valueAt cI cZ [.ref o, .int p0] (wQ o g v cI u) 0 0 (rt (some (vX3_valueAt u p0)) (wQ o g v cI u)) := by
  refine Ct.of (cc := cX3_valueAt) (nL := 2) (own := RX3) (by decide) rfl rfl (Nat.le_of_ble_eq_true rfl) rfl ?_
  intro K hR hN
  refine G.aload_n (pc2 := 1) (x := o) dX3_valueAt_0 rfl rfl rfl ?_
  refine G.iload_n (pc2 := 2) (x := p0) dX3_valueAt_1 rfl rfl rfl ?_
  refine G.callVd (pc2 := 5) (i := 0) (j := 3) (q0 := 0) (ci := 3) (As := [.int p0]) (rest := []) (ws2 := wQ o g v cI u) (st2 := [.int (vX3_has u p0)]) (c_X3_has (cI := cI) (cZ := cZ) o g v u p0) gX3_valueAt_X3_has rfl rfl rfl ndX3_has ⟨Nat.le_of_ble_eq_true rfl, Nat.le_of_ble_eq_true rfl⟩ ⟨Nat.le_of_ble_eq_true rfl, Nat.le_of_ble_eq_true rfl⟩ rfl rfl (Nat.le_of_ble_eq_true rfl) rfl rfl rfl rfl rfl rfl dX3_valueAt_2 rfl ?_
  generalize ev_2 : vX3_has u p0 = v_2
  refine G.if_eq (pc2 := 8) (tgt := 17) dX3_valueAt_5 rfl rfl (fun c_5 => ?_) (fun c_5 => ?_)
  · refine G.bipush (pc2 := 19) (v := (-9)) dX3_valueAt_17 (by decide) rfl ?_
    subst ev_2
    exact G.ireturn hR (rfl) dX3_valueAt_19 ⟨congrArg some (by simp only [vX3_valueAt, if_pos c_5]), rfl⟩
  · refine G.aload_n (pc2 := 9) (x := o) dX3_valueAt_8 rfl rfl rfl ?_
    refine G.getf (pc2 := 12) (q0 := 0) (ci := 3) (k := 1) (v := .ref v) iX3_valueAt_X3 kX3_valueAt_15 rfl rfl (by decide) rfl dX3_valueAt_9 rfl ?_
    refine G.iload_n (pc2 := 13) (x := p0) dX3_valueAt_12 rfl rfl rfl ?_
    refine G.iald (pc2 := 14) (q0 := 2) (j := ix p0) (v := u.2.1 (ix p0)) rfl (by subst ev_2; exact (hasIx hq c_5)) rfl dX3_valueAt_13 rfl ?_
    refine G.goto (tgt := 19) dX3_valueAt_14 rfl ?_
    subst ev_2
    exact G.ireturn hR (rfl) dX3_valueAt_19 ⟨congrArg some (by simp only [vX3_valueAt, if_neg c_5]), rfl⟩
set_option maxRecDepth 100000 in
set_option maxHeartbeats 4000000 in
theorem c_X0_store {cI cZ : ClassId} (o a : Nat) (u : SD) (p0 p1 : Int32) (h0 : Pg p0) : Ct yX0_store wsX0_store rX0_store cI cZ [.ref o, .int p0, .int p1] (wD o a cI u) 0 0 (rt (none) (wD o a cI (sX0_store u p0 p1))) := by
  refine Ct.of (cc := cX0_store) (nL := 3) (own := RX0) (by decide) rfl rfl (Nat.le_of_ble_eq_true rfl) rfl ?_
  intro K hR hN
  refine G.aload_n (pc2 := 1) (x := o) dX0_store_0 rfl rfl rfl ?_
  refine G.dup (pc2 := 2) dX0_store_1 rfl rfl ?_
  refine G.getf (pc2 := 5) (q0 := 0) (ci := 0) (k := 2) (v := .int u.2.2) iX0_store_X0 kX0_store_25 rfl rfl (by decide) rfl dX0_store_2 rfl ?_
  refine G.iconst (pc2 := 6) (v := 1) dX0_store_5 (by decide) rfl ?_
  refine G.iadd (pc2 := 7) (v := u.2.2 + 1) dX0_store_6 rfl rfl ?_
  refine G.putf (pc2 := 10) (q0 := 0) (ci := 0) (k := 2) (ws2 := wD o a cI (u.1, u.2.1, u.2.2 + 1)) iX0_store_X0 kX0_store_25 tyX0_ok nmX0 rfl rfl (by decide) rfl rfl rfl (Nat.le_of_ble_eq_true rfl) rfl dX0_store_7 rfl ?_
  refine G.aload_n (pc2 := 11) (x := o) dX0_store_10 rfl rfl rfl ?_
  refine G.getf (pc2 := 14) (q0 := 0) (ci := 0) (k := 0) (v := .ref a) iX0_store_X0 kX0_store_9 rfl rfl (by decide) rfl dX0_store_11 rfl ?_
  refine G.iload_n (pc2 := 15) (x := p0) dX0_store_14 rfl rfl rfl ?_
  refine G.iload_n (pc2 := 16) (x := p1) dX0_store_15 rfl rfl rfl ?_
  refine G.iast (pc2 := 17) (q0 := 1) (j := ix p0) (ws2 := wD o a cI (upd u.1 (ix p0) p1, u.2.1, u.2.2 + 1)) rfl (h0) rfl dX0_store_16 rfl ?_
  exact G.vreturn hR dX0_store_17 ⟨rfl, congrArg (wD o a cI) (rfl)⟩
set_option maxRecDepth 100000 in
set_option maxHeartbeats 4000000 in
theorem c_X3_removeAt {cI cZ : ClassId} (o g v : Nat) (u : SQ) (p0 : Int32) (hq : QW u) : Ct yX3_removeAt wsX3_removeAt rX3_removeAt cI cZ [.ref o, .int p0] (wQ o g v cI u) 0 0 (rt (none) (wQ o g v cI (sX3_removeAt u p0))) := by
  refine Ct.of (cc := cX3_removeAt) (nL := 3) (own := RX3) (by decide) rfl rfl (Nat.le_of_ble_eq_true rfl) rfl ?_
  intro K hR hN
  have loop21 : ∀ (n : Nat) (w : SQ) (l2 : Int32), SI n w l2 → sX3_removeAt u p0 = lsX3_removeAt_21 p0 n w l2 → G K cI cZ cX3_removeAt 3 RX3 wsX3_removeAt rX3_removeAt 0 0 (wQ o g v cI w) 21 [(0, .ref o), (1, .int p0), (2, .int l2)] [] := by
    intro n
    induction n with
    | zero =>
      intro w l2 hi hs
      exact absurd hi (SI.zero)
    | succ n ih =>
      intro w l2 hi hs
      refine G.iload_n (pc2 := 22) (x := l2) dX3_removeAt_21 rfl rfl rfl ?_
      refine G.aload_n (pc2 := 23) (x := o) dX3_removeAt_22 rfl rfl rfl ?_
      refine G.getf (pc2 := 26) (q0 := 0) (ci := 3) (k := 3) (v := .int w.2.2.2) iX3_removeAt_X3 kX3_removeAt_18 rfl rfl (by decide) rfl dX3_removeAt_23 rfl ?_
      refine G.icmp_ge (pc2 := 29) (tgt := 63) dX3_removeAt_26 rfl rfl (fun c_26 => ?_) (fun c_26 => ?_)
      · exact G.vreturn hR dX3_removeAt_63 ⟨rfl, congrArg (wQ o g v cI) (by rw [hs]; simp only [lsX3_removeAt_21, if_neg c_26])⟩
      · refine G.aload_n (pc2 := 30) (x := o) dX3_removeAt_29 rfl rfl rfl ?_
        refine G.getf (pc2 := 33) (q0 := 0) (ci := 3) (k := 0) (v := .ref g) iX3_removeAt_X3 kX3_removeAt_9 rfl rfl (by decide) rfl dX3_removeAt_30 rfl ?_
        refine G.iload_n (pc2 := 34) (x := l2) dX3_removeAt_33 rfl rfl rfl ?_
        refine G.aload_n (pc2 := 35) (x := o) dX3_removeAt_34 rfl rfl rfl ?_
        refine G.getf (pc2 := 38) (q0 := 0) (ci := 3) (k := 0) (v := .ref g) iX3_removeAt_X3 kX3_removeAt_9 rfl rfl (by decide) rfl dX3_removeAt_35 rfl ?_
        refine G.iload_n (pc2 := 39) (x := l2) dX3_removeAt_38 rfl rfl rfl ?_
        refine G.iconst (pc2 := 40) (v := 1) dX3_removeAt_39 (by decide) rfl ?_
        refine G.iadd (pc2 := 41) (v := l2 + 1) dX3_removeAt_40 rfl rfl ?_
        refine G.iald (pc2 := 42) (q0 := 1) (j := ix (l2 + 1)) (v := w.1 (ix (l2 + 1))) rfl (SI.inx1 hi c_26) rfl dX3_removeAt_41 rfl ?_
        refine G.iast (pc2 := 43) (q0 := 1) (j := ix l2) (ws2 := wQ o g v cI (upd w.1 (ix l2) (w.1 (ix (l2 + 1))), w.2.1, w.2.2.1, w.2.2.2)) rfl (SI.inx hi c_26) rfl dX3_removeAt_42 rfl ?_
        refine G.aload_n (pc2 := 44) (x := o) dX3_removeAt_43 rfl rfl rfl ?_
        refine G.getf (pc2 := 47) (q0 := 0) (ci := 3) (k := 1) (v := .ref v) iX3_removeAt_X3 kX3_removeAt_15 rfl rfl (by decide) rfl dX3_removeAt_44 rfl ?_
        refine G.iload_n (pc2 := 48) (x := l2) dX3_removeAt_47 rfl rfl rfl ?_
        refine G.aload_n (pc2 := 49) (x := o) dX3_removeAt_48 rfl rfl rfl ?_
        refine G.getf (pc2 := 52) (q0 := 0) (ci := 3) (k := 1) (v := .ref v) iX3_removeAt_X3 kX3_removeAt_15 rfl rfl (by decide) rfl dX3_removeAt_49 rfl ?_
        refine G.iload_n (pc2 := 53) (x := l2) dX3_removeAt_52 rfl rfl rfl ?_
        refine G.iconst (pc2 := 54) (v := 1) dX3_removeAt_53 (by decide) rfl ?_
        refine G.iadd (pc2 := 55) (v := l2 + 1) dX3_removeAt_54 rfl rfl ?_
        refine G.iald (pc2 := 56) (q0 := 2) (j := ix (l2 + 1)) (v := w.2.1 (ix (l2 + 1))) rfl (SI.inx1 hi c_26) rfl dX3_removeAt_55 rfl ?_
        refine G.iast (pc2 := 57) (q0 := 2) (j := ix l2) (ws2 := wQ o g v cI (upd w.1 (ix l2) (w.1 (ix (l2 + 1))), upd w.2.1 (ix l2) (w.2.1 (ix (l2 + 1))), w.2.2.1, w.2.2.2)) rfl (SI.inx hi c_26) rfl dX3_removeAt_56 rfl ?_
        refine G.iinc (pc2 := 60) (k := 2) (v := l2 + 1) (lv2 := [(0, .ref o), (1, .int p0), (2, .int (l2 + 1))]) [1, 2, 0] dX3_removeAt_57 rfl rfl (by decide) rfl rfl ?_
        refine G.goto (tgt := 21) dX3_removeAt_60 rfl ?_
        exact ih  (upd w.1 (ix l2) (w.1 (ix (l2 + 1))), upd w.2.1 (ix l2) (w.2.1 (ix (l2 + 1))), w.2.2.1, w.2.2.2) (l2 + 1) (SI.next hi c_26) (by rw [hs]; simp only [lsX3_removeAt_21, if_pos c_26])
  refine G.aload_n (pc2 := 1) (x := o) dX3_removeAt_0 rfl rfl rfl ?_
  refine G.iload_n (pc2 := 2) (x := p0) dX3_removeAt_1 rfl rfl rfl ?_
  refine G.callVd (pc2 := 5) (i := 0) (j := 3) (q0 := 0) (ci := 3) (As := [.int p0]) (rest := []) (ws2 := wQ o g v cI u) (st2 := [.int (vX3_has u p0)]) (c_X3_has (cI := cI) (cZ := cZ) o g v u p0) gX3_removeAt_X3_has rfl rfl rfl ndX3_has ⟨Nat.le_of_ble_eq_true rfl, Nat.le_of_ble_eq_true rfl⟩ ⟨Nat.le_of_ble_eq_true rfl, Nat.le_of_ble_eq_true rfl⟩ rfl rfl (Nat.le_of_ble_eq_true rfl) rfl rfl rfl rfl rfl rfl dX3_removeAt_2 rfl ?_
  generalize ev_2 : vX3_has u p0 = v_2
  refine G.if_ne (pc2 := 8) (tgt := 9) dX3_removeAt_5 rfl rfl (fun c_5 => ?_) (fun c_5 => ?_)
  · refine G.aload_n (pc2 := 10) (x := o) dX3_removeAt_9 rfl rfl rfl ?_
    refine G.dup (pc2 := 11) dX3_removeAt_10 rfl rfl ?_
    refine G.getf (pc2 := 14) (q0 := 0) (ci := 3) (k := 3) (v := .int u.2.2.2) iX3_removeAt_X3 kX3_removeAt_18 rfl rfl (by decide) rfl dX3_removeAt_11 rfl ?_
    refine G.iconst (pc2 := 15) (v := 1) dX3_removeAt_14 (by decide) rfl ?_
    refine G.isub (pc2 := 16) (v := u.2.2.2 - 1) dX3_removeAt_15 rfl rfl ?_
    refine G.putf (pc2 := 19) (q0 := 0) (ci := 3) (k := 3) (ws2 := wQ o g v cI (u.1, u.2.1, u.2.2.1, u.2.2.2 - 1)) iX3_removeAt_X3 kX3_removeAt_18 tyX3_ok nmX3 rfl rfl (by decide) rfl rfl rfl (Nat.le_of_ble_eq_true rfl) rfl dX3_removeAt_16 rfl ?_
    refine G.iload_n (pc2 := 20) (x := p0) dX3_removeAt_19 rfl rfl rfl ?_
    refine G.istore_n (pc2 := 21) (lv2 := [(0, .ref o), (1, .int p0), (2, .int p0)]) [1, 2, 0] dX3_removeAt_20 rfl (by decide) rfl rfl ?_
    subst ev_2
    exact loop21 9 (u.1, u.2.1, u.2.2.1, u.2.2.2 - 1) p0 (SI.start hq c_5) (by simp only [sX3_removeAt, if_neg c_5])
  · subst ev_2
    exact G.vreturn hR dX3_removeAt_8 ⟨rfl, congrArg (wQ o g v cI) (by simp only [sX3_removeAt, if_pos c_5])⟩
set_option maxRecDepth 100000 in
set_option maxHeartbeats 4000000 in
theorem c_X3_positionOf {cI cZ : ClassId} (o g v : Nat) (u : SQ) (p0 : Int32) (hq : QW u) : Ct yX3_positionOf wsX3_positionOf rX3_positionOf cI cZ [.ref o, .int p0] (wQ o g v cI u) 0 0 (rt (some (vX3_positionOf u p0)) (wQ o g v cI u)) := by
  refine Ct.of (cc := cX3_positionOf) (nL := 3) (own := RX3) (by decide) rfl rfl (Nat.le_of_ble_eq_true rfl) rfl ?_
  intro K hR hN
  have loop2 : ∀ (n : Nat) (l2 : Int32), QI n u l2 → vX3_positionOf u p0 = lvX3_positionOf_2 u p0 n l2 → G K cI cZ cX3_positionOf 3 RX3 wsX3_positionOf rX3_positionOf 0 0 (wQ o g v cI u) 2 [(0, .ref o), (1, .int p0), (2, .int l2)] [] := by
    intro n
    induction n with
    | zero =>
      intro l2 hi hv
      exact absurd hi (QI.zero)
    | succ n ih =>
      intro l2 hi hv
      refine G.iload_n (pc2 := 3) (x := l2) dX3_positionOf_2 rfl rfl rfl ?_
      refine G.aload_n (pc2 := 4) (x := o) dX3_positionOf_3 rfl rfl rfl ?_
      refine G.getf (pc2 := 7) (q0 := 0) (ci := 3) (k := 3) (v := .int u.2.2.2) iX3_positionOf_X3 kX3_positionOf_18 rfl rfl (by decide) rfl dX3_positionOf_4 rfl ?_
      refine G.icmp_ge (pc2 := 10) (tgt := 28) dX3_positionOf_7 rfl rfl (fun c_7 => ?_) (fun c_7 => ?_)
      · refine G.bipush (pc2 := 30) (v := (-9)) dX3_positionOf_28 (by decide) rfl ?_
        exact G.ireturn hR (rfl) dX3_positionOf_30 ⟨congrArg some (by rw [hv]; simp only [lvX3_positionOf_2, if_neg c_7]), rfl⟩
      · refine G.aload_n (pc2 := 11) (x := o) dX3_positionOf_10 rfl rfl rfl ?_
        refine G.getf (pc2 := 14) (q0 := 0) (ci := 3) (k := 0) (v := .ref g) iX3_positionOf_X3 kX3_positionOf_9 rfl rfl (by decide) rfl dX3_positionOf_11 rfl ?_
        refine G.iload_n (pc2 := 15) (x := l2) dX3_positionOf_14 rfl rfl rfl ?_
        refine G.iald (pc2 := 16) (q0 := 1) (j := ix l2) (v := u.1 (ix l2)) rfl (QI.inx hi c_7) rfl dX3_positionOf_15 rfl ?_
        refine G.iload_n (pc2 := 17) (x := p0) dX3_positionOf_16 rfl rfl rfl ?_
        refine G.icmp_ne (pc2 := 20) (tgt := 22) dX3_positionOf_17 rfl rfl (fun c_17 => ?_) (fun c_17 => ?_)
        · refine G.iinc (pc2 := 25) (k := 2) (v := l2 + 1) (lv2 := [(0, .ref o), (1, .int p0), (2, .int (l2 + 1))]) [1, 2, 0] dX3_positionOf_22 rfl rfl (by decide) rfl rfl ?_
          refine G.goto (tgt := 2) dX3_positionOf_25 rfl ?_
          exact ih  (l2 + 1) (QI.next hi c_7) (by rw [hv]; simp only [lvX3_positionOf_2, if_pos c_7, if_neg c_17])
        · refine G.iload_n (pc2 := 21) (x := l2) dX3_positionOf_20 rfl rfl rfl ?_
          exact G.ireturn hR (rfl) dX3_positionOf_21 ⟨congrArg some (by rw [hv]; simp only [lvX3_positionOf_2, if_pos c_7, if_pos c_17]), rfl⟩
  refine G.iconst (pc2 := 1) (v := 0) dX3_positionOf_0 (by decide) rfl ?_
  refine G.istore_n (pc2 := 2) (lv2 := [(0, .ref o), (1, .int p0), (2, .int 0)]) [1, 2, 0] dX3_positionOf_1 rfl (by decide) rfl rfl ?_
  exact loop2 9 0 (QI.start hq) (rfl)
set_option maxRecDepth 100000 in
set_option maxHeartbeats 4000000 in
theorem c_X1_place {cI cZ : ClassId} (o r c v p : Nat) (u : SF) (p0 p1 : Int32) (h0 : Pg p0) : Ct yX1_place wsX1_place rX1_place cI cZ [.ref o, .int p0, .int p1] (wF o r c v p cI cZ u) 0 0 (rt (none) (wF o r c v p cI cZ (sX1_place u p0 p1))) := by
  refine Ct.of (cc := cX1_place) (nL := 3) (own := RX1) (by decide) rfl rfl (Nat.le_of_ble_eq_true rfl) rfl ?_
  intro K hR hN
  refine G.aload_n (pc2 := 1) (x := o) dX1_place_0 rfl rfl rfl ?_
  refine G.getf (pc2 := 4) (q0 := 0) (ci := 1) (k := 0) (v := .ref r) iX1_place_X1 kX1_place_9 rfl rfl (by decide) rfl dX1_place_1 rfl ?_
  refine G.iload_n (pc2 := 5) (x := p0) dX1_place_4 rfl rfl rfl ?_
  refine G.iconst (pc2 := 6) (v := 1) dX1_place_5 (by decide) rfl ?_
  refine G.zast (y := 1) (pc2 := 7) (q0 := 1) (j := ix p0) (ws2 := wF o r c v p cI cZ (upd u.1 (ix p0) 1, u.2.1, u.2.2.1, u.2.2.2.1, u.2.2.2.2.1, u.2.2.2.2.2)) rfl (h0) rfl rfl dX1_place_6 rfl ?_
  refine G.aload_n (pc2 := 8) (x := o) dX1_place_7 rfl rfl rfl ?_
  refine G.getf (pc2 := 11) (q0 := 0) (ci := 1) (k := 2) (v := .ref v) iX1_place_X1 kX1_place_18 rfl rfl (by decide) rfl dX1_place_8 rfl ?_
  refine G.iload_n (pc2 := 12) (x := p0) dX1_place_11 rfl rfl rfl ?_
  refine G.iload_n (pc2 := 13) (x := p1) dX1_place_12 rfl rfl rfl ?_
  refine G.iast (pc2 := 14) (q0 := 3) (j := ix p0) (ws2 := wF o r c v p cI cZ (upd u.1 (ix p0) 1, u.2.1, upd u.2.2.1 (ix p0) p1, u.2.2.2.1, u.2.2.2.2.1, u.2.2.2.2.2)) rfl (h0) rfl dX1_place_13 rfl ?_
  refine G.aload_n (pc2 := 15) (x := o) dX1_place_14 rfl rfl rfl ?_
  refine G.dup (pc2 := 16) dX1_place_15 rfl rfl ?_
  refine G.getf (pc2 := 19) (q0 := 0) (ci := 1) (k := 5) (v := .int u.2.2.2.2.2) iX1_place_X1 kX1_place_29 rfl rfl (by decide) rfl dX1_place_16 rfl ?_
  refine G.iconst (pc2 := 20) (v := 1) dX1_place_19 (by decide) rfl ?_
  refine G.iadd (pc2 := 21) (v := u.2.2.2.2.2 + 1) dX1_place_20 rfl rfl ?_
  refine G.putf (pc2 := 24) (q0 := 0) (ci := 1) (k := 5) (ws2 := wF o r c v p cI cZ (upd u.1 (ix p0) 1, u.2.1, upd u.2.2.1 (ix p0) p1, u.2.2.2.1, u.2.2.2.2.1, u.2.2.2.2.2 + 1)) iX1_place_X1 kX1_place_29 tyX1_ok nmX1 rfl rfl (by decide) rfl rfl rfl (Nat.le_of_ble_eq_true rfl) rfl dX1_place_21 rfl ?_
  exact G.vreturn hR dX1_place_24 ⟨rfl, congrArg (wF o r c v p cI cZ) (rfl)⟩
set_option maxRecDepth 100000 in
set_option maxHeartbeats 4000000 in
theorem c_X1_change {cI cZ : ClassId} (o r c v p : Nat) (u : SF) (p0 p1 : Int32) (h0 : Pg p0) : Ct yX1_change wsX1_change rX1_change cI cZ [.ref o, .int p0, .int p1] (wF o r c v p cI cZ u) 0 0 (rt (none) (wF o r c v p cI cZ (sX1_change u p0 p1))) := by
  refine Ct.of (cc := cX1_change) (nL := 3) (own := RX1) (by decide) rfl rfl (Nat.le_of_ble_eq_true rfl) rfl ?_
  intro K hR hN
  refine G.aload_n (pc2 := 1) (x := o) dX1_change_0 rfl rfl rfl ?_
  refine G.getf (pc2 := 4) (q0 := 0) (ci := 1) (k := 2) (v := .ref v) iX1_change_X1 kX1_change_18 rfl rfl (by decide) rfl dX1_change_1 rfl ?_
  refine G.iload_n (pc2 := 5) (x := p0) dX1_change_4 rfl rfl rfl ?_
  refine G.iload_n (pc2 := 6) (x := p1) dX1_change_5 rfl rfl rfl ?_
  refine G.iast (pc2 := 7) (q0 := 3) (j := ix p0) (ws2 := wF o r c v p cI cZ (u.1, u.2.1, upd u.2.2.1 (ix p0) p1, u.2.2.2.1, u.2.2.2.2.1, u.2.2.2.2.2)) rfl (h0) rfl dX1_change_6 rfl ?_
  refine G.aload_n (pc2 := 8) (x := o) dX1_change_7 rfl rfl rfl ?_
  refine G.getf (pc2 := 11) (q0 := 0) (ci := 1) (k := 1) (v := .ref c) iX1_change_X1 kX1_change_15 rfl rfl (by decide) rfl dX1_change_8 rfl ?_
  refine G.iload_n (pc2 := 12) (x := p0) dX1_change_11 rfl rfl rfl ?_
  refine G.iconst (pc2 := 13) (v := 1) dX1_change_12 (by decide) rfl ?_
  refine G.zast (y := 1) (pc2 := 14) (q0 := 2) (j := ix p0) (ws2 := wF o r c v p cI cZ (u.1, upd u.2.1 (ix p0) 1, upd u.2.2.1 (ix p0) p1, u.2.2.2.1, u.2.2.2.2.1, u.2.2.2.2.2)) rfl (h0) rfl rfl dX1_change_13 rfl ?_
  exact G.vreturn hR dX1_change_14 ⟨rfl, congrArg (wF o r c v p cI cZ) (rfl)⟩
set_option maxRecDepth 100000 in
set_option maxHeartbeats 4000000 in
theorem c_X0_load {cI cZ : ClassId} (o a : Nat) (u : SD) (p0 : Int32) (h0 : Pg p0) : Ct yX0_load wsX0_load rX0_load cI cZ [.ref o, .int p0] (wD o a cI u) 0 0 (rt (some (vX0_load u p0)) (wD o a cI (sX0_load u p0))) := by
  refine Ct.of (cc := cX0_load) (nL := 2) (own := RX0) (by decide) rfl rfl (Nat.le_of_ble_eq_true rfl) rfl ?_
  intro K hR hN
  refine G.aload_n (pc2 := 1) (x := o) dX0_load_0 rfl rfl rfl ?_
  refine G.dup (pc2 := 2) dX0_load_1 rfl rfl ?_
  refine G.getf (pc2 := 5) (q0 := 0) (ci := 0) (k := 1) (v := .int u.2.1) iX0_load_X0 kX0_load_21 rfl rfl (by decide) rfl dX0_load_2 rfl ?_
  refine G.iconst (pc2 := 6) (v := 1) dX0_load_5 (by decide) rfl ?_
  refine G.iadd (pc2 := 7) (v := u.2.1 + 1) dX0_load_6 rfl rfl ?_
  refine G.putf (pc2 := 10) (q0 := 0) (ci := 0) (k := 1) (ws2 := wD o a cI (u.1, u.2.1 + 1, u.2.2)) iX0_load_X0 kX0_load_21 tyX0_ok nmX0 rfl rfl (by decide) rfl rfl rfl (Nat.le_of_ble_eq_true rfl) rfl dX0_load_7 rfl ?_
  refine G.aload_n (pc2 := 11) (x := o) dX0_load_10 rfl rfl rfl ?_
  refine G.getf (pc2 := 14) (q0 := 0) (ci := 0) (k := 0) (v := .ref a) iX0_load_X0 kX0_load_9 rfl rfl (by decide) rfl dX0_load_11 rfl ?_
  refine G.iload_n (pc2 := 15) (x := p0) dX0_load_14 rfl rfl rfl ?_
  refine G.iald (pc2 := 16) (q0 := 1) (j := ix p0) (v := u.1 (ix p0)) rfl (h0) rfl dX0_load_15 rfl ?_
  exact G.ireturn hR (rfl) dX0_load_16 ⟨congrArg some (rfl), congrArg (wD o a cI) (rfl)⟩
set_option maxRecDepth 100000 in
set_option maxHeartbeats 4000000 in
theorem c_X2_forget {cI cZ : ClassId} (o t b : Nat) (u : SH) (p0 : Int32) (h0 : Pg p0) : Ct yX2_forget wsX2_forget rX2_forget cI cZ [.ref o, .int p0] (wH o t b cI u) 0 0 (rt (none) (wH o t b cI (sX2_forget u p0))) := by
  refine Ct.of (cc := cX2_forget) (nL := 2) (own := RX2) (by decide) rfl rfl (Nat.le_of_ble_eq_true rfl) rfl ?_
  intro K hR hN
  refine G.aload_n (pc2 := 1) (x := o) dX2_forget_0 rfl rfl rfl ?_
  refine G.getf (pc2 := 4) (q0 := 0) (ci := 2) (k := 1) (v := .ref b) iX2_forget_X2 kX2_forget_15 rfl rfl (by decide) rfl dX2_forget_1 rfl ?_
  refine G.iload_n (pc2 := 5) (x := p0) dX2_forget_4 rfl rfl rfl ?_
  refine G.iconst (pc2 := 6) (v := 0) dX2_forget_5 (by decide) rfl ?_
  refine G.iast (pc2 := 7) (q0 := 2) (j := ix p0) (ws2 := wH o t b cI (u.1, upd u.2.1 (ix p0) 0, u.2.2)) rfl (h0) rfl dX2_forget_6 rfl ?_
  exact G.vreturn hR dX2_forget_7 ⟨rfl, congrArg (wH o t b cI) (rfl)⟩
set_option maxRecDepth 100000 in
set_option maxHeartbeats 4000000 in
theorem c_X2_record {cI cZ : ClassId} (o t b : Nat) (u : SH) (p0 p1 : Int32) (h0 : Pg p0) : Ct yX2_record wsX2_record rX2_record cI cZ [.ref o, .int p0, .int p1] (wH o t b cI u) 0 0 (rt (none) (wH o t b cI (sX2_record u p0 p1))) := by
  refine Ct.of (cc := cX2_record) (nL := 5) (own := RX2) (by decide) rfl rfl (Nat.le_of_ble_eq_true rfl) rfl ?_
  intro K hR hN
  have loop11 : ∀ (n : Nat) (w : SH) (l4 : Int32), RI n p0 l4 → sX2_record u p0 p1 = lsX2_record_11 p0 p1 n w l4 → G K cI cZ cX2_record 5 RX2 wsX2_record rX2_record 0 0 (wH o t b cI w) 11 [(0, .ref o), (1, .int p0), (2, .int p1), (3, .int (p0 * 3)), (4, .int l4)] [] := by
    intro n
    induction n with
    | zero =>
      intro w l4 hi hs
      exact absurd hi (RI.zero)
    | succ n ih =>
      intro w l4 hi hs
      refine G.iload (pc2 := 13) (x := l4) dX2_record_11 rfl rfl ?_
      refine G.iload_n (pc2 := 14) (x := p0 * 3) dX2_record_13 rfl rfl rfl ?_
      refine G.icmp_le (pc2 := 17) (tgt := 39) dX2_record_14 rfl rfl (fun c_14 => ?_) (fun c_14 => ?_)
      · refine G.aload_n (pc2 := 40) (x := o) dX2_record_39 rfl rfl rfl ?_
        refine G.getf (pc2 := 43) (q0 := 0) (ci := 2) (k := 0) (v := .ref t) iX2_record_X2 kX2_record_9 rfl rfl (by decide) rfl dX2_record_40 rfl ?_
        refine G.iload_n (pc2 := 44) (x := p0 * 3) dX2_record_43 rfl rfl rfl ?_
        refine G.iload_n (pc2 := 45) (x := p1) dX2_record_44 rfl rfl rfl ?_
        refine G.iast (pc2 := 46) (q0 := 1) (j := ix (p0 * 3)) (ws2 := wH o t b cI (upd w.1 (ix (p0 * 3)) p1, w.2.1, w.2.2)) rfl (recIx0 h0) rfl dX2_record_45 rfl ?_
        refine G.aload_n (pc2 := 47) (x := o) dX2_record_46 rfl rfl rfl ?_
        refine G.getf (pc2 := 50) (q0 := 0) (ci := 2) (k := 1) (v := .ref b) iX2_record_X2 kX2_record_15 rfl rfl (by decide) rfl dX2_record_47 rfl ?_
        refine G.iload_n (pc2 := 51) (x := p0) dX2_record_50 rfl rfl rfl ?_
        refine G.iald (pc2 := 52) (q0 := 2) (j := ix p0) (v := w.2.1 (ix p0)) rfl (h0) rfl dX2_record_51 rfl ?_
        refine G.aload_n (pc2 := 53) (x := o) dX2_record_52 rfl rfl rfl ?_
        refine G.getf (pc2 := 56) (q0 := 0) (ci := 2) (k := 2) (v := .int w.2.2) iX2_record_X2 kX2_record_24 rfl rfl (by decide) rfl dX2_record_53 rfl ?_
        refine G.icmp_ge (pc2 := 59) (tgt := 69) dX2_record_56 rfl rfl (fun c_56 => ?_) (fun c_56 => ?_)
        · exact G.vreturn hR dX2_record_69 ⟨rfl, congrArg (wH o t b cI) (by rw [hs]; simp only [lsX2_record_11, if_neg c_14, if_neg c_56])⟩
        · refine G.aload_n (pc2 := 60) (x := o) dX2_record_59 rfl rfl rfl ?_
          refine G.getf (pc2 := 63) (q0 := 0) (ci := 2) (k := 1) (v := .ref b) iX2_record_X2 kX2_record_15 rfl rfl (by decide) rfl dX2_record_60 rfl ?_
          refine G.iload_n (pc2 := 64) (x := p0) dX2_record_63 rfl rfl rfl ?_
          refine G.dup2 (pc2 := 65) dX2_record_64 rfl rfl rfl ?_
          refine G.iald (pc2 := 66) (q0 := 2) (j := ix p0) (v := w.2.1 (ix p0)) rfl (h0) rfl dX2_record_65 rfl ?_
          refine G.iconst (pc2 := 67) (v := 1) dX2_record_66 (by decide) rfl ?_
          refine G.iadd (pc2 := 68) (v := (w.2.1 (ix p0)) + 1) dX2_record_67 rfl rfl ?_
          refine G.iast (pc2 := 69) (q0 := 2) (j := ix p0) (ws2 := wH o t b cI (upd w.1 (ix (p0 * 3)) p1, upd w.2.1 (ix p0) ((w.2.1 (ix p0)) + 1), w.2.2)) rfl (h0) rfl dX2_record_68 rfl ?_
          exact G.vreturn hR dX2_record_69 ⟨rfl, congrArg (wH o t b cI) (by rw [hs]; simp only [lsX2_record_11, if_neg c_14, if_pos c_56])⟩
      · refine G.aload_n (pc2 := 18) (x := o) dX2_record_17 rfl rfl rfl ?_
        refine G.getf (pc2 := 21) (q0 := 0) (ci := 2) (k := 0) (v := .ref t) iX2_record_X2 kX2_record_9 rfl rfl (by decide) rfl dX2_record_18 rfl ?_
        refine G.iload (pc2 := 23) (x := l4) dX2_record_21 rfl rfl ?_
        refine G.aload_n (pc2 := 24) (x := o) dX2_record_23 rfl rfl rfl ?_
        refine G.getf (pc2 := 27) (q0 := 0) (ci := 2) (k := 0) (v := .ref t) iX2_record_X2 kX2_record_9 rfl rfl (by decide) rfl dX2_record_24 rfl ?_
        refine G.iload (pc2 := 29) (x := l4) dX2_record_27 rfl rfl ?_
        refine G.iconst (pc2 := 30) (v := 1) dX2_record_29 (by decide) rfl ?_
        refine G.isub (pc2 := 31) (v := l4 - 1) dX2_record_30 rfl rfl ?_
        refine G.iald (pc2 := 32) (q0 := 1) (j := ix (l4 - 1)) (v := w.1 (ix (l4 - 1))) rfl (RI.inx1 h0 hi c_14) rfl dX2_record_31 rfl ?_
        refine G.iast (pc2 := 33) (q0 := 1) (j := ix l4) (ws2 := wH o t b cI (upd w.1 (ix l4) (w.1 (ix (l4 - 1))), w.2.1, w.2.2)) rfl (RI.inx h0 hi) rfl dX2_record_32 rfl ?_
        refine G.iinc (pc2 := 36) (k := 4) (v := l4 + (-1)) (lv2 := [(0, .ref o), (1, .int p0), (2, .int p1), (3, .int (p0 * 3)), (4, .int (l4 + (-1)))]) [1, 2, 3, 4, 0] dX2_record_33 rfl rfl (by decide) rfl rfl ?_
        refine G.goto (tgt := 11) dX2_record_36 rfl ?_
        exact ih  (upd w.1 (ix l4) (w.1 (ix (l4 - 1))), w.2.1, w.2.2) (l4 + (-1)) (RI.next hi c_14) (by rw [hs]; simp only [lsX2_record_11, if_pos c_14])
  refine G.iload_n (pc2 := 1) (x := p0) dX2_record_0 rfl rfl rfl ?_
  refine G.iconst (pc2 := 2) (v := 3) dX2_record_1 (by decide) rfl ?_
  refine G.imul (pc2 := 3) (v := p0 * 3) dX2_record_2 rfl rfl ?_
  refine G.istore_n (pc2 := 4) (lv2 := [(0, .ref o), (1, .int p0), (2, .int p1), (3, .int (p0 * 3))]) [1, 2, 3, 0] dX2_record_3 rfl (by decide) rfl rfl ?_
  refine G.iload_n (pc2 := 5) (x := p0 * 3) dX2_record_4 rfl rfl rfl ?_
  refine G.iconst (pc2 := 6) (v := 3) dX2_record_5 (by decide) rfl ?_
  refine G.iadd (pc2 := 7) (v := (p0 * 3) + 3) dX2_record_6 rfl rfl ?_
  refine G.iconst (pc2 := 8) (v := 1) dX2_record_7 (by decide) rfl ?_
  refine G.isub (pc2 := 9) (v := ((p0 * 3) + 3) - 1) dX2_record_8 rfl rfl ?_
  refine G.istore (pc2 := 11) (lv2 := [(0, .ref o), (1, .int p0), (2, .int p1), (3, .int (p0 * 3)), (4, .int (((p0 * 3) + 3) - 1))]) [1, 2, 3, 4, 0] dX2_record_9 (by decide) rfl rfl ?_
  exact loop11 3 u (((p0 * 3) + 3) - 1) (RI.start h0) (rfl)
set_option maxRecDepth 100000 in
set_option maxHeartbeats 4000000 in
theorem c_X1_addPin {cI cZ : ClassId} (o r c v p : Nat) (u : SF) (p0 : Int32) (h0 : Pg p0) : Ct yX1_addPin wsX1_addPin rX1_addPin cI cZ [.ref o, .int p0] (wF o r c v p cI cZ u) 0 0 (rt (none) (wF o r c v p cI cZ (sX1_addPin u p0))) := by
  refine Ct.of (cc := cX1_addPin) (nL := 2) (own := RX1) (by decide) rfl rfl (Nat.le_of_ble_eq_true rfl) rfl ?_
  intro K hR hN
  refine G.aload_n (pc2 := 1) (x := o) dX1_addPin_0 rfl rfl rfl ?_
  refine G.getf (pc2 := 4) (q0 := 0) (ci := 1) (k := 3) (v := .ref p) iX1_addPin_X1 kX1_addPin_22 rfl rfl (by decide) rfl dX1_addPin_1 rfl ?_
  refine G.iload_n (pc2 := 5) (x := p0) dX1_addPin_4 rfl rfl rfl ?_
  refine G.dup2 (pc2 := 6) dX1_addPin_5 rfl rfl rfl ?_
  refine G.iald (pc2 := 7) (q0 := 4) (j := ix p0) (v := u.2.2.2.1 (ix p0)) rfl (h0) rfl dX1_addPin_6 rfl ?_
  refine G.iconst (pc2 := 8) (v := 1) dX1_addPin_7 (by decide) rfl ?_
  refine G.iadd (pc2 := 9) (v := (u.2.2.2.1 (ix p0)) + 1) dX1_addPin_8 rfl rfl ?_
  refine G.iast (pc2 := 10) (q0 := 4) (j := ix p0) (ws2 := wF o r c v p cI cZ (u.1, u.2.1, u.2.2.1, upd u.2.2.2.1 (ix p0) ((u.2.2.2.1 (ix p0)) + 1), u.2.2.2.2.1, u.2.2.2.2.2)) rfl (h0) rfl dX1_addPin_9 rfl ?_
  exact G.vreturn hR dX1_addPin_10 ⟨rfl, congrArg (wF o r c v p cI cZ) (rfl)⟩
set_option maxRecDepth 100000 in
set_option maxHeartbeats 4000000 in
theorem c_X1_removePin {cI cZ : ClassId} (o r c v p : Nat) (u : SF) (p0 : Int32) (h0 : Pg p0) : Ct yX1_removePin wsX1_removePin rX1_removePin cI cZ [.ref o, .int p0] (wF o r c v p cI cZ u) 0 0 (rt (none) (wF o r c v p cI cZ (sX1_removePin u p0))) := by
  refine Ct.of (cc := cX1_removePin) (nL := 2) (own := RX1) (by decide) rfl rfl (Nat.le_of_ble_eq_true rfl) rfl ?_
  intro K hR hN
  refine G.aload_n (pc2 := 1) (x := o) dX1_removePin_0 rfl rfl rfl ?_
  refine G.getf (pc2 := 4) (q0 := 0) (ci := 1) (k := 3) (v := .ref p) iX1_removePin_X1 kX1_removePin_22 rfl rfl (by decide) rfl dX1_removePin_1 rfl ?_
  refine G.iload_n (pc2 := 5) (x := p0) dX1_removePin_4 rfl rfl rfl ?_
  refine G.dup2 (pc2 := 6) dX1_removePin_5 rfl rfl rfl ?_
  refine G.iald (pc2 := 7) (q0 := 4) (j := ix p0) (v := u.2.2.2.1 (ix p0)) rfl (h0) rfl dX1_removePin_6 rfl ?_
  refine G.iconst (pc2 := 8) (v := 1) dX1_removePin_7 (by decide) rfl ?_
  refine G.isub (pc2 := 9) (v := (u.2.2.2.1 (ix p0)) - 1) dX1_removePin_8 rfl rfl ?_
  refine G.iast (pc2 := 10) (q0 := 4) (j := ix p0) (ws2 := wF o r c v p cI cZ (u.1, u.2.1, u.2.2.1, upd u.2.2.2.1 (ix p0) ((u.2.2.2.1 (ix p0)) - 1), u.2.2.2.2.1, u.2.2.2.2.2)) rfl (h0) rfl dX1_removePin_9 rfl ?_
  exact G.vreturn hR dX1_removePin_10 ⟨rfl, congrArg (wF o r c v p cI cZ) (rfl)⟩
set_option maxRecDepth 100000 in
set_option maxHeartbeats 4000000 in
theorem c_X1_markClean {cI cZ : ClassId} (o r c v p : Nat) (u : SF) (p0 : Int32) (h0 : Pg p0) : Ct yX1_markClean wsX1_markClean rX1_markClean cI cZ [.ref o, .int p0] (wF o r c v p cI cZ u) 0 0 (rt (none) (wF o r c v p cI cZ (sX1_markClean u p0))) := by
  refine Ct.of (cc := cX1_markClean) (nL := 2) (own := RX1) (by decide) rfl rfl (Nat.le_of_ble_eq_true rfl) rfl ?_
  intro K hR hN
  refine G.aload_n (pc2 := 1) (x := o) dX1_markClean_0 rfl rfl rfl ?_
  refine G.getf (pc2 := 4) (q0 := 0) (ci := 1) (k := 1) (v := .ref c) iX1_markClean_X1 kX1_markClean_15 rfl rfl (by decide) rfl dX1_markClean_1 rfl ?_
  refine G.iload_n (pc2 := 5) (x := p0) dX1_markClean_4 rfl rfl rfl ?_
  refine G.iconst (pc2 := 6) (v := 0) dX1_markClean_5 (by decide) rfl ?_
  refine G.zast (y := 0) (pc2 := 7) (q0 := 2) (j := ix p0) (ws2 := wF o r c v p cI cZ (u.1, upd u.2.1 (ix p0) 0, u.2.2.1, u.2.2.2.1, u.2.2.2.2.1, u.2.2.2.2.2)) rfl (h0) rfl rfl dX1_markClean_6 rfl ?_
  exact G.vreturn hR dX1_markClean_7 ⟨rfl, congrArg (wF o r c v p cI cZ) (rfl)⟩
set_option maxRecDepth 100000 in
set_option maxHeartbeats 4000000 in
theorem c_X3_length {cI cZ : ClassId} (o g v : Nat) (u : SQ)  : Ct yX3_length wsX3_length rX3_length cI cZ [.ref o] (wQ o g v cI u) 0 0 (rt (some (vX3_length u)) (wQ o g v cI u)) := by
  refine Ct.of (cc := cX3_length) (nL := 1) (own := RX3) (by decide) rfl rfl (Nat.le_of_ble_eq_true rfl) rfl ?_
  intro K hR hN
  refine G.aload_n (pc2 := 1) (x := o) dX3_length_0 rfl rfl rfl ?_
  refine G.getf (pc2 := 4) (q0 := 0) (ci := 3) (k := 3) (v := .int u.2.2.2) iX3_length_X3 kX3_length_18 rfl rfl (by decide) rfl dX3_length_1 rfl ?_
  exact G.ireturn hR (rfl) dX3_length_4 ⟨congrArg some (rfl), rfl⟩
set_option maxRecDepth 100000 in
set_option maxHeartbeats 4000000 in
theorem c_X2_depth {cI cZ : ClassId} (o t b : Nat) (u : SH)  : Ct yX2_depth wsX2_depth rX2_depth cI cZ [.ref o] (wH o t b cI u) 0 0 (rt (some (vX2_depth u)) (wH o t b cI u)) := by
  refine Ct.of (cc := cX2_depth) (nL := 1) (own := RX2) (by decide) rfl rfl (Nat.le_of_ble_eq_true rfl) rfl ?_
  intro K hR hN
  refine G.aload_n (pc2 := 1) (x := o) dX2_depth_0 rfl rfl rfl ?_
  refine G.getf (pc2 := 4) (q0 := 0) (ci := 2) (k := 2) (v := .int u.2.2) iX2_depth_X2 kX2_depth_24 rfl rfl (by decide) rfl dX2_depth_1 rfl ?_
  exact G.ireturn hR (rfl) dX2_depth_4 ⟨congrArg some (rfl), rfl⟩
set_option maxRecDepth 100000 in
set_option maxHeartbeats 4000000 in
theorem c_X0_valueOf {cI cZ : ClassId} (o a : Nat) (u : SD) (p0 : Int32) (h0 : Pg p0) : Ct yX0_valueOf wsX0_valueOf rX0_valueOf cI cZ [.ref o, .int p0] (wD o a cI u) 0 0 (rt (some (vX0_valueOf u p0)) (wD o a cI u)) := by
  refine Ct.of (cc := cX0_valueOf) (nL := 2) (own := RX0) (by decide) rfl rfl (Nat.le_of_ble_eq_true rfl) rfl ?_
  intro K hR hN
  refine G.aload_n (pc2 := 1) (x := o) dX0_valueOf_0 rfl rfl rfl ?_
  refine G.getf (pc2 := 4) (q0 := 0) (ci := 0) (k := 0) (v := .ref a) iX0_valueOf_X0 kX0_valueOf_9 rfl rfl (by decide) rfl dX0_valueOf_1 rfl ?_
  refine G.iload_n (pc2 := 5) (x := p0) dX0_valueOf_4 rfl rfl rfl ?_
  refine G.iald (pc2 := 6) (q0 := 1) (j := ix p0) (v := u.1 (ix p0)) rfl (h0) rfl dX0_valueOf_5 rfl ?_
  exact G.ireturn hR (rfl) dX0_valueOf_6 ⟨congrArg some (rfl), rfl⟩
set_option maxRecDepth 100000 in
set_option maxHeartbeats 4000000 in
theorem c_X1_used {cI cZ : ClassId} (o r c v p : Nat) (u : SF)  : Ct yX1_used wsX1_used rX1_used cI cZ [.ref o] (wF o r c v p cI cZ u) 0 0 (rt (some (vX1_used u)) (wF o r c v p cI cZ u)) := by
  refine Ct.of (cc := cX1_used) (nL := 1) (own := RX1) (by decide) rfl rfl (Nat.le_of_ble_eq_true rfl) rfl ?_
  intro K hR hN
  refine G.aload_n (pc2 := 1) (x := o) dX1_used_0 rfl rfl rfl ?_
  refine G.getf (pc2 := 4) (q0 := 0) (ci := 1) (k := 5) (v := .int u.2.2.2.2.2) iX1_used_X1 kX1_used_29 rfl rfl (by decide) rfl dX1_used_1 rfl ?_
  exact G.ireturn hR (rfl) dX1_used_4 ⟨congrArg some (rfl), rfl⟩
set_option maxRecDepth 100000 in
set_option maxHeartbeats 4000000 in
theorem c_X1_pageAt {cI cZ : ClassId} (o r c v p : Nat) (u : SF) (p0 : Int32)  : Ct yX1_pageAt wsX1_pageAt rX1_pageAt cI cZ [.ref o, .int p0] (wF o r c v p cI cZ u) 0 0 (rt (some (vX1_pageAt u p0)) (wF o r c v p cI cZ u)) := by
  refine Ct.of (cc := cX1_pageAt) (nL := 4) (own := RX1) (by decide) rfl rfl (Nat.le_of_ble_eq_true rfl) rfl ?_
  intro K hR hN
  have loop4 : ∀ (n : Nat) (l2 l3 : Int32), PI n l3 → vX1_pageAt u p0 = lvX1_pageAt_4 u p0 n l2 l3 → G K cI cZ cX1_pageAt 4 RX1 wsX1_pageAt rX1_pageAt 0 0 (wF o r c v p cI cZ u) 4 [(0, .ref o), (1, .int p0), (2, .int l2), (3, .int l3)] [] := by
    intro n
    induction n with
    | zero =>
      intro l2 l3 hi hv
      exact absurd hi (PI.zero)
    | succ n ih =>
      intro l2 l3 hi hv
      refine G.iload_n (pc2 := 5) (x := l3) dX1_pageAt_4 rfl rfl rfl ?_
      refine G.bipush (pc2 := 7) (v := 64) dX1_pageAt_5 (by decide) rfl ?_
      refine G.icmp_ge (pc2 := 10) (tgt := 35) dX1_pageAt_7 rfl rfl (fun c_7 => ?_) (fun c_7 => ?_)
      · refine G.bipush (pc2 := 37) (v := (-9)) dX1_pageAt_35 (by decide) rfl ?_
        exact G.ireturn hR (rfl) dX1_pageAt_37 ⟨congrArg some (by rw [hv]; simp only [lvX1_pageAt_4, if_neg c_7]), rfl⟩
      · refine G.aload_n (pc2 := 11) (x := o) dX1_pageAt_10 rfl rfl rfl ?_
        refine G.getf (pc2 := 14) (q0 := 0) (ci := 1) (k := 0) (v := .ref r) iX1_pageAt_X1 kX1_pageAt_9 rfl rfl (by decide) rfl dX1_pageAt_11 rfl ?_
        refine G.iload_n (pc2 := 15) (x := l3) dX1_pageAt_14 rfl rfl rfl ?_
        refine G.zald (pc2 := 16) (q0 := 1) (j := ix l3) (v := u.1 (ix l3)) rfl (PI.pg hi c_7) rfl dX1_pageAt_15 rfl ?_
        refine G.if_eq (pc2 := 19) (tgt := 29) dX1_pageAt_16 rfl rfl (fun c_16 => ?_) (fun c_16 => ?_)
        · refine G.iinc (pc2 := 32) (k := 3) (v := l3 + 1) (lv2 := [(0, .ref o), (1, .int p0), (2, .int l2), (3, .int (l3 + 1))]) [1, 2, 3, 0] dX1_pageAt_29 rfl rfl (by decide) rfl rfl ?_
          refine G.goto (tgt := 4) dX1_pageAt_32 rfl ?_
          exact ih  l2 (l3 + 1) (PI.next hi c_7) (by rw [hv]; simp only [lvX1_pageAt_4, if_pos c_7, if_pos c_16])
        · refine G.iload_n (pc2 := 20) (x := l2) dX1_pageAt_19 rfl rfl rfl ?_
          refine G.iload_n (pc2 := 21) (x := p0) dX1_pageAt_20 rfl rfl rfl ?_
          refine G.icmp_ne (pc2 := 24) (tgt := 26) dX1_pageAt_21 rfl rfl (fun c_21 => ?_) (fun c_21 => ?_)
          · refine G.iinc (pc2 := 29) (k := 2) (v := l2 + 1) (lv2 := [(0, .ref o), (1, .int p0), (2, .int (l2 + 1)), (3, .int l3)]) [1, 2, 0, 3] dX1_pageAt_26 rfl rfl (by decide) rfl rfl ?_
            refine G.iinc (pc2 := 32) (k := 3) (v := l3 + 1) (lv2 := [(0, .ref o), (1, .int p0), (2, .int (l2 + 1)), (3, .int (l3 + 1))]) [1, 2, 3, 0] dX1_pageAt_29 rfl rfl (by decide) rfl rfl ?_
            refine G.goto (tgt := 4) dX1_pageAt_32 rfl ?_
            exact ih  (l2 + 1) (l3 + 1) (PI.next hi c_7) (by rw [hv]; simp only [lvX1_pageAt_4, if_pos c_7, if_neg c_16, if_neg c_21])
          · refine G.iload_n (pc2 := 25) (x := l3) dX1_pageAt_24 rfl rfl rfl ?_
            exact G.ireturn hR (rfl) dX1_pageAt_25 ⟨congrArg some (by rw [hv]; simp only [lvX1_pageAt_4, if_pos c_7, if_neg c_16, if_pos c_21]), rfl⟩
  refine G.iconst (pc2 := 1) (v := 0) dX1_pageAt_0 (by decide) rfl ?_
  refine G.istore_n (pc2 := 2) (lv2 := [(0, .ref o), (1, .int p0), (2, .int 0)]) [1, 2, 0] dX1_pageAt_1 rfl (by decide) rfl rfl ?_
  refine G.iconst (pc2 := 3) (v := 0) dX1_pageAt_2 (by decide) rfl ?_
  refine G.istore_n (pc2 := 4) (lv2 := [(0, .ref o), (1, .int p0), (2, .int 0), (3, .int 0)]) [1, 2, 3, 0] dX1_pageAt_3 rfl (by decide) rfl rfl ?_
  exact loop4 65 0 0 (PI.start) (rfl)
set_option maxRecDepth 100000 in
set_option maxHeartbeats 4000000 in
theorem c_X0_loads {cI cZ : ClassId} (o a : Nat) (u : SD)  : Ct yX0_loads wsX0_loads rX0_loads cI cZ [.ref o] (wD o a cI u) 0 0 (rt (some (vX0_loads u)) (wD o a cI u)) := by
  refine Ct.of (cc := cX0_loads) (nL := 1) (own := RX0) (by decide) rfl rfl (Nat.le_of_ble_eq_true rfl) rfl ?_
  intro K hR hN
  refine G.aload_n (pc2 := 1) (x := o) dX0_loads_0 rfl rfl rfl ?_
  refine G.getf (pc2 := 4) (q0 := 0) (ci := 0) (k := 1) (v := .int u.2.1) iX0_loads_X0 kX0_loads_21 rfl rfl (by decide) rfl dX0_loads_1 rfl ?_
  exact G.ireturn hR (rfl) dX0_loads_4 ⟨congrArg some (rfl), rfl⟩
set_option maxRecDepth 100000 in
set_option maxHeartbeats 4000000 in
theorem c_X0_stores {cI cZ : ClassId} (o a : Nat) (u : SD)  : Ct yX0_stores wsX0_stores rX0_stores cI cZ [.ref o] (wD o a cI u) 0 0 (rt (some (vX0_stores u)) (wD o a cI u)) := by
  refine Ct.of (cc := cX0_stores) (nL := 1) (own := RX0) (by decide) rfl rfl (Nat.le_of_ble_eq_true rfl) rfl ?_
  intro K hR hN
  refine G.aload_n (pc2 := 1) (x := o) dX0_stores_0 rfl rfl rfl ?_
  refine G.getf (pc2 := 4) (q0 := 0) (ci := 0) (k := 2) (v := .int u.2.2) iX0_stores_X0 kX0_stores_25 rfl rfl (by decide) rfl dX0_stores_1 rfl ?_
  exact G.ireturn hR (rfl) dX0_stores_4 ⟨congrArg some (rfl), rfl⟩
