set_option maxRecDepth 100000 in
set_option maxHeartbeats 4000000 in
theorem law_start {K : Cx} {cI cZ : ClassId} {b L : Nat} {xs : Nat → Int32} (hL : LawOK K b L xs) (hL2 : L ≤ 2560) : G K cI cZ code 4 RL wsL_law room_1 0 0 [] 0 [(0, .ref b)] [] := by
  refine G.newO (pc2 := 3) (C := RX4) (T := TX4) (N := 10) (ci := 4) (fs := [.null, .null, .null, .null, .int 0, .int 0, .int 0, .int 0, .int 0, .int 0]) (ty := tyX4) inlX4 tyX4_ok (by decide +kernel) (by decide +kernel) (by decide +kernel) rfl (by decide +kernel) (Nat.le_of_ble_eq_true rfl) (Nat.le_of_ble_eq_true rfl) dL_law_0 rfl (fun q => ?_)
  show G K cI cZ code 4 RL wsL_law room_1 1 10 [(q, .inr (4, [.null, .null, .null, .null, .int 0, .int 0, .int 0, .int 0, .int 0, .int 0]))] 3 [(0, .ref b)] [.ref q]
  refine G.dup (pc2 := 4) dL_law_3 rfl rfl ?_
  refine G.callI (pc2 := 7) (i := 0) (j := 1) (b := q) (As := []) (rest := [.ref q]) (c_X4_init (cI := cI) (cZ := cZ) q) gL_law_X4_init rfl rfl rfl (by decide +kernel) (by decide +kernel) (by decide +kernel) rfl ndX4_init.2 ⟨Nat.le_of_ble_eq_true rfl, Nat.le_of_ble_eq_true rfl⟩ ⟨Nat.le_of_ble_eq_true rfl, Nat.le_of_ble_eq_true rfl⟩ rfl rfl (Nat.le_of_ble_eq_true rfl) rfl dL_law_4 rfl ?_
  rintro _ _ ⟨rfl, aX, e0, rfl⟩
  subst e0
  show G K cI cZ code 4 RL wsL_law room_1 14 618 (wX aX cI cZ (sX4_startAnew zX 4 2 3 100)) 7 [(0, .ref b)] [.ref (aX 0)]
  refine G.astore_n (pc2 := 8) (lv2 := [(0, .ref b), (1, .ref (aX 0))]) [1, 0] dL_law_7 rfl (by decide) rfl rfl ?_
  refine G.newO (pc2 := 11) (C := RX5) (T := TX5) (N := 21) (ci := 5) (fs := [.int 0, .int 0, .int 0, .int 0, .int 0, .int 0, .int 0, .int 0, .int 0, .int 0, .int 0, .null, .null, .null, .null, .null, .null, .null, .null, .null, .int 0]) (ty := tyX5) inlX5 tyX5_ok (by decide +kernel) (by decide +kernel) (by decide +kernel) rfl (by decide +kernel) (Nat.le_of_ble_eq_true rfl) (Nat.le_of_ble_eq_true rfl) dL_law_8 rfl (fun q2 => ?_)
  show G K cI cZ code 4 RL wsL_law room_1 15 639 (wX aX cI cZ (sX4_startAnew zX 4 2 3 100) ++ [(q2, .inr (5, [.int 0, .int 0, .int 0, .int 0, .int 0, .int 0, .int 0, .int 0, .int 0, .int 0, .int 0, .null, .null, .null, .null, .null, .null, .null, .null, .null, .int 0]))]) 11 [(0, .ref b), (1, .ref (aX 0))] [.ref q2]
  refine G.dup (pc2 := 12) dL_law_11 rfl rfl ?_
  generalize hz : sX4_startAnew zX 4 2 3 100 = z
  refine G.callI (pc2 := 15) (i := 14) (j := 15) (b := q2) (As := []) (rest := [.ref q2]) (c_X5_init (cI := cI) (cZ := cZ) q2) gL_law_X5_init rfl rfl rfl (by decide +kernel) (by decide +kernel) (by decide +kernel) rfl ndX5_init.2 ⟨Nat.le_of_ble_eq_true rfl, Nat.le_of_ble_eq_true rfl⟩ ⟨Nat.le_of_ble_eq_true rfl, Nat.le_of_ble_eq_true rfl⟩ rfl rfl (Nat.le_of_ble_eq_true rfl) rfl dL_law_12 rfl ?_
  rintro _ _ ⟨rfl, aM, e1, rfl⟩
  subst e1
  generalize hz2 : sX5_reset zM 4 2 3 100 = z2
  show G K cI cZ code 4 RL wsL_law room_1 24 1231 (wX aX cI cZ z ++ wM aM cI cZ z2) 15 [(0, .ref b), (1, .ref (aX 0))] [.ref (aM 0)]
  refine G.astore_n (pc2 := 16) (lv2 := [(0, .ref b), (1, .ref (aX 0)), (2, .ref (aM 0))]) [1, 2, 0] dL_law_15 rfl (by decide) rfl rfl ?_
  refine G.iconst (pc2 := 17) (v := 0) dL_law_16 (by decide) rfl ?_
  refine G.istore_n (pc2 := 18) (lv2 := [(0, .ref b), (1, .ref (aX 0)), (2, .ref (aM 0)), (3, .int 0)]) [1, 2, 3, 0] dL_law_17 rfl (by decide) rfl rfl ?_
  subst hz hz2
  exact law_loop hL hL2 600 0 0 _ _ 0 rfl (by omega) (by omega) (by omega) start_rel
