set_option maxRecDepth 100000 in
set_option maxHeartbeats 4000000 in
theorem law_referenceTime {K : Cx} {cI cZ : ClassId} {b L : Nat} {xs : Nat → Int32} {aX aM : Nat → Nat} {σ : SX} {τ : SM} {t i : Nat} {l3 : Int32} (hL : LawOK K b L xs) (e3 : l3 = nI i) (hiL : i + 5 ≤ L) (hL2 : L ≤ 2560) (ht : t < 1073741824) (R : Rel t σ τ) (next : ∀ (σ : SX) (τ : SM), Rel (t + 1) σ τ → G K cI cZ code 4 RL wsL_law room_1 24 1231 (wX aX cI cZ σ ++ wM aM cI cZ τ) 744 [(0, .ref b), (1, .ref (aX 0)), (2, .ref (aM 0)), (3, .int l3)] []) : G K cI cZ code 4 RL wsL_law room_1 24 1231 (wX aX cI cZ σ ++ wM aM cI cZ τ) 466 [(0, .ref b), (1, .ref (aX 0)), (2, .ref (aM 0)), (3, .int l3)] [] := by
  refine G.aload_n (pc2 := 467) (x := aX 0) dL_law_466 rfl rfl rfl ?_
  refine G.aload_n (pc2 := 468) (x := b) dL_law_467 rfl rfl rfl ?_
  refine G.iload_n (pc2 := 469) (x := l3) dL_law_468 rfl rfl rfl ?_
  refine G.iconst (pc2 := 470) (v := 1) dL_law_469 (by decide) rfl ?_
  refine G.iadd (pc2 := 471) (v := l3 + 1) dL_law_470 rfl rfl ?_
  refine G.sld (pc2 := 472) hL (scr_in e3 hiL hL2 1 (by omega)) dL_law_471 rfl ?_
  refine G.aload_n (pc2 := 473) (x := b) dL_law_472 rfl rfl rfl ?_
  refine G.iload_n (pc2 := 474) (x := l3) dL_law_473 rfl rfl rfl ?_
  refine G.iconst (pc2 := 475) (v := 2) dL_law_474 (by decide) rfl ?_
  refine G.iadd (pc2 := 476) (v := l3 + 2) dL_law_475 rfl rfl ?_
  refine G.sld (pc2 := 477) hL (scr_in e3 hiL hL2 2 (by omega)) dL_law_476 rfl ?_
  refine G.callVd (pc2 := 480) (i := 0) (j := 14) (q0 := 0) (ci := 4) (As := [.int (xs (ix (l3 + 1))), .int (xs (ix (l3 + 2)))]) (rest := []) (ws2 := wX aX cI cZ σ ++ wM aM cI cZ τ) (st2 := [.int (vX4_referenceTime σ (xs (ix (l3 + 1))) (xs (ix (l3 + 2))))]) (c_X4_referenceTime (cI := cI) (cZ := cZ) aX σ (xs (ix (l3 + 1))) (xs (ix (l3 + 2))) R.hw) gL_law_X4_referenceTime rfl rfl rfl ndX4_referenceTime ⟨Nat.le_of_ble_eq_true rfl, Nat.le_of_ble_eq_true rfl⟩ ⟨Nat.le_of_ble_eq_true rfl, Nat.le_of_ble_eq_true rfl⟩ rfl rfl (Nat.le_of_ble_eq_true rfl) rfl rfl rfl rfl rfl rfl dL_law_477 rfl ?_
  generalize hv1 : vX4_referenceTime σ (xs (ix (l3 + 1))) (xs (ix (l3 + 2))) = v1
  refine G.aload_n (pc2 := 481) (x := aM 0) dL_law_480 rfl rfl rfl ?_
  refine G.aload_n (pc2 := 482) (x := b) dL_law_481 rfl rfl rfl ?_
  refine G.iload_n (pc2 := 483) (x := l3) dL_law_482 rfl rfl rfl ?_
  refine G.iconst (pc2 := 484) (v := 1) dL_law_483 (by decide) rfl ?_
  refine G.iadd (pc2 := 485) (v := l3 + 1) dL_law_484 rfl rfl ?_
  refine G.sld (pc2 := 486) hL (scr_in e3 hiL hL2 1 (by omega)) dL_law_485 rfl ?_
  refine G.aload_n (pc2 := 487) (x := b) dL_law_486 rfl rfl rfl ?_
  refine G.iload_n (pc2 := 488) (x := l3) dL_law_487 rfl rfl rfl ?_
  refine G.iconst (pc2 := 489) (v := 2) dL_law_488 (by decide) rfl ?_
  refine G.iadd (pc2 := 490) (v := l3 + 2) dL_law_489 rfl rfl ?_
  refine G.sld (pc2 := 491) hL (scr_in e3 hiL hL2 2 (by omega)) dL_law_490 rfl ?_
  refine G.callVd (pc2 := 494) (i := 14) (j := 24) (q0 := 14) (ci := 5) (As := [.int (xs (ix (l3 + 1))), .int (xs (ix (l3 + 2)))]) (rest := [.int v1]) (ws2 := wX aX cI cZ σ ++ wM aM cI cZ τ) (st2 := [.int (vX5_referenceTime τ (xs (ix (l3 + 1))) (xs (ix (l3 + 2)))), .int v1]) (c_X5_referenceTime (cI := cI) (cZ := cZ) aM τ (xs (ix (l3 + 1))) (xs (ix (l3 + 2))) R.hwM) gL_law_X5_referenceTime rfl rfl rfl ndX5_referenceTime ⟨Nat.le_of_ble_eq_true rfl, Nat.le_of_ble_eq_true rfl⟩ ⟨Nat.le_of_ble_eq_true rfl, Nat.le_of_ble_eq_true rfl⟩ rfl rfl (Nat.le_of_ble_eq_true rfl) rfl rfl rfl rfl rfl rfl dL_law_491 rfl ?_
  generalize hv2 : vX5_referenceTime τ (xs (ix (l3 + 1))) (xs (ix (l3 + 2))) = v2
  refine G.icmp_eq (pc2 := 497) (tgt := 744) dL_law_494 rfl rfl (fun _ => ?_) (fun c9 => ?_)
  · subst hv1 hv2
    exact next _ _ R.step
  · subst hv1 hv2
    exact absurd (op_referenceTime R (xs (ix (l3 + 1))) (xs (ix (l3 + 2)))) c9
set_option maxRecDepth 100000 in
set_option maxHeartbeats 4000000 in
theorem law_backwardKDistance {K : Cx} {cI cZ : ClassId} {b L : Nat} {xs : Nat → Int32} {aX aM : Nat → Nat} {σ : SX} {τ : SM} {t i : Nat} {l3 : Int32} (hL : LawOK K b L xs) (e3 : l3 = nI i) (hiL : i + 5 ≤ L) (hL2 : L ≤ 2560) (ht : t < 1073741824) (R : Rel t σ τ) (next : ∀ (σ : SX) (τ : SM), Rel (t + 1) σ τ → G K cI cZ code 4 RL wsL_law room_1 24 1231 (wX aX cI cZ σ ++ wM aM cI cZ τ) 744 [(0, .ref b), (1, .ref (aX 0)), (2, .ref (aM 0)), (3, .int l3)] []) : G K cI cZ code 4 RL wsL_law room_1 24 1231 (wX aX cI cZ σ ++ wM aM cI cZ τ) 499 [(0, .ref b), (1, .ref (aX 0)), (2, .ref (aM 0)), (3, .int l3)] [] := by
  refine G.aload_n (pc2 := 500) (x := aX 0) dL_law_499 rfl rfl rfl ?_
  refine G.aload_n (pc2 := 501) (x := b) dL_law_500 rfl rfl rfl ?_
  refine G.iload_n (pc2 := 502) (x := l3) dL_law_501 rfl rfl rfl ?_
  refine G.iconst (pc2 := 503) (v := 1) dL_law_502 (by decide) rfl ?_
  refine G.iadd (pc2 := 504) (v := l3 + 1) dL_law_503 rfl rfl ?_
  refine G.sld (pc2 := 505) hL (scr_in e3 hiL hL2 1 (by omega)) dL_law_504 rfl ?_
  refine G.callVd (pc2 := 508) (i := 0) (j := 14) (q0 := 0) (ci := 4) (As := [.int (xs (ix (l3 + 1)))]) (rest := []) (ws2 := wX aX cI cZ σ ++ wM aM cI cZ τ) (st2 := [.int (vX4_backwardKDistance σ (xs (ix (l3 + 1))))]) (c_X4_backwardKDistance (cI := cI) (cZ := cZ) aX σ (xs (ix (l3 + 1))) R.hw) gL_law_X4_backwardKDistance rfl rfl rfl ndX4_backwardKDistance ⟨Nat.le_of_ble_eq_true rfl, Nat.le_of_ble_eq_true rfl⟩ ⟨Nat.le_of_ble_eq_true rfl, Nat.le_of_ble_eq_true rfl⟩ rfl rfl (Nat.le_of_ble_eq_true rfl) rfl rfl rfl rfl rfl rfl dL_law_505 rfl ?_
  generalize hv1 : vX4_backwardKDistance σ (xs (ix (l3 + 1))) = v1
  refine G.aload_n (pc2 := 509) (x := aM 0) dL_law_508 rfl rfl rfl ?_
  refine G.aload_n (pc2 := 510) (x := b) dL_law_509 rfl rfl rfl ?_
  refine G.iload_n (pc2 := 511) (x := l3) dL_law_510 rfl rfl rfl ?_
  refine G.iconst (pc2 := 512) (v := 1) dL_law_511 (by decide) rfl ?_
  refine G.iadd (pc2 := 513) (v := l3 + 1) dL_law_512 rfl rfl ?_
  refine G.sld (pc2 := 514) hL (scr_in e3 hiL hL2 1 (by omega)) dL_law_513 rfl ?_
  refine G.callVd (pc2 := 517) (i := 14) (j := 24) (q0 := 14) (ci := 5) (As := [.int (xs (ix (l3 + 1)))]) (rest := [.int v1]) (ws2 := wX aX cI cZ σ ++ wM aM cI cZ τ) (st2 := [.int (vX5_backwardKDistance τ (xs (ix (l3 + 1)))), .int v1]) (c_X5_backwardKDistance (cI := cI) (cZ := cZ) aM τ (xs (ix (l3 + 1))) R.hwM) gL_law_X5_backwardKDistance rfl rfl rfl ndX5_backwardKDistance ⟨Nat.le_of_ble_eq_true rfl, Nat.le_of_ble_eq_true rfl⟩ ⟨Nat.le_of_ble_eq_true rfl, Nat.le_of_ble_eq_true rfl⟩ rfl rfl (Nat.le_of_ble_eq_true rfl) rfl rfl rfl rfl rfl rfl dL_law_514 rfl ?_
  generalize hv2 : vX5_backwardKDistance τ (xs (ix (l3 + 1))) = v2
  refine G.icmp_eq (pc2 := 520) (tgt := 744) dL_law_517 rfl rfl (fun _ => ?_) (fun c9 => ?_)
  · subst hv1 hv2
    exact next _ _ R.step
  · subst hv1 hv2
    exact absurd (op_backward ht R (xs (ix (l3 + 1)))) c9
set_option maxRecDepth 100000 in
set_option maxHeartbeats 4000000 in
theorem law_victim {K : Cx} {cI cZ : ClassId} {b L : Nat} {xs : Nat → Int32} {aX aM : Nat → Nat} {σ : SX} {τ : SM} {t i : Nat} {l3 : Int32} (hL : LawOK K b L xs) (e3 : l3 = nI i) (hiL : i + 5 ≤ L) (hL2 : L ≤ 2560) (ht : t < 1073741824) (R : Rel t σ τ) (next : ∀ (σ : SX) (τ : SM), Rel (t + 1) σ τ → G K cI cZ code 4 RL wsL_law room_1 24 1231 (wX aX cI cZ σ ++ wM aM cI cZ τ) 744 [(0, .ref b), (1, .ref (aX 0)), (2, .ref (aM 0)), (3, .int l3)] []) : G K cI cZ code 4 RL wsL_law room_1 24 1231 (wX aX cI cZ σ ++ wM aM cI cZ τ) 522 [(0, .ref b), (1, .ref (aX 0)), (2, .ref (aM 0)), (3, .int l3)] [] := by
  refine G.aload_n (pc2 := 523) (x := aX 0) dL_law_522 rfl rfl rfl ?_
  refine G.callVd (pc2 := 526) (i := 0) (j := 14) (q0 := 0) (ci := 4) (As := []) (rest := []) (ws2 := wX aX cI cZ σ ++ wM aM cI cZ τ) (st2 := [.int (vX4_victim σ)]) (c_X4_victim (cI := cI) (cZ := cZ) aX σ R.hw R.fw) gL_law_X4_victim rfl rfl rfl ndX4_victim ⟨Nat.le_of_ble_eq_true rfl, Nat.le_of_ble_eq_true rfl⟩ ⟨Nat.le_of_ble_eq_true rfl, Nat.le_of_ble_eq_true rfl⟩ rfl rfl (Nat.le_of_ble_eq_true rfl) rfl rfl rfl rfl rfl rfl dL_law_523 rfl ?_
  generalize hv1 : vX4_victim σ = v1
  refine G.aload_n (pc2 := 527) (x := aM 0) dL_law_526 rfl rfl rfl ?_
  refine G.callVd (pc2 := 530) (i := 14) (j := 24) (q0 := 14) (ci := 5) (As := []) (rest := [.int v1]) (ws2 := wX aX cI cZ σ ++ wM aM cI cZ τ) (st2 := [.int (vX5_victim τ), .int v1]) (c_X5_victim (cI := cI) (cZ := cZ) aM τ R.hwM) gL_law_X5_victim rfl rfl rfl ndX5_victim ⟨Nat.le_of_ble_eq_true rfl, Nat.le_of_ble_eq_true rfl⟩ ⟨Nat.le_of_ble_eq_true rfl, Nat.le_of_ble_eq_true rfl⟩ rfl rfl (Nat.le_of_ble_eq_true rfl) rfl rfl rfl rfl rfl rfl dL_law_527 rfl ?_
  generalize hv2 : vX5_victim τ = v2
  refine G.icmp_eq (pc2 := 533) (tgt := 744) dL_law_530 rfl rfl (fun _ => ?_) (fun c9 => ?_)
  · subst hv1 hv2
    exact next _ _ R.step
  · subst hv1 hv2
    exact absurd (op_victim R) c9
set_option maxRecDepth 100000 in
set_option maxHeartbeats 4000000 in
theorem law_diskValue {K : Cx} {cI cZ : ClassId} {b L : Nat} {xs : Nat → Int32} {aX aM : Nat → Nat} {σ : SX} {τ : SM} {t i : Nat} {l3 : Int32} (hL : LawOK K b L xs) (e3 : l3 = nI i) (hiL : i + 5 ≤ L) (hL2 : L ≤ 2560) (ht : t < 1073741824) (R : Rel t σ τ) (next : ∀ (σ : SX) (τ : SM), Rel (t + 1) σ τ → G K cI cZ code 4 RL wsL_law room_1 24 1231 (wX aX cI cZ σ ++ wM aM cI cZ τ) 744 [(0, .ref b), (1, .ref (aX 0)), (2, .ref (aM 0)), (3, .int l3)] []) : G K cI cZ code 4 RL wsL_law room_1 24 1231 (wX aX cI cZ σ ++ wM aM cI cZ τ) 535 [(0, .ref b), (1, .ref (aX 0)), (2, .ref (aM 0)), (3, .int l3)] [] := by
  refine G.aload_n (pc2 := 536) (x := aX 0) dL_law_535 rfl rfl rfl ?_
  refine G.aload_n (pc2 := 537) (x := b) dL_law_536 rfl rfl rfl ?_
  refine G.iload_n (pc2 := 538) (x := l3) dL_law_537 rfl rfl rfl ?_
  refine G.iconst (pc2 := 539) (v := 1) dL_law_538 (by decide) rfl ?_
  refine G.iadd (pc2 := 540) (v := l3 + 1) dL_law_539 rfl rfl ?_
  refine G.sld (pc2 := 541) hL (scr_in e3 hiL hL2 1 (by omega)) dL_law_540 rfl ?_
  refine G.callVd (pc2 := 544) (i := 0) (j := 14) (q0 := 0) (ci := 4) (As := [.int (xs (ix (l3 + 1)))]) (rest := []) (ws2 := wX aX cI cZ σ ++ wM aM cI cZ τ) (st2 := [.int (vX4_diskValue σ (xs (ix (l3 + 1))))]) (c_X4_diskValue (cI := cI) (cZ := cZ) aX σ (xs (ix (l3 + 1))) ) gL_law_X4_diskValue rfl rfl rfl ndX4_diskValue ⟨Nat.le_of_ble_eq_true rfl, Nat.le_of_ble_eq_true rfl⟩ ⟨Nat.le_of_ble_eq_true rfl, Nat.le_of_ble_eq_true rfl⟩ rfl rfl (Nat.le_of_ble_eq_true rfl) rfl rfl rfl rfl rfl rfl dL_law_541 rfl ?_
  generalize hv1 : vX4_diskValue σ (xs (ix (l3 + 1))) = v1
  refine G.aload_n (pc2 := 545) (x := aM 0) dL_law_544 rfl rfl rfl ?_
  refine G.aload_n (pc2 := 546) (x := b) dL_law_545 rfl rfl rfl ?_
  refine G.iload_n (pc2 := 547) (x := l3) dL_law_546 rfl rfl rfl ?_
  refine G.iconst (pc2 := 548) (v := 1) dL_law_547 (by decide) rfl ?_
  refine G.iadd (pc2 := 549) (v := l3 + 1) dL_law_548 rfl rfl ?_
  refine G.sld (pc2 := 550) hL (scr_in e3 hiL hL2 1 (by omega)) dL_law_549 rfl ?_
  refine G.callVd (pc2 := 553) (i := 14) (j := 24) (q0 := 14) (ci := 5) (As := [.int (xs (ix (l3 + 1)))]) (rest := [.int v1]) (ws2 := wX aX cI cZ σ ++ wM aM cI cZ τ) (st2 := [.int (vX5_diskValue τ (xs (ix (l3 + 1)))), .int v1]) (c_X5_diskValue (cI := cI) (cZ := cZ) aM τ (xs (ix (l3 + 1))) ) gL_law_X5_diskValue rfl rfl rfl ndX5_diskValue ⟨Nat.le_of_ble_eq_true rfl, Nat.le_of_ble_eq_true rfl⟩ ⟨Nat.le_of_ble_eq_true rfl, Nat.le_of_ble_eq_true rfl⟩ rfl rfl (Nat.le_of_ble_eq_true rfl) rfl rfl rfl rfl rfl rfl dL_law_550 rfl ?_
  generalize hv2 : vX5_diskValue τ (xs (ix (l3 + 1))) = v2
  refine G.icmp_eq (pc2 := 556) (tgt := 744) dL_law_553 rfl rfl (fun _ => ?_) (fun c9 => ?_)
  · subst hv1 hv2
    exact next _ _ R.step
  · subst hv1 hv2
    exact absurd (op_diskValue R (xs (ix (l3 + 1)))) c9
set_option maxRecDepth 100000 in
set_option maxHeartbeats 4000000 in
theorem law_residentCount {K : Cx} {cI cZ : ClassId} {b L : Nat} {xs : Nat → Int32} {aX aM : Nat → Nat} {σ : SX} {τ : SM} {t i : Nat} {l3 : Int32} (hL : LawOK K b L xs) (e3 : l3 = nI i) (hiL : i + 5 ≤ L) (hL2 : L ≤ 2560) (ht : t < 1073741824) (R : Rel t σ τ) (next : ∀ (σ : SX) (τ : SM), Rel (t + 1) σ τ → G K cI cZ code 4 RL wsL_law room_1 24 1231 (wX aX cI cZ σ ++ wM aM cI cZ τ) 744 [(0, .ref b), (1, .ref (aX 0)), (2, .ref (aM 0)), (3, .int l3)] []) : G K cI cZ code 4 RL wsL_law room_1 24 1231 (wX aX cI cZ σ ++ wM aM cI cZ τ) 558 [(0, .ref b), (1, .ref (aX 0)), (2, .ref (aM 0)), (3, .int l3)] [] := by
  refine G.aload_n (pc2 := 559) (x := aX 0) dL_law_558 rfl rfl rfl ?_
  refine G.callVd (pc2 := 562) (i := 0) (j := 14) (q0 := 0) (ci := 4) (As := []) (rest := []) (ws2 := wX aX cI cZ σ ++ wM aM cI cZ τ) (st2 := [.int (vX4_residentCount σ)]) (c_X4_residentCount (cI := cI) (cZ := cZ) aX σ ) gL_law_X4_residentCount rfl rfl rfl ndX4_residentCount ⟨Nat.le_of_ble_eq_true rfl, Nat.le_of_ble_eq_true rfl⟩ ⟨Nat.le_of_ble_eq_true rfl, Nat.le_of_ble_eq_true rfl⟩ rfl rfl (Nat.le_of_ble_eq_true rfl) rfl rfl rfl rfl rfl rfl dL_law_559 rfl ?_
  generalize hv1 : vX4_residentCount σ = v1
  refine G.aload_n (pc2 := 563) (x := aM 0) dL_law_562 rfl rfl rfl ?_
  refine G.callVd (pc2 := 566) (i := 14) (j := 24) (q0 := 14) (ci := 5) (As := []) (rest := [.int v1]) (ws2 := wX aX cI cZ σ ++ wM aM cI cZ τ) (st2 := [.int (vX5_residentCount τ), .int v1]) (c_X5_residentCount (cI := cI) (cZ := cZ) aM τ ) gL_law_X5_residentCount rfl rfl rfl ndX5_residentCount ⟨Nat.le_of_ble_eq_true rfl, Nat.le_of_ble_eq_true rfl⟩ ⟨Nat.le_of_ble_eq_true rfl, Nat.le_of_ble_eq_true rfl⟩ rfl rfl (Nat.le_of_ble_eq_true rfl) rfl rfl rfl rfl rfl rfl dL_law_563 rfl ?_
  generalize hv2 : vX5_residentCount τ = v2
  refine G.icmp_eq (pc2 := 569) (tgt := 744) dL_law_566 rfl rfl (fun _ => ?_) (fun c9 => ?_)
  · subst hv1 hv2
    exact next _ _ R.step
  · subst hv1 hv2
    exact absurd (op_residentCount R) c9
set_option maxRecDepth 100000 in
set_option maxHeartbeats 4000000 in
theorem law_residentPage {K : Cx} {cI cZ : ClassId} {b L : Nat} {xs : Nat → Int32} {aX aM : Nat → Nat} {σ : SX} {τ : SM} {t i : Nat} {l3 : Int32} (hL : LawOK K b L xs) (e3 : l3 = nI i) (hiL : i + 5 ≤ L) (hL2 : L ≤ 2560) (ht : t < 1073741824) (R : Rel t σ τ) (next : ∀ (σ : SX) (τ : SM), Rel (t + 1) σ τ → G K cI cZ code 4 RL wsL_law room_1 24 1231 (wX aX cI cZ σ ++ wM aM cI cZ τ) 744 [(0, .ref b), (1, .ref (aX 0)), (2, .ref (aM 0)), (3, .int l3)] []) : G K cI cZ code 4 RL wsL_law room_1 24 1231 (wX aX cI cZ σ ++ wM aM cI cZ τ) 571 [(0, .ref b), (1, .ref (aX 0)), (2, .ref (aM 0)), (3, .int l3)] [] := by
  refine G.aload_n (pc2 := 572) (x := aX 0) dL_law_571 rfl rfl rfl ?_
  refine G.aload_n (pc2 := 573) (x := b) dL_law_572 rfl rfl rfl ?_
  refine G.iload_n (pc2 := 574) (x := l3) dL_law_573 rfl rfl rfl ?_
  refine G.iconst (pc2 := 575) (v := 1) dL_law_574 (by decide) rfl ?_
  refine G.iadd (pc2 := 576) (v := l3 + 1) dL_law_575 rfl rfl ?_
  refine G.sld (pc2 := 577) hL (scr_in e3 hiL hL2 1 (by omega)) dL_law_576 rfl ?_
  refine G.callVd (pc2 := 580) (i := 0) (j := 14) (q0 := 0) (ci := 4) (As := [.int (xs (ix (l3 + 1)))]) (rest := []) (ws2 := wX aX cI cZ σ ++ wM aM cI cZ τ) (st2 := [.int (vX4_residentPage σ (xs (ix (l3 + 1))))]) (c_X4_residentPage (cI := cI) (cZ := cZ) aX σ (xs (ix (l3 + 1))) ) gL_law_X4_residentPage rfl rfl rfl ndX4_residentPage ⟨Nat.le_of_ble_eq_true rfl, Nat.le_of_ble_eq_true rfl⟩ ⟨Nat.le_of_ble_eq_true rfl, Nat.le_of_ble_eq_true rfl⟩ rfl rfl (Nat.le_of_ble_eq_true rfl) rfl rfl rfl rfl rfl rfl dL_law_577 rfl ?_
  generalize hv1 : vX4_residentPage σ (xs (ix (l3 + 1))) = v1
  refine G.aload_n (pc2 := 581) (x := aM 0) dL_law_580 rfl rfl rfl ?_
  refine G.aload_n (pc2 := 582) (x := b) dL_law_581 rfl rfl rfl ?_
  refine G.iload_n (pc2 := 583) (x := l3) dL_law_582 rfl rfl rfl ?_
  refine G.iconst (pc2 := 584) (v := 1) dL_law_583 (by decide) rfl ?_
  refine G.iadd (pc2 := 585) (v := l3 + 1) dL_law_584 rfl rfl ?_
  refine G.sld (pc2 := 586) hL (scr_in e3 hiL hL2 1 (by omega)) dL_law_585 rfl ?_
  refine G.callVd (pc2 := 589) (i := 14) (j := 24) (q0 := 14) (ci := 5) (As := [.int (xs (ix (l3 + 1)))]) (rest := [.int v1]) (ws2 := wX aX cI cZ σ ++ wM aM cI cZ τ) (st2 := [.int (vX5_residentPage τ (xs (ix (l3 + 1)))), .int v1]) (c_X5_residentPage (cI := cI) (cZ := cZ) aM τ (xs (ix (l3 + 1))) ) gL_law_X5_residentPage rfl rfl rfl ndX5_residentPage ⟨Nat.le_of_ble_eq_true rfl, Nat.le_of_ble_eq_true rfl⟩ ⟨Nat.le_of_ble_eq_true rfl, Nat.le_of_ble_eq_true rfl⟩ rfl rfl (Nat.le_of_ble_eq_true rfl) rfl rfl rfl rfl rfl rfl dL_law_586 rfl ?_
  generalize hv2 : vX5_residentPage τ (xs (ix (l3 + 1))) = v2
  refine G.icmp_eq (pc2 := 592) (tgt := 744) dL_law_589 rfl rfl (fun _ => ?_) (fun c9 => ?_)
  · subst hv1 hv2
    exact next _ _ R.step
  · subst hv1 hv2
    exact absurd (op_residentPage R (xs (ix (l3 + 1)))) c9
set_option maxRecDepth 100000 in
set_option maxHeartbeats 4000000 in
theorem law_queueSize {K : Cx} {cI cZ : ClassId} {b L : Nat} {xs : Nat → Int32} {aX aM : Nat → Nat} {σ : SX} {τ : SM} {t i : Nat} {l3 : Int32} (hL : LawOK K b L xs) (e3 : l3 = nI i) (hiL : i + 5 ≤ L) (hL2 : L ≤ 2560) (ht : t < 1073741824) (R : Rel t σ τ) (next : ∀ (σ : SX) (τ : SM), Rel (t + 1) σ τ → G K cI cZ code 4 RL wsL_law room_1 24 1231 (wX aX cI cZ σ ++ wM aM cI cZ τ) 744 [(0, .ref b), (1, .ref (aX 0)), (2, .ref (aM 0)), (3, .int l3)] []) : G K cI cZ code 4 RL wsL_law room_1 24 1231 (wX aX cI cZ σ ++ wM aM cI cZ τ) 594 [(0, .ref b), (1, .ref (aX 0)), (2, .ref (aM 0)), (3, .int l3)] [] := by
  refine G.aload_n (pc2 := 595) (x := aX 0) dL_law_594 rfl rfl rfl ?_
  refine G.callVd (pc2 := 598) (i := 0) (j := 14) (q0 := 0) (ci := 4) (As := []) (rest := []) (ws2 := wX aX cI cZ σ ++ wM aM cI cZ τ) (st2 := [.int (vX4_queueSize σ)]) (c_X4_queueSize (cI := cI) (cZ := cZ) aX σ ) gL_law_X4_queueSize rfl rfl rfl ndX4_queueSize ⟨Nat.le_of_ble_eq_true rfl, Nat.le_of_ble_eq_true rfl⟩ ⟨Nat.le_of_ble_eq_true rfl, Nat.le_of_ble_eq_true rfl⟩ rfl rfl (Nat.le_of_ble_eq_true rfl) rfl rfl rfl rfl rfl rfl dL_law_595 rfl ?_
  generalize hv1 : vX4_queueSize σ = v1
  refine G.aload_n (pc2 := 599) (x := aM 0) dL_law_598 rfl rfl rfl ?_
  refine G.callVd (pc2 := 602) (i := 14) (j := 24) (q0 := 14) (ci := 5) (As := []) (rest := [.int v1]) (ws2 := wX aX cI cZ σ ++ wM aM cI cZ τ) (st2 := [.int (vX5_queueSize τ), .int v1]) (c_X5_queueSize (cI := cI) (cZ := cZ) aM τ ) gL_law_X5_queueSize rfl rfl rfl ndX5_queueSize ⟨Nat.le_of_ble_eq_true rfl, Nat.le_of_ble_eq_true rfl⟩ ⟨Nat.le_of_ble_eq_true rfl, Nat.le_of_ble_eq_true rfl⟩ rfl rfl (Nat.le_of_ble_eq_true rfl) rfl rfl rfl rfl rfl rfl dL_law_599 rfl ?_
  generalize hv2 : vX5_queueSize τ = v2
  refine G.icmp_eq (pc2 := 605) (tgt := 744) dL_law_602 rfl rfl (fun _ => ?_) (fun c9 => ?_)
  · subst hv1 hv2
    exact next _ _ R.step
  · subst hv1 hv2
    exact absurd (op_queueSize R) c9
set_option maxRecDepth 100000 in
set_option maxHeartbeats 4000000 in
theorem law_queuedPage {K : Cx} {cI cZ : ClassId} {b L : Nat} {xs : Nat → Int32} {aX aM : Nat → Nat} {σ : SX} {τ : SM} {t i : Nat} {l3 : Int32} (hL : LawOK K b L xs) (e3 : l3 = nI i) (hiL : i + 5 ≤ L) (hL2 : L ≤ 2560) (ht : t < 1073741824) (R : Rel t σ τ) (next : ∀ (σ : SX) (τ : SM), Rel (t + 1) σ τ → G K cI cZ code 4 RL wsL_law room_1 24 1231 (wX aX cI cZ σ ++ wM aM cI cZ τ) 744 [(0, .ref b), (1, .ref (aX 0)), (2, .ref (aM 0)), (3, .int l3)] []) : G K cI cZ code 4 RL wsL_law room_1 24 1231 (wX aX cI cZ σ ++ wM aM cI cZ τ) 607 [(0, .ref b), (1, .ref (aX 0)), (2, .ref (aM 0)), (3, .int l3)] [] := by
  refine G.aload_n (pc2 := 608) (x := aX 0) dL_law_607 rfl rfl rfl ?_
  refine G.aload_n (pc2 := 609) (x := b) dL_law_608 rfl rfl rfl ?_
  refine G.iload_n (pc2 := 610) (x := l3) dL_law_609 rfl rfl rfl ?_
  refine G.iconst (pc2 := 611) (v := 1) dL_law_610 (by decide) rfl ?_
  refine G.iadd (pc2 := 612) (v := l3 + 1) dL_law_611 rfl rfl ?_
  refine G.sld (pc2 := 613) hL (scr_in e3 hiL hL2 1 (by omega)) dL_law_612 rfl ?_
  refine G.callVd (pc2 := 616) (i := 0) (j := 14) (q0 := 0) (ci := 4) (As := [.int (xs (ix (l3 + 1)))]) (rest := []) (ws2 := wX aX cI cZ σ ++ wM aM cI cZ τ) (st2 := [.int (vX4_queuedPage σ (xs (ix (l3 + 1))))]) (c_X4_queuedPage (cI := cI) (cZ := cZ) aX σ (xs (ix (l3 + 1))) R.qw) gL_law_X4_queuedPage rfl rfl rfl ndX4_queuedPage ⟨Nat.le_of_ble_eq_true rfl, Nat.le_of_ble_eq_true rfl⟩ ⟨Nat.le_of_ble_eq_true rfl, Nat.le_of_ble_eq_true rfl⟩ rfl rfl (Nat.le_of_ble_eq_true rfl) rfl rfl rfl rfl rfl rfl dL_law_613 rfl ?_
  generalize hv1 : vX4_queuedPage σ (xs (ix (l3 + 1))) = v1
  refine G.aload_n (pc2 := 617) (x := aM 0) dL_law_616 rfl rfl rfl ?_
  refine G.aload_n (pc2 := 618) (x := b) dL_law_617 rfl rfl rfl ?_
  refine G.iload_n (pc2 := 619) (x := l3) dL_law_618 rfl rfl rfl ?_
  refine G.iconst (pc2 := 620) (v := 1) dL_law_619 (by decide) rfl ?_
  refine G.iadd (pc2 := 621) (v := l3 + 1) dL_law_620 rfl rfl ?_
  refine G.sld (pc2 := 622) hL (scr_in e3 hiL hL2 1 (by omega)) dL_law_621 rfl ?_
  refine G.callVd (pc2 := 625) (i := 14) (j := 24) (q0 := 14) (ci := 5) (As := [.int (xs (ix (l3 + 1)))]) (rest := [.int v1]) (ws2 := wX aX cI cZ σ ++ wM aM cI cZ τ) (st2 := [.int (vX5_queuedPage τ (xs (ix (l3 + 1)))), .int v1]) (c_X5_queuedPage (cI := cI) (cZ := cZ) aM τ (xs (ix (l3 + 1))) R.qwM) gL_law_X5_queuedPage rfl rfl rfl ndX5_queuedPage ⟨Nat.le_of_ble_eq_true rfl, Nat.le_of_ble_eq_true rfl⟩ ⟨Nat.le_of_ble_eq_true rfl, Nat.le_of_ble_eq_true rfl⟩ rfl rfl (Nat.le_of_ble_eq_true rfl) rfl rfl rfl rfl rfl rfl dL_law_622 rfl ?_
  generalize hv2 : vX5_queuedPage τ (xs (ix (l3 + 1))) = v2
  refine G.icmp_eq (pc2 := 628) (tgt := 744) dL_law_625 rfl rfl (fun _ => ?_) (fun c9 => ?_)
  · subst hv1 hv2
    exact next _ _ R.step
  · subst hv1 hv2
    exact absurd (op_queuedPage R (xs (ix (l3 + 1)))) c9
set_option maxRecDepth 100000 in
set_option maxHeartbeats 4000000 in
theorem law_queuedValue {K : Cx} {cI cZ : ClassId} {b L : Nat} {xs : Nat → Int32} {aX aM : Nat → Nat} {σ : SX} {τ : SM} {t i : Nat} {l3 : Int32} (hL : LawOK K b L xs) (e3 : l3 = nI i) (hiL : i + 5 ≤ L) (hL2 : L ≤ 2560) (ht : t < 1073741824) (R : Rel t σ τ) (next : ∀ (σ : SX) (τ : SM), Rel (t + 1) σ τ → G K cI cZ code 4 RL wsL_law room_1 24 1231 (wX aX cI cZ σ ++ wM aM cI cZ τ) 744 [(0, .ref b), (1, .ref (aX 0)), (2, .ref (aM 0)), (3, .int l3)] []) : G K cI cZ code 4 RL wsL_law room_1 24 1231 (wX aX cI cZ σ ++ wM aM cI cZ τ) 630 [(0, .ref b), (1, .ref (aX 0)), (2, .ref (aM 0)), (3, .int l3)] [] := by
  refine G.aload_n (pc2 := 631) (x := aX 0) dL_law_630 rfl rfl rfl ?_
  refine G.aload_n (pc2 := 632) (x := b) dL_law_631 rfl rfl rfl ?_
  refine G.iload_n (pc2 := 633) (x := l3) dL_law_632 rfl rfl rfl ?_
  refine G.iconst (pc2 := 634) (v := 1) dL_law_633 (by decide) rfl ?_
  refine G.iadd (pc2 := 635) (v := l3 + 1) dL_law_634 rfl rfl ?_
  refine G.sld (pc2 := 636) hL (scr_in e3 hiL hL2 1 (by omega)) dL_law_635 rfl ?_
  refine G.callVd (pc2 := 639) (i := 0) (j := 14) (q0 := 0) (ci := 4) (As := [.int (xs (ix (l3 + 1)))]) (rest := []) (ws2 := wX aX cI cZ σ ++ wM aM cI cZ τ) (st2 := [.int (vX4_queuedValue σ (xs (ix (l3 + 1))))]) (c_X4_queuedValue (cI := cI) (cZ := cZ) aX σ (xs (ix (l3 + 1))) R.qw) gL_law_X4_queuedValue rfl rfl rfl ndX4_queuedValue ⟨Nat.le_of_ble_eq_true rfl, Nat.le_of_ble_eq_true rfl⟩ ⟨Nat.le_of_ble_eq_true rfl, Nat.le_of_ble_eq_true rfl⟩ rfl rfl (Nat.le_of_ble_eq_true rfl) rfl rfl rfl rfl rfl rfl dL_law_636 rfl ?_
  generalize hv1 : vX4_queuedValue σ (xs (ix (l3 + 1))) = v1
  refine G.aload_n (pc2 := 640) (x := aM 0) dL_law_639 rfl rfl rfl ?_
  refine G.aload_n (pc2 := 641) (x := b) dL_law_640 rfl rfl rfl ?_
  refine G.iload_n (pc2 := 642) (x := l3) dL_law_641 rfl rfl rfl ?_
  refine G.iconst (pc2 := 643) (v := 1) dL_law_642 (by decide) rfl ?_
  refine G.iadd (pc2 := 644) (v := l3 + 1) dL_law_643 rfl rfl ?_
  refine G.sld (pc2 := 645) hL (scr_in e3 hiL hL2 1 (by omega)) dL_law_644 rfl ?_
  refine G.callVd (pc2 := 648) (i := 14) (j := 24) (q0 := 14) (ci := 5) (As := [.int (xs (ix (l3 + 1)))]) (rest := [.int v1]) (ws2 := wX aX cI cZ σ ++ wM aM cI cZ τ) (st2 := [.int (vX5_queuedValue τ (xs (ix (l3 + 1)))), .int v1]) (c_X5_queuedValue (cI := cI) (cZ := cZ) aM τ (xs (ix (l3 + 1))) R.qwM) gL_law_X5_queuedValue rfl rfl rfl ndX5_queuedValue ⟨Nat.le_of_ble_eq_true rfl, Nat.le_of_ble_eq_true rfl⟩ ⟨Nat.le_of_ble_eq_true rfl, Nat.le_of_ble_eq_true rfl⟩ rfl rfl (Nat.le_of_ble_eq_true rfl) rfl rfl rfl rfl rfl rfl dL_law_645 rfl ?_
  generalize hv2 : vX5_queuedValue τ (xs (ix (l3 + 1))) = v2
  refine G.icmp_eq (pc2 := 651) (tgt := 744) dL_law_648 rfl rfl (fun _ => ?_) (fun c9 => ?_)
  · subst hv1 hv2
    exact next _ _ R.step
  · subst hv1 hv2
    exact absurd (op_queuedValue R (xs (ix (l3 + 1)))) c9
set_option maxRecDepth 100000 in
set_option maxHeartbeats 4000000 in
theorem law_clock {K : Cx} {cI cZ : ClassId} {b L : Nat} {xs : Nat → Int32} {aX aM : Nat → Nat} {σ : SX} {τ : SM} {t i : Nat} {l3 : Int32} (hL : LawOK K b L xs) (e3 : l3 = nI i) (hiL : i + 5 ≤ L) (hL2 : L ≤ 2560) (ht : t < 1073741824) (R : Rel t σ τ) (next : ∀ (σ : SX) (τ : SM), Rel (t + 1) σ τ → G K cI cZ code 4 RL wsL_law room_1 24 1231 (wX aX cI cZ σ ++ wM aM cI cZ τ) 744 [(0, .ref b), (1, .ref (aX 0)), (2, .ref (aM 0)), (3, .int l3)] []) : G K cI cZ code 4 RL wsL_law room_1 24 1231 (wX aX cI cZ σ ++ wM aM cI cZ τ) 653 [(0, .ref b), (1, .ref (aX 0)), (2, .ref (aM 0)), (3, .int l3)] [] := by
  refine G.aload_n (pc2 := 654) (x := aX 0) dL_law_653 rfl rfl rfl ?_
  refine G.callVd (pc2 := 657) (i := 0) (j := 14) (q0 := 0) (ci := 4) (As := []) (rest := []) (ws2 := wX aX cI cZ σ ++ wM aM cI cZ τ) (st2 := [.int (vX4_clock σ)]) (c_X4_clock (cI := cI) (cZ := cZ) aX σ ) gL_law_X4_clock rfl rfl rfl ndX4_clock ⟨Nat.le_of_ble_eq_true rfl, Nat.le_of_ble_eq_true rfl⟩ ⟨Nat.le_of_ble_eq_true rfl, Nat.le_of_ble_eq_true rfl⟩ rfl rfl (Nat.le_of_ble_eq_true rfl) rfl rfl rfl rfl rfl rfl dL_law_654 rfl ?_
  generalize hv1 : vX4_clock σ = v1
  refine G.aload_n (pc2 := 658) (x := aM 0) dL_law_657 rfl rfl rfl ?_
  refine G.callVd (pc2 := 661) (i := 14) (j := 24) (q0 := 14) (ci := 5) (As := []) (rest := [.int v1]) (ws2 := wX aX cI cZ σ ++ wM aM cI cZ τ) (st2 := [.int (vX5_clock τ), .int v1]) (c_X5_clock (cI := cI) (cZ := cZ) aM τ ) gL_law_X5_clock rfl rfl rfl ndX5_clock ⟨Nat.le_of_ble_eq_true rfl, Nat.le_of_ble_eq_true rfl⟩ ⟨Nat.le_of_ble_eq_true rfl, Nat.le_of_ble_eq_true rfl⟩ rfl rfl (Nat.le_of_ble_eq_true rfl) rfl rfl rfl rfl rfl rfl dL_law_658 rfl ?_
  generalize hv2 : vX5_clock τ = v2
  refine G.icmp_eq (pc2 := 664) (tgt := 744) dL_law_661 rfl rfl (fun _ => ?_) (fun c9 => ?_)
  · subst hv1 hv2
    exact next _ _ R.step
  · subst hv1 hv2
    exact absurd (op_clock R) c9
set_option maxRecDepth 100000 in
set_option maxHeartbeats 4000000 in
theorem law_hits {K : Cx} {cI cZ : ClassId} {b L : Nat} {xs : Nat → Int32} {aX aM : Nat → Nat} {σ : SX} {τ : SM} {t i : Nat} {l3 : Int32} (hL : LawOK K b L xs) (e3 : l3 = nI i) (hiL : i + 5 ≤ L) (hL2 : L ≤ 2560) (ht : t < 1073741824) (R : Rel t σ τ) (next : ∀ (σ : SX) (τ : SM), Rel (t + 1) σ τ → G K cI cZ code 4 RL wsL_law room_1 24 1231 (wX aX cI cZ σ ++ wM aM cI cZ τ) 744 [(0, .ref b), (1, .ref (aX 0)), (2, .ref (aM 0)), (3, .int l3)] []) : G K cI cZ code 4 RL wsL_law room_1 24 1231 (wX aX cI cZ σ ++ wM aM cI cZ τ) 666 [(0, .ref b), (1, .ref (aX 0)), (2, .ref (aM 0)), (3, .int l3)] [] := by
  refine G.aload_n (pc2 := 667) (x := aX 0) dL_law_666 rfl rfl rfl ?_
  refine G.callVd (pc2 := 670) (i := 0) (j := 14) (q0 := 0) (ci := 4) (As := []) (rest := []) (ws2 := wX aX cI cZ σ ++ wM aM cI cZ τ) (st2 := [.int (vX4_hits σ)]) (c_X4_hits (cI := cI) (cZ := cZ) aX σ ) gL_law_X4_hits rfl rfl rfl ndX4_hits ⟨Nat.le_of_ble_eq_true rfl, Nat.le_of_ble_eq_true rfl⟩ ⟨Nat.le_of_ble_eq_true rfl, Nat.le_of_ble_eq_true rfl⟩ rfl rfl (Nat.le_of_ble_eq_true rfl) rfl rfl rfl rfl rfl rfl dL_law_667 rfl ?_
  generalize hv1 : vX4_hits σ = v1
  refine G.aload_n (pc2 := 671) (x := aM 0) dL_law_670 rfl rfl rfl ?_
  refine G.callVd (pc2 := 674) (i := 14) (j := 24) (q0 := 14) (ci := 5) (As := []) (rest := [.int v1]) (ws2 := wX aX cI cZ σ ++ wM aM cI cZ τ) (st2 := [.int (vX5_hits τ), .int v1]) (c_X5_hits (cI := cI) (cZ := cZ) aM τ ) gL_law_X5_hits rfl rfl rfl ndX5_hits ⟨Nat.le_of_ble_eq_true rfl, Nat.le_of_ble_eq_true rfl⟩ ⟨Nat.le_of_ble_eq_true rfl, Nat.le_of_ble_eq_true rfl⟩ rfl rfl (Nat.le_of_ble_eq_true rfl) rfl rfl rfl rfl rfl rfl dL_law_671 rfl ?_
  generalize hv2 : vX5_hits τ = v2
  refine G.icmp_eq (pc2 := 677) (tgt := 744) dL_law_674 rfl rfl (fun _ => ?_) (fun c9 => ?_)
  · subst hv1 hv2
    exact next _ _ R.step
  · subst hv1 hv2
    exact absurd (op_hits R) c9
set_option maxRecDepth 100000 in
set_option maxHeartbeats 4000000 in
theorem law_misses {K : Cx} {cI cZ : ClassId} {b L : Nat} {xs : Nat → Int32} {aX aM : Nat → Nat} {σ : SX} {τ : SM} {t i : Nat} {l3 : Int32} (hL : LawOK K b L xs) (e3 : l3 = nI i) (hiL : i + 5 ≤ L) (hL2 : L ≤ 2560) (ht : t < 1073741824) (R : Rel t σ τ) (next : ∀ (σ : SX) (τ : SM), Rel (t + 1) σ τ → G K cI cZ code 4 RL wsL_law room_1 24 1231 (wX aX cI cZ σ ++ wM aM cI cZ τ) 744 [(0, .ref b), (1, .ref (aX 0)), (2, .ref (aM 0)), (3, .int l3)] []) : G K cI cZ code 4 RL wsL_law room_1 24 1231 (wX aX cI cZ σ ++ wM aM cI cZ τ) 679 [(0, .ref b), (1, .ref (aX 0)), (2, .ref (aM 0)), (3, .int l3)] [] := by
  refine G.aload_n (pc2 := 680) (x := aX 0) dL_law_679 rfl rfl rfl ?_
  refine G.callVd (pc2 := 683) (i := 0) (j := 14) (q0 := 0) (ci := 4) (As := []) (rest := []) (ws2 := wX aX cI cZ σ ++ wM aM cI cZ τ) (st2 := [.int (vX4_misses σ)]) (c_X4_misses (cI := cI) (cZ := cZ) aX σ ) gL_law_X4_misses rfl rfl rfl ndX4_misses ⟨Nat.le_of_ble_eq_true rfl, Nat.le_of_ble_eq_true rfl⟩ ⟨Nat.le_of_ble_eq_true rfl, Nat.le_of_ble_eq_true rfl⟩ rfl rfl (Nat.le_of_ble_eq_true rfl) rfl rfl rfl rfl rfl rfl dL_law_680 rfl ?_
  generalize hv1 : vX4_misses σ = v1
  refine G.aload_n (pc2 := 684) (x := aM 0) dL_law_683 rfl rfl rfl ?_
  refine G.callVd (pc2 := 687) (i := 14) (j := 24) (q0 := 14) (ci := 5) (As := []) (rest := [.int v1]) (ws2 := wX aX cI cZ σ ++ wM aM cI cZ τ) (st2 := [.int (vX5_misses τ), .int v1]) (c_X5_misses (cI := cI) (cZ := cZ) aM τ ) gL_law_X5_misses rfl rfl rfl ndX5_misses ⟨Nat.le_of_ble_eq_true rfl, Nat.le_of_ble_eq_true rfl⟩ ⟨Nat.le_of_ble_eq_true rfl, Nat.le_of_ble_eq_true rfl⟩ rfl rfl (Nat.le_of_ble_eq_true rfl) rfl rfl rfl rfl rfl rfl dL_law_684 rfl ?_
  generalize hv2 : vX5_misses τ = v2
  refine G.icmp_eq (pc2 := 690) (tgt := 744) dL_law_687 rfl rfl (fun _ => ?_) (fun c9 => ?_)
  · subst hv1 hv2
    exact next _ _ R.step
  · subst hv1 hv2
    exact absurd (op_misses R) c9
set_option maxRecDepth 100000 in
set_option maxHeartbeats 4000000 in
theorem law_evictions {K : Cx} {cI cZ : ClassId} {b L : Nat} {xs : Nat → Int32} {aX aM : Nat → Nat} {σ : SX} {τ : SM} {t i : Nat} {l3 : Int32} (hL : LawOK K b L xs) (e3 : l3 = nI i) (hiL : i + 5 ≤ L) (hL2 : L ≤ 2560) (ht : t < 1073741824) (R : Rel t σ τ) (next : ∀ (σ : SX) (τ : SM), Rel (t + 1) σ τ → G K cI cZ code 4 RL wsL_law room_1 24 1231 (wX aX cI cZ σ ++ wM aM cI cZ τ) 744 [(0, .ref b), (1, .ref (aX 0)), (2, .ref (aM 0)), (3, .int l3)] []) : G K cI cZ code 4 RL wsL_law room_1 24 1231 (wX aX cI cZ σ ++ wM aM cI cZ τ) 692 [(0, .ref b), (1, .ref (aX 0)), (2, .ref (aM 0)), (3, .int l3)] [] := by
  refine G.aload_n (pc2 := 693) (x := aX 0) dL_law_692 rfl rfl rfl ?_
  refine G.callVd (pc2 := 696) (i := 0) (j := 14) (q0 := 0) (ci := 4) (As := []) (rest := []) (ws2 := wX aX cI cZ σ ++ wM aM cI cZ τ) (st2 := [.int (vX4_evictions σ)]) (c_X4_evictions (cI := cI) (cZ := cZ) aX σ ) gL_law_X4_evictions rfl rfl rfl ndX4_evictions ⟨Nat.le_of_ble_eq_true rfl, Nat.le_of_ble_eq_true rfl⟩ ⟨Nat.le_of_ble_eq_true rfl, Nat.le_of_ble_eq_true rfl⟩ rfl rfl (Nat.le_of_ble_eq_true rfl) rfl rfl rfl rfl rfl rfl dL_law_693 rfl ?_
  generalize hv1 : vX4_evictions σ = v1
  refine G.aload_n (pc2 := 697) (x := aM 0) dL_law_696 rfl rfl rfl ?_
  refine G.callVd (pc2 := 700) (i := 14) (j := 24) (q0 := 14) (ci := 5) (As := []) (rest := [.int v1]) (ws2 := wX aX cI cZ σ ++ wM aM cI cZ τ) (st2 := [.int (vX5_evictions τ), .int v1]) (c_X5_evictions (cI := cI) (cZ := cZ) aM τ ) gL_law_X5_evictions rfl rfl rfl ndX5_evictions ⟨Nat.le_of_ble_eq_true rfl, Nat.le_of_ble_eq_true rfl⟩ ⟨Nat.le_of_ble_eq_true rfl, Nat.le_of_ble_eq_true rfl⟩ rfl rfl (Nat.le_of_ble_eq_true rfl) rfl rfl rfl rfl rfl rfl dL_law_697 rfl ?_
  generalize hv2 : vX5_evictions τ = v2
  refine G.icmp_eq (pc2 := 703) (tgt := 744) dL_law_700 rfl rfl (fun _ => ?_) (fun c9 => ?_)
  · subst hv1 hv2
    exact next _ _ R.step
  · subst hv1 hv2
    exact absurd (op_evictions R) c9
set_option maxRecDepth 100000 in
set_option maxHeartbeats 4000000 in
theorem law_diskReads {K : Cx} {cI cZ : ClassId} {b L : Nat} {xs : Nat → Int32} {aX aM : Nat → Nat} {σ : SX} {τ : SM} {t i : Nat} {l3 : Int32} (hL : LawOK K b L xs) (e3 : l3 = nI i) (hiL : i + 5 ≤ L) (hL2 : L ≤ 2560) (ht : t < 1073741824) (R : Rel t σ τ) (next : ∀ (σ : SX) (τ : SM), Rel (t + 1) σ τ → G K cI cZ code 4 RL wsL_law room_1 24 1231 (wX aX cI cZ σ ++ wM aM cI cZ τ) 744 [(0, .ref b), (1, .ref (aX 0)), (2, .ref (aM 0)), (3, .int l3)] []) : G K cI cZ code 4 RL wsL_law room_1 24 1231 (wX aX cI cZ σ ++ wM aM cI cZ τ) 705 [(0, .ref b), (1, .ref (aX 0)), (2, .ref (aM 0)), (3, .int l3)] [] := by
  refine G.aload_n (pc2 := 706) (x := aX 0) dL_law_705 rfl rfl rfl ?_
  refine G.callVd (pc2 := 709) (i := 0) (j := 14) (q0 := 0) (ci := 4) (As := []) (rest := []) (ws2 := wX aX cI cZ σ ++ wM aM cI cZ τ) (st2 := [.int (vX4_diskReads σ)]) (c_X4_diskReads (cI := cI) (cZ := cZ) aX σ ) gL_law_X4_diskReads rfl rfl rfl ndX4_diskReads ⟨Nat.le_of_ble_eq_true rfl, Nat.le_of_ble_eq_true rfl⟩ ⟨Nat.le_of_ble_eq_true rfl, Nat.le_of_ble_eq_true rfl⟩ rfl rfl (Nat.le_of_ble_eq_true rfl) rfl rfl rfl rfl rfl rfl dL_law_706 rfl ?_
  generalize hv1 : vX4_diskReads σ = v1
  refine G.aload_n (pc2 := 710) (x := aM 0) dL_law_709 rfl rfl rfl ?_
  refine G.callVd (pc2 := 713) (i := 14) (j := 24) (q0 := 14) (ci := 5) (As := []) (rest := [.int v1]) (ws2 := wX aX cI cZ σ ++ wM aM cI cZ τ) (st2 := [.int (vX5_diskReads τ), .int v1]) (c_X5_diskReads (cI := cI) (cZ := cZ) aM τ ) gL_law_X5_diskReads rfl rfl rfl ndX5_diskReads ⟨Nat.le_of_ble_eq_true rfl, Nat.le_of_ble_eq_true rfl⟩ ⟨Nat.le_of_ble_eq_true rfl, Nat.le_of_ble_eq_true rfl⟩ rfl rfl (Nat.le_of_ble_eq_true rfl) rfl rfl rfl rfl rfl rfl dL_law_710 rfl ?_
  generalize hv2 : vX5_diskReads τ = v2
  refine G.icmp_eq (pc2 := 716) (tgt := 744) dL_law_713 rfl rfl (fun _ => ?_) (fun c9 => ?_)
  · subst hv1 hv2
    exact next _ _ R.step
  · subst hv1 hv2
    exact absurd (op_diskReads R) c9
set_option maxRecDepth 100000 in
set_option maxHeartbeats 4000000 in
theorem law_diskWrites {K : Cx} {cI cZ : ClassId} {b L : Nat} {xs : Nat → Int32} {aX aM : Nat → Nat} {σ : SX} {τ : SM} {t i : Nat} {l3 : Int32} (hL : LawOK K b L xs) (e3 : l3 = nI i) (hiL : i + 5 ≤ L) (hL2 : L ≤ 2560) (ht : t < 1073741824) (R : Rel t σ τ) (next : ∀ (σ : SX) (τ : SM), Rel (t + 1) σ τ → G K cI cZ code 4 RL wsL_law room_1 24 1231 (wX aX cI cZ σ ++ wM aM cI cZ τ) 744 [(0, .ref b), (1, .ref (aX 0)), (2, .ref (aM 0)), (3, .int l3)] []) : G K cI cZ code 4 RL wsL_law room_1 24 1231 (wX aX cI cZ σ ++ wM aM cI cZ τ) 718 [(0, .ref b), (1, .ref (aX 0)), (2, .ref (aM 0)), (3, .int l3)] [] := by
  refine G.aload_n (pc2 := 719) (x := aX 0) dL_law_718 rfl rfl rfl ?_
  refine G.callVd (pc2 := 722) (i := 0) (j := 14) (q0 := 0) (ci := 4) (As := []) (rest := []) (ws2 := wX aX cI cZ σ ++ wM aM cI cZ τ) (st2 := [.int (vX4_diskWrites σ)]) (c_X4_diskWrites (cI := cI) (cZ := cZ) aX σ ) gL_law_X4_diskWrites rfl rfl rfl ndX4_diskWrites ⟨Nat.le_of_ble_eq_true rfl, Nat.le_of_ble_eq_true rfl⟩ ⟨Nat.le_of_ble_eq_true rfl, Nat.le_of_ble_eq_true rfl⟩ rfl rfl (Nat.le_of_ble_eq_true rfl) rfl rfl rfl rfl rfl rfl dL_law_719 rfl ?_
  generalize hv1 : vX4_diskWrites σ = v1
  refine G.aload_n (pc2 := 723) (x := aM 0) dL_law_722 rfl rfl rfl ?_
  refine G.callVd (pc2 := 726) (i := 14) (j := 24) (q0 := 14) (ci := 5) (As := []) (rest := [.int v1]) (ws2 := wX aX cI cZ σ ++ wM aM cI cZ τ) (st2 := [.int (vX5_diskWrites τ), .int v1]) (c_X5_diskWrites (cI := cI) (cZ := cZ) aM τ ) gL_law_X5_diskWrites rfl rfl rfl ndX5_diskWrites ⟨Nat.le_of_ble_eq_true rfl, Nat.le_of_ble_eq_true rfl⟩ ⟨Nat.le_of_ble_eq_true rfl, Nat.le_of_ble_eq_true rfl⟩ rfl rfl (Nat.le_of_ble_eq_true rfl) rfl rfl rfl rfl rfl rfl dL_law_723 rfl ?_
  generalize hv2 : vX5_diskWrites τ = v2
  refine G.icmp_eq (pc2 := 729) (tgt := 744) dL_law_726 rfl rfl (fun _ => ?_) (fun c9 => ?_)
  · subst hv1 hv2
    exact next _ _ R.step
  · subst hv1 hv2
    exact absurd (op_diskWrites R) c9
set_option maxRecDepth 100000 in
set_option maxHeartbeats 4000000 in
theorem law_stalls {K : Cx} {cI cZ : ClassId} {b L : Nat} {xs : Nat → Int32} {aX aM : Nat → Nat} {σ : SX} {τ : SM} {t i : Nat} {l3 : Int32} (hL : LawOK K b L xs) (e3 : l3 = nI i) (hiL : i + 5 ≤ L) (hL2 : L ≤ 2560) (ht : t < 1073741824) (R : Rel t σ τ) (next : ∀ (σ : SX) (τ : SM), Rel (t + 1) σ τ → G K cI cZ code 4 RL wsL_law room_1 24 1231 (wX aX cI cZ σ ++ wM aM cI cZ τ) 744 [(0, .ref b), (1, .ref (aX 0)), (2, .ref (aM 0)), (3, .int l3)] []) : G K cI cZ code 4 RL wsL_law room_1 24 1231 (wX aX cI cZ σ ++ wM aM cI cZ τ) 731 [(0, .ref b), (1, .ref (aX 0)), (2, .ref (aM 0)), (3, .int l3)] [] := by
  refine G.aload_n (pc2 := 732) (x := aX 0) dL_law_731 rfl rfl rfl ?_
  refine G.callVd (pc2 := 735) (i := 0) (j := 14) (q0 := 0) (ci := 4) (As := []) (rest := []) (ws2 := wX aX cI cZ σ ++ wM aM cI cZ τ) (st2 := [.int (vX4_stalls σ)]) (c_X4_stalls (cI := cI) (cZ := cZ) aX σ ) gL_law_X4_stalls rfl rfl rfl ndX4_stalls ⟨Nat.le_of_ble_eq_true rfl, Nat.le_of_ble_eq_true rfl⟩ ⟨Nat.le_of_ble_eq_true rfl, Nat.le_of_ble_eq_true rfl⟩ rfl rfl (Nat.le_of_ble_eq_true rfl) rfl rfl rfl rfl rfl rfl dL_law_732 rfl ?_
  generalize hv1 : vX4_stalls σ = v1
  refine G.aload_n (pc2 := 736) (x := aM 0) dL_law_735 rfl rfl rfl ?_
  refine G.callVd (pc2 := 739) (i := 14) (j := 24) (q0 := 14) (ci := 5) (As := []) (rest := [.int v1]) (ws2 := wX aX cI cZ σ ++ wM aM cI cZ τ) (st2 := [.int (vX5_stalls τ), .int v1]) (c_X5_stalls (cI := cI) (cZ := cZ) aM τ ) gL_law_X5_stalls rfl rfl rfl ndX5_stalls ⟨Nat.le_of_ble_eq_true rfl, Nat.le_of_ble_eq_true rfl⟩ ⟨Nat.le_of_ble_eq_true rfl, Nat.le_of_ble_eq_true rfl⟩ rfl rfl (Nat.le_of_ble_eq_true rfl) rfl rfl rfl rfl rfl rfl dL_law_736 rfl ?_
  generalize hv2 : vX5_stalls τ = v2
  refine G.icmp_eq (pc2 := 742) (tgt := 744) dL_law_739 rfl rfl (fun _ => ?_) (fun c9 => ?_)
  · subst hv1 hv2
    exact next _ _ R.step
  · subst hv1 hv2
    exact absurd (op_stalls R) c9
