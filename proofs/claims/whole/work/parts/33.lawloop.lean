set_option maxRecDepth 100000 in
set_option maxHeartbeats 4000000 in
theorem law_loop {K : Cx} {cI cZ : ClassId} {b L : Nat} {xs : Nat → Int32} {aX aM : Nat → Nat} (hL : LawOK K b L xs) (hL2 : L ≤ 2560) : ∀ (n i t : Nat) (σ : SX) (τ : SM) (l3 : Int32), l3 = nI i → i ≤ L → L < i + 5 * n → t + n ≤ 1000 → Rel t σ τ → G K cI cZ code 4 RL wsL_law room_1 24 1231 (wX aX cI cZ σ ++ wM aM cI cZ τ) 18 [(0, .ref b), (1, .ref (aX 0)), (2, .ref (aM 0)), (3, .int l3)] [] := by
  intro n
  induction n with
  | zero => intro i t σ τ l3 e3 h1 h2 h3; omega
  | succ n ih =>
    intro i t σ τ l3 e3 h1 h2 h3 R
    refine G.iload_n (pc2 := 19) (x := l3) dL_law_18 rfl rfl rfl ?_
    refine G.aload_n (pc2 := 20) (x := b) dL_law_19 rfl rfl rfl ?_
    refine G.slen (pc2 := 21) hL dL_law_20 rfl ?_
    refine G.iconst (pc2 := 22) (v := 5) dL_law_21 (by decide) rfl ?_
    refine G.isub (pc2 := 23) (v := nI L - 5) dL_law_22 rfl rfl ?_
    have hsub : (nI L - 5).toInt = (L : Int) - 5 := pk_sub_toInt (a := L) (b := 5) (by omega) (by omega)
    have hti : l3.toInt = (i : Int) := by rw [e3]; exact nI_toInt (by omega)
    refine G.icmp_gt (pc2 := 26) (tgt := 750) dL_law_23 rfl rfl (fun c_23 => ?_) (fun c_23 => ?_)
    · refine G.iconst (pc2 := 751) (v := 1) dL_law_750 (by decide) rfl ?_
      exact G.lawret hL (Nat.le_refl _) (Nat.le_refl _) dL_law_751
    · have hiL : i + 5 ≤ L := by
        have : ¬ (nI L - 5).toInt < l3.toInt := fun z => c_23 (Int32.lt_iff_toInt_lt.mpr z)
        omega
      have next : ∀ (σ : SX) (τ : SM), Rel (t + 1) σ τ → G K cI cZ code 4 RL wsL_law room_1 24 1231 (wX aX cI cZ σ ++ wM aM cI cZ τ) 744 [(0, .ref b), (1, .ref (aX 0)), (2, .ref (aM 0)), (3, .int l3)] [] := by
        intro σ τ R
        refine G.iinc (pc2 := 747) (k := 3) (v := l3 + 5) (lv2 := [(0, .ref b), (1, .ref (aX 0)), (2, .ref (aM 0)), (3, .int (l3 + 5))]) [1, 2, 3, 0] dL_law_744 rfl rfl (by decide) rfl rfl ?_
        refine G.goto (tgt := 18) dL_law_747 rfl ?_
        exact ih (i + 5) (t + 1) σ τ (l3 + 5) (by rw [e3]; exact nI_add i 5) (by omega) (by omega) (by omega) R
      refine G.aload_n (pc2 := 27) (x := b) dL_law_26 rfl rfl rfl ?_
      refine G.iload_n (pc2 := 28) (x := l3) dL_law_27 rfl rfl rfl ?_
      refine G.sld (pc2 := 29) hL (by rw [e3]; exact vp_in_nI (by omega) (by omega)) dL_law_28 rfl ?_
      refine G.bipush (pc2 := 31) (v := 31) dL_law_29 (by decide) rfl ?_
      obtain ⟨k, hk, ek⟩ := pk_andE (xs (ix l3)) (m := 31) 5 (by decide)
      refine G.iand (pc2 := 32) (v := nI k) dL_law_31 ek rfl ?_
      rcases (show k = 0 ∨ k = 1 ∨ k = 2 ∨ k = 3 ∨ k = 4 ∨ k = 5 ∨ k = 6 ∨ k = 7 ∨ k = 8 ∨ k = 9 ∨ k = 10 ∨ k = 11 ∨ k = 12 ∨ k = 13 ∨ k = 14 ∨ k = 15 ∨ k = 16 ∨ k = 17 ∨ k = 18 ∨ k = 19 ∨ k = 20 ∨ k = 21 ∨ k = 22 ∨ k = 23 ∨ k = 24 ∨ k = 25 ∨ k = 26 ∨ k = 27 ∨ k = 28 ∨ k = 29 ∨ k = 30 ∨ k = 31 by omega) with rfl | rfl | rfl | rfl | rfl | rfl | rfl | rfl | rfl | rfl | rfl | rfl | rfl | rfl | rfl | rfl | rfl | rfl | rfl | rfl | rfl | rfl | rfl | rfl | rfl | rfl | rfl | rfl | rfl | rfl | rfl | rfl
      · exact G.tabIn (tgt := 160) (off := 128) dL_law_32 (by decide) (by decide) (by decide) (by decide) (law_reset hL e3 hiL hL2 (by omega) R next)
      · exact G.tabIn (tgt := 213) (off := 181) dL_law_32 (by decide) (by decide) (by decide) (by decide) (law_read hL e3 hiL hL2 (by omega) R next)
      · exact G.tabIn (tgt := 236) (off := 204) dL_law_32 (by decide) (by decide) (by decide) (by decide) (law_write hL e3 hiL hL2 (by omega) R next)
      · exact G.tabIn (tgt := 269) (off := 237) dL_law_32 (by decide) (by decide) (by decide) (by decide) (law_pin hL e3 hiL hL2 (by omega) R next)
      · exact G.tabIn (tgt := 292) (off := 260) dL_law_32 (by decide) (by decide) (by decide) (by decide) (law_unpin hL e3 hiL hL2 (by omega) R next)
      · exact G.tabIn (tgt := 315) (off := 283) dL_law_32 (by decide) (by decide) (by decide) (by decide) (law_flush hL e3 hiL hL2 (by omega) R next)
      · exact G.tabIn (tgt := 338) (off := 306) dL_law_32 (by decide) (by decide) (by decide) (by decide) (law_flushAll hL e3 hiL hL2 (by omega) R next)
      · exact G.tabIn (tgt := 351) (off := 319) dL_law_32 (by decide) (by decide) (by decide) (by decide) (law_drain hL e3 hiL hL2 (by omega) R next)
      · exact G.tabIn (tgt := 374) (off := 342) dL_law_32 (by decide) (by decide) (by decide) (by decide) (law_discard hL e3 hiL hL2 (by omega) R next)
      · exact G.tabIn (tgt := 397) (off := 365) dL_law_32 (by decide) (by decide) (by decide) (by decide) (law_isResident hL e3 hiL hL2 (by omega) R next)
      · exact G.tabIn (tgt := 420) (off := 388) dL_law_32 (by decide) (by decide) (by decide) (by decide) (law_isDirty hL e3 hiL hL2 (by omega) R next)
      · exact G.tabIn (tgt := 443) (off := 411) dL_law_32 (by decide) (by decide) (by decide) (by decide) (law_pinCount hL e3 hiL hL2 (by omega) R next)
      · exact G.tabIn (tgt := 466) (off := 434) dL_law_32 (by decide) (by decide) (by decide) (by decide) (law_referenceTime hL e3 hiL hL2 (by omega) R next)
      · exact G.tabIn (tgt := 499) (off := 467) dL_law_32 (by decide) (by decide) (by decide) (by decide) (law_backwardKDistance hL e3 hiL hL2 (by omega) R next)
      · exact G.tabIn (tgt := 522) (off := 490) dL_law_32 (by decide) (by decide) (by decide) (by decide) (law_victim hL e3 hiL hL2 (by omega) R next)
      · exact G.tabIn (tgt := 535) (off := 503) dL_law_32 (by decide) (by decide) (by decide) (by decide) (law_diskValue hL e3 hiL hL2 (by omega) R next)
      · exact G.tabIn (tgt := 558) (off := 526) dL_law_32 (by decide) (by decide) (by decide) (by decide) (law_residentCount hL e3 hiL hL2 (by omega) R next)
      · exact G.tabIn (tgt := 571) (off := 539) dL_law_32 (by decide) (by decide) (by decide) (by decide) (law_residentPage hL e3 hiL hL2 (by omega) R next)
      · exact G.tabIn (tgt := 594) (off := 562) dL_law_32 (by decide) (by decide) (by decide) (by decide) (law_queueSize hL e3 hiL hL2 (by omega) R next)
      · exact G.tabIn (tgt := 607) (off := 575) dL_law_32 (by decide) (by decide) (by decide) (by decide) (law_queuedPage hL e3 hiL hL2 (by omega) R next)
      · exact G.tabIn (tgt := 630) (off := 598) dL_law_32 (by decide) (by decide) (by decide) (by decide) (law_queuedValue hL e3 hiL hL2 (by omega) R next)
      · exact G.tabIn (tgt := 653) (off := 621) dL_law_32 (by decide) (by decide) (by decide) (by decide) (law_clock hL e3 hiL hL2 (by omega) R next)
      · exact G.tabIn (tgt := 666) (off := 634) dL_law_32 (by decide) (by decide) (by decide) (by decide) (law_hits hL e3 hiL hL2 (by omega) R next)
      · exact G.tabIn (tgt := 679) (off := 647) dL_law_32 (by decide) (by decide) (by decide) (by decide) (law_misses hL e3 hiL hL2 (by omega) R next)
      · exact G.tabIn (tgt := 692) (off := 660) dL_law_32 (by decide) (by decide) (by decide) (by decide) (law_evictions hL e3 hiL hL2 (by omega) R next)
      · exact G.tabIn (tgt := 705) (off := 673) dL_law_32 (by decide) (by decide) (by decide) (by decide) (law_diskReads hL e3 hiL hL2 (by omega) R next)
      · exact G.tabIn (tgt := 718) (off := 686) dL_law_32 (by decide) (by decide) (by decide) (by decide) (law_diskWrites hL e3 hiL hL2 (by omega) R next)
      · exact G.tabIn (tgt := 731) (off := 699) dL_law_32 (by decide) (by decide) (by decide) (by decide) (law_stalls hL e3 hiL hL2 (by omega) R next)
      · exact G.tabOut (tgt := 744) dL_law_32 (Or.inr (by decide)) (by decide) (next σ τ R.step)
      · exact G.tabOut (tgt := 744) dL_law_32 (Or.inr (by decide)) (by decide) (next σ τ R.step)
      · exact G.tabOut (tgt := 744) dL_law_32 (Or.inr (by decide)) (by decide) (next σ τ R.step)
      · exact G.tabOut (tgt := 744) dL_law_32 (Or.inr (by decide)) (by decide) (next σ τ R.step)
