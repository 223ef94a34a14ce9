/-! ===== the calls, one by one: the same answer, and the relation kept ===== -/
theorem page_same (p : Int32) : vX4_isPage p = vX5_isPage p := rfl
theorem within_same (a b c : Int32) : vX4_isWithin a b c = vX5_isFrom a b c := rfl
theorem Rel.step {t : Nat} {x : SX} {m : SM} (h : Rel t x m) : Rel (t + 1) x m := h.mono (Nat.le_succ t)
theorem Rel.fr {t : Nat} {x : SX} {m : SM} (h : Rel t x m) : FR x.2.1 m.2.1 := h.2.2.2.1
theorem Rel.qw {t : Nat} {x : SX} {m : SM} (h : Rel t x m) : QW x.2.2.1 := h.2.2.2.2.1.1
theorem Rel.qwM {t : Nat} {x : SX} {m : SM} (h : Rel t x m) : QW m.2.2.1 := by rw [← h.2.1]; exact h.qw
theorem Rel.hw {t : Nat} {x : SX} {m : SM} (h : Rel t x m) : HW x.2.2.2.1 := h.2.2.2.2.2.1.2.2.1
theorem Rel.hwM {t : Nat} {x : SX} {m : SM} (h : Rel t x m) : HW m.2.2.2.1 := by
  obtain ⟨a, b, c, -⟩ := h.2.2.2.2.2.1
  exact ⟨by rw [← b]; exact c.1, fun j hj => by rw [← a]; exact c.2 j hj⟩
theorem Rel.fw {t : Nat} {x : SX} {m : SM} (h : Rel t x m) : FW x.2.1 := h.fr.2.2.2.2.2.2.2.2
theorem op_read {t : Nat} {x : SX} {m : SM} (ht : t < 1073741824) (R : Rel t x m) (p : Int32) : vX4_read x p = vX5_read m p ∧ Rel (t + 1) (sX4_read x p) (sX5_read m p) := by
  unfold vX4_read vX5_read sX4_read sX5_read
  rw [page_same]
  by_cases c : vX5_isPage p = 0
  · rw [if_pos c, if_pos c, if_pos c, if_pos c]; exact ⟨rfl, R.step⟩
  · rw [if_neg c, if_neg c, if_neg c, if_neg c]
    rcases stuck_same R p with ⟨h1, h2⟩ | ⟨h1, h2⟩
    · rw [if_pos h1, if_neg h2, if_pos h1, if_neg h2]; exact ⟨rfl, R.step⟩
    · rw [if_neg h1, if_pos h2, if_neg h1, if_pos h2]
      obtain ⟨r1, r2, r3⟩ := ref_same ht R (pgM c) h1
      exact ⟨congrFun r1.fr.2.1 _, r1⟩
theorem FR.change {f : SF} {g : SFm} {p v : Int32} (h : FR f g) (hr : ¬ f.1 (ix p) = 0) : FR (sX1_change f p v) (g.1, upd g.2.1 (ix p) 1, upd g.2.2.1 (ix p) v, g.2.2.2.1, g.2.2.2.2) := by
  obtain ⟨a1, a2, a3, a4, a5, a6, a7, a8, a9⟩ := h
  refine ⟨a1, by rw [← a2]; rfl, a3, fun j hj => ?_, fun j hj => ?_, a6, a7, a8, fw_change a9⟩
  · have c1 : ¬ j = ix p := fun z => hr (by rw [← z]; exact hj)
    show upd f.2.1 (ix p) 1 j = 0 ∧ _
    rw [upd_n _ _ c1]
    exact a4 j hj
  · show upd f.2.1 (ix p) 1 j = upd g.2.1 (ix p) 1 j ∧ f.2.2.2.1 j = g.2.2.2.1 j
    by_cases c1 : j = ix p
    · rw [c1, upd_s, upd_s]; exact ⟨rfl, (a5 _ hr).2⟩
    · rw [upd_n _ _ c1, upd_n _ _ c1]; exact a5 j hj
theorem op_write {t : Nat} {x : SX} {m : SM} (ht : t < 1073741824) (R : Rel t x m) (p v : Int32) : vX4_write x p v = vX5_write m p v ∧ Rel (t + 1) (sX4_write x p v) (sX5_write m p v) := by
  unfold vX4_write vX5_write sX4_write sX5_write
  rw [page_same, within_same]
  by_cases c : vX5_isPage p = 0
  · rw [if_pos c, if_pos c, if_pos c, if_pos c]; exact ⟨rfl, R.step⟩
  · rw [if_neg c, if_neg c, if_neg c, if_neg c]
    by_cases d : vX5_isFrom v 0 9999 = 0
    · rw [if_pos d, if_pos d, if_pos d, if_pos d]; exact ⟨rfl, R.step⟩
    · rw [if_neg d, if_neg d, if_neg d, if_neg d]
      rcases stuck_same R p with ⟨h1, h2⟩ | ⟨h1, h2⟩
      · rw [if_pos h1, if_neg h2, if_pos h1, if_neg h2]; exact ⟨rfl, R.step⟩
      · rw [if_neg h1, if_pos h2, if_neg h1, if_pos h2]
        obtain ⟨r1, r2, r3⟩ := ref_same ht R (pgM c) h1
        generalize sX4_reference x p = y at r1 r2 r3
        generalize sX5_reference m p = n at r1
        obtain ⟨b1, b2, b3, b4, b5, b6, b7, b8⟩ := r1
        exact ⟨congrFun b4.2.1 _, b1, b2, b3, b4.change r2, b5, b6, b7, b8⟩
theorem FR.pins {f : SF} {g : SFm} {p v : Int32} {n : Nat} (h : FR f g) (hr : ¬ f.1 (ix p) = 0) (hn : n ≤ 9) (hv : v = nI n) : FR (f.1, f.2.1, f.2.2.1, upd f.2.2.2.1 (ix p) v, f.2.2.2.2.1, f.2.2.2.2.2) (g.1, g.2.1, g.2.2.1, upd g.2.2.2.1 (ix p) v, g.2.2.2.2) := by
  obtain ⟨a1, a2, a3, a4, a5, a6, a7, a8, a9⟩ := h
  refine ⟨a1, a2, a3, fun j hj => ?_, fun j hj => ?_, fun j => ?_, a7, a8, a9⟩
  · have c1 : ¬ j = ix p := fun z => hr (by rw [← z]; exact hj)
    show f.2.1 j = 0 ∧ upd f.2.2.2.1 (ix p) v j = 0
    rw [upd_n _ _ c1]
    exact a4 j hj
  · show f.2.1 j = g.2.1 j ∧ upd f.2.2.2.1 (ix p) v j = upd g.2.2.2.1 (ix p) v j
    by_cases c1 : j = ix p
    · rw [c1, upd_s, upd_s]; exact ⟨(a5 _ hr).1, rfl⟩
    · rw [upd_n _ _ c1, upd_n _ _ c1]; exact a5 j hj
  · show ∃ n, n ≤ 9 ∧ upd f.2.2.2.1 (ix p) v j = nI n
    by_cases c1 : j = ix p
    · rw [c1, upd_s]; exact ⟨n, hn, hv⟩
    · rw [upd_n _ _ c1]; exact a6 j
theorem pin9 {n : Nat} (h : n ≤ 9) : (nI n < 9 ∧ ¬ nI n = 9 ∧ n ≤ 8) ∨ (¬ nI n < 9 ∧ nI n = 9) := by
  by_cases c : n < 9
  · exact Or.inl ⟨(nI_ltI (b := 9) (by omega) (by omega)).mpr c, fun z => by have := (nI_eq (b := 9) (by omega) (by omega)).mp z; omega, by omega⟩
  · have : n = 9 := by omega
    subst this
    exact Or.inr ⟨by decide, rfl⟩
theorem op_pin {t : Nat} {x : SX} {m : SM} (ht : t < 1073741824) (R : Rel t x m) (p : Int32) : vX4_pin x p = vX5_pin m p ∧ Rel (t + 1) (sX4_pin x p) (sX5_pin m p) := by
  unfold vX4_pin vX5_pin sX4_pin sX5_pin
  rw [page_same]
  by_cases c : vX5_isPage p = 0
  · rw [if_pos c, if_pos c, if_pos c, if_pos c]; exact ⟨rfl, R.step⟩
  · rw [if_neg c, if_neg c, if_neg c, if_neg c]
    obtain ⟨n, hn, en⟩ := R.fr.2.2.2.2.2.1 (ix p)
    have core : n ≤ 8 → (if vX4_canReference x p = 0 then (-3 : Int32) else vX1_pinsOf (sX1_addPin (sX4_reference x p).2.1 p) p) = (if vX5_isStuck m p = 0 then (upd (sX5_reference m p).2.1.2.2.2.1 (ix p) ((sX5_reference m p).2.1.2.2.2.1 (ix p) + 1)) (ix p) else (-3)) ∧ Rel (t + 1) (if vX4_canReference x p = 0 then x else ((sX4_reference x p).1, (sX1_addPin (sX4_reference x p).2.1 p), (sX4_reference x p).2.2.1, (sX4_reference x p).2.2.2.1, (sX4_reference x p).2.2.2.2)) (if vX5_isStuck m p = 0 then ((sX5_reference m p).1, ((sX5_reference m p).2.1.1, (sX5_reference m p).2.1.2.1, (sX5_reference m p).2.1.2.2.1, upd (sX5_reference m p).2.1.2.2.2.1 (ix p) ((sX5_reference m p).2.1.2.2.2.1 (ix p) + 1), (sX5_reference m p).2.1.2.2.2.2), (sX5_reference m p).2.2.1, (sX5_reference m p).2.2.2.1, (sX5_reference m p).2.2.2.2) else m) := by
      intro h8
      rcases stuck_same R p with ⟨h1, h2⟩ | ⟨h1, h2⟩
      · rw [if_pos h1, if_neg h2, if_pos h1, if_neg h2]; exact ⟨rfl, R.step⟩
      · rw [if_neg h1, if_pos h2, if_neg h1, if_pos h2]
        obtain ⟨r1, r2, r3⟩ := ref_same ht R (pgM c) h1
        rw [en] at r3
        generalize sX4_reference x p = y at r1 r2 r3
        generalize sX5_reference m p = k at r1
        obtain ⟨b1, b2, b3, b4, b5, b6, b7, b8⟩ := r1
        have e2 := (b4.2.2.2.2.1 _ r2).2
        have e3 : y.2.1.2.2.2.1 (ix p) + 1 = nI (n + 1) := by rw [r3]; exact nI_1 n
        refine ⟨?_, b1, b2, b3, ?_, b5, b6, b7, b8⟩
        · show upd y.2.1.2.2.2.1 (ix p) (y.2.1.2.2.2.1 (ix p) + 1) (ix p) = _
          rw [upd_s, upd_s, e2]
        · rw [← e2]
          exact b4.pins r2 (n := n + 1) (by omega) e3
    unfold vX1_pinsOf
    by_cases r : m.2.1.1 (ix p) = 0
    · rw [if_pos r, if_pos r]
      have e0 : x.2.1.2.2.2.1 (ix p) = 0 := (R.fr.2.2.2.1 _ (by rw [R.fr.1]; exact r)).2
      have n0 : n = 0 := (nI_eq (b := 0) (by omega) (by omega)).mp (en.symm.trans e0)
      rw [e0, if_pos (show (0 : Int32) < 9 by decide), if_pos (show (0 : Int32) < 9 by decide)]
      exact core (by omega)
    · rw [if_neg r, if_neg r]
      rw [← (R.fr.2.2.2.2.1 (ix p) (by rw [R.fr.1]; exact r)).2, en]
      rcases pin9 hn with ⟨h1, h2, h3⟩ | ⟨h1, h2⟩
      · rw [if_pos h1, if_neg h2, if_pos h1, if_neg h2]
        exact core h3
      · rw [if_neg h1, if_pos h2, if_neg h1, if_pos h2]; exact ⟨rfl, R.step⟩
theorem op_unpin {t : Nat} {x : SX} {m : SM} (R : Rel t x m) (p : Int32) : vX4_unpin x p = vX5_unpin m p ∧ Rel (t + 1) (sX4_unpin x p) (sX5_unpin m p) := by
  unfold vX4_unpin vX5_unpin sX4_unpin sX5_unpin vX1_holds
  rw [page_same, R.fr.1]
  by_cases c : vX5_isPage p = 0
  · rw [if_pos c, if_pos c, if_pos c, if_pos c]; exact ⟨rfl, R.step⟩
  · rw [if_neg c, if_neg c, if_neg c, if_neg c]
    by_cases r : m.2.1.1 (ix p) = 0
    · rw [if_pos r, if_pos r, if_pos r, if_pos r]; exact ⟨rfl, R.step⟩
    · rw [if_neg r, if_neg r, if_neg r, if_neg r]
      have r2 : ¬ x.2.1.1 (ix p) = 0 := by rw [R.fr.1]; exact r
      have e2 := (R.fr.2.2.2.2.1 _ r2).2
      obtain ⟨n, hn, en⟩ := R.fr.2.2.2.2.2.1 (ix p)
      have hd : vX1_pinsOf x.2.1 p = m.2.1.2.2.2.1 (ix p) := e2
      rw [hd]
      by_cases d : m.2.1.2.2.2.1 (ix p) = 0
      · rw [if_pos d, if_pos d, if_pos d, if_pos d]; exact ⟨rfl, R.step⟩
      · rw [if_neg d, if_neg d, if_neg d, if_neg d]
        have hn1 : 1 ≤ n := by
          rcases Nat.eq_zero_or_pos n with h | h
          · subst h
            exact absurd (e2.symm.trans en) d
          · exact h
        obtain ⟨b1, b2, b3, b4, b5, b6, b7, b8⟩ := R.step
        refine ⟨?_, b1, b2, b3, ?_, b5, b6, b7, b8⟩
        · show upd x.2.1.2.2.2.1 (ix p) (x.2.1.2.2.2.1 (ix p) - 1) (ix p) = _
          rw [upd_s, upd_s, e2]
        · rw [← e2]
          exact b4.pins r2 (n := n - 1) (by omega) (by rw [en]; exact sub_nI (b := 1) (by omega))
theorem FR.clean {f : SF} {g : SFm} {p : Int32} (h : FR f g) : FR (sX1_markClean f p) (g.1, upd g.2.1 (ix p) 0, g.2.2.1, g.2.2.2.1, g.2.2.2.2) := by
  obtain ⟨a1, a2, a3, a4, a5, a6, a7, a8, a9⟩ := h
  refine ⟨a1, a2, a3, fun j hj => ?_, fun j hj => ?_, a6, a7, a8, fw_markClean a9⟩
  · show upd f.2.1 (ix p) 0 j = 0 ∧ _
    by_cases c1 : j = ix p
    · rw [c1, upd_s]; exact ⟨rfl, by rw [← c1]; exact (a4 j hj).2⟩
    · rw [upd_n _ _ c1]; exact a4 j hj
  · show upd f.2.1 (ix p) 0 j = upd g.2.1 (ix p) 0 j ∧ f.2.2.2.1 j = g.2.2.2.1 j
    by_cases c1 : j = ix p
    · rw [c1, upd_s, upd_s]; exact ⟨rfl, by rw [← c1]; exact (a5 j hj).2⟩
    · rw [upd_n _ _ c1, upd_n _ _ c1]; exact a5 j hj
/-- a resident page written, if it is dirty -/
theorem wr_same {t : Nat} {x : SX} {m : SM} (R : Rel t x m) (p : Int32) : (vX1_isChanged x.2.1 p = 0 ∧ vX5_writeResident m p = 0 ∧ sX5_writeResident m p = m) ∨ (¬ vX1_isChanged x.2.1 p = 0 ∧ ¬ vX5_writeResident m p = 0 ∧ Rel t (sX4_writeFrame x p) (sX5_writeResident m p) ∧ (sX5_writeResident m p).1.2.2 = m.1.2.2 + 1) := by
  unfold vX1_isChanged vX5_writeResident sX5_writeResident
  by_cases r : m.2.1.1 (ix p) = 0
  · rw [if_pos r, if_pos r]
    exact Or.inl ⟨(R.fr.2.2.2.1 _ (by rw [R.fr.1]; exact r)).1, rfl, rfl⟩
  · rw [if_neg r, if_neg r]
    have r2 : ¬ x.2.1.1 (ix p) = 0 := by rw [R.fr.1]; exact r
    rw [(R.fr.2.2.2.2.1 _ r2).1]
    by_cases d : m.2.1.2.1 (ix p) = 0
    · rw [if_pos d, if_pos d]
      exact Or.inl ⟨d, rfl, rfl⟩
    · rw [if_neg d, if_neg d]
      refine Or.inr ⟨d, by decide, ?_, rfl⟩
      obtain ⟨b1, b2, b3, b4, b5, b6, b7, b8⟩ := R
      refine ⟨?_, b2, b3, b4.clean, b5, b6, b7, b8⟩
      show sX0_store x.1 p (x.2.1.2.2.1 (ix p)) = _
      rw [b1, b4.2.1]
      rfl
theorem op_flush {t : Nat} {x : SX} {m : SM} (R : Rel t x m) (p : Int32) : vX4_flush x p = vX5_flush m p ∧ Rel (t + 1) (sX4_flush x p) (sX5_flush m p) := by
  unfold vX4_flush vX5_flush sX4_flush sX5_flush
  rw [page_same]
  by_cases c : vX5_isPage p = 0
  · rw [if_pos c, if_pos c, if_pos c, if_pos c]; exact ⟨rfl, R.step⟩
  · rw [if_neg c, if_neg c, if_neg c, if_neg c]
    rcases wr_same R p with ⟨h1, h2, h3⟩ | ⟨h1, h2, h3, -⟩
    · rw [if_pos h1, if_pos h2, if_pos h1, if_pos h2, h3, pos_same]
      obtain ⟨D, F, Q, H, C⟩ := x
      obtain ⟨D2, F2, Q2, H2, C2⟩ := m
      obtain ⟨e1, e2, e3, hF, hQ, hH, hres, hc⟩ := R.step
      have e1 : D = D2 := e1
      have e2 : Q = Q2 := e2
      have e3 : C = C2 := e3
      subst e1
      subst e2
      subst e3
      have hQ : QU Q F.1 := hQ
      show (if vX3_positionOf Q p = -9 then (0 : Int32) else 1) = (if vX3_positionOf Q p = -9 then 0 else 1) ∧ _
      refine ⟨rfl, ?_⟩
      obtain ⟨hw, n, a, b, d, e⟩ := id hQ
      rcases pos_spec (q := Q) (p := p) a b with ⟨g1, g2⟩ | ⟨i, hi, g1, g2⟩
      · rw [if_pos (show vX3_positionOf Q p = -9 from g1), if_pos (show vX3_positionOf Q p = -9 from g1)]
        exact ⟨rfl, rfl, rfl, hF, hQ, hH, hres, hc⟩
      · have hne : ¬ vX3_positionOf Q p = -9 := by rw [g1]; exact nI_ne9 (by omega)
        rw [if_neg (show ¬ vX3_positionOf Q p = -9 from hne), if_neg (show ¬ vX3_positionOf Q p = -9 from hne)]
        show Rel (t + 1) (sX4_writeEntry (D, F, Q, H, C) (vX3_positionOf Q p)) (sX5_removeEntry (sX5_writeToDisk (D, F2, Q, H2, C) p (Q.2.1 (ix (vX3_positionOf Q p)))) (vX3_positionOf Q p))
        rw [g1, we_tuple D F Q H C hw a b hi, M_remove, ixN (by omega), g2]
        obtain ⟨q1, -, -, -⟩ := QU.rem (p2 := 0) (p := nI i) hQ a b hi rfl
        exact ⟨rfl, rfl, rfl, hF, q1, hH, hres, hc⟩
    · rw [if_neg h1, if_neg h2, if_neg h1, if_neg h2]
      exact ⟨rfl, h3.step⟩
