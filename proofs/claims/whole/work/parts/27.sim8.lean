/-! ===== reset, and the questions ===== -/
def clr (i : Nat) (f : Nat → Int32) : Nat → Int32 := fun j => if i ≤ j ∧ j < 64 then 0 else f j
theorem clr_step {i : Nat} (h : i < 64) (f : Nat → Int32) : clr (i + 1) (upd f i 0) = clr i f := by
  funext j
  unfold clr
  by_cases c : j = i
  · subst c
    rw [if_neg (fun z => by omega), upd_s, if_pos ⟨Nat.le_refl _, h⟩]
  · rw [upd_n _ _ c]
    by_cases d : i + 1 ≤ j ∧ j < 64
    · rw [if_pos d, if_pos ⟨by omega, d.2⟩]
    · rw [if_neg d, if_neg (fun z => d ⟨by omega, z.2⟩)]
theorem clr_end {i : Nat} (h : ¬ i < 64) (f : Nat → Int32) : clr i f = f := by
  funext j
  unfold clr
  rw [if_neg (fun z => by omega)]
theorem fill_clr (f : Nat → Int32) : sJ7_fill_53178 f 0 = clr 0 f := by
  have loop : ∀ (n i : Nat) (w : Nat → Int32), i ≤ 64 → 64 < i + n → lsJ7_fill_53178_5 0 n w (nI i) = clr i w := by
    intro n
    induction n with
    | zero => intro i w h1 h2; omega
    | succ n ih =>
      intro i w h1 h2
      rw [lsJ7_fill_53178_5]
      by_cases c : i < 64
      · rw [if_pos (ofl (by omega) c), ixN (by omega), nI_1, ih (i + 1) _ (by omega) (by omega), clr_step c]
      · rw [if_neg (onl (by omega) c (by omega)), clr_end c]
  exact loop 65 0 f (by omega) (by omega)
theorem empty_clr (f : SF) (p : Int32) : sX1_empty f p = (clr 0 f.1, clr 0 f.2.1, f.2.2.1, clr 0 f.2.2.2.1, p, 0) := by
  have loop : ∀ (n i : Nat) (w : SF), i ≤ 64 → 64 < i + n → lsX1_empty_2 p n w (nI i) = (clr i w.1, clr i w.2.1, w.2.2.1, clr i w.2.2.2.1, p, 0) := by
    intro n
    induction n with
    | zero => intro i w h1 h2; omega
    | succ n ih =>
      intro i w h1 h2
      rw [lsX1_empty_2]
      by_cases c : i < 64
      · rw [if_pos (lt64 c), nI_1, ih (i + 1) _ (by omega) (by omega)]
        unfold sX1_vacate
        simp only [ixN (show i < 2147483648 by omega), clr_step c]
      · rw [if_neg (nlt64 h1 c), clr_end c, clr_end c, clr_end c]
  exact loop 65 0 f (by omega) (by omega)
theorem resetM_clr (p0 p1 p2 p3 : Int32) (w : SM) : lsX5_reset_111 p0 p1 p2 p3 65 w 0 = ((clr 0 w.1.1, w.1.2.1, w.1.2.2), (clr 0 w.2.1.1, w.2.1.2.1, w.2.1.2.2.1, w.2.1.2.2.2.1, w.2.1.2.2.2.2), w.2.2.1, (w.2.2.2.1.1, clr 0 w.2.2.2.1.2.1, w.2.2.2.1.2.2), w.2.2.2.2) ∧ lvX5_reset_111 p0 p1 p2 p3 65 w 0 = 0 := by
  have loop : ∀ (n i : Nat) (w : SM), i ≤ 64 → 64 < i + n → lsX5_reset_111 p0 p1 p2 p3 n w (nI i) = ((clr i w.1.1, w.1.2.1, w.1.2.2), (clr i w.2.1.1, w.2.1.2.1, w.2.1.2.2.1, w.2.1.2.2.2.1, w.2.1.2.2.2.2), w.2.2.1, (w.2.2.2.1.1, clr i w.2.2.2.1.2.1, w.2.2.2.1.2.2), w.2.2.2.2) ∧ lvX5_reset_111 p0 p1 p2 p3 n w (nI i) = 0 := by
    intro n
    induction n with
    | zero => intro i w h1 h2; omega
    | succ n ih =>
      intro i w h1 h2
      rw [lsX5_reset_111, lvX5_reset_111]
      by_cases c : i < 64
      · rw [if_pos (lt64 c), if_pos (lt64 c), nI_1, ixN (by omega)]
        obtain ⟨a, b⟩ := ih (i + 1) ((upd w.1.1 i 0, w.1.2.1, w.1.2.2), (upd w.2.1.1 i 0, w.2.1.2.1, w.2.1.2.2.1, w.2.1.2.2.2.1, w.2.1.2.2.2.2), w.2.2.1, (w.2.2.2.1.1, upd w.2.2.2.1.2.1 i 0, w.2.2.2.1.2.2), w.2.2.2.2) (by omega) (by omega)
        rw [a, b]
        simp only [clr_step c]
        exact ⟨trivial, trivial⟩
      · rw [if_neg (nlt64 h1 c), if_neg (nlt64 h1 c), clr_end c, clr_end c, clr_end c]
        exact ⟨rfl, rfl⟩
  exact loop 65 0 w (by omega) (by omega)
theorem clr_in {f : Nat → Int32} {j : Nat} (h : j < 64) : clr 0 f j = 0 := if_pos ⟨Nat.zero_le _, h⟩
theorem clr_out {f : Nat → Int32} {j : Nat} (h : ¬ j < 64) : clr 0 f j = f j := if_neg (fun z => h z.2)
/-- what a reset needs of the states before it -/
def PreR (x : SX) (m : SM) : Prop := x.1.1 = m.1.1 ∧ x.2.2.1.1 = m.2.2.1.1 ∧ x.2.2.1.2.1 = m.2.2.1.2.1 ∧ (∀ i, i < 8 → Pg (x.2.2.1.1 i)) ∧ x.2.1.1 = m.2.1.1 ∧ x.2.1.2.2.1 = m.2.1.2.2.1 ∧ (∀ j, x.2.1.1 j = 0 → x.2.1.2.1 j = 0 ∧ x.2.1.2.2.2.1 j = 0) ∧ (∀ j, ¬ x.2.1.1 j = 0 → x.2.1.2.1 j = m.2.1.2.1 j ∧ x.2.1.2.2.2.1 j = m.2.1.2.2.2.1 j) ∧ (∀ j, ∃ n, n ≤ 9 ∧ x.2.1.2.2.2.1 j = nI n) ∧ FW x.2.1 ∧ x.2.2.2.1.2.1 = m.2.2.2.1.2.1
theorem Rel.pre {t : Nat} {x : SX} {m : SM} (R : Rel t x m) : PreR x m := by
  obtain ⟨e1, e2, e3, ⟨a1, a2, a3, a4, a5, a6, a7, a8, a9⟩, hQ, hH, hres, hc⟩ := R
  exact ⟨by rw [e1], by rw [e2], by rw [e2], hQ.1.2, a1, a2, a4, a5, a6, a9, hH.1⟩
theorem reset_rel {x : SX} {m : SM} {p0 p1 p2 p3 : Int32} {c0 c1 c2 : Nat} (h : PreR x m) (e0 : p0 = nI c0) (h0 : 1 ≤ c0) (h0' : c0 ≤ 16) (e1 : p1 = nI c1) (h1 : 1 ≤ c1) (h1' : c1 ≤ 3) (e2 : p2 = nI c2) (h2 : 1 ≤ c2) (h2' : c2 ≤ 8) :
    Rel 0 (sX4_startAnew x p0 p1 p2 p3) (lsX5_reset_111 p0 p1 p2 p3 65 ((m.1.1, 0, 0), (m.2.1.1, m.2.1.2.1, m.2.1.2.2.1, m.2.1.2.2.2.1, p0), (m.2.2.1.1, m.2.2.1.2.1, p2, 0), (m.2.2.2.1.1, m.2.2.2.1.2.1, p1), (p3, 0, 0, 0, 0, 0)) 0) := by
  obtain ⟨b1, b2, b3, b4, b5, b6, b7, b8, b9, b10, b11⟩ := h
  rw [(resetM_clr p0 p1 p2 p3 _).1]
  unfold sX4_startAnew sX0_erase sX3_empty sX2_forgetAll
  rw [empty_clr, fill_clr, fill_clr]
  have hcl : ∀ j, ¬ clr 0 x.2.1.1 j = 0 → ¬ j < 64 ∧ ¬ x.2.1.1 j = 0 := fun j hj => by
    have hn : ¬ j < 64 := fun z => hj (clr_in z)
    rw [clr_out hn] at hj
    exact ⟨hn, hj⟩
  refine ⟨by rw [b1], by rw [b2, b3], rfl, ⟨by rw [b5], b6, rfl, fun j hj => ?_, fun j hj => ?_, fun j => ?_, ⟨c0, e0, h0, h0', ?_⟩, ?_, ⟨fun j => ?_, fun j => ?_⟩⟩, ⟨⟨⟨0, c2, rfl, e2, by omega, h2, h2'⟩, b4⟩, 0, rfl, by omega, fun i hi => by omega, fun i k _ hk => by omega⟩, ⟨by rw [b11], rfl, ⟨⟨c1, e1, h1, h1'⟩, fun j hj => ⟨0, clr_in hj, by omega⟩⟩, fun j hj => ⟨0, c1, clr_in hj, e1, by omega, h1', fun i hi => by omega⟩⟩, fun j hj hr => absurd (clr_in hj) hr, 0, rfl, by omega⟩
  · show clr 0 x.2.1.2.1 j = 0 ∧ clr 0 x.2.1.2.2.2.1 j = 0
    by_cases d : j < 64
    · exact ⟨clr_in d, clr_in d⟩
    · have hj2 : clr 0 x.2.1.1 j = 0 := hj
      rw [clr_out d] at hj2
      rw [clr_out d, clr_out d]
      exact b7 j hj2
  · obtain ⟨d, hj2⟩ := hcl j hj
    show clr 0 x.2.1.2.1 j = m.2.1.2.1 j ∧ clr 0 x.2.1.2.2.2.1 j = m.2.1.2.2.2.1 j
    rw [clr_out d, clr_out d]
    exact b8 j hj2
  · show ∃ n, n ≤ 9 ∧ clr 0 x.2.1.2.2.2.1 j = nI n
    by_cases d : j < 64
    · exact ⟨0, by omega, clr_in d⟩
    · rw [clr_out d]; exact b9 j
  · show cnt (clr 0 x.2.1.1) 64 ≤ c0
    rw [cnt_zero 64 (fun j hj => clr_in hj)]
    omega
  · show (0 : Int32) = nI (cnt (clr 0 x.2.1.1) 64)
    rw [cnt_zero 64 (fun j hj => clr_in hj)]
    rfl
  · show B01 (clr 0 x.2.1.1 j)
    by_cases d : j < 64
    · exact Or.inl (clr_in d)
    · rw [clr_out d]; exact b10.1 j
  · show B01 (clr 0 x.2.1.2.1 j)
    by_cases d : j < 64
    · exact Or.inl (clr_in d)
    · rw [clr_out d]; exact b10.2 j
theorem op_reset {t : Nat} {x : SX} {m : SM} (R : Rel t x m) (p0 p1 p2 p3 : Int32) : vX4_reset x p0 p1 p2 p3 = vX5_reset m p0 p1 p2 p3 ∧ Rel (t + 1) (sX4_reset x p0 p1 p2 p3) (sX5_reset m p0 p1 p2 p3) := by
  unfold vX4_reset vX5_reset sX4_reset sX5_reset
  rw [within_same, within_same, within_same, within_same]
  by_cases c0 : vX5_isFrom p0 1 16 = 0
  · rw [if_pos c0, if_pos c0, if_pos c0, if_pos c0]; exact ⟨rfl, R.step⟩
  · rw [if_neg c0, if_neg c0, if_neg c0, if_neg c0]
    by_cases c1 : vX5_isFrom p1 1 3 = 0
    · rw [if_pos c1, if_pos c1, if_pos c1, if_pos c1]; exact ⟨rfl, R.step⟩
    · rw [if_neg c1, if_neg c1, if_neg c1, if_neg c1]
      by_cases c2 : vX5_isFrom p2 1 8 = 0
      · rw [if_pos c2, if_pos c2, if_pos c2, if_pos c2]; exact ⟨rfl, R.step⟩
      · rw [if_neg c2, if_neg c2, if_neg c2, if_neg c2]
        by_cases c3 : vX5_isFrom p3 0 9999 = 0
        · rw [if_pos c3, if_pos c3, if_pos c3, if_pos c3]; exact ⟨rfl, R.step⟩
        · rw [if_neg c3, if_neg c3, if_neg c3, if_neg c3]
          obtain ⟨k0, a0, b0, d0⟩ := ge1_of (n := 16) (by decide) (from_of c0).1 (from_of c0).2
          obtain ⟨k1, a1, b1, d1⟩ := ge1_of (n := 3) (by decide) (from_of c1).1 (from_of c1).2
          obtain ⟨k2, a2, b2, d2⟩ := ge1_of (n := 8) (by decide) (from_of c2).1 (from_of c2).2
          exact ⟨(resetM_clr p0 p1 p2 p3 _).2.symm, (reset_rel R.pre a0 b0 d0 a1 b1 d1 a2 b2 d2).mono (Nat.zero_le _)⟩
theorem start_rel : Rel 0 (sX4_startAnew zX 4 2 3 100) (sX5_reset zM 4 2 3 100) := by
  have h : PreR zX zM := ⟨rfl, rfl, rfl, fun i _ => (pgI (i := 0) (by omega) : Pg (nI 0)), rfl, rfl, fun j _ => ⟨rfl, rfl⟩, fun j hj => absurd rfl hj, fun j => ⟨0, by omega, rfl⟩, ⟨fun j => Or.inl rfl, fun j => Or.inl rfl⟩, rfl⟩
  have h2 := reset_rel (p0 := 4) (p1 := 2) (p2 := 3) (p3 := 100) (c0 := 4) (c1 := 2) (c2 := 3) h rfl (by omega) (by omega) rfl (by omega) (by omega) rfl (by omega) (by omega)
  unfold sX5_reset
  rw [if_neg (show ¬ vX5_isFrom 4 1 16 = 0 by decide), if_neg (show ¬ vX5_isFrom 2 1 3 = 0 by decide), if_neg (show ¬ vX5_isFrom 3 1 8 = 0 by decide), if_neg (show ¬ vX5_isFrom 100 0 9999 = 0 by decide)]
  exact h2
/-! questions -/
theorem op_isResident {t : Nat} {x : SX} {m : SM} (R : Rel t x m) (p : Int32) : vX4_isResident x p = vX5_isResident m p := by
  unfold vX4_isResident vX5_isResident vX1_holds
  rw [page_same, R.fr.1]
theorem op_isDirty {t : Nat} {x : SX} {m : SM} (R : Rel t x m) (p : Int32) : vX4_isDirty x p = vX5_isDirty m p := by
  unfold vX4_isDirty vX5_isDirty vX1_holds vX1_isChanged
  rw [page_same, R.fr.1]
  by_cases r : m.2.1.1 (ix p) = 0
  · rw [if_pos r, if_pos r]
  · rw [if_neg r, if_neg r, (R.fr.2.2.2.2.1 _ (by rw [R.fr.1]; exact r)).1]
theorem op_pinCount {t : Nat} {x : SX} {m : SM} (R : Rel t x m) (p : Int32) : vX4_pinCount x p = vX5_pinCount m p := by
  unfold vX4_pinCount vX5_pinCount vX1_holds vX1_pinsOf
  rw [page_same, R.fr.1]
  by_cases r : m.2.1.1 (ix p) = 0
  · rw [if_pos r, if_pos r]
  · rw [if_neg r, if_neg r, (R.fr.2.2.2.2.1 _ (by rw [R.fr.1]; exact r)).2]
theorem op_referenceTime {t : Nat} {x : SX} {m : SM} (R : Rel t x m) (p i : Int32) : vX4_referenceTime x p i = vX5_referenceTime m p i := by
  obtain ⟨e1, e2, hw, hJ⟩ := R.2.2.2.2.2.1
  unfold vX4_referenceTime vX5_referenceTime vX2_depth
  rw [page_same, within_same, ← e2, ← e1]
  by_cases c : vX5_isPage p = 0
  · rw [if_pos c, if_pos c]
  · rw [if_neg c, if_neg c]
    have hp := pgM c
    by_cases d : vX5_isFrom i 1 x.2.2.2.1.2.2 = 0
    · rw [if_pos d, if_pos d]
    · rw [if_neg d, if_neg d]
      obtain ⟨n, k, a1, a2, a3, a4, a5⟩ := hJ (ix p) hp.2.1
      obtain ⟨g1, g2⟩ := from_of d
      rw [a2] at g2
      obtain ⟨q, hq, h1, h2⟩ := ge1_of (by omega) g1 g2
      rw [a1, hq]
      by_cases f : n < q
      · rw [if_pos (ofl (by omega) f), time0 (i := nI q) (q := q) a1 (by omega) rfl (by omega) (Or.inr f)]
      · rw [if_neg (onl (by omega) f (by omega)), timeX (i := nI q) (q := q) hp a1 (by omega) rfl h1 (by omega), timeM (i := nI q) (q := q) hp rfl h1 (by omega), (a5 (q - 1) (by omega)).1]
theorem op_backward {t : Nat} {x : SX} {m : SM} (ht : t < 1073741824) (R : Rel t x m) (p : Int32) : vX4_backwardKDistance x p = vX5_backwardKDistance m p := by
  obtain ⟨e1, e2, hw, hJ⟩ := R.2.2.2.2.2.1
  unfold vX4_backwardKDistance vX5_backwardKDistance vX2_depth
  rw [page_same, ← e2, ← e1, R.2.2.1]
  by_cases c : vX5_isPage p = 0
  · rw [if_pos c, if_pos c]
  · rw [if_neg c, if_neg c]
    have hp := pgM c
    obtain ⟨n, k, a1, a2, a3, a4, a5⟩ := hJ (ix p) hp.2.1
    obtain ⟨k1, b1, b2, b3⟩ := hw.1
    have ekk : k = k1 := (nI_eq (by omega) (by omega)).mp (a2.symm.trans b1)
    subst ekk
    rw [a1, a2]
    by_cases f : n < k
    · rw [if_pos (ofl (by omega) f), if_pos (time0 (i := nI k) (q := k) a1 (by omega) rfl (by omega) (Or.inr f))]
    · obtain ⟨g1, w, g2, g3⟩ := a5 (k - 1) (by omega)
      rw [if_neg (onl (by omega) f (by omega)), timeX (i := nI k) (q := k) hp a1 (by omega) rfl b2 (by omega), timeM (i := nI k) (q := k) hp rfl b2 (by omega), g3, if_neg (nI_ne9 (by omega)), ← g1, g3]
theorem op_victim {t : Nat} {x : SX} {m : SM} (R : Rel t x m) : vX4_victim x = vX5_victim m := R.vic
theorem op_diskValue {t : Nat} {x : SX} {m : SM} (R : Rel t x m) (p : Int32) : vX4_diskValue x p = vX5_diskValue m p := by
  unfold vX4_diskValue vX5_diskValue vX0_valueOf
  rw [page_same, R.1]
theorem op_residentCount {t : Nat} {x : SX} {m : SM} (R : Rel t x m) : vX4_residentCount x = vX5_residentCount m := by
  rw [count_cnt, ← R.fr.1]
  exact R.fr.2.2.2.2.2.2.2.1
theorem op_residentPage {t : Nat} {x : SX} {m : SM} (R : Rel t x m) (p : Int32) : vX4_residentPage x p = vX5_residentPage m p := by
  unfold vX4_residentPage vX5_residentPage vX1_pageAt
  by_cases neg : p < 0
  · have hM : lvX5_residentPage_4 m p 65 p 0 = -9 := by
      rw [lvX5_residentPage_4, if_pos (show (0 : Int32) < 64 by decide), if_pos neg]
    have loop : ∀ (n i c : Nat), i ≤ 64 → 64 < i + n → c ≤ i → lvX1_pageAt_4 x.2.1 p n (nI c) (nI i) = -9 := by
      intro n
      induction n with
      | zero => intro i c h1 h2; omega
      | succ n ih =>
        intro i c h1 h2 h3
        rw [lvX1_pageAt_4]
        by_cases d : i < 64
        · rw [if_pos (lt64 d), nI_1, nI_1, if_neg (show ¬ nI c = p from fun z => nI_pos (n := c) (by omega) (by rw [z]; exact neg)), ih (i + 1) c (by omega) (by omega) (by omega), ih (i + 1) (c + 1) (by omega) (by omega) (by omega)]
          split <;> rfl
        · rw [if_neg (nlt64 h1 d)]
    rw [hM]
    exact loop 65 0 0 (by omega) (by omega) (by omega)
  · obtain ⟨P, hP, eP⟩ := nI_of neg
    have loop : ∀ (n i c : Nat), i ≤ 64 → 64 < i + n → c ≤ i → c ≤ P → lvX1_pageAt_4 x.2.1 p n (nI c) (nI i) = lvX5_residentPage_4 m p n (nI (P - c)) (nI i) := by
      intro n
      induction n with
      | zero => intro i c h1 h2; omega
      | succ n ih =>
        intro i c h1 h2 h3 h4
        rw [lvX1_pageAt_4, lvX5_residentPage_4]
        by_cases d : i < 64
        · rw [if_pos (lt64 d), if_pos (lt64 d), if_neg (nI_pos (by omega)), nI_1, nI_1, R.fr.1]
          by_cases r : m.2.1.1 (ix (nI i)) = 0
          · rw [if_pos r, if_pos r]
            exact ih (i + 1) c (by omega) (by omega) (by omega) h4
          · rw [if_neg r, if_neg r]
            by_cases f : c = P
            · rw [if_pos (show nI c = p by rw [eP, f]), if_pos (show nI (P - c) = 0 by rw [f, Nat.sub_self]; rfl)]
            · rw [if_neg (show ¬ nI c = p from fun z => f ((nI_eq (by omega) hP).mp (z.trans eP))), if_neg (nI_ne0 (by omega) (by omega))]
              rw [ih (i + 1) (c + 1) (by omega) (by omega) (by omega) (by omega), show nI (P - c) + (-1) = nI (P - (c + 1)) by
                rw [show P - c = P - (c + 1) + 1 by omega]
                exact pk_m1 _]
        · rw [if_neg (nlt64 h1 d), if_neg (nlt64 h1 d)]
    have h := loop 65 0 0 (by omega) (by omega) (by omega) (by omega)
    rw [Nat.sub_zero, ← eP] at h
    exact h
theorem op_queueSize {t : Nat} {x : SX} {m : SM} (R : Rel t x m) : vX4_queueSize x = vX5_queueSize m := by
  unfold vX4_queueSize vX5_queueSize vX3_length
  rw [R.2.1]
theorem inq_same {t : Nat} {x : SX} {m : SM} (R : Rel t x m) (p : Int32) : vX3_has x.2.2.1 p = vX5_isInQueue m p := by
  obtain ⟨-, n, a, b, -⟩ := R.2.2.2.2.1
  unfold vX3_has vX5_isInQueue vX5_isFrom
  rw [← R.2.1, a]
  by_cases c : p < 0
  · rw [if_pos c, if_pos c]
  · rw [if_neg c, if_neg c]
    obtain ⟨j, hj, rfl⟩ := nI_of c
    rcases Nat.eq_zero_or_pos n with h | h
    · subst h
      rw [if_neg (onl hj (by omega) (by omega)), show nI 0 - 1 = -1 from by decide, if_pos (Int32.lt_iff_toInt_lt.mpr (by rw [nI_toInt hj, show (-1 : Int32).toInt = -1 from by decide]; omega))]
    · rw [show nI n - 1 = nI (n - 1) from sub_nI (b := 1) (by omega)]
      by_cases d : j < n
      · rw [if_pos (ofl (by omega) d), if_neg (onl (by omega) (by omega) hj)]
      · rw [if_neg (onl hj d (by omega)), if_pos (ofl hj (by omega))]
theorem op_queuedPage {t : Nat} {x : SX} {m : SM} (R : Rel t x m) (p : Int32) : vX4_queuedPage x p = vX5_queuedPage m p := by
  unfold vX4_queuedPage vX5_queuedPage vX3_pageAt
  rw [inq_same R, R.2.1]
theorem op_queuedValue {t : Nat} {x : SX} {m : SM} (R : Rel t x m) (p : Int32) : vX4_queuedValue x p = vX5_queuedValue m p := by
  unfold vX4_queuedValue vX5_queuedValue vX3_valueAt
  rw [inq_same R, R.2.1]
theorem op_clock {t : Nat} {x : SX} {m : SM} (R : Rel t x m) : vX4_clock x = vX5_clock m := by unfold vX4_clock vX5_clock; rw [R.2.2.1]
theorem op_hits {t : Nat} {x : SX} {m : SM} (R : Rel t x m) : vX4_hits x = vX5_hits m := by unfold vX4_hits vX5_hits; rw [R.2.2.1]
theorem op_misses {t : Nat} {x : SX} {m : SM} (R : Rel t x m) : vX4_misses x = vX5_misses m := by unfold vX4_misses vX5_misses; rw [R.2.2.1]
theorem op_evictions {t : Nat} {x : SX} {m : SM} (R : Rel t x m) : vX4_evictions x = vX5_evictions m := by unfold vX4_evictions vX5_evictions; rw [R.2.2.1]
theorem op_stalls {t : Nat} {x : SX} {m : SM} (R : Rel t x m) : vX4_stalls x = vX5_stalls m := by unfold vX4_stalls vX5_stalls; rw [R.2.2.1]
theorem op_diskReads {t : Nat} {x : SX} {m : SM} (R : Rel t x m) : vX4_diskReads x = vX5_diskReads m := by unfold vX4_diskReads vX5_diskReads vX0_loads; rw [R.1]
theorem op_diskWrites {t : Nat} {x : SX} {m : SM} (R : Rel t x m) : vX4_diskWrites x = vX5_diskWrites m := by unfold vX4_diskWrites vX5_diskWrites vX0_stores; rw [R.1]
