/-! ===== discard, and the entries written in turn ===== -/
theorem HR.forget {t : Nat} {h g : SH} (R : HR t h g) (k : Nat) : HR t (h.1, upd h.2.1 k 0, h.2.2) (g.1, upd g.2.1 k 0, g.2.2) := by
  obtain ⟨a, b, c, d⟩ := R
  refine ⟨by rw [a], b, hw_zero c, fun j hj => ?_⟩
  obtain ⟨n, k2, h1, h2, h3, h4, h5⟩ := d j hj
  by_cases e : j = k
  · subst e
    exact ⟨0, k2, upd_s _ _ _, h2, by omega, h4, fun i hi => by omega⟩
  · exact ⟨n, k2, (upd_n _ _ e).trans h1, h2, h3, h4, h5⟩
theorem op_discard {t : Nat} {x : SX} {m : SM} (R : Rel t x m) (p : Int32) : vX4_discard x p = vX5_discard m p ∧ Rel (t + 1) (sX4_discard x p) (sX5_discard m p) := by
  unfold vX4_discard vX5_discard sX4_discard sX5_discard vX1_pinsOf vX1_holds
  rw [page_same]
  by_cases c : vX5_isPage p = 0
  · rw [if_pos c, if_pos c, if_pos c, if_pos c]; exact ⟨rfl, R.step⟩
  · rw [if_neg c, if_neg c, if_neg c, if_neg c]
    have hp := pgM c
    rw [pos_same, R.fr.1]
    by_cases r : m.2.1.1 (ix p) = 0
    · have r2 : x.2.1.1 (ix p) = 0 := by rw [R.fr.1]; exact r
      rw [(R.fr.2.2.2.1 _ r2).2, if_neg (show ¬ (0 : Int32) < 0 by decide), if_neg (show ¬ (0 : Int32) < 0 by decide), if_pos r, if_pos r, if_pos r, if_pos r]
      refine ⟨by rw [R.2.1], ?_⟩
      obtain ⟨D, F, Q, H, C⟩ := x
      obtain ⟨D2, F2, Q2, H2, C2⟩ := m
      obtain ⟨e1, e2, e3, hF, hQ, hH, hres, hc⟩ := R.step
      have e1 : D = D2 := e1
      have e2 : Q = Q2 := e2
      have e3 : C = C2 := e3
      subst e1
      subst e2
      subst e3
      have hQ : QU Q F.1 := hQ
      have hF : FR F F2 := hF
      have hH : HR (t + 1) H H2 := hH
      have hres : ∀ j, j < 64 → ¬ F.1 j = 0 → ¬ H.2.1 j = 0 := hres
      have r2 : F.1 (ix p) = 0 := r2
      have r : F2.1 (ix p) = 0 := r
      have hF3 : FR F (upd F2.1 (ix p) 0, F2.2.1, F2.2.2.1, F2.2.2.2.1, F2.2.2.2.2) := by
        have : upd F2.1 (ix p) 0 = F2.1 := by
          funext j
          by_cases cj : j = ix p
          · rw [cj, upd_s]; exact r.symm
          · rw [upd_n _ _ cj]
        rw [this]
        exact hF
      have hres2 : ∀ j, j < 64 → ¬ F.1 j = 0 → ¬ upd H.2.1 (ix p) 0 j = 0 := fun j hj hr => by
        have cj : ¬ j = ix p := fun z => hr (by rw [z]; exact r2)
        rw [upd_n _ _ cj]
        exact hres j hj hr
      obtain ⟨hw, n, a, b, d, e⟩ := id hQ
      rcases pos_spec (q := Q) (p := p) a b with ⟨g1, g2⟩ | ⟨i, hi, g1, g2⟩
      · rw [if_pos (show vX3_positionOf Q p = -9 from g1), if_pos (show vX3_positionOf Q p = -9 from g1)]
        exact ⟨rfl, rfl, rfl, hF3, hQ, hH.forget _, hres2, hc⟩
      · have hne : ¬ vX3_positionOf Q p = -9 := by rw [g1]; exact nI_ne9 (by omega)
        rw [if_neg (show ¬ vX3_positionOf Q p = -9 from hne), if_neg (show ¬ vX3_positionOf Q p = -9 from hne)]
        show Rel (t + 1) (D, F, sX3_removeAt Q (vX3_positionOf Q p), sX2_forget H p, C) (sX5_removeEntry (D, (upd F2.1 (ix p) 0, F2.2.1, F2.2.2.1, F2.2.2.2.1, F2.2.2.2.2), Q, (H2.1, upd H2.2.1 (ix p) 0, H2.2.2), C) (vX3_positionOf Q p))
        rw [M_remove, g1, removeAt_nI a b hi]
        obtain ⟨q1, -, -, -⟩ := QU.rem (p2 := 0) (p := nI i) hQ a b hi rfl
        exact ⟨rfl, rfl, rfl, hF3, q1, hH.forget _, hres2, hc⟩
    · have r2 : ¬ x.2.1.1 (ix p) = 0 := by rw [R.fr.1]; exact r
      rw [(R.fr.2.2.2.2.1 _ r2).2, if_neg r, if_neg r, if_neg r, if_neg r]
      by_cases d : 0 < m.2.1.2.2.2.1 (ix p)
      · rw [if_pos d, if_pos d, if_pos d, if_pos d]
        exact ⟨rfl, R.step⟩
      · rw [if_neg d, if_neg d, if_neg d, if_neg d]
        obtain ⟨hw, n, a, b, d2, e⟩ := R.2.2.2.2.1
        have g1 : vX3_positionOf m.2.2.1 p = -9 := by
          rw [← R.2.1]
          rcases pos_spec (q := x.2.2.1) (p := p) a b with ⟨g1, g2⟩ | ⟨i, hi, g1, g2⟩
          · exact g1
          · exact absurd (by rw [← g2]; exact d2 i hi) r2
        rw [if_pos g1, if_pos g1]
        obtain ⟨e1, e2, e3, hF, hQ, hH, hres, hc⟩ := R.step
        refine ⟨rfl, e1, e2, e3, hF.release hp r2, hQ.res (fun j hj => ?_), hH.forget _, fun j hj hr => ?_, hc⟩
        · show upd x.2.1.1 (ix p) 0 j = 0
          by_cases cj : j = ix p
          · rw [cj, upd_s]
          · rw [upd_n _ _ cj]; exact hj
        · have hr2 : ¬ upd x.2.1.1 (ix p) 0 j = 0 := hr
          have cj : ¬ j = ix p := fun z => hr2 (by rw [z, upd_s])
          rw [upd_n _ _ cj] at hr2
          show ¬ upd x.2.2.2.1.2.1 (ix p) 0 j = 0
          rw [upd_n _ _ cj]
          exact hres j hj hr2
theorem we_step {t : Nat} {x : SX} {m : SM} {s : Nat} (R : Rel t x m) (hs : x.2.2.1.2.2.2 = nI s) (h1 : 1 ≤ s) (h8 : s ≤ 8) : Rel t (sX4_writeEntry x 0) (sX5_writeOldest m) ∧ (sX4_writeEntry x 0).2.2.1.2.2.2 = nI (s - 1) ∧ (sX5_writeOldest m).1.2.2 = m.1.2.2 + 1 := by
  obtain ⟨D, F, Q, H, C⟩ := x
  obtain ⟨D2, F2, Q2, H2, C2⟩ := m
  obtain ⟨e1, e2, e3, hF, hQ, hH, hres, hc⟩ := R
  have e1 : D = D2 := e1
  have e2 : Q = Q2 := e2
  have e3 : C = C2 := e3
  subst e1
  subst e2
  subst e3
  have hQ : QU Q F.1 := hQ
  have hs : Q.2.2.2 = nI s := hs
  have hwe := we_tuple D F Q H C (i := 0) hQ.1 hs h8 (by omega)
  obtain ⟨q1, -, q3, -⟩ := QU.rem (p2 := 0) (i := 0) (p := nI 0) hQ hs h8 (by omega) rfl
  rw [show nI 0 = 0 from rfl] at hwe q1 q3
  rw [hwe, wo_tuple]
  exact ⟨⟨rfl, rfl, rfl, hF, q1, hH, hres, hc⟩, q3, rfl⟩
theorem ofl {a b : Nat} (hb : b < 2147483648) (h : a < b) : nI a < nI b := (nI_ltI (by omega) hb).mpr h
theorem onl {a b : Nat} (ha : a < 2147483648) (h : ¬ a < b) (hb : b < 2147483648) : ¬ nI a < nI b := fun z => h ((nI_ltI ha hb).mp z)
theorem add1_sub (a b : Int32) : a + 1 - b = a - b + 1 := by
  rw [Int32.sub_eq_add_neg, Int32.sub_eq_add_neg, Int32.add_assoc, Int32.add_comm 1, ← Int32.add_assoc]
theorem addN_sub (b c : Int32) : b + c - b = c := by
  rw [Int32.add_comm]
  exact Int32.add_sub_cancel _ _
theorem addN_1 (b : Int32) (i : Nat) : b + nI i + 1 = b + nI (i + 1) := by
  rw [Int32.add_assoc, nI_1]
theorem wo_val (q : Int32) : ∀ (a fx : Nat) (x : SX) (i K : Nat), K = i + a → K ≤ 8 → a < fx → lvX4_writeOldest_14 q fx x (nI K) (nI i) = nI K := by
  intro a
  induction a with
  | zero =>
    intro fx x i K h1 h2 h3
    obtain ⟨f, rfl⟩ : ∃ f, fx = f + 1 := ⟨fx - 1, by omega⟩
    rw [lvX4_writeOldest_14, if_neg (onl (by omega) (by omega) (by omega))]
  | succ a ih =>
    intro fx x i K h1 h2 h3
    obtain ⟨f, rfl⟩ : ∃ f, fx = f + 1 := ⟨fx - 1, by omega⟩
    rw [lvX4_writeOldest_14, if_pos (ofl (by omega) (by omega)), nI_1]
    exact ih f _ (i + 1) K (by omega) h2 (by omega)
theorem drain_loop {t : Nat} {p q before : Int32} {cN : Nat} (hc : p = nI cN) (hc8 : cN ≤ 8) : ∀ (a fx fm : Nat) (x : SX) (m : SM) (i K s : Nat), Rel t x m → x.2.2.1.2.2.2 = nI s → s ≤ 8 → K = i + a → K = min cN (s + i) → K ≤ 8 → a < fx → a < fm → m.1.2.2 = before + nI i → Rel t (lsX4_writeOldest_14 q fx x (nI K) (nI i)) (lsX5_drain_18 p fm m before) ∧ lvX5_drain_18 p fm m before = nI K := by
  intro a
  induction a with
  | zero =>
    intro fx fm x m i K s R hs h8 h1 h2 h3 h4 h5 h6
    obtain ⟨f, rfl⟩ : ∃ f, fx = f + 1 := ⟨fx - 1, by omega⟩
    obtain ⟨f2, rfl⟩ : ∃ f, fm = f + 1 := ⟨fm - 1, by omega⟩
    rw [lsX4_writeOldest_14, if_neg (onl (by omega) (by omega) (by omega)), lsX5_drain_18, lvX5_drain_18, h6, addN_sub, ← R.2.1, hs, hc]
    have hK : i = K := by omega
    by_cases c1 : 0 < s
    · rw [if_pos (show (0 : Int32) < nI s from ofl (a := 0) (by omega) c1), if_pos (show (0 : Int32) < nI s from ofl (a := 0) (by omega) c1), if_neg (onl (by omega) (by omega) (by omega)), if_neg (onl (by omega) (by omega) (by omega)), hK]
      exact ⟨R, rfl⟩
    · rw [if_neg (show ¬ (0 : Int32) < nI s from onl (a := 0) (by omega) c1 (by omega)), if_neg (show ¬ (0 : Int32) < nI s from onl (a := 0) (by omega) c1 (by omega)), hK]
      exact ⟨R, rfl⟩
  | succ a ih =>
    intro fx fm x m i K s R hs h8 h1 h2 h3 h4 h5 h6
    obtain ⟨f, rfl⟩ : ∃ f, fx = f + 1 := ⟨fx - 1, by omega⟩
    obtain ⟨f2, rfl⟩ : ∃ f, fm = f + 1 := ⟨fm - 1, by omega⟩
    rw [lsX4_writeOldest_14, if_pos (ofl (by omega) (by omega)), lsX5_drain_18, lvX5_drain_18, h6, addN_sub, ← R.2.1, hs, hc]
    have c1 : 0 < s := by omega
    have c2 : i < cN := by omega
    rw [if_pos (show (0 : Int32) < nI s from ofl (a := 0) (by omega) c1), if_pos (show (0 : Int32) < nI s from ofl (a := 0) (by omega) c1), if_pos (ofl (by omega) c2), if_pos (ofl (by omega) c2), nI_1, ← hc]
    obtain ⟨g1, g2, g3⟩ := we_step R hs (by omega) h8
    exact ih f f2 _ _ (i + 1) K (s - 1) g1 g2 (by omega) (by omega) (by omega) h3 (by omega) (by omega) (by rw [g3, h6]; exact addN_1 _ _)
theorem min_len {q : SQ} {p : Int32} {s c : Nat} (hs : q.2.2.2 = nI s) (h8 : s ≤ 8) (hc : p = nI c) (hc8 : c ≤ 8) : (if vX3_length q < p then vX3_length q else p) = nI (min c s) := by
  unfold vX3_length
  rw [hs, hc]
  by_cases d : s < c
  · rw [if_pos (ofl (by omega) d)]
    congr 1
    omega
  · rw [if_neg (onl (by omega) d (by omega))]
    congr 1
    omega
theorem op_drain {t : Nat} {x : SX} {m : SM} (R : Rel t x m) (p : Int32) : vX4_drain x p = vX5_drain m p ∧ Rel (t + 1) (sX4_drain x p) (sX5_drain m p) := by
  unfold vX4_drain vX5_drain sX4_drain sX5_drain
  rw [within_same]
  by_cases c : vX5_isFrom p 0 8 = 0
  · rw [if_pos c, if_pos c, if_pos c, if_pos c]; exact ⟨rfl, R.step⟩
  · rw [if_neg c, if_neg c, if_neg c, if_neg c]
    obtain ⟨cN, h8, hc⟩ := smX (p := p) c
    obtain ⟨-, s, hs, hs8, -⟩ := R.2.2.2.2.1
    unfold vX4_writeOldest sX4_writeOldest
    rw [min_len hs hs8 hc h8]
    obtain ⟨g1, g2⟩ := drain_loop (q := p) (before := m.1.2.2) hc h8 (min cN s) 9 9 x m 0 (min cN s) s R hs hs8 (by omega) (by rw [Nat.add_zero]) (by omega) (by omega) (by omega) (by rw [show nI 0 = 0 from rfl, Int32.add_zero])
    have g3 := wo_val p (min cN s) 9 x 0 (min cN s) (by omega) (by omega) (by omega)
    rw [show nI 0 = 0 from rfl] at g1 g3
    rw [g2, g3]
    exact ⟨rfl, g1.step⟩
theorem all_loop {t : Nat} {q before : Int32} : ∀ (s fx fm : Nat) (x : SX) (m : SM) (i K : Nat), Rel t x m → x.2.2.1.2.2.2 = nI s → s ≤ 8 → K = i + s → K ≤ 8 → s < fx → s < fm → m.1.2.2 = before + nI i → ∃ n : SM, Rel t (lsX4_writeOldest_14 q fx x (nI K) (nI i)) n ∧ n.1.2.2 = before + nI K ∧ lvX5_flushAll_5 fm m before = lvX5_flushAll_23 65 n before 0 0 ∧ lsX5_flushAll_5 fm m before = lsX5_flushAll_23 65 n before 0 0 := by
  intro s
  induction s with
  | zero =>
    intro fx fm x m i K R hs h8 h1 h3 h4 h5 h6
    obtain ⟨f, rfl⟩ : ∃ f, fx = f + 1 := ⟨fx - 1, by omega⟩
    obtain ⟨f2, rfl⟩ : ∃ f, fm = f + 1 := ⟨fm - 1, by omega⟩
    rw [lsX4_writeOldest_14, if_neg (onl (by omega) (by omega) (by omega)), lsX5_flushAll_5, lvX5_flushAll_5, ← R.2.1, hs, if_neg (show ¬ (0 : Int32) < nI 0 by decide), if_neg (show ¬ (0 : Int32) < nI 0 by decide)]
    have hK : K = i := by omega
    rw [hK]
    exact ⟨m, R, h6, rfl, rfl⟩
  | succ s ih =>
    intro fx fm x m i K R hs h8 h1 h3 h4 h5 h6
    obtain ⟨f, rfl⟩ : ∃ f, fx = f + 1 := ⟨fx - 1, by omega⟩
    obtain ⟨f2, rfl⟩ : ∃ f, fm = f + 1 := ⟨fm - 1, by omega⟩
    rw [lsX4_writeOldest_14, if_pos (ofl (by omega) (by omega)), lsX5_flushAll_5, lvX5_flushAll_5, ← R.2.1, hs, if_pos (show (0 : Int32) < nI (s + 1) from ofl (a := 0) (by omega) (by omega)), if_pos (show (0 : Int32) < nI (s + 1) from ofl (a := 0) (by omega) (by omega)), nI_1]
    obtain ⟨g1, g2, g3⟩ := we_step R hs (by omega) h8
    exact ih f f2 _ _ (i + 1) K g1 g2 (by omega) (by omega) h3 (by omega) (by omega) (by rw [g3, h6]; exact addN_1 _ _)
theorem pages_loop {t : Nat} {before : Int32} : ∀ (n i : Nat) (x : SX) (m : SM) (l1 l2 : Int32), Rel t x m → i ≤ 64 → 64 < i + n → l1 = m.1.2.2 - before → lvX4_flushAll_14 n x l1 (nI i) = lvX5_flushAll_23 n m before l2 (nI i) ∧ Rel t (lsX4_flushAll_14 n x l1 (nI i)) (lsX5_flushAll_23 n m before l2 (nI i)) := by
  intro n
  induction n with
  | zero => intro i x m l1 l2 R h1 h2; omega
  | succ n ih =>
    intro i x m l1 l2 R h1 h2 h3
    rw [lvX4_flushAll_14, lvX5_flushAll_23, lsX4_flushAll_14, lsX5_flushAll_23]
    by_cases c : i < 64
    · rw [if_pos (lt64 c), if_pos (lt64 c), if_pos (lt64 c), if_pos (lt64 c), nI_1]
      rcases wr_same R (nI i) with ⟨g1, g2, g3⟩ | ⟨g1, g2, g3, g4⟩
      · rw [if_pos g1, if_pos g2, if_pos g1, if_pos g2, g3]
        exact ih (i + 1) x m l1 _ R (by omega) (by omega) h3
      · rw [if_neg g1, if_neg g2, if_neg g1, if_neg g2]
        exact ih (i + 1) _ _ (l1 + 1) _ g3 (by omega) (by omega) (by rw [g4, h3, add1_sub])
    · rw [if_neg (nlt64 h1 c), if_neg (nlt64 h1 c), if_neg (nlt64 h1 c), if_neg (nlt64 h1 c)]
      exact ⟨h3, R⟩
theorem op_flushAll {t : Nat} {x : SX} {m : SM} (R : Rel t x m) : vX4_flushAll x = vX5_flushAll m ∧ Rel (t + 1) (sX4_flushAll x) (sX5_flushAll m) := by
  unfold vX4_flushAll vX5_flushAll sX4_flushAll sX5_flushAll
  obtain ⟨-, s, hs, hs8, -⟩ := R.2.2.2.2.1
  have hl : vX3_length x.2.2.1 = nI s := hs
  unfold vX4_writeOldest sX4_writeOldest
  rw [min_len hs hs8 hl hs8, Nat.min_self]
  obtain ⟨k, g1, g2, g3, g4⟩ := all_loop (q := vX3_length x.2.2.1) (before := m.1.2.2) s 9 9 x m 0 s R hs hs8 (by omega) (by omega) (by omega) (by omega) (by rw [show nI 0 = 0 from rfl, Int32.add_zero])
  have g5 := wo_val (vX3_length x.2.2.1) s 9 x 0 s (by omega) (by omega) (by omega)
  rw [show nI 0 = 0 from rfl] at g1 g5
  rw [g3, g4, g5]
  obtain ⟨g6, g7⟩ := pages_loop (before := m.1.2.2) 65 0 _ k (nI s) 0 g1 (by omega) (by omega) (by rw [g2, addN_sub])
  rw [show nI 0 = 0 from rfl] at g6 g7
  exact ⟨g6, g7.step⟩
