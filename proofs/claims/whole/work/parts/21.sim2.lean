/-! ===== the histories: a reference recorded ===== -/
def HJ (t : Nat) (h g : SH) (j : Nat) : Prop := ∃ n k, h.2.1 j = nI n ∧ h.2.2 = nI k ∧ n ≤ k ∧ k ≤ 3 ∧ ∀ i, i < n → h.1 (3 * j + i) = g.1 (3 * j + i) ∧ ∃ w, w ≤ t ∧ h.1 (3 * j + i) = nI w
def HR (t : Nat) (h g : SH) : Prop := h.2.1 = g.2.1 ∧ h.2.2 = g.2.2 ∧ HW h ∧ ∀ j, j < 64 → HJ t h g j
theorem HJ.mono {t u : Nat} {h g : SH} {j : Nat} (hu : t ≤ u) (a : HJ t h g j) : HJ u h g j := by
  obtain ⟨n, k, h1, h2, h3, h4, h5⟩ := a
  exact ⟨n, k, h1, h2, h3, h4, fun i hi => ⟨(h5 i hi).1, by obtain ⟨w, hw, e⟩ := (h5 i hi).2; exact ⟨w, by omega, e⟩⟩⟩
theorem HJ.vj {t : Nat} {h g : SH} {j : Nat} (e : h.2.1 = g.2.1) (a : HJ t h g j) (hz : ¬ h.2.1 j = 0) : VJ h g j := by
  obtain ⟨n, k, h1, h2, h3, h4, h5⟩ := a
  refine ⟨by rw [e], n, k, h1, h2, ?_, h3, h4, fun i hi => (h5 i hi).1⟩
  rcases Nat.lt_or_ge 0 n with h | h
  · exact h
  · have : n = 0 := by omega
    subst this
    exact absurd h1 hz
theorem recX {h : SH} {p v : Int32} (hp : Pg p) : sX2_record h p v = (upd (upd (upd h.1 (3 * ix p + 2) (h.1 (3 * ix p + 1))) (3 * ix p + 1) (h.1 (3 * ix p))) (3 * ix p) v, (if h.2.1 (ix p) < h.2.2 then upd h.2.1 (ix p) (h.2.1 (ix p) + 1) else h.2.1), h.2.2) := by
  have hj := hp.2.1
  have e3 : p * 3 = nI (3 * ix p) := by
    have := mul3 (ix p)
    rw [← hp.1] at this
    exact this
  have s0 : nI (3 * ix p) + 3 - 1 = nI (3 * ix p + 2) := by
    rw [show (3 : Int32) = nI 3 from rfl, show (1 : Int32) = nI 1 from rfl, nI_add, sub_nI (by omega)]
    rfl
  have m1 : nI (3 * ix p + 2) - 1 = nI (3 * ix p + 1) := nI_pred _
  have m2 : nI (3 * ix p + 1) - 1 = nI (3 * ix p) := nI_pred _
  have a1 : nI (3 * ix p + 2) + (-1) = nI (3 * ix p + 1) := pk_m1 _
  have a2 : nI (3 * ix p + 1) + (-1) = nI (3 * ix p) := pk_m1 _
  have l1 : nI (3 * ix p) < nI (3 * ix p + 2) := (nI_ltI (by omega) (by omega)).mpr (by omega)
  have l2 : nI (3 * ix p) < nI (3 * ix p + 1) := (nI_ltI (by omega) (by omega)).mpr (by omega)
  have l3 : ¬ nI (3 * ix p) < nI (3 * ix p) := Int32.lt_irrefl
  have i0 : ix (nI (3 * ix p)) = 3 * ix p := ixN (by omega)
  have i1 : ix (nI (3 * ix p + 1)) = 3 * ix p + 1 := ixN (by omega)
  have i2 : ix (nI (3 * ix p + 2)) = 3 * ix p + 2 := ixN (by omega)
  have n1 : ¬ 3 * ix p = 3 * ix p + 2 := by omega
  unfold sX2_record
  rw [e3, s0, lsX2_record_11, e3, if_pos l1, lsX2_record_11, e3, a1, if_pos l2, lsX2_record_11, e3, a2, if_neg l3]
  simp only [m1, m2, i0, i1, i2]
  rw [upd_n h.1 _ n1]
  split <;> rfl
/-- a row of another page -/
theorem row_ne {a j i k : Nat} (h : ¬ a = j) (hi : i < 3) (hk : k < 3) : ¬ 3 * a + i = 3 * j + k := by omega
theorem recM_loop {p : Int32} (hp : Pg p) : ∀ (n k : Nat) (w : SM), 1 ≤ k → k ≤ 3 → k ≤ n → ∃ T, lsX5_record_58 p n w (nI k) = (w.1, w.2.1, w.2.2.1, (T, (if w.2.2.2.1.2.1 (ix p) < w.2.2.2.1.2.2 then upd w.2.2.2.1.2.1 (ix p) (w.2.2.2.1.2.1 (ix p) + 1) else w.2.2.2.1.2.1), w.2.2.2.1.2.2), w.2.2.2.2) ∧ T (3 * ix p) = w.2.2.2.2.2.1 ∧ (∀ i, 1 ≤ i → i < k → T (3 * ix p + i) = w.2.2.2.1.1 (3 * ix p + (i - 1))) ∧ (∀ q, (∀ i, i < k → ¬ q = 3 * ix p + i) → T q = w.2.2.2.1.1 q) := by
  have hj := hp.2.1
  have e3 : 3 * p = nI (3 * ix p) := by
    have := mul3r (ix p)
    rw [← hp.1] at this
    exact this
  intro n
  induction n with
  | zero => intro k w h1 h2 h3; omega
  | succ n ih =>
    intro k w h1 h2 h3
    rw [lsX5_record_58]
    by_cases c : k = 1
    · subst c
      rw [if_neg (show ¬ (1 : Int32) < nI 1 by decide), e3, ixN (by omega)]
      refine ⟨upd w.2.2.2.1.1 (3 * ix p) w.2.2.2.2.2.1, ?_, upd_s _ _ _, fun i h4 h5 => by omega, fun q hq => upd_n _ _ (hq 0 (by omega))⟩
      split <;> rfl
    · rw [if_pos (show (1 : Int32) < nI k from (nI_ltI (a := 1) (by omega) (by omega)).mpr (by omega))]
      have ea : nI k + (-1) = nI (k - 1) := by
        have := pk_m1 (k - 1)
        rw [show k - 1 + 1 = k by omega] at this
        exact this
      have x1 : ix (3 * p + nI k - 1) = 3 * ix p + (k - 1) := by
        rw [e3, nI_add, show (1 : Int32) = nI 1 from rfl, sub_nI (by omega), ixN (by omega)]
        omega
      have x2 : ix (3 * p + nI k - 2) = 3 * ix p + (k - 2) := by
        rw [e3, nI_add, show (2 : Int32) = nI 2 from rfl, sub_nI (by omega), ixN (by omega)]
        omega
      rw [ea, x1, x2]
      obtain ⟨T, hT, t0, t1, t2⟩ := ih (k - 1) (w.1, w.2.1, w.2.2.1, (upd w.2.2.2.1.1 (3 * ix p + (k - 1)) (w.2.2.2.1.1 (3 * ix p + (k - 2))), w.2.2.2.1.2.1, w.2.2.2.1.2.2), w.2.2.2.2) (by omega) (by omega) (by omega)
      refine ⟨T, hT, t0, fun i h4 h5 => ?_, fun q hq => ?_⟩
      · by_cases ci : i = k - 1
        · subst ci
          rw [t2 (3 * ix p + (k - 1)) (fun i' hi' => by omega)]
          show upd w.2.2.2.1.1 (3 * ix p + (k - 1)) (w.2.2.2.1.1 (3 * ix p + (k - 2))) (3 * ix p + (k - 1)) = _
          rw [upd_s]
          rfl
        · rw [t1 i h4 (by omega)]
          exact upd_n _ _ (by omega)
      · rw [t2 q (fun i hi => hq i (by omega))]
        exact upd_n _ _ (hq (k - 1) (by omega))
def stale (m : SM) (p : Int32) : Prop := m.2.1.1 (ix p) = 0 ∧ 0 < m.2.2.2.1.2.1 (ix p) ∧ m.2.2.2.2.1 < m.2.2.2.2.2.1 + 1 - vX5_time m p 1
theorem time_C (m : SM) (p i : Int32) (d : SD) (f : SFm) (q : SQ) (c : SC) : vX5_time (d, f, q, m.2.2.2.1, c) p i = vX5_time m p i := rfl
theorem recM0 (m : SM) (p : Int32) : ∃ l : Nat → Int32, (stale m p → l = upd m.2.2.2.1.2.1 (ix p) 0) ∧ (¬ stale m p → l = m.2.2.2.1.2.1) ∧ sX5_record m p = lsX5_record_58 p 3 (m.1, m.2.1, m.2.2.1, (m.2.2.2.1.1, l, m.2.2.2.1.2.2), (m.2.2.2.2.1, m.2.2.2.2.2.1 + 1, m.2.2.2.2.2.2.1, m.2.2.2.2.2.2.2.1, m.2.2.2.2.2.2.2.2.1, m.2.2.2.2.2.2.2.2.2)) m.2.2.2.1.2.2 := by
  unfold sX5_record
  rw [time_C]
  split
  · rename_i c1
    split
    · rename_i c2
      split
      · rename_i c3
        exact ⟨upd m.2.2.2.1.2.1 (ix p) 0, fun _ => rfl, fun z => absurd ⟨c1, c2, c3⟩ z, rfl⟩
      · rename_i c3
        exact ⟨m.2.2.2.1.2.1, fun z => absurd z.2.2 c3, fun _ => rfl, rfl⟩
    · rename_i c2
      exact ⟨m.2.2.2.1.2.1, fun z => absurd z.2.1 c2, fun _ => rfl, rfl⟩
  · rename_i c1
    exact ⟨m.2.2.2.1.2.1, fun z => absurd z.1 c1, fun _ => rfl, rfl⟩
/-- both recorded: from histories that agree, with lengths l (the page's own perhaps deleted) -/
theorem rec_same {t : Nat} {h g : SH} {p v : Int32} {l T : Nat → Int32} (hp : Pg p) (R : HR t h g) (hl : l = h.2.1 ∨ l = upd h.2.1 (ix p) 0) (hv : ∃ w, w ≤ t + 1 ∧ v = nI w) (t0 : T (3 * ix p) = v) (t1 : ∀ k, h.2.2 = nI k → k ≤ 3 → ∀ i, 1 ≤ i → i < k → T (3 * ix p + i) = g.1 (3 * ix p + (i - 1))) (t2 : ∀ j, ¬ j = ix p → ∀ i, i < 3 → T (3 * j + i) = g.1 (3 * j + i)) :
    HR (t + 1) (sX2_record (h.1, l, h.2.2) p v) (T, (if l (ix p) < g.2.2 then upd l (ix p) (l (ix p) + 1) else l), g.2.2) ∧ (∀ j, ¬ j = ix p → (sX2_record (h.1, l, h.2.2) p v).2.1 j = h.2.1 j) ∧ ¬ (sX2_record (h.1, l, h.2.2) p v).2.1 (ix p) = 0 := by
  obtain ⟨e1, e2, hw, hJ⟩ := R
  have hj := hp.2.1
  obtain ⟨n0, k, a1, a2, a3, a4, a5⟩ := hJ (ix p) hj
  obtain ⟨k1, b1, b2, b3⟩ := hw.1
  have ekk : k = k1 := (nI_eq (by omega) (by omega)).mp (a2.symm.trans b1)
  subst ekk
  -- the page's own length, as a number
  obtain ⟨n, hn, hnk, hrow⟩ : ∃ n, l (ix p) = nI n ∧ n ≤ k ∧ ∀ i, i < n → h.1 (3 * ix p + i) = g.1 (3 * ix p + i) ∧ ∃ w, w ≤ t ∧ h.1 (3 * ix p + i) = nI w := by
    rcases hl with rfl | rfl
    · exact ⟨n0, a1, a3, a5⟩
    · exact ⟨0, upd_s _ _ _, by omega, fun i hi => by omega⟩
  have hlo : ∀ j, ¬ j = ix p → l j = h.2.1 j := by
    intro j hne
    rcases hl with rfl | rfl
    · rfl
    · exact upd_n _ _ hne
  rw [recX hp]
  -- the new length
  have hnew : ∃ n2, (if l (ix p) < h.2.2 then upd l (ix p) (l (ix p) + 1) else l) (ix p) = nI n2 ∧ 1 ≤ n2 ∧ n2 ≤ k ∧ n2 ≤ n + 1 := by
    rw [hn, a2]
    by_cases c : n < k
    · rw [if_pos ((nI_ltI (by omega) (by omega)).mpr c), upd_s]
      exact ⟨n + 1, nI_1 n, by omega, by omega, by omega⟩
    · rw [if_neg (fun z => c ((nI_ltI (by omega) (by omega)).mp z)), hn]
      exact ⟨n, rfl, by omega, by omega, by omega⟩
  have hother : ∀ j, ¬ j = ix p → (if l (ix p) < h.2.2 then upd l (ix p) (l (ix p) + 1) else l) j = h.2.1 j := by
    intro j hne
    split
    · rw [upd_n _ _ hne]; exact hlo j hne
    · exact hlo j hne
  obtain ⟨n2, g1, g2, g3, g4⟩ := hnew
  refine ⟨⟨by rw [e2], e2, ⟨hw.1, fun j hj2 => ?_⟩, fun j hj2 => ?_⟩, hother, ?_⟩
  · show ∃ n, (if l (ix p) < h.2.2 then upd l (ix p) (l (ix p) + 1) else l) j = nI n ∧ n ≤ 3
    by_cases c : j = ix p
    · rw [c]; exact ⟨n2, g1, by omega⟩
    · rw [hother j c]; exact hw.2 j hj2
  · by_cases c : j = ix p
    · rw [c]
      refine ⟨n2, k, g1, a2, g3, a4, fun i hi => ?_⟩
      show upd (upd (upd h.1 (3 * ix p + 2) (h.1 (3 * ix p + 1))) (3 * ix p + 1) (h.1 (3 * ix p))) (3 * ix p) v (3 * ix p + i) = T (3 * ix p + i) ∧ ∃ w, w ≤ t + 1 ∧ upd (upd (upd h.1 (3 * ix p + 2) (h.1 (3 * ix p + 1))) (3 * ix p + 1) (h.1 (3 * ix p))) (3 * ix p) v (3 * ix p + i) = nI w
      rcases (show i = 0 ∨ i = 1 ∨ i = 2 by omega) with rfl | rfl | rfl
      · simp only [Nat.add_zero]
        rw [upd_s, t0]
        obtain ⟨w, h1, h2⟩ := hv
        exact ⟨rfl, w, h1, h2⟩
      · rw [upd_n _ _ (by omega), upd_s, t1 k a2 a4 1 (by omega) (by omega)]
        obtain ⟨q1, w, h1, h2⟩ := hrow 0 (by omega)
        exact ⟨q1, w, by omega, h2⟩
      · rw [upd_n _ _ (by omega), upd_n _ _ (by omega), upd_s, t1 k a2 a4 2 (by omega) (by omega)]
        obtain ⟨q1, w, h1, h2⟩ := hrow 1 (by omega)
        exact ⟨q1, w, by omega, h2⟩
    · obtain ⟨n3, k3, c1, c2, c3, c4, c5⟩ := hJ j hj2
      refine ⟨n3, k3, (hother j c).trans c1, c2, c3, c4, fun i hi => ?_⟩
      show upd (upd (upd h.1 (3 * ix p + 2) (h.1 (3 * ix p + 1))) (3 * ix p + 1) (h.1 (3 * ix p))) (3 * ix p) v (3 * j + i) = T (3 * j + i) ∧ ∃ w, w ≤ t + 1 ∧ upd (upd (upd h.1 (3 * ix p + 2) (h.1 (3 * ix p + 1))) (3 * ix p + 1) (h.1 (3 * ix p))) (3 * ix p) v (3 * j + i) = nI w
      rw [upd_n _ _ (by omega), upd_n _ _ (by omega), upd_n _ _ (by omega), t2 j c i (by omega)]
      obtain ⟨q1, w, h1, h2⟩ := c5 i hi
      exact ⟨q1, w, by omega, h2⟩
  · show ¬ (if l (ix p) < h.2.2 then upd l (ix p) (l (ix p) + 1) else l) (ix p) = 0
    rw [g1]
    exact nI_ne0 (by omega) (by omega)
