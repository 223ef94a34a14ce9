/-! ===== the queue ===== -/
def zz_D : SD := (fun _ => 0, 0, 0)
def zz_F : SFm := (fun _ => 0, fun _ => 0, fun _ => 0, fun _ => 0, 0)
def zz_H : SH := (fun _ => 0, fun _ => 0, 0)
def zz_C : SC := (0, 0, 0, 0, 0, 0)
theorem pg_ix {p q : Int32} (hp : Pg p) (hq : Pg q) (h : ix p = ix q) : p = q := by rw [hp.1, hq.1, h]
theorem rem_get (p2 : Int32) : ∀ (n i m : Nat) (w : SQ), w.2.2.2 = nI m → i ≤ m → m ≤ 7 → m < i + n → (∀ j, (lsX3_removeAt_21 p2 n w (nI i)).1 j = if i ≤ j ∧ j < m then w.1 (j + 1) else w.1 j) ∧ (lsX3_removeAt_21 p2 n w (nI i)).2.2 = w.2.2 := by
  intro n
  induction n with
  | zero => intro i m w h1 h2 h3 h4; omega
  | succ n ih =>
    intro i m w h1 h2 h3 h4
    rw [lsX3_removeAt_21]
    by_cases c : i < m
    · rw [if_pos (by rw [h1]; exact (nI_ltI (by omega) (by omega)).mpr c), nI_1, ixN (by omega), ixN (by omega)]
      obtain ⟨a, b⟩ := ih (i + 1) m (upd w.1 i (w.1 (i + 1)), upd w.2.1 i (w.2.1 (i + 1)), w.2.2.1, w.2.2.2) h1 (by omega) h3 (by omega)
      refine ⟨fun j => ?_, b⟩
      rw [a j]
      show (if i + 1 ≤ j ∧ j < m then upd w.1 i (w.1 (i + 1)) (j + 1) else upd w.1 i (w.1 (i + 1)) j) = _
      by_cases c1 : i + 1 ≤ j ∧ j < m
      · rw [if_pos c1, if_pos ⟨by omega, c1.2⟩, upd_n _ _ (by omega)]
      · rw [if_neg c1]
        by_cases c2 : j = i
        · subst c2
          rw [upd_s, if_pos ⟨Nat.le_refl _, c⟩]
        · rw [upd_n _ _ c2, if_neg (fun z => c1 ⟨by omega, z.2⟩)]
    · rw [if_neg (fun z => c (by rw [h1] at z; exact (nI_ltI (by omega) (by omega)).mp z))]
      exact ⟨fun j => by rw [if_neg (fun z => c (by omega))], rfl⟩
def QU (q : SQ) (r : Nat → Int32) : Prop := QW q ∧ ∃ n, q.2.2.2 = nI n ∧ n ≤ 8 ∧ (∀ i, i < n → r (ix (q.1 i)) = 0) ∧ ∀ i k, i < k → k < n → ¬ q.1 i = q.1 k
theorem QU.res {q : SQ} {r r2 : Nat → Int32} (h : QU q r) (h2 : ∀ j, r j = 0 → r2 j = 0) : QU q r2 := by
  obtain ⟨hw, n, a, b, c, d⟩ := h
  exact ⟨hw, n, a, b, fun i hi => h2 _ (c i hi), d⟩
/-- an entry taken out: what is left, and that its page is gone -/
theorem QU.rem {q : SQ} {r : Nat → Int32} {p p2 : Int32} {i n : Nat} (h : QU q r) (hn : q.2.2.2 = nI n) (hn8 : n ≤ 8) (hi : i < n) (hp : p = nI i) : QU (lsX3_removeAt_21 p2 9 (q.1, q.2.1, q.2.2.1, q.2.2.2 - 1) p) r ∧ (∀ r2 : Nat → Int32, (∀ j, ¬ j = ix (q.1 i) → r j = 0 → r2 j = 0) → QU (lsX3_removeAt_21 p2 9 (q.1, q.2.1, q.2.2.1, q.2.2.2 - 1) p) r2) ∧ (lsX3_removeAt_21 p2 9 (q.1, q.2.1, q.2.2.1, q.2.2.2 - 1) p).2.2.2 = nI (n - 1) ∧ (lsX3_removeAt_21 p2 9 (q.1, q.2.1, q.2.2.1, q.2.2.2 - 1) p).2.2.1 = q.2.2.1 := by
  have hpe : PE p q := ⟨i, n, hp, hn, hi, hn8⟩
  have hw2 := qw_rem (p2 := p2) h.1 hpe
  have hs : q.2.2.2 - 1 = nI (n - 1) := by rw [hn]; exact sub_nI (b := 1) (by omega)
  obtain ⟨hw, n', a, b, c, d⟩ := h
  have en : n' = n := (nI_eq (by omega) (by omega)).mp (a.symm.trans hn)
  subst en
  subst hp
  obtain ⟨g, e⟩ := rem_get p2 9 i (n' - 1) (q.1, q.2.1, q.2.2.1, q.2.2.2 - 1) hs (by omega) (by omega) (by omega)
  have g2 : ∀ j, j < n' - 1 → ∃ k, k < n' ∧ ¬ k = i ∧ (lsX3_removeAt_21 p2 9 (q.1, q.2.1, q.2.2.1, q.2.2.2 - 1) (nI i)).1 j = q.1 k ∧ j ≤ k ∧ k ≤ j + 1 ∧ (i ≤ j → k = j + 1) ∧ (j < i → k = j) := by
    intro j hj
    rw [g j]
    by_cases c1 : i ≤ j
    · rw [if_pos ⟨c1, hj⟩]
      exact ⟨j + 1, by omega, by omega, rfl, by omega, by omega, fun _ => rfl, fun z => by omega⟩
    · rw [if_neg (fun z => c1 z.1)]
      exact ⟨j, by omega, by omega, rfl, by omega, by omega, fun z => by omega, fun _ => rfl⟩
  have hsz : (lsX3_removeAt_21 p2 9 (q.1, q.2.1, q.2.2.1, q.2.2.2 - 1) (nI i)).2.2.2 = nI (n' - 1) := by rw [e]; exact hs
  have hd : ∀ j k, j < k → k < n' - 1 → ¬ (lsX3_removeAt_21 p2 9 (q.1, q.2.1, q.2.2.1, q.2.2.2 - 1) (nI i)).1 j = (lsX3_removeAt_21 p2 9 (q.1, q.2.1, q.2.2.1, q.2.2.2 - 1) (nI i)).1 k := by
    intro j k hjk hk
    obtain ⟨j2, a1, a2, a3, a4, a5, a6, a7⟩ := g2 j (by omega)
    obtain ⟨k2, b1, b2, b3, b4, b5, b6, b7⟩ := g2 k hk
    rw [a3, b3]
    refine d j2 k2 ?_ b1
    by_cases c1 : i ≤ j
    · rw [a6 c1, b6 (by omega)]; omega
    · rw [a7 (by omega)]; omega
  refine ⟨⟨hw2, n' - 1, hsz, by omega, fun j hj => ?_, hd⟩, fun r2 hr2 => ⟨hw2, n' - 1, hsz, by omega, fun j hj => ?_, hd⟩, hsz, by rw [e]⟩
  · obtain ⟨k, a1, a2, a3, -⟩ := g2 j hj
    rw [a3]
    exact c k a1
  · obtain ⟨k, a1, a2, a3, -⟩ := g2 j hj
    rw [a3]
    refine hr2 _ (fun z => ?_) (c k a1)
    have hz := pg_ix (hw.2 k (by omega)) (hw.2 i (by omega)) z
    rcases Nat.lt_or_ge k i with h | h
    · exact d k i h hi hz
    · exact d i k (by omega) a1 hz.symm
theorem QU.app {q : SQ} {r : Nat → Int32} {p v : Int32} (h : QU q r) (hf : q.2.2.2 < q.2.2.1) (hp : Pg p) (hr : ¬ r (ix p) = 0) : QU (upd q.1 (ix q.2.2.2) p, upd q.2.1 (ix q.2.2.2) v, q.2.2.1, q.2.2.2 + 1) (upd r (ix p) 0) := by
  obtain ⟨hw, n, a, b, d, e⟩ := h
  obtain ⟨⟨n', c, h1, h2, h3, h4, h5⟩, hpg⟩ := hw
  have en : n = n' := (nI_eq (by omega) (by omega)).mp (a.symm.trans h1)
  subst en
  rw [a, h2] at hf
  have hlt := (nI_ltI (by omega) (by omega)).mp hf
  have hix : ix q.2.2.2 = n := by rw [a]; exact ixN (by omega)
  rw [hix]
  have hsz : q.2.2.2 + 1 = nI (n + 1) := by rw [a]; exact nI_1 n
  refine ⟨⟨⟨n + 1, c, hsz, h2, by omega, h4, h5⟩, fun i hi => ?_⟩, n + 1, hsz, by omega, fun i hi => ?_, fun i k hik hk => ?_⟩
  · show Pg (upd q.1 n p i)
    by_cases c1 : i = n
    · rw [c1, upd_s]; exact hp
    · rw [upd_n _ _ c1]; exact hpg i hi
  · show upd r (ix p) 0 (ix (upd q.1 n p i)) = 0
    by_cases c1 : i = n
    · rw [c1, upd_s, upd_s]
    · rw [upd_n _ _ c1]
      by_cases c2 : ix (q.1 i) = ix p
      · rw [c2, upd_s]
      · rw [upd_n _ _ c2]; exact d i (by omega)
  · show ¬ upd q.1 n p i = upd q.1 n p k
    rw [upd_n _ _ (show ¬ i = n by omega)]
    by_cases c1 : k = n
    · rw [c1, upd_s]
      intro z
      have := d i (by omega)
      rw [z] at this
      exact hr this
    · rw [upd_n _ _ c1]
      exact e i k hik (by omega)
theorem pos_spec {q : SQ} {p : Int32} {m : Nat} (hm : q.2.2.2 = nI m) (h8 : m ≤ 8) : (vX3_positionOf q p = -9 ∧ ∀ i, i < m → ¬ q.1 i = p) ∨ ∃ i, i < m ∧ vX3_positionOf q p = nI i ∧ q.1 i = p := by
  have loop : ∀ (n i : Nat), i ≤ m → m < i + n → (∀ k, k < i → ¬ q.1 k = p) → (lvX3_positionOf_2 q p n (nI i) = -9 ∧ ∀ i, i < m → ¬ q.1 i = p) ∨ ∃ i2, i2 < m ∧ lvX3_positionOf_2 q p n (nI i) = nI i2 ∧ q.1 i2 = p := by
    intro n
    induction n with
    | zero => intro i h1 h2; omega
    | succ n ih =>
      intro i h1 h2 h3
      rw [lvX3_positionOf_2]
      by_cases c : i < m
      · rw [if_pos (by rw [hm]; exact (nI_ltI (by omega) (by omega)).mpr c), ixN (by omega)]
        by_cases c2 : q.1 i = p
        · rw [if_pos c2]
          exact Or.inr ⟨i, c, rfl, c2⟩
        · rw [if_neg c2, nI_1]
          exact ih (i + 1) (by omega) (by omega) (fun k hk => by
            by_cases c3 : k = i
            · rw [c3]; exact c2
            · exact h3 k (by omega))
      · rw [if_neg (fun z => c (by rw [hm] at z; exact (nI_ltI (by omega) (by omega)).mp z))]
        exact Or.inl ⟨rfl, fun k hk => h3 k (by omega)⟩
  exact loop 9 0 (by omega) (by omega) (fun k hk => by omega)
theorem nI_ne9 {i : Nat} (h : i < 2147483648) : ¬ nI i = -9 := by
  intro e
  have h1 : (nI i).toInt = (-9 : Int32).toInt := by rw [e]
  rw [nI_toInt h] at h1
  have h2 : (-9 : Int32).toInt = -9 := by decide
  omega
theorem has_nI {q : SQ} {i m : Nat} (hm : q.2.2.2 = nI m) (h8 : m ≤ 8) (hi : i < m) : ¬ vX3_has q (nI i) = 0 := by
  unfold vX3_has
  rw [if_neg (nI_pos (by omega)), if_pos (by rw [hm]; exact (nI_ltI (by omega) (by omega)).mpr hi)]
  decide
theorem pageAt_nI {q : SQ} {i m : Nat} (hm : q.2.2.2 = nI m) (h8 : m ≤ 8) (hi : i < m) : vX3_pageAt q (nI i) = q.1 i := by
  unfold vX3_pageAt
  rw [if_neg (has_nI hm h8 hi), ixN (by omega)]
theorem valueAt_nI {q : SQ} {i m : Nat} (hm : q.2.2.2 = nI m) (h8 : m ≤ 8) (hi : i < m) : vX3_valueAt q (nI i) = q.2.1 i := by
  unfold vX3_valueAt
  rw [if_neg (has_nI hm h8 hi), ixN (by omega)]
theorem removeAt_nI {q : SQ} {i m : Nat} (hm : q.2.2.2 = nI m) (h8 : m ≤ 8) (hi : i < m) : sX3_removeAt q (nI i) = lsX3_removeAt_21 0 9 (q.1, q.2.1, q.2.2.1, q.2.2.2 - 1) (nI i) := by
  unfold sX3_removeAt
  rw [if_neg (has_nI hm h8 hi)]
  have h1 := rem_same 0 (nI i) 9 (zz_D, zz_F, (q.1, q.2.1, q.2.2.1, q.2.2.2 - 1), zz_H, zz_C) (nI i)
  have h2 := rem_same 0 0 9 (zz_D, zz_F, (q.1, q.2.1, q.2.2.1, q.2.2.2 - 1), zz_H, zz_C) (nI i)
  exact congrArg (fun z : SM => z.2.2.1) (h1.symm.trans h2)
/-- an entry written to disk, in both -/
theorem entry_same {x : SX} {m : SM} {i n : Nat} (hD : x.1 = m.1) (hQ : x.2.2.1 = m.2.2.1) (hq : QW x.2.2.1) (hn : x.2.2.1.2.2.2 = nI n) (h8 : n ≤ 8) (hi : i < n) :
    sX4_writeEntry x (nI i) = ((sX5_removeEntry (sX5_writeToDisk m (x.2.2.1.1 i) (x.2.2.1.2.1 i)) (nI i)).1, x.2.1, (sX5_removeEntry (sX5_writeToDisk m (x.2.2.1.1 i) (x.2.2.1.2.1 i)) (nI i)).2.2.1, x.2.2.2.1, x.2.2.2.2) ∧ (sX5_removeEntry (sX5_writeToDisk m (x.2.2.1.1 i) (x.2.2.1.2.1 i)) (nI i)).2.1 = m.2.1 ∧ (sX5_removeEntry (sX5_writeToDisk m (x.2.2.1.1 i) (x.2.2.1.2.1 i)) (nI i)).2.2.2 = m.2.2.2 ∧ (sX5_removeEntry (sX5_writeToDisk m (x.2.2.1.1 i) (x.2.2.1.2.1 i)) (nI i)).2.2.1 = lsX3_removeAt_21 0 9 (x.2.2.1.1, x.2.2.1.2.1, x.2.2.1.2.2.1, x.2.2.1.2.2.2 - 1) (nI i) ∧ (sX5_removeEntry (sX5_writeToDisk m (x.2.2.1.1 i) (x.2.2.1.2.1 i)) (nI i)).1 = sX0_store x.1 (x.2.2.1.1 i) (x.2.2.1.2.1 i) := by
  rw [M_remove]
  unfold sX4_writeEntry
  rw [pageAt_nI hn h8 hi, valueAt_nI hn h8 hi, removeAt_nI hn h8 hi, if_neg (hq.2 i (by omega)).ne, hD, hQ]
  exact ⟨rfl, rfl, rfl, rfl, rfl⟩
