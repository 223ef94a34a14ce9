/-! ===== what the methods of the class keep ===== -/
def B01 (x : Int32) : Prop := x = 0 ∨ x = 1
theorem B01.nar {x : Int32} (h : B01 x) : narrow .boolean (.int x) = .int x := by rcases h with rfl | rfl <;> rfl
def FW (f : SF) : Prop := (∀ j, B01 (f.1 j)) ∧ ∀ j, B01 (f.2.1 j)
theorem FW.r {f : SF} (h : FW f) (j : Nat) : narrow .boolean (.int (f.1 j)) = .int (f.1 j) := (h.1 j).nar
theorem FW.c {f : SF} (h : FW f) (j : Nat) : narrow .boolean (.int (f.2.1 j)) = .int (f.2.1 j) := (h.2 j).nar
theorem B01.upd {f : Nat → Int32} (h : ∀ j, B01 (f j)) (k : Nat) {x : Int32} (hx : B01 x) (j : Nat) : B01 (Jvm.Pilot.CLruKPageCacheLaw_law_r2794_7e931b.upd f k x j) := by
  unfold Jvm.Pilot.CLruKPageCacheLaw_law_r2794_7e931b.upd
  split
  · exact hx
  · exact h j
theorem b0 : B01 0 := Or.inl rfl
theorem b1 : B01 1 := Or.inr rfl
theorem fw_vacate {f : SF} {p : Int32} (h : FW f) : FW (sX1_vacate f p) := ⟨fun j => B01.upd h.1 _ b0 j, fun j => B01.upd h.2 _ b0 j⟩
theorem fw_release {f : SF} {p : Int32} (h : FW f) : FW (sX1_release f p) := ⟨fun j => B01.upd h.1 _ b0 j, fun j => B01.upd h.2 _ b0 j⟩
theorem fw_place {f : SF} {p v : Int32} (h : FW f) : FW (sX1_place f p v) := ⟨fun j => B01.upd h.1 _ b1 j, h.2⟩
theorem fw_change {f : SF} {p v : Int32} (h : FW f) : FW (sX1_change f p v) := ⟨h.1, fun j => B01.upd h.2 _ b1 j⟩
theorem fw_markClean {f : SF} {p : Int32} (h : FW f) : FW (sX1_markClean f p) := ⟨h.1, fun j => B01.upd h.2 _ b0 j⟩
theorem fw_writeFrame {u : SX} {p : Int32} (h : FW u.2.1) : FW (sX4_writeFrame u p).2.1 := fw_markClean h
theorem fw_empty {f : SF} {p : Int32} (h : FW f) : FW (sX1_empty f p) := by
  have loop : ∀ (n : Nat) (w : SF) (l : Int32), FW w → FW (lsX1_empty_2 p n w l) := by
    intro n
    induction n with
    | zero => intro w l h; exact h
    | succ n ih =>
      intro w l h
      rw [lsX1_empty_2]
      split
      · exact ih _ _ (fw_vacate h)
      · exact ⟨h.1, h.2⟩
  exact loop 65 f 0 h
theorem F_writeEntry (u : SX) (p : Int32) : (sX4_writeEntry u p).2.1 = u.2.1 := by
  unfold sX4_writeEntry
  split <;> rfl
theorem H_writeEntry (u : SX) (p : Int32) : (sX4_writeEntry u p).2.2.2.1 = u.2.2.2.1 := by
  unfold sX4_writeEntry
  split <;> rfl
theorem C_writeEntry (u : SX) (p : Int32) : (sX4_writeEntry u p).2.2.2.2 = u.2.2.2.2 := by
  unfold sX4_writeEntry
  split <;> rfl
theorem F_writeOldest (u : SX) (p : Int32) : (sX4_writeOldest u p).2.1 = u.2.1 := by
  have loop : ∀ (n : Nat) (w : SX) (l2 l3 : Int32), (lsX4_writeOldest_14 p n w l2 l3).2.1 = w.2.1 := by
    intro n
    induction n with
    | zero => intro w l2 l3; rfl
    | succ n ih =>
      intro w l2 l3
      rw [lsX4_writeOldest_14]
      split
      · rw [ih, F_writeEntry]
      · rfl
  exact loop _ _ _ _
theorem fw_writeOldest {u : SX} {p : Int32} (h : FW u.2.1) : FW (sX4_writeOldest u p).2.1 := by rw [F_writeOldest]; exact h
theorem victim_pg (u : SX) : PgN (vX4_chooseVictim u) := by
  have loop : ∀ (n : Nat) (l1 l2 : Int32), PI n l2 → PgN l1 → PgN (lvX4_chooseVictim_5 u n l1 l2) := by
    intro n
    induction n with
    | zero => intro l1 l2 h; exact absurd h PI.zero
    | succ n ih =>
      intro l1 l2 h h1
      rw [lvX4_chooseVictim_5]
      split
      · rename_i c
        have hn := PI.next h c
        have hp : PgN l2 := Or.inr (PI.pg h c)
        split
        · exact ih _ _ hn h1
        · split
          · split
            · exact ih _ _ hn hp
            · split
              · exact ih _ _ hn h1
              · exact ih _ _ hn hp
          · exact ih _ _ hn h1
      · exact h1
  exact loop 65 _ _ PI.start (Or.inl rfl)
theorem victimM_pg (u : SM) : PgN (vX5_victim u) := by
  have loop : ∀ (n : Nat) (l1 l2 : Int32), PI n l2 → PgN l1 → PgN (lvX5_victim_5 u n l1 l2) := by
    intro n
    induction n with
    | zero => intro l1 l2 h; exact absurd h PI.zero
    | succ n ih =>
      intro l1 l2 h h1
      rw [lvX5_victim_5]
      split
      · rename_i c
        have hn := PI.next h c
        have hp : PgN l2 := Or.inr (PI.pg h c)
        split
        · exact ih _ _ hn h1
        · split
          · exact ih _ _ hn h1
          · split
            · exact ih _ _ hn hp
            · split
              · exact ih _ _ hn h1
              · exact ih _ _ hn hp
      · exact h1
  exact loop 65 _ _ PI.start (Or.inl rfl)
/-! the queue -/
theorem rem_loop (p : Int32) : ∀ (n : Nat) (w : SQ) (l : Int32), SI n w l → (∀ i, i < 8 → Pg (w.1 i)) → (∀ i, i < 8 → Pg ((lsX3_removeAt_21 p n w l).1 i)) ∧ (lsX3_removeAt_21 p n w l).2.2 = w.2.2 := by
  intro n
  induction n with
  | zero => intro w l h; exact absurd h SI.zero
  | succ n ih =>
    intro w l h hp
    rw [lsX3_removeAt_21]
    split
    · rename_i c
      have h1 := SI.inx1 h c
      obtain ⟨a, b⟩ := ih (upd w.1 (ix l) (w.1 (ix (l + 1))), upd w.2.1 (ix l) (w.2.1 (ix (l + 1))), w.2.2.1, w.2.2.2) (l + 1) (SI.next h c) (by
        intro i hi
        show Pg (upd w.1 (ix l) (w.1 (ix (l + 1))) i)
        unfold upd
        split
        · exact hp _ h1.2.1
        · exact hp i hi)
      exact ⟨a, b⟩
    · exact ⟨hp, rfl⟩
theorem qw_rem {q : SQ} {p p2 : Int32} (hq : QW q) (hp : PE p q) : QW (lsX3_removeAt_21 p2 9 (q.1, q.2.1, q.2.2.1, q.2.2.2 - 1) p) := by
  obtain ⟨a, b⟩ := rem_loop p2 9 (q.1, q.2.1, q.2.2.1, q.2.2.2 - 1) p (SI.start2 hp) hq.2
  obtain ⟨⟨n, c, h1, h2, h3, h4, h5⟩, -⟩ := hq
  obtain ⟨i, m, e, e2, h6, h7⟩ := hp
  have hnm : n = m := (nI_eq (by omega) (by omega)).mp (h1.symm.trans e2)
  subst hnm
  refine ⟨⟨n - 1, c, ?_, ?_, by omega, h4, h5⟩, a⟩
  · rw [show (lsX3_removeAt_21 p2 9 (q.1, q.2.1, q.2.2.1, q.2.2.2 - 1) p).2.2.2 = q.2.2.2 - 1 by rw [b], h1]
    exact sub_nI (b := 1) (by omega)
  · rw [show (lsX3_removeAt_21 p2 9 (q.1, q.2.1, q.2.2.1, q.2.2.2 - 1) p).2.2.1 = q.2.2.1 by rw [b], h2]
theorem qw_removeAt {q : SQ} {p : Int32} (hq : QW q) : QW (sX3_removeAt q p) := by
  unfold sX3_removeAt
  split
  · exact hq
  · rename_i c
    exact qw_rem hq (has_pe hq c)
theorem qw_writeEntry {u : SX} {p : Int32} (hq : QW u.2.2.1) : QW (sX4_writeEntry u p).2.2.1 := by
  unfold sX4_writeEntry
  split
  · exact hq
  · exact qw_removeAt hq
theorem qw_append {q : SQ} {p v : Int32} (hq : QW q) (hp : Pg p) : QW (sX3_append q p v) := by
  unfold sX3_append
  split
  · rename_i c
    obtain ⟨⟨n, k, h1, h2, h3, h4, h5⟩, h6⟩ := hq
    unfold vX3_isFull at c
    split at c
    · rename_i c2
      rw [h1, h2] at c2
      have h7 := (nI_ltI (by omega) (by omega)).mp c2
      refine ⟨⟨n + 1, k, ?_, h2, by omega, h4, h5⟩, ?_⟩
      · show q.2.2.2 + 1 = nI (n + 1)
        rw [h1]
        exact nI_1 n
      · intro i hi
        show Pg (upd q.1 (ix q.2.2.2) p i)
        unfold upd
        split
        · exact hp
        · exact h6 i hi
    · exact absurd c (by decide)
  · exact hq
theorem qw_enqueue {u : SX} {p : Int32} (hq : QW u.2.2.1) (hp : Pg p) : QW (sX4_enqueue u p).2.2.1 := by
  unfold sX4_enqueue
  split
  · dsimp only
    exact qw_append hq hp
  · dsimp only
    exact qw_append (qw_writeEntry hq) hp
theorem H_enqueue (u : SX) (p : Int32) : (sX4_enqueue u p).2.2.2.1 = u.2.2.2.1 := by
  unfold sX4_enqueue
  split
  · rfl
  · exact H_writeEntry u 0
theorem F_enqueue (u : SX) (p : Int32) : (sX4_enqueue u p).2.1 = u.2.1 := by
  unfold sX4_enqueue
  split
  · rfl
  · exact F_writeEntry u 0
theorem qw_makeRoom {u : SX} (hq : QW u.2.2.1) : QW (sX4_makeRoom u).2.2.1 := by
  unfold sX4_makeRoom
  split
  · exact hq
  · split
    · exact hq
    · rename_i c
      split
      · exact hq
      · exact qw_enqueue hq ((victim_pg u).resolve_left c)
theorem H_makeRoom (u : SX) : (sX4_makeRoom u).2.2.2.1 = u.2.2.2.1 := by
  unfold sX4_makeRoom
  split
  · rfl
  · split
    · rfl
    · split
      · rfl
      · exact H_enqueue u _
theorem hw_makeRoom {u : SX} (hh : HW u.2.2.2.1) : HW (sX4_makeRoom u).2.2.2.1 := by rw [H_makeRoom]; exact hh
theorem H_load (u : SX) (p : Int32) : (sX4_load u p).2.2.2.1 = u.2.2.2.1 := by
  unfold sX4_load
  split <;> rfl
theorem hw_load {u : SX} {p : Int32} (hh : HW u.2.2.2.1) : HW (sX4_load u p).2.2.2.1 := by rw [H_load]; exact hh
def OI (n : Nat) (l2 l3 : Int32) : Prop := ∃ i m, l3 = nI i ∧ l2 = nI m ∧ i ≤ m ∧ m ≤ 8 ∧ m < i + n
theorem OI.start {q : SQ} {p : Int32} (hc : Sm p) (hq : QW q) : OI 9 (if vX3_length q < p then vX3_length q else p) 0 := by
  obtain ⟨c, h1, rfl⟩ := hc
  obtain ⟨n, h2, e⟩ := qwSm hq
  split
  · exact ⟨0, n, rfl, e, by omega, h2, by omega⟩
  · exact ⟨0, c, rfl, rfl, by omega, h1, by omega⟩
theorem OI.zero {l2 l3 : Int32} : ¬ OI 0 l2 l3 := fun ⟨i, m, _, _, h1, h2, h3⟩ => by omega
theorem OI.next {n : Nat} {l2 l3 : Int32} (h : OI (n + 1) l2 l3) (c : l3 < l2) : OI n l2 (l3 + 1) := by
  obtain ⟨i, m, rfl, rfl, h1, h2, h3⟩ := h
  have := (nI_ltI (by omega) (by omega)).mp c
  exact ⟨i + 1, m, nI_1 i, rfl, by omega, h2, by omega⟩
/-! ===== the reference ===== -/
theorem rem_same (p p2 : Int32) : ∀ (n : Nat) (w : SM) (l : Int32), lsX5_removeEntry_12 p n w l = (w.1, w.2.1, lsX3_removeAt_21 p2 n w.2.2.1 l, w.2.2.2.1, w.2.2.2.2) := by
  intro n
  induction n with
  | zero => intro w l; rfl
  | succ n ih =>
    intro w l
    rw [lsX5_removeEntry_12, lsX3_removeAt_21]
    split
    · rw [ih]
    · rfl
theorem M_remove (u : SM) (p : Int32) : sX5_removeEntry u p = (u.1, u.2.1, lsX3_removeAt_21 0 9 (u.2.2.1.1, u.2.2.1.2.1, u.2.2.1.2.2.1, u.2.2.1.2.2.2 - 1) p, u.2.2.2.1, u.2.2.2.2) := rem_same p 0 9 _ p
theorem qw_removeM {u : SM} {p : Int32} (hq : QW u.2.2.1) (hp : PE p u.2.2.1) : QW (sX5_removeEntry u p).2.2.1 := by
  rw [M_remove]
  exact qw_rem hq hp
theorem qw_writeOldestM {u : SM} (hq : QW u.2.2.1) (hp : PE 0 u.2.2.1) : QW (sX5_writeOldest u).2.2.1 := qw_removeM (u := sX5_writeToDisk u (u.2.2.1.1 0) (u.2.2.1.2.1 0)) hq hp
theorem peFull {q : SQ} (hq : QW q) (c : q.2.2.2 = q.2.2.1) : PE 0 q := by
  obtain ⟨⟨n, k, h1, h2, h3, h4, h5⟩, -⟩ := hq
  rw [h1, h2] at c
  have := (nI_eq (by omega) (by omega)).mp c
  exact ⟨0, n, rfl, h1, by omega, by omega⟩
theorem evIx {q : SQ} (hq : QW q) (c : ¬ q.2.2.2 = q.2.2.1) : Ix q.2.2.2 (ix q.2.2.2) 8 := by
  obtain ⟨⟨n, k, h1, h2, h3, h4, h5⟩, -⟩ := hq
  refine Ix.ofN h1 ?_ (by decide)
  rcases Nat.lt_or_ge n 8 with h | h
  · exact h
  · exact absurd (by rw [h1, h2]; congr 1; omega) c
theorem wo_size {v : SM} (hq : QW v.2.2.1) (hp : PE 0 v.2.2.1) : (sX5_writeOldest v).2.2.1.2.2 = (v.2.2.1.2.2.1, v.2.2.1.2.2.2 - 1) := by
  show (sX5_removeEntry (sX5_writeToDisk v (v.2.2.1.1 0) (v.2.2.1.2.1 0)) 0).2.2.1.2.2 = _
  rw [M_remove]
  exact (rem_loop 0 9 (v.2.2.1.1, v.2.2.1.2.1, v.2.2.1.2.2.1, v.2.2.1.2.2.2 - 1) 0 (SI.start2 hp) hq.2).2
theorem woIx {v : SM} (hq : QW v.2.2.1) (c : v.2.2.1.2.2.2 = v.2.2.1.2.2.1) : Ix (sX5_writeOldest v).2.2.1.2.2.2 (ix (sX5_writeOldest v).2.2.1.2.2.2) 8 := by
  have hp := peFull hq c
  rw [show (sX5_writeOldest v).2.2.1.2.2.2 = v.2.2.1.2.2.2 - 1 from congrArg Prod.snd (wo_size hq hp)]
  obtain ⟨i, m, e, e2, h1, h2⟩ := hp
  refine Ix.ofN (i := m - 1) ?_ (by omega) (by decide)
  rw [e2]
  exact sub_nI (b := 1) (by omega)
def WI (n : Nat) (q : SQ) : Prop := QW q ∧ ∃ m, q.2.2.2 = nI m ∧ m ≤ 8 ∧ m < n
theorem WI.start {q : SQ} (hq : QW q) : WI 9 q := by
  obtain ⟨n, h1, h2⟩ := qwSm hq
  exact ⟨hq, n, h2, h1, by omega⟩
theorem WI.zero {q : SQ} : ¬ WI 0 q := fun ⟨_, m, _, _, h⟩ => by omega
theorem WI.qw {n : Nat} {q : SQ} (h : WI n q) : QW q := h.1
theorem WI.pe {n : Nat} {q : SQ} (h : WI n q) (c : 0 < q.2.2.2) : PE 0 q := by
  obtain ⟨_, m, e, h8, h⟩ := h
  rw [e] at c
  have c2 : nI 0 < nI m := c
  have := (nI_ltI (by omega) (by omega)).mp c2
  exact ⟨0, m, rfl, e, this, h8⟩
theorem WI.next {n : Nat} {w : SM} (h : WI (n + 1) w.2.2.1) (c : 0 < w.2.2.1.2.2.2) : WI n (sX5_writeOldest w).2.2.1 := by
  have hp := WI.pe h c
  refine ⟨qw_writeOldestM h.1 hp, ?_⟩
  rw [show (sX5_writeOldest w).2.2.1.2.2.2 = w.2.2.1.2.2.2 - 1 from congrArg Prod.snd (wo_size h.1 hp)]
  obtain ⟨_, m, e, h8, h9⟩ := h
  obtain ⟨i, m2, e1, e2, h1, h2⟩ := hp
  have : m = m2 := (nI_eq (by omega) (by omega)).mp (e.symm.trans e2)
  subst this
  refine ⟨m - 1, ?_, by omega, by omega⟩
  rw [e]
  exact sub_nI (b := 1) (by omega)
theorem pos_same (u : SM) (p : Int32) : vX5_positionInQueue u p = vX3_positionOf u.2.2.1 p := by
  have loop : ∀ (n : Nat) (l : Int32), lvX5_positionInQueue_2 u p n l = lvX3_positionOf_2 u.2.2.1 p n l := by
    intro n
    induction n with
    | zero => intro l; rfl
    | succ n ih =>
      intro l
      rw [lvX5_positionInQueue_2, lvX3_positionOf_2, ih]
  exact loop 9 0
theorem pos_loop {q : SQ} (p : Int32) : ∀ (n : Nat) (l : Int32), QI n q l → lvX3_positionOf_2 q p n l = -9 ∨ PE (lvX3_positionOf_2 q p n l) q := by
  intro n
  induction n with
  | zero => intro l h; exact absurd h QI.zero
  | succ n ih =>
    intro l h
    rw [lvX3_positionOf_2]
    split
    · rename_i c
      split
      · right
        obtain ⟨i, m, e, e2, h1, h2, h3⟩ := h
        rw [e, e2] at c
        have := (nI_ltI (by omega) (by omega)).mp c
        exact ⟨i, m, e, e2, this, h2⟩
      · exact ih _ (QI.next h c)
    · exact Or.inl rfl
theorem pos_pe {q : SQ} {p : Int32} (hq : QW q) (c : ¬ vX3_positionOf q p = -9) : PE (vX3_positionOf q p) q := (pos_loop p 9 0 (QI.start hq)).resolve_left c
theorem posPE {u : SM} {p : Int32} (hq : QW u.2.2.1) (c : ¬ vX5_positionInQueue u p = -9) : PE (vX5_positionInQueue u p) u.2.2.1 := by
  rw [pos_same] at c ⊢
  exact pos_pe hq c
theorem posIx {u : SM} {p : Int32} (hq : QW u.2.2.1) (c : ¬ vX5_positionInQueue u p = -9) : Ix (vX5_positionInQueue u p) (ix (vX5_positionInQueue u p)) 8 := (posPE hq c).inx
theorem inqIx {u : SM} {p : Int32} (hq : QW u.2.2.1) (c : ¬ vX5_isInQueue u p = 0) : Ix p (ix p) 8 := by
  obtain ⟨h1, h2⟩ := from_of (p := p) (lo := 0) (hi := u.2.2.1.2.2.2 - 1) c
  obtain ⟨j, hj, rfl⟩ := nI_of h1
  obtain ⟨⟨n, k, e1, e2, h3, h4, h5⟩, -⟩ := hq
  rw [e1] at h2
  rcases Nat.lt_or_ge 0 n with hn | hn
  · rw [show nI n - 1 = nI (n - 1) from sub_nI (b := 1) (by omega)] at h2
    refine ixIn ?_ (by decide)
    rcases Nat.lt_or_ge j 8 with h | h
    · exact h
    · exact absurd ((nI_ltI (by omega) hj).mpr (by omega)) h2
  · have : n = 0 := by omega
    subst this
    refine absurd ?_ h2
    rw [show nI 0 - 1 = -1 from by decide]
    exact Int32.lt_iff_toInt_lt.mpr (by rw [nI_toInt hj, show (-1 : Int32).toInt = -1 from by decide]; omega)
theorem qw_wr {u : SM} {p : Int32} (hq : QW u.2.2.1) : QW (sX5_writeResident u p).2.2.1 := by
  unfold sX5_writeResident
  split
  · exact hq
  · split <;> exact hq
theorem qw_evict {u : SM} {p : Int32} (hp : Pg p) (hq : QW u.2.2.1) : QW (sX5_evict u p).2.2.1 := by
  unfold sX5_evict
  split
  · exact hq
  · split
    · rename_i c
      have h1 := qw_writeOldestM (u := (u.1, (upd u.2.1.1 (ix p) 0, u.2.1.2.1, u.2.1.2.2.1, u.2.1.2.2.2.1, u.2.1.2.2.2.2), u.2.2.1, u.2.2.2.1, (u.2.2.2.2.1, u.2.2.2.2.2.1, u.2.2.2.2.2.2.1, u.2.2.2.2.2.2.2.1, u.2.2.2.2.2.2.2.2.1 + 1, u.2.2.2.2.2.2.2.2.2 + 1))) hq (peFull hq c)
      have h2 := wo_size (v := (u.1, (upd u.2.1.1 (ix p) 0, u.2.1.2.1, u.2.1.2.2.1, u.2.1.2.2.2.1, u.2.1.2.2.2.2), u.2.2.1, u.2.2.2.1, (u.2.2.2.2.1, u.2.2.2.2.2.1, u.2.2.2.2.2.2.1, u.2.2.2.2.2.2.2.1, u.2.2.2.2.2.2.2.2.1 + 1, u.2.2.2.2.2.2.2.2.2 + 1))) hq (peFull hq c)
      generalize sX5_writeOldest _ = w at h1 h2 ⊢
      obtain ⟨⟨n, k, e1, e2, h3, h4, h5⟩, h6⟩ := h1
      have hlt : n < k := by
        have e3 : w.2.2.1.2.2.2 = u.2.2.1.2.2.2 - 1 := by rw [h2]
        have e4 : w.2.2.1.2.2.1 = u.2.2.1.2.2.1 := by rw [h2]
        rw [e1] at e3
        rw [e2] at e4
        rw [c, ← e4, show nI k - 1 = nI (k - 1) from sub_nI (b := 1) (by omega)] at e3
        have := (nI_eq (by omega) (by omega)).mp e3
        omega
      refine ⟨⟨n + 1, k, ?_, e2, by omega, h4, h5⟩, ?_⟩
      · show w.2.2.1.2.2.2 + 1 = nI (n + 1)
        rw [e1]
        exact nI_1 n
      · intro i hi
        show Pg (upd w.2.2.1.1 (ix w.2.2.1.2.2.2) p i)
        unfold upd
        split
        · exact hp
        · exact h6 i hi
    · rename_i c
      obtain ⟨⟨n, k, e1, e2, h3, h4, h5⟩, h6⟩ := hq
      refine ⟨⟨n + 1, k, ?_, e2, ?_, h4, h5⟩, ?_⟩
      · show u.2.2.1.2.2.2 + 1 = nI (n + 1)
        rw [e1]
        exact nI_1 n
      · rcases Nat.lt_or_ge n k with h | h
        · exact h
        · exact absurd (by rw [e1, e2]; congr 1; omega) c
      · intro i hi
        show Pg (upd u.2.2.1.1 (ix u.2.2.1.2.2.2) p i)
        unfold upd
        split
        · exact hp
        · exact h6 i hi
/-! the record of a reference: what it leaves -/
theorem rec_loop (p : Int32) : ∀ (n : Nat) (w : SM) (l : Int32), ((lsX5_record_58 p n w l).1 = w.1 ∧ (lsX5_record_58 p n w l).2.1 = w.2.1 ∧ (lsX5_record_58 p n w l).2.2.1 = w.2.2.1 ∧ (lsX5_record_58 p n w l).2.2.2.2 = w.2.2.2.2) ∧ (HW w.2.2.2.1 → HW (lsX5_record_58 p n w l).2.2.2.1) := by
  intro n
  induction n with
  | zero => intro w l; exact ⟨⟨rfl, rfl, rfl, rfl⟩, id⟩
  | succ n ih =>
    intro w l
    rw [lsX5_record_58]
    split
    · obtain ⟨⟨a, b, c, d⟩, e⟩ := ih (w.1, w.2.1, w.2.2.1, (upd w.2.2.2.1.1 (ix (3 * p + l - 1)) (w.2.2.2.1.1 (ix (3 * p + l - 2))), w.2.2.2.1.2.1, w.2.2.2.1.2.2), w.2.2.2.2) (l + (-1))
      exact ⟨⟨a, b, c, d⟩, fun h => e ⟨h.1, h.2⟩⟩
    · split
      · rename_i c
        refine ⟨⟨rfl, rfl, rfl, rfl⟩, fun h => ⟨h.1, fun j hj => ?_⟩⟩
        show ∃ n, upd w.2.2.2.1.2.1 (ix p) (w.2.2.2.1.2.1 (ix p) + 1) j = nI n ∧ n ≤ 3
        unfold upd
        split
        · rename_i hjp
          subst hjp
          obtain ⟨k, e, h1, h3⟩ := h.1
          obtain ⟨m, e2, h4⟩ := h.2 _ hj
          rw [e, e2] at c
          have := (nI_ltI (by omega) (by omega)).mp c
          exact ⟨m + 1, by rw [e2]; exact nI_1 m, by omega⟩
        · exact h.2 j hj
      · exact ⟨⟨rfl, rfl, rfl, rfl⟩, fun h => ⟨h.1, h.2⟩⟩
theorem hw_zero {h : SH} {k : Nat} {a : Nat → Int32} (hh : HW h) : HW (a, upd h.2.1 k 0, h.2.2) := by
  refine ⟨hh.1, fun j hj => ?_⟩
  show ∃ n, upd h.2.1 k 0 j = nI n ∧ n ≤ 3
  unfold upd
  split
  · exact ⟨0, rfl, by omega⟩
  · exact hh.2 j hj
theorem M_record (u : SM) (p : Int32) : (sX5_record u p).1 = u.1 ∧ (sX5_record u p).2.1 = u.2.1 ∧ (sX5_record u p).2.2.1 = u.2.2.1 ∧ (HW u.2.2.2.1 → HW (sX5_record u p).2.2.2.1) := by
  unfold sX5_record
  split
  · split
    · split
      · obtain ⟨⟨a, b, c, d⟩, e⟩ := rec_loop p 3 (u.1, u.2.1, u.2.2.1, (u.2.2.2.1.1, upd u.2.2.2.1.2.1 (ix p) 0, u.2.2.2.1.2.2), (u.2.2.2.2.1, u.2.2.2.2.2.1 + 1, u.2.2.2.2.2.2.1, u.2.2.2.2.2.2.2.1, u.2.2.2.2.2.2.2.2.1, u.2.2.2.2.2.2.2.2.2)) u.2.2.2.1.2.2
        exact ⟨a, b, c, fun h => e (hw_zero h)⟩
      · obtain ⟨⟨a, b, c, d⟩, e⟩ := rec_loop p 3 (u.1, u.2.1, u.2.2.1, u.2.2.2.1, (u.2.2.2.2.1, u.2.2.2.2.2.1 + 1, u.2.2.2.2.2.2.1, u.2.2.2.2.2.2.2.1, u.2.2.2.2.2.2.2.2.1, u.2.2.2.2.2.2.2.2.2)) u.2.2.2.1.2.2
        exact ⟨a, b, c, e⟩
    · obtain ⟨⟨a, b, c, d⟩, e⟩ := rec_loop p 3 (u.1, u.2.1, u.2.2.1, u.2.2.2.1, (u.2.2.2.2.1, u.2.2.2.2.2.1 + 1, u.2.2.2.2.2.2.1, u.2.2.2.2.2.2.2.1, u.2.2.2.2.2.2.2.2.1, u.2.2.2.2.2.2.2.2.2)) u.2.2.2.1.2.2
      exact ⟨a, b, c, e⟩
  · obtain ⟨⟨a, b, c, d⟩, e⟩ := rec_loop p 3 (u.1, u.2.1, u.2.2.1, u.2.2.2.1, (u.2.2.2.2.1, u.2.2.2.2.2.1 + 1, u.2.2.2.2.2.2.1, u.2.2.2.2.2.2.2.1, u.2.2.2.2.2.2.2.2.1, u.2.2.2.2.2.2.2.2.2)) u.2.2.2.1.2.2
    exact ⟨a, b, c, e⟩
theorem qw_record {u : SM} {p : Int32} (hq : QW u.2.2.1) : QW (sX5_record u p).2.2.1 := by rw [(M_record u p).2.2.1]; exact hq
theorem hw_record {u : SM} {p : Int32} (h0 : Pg p) (hh : HW u.2.2.2.1) : HW (sX5_record u p).2.2.2.1 := (M_record u p).2.2.2 hh
theorem count_same {u v : SM} (h : u.2.1.1 = v.2.1.1) : vX5_residentCount u = vX5_residentCount v := by
  have loop : ∀ (n : Nat) (l1 l2 : Int32), lvX5_residentCount_4 u n l1 l2 = lvX5_residentCount_4 v n l1 l2 := by
    intro n
    induction n with
    | zero => intro l1 l2; rfl
    | succ n ih =>
      intro l1 l2
      rw [lvX5_residentCount_4, lvX5_residentCount_4, ih, ih, h]
  exact loop 65 0 0
theorem victim_C {d : SD} {f : SFm} {q : SQ} {h : SH} {c c2 : SC} : vX5_victim (d, f, q, h, c) = vX5_victim (d, f, q, h, c2) := by
  have loop : ∀ (n : Nat) (l1 l2 : Int32), lvX5_victim_5 (d, f, q, h, c) n l1 l2 = lvX5_victim_5 (d, f, q, h, c2) n l1 l2 := by
    intro n
    induction n with
    | zero => intro l1 l2; rfl
    | succ n ih =>
      intro l1 l2
      rw [lvX5_victim_5, lvX5_victim_5, ih, ih]
      rfl
  exact loop 65 _ _
theorem nv_C {v : SM} {c : SC} (h : NV v) : NV (v.1, v.2.1, v.2.2.1, v.2.2.2.1, c) := by
  intro e
  rw [victim_C (c2 := v.2.2.2.2)]
  exact h ((count_same rfl).trans e)
theorem none_same {u v : SM} (h : u.2.1 = v.2.1) : ∀ (n : Nat) (l1 m1 l2 : Int32), PI n l2 → (l1 = -9 ↔ m1 = -9) → (lvX5_victim_5 u n l1 l2 = -9 ↔ lvX5_victim_5 v n m1 l2 = -9) := by
  intro n
  induction n with
  | zero => intro l1 m1 l2 h; exact absurd h PI.zero
  | succ n ih =>
    intro l1 m1 l2 hi hl
    rw [lvX5_victim_5, lvX5_victim_5, h]
    by_cases c : l2 < 64
    · rw [if_pos c, if_pos c]
      have hn := PI.next hi c
      have hp := (PI.pg hi c).ne
      have same := ih l1 m1 _ hn hl
      have both := ih l2 l2 _ hn Iff.rfl
      by_cases c1 : v.2.1.1 (ix l2) = 0
      · rw [if_pos c1, if_pos c1]; exact same
      · rw [if_neg c1, if_neg c1]
        by_cases c2 : 0 < v.2.1.2.2.2.1 (ix l2)
        · rw [if_pos c2, if_pos c2]; exact same
        · rw [if_neg c2, if_neg c2]
          by_cases c3 : l1 = -9
          · rw [if_pos c3, if_pos (hl.mp c3)]; exact both
          · have c4 : ¬ m1 = -9 := fun z => c3 (hl.mpr z)
            rw [if_neg c3, if_neg c4]
            have t1 : ∀ {a b : Int32}, ¬ a = -9 → ¬ b = -9 → (lvX5_victim_5 u n a (l2 + 1) = -9 ↔ lvX5_victim_5 v n b (l2 + 1) = -9) := fun ha hb => ih _ _ _ hn ⟨fun z => absurd z ha, fun z => absurd z hb⟩
            split
            · split
              · exact t1 c3 c4
              · exact t1 c3 hp
            · split
              · exact t1 hp c4
              · exact t1 hp hp
    · rw [if_neg c, if_neg c]; exact hl
theorem notStuck {u : SM} {p : Int32} (h0 : Pg p) (hh : HW u.2.2.2.1) (c : vX5_isStuck u p = 0) : (sX5_record u p).2.1.1 (ix p) = 0 → NV (sX5_record u p) := by
  intro hz e
  have hF := (M_record u p).2.1
  refine (victimM_pg _).resolve_left (fun z => ?_)
  have z2 : vX5_victim u = -9 := (none_same hF.symm 65 (-9) (-9) 0 PI.start Iff.rfl).mpr z
  have e2 : vX5_residentCount u = u.2.1.2.2.2.2 := by
    rw [count_same (congrArg Prod.fst hF), hF] at e
    exact e
  rw [hF] at hz
  unfold vX5_isStuck at c
  rw [if_pos hz] at c
  have hc : vX5_canLoad u = 0 := by
    unfold vX5_canLoad
    rw [if_neg (by rw [e2]; exact Int32.lt_irrefl), if_pos z2]
  rw [if_pos hc] at c
  exact absurd c (by decide)
