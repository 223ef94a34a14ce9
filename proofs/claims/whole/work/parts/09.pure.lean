/-! ===== numbers, indices, and what keeps them in range ===== -/
theorem ixN {i : Nat} (h : i < 2147483648) : ix (nI i) = i := nI_clamp h
theorem ixIn {i n : Nat} (h : i < n) (hn : n < 2147483648) : Ix (nI i) (ix (nI i)) n := by
  have e := ixN (Nat.lt_trans h hn)
  exact ⟨by rw [e], by rw [e]; exact h, hn⟩
theorem Ix.ofN {p : Int32} {i n : Nat} (e : p = nI i) (h : i < n) (hn : n < 2147483648) : Ix p (ix p) n := by rw [e]; exact ixIn h hn
def Pg (p : Int32) : Prop := Ix p (ix p) 64
def PgN (p : Int32) : Prop := p = -9 ∨ Pg p
theorem pgI {i : Nat} (h : i < 64) : Pg (nI i) := ixIn h (by decide)
theorem Pg.ex {p : Int32} (h : Pg p) : ∃ j, j < 64 ∧ p = nI j := ⟨ix p, h.2.1, h.1⟩
theorem Pg.ne {p : Int32} (h : Pg p) : ¬ p = -9 := by
  obtain ⟨j, hj, rfl⟩ := h.ex
  intro e
  have h1 : (nI j).toInt = (-9 : Int32).toInt := by rw [e]
  rw [nI_toInt (by omega)] at h1
  have h2 : (-9 : Int32).toInt = -9 := by decide
  omega
def QW (q : SQ) : Prop := (∃ n c, q.2.2.2 = nI n ∧ q.2.2.1 = nI c ∧ n ≤ c ∧ 1 ≤ c ∧ c ≤ 8) ∧ ∀ i, i < 8 → Pg (q.1 i)
def HW (h : SH) : Prop := (∃ k, h.2.2 = nI k ∧ 1 ≤ k ∧ k ≤ 3) ∧ ∀ j, j < 64 → ∃ n, h.2.1 j = nI n ∧ n ≤ 3
def Sm (p : Int32) : Prop := ∃ c, c ≤ 8 ∧ p = nI c
def PE (p : Int32) (q : SQ) : Prop := ∃ i m, p = nI i ∧ q.2.2.2 = nI m ∧ i < m ∧ m ≤ 8
def TI (p i : Int32) : Prop := Ix (3 * p + i - 1) (ix (3 * p + i - 1)) 192
def NV (v : SM) : Prop := vX5_residentCount v = v.2.1.2.2.2.2 → Pg (vX5_victim v)
/-! loops over the pages -/
def PI (n : Nat) (l : Int32) : Prop := ∃ i, l = nI i ∧ i ≤ 64 ∧ 64 < i + n
theorem PI.start : PI 65 0 := ⟨0, rfl, by omega, by omega⟩
theorem PI.zero {l : Int32} : ¬ PI 0 l := fun ⟨i, _, h1, h2⟩ => by omega
theorem PI.lt {l : Int32} {i : Nat} (e : l = nI i) (h : i ≤ 64) (c : l < 64) : i < 64 := by
  rw [e] at c
  have c2 : nI i < nI 64 := c
  exact (nI_ltI (by omega) (by omega)).mp c2
theorem PI.pg {n : Nat} {l : Int32} (h : PI n l) (c : l < 64) : Pg l := by
  obtain ⟨i, e, h1, h2⟩ := h
  exact Ix.ofN e (PI.lt e h1 c) (by decide)
theorem PI.next {n : Nat} {l : Int32} (h : PI (n + 1) l) (c : l < 64) : PI n (l + 1) := by
  obtain ⟨i, e, h1, h2⟩ := h
  have h3 := PI.lt e h1 c
  exact ⟨i + 1, by rw [e]; exact nI_1 i, by omega, by omega⟩
/-! loops over the queue -/
def QI (n : Nat) (q : SQ) (l : Int32) : Prop := ∃ i m, l = nI i ∧ q.2.2.2 = nI m ∧ i ≤ m ∧ m ≤ 8 ∧ m < i + n
theorem QI.start {q : SQ} (h : QW q) : QI 9 q 0 := by
  obtain ⟨⟨n, c, h1, h2, h3, h4, h5⟩, -⟩ := h
  exact ⟨0, n, rfl, h1, by omega, by omega, by omega⟩
theorem QI.zero {q : SQ} {l : Int32} : ¬ QI 0 q l := fun ⟨i, m, _, _, h1, h2, h3⟩ => by omega
theorem QI.inx {n : Nat} {q : SQ} {l : Int32} (h : QI n q l) (c : l < q.2.2.2) : Ix l (ix l) 8 := by
  obtain ⟨i, m, e, e2, h1, h2, h3⟩ := h
  rw [e, e2] at c
  have := (nI_ltI (by omega) (by omega)).mp c
  exact Ix.ofN e (by omega) (by decide)
theorem QI.next {n : Nat} {q : SQ} {l : Int32} (h : QI (n + 1) q l) (c : l < q.2.2.2) : QI n q (l + 1) := by
  obtain ⟨i, m, e, e2, h1, h2, h3⟩ := h
  rw [e, e2] at c
  have := (nI_ltI (by omega) (by omega)).mp c
  exact ⟨i + 1, m, by rw [e]; exact nI_1 i, e2, by omega, h2, by omega⟩
def SI (n : Nat) (q : SQ) (l : Int32) : Prop := ∃ i m, l = nI i ∧ q.2.2.2 = nI m ∧ i ≤ m ∧ m ≤ 7 ∧ m < i + n
theorem SI.zero {q : SQ} {l : Int32} : ¬ SI 0 q l := fun ⟨i, m, _, _, h1, h2, h3⟩ => by omega
theorem SI.lt {n : Nat} {q : SQ} {l : Int32} (h : SI n q l) (c : l < q.2.2.2) : ∃ i m, l = nI i ∧ q.2.2.2 = nI m ∧ i < m ∧ m ≤ 7 ∧ m < i + n := by
  obtain ⟨i, m, e, e2, h1, h2, h3⟩ := h
  rw [e, e2] at c
  have := (nI_ltI (by omega) (by omega)).mp c
  exact ⟨i, m, e, e2, this, h2, h3⟩
theorem SI.inx {n : Nat} {q : SQ} {l : Int32} (h : SI n q l) (c : l < q.2.2.2) : Ix l (ix l) 8 := by
  obtain ⟨i, m, e, e2, h1, h2, h3⟩ := h.lt c
  exact Ix.ofN e (by omega) (by decide)
theorem SI.inx1 {n : Nat} {q : SQ} {l : Int32} (h : SI n q l) (c : l < q.2.2.2) : Ix (l + 1) (ix (l + 1)) 8 := by
  obtain ⟨i, m, e, e2, h1, h2, h3⟩ := h.lt c
  exact Ix.ofN (i := i + 1) (by rw [e]; exact nI_1 i) (by omega) (by decide)
theorem SI.next {n : Nat} {q : SQ} {l : Int32} {a b : Nat → Int32} {k : Int32} (h : SI (n + 1) q l) (c : l < q.2.2.2) : SI n (a, b, k, q.2.2.2) (l + 1) := by
  obtain ⟨i, m, e, e2, h1, h2, h3⟩ := h.lt c
  exact ⟨i + 1, m, by rw [e]; exact nI_1 i, e2, by omega, h2, by omega⟩
theorem SI.start2 {q : SQ} {p : Int32} (h : PE p q) : SI 9 (q.1, q.2.1, q.2.2.1, q.2.2.2 - 1) p := by
  obtain ⟨i, m, e, e2, h1, h2⟩ := h
  refine ⟨i, m - 1, e, ?_, by omega, by omega, by omega⟩
  show q.2.2.2 - 1 = nI (m - 1)
  rw [e2]
  exact pk_sub (b := 1) (by omega)
theorem has_pe {q : SQ} {p : Int32} (hq : QW q) (c : ¬ vX3_has q p = 0) : PE p q := by
  obtain ⟨⟨n, k, h1, h2, h3, h4, h5⟩, -⟩ := hq
  unfold vX3_has at c
  split at c
  · exact absurd rfl c
  · rename_i c1
    split at c
    · rename_i c2
      obtain ⟨j, hj, rfl⟩ := nI_of c1
      rw [h1] at c2
      exact ⟨j, n, rfl, h1, (nI_ltI hj (by omega)).mp c2, by omega⟩
    · exact absurd rfl c
theorem SI.start {q : SQ} {p : Int32} (hq : QW q) (c : ¬ vX3_has q p = 0) : SI 9 (q.1, q.2.1, q.2.2.1, q.2.2.2 - 1) p := SI.start2 (has_pe hq c)
theorem PE.inx {p : Int32} {q : SQ} (h : PE p q) : Ix p (ix p) 8 := by
  obtain ⟨i, m, e, e2, h1, h2⟩ := h
  exact Ix.ofN e (by omega) (by decide)
theorem hasIx {q : SQ} {p : Int32} (hq : QW q) (c : ¬ vX3_has q p = 0) : Ix p (ix p) 8 := (has_pe hq c).inx
theorem appIx {q : SQ} (hq : QW q) (c : vX3_isFull q = 0) : Ix q.2.2.2 (ix q.2.2.2) 8 := by
  obtain ⟨⟨n, k, h1, h2, h3, h4, h5⟩, -⟩ := hq
  unfold vX3_isFull at c
  split at c
  · rename_i c2
    rw [h1, h2] at c2
    have := (nI_ltI (by omega) (by omega)).mp c2
    exact Ix.ofN h1 (by omega) (by decide)
  · exact absurd c (by decide)
theorem qwPg {q : SQ} (hq : QW q) : Pg (q.1 0) := hq.2 0 (by omega)
theorem pageAt_pg {q : SQ} {p : Int32} (hq : QW q) : PgN (vX3_pageAt q p) := by
  unfold vX3_pageAt
  split
  · exact Or.inl rfl
  · rename_i c
    exact Or.inr (hq.2 _ (hasIx hq c).2.1)
theorem qwSm {q : SQ} (hq : QW q) : Sm (vX3_length q) := by
  obtain ⟨⟨n, k, h1, h2, h3, h4, h5⟩, -⟩ := hq
  exact ⟨n, by omega, h1⟩
/-! between two bounds -/
theorem nle_lt {a b : Int32} (h : ¬ a < b) : b ≤ a := Int32.not_lt.mp h
theorem within_of {p lo hi : Int32} (c : ¬ vX4_isWithin p lo hi = 0) : ¬ p < lo ∧ ¬ hi < p := by
  unfold vX4_isWithin at c
  split at c
  · exact absurd rfl c
  · split at c
    · exact absurd rfl c
    · exact ⟨by assumption, by assumption⟩
theorem from_of {p lo hi : Int32} (c : ¬ vX5_isFrom p lo hi = 0) : ¬ p < lo ∧ ¬ hi < p := by
  unfold vX5_isFrom at c
  split at c
  · exact absurd rfl c
  · split at c
    · exact absurd rfl c
    · exact ⟨by assumption, by assumption⟩
theorem upto_nI {p : Int32} {n : Nat} (hn : n < 2147483648) (h1 : ¬ p < 0) (h2 : ¬ nI n < p) : ∃ j, j ≤ n ∧ p = nI j := by
  obtain ⟨j, hj, rfl⟩ := nI_of h1
  refine ⟨j, ?_, rfl⟩
  rcases Nat.lt_or_ge n j with h | h
  · exact absurd ((nI_ltI hn hj).mpr h) h2
  · exact h
theorem pgX {p : Int32} (c : ¬ vX4_isPage p = 0) : Pg p := by
  obtain ⟨h1, h2⟩ := within_of (p := p) (lo := 0) (hi := 63) c
  obtain ⟨j, hj, e⟩ := upto_nI (n := 63) (by decide) h1 h2
  exact Ix.ofN e (by omega) (by decide)
theorem pgM {p : Int32} (c : ¬ vX5_isPage p = 0) : Pg p := by
  obtain ⟨h1, h2⟩ := from_of (p := p) (lo := 0) (hi := 63) c
  obtain ⟨j, hj, e⟩ := upto_nI (n := 63) (by decide) h1 h2
  exact Ix.ofN e (by omega) (by decide)
theorem smX {p : Int32} (c : ¬ vX4_isWithin p 0 8 = 0) : Sm p := by
  obtain ⟨h1, h2⟩ := within_of (p := p) (lo := 0) (hi := 8) c
  obtain ⟨j, hj, e⟩ := upto_nI (n := 8) (by decide) h1 h2
  exact ⟨j, hj, e⟩
theorem nbX (a b c : Int32) : narrow .boolean (.int (vX4_isWithin a b c)) = .int (vX4_isWithin a b c) := by
  unfold vX4_isWithin
  split
  · rfl
  · split <;> rfl
theorem nbM (a b c : Int32) : narrow .boolean (.int (vX5_isFrom a b c)) = .int (vX5_isFrom a b c) := by
  unfold vX5_isFrom
  split
  · rfl
  · split <;> rfl
/-! the rows of the histories -/
theorem mul3 (j : Nat) : nI j * 3 = nI (3 * j) := by
  have h : nI j * nI 3 = nI (j * 3) := pk_mul j 3
  rw [Nat.mul_comm 3 j]
  exact h
theorem mul3r (j : Nat) : 3 * nI j = nI (3 * j) := pk_mul 3 j
theorem sub_nI {a b : Nat} (h : b ≤ a) : nI a - nI b = nI (a - b) := pk_sub h
theorem recIx0 {p : Int32} (h : Pg p) : Ix (p * 3) (ix (p * 3)) 192 := by
  obtain ⟨j, hj, rfl⟩ := h.ex
  exact Ix.ofN (mul3 j) (by omega) (by decide)
theorem recIx3 {p : Int32} (h : Pg p) : Ix (3 * p) (ix (3 * p)) 192 := by
  obtain ⟨j, hj, rfl⟩ := h.ex
  exact Ix.ofN (mul3r j) (by omega) (by decide)
theorem timeIx {u : SH} {p i : Int32} (h : Pg p) (hh : HW u) (c1 : ¬ i < 1) (c2 : ¬ u.2.1 (ix p) < i) : Ix (p * 3 + i - 1) (ix (p * 3 + i - 1)) 192 := by
  obtain ⟨n, e, hn⟩ := hh.2 (ix p) h.2.1
  obtain ⟨j, hj, rfl⟩ := h.ex
  rw [e] at c2
  have c3 : ¬ i < 0 := fun z => c1 (by
    have z2 : i.toInt < 0 := Int32.lt_iff_toInt_lt.mp z
    exact Int32.lt_iff_toInt_lt.mpr (by have : (1 : Int32).toInt = 1 := by decide
                                        omega))
  obtain ⟨k, hk, rfl⟩ := upto_nI (n := n) (by omega) c3 c2
  have hk1 : 1 ≤ k := by
    rcases Nat.lt_or_ge 0 k with h | h
    · exact h
    · have : k = 0 := by omega
      subst this
      exact absurd (by decide) c1
  refine Ix.ofN (i := 3 * j + k - 1) ?_ (by omega) (by decide)
  rw [mul3, nI_add]
  exact sub_nI (b := 1) (by omega)
theorem ti_of {p i : Int32} {k : Nat} (h : Pg p) (e : i = nI k) (h1 : 1 ≤ k) (h3 : k ≤ 3) : TI p i := by
  obtain ⟨j, hj, rfl⟩ := h.ex
  subst e
  refine Ix.ofN (i := 3 * j + k - 1) ?_ (by omega) (by decide)
  rw [mul3r, nI_add]
  exact sub_nI (b := 1) (by omega)
theorem ti1 {p : Int32} (h : Pg p) : TI p 1 := ti_of (k := 1) h rfl (by omega) (by omega)
theorem tik {p : Int32} {u : SH} (h : Pg p) (hh : HW u) : TI p u.2.2 := by
  obtain ⟨k, e, h1, h3⟩ := hh.1
  exact ti_of h e h1 h3
theorem ge1_of {i : Int32} {n : Nat} (hn : n < 2147483648) (c1 : ¬ i < 1) (c2 : ¬ nI n < i) : ∃ k, i = nI k ∧ 1 ≤ k ∧ k ≤ n := by
  have c3 : ¬ i < 0 := fun z => c1 (by
    have z2 : i.toInt < 0 := Int32.lt_iff_toInt_lt.mp z
    exact Int32.lt_iff_toInt_lt.mpr (by have : (1 : Int32).toInt = 1 := by decide
                                        omega))
  obtain ⟨k, hk, rfl⟩ := upto_nI hn c3 c2
  refine ⟨k, rfl, ?_, hk⟩
  rcases Nat.lt_or_ge 0 k with h | h
  · exact h
  · have : k = 0 := by omega
    subst this
    exact absurd (by decide) c1
theorem tiR {p i : Int32} {u : SH} {x : Int32} (h : Pg p) (hh : HW u) (c : ¬ vX5_isFrom i 1 u.2.2 = 0) (_ : ¬ x < i) : TI p i := by
  obtain ⟨h1, h2⟩ := from_of c
  obtain ⟨k, e, hk1, hk3⟩ := hh.1
  rw [e] at h2
  obtain ⟨k2, e2, h3, h4⟩ := ge1_of (by omega) h1 h2
  exact ti_of h e2 h3 (by omega)
def RI (n : Nat) (p l : Int32) : Prop := Pg p ∧ ∃ m, l = nI (3 * ix p + m) ∧ m ≤ 2 ∧ m < n
theorem RI.start {p : Int32} (h : Pg p) : RI 3 p (p * 3 + 3 - 1) := by
  refine ⟨h, 2, ?_, by omega, by omega⟩
  obtain ⟨j, hj, rfl⟩ := h.ex
  rw [mul3, ixN (by omega)]
  show nI (3 * j) + nI 3 - nI 1 = _
  rw [nI_add, sub_nI (by omega)]
  rfl
theorem RI.zero {p l : Int32} : ¬ RI 0 p l := fun ⟨_, m, _, _, h⟩ => by omega
theorem RI.inx {n : Nat} {p l : Int32} (h0 : Pg p) (h : RI n p l) : Ix l (ix l) 192 := by
  obtain ⟨_, m, e, h1, h2⟩ := h
  have := h0.2.1
  exact Ix.ofN e (by omega) (by decide)
theorem RI.pos {n : Nat} {p l : Int32} (h : RI n p l) (c : p * 3 < l) : ∃ m, l = nI (3 * ix p + m + 1) ∧ m ≤ 1 ∧ m + 1 < n := by
  obtain ⟨h0, m, e, h1, h2⟩ := h
  have hj := h0.2.1
  rw [h0.1, mul3, e] at c
  have := (nI_ltI (by omega) (by omega)).mp c
  exact ⟨m - 1, by rw [e]; congr 1; omega, by omega, by omega⟩
theorem RI.inx1 {n : Nat} {p l : Int32} (h0 : Pg p) (h : RI n p l) (c : p * 3 < l) : Ix (l - 1) (ix (l - 1)) 192 := by
  obtain ⟨m, e, h1, h2⟩ := h.pos c
  have hj := h0.2.1
  refine Ix.ofN (i := 3 * (ix p) + m) ?_ (by omega) (by decide)
  rw [e]
  exact nI_pred _
theorem RI.next {n : Nat} {p l : Int32} (h : RI (n + 1) p l) (c : p * 3 < l) : RI n p (l + (-1)) := by
  obtain ⟨m, e, h1, h2⟩ := h.pos c
  exact ⟨h.1, m, by rw [e]; exact pk_m1 _, by omega, by omega⟩
def KI (n : Nat) (l : Int32) : Prop := ∃ k, l = nI k ∧ 1 ≤ k ∧ k ≤ 3 ∧ k ≤ n
theorem KI.start {u : SH} (hh : HW u) : KI 3 u.2.2 := by
  obtain ⟨k, e, h1, h3⟩ := hh.1
  exact ⟨k, e, h1, h3, h3⟩
theorem KI.zero {l : Int32} : ¬ KI 0 l := fun ⟨k, _, h1, _, h2⟩ => by omega
theorem KI.pos {n : Nat} {l : Int32} (h : KI n l) (c : 1 < l) : ∃ k, l = nI (k + 1) ∧ 1 ≤ k ∧ k ≤ 2 ∧ k + 1 ≤ n := by
  obtain ⟨k, e, h1, h3, h4⟩ := h
  rw [e] at c
  have c2 : nI 1 < nI k := c
  have := (nI_ltI (by omega) (by omega)).mp c2
  exact ⟨k - 1, by rw [e]; congr 1; omega, by omega, by omega, by omega⟩
theorem KI.next {n : Nat} {l : Int32} (h : KI (n + 1) l) (c : 1 < l) : KI n (l + (-1)) := by
  obtain ⟨k, e, h1, h3, h4⟩ := h.pos c
  exact ⟨k, by rw [e]; exact pk_m1 _, h1, by omega, by omega⟩
theorem KI.inx1 {n : Nat} {p l : Int32} (h0 : Pg p) (h : KI n l) : Ix (3 * p + l - 1) (ix (3 * p + l - 1)) 192 := by
  obtain ⟨k, e, h1, h3, h4⟩ := h
  exact ti_of h0 e h1 h3
theorem KI.inx2 {n : Nat} {p l : Int32} (h0 : Pg p) (h : KI n l) (c : 1 < l) : Ix (3 * p + l - 2) (ix (3 * p + l - 2)) 192 := by
  obtain ⟨k, e, h1, h3, h4⟩ := h.pos c
  obtain ⟨j, hj, rfl⟩ := h0.ex
  refine Ix.ofN (i := 3 * j + (k + 1) - 2) ?_ (by omega) (by decide)
  rw [mul3r, e, nI_add]
  exact sub_nI (b := 2) (by omega)
theorem ix08 : Ix 0 0 8 := ⟨rfl, by decide, by decide⟩
