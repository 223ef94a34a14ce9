/-! ===== the class and the reference side by side ===== -/
theorem upd_s (f : Nat → Int32) (k : Nat) (x : Int32) : upd f k x k = x := by simp [upd]
theorem upd_n (f : Nat → Int32) {k j : Nat} (x : Int32) (h : ¬ j = k) : upd f k x j = f j := by simp [upd, h]
def cnt (f : Nat → Int32) : Nat → Nat
  | 0 => 0
  | n + 1 => cnt f n + (if f n = 0 then 0 else 1)
theorem cnt_le (f : Nat → Int32) : ∀ n, cnt f n ≤ n
  | 0 => Nat.le_refl 0
  | n + 1 => by
    have := cnt_le f n
    unfold cnt
    split <;> omega
theorem cnt_out {f : Nat → Int32} {j : Nat} {x : Int32} : ∀ n, n ≤ j → cnt (upd f j x) n = cnt f n
  | 0, _ => rfl
  | n + 1, h => by
    unfold cnt
    rw [cnt_out n (by omega), upd_n f x (by omega)]
theorem cnt_set {f : Nat → Int32} {j : Nat} {x : Int32} (hj : f j = 0) (hx : ¬ x = 0) : ∀ n, j < n → cnt (upd f j x) n = cnt f n + 1
  | 0, h => by omega
  | n + 1, h => by
    unfold cnt
    by_cases e : n = j
    · subst e
      rw [cnt_out n (Nat.le_refl n), upd_s, if_neg hx, if_pos hj]
    · rw [cnt_set hj hx n (by omega), upd_n f x e]
      omega
theorem cnt_clear {f : Nat → Int32} {j : Nat} (hj : ¬ f j = 0) : ∀ n, j < n → cnt (upd f j 0) n + 1 = cnt f n
  | 0, h => by omega
  | n + 1, h => by
    unfold cnt
    by_cases e : n = j
    · subst e
      rw [cnt_out n (Nat.le_refl n), upd_s, if_neg hj, if_pos rfl]
    · have := cnt_clear hj n (by omega)
      rw [upd_n f 0 e]
      omega
theorem cnt_pos {f : Nat → Int32} {j : Nat} (hj : ¬ f j = 0) (n : Nat) (h : j < n) : 1 ≤ cnt f n := by
  have := cnt_clear hj n h
  omega
theorem cnt_zero {f : Nat → Int32} : ∀ n, (∀ j, j < n → f j = 0) → cnt f n = 0
  | 0, _ => rfl
  | n + 1, h => by
    unfold cnt
    rw [cnt_zero n (fun j hj => h j (by omega)), if_pos (h n (by omega))]
theorem lt64 {i : Nat} (h : i < 64) : nI i < 64 := (nI_ltI (a := i) (b := 64) (by omega) (by omega)).mpr h
theorem nlt64 {i : Nat} (h : i ≤ 64) (h2 : ¬ i < 64) : ¬ nI i < 64 := fun c => h2 ((nI_ltI (a := i) (b := 64) (by omega) (by omega)).mp c)
theorem count_cnt (m : SM) : vX5_residentCount m = nI (cnt m.2.1.1 64) := by
  have loop : ∀ (n i : Nat), i ≤ 64 → 64 < i + n → lvX5_residentCount_4 m n (nI (cnt m.2.1.1 i)) (nI i) = nI (cnt m.2.1.1 64) := by
    intro n
    induction n with
    | zero => intro i h1 h2; omega
    | succ n ih =>
      intro i h1 h2
      rw [lvX5_residentCount_4]
      by_cases c : i < 64
      · rw [if_pos (lt64 c), ixN (by omega), nI_1, nI_1]
        have h3 := ih (i + 1) (by omega) (by omega)
        unfold cnt at h3
        split
        · rename_i c2
          rw [if_pos c2] at h3
          exact h3
        · rename_i c2
          rw [if_neg c2] at h3
          exact h3
      · rw [if_neg (nlt64 h1 c)]
        have : i = 64 := by omega
        rw [this]
  exact loop 65 0 (by omega) (by omega)
/-! frames -/
def FR (f : SF) (g : SFm) : Prop :=
  f.1 = g.1 ∧ f.2.2.1 = g.2.2.1 ∧ f.2.2.2.2.1 = g.2.2.2.2 ∧ (∀ j, f.1 j = 0 → f.2.1 j = 0 ∧ f.2.2.2.1 j = 0) ∧ (∀ j, ¬ f.1 j = 0 → f.2.1 j = g.2.1 j ∧ f.2.2.2.1 j = g.2.2.2.1 j) ∧ (∀ j, ∃ n, n ≤ 9 ∧ f.2.2.2.1 j = nI n) ∧ (∃ c, f.2.2.2.2.1 = nI c ∧ 1 ≤ c ∧ c ≤ 16 ∧ cnt f.1 64 ≤ c) ∧ f.2.2.2.2.2 = nI (cnt f.1 64) ∧ FW f
/-! histories: of a page that the victim's choice looks at; of any page -/
def VJ (h g : SH) (j : Nat) : Prop := h.2.1 j = g.2.1 j ∧ ∃ n k, h.2.1 j = nI n ∧ h.2.2 = nI k ∧ 1 ≤ n ∧ n ≤ k ∧ k ≤ 3 ∧ ∀ i, i < n → h.1 (3 * j + i) = g.1 (3 * j + i)
theorem timeX {h : SH} {p i : Int32} {n q : Nat} (hp : Pg p) (hn : h.2.1 (ix p) = nI n) (h3 : n ≤ 3) (hi : i = nI q) (h1 : 1 ≤ q) (h2 : q ≤ n) : vX2_timeOf h p i = h.1 (3 * ix p + (q - 1)) := by
  unfold vX2_timeOf
  rw [hn, hi, if_neg (show ¬ nI q < 1 from fun c => by have := (nI_ltI (b := 1) (by omega) (by omega)).mp c; omega), if_neg (fun c => by have := (nI_ltI (by omega) (by omega)).mp c; omega)]
  have hj := hp.2.1
  rw [show p * 3 + nI q - 1 = nI (3 * ix p + (q - 1)) by
    rw [hp.1, mul3, nI_add, ixN (by omega)]
    rw [show (1 : Int32) = nI 1 from rfl, sub_nI (by omega)]
    congr 1
    omega]
  rw [ixN (by omega)]
theorem timeM {m : SM} {p i : Int32} {q : Nat} (hp : Pg p) (hi : i = nI q) (h1 : 1 ≤ q) (h2 : q ≤ 3) : vX5_time m p i = m.2.2.2.1.1 (3 * ix p + (q - 1)) := by
  unfold vX5_time
  have hj := hp.2.1
  rw [show 3 * p + i - 1 = nI (3 * ix p + (q - 1)) by
    rw [hi, hp.1, mul3r, nI_add, ixN (by omega)]
    rw [show (1 : Int32) = nI 1 from rfl, sub_nI (by omega)]
    congr 1
    omega]
  rw [ixN (by omega)]
theorem time0 {h : SH} {p i : Int32} {n q : Nat} (hn : h.2.1 (ix p) = nI n) (h3 : n ≤ 3) (hi : i = nI q) (hq : q ≤ 3) (h2 : q = 0 ∨ n < q) : vX2_timeOf h p i = -9 := by
  unfold vX2_timeOf
  split
  · rfl
  · rename_i c
    split
    · rfl
    · rename_i c2
      rw [hn, hi] at c2
      rw [hi] at c
      rcases h2 with h2 | h2
      · subst h2
        exact absurd (by decide) c
      · exact absurd ((nI_ltI (by omega) (by omega)).mpr h2) c2
theorem gf_same {x : SX} {m : SM} {a b : Int32} (ha : Pg a) (hb : Pg b) (hk : x.2.2.2.1.2.2 = m.2.2.2.1.2.2) (va : VJ x.2.2.2.1 m.2.2.2.1 (ix a)) (vb : VJ x.2.2.2.1 m.2.2.2.1 (ix b)) : vX2_goesBefore x.2.2.2.1 a b = vX5_goesFirst m a b := by
  obtain ⟨ea, na, k, ha1, hk1, ha2, ha3, hk3, hta⟩ := va
  obtain ⟨eb, nb, k2, hb1, hk2, hb2, hb3, hk4, htb⟩ := vb
  have hkk : k = k2 := (nI_eq (by omega) (by omega)).mp (hk1.symm.trans hk2)
  subst hkk
  unfold vX2_goesBefore vX5_goesFirst
  rw [← ea, ← eb, ← hk]
  rw [timeX (i := 1) (q := 1) ha ha1 (by omega) rfl (by omega) (by omega), timeX (i := 1) (q := 1) hb hb1 (by omega) rfl (by omega) (by omega), timeM (i := 1) (q := 1) ha rfl (by omega) (by omega), timeM (i := 1) (q := 1) hb rfl (by omega) (by omega), hta 0 (by omega), htb 0 (by omega)]
  split
  · rfl
  · rename_i c1
    split
    · rfl
    · rename_i c2
      have e1 : na = k := by
        rw [ha1, hk1] at c1
        rcases Nat.lt_or_ge na k with h | h
        · exact absurd ((nI_ltI (by omega) (by omega)).mpr h) c1
        · omega
      have e2 : nb = k := by
        rw [hb1, hk1] at c2
        rcases Nat.lt_or_ge nb k with h | h
        · exact absurd ((nI_ltI (by omega) (by omega)).mpr h) c2
        · omega
      rw [timeX (q := k) ha ha1 (by omega) hk1 (by omega) (by omega), timeX (q := k) hb hb1 (by omega) hk1 (by omega) (by omega), timeM (q := k) ha hk1 (by omega) (by omega), timeM (q := k) hb hk1 (by omega) (by omega), hta (k - 1) (by omega), htb (k - 1) (by omega)]
theorem pos_pins {n : Nat} (h : n ≤ 9) : (0 < nI n) ↔ ¬ nI n = 0 := by
  constructor
  · intro c e
    rw [e] at c
    exact absurd c (by decide)
  · intro c
    rcases Nat.lt_or_ge 0 n with h2 | h2
    · exact (nI_ltI (a := 0) (by omega) (by omega)).mpr h2
    · have : n = 0 := by omega
      subst this
      exact absurd rfl c
theorem vic_same {x : SX} {m : SM} (hF : FR x.2.1 m.2.1) (hk : x.2.2.2.1.2.2 = m.2.2.2.1.2.2) (hV : ∀ j, j < 64 → ¬ x.2.1.1 j = 0 → VJ x.2.2.2.1 m.2.2.2.1 j) : vX4_chooseVictim x = vX5_victim m := by
  have loop : ∀ (n : Nat) (l1 l2 : Int32), PI n l2 → (l1 = -9 ∨ (Pg l1 ∧ ¬ x.2.1.1 (ix l1) = 0)) → lvX4_chooseVictim_5 x n l1 l2 = lvX5_victim_5 m n l1 l2 := by
    intro n
    induction n with
    | zero => intro l1 l2 h; exact absurd h PI.zero
    | succ n ih =>
      intro l1 l2 hi hl
      rw [lvX4_chooseVictim_5, lvX5_victim_5]
      by_cases c : l2 < 64
      · rw [if_pos c, if_pos c]
        have hn := PI.next hi c
        have hp := PI.pg hi c
        unfold vX1_holds vX1_pinsOf
        rw [← hF.1]
        by_cases c1 : x.2.1.1 (ix l2) = 0
        · rw [if_pos c1, if_pos c1]; exact ih _ _ hn hl
        · rw [if_neg c1, if_neg c1]
          obtain ⟨q, hq, eq⟩ := hF.2.2.2.2.2.1 (ix l2)
          rw [← (hF.2.2.2.2.1 _ c1).2, eq]
          by_cases c2 : nI q = 0
          · rw [if_pos c2, if_neg (fun z => (pos_pins hq).mp z c2)]
            by_cases c3 : l1 = -9
            · rw [if_pos c3, if_pos c3]; exact ih _ _ hn (Or.inr ⟨hp, c1⟩)
            · rw [if_neg c3, if_neg c3]
              obtain ⟨g1, g2⟩ := hl.resolve_left c3
              rw [gf_same hp g1 hk (hV _ hp.2.1 c1) (hV _ g1.2.1 g2), ih _ _ hn hl, ih _ _ hn (Or.inr ⟨hp, c1⟩)]
          · rw [if_neg c2, if_pos ((pos_pins hq).mpr c2)]; exact ih _ _ hn hl
      · rw [if_neg c, if_neg c]
  exact loop 65 _ _ PI.start (Or.inl rfl)
