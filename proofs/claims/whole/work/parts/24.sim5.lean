/-! ===== a reference ===== -/
def Rel (t : Nat) (x : SX) (m : SM) : Prop := x.1 = m.1 ∧ x.2.2.1 = m.2.2.1 ∧ x.2.2.2.2 = m.2.2.2.2 ∧ FR x.2.1 m.2.1 ∧ QU x.2.2.1 x.2.1.1 ∧ HR t x.2.2.2.1 m.2.2.2.1 ∧ (∀ j, j < 64 → ¬ x.2.1.1 j = 0 → ¬ x.2.2.2.1.2.1 j = 0) ∧ ∃ c, x.2.2.2.2.2.1 = nI c ∧ c ≤ t
theorem Rel.mono {t u : Nat} {x : SX} {m : SM} (h : Rel t x m) (hu : t ≤ u) : Rel u x m := by
  obtain ⟨a1, a2, a3, a4, a5, ⟨b1, b2, b3, b4⟩, a7, c, c1, c2⟩ := h
  exact ⟨a1, a2, a3, a4, a5, ⟨b1, b2, b3, fun j hj => (b4 j hj).mono hu⟩, a7, c, c1, by omega⟩
theorem Rel.vic {t : Nat} {x : SX} {m : SM} (h : Rel t x m) : vX4_chooseVictim x = vX5_victim m := by
  obtain ⟨a1, a2, a3, a4, a5, ⟨b1, b2, b3, b4⟩, a7, -⟩ := h
  exact vic_same a4 b2 (fun j hj hr => (b4 j hj).vj b1 (a7 j hj hr))
theorem full_iff {F : SF} {F2 : SFm} (hF : FR F F2) (m : SM) (hm : m.2.1 = F2) : (vX1_areFull F = 0 → F.2.2.2.2.2 < F.2.2.2.2.1 ∧ ¬ vX5_residentCount m = m.2.1.2.2.2.2 ∧ vX5_residentCount m < m.2.1.2.2.2.2) ∧ (¬ vX1_areFull F = 0 → vX5_residentCount m = m.2.1.2.2.2.2 ∧ ¬ vX5_residentCount m < m.2.1.2.2.2.2) := by
  obtain ⟨a1, a2, a3, a4, a5, a6, ⟨c, b1, b2, b3, b4⟩, a8, a9⟩ := hF
  have e1 : vX5_residentCount m = nI (cnt F.1 64) := by rw [count_cnt, hm, ← a1]
  have e2 : m.2.1.2.2.2.2 = nI c := by rw [hm, ← a3, b1]
  rw [e1, e2, a8, b1]
  unfold vX1_areFull
  rw [a8, b1]
  have hle := cnt_le F.1 64
  by_cases d : cnt F.1 64 < c
  · have d1 := (nI_ltI (a := cnt F.1 64) (b := c) (by omega) (by omega)).mpr d
    rw [if_pos d1]
    exact ⟨fun _ => ⟨d1, fun z => by have := (nI_eq (by omega) (by omega)).mp z; omega, d1⟩, fun z => absurd rfl z⟩
  · have d1 : ¬ nI (cnt F.1 64) < nI c := fun z => d ((nI_ltI (by omega) (by omega)).mp z)
    rw [if_neg d1]
    exact ⟨fun z => absurd z (by decide), fun _ => ⟨by congr 1; omega, d1⟩⟩
theorem stuck_same {t : Nat} {x : SX} {m : SM} (h : Rel t x m) (p : Int32) : (vX4_canReference x p = 0 ∧ ¬ vX5_isStuck m p = 0) ∨ (¬ vX4_canReference x p = 0 ∧ vX5_isStuck m p = 0) := by
  have hv := h.vic
  obtain ⟨a1, a2, a3, a4, -⟩ := h
  obtain ⟨f1, f2⟩ := full_iff a4 m rfl
  unfold vX4_canReference vX5_isStuck vX5_canLoad vX1_holds
  rw [← a4.1, hv]
  by_cases c : x.2.1.1 (ix p) = 0
  · rw [if_pos c, if_pos c]
    by_cases d : vX1_areFull x.2.1 = 0
    · rw [if_pos d, if_pos (f1 d).2.2, if_neg (show ¬ (1 : Int32) = 0 by decide)]
      exact Or.inr ⟨by decide, rfl⟩
    · rw [if_neg d, if_neg (f2 d).2]
      by_cases e : vX5_victim m = -9
      · rw [if_pos e, if_pos rfl]
        exact Or.inl ⟨rfl, by decide⟩
      · rw [if_neg e, if_neg (show ¬ (1 : Int32) = 0 by decide)]
        exact Or.inr ⟨by decide, rfl⟩
  · rw [if_neg c, if_neg c]
    exact Or.inr ⟨by decide, rfl⟩
theorem vicX_C {D : SD} {F : SF} {Q : SQ} {H : SH} {C C2 : SC} : vX4_chooseVictim (D, F, Q, H, C) = vX4_chooseVictim (D, F, Q, H, C2) := by
  have loop : ∀ (n : Nat) (l1 l2 : Int32), lvX4_chooseVictim_5 (D, F, Q, H, C) n l1 l2 = lvX4_chooseVictim_5 (D, F, Q, H, C2) n l1 l2 := by
    intro n
    induction n with
    | zero => intro l1 l2; rfl
    | succ n ih =>
      intro l1 l2
      rw [lvX4_chooseVictim_5, lvX4_chooseVictim_5, ih, ih]
  exact loop 65 _ _
theorem forget_same {t : Nat} {D : SD} {F : SF} {Q : SQ} {H : SH} {C : SC} {m : SM} {p : Int32} {l : Nat → Int32} (ht : t < 2147483648) (R : HR t H m.2.2.2.1) (hp : Pg p) (hr : m.2.1.1 (ix p) = 0) (hC1 : C.1 = m.2.2.2.2.1) (hC2 : C.2.1 = m.2.2.2.2.2.1 + 1) (hl1 : stale m p → l = upd m.2.2.2.1.2.1 (ix p) 0) (hl2 : ¬ stale m p → l = m.2.2.2.1.2.1) :
    sX4_forgetIfStale (D, F, Q, H, C) p = (D, F, Q, (H.1, l, H.2.2), C) ∧ (l = H.2.1 ∨ l = upd H.2.1 (ix p) 0) := by
  obtain ⟨e1, e2, hw, hJ⟩ := R
  obtain ⟨n, k, a1, a2, a3, a4, a5⟩ := hJ (ix p) hp.2.1
  rw [← e1] at hl1 hl2
  have hor : l = H.2.1 ∨ l = upd H.2.1 (ix p) 0 := by
    by_cases s : stale m p
    · exact Or.inr (hl1 s)
    · exact Or.inl (hl2 s)
  refine ⟨?_, hor⟩
  unfold sX4_forgetIfStale
  simp only []
  rcases Nat.eq_zero_or_pos n with h0 | h0
  · subst h0
    rw [if_pos (time0 (i := 1) (q := 1) a1 (by omega) rfl (by omega) (Or.inr (by omega)))]
    have hs : ¬ stale m p := fun z => by
      have := z.2.1
      rw [← e1, a1] at this
      exact absurd this (by decide)
    rw [hl2 hs]
  · obtain ⟨q1, w, q2, q3⟩ := a5 0 h0
    have tx : vX2_timeOf H p 1 = H.1 (3 * ix p + 0) := timeX (i := 1) (q := 1) hp a1 (by omega) rfl (by omega) (by omega)
    have tm : vX5_time m p 1 = m.2.2.2.1.1 (3 * ix p + 0) := timeM (i := 1) (q := 1) hp rfl (by omega) (by omega)
    rw [tx, if_neg (by rw [q3]; exact nI_ne9 (by omega))]
    have hpos : 0 < m.2.2.2.1.2.1 (ix p) := by
      rw [← e1, a1]
      exact (nI_ltI (a := 0) (by omega) (by omega)).mpr h0
    by_cases s : C.1 < C.2.1 - H.1 (3 * ix p + 0)
    · rw [if_pos s]
      have hs : stale m p := ⟨hr, hpos, by rw [tm, ← q1, ← hC1, ← hC2]; exact s⟩
      rw [hl1 hs]
      rfl
    · rw [if_neg s]
      have hs : ¬ stale m p := fun z => s (by have := z.2.2; rw [tm, ← q1, ← hC1, ← hC2] at this; exact this)
      rw [hl2 hs]
/-- what the reference's record leaves, in numbers -/
theorem recM {m : SM} {p : Int32} (hp : Pg p) (hh : HW m.2.2.2.1) : ∃ l T : Nat → Int32, (stale m p → l = upd m.2.2.2.1.2.1 (ix p) 0) ∧ (¬ stale m p → l = m.2.2.2.1.2.1) ∧ sX5_record m p = (m.1, m.2.1, m.2.2.1, (T, (if l (ix p) < m.2.2.2.1.2.2 then upd l (ix p) (l (ix p) + 1) else l), m.2.2.2.1.2.2), (m.2.2.2.2.1, m.2.2.2.2.2.1 + 1, m.2.2.2.2.2.2.1, m.2.2.2.2.2.2.2.1, m.2.2.2.2.2.2.2.2.1, m.2.2.2.2.2.2.2.2.2)) ∧ T (3 * ix p) = m.2.2.2.2.2.1 + 1 ∧ (∀ k, m.2.2.2.1.2.2 = nI k → k ≤ 3 → ∀ i, 1 ≤ i → i < k → T (3 * ix p + i) = m.2.2.2.1.1 (3 * ix p + (i - 1))) ∧ (∀ j, ¬ j = ix p → ∀ i, i < 3 → T (3 * j + i) = m.2.2.2.1.1 (3 * j + i)) := by
  obtain ⟨l, h1, h2, h3⟩ := recM0 m p
  obtain ⟨k, e, h4, h5⟩ := hh.1
  obtain ⟨T, t0, t1, t2, t3⟩ := recM_loop hp 3 k (m.1, m.2.1, m.2.2.1, (m.2.2.2.1.1, l, m.2.2.2.1.2.2), (m.2.2.2.2.1, m.2.2.2.2.2.1 + 1, m.2.2.2.2.2.2.1, m.2.2.2.2.2.2.2.1, m.2.2.2.2.2.2.2.2.1, m.2.2.2.2.2.2.2.2.2)) h4 h5 h5
  rw [← e] at t0
  refine ⟨l, T, h1, h2, h3.trans t0, t1, fun k2 e2 h6 i h7 h8 => ?_, fun j hj i hi => t3 _ (fun i2 hi2 => by omega)⟩
  have : k = k2 := (nI_eq (by omega) (by omega)).mp (e.symm.trans e2)
  subst this
  exact t2 i h7 h8
theorem ref_same {t : Nat} {x : SX} {m : SM} {p : Int32} (ht : t < 1073741824) (R : Rel t x m) (hp : Pg p) (hs : ¬ vX4_canReference x p = 0) : Rel (t + 1) (sX4_reference x p) (sX5_reference m p) ∧ ¬ (sX4_reference x p).2.1.1 (ix p) = 0 ∧ (sX4_reference x p).2.1.2.2.2.1 (ix p) = x.2.1.2.2.2.1 (ix p) := by
  have hvic := R.vic
  obtain ⟨D, F, Q, H, C⟩ := x
  obtain ⟨D2, F2, Q2, H2, C2⟩ := m
  obtain ⟨e1, e2, e3, hF, hQ, hH, hres, c, ec, hc⟩ := R
  have e1 : D = D2 := e1
  have e2 : Q = Q2 := e2
  have e3 : C = C2 := e3
  have hF : FR F F2 := hF
  have hQ : QU Q F.1 := hQ
  have hH : HR t H H2 := hH
  have hres : ∀ j, j < 64 → ¬ F.1 j = 0 → ¬ H.2.1 j = 0 := hres
  have ec : C.2.1 = nI c := ec
  subst e1
  subst e2
  subst e3
  have hh2 : HW H2 := ⟨by rw [← hH.2.1]; exact hH.2.2.1.1, fun j hj => by rw [← hH.1]; exact hH.2.2.1.2 j hj⟩
  obtain ⟨l, T, l1, l2, hrec, t0, t1, t2⟩ := recM (m := (D, F2, Q, H2, C)) hp hh2
  have l1 : stale (D, F2, Q, H2, C) p → l = upd H2.2.1 (ix p) 0 := l1
  have l2 : ¬ stale (D, F2, Q, H2, C) p → l = H2.2.1 := l2
  have t0 : T (3 * ix p) = C.2.1 + 1 := t0
  have t1 : ∀ k, H2.2.2 = nI k → k ≤ 3 → ∀ i, 1 ≤ i → i < k → T (3 * ix p + i) = H2.1 (3 * ix p + (i - 1)) := t1
  have t2 : ∀ j, ¬ j = ix p → ∀ i, i < 3 → T (3 * j + i) = H2.1 (3 * j + i) := t2
  have hrec : sX5_record (D, F2, Q, H2, C) p = (D, F2, Q, (T, (if l (ix p) < H2.2.2 then upd l (ix p) (l (ix p) + 1) else l), H2.2.2), (C.1, C.2.1 + 1, C.2.2.1, C.2.2.2.1, C.2.2.2.2.1, C.2.2.2.2.2)) := hrec
  have hor : l = H.2.1 ∨ l = upd H.2.1 (ix p) 0 := by
    rw [hH.1]
    by_cases s : stale (D, F2, Q, H2, C) p
    · exact Or.inr (l1 s)
    · exact Or.inl (l2 s)
  have hnow : ∃ w, w ≤ t + 1 ∧ C.2.1 + 1 = nI w := ⟨c + 1, by omega, by rw [ec]; exact nI_1 c⟩
  obtain ⟨r1, r2, r3⟩ := rec_same hp hH hor hnow t0 (fun k ek h3 => t1 k (by rw [← hH.2.1]; exact ek) h3) t2
  have hl' : ∀ j, ¬ j = ix p → l j = H.2.1 j := by
    intro j hj
    rcases hor with h | h
    · rw [h]
    · rw [h]; exact upd_n _ _ hj
  by_cases hit : F.1 (ix p) = 0
  · -- a miss
    have hVJ : ∀ j, j < 64 → ¬ F.1 j = 0 → VJ H (T, (if l (ix p) < H2.2.2 then upd l (ix p) (l (ix p) + 1) else l), H2.2.2) j := by
      intro j hj hr
      have hne : ¬ j = ix p := fun z => hr (by rw [z]; exact hit)
      obtain ⟨v1, n, k, v2, v3, v4, v5, v6, v7⟩ := (hH.2.2.2 j hj).vj hH.1 (hres j hj hr)
      refine ⟨?_, n, k, v2, v3, v4, v5, v6, fun i hi => ?_⟩
      · show H.2.1 j = (if l (ix p) < H2.2.2 then upd l (ix p) (l (ix p) + 1) else l) j
        split
        · rw [upd_n _ _ hne]; exact (hl' j hne).symm
        · exact (hl' j hne).symm
      · show H.1 (3 * j + i) = T (3 * j + i)
        rw [t2 j hne i (by omega)]
        exact v7 i hi
    have hvc : vX4_chooseVictim (D, F, Q, H, (C.1, C.2.1 + 1, C.2.2.1, C.2.2.2.1 + 1, C.2.2.2.2.1, C.2.2.2.2.2)) = vX5_victim (D, F2, Q, (T, (if l (ix p) < H2.2.2 then upd l (ix p) (l (ix p) + 1) else l), H2.2.2), (C.1, C.2.1 + 1, C.2.2.1, C.2.2.2.1 + 1, C.2.2.2.2.1, C.2.2.2.2.2)) := vic_same hF hH.2.1 hVJ
    have hM : sX5_reference (D, F2, Q, H2, C) p = sX5_load (D, F2, Q, (T, (if l (ix p) < H2.2.2 then upd l (ix p) (l (ix p) + 1) else l), H2.2.2), (C.1, C.2.1 + 1, C.2.2.1, C.2.2.2.1 + 1, C.2.2.2.2.1, C.2.2.2.2.2)) p := by
      unfold sX5_reference
      rw [hrec]
      simp only []
      rw [if_pos (show F2.1 (ix p) = 0 by rw [← hF.1]; exact hit)]
    have hX : sX4_reference (D, F, Q, H, C) p = ((sX4_forgetIfStale (sX4_load (sX4_makeRoom (D, F, Q, H, (C.1, C.2.1 + 1, C.2.2.1, C.2.2.2.1 + 1, C.2.2.2.2.1, C.2.2.2.2.2))) p) p).1, (sX4_forgetIfStale (sX4_load (sX4_makeRoom (D, F, Q, H, (C.1, C.2.1 + 1, C.2.2.1, C.2.2.2.1 + 1, C.2.2.2.2.1, C.2.2.2.2.2))) p) p).2.1, (sX4_forgetIfStale (sX4_load (sX4_makeRoom (D, F, Q, H, (C.1, C.2.1 + 1, C.2.2.1, C.2.2.2.1 + 1, C.2.2.2.2.1, C.2.2.2.2.2))) p) p).2.2.1, sX2_record (sX4_forgetIfStale (sX4_load (sX4_makeRoom (D, F, Q, H, (C.1, C.2.1 + 1, C.2.2.1, C.2.2.2.1 + 1, C.2.2.2.2.1, C.2.2.2.2.2))) p) p).2.2.2.1 p (sX4_forgetIfStale (sX4_load (sX4_makeRoom (D, F, Q, H, (C.1, C.2.1 + 1, C.2.2.1, C.2.2.2.1 + 1, C.2.2.2.2.1, C.2.2.2.2.2))) p) p).2.2.2.2.2.1, (sX4_forgetIfStale (sX4_load (sX4_makeRoom (D, F, Q, H, (C.1, C.2.1 + 1, C.2.2.1, C.2.2.2.1 + 1, C.2.2.2.2.1, C.2.2.2.2.2))) p) p).2.2.2.2) := by
      unfold sX4_reference
      rw [if_pos (show vX1_holds F p = 0 from hit)]
    rw [hM, hX, load_cut]
    generalize hHn : (T, (if l (ix p) < H2.2.2 then upd l (ix p) (l (ix p) + 1) else l), H2.2.2) = Hn at hvc r1 ⊢
    obtain ⟨f1, f2⟩ := full_iff hF (D, F2, Q, Hn, (C.1, C.2.1 + 1, C.2.2.1, C.2.2.2.1 + 1, C.2.2.2.2.1, C.2.2.2.2.2)) rfl
    have fin : ∀ (D1 : SD) (F1 : SF) (Q1 : SQ) (C1 : SC) (F3 : SFm), FR F1 F3 → QU Q1 F1.1 → C1.1 = C.1 → C1.2.1 = C.2.1 + 1 → (∀ j, ¬ j = ix p → ¬ F1.1 j = 0 → ¬ F.1 j = 0) → ¬ F1.1 (ix p) = 0 → F1.2.2.2.1 (ix p) = F.2.2.2.1 (ix p) → Rel (t + 1) ((sX4_forgetIfStale (D1, F1, Q1, H, C1) p).1, (sX4_forgetIfStale (D1, F1, Q1, H, C1) p).2.1, (sX4_forgetIfStale (D1, F1, Q1, H, C1) p).2.2.1, sX2_record (sX4_forgetIfStale (D1, F1, Q1, H, C1) p).2.2.2.1 p (sX4_forgetIfStale (D1, F1, Q1, H, C1) p).2.2.2.2.2.1, (sX4_forgetIfStale (D1, F1, Q1, H, C1) p).2.2.2.2) (D1, F3, Q1, Hn, C1) ∧ ¬ (sX4_forgetIfStale (D1, F1, Q1, H, C1) p).2.1.1 (ix p) = 0 ∧ (sX4_forgetIfStale (D1, F1, Q1, H, C1) p).2.1.2.2.2.1 (ix p) = F.2.2.2.1 (ix p) := by
      intro D1 F1 Q1 C1 F3 g1 g2 g3 g4 g5 g6 g7
      obtain ⟨hfs, -⟩ := forget_same (D := D1) (F := F1) (Q := Q1) (C := C1) (m := (D, F2, Q, H2, C)) (l := l) (by omega) hH hp (show F2.1 (ix p) = 0 by rw [← hF.1]; exact hit) g3 g4 l1 l2
      rw [hfs]
      simp only []
      rw [g4]
      refine ⟨⟨rfl, rfl, rfl, g1, g2, r1, fun j hj hr => ?_, c + 1, ?_, by omega⟩, g6, g7⟩
      · by_cases cj : j = ix p
        · rw [cj]; exact r3
        · rw [r2 j cj]; exact hres j hj (g5 j cj hr)
      · show C1.2.1 = nI (c + 1)
        rw [g4, ec]
        exact nI_1 c
    by_cases full : vX1_areFull F = 0
    · obtain ⟨g1, g2, -⟩ := f1 full
      rw [if_neg g2]
      have hmr : sX4_makeRoom (D, F, Q, H, (C.1, C.2.1 + 1, C.2.2.1, C.2.2.2.1 + 1, C.2.2.2.2.1, C.2.2.2.2.2)) = (D, F, Q, H, (C.1, C.2.1 + 1, C.2.2.1, C.2.2.2.1 + 1, C.2.2.2.2.1, C.2.2.2.2.2)) := by
        unfold sX4_makeRoom
        rw [if_pos (show vX1_areFull F = 0 from full)]
      rw [hmr]
      obtain ⟨D1, Q1, F1, F3, k1, k2, k3, k4, k5, k6⟩ := load_same (D := D) (H := H) (H2 := Hn) (C := (C.1, C.2.1 + 1, C.2.2.1, C.2.2.2.1 + 1, C.2.2.2.2.1, C.2.2.2.2.2)) hF hQ hp hit g1
      rw [k1, k2]
      exact fin D1 F1 Q1 _ F3 k3 k4 rfl rfl (fun j hj hr => by rw [k5, upd_n _ _ hj] at hr; exact hr) (by rw [k5, upd_s]; decide) (by rw [k6])
    · rw [if_pos (f2 full).1]
      have hv9 : ¬ vX4_chooseVictim (D, F, Q, H, (C.1, C.2.1 + 1, C.2.2.1, C.2.2.2.1 + 1, C.2.2.2.2.1, C.2.2.2.2.2)) = -9 := by
        rw [vicX_C (C2 := C)]
        intro z
        refine hs ?_
        unfold vX4_canReference
        rw [if_pos (show vX1_holds F p = 0 from hit), if_neg (show ¬ vX1_areFull F = 0 from full), if_pos z]
      obtain ⟨hpv, hrv⟩ := (vic_res (D, F, Q, H, (C.1, C.2.1 + 1, C.2.2.1, C.2.2.2.1 + 1, C.2.2.2.2.1, C.2.2.2.2.2))).resolve_left hv9
      rw [← hvc]
      generalize hgv : vX4_chooseVictim (D, F, Q, H, (C.1, C.2.1 + 1, C.2.2.1, C.2.2.2.1 + 1, C.2.2.2.2.1, C.2.2.2.2.2)) = v at hpv hrv
      have hrv : ¬ F.1 (ix v) = 0 := hrv
      obtain ⟨D1, Q1, C1, F3, k1, k2, k3, k4, k5, k6⟩ := evict_same (H2 := Hn) hF hQ hpv hrv full hgv
      rw [k1, k2]
      have hne : ¬ ix p = ix v := fun z => hrv (by rw [← z]; exact hit)
      have hroom : (sX1_release F v).2.2.2.2.2 < (sX1_release F v).2.2.2.2.1 := by
        obtain ⟨-, -, -, -, -, -, ⟨cc, w1, w2, w3, w4⟩, w5, -⟩ := k3
        obtain ⟨-, -, -, -, -, -, ⟨cc2, x1, x2, x3, x4⟩, x5, -⟩ := hF
        have hcl := cnt_clear hrv 64 hpv.2.1
        have y1 : (sX1_release F v).2.2.2.2.1 = nI cc2 := x1
        have y2 : (sX1_release F v).1 = upd F.1 (ix v) 0 := rfl
        have x4 : cnt F.1 64 ≤ cc2 := x4
        rw [w5, y1, y2]
        have hle := cnt_le F.1 64
        exact (nI_ltI (by omega) (by omega)).mpr (by omega)
      have hit2 : (sX1_release F v).1 (ix p) = 0 := by
        show upd F.1 (ix v) 0 (ix p) = 0
        rw [upd_n _ _ hne]
        exact hit
      have hrel : (sX1_release F v).1 = upd F.1 (ix v) 0 := rfl
      have hpin : (sX1_release F v).2.2.2.1 (ix p) = F.2.2.2.1 (ix p) := upd_n F.2.2.2.1 0 hne
      generalize sX1_release F v = Fr at k3 hroom hit2 hrel hpin ⊢
      rw [← hrel] at k4
      obtain ⟨D3, Q3, F1, F4, j1, j2, j3, j4, j5, j6⟩ := load_same (D := D1) (H := H) (H2 := Hn) (C := C1) k3 k4 hp hit2 hroom
      rw [j1, j2]
      exact fin D3 F1 Q3 C1 F4 j3 j4 k5 k6 (fun j hj hr => by
        rw [j5, upd_n _ _ hj, hrel] at hr
        by_cases cj : j = ix v
        · rw [cj]; exact hrv
        · rw [upd_n _ _ cj] at hr; exact hr) (by rw [j5, upd_s]; decide) (by rw [j6]; exact hpin)
  · -- a hit
    have hns : ¬ stale (D, F2, Q, H2, C) p := fun z => hit (by rw [hF.1]; exact z.1)
    have hl : l = H.2.1 := by rw [hH.1]; exact l2 hns
    have hM : sX5_reference (D, F2, Q, H2, C) p = (D, F2, Q, (T, (if l (ix p) < H2.2.2 then upd l (ix p) (l (ix p) + 1) else l), H2.2.2), (C.1, C.2.1 + 1, C.2.2.1 + 1, C.2.2.2.1, C.2.2.2.2.1, C.2.2.2.2.2)) := by
      unfold sX5_reference
      rw [hrec]
      simp only []
      rw [if_neg (show ¬ F2.1 (ix p) = 0 by rw [← hF.1]; exact hit)]
    have hX : sX4_reference (D, F, Q, H, C) p = (D, F, Q, sX2_record H p (C.2.1 + 1), (C.1, C.2.1 + 1, C.2.2.1 + 1, C.2.2.2.1, C.2.2.2.2.1, C.2.2.2.2.2)) := by
      unfold sX4_reference
      rw [if_neg (show ¬ vX1_holds F p = 0 from hit)]
    rw [hM, hX]
    have hH3 : (H.1, l, H.2.2) = H := by rw [hl]
    rw [hH3] at r1 r2 r3
    refine ⟨⟨rfl, rfl, rfl, hF, hQ, r1, fun j hj hr => ?_, c + 1, ?_, by omega⟩, hit, rfl⟩
    · by_cases cj : j = ix p
      · rw [cj]; exact r3
      · rw [r2 j cj]; exact hres j hj hr
    · show C.2.1 + 1 = nI (c + 1)
      rw [ec]
      exact nI_1 c
