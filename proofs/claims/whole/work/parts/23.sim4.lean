/-! ===== eviction and loading ===== -/
theorem upd_upd (f : Nat → Int32) (k : Nat) (x y : Int32) : upd (upd f k x) k y = upd f k y := by
  funext j
  by_cases c : j = k
  · rw [c, upd_s, upd_s]
  · rw [upd_n _ _ c, upd_n _ _ c, upd_n _ _ c]
theorem FR.release {f : SF} {g : SFm} {p : Int32} (h : FR f g) (hp : Pg p) (hr : ¬ f.1 (ix p) = 0) : FR (sX1_release f p) (upd g.1 (ix p) 0, g.2.1, g.2.2.1, g.2.2.2.1, g.2.2.2.2) := by
  obtain ⟨a1, a2, a3, a4, a5, a6, ⟨c, b1, b2, b3, b4⟩, a8, a9⟩ := h
  have hc := cnt_clear hr 64 hp.2.1
  refine ⟨by rw [← a1]; rfl, a2, a3, fun j hj => ?_, fun j hj => ?_, fun j => ?_, ⟨c, b1, b2, b3, ?_⟩, ?_, fw_release a9⟩
  · show upd f.2.1 (ix p) 0 j = 0 ∧ upd f.2.2.2.1 (ix p) 0 j = 0
    by_cases c1 : j = ix p
    · rw [c1, upd_s, upd_s]; exact ⟨rfl, rfl⟩
    · rw [upd_n _ _ c1, upd_n _ _ c1]
      exact a4 j (by have : upd f.1 (ix p) 0 j = 0 := hj
                     rw [upd_n _ _ c1] at this
                     exact this)
  · have hj2 : ¬ upd f.1 (ix p) 0 j = 0 := hj
    have c1 : ¬ j = ix p := fun z => hj2 (by rw [z, upd_s])
    rw [upd_n _ _ c1] at hj2
    show upd f.2.1 (ix p) 0 j = g.2.1 j ∧ upd f.2.2.2.1 (ix p) 0 j = g.2.2.2.1 j
    rw [upd_n _ _ c1, upd_n _ _ c1]
    exact a5 j hj2
  · show ∃ n, n ≤ 9 ∧ upd f.2.2.2.1 (ix p) 0 j = nI n
    by_cases c1 : j = ix p
    · rw [c1, upd_s]; exact ⟨0, by omega, rfl⟩
    · rw [upd_n _ _ c1]; exact a6 j
  · show cnt (upd f.1 (ix p) 0) 64 ≤ c
    omega
  · show f.2.2.2.2.2 - 1 = nI (cnt (upd f.1 (ix p) 0) 64)
    rw [a8, show cnt f.1 64 = cnt (upd f.1 (ix p) 0) 64 + 1 by omega]
    exact nI_pred _
theorem FR.place {f : SF} {g : SFm} {p v b : Int32} {ch : Nat → Int32} (h : FR f g) (hp : Pg p) (hr : f.1 (ix p) = 0) (hroom : f.2.2.2.2.2 < f.2.2.2.2.1) (hch : ch (ix p) = b) (hch2 : ∀ j, ¬ j = ix p → ch j = f.2.1 j) (hb : B01 b) : FR (upd f.1 (ix p) 1, ch, upd f.2.2.1 (ix p) v, f.2.2.2.1, f.2.2.2.2.1, f.2.2.2.2.2 + 1) (upd g.1 (ix p) 1, upd g.2.1 (ix p) b, upd g.2.2.1 (ix p) v, upd g.2.2.2.1 (ix p) 0, g.2.2.2.2) := by
  obtain ⟨a1, a2, a3, a4, a5, a6, ⟨c, b1, b2, b3, b4⟩, a8, a9⟩ := h
  have hc := cnt_set (x := 1) hr (by decide) 64 hp.2.1
  have hle := cnt_le f.1 64
  rw [a8, b1] at hroom
  have hlt := (nI_ltI (by omega) (by omega)).mp hroom
  refine ⟨by rw [← a1], by rw [← a2], a3, fun j hj => ?_, fun j hj => ?_, a6, ⟨c, b1, b2, b3, ?_⟩, ?_, ⟨fun j => B01.upd a9.1 _ (Or.inr rfl) j, fun j => ?_⟩⟩
  · have hj2 : upd f.1 (ix p) 1 j = 0 := hj
    have c1 : ¬ j = ix p := fun z => by rw [z, upd_s] at hj2; exact absurd hj2 (by decide)
    rw [upd_n _ _ c1] at hj2
    show ch j = 0 ∧ f.2.2.2.1 j = 0
    rw [hch2 j c1]
    exact a4 j hj2
  · have hj2 : ¬ upd f.1 (ix p) 1 j = 0 := hj
    show ch j = upd g.2.1 (ix p) b j ∧ f.2.2.2.1 j = upd g.2.2.2.1 (ix p) 0 j
    by_cases c1 : j = ix p
    · rw [c1, upd_s, upd_s]; exact ⟨hch, (a4 _ hr).2⟩
    · rw [upd_n _ _ c1] at hj2
      rw [upd_n _ _ c1, upd_n _ _ c1, hch2 j c1]
      exact a5 j hj2
  · show cnt (upd f.1 (ix p) 1) 64 ≤ c
    omega
  · show f.2.2.2.2.2 + 1 = nI (cnt (upd f.1 (ix p) 1) 64)
    rw [a8, hc]
    exact nI_1 _
  · show B01 (ch j)
    by_cases c1 : j = ix p
    · rw [c1, hch]; exact hb
    · rw [hch2 j c1]; exact a9.2 j
theorem vic_res (x : SX) : vX4_chooseVictim x = -9 ∨ (Pg (vX4_chooseVictim x) ∧ ¬ x.2.1.1 (ix (vX4_chooseVictim x)) = 0) := by
  have loop : ∀ (n : Nat) (l1 l2 : Int32), PI n l2 → (l1 = -9 ∨ (Pg l1 ∧ ¬ x.2.1.1 (ix l1) = 0)) → (lvX4_chooseVictim_5 x n l1 l2 = -9 ∨ (Pg (lvX4_chooseVictim_5 x n l1 l2) ∧ ¬ x.2.1.1 (ix (lvX4_chooseVictim_5 x n l1 l2)) = 0)) := by
    intro n
    induction n with
    | zero => intro l1 l2 h; exact absurd h PI.zero
    | succ n ih =>
      intro l1 l2 h h1
      rw [lvX4_chooseVictim_5]
      split
      · rename_i c
        have hn := PI.next h c
        split
        · exact ih _ _ hn h1
        · rename_i c1
          have hp : l2 = -9 ∨ (Pg l2 ∧ ¬ x.2.1.1 (ix l2) = 0) := Or.inr ⟨PI.pg h c, c1⟩
          split
          · split
            · exact ih _ _ hn hp
            · split
              · exact ih _ _ hn h1
              · exact ih _ _ hn hp
          · exact ih _ _ hn h1
      · exact h1
  exact loop 65 _ _ PI.start (Or.inl rfl)
theorem wo_tuple (D : SD) (F2 : SFm) (Q : SQ) (H2 : SH) (C : SC) : sX5_writeOldest (D, F2, Q, H2, C) = (sX0_store D (Q.1 0) (Q.2.1 0), F2, lsX3_removeAt_21 0 9 (Q.1, Q.2.1, Q.2.2.1, Q.2.2.2 - 1) 0, H2, C) := by
  show sX5_removeEntry (sX5_writeToDisk (D, F2, Q, H2, C) (Q.1 0) (Q.2.1 0)) 0 = _
  rw [M_remove]
  rfl
theorem we_tuple (D : SD) (F : SF) (Q : SQ) (H : SH) (C : SC) {n i : Nat} (hq : QW Q) (hn : Q.2.2.2 = nI n) (h8 : n ≤ 8) (hi : i < n) : sX4_writeEntry (D, F, Q, H, C) (nI i) = (sX0_store D (Q.1 i) (Q.2.1 i), F, lsX3_removeAt_21 0 9 (Q.1, Q.2.1, Q.2.2.1, Q.2.2.2 - 1) (nI i), H, C) := by
  unfold sX4_writeEntry
  simp only []
  rw [pageAt_nI hn h8 hi, valueAt_nI hn h8 hi, removeAt_nI hn h8 hi, if_neg (hq.2 i (by omega)).ne]
theorem evict_same {D : SD} {F : SF} {Q : SQ} {H H2 : SH} {C : SC} {F2 : SFm} {v : Int32} (hF : FR F F2) (hQ : QU Q F.1) (hp : Pg v) (hr : ¬ F.1 (ix v) = 0) (hfull : ¬ vX1_areFull F = 0) (hv : vX4_chooseVictim (D, F, Q, H, C) = v) :
    ∃ (D1 : SD) (Q1 : SQ) (C1 : SC) (F3 : SFm), sX4_makeRoom (D, F, Q, H, C) = (D1, sX1_release F v, Q1, H, C1) ∧ sX5_evict (D, F2, Q, H2, C) v = (D1, F3, Q1, H2, C1) ∧ FR (sX1_release F v) F3 ∧ QU Q1 (upd F.1 (ix v) 0) ∧ C1.1 = C.1 ∧ C1.2.1 = C.2.1 := by
  have hd : F.2.1 (ix v) = F2.2.1 (ix v) := (hF.2.2.2.2.1 _ hr).1
  have hval : F.2.2.1 = F2.2.2.1 := hF.2.1
  have hres : ∀ j, F.1 j = 0 → upd F.1 (ix v) 0 j = 0 := fun j hj => by
    by_cases c1 : j = ix v
    · rw [c1, upd_s]
    · rw [upd_n _ _ c1]; exact hj
  by_cases c : F.2.1 (ix v) = 0
  · refine ⟨D, Q, (C.1, C.2.1, C.2.2.1, C.2.2.2.1, C.2.2.2.2.1 + 1, C.2.2.2.2.2), (upd F2.1 (ix v) 0, F2.2.1, F2.2.2.1, F2.2.2.2.1, F2.2.2.2.2), ?_, ?_, hF.release hp hr, hQ.res hres, rfl, rfl⟩
    · simp only [sX4_makeRoom, hv, if_neg hfull, if_neg hp.ne, vX1_isChanged, if_pos c]
    · unfold sX5_evict
      rw [if_pos (show F2.2.1 (ix v) = 0 from hd ▸ c)]
  · have c2 : ¬ F2.2.1 (ix v) = 0 := fun z => c (hd.trans z)
    obtain ⟨⟨n, k, e1, e2, h3, h4, h5⟩, hpg⟩ := hQ.1
    by_cases f : n = k
    · subst f
      have hnf : ¬ vX3_isFull Q = 0 := by
        unfold vX3_isFull
        rw [e1, e2, if_neg Int32.lt_irrefl]
        decide
      have hwe := we_tuple D F Q H C (i := 0) hQ.1 e1 (by omega) (by omega)
      obtain ⟨q1, -, q3, q4⟩ := QU.rem (p2 := 0) (i := 0) hQ e1 (by omega) (by omega) rfl
      have hwo := wo_tuple D (upd F2.1 (ix v) 0, F2.2.1, F2.2.2.1, F2.2.2.2.1, F2.2.2.2.2) Q H2 (C.1, C.2.1, C.2.2.1, C.2.2.2.1, C.2.2.2.2.1 + 1, C.2.2.2.2.2 + 1)
      have z0 : nI 0 = 0 := rfl
      rw [z0] at hwe q1 q3 q4
      generalize lsX3_removeAt_21 0 9 (Q.1, Q.2.1, Q.2.2.1, Q.2.2.2 - 1) 0 = Q1 at hwe hwo q1 q3 q4
      generalize sX0_store D (Q.1 0) (Q.2.1 0) = D1 at hwe hwo
      have hlt : Q1.2.2.2 < Q1.2.2.1 := by
        rw [q3, q4, e2]
        exact (nI_ltI (by omega) (by omega)).mpr (by omega)
      have hnf2 : vX3_isFull Q1 = 0 := by unfold vX3_isFull; rw [if_pos hlt]
      refine ⟨D1, (upd Q1.1 (ix Q1.2.2.2) v, upd Q1.2.1 (ix Q1.2.2.2) (F.2.2.1 (ix v)), Q1.2.2.1, Q1.2.2.2 + 1), (C.1, C.2.1, C.2.2.1, C.2.2.2.1, C.2.2.2.2.1 + 1, C.2.2.2.2.2 + 1), (upd F2.1 (ix v) 0, F2.2.1, F2.2.2.1, F2.2.2.2.1, F2.2.2.2.2), ?_, ?_, hF.release hp hr, q1.app hlt hp hr, rfl, rfl⟩
      · have hx : sX4_enqueue (D, F, Q, H, C) v = (D1, F, (upd Q1.1 (ix Q1.2.2.2) v, upd Q1.2.1 (ix Q1.2.2.2) (F.2.2.1 (ix v)), Q1.2.2.1, Q1.2.2.2 + 1), H, (C.1, C.2.1, C.2.2.1, C.2.2.2.1, C.2.2.2.2.1, C.2.2.2.2.2 + 1)) := by
          unfold sX4_enqueue
          rw [if_neg hnf, hwe]
          simp only [sX3_append, if_pos hnf2, vX1_valueOf]
        simp only [sX4_makeRoom, hv, if_neg hfull, if_neg hp.ne, vX1_isChanged, if_neg c, hx]
      · unfold sX5_evict
        rw [if_neg (show ¬ F2.2.1 (ix v) = 0 from c2), if_pos (show Q.2.2.2 = Q.2.2.1 by rw [e1, e2])]
        simp only [hwo, hval]
    · have hlt : Q.2.2.2 < Q.2.2.1 := by
        rw [e1, e2]
        exact (nI_ltI (by omega) (by omega)).mpr (by omega)
      have hnf : vX3_isFull Q = 0 := by unfold vX3_isFull; rw [if_pos hlt]
      refine ⟨D, (upd Q.1 (ix Q.2.2.2) v, upd Q.2.1 (ix Q.2.2.2) (F.2.2.1 (ix v)), Q.2.2.1, Q.2.2.2 + 1), (C.1, C.2.1, C.2.2.1, C.2.2.2.1, C.2.2.2.2.1 + 1, C.2.2.2.2.2), (upd F2.1 (ix v) 0, F2.2.1, F2.2.2.1, F2.2.2.2.1, F2.2.2.2.2), ?_, ?_, hF.release hp hr, hQ.app hlt hp hr, rfl, rfl⟩
      · have hx : sX4_enqueue (D, F, Q, H, C) v = (D, F, (upd Q.1 (ix Q.2.2.2) v, upd Q.2.1 (ix Q.2.2.2) (F.2.2.1 (ix v)), Q.2.2.1, Q.2.2.2 + 1), H, C) := by
          unfold sX4_enqueue
          rw [if_pos hnf]
          simp only [sX3_append, if_pos hnf, vX1_valueOf]
        simp only [sX4_makeRoom, hv, if_neg hfull, if_neg hp.ne, vX1_isChanged, if_neg c, hx]
      · unfold sX5_evict
        rw [if_neg (show ¬ F2.2.1 (ix v) = 0 from c2), if_neg (show ¬ Q.2.2.2 = Q.2.2.1 by rw [e1, e2]; exact fun z => f ((nI_eq (by omega) (by omega)).mp z))]
        simp only [hval]
def loadT (m : SM) (p : Int32) : SM := if vX5_positionInQueue m p = -9 then ((m.1.1, m.1.2.1 + 1, m.1.2.2), (upd m.2.1.1 (ix p) 1, upd m.2.1.2.1 (ix p) 0, upd m.2.1.2.2.1 (ix p) (m.1.1 (ix p)), upd m.2.1.2.2.2.1 (ix p) 0, m.2.1.2.2.2.2), m.2.2.1, m.2.2.2.1, m.2.2.2.2) else sX5_removeEntry (m.1, (upd m.2.1.1 (ix p) 1, upd m.2.1.2.1 (ix p) 1, upd m.2.1.2.2.1 (ix p) (m.2.2.1.2.1 (ix (vX5_positionInQueue m p))), upd m.2.1.2.2.2.1 (ix p) 0, m.2.1.2.2.2.2), m.2.2.1, m.2.2.2.1, m.2.2.2.2) (vX5_positionInQueue m p)
theorem load_cut (m : SM) (p : Int32) : sX5_load m p = if vX5_residentCount m = m.2.1.2.2.2.2 then loadT (sX5_evict m (vX5_victim m)) p else loadT m p := by
  unfold sX5_load loadT
  split <;> rfl
theorem load_same {D : SD} {F : SF} {Q : SQ} {H H2 : SH} {C : SC} {F2 : SFm} {p : Int32} (hF : FR F F2) (hQ : QU Q F.1) (hp : Pg p) (hr : F.1 (ix p) = 0) (hroom : F.2.2.2.2.2 < F.2.2.2.2.1) :
    ∃ (D1 : SD) (Q1 : SQ) (F1 : SF) (F3 : SFm), sX4_load (D, F, Q, H, C) p = (D1, F1, Q1, H, C) ∧ loadT (D, F2, Q, H2, C) p = (D1, F3, Q1, H2, C) ∧ FR F1 F3 ∧ QU Q1 F1.1 ∧ F1.1 = upd F.1 (ix p) 1 ∧ F1.2.2.2.1 = F.2.2.2.1 := by
  obtain ⟨hw, n, a, b, d, e⟩ := id hQ
  have hpos : vX5_positionInQueue (D, F2, Q, H2, C) p = vX3_positionOf Q p := pos_same _ p
  rcases pos_spec (q := Q) (p := p) a b with ⟨h1, h2⟩ | ⟨i, hi, h1, h2⟩
  · refine ⟨(D.1, D.2.1 + 1, D.2.2), Q, (upd F.1 (ix p) 1, F.2.1, upd F.2.2.1 (ix p) (D.1 (ix p)), F.2.2.2.1, F.2.2.2.2.1, F.2.2.2.2.2 + 1), (upd F2.1 (ix p) 1, upd F2.2.1 (ix p) 0, upd F2.2.2.1 (ix p) (D.1 (ix p)), upd F2.2.2.2.1 (ix p) 0, F2.2.2.2.2), ?_, ?_, FR.place hF hp hr hroom (hF.2.2.2.1 _ hr).1 (fun _ _ => rfl) (Or.inl rfl), ?_, rfl, rfl⟩
    · unfold sX4_load
      rw [if_pos h1]
      rfl
    · unfold loadT
      rw [hpos, if_pos h1]
    · refine ⟨hw, n, a, b, fun i hi => ?_, e⟩
      show upd F.1 (ix p) 1 (ix (Q.1 i)) = 0
      rw [upd_n _ _ (fun z => h2 i hi (pg_ix (hw.2 i (by omega)) hp z))]
      exact d i hi
  · have hne : ¬ vX3_positionOf Q p = -9 := by rw [h1]; exact nI_ne9 (by omega)
    obtain ⟨-, q2, -, -⟩ := QU.rem (p2 := 0) (p := nI i) hQ a b hi rfl
    have hrm := removeAt_nI (q := Q) a b hi
    have hva := valueAt_nI (q := Q) a b hi
    refine ⟨D, lsX3_removeAt_21 0 9 (Q.1, Q.2.1, Q.2.2.1, Q.2.2.2 - 1) (nI i), (upd F.1 (ix p) 1, upd F.2.1 (ix p) 1, upd F.2.2.1 (ix p) (Q.2.1 i), F.2.2.2.1, F.2.2.2.2.1, F.2.2.2.2.2 + 1), (upd F2.1 (ix p) 1, upd F2.2.1 (ix p) 1, upd F2.2.2.1 (ix p) (Q.2.1 i), upd F2.2.2.2.1 (ix p) 0, F2.2.2.2.2), ?_, ?_, FR.place hF hp hr hroom (upd_s _ _ _) (fun j hj => upd_n _ _ hj) (Or.inr rfl), q2 _ (fun j hj h0 => ?_), rfl, rfl⟩
    · unfold sX4_load
      rw [if_neg hne]
      simp only [h1, hrm, hva, sX1_place, sX1_change, upd_upd]
    · unfold loadT
      rw [hpos, if_neg hne, M_remove, h1]
      simp only [ixN (show i < 2147483648 by omega)]
    · rw [h2] at hj
      show upd F.1 (ix p) 1 j = 0
      rw [upd_n _ _ hj]
      exact h0
