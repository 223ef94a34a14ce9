/-! ===== states and worlds ===== -/
abbrev SD : Type := (Nat → Int32) × Int32 × Int32
abbrev SF : Type := (Nat → Int32) × (Nat → Int32) × (Nat → Int32) × (Nat → Int32) × Int32 × Int32
abbrev SFm : Type := (Nat → Int32) × (Nat → Int32) × (Nat → Int32) × (Nat → Int32) × Int32
abbrev SQ : Type := (Nat → Int32) × (Nat → Int32) × Int32 × Int32
abbrev SH : Type := (Nat → Int32) × (Nat → Int32) × Int32
abbrev SC : Type := Int32 × Int32 × Int32 × Int32 × Int32 × Int32
abbrev SX : Type := SD × SF × SQ × SH × SC
abbrev SM : Type := SD × SFm × SQ × SH × SC
abbrev ix (p : Int32) : Nat := p.toNatClampNeg
def wA (q : Nat) (cI : ClassId) (u : Nat → Int32) : va_W := [(q, .inl (cI, 64, .inl u))]
def wD (o a : Nat) (cI : ClassId) (u : SD) : va_W := [(o, .inr (0, [.ref a, .int u.2.1, .int u.2.2])), (a, .inl (cI, 64, .inl u.1))]
def wF (o r c v p : Nat) (cI cZ : ClassId) (u : SF) : va_W := [(o, .inr (1, [.ref r, .ref c, .ref v, .ref p, .int u.2.2.2.2.1, .int u.2.2.2.2.2])), (r, .inl (cZ, 64, .inl u.1)), (c, .inl (cZ, 64, .inl u.2.1)), (v, .inl (cI, 64, .inl u.2.2.1)), (p, .inl (cI, 64, .inl u.2.2.2.1))]
def wH (o t b : Nat) (cI : ClassId) (u : SH) : va_W := [(o, .inr (2, [.ref t, .ref b, .int u.2.2])), (t, .inl (cI, 192, .inl u.1)), (b, .inl (cI, 64, .inl u.2.1))]
def wQ (o g v : Nat) (cI : ClassId) (u : SQ) : va_W := [(o, .inr (3, [.ref g, .ref v, .int u.2.2.1, .int u.2.2.2])), (g, .inl (cI, 8, .inl u.1)), (v, .inl (cI, 8, .inl u.2.1))]
def wX (a : Nat → Nat) (cI cZ : ClassId) (u : SX) : va_W := (a 0, .inr (4, [.ref (a 1), .ref (a 3), .ref (a 8), .ref (a 11), .int u.2.2.2.2.1, .int u.2.2.2.2.2.1, .int u.2.2.2.2.2.2.1, .int u.2.2.2.2.2.2.2.1, .int u.2.2.2.2.2.2.2.2.1, .int u.2.2.2.2.2.2.2.2.2])) :: (wD (a 1) (a 2) cI u.1 ++ (wF (a 3) (a 4) (a 5) (a 6) (a 7) cI cZ u.2.1 ++ (wQ (a 8) (a 9) (a 10) cI u.2.2.1 ++ wH (a 11) (a 12) (a 13) cI u.2.2.2.1)))
def wM (a : Nat → Nat) (cI cZ : ClassId) (u : SM) : va_W := [(a 0, .inr (5, [.int u.2.1.2.2.2.2, .int u.2.2.2.1.2.2, .int u.2.2.1.2.2.1, .int u.2.2.2.2.1, .int u.2.2.2.2.2.1, .int u.2.2.2.2.2.2.1, .int u.2.2.2.2.2.2.2.1, .int u.2.2.2.2.2.2.2.2.1, .int u.1.2.1, .int u.1.2.2, .int u.2.2.2.2.2.2.2.2.2, .ref (a 1), .ref (a 2), .ref (a 3), .ref (a 4), .ref (a 5), .ref (a 6), .ref (a 7), .ref (a 8), .ref (a 9), .int u.2.2.1.2.2.2])), (a 1, .inl (cI, 64, .inl u.1.1)), (a 2, .inl (cI, 64, .inl u.2.1.2.2.1)), (a 3, .inl (cI, 64, .inl u.2.1.2.2.2.1)), (a 4, .inl (cZ, 64, .inl u.2.1.1)), (a 5, .inl (cZ, 64, .inl u.2.1.2.1)), (a 6, .inl (cI, 192, .inl u.2.2.2.1.1)), (a 7, .inl (cI, 64, .inl u.2.2.2.1.2.1)), (a 8, .inl (cI, 8, .inl u.2.2.1.1)), (a 9, .inl (cI, 8, .inl u.2.2.1.2.1))]
def lsJ7_fill_53178_5 (p1 : Int32) : Nat → (Nat → Int32) → Int32 → (Nat → Int32)
  | 0, w, _ => w
  | n + 1, w, l2 => if l2 < (nI 64) then lsJ7_fill_53178_5 p1 n (upd w (ix l2) p1) (l2 + 1) else w
def sJ7_fill_53178 (u : (Nat → Int32)) (p1 : Int32) : (Nat → Int32) := lsJ7_fill_53178_5 p1 65 u 0
def sX0_erase (u : SD) : SD := ((sJ7_fill_53178 u.1 0), 0, 0)
def sX1_vacate (u : SF) (p0 : Int32) : SF := (upd u.1 (ix p0) 0, upd u.2.1 (ix p0) 0, u.2.2.1, upd u.2.2.2.1 (ix p0) 0, u.2.2.2.2.1, u.2.2.2.2.2)
def lsX1_empty_2 (p0 : Int32) : Nat → SF → Int32 → SF
  | 0, w, _ => w
  | n + 1, w, l2 => if l2 < 64 then lsX1_empty_2 p0 n (sX1_vacate w l2) (l2 + 1) else (w.1, w.2.1, w.2.2.1, w.2.2.2.1, p0, 0)
def sX1_empty (u : SF) (p0 : Int32) : SF := lsX1_empty_2 p0 65 u 0
def sX3_empty (u : SQ) (p0 : Int32) : SQ := (u.1, u.2.1, p0, 0)
def sX2_forgetAll (u : SH) (p0 : Int32) : SH := (u.1, (sJ7_fill_53178 u.2.1 0), p0)
def sX4_startAnew (u : SX) (p0 p1 p2 p3 : Int32) : SX := ((sX0_erase u.1), (sX1_empty u.2.1 p0), (sX3_empty u.2.2.1 p2), (sX2_forgetAll u.2.2.2.1 p1), (p3, 0, 0, 0, 0, 0))
def vX4_isWithin (p0 p1 p2 : Int32) : Int32 := if p0 < p1 then 0 else if p2 < p0 then 0 else 1
def vX4_reset (u : SX) (p0 p1 p2 p3 : Int32) : Int32 := if (vX4_isWithin p0 1 16) = 0 then (-8) else if (vX4_isWithin p1 1 3) = 0 then (-8) else if (vX4_isWithin p2 1 8) = 0 then (-8) else if (vX4_isWithin p3 0 9999) = 0 then (-8) else 0
def sX4_reset (u : SX) (p0 p1 p2 p3 : Int32) : SX := if (vX4_isWithin p0 1 16) = 0 then u else if (vX4_isWithin p1 1 3) = 0 then u else if (vX4_isWithin p2 1 8) = 0 then u else if (vX4_isWithin p3 0 9999) = 0 then u else (sX4_startAnew u p0 p1 p2 p3)
def vX4_isPage (p0 : Int32) : Int32 := (vX4_isWithin p0 0 63)
def vX1_holds (u : SF) (p0 : Int32) : Int32 := u.1 (ix p0)
def vX1_areFull (u : SF) : Int32 := if u.2.2.2.2.2 < u.2.2.2.2.1 then 0 else 1
def vX1_pinsOf (u : SF) (p0 : Int32) : Int32 := u.2.2.2.1 (ix p0)
def vX2_timeOf (u : SH) (p0 p1 : Int32) : Int32 := if p1 < 1 then (-9) else if (u.2.1 (ix p0)) < p1 then (-9) else u.1 (ix (((p0 * 3) + p1) - 1))
def vX2_goesBefore (u : SH) (p0 p1 : Int32) : Int32 := if (u.2.1 (ix p0)) < u.2.2 then (if (u.2.1 (ix p1)) < u.2.2 then (if (vX2_timeOf u p0 1) < (vX2_timeOf u p1 1) then 1 else 0) else 1) else if (u.2.1 (ix p1)) < u.2.2 then 0 else if (vX2_timeOf u p0 u.2.2) < (vX2_timeOf u p1 u.2.2) then 1 else 0
def lvX4_chooseVictim_5 (u : SX) : Nat → Int32 → Int32 → Int32
  | 0, _, _ => 0
  | n + 1, l1, l2 => if l2 < 64 then (if (vX1_holds u.2.1 l2) = 0 then lvX4_chooseVictim_5 u n l1 (l2 + 1) else if (vX1_pinsOf u.2.1 l2) = 0 then (if l1 = (-9) then lvX4_chooseVictim_5 u n l2 (l2 + 1) else if (vX2_goesBefore u.2.2.2.1 l2 l1) = 0 then lvX4_chooseVictim_5 u n l1 (l2 + 1) else lvX4_chooseVictim_5 u n l2 (l2 + 1)) else lvX4_chooseVictim_5 u n l1 (l2 + 1)) else l1
def vX4_chooseVictim (u : SX) : Int32 := lvX4_chooseVictim_5 u 65 (-9) 0
def vX4_canReference (u : SX) (p0 : Int32) : Int32 := if (vX1_holds u.2.1 p0) = 0 then (if (vX1_areFull u.2.1) = 0 then 1 else if (vX4_chooseVictim u) = (-9) then 0 else 1) else 1
def vX1_isChanged (u : SF) (p0 : Int32) : Int32 := u.2.1 (ix p0)
def sX1_release (u : SF) (p0 : Int32) : SF := ((sX1_vacate u p0).1, (sX1_vacate u p0).2.1, (sX1_vacate u p0).2.2.1, (sX1_vacate u p0).2.2.2.1, (sX1_vacate u p0).2.2.2.2.1, (sX1_vacate u p0).2.2.2.2.2 - 1)
def vX3_isFull (u : SQ) : Int32 := if u.2.2.2 < u.2.2.1 then 0 else 1
def vX1_valueOf (u : SF) (p0 : Int32) : Int32 := u.2.2.1 (ix p0)
def sX3_append (u : SQ) (p0 p1 : Int32) : SQ := if (vX3_isFull u) = 0 then (upd u.1 (ix u.2.2.2) p0, upd u.2.1 (ix u.2.2.2) p1, u.2.2.1, u.2.2.2 + 1) else u
def vX3_has (u : SQ) (p0 : Int32) : Int32 := if p0 < 0 then 0 else if p0 < u.2.2.2 then 1 else 0
def vX3_pageAt (u : SQ) (p0 : Int32) : Int32 := if (vX3_has u p0) = 0 then (-9) else u.1 (ix p0)
def vX3_valueAt (u : SQ) (p0 : Int32) : Int32 := if (vX3_has u p0) = 0 then (-9) else u.2.1 (ix p0)
def sX0_store (u : SD) (p0 p1 : Int32) : SD := (upd u.1 (ix p0) p1, u.2.1, u.2.2 + 1)
def lsX3_removeAt_21 (p0 : Int32) : Nat → SQ → Int32 → SQ
  | 0, w, _ => w
  | n + 1, w, l2 => if l2 < w.2.2.2 then lsX3_removeAt_21 p0 n (upd w.1 (ix l2) (w.1 (ix (l2 + 1))), upd w.2.1 (ix l2) (w.2.1 (ix (l2 + 1))), w.2.2.1, w.2.2.2) (l2 + 1) else w
def sX3_removeAt (u : SQ) (p0 : Int32) : SQ := if (vX3_has u p0) = 0 then u else lsX3_removeAt_21 p0 9 (u.1, u.2.1, u.2.2.1, u.2.2.2 - 1) p0
def sX4_writeEntry (u : SX) (p0 : Int32) : SX := if (vX3_pageAt u.2.2.1 p0) = (-9) then u else ((sX0_store u.1 (vX3_pageAt u.2.2.1 p0) (vX3_valueAt u.2.2.1 p0)), u.2.1, (sX3_removeAt u.2.2.1 p0), u.2.2.2.1, u.2.2.2.2)
def sX4_enqueue (u : SX) (p0 : Int32) : SX := if (vX3_isFull u.2.2.1) = 0 then (u.1, u.2.1, (sX3_append u.2.2.1 p0 (vX1_valueOf u.2.1 p0)), u.2.2.2.1, u.2.2.2.2) else ((sX4_writeEntry u 0).1, (sX4_writeEntry u 0).2.1, (sX3_append (sX4_writeEntry u 0).2.2.1 p0 (vX1_valueOf (sX4_writeEntry u 0).2.1 p0)), (sX4_writeEntry u 0).2.2.2.1, ((sX4_writeEntry u 0).2.2.2.2.1, (sX4_writeEntry u 0).2.2.2.2.2.1, (sX4_writeEntry u 0).2.2.2.2.2.2.1, (sX4_writeEntry u 0).2.2.2.2.2.2.2.1, (sX4_writeEntry u 0).2.2.2.2.2.2.2.2.1, (sX4_writeEntry u 0).2.2.2.2.2.2.2.2.2 + 1))
def sX4_makeRoom (u : SX) : SX := if (vX1_areFull u.2.1) = 0 then u else if (vX4_chooseVictim u) = (-9) then u else if (vX1_isChanged u.2.1 (vX4_chooseVictim u)) = 0 then (u.1, (sX1_release u.2.1 (vX4_chooseVictim u)), u.2.2.1, u.2.2.2.1, (u.2.2.2.2.1, u.2.2.2.2.2.1, u.2.2.2.2.2.2.1, u.2.2.2.2.2.2.2.1, u.2.2.2.2.2.2.2.2.1 + 1, u.2.2.2.2.2.2.2.2.2)) else ((sX4_enqueue u (vX4_chooseVictim u)).1, (sX1_release (sX4_enqueue u (vX4_chooseVictim u)).2.1 (vX4_chooseVictim u)), (sX4_enqueue u (vX4_chooseVictim u)).2.2.1, (sX4_enqueue u (vX4_chooseVictim u)).2.2.2.1, ((sX4_enqueue u (vX4_chooseVictim u)).2.2.2.2.1, (sX4_enqueue u (vX4_chooseVictim u)).2.2.2.2.2.1, (sX4_enqueue u (vX4_chooseVictim u)).2.2.2.2.2.2.1, (sX4_enqueue u (vX4_chooseVictim u)).2.2.2.2.2.2.2.1, (sX4_enqueue u (vX4_chooseVictim u)).2.2.2.2.2.2.2.2.1 + 1, (sX4_enqueue u (vX4_chooseVictim u)).2.2.2.2.2.2.2.2.2))
def lvX3_positionOf_2 (u : SQ) (p0 : Int32) : Nat → Int32 → Int32
  | 0, _ => 0
  | n + 1, l2 => if l2 < u.2.2.2 then (if (u.1 (ix l2)) = p0 then l2 else lvX3_positionOf_2 u p0 n (l2 + 1)) else (-9)
def vX3_positionOf (u : SQ) (p0 : Int32) : Int32 := lvX3_positionOf_2 u p0 9 0
def sX1_place (u : SF) (p0 p1 : Int32) : SF := (upd u.1 (ix p0) 1, u.2.1, upd u.2.2.1 (ix p0) p1, u.2.2.2.1, u.2.2.2.2.1, u.2.2.2.2.2 + 1)
def sX1_change (u : SF) (p0 p1 : Int32) : SF := (u.1, upd u.2.1 (ix p0) 1, upd u.2.2.1 (ix p0) p1, u.2.2.2.1, u.2.2.2.2.1, u.2.2.2.2.2)
def vX0_load (u : SD) (p0 : Int32) : Int32 := u.1 (ix p0)
def sX0_load (u : SD) (p0 : Int32) : SD := (u.1, u.2.1 + 1, u.2.2)
def sX4_load (u : SX) (p0 : Int32) : SX := if (vX3_positionOf u.2.2.1 p0) = (-9) then ((sX0_load u.1 p0), (sX1_place u.2.1 p0 (vX0_load u.1 p0)), u.2.2.1, u.2.2.2.1, u.2.2.2.2) else (u.1, (sX1_change (sX1_place u.2.1 p0 (vX3_valueAt u.2.2.1 (vX3_positionOf u.2.2.1 p0))) p0 (vX3_valueAt u.2.2.1 (vX3_positionOf u.2.2.1 p0))), (sX3_removeAt u.2.2.1 (vX3_positionOf u.2.2.1 p0)), u.2.2.2.1, u.2.2.2.2)
def sX2_forget (u : SH) (p0 : Int32) : SH := (u.1, upd u.2.1 (ix p0) 0, u.2.2)
def sX4_forgetIfStale (u : SX) (p0 : Int32) : SX := if (vX2_timeOf u.2.2.2.1 p0 1) = (-9) then u else if u.2.2.2.2.1 < (u.2.2.2.2.2.1 - (vX2_timeOf u.2.2.2.1 p0 1)) then (u.1, u.2.1, u.2.2.1, (sX2_forget u.2.2.2.1 p0), u.2.2.2.2) else u
def lsX2_record_11 (p0 p1 : Int32) : Nat → SH → Int32 → SH
  | 0, w, _ => w
  | n + 1, w, l4 => if (p0 * 3) < l4 then lsX2_record_11 p0 p1 n (upd w.1 (ix l4) (w.1 (ix (l4 - 1))), w.2.1, w.2.2) (l4 + (-1)) else if (w.2.1 (ix p0)) < w.2.2 then (upd w.1 (ix (p0 * 3)) p1, upd w.2.1 (ix p0) ((w.2.1 (ix p0)) + 1), w.2.2) else (upd w.1 (ix (p0 * 3)) p1, w.2.1, w.2.2)
def sX2_record (u : SH) (p0 p1 : Int32) : SH := lsX2_record_11 p0 p1 3 u (((p0 * 3) + 3) - 1)
def sX4_reference (u : SX) (p0 : Int32) : SX := if (vX1_holds u.2.1 p0) = 0 then ((sX4_forgetIfStale (sX4_load (sX4_makeRoom (u.1, u.2.1, u.2.2.1, u.2.2.2.1, (u.2.2.2.2.1, u.2.2.2.2.2.1 + 1, u.2.2.2.2.2.2.1, u.2.2.2.2.2.2.2.1 + 1, u.2.2.2.2.2.2.2.2.1, u.2.2.2.2.2.2.2.2.2))) p0) p0).1, (sX4_forgetIfStale (sX4_load (sX4_makeRoom (u.1, u.2.1, u.2.2.1, u.2.2.2.1, (u.2.2.2.2.1, u.2.2.2.2.2.1 + 1, u.2.2.2.2.2.2.1, u.2.2.2.2.2.2.2.1 + 1, u.2.2.2.2.2.2.2.2.1, u.2.2.2.2.2.2.2.2.2))) p0) p0).2.1, (sX4_forgetIfStale (sX4_load (sX4_makeRoom (u.1, u.2.1, u.2.2.1, u.2.2.2.1, (u.2.2.2.2.1, u.2.2.2.2.2.1 + 1, u.2.2.2.2.2.2.1, u.2.2.2.2.2.2.2.1 + 1, u.2.2.2.2.2.2.2.2.1, u.2.2.2.2.2.2.2.2.2))) p0) p0).2.2.1, (sX2_record (sX4_forgetIfStale (sX4_load (sX4_makeRoom (u.1, u.2.1, u.2.2.1, u.2.2.2.1, (u.2.2.2.2.1, u.2.2.2.2.2.1 + 1, u.2.2.2.2.2.2.1, u.2.2.2.2.2.2.2.1 + 1, u.2.2.2.2.2.2.2.2.1, u.2.2.2.2.2.2.2.2.2))) p0) p0).2.2.2.1 p0 (sX4_forgetIfStale (sX4_load (sX4_makeRoom (u.1, u.2.1, u.2.2.1, u.2.2.2.1, (u.2.2.2.2.1, u.2.2.2.2.2.1 + 1, u.2.2.2.2.2.2.1, u.2.2.2.2.2.2.2.1 + 1, u.2.2.2.2.2.2.2.2.1, u.2.2.2.2.2.2.2.2.2))) p0) p0).2.2.2.2.2.1), (sX4_forgetIfStale (sX4_load (sX4_makeRoom (u.1, u.2.1, u.2.2.1, u.2.2.2.1, (u.2.2.2.2.1, u.2.2.2.2.2.1 + 1, u.2.2.2.2.2.2.1, u.2.2.2.2.2.2.2.1 + 1, u.2.2.2.2.2.2.2.2.1, u.2.2.2.2.2.2.2.2.2))) p0) p0).2.2.2.2) else (u.1, u.2.1, u.2.2.1, (sX2_record u.2.2.2.1 p0 (u.2.2.2.2.2.1 + 1)), (u.2.2.2.2.1, u.2.2.2.2.2.1 + 1, u.2.2.2.2.2.2.1 + 1, u.2.2.2.2.2.2.2.1, u.2.2.2.2.2.2.2.2.1, u.2.2.2.2.2.2.2.2.2))
def vX4_read (u : SX) (p0 : Int32) : Int32 := if (vX4_isPage p0) = 0 then (-1) else if (vX4_canReference u p0) = 0 then (-3) else (vX1_valueOf (sX4_reference u p0).2.1 p0)
def sX4_read (u : SX) (p0 : Int32) : SX := if (vX4_isPage p0) = 0 then u else if (vX4_canReference u p0) = 0 then u else (sX4_reference u p0)
def vX4_write (u : SX) (p0 p1 : Int32) : Int32 := if (vX4_isPage p0) = 0 then (-1) else if (vX4_isWithin p1 0 9999) = 0 then (-2) else if (vX4_canReference u p0) = 0 then (-3) else (vX1_valueOf (sX4_reference u p0).2.1 p0)
def sX4_write (u : SX) (p0 p1 : Int32) : SX := if (vX4_isPage p0) = 0 then u else if (vX4_isWithin p1 0 9999) = 0 then u else if (vX4_canReference u p0) = 0 then u else ((sX4_reference u p0).1, (sX1_change (sX4_reference u p0).2.1 p0 p1), (sX4_reference u p0).2.2.1, (sX4_reference u p0).2.2.2.1, (sX4_reference u p0).2.2.2.2)
def sX1_addPin (u : SF) (p0 : Int32) : SF := (u.1, u.2.1, u.2.2.1, upd u.2.2.2.1 (ix p0) ((u.2.2.2.1 (ix p0)) + 1), u.2.2.2.2.1, u.2.2.2.2.2)
def vX4_pin (u : SX) (p0 : Int32) : Int32 := if (vX4_isPage p0) = 0 then (-1) else if (vX1_pinsOf u.2.1 p0) < 9 then (if (vX4_canReference u p0) = 0 then (-3) else (vX1_pinsOf (sX1_addPin (sX4_reference u p0).2.1 p0) p0)) else (-6)
def sX4_pin (u : SX) (p0 : Int32) : SX := if (vX4_isPage p0) = 0 then u else if (vX1_pinsOf u.2.1 p0) < 9 then (if (vX4_canReference u p0) = 0 then u else ((sX4_reference u p0).1, (sX1_addPin (sX4_reference u p0).2.1 p0), (sX4_reference u p0).2.2.1, (sX4_reference u p0).2.2.2.1, (sX4_reference u p0).2.2.2.2)) else u
def sX1_removePin (u : SF) (p0 : Int32) : SF := (u.1, u.2.1, u.2.2.1, upd u.2.2.2.1 (ix p0) ((u.2.2.2.1 (ix p0)) - 1), u.2.2.2.2.1, u.2.2.2.2.2)
def vX4_unpin (u : SX) (p0 : Int32) : Int32 := if (vX4_isPage p0) = 0 then (-1) else if (vX1_holds u.2.1 p0) = 0 then (-4) else if (vX1_pinsOf u.2.1 p0) = 0 then (-5) else (vX1_pinsOf (sX1_removePin u.2.1 p0) p0)
def sX4_unpin (u : SX) (p0 : Int32) : SX := if (vX4_isPage p0) = 0 then u else if (vX1_holds u.2.1 p0) = 0 then u else if (vX1_pinsOf u.2.1 p0) = 0 then u else (u.1, (sX1_removePin u.2.1 p0), u.2.2.1, u.2.2.2.1, u.2.2.2.2)
def sX1_markClean (u : SF) (p0 : Int32) : SF := (u.1, upd u.2.1 (ix p0) 0, u.2.2.1, u.2.2.2.1, u.2.2.2.2.1, u.2.2.2.2.2)
def sX4_writeFrame (u : SX) (p0 : Int32) : SX := ((sX0_store u.1 p0 (vX1_valueOf u.2.1 p0)), (sX1_markClean u.2.1 p0), u.2.2.1, u.2.2.2.1, u.2.2.2.2)
def vX4_flush (u : SX) (p0 : Int32) : Int32 := if (vX4_isPage p0) = 0 then (-1) else if (vX1_isChanged u.2.1 p0) = 0 then (if (vX3_positionOf u.2.2.1 p0) = (-9) then 0 else 1) else 1
def sX4_flush (u : SX) (p0 : Int32) : SX := if (vX4_isPage p0) = 0 then u else if (vX1_isChanged u.2.1 p0) = 0 then (if (vX3_positionOf u.2.2.1 p0) = (-9) then u else (sX4_writeEntry u (vX3_positionOf u.2.2.1 p0))) else (sX4_writeFrame u p0)
def vX3_length (u : SQ) : Int32 := u.2.2.2
def lvX4_writeOldest_14 (p0 : Int32) : Nat → SX → Int32 → Int32 → Int32
  | 0, w, _, _ => 0
  | n + 1, w, l2, l3 => if l3 < l2 then lvX4_writeOldest_14 p0 n (sX4_writeEntry w 0) l2 (l3 + 1) else l2
def lsX4_writeOldest_14 (p0 : Int32) : Nat → SX → Int32 → Int32 → SX
  | 0, w, _, _ => w
  | n + 1, w, l2, l3 => if l3 < l2 then lsX4_writeOldest_14 p0 n (sX4_writeEntry w 0) l2 (l3 + 1) else w
def vX4_writeOldest (u : SX) (p0 : Int32) : Int32 := lvX4_writeOldest_14 p0 9 u (if (vX3_length u.2.2.1) < p0 then (vX3_length u.2.2.1) else p0) 0
def sX4_writeOldest (u : SX) (p0 : Int32) : SX := lsX4_writeOldest_14 p0 9 u (if (vX3_length u.2.2.1) < p0 then (vX3_length u.2.2.1) else p0) 0
def lvX4_flushAll_14  : Nat → SX → Int32 → Int32 → Int32
  | 0, w, _, _ => 0
  | n + 1, w, l1, l2 => if l2 < 64 then (if (vX1_isChanged w.2.1 l2) = 0 then lvX4_flushAll_14 n w l1 (l2 + 1) else lvX4_flushAll_14 n (sX4_writeFrame w l2) (l1 + 1) (l2 + 1)) else l1
def lsX4_flushAll_14  : Nat → SX → Int32 → Int32 → SX
  | 0, w, _, _ => w
  | n + 1, w, l1, l2 => if l2 < 64 then (if (vX1_isChanged w.2.1 l2) = 0 then lsX4_flushAll_14 n w l1 (l2 + 1) else lsX4_flushAll_14 n (sX4_writeFrame w l2) (l1 + 1) (l2 + 1)) else w
def vX4_flushAll (u : SX) : Int32 := lvX4_flushAll_14 65 (sX4_writeOldest u (vX3_length u.2.2.1)) (vX4_writeOldest u (vX3_length u.2.2.1)) 0
def sX4_flushAll (u : SX) : SX := lsX4_flushAll_14 65 (sX4_writeOldest u (vX3_length u.2.2.1)) (vX4_writeOldest u (vX3_length u.2.2.1)) 0
def vX4_drain (u : SX) (p0 : Int32) : Int32 := if (vX4_isWithin p0 0 8) = 0 then (-8) else (vX4_writeOldest u p0)
def sX4_drain (u : SX) (p0 : Int32) : SX := if (vX4_isWithin p0 0 8) = 0 then u else (sX4_writeOldest u p0)
def vX4_discard (u : SX) (p0 : Int32) : Int32 := if (vX4_isPage p0) = 0 then (-1) else if 0 < (vX1_pinsOf u.2.1 p0) then (-7) else if (vX1_holds u.2.1 p0) = 0 then (if (vX3_positionOf u.2.2.1 p0) = (-9) then 0 else 1) else 1
def sX4_discard (u : SX) (p0 : Int32) : SX := if (vX4_isPage p0) = 0 then u else if 0 < (vX1_pinsOf u.2.1 p0) then u else if (vX1_holds u.2.1 p0) = 0 then (if (vX3_positionOf u.2.2.1 p0) = (-9) then (u.1, u.2.1, u.2.2.1, (sX2_forget u.2.2.2.1 p0), u.2.2.2.2) else (u.1, u.2.1, (sX3_removeAt u.2.2.1 (vX3_positionOf u.2.2.1 p0)), (sX2_forget u.2.2.2.1 p0), u.2.2.2.2)) else (u.1, (sX1_release u.2.1 p0), u.2.2.1, (sX2_forget u.2.2.2.1 p0), u.2.2.2.2)
def vX4_isResident (u : SX) (p0 : Int32) : Int32 := if (vX4_isPage p0) = 0 then (-1) else if (vX1_holds u.2.1 p0) = 0 then 0 else 1
def vX4_isDirty (u : SX) (p0 : Int32) : Int32 := if (vX4_isPage p0) = 0 then (-1) else if (vX1_holds u.2.1 p0) = 0 then (-4) else if (vX1_isChanged u.2.1 p0) = 0 then 0 else 1
def vX4_pinCount (u : SX) (p0 : Int32) : Int32 := if (vX4_isPage p0) = 0 then (-1) else if (vX1_holds u.2.1 p0) = 0 then (-4) else (vX1_pinsOf u.2.1 p0)
def vX2_depth (u : SH) : Int32 := u.2.2
def vX4_referenceTime (u : SX) (p0 p1 : Int32) : Int32 := if (vX4_isPage p0) = 0 then (-1) else if (vX4_isWithin p1 1 (vX2_depth u.2.2.2.1)) = 0 then (-8) else (vX2_timeOf u.2.2.2.1 p0 p1)
def vX4_backwardKDistance (u : SX) (p0 : Int32) : Int32 := if (vX4_isPage p0) = 0 then (-1) else if (vX2_timeOf u.2.2.2.1 p0 (vX2_depth u.2.2.2.1)) = (-9) then (-9) else u.2.2.2.2.2.1 - (vX2_timeOf u.2.2.2.1 p0 (vX2_depth u.2.2.2.1))
def vX4_victim (u : SX) : Int32 := (vX4_chooseVictim u)
def vX0_valueOf (u : SD) (p0 : Int32) : Int32 := u.1 (ix p0)
def vX4_diskValue (u : SX) (p0 : Int32) : Int32 := if (vX4_isPage p0) = 0 then (-1) else (vX0_valueOf u.1 p0)
def vX1_used (u : SF) : Int32 := u.2.2.2.2.2
def vX4_residentCount (u : SX) : Int32 := (vX1_used u.2.1)
def lvX1_pageAt_4 (u : SF) (p0 : Int32) : Nat → Int32 → Int32 → Int32
  | 0, _, _ => 0
  | n + 1, l2, l3 => if l3 < 64 then (if (u.1 (ix l3)) = 0 then lvX1_pageAt_4 u p0 n l2 (l3 + 1) else if l2 = p0 then l3 else lvX1_pageAt_4 u p0 n (l2 + 1) (l3 + 1)) else (-9)
def vX1_pageAt (u : SF) (p0 : Int32) : Int32 := lvX1_pageAt_4 u p0 65 0 0
def vX4_residentPage (u : SX) (p0 : Int32) : Int32 := (vX1_pageAt u.2.1 p0)
def vX4_queueSize (u : SX) : Int32 := (vX3_length u.2.2.1)
def vX4_queuedPage (u : SX) (p0 : Int32) : Int32 := (vX3_pageAt u.2.2.1 p0)
def vX4_queuedValue (u : SX) (p0 : Int32) : Int32 := (vX3_valueAt u.2.2.1 p0)
def vX4_clock (u : SX) : Int32 := u.2.2.2.2.2.1
def vX4_hits (u : SX) : Int32 := u.2.2.2.2.2.2.1
def vX4_misses (u : SX) : Int32 := u.2.2.2.2.2.2.2.1
def vX4_evictions (u : SX) : Int32 := u.2.2.2.2.2.2.2.2.1
def vX0_loads (u : SD) : Int32 := u.2.1
def vX4_diskReads (u : SX) : Int32 := (vX0_loads u.1)
def vX0_stores (u : SD) : Int32 := u.2.2
def vX4_diskWrites (u : SX) : Int32 := (vX0_stores u.1)
def vX4_stalls (u : SX) : Int32 := u.2.2.2.2.2.2.2.2.2
def vX5_isFrom (p0 p1 p2 : Int32) : Int32 := if p0 < p1 then 0 else if p2 < p0 then 0 else 1
def lvX5_reset_111 (p0 p1 p2 p3 : Int32) : Nat → SM → Int32 → Int32
  | 0, w, _ => 0
  | n + 1, w, l5 => if l5 < 64 then lvX5_reset_111 p0 p1 p2 p3 n ((upd w.1.1 (ix l5) 0, w.1.2.1, w.1.2.2), (upd w.2.1.1 (ix l5) 0, w.2.1.2.1, w.2.1.2.2.1, w.2.1.2.2.2.1, w.2.1.2.2.2.2), w.2.2.1, (w.2.2.2.1.1, upd w.2.2.2.1.2.1 (ix l5) 0, w.2.2.2.1.2.2), w.2.2.2.2) (l5 + 1) else 0
def lsX5_reset_111 (p0 p1 p2 p3 : Int32) : Nat → SM → Int32 → SM
  | 0, w, _ => w
  | n + 1, w, l5 => if l5 < 64 then lsX5_reset_111 p0 p1 p2 p3 n ((upd w.1.1 (ix l5) 0, w.1.2.1, w.1.2.2), (upd w.2.1.1 (ix l5) 0, w.2.1.2.1, w.2.1.2.2.1, w.2.1.2.2.2.1, w.2.1.2.2.2.2), w.2.2.1, (w.2.2.2.1.1, upd w.2.2.2.1.2.1 (ix l5) 0, w.2.2.2.1.2.2), w.2.2.2.2) (l5 + 1) else w
def vX5_reset (u : SM) (p0 p1 p2 p3 : Int32) : Int32 := if (vX5_isFrom p0 1 16) = 0 then (-8) else if (vX5_isFrom p1 1 3) = 0 then (-8) else if (vX5_isFrom p2 1 8) = 0 then (-8) else if (vX5_isFrom p3 0 9999) = 0 then (-8) else lvX5_reset_111 p0 p1 p2 p3 65 ((u.1.1, 0, 0), (u.2.1.1, u.2.1.2.1, u.2.1.2.2.1, u.2.1.2.2.2.1, p0), (u.2.2.1.1, u.2.2.1.2.1, p2, 0), (u.2.2.2.1.1, u.2.2.2.1.2.1, p1), (p3, 0, 0, 0, 0, 0)) 0
def sX5_reset (u : SM) (p0 p1 p2 p3 : Int32) : SM := if (vX5_isFrom p0 1 16) = 0 then u else if (vX5_isFrom p1 1 3) = 0 then u else if (vX5_isFrom p2 1 8) = 0 then u else if (vX5_isFrom p3 0 9999) = 0 then u else lsX5_reset_111 p0 p1 p2 p3 65 ((u.1.1, 0, 0), (u.2.1.1, u.2.1.2.1, u.2.1.2.2.1, u.2.1.2.2.2.1, p0), (u.2.2.1.1, u.2.2.1.2.1, p2, 0), (u.2.2.2.1.1, u.2.2.2.1.2.1, p1), (p3, 0, 0, 0, 0, 0)) 0
def vX5_isPage (p0 : Int32) : Int32 := (vX5_isFrom p0 0 63)
def lvX5_residentCount_4 (u : SM) : Nat → Int32 → Int32 → Int32
  | 0, _, _ => 0
  | n + 1, l1, l2 => if l2 < 64 then (if (u.2.1.1 (ix l2)) = 0 then lvX5_residentCount_4 u n l1 (l2 + 1) else lvX5_residentCount_4 u n (l1 + 1) (l2 + 1)) else l1
def vX5_residentCount (u : SM) : Int32 := lvX5_residentCount_4 u 65 0 0
def vX5_time (u : SM) (p0 p1 : Int32) : Int32 := u.2.2.2.1.1 (ix (((3 * p0) + p1) - 1))
def vX5_goesFirst (u : SM) (p0 p1 : Int32) : Int32 := if (u.2.2.2.1.2.1 (ix p0)) < u.2.2.2.1.2.2 then (if (u.2.2.2.1.2.1 (ix p1)) < u.2.2.2.1.2.2 then (if (vX5_time u p0 1) < (vX5_time u p1 1) then 1 else 0) else 1) else if (u.2.2.2.1.2.1 (ix p1)) < u.2.2.2.1.2.2 then 0 else if (vX5_time u p0 u.2.2.2.1.2.2) < (vX5_time u p1 u.2.2.2.1.2.2) then 1 else 0
def lvX5_victim_5 (u : SM) : Nat → Int32 → Int32 → Int32
  | 0, _, _ => 0
  | n + 1, l1, l2 => if l2 < 64 then (if (u.2.1.1 (ix l2)) = 0 then lvX5_victim_5 u n l1 (l2 + 1) else if 0 < (u.2.1.2.2.2.1 (ix l2)) then lvX5_victim_5 u n l1 (l2 + 1) else if l1 = (-9) then lvX5_victim_5 u n l2 (l2 + 1) else if (vX5_goesFirst u l2 l1) = 0 then lvX5_victim_5 u n l1 (l2 + 1) else lvX5_victim_5 u n l2 (l2 + 1)) else l1
def vX5_victim (u : SM) : Int32 := lvX5_victim_5 u 65 (-9) 0
def vX5_canLoad (u : SM) : Int32 := if (vX5_residentCount u) < u.2.1.2.2.2.2 then 1 else if (vX5_victim u) = (-9) then 0 else 1
def vX5_isStuck (u : SM) (p0 : Int32) : Int32 := if (u.2.1.1 (ix p0)) = 0 then (if (vX5_canLoad u) = 0 then 1 else 0) else 0
def lsX5_record_58 (p0 : Int32) : Nat → SM → Int32 → SM
  | 0, w, _ => w
  | n + 1, w, l2 => if 1 < l2 then lsX5_record_58 p0 n (w.1, w.2.1, w.2.2.1, (upd w.2.2.2.1.1 (ix (((3 * p0) + l2) - 1)) (w.2.2.2.1.1 (ix (((3 * p0) + l2) - 2))), w.2.2.2.1.2.1, w.2.2.2.1.2.2), w.2.2.2.2) (l2 + (-1)) else if (w.2.2.2.1.2.1 (ix p0)) < w.2.2.2.1.2.2 then (w.1, w.2.1, w.2.2.1, (upd w.2.2.2.1.1 (ix (3 * p0)) w.2.2.2.2.2.1, upd w.2.2.2.1.2.1 (ix p0) ((w.2.2.2.1.2.1 (ix p0)) + 1), w.2.2.2.1.2.2), w.2.2.2.2) else (w.1, w.2.1, w.2.2.1, (upd w.2.2.2.1.1 (ix (3 * p0)) w.2.2.2.2.2.1, w.2.2.2.1.2.1, w.2.2.2.1.2.2), w.2.2.2.2)
def sX5_record (u : SM) (p0 : Int32) : SM := if (u.2.1.1 (ix p0)) = 0 then (if 0 < (u.2.2.2.1.2.1 (ix p0)) then (if u.2.2.2.2.1 < ((u.2.2.2.2.2.1 + 1) - (vX5_time (u.1, u.2.1, u.2.2.1, u.2.2.2.1, (u.2.2.2.2.1, u.2.2.2.2.2.1 + 1, u.2.2.2.2.2.2.1, u.2.2.2.2.2.2.2.1, u.2.2.2.2.2.2.2.2.1, u.2.2.2.2.2.2.2.2.2)) p0 1)) then lsX5_record_58 p0 3 (u.1, u.2.1, u.2.2.1, (u.2.2.2.1.1, upd u.2.2.2.1.2.1 (ix p0) 0, u.2.2.2.1.2.2), (u.2.2.2.2.1, u.2.2.2.2.2.1 + 1, u.2.2.2.2.2.2.1, u.2.2.2.2.2.2.2.1, u.2.2.2.2.2.2.2.2.1, u.2.2.2.2.2.2.2.2.2)) u.2.2.2.1.2.2 else lsX5_record_58 p0 3 (u.1, u.2.1, u.2.2.1, u.2.2.2.1, (u.2.2.2.2.1, u.2.2.2.2.2.1 + 1, u.2.2.2.2.2.2.1, u.2.2.2.2.2.2.2.1, u.2.2.2.2.2.2.2.2.1, u.2.2.2.2.2.2.2.2.2)) u.2.2.2.1.2.2) else lsX5_record_58 p0 3 (u.1, u.2.1, u.2.2.1, u.2.2.2.1, (u.2.2.2.2.1, u.2.2.2.2.2.1 + 1, u.2.2.2.2.2.2.1, u.2.2.2.2.2.2.2.1, u.2.2.2.2.2.2.2.2.1, u.2.2.2.2.2.2.2.2.2)) u.2.2.2.1.2.2) else lsX5_record_58 p0 3 (u.1, u.2.1, u.2.2.1, u.2.2.2.1, (u.2.2.2.2.1, u.2.2.2.2.2.1 + 1, u.2.2.2.2.2.2.1, u.2.2.2.2.2.2.2.1, u.2.2.2.2.2.2.2.2.1, u.2.2.2.2.2.2.2.2.2)) u.2.2.2.1.2.2
def lvX5_positionInQueue_2 (u : SM) (p0 : Int32) : Nat → Int32 → Int32
  | 0, _ => 0
  | n + 1, l2 => if l2 < u.2.2.1.2.2.2 then (if (u.2.2.1.1 (ix l2)) = p0 then l2 else lvX5_positionInQueue_2 u p0 n (l2 + 1)) else (-9)
def vX5_positionInQueue (u : SM) (p0 : Int32) : Int32 := lvX5_positionInQueue_2 u p0 9 0
def lsX5_removeEntry_12 (p0 : Int32) : Nat → SM → Int32 → SM
  | 0, w, _ => w
  | n + 1, w, l2 => if l2 < w.2.2.1.2.2.2 then lsX5_removeEntry_12 p0 n (w.1, w.2.1, (upd w.2.2.1.1 (ix l2) (w.2.2.1.1 (ix (l2 + 1))), upd w.2.2.1.2.1 (ix l2) (w.2.2.1.2.1 (ix (l2 + 1))), w.2.2.1.2.2.1, w.2.2.1.2.2.2), w.2.2.2.1, w.2.2.2.2) (l2 + 1) else w
def sX5_removeEntry (u : SM) (p0 : Int32) : SM := lsX5_removeEntry_12 p0 9 (u.1, u.2.1, (u.2.2.1.1, u.2.2.1.2.1, u.2.2.1.2.2.1, u.2.2.1.2.2.2 - 1), u.2.2.2.1, u.2.2.2.2) p0
def sX5_writeToDisk (u : SM) (p0 p1 : Int32) : SM := ((upd u.1.1 (ix p0) p1, u.1.2.1, u.1.2.2 + 1), u.2.1, u.2.2.1, u.2.2.2.1, u.2.2.2.2)
def sX5_writeOldest (u : SM) : SM := (sX5_removeEntry (sX5_writeToDisk u (u.2.2.1.1 0) (u.2.2.1.2.1 0)) 0)
def sX5_evict (u : SM) (p0 : Int32) : SM := if (u.2.1.2.1 (ix p0)) = 0 then (u.1, (upd u.2.1.1 (ix p0) 0, u.2.1.2.1, u.2.1.2.2.1, u.2.1.2.2.2.1, u.2.1.2.2.2.2), u.2.2.1, u.2.2.2.1, (u.2.2.2.2.1, u.2.2.2.2.2.1, u.2.2.2.2.2.2.1, u.2.2.2.2.2.2.2.1, u.2.2.2.2.2.2.2.2.1 + 1, u.2.2.2.2.2.2.2.2.2)) else if u.2.2.1.2.2.2 = u.2.2.1.2.2.1 then ((sX5_writeOldest (u.1, (upd u.2.1.1 (ix p0) 0, u.2.1.2.1, u.2.1.2.2.1, u.2.1.2.2.2.1, u.2.1.2.2.2.2), u.2.2.1, u.2.2.2.1, (u.2.2.2.2.1, u.2.2.2.2.2.1, u.2.2.2.2.2.2.1, u.2.2.2.2.2.2.2.1, u.2.2.2.2.2.2.2.2.1 + 1, u.2.2.2.2.2.2.2.2.2 + 1))).1, (sX5_writeOldest (u.1, (upd u.2.1.1 (ix p0) 0, u.2.1.2.1, u.2.1.2.2.1, u.2.1.2.2.2.1, u.2.1.2.2.2.2), u.2.2.1, u.2.2.2.1, (u.2.2.2.2.1, u.2.2.2.2.2.1, u.2.2.2.2.2.2.1, u.2.2.2.2.2.2.2.1, u.2.2.2.2.2.2.2.2.1 + 1, u.2.2.2.2.2.2.2.2.2 + 1))).2.1, (upd (sX5_writeOldest (u.1, (upd u.2.1.1 (ix p0) 0, u.2.1.2.1, u.2.1.2.2.1, u.2.1.2.2.2.1, u.2.1.2.2.2.2), u.2.2.1, u.2.2.2.1, (u.2.2.2.2.1, u.2.2.2.2.2.1, u.2.2.2.2.2.2.1, u.2.2.2.2.2.2.2.1, u.2.2.2.2.2.2.2.2.1 + 1, u.2.2.2.2.2.2.2.2.2 + 1))).2.2.1.1 (ix (sX5_writeOldest (u.1, (upd u.2.1.1 (ix p0) 0, u.2.1.2.1, u.2.1.2.2.1, u.2.1.2.2.2.1, u.2.1.2.2.2.2), u.2.2.1, u.2.2.2.1, (u.2.2.2.2.1, u.2.2.2.2.2.1, u.2.2.2.2.2.2.1, u.2.2.2.2.2.2.2.1, u.2.2.2.2.2.2.2.2.1 + 1, u.2.2.2.2.2.2.2.2.2 + 1))).2.2.1.2.2.2) p0, upd (sX5_writeOldest (u.1, (upd u.2.1.1 (ix p0) 0, u.2.1.2.1, u.2.1.2.2.1, u.2.1.2.2.2.1, u.2.1.2.2.2.2), u.2.2.1, u.2.2.2.1, (u.2.2.2.2.1, u.2.2.2.2.2.1, u.2.2.2.2.2.2.1, u.2.2.2.2.2.2.2.1, u.2.2.2.2.2.2.2.2.1 + 1, u.2.2.2.2.2.2.2.2.2 + 1))).2.2.1.2.1 (ix (sX5_writeOldest (u.1, (upd u.2.1.1 (ix p0) 0, u.2.1.2.1, u.2.1.2.2.1, u.2.1.2.2.2.1, u.2.1.2.2.2.2), u.2.2.1, u.2.2.2.1, (u.2.2.2.2.1, u.2.2.2.2.2.1, u.2.2.2.2.2.2.1, u.2.2.2.2.2.2.2.1, u.2.2.2.2.2.2.2.2.1 + 1, u.2.2.2.2.2.2.2.2.2 + 1))).2.2.1.2.2.2) ((sX5_writeOldest (u.1, (upd u.2.1.1 (ix p0) 0, u.2.1.2.1, u.2.1.2.2.1, u.2.1.2.2.2.1, u.2.1.2.2.2.2), u.2.2.1, u.2.2.2.1, (u.2.2.2.2.1, u.2.2.2.2.2.1, u.2.2.2.2.2.2.1, u.2.2.2.2.2.2.2.1, u.2.2.2.2.2.2.2.2.1 + 1, u.2.2.2.2.2.2.2.2.2 + 1))).2.1.2.2.1 (ix p0)), (sX5_writeOldest (u.1, (upd u.2.1.1 (ix p0) 0, u.2.1.2.1, u.2.1.2.2.1, u.2.1.2.2.2.1, u.2.1.2.2.2.2), u.2.2.1, u.2.2.2.1, (u.2.2.2.2.1, u.2.2.2.2.2.1, u.2.2.2.2.2.2.1, u.2.2.2.2.2.2.2.1, u.2.2.2.2.2.2.2.2.1 + 1, u.2.2.2.2.2.2.2.2.2 + 1))).2.2.1.2.2.1, (sX5_writeOldest (u.1, (upd u.2.1.1 (ix p0) 0, u.2.1.2.1, u.2.1.2.2.1, u.2.1.2.2.2.1, u.2.1.2.2.2.2), u.2.2.1, u.2.2.2.1, (u.2.2.2.2.1, u.2.2.2.2.2.1, u.2.2.2.2.2.2.1, u.2.2.2.2.2.2.2.1, u.2.2.2.2.2.2.2.2.1 + 1, u.2.2.2.2.2.2.2.2.2 + 1))).2.2.1.2.2.2 + 1), (sX5_writeOldest (u.1, (upd u.2.1.1 (ix p0) 0, u.2.1.2.1, u.2.1.2.2.1, u.2.1.2.2.2.1, u.2.1.2.2.2.2), u.2.2.1, u.2.2.2.1, (u.2.2.2.2.1, u.2.2.2.2.2.1, u.2.2.2.2.2.2.1, u.2.2.2.2.2.2.2.1, u.2.2.2.2.2.2.2.2.1 + 1, u.2.2.2.2.2.2.2.2.2 + 1))).2.2.2.1, (sX5_writeOldest (u.1, (upd u.2.1.1 (ix p0) 0, u.2.1.2.1, u.2.1.2.2.1, u.2.1.2.2.2.1, u.2.1.2.2.2.2), u.2.2.1, u.2.2.2.1, (u.2.2.2.2.1, u.2.2.2.2.2.1, u.2.2.2.2.2.2.1, u.2.2.2.2.2.2.2.1, u.2.2.2.2.2.2.2.2.1 + 1, u.2.2.2.2.2.2.2.2.2 + 1))).2.2.2.2) else (u.1, (upd u.2.1.1 (ix p0) 0, u.2.1.2.1, u.2.1.2.2.1, u.2.1.2.2.2.1, u.2.1.2.2.2.2), (upd u.2.2.1.1 (ix u.2.2.1.2.2.2) p0, upd u.2.2.1.2.1 (ix u.2.2.1.2.2.2) (u.2.1.2.2.1 (ix p0)), u.2.2.1.2.2.1, u.2.2.1.2.2.2 + 1), u.2.2.2.1, (u.2.2.2.2.1, u.2.2.2.2.2.1, u.2.2.2.2.2.2.1, u.2.2.2.2.2.2.2.1, u.2.2.2.2.2.2.2.2.1 + 1, u.2.2.2.2.2.2.2.2.2))
def sX5_load (u : SM) (p0 : Int32) : SM := if (vX5_residentCount u) = u.2.1.2.2.2.2 then (if (vX5_positionInQueue (sX5_evict u (vX5_victim u)) p0) = (-9) then (((sX5_evict u (vX5_victim u)).1.1, (sX5_evict u (vX5_victim u)).1.2.1 + 1, (sX5_evict u (vX5_victim u)).1.2.2), (upd (sX5_evict u (vX5_victim u)).2.1.1 (ix p0) 1, upd (sX5_evict u (vX5_victim u)).2.1.2.1 (ix p0) 0, upd (sX5_evict u (vX5_victim u)).2.1.2.2.1 (ix p0) ((sX5_evict u (vX5_victim u)).1.1 (ix p0)), upd (sX5_evict u (vX5_victim u)).2.1.2.2.2.1 (ix p0) 0, (sX5_evict u (vX5_victim u)).2.1.2.2.2.2), (sX5_evict u (vX5_victim u)).2.2.1, (sX5_evict u (vX5_victim u)).2.2.2.1, (sX5_evict u (vX5_victim u)).2.2.2.2) else (sX5_removeEntry ((sX5_evict u (vX5_victim u)).1, (upd (sX5_evict u (vX5_victim u)).2.1.1 (ix p0) 1, upd (sX5_evict u (vX5_victim u)).2.1.2.1 (ix p0) 1, upd (sX5_evict u (vX5_victim u)).2.1.2.2.1 (ix p0) ((sX5_evict u (vX5_victim u)).2.2.1.2.1 (ix (vX5_positionInQueue (sX5_evict u (vX5_victim u)) p0))), upd (sX5_evict u (vX5_victim u)).2.1.2.2.2.1 (ix p0) 0, (sX5_evict u (vX5_victim u)).2.1.2.2.2.2), (sX5_evict u (vX5_victim u)).2.2.1, (sX5_evict u (vX5_victim u)).2.2.2.1, (sX5_evict u (vX5_victim u)).2.2.2.2) (vX5_positionInQueue (sX5_evict u (vX5_victim u)) p0))) else if (vX5_positionInQueue u p0) = (-9) then ((u.1.1, u.1.2.1 + 1, u.1.2.2), (upd u.2.1.1 (ix p0) 1, upd u.2.1.2.1 (ix p0) 0, upd u.2.1.2.2.1 (ix p0) (u.1.1 (ix p0)), upd u.2.1.2.2.2.1 (ix p0) 0, u.2.1.2.2.2.2), u.2.2.1, u.2.2.2.1, u.2.2.2.2) else (sX5_removeEntry (u.1, (upd u.2.1.1 (ix p0) 1, upd u.2.1.2.1 (ix p0) 1, upd u.2.1.2.2.1 (ix p0) (u.2.2.1.2.1 (ix (vX5_positionInQueue u p0))), upd u.2.1.2.2.2.1 (ix p0) 0, u.2.1.2.2.2.2), u.2.2.1, u.2.2.2.1, u.2.2.2.2) (vX5_positionInQueue u p0))
def sX5_reference (u : SM) (p0 : Int32) : SM := if ((sX5_record u p0).2.1.1 (ix p0)) = 0 then (sX5_load ((sX5_record u p0).1, (sX5_record u p0).2.1, (sX5_record u p0).2.2.1, (sX5_record u p0).2.2.2.1, ((sX5_record u p0).2.2.2.2.1, (sX5_record u p0).2.2.2.2.2.1, (sX5_record u p0).2.2.2.2.2.2.1, (sX5_record u p0).2.2.2.2.2.2.2.1 + 1, (sX5_record u p0).2.2.2.2.2.2.2.2.1, (sX5_record u p0).2.2.2.2.2.2.2.2.2)) p0) else ((sX5_record u p0).1, (sX5_record u p0).2.1, (sX5_record u p0).2.2.1, (sX5_record u p0).2.2.2.1, ((sX5_record u p0).2.2.2.2.1, (sX5_record u p0).2.2.2.2.2.1, (sX5_record u p0).2.2.2.2.2.2.1 + 1, (sX5_record u p0).2.2.2.2.2.2.2.1, (sX5_record u p0).2.2.2.2.2.2.2.2.1, (sX5_record u p0).2.2.2.2.2.2.2.2.2))
def vX5_read (u : SM) (p0 : Int32) : Int32 := if (vX5_isPage p0) = 0 then (-1) else if (vX5_isStuck u p0) = 0 then (sX5_reference u p0).2.1.2.2.1 (ix p0) else (-3)
def sX5_read (u : SM) (p0 : Int32) : SM := if (vX5_isPage p0) = 0 then u else if (vX5_isStuck u p0) = 0 then (sX5_reference u p0) else u
def vX5_write (u : SM) (p0 p1 : Int32) : Int32 := if (vX5_isPage p0) = 0 then (-1) else if (vX5_isFrom p1 0 9999) = 0 then (-2) else if (vX5_isStuck u p0) = 0 then (sX5_reference u p0).2.1.2.2.1 (ix p0) else (-3)
def sX5_write (u : SM) (p0 p1 : Int32) : SM := if (vX5_isPage p0) = 0 then u else if (vX5_isFrom p1 0 9999) = 0 then u else if (vX5_isStuck u p0) = 0 then ((sX5_reference u p0).1, ((sX5_reference u p0).2.1.1, upd (sX5_reference u p0).2.1.2.1 (ix p0) 1, upd (sX5_reference u p0).2.1.2.2.1 (ix p0) p1, (sX5_reference u p0).2.1.2.2.2.1, (sX5_reference u p0).2.1.2.2.2.2), (sX5_reference u p0).2.2.1, (sX5_reference u p0).2.2.2.1, (sX5_reference u p0).2.2.2.2) else u
def vX5_pin (u : SM) (p0 : Int32) : Int32 := if (vX5_isPage p0) = 0 then (-1) else if (u.2.1.1 (ix p0)) = 0 then (if (vX5_isStuck u p0) = 0 then (upd (sX5_reference u p0).2.1.2.2.2.1 (ix p0) (((sX5_reference u p0).2.1.2.2.2.1 (ix p0)) + 1)) (ix p0) else (-3)) else if (u.2.1.2.2.2.1 (ix p0)) = 9 then (-6) else if (vX5_isStuck u p0) = 0 then (upd (sX5_reference u p0).2.1.2.2.2.1 (ix p0) (((sX5_reference u p0).2.1.2.2.2.1 (ix p0)) + 1)) (ix p0) else (-3)
def sX5_pin (u : SM) (p0 : Int32) : SM := if (vX5_isPage p0) = 0 then u else if (u.2.1.1 (ix p0)) = 0 then (if (vX5_isStuck u p0) = 0 then ((sX5_reference u p0).1, ((sX5_reference u p0).2.1.1, (sX5_reference u p0).2.1.2.1, (sX5_reference u p0).2.1.2.2.1, upd (sX5_reference u p0).2.1.2.2.2.1 (ix p0) (((sX5_reference u p0).2.1.2.2.2.1 (ix p0)) + 1), (sX5_reference u p0).2.1.2.2.2.2), (sX5_reference u p0).2.2.1, (sX5_reference u p0).2.2.2.1, (sX5_reference u p0).2.2.2.2) else u) else if (u.2.1.2.2.2.1 (ix p0)) = 9 then u else if (vX5_isStuck u p0) = 0 then ((sX5_reference u p0).1, ((sX5_reference u p0).2.1.1, (sX5_reference u p0).2.1.2.1, (sX5_reference u p0).2.1.2.2.1, upd (sX5_reference u p0).2.1.2.2.2.1 (ix p0) (((sX5_reference u p0).2.1.2.2.2.1 (ix p0)) + 1), (sX5_reference u p0).2.1.2.2.2.2), (sX5_reference u p0).2.2.1, (sX5_reference u p0).2.2.2.1, (sX5_reference u p0).2.2.2.2) else u
def vX5_unpin (u : SM) (p0 : Int32) : Int32 := if (vX5_isPage p0) = 0 then (-1) else if (u.2.1.1 (ix p0)) = 0 then (-4) else if (u.2.1.2.2.2.1 (ix p0)) = 0 then (-5) else (upd u.2.1.2.2.2.1 (ix p0) ((u.2.1.2.2.2.1 (ix p0)) - 1)) (ix p0)
def sX5_unpin (u : SM) (p0 : Int32) : SM := if (vX5_isPage p0) = 0 then u else if (u.2.1.1 (ix p0)) = 0 then u else if (u.2.1.2.2.2.1 (ix p0)) = 0 then u else (u.1, (u.2.1.1, u.2.1.2.1, u.2.1.2.2.1, upd u.2.1.2.2.2.1 (ix p0) ((u.2.1.2.2.2.1 (ix p0)) - 1), u.2.1.2.2.2.2), u.2.2.1, u.2.2.2.1, u.2.2.2.2)
def vX5_writeResident (u : SM) (p0 : Int32) : Int32 := if (u.2.1.1 (ix p0)) = 0 then 0 else if (u.2.1.2.1 (ix p0)) = 0 then 0 else 1
def sX5_writeResident (u : SM) (p0 : Int32) : SM := if (u.2.1.1 (ix p0)) = 0 then u else if (u.2.1.2.1 (ix p0)) = 0 then u else ((sX5_writeToDisk u p0 (u.2.1.2.2.1 (ix p0))).1, ((sX5_writeToDisk u p0 (u.2.1.2.2.1 (ix p0))).2.1.1, upd (sX5_writeToDisk u p0 (u.2.1.2.2.1 (ix p0))).2.1.2.1 (ix p0) 0, (sX5_writeToDisk u p0 (u.2.1.2.2.1 (ix p0))).2.1.2.2.1, (sX5_writeToDisk u p0 (u.2.1.2.2.1 (ix p0))).2.1.2.2.2.1, (sX5_writeToDisk u p0 (u.2.1.2.2.1 (ix p0))).2.1.2.2.2.2), (sX5_writeToDisk u p0 (u.2.1.2.2.1 (ix p0))).2.2.1, (sX5_writeToDisk u p0 (u.2.1.2.2.1 (ix p0))).2.2.2.1, (sX5_writeToDisk u p0 (u.2.1.2.2.1 (ix p0))).2.2.2.2)
def vX5_flush (u : SM) (p0 : Int32) : Int32 := if (vX5_isPage p0) = 0 then (-1) else if (vX5_writeResident u p0) = 0 then (if (vX5_positionInQueue (sX5_writeResident u p0) p0) = (-9) then 0 else 1) else 1
def sX5_flush (u : SM) (p0 : Int32) : SM := if (vX5_isPage p0) = 0 then u else if (vX5_writeResident u p0) = 0 then (if (vX5_positionInQueue (sX5_writeResident u p0) p0) = (-9) then (sX5_writeResident u p0) else (sX5_removeEntry (sX5_writeToDisk (sX5_writeResident u p0) p0 ((sX5_writeResident u p0).2.2.1.2.1 (ix (vX5_positionInQueue (sX5_writeResident u p0) p0)))) (vX5_positionInQueue (sX5_writeResident u p0) p0))) else (sX5_writeResident u p0)
def lvX5_flushAll_23  : Nat → SM → Int32 → Int32 → Int32 → Int32
  | 0, w, _, _, _ => 0
  | n + 1, w, l1, l2, l3 => if l3 < 64 then (if (vX5_writeResident w l3) = 0 then lvX5_flushAll_23 n (sX5_writeResident w l3) l1 (l2 + 0) (l3 + 1) else lvX5_flushAll_23 n (sX5_writeResident w l3) l1 (l2 + 1) (l3 + 1)) else w.1.2.2 - l1
def lsX5_flushAll_23  : Nat → SM → Int32 → Int32 → Int32 → SM
  | 0, w, _, _, _ => w
  | n + 1, w, l1, l2, l3 => if l3 < 64 then (if (vX5_writeResident w l3) = 0 then lsX5_flushAll_23 n (sX5_writeResident w l3) l1 (l2 + 0) (l3 + 1) else lsX5_flushAll_23 n (sX5_writeResident w l3) l1 (l2 + 1) (l3 + 1)) else w
def lvX5_flushAll_5  : Nat → SM → Int32 → Int32
  | 0, w, _ => 0
  | n + 1, w, l1 => if 0 < w.2.2.1.2.2.2 then lvX5_flushAll_5 n (sX5_writeOldest w) l1 else lvX5_flushAll_23 65 w l1 0 0
def lsX5_flushAll_5  : Nat → SM → Int32 → SM
  | 0, w, _ => w
  | n + 1, w, l1 => if 0 < w.2.2.1.2.2.2 then lsX5_flushAll_5 n (sX5_writeOldest w) l1 else lsX5_flushAll_23 65 w l1 0 0
def vX5_flushAll (u : SM) : Int32 := lvX5_flushAll_5 9 u u.1.2.2
def sX5_flushAll (u : SM) : SM := lsX5_flushAll_5 9 u u.1.2.2
def lvX5_drain_18 (p0 : Int32) : Nat → SM → Int32 → Int32
  | 0, w, _ => 0
  | n + 1, w, l2 => if 0 < w.2.2.1.2.2.2 then (if (w.1.2.2 - l2) < p0 then lvX5_drain_18 p0 n (sX5_writeOldest w) l2 else w.1.2.2 - l2) else w.1.2.2 - l2
def lsX5_drain_18 (p0 : Int32) : Nat → SM → Int32 → SM
  | 0, w, _ => w
  | n + 1, w, l2 => if 0 < w.2.2.1.2.2.2 then (if (w.1.2.2 - l2) < p0 then lsX5_drain_18 p0 n (sX5_writeOldest w) l2 else w) else w
def vX5_drain (u : SM) (p0 : Int32) : Int32 := if (vX5_isFrom p0 0 8) = 0 then (-8) else lvX5_drain_18 p0 9 u u.1.2.2
def sX5_drain (u : SM) (p0 : Int32) : SM := if (vX5_isFrom p0 0 8) = 0 then u else lsX5_drain_18 p0 9 u u.1.2.2
def vX5_discard (u : SM) (p0 : Int32) : Int32 := if (vX5_isPage p0) = 0 then (-1) else if (u.2.1.1 (ix p0)) = 0 then (if (vX5_positionInQueue u p0) = (-9) then 0 else 1) else if 0 < (u.2.1.2.2.2.1 (ix p0)) then (-7) else if (vX5_positionInQueue u p0) = (-9) then 1 else 1
def sX5_discard (u : SM) (p0 : Int32) : SM := if (vX5_isPage p0) = 0 then u else if (u.2.1.1 (ix p0)) = 0 then (if (vX5_positionInQueue u p0) = (-9) then (u.1, (upd u.2.1.1 (ix p0) 0, u.2.1.2.1, u.2.1.2.2.1, u.2.1.2.2.2.1, u.2.1.2.2.2.2), u.2.2.1, (u.2.2.2.1.1, upd u.2.2.2.1.2.1 (ix p0) 0, u.2.2.2.1.2.2), u.2.2.2.2) else (sX5_removeEntry (u.1, (upd u.2.1.1 (ix p0) 0, u.2.1.2.1, u.2.1.2.2.1, u.2.1.2.2.2.1, u.2.1.2.2.2.2), u.2.2.1, (u.2.2.2.1.1, upd u.2.2.2.1.2.1 (ix p0) 0, u.2.2.2.1.2.2), u.2.2.2.2) (vX5_positionInQueue u p0))) else if 0 < (u.2.1.2.2.2.1 (ix p0)) then u else if (vX5_positionInQueue u p0) = (-9) then (u.1, (upd u.2.1.1 (ix p0) 0, u.2.1.2.1, u.2.1.2.2.1, u.2.1.2.2.2.1, u.2.1.2.2.2.2), u.2.2.1, (u.2.2.2.1.1, upd u.2.2.2.1.2.1 (ix p0) 0, u.2.2.2.1.2.2), u.2.2.2.2) else (sX5_removeEntry (u.1, (upd u.2.1.1 (ix p0) 0, u.2.1.2.1, u.2.1.2.2.1, u.2.1.2.2.2.1, u.2.1.2.2.2.2), u.2.2.1, (u.2.2.2.1.1, upd u.2.2.2.1.2.1 (ix p0) 0, u.2.2.2.1.2.2), u.2.2.2.2) (vX5_positionInQueue u p0))
def vX5_isResident (u : SM) (p0 : Int32) : Int32 := if (vX5_isPage p0) = 0 then (-1) else if (u.2.1.1 (ix p0)) = 0 then 0 else 1
def vX5_isDirty (u : SM) (p0 : Int32) : Int32 := if (vX5_isPage p0) = 0 then (-1) else if (u.2.1.1 (ix p0)) = 0 then (-4) else if (u.2.1.2.1 (ix p0)) = 0 then 0 else 1
def vX5_pinCount (u : SM) (p0 : Int32) : Int32 := if (vX5_isPage p0) = 0 then (-1) else if (u.2.1.1 (ix p0)) = 0 then (-4) else u.2.1.2.2.2.1 (ix p0)
def vX5_referenceTime (u : SM) (p0 p1 : Int32) : Int32 := if (vX5_isPage p0) = 0 then (-1) else if (vX5_isFrom p1 1 u.2.2.2.1.2.2) = 0 then (-8) else if (u.2.2.2.1.2.1 (ix p0)) < p1 then (-9) else (vX5_time u p0 p1)
def vX5_backwardKDistance (u : SM) (p0 : Int32) : Int32 := if (vX5_isPage p0) = 0 then (-1) else if (u.2.2.2.1.2.1 (ix p0)) < u.2.2.2.1.2.2 then (-9) else u.2.2.2.2.2.1 - (vX5_time u p0 u.2.2.2.1.2.2)
def vX5_diskValue (u : SM) (p0 : Int32) : Int32 := if (vX5_isPage p0) = 0 then (-1) else u.1.1 (ix p0)
def lvX5_residentPage_4 (u : SM) (p0 : Int32) : Nat → Int32 → Int32 → Int32
  | 0, _, _ => 0
  | n + 1, l2, l3 => if l3 < 64 then (if l2 < 0 then (-9) else if (u.2.1.1 (ix l3)) = 0 then lvX5_residentPage_4 u p0 n l2 (l3 + 1) else if l2 = 0 then l3 else lvX5_residentPage_4 u p0 n (l2 + (-1)) (l3 + 1)) else (-9)
def vX5_residentPage (u : SM) (p0 : Int32) : Int32 := lvX5_residentPage_4 u p0 65 p0 0
def vX5_queueSize (u : SM) : Int32 := u.2.2.1.2.2.2
def vX5_isInQueue (u : SM) (p0 : Int32) : Int32 := (vX5_isFrom p0 0 (u.2.2.1.2.2.2 - 1))
def vX5_queuedPage (u : SM) (p0 : Int32) : Int32 := if (vX5_isInQueue u p0) = 0 then (-9) else u.2.2.1.1 (ix p0)
def vX5_queuedValue (u : SM) (p0 : Int32) : Int32 := if (vX5_isInQueue u p0) = 0 then (-9) else u.2.2.1.2.1 (ix p0)
def vX5_clock (u : SM) : Int32 := u.2.2.2.2.2.1
def vX5_hits (u : SM) : Int32 := u.2.2.2.2.2.2.1
def vX5_misses (u : SM) : Int32 := u.2.2.2.2.2.2.2.1
def vX5_evictions (u : SM) : Int32 := u.2.2.2.2.2.2.2.2.1
def vX5_diskReads (u : SM) : Int32 := u.1.2.1
def vX5_diskWrites (u : SM) : Int32 := u.1.2.2
def vX5_stalls (u : SM) : Int32 := u.2.2.2.2.2.2.2.2.2
