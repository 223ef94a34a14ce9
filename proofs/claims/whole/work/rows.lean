section
-- ===== PART A: goes FIRST, ahead of the names: the tables' words, and 'selects' of the private methods out of them =====
/-- a private method of a class that the tables say can be made, by its rows of tables_1 -/
def lw_okq (q : MethodName × Nat) : Prop := (q.1.cls ≠ "java/lang/invoke/MethodHandle" ∧ q.1.cls ≠ "java/lang/invoke/VarHandle") ∧ Cond.instantiable q.1.cls q.2 ∈ tables_1 ∧ Cond.privateMethod q.1 ∈ tables_1 ∧ Cond.instanceMethod q.1 ∈ tables_1
theorem lw_p0 : lw_okq (⟨"LruKPageCache", "startAnew", "(IIII)V"⟩, 10) := ⟨⟨by decide +kernel, by decide +kernel⟩, List.mem_of_getElem? (i := 10) (by decide +kernel), List.mem_of_getElem? (i := 96) (by decide +kernel), List.mem_of_getElem? (i := 97) (by decide +kernel)⟩
theorem lw_p1 : lw_okq (⟨"LruKPageCache$Frames", "vacate", "(I)V"⟩, 6) := ⟨⟨by decide +kernel, by decide +kernel⟩, List.mem_of_getElem? (i := 35) (by decide +kernel), List.mem_of_getElem? (i := 111) (by decide +kernel), List.mem_of_getElem? (i := 112) (by decide +kernel)⟩
theorem lw_p2 : lw_okq (⟨"LruKPageCache", "canReference", "(I)Z"⟩, 10) := ⟨⟨by decide +kernel, by decide +kernel⟩, List.mem_of_getElem? (i := 10) (by decide +kernel), List.mem_of_getElem? (i := 169) (by decide +kernel), List.mem_of_getElem? (i := 170) (by decide +kernel)⟩
theorem lw_p3 : lw_okq (⟨"LruKPageCache", "chooseVictim", "()I"⟩, 10) := ⟨⟨by decide +kernel, by decide +kernel⟩, List.mem_of_getElem? (i := 10) (by decide +kernel), List.mem_of_getElem? (i := 181) (by decide +kernel), List.mem_of_getElem? (i := 182) (by decide +kernel)⟩
theorem lw_p4 : lw_okq (⟨"LruKPageCache", "reference", "(I)V"⟩, 10) := ⟨⟨by decide +kernel, by decide +kernel⟩, List.mem_of_getElem? (i := 10) (by decide +kernel), List.mem_of_getElem? (i := 197) (by decide +kernel), List.mem_of_getElem? (i := 198) (by decide +kernel)⟩
theorem lw_p5 : lw_okq (⟨"LruKPageCache", "makeRoom", "()V"⟩, 10) := ⟨⟨by decide +kernel, by decide +kernel⟩, List.mem_of_getElem? (i := 10) (by decide +kernel), List.mem_of_getElem? (i := 201) (by decide +kernel), List.mem_of_getElem? (i := 202) (by decide +kernel)⟩
theorem lw_p6 : lw_okq (⟨"LruKPageCache", "enqueue", "(I)V"⟩, 10) := ⟨⟨by decide +kernel, by decide +kernel⟩, List.mem_of_getElem? (i := 10) (by decide +kernel), List.mem_of_getElem? (i := 209) (by decide +kernel), List.mem_of_getElem? (i := 210) (by decide +kernel)⟩
theorem lw_p7 : lw_okq (⟨"LruKPageCache", "writeEntry", "(I)V"⟩, 10) := ⟨⟨by decide +kernel, by decide +kernel⟩, List.mem_of_getElem? (i := 10) (by decide +kernel), List.mem_of_getElem? (i := 217) (by decide +kernel), List.mem_of_getElem? (i := 218) (by decide +kernel)⟩
theorem lw_p8 : lw_okq (⟨"LruKPageCache$WriteBackQueue", "has", "(I)Z"⟩, 4) := ⟨⟨by decide +kernel, by decide +kernel⟩, List.mem_of_getElem? (i := 61) (by decide +kernel), List.mem_of_getElem? (i := 225) (by decide +kernel), List.mem_of_getElem? (i := 226) (by decide +kernel)⟩
theorem lw_p9 : lw_okq (⟨"LruKPageCache", "load", "(I)V"⟩, 10) := ⟨⟨by decide +kernel, by decide +kernel⟩, List.mem_of_getElem? (i := 10) (by decide +kernel), List.mem_of_getElem? (i := 254) (by decide +kernel), List.mem_of_getElem? (i := 255) (by decide +kernel)⟩
theorem lw_p10 : lw_okq (⟨"LruKPageCache", "forgetIfStale", "(I)V"⟩, 10) := ⟨⟨by decide +kernel, by decide +kernel⟩, List.mem_of_getElem? (i := 10) (by decide +kernel), List.mem_of_getElem? (i := 274) (by decide +kernel), List.mem_of_getElem? (i := 275) (by decide +kernel)⟩
theorem lw_p11 : lw_okq (⟨"LruKPageCache", "writeFrame", "(I)V"⟩, 10) := ⟨⟨by decide +kernel, by decide +kernel⟩, List.mem_of_getElem? (i := 10) (by decide +kernel), List.mem_of_getElem? (i := 311) (by decide +kernel), List.mem_of_getElem? (i := 312) (by decide +kernel)⟩
theorem lw_p12 : lw_okq (⟨"LruKPageCache", "writeOldest", "(I)I"⟩, 10) := ⟨⟨by decide +kernel, by decide +kernel⟩, List.mem_of_getElem? (i := 10) (by decide +kernel), List.mem_of_getElem? (i := 327) (by decide +kernel), List.mem_of_getElem? (i := 328) (by decide +kernel)⟩
theorem lw_p13 : lw_okq (⟨"LruKPageCacheModel", "goesFirst", "(II)Z"⟩, 21) := ⟨⟨by decide +kernel, by decide +kernel⟩, List.mem_of_getElem? (i := 442) (by decide +kernel), List.mem_of_getElem? (i := 524) (by decide +kernel), List.mem_of_getElem? (i := 525) (by decide +kernel)⟩
theorem lw_p14 : lw_okq (⟨"LruKPageCacheModel", "time", "(II)I"⟩, 21) := ⟨⟨by decide +kernel, by decide +kernel⟩, List.mem_of_getElem? (i := 442) (by decide +kernel), List.mem_of_getElem? (i := 528) (by decide +kernel), List.mem_of_getElem? (i := 529) (by decide +kernel)⟩
theorem lw_p15 : lw_okq (⟨"LruKPageCacheModel", "isStuck", "(I)Z"⟩, 21) := ⟨⟨by decide +kernel, by decide +kernel⟩, List.mem_of_getElem? (i := 442) (by decide +kernel), List.mem_of_getElem? (i := 539) (by decide +kernel), List.mem_of_getElem? (i := 540) (by decide +kernel)⟩
def lw_privs_1 : List (MethodName × Nat) := [(⟨"LruKPageCache", "startAnew", "(IIII)V"⟩, 10), (⟨"LruKPageCache$Frames", "vacate", "(I)V"⟩, 6), (⟨"LruKPageCache", "canReference", "(I)Z"⟩, 10), (⟨"LruKPageCache", "chooseVictim", "()I"⟩, 10), (⟨"LruKPageCache", "reference", "(I)V"⟩, 10), (⟨"LruKPageCache", "makeRoom", "()V"⟩, 10), (⟨"LruKPageCache", "enqueue", "(I)V"⟩, 10), (⟨"LruKPageCache", "writeEntry", "(I)V"⟩, 10), (⟨"LruKPageCache$WriteBackQueue", "has", "(I)Z"⟩, 4), (⟨"LruKPageCache", "load", "(I)V"⟩, 10), (⟨"LruKPageCache", "forgetIfStale", "(I)V"⟩, 10), (⟨"LruKPageCache", "writeFrame", "(I)V"⟩, 10), (⟨"LruKPageCache", "writeOldest", "(I)I"⟩, 10), (⟨"LruKPageCacheModel", "goesFirst", "(II)Z"⟩, 21), (⟨"LruKPageCacheModel", "time", "(II)I"⟩, 21), (⟨"LruKPageCacheModel", "isStuck", "(I)Z"⟩, 21)]
theorem lw_r1 : ∀ q ∈ lw_privs_1, lw_okq q := List.forall_mem_cons.mpr ⟨lw_p0, List.forall_mem_cons.mpr ⟨lw_p1, List.forall_mem_cons.mpr ⟨lw_p2, List.forall_mem_cons.mpr ⟨lw_p3, List.forall_mem_cons.mpr ⟨lw_p4, List.forall_mem_cons.mpr ⟨lw_p5, List.forall_mem_cons.mpr ⟨lw_p6, List.forall_mem_cons.mpr ⟨lw_p7, List.forall_mem_cons.mpr ⟨lw_p8, List.forall_mem_cons.mpr ⟨lw_p9, List.forall_mem_cons.mpr ⟨lw_p10, List.forall_mem_cons.mpr ⟨lw_p11, List.forall_mem_cons.mpr ⟨lw_p12, List.forall_mem_cons.mpr ⟨lw_p13, List.forall_mem_cons.mpr ⟨lw_p14, List.forall_mem_cons.mpr ⟨lw_p15, fun _ h => absurd h List.not_mem_nil⟩⟩⟩⟩⟩⟩⟩⟩⟩⟩⟩⟩⟩⟩⟩⟩
theorem lw_p16 : lw_okq (⟨"LruKPageCacheModel", "canLoad", "()Z"⟩, 21) := ⟨⟨by decide +kernel, by decide +kernel⟩, List.mem_of_getElem? (i := 442) (by decide +kernel), List.mem_of_getElem? (i := 543) (by decide +kernel), List.mem_of_getElem? (i := 544) (by decide +kernel)⟩
theorem lw_p17 : lw_okq (⟨"LruKPageCacheModel", "reference", "(I)V"⟩, 21) := ⟨⟨by decide +kernel, by decide +kernel⟩, List.mem_of_getElem? (i := 442) (by decide +kernel), List.mem_of_getElem? (i := 552) (by decide +kernel), List.mem_of_getElem? (i := 553) (by decide +kernel)⟩
theorem lw_p18 : lw_okq (⟨"LruKPageCacheModel", "record", "(I)V"⟩, 21) := ⟨⟨by decide +kernel, by decide +kernel⟩, List.mem_of_getElem? (i := 442) (by decide +kernel), List.mem_of_getElem? (i := 556) (by decide +kernel), List.mem_of_getElem? (i := 557) (by decide +kernel)⟩
theorem lw_p19 : lw_okq (⟨"LruKPageCacheModel", "load", "(I)V"⟩, 21) := ⟨⟨by decide +kernel, by decide +kernel⟩, List.mem_of_getElem? (i := 442) (by decide +kernel), List.mem_of_getElem? (i := 560) (by decide +kernel), List.mem_of_getElem? (i := 561) (by decide +kernel)⟩
theorem lw_p20 : lw_okq (⟨"LruKPageCacheModel", "evict", "(I)V"⟩, 21) := ⟨⟨by decide +kernel, by decide +kernel⟩, List.mem_of_getElem? (i := 442) (by decide +kernel), List.mem_of_getElem? (i := 564) (by decide +kernel), List.mem_of_getElem? (i := 565) (by decide +kernel)⟩
theorem lw_p21 : lw_okq (⟨"LruKPageCacheModel", "writeOldest", "()V"⟩, 21) := ⟨⟨by decide +kernel, by decide +kernel⟩, List.mem_of_getElem? (i := 442) (by decide +kernel), List.mem_of_getElem? (i := 568) (by decide +kernel), List.mem_of_getElem? (i := 569) (by decide +kernel)⟩
theorem lw_p22 : lw_okq (⟨"LruKPageCacheModel", "writeToDisk", "(II)V"⟩, 21) := ⟨⟨by decide +kernel, by decide +kernel⟩, List.mem_of_getElem? (i := 442) (by decide +kernel), List.mem_of_getElem? (i := 572) (by decide +kernel), List.mem_of_getElem? (i := 573) (by decide +kernel)⟩
theorem lw_p23 : lw_okq (⟨"LruKPageCacheModel", "removeEntry", "(I)V"⟩, 21) := ⟨⟨by decide +kernel, by decide +kernel⟩, List.mem_of_getElem? (i := 442) (by decide +kernel), List.mem_of_getElem? (i := 576) (by decide +kernel), List.mem_of_getElem? (i := 577) (by decide +kernel)⟩
theorem lw_p24 : lw_okq (⟨"LruKPageCacheModel", "positionInQueue", "(I)I"⟩, 21) := ⟨⟨by decide +kernel, by decide +kernel⟩, List.mem_of_getElem? (i := 442) (by decide +kernel), List.mem_of_getElem? (i := 580) (by decide +kernel), List.mem_of_getElem? (i := 581) (by decide +kernel)⟩
theorem lw_p25 : lw_okq (⟨"LruKPageCacheModel", "writeResident", "(I)Z"⟩, 21) := ⟨⟨by decide +kernel, by decide +kernel⟩, List.mem_of_getElem? (i := 442) (by decide +kernel), List.mem_of_getElem? (i := 600) (by decide +kernel), List.mem_of_getElem? (i := 601) (by decide +kernel)⟩
theorem lw_p26 : lw_okq (⟨"LruKPageCacheModel", "isInQueue", "(I)Z"⟩, 21) := ⟨⟨by decide +kernel, by decide +kernel⟩, List.mem_of_getElem? (i := 442) (by decide +kernel), List.mem_of_getElem? (i := 653) (by decide +kernel), List.mem_of_getElem? (i := 654) (by decide +kernel)⟩
def lw_privs_2 : List (MethodName × Nat) := [(⟨"LruKPageCacheModel", "canLoad", "()Z"⟩, 21), (⟨"LruKPageCacheModel", "reference", "(I)V"⟩, 21), (⟨"LruKPageCacheModel", "record", "(I)V"⟩, 21), (⟨"LruKPageCacheModel", "load", "(I)V"⟩, 21), (⟨"LruKPageCacheModel", "evict", "(I)V"⟩, 21), (⟨"LruKPageCacheModel", "writeOldest", "()V"⟩, 21), (⟨"LruKPageCacheModel", "writeToDisk", "(II)V"⟩, 21), (⟨"LruKPageCacheModel", "removeEntry", "(I)V"⟩, 21), (⟨"LruKPageCacheModel", "positionInQueue", "(I)I"⟩, 21), (⟨"LruKPageCacheModel", "writeResident", "(I)Z"⟩, 21), (⟨"LruKPageCacheModel", "isInQueue", "(I)Z"⟩, 21)]
theorem lw_r2 : ∀ q ∈ lw_privs_2, lw_okq q := List.forall_mem_cons.mpr ⟨lw_p16, List.forall_mem_cons.mpr ⟨lw_p17, List.forall_mem_cons.mpr ⟨lw_p18, List.forall_mem_cons.mpr ⟨lw_p19, List.forall_mem_cons.mpr ⟨lw_p20, List.forall_mem_cons.mpr ⟨lw_p21, List.forall_mem_cons.mpr ⟨lw_p22, List.forall_mem_cons.mpr ⟨lw_p23, List.forall_mem_cons.mpr ⟨lw_p24, List.forall_mem_cons.mpr ⟨lw_p25, List.forall_mem_cons.mpr ⟨lw_p26, fun _ h => absurd h List.not_mem_nil⟩⟩⟩⟩⟩⟩⟩⟩⟩⟩⟩
def lw_privs : List (MethodName × Nat) := lw_privs_1 ++ (lw_privs_2)
def lw_tbl : List Cond := k2_sels lw_privs ++ tables_1
theorem lw_privs_ok : ∀ q ∈ lw_privs, lw_okq q := by
  show ∀ q ∈ lw_privs_1 ++ (lw_privs_2), lw_okq q
  exact List.forall_mem_append.mpr ⟨lw_r1, lw_r2⟩
end
section
/-! ===== BEGIN words of one list among another's, by their places ===== -/
theorem goodIn_r {big : List Cond} (ws : List Cond) (ps : List Nat) (hp : ws = ps.filterMap (fun i => big[i]?)) (h : ws.all goodWord = true) : GoodIn big ws := by
  intro w hw
  have h1 := List.all_eq_true.mp h w hw
  rw [hp] at hw
  obtain ⟨i, -, hi⟩ := List.mem_filterMap.mp hw
  have hm : w ∈ big := by first | exact List.mem_of_getElem? hi | exact List.getElem?_mem hi
  exact ⟨hm, good_of_word h1⟩
theorem goodIn_app {big a b : List Cond} (ha : GoodIn big a) (hb : GoodIn big b) : GoodIn big (a ++ b) := fun w h => (List.mem_append.mp h).elim (ha w) (hb w)
theorem goodIn_ca {big a b : List Cond} {c : Cond} (ha : GoodIn big (c :: a)) (hb : GoodIn big b) : GoodIn big (c :: (a ++ b)) := fun w h => (List.mem_cons.mp h).elim (fun e => ha w (List.mem_cons.mpr (Or.inl e))) (fun h => (List.mem_append.mp h).elim (fun h => ha w (List.mem_cons.mpr (Or.inr h))) (hb w))
theorem goodIn_sub {big ws : List Cond} (hm : ∀ w ∈ ws, w ∈ big) (h : ws.all goodWord = true) : GoodIn big ws := fun w hw => ⟨hm w hw, good_of_word (List.all_eq_true.mp h w hw)⟩
/-! ===== END ===== -/

/-! ===== BEGIN printed: names, fields, word lists, decode rows ===== -/
def RX0 : String := "LruKPageCache$Disk"
def TX0 : u_T := fun k => match k with
  | 0 => ("LruKPageCache$Disk", "values", "[I", true)
  | 1 => ("LruKPageCache$Disk", "loadTotal", "I", false)
  | _ => ("LruKPageCache$Disk", "storeTotal", "I", false)
def tyX0 : Nat → FieldType := fun k => match k with
  | 0 => .array .int
  | 1 => .int
  | _ => .int
abbrev wsX00 : List Cond := u_ws RX0 TX0 3
theorem nmX0 : ∀ a, a < 3 → ∀ b, b < 3 → a ≠ b → (TX0 a).2.1 ≠ (TX0 b).2.1 := by decide +kernel
theorem tyX0_ok : ∀ k, k < 3 → parseFieldDescriptor (TX0 k).2.2.1 = some (tyX0 k) := by decide +kernel
abbrev cX0_init : ByteArray := prog_2_method_1_code
def yX0_init : MethodName := ⟨RX0, "<init>", "()V"⟩
abbrev cX0_erase : ByteArray := prog_2_method_2_code
def yX0_erase : MethodName := ⟨RX0, "erase", "()V"⟩
abbrev cX0_valueOf : ByteArray := prog_2_method_3_code
def yX0_valueOf : MethodName := ⟨RX0, "valueOf", "(I)I"⟩
abbrev cX0_load : ByteArray := prog_2_method_4_code
def yX0_load : MethodName := ⟨RX0, "load", "(I)I"⟩
abbrev cX0_store : ByteArray := prog_2_method_5_code
def yX0_store : MethodName := ⟨RX0, "store", "(II)V"⟩
abbrev cX0_loads : ByteArray := prog_2_method_6_code
def yX0_loads : MethodName := ⟨RX0, "loads", "()I"⟩
abbrev cX0_stores : ByteArray := prog_2_method_7_code
def yX0_stores : MethodName := ⟨RX0, "stores", "()I"⟩
def RX1 : String := "LruKPageCache$Frames"
def TX1 : u_T := fun k => match k with
  | 0 => ("LruKPageCache$Frames", "resident", "[Z", true)
  | 1 => ("LruKPageCache$Frames", "changed", "[Z", true)
  | 2 => ("LruKPageCache$Frames", "values", "[I", true)
  | 3 => ("LruKPageCache$Frames", "pins", "[I", true)
  | 4 => ("LruKPageCache$Frames", "capacity", "I", false)
  | _ => ("LruKPageCache$Frames", "usedFrames", "I", false)
def tyX1 : Nat → FieldType := fun k => match k with
  | 0 => .array .boolean
  | 1 => .array .boolean
  | 2 => .array .int
  | 3 => .array .int
  | 4 => .int
  | _ => .int
abbrev wsX10 : List Cond := u_ws RX1 TX1 6
theorem nmX1 : ∀ a, a < 6 → ∀ b, b < 6 → a ≠ b → (TX1 a).2.1 ≠ (TX1 b).2.1 := by decide +kernel
theorem tyX1_ok : ∀ k, k < 6 → parseFieldDescriptor (TX1 k).2.2.1 = some (tyX1 k) := by decide +kernel
abbrev cX1_init : ByteArray := prog_3_method_1_code
def yX1_init : MethodName := ⟨RX1, "<init>", "()V"⟩
abbrev cX1_empty : ByteArray := prog_3_method_2_code
def yX1_empty : MethodName := ⟨RX1, "empty", "(I)V"⟩
abbrev cX1_areFull : ByteArray := prog_3_method_3_code
def yX1_areFull : MethodName := ⟨RX1, "areFull", "()Z"⟩
abbrev cX1_used : ByteArray := prog_3_method_4_code
def yX1_used : MethodName := ⟨RX1, "used", "()I"⟩
abbrev cX1_holds : ByteArray := prog_3_method_5_code
def yX1_holds : MethodName := ⟨RX1, "holds", "(I)Z"⟩
abbrev cX1_isChanged : ByteArray := prog_3_method_6_code
def yX1_isChanged : MethodName := ⟨RX1, "isChanged", "(I)Z"⟩
abbrev cX1_valueOf : ByteArray := prog_3_method_7_code
def yX1_valueOf : MethodName := ⟨RX1, "valueOf", "(I)I"⟩
abbrev cX1_pinsOf : ByteArray := prog_3_method_8_code
def yX1_pinsOf : MethodName := ⟨RX1, "pinsOf", "(I)I"⟩
abbrev cX1_pageAt : ByteArray := prog_3_method_9_code
def yX1_pageAt : MethodName := ⟨RX1, "pageAt", "(I)I"⟩
abbrev cX1_place : ByteArray := prog_3_method_10_code
def yX1_place : MethodName := ⟨RX1, "place", "(II)V"⟩
abbrev cX1_release : ByteArray := prog_3_method_11_code
def yX1_release : MethodName := ⟨RX1, "release", "(I)V"⟩
abbrev cX1_change : ByteArray := prog_3_method_12_code
def yX1_change : MethodName := ⟨RX1, "change", "(II)V"⟩
abbrev cX1_markClean : ByteArray := prog_3_method_13_code
def yX1_markClean : MethodName := ⟨RX1, "markClean", "(I)V"⟩
abbrev cX1_addPin : ByteArray := prog_3_method_14_code
def yX1_addPin : MethodName := ⟨RX1, "addPin", "(I)V"⟩
abbrev cX1_removePin : ByteArray := prog_3_method_15_code
def yX1_removePin : MethodName := ⟨RX1, "removePin", "(I)V"⟩
abbrev cX1_vacate : ByteArray := prog_3_method_16_code
def yX1_vacate : MethodName := ⟨RX1, "vacate", "(I)V"⟩
def RX2 : String := "LruKPageCache$Histories"
def TX2 : u_T := fun k => match k with
  | 0 => ("LruKPageCache$Histories", "times", "[I", true)
  | 1 => ("LruKPageCache$Histories", "lengths", "[I", true)
  | _ => ("LruKPageCache$Histories", "k", "I", false)
def tyX2 : Nat → FieldType := fun k => match k with
  | 0 => .array .int
  | 1 => .array .int
  | _ => .int
abbrev wsX20 : List Cond := u_ws RX2 TX2 3
theorem nmX2 : ∀ a, a < 3 → ∀ b, b < 3 → a ≠ b → (TX2 a).2.1 ≠ (TX2 b).2.1 := by decide +kernel
theorem tyX2_ok : ∀ k, k < 3 → parseFieldDescriptor (TX2 k).2.2.1 = some (tyX2 k) := by decide +kernel
abbrev cX2_init : ByteArray := prog_4_method_1_code
def yX2_init : MethodName := ⟨RX2, "<init>", "()V"⟩
abbrev cX2_forgetAll : ByteArray := prog_4_method_2_code
def yX2_forgetAll : MethodName := ⟨RX2, "forgetAll", "(I)V"⟩
abbrev cX2_forget : ByteArray := prog_4_method_3_code
def yX2_forget : MethodName := ⟨RX2, "forget", "(I)V"⟩
abbrev cX2_depth : ByteArray := prog_4_method_4_code
def yX2_depth : MethodName := ⟨RX2, "depth", "()I"⟩
abbrev cX2_timeOf : ByteArray := prog_4_method_5_code
def yX2_timeOf : MethodName := ⟨RX2, "timeOf", "(II)I"⟩
abbrev cX2_record : ByteArray := prog_4_method_6_code
def yX2_record : MethodName := ⟨RX2, "record", "(II)V"⟩
abbrev cX2_goesBefore : ByteArray := prog_4_method_7_code
def yX2_goesBefore : MethodName := ⟨RX2, "goesBefore", "(II)Z"⟩
def RX3 : String := "LruKPageCache$WriteBackQueue"
def TX3 : u_T := fun k => match k with
  | 0 => ("LruKPageCache$WriteBackQueue", "pages", "[I", true)
  | 1 => ("LruKPageCache$WriteBackQueue", "values", "[I", true)
  | 2 => ("LruKPageCache$WriteBackQueue", "capacity", "I", false)
  | _ => ("LruKPageCache$WriteBackQueue", "size", "I", false)
def tyX3 : Nat → FieldType := fun k => match k with
  | 0 => .array .int
  | 1 => .array .int
  | 2 => .int
  | _ => .int
abbrev wsX30 : List Cond := u_ws RX3 TX3 4
theorem nmX3 : ∀ a, a < 4 → ∀ b, b < 4 → a ≠ b → (TX3 a).2.1 ≠ (TX3 b).2.1 := by decide +kernel
theorem tyX3_ok : ∀ k, k < 4 → parseFieldDescriptor (TX3 k).2.2.1 = some (tyX3 k) := by decide +kernel
abbrev cX3_init : ByteArray := prog_5_method_1_code
def yX3_init : MethodName := ⟨RX3, "<init>", "()V"⟩
abbrev cX3_empty : ByteArray := prog_5_method_2_code
def yX3_empty : MethodName := ⟨RX3, "empty", "(I)V"⟩
abbrev cX3_length : ByteArray := prog_5_method_3_code
def yX3_length : MethodName := ⟨RX3, "length", "()I"⟩
abbrev cX3_isFull : ByteArray := prog_5_method_4_code
def yX3_isFull : MethodName := ⟨RX3, "isFull", "()Z"⟩
abbrev cX3_pageAt : ByteArray := prog_5_method_5_code
def yX3_pageAt : MethodName := ⟨RX3, "pageAt", "(I)I"⟩
abbrev cX3_valueAt : ByteArray := prog_5_method_6_code
def yX3_valueAt : MethodName := ⟨RX3, "valueAt", "(I)I"⟩
abbrev cX3_positionOf : ByteArray := prog_5_method_7_code
def yX3_positionOf : MethodName := ⟨RX3, "positionOf", "(I)I"⟩
abbrev cX3_append : ByteArray := prog_5_method_8_code
def yX3_append : MethodName := ⟨RX3, "append", "(II)V"⟩
abbrev cX3_removeAt : ByteArray := prog_5_method_9_code
def yX3_removeAt : MethodName := ⟨RX3, "removeAt", "(I)V"⟩
abbrev cX3_has : ByteArray := prog_5_method_10_code
def yX3_has : MethodName := ⟨RX3, "has", "(I)Z"⟩
def RX4 : String := "LruKPageCache"
def TX4 : u_T := fun k => match k with
  | 0 => ("LruKPageCache", "disk", "LLruKPageCache$Disk;", true)
  | 1 => ("LruKPageCache", "frames", "LLruKPageCache$Frames;", true)
  | 2 => ("LruKPageCache", "queue", "LLruKPageCache$WriteBackQueue;", true)
  | 3 => ("LruKPageCache", "histories", "LLruKPageCache$Histories;", true)
  | 4 => ("LruKPageCache", "retentionPeriod", "I", false)
  | 5 => ("LruKPageCache", "now", "I", false)
  | 6 => ("LruKPageCache", "hitTotal", "I", false)
  | 7 => ("LruKPageCache", "missTotal", "I", false)
  | 8 => ("LruKPageCache", "evictionTotal", "I", false)
  | _ => ("LruKPageCache", "stallTotal", "I", false)
def tyX4 : Nat → FieldType := fun k => match k with
  | 0 => .object "LruKPageCache$Disk"
  | 1 => .object "LruKPageCache$Frames"
  | 2 => .object "LruKPageCache$WriteBackQueue"
  | 3 => .object "LruKPageCache$Histories"
  | 4 => .int
  | 5 => .int
  | 6 => .int
  | 7 => .int
  | 8 => .int
  | _ => .int
abbrev wsX40 : List Cond := u_ws RX4 TX4 10
theorem nmX4 : ∀ a, a < 10 → ∀ b, b < 10 → a ≠ b → (TX4 a).2.1 ≠ (TX4 b).2.1 := by decide +kernel
theorem tyX4_ok : ∀ k, k < 10 → parseFieldDescriptor (TX4 k).2.2.1 = some (tyX4 k) := by decide +kernel
abbrev cX4_init : ByteArray := prog_1_method_1_code
def yX4_init : MethodName := ⟨RX4, "<init>", "()V"⟩
abbrev cX4_reset : ByteArray := prog_1_method_2_code
def yX4_reset : MethodName := ⟨RX4, "reset", "(IIII)I"⟩
abbrev cX4_read : ByteArray := prog_1_method_3_code
def yX4_read : MethodName := ⟨RX4, "read", "(I)I"⟩
abbrev cX4_write : ByteArray := prog_1_method_4_code
def yX4_write : MethodName := ⟨RX4, "write", "(II)I"⟩
abbrev cX4_pin : ByteArray := prog_1_method_5_code
def yX4_pin : MethodName := ⟨RX4, "pin", "(I)I"⟩
abbrev cX4_unpin : ByteArray := prog_1_method_6_code
def yX4_unpin : MethodName := ⟨RX4, "unpin", "(I)I"⟩
abbrev cX4_flush : ByteArray := prog_1_method_7_code
def yX4_flush : MethodName := ⟨RX4, "flush", "(I)I"⟩
abbrev cX4_flushAll : ByteArray := prog_1_method_8_code
def yX4_flushAll : MethodName := ⟨RX4, "flushAll", "()I"⟩
abbrev cX4_drain : ByteArray := prog_1_method_9_code
def yX4_drain : MethodName := ⟨RX4, "drain", "(I)I"⟩
abbrev cX4_discard : ByteArray := prog_1_method_10_code
def yX4_discard : MethodName := ⟨RX4, "discard", "(I)I"⟩
abbrev cX4_isResident : ByteArray := prog_1_method_11_code
def yX4_isResident : MethodName := ⟨RX4, "isResident", "(I)I"⟩
abbrev cX4_isDirty : ByteArray := prog_1_method_12_code
def yX4_isDirty : MethodName := ⟨RX4, "isDirty", "(I)I"⟩
abbrev cX4_pinCount : ByteArray := prog_1_method_13_code
def yX4_pinCount : MethodName := ⟨RX4, "pinCount", "(I)I"⟩
abbrev cX4_referenceTime : ByteArray := prog_1_method_14_code
def yX4_referenceTime : MethodName := ⟨RX4, "referenceTime", "(II)I"⟩
abbrev cX4_backwardKDistance : ByteArray := prog_1_method_15_code
def yX4_backwardKDistance : MethodName := ⟨RX4, "backwardKDistance", "(I)I"⟩
abbrev cX4_victim : ByteArray := prog_1_method_16_code
def yX4_victim : MethodName := ⟨RX4, "victim", "()I"⟩
abbrev cX4_diskValue : ByteArray := prog_1_method_17_code
def yX4_diskValue : MethodName := ⟨RX4, "diskValue", "(I)I"⟩
abbrev cX4_residentCount : ByteArray := prog_1_method_18_code
def yX4_residentCount : MethodName := ⟨RX4, "residentCount", "()I"⟩
abbrev cX4_residentPage : ByteArray := prog_1_method_19_code
def yX4_residentPage : MethodName := ⟨RX4, "residentPage", "(I)I"⟩
abbrev cX4_queueSize : ByteArray := prog_1_method_20_code
def yX4_queueSize : MethodName := ⟨RX4, "queueSize", "()I"⟩
abbrev cX4_queuedPage : ByteArray := prog_1_method_21_code
def yX4_queuedPage : MethodName := ⟨RX4, "queuedPage", "(I)I"⟩
abbrev cX4_queuedValue : ByteArray := prog_1_method_22_code
def yX4_queuedValue : MethodName := ⟨RX4, "queuedValue", "(I)I"⟩
abbrev cX4_clock : ByteArray := prog_1_method_23_code
def yX4_clock : MethodName := ⟨RX4, "clock", "()I"⟩
abbrev cX4_hits : ByteArray := prog_1_method_24_code
def yX4_hits : MethodName := ⟨RX4, "hits", "()I"⟩
abbrev cX4_misses : ByteArray := prog_1_method_25_code
def yX4_misses : MethodName := ⟨RX4, "misses", "()I"⟩
abbrev cX4_evictions : ByteArray := prog_1_method_26_code
def yX4_evictions : MethodName := ⟨RX4, "evictions", "()I"⟩
abbrev cX4_diskReads : ByteArray := prog_1_method_27_code
def yX4_diskReads : MethodName := ⟨RX4, "diskReads", "()I"⟩
abbrev cX4_diskWrites : ByteArray := prog_1_method_28_code
def yX4_diskWrites : MethodName := ⟨RX4, "diskWrites", "()I"⟩
abbrev cX4_stalls : ByteArray := prog_1_method_29_code
def yX4_stalls : MethodName := ⟨RX4, "stalls", "()I"⟩
abbrev cX4_isPage : ByteArray := prog_1_method_30_code
def yX4_isPage : MethodName := ⟨RX4, "isPage", "(I)Z"⟩
abbrev cX4_isWithin : ByteArray := prog_1_method_31_code
def yX4_isWithin : MethodName := ⟨RX4, "isWithin", "(III)Z"⟩
abbrev cX4_startAnew : ByteArray := prog_1_method_32_code
def yX4_startAnew : MethodName := ⟨RX4, "startAnew", "(IIII)V"⟩
abbrev cX4_canReference : ByteArray := prog_1_method_33_code
def yX4_canReference : MethodName := ⟨RX4, "canReference", "(I)Z"⟩
abbrev cX4_reference : ByteArray := prog_1_method_34_code
def yX4_reference : MethodName := ⟨RX4, "reference", "(I)V"⟩
abbrev cX4_makeRoom : ByteArray := prog_1_method_35_code
def yX4_makeRoom : MethodName := ⟨RX4, "makeRoom", "()V"⟩
abbrev cX4_enqueue : ByteArray := prog_1_method_36_code
def yX4_enqueue : MethodName := ⟨RX4, "enqueue", "(I)V"⟩
abbrev cX4_load : ByteArray := prog_1_method_37_code
def yX4_load : MethodName := ⟨RX4, "load", "(I)V"⟩
abbrev cX4_forgetIfStale : ByteArray := prog_1_method_38_code
def yX4_forgetIfStale : MethodName := ⟨RX4, "forgetIfStale", "(I)V"⟩
abbrev cX4_chooseVictim : ByteArray := prog_1_method_39_code
def yX4_chooseVictim : MethodName := ⟨RX4, "chooseVictim", "()I"⟩
abbrev cX4_writeFrame : ByteArray := prog_1_method_40_code
def yX4_writeFrame : MethodName := ⟨RX4, "writeFrame", "(I)V"⟩
abbrev cX4_writeOldest : ByteArray := prog_1_method_41_code
def yX4_writeOldest : MethodName := ⟨RX4, "writeOldest", "(I)I"⟩
abbrev cX4_writeEntry : ByteArray := prog_1_method_42_code
def yX4_writeEntry : MethodName := ⟨RX4, "writeEntry", "(I)V"⟩
def RX5 : String := "LruKPageCacheModel"
def TX5 : u_T := fun k => match k with
  | 0 => ("LruKPageCacheModel", "capacity", "I", false)
  | 1 => ("LruKPageCacheModel", "k", "I", false)
  | 2 => ("LruKPageCacheModel", "queueCapacity", "I", false)
  | 3 => ("LruKPageCacheModel", "retention", "I", false)
  | 4 => ("LruKPageCacheModel", "clock", "I", false)
  | 5 => ("LruKPageCacheModel", "hits", "I", false)
  | 6 => ("LruKPageCacheModel", "misses", "I", false)
  | 7 => ("LruKPageCacheModel", "evictions", "I", false)
  | 8 => ("LruKPageCacheModel", "diskReads", "I", false)
  | 9 => ("LruKPageCacheModel", "diskWrites", "I", false)
  | 10 => ("LruKPageCacheModel", "stalls", "I", false)
  | 11 => ("LruKPageCacheModel", "disk", "[I", true)
  | 12 => ("LruKPageCacheModel", "value", "[I", true)
  | 13 => ("LruKPageCacheModel", "pins", "[I", true)
  | 14 => ("LruKPageCacheModel", "isResident", "[Z", true)
  | 15 => ("LruKPageCacheModel", "isDirty", "[Z", true)
  | 16 => ("LruKPageCacheModel", "times", "[I", true)
  | 17 => ("LruKPageCacheModel", "remembered", "[I", true)
  | 18 => ("LruKPageCacheModel", "queuedPages", "[I", true)
  | 19 => ("LruKPageCacheModel", "queuedValues", "[I", true)
  | _ => ("LruKPageCacheModel", "queueSize", "I", false)
def tyX5 : Nat → FieldType := fun k => match k with
  | 0 => .int
  | 1 => .int
  | 2 => .int
  | 3 => .int
  | 4 => .int
  | 5 => .int
  | 6 => .int
  | 7 => .int
  | 8 => .int
  | 9 => .int
  | 10 => .int
  | 11 => .array .int
  | 12 => .array .int
  | 13 => .array .int
  | 14 => .array .boolean
  | 15 => .array .boolean
  | 16 => .array .int
  | 17 => .array .int
  | 18 => .array .int
  | 19 => .array .int
  | _ => .int
abbrev wsX50 : List Cond := u_ws RX5 TX5 21
theorem nmX5 : ∀ a, a < 21 → ∀ b, b < 21 → a ≠ b → (TX5 a).2.1 ≠ (TX5 b).2.1 := by decide +kernel
theorem tyX5_ok : ∀ k, k < 21 → parseFieldDescriptor (TX5 k).2.2.1 = some (tyX5 k) := by decide +kernel
abbrev cX5_init : ByteArray := prog_7_method_1_code
def yX5_init : MethodName := ⟨RX5, "<init>", "()V"⟩
abbrev cX5_isFrom : ByteArray := prog_7_method_2_code
def yX5_isFrom : MethodName := ⟨RX5, "isFrom", "(III)Z"⟩
abbrev cX5_isPage : ByteArray := prog_7_method_3_code
def yX5_isPage : MethodName := ⟨RX5, "isPage", "(I)Z"⟩
abbrev cX5_reset : ByteArray := prog_7_method_4_code
def yX5_reset : MethodName := ⟨RX5, "reset", "(IIII)I"⟩
abbrev cX5_time : ByteArray := prog_7_method_5_code
def yX5_time : MethodName := ⟨RX5, "time", "(II)I"⟩
abbrev cX5_record : ByteArray := prog_7_method_6_code
def yX5_record : MethodName := ⟨RX5, "record", "(I)V"⟩
abbrev cX5_goesFirst : ByteArray := prog_7_method_7_code
def yX5_goesFirst : MethodName := ⟨RX5, "goesFirst", "(II)Z"⟩
abbrev cX5_victim : ByteArray := prog_7_method_8_code
def yX5_victim : MethodName := ⟨RX5, "victim", "()I"⟩
abbrev cX5_canLoad : ByteArray := prog_7_method_9_code
def yX5_canLoad : MethodName := ⟨RX5, "canLoad", "()Z"⟩
abbrev cX5_writeToDisk : ByteArray := prog_7_method_10_code
def yX5_writeToDisk : MethodName := ⟨RX5, "writeToDisk", "(II)V"⟩
abbrev cX5_removeEntry : ByteArray := prog_7_method_11_code
def yX5_removeEntry : MethodName := ⟨RX5, "removeEntry", "(I)V"⟩
abbrev cX5_writeOldest : ByteArray := prog_7_method_12_code
def yX5_writeOldest : MethodName := ⟨RX5, "writeOldest", "()V"⟩
abbrev cX5_positionInQueue : ByteArray := prog_7_method_13_code
def yX5_positionInQueue : MethodName := ⟨RX5, "positionInQueue", "(I)I"⟩
abbrev cX5_evict : ByteArray := prog_7_method_14_code
def yX5_evict : MethodName := ⟨RX5, "evict", "(I)V"⟩
abbrev cX5_load : ByteArray := prog_7_method_15_code
def yX5_load : MethodName := ⟨RX5, "load", "(I)V"⟩
abbrev cX5_reference : ByteArray := prog_7_method_16_code
def yX5_reference : MethodName := ⟨RX5, "reference", "(I)V"⟩
abbrev cX5_isStuck : ByteArray := prog_7_method_17_code
def yX5_isStuck : MethodName := ⟨RX5, "isStuck", "(I)Z"⟩
abbrev cX5_read : ByteArray := prog_7_method_18_code
def yX5_read : MethodName := ⟨RX5, "read", "(I)I"⟩
abbrev cX5_write : ByteArray := prog_7_method_19_code
def yX5_write : MethodName := ⟨RX5, "write", "(II)I"⟩
abbrev cX5_pin : ByteArray := prog_7_method_20_code
def yX5_pin : MethodName := ⟨RX5, "pin", "(I)I"⟩
abbrev cX5_unpin : ByteArray := prog_7_method_21_code
def yX5_unpin : MethodName := ⟨RX5, "unpin", "(I)I"⟩
abbrev cX5_writeResident : ByteArray := prog_7_method_22_code
def yX5_writeResident : MethodName := ⟨RX5, "writeResident", "(I)Z"⟩
abbrev cX5_flush : ByteArray := prog_7_method_23_code
def yX5_flush : MethodName := ⟨RX5, "flush", "(I)I"⟩
abbrev cX5_flushAll : ByteArray := prog_7_method_24_code
def yX5_flushAll : MethodName := ⟨RX5, "flushAll", "()I"⟩
abbrev cX5_drain : ByteArray := prog_7_method_25_code
def yX5_drain : MethodName := ⟨RX5, "drain", "(I)I"⟩
abbrev cX5_discard : ByteArray := prog_7_method_26_code
def yX5_discard : MethodName := ⟨RX5, "discard", "(I)I"⟩
abbrev cX5_isResident : ByteArray := prog_7_method_27_code
def yX5_isResident : MethodName := ⟨RX5, "isResident", "(I)I"⟩
abbrev cX5_isDirty : ByteArray := prog_7_method_28_code
def yX5_isDirty : MethodName := ⟨RX5, "isDirty", "(I)I"⟩
abbrev cX5_pinCount : ByteArray := prog_7_method_29_code
def yX5_pinCount : MethodName := ⟨RX5, "pinCount", "(I)I"⟩
abbrev cX5_referenceTime : ByteArray := prog_7_method_30_code
def yX5_referenceTime : MethodName := ⟨RX5, "referenceTime", "(II)I"⟩
abbrev cX5_backwardKDistance : ByteArray := prog_7_method_31_code
def yX5_backwardKDistance : MethodName := ⟨RX5, "backwardKDistance", "(I)I"⟩
abbrev cX5_diskValue : ByteArray := prog_7_method_32_code
def yX5_diskValue : MethodName := ⟨RX5, "diskValue", "(I)I"⟩
abbrev cX5_residentCount : ByteArray := prog_7_method_33_code
def yX5_residentCount : MethodName := ⟨RX5, "residentCount", "()I"⟩
abbrev cX5_residentPage : ByteArray := prog_7_method_34_code
def yX5_residentPage : MethodName := ⟨RX5, "residentPage", "(I)I"⟩
abbrev cX5_isInQueue : ByteArray := prog_7_method_35_code
def yX5_isInQueue : MethodName := ⟨RX5, "isInQueue", "(I)Z"⟩
abbrev cX5_queueSize : ByteArray := prog_7_method_36_code
def yX5_queueSize : MethodName := ⟨RX5, "queueSize", "()I"⟩
abbrev cX5_queuedPage : ByteArray := prog_7_method_37_code
def yX5_queuedPage : MethodName := ⟨RX5, "queuedPage", "(I)I"⟩
abbrev cX5_queuedValue : ByteArray := prog_7_method_38_code
def yX5_queuedValue : MethodName := ⟨RX5, "queuedValue", "(I)I"⟩
abbrev cX5_clock : ByteArray := prog_7_method_39_code
def yX5_clock : MethodName := ⟨RX5, "clock", "()I"⟩
abbrev cX5_hits : ByteArray := prog_7_method_40_code
def yX5_hits : MethodName := ⟨RX5, "hits", "()I"⟩
abbrev cX5_misses : ByteArray := prog_7_method_41_code
def yX5_misses : MethodName := ⟨RX5, "misses", "()I"⟩
abbrev cX5_evictions : ByteArray := prog_7_method_42_code
def yX5_evictions : MethodName := ⟨RX5, "evictions", "()I"⟩
abbrev cX5_diskReads : ByteArray := prog_7_method_43_code
def yX5_diskReads : MethodName := ⟨RX5, "diskReads", "()I"⟩
abbrev cX5_diskWrites : ByteArray := prog_7_method_44_code
def yX5_diskWrites : MethodName := ⟨RX5, "diskWrites", "()I"⟩
abbrev cX5_stalls : ByteArray := prog_7_method_45_code
def yX5_stalls : MethodName := ⟨RX5, "stalls", "()I"⟩
def RJ9 : String := "java/lang/Math"
def TJ9 : u_T := fun k => match k with
  | _ => ("", "", "", false)
def tyJ9 : Nat → FieldType := fun k => match k with
  | _ => .int
abbrev wsJ90 : List Cond := u_ws RJ9 TJ9 0
theorem nmJ9 : ∀ a, a < 0 → ∀ b, b < 0 → a ≠ b → (TJ9 a).2.1 ≠ (TJ9 b).2.1 := by decide +kernel
theorem tyJ9_ok : ∀ k, k < 0 → parseFieldDescriptor (TJ9 k).2.2.1 = some (tyJ9 k) := by decide +kernel
abbrev cJ9_min_7cf53 : ByteArray := prog_8_method_69_code
def yJ9_min_7cf53 : MethodName := ⟨RJ9, "min", "(II)I"⟩
def RJ7 : String := "java/util/Arrays"
def TJ7 : u_T := fun k => match k with
  | _ => ("", "", "", false)
def tyJ7 : Nat → FieldType := fun k => match k with
  | _ => .int
abbrev wsJ70 : List Cond := u_ws RJ7 TJ7 0
theorem nmJ7 : ∀ a, a < 0 → ∀ b, b < 0 → a ≠ b → (TJ7 a).2.1 ≠ (TJ7 b).2.1 := by decide +kernel
theorem tyJ7_ok : ∀ k, k < 0 → parseFieldDescriptor (TJ7 k).2.2.1 = some (tyJ7 k) := by decide +kernel
abbrev cJ7_fill_53178 : ByteArray := prog_9_method_103_code
def yJ7_fill_53178 : MethodName := ⟨RJ7, "fill", "([II)V"⟩
def RL : String := "LruKPageCacheLaw"
abbrev cL_law : ByteArray := code
def yL_law : MethodName := ⟨RL, "law", "([I)Z"⟩
def wsX0_init : List Cond := .code yX0_init cX0_init 1 none :: ([.methodLink RX0 3 objectInit, .instanceMethod objectInit, .code objectInit ⟨#[0xb1]⟩ 1 none, .arrayClass .int, .fieldLink RX0 9 "LruKPageCache$Disk" "values" "[I"] ++ wsX00)
def wsJ7_fill_53178 : List Cond := .code yJ7_fill_53178 cJ7_fill_53178 4 none :: ([])
def wsX0_erase : List Cond := .code yX0_erase cX0_erase 1 none :: ([.fieldLink RX0 9 "LruKPageCache$Disk" "values" "[I", .fieldLink RX0 21 "LruKPageCache$Disk" "loadTotal" "I", .fieldLink RX0 25 "LruKPageCache$Disk" "storeTotal" "I", .methodLink RX0 15 yJ7_fill_53178, .static yJ7_fill_53178, .initialized RJ7, .code yJ7_fill_53178 cJ7_fill_53178 4 none] ++ wsX00)
def wsX0_valueOf : List Cond := .code yX0_valueOf cX0_valueOf 2 (some .int) :: ([.fieldLink RX0 9 "LruKPageCache$Disk" "values" "[I"] ++ wsX00)
def wsX0_load : List Cond := .code yX0_load cX0_load 2 (some .int) :: ([.fieldLink RX0 21 "LruKPageCache$Disk" "loadTotal" "I", .fieldLink RX0 9 "LruKPageCache$Disk" "values" "[I"] ++ wsX00)
def wsX0_store : List Cond := .code yX0_store cX0_store 3 none :: ([.fieldLink RX0 25 "LruKPageCache$Disk" "storeTotal" "I", .fieldLink RX0 9 "LruKPageCache$Disk" "values" "[I"] ++ wsX00)
def wsX0_loads : List Cond := .code yX0_loads cX0_loads 1 (some .int) :: ([.fieldLink RX0 21 "LruKPageCache$Disk" "loadTotal" "I"] ++ wsX00)
def wsX0_stores : List Cond := .code yX0_stores cX0_stores 1 (some .int) :: ([.fieldLink RX0 25 "LruKPageCache$Disk" "storeTotal" "I"] ++ wsX00)
def wsX1_init : List Cond := .code yX1_init cX1_init 1 none :: ([.methodLink RX1 3 objectInit, .instanceMethod objectInit, .code objectInit ⟨#[0xb1]⟩ 1 none, .arrayClass .boolean, .fieldLink RX1 9 "LruKPageCache$Frames" "resident" "[Z", .fieldLink RX1 15 "LruKPageCache$Frames" "changed" "[Z", .arrayClass .int, .fieldLink RX1 18 "LruKPageCache$Frames" "values" "[I", .fieldLink RX1 22 "LruKPageCache$Frames" "pins" "[I"] ++ wsX10)
def wsX1_vacate : List Cond := .code yX1_vacate cX1_vacate 2 none :: ([.fieldLink RX1 9 "LruKPageCache$Frames" "resident" "[Z", .fieldLink RX1 15 "LruKPageCache$Frames" "changed" "[Z", .fieldLink RX1 22 "LruKPageCache$Frames" "pins" "[I"] ++ wsX10)
def wsX1_empty : List Cond := .code yX1_empty cX1_empty 3 none :: ([.fieldLink RX1 29 "LruKPageCache$Frames" "usedFrames" "I", .fieldLink RX1 33 "LruKPageCache$Frames" "capacity" "I", .methodLink RX1 25 yX1_vacate, .instanceMethod yX1_vacate, .selects RX1 yX1_vacate yX1_vacate, .initialized RX1, .code yX1_vacate cX1_vacate 2 none, .fieldLink RX1 9 "LruKPageCache$Frames" "resident" "[Z", .fieldLink RX1 15 "LruKPageCache$Frames" "changed" "[Z", .fieldLink RX1 22 "LruKPageCache$Frames" "pins" "[I"] ++ wsX10)
def wsX1_areFull : List Cond := .code yX1_areFull cX1_areFull 1 (some .boolean) :: ([.fieldLink RX1 29 "LruKPageCache$Frames" "usedFrames" "I", .fieldLink RX1 33 "LruKPageCache$Frames" "capacity" "I"] ++ wsX10)
def wsX1_used : List Cond := .code yX1_used cX1_used 1 (some .int) :: ([.fieldLink RX1 29 "LruKPageCache$Frames" "usedFrames" "I"] ++ wsX10)
def wsX1_holds : List Cond := .code yX1_holds cX1_holds 2 (some .boolean) :: ([.fieldLink RX1 9 "LruKPageCache$Frames" "resident" "[Z"] ++ wsX10)
def wsX1_isChanged : List Cond := .code yX1_isChanged cX1_isChanged 2 (some .boolean) :: ([.fieldLink RX1 15 "LruKPageCache$Frames" "changed" "[Z"] ++ wsX10)
def wsX1_valueOf : List Cond := .code yX1_valueOf cX1_valueOf 2 (some .int) :: ([.fieldLink RX1 18 "LruKPageCache$Frames" "values" "[I"] ++ wsX10)
def wsX1_pinsOf : List Cond := .code yX1_pinsOf cX1_pinsOf 2 (some .int) :: ([.fieldLink RX1 22 "LruKPageCache$Frames" "pins" "[I"] ++ wsX10)
def wsX1_pageAt : List Cond := .code yX1_pageAt cX1_pageAt 4 (some .int) :: ([.fieldLink RX1 9 "LruKPageCache$Frames" "resident" "[Z"] ++ wsX10)
def wsX1_place : List Cond := .code yX1_place cX1_place 3 none :: ([.fieldLink RX1 9 "LruKPageCache$Frames" "resident" "[Z", .fieldLink RX1 18 "LruKPageCache$Frames" "values" "[I", .fieldLink RX1 29 "LruKPageCache$Frames" "usedFrames" "I"] ++ wsX10)
def wsX1_release : List Cond := .code yX1_release cX1_release 2 none :: ([.fieldLink RX1 29 "LruKPageCache$Frames" "usedFrames" "I", .methodLink RX1 25 yX1_vacate, .instanceMethod yX1_vacate, .selects RX1 yX1_vacate yX1_vacate, .initialized RX1, .code yX1_vacate cX1_vacate 2 none, .fieldLink RX1 9 "LruKPageCache$Frames" "resident" "[Z", .fieldLink RX1 15 "LruKPageCache$Frames" "changed" "[Z", .fieldLink RX1 22 "LruKPageCache$Frames" "pins" "[I"] ++ wsX10)
def wsX1_change : List Cond := .code yX1_change cX1_change 3 none :: ([.fieldLink RX1 18 "LruKPageCache$Frames" "values" "[I", .fieldLink RX1 15 "LruKPageCache$Frames" "changed" "[Z"] ++ wsX10)
def wsX1_markClean : List Cond := .code yX1_markClean cX1_markClean 2 none :: ([.fieldLink RX1 15 "LruKPageCache$Frames" "changed" "[Z"] ++ wsX10)
def wsX1_addPin : List Cond := .code yX1_addPin cX1_addPin 2 none :: ([.fieldLink RX1 22 "LruKPageCache$Frames" "pins" "[I"] ++ wsX10)
def wsX1_removePin : List Cond := .code yX1_removePin cX1_removePin 2 none :: ([.fieldLink RX1 22 "LruKPageCache$Frames" "pins" "[I"] ++ wsX10)
def wsX2_init : List Cond := .code yX2_init cX2_init 1 none :: ([.methodLink RX2 3 objectInit, .instanceMethod objectInit, .code objectInit ⟨#[0xb1]⟩ 1 none, .arrayClass .int, .fieldLink RX2 9 "LruKPageCache$Histories" "times" "[I", .fieldLink RX2 15 "LruKPageCache$Histories" "lengths" "[I"] ++ wsX20)
def wsX2_forgetAll : List Cond := .code yX2_forgetAll cX2_forgetAll 2 none :: ([.fieldLink RX2 15 "LruKPageCache$Histories" "lengths" "[I", .fieldLink RX2 24 "LruKPageCache$Histories" "k" "I", .methodLink RX2 18 yJ7_fill_53178, .static yJ7_fill_53178, .initialized RJ7, .code yJ7_fill_53178 cJ7_fill_53178 4 none] ++ wsX20)
def wsX2_forget : List Cond := .code yX2_forget cX2_forget 2 none :: ([.fieldLink RX2 15 "LruKPageCache$Histories" "lengths" "[I"] ++ wsX20)
def wsX2_depth : List Cond := .code yX2_depth cX2_depth 1 (some .int) :: ([.fieldLink RX2 24 "LruKPageCache$Histories" "k" "I"] ++ wsX20)
def wsX2_timeOf : List Cond := .code yX2_timeOf cX2_timeOf 3 (some .int) :: ([.fieldLink RX2 15 "LruKPageCache$Histories" "lengths" "[I", .fieldLink RX2 9 "LruKPageCache$Histories" "times" "[I"] ++ wsX20)
def wsX2_record : List Cond := .code yX2_record cX2_record 5 none :: ([.fieldLink RX2 9 "LruKPageCache$Histories" "times" "[I", .fieldLink RX2 15 "LruKPageCache$Histories" "lengths" "[I", .fieldLink RX2 24 "LruKPageCache$Histories" "k" "I"] ++ wsX20)
def wsX2_goesBefore : List Cond := .code yX2_goesBefore cX2_goesBefore 6 (some .boolean) :: ([.fieldLink RX2 15 "LruKPageCache$Histories" "lengths" "[I", .fieldLink RX2 24 "LruKPageCache$Histories" "k" "I", .methodLink RX2 28 yX2_timeOf, .instanceMethod yX2_timeOf, .selects RX2 yX2_timeOf yX2_timeOf, .initialized RX2, .code yX2_timeOf cX2_timeOf 3 (some .int), .fieldLink RX2 9 "LruKPageCache$Histories" "times" "[I"] ++ wsX20)
def wsX3_init : List Cond := .code yX3_init cX3_init 1 none :: ([.methodLink RX3 3 objectInit, .instanceMethod objectInit, .code objectInit ⟨#[0xb1]⟩ 1 none, .arrayClass .int, .fieldLink RX3 9 "LruKPageCache$WriteBackQueue" "pages" "[I", .fieldLink RX3 15 "LruKPageCache$WriteBackQueue" "values" "[I"] ++ wsX30)
def wsX3_empty : List Cond := .code yX3_empty cX3_empty 2 none :: ([.fieldLink RX3 18 "LruKPageCache$WriteBackQueue" "size" "I", .fieldLink RX3 22 "LruKPageCache$WriteBackQueue" "capacity" "I"] ++ wsX30)
def wsX3_length : List Cond := .code yX3_length cX3_length 1 (some .int) :: ([.fieldLink RX3 18 "LruKPageCache$WriteBackQueue" "size" "I"] ++ wsX30)
def wsX3_isFull : List Cond := .code yX3_isFull cX3_isFull 1 (some .boolean) :: ([.fieldLink RX3 18 "LruKPageCache$WriteBackQueue" "size" "I", .fieldLink RX3 22 "LruKPageCache$WriteBackQueue" "capacity" "I"] ++ wsX30)
def wsX3_has : List Cond := .code yX3_has cX3_has 2 (some .boolean) :: ([.fieldLink RX3 18 "LruKPageCache$WriteBackQueue" "size" "I"] ++ wsX30)
def wsX3_pageAt : List Cond := .code yX3_pageAt cX3_pageAt 2 (some .int) :: ([.fieldLink RX3 9 "LruKPageCache$WriteBackQueue" "pages" "[I", .methodLink RX3 25 yX3_has, .instanceMethod yX3_has, .selects RX3 yX3_has yX3_has, .initialized RX3, .code yX3_has cX3_has 2 (some .boolean), .fieldLink RX3 18 "LruKPageCache$WriteBackQueue" "size" "I"] ++ wsX30)
def wsX3_valueAt : List Cond := .code yX3_valueAt cX3_valueAt 2 (some .int) :: ([.fieldLink RX3 15 "LruKPageCache$WriteBackQueue" "values" "[I", .methodLink RX3 25 yX3_has, .instanceMethod yX3_has, .selects RX3 yX3_has yX3_has, .initialized RX3, .code yX3_has cX3_has 2 (some .boolean), .fieldLink RX3 18 "LruKPageCache$WriteBackQueue" "size" "I"] ++ wsX30)
def wsX3_positionOf : List Cond := .code yX3_positionOf cX3_positionOf 3 (some .int) :: ([.fieldLink RX3 18 "LruKPageCache$WriteBackQueue" "size" "I", .fieldLink RX3 9 "LruKPageCache$WriteBackQueue" "pages" "[I"] ++ wsX30)
def wsX3_append : List Cond := .code yX3_append cX3_append 3 none :: ([.fieldLink RX3 9 "LruKPageCache$WriteBackQueue" "pages" "[I", .fieldLink RX3 18 "LruKPageCache$WriteBackQueue" "size" "I", .fieldLink RX3 15 "LruKPageCache$WriteBackQueue" "values" "[I", .methodLink RX3 29 yX3_isFull, .instanceMethod yX3_isFull, .selects RX3 yX3_isFull yX3_isFull, .initialized RX3, .code yX3_isFull cX3_isFull 1 (some .boolean), .fieldLink RX3 22 "LruKPageCache$WriteBackQueue" "capacity" "I"] ++ wsX30)
def wsX3_removeAt : List Cond := .code yX3_removeAt cX3_removeAt 3 none :: ([.fieldLink RX3 18 "LruKPageCache$WriteBackQueue" "size" "I", .fieldLink RX3 9 "LruKPageCache$WriteBackQueue" "pages" "[I", .fieldLink RX3 15 "LruKPageCache$WriteBackQueue" "values" "[I", .methodLink RX3 25 yX3_has, .instanceMethod yX3_has, .selects RX3 yX3_has yX3_has, .initialized RX3, .code yX3_has cX3_has 2 (some .boolean)] ++ wsX30)
def wsX4_startAnew_r1 : List Cond := [Cond.fieldLink RX4 10 "LruKPageCache" "disk" "LLruKPageCache$Disk;", Cond.fieldLink RX4 19 "LruKPageCache" "frames" "LLruKPageCache$Frames;", Cond.fieldLink RX4 26 "LruKPageCache" "queue" "LLruKPageCache$WriteBackQueue;", Cond.fieldLink RX4 33 "LruKPageCache" "histories" "LLruKPageCache$Histories;", Cond.fieldLink RX4 157 "LruKPageCache" "retentionPeriod" "I", Cond.fieldLink RX4 111 "LruKPageCache" "now" "I", Cond.fieldLink RX4 129 "LruKPageCache" "hitTotal" "I", Cond.fieldLink RX4 132 "LruKPageCache" "missTotal" "I", Cond.fieldLink RX4 135 "LruKPageCache" "evictionTotal" "I", Cond.fieldLink RX4 144 "LruKPageCache" "stallTotal" "I", Cond.methodLink RX4 147 yX0_erase, Cond.instanceMethod yX0_erase, Cond.selects RX0 yX0_erase yX0_erase, Cond.initialized RX0, Cond.code yX0_erase cX0_erase 1 none, Cond.fieldLink RX0 9 "LruKPageCache$Disk" "values" "[I", Cond.fieldLink RX0 21 "LruKPageCache$Disk" "loadTotal" "I", Cond.fieldLink RX0 25 "LruKPageCache$Disk" "storeTotal" "I", Cond.methodLink RX0 15 yJ7_fill_53178, Cond.static yJ7_fill_53178, Cond.initialized RJ7, Cond.code yJ7_fill_53178 cJ7_fill_53178 4 none, Cond.methodLink RX4 150 yX1_empty, Cond.instanceMethod yX1_empty]
def wsX4_startAnew_r2 : List Cond := [Cond.selects RX1 yX1_empty yX1_empty, Cond.initialized RX1, Cond.code yX1_empty cX1_empty 3 none, Cond.fieldLink RX1 29 "LruKPageCache$Frames" "usedFrames" "I", Cond.fieldLink RX1 33 "LruKPageCache$Frames" "capacity" "I", Cond.methodLink RX1 25 yX1_vacate, Cond.instanceMethod yX1_vacate, Cond.selects RX1 yX1_vacate yX1_vacate, Cond.code yX1_vacate cX1_vacate 2 none, Cond.fieldLink RX1 9 "LruKPageCache$Frames" "resident" "[Z", Cond.fieldLink RX1 15 "LruKPageCache$Frames" "changed" "[Z", Cond.fieldLink RX1 22 "LruKPageCache$Frames" "pins" "[I", Cond.methodLink RX4 153 yX3_empty, Cond.instanceMethod yX3_empty, Cond.selects RX3 yX3_empty yX3_empty, Cond.initialized RX3, Cond.code yX3_empty cX3_empty 2 none, Cond.fieldLink RX3 18 "LruKPageCache$WriteBackQueue" "size" "I", Cond.fieldLink RX3 22 "LruKPageCache$WriteBackQueue" "capacity" "I", Cond.methodLink RX4 154 yX2_forgetAll, Cond.instanceMethod yX2_forgetAll, Cond.selects RX2 yX2_forgetAll yX2_forgetAll, Cond.initialized RX2, Cond.code yX2_forgetAll cX2_forgetAll 2 none]
def wsX4_startAnew_r3 : List Cond := [Cond.fieldLink RX2 15 "LruKPageCache$Histories" "lengths" "[I", Cond.fieldLink RX2 24 "LruKPageCache$Histories" "k" "I", Cond.methodLink RX2 18 yJ7_fill_53178]
def wsX4_startAnew : List Cond := .code yX4_startAnew cX4_startAnew 5 none :: ((wsX4_startAnew_r1 ++ (wsX4_startAnew_r2 ++ wsX4_startAnew_r3)) ++ wsX40 ++ wsX00 ++ wsX10 ++ wsX30 ++ wsX20)
def wsX4_init_r1 : List Cond := [Cond.methodLink RX4 1 objectInit, Cond.instanceMethod objectInit, Cond.code objectInit ⟨#[0xb1]⟩ 1 none, Cond.classLink RX4 7 RX0, Cond.instantiable RX0 3, Cond.initialized RX0, Cond.fieldLink RX4 10 "LruKPageCache" "disk" "LLruKPageCache$Disk;", Cond.classLink RX4 16 RX1, Cond.instantiable RX1 6, Cond.initialized RX1, Cond.fieldLink RX4 19 "LruKPageCache" "frames" "LLruKPageCache$Frames;", Cond.classLink RX4 23 RX3, Cond.instantiable RX3 4, Cond.initialized RX3, Cond.fieldLink RX4 26 "LruKPageCache" "queue" "LLruKPageCache$WriteBackQueue;", Cond.classLink RX4 30 RX2, Cond.instantiable RX2 3, Cond.initialized RX2, Cond.fieldLink RX4 33 "LruKPageCache" "histories" "LLruKPageCache$Histories;", Cond.methodLink RX4 9 yX0_init, Cond.instanceMethod yX0_init, Cond.code yX0_init cX0_init 1 none, Cond.methodLink RX0 3 objectInit, Cond.arrayClass .int]
def wsX4_init_r2 : List Cond := [Cond.fieldLink RX0 9 "LruKPageCache$Disk" "values" "[I", Cond.methodLink RX4 18 yX1_init, Cond.instanceMethod yX1_init, Cond.code yX1_init cX1_init 1 none, Cond.methodLink RX1 3 objectInit, Cond.arrayClass .boolean, Cond.fieldLink RX1 9 "LruKPageCache$Frames" "resident" "[Z", Cond.fieldLink RX1 15 "LruKPageCache$Frames" "changed" "[Z", Cond.fieldLink RX1 18 "LruKPageCache$Frames" "values" "[I", Cond.fieldLink RX1 22 "LruKPageCache$Frames" "pins" "[I", Cond.methodLink RX4 25 yX3_init, Cond.instanceMethod yX3_init, Cond.code yX3_init cX3_init 1 none, Cond.methodLink RX3 3 objectInit, Cond.fieldLink RX3 9 "LruKPageCache$WriteBackQueue" "pages" "[I", Cond.fieldLink RX3 15 "LruKPageCache$WriteBackQueue" "values" "[I", Cond.methodLink RX4 32 yX2_init, Cond.instanceMethod yX2_init, Cond.code yX2_init cX2_init 1 none, Cond.methodLink RX2 3 objectInit, Cond.fieldLink RX2 9 "LruKPageCache$Histories" "times" "[I", Cond.fieldLink RX2 15 "LruKPageCache$Histories" "lengths" "[I", Cond.methodLink RX4 37 yX4_startAnew, Cond.instanceMethod yX4_startAnew]
def wsX4_init_r3 : List Cond := [Cond.selects RX4 yX4_startAnew yX4_startAnew, Cond.initialized RX4, Cond.code yX4_startAnew cX4_startAnew 5 none, Cond.fieldLink RX4 157 "LruKPageCache" "retentionPeriod" "I", Cond.fieldLink RX4 111 "LruKPageCache" "now" "I", Cond.fieldLink RX4 129 "LruKPageCache" "hitTotal" "I", Cond.fieldLink RX4 132 "LruKPageCache" "missTotal" "I", Cond.fieldLink RX4 135 "LruKPageCache" "evictionTotal" "I", Cond.fieldLink RX4 144 "LruKPageCache" "stallTotal" "I", Cond.methodLink RX4 147 yX0_erase, Cond.instanceMethod yX0_erase, Cond.selects RX0 yX0_erase yX0_erase, Cond.code yX0_erase cX0_erase 1 none, Cond.fieldLink RX0 21 "LruKPageCache$Disk" "loadTotal" "I", Cond.fieldLink RX0 25 "LruKPageCache$Disk" "storeTotal" "I", Cond.methodLink RX0 15 yJ7_fill_53178, Cond.static yJ7_fill_53178, Cond.initialized RJ7, Cond.code yJ7_fill_53178 cJ7_fill_53178 4 none, Cond.methodLink RX4 150 yX1_empty, Cond.instanceMethod yX1_empty, Cond.selects RX1 yX1_empty yX1_empty, Cond.code yX1_empty cX1_empty 3 none, Cond.fieldLink RX1 29 "LruKPageCache$Frames" "usedFrames" "I"]
def wsX4_init_r4 : List Cond := [Cond.fieldLink RX1 33 "LruKPageCache$Frames" "capacity" "I", Cond.methodLink RX1 25 yX1_vacate, Cond.instanceMethod yX1_vacate, Cond.selects RX1 yX1_vacate yX1_vacate, Cond.code yX1_vacate cX1_vacate 2 none, Cond.methodLink RX4 153 yX3_empty, Cond.instanceMethod yX3_empty, Cond.selects RX3 yX3_empty yX3_empty, Cond.code yX3_empty cX3_empty 2 none, Cond.fieldLink RX3 18 "LruKPageCache$WriteBackQueue" "size" "I", Cond.fieldLink RX3 22 "LruKPageCache$WriteBackQueue" "capacity" "I", Cond.methodLink RX4 154 yX2_forgetAll, Cond.instanceMethod yX2_forgetAll, Cond.selects RX2 yX2_forgetAll yX2_forgetAll, Cond.code yX2_forgetAll cX2_forgetAll 2 none, Cond.fieldLink RX2 24 "LruKPageCache$Histories" "k" "I", Cond.methodLink RX2 18 yJ7_fill_53178]
def wsX4_init : List Cond := .code yX4_init cX4_init 1 none :: ((wsX4_init_r1 ++ (wsX4_init_r2 ++ (wsX4_init_r3 ++ wsX4_init_r4))) ++ wsX00 ++ wsX40 ++ wsX10 ++ wsX30 ++ wsX20)
def wsX4_isWithin : List Cond := .code yX4_isWithin cX4_isWithin 3 (some .boolean) :: ([])
def wsX4_reset_r1 : List Cond := [Cond.methodLink RX4 41 yX4_isWithin, Cond.static yX4_isWithin, Cond.initialized RX4, Cond.code yX4_isWithin cX4_isWithin 3 (some .boolean), Cond.methodLink RX4 37 yX4_startAnew, Cond.instanceMethod yX4_startAnew, Cond.selects RX4 yX4_startAnew yX4_startAnew, Cond.code yX4_startAnew cX4_startAnew 5 none, Cond.fieldLink RX4 10 "LruKPageCache" "disk" "LLruKPageCache$Disk;", Cond.fieldLink RX4 19 "LruKPageCache" "frames" "LLruKPageCache$Frames;", Cond.fieldLink RX4 26 "LruKPageCache" "queue" "LLruKPageCache$WriteBackQueue;", Cond.fieldLink RX4 33 "LruKPageCache" "histories" "LLruKPageCache$Histories;", Cond.fieldLink RX4 157 "LruKPageCache" "retentionPeriod" "I", Cond.fieldLink RX4 111 "LruKPageCache" "now" "I", Cond.fieldLink RX4 129 "LruKPageCache" "hitTotal" "I", Cond.fieldLink RX4 132 "LruKPageCache" "missTotal" "I", Cond.fieldLink RX4 135 "LruKPageCache" "evictionTotal" "I", Cond.fieldLink RX4 144 "LruKPageCache" "stallTotal" "I", Cond.methodLink RX4 147 yX0_erase, Cond.instanceMethod yX0_erase, Cond.selects RX0 yX0_erase yX0_erase, Cond.initialized RX0, Cond.code yX0_erase cX0_erase 1 none, Cond.fieldLink RX0 9 "LruKPageCache$Disk" "values" "[I"]
def wsX4_reset_r2 : List Cond := [Cond.fieldLink RX0 21 "LruKPageCache$Disk" "loadTotal" "I", Cond.fieldLink RX0 25 "LruKPageCache$Disk" "storeTotal" "I", Cond.methodLink RX0 15 yJ7_fill_53178, Cond.static yJ7_fill_53178, Cond.initialized RJ7, Cond.code yJ7_fill_53178 cJ7_fill_53178 4 none, Cond.methodLink RX4 150 yX1_empty, Cond.instanceMethod yX1_empty, Cond.selects RX1 yX1_empty yX1_empty, Cond.initialized RX1, Cond.code yX1_empty cX1_empty 3 none, Cond.fieldLink RX1 29 "LruKPageCache$Frames" "usedFrames" "I", Cond.fieldLink RX1 33 "LruKPageCache$Frames" "capacity" "I", Cond.methodLink RX1 25 yX1_vacate, Cond.instanceMethod yX1_vacate, Cond.selects RX1 yX1_vacate yX1_vacate, Cond.code yX1_vacate cX1_vacate 2 none, Cond.fieldLink RX1 9 "LruKPageCache$Frames" "resident" "[Z", Cond.fieldLink RX1 15 "LruKPageCache$Frames" "changed" "[Z", Cond.fieldLink RX1 22 "LruKPageCache$Frames" "pins" "[I", Cond.methodLink RX4 153 yX3_empty, Cond.instanceMethod yX3_empty, Cond.selects RX3 yX3_empty yX3_empty, Cond.initialized RX3]
def wsX4_reset_r3 : List Cond := [Cond.code yX3_empty cX3_empty 2 none, Cond.fieldLink RX3 18 "LruKPageCache$WriteBackQueue" "size" "I", Cond.fieldLink RX3 22 "LruKPageCache$WriteBackQueue" "capacity" "I", Cond.methodLink RX4 154 yX2_forgetAll, Cond.instanceMethod yX2_forgetAll, Cond.selects RX2 yX2_forgetAll yX2_forgetAll, Cond.initialized RX2, Cond.code yX2_forgetAll cX2_forgetAll 2 none, Cond.fieldLink RX2 15 "LruKPageCache$Histories" "lengths" "[I", Cond.fieldLink RX2 24 "LruKPageCache$Histories" "k" "I", Cond.methodLink RX2 18 yJ7_fill_53178]
def wsX4_reset : List Cond := .code yX4_reset cX4_reset 5 (some .int) :: ((wsX4_reset_r1 ++ (wsX4_reset_r2 ++ wsX4_reset_r3)) ++ wsX40 ++ wsX00 ++ wsX10 ++ wsX30 ++ wsX20)
def wsX4_isPage : List Cond := .code yX4_isPage cX4_isPage 1 (some .boolean) :: ([.methodLink RX4 41 yX4_isWithin, .static yX4_isWithin, .initialized RX4, .code yX4_isWithin cX4_isWithin 3 (some .boolean)])
def wsX4_chooseVictim_r1 : List Cond := [Cond.fieldLink RX4 19 "LruKPageCache" "frames" "LLruKPageCache$Frames;", Cond.fieldLink RX4 33 "LruKPageCache" "histories" "LLruKPageCache$Histories;", Cond.methodLink RX4 70 yX1_holds, Cond.instanceMethod yX1_holds, Cond.selects RX1 yX1_holds yX1_holds, Cond.initialized RX1, Cond.code yX1_holds cX1_holds 2 (some .boolean), Cond.fieldLink RX1 9 "LruKPageCache$Frames" "resident" "[Z", Cond.methodLink RX4 64 yX1_pinsOf, Cond.instanceMethod yX1_pinsOf, Cond.selects RX1 yX1_pinsOf yX1_pinsOf, Cond.code yX1_pinsOf cX1_pinsOf 2 (some .int), Cond.fieldLink RX1 22 "LruKPageCache$Frames" "pins" "[I", Cond.methodLink RX4 190 yX2_goesBefore, Cond.instanceMethod yX2_goesBefore, Cond.selects RX2 yX2_goesBefore yX2_goesBefore, Cond.initialized RX2, Cond.code yX2_goesBefore cX2_goesBefore 6 (some .boolean), Cond.fieldLink RX2 15 "LruKPageCache$Histories" "lengths" "[I", Cond.fieldLink RX2 24 "LruKPageCache$Histories" "k" "I", Cond.methodLink RX2 28 yX2_timeOf, Cond.instanceMethod yX2_timeOf, Cond.selects RX2 yX2_timeOf yX2_timeOf, Cond.code yX2_timeOf cX2_timeOf 3 (some .int)]
def wsX4_chooseVictim_r2 : List Cond := [Cond.fieldLink RX2 9 "LruKPageCache$Histories" "times" "[I"]
def wsX4_chooseVictim : List Cond := .code yX4_chooseVictim cX4_chooseVictim 3 (some .int) :: ((wsX4_chooseVictim_r1 ++ wsX4_chooseVictim_r2) ++ wsX40 ++ wsX10 ++ wsX20)
def wsX4_canReference_r1 : List Cond := [Cond.fieldLink RX4 19 "LruKPageCache" "frames" "LLruKPageCache$Frames;", Cond.methodLink RX4 70 yX1_holds, Cond.instanceMethod yX1_holds, Cond.selects RX1 yX1_holds yX1_holds, Cond.initialized RX1, Cond.code yX1_holds cX1_holds 2 (some .boolean), Cond.fieldLink RX1 9 "LruKPageCache$Frames" "resident" "[Z", Cond.methodLink RX4 160 yX1_areFull, Cond.instanceMethod yX1_areFull, Cond.selects RX1 yX1_areFull yX1_areFull, Cond.code yX1_areFull cX1_areFull 1 (some .boolean), Cond.fieldLink RX1 29 "LruKPageCache$Frames" "usedFrames" "I", Cond.fieldLink RX1 33 "LruKPageCache$Frames" "capacity" "I", Cond.methodLink RX4 115 yX4_chooseVictim, Cond.instanceMethod yX4_chooseVictim, Cond.selects RX4 yX4_chooseVictim yX4_chooseVictim, Cond.initialized RX4, Cond.code yX4_chooseVictim cX4_chooseVictim 3 (some .int), Cond.fieldLink RX4 33 "LruKPageCache" "histories" "LLruKPageCache$Histories;", Cond.methodLink RX4 64 yX1_pinsOf, Cond.instanceMethod yX1_pinsOf, Cond.selects RX1 yX1_pinsOf yX1_pinsOf, Cond.code yX1_pinsOf cX1_pinsOf 2 (some .int), Cond.fieldLink RX1 22 "LruKPageCache$Frames" "pins" "[I"]
def wsX4_canReference_r2 : List Cond := [Cond.methodLink RX4 190 yX2_goesBefore, Cond.instanceMethod yX2_goesBefore, Cond.selects RX2 yX2_goesBefore yX2_goesBefore, Cond.initialized RX2, Cond.code yX2_goesBefore cX2_goesBefore 6 (some .boolean), Cond.fieldLink RX2 15 "LruKPageCache$Histories" "lengths" "[I", Cond.fieldLink RX2 24 "LruKPageCache$Histories" "k" "I", Cond.methodLink RX2 28 yX2_timeOf, Cond.instanceMethod yX2_timeOf, Cond.selects RX2 yX2_timeOf yX2_timeOf, Cond.code yX2_timeOf cX2_timeOf 3 (some .int), Cond.fieldLink RX2 9 "LruKPageCache$Histories" "times" "[I"]
def wsX4_canReference : List Cond := .code yX4_canReference cX4_canReference 2 (some .boolean) :: ((wsX4_canReference_r1 ++ wsX4_canReference_r2) ++ wsX40 ++ wsX10 ++ wsX20)
def wsX4_writeEntry_r1 : List Cond := [Cond.fieldLink RX4 26 "LruKPageCache" "queue" "LLruKPageCache$WriteBackQueue;", Cond.fieldLink RX4 10 "LruKPageCache" "disk" "LLruKPageCache$Disk;", Cond.methodLink RX4 125 yX3_pageAt, Cond.instanceMethod yX3_pageAt, Cond.selects RX3 yX3_pageAt yX3_pageAt, Cond.initialized RX3, Cond.code yX3_pageAt cX3_pageAt 2 (some .int), Cond.fieldLink RX3 9 "LruKPageCache$WriteBackQueue" "pages" "[I", Cond.methodLink RX3 25 yX3_has, Cond.instanceMethod yX3_has, Cond.selects RX3 yX3_has yX3_has, Cond.code yX3_has cX3_has 2 (some .boolean), Cond.fieldLink RX3 18 "LruKPageCache$WriteBackQueue" "size" "I", Cond.methodLink RX4 126 yX3_valueAt, Cond.instanceMethod yX3_valueAt, Cond.selects RX3 yX3_valueAt yX3_valueAt, Cond.code yX3_valueAt cX3_valueAt 2 (some .int), Cond.fieldLink RX3 15 "LruKPageCache$WriteBackQueue" "values" "[I", Cond.methodLink RX4 194 yX0_store, Cond.instanceMethod yX0_store, Cond.selects RX0 yX0_store yX0_store, Cond.initialized RX0, Cond.code yX0_store cX0_store 3 none, Cond.fieldLink RX0 25 "LruKPageCache$Disk" "storeTotal" "I"]
def wsX4_writeEntry_r2 : List Cond := [Cond.fieldLink RX0 9 "LruKPageCache$Disk" "values" "[I", Cond.methodLink RX4 101 yX3_removeAt, Cond.instanceMethod yX3_removeAt, Cond.selects RX3 yX3_removeAt yX3_removeAt, Cond.code yX3_removeAt cX3_removeAt 3 none]
def wsX4_writeEntry : List Cond := .code yX4_writeEntry cX4_writeEntry 3 none :: ((wsX4_writeEntry_r1 ++ wsX4_writeEntry_r2) ++ wsX40 ++ wsX30 ++ wsX00)
def wsX4_enqueue_r1 : List Cond := [Cond.fieldLink RX4 26 "LruKPageCache" "queue" "LLruKPageCache$WriteBackQueue;", Cond.fieldLink RX4 144 "LruKPageCache" "stallTotal" "I", Cond.fieldLink RX4 19 "LruKPageCache" "frames" "LLruKPageCache$Frames;", Cond.methodLink RX4 179 yX3_isFull, Cond.instanceMethod yX3_isFull, Cond.selects RX3 yX3_isFull yX3_isFull, Cond.initialized RX3, Cond.code yX3_isFull cX3_isFull 1 (some .boolean), Cond.fieldLink RX3 18 "LruKPageCache$WriteBackQueue" "size" "I", Cond.fieldLink RX3 22 "LruKPageCache$WriteBackQueue" "capacity" "I", Cond.methodLink RX4 85 yX4_writeEntry, Cond.instanceMethod yX4_writeEntry, Cond.selects RX4 yX4_writeEntry yX4_writeEntry, Cond.initialized RX4, Cond.code yX4_writeEntry cX4_writeEntry 3 none, Cond.fieldLink RX4 10 "LruKPageCache" "disk" "LLruKPageCache$Disk;", Cond.methodLink RX4 125 yX3_pageAt, Cond.instanceMethod yX3_pageAt, Cond.selects RX3 yX3_pageAt yX3_pageAt, Cond.code yX3_pageAt cX3_pageAt 2 (some .int), Cond.fieldLink RX3 9 "LruKPageCache$WriteBackQueue" "pages" "[I", Cond.methodLink RX3 25 yX3_has, Cond.instanceMethod yX3_has, Cond.selects RX3 yX3_has yX3_has]
def wsX4_enqueue_r2 : List Cond := [Cond.code yX3_has cX3_has 2 (some .boolean), Cond.methodLink RX4 126 yX3_valueAt, Cond.instanceMethod yX3_valueAt, Cond.selects RX3 yX3_valueAt yX3_valueAt, Cond.code yX3_valueAt cX3_valueAt 2 (some .int), Cond.fieldLink RX3 15 "LruKPageCache$WriteBackQueue" "values" "[I", Cond.methodLink RX4 194 yX0_store, Cond.instanceMethod yX0_store, Cond.selects RX0 yX0_store yX0_store, Cond.initialized RX0, Cond.code yX0_store cX0_store 3 none, Cond.fieldLink RX0 25 "LruKPageCache$Disk" "storeTotal" "I", Cond.fieldLink RX0 9 "LruKPageCache$Disk" "values" "[I", Cond.methodLink RX4 101 yX3_removeAt, Cond.instanceMethod yX3_removeAt, Cond.selects RX3 yX3_removeAt yX3_removeAt, Cond.code yX3_removeAt cX3_removeAt 3 none, Cond.methodLink RX4 56 yX1_valueOf, Cond.instanceMethod yX1_valueOf, Cond.selects RX1 yX1_valueOf yX1_valueOf, Cond.initialized RX1, Cond.code yX1_valueOf cX1_valueOf 2 (some .int), Cond.fieldLink RX1 18 "LruKPageCache$Frames" "values" "[I", Cond.methodLink RX4 182 yX3_append]
def wsX4_enqueue_r3 : List Cond := [Cond.instanceMethod yX3_append, Cond.selects RX3 yX3_append yX3_append, Cond.code yX3_append cX3_append 3 none, Cond.methodLink RX3 29 yX3_isFull]
def wsX4_enqueue : List Cond := .code yX4_enqueue cX4_enqueue 2 none :: ((wsX4_enqueue_r1 ++ (wsX4_enqueue_r2 ++ wsX4_enqueue_r3)) ++ wsX40 ++ wsX30 ++ wsX00 ++ wsX10)
def wsX4_makeRoom_r1 : List Cond := [Cond.fieldLink RX4 19 "LruKPageCache" "frames" "LLruKPageCache$Frames;", Cond.fieldLink RX4 135 "LruKPageCache" "evictionTotal" "I", Cond.methodLink RX4 160 yX1_areFull, Cond.instanceMethod yX1_areFull, Cond.selects RX1 yX1_areFull yX1_areFull, Cond.initialized RX1, Cond.code yX1_areFull cX1_areFull 1 (some .boolean), Cond.fieldLink RX1 29 "LruKPageCache$Frames" "usedFrames" "I", Cond.fieldLink RX1 33 "LruKPageCache$Frames" "capacity" "I", Cond.methodLink RX4 115 yX4_chooseVictim, Cond.instanceMethod yX4_chooseVictim, Cond.selects RX4 yX4_chooseVictim yX4_chooseVictim, Cond.initialized RX4, Cond.code yX4_chooseVictim cX4_chooseVictim 3 (some .int), Cond.fieldLink RX4 33 "LruKPageCache" "histories" "LLruKPageCache$Histories;", Cond.methodLink RX4 70 yX1_holds, Cond.instanceMethod yX1_holds, Cond.selects RX1 yX1_holds yX1_holds, Cond.code yX1_holds cX1_holds 2 (some .boolean), Cond.fieldLink RX1 9 "LruKPageCache$Frames" "resident" "[Z", Cond.methodLink RX4 64 yX1_pinsOf, Cond.instanceMethod yX1_pinsOf, Cond.selects RX1 yX1_pinsOf yX1_pinsOf, Cond.code yX1_pinsOf cX1_pinsOf 2 (some .int)]
def wsX4_makeRoom_r2 : List Cond := [Cond.fieldLink RX1 22 "LruKPageCache$Frames" "pins" "[I", Cond.methodLink RX4 190 yX2_goesBefore, Cond.instanceMethod yX2_goesBefore, Cond.selects RX2 yX2_goesBefore yX2_goesBefore, Cond.initialized RX2, Cond.code yX2_goesBefore cX2_goesBefore 6 (some .boolean), Cond.fieldLink RX2 15 "LruKPageCache$Histories" "lengths" "[I", Cond.fieldLink RX2 24 "LruKPageCache$Histories" "k" "I", Cond.methodLink RX2 28 yX2_timeOf, Cond.instanceMethod yX2_timeOf, Cond.selects RX2 yX2_timeOf yX2_timeOf, Cond.code yX2_timeOf cX2_timeOf 3 (some .int), Cond.fieldLink RX2 9 "LruKPageCache$Histories" "times" "[I", Cond.methodLink RX4 76 yX1_isChanged, Cond.instanceMethod yX1_isChanged, Cond.selects RX1 yX1_isChanged yX1_isChanged, Cond.code yX1_isChanged cX1_isChanged 2 (some .boolean), Cond.fieldLink RX1 15 "LruKPageCache$Frames" "changed" "[Z", Cond.methodLink RX4 176 yX4_enqueue, Cond.instanceMethod yX4_enqueue, Cond.selects RX4 yX4_enqueue yX4_enqueue, Cond.code yX4_enqueue cX4_enqueue 2 none, Cond.fieldLink RX4 26 "LruKPageCache" "queue" "LLruKPageCache$WriteBackQueue;", Cond.fieldLink RX4 144 "LruKPageCache" "stallTotal" "I"]
def wsX4_makeRoom_r3 : List Cond := [Cond.methodLink RX4 179 yX3_isFull, Cond.instanceMethod yX3_isFull, Cond.selects RX3 yX3_isFull yX3_isFull, Cond.initialized RX3, Cond.code yX3_isFull cX3_isFull 1 (some .boolean), Cond.fieldLink RX3 18 "LruKPageCache$WriteBackQueue" "size" "I", Cond.fieldLink RX3 22 "LruKPageCache$WriteBackQueue" "capacity" "I", Cond.methodLink RX4 85 yX4_writeEntry, Cond.instanceMethod yX4_writeEntry, Cond.selects RX4 yX4_writeEntry yX4_writeEntry, Cond.code yX4_writeEntry cX4_writeEntry 3 none, Cond.fieldLink RX4 10 "LruKPageCache" "disk" "LLruKPageCache$Disk;", Cond.methodLink RX4 125 yX3_pageAt, Cond.instanceMethod yX3_pageAt, Cond.selects RX3 yX3_pageAt yX3_pageAt, Cond.code yX3_pageAt cX3_pageAt 2 (some .int), Cond.fieldLink RX3 9 "LruKPageCache$WriteBackQueue" "pages" "[I", Cond.methodLink RX3 25 yX3_has, Cond.instanceMethod yX3_has, Cond.selects RX3 yX3_has yX3_has, Cond.code yX3_has cX3_has 2 (some .boolean), Cond.methodLink RX4 126 yX3_valueAt, Cond.instanceMethod yX3_valueAt, Cond.selects RX3 yX3_valueAt yX3_valueAt]
def wsX4_makeRoom_r4 : List Cond := [Cond.code yX3_valueAt cX3_valueAt 2 (some .int), Cond.fieldLink RX3 15 "LruKPageCache$WriteBackQueue" "values" "[I", Cond.methodLink RX4 194 yX0_store, Cond.instanceMethod yX0_store, Cond.selects RX0 yX0_store yX0_store, Cond.initialized RX0, Cond.code yX0_store cX0_store 3 none, Cond.fieldLink RX0 25 "LruKPageCache$Disk" "storeTotal" "I", Cond.fieldLink RX0 9 "LruKPageCache$Disk" "values" "[I", Cond.methodLink RX4 101 yX3_removeAt, Cond.instanceMethod yX3_removeAt, Cond.selects RX3 yX3_removeAt yX3_removeAt, Cond.code yX3_removeAt cX3_removeAt 3 none, Cond.methodLink RX4 56 yX1_valueOf, Cond.instanceMethod yX1_valueOf, Cond.selects RX1 yX1_valueOf yX1_valueOf, Cond.code yX1_valueOf cX1_valueOf 2 (some .int), Cond.fieldLink RX1 18 "LruKPageCache$Frames" "values" "[I", Cond.methodLink RX4 182 yX3_append, Cond.instanceMethod yX3_append, Cond.selects RX3 yX3_append yX3_append, Cond.code yX3_append cX3_append 3 none, Cond.methodLink RX3 29 yX3_isFull, Cond.methodLink RX4 98 yX1_release]
def wsX4_makeRoom_r5 : List Cond := [Cond.instanceMethod yX1_release, Cond.selects RX1 yX1_release yX1_release, Cond.code yX1_release cX1_release 2 none, Cond.methodLink RX1 25 yX1_vacate, Cond.instanceMethod yX1_vacate, Cond.selects RX1 yX1_vacate yX1_vacate, Cond.code yX1_vacate cX1_vacate 2 none]
def wsX4_makeRoom : List Cond := .code yX4_makeRoom cX4_makeRoom 2 none :: ((wsX4_makeRoom_r1 ++ (wsX4_makeRoom_r2 ++ (wsX4_makeRoom_r3 ++ (wsX4_makeRoom_r4 ++ wsX4_makeRoom_r5)))) ++ wsX40 ++ wsX10 ++ wsX20 ++ wsX30 ++ wsX00)
def wsX4_load_r1 : List Cond := [Cond.fieldLink RX4 26 "LruKPageCache" "queue" "LLruKPageCache$WriteBackQueue;", Cond.fieldLink RX4 19 "LruKPageCache" "frames" "LLruKPageCache$Frames;", Cond.fieldLink RX4 10 "LruKPageCache" "disk" "LLruKPageCache$Disk;", Cond.methodLink RX4 82 yX3_positionOf, Cond.instanceMethod yX3_positionOf, Cond.selects RX3 yX3_positionOf yX3_positionOf, Cond.initialized RX3, Cond.code yX3_positionOf cX3_positionOf 3 (some .int), Cond.fieldLink RX3 18 "LruKPageCache$WriteBackQueue" "size" "I", Cond.fieldLink RX3 9 "LruKPageCache$WriteBackQueue" "pages" "[I", Cond.methodLink RX4 185 yX0_load, Cond.instanceMethod yX0_load, Cond.selects RX0 yX0_load yX0_load, Cond.initialized RX0, Cond.code yX0_load cX0_load 2 (some .int), Cond.fieldLink RX0 21 "LruKPageCache$Disk" "loadTotal" "I", Cond.fieldLink RX0 9 "LruKPageCache$Disk" "values" "[I", Cond.methodLink RX4 187 yX1_place, Cond.instanceMethod yX1_place, Cond.selects RX1 yX1_place yX1_place, Cond.initialized RX1, Cond.code yX1_place cX1_place 3 none, Cond.fieldLink RX1 9 "LruKPageCache$Frames" "resident" "[Z", Cond.fieldLink RX1 18 "LruKPageCache$Frames" "values" "[I"]
def wsX4_load_r2 : List Cond := [Cond.fieldLink RX1 29 "LruKPageCache$Frames" "usedFrames" "I", Cond.methodLink RX4 126 yX3_valueAt, Cond.instanceMethod yX3_valueAt, Cond.selects RX3 yX3_valueAt yX3_valueAt, Cond.code yX3_valueAt cX3_valueAt 2 (some .int), Cond.fieldLink RX3 15 "LruKPageCache$WriteBackQueue" "values" "[I", Cond.methodLink RX3 25 yX3_has, Cond.instanceMethod yX3_has, Cond.selects RX3 yX3_has yX3_has, Cond.code yX3_has cX3_has 2 (some .boolean), Cond.methodLink RX4 101 yX3_removeAt, Cond.instanceMethod yX3_removeAt, Cond.selects RX3 yX3_removeAt yX3_removeAt, Cond.code yX3_removeAt cX3_removeAt 3 none, Cond.methodLink RX4 60 yX1_change, Cond.instanceMethod yX1_change, Cond.selects RX1 yX1_change yX1_change, Cond.code yX1_change cX1_change 3 none, Cond.fieldLink RX1 15 "LruKPageCache$Frames" "changed" "[Z"]
def wsX4_load : List Cond := .code yX4_load cX4_load 4 none :: ((wsX4_load_r1 ++ wsX4_load_r2) ++ wsX40 ++ wsX30 ++ wsX00 ++ wsX10)
def wsX4_forgetIfStale : List Cond := .code yX4_forgetIfStale cX4_forgetIfStale 3 none :: ([.fieldLink RX4 33 "LruKPageCache" "histories" "LLruKPageCache$Histories;", .fieldLink RX4 111 "LruKPageCache" "now" "I", .fieldLink RX4 157 "LruKPageCache" "retentionPeriod" "I", .methodLink RX4 107 yX2_timeOf, .instanceMethod yX2_timeOf, .selects RX2 yX2_timeOf yX2_timeOf, .initialized RX2, .code yX2_timeOf cX2_timeOf 3 (some .int), .fieldLink RX2 15 "LruKPageCache$Histories" "lengths" "[I", .fieldLink RX2 9 "LruKPageCache$Histories" "times" "[I", .methodLink RX4 95 yX2_forget, .instanceMethod yX2_forget, .selects RX2 yX2_forget yX2_forget, .code yX2_forget cX2_forget 2 none] ++ wsX40 ++ wsX20)
def wsX4_reference_r1 : List Cond := [Cond.fieldLink RX4 111 "LruKPageCache" "now" "I", Cond.fieldLink RX4 19 "LruKPageCache" "frames" "LLruKPageCache$Frames;", Cond.fieldLink RX4 129 "LruKPageCache" "hitTotal" "I", Cond.fieldLink RX4 132 "LruKPageCache" "missTotal" "I", Cond.fieldLink RX4 33 "LruKPageCache" "histories" "LLruKPageCache$Histories;", Cond.methodLink RX4 70 yX1_holds, Cond.instanceMethod yX1_holds, Cond.selects RX1 yX1_holds yX1_holds, Cond.initialized RX1, Cond.code yX1_holds cX1_holds 2 (some .boolean), Cond.fieldLink RX1 9 "LruKPageCache$Frames" "resident" "[Z", Cond.methodLink RX4 164 yX4_makeRoom, Cond.instanceMethod yX4_makeRoom, Cond.selects RX4 yX4_makeRoom yX4_makeRoom, Cond.initialized RX4, Cond.code yX4_makeRoom cX4_makeRoom 2 none, Cond.fieldLink RX4 135 "LruKPageCache" "evictionTotal" "I", Cond.methodLink RX4 160 yX1_areFull, Cond.instanceMethod yX1_areFull, Cond.selects RX1 yX1_areFull yX1_areFull, Cond.code yX1_areFull cX1_areFull 1 (some .boolean), Cond.fieldLink RX1 29 "LruKPageCache$Frames" "usedFrames" "I", Cond.fieldLink RX1 33 "LruKPageCache$Frames" "capacity" "I", Cond.methodLink RX4 115 yX4_chooseVictim]
def wsX4_reference_r2 : List Cond := [Cond.instanceMethod yX4_chooseVictim, Cond.selects RX4 yX4_chooseVictim yX4_chooseVictim, Cond.code yX4_chooseVictim cX4_chooseVictim 3 (some .int), Cond.methodLink RX4 64 yX1_pinsOf, Cond.instanceMethod yX1_pinsOf, Cond.selects RX1 yX1_pinsOf yX1_pinsOf, Cond.code yX1_pinsOf cX1_pinsOf 2 (some .int), Cond.fieldLink RX1 22 "LruKPageCache$Frames" "pins" "[I", Cond.methodLink RX4 190 yX2_goesBefore, Cond.instanceMethod yX2_goesBefore, Cond.selects RX2 yX2_goesBefore yX2_goesBefore, Cond.initialized RX2, Cond.code yX2_goesBefore cX2_goesBefore 6 (some .boolean), Cond.fieldLink RX2 15 "LruKPageCache$Histories" "lengths" "[I", Cond.fieldLink RX2 24 "LruKPageCache$Histories" "k" "I", Cond.methodLink RX2 28 yX2_timeOf, Cond.instanceMethod yX2_timeOf, Cond.selects RX2 yX2_timeOf yX2_timeOf, Cond.code yX2_timeOf cX2_timeOf 3 (some .int), Cond.fieldLink RX2 9 "LruKPageCache$Histories" "times" "[I", Cond.methodLink RX4 76 yX1_isChanged, Cond.instanceMethod yX1_isChanged, Cond.selects RX1 yX1_isChanged yX1_isChanged, Cond.code yX1_isChanged cX1_isChanged 2 (some .boolean)]
def wsX4_reference_r3 : List Cond := [Cond.fieldLink RX1 15 "LruKPageCache$Frames" "changed" "[Z", Cond.methodLink RX4 176 yX4_enqueue, Cond.instanceMethod yX4_enqueue, Cond.selects RX4 yX4_enqueue yX4_enqueue, Cond.code yX4_enqueue cX4_enqueue 2 none, Cond.fieldLink RX4 26 "LruKPageCache" "queue" "LLruKPageCache$WriteBackQueue;", Cond.fieldLink RX4 144 "LruKPageCache" "stallTotal" "I", Cond.methodLink RX4 179 yX3_isFull, Cond.instanceMethod yX3_isFull, Cond.selects RX3 yX3_isFull yX3_isFull, Cond.initialized RX3, Cond.code yX3_isFull cX3_isFull 1 (some .boolean), Cond.fieldLink RX3 18 "LruKPageCache$WriteBackQueue" "size" "I", Cond.fieldLink RX3 22 "LruKPageCache$WriteBackQueue" "capacity" "I", Cond.methodLink RX4 85 yX4_writeEntry, Cond.instanceMethod yX4_writeEntry, Cond.selects RX4 yX4_writeEntry yX4_writeEntry, Cond.code yX4_writeEntry cX4_writeEntry 3 none, Cond.fieldLink RX4 10 "LruKPageCache" "disk" "LLruKPageCache$Disk;", Cond.methodLink RX4 125 yX3_pageAt, Cond.instanceMethod yX3_pageAt, Cond.selects RX3 yX3_pageAt yX3_pageAt, Cond.code yX3_pageAt cX3_pageAt 2 (some .int), Cond.fieldLink RX3 9 "LruKPageCache$WriteBackQueue" "pages" "[I"]
def wsX4_reference_r4 : List Cond := [Cond.methodLink RX3 25 yX3_has, Cond.instanceMethod yX3_has, Cond.selects RX3 yX3_has yX3_has, Cond.code yX3_has cX3_has 2 (some .boolean), Cond.methodLink RX4 126 yX3_valueAt, Cond.instanceMethod yX3_valueAt, Cond.selects RX3 yX3_valueAt yX3_valueAt, Cond.code yX3_valueAt cX3_valueAt 2 (some .int), Cond.fieldLink RX3 15 "LruKPageCache$WriteBackQueue" "values" "[I", Cond.methodLink RX4 194 yX0_store, Cond.instanceMethod yX0_store, Cond.selects RX0 yX0_store yX0_store, Cond.initialized RX0, Cond.code yX0_store cX0_store 3 none, Cond.fieldLink RX0 25 "LruKPageCache$Disk" "storeTotal" "I", Cond.fieldLink RX0 9 "LruKPageCache$Disk" "values" "[I", Cond.methodLink RX4 101 yX3_removeAt, Cond.instanceMethod yX3_removeAt, Cond.selects RX3 yX3_removeAt yX3_removeAt, Cond.code yX3_removeAt cX3_removeAt 3 none, Cond.methodLink RX4 56 yX1_valueOf, Cond.instanceMethod yX1_valueOf, Cond.selects RX1 yX1_valueOf yX1_valueOf, Cond.code yX1_valueOf cX1_valueOf 2 (some .int)]
def wsX4_reference_r5 : List Cond := [Cond.fieldLink RX1 18 "LruKPageCache$Frames" "values" "[I", Cond.methodLink RX4 182 yX3_append, Cond.instanceMethod yX3_append, Cond.selects RX3 yX3_append yX3_append, Cond.code yX3_append cX3_append 3 none, Cond.methodLink RX3 29 yX3_isFull, Cond.methodLink RX4 98 yX1_release, Cond.instanceMethod yX1_release, Cond.selects RX1 yX1_release yX1_release, Cond.code yX1_release cX1_release 2 none, Cond.methodLink RX1 25 yX1_vacate, Cond.instanceMethod yX1_vacate, Cond.selects RX1 yX1_vacate yX1_vacate, Cond.code yX1_vacate cX1_vacate 2 none, Cond.methodLink RX4 167 yX4_load, Cond.instanceMethod yX4_load, Cond.selects RX4 yX4_load yX4_load, Cond.code yX4_load cX4_load 4 none, Cond.methodLink RX4 82 yX3_positionOf, Cond.instanceMethod yX3_positionOf, Cond.selects RX3 yX3_positionOf yX3_positionOf, Cond.code yX3_positionOf cX3_positionOf 3 (some .int), Cond.methodLink RX4 185 yX0_load, Cond.instanceMethod yX0_load]
def wsX4_reference_r6 : List Cond := [Cond.selects RX0 yX0_load yX0_load, Cond.code yX0_load cX0_load 2 (some .int), Cond.fieldLink RX0 21 "LruKPageCache$Disk" "loadTotal" "I", Cond.methodLink RX4 187 yX1_place, Cond.instanceMethod yX1_place, Cond.selects RX1 yX1_place yX1_place, Cond.code yX1_place cX1_place 3 none, Cond.methodLink RX4 60 yX1_change, Cond.instanceMethod yX1_change, Cond.selects RX1 yX1_change yX1_change, Cond.code yX1_change cX1_change 3 none, Cond.methodLink RX4 170 yX4_forgetIfStale, Cond.instanceMethod yX4_forgetIfStale, Cond.selects RX4 yX4_forgetIfStale yX4_forgetIfStale, Cond.code yX4_forgetIfStale cX4_forgetIfStale 3 none, Cond.fieldLink RX4 157 "LruKPageCache" "retentionPeriod" "I", Cond.methodLink RX4 107 yX2_timeOf, Cond.methodLink RX4 95 yX2_forget, Cond.instanceMethod yX2_forget, Cond.selects RX2 yX2_forget yX2_forget, Cond.code yX2_forget cX2_forget 2 none, Cond.methodLink RX4 173 yX2_record, Cond.instanceMethod yX2_record, Cond.selects RX2 yX2_record yX2_record]
def wsX4_reference_r7 : List Cond := [Cond.code yX2_record cX2_record 5 none]
def wsX4_reference : List Cond := .code yX4_reference cX4_reference 2 none :: ((wsX4_reference_r1 ++ (wsX4_reference_r2 ++ (wsX4_reference_r3 ++ (wsX4_reference_r4 ++ (wsX4_reference_r5 ++ (wsX4_reference_r6 ++ wsX4_reference_r7)))))) ++ wsX40 ++ wsX10 ++ wsX20 ++ wsX30 ++ wsX00)
def wsX4_read_r1 : List Cond := [Cond.fieldLink RX4 19 "LruKPageCache" "frames" "LLruKPageCache$Frames;", Cond.methodLink RX4 45 yX4_isPage, Cond.static yX4_isPage, Cond.initialized RX4, Cond.code yX4_isPage cX4_isPage 1 (some .boolean), Cond.methodLink RX4 41 yX4_isWithin, Cond.static yX4_isWithin, Cond.code yX4_isWithin cX4_isWithin 3 (some .boolean), Cond.methodLink RX4 49 yX4_canReference, Cond.instanceMethod yX4_canReference, Cond.selects RX4 yX4_canReference yX4_canReference, Cond.code yX4_canReference cX4_canReference 2 (some .boolean), Cond.methodLink RX4 70 yX1_holds, Cond.instanceMethod yX1_holds, Cond.selects RX1 yX1_holds yX1_holds, Cond.initialized RX1, Cond.code yX1_holds cX1_holds 2 (some .boolean), Cond.fieldLink RX1 9 "LruKPageCache$Frames" "resident" "[Z", Cond.methodLink RX4 160 yX1_areFull, Cond.instanceMethod yX1_areFull, Cond.selects RX1 yX1_areFull yX1_areFull, Cond.code yX1_areFull cX1_areFull 1 (some .boolean), Cond.fieldLink RX1 29 "LruKPageCache$Frames" "usedFrames" "I", Cond.fieldLink RX1 33 "LruKPageCache$Frames" "capacity" "I"]
def wsX4_read_r2 : List Cond := [Cond.methodLink RX4 115 yX4_chooseVictim, Cond.instanceMethod yX4_chooseVictim, Cond.selects RX4 yX4_chooseVictim yX4_chooseVictim, Cond.code yX4_chooseVictim cX4_chooseVictim 3 (some .int), Cond.fieldLink RX4 33 "LruKPageCache" "histories" "LLruKPageCache$Histories;", Cond.methodLink RX4 64 yX1_pinsOf, Cond.instanceMethod yX1_pinsOf, Cond.selects RX1 yX1_pinsOf yX1_pinsOf, Cond.code yX1_pinsOf cX1_pinsOf 2 (some .int), Cond.fieldLink RX1 22 "LruKPageCache$Frames" "pins" "[I", Cond.methodLink RX4 190 yX2_goesBefore, Cond.instanceMethod yX2_goesBefore, Cond.selects RX2 yX2_goesBefore yX2_goesBefore, Cond.initialized RX2, Cond.code yX2_goesBefore cX2_goesBefore 6 (some .boolean), Cond.fieldLink RX2 15 "LruKPageCache$Histories" "lengths" "[I", Cond.fieldLink RX2 24 "LruKPageCache$Histories" "k" "I", Cond.methodLink RX2 28 yX2_timeOf, Cond.instanceMethod yX2_timeOf, Cond.selects RX2 yX2_timeOf yX2_timeOf, Cond.code yX2_timeOf cX2_timeOf 3 (some .int), Cond.fieldLink RX2 9 "LruKPageCache$Histories" "times" "[I", Cond.methodLink RX4 52 yX4_reference, Cond.instanceMethod yX4_reference]
def wsX4_read_r3 : List Cond := [Cond.selects RX4 yX4_reference yX4_reference, Cond.code yX4_reference cX4_reference 2 none, Cond.fieldLink RX4 111 "LruKPageCache" "now" "I", Cond.fieldLink RX4 129 "LruKPageCache" "hitTotal" "I", Cond.fieldLink RX4 132 "LruKPageCache" "missTotal" "I", Cond.methodLink RX4 164 yX4_makeRoom, Cond.instanceMethod yX4_makeRoom, Cond.selects RX4 yX4_makeRoom yX4_makeRoom, Cond.code yX4_makeRoom cX4_makeRoom 2 none, Cond.fieldLink RX4 135 "LruKPageCache" "evictionTotal" "I", Cond.methodLink RX4 76 yX1_isChanged, Cond.instanceMethod yX1_isChanged, Cond.selects RX1 yX1_isChanged yX1_isChanged, Cond.code yX1_isChanged cX1_isChanged 2 (some .boolean), Cond.fieldLink RX1 15 "LruKPageCache$Frames" "changed" "[Z", Cond.methodLink RX4 176 yX4_enqueue, Cond.instanceMethod yX4_enqueue, Cond.selects RX4 yX4_enqueue yX4_enqueue, Cond.code yX4_enqueue cX4_enqueue 2 none, Cond.fieldLink RX4 26 "LruKPageCache" "queue" "LLruKPageCache$WriteBackQueue;", Cond.fieldLink RX4 144 "LruKPageCache" "stallTotal" "I", Cond.methodLink RX4 179 yX3_isFull, Cond.instanceMethod yX3_isFull, Cond.selects RX3 yX3_isFull yX3_isFull]
def wsX4_read_r4 : List Cond := [Cond.initialized RX3, Cond.code yX3_isFull cX3_isFull 1 (some .boolean), Cond.fieldLink RX3 18 "LruKPageCache$WriteBackQueue" "size" "I", Cond.fieldLink RX3 22 "LruKPageCache$WriteBackQueue" "capacity" "I", Cond.methodLink RX4 85 yX4_writeEntry, Cond.instanceMethod yX4_writeEntry, Cond.selects RX4 yX4_writeEntry yX4_writeEntry, Cond.code yX4_writeEntry cX4_writeEntry 3 none, Cond.fieldLink RX4 10 "LruKPageCache" "disk" "LLruKPageCache$Disk;", Cond.methodLink RX4 125 yX3_pageAt, Cond.instanceMethod yX3_pageAt, Cond.selects RX3 yX3_pageAt yX3_pageAt, Cond.code yX3_pageAt cX3_pageAt 2 (some .int), Cond.fieldLink RX3 9 "LruKPageCache$WriteBackQueue" "pages" "[I", Cond.methodLink RX3 25 yX3_has, Cond.instanceMethod yX3_has, Cond.selects RX3 yX3_has yX3_has, Cond.code yX3_has cX3_has 2 (some .boolean), Cond.methodLink RX4 126 yX3_valueAt, Cond.instanceMethod yX3_valueAt, Cond.selects RX3 yX3_valueAt yX3_valueAt, Cond.code yX3_valueAt cX3_valueAt 2 (some .int), Cond.fieldLink RX3 15 "LruKPageCache$WriteBackQueue" "values" "[I", Cond.methodLink RX4 194 yX0_store]
def wsX4_read_r5 : List Cond := [Cond.instanceMethod yX0_store, Cond.selects RX0 yX0_store yX0_store, Cond.initialized RX0, Cond.code yX0_store cX0_store 3 none, Cond.fieldLink RX0 25 "LruKPageCache$Disk" "storeTotal" "I", Cond.fieldLink RX0 9 "LruKPageCache$Disk" "values" "[I", Cond.methodLink RX4 101 yX3_removeAt, Cond.instanceMethod yX3_removeAt, Cond.selects RX3 yX3_removeAt yX3_removeAt, Cond.code yX3_removeAt cX3_removeAt 3 none, Cond.methodLink RX4 56 yX1_valueOf, Cond.instanceMethod yX1_valueOf, Cond.selects RX1 yX1_valueOf yX1_valueOf, Cond.code yX1_valueOf cX1_valueOf 2 (some .int), Cond.fieldLink RX1 18 "LruKPageCache$Frames" "values" "[I", Cond.methodLink RX4 182 yX3_append, Cond.instanceMethod yX3_append, Cond.selects RX3 yX3_append yX3_append, Cond.code yX3_append cX3_append 3 none, Cond.methodLink RX3 29 yX3_isFull, Cond.methodLink RX4 98 yX1_release, Cond.instanceMethod yX1_release, Cond.selects RX1 yX1_release yX1_release, Cond.code yX1_release cX1_release 2 none]
def wsX4_read_r6 : List Cond := [Cond.methodLink RX1 25 yX1_vacate, Cond.instanceMethod yX1_vacate, Cond.selects RX1 yX1_vacate yX1_vacate, Cond.code yX1_vacate cX1_vacate 2 none, Cond.methodLink RX4 167 yX4_load, Cond.instanceMethod yX4_load, Cond.selects RX4 yX4_load yX4_load, Cond.code yX4_load cX4_load 4 none, Cond.methodLink RX4 82 yX3_positionOf, Cond.instanceMethod yX3_positionOf, Cond.selects RX3 yX3_positionOf yX3_positionOf, Cond.code yX3_positionOf cX3_positionOf 3 (some .int), Cond.methodLink RX4 185 yX0_load, Cond.instanceMethod yX0_load, Cond.selects RX0 yX0_load yX0_load, Cond.code yX0_load cX0_load 2 (some .int), Cond.fieldLink RX0 21 "LruKPageCache$Disk" "loadTotal" "I", Cond.methodLink RX4 187 yX1_place, Cond.instanceMethod yX1_place, Cond.selects RX1 yX1_place yX1_place, Cond.code yX1_place cX1_place 3 none, Cond.methodLink RX4 60 yX1_change, Cond.instanceMethod yX1_change, Cond.selects RX1 yX1_change yX1_change]
def wsX4_read_r7 : List Cond := [Cond.code yX1_change cX1_change 3 none, Cond.methodLink RX4 170 yX4_forgetIfStale, Cond.instanceMethod yX4_forgetIfStale, Cond.selects RX4 yX4_forgetIfStale yX4_forgetIfStale, Cond.code yX4_forgetIfStale cX4_forgetIfStale 3 none, Cond.fieldLink RX4 157 "LruKPageCache" "retentionPeriod" "I", Cond.methodLink RX4 107 yX2_timeOf, Cond.methodLink RX4 95 yX2_forget, Cond.instanceMethod yX2_forget, Cond.selects RX2 yX2_forget yX2_forget, Cond.code yX2_forget cX2_forget 2 none, Cond.methodLink RX4 173 yX2_record, Cond.instanceMethod yX2_record, Cond.selects RX2 yX2_record yX2_record, Cond.code yX2_record cX2_record 5 none]
def wsX4_read : List Cond := .code yX4_read cX4_read 2 (some .int) :: ((wsX4_read_r1 ++ (wsX4_read_r2 ++ (wsX4_read_r3 ++ (wsX4_read_r4 ++ (wsX4_read_r5 ++ (wsX4_read_r6 ++ wsX4_read_r7)))))) ++ wsX40 ++ wsX10 ++ wsX20 ++ wsX30 ++ wsX00)
def wsX4_write_r1 : List Cond := [Cond.fieldLink RX4 19 "LruKPageCache" "frames" "LLruKPageCache$Frames;", Cond.methodLink RX4 45 yX4_isPage, Cond.static yX4_isPage, Cond.initialized RX4, Cond.code yX4_isPage cX4_isPage 1 (some .boolean), Cond.methodLink RX4 41 yX4_isWithin, Cond.static yX4_isWithin, Cond.code yX4_isWithin cX4_isWithin 3 (some .boolean), Cond.methodLink RX4 49 yX4_canReference, Cond.instanceMethod yX4_canReference, Cond.selects RX4 yX4_canReference yX4_canReference, Cond.code yX4_canReference cX4_canReference 2 (some .boolean), Cond.methodLink RX4 70 yX1_holds, Cond.instanceMethod yX1_holds, Cond.selects RX1 yX1_holds yX1_holds, Cond.initialized RX1, Cond.code yX1_holds cX1_holds 2 (some .boolean), Cond.fieldLink RX1 9 "LruKPageCache$Frames" "resident" "[Z", Cond.methodLink RX4 160 yX1_areFull, Cond.instanceMethod yX1_areFull, Cond.selects RX1 yX1_areFull yX1_areFull, Cond.code yX1_areFull cX1_areFull 1 (some .boolean), Cond.fieldLink RX1 29 "LruKPageCache$Frames" "usedFrames" "I", Cond.fieldLink RX1 33 "LruKPageCache$Frames" "capacity" "I"]
def wsX4_write_r2 : List Cond := [Cond.methodLink RX4 115 yX4_chooseVictim, Cond.instanceMethod yX4_chooseVictim, Cond.selects RX4 yX4_chooseVictim yX4_chooseVictim, Cond.code yX4_chooseVictim cX4_chooseVictim 3 (some .int), Cond.fieldLink RX4 33 "LruKPageCache" "histories" "LLruKPageCache$Histories;", Cond.methodLink RX4 64 yX1_pinsOf, Cond.instanceMethod yX1_pinsOf, Cond.selects RX1 yX1_pinsOf yX1_pinsOf, Cond.code yX1_pinsOf cX1_pinsOf 2 (some .int), Cond.fieldLink RX1 22 "LruKPageCache$Frames" "pins" "[I", Cond.methodLink RX4 190 yX2_goesBefore, Cond.instanceMethod yX2_goesBefore, Cond.selects RX2 yX2_goesBefore yX2_goesBefore, Cond.initialized RX2, Cond.code yX2_goesBefore cX2_goesBefore 6 (some .boolean), Cond.fieldLink RX2 15 "LruKPageCache$Histories" "lengths" "[I", Cond.fieldLink RX2 24 "LruKPageCache$Histories" "k" "I", Cond.methodLink RX2 28 yX2_timeOf, Cond.instanceMethod yX2_timeOf, Cond.selects RX2 yX2_timeOf yX2_timeOf, Cond.code yX2_timeOf cX2_timeOf 3 (some .int), Cond.fieldLink RX2 9 "LruKPageCache$Histories" "times" "[I", Cond.methodLink RX4 52 yX4_reference, Cond.instanceMethod yX4_reference]
def wsX4_write_r3 : List Cond := [Cond.selects RX4 yX4_reference yX4_reference, Cond.code yX4_reference cX4_reference 2 none, Cond.fieldLink RX4 111 "LruKPageCache" "now" "I", Cond.fieldLink RX4 129 "LruKPageCache" "hitTotal" "I", Cond.fieldLink RX4 132 "LruKPageCache" "missTotal" "I", Cond.methodLink RX4 164 yX4_makeRoom, Cond.instanceMethod yX4_makeRoom, Cond.selects RX4 yX4_makeRoom yX4_makeRoom, Cond.code yX4_makeRoom cX4_makeRoom 2 none, Cond.fieldLink RX4 135 "LruKPageCache" "evictionTotal" "I", Cond.methodLink RX4 76 yX1_isChanged, Cond.instanceMethod yX1_isChanged, Cond.selects RX1 yX1_isChanged yX1_isChanged, Cond.code yX1_isChanged cX1_isChanged 2 (some .boolean), Cond.fieldLink RX1 15 "LruKPageCache$Frames" "changed" "[Z", Cond.methodLink RX4 176 yX4_enqueue, Cond.instanceMethod yX4_enqueue, Cond.selects RX4 yX4_enqueue yX4_enqueue, Cond.code yX4_enqueue cX4_enqueue 2 none, Cond.fieldLink RX4 26 "LruKPageCache" "queue" "LLruKPageCache$WriteBackQueue;", Cond.fieldLink RX4 144 "LruKPageCache" "stallTotal" "I", Cond.methodLink RX4 179 yX3_isFull, Cond.instanceMethod yX3_isFull, Cond.selects RX3 yX3_isFull yX3_isFull]
def wsX4_write_r4 : List Cond := [Cond.initialized RX3, Cond.code yX3_isFull cX3_isFull 1 (some .boolean), Cond.fieldLink RX3 18 "LruKPageCache$WriteBackQueue" "size" "I", Cond.fieldLink RX3 22 "LruKPageCache$WriteBackQueue" "capacity" "I", Cond.methodLink RX4 85 yX4_writeEntry, Cond.instanceMethod yX4_writeEntry, Cond.selects RX4 yX4_writeEntry yX4_writeEntry, Cond.code yX4_writeEntry cX4_writeEntry 3 none, Cond.fieldLink RX4 10 "LruKPageCache" "disk" "LLruKPageCache$Disk;", Cond.methodLink RX4 125 yX3_pageAt, Cond.instanceMethod yX3_pageAt, Cond.selects RX3 yX3_pageAt yX3_pageAt, Cond.code yX3_pageAt cX3_pageAt 2 (some .int), Cond.fieldLink RX3 9 "LruKPageCache$WriteBackQueue" "pages" "[I", Cond.methodLink RX3 25 yX3_has, Cond.instanceMethod yX3_has, Cond.selects RX3 yX3_has yX3_has, Cond.code yX3_has cX3_has 2 (some .boolean), Cond.methodLink RX4 126 yX3_valueAt, Cond.instanceMethod yX3_valueAt, Cond.selects RX3 yX3_valueAt yX3_valueAt, Cond.code yX3_valueAt cX3_valueAt 2 (some .int), Cond.fieldLink RX3 15 "LruKPageCache$WriteBackQueue" "values" "[I", Cond.methodLink RX4 194 yX0_store]
def wsX4_write_r5 : List Cond := [Cond.instanceMethod yX0_store, Cond.selects RX0 yX0_store yX0_store, Cond.initialized RX0, Cond.code yX0_store cX0_store 3 none, Cond.fieldLink RX0 25 "LruKPageCache$Disk" "storeTotal" "I", Cond.fieldLink RX0 9 "LruKPageCache$Disk" "values" "[I", Cond.methodLink RX4 101 yX3_removeAt, Cond.instanceMethod yX3_removeAt, Cond.selects RX3 yX3_removeAt yX3_removeAt, Cond.code yX3_removeAt cX3_removeAt 3 none, Cond.methodLink RX4 56 yX1_valueOf, Cond.instanceMethod yX1_valueOf, Cond.selects RX1 yX1_valueOf yX1_valueOf, Cond.code yX1_valueOf cX1_valueOf 2 (some .int), Cond.fieldLink RX1 18 "LruKPageCache$Frames" "values" "[I", Cond.methodLink RX4 182 yX3_append, Cond.instanceMethod yX3_append, Cond.selects RX3 yX3_append yX3_append, Cond.code yX3_append cX3_append 3 none, Cond.methodLink RX3 29 yX3_isFull, Cond.methodLink RX4 98 yX1_release, Cond.instanceMethod yX1_release, Cond.selects RX1 yX1_release yX1_release, Cond.code yX1_release cX1_release 2 none]
def wsX4_write_r6 : List Cond := [Cond.methodLink RX1 25 yX1_vacate, Cond.instanceMethod yX1_vacate, Cond.selects RX1 yX1_vacate yX1_vacate, Cond.code yX1_vacate cX1_vacate 2 none, Cond.methodLink RX4 167 yX4_load, Cond.instanceMethod yX4_load, Cond.selects RX4 yX4_load yX4_load, Cond.code yX4_load cX4_load 4 none, Cond.methodLink RX4 82 yX3_positionOf, Cond.instanceMethod yX3_positionOf, Cond.selects RX3 yX3_positionOf yX3_positionOf, Cond.code yX3_positionOf cX3_positionOf 3 (some .int), Cond.methodLink RX4 185 yX0_load, Cond.instanceMethod yX0_load, Cond.selects RX0 yX0_load yX0_load, Cond.code yX0_load cX0_load 2 (some .int), Cond.fieldLink RX0 21 "LruKPageCache$Disk" "loadTotal" "I", Cond.methodLink RX4 187 yX1_place, Cond.instanceMethod yX1_place, Cond.selects RX1 yX1_place yX1_place, Cond.code yX1_place cX1_place 3 none, Cond.methodLink RX4 60 yX1_change, Cond.instanceMethod yX1_change, Cond.selects RX1 yX1_change yX1_change]
def wsX4_write_r7 : List Cond := [Cond.code yX1_change cX1_change 3 none, Cond.methodLink RX4 170 yX4_forgetIfStale, Cond.instanceMethod yX4_forgetIfStale, Cond.selects RX4 yX4_forgetIfStale yX4_forgetIfStale, Cond.code yX4_forgetIfStale cX4_forgetIfStale 3 none, Cond.fieldLink RX4 157 "LruKPageCache" "retentionPeriod" "I", Cond.methodLink RX4 107 yX2_timeOf, Cond.methodLink RX4 95 yX2_forget, Cond.instanceMethod yX2_forget, Cond.selects RX2 yX2_forget yX2_forget, Cond.code yX2_forget cX2_forget 2 none, Cond.methodLink RX4 173 yX2_record, Cond.instanceMethod yX2_record, Cond.selects RX2 yX2_record yX2_record, Cond.code yX2_record cX2_record 5 none]
def wsX4_write : List Cond := .code yX4_write cX4_write 4 (some .int) :: ((wsX4_write_r1 ++ (wsX4_write_r2 ++ (wsX4_write_r3 ++ (wsX4_write_r4 ++ (wsX4_write_r5 ++ (wsX4_write_r6 ++ wsX4_write_r7)))))) ++ wsX40 ++ wsX10 ++ wsX20 ++ wsX30 ++ wsX00)
def wsX4_pin_r1 : List Cond := [Cond.fieldLink RX4 19 "LruKPageCache" "frames" "LLruKPageCache$Frames;", Cond.methodLink RX4 45 yX4_isPage, Cond.static yX4_isPage, Cond.initialized RX4, Cond.code yX4_isPage cX4_isPage 1 (some .boolean), Cond.methodLink RX4 41 yX4_isWithin, Cond.static yX4_isWithin, Cond.code yX4_isWithin cX4_isWithin 3 (some .boolean), Cond.methodLink RX4 64 yX1_pinsOf, Cond.instanceMethod yX1_pinsOf, Cond.selects RX1 yX1_pinsOf yX1_pinsOf, Cond.initialized RX1, Cond.code yX1_pinsOf cX1_pinsOf 2 (some .int), Cond.fieldLink RX1 22 "LruKPageCache$Frames" "pins" "[I", Cond.methodLink RX4 49 yX4_canReference, Cond.instanceMethod yX4_canReference, Cond.selects RX4 yX4_canReference yX4_canReference, Cond.code yX4_canReference cX4_canReference 2 (some .boolean), Cond.methodLink RX4 70 yX1_holds, Cond.instanceMethod yX1_holds, Cond.selects RX1 yX1_holds yX1_holds, Cond.code yX1_holds cX1_holds 2 (some .boolean), Cond.fieldLink RX1 9 "LruKPageCache$Frames" "resident" "[Z", Cond.methodLink RX4 160 yX1_areFull]
def wsX4_pin_r2 : List Cond := [Cond.instanceMethod yX1_areFull, Cond.selects RX1 yX1_areFull yX1_areFull, Cond.code yX1_areFull cX1_areFull 1 (some .boolean), Cond.fieldLink RX1 29 "LruKPageCache$Frames" "usedFrames" "I", Cond.fieldLink RX1 33 "LruKPageCache$Frames" "capacity" "I", Cond.methodLink RX4 115 yX4_chooseVictim, Cond.instanceMethod yX4_chooseVictim, Cond.selects RX4 yX4_chooseVictim yX4_chooseVictim, Cond.code yX4_chooseVictim cX4_chooseVictim 3 (some .int), Cond.fieldLink RX4 33 "LruKPageCache" "histories" "LLruKPageCache$Histories;", Cond.methodLink RX4 190 yX2_goesBefore, Cond.instanceMethod yX2_goesBefore, Cond.selects RX2 yX2_goesBefore yX2_goesBefore, Cond.initialized RX2, Cond.code yX2_goesBefore cX2_goesBefore 6 (some .boolean), Cond.fieldLink RX2 15 "LruKPageCache$Histories" "lengths" "[I", Cond.fieldLink RX2 24 "LruKPageCache$Histories" "k" "I", Cond.methodLink RX2 28 yX2_timeOf, Cond.instanceMethod yX2_timeOf, Cond.selects RX2 yX2_timeOf yX2_timeOf, Cond.code yX2_timeOf cX2_timeOf 3 (some .int), Cond.fieldLink RX2 9 "LruKPageCache$Histories" "times" "[I", Cond.methodLink RX4 52 yX4_reference, Cond.instanceMethod yX4_reference]
def wsX4_pin_r3 : List Cond := [Cond.selects RX4 yX4_reference yX4_reference, Cond.code yX4_reference cX4_reference 2 none, Cond.fieldLink RX4 111 "LruKPageCache" "now" "I", Cond.fieldLink RX4 129 "LruKPageCache" "hitTotal" "I", Cond.fieldLink RX4 132 "LruKPageCache" "missTotal" "I", Cond.methodLink RX4 164 yX4_makeRoom, Cond.instanceMethod yX4_makeRoom, Cond.selects RX4 yX4_makeRoom yX4_makeRoom, Cond.code yX4_makeRoom cX4_makeRoom 2 none, Cond.fieldLink RX4 135 "LruKPageCache" "evictionTotal" "I", Cond.methodLink RX4 76 yX1_isChanged, Cond.instanceMethod yX1_isChanged, Cond.selects RX1 yX1_isChanged yX1_isChanged, Cond.code yX1_isChanged cX1_isChanged 2 (some .boolean), Cond.fieldLink RX1 15 "LruKPageCache$Frames" "changed" "[Z", Cond.methodLink RX4 176 yX4_enqueue, Cond.instanceMethod yX4_enqueue, Cond.selects RX4 yX4_enqueue yX4_enqueue, Cond.code yX4_enqueue cX4_enqueue 2 none, Cond.fieldLink RX4 26 "LruKPageCache" "queue" "LLruKPageCache$WriteBackQueue;", Cond.fieldLink RX4 144 "LruKPageCache" "stallTotal" "I", Cond.methodLink RX4 179 yX3_isFull, Cond.instanceMethod yX3_isFull, Cond.selects RX3 yX3_isFull yX3_isFull]
def wsX4_pin_r4 : List Cond := [Cond.initialized RX3, Cond.code yX3_isFull cX3_isFull 1 (some .boolean), Cond.fieldLink RX3 18 "LruKPageCache$WriteBackQueue" "size" "I", Cond.fieldLink RX3 22 "LruKPageCache$WriteBackQueue" "capacity" "I", Cond.methodLink RX4 85 yX4_writeEntry, Cond.instanceMethod yX4_writeEntry, Cond.selects RX4 yX4_writeEntry yX4_writeEntry, Cond.code yX4_writeEntry cX4_writeEntry 3 none, Cond.fieldLink RX4 10 "LruKPageCache" "disk" "LLruKPageCache$Disk;", Cond.methodLink RX4 125 yX3_pageAt, Cond.instanceMethod yX3_pageAt, Cond.selects RX3 yX3_pageAt yX3_pageAt, Cond.code yX3_pageAt cX3_pageAt 2 (some .int), Cond.fieldLink RX3 9 "LruKPageCache$WriteBackQueue" "pages" "[I", Cond.methodLink RX3 25 yX3_has, Cond.instanceMethod yX3_has, Cond.selects RX3 yX3_has yX3_has, Cond.code yX3_has cX3_has 2 (some .boolean), Cond.methodLink RX4 126 yX3_valueAt, Cond.instanceMethod yX3_valueAt, Cond.selects RX3 yX3_valueAt yX3_valueAt, Cond.code yX3_valueAt cX3_valueAt 2 (some .int), Cond.fieldLink RX3 15 "LruKPageCache$WriteBackQueue" "values" "[I", Cond.methodLink RX4 194 yX0_store]
def wsX4_pin_r5 : List Cond := [Cond.instanceMethod yX0_store, Cond.selects RX0 yX0_store yX0_store, Cond.initialized RX0, Cond.code yX0_store cX0_store 3 none, Cond.fieldLink RX0 25 "LruKPageCache$Disk" "storeTotal" "I", Cond.fieldLink RX0 9 "LruKPageCache$Disk" "values" "[I", Cond.methodLink RX4 101 yX3_removeAt, Cond.instanceMethod yX3_removeAt, Cond.selects RX3 yX3_removeAt yX3_removeAt, Cond.code yX3_removeAt cX3_removeAt 3 none, Cond.methodLink RX4 56 yX1_valueOf, Cond.instanceMethod yX1_valueOf, Cond.selects RX1 yX1_valueOf yX1_valueOf, Cond.code yX1_valueOf cX1_valueOf 2 (some .int), Cond.fieldLink RX1 18 "LruKPageCache$Frames" "values" "[I", Cond.methodLink RX4 182 yX3_append, Cond.instanceMethod yX3_append, Cond.selects RX3 yX3_append yX3_append, Cond.code yX3_append cX3_append 3 none, Cond.methodLink RX3 29 yX3_isFull, Cond.methodLink RX4 98 yX1_release, Cond.instanceMethod yX1_release, Cond.selects RX1 yX1_release yX1_release, Cond.code yX1_release cX1_release 2 none]
def wsX4_pin_r6 : List Cond := [Cond.methodLink RX1 25 yX1_vacate, Cond.instanceMethod yX1_vacate, Cond.selects RX1 yX1_vacate yX1_vacate, Cond.code yX1_vacate cX1_vacate 2 none, Cond.methodLink RX4 167 yX4_load, Cond.instanceMethod yX4_load, Cond.selects RX4 yX4_load yX4_load, Cond.code yX4_load cX4_load 4 none, Cond.methodLink RX4 82 yX3_positionOf, Cond.instanceMethod yX3_positionOf, Cond.selects RX3 yX3_positionOf yX3_positionOf, Cond.code yX3_positionOf cX3_positionOf 3 (some .int), Cond.methodLink RX4 185 yX0_load, Cond.instanceMethod yX0_load, Cond.selects RX0 yX0_load yX0_load, Cond.code yX0_load cX0_load 2 (some .int), Cond.fieldLink RX0 21 "LruKPageCache$Disk" "loadTotal" "I", Cond.methodLink RX4 187 yX1_place, Cond.instanceMethod yX1_place, Cond.selects RX1 yX1_place yX1_place, Cond.code yX1_place cX1_place 3 none, Cond.methodLink RX4 60 yX1_change, Cond.instanceMethod yX1_change, Cond.selects RX1 yX1_change yX1_change]
def wsX4_pin_r7 : List Cond := [Cond.code yX1_change cX1_change 3 none, Cond.methodLink RX4 170 yX4_forgetIfStale, Cond.instanceMethod yX4_forgetIfStale, Cond.selects RX4 yX4_forgetIfStale yX4_forgetIfStale, Cond.code yX4_forgetIfStale cX4_forgetIfStale 3 none, Cond.fieldLink RX4 157 "LruKPageCache" "retentionPeriod" "I", Cond.methodLink RX4 107 yX2_timeOf, Cond.methodLink RX4 95 yX2_forget, Cond.instanceMethod yX2_forget, Cond.selects RX2 yX2_forget yX2_forget, Cond.code yX2_forget cX2_forget 2 none, Cond.methodLink RX4 173 yX2_record, Cond.instanceMethod yX2_record, Cond.selects RX2 yX2_record yX2_record, Cond.code yX2_record cX2_record 5 none, Cond.methodLink RX4 67 yX1_addPin, Cond.instanceMethod yX1_addPin, Cond.selects RX1 yX1_addPin yX1_addPin, Cond.code yX1_addPin cX1_addPin 2 none]
def wsX4_pin : List Cond := .code yX4_pin cX4_pin 2 (some .int) :: ((wsX4_pin_r1 ++ (wsX4_pin_r2 ++ (wsX4_pin_r3 ++ (wsX4_pin_r4 ++ (wsX4_pin_r5 ++ (wsX4_pin_r6 ++ wsX4_pin_r7)))))) ++ wsX40 ++ wsX10 ++ wsX20 ++ wsX30 ++ wsX00)
def wsX4_unpin : List Cond := .code yX4_unpin cX4_unpin 2 (some .int) :: ([.fieldLink RX4 19 "LruKPageCache" "frames" "LLruKPageCache$Frames;", .methodLink RX4 45 yX4_isPage, .static yX4_isPage, .initialized RX4, .code yX4_isPage cX4_isPage 1 (some .boolean), .methodLink RX4 41 yX4_isWithin, .static yX4_isWithin, .code yX4_isWithin cX4_isWithin 3 (some .boolean), .methodLink RX4 70 yX1_holds, .instanceMethod yX1_holds, .selects RX1 yX1_holds yX1_holds, .initialized RX1, .code yX1_holds cX1_holds 2 (some .boolean), .fieldLink RX1 9 "LruKPageCache$Frames" "resident" "[Z", .methodLink RX4 64 yX1_pinsOf, .instanceMethod yX1_pinsOf, .selects RX1 yX1_pinsOf yX1_pinsOf, .code yX1_pinsOf cX1_pinsOf 2 (some .int), .fieldLink RX1 22 "LruKPageCache$Frames" "pins" "[I", .methodLink RX4 73 yX1_removePin, .instanceMethod yX1_removePin, .selects RX1 yX1_removePin yX1_removePin, .code yX1_removePin cX1_removePin 2 none] ++ wsX40 ++ wsX10)
def wsX4_writeFrame : List Cond := .code yX4_writeFrame cX4_writeFrame 2 none :: ([.fieldLink RX4 10 "LruKPageCache" "disk" "LLruKPageCache$Disk;", .fieldLink RX4 19 "LruKPageCache" "frames" "LLruKPageCache$Frames;", .methodLink RX4 56 yX1_valueOf, .instanceMethod yX1_valueOf, .selects RX1 yX1_valueOf yX1_valueOf, .initialized RX1, .code yX1_valueOf cX1_valueOf 2 (some .int), .fieldLink RX1 18 "LruKPageCache$Frames" "values" "[I", .methodLink RX4 194 yX0_store, .instanceMethod yX0_store, .selects RX0 yX0_store yX0_store, .initialized RX0, .code yX0_store cX0_store 3 none, .fieldLink RX0 25 "LruKPageCache$Disk" "storeTotal" "I", .fieldLink RX0 9 "LruKPageCache$Disk" "values" "[I", .methodLink RX4 197 yX1_markClean, .instanceMethod yX1_markClean, .selects RX1 yX1_markClean yX1_markClean, .code yX1_markClean cX1_markClean 2 none, .fieldLink RX1 15 "LruKPageCache$Frames" "changed" "[Z"] ++ wsX40 ++ wsX10 ++ wsX00)
def wsX4_flush_r1 : List Cond := [Cond.fieldLink RX4 19 "LruKPageCache" "frames" "LLruKPageCache$Frames;", Cond.fieldLink RX4 26 "LruKPageCache" "queue" "LLruKPageCache$WriteBackQueue;", Cond.methodLink RX4 45 yX4_isPage, Cond.static yX4_isPage, Cond.initialized RX4, Cond.code yX4_isPage cX4_isPage 1 (some .boolean), Cond.methodLink RX4 41 yX4_isWithin, Cond.static yX4_isWithin, Cond.code yX4_isWithin cX4_isWithin 3 (some .boolean), Cond.methodLink RX4 76 yX1_isChanged, Cond.instanceMethod yX1_isChanged, Cond.selects RX1 yX1_isChanged yX1_isChanged, Cond.initialized RX1, Cond.code yX1_isChanged cX1_isChanged 2 (some .boolean), Cond.fieldLink RX1 15 "LruKPageCache$Frames" "changed" "[Z", Cond.methodLink RX4 79 yX4_writeFrame, Cond.instanceMethod yX4_writeFrame, Cond.selects RX4 yX4_writeFrame yX4_writeFrame, Cond.code yX4_writeFrame cX4_writeFrame 2 none, Cond.fieldLink RX4 10 "LruKPageCache" "disk" "LLruKPageCache$Disk;", Cond.methodLink RX4 56 yX1_valueOf, Cond.instanceMethod yX1_valueOf, Cond.selects RX1 yX1_valueOf yX1_valueOf, Cond.code yX1_valueOf cX1_valueOf 2 (some .int)]
def wsX4_flush_r2 : List Cond := [Cond.fieldLink RX1 18 "LruKPageCache$Frames" "values" "[I", Cond.methodLink RX4 194 yX0_store, Cond.instanceMethod yX0_store, Cond.selects RX0 yX0_store yX0_store, Cond.initialized RX0, Cond.code yX0_store cX0_store 3 none, Cond.fieldLink RX0 25 "LruKPageCache$Disk" "storeTotal" "I", Cond.fieldLink RX0 9 "LruKPageCache$Disk" "values" "[I", Cond.methodLink RX4 197 yX1_markClean, Cond.instanceMethod yX1_markClean, Cond.selects RX1 yX1_markClean yX1_markClean, Cond.code yX1_markClean cX1_markClean 2 none, Cond.methodLink RX4 82 yX3_positionOf, Cond.instanceMethod yX3_positionOf, Cond.selects RX3 yX3_positionOf yX3_positionOf, Cond.initialized RX3, Cond.code yX3_positionOf cX3_positionOf 3 (some .int), Cond.fieldLink RX3 18 "LruKPageCache$WriteBackQueue" "size" "I", Cond.fieldLink RX3 9 "LruKPageCache$WriteBackQueue" "pages" "[I", Cond.methodLink RX4 85 yX4_writeEntry, Cond.instanceMethod yX4_writeEntry, Cond.selects RX4 yX4_writeEntry yX4_writeEntry, Cond.code yX4_writeEntry cX4_writeEntry 3 none, Cond.methodLink RX4 125 yX3_pageAt]
def wsX4_flush_r3 : List Cond := [Cond.instanceMethod yX3_pageAt, Cond.selects RX3 yX3_pageAt yX3_pageAt, Cond.code yX3_pageAt cX3_pageAt 2 (some .int), Cond.methodLink RX3 25 yX3_has, Cond.instanceMethod yX3_has, Cond.selects RX3 yX3_has yX3_has, Cond.code yX3_has cX3_has 2 (some .boolean), Cond.methodLink RX4 126 yX3_valueAt, Cond.instanceMethod yX3_valueAt, Cond.selects RX3 yX3_valueAt yX3_valueAt, Cond.code yX3_valueAt cX3_valueAt 2 (some .int), Cond.fieldLink RX3 15 "LruKPageCache$WriteBackQueue" "values" "[I", Cond.methodLink RX4 101 yX3_removeAt, Cond.instanceMethod yX3_removeAt, Cond.selects RX3 yX3_removeAt yX3_removeAt, Cond.code yX3_removeAt cX3_removeAt 3 none]
def wsX4_flush : List Cond := .code yX4_flush cX4_flush 3 (some .int) :: ((wsX4_flush_r1 ++ (wsX4_flush_r2 ++ wsX4_flush_r3)) ++ wsX40 ++ wsX10 ++ wsX00 ++ wsX30)
def wsX4_writeOldest_r1 : List Cond := [Cond.fieldLink RX4 26 "LruKPageCache" "queue" "LLruKPageCache$WriteBackQueue;", Cond.methodLink RX4 200 Lib.Math.min.name, Cond.static Lib.Math.min.name, Cond.initialized "java/lang/Math", Cond.code Lib.Math.min.name Lib.Math.min.code 2 (some .int), Cond.methodLink RX4 88 yX3_length, Cond.instanceMethod yX3_length, Cond.selects RX3 yX3_length yX3_length, Cond.initialized RX3, Cond.code yX3_length cX3_length 1 (some .int), Cond.fieldLink RX3 18 "LruKPageCache$WriteBackQueue" "size" "I", Cond.methodLink RX4 85 yX4_writeEntry, Cond.instanceMethod yX4_writeEntry, Cond.selects RX4 yX4_writeEntry yX4_writeEntry, Cond.initialized RX4, Cond.code yX4_writeEntry cX4_writeEntry 3 none, Cond.fieldLink RX4 10 "LruKPageCache" "disk" "LLruKPageCache$Disk;", Cond.methodLink RX4 125 yX3_pageAt, Cond.instanceMethod yX3_pageAt, Cond.selects RX3 yX3_pageAt yX3_pageAt, Cond.code yX3_pageAt cX3_pageAt 2 (some .int), Cond.fieldLink RX3 9 "LruKPageCache$WriteBackQueue" "pages" "[I", Cond.methodLink RX3 25 yX3_has, Cond.instanceMethod yX3_has]
def wsX4_writeOldest_r2 : List Cond := [Cond.selects RX3 yX3_has yX3_has, Cond.code yX3_has cX3_has 2 (some .boolean), Cond.methodLink RX4 126 yX3_valueAt, Cond.instanceMethod yX3_valueAt, Cond.selects RX3 yX3_valueAt yX3_valueAt, Cond.code yX3_valueAt cX3_valueAt 2 (some .int), Cond.fieldLink RX3 15 "LruKPageCache$WriteBackQueue" "values" "[I", Cond.methodLink RX4 194 yX0_store, Cond.instanceMethod yX0_store, Cond.selects RX0 yX0_store yX0_store, Cond.initialized RX0, Cond.code yX0_store cX0_store 3 none, Cond.fieldLink RX0 25 "LruKPageCache$Disk" "storeTotal" "I", Cond.fieldLink RX0 9 "LruKPageCache$Disk" "values" "[I", Cond.methodLink RX4 101 yX3_removeAt, Cond.instanceMethod yX3_removeAt, Cond.selects RX3 yX3_removeAt yX3_removeAt, Cond.code yX3_removeAt cX3_removeAt 3 none]
def wsX4_writeOldest : List Cond := .code yX4_writeOldest cX4_writeOldest 4 (some .int) :: ((wsX4_writeOldest_r1 ++ wsX4_writeOldest_r2) ++ wsX40 ++ wsX30 ++ wsX00)
def wsX4_flushAll_r1 : List Cond := [Cond.fieldLink RX4 26 "LruKPageCache" "queue" "LLruKPageCache$WriteBackQueue;", Cond.fieldLink RX4 19 "LruKPageCache" "frames" "LLruKPageCache$Frames;", Cond.methodLink RX4 88 yX3_length, Cond.instanceMethod yX3_length, Cond.selects RX3 yX3_length yX3_length, Cond.initialized RX3, Cond.code yX3_length cX3_length 1 (some .int), Cond.fieldLink RX3 18 "LruKPageCache$WriteBackQueue" "size" "I", Cond.methodLink RX4 92 yX4_writeOldest, Cond.instanceMethod yX4_writeOldest, Cond.selects RX4 yX4_writeOldest yX4_writeOldest, Cond.initialized RX4, Cond.code yX4_writeOldest cX4_writeOldest 4 (some .int), Cond.methodLink RX4 200 Lib.Math.min.name, Cond.static Lib.Math.min.name, Cond.initialized "java/lang/Math", Cond.code Lib.Math.min.name Lib.Math.min.code 2 (some .int), Cond.methodLink RX4 85 yX4_writeEntry, Cond.instanceMethod yX4_writeEntry, Cond.selects RX4 yX4_writeEntry yX4_writeEntry, Cond.code yX4_writeEntry cX4_writeEntry 3 none, Cond.fieldLink RX4 10 "LruKPageCache" "disk" "LLruKPageCache$Disk;", Cond.methodLink RX4 125 yX3_pageAt, Cond.instanceMethod yX3_pageAt]
def wsX4_flushAll_r2 : List Cond := [Cond.selects RX3 yX3_pageAt yX3_pageAt, Cond.code yX3_pageAt cX3_pageAt 2 (some .int), Cond.fieldLink RX3 9 "LruKPageCache$WriteBackQueue" "pages" "[I", Cond.methodLink RX3 25 yX3_has, Cond.instanceMethod yX3_has, Cond.selects RX3 yX3_has yX3_has, Cond.code yX3_has cX3_has 2 (some .boolean), Cond.methodLink RX4 126 yX3_valueAt, Cond.instanceMethod yX3_valueAt, Cond.selects RX3 yX3_valueAt yX3_valueAt, Cond.code yX3_valueAt cX3_valueAt 2 (some .int), Cond.fieldLink RX3 15 "LruKPageCache$WriteBackQueue" "values" "[I", Cond.methodLink RX4 194 yX0_store, Cond.instanceMethod yX0_store, Cond.selects RX0 yX0_store yX0_store, Cond.initialized RX0, Cond.code yX0_store cX0_store 3 none, Cond.fieldLink RX0 25 "LruKPageCache$Disk" "storeTotal" "I", Cond.fieldLink RX0 9 "LruKPageCache$Disk" "values" "[I", Cond.methodLink RX4 101 yX3_removeAt, Cond.instanceMethod yX3_removeAt, Cond.selects RX3 yX3_removeAt yX3_removeAt, Cond.code yX3_removeAt cX3_removeAt 3 none, Cond.methodLink RX4 76 yX1_isChanged]
def wsX4_flushAll_r3 : List Cond := [Cond.instanceMethod yX1_isChanged, Cond.selects RX1 yX1_isChanged yX1_isChanged, Cond.initialized RX1, Cond.code yX1_isChanged cX1_isChanged 2 (some .boolean), Cond.fieldLink RX1 15 "LruKPageCache$Frames" "changed" "[Z", Cond.methodLink RX4 79 yX4_writeFrame, Cond.instanceMethod yX4_writeFrame, Cond.selects RX4 yX4_writeFrame yX4_writeFrame, Cond.code yX4_writeFrame cX4_writeFrame 2 none, Cond.methodLink RX4 56 yX1_valueOf, Cond.instanceMethod yX1_valueOf, Cond.selects RX1 yX1_valueOf yX1_valueOf, Cond.code yX1_valueOf cX1_valueOf 2 (some .int), Cond.fieldLink RX1 18 "LruKPageCache$Frames" "values" "[I", Cond.methodLink RX4 197 yX1_markClean, Cond.instanceMethod yX1_markClean, Cond.selects RX1 yX1_markClean yX1_markClean, Cond.code yX1_markClean cX1_markClean 2 none]
def wsX4_flushAll : List Cond := .code yX4_flushAll cX4_flushAll 3 (some .int) :: ((wsX4_flushAll_r1 ++ (wsX4_flushAll_r2 ++ wsX4_flushAll_r3)) ++ wsX40 ++ wsX30 ++ wsX00 ++ wsX10)
def wsX4_drain_r1 : List Cond := [Cond.methodLink RX4 41 yX4_isWithin, Cond.static yX4_isWithin, Cond.initialized RX4, Cond.code yX4_isWithin cX4_isWithin 3 (some .boolean), Cond.methodLink RX4 92 yX4_writeOldest, Cond.instanceMethod yX4_writeOldest, Cond.selects RX4 yX4_writeOldest yX4_writeOldest, Cond.code yX4_writeOldest cX4_writeOldest 4 (some .int), Cond.fieldLink RX4 26 "LruKPageCache" "queue" "LLruKPageCache$WriteBackQueue;", Cond.methodLink RX4 200 Lib.Math.min.name, Cond.static Lib.Math.min.name, Cond.initialized "java/lang/Math", Cond.code Lib.Math.min.name Lib.Math.min.code 2 (some .int), Cond.methodLink RX4 88 yX3_length, Cond.instanceMethod yX3_length, Cond.selects RX3 yX3_length yX3_length, Cond.initialized RX3, Cond.code yX3_length cX3_length 1 (some .int), Cond.fieldLink RX3 18 "LruKPageCache$WriteBackQueue" "size" "I", Cond.methodLink RX4 85 yX4_writeEntry, Cond.instanceMethod yX4_writeEntry, Cond.selects RX4 yX4_writeEntry yX4_writeEntry, Cond.code yX4_writeEntry cX4_writeEntry 3 none, Cond.fieldLink RX4 10 "LruKPageCache" "disk" "LLruKPageCache$Disk;"]
def wsX4_drain_r2 : List Cond := [Cond.methodLink RX4 125 yX3_pageAt, Cond.instanceMethod yX3_pageAt, Cond.selects RX3 yX3_pageAt yX3_pageAt, Cond.code yX3_pageAt cX3_pageAt 2 (some .int), Cond.fieldLink RX3 9 "LruKPageCache$WriteBackQueue" "pages" "[I", Cond.methodLink RX3 25 yX3_has, Cond.instanceMethod yX3_has, Cond.selects RX3 yX3_has yX3_has, Cond.code yX3_has cX3_has 2 (some .boolean), Cond.methodLink RX4 126 yX3_valueAt, Cond.instanceMethod yX3_valueAt, Cond.selects RX3 yX3_valueAt yX3_valueAt, Cond.code yX3_valueAt cX3_valueAt 2 (some .int), Cond.fieldLink RX3 15 "LruKPageCache$WriteBackQueue" "values" "[I", Cond.methodLink RX4 194 yX0_store, Cond.instanceMethod yX0_store, Cond.selects RX0 yX0_store yX0_store, Cond.initialized RX0, Cond.code yX0_store cX0_store 3 none, Cond.fieldLink RX0 25 "LruKPageCache$Disk" "storeTotal" "I", Cond.fieldLink RX0 9 "LruKPageCache$Disk" "values" "[I", Cond.methodLink RX4 101 yX3_removeAt, Cond.instanceMethod yX3_removeAt, Cond.selects RX3 yX3_removeAt yX3_removeAt]
def wsX4_drain_r3 : List Cond := [Cond.code yX3_removeAt cX3_removeAt 3 none]
def wsX4_drain : List Cond := .code yX4_drain cX4_drain 2 (some .int) :: ((wsX4_drain_r1 ++ (wsX4_drain_r2 ++ wsX4_drain_r3)) ++ wsX40 ++ wsX30 ++ wsX00)
def wsX4_discard_r1 : List Cond := [Cond.fieldLink RX4 19 "LruKPageCache" "frames" "LLruKPageCache$Frames;", Cond.fieldLink RX4 33 "LruKPageCache" "histories" "LLruKPageCache$Histories;", Cond.fieldLink RX4 26 "LruKPageCache" "queue" "LLruKPageCache$WriteBackQueue;", Cond.methodLink RX4 45 yX4_isPage, Cond.static yX4_isPage, Cond.initialized RX4, Cond.code yX4_isPage cX4_isPage 1 (some .boolean), Cond.methodLink RX4 41 yX4_isWithin, Cond.static yX4_isWithin, Cond.code yX4_isWithin cX4_isWithin 3 (some .boolean), Cond.methodLink RX4 64 yX1_pinsOf, Cond.instanceMethod yX1_pinsOf, Cond.selects RX1 yX1_pinsOf yX1_pinsOf, Cond.initialized RX1, Cond.code yX1_pinsOf cX1_pinsOf 2 (some .int), Cond.fieldLink RX1 22 "LruKPageCache$Frames" "pins" "[I", Cond.methodLink RX4 95 yX2_forget, Cond.instanceMethod yX2_forget, Cond.selects RX2 yX2_forget yX2_forget, Cond.initialized RX2, Cond.code yX2_forget cX2_forget 2 none, Cond.fieldLink RX2 15 "LruKPageCache$Histories" "lengths" "[I", Cond.methodLink RX4 70 yX1_holds, Cond.instanceMethod yX1_holds]
def wsX4_discard_r2 : List Cond := [Cond.selects RX1 yX1_holds yX1_holds, Cond.code yX1_holds cX1_holds 2 (some .boolean), Cond.fieldLink RX1 9 "LruKPageCache$Frames" "resident" "[Z", Cond.methodLink RX4 98 yX1_release, Cond.instanceMethod yX1_release, Cond.selects RX1 yX1_release yX1_release, Cond.code yX1_release cX1_release 2 none, Cond.fieldLink RX1 29 "LruKPageCache$Frames" "usedFrames" "I", Cond.methodLink RX1 25 yX1_vacate, Cond.instanceMethod yX1_vacate, Cond.selects RX1 yX1_vacate yX1_vacate, Cond.code yX1_vacate cX1_vacate 2 none, Cond.fieldLink RX1 15 "LruKPageCache$Frames" "changed" "[Z", Cond.methodLink RX4 82 yX3_positionOf, Cond.instanceMethod yX3_positionOf, Cond.selects RX3 yX3_positionOf yX3_positionOf, Cond.initialized RX3, Cond.code yX3_positionOf cX3_positionOf 3 (some .int), Cond.fieldLink RX3 18 "LruKPageCache$WriteBackQueue" "size" "I", Cond.fieldLink RX3 9 "LruKPageCache$WriteBackQueue" "pages" "[I", Cond.methodLink RX4 101 yX3_removeAt, Cond.instanceMethod yX3_removeAt, Cond.selects RX3 yX3_removeAt yX3_removeAt, Cond.code yX3_removeAt cX3_removeAt 3 none]
def wsX4_discard_r3 : List Cond := [Cond.fieldLink RX3 15 "LruKPageCache$WriteBackQueue" "values" "[I", Cond.methodLink RX3 25 yX3_has, Cond.instanceMethod yX3_has, Cond.selects RX3 yX3_has yX3_has, Cond.code yX3_has cX3_has 2 (some .boolean)]
def wsX4_discard : List Cond := .code yX4_discard cX4_discard 3 (some .int) :: ((wsX4_discard_r1 ++ (wsX4_discard_r2 ++ wsX4_discard_r3)) ++ wsX40 ++ wsX10 ++ wsX20 ++ wsX30)
def wsX4_isResident : List Cond := .code yX4_isResident cX4_isResident 2 (some .int) :: ([.fieldLink RX4 19 "LruKPageCache" "frames" "LLruKPageCache$Frames;", .methodLink RX4 45 yX4_isPage, .static yX4_isPage, .initialized RX4, .code yX4_isPage cX4_isPage 1 (some .boolean), .methodLink RX4 41 yX4_isWithin, .static yX4_isWithin, .code yX4_isWithin cX4_isWithin 3 (some .boolean), .methodLink RX4 70 yX1_holds, .instanceMethod yX1_holds, .selects RX1 yX1_holds yX1_holds, .initialized RX1, .code yX1_holds cX1_holds 2 (some .boolean), .fieldLink RX1 9 "LruKPageCache$Frames" "resident" "[Z"] ++ wsX40 ++ wsX10)
def wsX4_isDirty : List Cond := .code yX4_isDirty cX4_isDirty 2 (some .int) :: ([.fieldLink RX4 19 "LruKPageCache" "frames" "LLruKPageCache$Frames;", .methodLink RX4 45 yX4_isPage, .static yX4_isPage, .initialized RX4, .code yX4_isPage cX4_isPage 1 (some .boolean), .methodLink RX4 41 yX4_isWithin, .static yX4_isWithin, .code yX4_isWithin cX4_isWithin 3 (some .boolean), .methodLink RX4 70 yX1_holds, .instanceMethod yX1_holds, .selects RX1 yX1_holds yX1_holds, .initialized RX1, .code yX1_holds cX1_holds 2 (some .boolean), .fieldLink RX1 9 "LruKPageCache$Frames" "resident" "[Z", .methodLink RX4 76 yX1_isChanged, .instanceMethod yX1_isChanged, .selects RX1 yX1_isChanged yX1_isChanged, .code yX1_isChanged cX1_isChanged 2 (some .boolean), .fieldLink RX1 15 "LruKPageCache$Frames" "changed" "[Z"] ++ wsX40 ++ wsX10)
def wsX4_pinCount : List Cond := .code yX4_pinCount cX4_pinCount 2 (some .int) :: ([.fieldLink RX4 19 "LruKPageCache" "frames" "LLruKPageCache$Frames;", .methodLink RX4 45 yX4_isPage, .static yX4_isPage, .initialized RX4, .code yX4_isPage cX4_isPage 1 (some .boolean), .methodLink RX4 41 yX4_isWithin, .static yX4_isWithin, .code yX4_isWithin cX4_isWithin 3 (some .boolean), .methodLink RX4 70 yX1_holds, .instanceMethod yX1_holds, .selects RX1 yX1_holds yX1_holds, .initialized RX1, .code yX1_holds cX1_holds 2 (some .boolean), .fieldLink RX1 9 "LruKPageCache$Frames" "resident" "[Z", .methodLink RX4 64 yX1_pinsOf, .instanceMethod yX1_pinsOf, .selects RX1 yX1_pinsOf yX1_pinsOf, .code yX1_pinsOf cX1_pinsOf 2 (some .int), .fieldLink RX1 22 "LruKPageCache$Frames" "pins" "[I"] ++ wsX40 ++ wsX10)
def wsX4_referenceTime : List Cond := .code yX4_referenceTime cX4_referenceTime 3 (some .int) :: ([.fieldLink RX4 33 "LruKPageCache" "histories" "LLruKPageCache$Histories;", .methodLink RX4 45 yX4_isPage, .static yX4_isPage, .initialized RX4, .code yX4_isPage cX4_isPage 1 (some .boolean), .methodLink RX4 41 yX4_isWithin, .static yX4_isWithin, .code yX4_isWithin cX4_isWithin 3 (some .boolean), .methodLink RX4 104 yX2_depth, .instanceMethod yX2_depth, .selects RX2 yX2_depth yX2_depth, .initialized RX2, .code yX2_depth cX2_depth 1 (some .int), .fieldLink RX2 24 "LruKPageCache$Histories" "k" "I", .methodLink RX4 107 yX2_timeOf, .instanceMethod yX2_timeOf, .selects RX2 yX2_timeOf yX2_timeOf, .code yX2_timeOf cX2_timeOf 3 (some .int), .fieldLink RX2 15 "LruKPageCache$Histories" "lengths" "[I", .fieldLink RX2 9 "LruKPageCache$Histories" "times" "[I"] ++ wsX40 ++ wsX20)
def wsX4_backwardKDistance : List Cond := .code yX4_backwardKDistance cX4_backwardKDistance 3 (some .int) :: ([.fieldLink RX4 33 "LruKPageCache" "histories" "LLruKPageCache$Histories;", .fieldLink RX4 111 "LruKPageCache" "now" "I", .methodLink RX4 45 yX4_isPage, .static yX4_isPage, .initialized RX4, .code yX4_isPage cX4_isPage 1 (some .boolean), .methodLink RX4 41 yX4_isWithin, .static yX4_isWithin, .code yX4_isWithin cX4_isWithin 3 (some .boolean), .methodLink RX4 104 yX2_depth, .instanceMethod yX2_depth, .selects RX2 yX2_depth yX2_depth, .initialized RX2, .code yX2_depth cX2_depth 1 (some .int), .fieldLink RX2 24 "LruKPageCache$Histories" "k" "I", .methodLink RX4 107 yX2_timeOf, .instanceMethod yX2_timeOf, .selects RX2 yX2_timeOf yX2_timeOf, .code yX2_timeOf cX2_timeOf 3 (some .int), .fieldLink RX2 15 "LruKPageCache$Histories" "lengths" "[I", .fieldLink RX2 9 "LruKPageCache$Histories" "times" "[I"] ++ wsX40 ++ wsX20)
def wsX4_victim_r1 : List Cond := [Cond.methodLink RX4 115 yX4_chooseVictim, Cond.instanceMethod yX4_chooseVictim, Cond.selects RX4 yX4_chooseVictim yX4_chooseVictim, Cond.initialized RX4, Cond.code yX4_chooseVictim cX4_chooseVictim 3 (some .int), Cond.fieldLink RX4 19 "LruKPageCache" "frames" "LLruKPageCache$Frames;", Cond.fieldLink RX4 33 "LruKPageCache" "histories" "LLruKPageCache$Histories;", Cond.methodLink RX4 70 yX1_holds, Cond.instanceMethod yX1_holds, Cond.selects RX1 yX1_holds yX1_holds, Cond.initialized RX1, Cond.code yX1_holds cX1_holds 2 (some .boolean), Cond.fieldLink RX1 9 "LruKPageCache$Frames" "resident" "[Z", Cond.methodLink RX4 64 yX1_pinsOf, Cond.instanceMethod yX1_pinsOf, Cond.selects RX1 yX1_pinsOf yX1_pinsOf, Cond.code yX1_pinsOf cX1_pinsOf 2 (some .int), Cond.fieldLink RX1 22 "LruKPageCache$Frames" "pins" "[I", Cond.methodLink RX4 190 yX2_goesBefore, Cond.instanceMethod yX2_goesBefore, Cond.selects RX2 yX2_goesBefore yX2_goesBefore, Cond.initialized RX2, Cond.code yX2_goesBefore cX2_goesBefore 6 (some .boolean), Cond.fieldLink RX2 15 "LruKPageCache$Histories" "lengths" "[I"]
def wsX4_victim_r2 : List Cond := [Cond.fieldLink RX2 24 "LruKPageCache$Histories" "k" "I", Cond.methodLink RX2 28 yX2_timeOf, Cond.instanceMethod yX2_timeOf, Cond.selects RX2 yX2_timeOf yX2_timeOf, Cond.code yX2_timeOf cX2_timeOf 3 (some .int), Cond.fieldLink RX2 9 "LruKPageCache$Histories" "times" "[I"]
def wsX4_victim : List Cond := .code yX4_victim cX4_victim 1 (some .int) :: ((wsX4_victim_r1 ++ wsX4_victim_r2) ++ wsX40 ++ wsX10 ++ wsX20)
def wsX4_diskValue : List Cond := .code yX4_diskValue cX4_diskValue 2 (some .int) :: ([.fieldLink RX4 10 "LruKPageCache" "disk" "LLruKPageCache$Disk;", .methodLink RX4 45 yX4_isPage, .static yX4_isPage, .initialized RX4, .code yX4_isPage cX4_isPage 1 (some .boolean), .methodLink RX4 41 yX4_isWithin, .static yX4_isWithin, .code yX4_isWithin cX4_isWithin 3 (some .boolean), .methodLink RX4 118 yX0_valueOf, .instanceMethod yX0_valueOf, .selects RX0 yX0_valueOf yX0_valueOf, .initialized RX0, .code yX0_valueOf cX0_valueOf 2 (some .int), .fieldLink RX0 9 "LruKPageCache$Disk" "values" "[I"] ++ wsX40 ++ wsX00)
def wsX4_residentCount : List Cond := .code yX4_residentCount cX4_residentCount 1 (some .int) :: ([.fieldLink RX4 19 "LruKPageCache" "frames" "LLruKPageCache$Frames;", .methodLink RX4 119 yX1_used, .instanceMethod yX1_used, .selects RX1 yX1_used yX1_used, .initialized RX1, .code yX1_used cX1_used 1 (some .int), .fieldLink RX1 29 "LruKPageCache$Frames" "usedFrames" "I"] ++ wsX40 ++ wsX10)
def wsX4_residentPage : List Cond := .code yX4_residentPage cX4_residentPage 2 (some .int) :: ([.fieldLink RX4 19 "LruKPageCache" "frames" "LLruKPageCache$Frames;", .methodLink RX4 122 yX1_pageAt, .instanceMethod yX1_pageAt, .selects RX1 yX1_pageAt yX1_pageAt, .initialized RX1, .code yX1_pageAt cX1_pageAt 4 (some .int), .fieldLink RX1 9 "LruKPageCache$Frames" "resident" "[Z"] ++ wsX40 ++ wsX10)
def wsX4_queueSize : List Cond := .code yX4_queueSize cX4_queueSize 1 (some .int) :: ([.fieldLink RX4 26 "LruKPageCache" "queue" "LLruKPageCache$WriteBackQueue;", .methodLink RX4 88 yX3_length, .instanceMethod yX3_length, .selects RX3 yX3_length yX3_length, .initialized RX3, .code yX3_length cX3_length 1 (some .int), .fieldLink RX3 18 "LruKPageCache$WriteBackQueue" "size" "I"] ++ wsX40 ++ wsX30)
def wsX4_queuedPage : List Cond := .code yX4_queuedPage cX4_queuedPage 2 (some .int) :: ([.fieldLink RX4 26 "LruKPageCache" "queue" "LLruKPageCache$WriteBackQueue;", .methodLink RX4 125 yX3_pageAt, .instanceMethod yX3_pageAt, .selects RX3 yX3_pageAt yX3_pageAt, .initialized RX3, .code yX3_pageAt cX3_pageAt 2 (some .int), .fieldLink RX3 9 "LruKPageCache$WriteBackQueue" "pages" "[I", .methodLink RX3 25 yX3_has, .instanceMethod yX3_has, .selects RX3 yX3_has yX3_has, .code yX3_has cX3_has 2 (some .boolean), .fieldLink RX3 18 "LruKPageCache$WriteBackQueue" "size" "I"] ++ wsX40 ++ wsX30)
def wsX4_queuedValue : List Cond := .code yX4_queuedValue cX4_queuedValue 2 (some .int) :: ([.fieldLink RX4 26 "LruKPageCache" "queue" "LLruKPageCache$WriteBackQueue;", .methodLink RX4 126 yX3_valueAt, .instanceMethod yX3_valueAt, .selects RX3 yX3_valueAt yX3_valueAt, .initialized RX3, .code yX3_valueAt cX3_valueAt 2 (some .int), .fieldLink RX3 15 "LruKPageCache$WriteBackQueue" "values" "[I", .methodLink RX3 25 yX3_has, .instanceMethod yX3_has, .selects RX3 yX3_has yX3_has, .code yX3_has cX3_has 2 (some .boolean), .fieldLink RX3 18 "LruKPageCache$WriteBackQueue" "size" "I"] ++ wsX40 ++ wsX30)
def wsX4_clock : List Cond := .code yX4_clock cX4_clock 1 (some .int) :: ([.fieldLink RX4 111 "LruKPageCache" "now" "I"] ++ wsX40)
def wsX4_hits : List Cond := .code yX4_hits cX4_hits 1 (some .int) :: ([.fieldLink RX4 129 "LruKPageCache" "hitTotal" "I"] ++ wsX40)
def wsX4_misses : List Cond := .code yX4_misses cX4_misses 1 (some .int) :: ([.fieldLink RX4 132 "LruKPageCache" "missTotal" "I"] ++ wsX40)
def wsX4_evictions : List Cond := .code yX4_evictions cX4_evictions 1 (some .int) :: ([.fieldLink RX4 135 "LruKPageCache" "evictionTotal" "I"] ++ wsX40)
def wsX4_diskReads : List Cond := .code yX4_diskReads cX4_diskReads 1 (some .int) :: ([.fieldLink RX4 10 "LruKPageCache" "disk" "LLruKPageCache$Disk;", .methodLink RX4 138 yX0_loads, .instanceMethod yX0_loads, .selects RX0 yX0_loads yX0_loads, .initialized RX0, .code yX0_loads cX0_loads 1 (some .int), .fieldLink RX0 21 "LruKPageCache$Disk" "loadTotal" "I"] ++ wsX40 ++ wsX00)
def wsX4_diskWrites : List Cond := .code yX4_diskWrites cX4_diskWrites 1 (some .int) :: ([.fieldLink RX4 10 "LruKPageCache" "disk" "LLruKPageCache$Disk;", .methodLink RX4 141 yX0_stores, .instanceMethod yX0_stores, .selects RX0 yX0_stores yX0_stores, .initialized RX0, .code yX0_stores cX0_stores 1 (some .int), .fieldLink RX0 25 "LruKPageCache$Disk" "storeTotal" "I"] ++ wsX40 ++ wsX00)
def wsX4_stalls : List Cond := .code yX4_stalls cX4_stalls 1 (some .int) :: ([.fieldLink RX4 144 "LruKPageCache" "stallTotal" "I"] ++ wsX40)
def wsX5_isFrom : List Cond := .code yX5_isFrom cX5_isFrom 3 (some .boolean) :: ([])
def wsX5_reset : List Cond := .code yX5_reset cX5_reset 6 (some .int) :: ([.fieldLink RX5 46 "LruKPageCacheModel" "capacity" "I", .fieldLink RX5 50 "LruKPageCacheModel" "k" "I", .fieldLink RX5 53 "LruKPageCacheModel" "queueCapacity" "I", .fieldLink RX5 56 "LruKPageCacheModel" "retention" "I", .fieldLink RX5 59 "LruKPageCacheModel" "clock" "I", .fieldLink RX5 62 "LruKPageCacheModel" "hits" "I", .fieldLink RX5 65 "LruKPageCacheModel" "misses" "I", .fieldLink RX5 68 "LruKPageCacheModel" "evictions" "I", .fieldLink RX5 71 "LruKPageCacheModel" "diskReads" "I", .fieldLink RX5 74 "LruKPageCacheModel" "diskWrites" "I", .fieldLink RX5 77 "LruKPageCacheModel" "stalls" "I", .fieldLink RX5 80 "LruKPageCacheModel" "queueSize" "I", .fieldLink RX5 7 "LruKPageCacheModel" "disk" "[I", .fieldLink RX5 19 "LruKPageCacheModel" "isResident" "[Z", .fieldLink RX5 29 "LruKPageCacheModel" "remembered" "[I", .methodLink RX5 42 yX5_isFrom, .static yX5_isFrom, .initialized RX5, .code yX5_isFrom cX5_isFrom 3 (some .boolean)] ++ wsX50)
def wsX5_init_r1 : List Cond := [Cond.methodLink RX5 1 objectInit, Cond.instanceMethod objectInit, Cond.code objectInit ⟨#[0xb1]⟩ 1 none, Cond.arrayClass .int, Cond.fieldLink RX5 7 "LruKPageCacheModel" "disk" "[I", Cond.fieldLink RX5 13 "LruKPageCacheModel" "value" "[I", Cond.fieldLink RX5 16 "LruKPageCacheModel" "pins" "[I", Cond.arrayClass .boolean, Cond.fieldLink RX5 19 "LruKPageCacheModel" "isResident" "[Z", Cond.fieldLink RX5 23 "LruKPageCacheModel" "isDirty" "[Z", Cond.fieldLink RX5 26 "LruKPageCacheModel" "times" "[I", Cond.fieldLink RX5 29 "LruKPageCacheModel" "remembered" "[I", Cond.fieldLink RX5 32 "LruKPageCacheModel" "queuedPages" "[I", Cond.fieldLink RX5 35 "LruKPageCacheModel" "queuedValues" "[I", Cond.methodLink RX5 38 yX5_reset, Cond.instanceMethod yX5_reset, Cond.selects RX5 yX5_reset yX5_reset, Cond.initialized RX5, Cond.code yX5_reset cX5_reset 6 (some .int), Cond.fieldLink RX5 46 "LruKPageCacheModel" "capacity" "I", Cond.fieldLink RX5 50 "LruKPageCacheModel" "k" "I", Cond.fieldLink RX5 53 "LruKPageCacheModel" "queueCapacity" "I", Cond.fieldLink RX5 56 "LruKPageCacheModel" "retention" "I", Cond.fieldLink RX5 59 "LruKPageCacheModel" "clock" "I"]
def wsX5_init_r2 : List Cond := [Cond.fieldLink RX5 62 "LruKPageCacheModel" "hits" "I", Cond.fieldLink RX5 65 "LruKPageCacheModel" "misses" "I", Cond.fieldLink RX5 68 "LruKPageCacheModel" "evictions" "I", Cond.fieldLink RX5 71 "LruKPageCacheModel" "diskReads" "I", Cond.fieldLink RX5 74 "LruKPageCacheModel" "diskWrites" "I", Cond.fieldLink RX5 77 "LruKPageCacheModel" "stalls" "I", Cond.fieldLink RX5 80 "LruKPageCacheModel" "queueSize" "I", Cond.methodLink RX5 42 yX5_isFrom, Cond.static yX5_isFrom, Cond.code yX5_isFrom cX5_isFrom 3 (some .boolean)]
def wsX5_init : List Cond := .code yX5_init cX5_init 2 none :: ((wsX5_init_r1 ++ wsX5_init_r2) ++ wsX50)
def wsX5_isPage : List Cond := .code yX5_isPage cX5_isPage 1 (some .boolean) :: ([.methodLink RX5 42 yX5_isFrom, .static yX5_isFrom, .initialized RX5, .code yX5_isFrom cX5_isFrom 3 (some .boolean)])
def wsX5_time : List Cond := .code yX5_time cX5_time 3 (some .int) :: ([.fieldLink RX5 26 "LruKPageCacheModel" "times" "[I"] ++ wsX50)
def wsX5_record : List Cond := .code yX5_record cX5_record 3 none :: ([.fieldLink RX5 59 "LruKPageCacheModel" "clock" "I", .fieldLink RX5 19 "LruKPageCacheModel" "isResident" "[Z", .fieldLink RX5 29 "LruKPageCacheModel" "remembered" "[I", .fieldLink RX5 56 "LruKPageCacheModel" "retention" "I", .fieldLink RX5 50 "LruKPageCacheModel" "k" "I", .fieldLink RX5 26 "LruKPageCacheModel" "times" "[I", .methodLink RX5 83 yX5_time, .instanceMethod yX5_time, .selects RX5 yX5_time yX5_time, .initialized RX5, .code yX5_time cX5_time 3 (some .int)] ++ wsX50)
def wsX5_goesFirst : List Cond := .code yX5_goesFirst cX5_goesFirst 4 (some .boolean) :: ([.fieldLink RX5 29 "LruKPageCacheModel" "remembered" "[I", .fieldLink RX5 50 "LruKPageCacheModel" "k" "I", .methodLink RX5 83 yX5_time, .instanceMethod yX5_time, .selects RX5 yX5_time yX5_time, .initialized RX5, .code yX5_time cX5_time 3 (some .int), .fieldLink RX5 26 "LruKPageCacheModel" "times" "[I"] ++ wsX50)
def wsX5_victim : List Cond := .code yX5_victim cX5_victim 3 (some .int) :: ([.fieldLink RX5 19 "LruKPageCacheModel" "isResident" "[Z", .fieldLink RX5 16 "LruKPageCacheModel" "pins" "[I", .methodLink RX5 87 yX5_goesFirst, .instanceMethod yX5_goesFirst, .selects RX5 yX5_goesFirst yX5_goesFirst, .initialized RX5, .code yX5_goesFirst cX5_goesFirst 4 (some .boolean), .fieldLink RX5 29 "LruKPageCacheModel" "remembered" "[I", .fieldLink RX5 50 "LruKPageCacheModel" "k" "I", .methodLink RX5 83 yX5_time, .instanceMethod yX5_time, .selects RX5 yX5_time yX5_time, .code yX5_time cX5_time 3 (some .int), .fieldLink RX5 26 "LruKPageCacheModel" "times" "[I"] ++ wsX50)
def wsX5_residentCount : List Cond := .code yX5_residentCount cX5_residentCount 3 (some .int) :: ([.fieldLink RX5 19 "LruKPageCacheModel" "isResident" "[Z"] ++ wsX50)
def wsX5_canLoad : List Cond := .code yX5_canLoad cX5_canLoad 1 (some .boolean) :: ([.fieldLink RX5 46 "LruKPageCacheModel" "capacity" "I", .methodLink RX5 91 yX5_residentCount, .instanceMethod yX5_residentCount, .selects RX5 yX5_residentCount yX5_residentCount, .initialized RX5, .code yX5_residentCount cX5_residentCount 3 (some .int), .fieldLink RX5 19 "LruKPageCacheModel" "isResident" "[Z", .methodLink RX5 95 yX5_victim, .instanceMethod yX5_victim, .selects RX5 yX5_victim yX5_victim, .code yX5_victim cX5_victim 3 (some .int), .fieldLink RX5 16 "LruKPageCacheModel" "pins" "[I", .methodLink RX5 87 yX5_goesFirst, .instanceMethod yX5_goesFirst, .selects RX5 yX5_goesFirst yX5_goesFirst, .code yX5_goesFirst cX5_goesFirst 4 (some .boolean), .fieldLink RX5 29 "LruKPageCacheModel" "remembered" "[I", .fieldLink RX5 50 "LruKPageCacheModel" "k" "I", .methodLink RX5 83 yX5_time, .instanceMethod yX5_time, .selects RX5 yX5_time yX5_time, .code yX5_time cX5_time 3 (some .int), .fieldLink RX5 26 "LruKPageCacheModel" "times" "[I"] ++ wsX50)
def wsX5_writeToDisk : List Cond := .code yX5_writeToDisk cX5_writeToDisk 3 none :: ([.fieldLink RX5 7 "LruKPageCacheModel" "disk" "[I", .fieldLink RX5 74 "LruKPageCacheModel" "diskWrites" "I"] ++ wsX50)
def wsX5_removeEntry : List Cond := .code yX5_removeEntry cX5_removeEntry 3 none :: ([.fieldLink RX5 80 "LruKPageCacheModel" "queueSize" "I", .fieldLink RX5 32 "LruKPageCacheModel" "queuedPages" "[I", .fieldLink RX5 35 "LruKPageCacheModel" "queuedValues" "[I"] ++ wsX50)
def wsX5_writeOldest : List Cond := .code yX5_writeOldest cX5_writeOldest 1 none :: ([.fieldLink RX5 32 "LruKPageCacheModel" "queuedPages" "[I", .fieldLink RX5 35 "LruKPageCacheModel" "queuedValues" "[I", .methodLink RX5 98 yX5_writeToDisk, .instanceMethod yX5_writeToDisk, .selects RX5 yX5_writeToDisk yX5_writeToDisk, .initialized RX5, .code yX5_writeToDisk cX5_writeToDisk 3 none, .fieldLink RX5 7 "LruKPageCacheModel" "disk" "[I", .fieldLink RX5 74 "LruKPageCacheModel" "diskWrites" "I", .methodLink RX5 102 yX5_removeEntry, .instanceMethod yX5_removeEntry, .selects RX5 yX5_removeEntry yX5_removeEntry, .code yX5_removeEntry cX5_removeEntry 3 none, .fieldLink RX5 80 "LruKPageCacheModel" "queueSize" "I"] ++ wsX50)
def wsX5_positionInQueue : List Cond := .code yX5_positionInQueue cX5_positionInQueue 3 (some .int) :: ([.fieldLink RX5 80 "LruKPageCacheModel" "queueSize" "I", .fieldLink RX5 32 "LruKPageCacheModel" "queuedPages" "[I"] ++ wsX50)
def wsX5_evict : List Cond := .code yX5_evict cX5_evict 2 none :: ([.fieldLink RX5 68 "LruKPageCacheModel" "evictions" "I", .fieldLink RX5 19 "LruKPageCacheModel" "isResident" "[Z", .fieldLink RX5 23 "LruKPageCacheModel" "isDirty" "[Z", .fieldLink RX5 80 "LruKPageCacheModel" "queueSize" "I", .fieldLink RX5 53 "LruKPageCacheModel" "queueCapacity" "I", .fieldLink RX5 77 "LruKPageCacheModel" "stalls" "I", .fieldLink RX5 32 "LruKPageCacheModel" "queuedPages" "[I", .fieldLink RX5 35 "LruKPageCacheModel" "queuedValues" "[I", .fieldLink RX5 13 "LruKPageCacheModel" "value" "[I", .methodLink RX5 106 yX5_writeOldest, .instanceMethod yX5_writeOldest, .selects RX5 yX5_writeOldest yX5_writeOldest, .initialized RX5, .code yX5_writeOldest cX5_writeOldest 1 none, .methodLink RX5 98 yX5_writeToDisk, .instanceMethod yX5_writeToDisk, .selects RX5 yX5_writeToDisk yX5_writeToDisk, .code yX5_writeToDisk cX5_writeToDisk 3 none, .fieldLink RX5 7 "LruKPageCacheModel" "disk" "[I", .fieldLink RX5 74 "LruKPageCacheModel" "diskWrites" "I", .methodLink RX5 102 yX5_removeEntry, .instanceMethod yX5_removeEntry, .selects RX5 yX5_removeEntry yX5_removeEntry, .code yX5_removeEntry cX5_removeEntry 3 none] ++ wsX50)
def wsX5_load_r1 : List Cond := [Cond.fieldLink RX5 46 "LruKPageCacheModel" "capacity" "I", Cond.fieldLink RX5 19 "LruKPageCacheModel" "isResident" "[Z", Cond.fieldLink RX5 23 "LruKPageCacheModel" "isDirty" "[Z", Cond.fieldLink RX5 16 "LruKPageCacheModel" "pins" "[I", Cond.fieldLink RX5 13 "LruKPageCacheModel" "value" "[I", Cond.fieldLink RX5 7 "LruKPageCacheModel" "disk" "[I", Cond.fieldLink RX5 71 "LruKPageCacheModel" "diskReads" "I", Cond.fieldLink RX5 35 "LruKPageCacheModel" "queuedValues" "[I", Cond.methodLink RX5 91 yX5_residentCount, Cond.instanceMethod yX5_residentCount, Cond.selects RX5 yX5_residentCount yX5_residentCount, Cond.initialized RX5, Cond.code yX5_residentCount cX5_residentCount 3 (some .int), Cond.methodLink RX5 95 yX5_victim, Cond.instanceMethod yX5_victim, Cond.selects RX5 yX5_victim yX5_victim, Cond.code yX5_victim cX5_victim 3 (some .int), Cond.methodLink RX5 87 yX5_goesFirst, Cond.instanceMethod yX5_goesFirst, Cond.selects RX5 yX5_goesFirst yX5_goesFirst, Cond.code yX5_goesFirst cX5_goesFirst 4 (some .boolean), Cond.fieldLink RX5 29 "LruKPageCacheModel" "remembered" "[I", Cond.fieldLink RX5 50 "LruKPageCacheModel" "k" "I", Cond.methodLink RX5 83 yX5_time]
def wsX5_load_r2 : List Cond := [Cond.instanceMethod yX5_time, Cond.selects RX5 yX5_time yX5_time, Cond.code yX5_time cX5_time 3 (some .int), Cond.fieldLink RX5 26 "LruKPageCacheModel" "times" "[I", Cond.methodLink RX5 109 yX5_evict, Cond.instanceMethod yX5_evict, Cond.selects RX5 yX5_evict yX5_evict, Cond.code yX5_evict cX5_evict 2 none, Cond.fieldLink RX5 68 "LruKPageCacheModel" "evictions" "I", Cond.fieldLink RX5 80 "LruKPageCacheModel" "queueSize" "I", Cond.fieldLink RX5 53 "LruKPageCacheModel" "queueCapacity" "I", Cond.fieldLink RX5 77 "LruKPageCacheModel" "stalls" "I", Cond.fieldLink RX5 32 "LruKPageCacheModel" "queuedPages" "[I", Cond.methodLink RX5 106 yX5_writeOldest, Cond.instanceMethod yX5_writeOldest, Cond.selects RX5 yX5_writeOldest yX5_writeOldest, Cond.code yX5_writeOldest cX5_writeOldest 1 none, Cond.methodLink RX5 98 yX5_writeToDisk, Cond.instanceMethod yX5_writeToDisk, Cond.selects RX5 yX5_writeToDisk yX5_writeToDisk, Cond.code yX5_writeToDisk cX5_writeToDisk 3 none, Cond.fieldLink RX5 74 "LruKPageCacheModel" "diskWrites" "I", Cond.methodLink RX5 102 yX5_removeEntry, Cond.instanceMethod yX5_removeEntry]
def wsX5_load_r3 : List Cond := [Cond.selects RX5 yX5_removeEntry yX5_removeEntry, Cond.code yX5_removeEntry cX5_removeEntry 3 none, Cond.methodLink RX5 112 yX5_positionInQueue, Cond.instanceMethod yX5_positionInQueue, Cond.selects RX5 yX5_positionInQueue yX5_positionInQueue, Cond.code yX5_positionInQueue cX5_positionInQueue 3 (some .int)]
def wsX5_load : List Cond := .code yX5_load cX5_load 3 none :: ((wsX5_load_r1 ++ (wsX5_load_r2 ++ wsX5_load_r3)) ++ wsX50)
def wsX5_reference_r1 : List Cond := [Cond.fieldLink RX5 19 "LruKPageCacheModel" "isResident" "[Z", Cond.fieldLink RX5 62 "LruKPageCacheModel" "hits" "I", Cond.fieldLink RX5 65 "LruKPageCacheModel" "misses" "I", Cond.methodLink RX5 116 yX5_record, Cond.instanceMethod yX5_record, Cond.selects RX5 yX5_record yX5_record, Cond.initialized RX5, Cond.code yX5_record cX5_record 3 none, Cond.fieldLink RX5 59 "LruKPageCacheModel" "clock" "I", Cond.fieldLink RX5 29 "LruKPageCacheModel" "remembered" "[I", Cond.fieldLink RX5 56 "LruKPageCacheModel" "retention" "I", Cond.fieldLink RX5 50 "LruKPageCacheModel" "k" "I", Cond.fieldLink RX5 26 "LruKPageCacheModel" "times" "[I", Cond.methodLink RX5 83 yX5_time, Cond.instanceMethod yX5_time, Cond.selects RX5 yX5_time yX5_time, Cond.code yX5_time cX5_time 3 (some .int), Cond.methodLink RX5 119 yX5_load, Cond.instanceMethod yX5_load, Cond.selects RX5 yX5_load yX5_load, Cond.code yX5_load cX5_load 3 none, Cond.fieldLink RX5 46 "LruKPageCacheModel" "capacity" "I", Cond.fieldLink RX5 23 "LruKPageCacheModel" "isDirty" "[Z", Cond.fieldLink RX5 16 "LruKPageCacheModel" "pins" "[I"]
def wsX5_reference_r2 : List Cond := [Cond.fieldLink RX5 13 "LruKPageCacheModel" "value" "[I", Cond.fieldLink RX5 7 "LruKPageCacheModel" "disk" "[I", Cond.fieldLink RX5 71 "LruKPageCacheModel" "diskReads" "I", Cond.fieldLink RX5 35 "LruKPageCacheModel" "queuedValues" "[I", Cond.methodLink RX5 91 yX5_residentCount, Cond.instanceMethod yX5_residentCount, Cond.selects RX5 yX5_residentCount yX5_residentCount, Cond.code yX5_residentCount cX5_residentCount 3 (some .int), Cond.methodLink RX5 95 yX5_victim, Cond.instanceMethod yX5_victim, Cond.selects RX5 yX5_victim yX5_victim, Cond.code yX5_victim cX5_victim 3 (some .int), Cond.methodLink RX5 87 yX5_goesFirst, Cond.instanceMethod yX5_goesFirst, Cond.selects RX5 yX5_goesFirst yX5_goesFirst, Cond.code yX5_goesFirst cX5_goesFirst 4 (some .boolean), Cond.methodLink RX5 109 yX5_evict, Cond.instanceMethod yX5_evict, Cond.selects RX5 yX5_evict yX5_evict, Cond.code yX5_evict cX5_evict 2 none, Cond.fieldLink RX5 68 "LruKPageCacheModel" "evictions" "I", Cond.fieldLink RX5 80 "LruKPageCacheModel" "queueSize" "I", Cond.fieldLink RX5 53 "LruKPageCacheModel" "queueCapacity" "I", Cond.fieldLink RX5 77 "LruKPageCacheModel" "stalls" "I"]
def wsX5_reference_r3 : List Cond := [Cond.fieldLink RX5 32 "LruKPageCacheModel" "queuedPages" "[I", Cond.methodLink RX5 106 yX5_writeOldest, Cond.instanceMethod yX5_writeOldest, Cond.selects RX5 yX5_writeOldest yX5_writeOldest, Cond.code yX5_writeOldest cX5_writeOldest 1 none, Cond.methodLink RX5 98 yX5_writeToDisk, Cond.instanceMethod yX5_writeToDisk, Cond.selects RX5 yX5_writeToDisk yX5_writeToDisk, Cond.code yX5_writeToDisk cX5_writeToDisk 3 none, Cond.fieldLink RX5 74 "LruKPageCacheModel" "diskWrites" "I", Cond.methodLink RX5 102 yX5_removeEntry, Cond.instanceMethod yX5_removeEntry, Cond.selects RX5 yX5_removeEntry yX5_removeEntry, Cond.code yX5_removeEntry cX5_removeEntry 3 none, Cond.methodLink RX5 112 yX5_positionInQueue, Cond.instanceMethod yX5_positionInQueue, Cond.selects RX5 yX5_positionInQueue yX5_positionInQueue, Cond.code yX5_positionInQueue cX5_positionInQueue 3 (some .int)]
def wsX5_reference : List Cond := .code yX5_reference cX5_reference 2 none :: ((wsX5_reference_r1 ++ (wsX5_reference_r2 ++ wsX5_reference_r3)) ++ wsX50)
def wsX5_isStuck_r1 : List Cond := [Cond.fieldLink RX5 19 "LruKPageCacheModel" "isResident" "[Z", Cond.methodLink RX5 122 yX5_canLoad, Cond.instanceMethod yX5_canLoad, Cond.selects RX5 yX5_canLoad yX5_canLoad, Cond.initialized RX5, Cond.code yX5_canLoad cX5_canLoad 1 (some .boolean), Cond.fieldLink RX5 46 "LruKPageCacheModel" "capacity" "I", Cond.methodLink RX5 91 yX5_residentCount, Cond.instanceMethod yX5_residentCount, Cond.selects RX5 yX5_residentCount yX5_residentCount, Cond.code yX5_residentCount cX5_residentCount 3 (some .int), Cond.methodLink RX5 95 yX5_victim, Cond.instanceMethod yX5_victim, Cond.selects RX5 yX5_victim yX5_victim, Cond.code yX5_victim cX5_victim 3 (some .int), Cond.fieldLink RX5 16 "LruKPageCacheModel" "pins" "[I", Cond.methodLink RX5 87 yX5_goesFirst, Cond.instanceMethod yX5_goesFirst, Cond.selects RX5 yX5_goesFirst yX5_goesFirst, Cond.code yX5_goesFirst cX5_goesFirst 4 (some .boolean), Cond.fieldLink RX5 29 "LruKPageCacheModel" "remembered" "[I", Cond.fieldLink RX5 50 "LruKPageCacheModel" "k" "I", Cond.methodLink RX5 83 yX5_time, Cond.instanceMethod yX5_time]
def wsX5_isStuck_r2 : List Cond := [Cond.selects RX5 yX5_time yX5_time, Cond.code yX5_time cX5_time 3 (some .int), Cond.fieldLink RX5 26 "LruKPageCacheModel" "times" "[I"]
def wsX5_isStuck : List Cond := .code yX5_isStuck cX5_isStuck 2 (some .boolean) :: ((wsX5_isStuck_r1 ++ wsX5_isStuck_r2) ++ wsX50)
def wsX5_read_r1 : List Cond := [Cond.fieldLink RX5 13 "LruKPageCacheModel" "value" "[I", Cond.methodLink RX5 126 yX5_isPage, Cond.static yX5_isPage, Cond.initialized RX5, Cond.code yX5_isPage cX5_isPage 1 (some .boolean), Cond.methodLink RX5 42 yX5_isFrom, Cond.static yX5_isFrom, Cond.code yX5_isFrom cX5_isFrom 3 (some .boolean), Cond.methodLink RX5 130 yX5_isStuck, Cond.instanceMethod yX5_isStuck, Cond.selects RX5 yX5_isStuck yX5_isStuck, Cond.code yX5_isStuck cX5_isStuck 2 (some .boolean), Cond.fieldLink RX5 19 "LruKPageCacheModel" "isResident" "[Z", Cond.methodLink RX5 122 yX5_canLoad, Cond.instanceMethod yX5_canLoad, Cond.selects RX5 yX5_canLoad yX5_canLoad, Cond.code yX5_canLoad cX5_canLoad 1 (some .boolean), Cond.fieldLink RX5 46 "LruKPageCacheModel" "capacity" "I", Cond.methodLink RX5 91 yX5_residentCount, Cond.instanceMethod yX5_residentCount, Cond.selects RX5 yX5_residentCount yX5_residentCount, Cond.code yX5_residentCount cX5_residentCount 3 (some .int), Cond.methodLink RX5 95 yX5_victim, Cond.instanceMethod yX5_victim]
def wsX5_read_r2 : List Cond := [Cond.selects RX5 yX5_victim yX5_victim, Cond.code yX5_victim cX5_victim 3 (some .int), Cond.fieldLink RX5 16 "LruKPageCacheModel" "pins" "[I", Cond.methodLink RX5 87 yX5_goesFirst, Cond.instanceMethod yX5_goesFirst, Cond.selects RX5 yX5_goesFirst yX5_goesFirst, Cond.code yX5_goesFirst cX5_goesFirst 4 (some .boolean), Cond.fieldLink RX5 29 "LruKPageCacheModel" "remembered" "[I", Cond.fieldLink RX5 50 "LruKPageCacheModel" "k" "I", Cond.methodLink RX5 83 yX5_time, Cond.instanceMethod yX5_time, Cond.selects RX5 yX5_time yX5_time, Cond.code yX5_time cX5_time 3 (some .int), Cond.fieldLink RX5 26 "LruKPageCacheModel" "times" "[I", Cond.methodLink RX5 133 yX5_reference, Cond.instanceMethod yX5_reference, Cond.selects RX5 yX5_reference yX5_reference, Cond.code yX5_reference cX5_reference 2 none, Cond.fieldLink RX5 62 "LruKPageCacheModel" "hits" "I", Cond.fieldLink RX5 65 "LruKPageCacheModel" "misses" "I", Cond.methodLink RX5 116 yX5_record, Cond.instanceMethod yX5_record, Cond.selects RX5 yX5_record yX5_record, Cond.code yX5_record cX5_record 3 none]
def wsX5_read_r3 : List Cond := [Cond.fieldLink RX5 59 "LruKPageCacheModel" "clock" "I", Cond.fieldLink RX5 56 "LruKPageCacheModel" "retention" "I", Cond.methodLink RX5 119 yX5_load, Cond.instanceMethod yX5_load, Cond.selects RX5 yX5_load yX5_load, Cond.code yX5_load cX5_load 3 none, Cond.fieldLink RX5 23 "LruKPageCacheModel" "isDirty" "[Z", Cond.fieldLink RX5 7 "LruKPageCacheModel" "disk" "[I", Cond.fieldLink RX5 71 "LruKPageCacheModel" "diskReads" "I", Cond.fieldLink RX5 35 "LruKPageCacheModel" "queuedValues" "[I", Cond.methodLink RX5 109 yX5_evict, Cond.instanceMethod yX5_evict, Cond.selects RX5 yX5_evict yX5_evict, Cond.code yX5_evict cX5_evict 2 none, Cond.fieldLink RX5 68 "LruKPageCacheModel" "evictions" "I", Cond.fieldLink RX5 80 "LruKPageCacheModel" "queueSize" "I", Cond.fieldLink RX5 53 "LruKPageCacheModel" "queueCapacity" "I", Cond.fieldLink RX5 77 "LruKPageCacheModel" "stalls" "I", Cond.fieldLink RX5 32 "LruKPageCacheModel" "queuedPages" "[I", Cond.methodLink RX5 106 yX5_writeOldest, Cond.instanceMethod yX5_writeOldest, Cond.selects RX5 yX5_writeOldest yX5_writeOldest, Cond.code yX5_writeOldest cX5_writeOldest 1 none, Cond.methodLink RX5 98 yX5_writeToDisk]
def wsX5_read_r4 : List Cond := [Cond.instanceMethod yX5_writeToDisk, Cond.selects RX5 yX5_writeToDisk yX5_writeToDisk, Cond.code yX5_writeToDisk cX5_writeToDisk 3 none, Cond.fieldLink RX5 74 "LruKPageCacheModel" "diskWrites" "I", Cond.methodLink RX5 102 yX5_removeEntry, Cond.instanceMethod yX5_removeEntry, Cond.selects RX5 yX5_removeEntry yX5_removeEntry, Cond.code yX5_removeEntry cX5_removeEntry 3 none, Cond.methodLink RX5 112 yX5_positionInQueue, Cond.instanceMethod yX5_positionInQueue, Cond.selects RX5 yX5_positionInQueue yX5_positionInQueue, Cond.code yX5_positionInQueue cX5_positionInQueue 3 (some .int)]
def wsX5_read : List Cond := .code yX5_read cX5_read 2 (some .int) :: ((wsX5_read_r1 ++ (wsX5_read_r2 ++ (wsX5_read_r3 ++ wsX5_read_r4))) ++ wsX50)
def wsX5_write_r1 : List Cond := [Cond.fieldLink RX5 13 "LruKPageCacheModel" "value" "[I", Cond.fieldLink RX5 23 "LruKPageCacheModel" "isDirty" "[Z", Cond.methodLink RX5 126 yX5_isPage, Cond.static yX5_isPage, Cond.initialized RX5, Cond.code yX5_isPage cX5_isPage 1 (some .boolean), Cond.methodLink RX5 42 yX5_isFrom, Cond.static yX5_isFrom, Cond.code yX5_isFrom cX5_isFrom 3 (some .boolean), Cond.methodLink RX5 130 yX5_isStuck, Cond.instanceMethod yX5_isStuck, Cond.selects RX5 yX5_isStuck yX5_isStuck, Cond.code yX5_isStuck cX5_isStuck 2 (some .boolean), Cond.fieldLink RX5 19 "LruKPageCacheModel" "isResident" "[Z", Cond.methodLink RX5 122 yX5_canLoad, Cond.instanceMethod yX5_canLoad, Cond.selects RX5 yX5_canLoad yX5_canLoad, Cond.code yX5_canLoad cX5_canLoad 1 (some .boolean), Cond.fieldLink RX5 46 "LruKPageCacheModel" "capacity" "I", Cond.methodLink RX5 91 yX5_residentCount, Cond.instanceMethod yX5_residentCount, Cond.selects RX5 yX5_residentCount yX5_residentCount, Cond.code yX5_residentCount cX5_residentCount 3 (some .int), Cond.methodLink RX5 95 yX5_victim]
def wsX5_write_r2 : List Cond := [Cond.instanceMethod yX5_victim, Cond.selects RX5 yX5_victim yX5_victim, Cond.code yX5_victim cX5_victim 3 (some .int), Cond.fieldLink RX5 16 "LruKPageCacheModel" "pins" "[I", Cond.methodLink RX5 87 yX5_goesFirst, Cond.instanceMethod yX5_goesFirst, Cond.selects RX5 yX5_goesFirst yX5_goesFirst, Cond.code yX5_goesFirst cX5_goesFirst 4 (some .boolean), Cond.fieldLink RX5 29 "LruKPageCacheModel" "remembered" "[I", Cond.fieldLink RX5 50 "LruKPageCacheModel" "k" "I", Cond.methodLink RX5 83 yX5_time, Cond.instanceMethod yX5_time, Cond.selects RX5 yX5_time yX5_time, Cond.code yX5_time cX5_time 3 (some .int), Cond.fieldLink RX5 26 "LruKPageCacheModel" "times" "[I", Cond.methodLink RX5 133 yX5_reference, Cond.instanceMethod yX5_reference, Cond.selects RX5 yX5_reference yX5_reference, Cond.code yX5_reference cX5_reference 2 none, Cond.fieldLink RX5 62 "LruKPageCacheModel" "hits" "I", Cond.fieldLink RX5 65 "LruKPageCacheModel" "misses" "I", Cond.methodLink RX5 116 yX5_record, Cond.instanceMethod yX5_record, Cond.selects RX5 yX5_record yX5_record]
def wsX5_write_r3 : List Cond := [Cond.code yX5_record cX5_record 3 none, Cond.fieldLink RX5 59 "LruKPageCacheModel" "clock" "I", Cond.fieldLink RX5 56 "LruKPageCacheModel" "retention" "I", Cond.methodLink RX5 119 yX5_load, Cond.instanceMethod yX5_load, Cond.selects RX5 yX5_load yX5_load, Cond.code yX5_load cX5_load 3 none, Cond.fieldLink RX5 7 "LruKPageCacheModel" "disk" "[I", Cond.fieldLink RX5 71 "LruKPageCacheModel" "diskReads" "I", Cond.fieldLink RX5 35 "LruKPageCacheModel" "queuedValues" "[I", Cond.methodLink RX5 109 yX5_evict, Cond.instanceMethod yX5_evict, Cond.selects RX5 yX5_evict yX5_evict, Cond.code yX5_evict cX5_evict 2 none, Cond.fieldLink RX5 68 "LruKPageCacheModel" "evictions" "I", Cond.fieldLink RX5 80 "LruKPageCacheModel" "queueSize" "I", Cond.fieldLink RX5 53 "LruKPageCacheModel" "queueCapacity" "I", Cond.fieldLink RX5 77 "LruKPageCacheModel" "stalls" "I", Cond.fieldLink RX5 32 "LruKPageCacheModel" "queuedPages" "[I", Cond.methodLink RX5 106 yX5_writeOldest, Cond.instanceMethod yX5_writeOldest, Cond.selects RX5 yX5_writeOldest yX5_writeOldest, Cond.code yX5_writeOldest cX5_writeOldest 1 none, Cond.methodLink RX5 98 yX5_writeToDisk]
def wsX5_write_r4 : List Cond := [Cond.instanceMethod yX5_writeToDisk, Cond.selects RX5 yX5_writeToDisk yX5_writeToDisk, Cond.code yX5_writeToDisk cX5_writeToDisk 3 none, Cond.fieldLink RX5 74 "LruKPageCacheModel" "diskWrites" "I", Cond.methodLink RX5 102 yX5_removeEntry, Cond.instanceMethod yX5_removeEntry, Cond.selects RX5 yX5_removeEntry yX5_removeEntry, Cond.code yX5_removeEntry cX5_removeEntry 3 none, Cond.methodLink RX5 112 yX5_positionInQueue, Cond.instanceMethod yX5_positionInQueue, Cond.selects RX5 yX5_positionInQueue yX5_positionInQueue, Cond.code yX5_positionInQueue cX5_positionInQueue 3 (some .int)]
def wsX5_write : List Cond := .code yX5_write cX5_write 4 (some .int) :: ((wsX5_write_r1 ++ (wsX5_write_r2 ++ (wsX5_write_r3 ++ wsX5_write_r4))) ++ wsX50)
def wsX5_pin_r1 : List Cond := [Cond.fieldLink RX5 19 "LruKPageCacheModel" "isResident" "[Z", Cond.fieldLink RX5 16 "LruKPageCacheModel" "pins" "[I", Cond.methodLink RX5 126 yX5_isPage, Cond.static yX5_isPage, Cond.initialized RX5, Cond.code yX5_isPage cX5_isPage 1 (some .boolean), Cond.methodLink RX5 42 yX5_isFrom, Cond.static yX5_isFrom, Cond.code yX5_isFrom cX5_isFrom 3 (some .boolean), Cond.methodLink RX5 130 yX5_isStuck, Cond.instanceMethod yX5_isStuck, Cond.selects RX5 yX5_isStuck yX5_isStuck, Cond.code yX5_isStuck cX5_isStuck 2 (some .boolean), Cond.methodLink RX5 122 yX5_canLoad, Cond.instanceMethod yX5_canLoad, Cond.selects RX5 yX5_canLoad yX5_canLoad, Cond.code yX5_canLoad cX5_canLoad 1 (some .boolean), Cond.fieldLink RX5 46 "LruKPageCacheModel" "capacity" "I", Cond.methodLink RX5 91 yX5_residentCount, Cond.instanceMethod yX5_residentCount, Cond.selects RX5 yX5_residentCount yX5_residentCount, Cond.code yX5_residentCount cX5_residentCount 3 (some .int), Cond.methodLink RX5 95 yX5_victim, Cond.instanceMethod yX5_victim]
def wsX5_pin_r2 : List Cond := [Cond.selects RX5 yX5_victim yX5_victim, Cond.code yX5_victim cX5_victim 3 (some .int), Cond.methodLink RX5 87 yX5_goesFirst, Cond.instanceMethod yX5_goesFirst, Cond.selects RX5 yX5_goesFirst yX5_goesFirst, Cond.code yX5_goesFirst cX5_goesFirst 4 (some .boolean), Cond.fieldLink RX5 29 "LruKPageCacheModel" "remembered" "[I", Cond.fieldLink RX5 50 "LruKPageCacheModel" "k" "I", Cond.methodLink RX5 83 yX5_time, Cond.instanceMethod yX5_time, Cond.selects RX5 yX5_time yX5_time, Cond.code yX5_time cX5_time 3 (some .int), Cond.fieldLink RX5 26 "LruKPageCacheModel" "times" "[I", Cond.methodLink RX5 133 yX5_reference, Cond.instanceMethod yX5_reference, Cond.selects RX5 yX5_reference yX5_reference, Cond.code yX5_reference cX5_reference 2 none, Cond.fieldLink RX5 62 "LruKPageCacheModel" "hits" "I", Cond.fieldLink RX5 65 "LruKPageCacheModel" "misses" "I", Cond.methodLink RX5 116 yX5_record, Cond.instanceMethod yX5_record, Cond.selects RX5 yX5_record yX5_record, Cond.code yX5_record cX5_record 3 none, Cond.fieldLink RX5 59 "LruKPageCacheModel" "clock" "I"]
def wsX5_pin_r3 : List Cond := [Cond.fieldLink RX5 56 "LruKPageCacheModel" "retention" "I", Cond.methodLink RX5 119 yX5_load, Cond.instanceMethod yX5_load, Cond.selects RX5 yX5_load yX5_load, Cond.code yX5_load cX5_load 3 none, Cond.fieldLink RX5 23 "LruKPageCacheModel" "isDirty" "[Z", Cond.fieldLink RX5 13 "LruKPageCacheModel" "value" "[I", Cond.fieldLink RX5 7 "LruKPageCacheModel" "disk" "[I", Cond.fieldLink RX5 71 "LruKPageCacheModel" "diskReads" "I", Cond.fieldLink RX5 35 "LruKPageCacheModel" "queuedValues" "[I", Cond.methodLink RX5 109 yX5_evict, Cond.instanceMethod yX5_evict, Cond.selects RX5 yX5_evict yX5_evict, Cond.code yX5_evict cX5_evict 2 none, Cond.fieldLink RX5 68 "LruKPageCacheModel" "evictions" "I", Cond.fieldLink RX5 80 "LruKPageCacheModel" "queueSize" "I", Cond.fieldLink RX5 53 "LruKPageCacheModel" "queueCapacity" "I", Cond.fieldLink RX5 77 "LruKPageCacheModel" "stalls" "I", Cond.fieldLink RX5 32 "LruKPageCacheModel" "queuedPages" "[I", Cond.methodLink RX5 106 yX5_writeOldest, Cond.instanceMethod yX5_writeOldest, Cond.selects RX5 yX5_writeOldest yX5_writeOldest, Cond.code yX5_writeOldest cX5_writeOldest 1 none, Cond.methodLink RX5 98 yX5_writeToDisk]
def wsX5_pin_r4 : List Cond := [Cond.instanceMethod yX5_writeToDisk, Cond.selects RX5 yX5_writeToDisk yX5_writeToDisk, Cond.code yX5_writeToDisk cX5_writeToDisk 3 none, Cond.fieldLink RX5 74 "LruKPageCacheModel" "diskWrites" "I", Cond.methodLink RX5 102 yX5_removeEntry, Cond.instanceMethod yX5_removeEntry, Cond.selects RX5 yX5_removeEntry yX5_removeEntry, Cond.code yX5_removeEntry cX5_removeEntry 3 none, Cond.methodLink RX5 112 yX5_positionInQueue, Cond.instanceMethod yX5_positionInQueue, Cond.selects RX5 yX5_positionInQueue yX5_positionInQueue, Cond.code yX5_positionInQueue cX5_positionInQueue 3 (some .int)]
def wsX5_pin : List Cond := .code yX5_pin cX5_pin 2 (some .int) :: ((wsX5_pin_r1 ++ (wsX5_pin_r2 ++ (wsX5_pin_r3 ++ wsX5_pin_r4))) ++ wsX50)
def wsX5_unpin : List Cond := .code yX5_unpin cX5_unpin 2 (some .int) :: ([.fieldLink RX5 19 "LruKPageCacheModel" "isResident" "[Z", .fieldLink RX5 16 "LruKPageCacheModel" "pins" "[I", .methodLink RX5 126 yX5_isPage, .static yX5_isPage, .initialized RX5, .code yX5_isPage cX5_isPage 1 (some .boolean), .methodLink RX5 42 yX5_isFrom, .static yX5_isFrom, .code yX5_isFrom cX5_isFrom 3 (some .boolean)] ++ wsX50)
def wsX5_writeResident : List Cond := .code yX5_writeResident cX5_writeResident 2 (some .boolean) :: ([.fieldLink RX5 19 "LruKPageCacheModel" "isResident" "[Z", .fieldLink RX5 23 "LruKPageCacheModel" "isDirty" "[Z", .fieldLink RX5 13 "LruKPageCacheModel" "value" "[I", .methodLink RX5 98 yX5_writeToDisk, .instanceMethod yX5_writeToDisk, .selects RX5 yX5_writeToDisk yX5_writeToDisk, .initialized RX5, .code yX5_writeToDisk cX5_writeToDisk 3 none, .fieldLink RX5 7 "LruKPageCacheModel" "disk" "[I", .fieldLink RX5 74 "LruKPageCacheModel" "diskWrites" "I"] ++ wsX50)
def wsX5_flush_r1 : List Cond := [Cond.fieldLink RX5 35 "LruKPageCacheModel" "queuedValues" "[I", Cond.methodLink RX5 126 yX5_isPage, Cond.static yX5_isPage, Cond.initialized RX5, Cond.code yX5_isPage cX5_isPage 1 (some .boolean), Cond.methodLink RX5 42 yX5_isFrom, Cond.static yX5_isFrom, Cond.code yX5_isFrom cX5_isFrom 3 (some .boolean), Cond.methodLink RX5 136 yX5_writeResident, Cond.instanceMethod yX5_writeResident, Cond.selects RX5 yX5_writeResident yX5_writeResident, Cond.code yX5_writeResident cX5_writeResident 2 (some .boolean), Cond.fieldLink RX5 19 "LruKPageCacheModel" "isResident" "[Z", Cond.fieldLink RX5 23 "LruKPageCacheModel" "isDirty" "[Z", Cond.fieldLink RX5 13 "LruKPageCacheModel" "value" "[I", Cond.methodLink RX5 98 yX5_writeToDisk, Cond.instanceMethod yX5_writeToDisk, Cond.selects RX5 yX5_writeToDisk yX5_writeToDisk, Cond.code yX5_writeToDisk cX5_writeToDisk 3 none, Cond.fieldLink RX5 7 "LruKPageCacheModel" "disk" "[I", Cond.fieldLink RX5 74 "LruKPageCacheModel" "diskWrites" "I", Cond.methodLink RX5 112 yX5_positionInQueue, Cond.instanceMethod yX5_positionInQueue, Cond.selects RX5 yX5_positionInQueue yX5_positionInQueue]
def wsX5_flush_r2 : List Cond := [Cond.code yX5_positionInQueue cX5_positionInQueue 3 (some .int), Cond.fieldLink RX5 80 "LruKPageCacheModel" "queueSize" "I", Cond.fieldLink RX5 32 "LruKPageCacheModel" "queuedPages" "[I", Cond.methodLink RX5 102 yX5_removeEntry, Cond.instanceMethod yX5_removeEntry, Cond.selects RX5 yX5_removeEntry yX5_removeEntry, Cond.code yX5_removeEntry cX5_removeEntry 3 none]
def wsX5_flush : List Cond := .code yX5_flush cX5_flush 3 (some .int) :: ((wsX5_flush_r1 ++ wsX5_flush_r2) ++ wsX50)
def wsX5_flushAll_r1 : List Cond := [Cond.fieldLink RX5 74 "LruKPageCacheModel" "diskWrites" "I", Cond.fieldLink RX5 80 "LruKPageCacheModel" "queueSize" "I", Cond.methodLink RX5 106 yX5_writeOldest, Cond.instanceMethod yX5_writeOldest, Cond.selects RX5 yX5_writeOldest yX5_writeOldest, Cond.initialized RX5, Cond.code yX5_writeOldest cX5_writeOldest 1 none, Cond.fieldLink RX5 32 "LruKPageCacheModel" "queuedPages" "[I", Cond.fieldLink RX5 35 "LruKPageCacheModel" "queuedValues" "[I", Cond.methodLink RX5 98 yX5_writeToDisk, Cond.instanceMethod yX5_writeToDisk, Cond.selects RX5 yX5_writeToDisk yX5_writeToDisk, Cond.code yX5_writeToDisk cX5_writeToDisk 3 none, Cond.fieldLink RX5 7 "LruKPageCacheModel" "disk" "[I", Cond.methodLink RX5 102 yX5_removeEntry, Cond.instanceMethod yX5_removeEntry, Cond.selects RX5 yX5_removeEntry yX5_removeEntry, Cond.code yX5_removeEntry cX5_removeEntry 3 none, Cond.methodLink RX5 136 yX5_writeResident, Cond.instanceMethod yX5_writeResident, Cond.selects RX5 yX5_writeResident yX5_writeResident, Cond.code yX5_writeResident cX5_writeResident 2 (some .boolean), Cond.fieldLink RX5 19 "LruKPageCacheModel" "isResident" "[Z", Cond.fieldLink RX5 23 "LruKPageCacheModel" "isDirty" "[Z"]
def wsX5_flushAll_r2 : List Cond := [Cond.fieldLink RX5 13 "LruKPageCacheModel" "value" "[I"]
def wsX5_flushAll : List Cond := .code yX5_flushAll cX5_flushAll 4 (some .int) :: ((wsX5_flushAll_r1 ++ wsX5_flushAll_r2) ++ wsX50)
def wsX5_drain : List Cond := .code yX5_drain cX5_drain 3 (some .int) :: ([.fieldLink RX5 74 "LruKPageCacheModel" "diskWrites" "I", .fieldLink RX5 80 "LruKPageCacheModel" "queueSize" "I", .methodLink RX5 42 yX5_isFrom, .static yX5_isFrom, .initialized RX5, .code yX5_isFrom cX5_isFrom 3 (some .boolean), .methodLink RX5 106 yX5_writeOldest, .instanceMethod yX5_writeOldest, .selects RX5 yX5_writeOldest yX5_writeOldest, .code yX5_writeOldest cX5_writeOldest 1 none, .fieldLink RX5 32 "LruKPageCacheModel" "queuedPages" "[I", .fieldLink RX5 35 "LruKPageCacheModel" "queuedValues" "[I", .methodLink RX5 98 yX5_writeToDisk, .instanceMethod yX5_writeToDisk, .selects RX5 yX5_writeToDisk yX5_writeToDisk, .code yX5_writeToDisk cX5_writeToDisk 3 none, .fieldLink RX5 7 "LruKPageCacheModel" "disk" "[I", .methodLink RX5 102 yX5_removeEntry, .instanceMethod yX5_removeEntry, .selects RX5 yX5_removeEntry yX5_removeEntry, .code yX5_removeEntry cX5_removeEntry 3 none] ++ wsX50)
def wsX5_discard : List Cond := .code yX5_discard cX5_discard 4 (some .int) :: ([.fieldLink RX5 19 "LruKPageCacheModel" "isResident" "[Z", .fieldLink RX5 16 "LruKPageCacheModel" "pins" "[I", .fieldLink RX5 29 "LruKPageCacheModel" "remembered" "[I", .methodLink RX5 126 yX5_isPage, .static yX5_isPage, .initialized RX5, .code yX5_isPage cX5_isPage 1 (some .boolean), .methodLink RX5 42 yX5_isFrom, .static yX5_isFrom, .code yX5_isFrom cX5_isFrom 3 (some .boolean), .methodLink RX5 112 yX5_positionInQueue, .instanceMethod yX5_positionInQueue, .selects RX5 yX5_positionInQueue yX5_positionInQueue, .code yX5_positionInQueue cX5_positionInQueue 3 (some .int), .fieldLink RX5 80 "LruKPageCacheModel" "queueSize" "I", .fieldLink RX5 32 "LruKPageCacheModel" "queuedPages" "[I", .methodLink RX5 102 yX5_removeEntry, .instanceMethod yX5_removeEntry, .selects RX5 yX5_removeEntry yX5_removeEntry, .code yX5_removeEntry cX5_removeEntry 3 none, .fieldLink RX5 35 "LruKPageCacheModel" "queuedValues" "[I"] ++ wsX50)
def wsX5_isResident : List Cond := .code yX5_isResident cX5_isResident 2 (some .int) :: ([.fieldLink RX5 19 "LruKPageCacheModel" "isResident" "[Z", .methodLink RX5 126 yX5_isPage, .static yX5_isPage, .initialized RX5, .code yX5_isPage cX5_isPage 1 (some .boolean), .methodLink RX5 42 yX5_isFrom, .static yX5_isFrom, .code yX5_isFrom cX5_isFrom 3 (some .boolean)] ++ wsX50)
def wsX5_isDirty : List Cond := .code yX5_isDirty cX5_isDirty 2 (some .int) :: ([.fieldLink RX5 19 "LruKPageCacheModel" "isResident" "[Z", .fieldLink RX5 23 "LruKPageCacheModel" "isDirty" "[Z", .methodLink RX5 126 yX5_isPage, .static yX5_isPage, .initialized RX5, .code yX5_isPage cX5_isPage 1 (some .boolean), .methodLink RX5 42 yX5_isFrom, .static yX5_isFrom, .code yX5_isFrom cX5_isFrom 3 (some .boolean)] ++ wsX50)
def wsX5_pinCount : List Cond := .code yX5_pinCount cX5_pinCount 2 (some .int) :: ([.fieldLink RX5 19 "LruKPageCacheModel" "isResident" "[Z", .fieldLink RX5 16 "LruKPageCacheModel" "pins" "[I", .methodLink RX5 126 yX5_isPage, .static yX5_isPage, .initialized RX5, .code yX5_isPage cX5_isPage 1 (some .boolean), .methodLink RX5 42 yX5_isFrom, .static yX5_isFrom, .code yX5_isFrom cX5_isFrom 3 (some .boolean)] ++ wsX50)
def wsX5_referenceTime : List Cond := .code yX5_referenceTime cX5_referenceTime 3 (some .int) :: ([.fieldLink RX5 50 "LruKPageCacheModel" "k" "I", .fieldLink RX5 29 "LruKPageCacheModel" "remembered" "[I", .methodLink RX5 126 yX5_isPage, .static yX5_isPage, .initialized RX5, .code yX5_isPage cX5_isPage 1 (some .boolean), .methodLink RX5 42 yX5_isFrom, .static yX5_isFrom, .code yX5_isFrom cX5_isFrom 3 (some .boolean), .methodLink RX5 83 yX5_time, .instanceMethod yX5_time, .selects RX5 yX5_time yX5_time, .code yX5_time cX5_time 3 (some .int), .fieldLink RX5 26 "LruKPageCacheModel" "times" "[I"] ++ wsX50)
def wsX5_backwardKDistance : List Cond := .code yX5_backwardKDistance cX5_backwardKDistance 2 (some .int) :: ([.fieldLink RX5 29 "LruKPageCacheModel" "remembered" "[I", .fieldLink RX5 50 "LruKPageCacheModel" "k" "I", .fieldLink RX5 59 "LruKPageCacheModel" "clock" "I", .methodLink RX5 126 yX5_isPage, .static yX5_isPage, .initialized RX5, .code yX5_isPage cX5_isPage 1 (some .boolean), .methodLink RX5 42 yX5_isFrom, .static yX5_isFrom, .code yX5_isFrom cX5_isFrom 3 (some .boolean), .methodLink RX5 83 yX5_time, .instanceMethod yX5_time, .selects RX5 yX5_time yX5_time, .code yX5_time cX5_time 3 (some .int), .fieldLink RX5 26 "LruKPageCacheModel" "times" "[I"] ++ wsX50)
def wsX5_diskValue : List Cond := .code yX5_diskValue cX5_diskValue 2 (some .int) :: ([.fieldLink RX5 7 "LruKPageCacheModel" "disk" "[I", .methodLink RX5 126 yX5_isPage, .static yX5_isPage, .initialized RX5, .code yX5_isPage cX5_isPage 1 (some .boolean), .methodLink RX5 42 yX5_isFrom, .static yX5_isFrom, .code yX5_isFrom cX5_isFrom 3 (some .boolean)] ++ wsX50)
def wsX5_residentPage : List Cond := .code yX5_residentPage cX5_residentPage 4 (some .int) :: ([.fieldLink RX5 19 "LruKPageCacheModel" "isResident" "[Z"] ++ wsX50)
def wsX5_isInQueue : List Cond := .code yX5_isInQueue cX5_isInQueue 2 (some .boolean) :: ([.fieldLink RX5 80 "LruKPageCacheModel" "queueSize" "I", .methodLink RX5 42 yX5_isFrom, .static yX5_isFrom, .initialized RX5, .code yX5_isFrom cX5_isFrom 3 (some .boolean)] ++ wsX50)
def wsX5_queueSize : List Cond := .code yX5_queueSize cX5_queueSize 1 (some .int) :: ([.fieldLink RX5 80 "LruKPageCacheModel" "queueSize" "I"] ++ wsX50)
def wsX5_queuedPage : List Cond := .code yX5_queuedPage cX5_queuedPage 2 (some .int) :: ([.fieldLink RX5 32 "LruKPageCacheModel" "queuedPages" "[I", .methodLink RX5 139 yX5_isInQueue, .instanceMethod yX5_isInQueue, .selects RX5 yX5_isInQueue yX5_isInQueue, .initialized RX5, .code yX5_isInQueue cX5_isInQueue 2 (some .boolean), .fieldLink RX5 80 "LruKPageCacheModel" "queueSize" "I", .methodLink RX5 42 yX5_isFrom, .static yX5_isFrom, .code yX5_isFrom cX5_isFrom 3 (some .boolean)] ++ wsX50)
def wsX5_queuedValue : List Cond := .code yX5_queuedValue cX5_queuedValue 2 (some .int) :: ([.fieldLink RX5 35 "LruKPageCacheModel" "queuedValues" "[I", .methodLink RX5 139 yX5_isInQueue, .instanceMethod yX5_isInQueue, .selects RX5 yX5_isInQueue yX5_isInQueue, .initialized RX5, .code yX5_isInQueue cX5_isInQueue 2 (some .boolean), .fieldLink RX5 80 "LruKPageCacheModel" "queueSize" "I", .methodLink RX5 42 yX5_isFrom, .static yX5_isFrom, .code yX5_isFrom cX5_isFrom 3 (some .boolean)] ++ wsX50)
def wsX5_clock : List Cond := .code yX5_clock cX5_clock 1 (some .int) :: ([.fieldLink RX5 59 "LruKPageCacheModel" "clock" "I"] ++ wsX50)
def wsX5_hits : List Cond := .code yX5_hits cX5_hits 1 (some .int) :: ([.fieldLink RX5 62 "LruKPageCacheModel" "hits" "I"] ++ wsX50)
def wsX5_misses : List Cond := .code yX5_misses cX5_misses 1 (some .int) :: ([.fieldLink RX5 65 "LruKPageCacheModel" "misses" "I"] ++ wsX50)
def wsX5_evictions : List Cond := .code yX5_evictions cX5_evictions 1 (some .int) :: ([.fieldLink RX5 68 "LruKPageCacheModel" "evictions" "I"] ++ wsX50)
def wsX5_diskReads : List Cond := .code yX5_diskReads cX5_diskReads 1 (some .int) :: ([.fieldLink RX5 71 "LruKPageCacheModel" "diskReads" "I"] ++ wsX50)
def wsX5_diskWrites : List Cond := .code yX5_diskWrites cX5_diskWrites 1 (some .int) :: ([.fieldLink RX5 74 "LruKPageCacheModel" "diskWrites" "I"] ++ wsX50)
def wsX5_stalls : List Cond := .code yX5_stalls cX5_stalls 1 (some .int) :: ([.fieldLink RX5 77 "LruKPageCacheModel" "stalls" "I"] ++ wsX50)
def wsJ9_min_7cf53 : List Cond := .code yJ9_min_7cf53 cJ9_min_7cf53 2 (some .int) :: ([])
def wsL_law_r1 : List Cond := [Cond.classLink RL 7 RX4, Cond.instantiable RX4 10, Cond.initialized RX4, Cond.classLink RL 10 RX5, Cond.instantiable RX5 21, Cond.initialized RX5, Cond.methodLink RL 9 yX4_init, Cond.instanceMethod yX4_init, Cond.code yX4_init cX4_init 1 none, Cond.methodLink RX4 1 objectInit, Cond.instanceMethod objectInit, Cond.code objectInit ⟨#[0xb1]⟩ 1 none, Cond.classLink RX4 7 RX0, Cond.instantiable RX0 3, Cond.initialized RX0, Cond.fieldLink RX4 10 "LruKPageCache" "disk" "LLruKPageCache$Disk;", Cond.classLink RX4 16 RX1, Cond.instantiable RX1 6, Cond.initialized RX1, Cond.fieldLink RX4 19 "LruKPageCache" "frames" "LLruKPageCache$Frames;", Cond.classLink RX4 23 RX3, Cond.instantiable RX3 4, Cond.initialized RX3, Cond.fieldLink RX4 26 "LruKPageCache" "queue" "LLruKPageCache$WriteBackQueue;"]
def wsL_law_r2 : List Cond := [Cond.classLink RX4 30 RX2, Cond.instantiable RX2 3, Cond.initialized RX2, Cond.fieldLink RX4 33 "LruKPageCache" "histories" "LLruKPageCache$Histories;", Cond.methodLink RX4 9 yX0_init, Cond.instanceMethod yX0_init, Cond.code yX0_init cX0_init 1 none, Cond.methodLink RX0 3 objectInit, Cond.arrayClass .int, Cond.fieldLink RX0 9 "LruKPageCache$Disk" "values" "[I", Cond.methodLink RX4 18 yX1_init, Cond.instanceMethod yX1_init, Cond.code yX1_init cX1_init 1 none, Cond.methodLink RX1 3 objectInit, Cond.arrayClass .boolean, Cond.fieldLink RX1 9 "LruKPageCache$Frames" "resident" "[Z", Cond.fieldLink RX1 15 "LruKPageCache$Frames" "changed" "[Z", Cond.fieldLink RX1 18 "LruKPageCache$Frames" "values" "[I", Cond.fieldLink RX1 22 "LruKPageCache$Frames" "pins" "[I", Cond.methodLink RX4 25 yX3_init, Cond.instanceMethod yX3_init, Cond.code yX3_init cX3_init 1 none, Cond.methodLink RX3 3 objectInit, Cond.fieldLink RX3 9 "LruKPageCache$WriteBackQueue" "pages" "[I"]
def wsL_law_r3 : List Cond := [Cond.fieldLink RX3 15 "LruKPageCache$WriteBackQueue" "values" "[I", Cond.methodLink RX4 32 yX2_init, Cond.instanceMethod yX2_init, Cond.code yX2_init cX2_init 1 none, Cond.methodLink RX2 3 objectInit, Cond.fieldLink RX2 9 "LruKPageCache$Histories" "times" "[I", Cond.fieldLink RX2 15 "LruKPageCache$Histories" "lengths" "[I", Cond.methodLink RX4 37 yX4_startAnew, Cond.instanceMethod yX4_startAnew, Cond.selects RX4 yX4_startAnew yX4_startAnew, Cond.code yX4_startAnew cX4_startAnew 5 none, Cond.fieldLink RX4 157 "LruKPageCache" "retentionPeriod" "I", Cond.fieldLink RX4 111 "LruKPageCache" "now" "I", Cond.fieldLink RX4 129 "LruKPageCache" "hitTotal" "I", Cond.fieldLink RX4 132 "LruKPageCache" "missTotal" "I", Cond.fieldLink RX4 135 "LruKPageCache" "evictionTotal" "I", Cond.fieldLink RX4 144 "LruKPageCache" "stallTotal" "I", Cond.methodLink RX4 147 yX0_erase, Cond.instanceMethod yX0_erase, Cond.selects RX0 yX0_erase yX0_erase, Cond.code yX0_erase cX0_erase 1 none, Cond.fieldLink RX0 21 "LruKPageCache$Disk" "loadTotal" "I", Cond.fieldLink RX0 25 "LruKPageCache$Disk" "storeTotal" "I", Cond.methodLink RX0 15 yJ7_fill_53178]
def wsL_law_r4 : List Cond := [Cond.static yJ7_fill_53178, Cond.initialized RJ7, Cond.code yJ7_fill_53178 cJ7_fill_53178 4 none, Cond.methodLink RX4 150 yX1_empty, Cond.instanceMethod yX1_empty, Cond.selects RX1 yX1_empty yX1_empty, Cond.code yX1_empty cX1_empty 3 none, Cond.fieldLink RX1 29 "LruKPageCache$Frames" "usedFrames" "I", Cond.fieldLink RX1 33 "LruKPageCache$Frames" "capacity" "I", Cond.methodLink RX1 25 yX1_vacate, Cond.instanceMethod yX1_vacate, Cond.selects RX1 yX1_vacate yX1_vacate, Cond.code yX1_vacate cX1_vacate 2 none, Cond.methodLink RX4 153 yX3_empty, Cond.instanceMethod yX3_empty, Cond.selects RX3 yX3_empty yX3_empty, Cond.code yX3_empty cX3_empty 2 none, Cond.fieldLink RX3 18 "LruKPageCache$WriteBackQueue" "size" "I", Cond.fieldLink RX3 22 "LruKPageCache$WriteBackQueue" "capacity" "I", Cond.methodLink RX4 154 yX2_forgetAll, Cond.instanceMethod yX2_forgetAll, Cond.selects RX2 yX2_forgetAll yX2_forgetAll, Cond.code yX2_forgetAll cX2_forgetAll 2 none, Cond.fieldLink RX2 24 "LruKPageCache$Histories" "k" "I"]
def wsL_law_r5 : List Cond := [Cond.methodLink RX2 18 yJ7_fill_53178, Cond.methodLink RL 12 yX5_init, Cond.instanceMethod yX5_init, Cond.code yX5_init cX5_init 2 none, Cond.methodLink RX5 1 objectInit, Cond.fieldLink RX5 7 "LruKPageCacheModel" "disk" "[I", Cond.fieldLink RX5 13 "LruKPageCacheModel" "value" "[I", Cond.fieldLink RX5 16 "LruKPageCacheModel" "pins" "[I", Cond.fieldLink RX5 19 "LruKPageCacheModel" "isResident" "[Z", Cond.fieldLink RX5 23 "LruKPageCacheModel" "isDirty" "[Z", Cond.fieldLink RX5 26 "LruKPageCacheModel" "times" "[I", Cond.fieldLink RX5 29 "LruKPageCacheModel" "remembered" "[I", Cond.fieldLink RX5 32 "LruKPageCacheModel" "queuedPages" "[I", Cond.fieldLink RX5 35 "LruKPageCacheModel" "queuedValues" "[I", Cond.methodLink RX5 38 yX5_reset, Cond.instanceMethod yX5_reset, Cond.selects RX5 yX5_reset yX5_reset, Cond.code yX5_reset cX5_reset 6 (some .int), Cond.fieldLink RX5 46 "LruKPageCacheModel" "capacity" "I", Cond.fieldLink RX5 50 "LruKPageCacheModel" "k" "I", Cond.fieldLink RX5 53 "LruKPageCacheModel" "queueCapacity" "I", Cond.fieldLink RX5 56 "LruKPageCacheModel" "retention" "I", Cond.fieldLink RX5 59 "LruKPageCacheModel" "clock" "I", Cond.fieldLink RX5 62 "LruKPageCacheModel" "hits" "I"]
def wsL_law_r6 : List Cond := [Cond.fieldLink RX5 65 "LruKPageCacheModel" "misses" "I", Cond.fieldLink RX5 68 "LruKPageCacheModel" "evictions" "I", Cond.fieldLink RX5 71 "LruKPageCacheModel" "diskReads" "I", Cond.fieldLink RX5 74 "LruKPageCacheModel" "diskWrites" "I", Cond.fieldLink RX5 77 "LruKPageCacheModel" "stalls" "I", Cond.fieldLink RX5 80 "LruKPageCacheModel" "queueSize" "I", Cond.methodLink RX5 42 yX5_isFrom, Cond.static yX5_isFrom, Cond.code yX5_isFrom cX5_isFrom 3 (some .boolean), Cond.methodLink RL 13 yX4_reset, Cond.instanceMethod yX4_reset, Cond.selects RX4 yX4_reset yX4_reset, Cond.code yX4_reset cX4_reset 5 (some .int), Cond.methodLink RX4 41 yX4_isWithin, Cond.static yX4_isWithin, Cond.code yX4_isWithin cX4_isWithin 3 (some .boolean), Cond.methodLink RL 17 yX5_reset, Cond.methodLink RL 18 yX4_read, Cond.instanceMethod yX4_read, Cond.selects RX4 yX4_read yX4_read, Cond.code yX4_read cX4_read 2 (some .int), Cond.methodLink RX4 45 yX4_isPage, Cond.static yX4_isPage, Cond.code yX4_isPage cX4_isPage 1 (some .boolean)]
def wsL_law_r7 : List Cond := [Cond.methodLink RX4 49 yX4_canReference, Cond.instanceMethod yX4_canReference, Cond.selects RX4 yX4_canReference yX4_canReference, Cond.code yX4_canReference cX4_canReference 2 (some .boolean), Cond.methodLink RX4 70 yX1_holds, Cond.instanceMethod yX1_holds, Cond.selects RX1 yX1_holds yX1_holds, Cond.code yX1_holds cX1_holds 2 (some .boolean), Cond.methodLink RX4 160 yX1_areFull, Cond.instanceMethod yX1_areFull, Cond.selects RX1 yX1_areFull yX1_areFull, Cond.code yX1_areFull cX1_areFull 1 (some .boolean), Cond.methodLink RX4 115 yX4_chooseVictim, Cond.instanceMethod yX4_chooseVictim, Cond.selects RX4 yX4_chooseVictim yX4_chooseVictim, Cond.code yX4_chooseVictim cX4_chooseVictim 3 (some .int), Cond.methodLink RX4 64 yX1_pinsOf, Cond.instanceMethod yX1_pinsOf, Cond.selects RX1 yX1_pinsOf yX1_pinsOf, Cond.code yX1_pinsOf cX1_pinsOf 2 (some .int), Cond.methodLink RX4 190 yX2_goesBefore, Cond.instanceMethod yX2_goesBefore, Cond.selects RX2 yX2_goesBefore yX2_goesBefore, Cond.code yX2_goesBefore cX2_goesBefore 6 (some .boolean)]
def wsL_law_r8 : List Cond := [Cond.methodLink RX2 28 yX2_timeOf, Cond.instanceMethod yX2_timeOf, Cond.selects RX2 yX2_timeOf yX2_timeOf, Cond.code yX2_timeOf cX2_timeOf 3 (some .int), Cond.methodLink RX4 52 yX4_reference, Cond.instanceMethod yX4_reference, Cond.selects RX4 yX4_reference yX4_reference, Cond.code yX4_reference cX4_reference 2 none, Cond.methodLink RX4 164 yX4_makeRoom, Cond.instanceMethod yX4_makeRoom, Cond.selects RX4 yX4_makeRoom yX4_makeRoom, Cond.code yX4_makeRoom cX4_makeRoom 2 none, Cond.methodLink RX4 76 yX1_isChanged, Cond.instanceMethod yX1_isChanged, Cond.selects RX1 yX1_isChanged yX1_isChanged, Cond.code yX1_isChanged cX1_isChanged 2 (some .boolean), Cond.methodLink RX4 176 yX4_enqueue, Cond.instanceMethod yX4_enqueue, Cond.selects RX4 yX4_enqueue yX4_enqueue, Cond.code yX4_enqueue cX4_enqueue 2 none, Cond.methodLink RX4 179 yX3_isFull, Cond.instanceMethod yX3_isFull, Cond.selects RX3 yX3_isFull yX3_isFull, Cond.code yX3_isFull cX3_isFull 1 (some .boolean)]
def wsL_law_r9 : List Cond := [Cond.methodLink RX4 85 yX4_writeEntry, Cond.instanceMethod yX4_writeEntry, Cond.selects RX4 yX4_writeEntry yX4_writeEntry, Cond.code yX4_writeEntry cX4_writeEntry 3 none, Cond.methodLink RX4 125 yX3_pageAt, Cond.instanceMethod yX3_pageAt, Cond.selects RX3 yX3_pageAt yX3_pageAt, Cond.code yX3_pageAt cX3_pageAt 2 (some .int), Cond.methodLink RX3 25 yX3_has, Cond.instanceMethod yX3_has, Cond.selects RX3 yX3_has yX3_has, Cond.code yX3_has cX3_has 2 (some .boolean), Cond.methodLink RX4 126 yX3_valueAt, Cond.instanceMethod yX3_valueAt, Cond.selects RX3 yX3_valueAt yX3_valueAt, Cond.code yX3_valueAt cX3_valueAt 2 (some .int), Cond.methodLink RX4 194 yX0_store, Cond.instanceMethod yX0_store, Cond.selects RX0 yX0_store yX0_store, Cond.code yX0_store cX0_store 3 none, Cond.methodLink RX4 101 yX3_removeAt, Cond.instanceMethod yX3_removeAt, Cond.selects RX3 yX3_removeAt yX3_removeAt, Cond.code yX3_removeAt cX3_removeAt 3 none]
def wsL_law_r10 : List Cond := [Cond.methodLink RX4 56 yX1_valueOf, Cond.instanceMethod yX1_valueOf, Cond.selects RX1 yX1_valueOf yX1_valueOf, Cond.code yX1_valueOf cX1_valueOf 2 (some .int), Cond.methodLink RX4 182 yX3_append, Cond.instanceMethod yX3_append, Cond.selects RX3 yX3_append yX3_append, Cond.code yX3_append cX3_append 3 none, Cond.methodLink RX3 29 yX3_isFull, Cond.methodLink RX4 98 yX1_release, Cond.instanceMethod yX1_release, Cond.selects RX1 yX1_release yX1_release, Cond.code yX1_release cX1_release 2 none, Cond.methodLink RX4 167 yX4_load, Cond.instanceMethod yX4_load, Cond.selects RX4 yX4_load yX4_load, Cond.code yX4_load cX4_load 4 none, Cond.methodLink RX4 82 yX3_positionOf, Cond.instanceMethod yX3_positionOf, Cond.selects RX3 yX3_positionOf yX3_positionOf, Cond.code yX3_positionOf cX3_positionOf 3 (some .int), Cond.methodLink RX4 185 yX0_load, Cond.instanceMethod yX0_load, Cond.selects RX0 yX0_load yX0_load]
def wsL_law_r11 : List Cond := [Cond.code yX0_load cX0_load 2 (some .int), Cond.methodLink RX4 187 yX1_place, Cond.instanceMethod yX1_place, Cond.selects RX1 yX1_place yX1_place, Cond.code yX1_place cX1_place 3 none, Cond.methodLink RX4 60 yX1_change, Cond.instanceMethod yX1_change, Cond.selects RX1 yX1_change yX1_change, Cond.code yX1_change cX1_change 3 none, Cond.methodLink RX4 170 yX4_forgetIfStale, Cond.instanceMethod yX4_forgetIfStale, Cond.selects RX4 yX4_forgetIfStale yX4_forgetIfStale, Cond.code yX4_forgetIfStale cX4_forgetIfStale 3 none, Cond.methodLink RX4 107 yX2_timeOf, Cond.methodLink RX4 95 yX2_forget, Cond.instanceMethod yX2_forget, Cond.selects RX2 yX2_forget yX2_forget, Cond.code yX2_forget cX2_forget 2 none, Cond.methodLink RX4 173 yX2_record, Cond.instanceMethod yX2_record, Cond.selects RX2 yX2_record yX2_record, Cond.code yX2_record cX2_record 5 none, Cond.methodLink RL 22 yX5_read, Cond.instanceMethod yX5_read]
def wsL_law_r12 : List Cond := [Cond.selects RX5 yX5_read yX5_read, Cond.code yX5_read cX5_read 2 (some .int), Cond.methodLink RX5 126 yX5_isPage, Cond.static yX5_isPage, Cond.code yX5_isPage cX5_isPage 1 (some .boolean), Cond.methodLink RX5 130 yX5_isStuck, Cond.instanceMethod yX5_isStuck, Cond.selects RX5 yX5_isStuck yX5_isStuck, Cond.code yX5_isStuck cX5_isStuck 2 (some .boolean), Cond.methodLink RX5 122 yX5_canLoad, Cond.instanceMethod yX5_canLoad, Cond.selects RX5 yX5_canLoad yX5_canLoad, Cond.code yX5_canLoad cX5_canLoad 1 (some .boolean), Cond.methodLink RX5 91 yX5_residentCount, Cond.instanceMethod yX5_residentCount, Cond.selects RX5 yX5_residentCount yX5_residentCount, Cond.code yX5_residentCount cX5_residentCount 3 (some .int), Cond.methodLink RX5 95 yX5_victim, Cond.instanceMethod yX5_victim, Cond.selects RX5 yX5_victim yX5_victim, Cond.code yX5_victim cX5_victim 3 (some .int), Cond.methodLink RX5 87 yX5_goesFirst, Cond.instanceMethod yX5_goesFirst, Cond.selects RX5 yX5_goesFirst yX5_goesFirst]
def wsL_law_r13 : List Cond := [Cond.code yX5_goesFirst cX5_goesFirst 4 (some .boolean), Cond.methodLink RX5 83 yX5_time, Cond.instanceMethod yX5_time, Cond.selects RX5 yX5_time yX5_time, Cond.code yX5_time cX5_time 3 (some .int), Cond.methodLink RX5 133 yX5_reference, Cond.instanceMethod yX5_reference, Cond.selects RX5 yX5_reference yX5_reference, Cond.code yX5_reference cX5_reference 2 none, Cond.methodLink RX5 116 yX5_record, Cond.instanceMethod yX5_record, Cond.selects RX5 yX5_record yX5_record, Cond.code yX5_record cX5_record 3 none, Cond.methodLink RX5 119 yX5_load, Cond.instanceMethod yX5_load, Cond.selects RX5 yX5_load yX5_load, Cond.code yX5_load cX5_load 3 none, Cond.methodLink RX5 109 yX5_evict, Cond.instanceMethod yX5_evict, Cond.selects RX5 yX5_evict yX5_evict, Cond.code yX5_evict cX5_evict 2 none, Cond.methodLink RX5 106 yX5_writeOldest, Cond.instanceMethod yX5_writeOldest, Cond.selects RX5 yX5_writeOldest yX5_writeOldest]
def wsL_law_r14 : List Cond := [Cond.code yX5_writeOldest cX5_writeOldest 1 none, Cond.methodLink RX5 98 yX5_writeToDisk, Cond.instanceMethod yX5_writeToDisk, Cond.selects RX5 yX5_writeToDisk yX5_writeToDisk, Cond.code yX5_writeToDisk cX5_writeToDisk 3 none, Cond.methodLink RX5 102 yX5_removeEntry, Cond.instanceMethod yX5_removeEntry, Cond.selects RX5 yX5_removeEntry yX5_removeEntry, Cond.code yX5_removeEntry cX5_removeEntry 3 none, Cond.methodLink RX5 112 yX5_positionInQueue, Cond.instanceMethod yX5_positionInQueue, Cond.selects RX5 yX5_positionInQueue yX5_positionInQueue, Cond.code yX5_positionInQueue cX5_positionInQueue 3 (some .int), Cond.methodLink RL 23 yX4_write, Cond.instanceMethod yX4_write, Cond.selects RX4 yX4_write yX4_write, Cond.code yX4_write cX4_write 4 (some .int), Cond.methodLink RL 27 yX5_write, Cond.instanceMethod yX5_write, Cond.selects RX5 yX5_write yX5_write, Cond.code yX5_write cX5_write 4 (some .int), Cond.methodLink RL 28 yX4_pin, Cond.instanceMethod yX4_pin, Cond.selects RX4 yX4_pin yX4_pin]
def wsL_law_r15 : List Cond := [Cond.code yX4_pin cX4_pin 2 (some .int), Cond.methodLink RX4 67 yX1_addPin, Cond.instanceMethod yX1_addPin, Cond.selects RX1 yX1_addPin yX1_addPin, Cond.code yX1_addPin cX1_addPin 2 none, Cond.methodLink RL 31 yX5_pin, Cond.instanceMethod yX5_pin, Cond.selects RX5 yX5_pin yX5_pin, Cond.code yX5_pin cX5_pin 2 (some .int), Cond.methodLink RL 32 yX4_unpin, Cond.instanceMethod yX4_unpin, Cond.selects RX4 yX4_unpin yX4_unpin, Cond.code yX4_unpin cX4_unpin 2 (some .int), Cond.methodLink RX4 73 yX1_removePin, Cond.instanceMethod yX1_removePin, Cond.selects RX1 yX1_removePin yX1_removePin, Cond.code yX1_removePin cX1_removePin 2 none, Cond.methodLink RL 35 yX5_unpin, Cond.instanceMethod yX5_unpin, Cond.selects RX5 yX5_unpin yX5_unpin, Cond.code yX5_unpin cX5_unpin 2 (some .int), Cond.methodLink RL 36 yX4_flush, Cond.instanceMethod yX4_flush, Cond.selects RX4 yX4_flush yX4_flush]
def wsL_law_r16 : List Cond := [Cond.code yX4_flush cX4_flush 3 (some .int), Cond.methodLink RX4 79 yX4_writeFrame, Cond.instanceMethod yX4_writeFrame, Cond.selects RX4 yX4_writeFrame yX4_writeFrame, Cond.code yX4_writeFrame cX4_writeFrame 2 none, Cond.methodLink RX4 197 yX1_markClean, Cond.instanceMethod yX1_markClean, Cond.selects RX1 yX1_markClean yX1_markClean, Cond.code yX1_markClean cX1_markClean 2 none, Cond.methodLink RL 39 yX5_flush, Cond.instanceMethod yX5_flush, Cond.selects RX5 yX5_flush yX5_flush, Cond.code yX5_flush cX5_flush 3 (some .int), Cond.methodLink RX5 136 yX5_writeResident, Cond.instanceMethod yX5_writeResident, Cond.selects RX5 yX5_writeResident yX5_writeResident, Cond.code yX5_writeResident cX5_writeResident 2 (some .boolean), Cond.methodLink RL 40 yX4_flushAll, Cond.instanceMethod yX4_flushAll, Cond.selects RX4 yX4_flushAll yX4_flushAll, Cond.code yX4_flushAll cX4_flushAll 3 (some .int), Cond.methodLink RX4 88 yX3_length, Cond.instanceMethod yX3_length, Cond.selects RX3 yX3_length yX3_length]
def wsL_law_r17 : List Cond := [Cond.code yX3_length cX3_length 1 (some .int), Cond.methodLink RX4 92 yX4_writeOldest, Cond.instanceMethod yX4_writeOldest, Cond.selects RX4 yX4_writeOldest yX4_writeOldest, Cond.code yX4_writeOldest cX4_writeOldest 4 (some .int), Cond.methodLink RX4 200 Lib.Math.min.name, Cond.static Lib.Math.min.name, Cond.initialized "java/lang/Math", Cond.code Lib.Math.min.name Lib.Math.min.code 2 (some .int), Cond.methodLink RL 44 yX5_flushAll, Cond.instanceMethod yX5_flushAll, Cond.selects RX5 yX5_flushAll yX5_flushAll, Cond.code yX5_flushAll cX5_flushAll 4 (some .int), Cond.methodLink RL 45 yX4_drain, Cond.instanceMethod yX4_drain, Cond.selects RX4 yX4_drain yX4_drain, Cond.code yX4_drain cX4_drain 2 (some .int), Cond.methodLink RL 48 yX5_drain, Cond.instanceMethod yX5_drain, Cond.selects RX5 yX5_drain yX5_drain, Cond.code yX5_drain cX5_drain 3 (some .int), Cond.methodLink RL 49 yX4_discard, Cond.instanceMethod yX4_discard, Cond.selects RX4 yX4_discard yX4_discard]
def wsL_law_r18 : List Cond := [Cond.code yX4_discard cX4_discard 3 (some .int), Cond.methodLink RL 52 yX5_discard, Cond.instanceMethod yX5_discard, Cond.selects RX5 yX5_discard yX5_discard, Cond.code yX5_discard cX5_discard 4 (some .int), Cond.methodLink RL 53 yX4_isResident, Cond.instanceMethod yX4_isResident, Cond.selects RX4 yX4_isResident yX4_isResident, Cond.code yX4_isResident cX4_isResident 2 (some .int), Cond.methodLink RL 56 yX5_isResident, Cond.instanceMethod yX5_isResident, Cond.selects RX5 yX5_isResident yX5_isResident, Cond.code yX5_isResident cX5_isResident 2 (some .int), Cond.methodLink RL 57 yX4_isDirty, Cond.instanceMethod yX4_isDirty, Cond.selects RX4 yX4_isDirty yX4_isDirty, Cond.code yX4_isDirty cX4_isDirty 2 (some .int), Cond.methodLink RL 60 yX5_isDirty, Cond.instanceMethod yX5_isDirty, Cond.selects RX5 yX5_isDirty yX5_isDirty, Cond.code yX5_isDirty cX5_isDirty 2 (some .int), Cond.methodLink RL 61 yX4_pinCount, Cond.instanceMethod yX4_pinCount, Cond.selects RX4 yX4_pinCount yX4_pinCount]
def wsL_law_r19 : List Cond := [Cond.code yX4_pinCount cX4_pinCount 2 (some .int), Cond.methodLink RL 64 yX5_pinCount, Cond.instanceMethod yX5_pinCount, Cond.selects RX5 yX5_pinCount yX5_pinCount, Cond.code yX5_pinCount cX5_pinCount 2 (some .int), Cond.methodLink RL 65 yX4_referenceTime, Cond.instanceMethod yX4_referenceTime, Cond.selects RX4 yX4_referenceTime yX4_referenceTime, Cond.code yX4_referenceTime cX4_referenceTime 3 (some .int), Cond.methodLink RX4 104 yX2_depth, Cond.instanceMethod yX2_depth, Cond.selects RX2 yX2_depth yX2_depth, Cond.code yX2_depth cX2_depth 1 (some .int), Cond.methodLink RL 68 yX5_referenceTime, Cond.instanceMethod yX5_referenceTime, Cond.selects RX5 yX5_referenceTime yX5_referenceTime, Cond.code yX5_referenceTime cX5_referenceTime 3 (some .int), Cond.methodLink RL 69 yX4_backwardKDistance, Cond.instanceMethod yX4_backwardKDistance, Cond.selects RX4 yX4_backwardKDistance yX4_backwardKDistance, Cond.code yX4_backwardKDistance cX4_backwardKDistance 3 (some .int), Cond.methodLink RL 72 yX5_backwardKDistance, Cond.instanceMethod yX5_backwardKDistance, Cond.selects RX5 yX5_backwardKDistance yX5_backwardKDistance]
def wsL_law_r20 : List Cond := [Cond.code yX5_backwardKDistance cX5_backwardKDistance 2 (some .int), Cond.methodLink RL 73 yX4_victim, Cond.instanceMethod yX4_victim, Cond.selects RX4 yX4_victim yX4_victim, Cond.code yX4_victim cX4_victim 1 (some .int), Cond.methodLink RL 76 yX5_victim, Cond.methodLink RL 77 yX4_diskValue, Cond.instanceMethod yX4_diskValue, Cond.selects RX4 yX4_diskValue yX4_diskValue, Cond.code yX4_diskValue cX4_diskValue 2 (some .int), Cond.methodLink RX4 118 yX0_valueOf, Cond.instanceMethod yX0_valueOf, Cond.selects RX0 yX0_valueOf yX0_valueOf, Cond.code yX0_valueOf cX0_valueOf 2 (some .int), Cond.methodLink RL 80 yX5_diskValue, Cond.instanceMethod yX5_diskValue, Cond.selects RX5 yX5_diskValue yX5_diskValue, Cond.code yX5_diskValue cX5_diskValue 2 (some .int), Cond.methodLink RL 81 yX4_residentCount, Cond.instanceMethod yX4_residentCount, Cond.selects RX4 yX4_residentCount yX4_residentCount, Cond.code yX4_residentCount cX4_residentCount 1 (some .int), Cond.methodLink RX4 119 yX1_used, Cond.instanceMethod yX1_used]
def wsL_law_r21 : List Cond := [Cond.selects RX1 yX1_used yX1_used, Cond.code yX1_used cX1_used 1 (some .int), Cond.methodLink RL 84 yX5_residentCount, Cond.methodLink RL 85 yX4_residentPage, Cond.instanceMethod yX4_residentPage, Cond.selects RX4 yX4_residentPage yX4_residentPage, Cond.code yX4_residentPage cX4_residentPage 2 (some .int), Cond.methodLink RX4 122 yX1_pageAt, Cond.instanceMethod yX1_pageAt, Cond.selects RX1 yX1_pageAt yX1_pageAt, Cond.code yX1_pageAt cX1_pageAt 4 (some .int), Cond.methodLink RL 88 yX5_residentPage, Cond.instanceMethod yX5_residentPage, Cond.selects RX5 yX5_residentPage yX5_residentPage, Cond.code yX5_residentPage cX5_residentPage 4 (some .int), Cond.methodLink RL 89 yX4_queueSize, Cond.instanceMethod yX4_queueSize, Cond.selects RX4 yX4_queueSize yX4_queueSize, Cond.code yX4_queueSize cX4_queueSize 1 (some .int), Cond.methodLink RL 92 yX5_queueSize, Cond.instanceMethod yX5_queueSize, Cond.selects RX5 yX5_queueSize yX5_queueSize, Cond.code yX5_queueSize cX5_queueSize 1 (some .int), Cond.methodLink RL 93 yX4_queuedPage]
def wsL_law_r22 : List Cond := [Cond.instanceMethod yX4_queuedPage, Cond.selects RX4 yX4_queuedPage yX4_queuedPage, Cond.code yX4_queuedPage cX4_queuedPage 2 (some .int), Cond.methodLink RL 96 yX5_queuedPage, Cond.instanceMethod yX5_queuedPage, Cond.selects RX5 yX5_queuedPage yX5_queuedPage, Cond.code yX5_queuedPage cX5_queuedPage 2 (some .int), Cond.methodLink RX5 139 yX5_isInQueue, Cond.instanceMethod yX5_isInQueue, Cond.selects RX5 yX5_isInQueue yX5_isInQueue, Cond.code yX5_isInQueue cX5_isInQueue 2 (some .boolean), Cond.methodLink RL 97 yX4_queuedValue, Cond.instanceMethod yX4_queuedValue, Cond.selects RX4 yX4_queuedValue yX4_queuedValue, Cond.code yX4_queuedValue cX4_queuedValue 2 (some .int), Cond.methodLink RL 100 yX5_queuedValue, Cond.instanceMethod yX5_queuedValue, Cond.selects RX5 yX5_queuedValue yX5_queuedValue, Cond.code yX5_queuedValue cX5_queuedValue 2 (some .int), Cond.methodLink RL 101 yX4_clock, Cond.instanceMethod yX4_clock, Cond.selects RX4 yX4_clock yX4_clock, Cond.code yX4_clock cX4_clock 1 (some .int), Cond.methodLink RL 104 yX5_clock]
def wsL_law_r23 : List Cond := [Cond.instanceMethod yX5_clock, Cond.selects RX5 yX5_clock yX5_clock, Cond.code yX5_clock cX5_clock 1 (some .int), Cond.methodLink RL 105 yX4_hits, Cond.instanceMethod yX4_hits, Cond.selects RX4 yX4_hits yX4_hits, Cond.code yX4_hits cX4_hits 1 (some .int), Cond.methodLink RL 108 yX5_hits, Cond.instanceMethod yX5_hits, Cond.selects RX5 yX5_hits yX5_hits, Cond.code yX5_hits cX5_hits 1 (some .int), Cond.methodLink RL 109 yX4_misses, Cond.instanceMethod yX4_misses, Cond.selects RX4 yX4_misses yX4_misses, Cond.code yX4_misses cX4_misses 1 (some .int), Cond.methodLink RL 112 yX5_misses, Cond.instanceMethod yX5_misses, Cond.selects RX5 yX5_misses yX5_misses, Cond.code yX5_misses cX5_misses 1 (some .int), Cond.methodLink RL 113 yX4_evictions, Cond.instanceMethod yX4_evictions, Cond.selects RX4 yX4_evictions yX4_evictions, Cond.code yX4_evictions cX4_evictions 1 (some .int), Cond.methodLink RL 116 yX5_evictions]
def wsL_law_r24 : List Cond := [Cond.instanceMethod yX5_evictions, Cond.selects RX5 yX5_evictions yX5_evictions, Cond.code yX5_evictions cX5_evictions 1 (some .int), Cond.methodLink RL 117 yX4_diskReads, Cond.instanceMethod yX4_diskReads, Cond.selects RX4 yX4_diskReads yX4_diskReads, Cond.code yX4_diskReads cX4_diskReads 1 (some .int), Cond.methodLink RX4 138 yX0_loads, Cond.instanceMethod yX0_loads, Cond.selects RX0 yX0_loads yX0_loads, Cond.code yX0_loads cX0_loads 1 (some .int), Cond.methodLink RL 120 yX5_diskReads, Cond.instanceMethod yX5_diskReads, Cond.selects RX5 yX5_diskReads yX5_diskReads, Cond.code yX5_diskReads cX5_diskReads 1 (some .int), Cond.methodLink RL 121 yX4_diskWrites, Cond.instanceMethod yX4_diskWrites, Cond.selects RX4 yX4_diskWrites yX4_diskWrites, Cond.code yX4_diskWrites cX4_diskWrites 1 (some .int), Cond.methodLink RX4 141 yX0_stores, Cond.instanceMethod yX0_stores, Cond.selects RX0 yX0_stores yX0_stores, Cond.code yX0_stores cX0_stores 1 (some .int), Cond.methodLink RL 124 yX5_diskWrites]
def wsL_law_r25 : List Cond := [Cond.instanceMethod yX5_diskWrites, Cond.selects RX5 yX5_diskWrites yX5_diskWrites, Cond.code yX5_diskWrites cX5_diskWrites 1 (some .int), Cond.methodLink RL 125 yX4_stalls, Cond.instanceMethod yX4_stalls, Cond.selects RX4 yX4_stalls yX4_stalls, Cond.code yX4_stalls cX4_stalls 1 (some .int), Cond.methodLink RL 128 yX5_stalls, Cond.instanceMethod yX5_stalls, Cond.selects RX5 yX5_stalls yX5_stalls, Cond.code yX5_stalls cX5_stalls 1 (some .int)]
def wsL_law : List Cond := (wsL_law_r1 ++ (wsL_law_r2 ++ (wsL_law_r3 ++ (wsL_law_r4 ++ (wsL_law_r5 ++ (wsL_law_r6 ++ (wsL_law_r7 ++ (wsL_law_r8 ++ (wsL_law_r9 ++ (wsL_law_r10 ++ (wsL_law_r11 ++ (wsL_law_r12 ++ (wsL_law_r13 ++ (wsL_law_r14 ++ (wsL_law_r15 ++ (wsL_law_r16 ++ (wsL_law_r17 ++ (wsL_law_r18 ++ (wsL_law_r19 ++ (wsL_law_r20 ++ (wsL_law_r21 ++ (wsL_law_r22 ++ (wsL_law_r23 ++ (wsL_law_r24 ++ wsL_law_r25)))))))))))))))))))))))) ++ wsX40 ++ wsX50 ++ wsX00 ++ wsX10 ++ wsX30 ++ wsX20 ++ ([] : List Cond)
end
section
set_option maxRecDepth 20000 in
theorem wsL_in_1 : ∀ w ∈ wsL_law_r1, w ∈ lw_tbl := by decide +kernel
set_option maxRecDepth 20000 in
theorem wsL_in_2 : ∀ w ∈ wsL_law_r2, w ∈ lw_tbl := by decide +kernel
set_option maxRecDepth 20000 in
theorem wsL_in_3 : ∀ w ∈ wsL_law_r3, w ∈ lw_tbl := by decide +kernel
set_option maxRecDepth 20000 in
theorem wsL_in_4 : ∀ w ∈ wsL_law_r4, w ∈ lw_tbl := by decide +kernel
set_option maxRecDepth 20000 in
theorem wsL_in_5 : ∀ w ∈ wsL_law_r5, w ∈ lw_tbl := by decide +kernel
set_option maxRecDepth 20000 in
theorem wsL_in_6 : ∀ w ∈ wsL_law_r6, w ∈ lw_tbl := by decide +kernel
set_option maxRecDepth 20000 in
theorem wsL_in_7 : ∀ w ∈ wsL_law_r7, w ∈ lw_tbl := by decide +kernel
set_option maxRecDepth 20000 in
theorem wsL_in_8 : ∀ w ∈ wsL_law_r8, w ∈ lw_tbl := by decide +kernel
set_option maxRecDepth 20000 in
theorem wsL_in_9 : ∀ w ∈ wsL_law_r9, w ∈ lw_tbl := by decide +kernel
set_option maxRecDepth 20000 in
theorem wsL_in_10 : ∀ w ∈ wsL_law_r10, w ∈ lw_tbl := by decide +kernel
set_option maxRecDepth 20000 in
theorem wsL_in_11 : ∀ w ∈ wsL_law_r11, w ∈ lw_tbl := by decide +kernel
set_option maxRecDepth 20000 in
theorem wsL_in_12 : ∀ w ∈ wsL_law_r12, w ∈ lw_tbl := by decide +kernel
set_option maxRecDepth 20000 in
theorem wsL_in_13 : ∀ w ∈ wsL_law_r13, w ∈ lw_tbl := by decide +kernel
set_option maxRecDepth 20000 in
theorem wsL_in_14 : ∀ w ∈ wsL_law_r14, w ∈ lw_tbl := by decide +kernel
set_option maxRecDepth 20000 in
theorem wsL_in_15 : ∀ w ∈ wsL_law_r15, w ∈ lw_tbl := by decide +kernel
set_option maxRecDepth 20000 in
theorem wsL_in_16 : ∀ w ∈ wsL_law_r16, w ∈ lw_tbl := by decide +kernel
set_option maxRecDepth 20000 in
theorem wsL_in_17 : ∀ w ∈ wsL_law_r17, w ∈ lw_tbl := by decide +kernel
set_option maxRecDepth 20000 in
theorem wsL_in_18 : ∀ w ∈ wsL_law_r18, w ∈ lw_tbl := by decide +kernel
set_option maxRecDepth 20000 in
theorem wsL_in_19 : ∀ w ∈ wsL_law_r19, w ∈ lw_tbl := by decide +kernel
set_option maxRecDepth 20000 in
theorem wsL_in_20 : ∀ w ∈ wsL_law_r20, w ∈ lw_tbl := by decide +kernel
set_option maxRecDepth 20000 in
theorem wsL_in_21 : ∀ w ∈ wsL_law_r21, w ∈ lw_tbl := by decide +kernel
set_option maxRecDepth 20000 in
theorem wsL_in_22 : ∀ w ∈ wsL_law_r22, w ∈ lw_tbl := by decide +kernel
set_option maxRecDepth 20000 in
theorem wsL_in_23 : ∀ w ∈ wsL_law_r23, w ∈ lw_tbl := by decide +kernel
set_option maxRecDepth 20000 in
theorem wsL_in_24 : ∀ w ∈ wsL_law_r24, w ∈ lw_tbl := by decide +kernel
set_option maxRecDepth 20000 in
theorem wsL_in_25 : ∀ w ∈ wsL_law_r25, w ∈ lw_tbl := by decide +kernel
set_option maxRecDepth 20000 in
theorem inX0 : ∀ w ∈ wsX00, w ∈ lw_tbl := by decide +kernel
set_option maxRecDepth 20000 in
theorem inX1 : ∀ w ∈ wsX10, w ∈ lw_tbl := by decide +kernel
set_option maxRecDepth 20000 in
theorem inX2 : ∀ w ∈ wsX20, w ∈ lw_tbl := by decide +kernel
set_option maxRecDepth 20000 in
theorem inX3 : ∀ w ∈ wsX30, w ∈ lw_tbl := by decide +kernel
set_option maxRecDepth 20000 in
theorem inX4 : ∀ w ∈ wsX40, w ∈ lw_tbl := by decide +kernel
set_option maxRecDepth 20000 in
theorem inX5 : ∀ w ∈ wsX50, w ∈ lw_tbl := by decide +kernel
theorem inJ9 : ∀ w ∈ wsJ90, w ∈ lw_tbl := by decide +kernel
theorem inJ7 : ∀ w ∈ wsJ70, w ∈ lw_tbl := by decide +kernel
theorem inL_app {a b c : List Cond} (ha : ∀ w ∈ a, w ∈ c) (hb : ∀ w ∈ b, w ∈ c) : ∀ w ∈ a ++ b, w ∈ c := fun w h => (List.mem_append.mp h).elim (ha w) (hb w)
theorem wsL_law_in : ∀ w ∈ wsL_law, w ∈ lw_tbl := (inL_app (inL_app (inL_app (inL_app (inL_app (inL_app (inL_app (inL_app wsL_in_1 (inL_app wsL_in_2 (inL_app wsL_in_3 (inL_app wsL_in_4 (inL_app wsL_in_5 (inL_app wsL_in_6 (inL_app wsL_in_7 (inL_app wsL_in_8 (inL_app wsL_in_9 (inL_app wsL_in_10 (inL_app wsL_in_11 (inL_app wsL_in_12 (inL_app wsL_in_13 (inL_app wsL_in_14 (inL_app wsL_in_15 (inL_app wsL_in_16 (inL_app wsL_in_17 (inL_app wsL_in_18 (inL_app wsL_in_19 (inL_app wsL_in_20 (inL_app wsL_in_21 (inL_app wsL_in_22 (inL_app wsL_in_23 (inL_app wsL_in_24 (wsL_in_25))))))))))))))))))))))))) inX4) inX5) inX0) inX1) inX3) inX2) (fun _ h => absurd h List.not_mem_nil))
theorem inlX0 : ∀ w ∈ wsX00, w ∈ wsL_law := fun _ h => List.mem_append_left _ (List.mem_append_left _ (List.mem_append_left _ (List.mem_append_left _ (List.mem_append_right _ h))))
theorem inlX1 : ∀ w ∈ wsX10, w ∈ wsL_law := fun _ h => List.mem_append_left _ (List.mem_append_left _ (List.mem_append_left _ (List.mem_append_right _ h)))
theorem inlX2 : ∀ w ∈ wsX20, w ∈ wsL_law := fun _ h => List.mem_append_left _ (List.mem_append_right _ h)
theorem inlX3 : ∀ w ∈ wsX30, w ∈ wsL_law := fun _ h => List.mem_append_left _ (List.mem_append_left _ (List.mem_append_right _ h))
theorem inlX4 : ∀ w ∈ wsX40, w ∈ wsL_law := fun _ h => List.mem_append_left _ (List.mem_append_left _ (List.mem_append_left _ (List.mem_append_left _ (List.mem_append_left _ (List.mem_append_left _ (List.mem_append_right _ h))))))
theorem inlX5 : ∀ w ∈ wsX50, w ∈ wsL_law := fun _ h => List.mem_append_left _ (List.mem_append_left _ (List.mem_append_left _ (List.mem_append_left _ (List.mem_append_left _ (List.mem_append_right _ h)))))
end
section
theorem dX0_init_0 : decode cX0_init 0 = .ok (.aload_n 0, 1) := by decide +kernel
theorem dX0_init_1 : decode cX0_init 1 = .ok (.invokespecial 3, 3) := by decide +kernel
theorem dX0_init_4 : decode cX0_init 4 = .ok (.aload_n 0, 1) := by decide +kernel
theorem dX0_init_5 : decode cX0_init 5 = .ok (.bipush 64, 2) := by decide +kernel
theorem dX0_init_7 : decode cX0_init 7 = .ok (.newarray .int, 2) := by decide +kernel
theorem dX0_init_9 : decode cX0_init 9 = .ok (.putfield 9, 3) := by decide +kernel
theorem dX0_init_12 : decode cX0_init 12 = .ok (.return_, 1) := by decide +kernel
set_option maxRecDepth 20000 in
theorem ggX0_erase_J7_fill_53178 : GoodIn wsX0_erase wsJ7_fill_53178 := goodIn_r _ [7] (by decide +kernel) (by decide +kernel)
set_option maxRecDepth 20000 in
theorem gX0_erase_J7_fill_53178 : GoodIn wsX0_erase (va_wsS RX0 15 yJ7_fill_53178 wsJ7_fill_53178) := goodIn_app (goodIn_of _ (by decide +kernel)) ggX0_erase_J7_fill_53178
theorem dX0_erase_0 : decode cX0_erase 0 = .ok (.aload_n 0, 1) := by decide +kernel
theorem dX0_erase_1 : decode cX0_erase 1 = .ok (.getfield 9, 3) := by decide +kernel
theorem dX0_erase_4 : decode cX0_erase 4 = .ok (.iconst 0, 1) := by decide +kernel
theorem dX0_erase_5 : decode cX0_erase 5 = .ok (.invokestatic 15, 3) := by decide +kernel
theorem dX0_erase_8 : decode cX0_erase 8 = .ok (.aload_n 0, 1) := by decide +kernel
theorem dX0_erase_9 : decode cX0_erase 9 = .ok (.iconst 0, 1) := by decide +kernel
theorem dX0_erase_10 : decode cX0_erase 10 = .ok (.putfield 21, 3) := by decide +kernel
theorem dX0_erase_13 : decode cX0_erase 13 = .ok (.aload_n 0, 1) := by decide +kernel
theorem dX0_erase_14 : decode cX0_erase 14 = .ok (.iconst 0, 1) := by decide +kernel
theorem dX0_erase_15 : decode cX0_erase 15 = .ok (.putfield 25, 3) := by decide +kernel
theorem dX0_erase_18 : decode cX0_erase 18 = .ok (.return_, 1) := by decide +kernel
theorem dX0_valueOf_0 : decode cX0_valueOf 0 = .ok (.aload_n 0, 1) := by decide +kernel
theorem dX0_valueOf_1 : decode cX0_valueOf 1 = .ok (.getfield 9, 3) := by decide +kernel
theorem dX0_valueOf_4 : decode cX0_valueOf 4 = .ok (.iload_n 1, 1) := by decide +kernel
theorem dX0_valueOf_5 : decode cX0_valueOf 5 = .ok (.iaload, 1) := by decide +kernel
theorem dX0_valueOf_6 : decode cX0_valueOf 6 = .ok (.ireturn, 1) := by decide +kernel
theorem dX0_load_0 : decode cX0_load 0 = .ok (.aload_n 0, 1) := by decide +kernel
theorem dX0_load_1 : decode cX0_load 1 = .ok (.dup, 1) := by decide +kernel
theorem dX0_load_2 : decode cX0_load 2 = .ok (.getfield 21, 3) := by decide +kernel
theorem dX0_load_5 : decode cX0_load 5 = .ok (.iconst 1, 1) := by decide +kernel
theorem dX0_load_6 : decode cX0_load 6 = .ok (.iadd, 1) := by decide +kernel
theorem dX0_load_7 : decode cX0_load 7 = .ok (.putfield 21, 3) := by decide +kernel
theorem dX0_load_10 : decode cX0_load 10 = .ok (.aload_n 0, 1) := by decide +kernel
theorem dX0_load_11 : decode cX0_load 11 = .ok (.getfield 9, 3) := by decide +kernel
theorem dX0_load_14 : decode cX0_load 14 = .ok (.iload_n 1, 1) := by decide +kernel
theorem dX0_load_15 : decode cX0_load 15 = .ok (.iaload, 1) := by decide +kernel
theorem dX0_load_16 : decode cX0_load 16 = .ok (.ireturn, 1) := by decide +kernel
theorem dX0_store_0 : decode cX0_store 0 = .ok (.aload_n 0, 1) := by decide +kernel
theorem dX0_store_1 : decode cX0_store 1 = .ok (.dup, 1) := by decide +kernel
theorem dX0_store_2 : decode cX0_store 2 = .ok (.getfield 25, 3) := by decide +kernel
theorem dX0_store_5 : decode cX0_store 5 = .ok (.iconst 1, 1) := by decide +kernel
theorem dX0_store_6 : decode cX0_store 6 = .ok (.iadd, 1) := by decide +kernel
theorem dX0_store_7 : decode cX0_store 7 = .ok (.putfield 25, 3) := by decide +kernel
theorem dX0_store_10 : decode cX0_store 10 = .ok (.aload_n 0, 1) := by decide +kernel
theorem dX0_store_11 : decode cX0_store 11 = .ok (.getfield 9, 3) := by decide +kernel
theorem dX0_store_14 : decode cX0_store 14 = .ok (.iload_n 1, 1) := by decide +kernel
theorem dX0_store_15 : decode cX0_store 15 = .ok (.iload_n 2, 1) := by decide +kernel
theorem dX0_store_16 : decode cX0_store 16 = .ok (.iastore, 1) := by decide +kernel
theorem dX0_store_17 : decode cX0_store 17 = .ok (.return_, 1) := by decide +kernel
theorem dX0_loads_0 : decode cX0_loads 0 = .ok (.aload_n 0, 1) := by decide +kernel
theorem dX0_loads_1 : decode cX0_loads 1 = .ok (.getfield 21, 3) := by decide +kernel
theorem dX0_loads_4 : decode cX0_loads 4 = .ok (.ireturn, 1) := by decide +kernel
theorem dX0_stores_0 : decode cX0_stores 0 = .ok (.aload_n 0, 1) := by decide +kernel
theorem dX0_stores_1 : decode cX0_stores 1 = .ok (.getfield 25, 3) := by decide +kernel
theorem dX0_stores_4 : decode cX0_stores 4 = .ok (.ireturn, 1) := by decide +kernel
theorem dX1_init_0 : decode cX1_init 0 = .ok (.aload_n 0, 1) := by decide +kernel
theorem dX1_init_1 : decode cX1_init 1 = .ok (.invokespecial 3, 3) := by decide +kernel
theorem dX1_init_4 : decode cX1_init 4 = .ok (.aload_n 0, 1) := by decide +kernel
theorem dX1_init_5 : decode cX1_init 5 = .ok (.bipush 64, 2) := by decide +kernel
theorem dX1_init_7 : decode cX1_init 7 = .ok (.newarray .boolean, 2) := by decide +kernel
theorem dX1_init_9 : decode cX1_init 9 = .ok (.putfield 9, 3) := by decide +kernel
theorem dX1_init_12 : decode cX1_init 12 = .ok (.aload_n 0, 1) := by decide +kernel
theorem dX1_init_13 : decode cX1_init 13 = .ok (.bipush 64, 2) := by decide +kernel
theorem dX1_init_15 : decode cX1_init 15 = .ok (.newarray .boolean, 2) := by decide +kernel
theorem dX1_init_17 : decode cX1_init 17 = .ok (.putfield 15, 3) := by decide +kernel
theorem dX1_init_20 : decode cX1_init 20 = .ok (.aload_n 0, 1) := by decide +kernel
theorem dX1_init_21 : decode cX1_init 21 = .ok (.bipush 64, 2) := by decide +kernel
theorem dX1_init_23 : decode cX1_init 23 = .ok (.newarray .int, 2) := by decide +kernel
theorem dX1_init_25 : decode cX1_init 25 = .ok (.putfield 18, 3) := by decide +kernel
theorem dX1_init_28 : decode cX1_init 28 = .ok (.aload_n 0, 1) := by decide +kernel
theorem dX1_init_29 : decode cX1_init 29 = .ok (.bipush 64, 2) := by decide +kernel
theorem dX1_init_31 : decode cX1_init 31 = .ok (.newarray .int, 2) := by decide +kernel
theorem dX1_init_33 : decode cX1_init 33 = .ok (.putfield 22, 3) := by decide +kernel
theorem dX1_init_36 : decode cX1_init 36 = .ok (.return_, 1) := by decide +kernel
set_option maxRecDepth 20000 in
theorem ggX1_empty_X1_vacate : GoodIn wsX1_empty wsX1_vacate := goodIn_r _ [7, 8, 9, 10, 11, 12, 13, 14, 15, 16] (by decide +kernel) (by decide +kernel)
set_option maxRecDepth 20000 in
theorem gX1_empty_X1_vacate : GoodIn wsX1_empty (wsV RX1 25 RX1 yX1_vacate wsX1_vacate) := goodIn_app (goodIn_of _ (by decide +kernel)) ggX1_empty_X1_vacate
theorem dX1_empty_0 : decode cX1_empty 0 = .ok (.iconst 0, 1) := by decide +kernel
theorem dX1_empty_1 : decode cX1_empty 1 = .ok (.istore_n 2, 1) := by decide +kernel
theorem dX1_empty_2 : decode cX1_empty 2 = .ok (.iload_n 2, 1) := by decide +kernel
theorem dX1_empty_3 : decode cX1_empty 3 = .ok (.bipush 64, 2) := by decide +kernel
theorem dX1_empty_5 : decode cX1_empty 5 = .ok (.if_icmp .ge 14, 3) := by decide +kernel
theorem dX1_empty_8 : decode cX1_empty 8 = .ok (.aload_n 0, 1) := by decide +kernel
theorem dX1_empty_9 : decode cX1_empty 9 = .ok (.iload_n 2, 1) := by decide +kernel
theorem dX1_empty_10 : decode cX1_empty 10 = .ok (.invokevirtual 25, 3) := by decide +kernel
theorem dX1_empty_13 : decode cX1_empty 13 = .ok (.iinc 2 1, 3) := by decide +kernel
theorem dX1_empty_16 : decode cX1_empty 16 = .ok (.goto (-14), 3) := by decide +kernel
theorem dX1_empty_19 : decode cX1_empty 19 = .ok (.aload_n 0, 1) := by decide +kernel
theorem dX1_empty_20 : decode cX1_empty 20 = .ok (.iconst 0, 1) := by decide +kernel
theorem dX1_empty_21 : decode cX1_empty 21 = .ok (.putfield 29, 3) := by decide +kernel
theorem dX1_empty_24 : decode cX1_empty 24 = .ok (.aload_n 0, 1) := by decide +kernel
theorem dX1_empty_25 : decode cX1_empty 25 = .ok (.iload_n 1, 1) := by decide +kernel
theorem dX1_empty_26 : decode cX1_empty 26 = .ok (.putfield 33, 3) := by decide +kernel
theorem dX1_empty_29 : decode cX1_empty 29 = .ok (.return_, 1) := by decide +kernel
theorem dX1_areFull_0 : decode cX1_areFull 0 = .ok (.aload_n 0, 1) := by decide +kernel
theorem dX1_areFull_1 : decode cX1_areFull 1 = .ok (.getfield 29, 3) := by decide +kernel
theorem dX1_areFull_4 : decode cX1_areFull 4 = .ok (.aload_n 0, 1) := by decide +kernel
theorem dX1_areFull_5 : decode cX1_areFull 5 = .ok (.getfield 33, 3) := by decide +kernel
theorem dX1_areFull_8 : decode cX1_areFull 8 = .ok (.if_icmp .lt 7, 3) := by decide +kernel
theorem dX1_areFull_11 : decode cX1_areFull 11 = .ok (.iconst 1, 1) := by decide +kernel
theorem dX1_areFull_12 : decode cX1_areFull 12 = .ok (.goto 4, 3) := by decide +kernel
theorem dX1_areFull_15 : decode cX1_areFull 15 = .ok (.iconst 0, 1) := by decide +kernel
theorem dX1_areFull_16 : decode cX1_areFull 16 = .ok (.ireturn, 1) := by decide +kernel
theorem dX1_used_0 : decode cX1_used 0 = .ok (.aload_n 0, 1) := by decide +kernel
theorem dX1_used_1 : decode cX1_used 1 = .ok (.getfield 29, 3) := by decide +kernel
theorem dX1_used_4 : decode cX1_used 4 = .ok (.ireturn, 1) := by decide +kernel
theorem dX1_holds_0 : decode cX1_holds 0 = .ok (.aload_n 0, 1) := by decide +kernel
theorem dX1_holds_1 : decode cX1_holds 1 = .ok (.getfield 9, 3) := by decide +kernel
theorem dX1_holds_4 : decode cX1_holds 4 = .ok (.iload_n 1, 1) := by decide +kernel
theorem dX1_holds_5 : decode cX1_holds 5 = .ok (.baload, 1) := by decide +kernel
theorem dX1_holds_6 : decode cX1_holds 6 = .ok (.ireturn, 1) := by decide +kernel
theorem dX1_isChanged_0 : decode cX1_isChanged 0 = .ok (.aload_n 0, 1) := by decide +kernel
theorem dX1_isChanged_1 : decode cX1_isChanged 1 = .ok (.getfield 15, 3) := by decide +kernel
theorem dX1_isChanged_4 : decode cX1_isChanged 4 = .ok (.iload_n 1, 1) := by decide +kernel
theorem dX1_isChanged_5 : decode cX1_isChanged 5 = .ok (.baload, 1) := by decide +kernel
theorem dX1_isChanged_6 : decode cX1_isChanged 6 = .ok (.ireturn, 1) := by decide +kernel
theorem dX1_valueOf_0 : decode cX1_valueOf 0 = .ok (.aload_n 0, 1) := by decide +kernel
theorem dX1_valueOf_1 : decode cX1_valueOf 1 = .ok (.getfield 18, 3) := by decide +kernel
theorem dX1_valueOf_4 : decode cX1_valueOf 4 = .ok (.iload_n 1, 1) := by decide +kernel
theorem dX1_valueOf_5 : decode cX1_valueOf 5 = .ok (.iaload, 1) := by decide +kernel
theorem dX1_valueOf_6 : decode cX1_valueOf 6 = .ok (.ireturn, 1) := by decide +kernel
theorem dX1_pinsOf_0 : decode cX1_pinsOf 0 = .ok (.aload_n 0, 1) := by decide +kernel
theorem dX1_pinsOf_1 : decode cX1_pinsOf 1 = .ok (.getfield 22, 3) := by decide +kernel
theorem dX1_pinsOf_4 : decode cX1_pinsOf 4 = .ok (.iload_n 1, 1) := by decide +kernel
theorem dX1_pinsOf_5 : decode cX1_pinsOf 5 = .ok (.iaload, 1) := by decide +kernel
theorem dX1_pinsOf_6 : decode cX1_pinsOf 6 = .ok (.ireturn, 1) := by decide +kernel
theorem dX1_pageAt_0 : decode cX1_pageAt 0 = .ok (.iconst 0, 1) := by decide +kernel
theorem dX1_pageAt_1 : decode cX1_pageAt 1 = .ok (.istore_n 2, 1) := by decide +kernel
theorem dX1_pageAt_2 : decode cX1_pageAt 2 = .ok (.iconst 0, 1) := by decide +kernel
theorem dX1_pageAt_3 : decode cX1_pageAt 3 = .ok (.istore_n 3, 1) := by decide +kernel
theorem dX1_pageAt_4 : decode cX1_pageAt 4 = .ok (.iload_n 3, 1) := by decide +kernel
theorem dX1_pageAt_5 : decode cX1_pageAt 5 = .ok (.bipush 64, 2) := by decide +kernel
theorem dX1_pageAt_7 : decode cX1_pageAt 7 = .ok (.if_icmp .ge 28, 3) := by decide +kernel
theorem dX1_pageAt_10 : decode cX1_pageAt 10 = .ok (.aload_n 0, 1) := by decide +kernel
theorem dX1_pageAt_11 : decode cX1_pageAt 11 = .ok (.getfield 9, 3) := by decide +kernel
theorem dX1_pageAt_14 : decode cX1_pageAt 14 = .ok (.iload_n 3, 1) := by decide +kernel
theorem dX1_pageAt_15 : decode cX1_pageAt 15 = .ok (.baload, 1) := by decide +kernel
theorem dX1_pageAt_16 : decode cX1_pageAt 16 = .ok (.ifCond .eq 13, 3) := by decide +kernel
theorem dX1_pageAt_19 : decode cX1_pageAt 19 = .ok (.iload_n 2, 1) := by decide +kernel
theorem dX1_pageAt_20 : decode cX1_pageAt 20 = .ok (.iload_n 1, 1) := by decide +kernel
theorem dX1_pageAt_21 : decode cX1_pageAt 21 = .ok (.if_icmp .ne 5, 3) := by decide +kernel
theorem dX1_pageAt_24 : decode cX1_pageAt 24 = .ok (.iload_n 3, 1) := by decide +kernel
theorem dX1_pageAt_25 : decode cX1_pageAt 25 = .ok (.ireturn, 1) := by decide +kernel
theorem dX1_pageAt_26 : decode cX1_pageAt 26 = .ok (.iinc 2 1, 3) := by decide +kernel
theorem dX1_pageAt_29 : decode cX1_pageAt 29 = .ok (.iinc 3 1, 3) := by decide +kernel
theorem dX1_pageAt_32 : decode cX1_pageAt 32 = .ok (.goto (-28), 3) := by decide +kernel
theorem dX1_pageAt_35 : decode cX1_pageAt 35 = .ok (.bipush (-9), 2) := by decide +kernel
theorem dX1_pageAt_37 : decode cX1_pageAt 37 = .ok (.ireturn, 1) := by decide +kernel
theorem dX1_place_0 : decode cX1_place 0 = .ok (.aload_n 0, 1) := by decide +kernel
theorem dX1_place_1 : decode cX1_place 1 = .ok (.getfield 9, 3) := by decide +kernel
theorem dX1_place_4 : decode cX1_place 4 = .ok (.iload_n 1, 1) := by decide +kernel
theorem dX1_place_5 : decode cX1_place 5 = .ok (.iconst 1, 1) := by decide +kernel
theorem dX1_place_6 : decode cX1_place 6 = .ok (.bastore, 1) := by decide +kernel
theorem dX1_place_7 : decode cX1_place 7 = .ok (.aload_n 0, 1) := by decide +kernel
theorem dX1_place_8 : decode cX1_place 8 = .ok (.getfield 18, 3) := by decide +kernel
theorem dX1_place_11 : decode cX1_place 11 = .ok (.iload_n 1, 1) := by decide +kernel
theorem dX1_place_12 : decode cX1_place 12 = .ok (.iload_n 2, 1) := by decide +kernel
theorem dX1_place_13 : decode cX1_place 13 = .ok (.iastore, 1) := by decide +kernel
theorem dX1_place_14 : decode cX1_place 14 = .ok (.aload_n 0, 1) := by decide +kernel
theorem dX1_place_15 : decode cX1_place 15 = .ok (.dup, 1) := by decide +kernel
theorem dX1_place_16 : decode cX1_place 16 = .ok (.getfield 29, 3) := by decide +kernel
theorem dX1_place_19 : decode cX1_place 19 = .ok (.iconst 1, 1) := by decide +kernel
theorem dX1_place_20 : decode cX1_place 20 = .ok (.iadd, 1) := by decide +kernel
theorem dX1_place_21 : decode cX1_place 21 = .ok (.putfield 29, 3) := by decide +kernel
theorem dX1_place_24 : decode cX1_place 24 = .ok (.return_, 1) := by decide +kernel
set_option maxRecDepth 20000 in
theorem ggX1_release_X1_vacate : GoodIn wsX1_release wsX1_vacate := goodIn_r _ [6, 7, 8, 9, 10, 11, 12, 13, 14, 15] (by decide +kernel) (by decide +kernel)
set_option maxRecDepth 20000 in
theorem gX1_release_X1_vacate : GoodIn wsX1_release (wsV RX1 25 RX1 yX1_vacate wsX1_vacate) := goodIn_app (goodIn_of _ (by decide +kernel)) ggX1_release_X1_vacate
theorem dX1_release_0 : decode cX1_release 0 = .ok (.aload_n 0, 1) := by decide +kernel
theorem dX1_release_1 : decode cX1_release 1 = .ok (.iload_n 1, 1) := by decide +kernel
theorem dX1_release_2 : decode cX1_release 2 = .ok (.invokevirtual 25, 3) := by decide +kernel
theorem dX1_release_5 : decode cX1_release 5 = .ok (.aload_n 0, 1) := by decide +kernel
theorem dX1_release_6 : decode cX1_release 6 = .ok (.dup, 1) := by decide +kernel
theorem dX1_release_7 : decode cX1_release 7 = .ok (.getfield 29, 3) := by decide +kernel
theorem dX1_release_10 : decode cX1_release 10 = .ok (.iconst 1, 1) := by decide +kernel
theorem dX1_release_11 : decode cX1_release 11 = .ok (.isub, 1) := by decide +kernel
theorem dX1_release_12 : decode cX1_release 12 = .ok (.putfield 29, 3) := by decide +kernel
theorem dX1_release_15 : decode cX1_release 15 = .ok (.return_, 1) := by decide +kernel
theorem dX1_change_0 : decode cX1_change 0 = .ok (.aload_n 0, 1) := by decide +kernel
theorem dX1_change_1 : decode cX1_change 1 = .ok (.getfield 18, 3) := by decide +kernel
theorem dX1_change_4 : decode cX1_change 4 = .ok (.iload_n 1, 1) := by decide +kernel
theorem dX1_change_5 : decode cX1_change 5 = .ok (.iload_n 2, 1) := by decide +kernel
theorem dX1_change_6 : decode cX1_change 6 = .ok (.iastore, 1) := by decide +kernel
theorem dX1_change_7 : decode cX1_change 7 = .ok (.aload_n 0, 1) := by decide +kernel
theorem dX1_change_8 : decode cX1_change 8 = .ok (.getfield 15, 3) := by decide +kernel
theorem dX1_change_11 : decode cX1_change 11 = .ok (.iload_n 1, 1) := by decide +kernel
theorem dX1_change_12 : decode cX1_change 12 = .ok (.iconst 1, 1) := by decide +kernel
theorem dX1_change_13 : decode cX1_change 13 = .ok (.bastore, 1) := by decide +kernel
theorem dX1_change_14 : decode cX1_change 14 = .ok (.return_, 1) := by decide +kernel
theorem dX1_markClean_0 : decode cX1_markClean 0 = .ok (.aload_n 0, 1) := by decide +kernel
theorem dX1_markClean_1 : decode cX1_markClean 1 = .ok (.getfield 15, 3) := by decide +kernel
theorem dX1_markClean_4 : decode cX1_markClean 4 = .ok (.iload_n 1, 1) := by decide +kernel
theorem dX1_markClean_5 : decode cX1_markClean 5 = .ok (.iconst 0, 1) := by decide +kernel
theorem dX1_markClean_6 : decode cX1_markClean 6 = .ok (.bastore, 1) := by decide +kernel
theorem dX1_markClean_7 : decode cX1_markClean 7 = .ok (.return_, 1) := by decide +kernel
theorem dX1_addPin_0 : decode cX1_addPin 0 = .ok (.aload_n 0, 1) := by decide +kernel
theorem dX1_addPin_1 : decode cX1_addPin 1 = .ok (.getfield 22, 3) := by decide +kernel
theorem dX1_addPin_4 : decode cX1_addPin 4 = .ok (.iload_n 1, 1) := by decide +kernel
theorem dX1_addPin_5 : decode cX1_addPin 5 = .ok (.dup2, 1) := by decide +kernel
theorem dX1_addPin_6 : decode cX1_addPin 6 = .ok (.iaload, 1) := by decide +kernel
theorem dX1_addPin_7 : decode cX1_addPin 7 = .ok (.iconst 1, 1) := by decide +kernel
theorem dX1_addPin_8 : decode cX1_addPin 8 = .ok (.iadd, 1) := by decide +kernel
theorem dX1_addPin_9 : decode cX1_addPin 9 = .ok (.iastore, 1) := by decide +kernel
theorem dX1_addPin_10 : decode cX1_addPin 10 = .ok (.return_, 1) := by decide +kernel
theorem dX1_removePin_0 : decode cX1_removePin 0 = .ok (.aload_n 0, 1) := by decide +kernel
theorem dX1_removePin_1 : decode cX1_removePin 1 = .ok (.getfield 22, 3) := by decide +kernel
theorem dX1_removePin_4 : decode cX1_removePin 4 = .ok (.iload_n 1, 1) := by decide +kernel
theorem dX1_removePin_5 : decode cX1_removePin 5 = .ok (.dup2, 1) := by decide +kernel
theorem dX1_removePin_6 : decode cX1_removePin 6 = .ok (.iaload, 1) := by decide +kernel
theorem dX1_removePin_7 : decode cX1_removePin 7 = .ok (.iconst 1, 1) := by decide +kernel
theorem dX1_removePin_8 : decode cX1_removePin 8 = .ok (.isub, 1) := by decide +kernel
theorem dX1_removePin_9 : decode cX1_removePin 9 = .ok (.iastore, 1) := by decide +kernel
theorem dX1_removePin_10 : decode cX1_removePin 10 = .ok (.return_, 1) := by decide +kernel
theorem dX1_vacate_0 : decode cX1_vacate 0 = .ok (.aload_n 0, 1) := by decide +kernel
theorem dX1_vacate_1 : decode cX1_vacate 1 = .ok (.getfield 9, 3) := by decide +kernel
theorem dX1_vacate_4 : decode cX1_vacate 4 = .ok (.iload_n 1, 1) := by decide +kernel
theorem dX1_vacate_5 : decode cX1_vacate 5 = .ok (.iconst 0, 1) := by decide +kernel
theorem dX1_vacate_6 : decode cX1_vacate 6 = .ok (.bastore, 1) := by decide +kernel
theorem dX1_vacate_7 : decode cX1_vacate 7 = .ok (.aload_n 0, 1) := by decide +kernel
theorem dX1_vacate_8 : decode cX1_vacate 8 = .ok (.getfield 15, 3) := by decide +kernel
theorem dX1_vacate_11 : decode cX1_vacate 11 = .ok (.iload_n 1, 1) := by decide +kernel
theorem dX1_vacate_12 : decode cX1_vacate 12 = .ok (.iconst 0, 1) := by decide +kernel
theorem dX1_vacate_13 : decode cX1_vacate 13 = .ok (.bastore, 1) := by decide +kernel
theorem dX1_vacate_14 : decode cX1_vacate 14 = .ok (.aload_n 0, 1) := by decide +kernel
theorem dX1_vacate_15 : decode cX1_vacate 15 = .ok (.getfield 22, 3) := by decide +kernel
theorem dX1_vacate_18 : decode cX1_vacate 18 = .ok (.iload_n 1, 1) := by decide +kernel
theorem dX1_vacate_19 : decode cX1_vacate 19 = .ok (.iconst 0, 1) := by decide +kernel
theorem dX1_vacate_20 : decode cX1_vacate 20 = .ok (.iastore, 1) := by decide +kernel
theorem dX1_vacate_21 : decode cX1_vacate 21 = .ok (.return_, 1) := by decide +kernel
theorem dX2_init_0 : decode cX2_init 0 = .ok (.aload_n 0, 1) := by decide +kernel
theorem dX2_init_1 : decode cX2_init 1 = .ok (.invokespecial 3, 3) := by decide +kernel
theorem dX2_init_4 : decode cX2_init 4 = .ok (.aload_n 0, 1) := by decide +kernel
theorem dX2_init_5 : decode cX2_init 5 = .ok (.sipush 192, 3) := by decide +kernel
theorem dX2_init_8 : decode cX2_init 8 = .ok (.newarray .int, 2) := by decide +kernel
theorem dX2_init_10 : decode cX2_init 10 = .ok (.putfield 9, 3) := by decide +kernel
theorem dX2_init_13 : decode cX2_init 13 = .ok (.aload_n 0, 1) := by decide +kernel
theorem dX2_init_14 : decode cX2_init 14 = .ok (.bipush 64, 2) := by decide +kernel
theorem dX2_init_16 : decode cX2_init 16 = .ok (.newarray .int, 2) := by decide +kernel
theorem dX2_init_18 : decode cX2_init 18 = .ok (.putfield 15, 3) := by decide +kernel
theorem dX2_init_21 : decode cX2_init 21 = .ok (.return_, 1) := by decide +kernel
set_option maxRecDepth 20000 in
theorem ggX2_forgetAll_J7_fill_53178 : GoodIn wsX2_forgetAll wsJ7_fill_53178 := goodIn_r _ [6] (by decide +kernel) (by decide +kernel)
set_option maxRecDepth 20000 in
theorem gX2_forgetAll_J7_fill_53178 : GoodIn wsX2_forgetAll (va_wsS RX2 18 yJ7_fill_53178 wsJ7_fill_53178) := goodIn_app (goodIn_of _ (by decide +kernel)) ggX2_forgetAll_J7_fill_53178
theorem dX2_forgetAll_0 : decode cX2_forgetAll 0 = .ok (.aload_n 0, 1) := by decide +kernel
theorem dX2_forgetAll_1 : decode cX2_forgetAll 1 = .ok (.getfield 15, 3) := by decide +kernel
theorem dX2_forgetAll_4 : decode cX2_forgetAll 4 = .ok (.iconst 0, 1) := by decide +kernel
theorem dX2_forgetAll_5 : decode cX2_forgetAll 5 = .ok (.invokestatic 18, 3) := by decide +kernel
theorem dX2_forgetAll_8 : decode cX2_forgetAll 8 = .ok (.aload_n 0, 1) := by decide +kernel
theorem dX2_forgetAll_9 : decode cX2_forgetAll 9 = .ok (.iload_n 1, 1) := by decide +kernel
theorem dX2_forgetAll_10 : decode cX2_forgetAll 10 = .ok (.putfield 24, 3) := by decide +kernel
theorem dX2_forgetAll_13 : decode cX2_forgetAll 13 = .ok (.return_, 1) := by decide +kernel
theorem dX2_forget_0 : decode cX2_forget 0 = .ok (.aload_n 0, 1) := by decide +kernel
theorem dX2_forget_1 : decode cX2_forget 1 = .ok (.getfield 15, 3) := by decide +kernel
theorem dX2_forget_4 : decode cX2_forget 4 = .ok (.iload_n 1, 1) := by decide +kernel
theorem dX2_forget_5 : decode cX2_forget 5 = .ok (.iconst 0, 1) := by decide +kernel
theorem dX2_forget_6 : decode cX2_forget 6 = .ok (.iastore, 1) := by decide +kernel
theorem dX2_forget_7 : decode cX2_forget 7 = .ok (.return_, 1) := by decide +kernel
theorem dX2_depth_0 : decode cX2_depth 0 = .ok (.aload_n 0, 1) := by decide +kernel
theorem dX2_depth_1 : decode cX2_depth 1 = .ok (.getfield 24, 3) := by decide +kernel
theorem dX2_depth_4 : decode cX2_depth 4 = .ok (.ireturn, 1) := by decide +kernel
theorem dX2_timeOf_0 : decode cX2_timeOf 0 = .ok (.iload_n 2, 1) := by decide +kernel
theorem dX2_timeOf_1 : decode cX2_timeOf 1 = .ok (.iconst 1, 1) := by decide +kernel
theorem dX2_timeOf_2 : decode cX2_timeOf 2 = .ok (.if_icmp .lt 28, 3) := by decide +kernel
theorem dX2_timeOf_5 : decode cX2_timeOf 5 = .ok (.iload_n 2, 1) := by decide +kernel
theorem dX2_timeOf_6 : decode cX2_timeOf 6 = .ok (.aload_n 0, 1) := by decide +kernel
theorem dX2_timeOf_7 : decode cX2_timeOf 7 = .ok (.getfield 15, 3) := by decide +kernel
theorem dX2_timeOf_10 : decode cX2_timeOf 10 = .ok (.iload_n 1, 1) := by decide +kernel
theorem dX2_timeOf_11 : decode cX2_timeOf 11 = .ok (.iaload, 1) := by decide +kernel
theorem dX2_timeOf_12 : decode cX2_timeOf 12 = .ok (.if_icmp .gt 18, 3) := by decide +kernel
theorem dX2_timeOf_15 : decode cX2_timeOf 15 = .ok (.aload_n 0, 1) := by decide +kernel
theorem dX2_timeOf_16 : decode cX2_timeOf 16 = .ok (.getfield 9, 3) := by decide +kernel
theorem dX2_timeOf_19 : decode cX2_timeOf 19 = .ok (.iload_n 1, 1) := by decide +kernel
theorem dX2_timeOf_20 : decode cX2_timeOf 20 = .ok (.iconst 3, 1) := by decide +kernel
theorem dX2_timeOf_21 : decode cX2_timeOf 21 = .ok (.imul, 1) := by decide +kernel
theorem dX2_timeOf_22 : decode cX2_timeOf 22 = .ok (.iload_n 2, 1) := by decide +kernel
theorem dX2_timeOf_23 : decode cX2_timeOf 23 = .ok (.iadd, 1) := by decide +kernel
theorem dX2_timeOf_24 : decode cX2_timeOf 24 = .ok (.iconst 1, 1) := by decide +kernel
theorem dX2_timeOf_25 : decode cX2_timeOf 25 = .ok (.isub, 1) := by decide +kernel
theorem dX2_timeOf_26 : decode cX2_timeOf 26 = .ok (.iaload, 1) := by decide +kernel
theorem dX2_timeOf_27 : decode cX2_timeOf 27 = .ok (.goto 5, 3) := by decide +kernel
theorem dX2_timeOf_30 : decode cX2_timeOf 30 = .ok (.bipush (-9), 2) := by decide +kernel
theorem dX2_timeOf_32 : decode cX2_timeOf 32 = .ok (.ireturn, 1) := by decide +kernel
theorem dX2_record_0 : decode cX2_record 0 = .ok (.iload_n 1, 1) := by decide +kernel
theorem dX2_record_1 : decode cX2_record 1 = .ok (.iconst 3, 1) := by decide +kernel
theorem dX2_record_2 : decode cX2_record 2 = .ok (.imul, 1) := by decide +kernel
theorem dX2_record_3 : decode cX2_record 3 = .ok (.istore_n 3, 1) := by decide +kernel
theorem dX2_record_4 : decode cX2_record 4 = .ok (.iload_n 3, 1) := by decide +kernel
theorem dX2_record_5 : decode cX2_record 5 = .ok (.iconst 3, 1) := by decide +kernel
theorem dX2_record_6 : decode cX2_record 6 = .ok (.iadd, 1) := by decide +kernel
theorem dX2_record_7 : decode cX2_record 7 = .ok (.iconst 1, 1) := by decide +kernel
theorem dX2_record_8 : decode cX2_record 8 = .ok (.isub, 1) := by decide +kernel
theorem dX2_record_9 : decode cX2_record 9 = .ok (.istore 4, 2) := by decide +kernel
theorem dX2_record_11 : decode cX2_record 11 = .ok (.iload 4, 2) := by decide +kernel
theorem dX2_record_13 : decode cX2_record 13 = .ok (.iload_n 3, 1) := by decide +kernel
theorem dX2_record_14 : decode cX2_record 14 = .ok (.if_icmp .le 25, 3) := by decide +kernel
theorem dX2_record_17 : decode cX2_record 17 = .ok (.aload_n 0, 1) := by decide +kernel
theorem dX2_record_18 : decode cX2_record 18 = .ok (.getfield 9, 3) := by decide +kernel
theorem dX2_record_21 : decode cX2_record 21 = .ok (.iload 4, 2) := by decide +kernel
theorem dX2_record_23 : decode cX2_record 23 = .ok (.aload_n 0, 1) := by decide +kernel
theorem dX2_record_24 : decode cX2_record 24 = .ok (.getfield 9, 3) := by decide +kernel
theorem dX2_record_27 : decode cX2_record 27 = .ok (.iload 4, 2) := by decide +kernel
theorem dX2_record_29 : decode cX2_record 29 = .ok (.iconst 1, 1) := by decide +kernel
theorem dX2_record_30 : decode cX2_record 30 = .ok (.isub, 1) := by decide +kernel
theorem dX2_record_31 : decode cX2_record 31 = .ok (.iaload, 1) := by decide +kernel
theorem dX2_record_32 : decode cX2_record 32 = .ok (.iastore, 1) := by decide +kernel
theorem dX2_record_33 : decode cX2_record 33 = .ok (.iinc 4 (-1), 3) := by decide +kernel
theorem dX2_record_36 : decode cX2_record 36 = .ok (.goto (-25), 3) := by decide +kernel
theorem dX2_record_39 : decode cX2_record 39 = .ok (.aload_n 0, 1) := by decide +kernel
theorem dX2_record_40 : decode cX2_record 40 = .ok (.getfield 9, 3) := by decide +kernel
theorem dX2_record_43 : decode cX2_record 43 = .ok (.iload_n 3, 1) := by decide +kernel
theorem dX2_record_44 : decode cX2_record 44 = .ok (.iload_n 2, 1) := by decide +kernel
theorem dX2_record_45 : decode cX2_record 45 = .ok (.iastore, 1) := by decide +kernel
theorem dX2_record_46 : decode cX2_record 46 = .ok (.aload_n 0, 1) := by decide +kernel
theorem dX2_record_47 : decode cX2_record 47 = .ok (.getfield 15, 3) := by decide +kernel
theorem dX2_record_50 : decode cX2_record 50 = .ok (.iload_n 1, 1) := by decide +kernel
theorem dX2_record_51 : decode cX2_record 51 = .ok (.iaload, 1) := by decide +kernel
theorem dX2_record_52 : decode cX2_record 52 = .ok (.aload_n 0, 1) := by decide +kernel
theorem dX2_record_53 : decode cX2_record 53 = .ok (.getfield 24, 3) := by decide +kernel
theorem dX2_record_56 : decode cX2_record 56 = .ok (.if_icmp .ge 13, 3) := by decide +kernel
theorem dX2_record_59 : decode cX2_record 59 = .ok (.aload_n 0, 1) := by decide +kernel
theorem dX2_record_60 : decode cX2_record 60 = .ok (.getfield 15, 3) := by decide +kernel
theorem dX2_record_63 : decode cX2_record 63 = .ok (.iload_n 1, 1) := by decide +kernel
theorem dX2_record_64 : decode cX2_record 64 = .ok (.dup2, 1) := by decide +kernel
theorem dX2_record_65 : decode cX2_record 65 = .ok (.iaload, 1) := by decide +kernel
theorem dX2_record_66 : decode cX2_record 66 = .ok (.iconst 1, 1) := by decide +kernel
theorem dX2_record_67 : decode cX2_record 67 = .ok (.iadd, 1) := by decide +kernel
theorem dX2_record_68 : decode cX2_record 68 = .ok (.iastore, 1) := by decide +kernel
theorem dX2_record_69 : decode cX2_record 69 = .ok (.return_, 1) := by decide +kernel
set_option maxRecDepth 20000 in
theorem ggX2_goesBefore_X2_timeOf : GoodIn wsX2_goesBefore wsX2_timeOf := goodIn_r _ [7, 1, 8, 9, 10, 11] (by decide +kernel) (by decide +kernel)
set_option maxRecDepth 20000 in
theorem gX2_goesBefore_X2_timeOf : GoodIn wsX2_goesBefore (wsV RX2 28 RX2 yX2_timeOf wsX2_timeOf) := goodIn_app (goodIn_of _ (by decide +kernel)) ggX2_goesBefore_X2_timeOf
theorem dX2_goesBefore_0 : decode cX2_goesBefore 0 = .ok (.aload_n 0, 1) := by decide +kernel
theorem dX2_goesBefore_1 : decode cX2_goesBefore 1 = .ok (.getfield 15, 3) := by decide +kernel
theorem dX2_goesBefore_4 : decode cX2_goesBefore 4 = .ok (.iload_n 1, 1) := by decide +kernel
theorem dX2_goesBefore_5 : decode cX2_goesBefore 5 = .ok (.iaload, 1) := by decide +kernel
theorem dX2_goesBefore_6 : decode cX2_goesBefore 6 = .ok (.aload_n 0, 1) := by decide +kernel
theorem dX2_goesBefore_7 : decode cX2_goesBefore 7 = .ok (.getfield 24, 3) := by decide +kernel
theorem dX2_goesBefore_10 : decode cX2_goesBefore 10 = .ok (.if_icmp .ge 7, 3) := by decide +kernel
theorem dX2_goesBefore_13 : decode cX2_goesBefore 13 = .ok (.iconst 1, 1) := by decide +kernel
theorem dX2_goesBefore_14 : decode cX2_goesBefore 14 = .ok (.goto 4, 3) := by decide +kernel
theorem dX2_goesBefore_17 : decode cX2_goesBefore 17 = .ok (.iconst 0, 1) := by decide +kernel
theorem dX2_goesBefore_18 : decode cX2_goesBefore 18 = .ok (.istore_n 3, 1) := by decide +kernel
theorem dX2_goesBefore_19 : decode cX2_goesBefore 19 = .ok (.aload_n 0, 1) := by decide +kernel
theorem dX2_goesBefore_20 : decode cX2_goesBefore 20 = .ok (.getfield 15, 3) := by decide +kernel
theorem dX2_goesBefore_23 : decode cX2_goesBefore 23 = .ok (.iload_n 2, 1) := by decide +kernel
theorem dX2_goesBefore_24 : decode cX2_goesBefore 24 = .ok (.iaload, 1) := by decide +kernel
theorem dX2_goesBefore_25 : decode cX2_goesBefore 25 = .ok (.aload_n 0, 1) := by decide +kernel
theorem dX2_goesBefore_26 : decode cX2_goesBefore 26 = .ok (.getfield 24, 3) := by decide +kernel
theorem dX2_goesBefore_29 : decode cX2_goesBefore 29 = .ok (.if_icmp .ge 7, 3) := by decide +kernel
theorem dX2_goesBefore_32 : decode cX2_goesBefore 32 = .ok (.iconst 1, 1) := by decide +kernel
theorem dX2_goesBefore_33 : decode cX2_goesBefore 33 = .ok (.goto 4, 3) := by decide +kernel
theorem dX2_goesBefore_36 : decode cX2_goesBefore 36 = .ok (.iconst 0, 1) := by decide +kernel
theorem dX2_goesBefore_37 : decode cX2_goesBefore 37 = .ok (.istore 4, 2) := by decide +kernel
theorem dX2_goesBefore_39 : decode cX2_goesBefore 39 = .ok (.iload_n 3, 1) := by decide +kernel
theorem dX2_goesBefore_40 : decode cX2_goesBefore 40 = .ok (.iload 4, 2) := by decide +kernel
theorem dX2_goesBefore_42 : decode cX2_goesBefore 42 = .ok (.if_icmp .eq 5, 3) := by decide +kernel
theorem dX2_goesBefore_45 : decode cX2_goesBefore 45 = .ok (.iload_n 3, 1) := by decide +kernel
theorem dX2_goesBefore_46 : decode cX2_goesBefore 46 = .ok (.ireturn, 1) := by decide +kernel
theorem dX2_goesBefore_47 : decode cX2_goesBefore 47 = .ok (.iload_n 3, 1) := by decide +kernel
theorem dX2_goesBefore_48 : decode cX2_goesBefore 48 = .ok (.ifCond .eq 7, 3) := by decide +kernel
theorem dX2_goesBefore_51 : decode cX2_goesBefore 51 = .ok (.iconst 1, 1) := by decide +kernel
theorem dX2_goesBefore_52 : decode cX2_goesBefore 52 = .ok (.goto 7, 3) := by decide +kernel
theorem dX2_goesBefore_55 : decode cX2_goesBefore 55 = .ok (.aload_n 0, 1) := by decide +kernel
theorem dX2_goesBefore_56 : decode cX2_goesBefore 56 = .ok (.getfield 24, 3) := by decide +kernel
theorem dX2_goesBefore_59 : decode cX2_goesBefore 59 = .ok (.istore 5, 2) := by decide +kernel
theorem dX2_goesBefore_61 : decode cX2_goesBefore 61 = .ok (.aload_n 0, 1) := by decide +kernel
theorem dX2_goesBefore_62 : decode cX2_goesBefore 62 = .ok (.iload_n 1, 1) := by decide +kernel
theorem dX2_goesBefore_63 : decode cX2_goesBefore 63 = .ok (.iload 5, 2) := by decide +kernel
theorem dX2_goesBefore_65 : decode cX2_goesBefore 65 = .ok (.invokevirtual 28, 3) := by decide +kernel
theorem dX2_goesBefore_68 : decode cX2_goesBefore 68 = .ok (.aload_n 0, 1) := by decide +kernel
theorem dX2_goesBefore_69 : decode cX2_goesBefore 69 = .ok (.iload_n 2, 1) := by decide +kernel
theorem dX2_goesBefore_70 : decode cX2_goesBefore 70 = .ok (.iload 5, 2) := by decide +kernel
theorem dX2_goesBefore_72 : decode cX2_goesBefore 72 = .ok (.invokevirtual 28, 3) := by decide +kernel
theorem dX2_goesBefore_75 : decode cX2_goesBefore 75 = .ok (.if_icmp .ge 7, 3) := by decide +kernel
theorem dX2_goesBefore_78 : decode cX2_goesBefore 78 = .ok (.iconst 1, 1) := by decide +kernel
theorem dX2_goesBefore_79 : decode cX2_goesBefore 79 = .ok (.goto 4, 3) := by decide +kernel
theorem dX2_goesBefore_82 : decode cX2_goesBefore 82 = .ok (.iconst 0, 1) := by decide +kernel
theorem dX2_goesBefore_83 : decode cX2_goesBefore 83 = .ok (.ireturn, 1) := by decide +kernel
theorem dX3_init_0 : decode cX3_init 0 = .ok (.aload_n 0, 1) := by decide +kernel
theorem dX3_init_1 : decode cX3_init 1 = .ok (.invokespecial 3, 3) := by decide +kernel
theorem dX3_init_4 : decode cX3_init 4 = .ok (.aload_n 0, 1) := by decide +kernel
theorem dX3_init_5 : decode cX3_init 5 = .ok (.bipush 8, 2) := by decide +kernel
theorem dX3_init_7 : decode cX3_init 7 = .ok (.newarray .int, 2) := by decide +kernel
theorem dX3_init_9 : decode cX3_init 9 = .ok (.putfield 9, 3) := by decide +kernel
theorem dX3_init_12 : decode cX3_init 12 = .ok (.aload_n 0, 1) := by decide +kernel
theorem dX3_init_13 : decode cX3_init 13 = .ok (.bipush 8, 2) := by decide +kernel
theorem dX3_init_15 : decode cX3_init 15 = .ok (.newarray .int, 2) := by decide +kernel
theorem dX3_init_17 : decode cX3_init 17 = .ok (.putfield 15, 3) := by decide +kernel
theorem dX3_init_20 : decode cX3_init 20 = .ok (.return_, 1) := by decide +kernel
theorem dX3_empty_0 : decode cX3_empty 0 = .ok (.aload_n 0, 1) := by decide +kernel
theorem dX3_empty_1 : decode cX3_empty 1 = .ok (.iconst 0, 1) := by decide +kernel
theorem dX3_empty_2 : decode cX3_empty 2 = .ok (.putfield 18, 3) := by decide +kernel
theorem dX3_empty_5 : decode cX3_empty 5 = .ok (.aload_n 0, 1) := by decide +kernel
theorem dX3_empty_6 : decode cX3_empty 6 = .ok (.iload_n 1, 1) := by decide +kernel
theorem dX3_empty_7 : decode cX3_empty 7 = .ok (.putfield 22, 3) := by decide +kernel
theorem dX3_empty_10 : decode cX3_empty 10 = .ok (.return_, 1) := by decide +kernel
theorem dX3_length_0 : decode cX3_length 0 = .ok (.aload_n 0, 1) := by decide +kernel
theorem dX3_length_1 : decode cX3_length 1 = .ok (.getfield 18, 3) := by decide +kernel
theorem dX3_length_4 : decode cX3_length 4 = .ok (.ireturn, 1) := by decide +kernel
theorem dX3_isFull_0 : decode cX3_isFull 0 = .ok (.aload_n 0, 1) := by decide +kernel
theorem dX3_isFull_1 : decode cX3_isFull 1 = .ok (.getfield 18, 3) := by decide +kernel
theorem dX3_isFull_4 : decode cX3_isFull 4 = .ok (.aload_n 0, 1) := by decide +kernel
theorem dX3_isFull_5 : decode cX3_isFull 5 = .ok (.getfield 22, 3) := by decide +kernel
theorem dX3_isFull_8 : decode cX3_isFull 8 = .ok (.if_icmp .lt 7, 3) := by decide +kernel
theorem dX3_isFull_11 : decode cX3_isFull 11 = .ok (.iconst 1, 1) := by decide +kernel
theorem dX3_isFull_12 : decode cX3_isFull 12 = .ok (.goto 4, 3) := by decide +kernel
theorem dX3_isFull_15 : decode cX3_isFull 15 = .ok (.iconst 0, 1) := by decide +kernel
theorem dX3_isFull_16 : decode cX3_isFull 16 = .ok (.ireturn, 1) := by decide +kernel
set_option maxRecDepth 20000 in
theorem ggX3_pageAt_X3_has : GoodIn wsX3_pageAt wsX3_has := goodIn_r _ [6, 7, 8, 9, 10, 11] (by decide +kernel) (by decide +kernel)
set_option maxRecDepth 20000 in
theorem gX3_pageAt_X3_has : GoodIn wsX3_pageAt (wsV RX3 25 RX3 yX3_has wsX3_has) := goodIn_app (goodIn_of _ (by decide +kernel)) ggX3_pageAt_X3_has
theorem dX3_pageAt_0 : decode cX3_pageAt 0 = .ok (.aload_n 0, 1) := by decide +kernel
theorem dX3_pageAt_1 : decode cX3_pageAt 1 = .ok (.iload_n 1, 1) := by decide +kernel
theorem dX3_pageAt_2 : decode cX3_pageAt 2 = .ok (.invokevirtual 25, 3) := by decide +kernel
theorem dX3_pageAt_5 : decode cX3_pageAt 5 = .ok (.ifCond .eq 12, 3) := by decide +kernel
theorem dX3_pageAt_8 : decode cX3_pageAt 8 = .ok (.aload_n 0, 1) := by decide +kernel
theorem dX3_pageAt_9 : decode cX3_pageAt 9 = .ok (.getfield 9, 3) := by decide +kernel
theorem dX3_pageAt_12 : decode cX3_pageAt 12 = .ok (.iload_n 1, 1) := by decide +kernel
theorem dX3_pageAt_13 : decode cX3_pageAt 13 = .ok (.iaload, 1) := by decide +kernel
theorem dX3_pageAt_14 : decode cX3_pageAt 14 = .ok (.goto 5, 3) := by decide +kernel
theorem dX3_pageAt_17 : decode cX3_pageAt 17 = .ok (.bipush (-9), 2) := by decide +kernel
theorem dX3_pageAt_19 : decode cX3_pageAt 19 = .ok (.ireturn, 1) := by decide +kernel
set_option maxRecDepth 20000 in
theorem ggX3_valueAt_X3_has : GoodIn wsX3_valueAt wsX3_has := goodIn_r _ [6, 7, 8, 9, 10, 11] (by decide +kernel) (by decide +kernel)
set_option maxRecDepth 20000 in
theorem gX3_valueAt_X3_has : GoodIn wsX3_valueAt (wsV RX3 25 RX3 yX3_has wsX3_has) := goodIn_app (goodIn_of _ (by decide +kernel)) ggX3_valueAt_X3_has
theorem dX3_valueAt_0 : decode cX3_valueAt 0 = .ok (.aload_n 0, 1) := by decide +kernel
theorem dX3_valueAt_1 : decode cX3_valueAt 1 = .ok (.iload_n 1, 1) := by decide +kernel
theorem dX3_valueAt_2 : decode cX3_valueAt 2 = .ok (.invokevirtual 25, 3) := by decide +kernel
theorem dX3_valueAt_5 : decode cX3_valueAt 5 = .ok (.ifCond .eq 12, 3) := by decide +kernel
theorem dX3_valueAt_8 : decode cX3_valueAt 8 = .ok (.aload_n 0, 1) := by decide +kernel
theorem dX3_valueAt_9 : decode cX3_valueAt 9 = .ok (.getfield 15, 3) := by decide +kernel
theorem dX3_valueAt_12 : decode cX3_valueAt 12 = .ok (.iload_n 1, 1) := by decide +kernel
theorem dX3_valueAt_13 : decode cX3_valueAt 13 = .ok (.iaload, 1) := by decide +kernel
theorem dX3_valueAt_14 : decode cX3_valueAt 14 = .ok (.goto 5, 3) := by decide +kernel
theorem dX3_valueAt_17 : decode cX3_valueAt 17 = .ok (.bipush (-9), 2) := by decide +kernel
theorem dX3_valueAt_19 : decode cX3_valueAt 19 = .ok (.ireturn, 1) := by decide +kernel
theorem dX3_positionOf_0 : decode cX3_positionOf 0 = .ok (.iconst 0, 1) := by decide +kernel
theorem dX3_positionOf_1 : decode cX3_positionOf 1 = .ok (.istore_n 2, 1) := by decide +kernel
theorem dX3_positionOf_2 : decode cX3_positionOf 2 = .ok (.iload_n 2, 1) := by decide +kernel
theorem dX3_positionOf_3 : decode cX3_positionOf 3 = .ok (.aload_n 0, 1) := by decide +kernel
theorem dX3_positionOf_4 : decode cX3_positionOf 4 = .ok (.getfield 18, 3) := by decide +kernel
theorem dX3_positionOf_7 : decode cX3_positionOf 7 = .ok (.if_icmp .ge 21, 3) := by decide +kernel
theorem dX3_positionOf_10 : decode cX3_positionOf 10 = .ok (.aload_n 0, 1) := by decide +kernel
theorem dX3_positionOf_11 : decode cX3_positionOf 11 = .ok (.getfield 9, 3) := by decide +kernel
theorem dX3_positionOf_14 : decode cX3_positionOf 14 = .ok (.iload_n 2, 1) := by decide +kernel
theorem dX3_positionOf_15 : decode cX3_positionOf 15 = .ok (.iaload, 1) := by decide +kernel
theorem dX3_positionOf_16 : decode cX3_positionOf 16 = .ok (.iload_n 1, 1) := by decide +kernel
theorem dX3_positionOf_17 : decode cX3_positionOf 17 = .ok (.if_icmp .ne 5, 3) := by decide +kernel
theorem dX3_positionOf_20 : decode cX3_positionOf 20 = .ok (.iload_n 2, 1) := by decide +kernel
theorem dX3_positionOf_21 : decode cX3_positionOf 21 = .ok (.ireturn, 1) := by decide +kernel
theorem dX3_positionOf_22 : decode cX3_positionOf 22 = .ok (.iinc 2 1, 3) := by decide +kernel
theorem dX3_positionOf_25 : decode cX3_positionOf 25 = .ok (.goto (-23), 3) := by decide +kernel
theorem dX3_positionOf_28 : decode cX3_positionOf 28 = .ok (.bipush (-9), 2) := by decide +kernel
theorem dX3_positionOf_30 : decode cX3_positionOf 30 = .ok (.ireturn, 1) := by decide +kernel
set_option maxRecDepth 20000 in
theorem ggX3_append_X3_isFull : GoodIn wsX3_append wsX3_isFull := goodIn_r _ [8, 2, 9, 10, 11, 12, 13] (by decide +kernel) (by decide +kernel)
set_option maxRecDepth 20000 in
theorem gX3_append_X3_isFull : GoodIn wsX3_append (wsV RX3 29 RX3 yX3_isFull wsX3_isFull) := goodIn_app (goodIn_of _ (by decide +kernel)) ggX3_append_X3_isFull
theorem dX3_append_0 : decode cX3_append 0 = .ok (.aload_n 0, 1) := by decide +kernel
theorem dX3_append_1 : decode cX3_append 1 = .ok (.invokevirtual 29, 3) := by decide +kernel
theorem dX3_append_4 : decode cX3_append 4 = .ok (.ifCond .eq 4, 3) := by decide +kernel
theorem dX3_append_7 : decode cX3_append 7 = .ok (.return_, 1) := by decide +kernel
theorem dX3_append_8 : decode cX3_append 8 = .ok (.aload_n 0, 1) := by decide +kernel
theorem dX3_append_9 : decode cX3_append 9 = .ok (.getfield 9, 3) := by decide +kernel
theorem dX3_append_12 : decode cX3_append 12 = .ok (.aload_n 0, 1) := by decide +kernel
theorem dX3_append_13 : decode cX3_append 13 = .ok (.getfield 18, 3) := by decide +kernel
theorem dX3_append_16 : decode cX3_append 16 = .ok (.iload_n 1, 1) := by decide +kernel
theorem dX3_append_17 : decode cX3_append 17 = .ok (.iastore, 1) := by decide +kernel
theorem dX3_append_18 : decode cX3_append 18 = .ok (.aload_n 0, 1) := by decide +kernel
theorem dX3_append_19 : decode cX3_append 19 = .ok (.getfield 15, 3) := by decide +kernel
theorem dX3_append_22 : decode cX3_append 22 = .ok (.aload_n 0, 1) := by decide +kernel
theorem dX3_append_23 : decode cX3_append 23 = .ok (.getfield 18, 3) := by decide +kernel
theorem dX3_append_26 : decode cX3_append 26 = .ok (.iload_n 2, 1) := by decide +kernel
theorem dX3_append_27 : decode cX3_append 27 = .ok (.iastore, 1) := by decide +kernel
theorem dX3_append_28 : decode cX3_append 28 = .ok (.aload_n 0, 1) := by decide +kernel
theorem dX3_append_29 : decode cX3_append 29 = .ok (.dup, 1) := by decide +kernel
theorem dX3_append_30 : decode cX3_append 30 = .ok (.getfield 18, 3) := by decide +kernel
theorem dX3_append_33 : decode cX3_append 33 = .ok (.iconst 1, 1) := by decide +kernel
theorem dX3_append_34 : decode cX3_append 34 = .ok (.iadd, 1) := by decide +kernel
theorem dX3_append_35 : decode cX3_append 35 = .ok (.putfield 18, 3) := by decide +kernel
theorem dX3_append_38 : decode cX3_append 38 = .ok (.return_, 1) := by decide +kernel
set_option maxRecDepth 20000 in
theorem ggX3_removeAt_X3_has : GoodIn wsX3_removeAt wsX3_has := goodIn_r _ [8, 1, 9, 10, 11, 12] (by decide +kernel) (by decide +kernel)
set_option maxRecDepth 20000 in
theorem gX3_removeAt_X3_has : GoodIn wsX3_removeAt (wsV RX3 25 RX3 yX3_has wsX3_has) := goodIn_app (goodIn_of _ (by decide +kernel)) ggX3_removeAt_X3_has
theorem dX3_removeAt_0 : decode cX3_removeAt 0 = .ok (.aload_n 0, 1) := by decide +kernel
theorem dX3_removeAt_1 : decode cX3_removeAt 1 = .ok (.iload_n 1, 1) := by decide +kernel
theorem dX3_removeAt_2 : decode cX3_removeAt 2 = .ok (.invokevirtual 25, 3) := by decide +kernel
theorem dX3_removeAt_5 : decode cX3_removeAt 5 = .ok (.ifCond .ne 4, 3) := by decide +kernel
theorem dX3_removeAt_8 : decode cX3_removeAt 8 = .ok (.return_, 1) := by decide +kernel
theorem dX3_removeAt_9 : decode cX3_removeAt 9 = .ok (.aload_n 0, 1) := by decide +kernel
theorem dX3_removeAt_10 : decode cX3_removeAt 10 = .ok (.dup, 1) := by decide +kernel
theorem dX3_removeAt_11 : decode cX3_removeAt 11 = .ok (.getfield 18, 3) := by decide +kernel
theorem dX3_removeAt_14 : decode cX3_removeAt 14 = .ok (.iconst 1, 1) := by decide +kernel
theorem dX3_removeAt_15 : decode cX3_removeAt 15 = .ok (.isub, 1) := by decide +kernel
theorem dX3_removeAt_16 : decode cX3_removeAt 16 = .ok (.putfield 18, 3) := by decide +kernel
theorem dX3_removeAt_19 : decode cX3_removeAt 19 = .ok (.iload_n 1, 1) := by decide +kernel
theorem dX3_removeAt_20 : decode cX3_removeAt 20 = .ok (.istore_n 2, 1) := by decide +kernel
theorem dX3_removeAt_21 : decode cX3_removeAt 21 = .ok (.iload_n 2, 1) := by decide +kernel
theorem dX3_removeAt_22 : decode cX3_removeAt 22 = .ok (.aload_n 0, 1) := by decide +kernel
theorem dX3_removeAt_23 : decode cX3_removeAt 23 = .ok (.getfield 18, 3) := by decide +kernel
theorem dX3_removeAt_26 : decode cX3_removeAt 26 = .ok (.if_icmp .ge 37, 3) := by decide +kernel
theorem dX3_removeAt_29 : decode cX3_removeAt 29 = .ok (.aload_n 0, 1) := by decide +kernel
theorem dX3_removeAt_30 : decode cX3_removeAt 30 = .ok (.getfield 9, 3) := by decide +kernel
theorem dX3_removeAt_33 : decode cX3_removeAt 33 = .ok (.iload_n 2, 1) := by decide +kernel
theorem dX3_removeAt_34 : decode cX3_removeAt 34 = .ok (.aload_n 0, 1) := by decide +kernel
theorem dX3_removeAt_35 : decode cX3_removeAt 35 = .ok (.getfield 9, 3) := by decide +kernel
theorem dX3_removeAt_38 : decode cX3_removeAt 38 = .ok (.iload_n 2, 1) := by decide +kernel
theorem dX3_removeAt_39 : decode cX3_removeAt 39 = .ok (.iconst 1, 1) := by decide +kernel
theorem dX3_removeAt_40 : decode cX3_removeAt 40 = .ok (.iadd, 1) := by decide +kernel
theorem dX3_removeAt_41 : decode cX3_removeAt 41 = .ok (.iaload, 1) := by decide +kernel
theorem dX3_removeAt_42 : decode cX3_removeAt 42 = .ok (.iastore, 1) := by decide +kernel
theorem dX3_removeAt_43 : decode cX3_removeAt 43 = .ok (.aload_n 0, 1) := by decide +kernel
theorem dX3_removeAt_44 : decode cX3_removeAt 44 = .ok (.getfield 15, 3) := by decide +kernel
theorem dX3_removeAt_47 : decode cX3_removeAt 47 = .ok (.iload_n 2, 1) := by decide +kernel
theorem dX3_removeAt_48 : decode cX3_removeAt 48 = .ok (.aload_n 0, 1) := by decide +kernel
theorem dX3_removeAt_49 : decode cX3_removeAt 49 = .ok (.getfield 15, 3) := by decide +kernel
theorem dX3_removeAt_52 : decode cX3_removeAt 52 = .ok (.iload_n 2, 1) := by decide +kernel
theorem dX3_removeAt_53 : decode cX3_removeAt 53 = .ok (.iconst 1, 1) := by decide +kernel
theorem dX3_removeAt_54 : decode cX3_removeAt 54 = .ok (.iadd, 1) := by decide +kernel
theorem dX3_removeAt_55 : decode cX3_removeAt 55 = .ok (.iaload, 1) := by decide +kernel
theorem dX3_removeAt_56 : decode cX3_removeAt 56 = .ok (.iastore, 1) := by decide +kernel
theorem dX3_removeAt_57 : decode cX3_removeAt 57 = .ok (.iinc 2 1, 3) := by decide +kernel
theorem dX3_removeAt_60 : decode cX3_removeAt 60 = .ok (.goto (-39), 3) := by decide +kernel
theorem dX3_removeAt_63 : decode cX3_removeAt 63 = .ok (.return_, 1) := by decide +kernel
theorem dX3_has_0 : decode cX3_has 0 = .ok (.iload_n 1, 1) := by decide +kernel
theorem dX3_has_1 : decode cX3_has 1 = .ok (.ifCond .lt 15, 3) := by decide +kernel
theorem dX3_has_4 : decode cX3_has 4 = .ok (.iload_n 1, 1) := by decide +kernel
theorem dX3_has_5 : decode cX3_has 5 = .ok (.aload_n 0, 1) := by decide +kernel
theorem dX3_has_6 : decode cX3_has 6 = .ok (.getfield 18, 3) := by decide +kernel
theorem dX3_has_9 : decode cX3_has 9 = .ok (.if_icmp .ge 7, 3) := by decide +kernel
theorem dX3_has_12 : decode cX3_has 12 = .ok (.iconst 1, 1) := by decide +kernel
theorem dX3_has_13 : decode cX3_has 13 = .ok (.goto 4, 3) := by decide +kernel
theorem dX3_has_16 : decode cX3_has 16 = .ok (.iconst 0, 1) := by decide +kernel
theorem dX3_has_17 : decode cX3_has 17 = .ok (.ireturn, 1) := by decide +kernel
theorem dJ9_min_7cf53_0 : decode cJ9_min_7cf53 0 = .ok (.iload_n 0, 1) := by decide +kernel
theorem dJ9_min_7cf53_1 : decode cJ9_min_7cf53 1 = .ok (.iload_n 1, 1) := by decide +kernel
theorem dJ9_min_7cf53_2 : decode cJ9_min_7cf53 2 = .ok (.if_icmp .gt 7, 3) := by decide +kernel
theorem dJ9_min_7cf53_5 : decode cJ9_min_7cf53 5 = .ok (.iload_n 0, 1) := by decide +kernel
theorem dJ9_min_7cf53_6 : decode cJ9_min_7cf53 6 = .ok (.goto 4, 3) := by decide +kernel
theorem dJ9_min_7cf53_9 : decode cJ9_min_7cf53 9 = .ok (.iload_n 1, 1) := by decide +kernel
theorem dJ9_min_7cf53_10 : decode cJ9_min_7cf53 10 = .ok (.ireturn, 1) := by decide +kernel
theorem dJ7_fill_53178_0 : decode cJ7_fill_53178 0 = .ok (.iconst 0, 1) := by decide +kernel
theorem dJ7_fill_53178_1 : decode cJ7_fill_53178 1 = .ok (.istore_n 2, 1) := by decide +kernel
theorem dJ7_fill_53178_2 : decode cJ7_fill_53178 2 = .ok (.aload_n 0, 1) := by decide +kernel
theorem dJ7_fill_53178_3 : decode cJ7_fill_53178 3 = .ok (.arraylength, 1) := by decide +kernel
theorem dJ7_fill_53178_4 : decode cJ7_fill_53178 4 = .ok (.istore_n 3, 1) := by decide +kernel
theorem dJ7_fill_53178_5 : decode cJ7_fill_53178 5 = .ok (.iload_n 2, 1) := by decide +kernel
theorem dJ7_fill_53178_6 : decode cJ7_fill_53178 6 = .ok (.iload_n 3, 1) := by decide +kernel
theorem dJ7_fill_53178_7 : decode cJ7_fill_53178 7 = .ok (.if_icmp .ge 13, 3) := by decide +kernel
theorem dJ7_fill_53178_10 : decode cJ7_fill_53178 10 = .ok (.aload_n 0, 1) := by decide +kernel
theorem dJ7_fill_53178_11 : decode cJ7_fill_53178 11 = .ok (.iload_n 2, 1) := by decide +kernel
theorem dJ7_fill_53178_12 : decode cJ7_fill_53178 12 = .ok (.iload_n 1, 1) := by decide +kernel
theorem dJ7_fill_53178_13 : decode cJ7_fill_53178 13 = .ok (.iastore, 1) := by decide +kernel
theorem dJ7_fill_53178_14 : decode cJ7_fill_53178 14 = .ok (.iinc 2 1, 3) := by decide +kernel
theorem dJ7_fill_53178_17 : decode cJ7_fill_53178 17 = .ok (.goto (-12), 3) := by decide +kernel
theorem dJ7_fill_53178_20 : decode cJ7_fill_53178 20 = .ok (.return_, 1) := by decide +kernel
end
section
set_option maxRecDepth 20000 in
theorem ggX4_init_X0_init : GoodIn wsX4_init wsX0_init := goodIn_r _ [22, 23, 2, 3, 24, 25, 90, 91, 92] (by decide +kernel) (by decide +kernel)
set_option maxRecDepth 20000 in
theorem gX4_init_X0_init : GoodIn wsX4_init (wsX0_init) := ggX4_init_X0_init
set_option maxRecDepth 20000 in
theorem ggX4_init_X1_init : GoodIn wsX4_init wsX1_init := goodIn_r _ [28, 29, 2, 3, 30, 31, 32, 24, 33, 34, 103, 104, 105, 106, 107, 108] (by decide +kernel) (by decide +kernel)
set_option maxRecDepth 20000 in
theorem gX4_init_X1_init : GoodIn wsX4_init (wsX1_init) := ggX4_init_X1_init
set_option maxRecDepth 20000 in
theorem ggX4_init_X3_init : GoodIn wsX4_init wsX3_init := goodIn_r _ [37, 38, 2, 3, 24, 39, 40, 109, 110, 111, 112] (by decide +kernel) (by decide +kernel)
set_option maxRecDepth 20000 in
theorem gX4_init_X3_init : GoodIn wsX4_init (wsX3_init) := ggX4_init_X3_init
set_option maxRecDepth 20000 in
theorem ggX4_init_X2_init : GoodIn wsX4_init wsX2_init := goodIn_r _ [43, 44, 2, 3, 24, 45, 46, 113, 114, 115] (by decide +kernel) (by decide +kernel)
set_option maxRecDepth 20000 in
theorem gX4_init_X2_init : GoodIn wsX4_init (wsX2_init) := ggX4_init_X2_init
set_option maxRecDepth 20000 in
theorem ggX4_init_X4_startAnew : GoodIn wsX4_init wsX4_startAnew := goodIn_r _ [51, 7, 11, 15, 19, 52, 53, 54, 55, 56, 57, 58, 59, 60, 6, 61, 25, 62, 63, 64, 65, 66, 67, 68, 69, 70, 10, 71, 72, 73, 74, 75, 76, 77, 31, 32, 34, 78, 79, 80, 14, 81, 82, 83, 84, 85, 86, 18, 87, 46, 88, 89, 93, 94, 95, 96, 97, 98, 99, 100, 101, 102, 90, 91, 92, 103, 104, 105, 106, 107, 108, 109, 110, 111, 112, 113, 114, 115] (by decide +kernel) (by decide +kernel)
set_option maxRecDepth 20000 in
theorem gX4_init_X4_startAnew : GoodIn wsX4_init (wsV RX4 37 RX4 yX4_startAnew wsX4_startAnew) := goodIn_app (goodIn_of _ (by decide +kernel)) ggX4_init_X4_startAnew
theorem dX4_init_0 : decode cX4_init 0 = .ok (.aload_n 0, 1) := by decide +kernel
theorem dX4_init_1 : decode cX4_init 1 = .ok (.invokespecial 1, 3) := by decide +kernel
theorem dX4_init_4 : decode cX4_init 4 = .ok (.aload_n 0, 1) := by decide +kernel
theorem dX4_init_5 : decode cX4_init 5 = .ok (.new 7, 3) := by decide +kernel
theorem dX4_init_8 : decode cX4_init 8 = .ok (.dup, 1) := by decide +kernel
theorem dX4_init_9 : decode cX4_init 9 = .ok (.invokespecial 9, 3) := by decide +kernel
theorem dX4_init_12 : decode cX4_init 12 = .ok (.putfield 10, 3) := by decide +kernel
theorem dX4_init_15 : decode cX4_init 15 = .ok (.aload_n 0, 1) := by decide +kernel
theorem dX4_init_16 : decode cX4_init 16 = .ok (.new 16, 3) := by decide +kernel
theorem dX4_init_19 : decode cX4_init 19 = .ok (.dup, 1) := by decide +kernel
theorem dX4_init_20 : decode cX4_init 20 = .ok (.invokespecial 18, 3) := by decide +kernel
theorem dX4_init_23 : decode cX4_init 23 = .ok (.putfield 19, 3) := by decide +kernel
theorem dX4_init_26 : decode cX4_init 26 = .ok (.aload_n 0, 1) := by decide +kernel
theorem dX4_init_27 : decode cX4_init 27 = .ok (.new 23, 3) := by decide +kernel
theorem dX4_init_30 : decode cX4_init 30 = .ok (.dup, 1) := by decide +kernel
theorem dX4_init_31 : decode cX4_init 31 = .ok (.invokespecial 25, 3) := by decide +kernel
theorem dX4_init_34 : decode cX4_init 34 = .ok (.putfield 26, 3) := by decide +kernel
theorem dX4_init_37 : decode cX4_init 37 = .ok (.aload_n 0, 1) := by decide +kernel
theorem dX4_init_38 : decode cX4_init 38 = .ok (.new 30, 3) := by decide +kernel
theorem dX4_init_41 : decode cX4_init 41 = .ok (.dup, 1) := by decide +kernel
theorem dX4_init_42 : decode cX4_init 42 = .ok (.invokespecial 32, 3) := by decide +kernel
theorem dX4_init_45 : decode cX4_init 45 = .ok (.putfield 33, 3) := by decide +kernel
theorem dX4_init_48 : decode cX4_init 48 = .ok (.aload_n 0, 1) := by decide +kernel
theorem dX4_init_49 : decode cX4_init 49 = .ok (.iconst 4, 1) := by decide +kernel
theorem dX4_init_50 : decode cX4_init 50 = .ok (.iconst 2, 1) := by decide +kernel
theorem dX4_init_51 : decode cX4_init 51 = .ok (.iconst 3, 1) := by decide +kernel
theorem dX4_init_52 : decode cX4_init 52 = .ok (.bipush 100, 2) := by decide +kernel
theorem dX4_init_54 : decode cX4_init 54 = .ok (.invokevirtual 37, 3) := by decide +kernel
theorem dX4_init_57 : decode cX4_init 57 = .ok (.return_, 1) := by decide +kernel
set_option maxRecDepth 20000 in
theorem ggX4_reset_X4_isWithin : GoodIn wsX4_reset wsX4_isWithin := goodIn_r _ [4] (by decide +kernel) (by decide +kernel)
set_option maxRecDepth 20000 in
theorem gX4_reset_X4_isWithin : GoodIn wsX4_reset (va_wsS RX4 41 yX4_isWithin wsX4_isWithin) := goodIn_app (goodIn_of _ (by decide +kernel)) ggX4_reset_X4_isWithin
set_option maxRecDepth 20000 in
theorem ggX4_reset_X4_startAnew : GoodIn wsX4_reset wsX4_startAnew := goodIn_r _ [8, 9, 10, 11, 12, 13, 14, 15, 16, 17, 18, 19, 20, 21, 22, 23, 24, 25, 26, 27, 28, 29, 30, 31, 32, 33, 34, 35, 36, 37, 38, 39, 40, 41, 42, 43, 44, 45, 46, 47, 48, 49, 50, 51, 52, 53, 54, 55, 56, 57, 58, 59, 60, 61, 62, 63, 64, 65, 66, 67, 68, 69, 70, 71, 72, 73, 74, 75, 76, 77, 78, 79, 80, 81, 82, 83, 84, 85] (by decide +kernel) (by decide +kernel)
set_option maxRecDepth 20000 in
theorem gX4_reset_X4_startAnew : GoodIn wsX4_reset (wsV RX4 37 RX4 yX4_startAnew wsX4_startAnew) := goodIn_app (goodIn_of _ (by decide +kernel)) ggX4_reset_X4_startAnew
theorem dX4_reset_0 : decode cX4_reset 0 = .ok (.iload_n 1, 1) := by decide +kernel
theorem dX4_reset_1 : decode cX4_reset 1 = .ok (.iconst 1, 1) := by decide +kernel
theorem dX4_reset_2 : decode cX4_reset 2 = .ok (.bipush 16, 2) := by decide +kernel
theorem dX4_reset_4 : decode cX4_reset 4 = .ok (.invokestatic 41, 3) := by decide +kernel
theorem dX4_reset_7 : decode cX4_reset 7 = .ok (.ifCond .eq 34, 3) := by decide +kernel
theorem dX4_reset_10 : decode cX4_reset 10 = .ok (.iload_n 2, 1) := by decide +kernel
theorem dX4_reset_11 : decode cX4_reset 11 = .ok (.iconst 1, 1) := by decide +kernel
theorem dX4_reset_12 : decode cX4_reset 12 = .ok (.iconst 3, 1) := by decide +kernel
theorem dX4_reset_13 : decode cX4_reset 13 = .ok (.invokestatic 41, 3) := by decide +kernel
theorem dX4_reset_16 : decode cX4_reset 16 = .ok (.ifCond .eq 25, 3) := by decide +kernel
theorem dX4_reset_19 : decode cX4_reset 19 = .ok (.iload_n 3, 1) := by decide +kernel
theorem dX4_reset_20 : decode cX4_reset 20 = .ok (.iconst 1, 1) := by decide +kernel
theorem dX4_reset_21 : decode cX4_reset 21 = .ok (.bipush 8, 2) := by decide +kernel
theorem dX4_reset_23 : decode cX4_reset 23 = .ok (.invokestatic 41, 3) := by decide +kernel
theorem dX4_reset_26 : decode cX4_reset 26 = .ok (.ifCond .eq 15, 3) := by decide +kernel
theorem dX4_reset_29 : decode cX4_reset 29 = .ok (.iload 4, 2) := by decide +kernel
theorem dX4_reset_31 : decode cX4_reset 31 = .ok (.iconst 0, 1) := by decide +kernel
theorem dX4_reset_32 : decode cX4_reset 32 = .ok (.sipush 9999, 3) := by decide +kernel
theorem dX4_reset_35 : decode cX4_reset 35 = .ok (.invokestatic 41, 3) := by decide +kernel
theorem dX4_reset_38 : decode cX4_reset 38 = .ok (.ifCond .ne 6, 3) := by decide +kernel
theorem dX4_reset_41 : decode cX4_reset 41 = .ok (.bipush (-8), 2) := by decide +kernel
theorem dX4_reset_43 : decode cX4_reset 43 = .ok (.ireturn, 1) := by decide +kernel
theorem dX4_reset_44 : decode cX4_reset 44 = .ok (.aload_n 0, 1) := by decide +kernel
theorem dX4_reset_45 : decode cX4_reset 45 = .ok (.iload_n 1, 1) := by decide +kernel
theorem dX4_reset_46 : decode cX4_reset 46 = .ok (.iload_n 2, 1) := by decide +kernel
theorem dX4_reset_47 : decode cX4_reset 47 = .ok (.iload_n 3, 1) := by decide +kernel
theorem dX4_reset_48 : decode cX4_reset 48 = .ok (.iload 4, 2) := by decide +kernel
theorem dX4_reset_50 : decode cX4_reset 50 = .ok (.invokevirtual 37, 3) := by decide +kernel
theorem dX4_reset_53 : decode cX4_reset 53 = .ok (.iconst 0, 1) := by decide +kernel
theorem dX4_reset_54 : decode cX4_reset 54 = .ok (.ireturn, 1) := by decide +kernel
set_option maxRecDepth 20000 in
theorem ggX4_read_X4_isPage : GoodIn wsX4_read wsX4_isPage := goodIn_r _ [5, 6, 7, 4, 8] (by decide +kernel) (by decide +kernel)
set_option maxRecDepth 20000 in
theorem gX4_read_X4_isPage : GoodIn wsX4_read (va_wsS RX4 45 yX4_isPage wsX4_isPage) := goodIn_app (goodIn_of _ (by decide +kernel)) ggX4_read_X4_isPage
set_option maxRecDepth 20000 in
theorem ggX4_read_X4_canReference : GoodIn wsX4_read wsX4_canReference := goodIn_r _ [12, 1, 13, 14, 15, 16, 17, 18, 19, 20, 21, 22, 23, 24, 25, 26, 27, 4, 28, 29, 30, 31, 32, 33, 34, 35, 36, 37, 38, 39, 40, 41, 42, 43, 44, 45, 46, 160, 161, 162, 163, 164, 165, 166, 167, 168, 169, 170, 171, 172, 173, 174, 175, 176, 177, 178] (by decide +kernel) (by decide +kernel)
set_option maxRecDepth 20000 in
theorem gX4_read_X4_canReference : GoodIn wsX4_read (wsV RX4 49 RX4 yX4_canReference wsX4_canReference) := goodIn_app (goodIn_of _ (by decide +kernel)) ggX4_read_X4_canReference
set_option maxRecDepth 20000 in
theorem ggX4_read_X4_reference : GoodIn wsX4_read wsX4_reference := goodIn_r _ [50, 51, 1, 52, 53, 29, 13, 14, 15, 16, 17, 18, 54, 55, 56, 4, 57, 58, 19, 20, 21, 22, 23, 24, 25, 26, 27, 28, 30, 31, 32, 33, 34, 35, 36, 37, 38, 39, 40, 41, 42, 43, 44, 45, 46, 59, 60, 61, 62, 63, 64, 65, 66, 67, 68, 69, 70, 71, 72, 73, 74, 75, 76, 77, 78, 79, 80, 81, 82, 83, 84, 85, 86, 87, 88, 89, 90, 91, 92, 93, 94, 95, 96, 97, 98, 99, 100, 101, 102, 103, 104, 105, 106, 107, 108, 109, 110, 111, 112, 113, 114, 115, 116, 117, 118, 119, 120, 121, 122, 123, 124, 125, 126, 127, 128, 129, 130, 131, 132, 133, 134, 135, 136, 137, 138, 139, 140, 141, 142, 143, 144, 145, 146, 147, 148, 149, 150, 151, 152, 153, 154, 155, 156, 157, 158, 159, 160, 161, 162, 163, 164, 165, 166, 167, 168, 169, 170, 171, 172, 173, 174, 175, 176, 177, 178, 179, 180, 181, 182, 183, 184, 185] (by decide +kernel) (by decide +kernel)
set_option maxRecDepth 20000 in
theorem gX4_read_X4_reference : GoodIn wsX4_read (wsV RX4 52 RX4 yX4_reference wsX4_reference) := goodIn_app (goodIn_of _ (by decide +kernel)) ggX4_read_X4_reference
set_option maxRecDepth 20000 in
theorem ggX4_read_X1_valueOf : GoodIn wsX4_read wsX1_valueOf := goodIn_r _ [110, 111, 170, 171, 172, 173, 174, 175] (by decide +kernel) (by decide +kernel)
set_option maxRecDepth 20000 in
theorem gX4_read_X1_valueOf : GoodIn wsX4_read (wsV RX4 56 RX1 yX1_valueOf wsX1_valueOf) := goodIn_app (goodIn_of _ (by decide +kernel)) ggX4_read_X1_valueOf
theorem dX4_read_0 : decode cX4_read 0 = .ok (.iload_n 1, 1) := by decide +kernel
theorem dX4_read_1 : decode cX4_read 1 = .ok (.invokestatic 45, 3) := by decide +kernel
theorem dX4_read_4 : decode cX4_read 4 = .ok (.ifCond .ne 5, 3) := by decide +kernel
theorem dX4_read_7 : decode cX4_read 7 = .ok (.iconst (-1), 1) := by decide +kernel
theorem dX4_read_8 : decode cX4_read 8 = .ok (.ireturn, 1) := by decide +kernel
theorem dX4_read_9 : decode cX4_read 9 = .ok (.aload_n 0, 1) := by decide +kernel
theorem dX4_read_10 : decode cX4_read 10 = .ok (.iload_n 1, 1) := by decide +kernel
theorem dX4_read_11 : decode cX4_read 11 = .ok (.invokevirtual 49, 3) := by decide +kernel
theorem dX4_read_14 : decode cX4_read 14 = .ok (.ifCond .ne 6, 3) := by decide +kernel
theorem dX4_read_17 : decode cX4_read 17 = .ok (.bipush (-3), 2) := by decide +kernel
theorem dX4_read_19 : decode cX4_read 19 = .ok (.ireturn, 1) := by decide +kernel
theorem dX4_read_20 : decode cX4_read 20 = .ok (.aload_n 0, 1) := by decide +kernel
theorem dX4_read_21 : decode cX4_read 21 = .ok (.iload_n 1, 1) := by decide +kernel
theorem dX4_read_22 : decode cX4_read 22 = .ok (.invokevirtual 52, 3) := by decide +kernel
theorem dX4_read_25 : decode cX4_read 25 = .ok (.aload_n 0, 1) := by decide +kernel
theorem dX4_read_26 : decode cX4_read 26 = .ok (.getfield 19, 3) := by decide +kernel
theorem dX4_read_29 : decode cX4_read 29 = .ok (.iload_n 1, 1) := by decide +kernel
theorem dX4_read_30 : decode cX4_read 30 = .ok (.invokevirtual 56, 3) := by decide +kernel
theorem dX4_read_33 : decode cX4_read 33 = .ok (.ireturn, 1) := by decide +kernel
set_option maxRecDepth 20000 in
theorem ggX4_write_X4_isPage : GoodIn wsX4_write wsX4_isPage := goodIn_r _ [5, 6, 7, 4, 8] (by decide +kernel) (by decide +kernel)
set_option maxRecDepth 20000 in
theorem gX4_write_X4_isPage : GoodIn wsX4_write (va_wsS RX4 45 yX4_isPage wsX4_isPage) := goodIn_app (goodIn_of _ (by decide +kernel)) ggX4_write_X4_isPage
set_option maxRecDepth 20000 in
theorem ggX4_write_X4_isWithin : GoodIn wsX4_write wsX4_isWithin := goodIn_r _ [8] (by decide +kernel) (by decide +kernel)
set_option maxRecDepth 20000 in
theorem gX4_write_X4_isWithin : GoodIn wsX4_write (va_wsS RX4 41 yX4_isWithin wsX4_isWithin) := goodIn_app (goodIn_of _ (by decide +kernel)) ggX4_write_X4_isWithin
set_option maxRecDepth 20000 in
theorem ggX4_write_X4_canReference : GoodIn wsX4_write wsX4_canReference := goodIn_r _ [12, 1, 13, 14, 15, 16, 17, 18, 19, 20, 21, 22, 23, 24, 25, 26, 27, 4, 28, 29, 30, 31, 32, 33, 34, 35, 36, 37, 38, 39, 40, 41, 42, 43, 44, 45, 46, 160, 161, 162, 163, 164, 165, 166, 167, 168, 169, 170, 171, 172, 173, 174, 175, 176, 177, 178] (by decide +kernel) (by decide +kernel)
set_option maxRecDepth 20000 in
theorem gX4_write_X4_canReference : GoodIn wsX4_write (wsV RX4 49 RX4 yX4_canReference wsX4_canReference) := goodIn_app (goodIn_of _ (by decide +kernel)) ggX4_write_X4_canReference
set_option maxRecDepth 20000 in
theorem ggX4_write_X4_reference : GoodIn wsX4_write wsX4_reference := goodIn_r _ [50, 51, 1, 52, 53, 29, 13, 14, 15, 16, 17, 18, 54, 55, 56, 4, 57, 58, 19, 20, 21, 22, 23, 24, 25, 26, 27, 28, 30, 31, 32, 33, 34, 35, 36, 37, 38, 39, 40, 41, 42, 43, 44, 45, 46, 59, 60, 61, 62, 63, 64, 65, 66, 67, 68, 69, 70, 71, 72, 73, 74, 75, 76, 77, 78, 79, 80, 81, 82, 83, 84, 85, 86, 87, 88, 89, 90, 91, 92, 93, 94, 95, 96, 97, 98, 99, 100, 101, 102, 103, 104, 105, 106, 107, 108, 109, 110, 111, 112, 113, 114, 115, 116, 117, 118, 119, 120, 121, 122, 123, 124, 125, 126, 127, 128, 129, 130, 131, 132, 133, 134, 135, 136, 137, 138, 139, 140, 141, 142, 143, 144, 145, 146, 147, 148, 149, 150, 151, 152, 153, 154, 155, 156, 157, 158, 159, 160, 161, 162, 163, 164, 165, 166, 167, 168, 169, 170, 171, 172, 173, 174, 175, 176, 177, 178, 179, 180, 181, 182, 183, 184, 185] (by decide +kernel) (by decide +kernel)
set_option maxRecDepth 20000 in
theorem gX4_write_X4_reference : GoodIn wsX4_write (wsV RX4 52 RX4 yX4_reference wsX4_reference) := goodIn_app (goodIn_of _ (by decide +kernel)) ggX4_write_X4_reference
set_option maxRecDepth 20000 in
theorem ggX4_write_X1_valueOf : GoodIn wsX4_write wsX1_valueOf := goodIn_r _ [110, 111, 170, 171, 172, 173, 174, 175] (by decide +kernel) (by decide +kernel)
set_option maxRecDepth 20000 in
theorem gX4_write_X1_valueOf : GoodIn wsX4_write (wsV RX4 56 RX1 yX1_valueOf wsX1_valueOf) := goodIn_app (goodIn_of _ (by decide +kernel)) ggX4_write_X1_valueOf
set_option maxRecDepth 20000 in
theorem ggX4_write_X1_change : GoodIn wsX4_write wsX1_change := goodIn_r _ [145, 111, 63, 170, 171, 172, 173, 174, 175] (by decide +kernel) (by decide +kernel)
set_option maxRecDepth 20000 in
theorem gX4_write_X1_change : GoodIn wsX4_write (wsV RX4 60 RX1 yX1_change wsX1_change) := goodIn_app (goodIn_of _ (by decide +kernel)) ggX4_write_X1_change
theorem dX4_write_0 : decode cX4_write 0 = .ok (.iload_n 1, 1) := by decide +kernel
theorem dX4_write_1 : decode cX4_write 1 = .ok (.invokestatic 45, 3) := by decide +kernel
theorem dX4_write_4 : decode cX4_write 4 = .ok (.ifCond .ne 5, 3) := by decide +kernel
theorem dX4_write_7 : decode cX4_write 7 = .ok (.iconst (-1), 1) := by decide +kernel
theorem dX4_write_8 : decode cX4_write 8 = .ok (.ireturn, 1) := by decide +kernel
theorem dX4_write_9 : decode cX4_write 9 = .ok (.iload_n 2, 1) := by decide +kernel
theorem dX4_write_10 : decode cX4_write 10 = .ok (.iconst 0, 1) := by decide +kernel
theorem dX4_write_11 : decode cX4_write 11 = .ok (.sipush 9999, 3) := by decide +kernel
theorem dX4_write_14 : decode cX4_write 14 = .ok (.invokestatic 41, 3) := by decide +kernel
theorem dX4_write_17 : decode cX4_write 17 = .ok (.ifCond .ne 6, 3) := by decide +kernel
theorem dX4_write_20 : decode cX4_write 20 = .ok (.bipush (-2), 2) := by decide +kernel
theorem dX4_write_22 : decode cX4_write 22 = .ok (.ireturn, 1) := by decide +kernel
theorem dX4_write_23 : decode cX4_write 23 = .ok (.aload_n 0, 1) := by decide +kernel
theorem dX4_write_24 : decode cX4_write 24 = .ok (.iload_n 1, 1) := by decide +kernel
theorem dX4_write_25 : decode cX4_write 25 = .ok (.invokevirtual 49, 3) := by decide +kernel
theorem dX4_write_28 : decode cX4_write 28 = .ok (.ifCond .ne 6, 3) := by decide +kernel
theorem dX4_write_31 : decode cX4_write 31 = .ok (.bipush (-3), 2) := by decide +kernel
theorem dX4_write_33 : decode cX4_write 33 = .ok (.ireturn, 1) := by decide +kernel
theorem dX4_write_34 : decode cX4_write 34 = .ok (.aload_n 0, 1) := by decide +kernel
theorem dX4_write_35 : decode cX4_write 35 = .ok (.iload_n 1, 1) := by decide +kernel
theorem dX4_write_36 : decode cX4_write 36 = .ok (.invokevirtual 52, 3) := by decide +kernel
theorem dX4_write_39 : decode cX4_write 39 = .ok (.aload_n 0, 1) := by decide +kernel
theorem dX4_write_40 : decode cX4_write 40 = .ok (.getfield 19, 3) := by decide +kernel
theorem dX4_write_43 : decode cX4_write 43 = .ok (.iload_n 1, 1) := by decide +kernel
theorem dX4_write_44 : decode cX4_write 44 = .ok (.invokevirtual 56, 3) := by decide +kernel
theorem dX4_write_47 : decode cX4_write 47 = .ok (.istore_n 3, 1) := by decide +kernel
theorem dX4_write_48 : decode cX4_write 48 = .ok (.aload_n 0, 1) := by decide +kernel
theorem dX4_write_49 : decode cX4_write 49 = .ok (.getfield 19, 3) := by decide +kernel
theorem dX4_write_52 : decode cX4_write 52 = .ok (.iload_n 1, 1) := by decide +kernel
theorem dX4_write_53 : decode cX4_write 53 = .ok (.iload_n 2, 1) := by decide +kernel
theorem dX4_write_54 : decode cX4_write 54 = .ok (.invokevirtual 60, 3) := by decide +kernel
theorem dX4_write_57 : decode cX4_write 57 = .ok (.iload_n 3, 1) := by decide +kernel
theorem dX4_write_58 : decode cX4_write 58 = .ok (.ireturn, 1) := by decide +kernel
set_option maxRecDepth 20000 in
theorem ggX4_pin_X4_isPage : GoodIn wsX4_pin wsX4_isPage := goodIn_r _ [5, 6, 7, 4, 8] (by decide +kernel) (by decide +kernel)
set_option maxRecDepth 20000 in
theorem gX4_pin_X4_isPage : GoodIn wsX4_pin (va_wsS RX4 45 yX4_isPage wsX4_isPage) := goodIn_app (goodIn_of _ (by decide +kernel)) ggX4_pin_X4_isPage
set_option maxRecDepth 20000 in
theorem ggX4_pin_X1_pinsOf : GoodIn wsX4_pin wsX1_pinsOf := goodIn_r _ [13, 14, 174, 175, 176, 177, 178, 179] (by decide +kernel) (by decide +kernel)
set_option maxRecDepth 20000 in
theorem gX4_pin_X1_pinsOf : GoodIn wsX4_pin (wsV RX4 64 RX1 yX1_pinsOf wsX1_pinsOf) := goodIn_app (goodIn_of _ (by decide +kernel)) ggX4_pin_X1_pinsOf
set_option maxRecDepth 20000 in
theorem ggX4_pin_X4_canReference : GoodIn wsX4_pin wsX4_canReference := goodIn_r _ [18, 1, 19, 20, 21, 12, 22, 23, 24, 25, 26, 27, 28, 29, 30, 31, 32, 4, 33, 34, 9, 10, 11, 13, 14, 35, 36, 37, 38, 39, 40, 41, 42, 43, 44, 45, 46, 164, 165, 166, 167, 168, 169, 170, 171, 172, 173, 174, 175, 176, 177, 178, 179, 180, 181, 182] (by decide +kernel) (by decide +kernel)
set_option maxRecDepth 20000 in
theorem gX4_pin_X4_canReference : GoodIn wsX4_pin (wsV RX4 49 RX4 yX4_canReference wsX4_canReference) := goodIn_app (goodIn_of _ (by decide +kernel)) ggX4_pin_X4_canReference
set_option maxRecDepth 20000 in
theorem ggX4_pin_X4_reference : GoodIn wsX4_pin wsX4_reference := goodIn_r _ [50, 51, 1, 52, 53, 34, 19, 20, 21, 12, 22, 23, 54, 55, 56, 4, 57, 58, 24, 25, 26, 27, 28, 29, 30, 31, 32, 33, 9, 10, 11, 13, 14, 35, 36, 37, 38, 39, 40, 41, 42, 43, 44, 45, 46, 59, 60, 61, 62, 63, 64, 65, 66, 67, 68, 69, 70, 71, 72, 73, 74, 75, 76, 77, 78, 79, 80, 81, 82, 83, 84, 85, 86, 87, 88, 89, 90, 91, 92, 93, 94, 95, 96, 97, 98, 99, 100, 101, 102, 103, 104, 105, 106, 107, 108, 109, 110, 111, 112, 113, 114, 115, 116, 117, 118, 119, 120, 121, 122, 123, 124, 125, 126, 127, 128, 129, 130, 131, 132, 133, 134, 135, 136, 137, 138, 139, 140, 141, 142, 143, 144, 145, 146, 147, 148, 149, 150, 151, 152, 153, 154, 155, 156, 157, 158, 159, 164, 165, 166, 167, 168, 169, 170, 171, 172, 173, 174, 175, 176, 177, 178, 179, 180, 181, 182, 183, 184, 185, 186, 187, 188, 189] (by decide +kernel) (by decide +kernel)
set_option maxRecDepth 20000 in
theorem gX4_pin_X4_reference : GoodIn wsX4_pin (wsV RX4 52 RX4 yX4_reference wsX4_reference) := goodIn_app (goodIn_of _ (by decide +kernel)) ggX4_pin_X4_reference
set_option maxRecDepth 20000 in
theorem ggX4_pin_X1_addPin : GoodIn wsX4_pin wsX1_addPin := goodIn_r _ [163, 14, 174, 175, 176, 177, 178, 179] (by decide +kernel) (by decide +kernel)
set_option maxRecDepth 20000 in
theorem gX4_pin_X1_addPin : GoodIn wsX4_pin (wsV RX4 67 RX1 yX1_addPin wsX1_addPin) := goodIn_app (goodIn_of _ (by decide +kernel)) ggX4_pin_X1_addPin
theorem dX4_pin_0 : decode cX4_pin 0 = .ok (.iload_n 1, 1) := by decide +kernel
theorem dX4_pin_1 : decode cX4_pin 1 = .ok (.invokestatic 45, 3) := by decide +kernel
theorem dX4_pin_4 : decode cX4_pin 4 = .ok (.ifCond .ne 5, 3) := by decide +kernel
theorem dX4_pin_7 : decode cX4_pin 7 = .ok (.iconst (-1), 1) := by decide +kernel
theorem dX4_pin_8 : decode cX4_pin 8 = .ok (.ireturn, 1) := by decide +kernel
theorem dX4_pin_9 : decode cX4_pin 9 = .ok (.aload_n 0, 1) := by decide +kernel
theorem dX4_pin_10 : decode cX4_pin 10 = .ok (.getfield 19, 3) := by decide +kernel
theorem dX4_pin_13 : decode cX4_pin 13 = .ok (.iload_n 1, 1) := by decide +kernel
theorem dX4_pin_14 : decode cX4_pin 14 = .ok (.invokevirtual 64, 3) := by decide +kernel
theorem dX4_pin_17 : decode cX4_pin 17 = .ok (.bipush 9, 2) := by decide +kernel
theorem dX4_pin_19 : decode cX4_pin 19 = .ok (.if_icmp .lt 6, 3) := by decide +kernel
theorem dX4_pin_22 : decode cX4_pin 22 = .ok (.bipush (-6), 2) := by decide +kernel
theorem dX4_pin_24 : decode cX4_pin 24 = .ok (.ireturn, 1) := by decide +kernel
theorem dX4_pin_25 : decode cX4_pin 25 = .ok (.aload_n 0, 1) := by decide +kernel
theorem dX4_pin_26 : decode cX4_pin 26 = .ok (.iload_n 1, 1) := by decide +kernel
theorem dX4_pin_27 : decode cX4_pin 27 = .ok (.invokevirtual 49, 3) := by decide +kernel
theorem dX4_pin_30 : decode cX4_pin 30 = .ok (.ifCond .ne 6, 3) := by decide +kernel
theorem dX4_pin_33 : decode cX4_pin 33 = .ok (.bipush (-3), 2) := by decide +kernel
theorem dX4_pin_35 : decode cX4_pin 35 = .ok (.ireturn, 1) := by decide +kernel
theorem dX4_pin_36 : decode cX4_pin 36 = .ok (.aload_n 0, 1) := by decide +kernel
theorem dX4_pin_37 : decode cX4_pin 37 = .ok (.iload_n 1, 1) := by decide +kernel
theorem dX4_pin_38 : decode cX4_pin 38 = .ok (.invokevirtual 52, 3) := by decide +kernel
theorem dX4_pin_41 : decode cX4_pin 41 = .ok (.aload_n 0, 1) := by decide +kernel
theorem dX4_pin_42 : decode cX4_pin 42 = .ok (.getfield 19, 3) := by decide +kernel
theorem dX4_pin_45 : decode cX4_pin 45 = .ok (.iload_n 1, 1) := by decide +kernel
theorem dX4_pin_46 : decode cX4_pin 46 = .ok (.invokevirtual 67, 3) := by decide +kernel
theorem dX4_pin_49 : decode cX4_pin 49 = .ok (.aload_n 0, 1) := by decide +kernel
theorem dX4_pin_50 : decode cX4_pin 50 = .ok (.getfield 19, 3) := by decide +kernel
theorem dX4_pin_53 : decode cX4_pin 53 = .ok (.iload_n 1, 1) := by decide +kernel
theorem dX4_pin_54 : decode cX4_pin 54 = .ok (.invokevirtual 64, 3) := by decide +kernel
theorem dX4_pin_57 : decode cX4_pin 57 = .ok (.ireturn, 1) := by decide +kernel
set_option maxRecDepth 20000 in
theorem ggX4_unpin_X4_isPage : GoodIn wsX4_unpin wsX4_isPage := goodIn_r _ [5, 6, 7, 4, 8] (by decide +kernel) (by decide +kernel)
set_option maxRecDepth 20000 in
theorem gX4_unpin_X4_isPage : GoodIn wsX4_unpin (va_wsS RX4 45 yX4_isPage wsX4_isPage) := goodIn_app (goodIn_of _ (by decide +kernel)) ggX4_unpin_X4_isPage
set_option maxRecDepth 20000 in
theorem ggX4_unpin_X1_holds : GoodIn wsX4_unpin wsX1_holds := goodIn_r _ [13, 14, 34, 35, 36, 37, 38, 39] (by decide +kernel) (by decide +kernel)
set_option maxRecDepth 20000 in
theorem gX4_unpin_X1_holds : GoodIn wsX4_unpin (wsV RX4 70 RX1 yX1_holds wsX1_holds) := goodIn_app (goodIn_of _ (by decide +kernel)) ggX4_unpin_X1_holds
set_option maxRecDepth 20000 in
theorem ggX4_unpin_X1_pinsOf : GoodIn wsX4_unpin wsX1_pinsOf := goodIn_r _ [18, 19, 34, 35, 36, 37, 38, 39] (by decide +kernel) (by decide +kernel)
set_option maxRecDepth 20000 in
theorem gX4_unpin_X1_pinsOf : GoodIn wsX4_unpin (wsV RX4 64 RX1 yX1_pinsOf wsX1_pinsOf) := goodIn_app (goodIn_of _ (by decide +kernel)) ggX4_unpin_X1_pinsOf
set_option maxRecDepth 20000 in
theorem ggX4_unpin_X1_removePin : GoodIn wsX4_unpin wsX1_removePin := goodIn_r _ [23, 19, 34, 35, 36, 37, 38, 39] (by decide +kernel) (by decide +kernel)
set_option maxRecDepth 20000 in
theorem gX4_unpin_X1_removePin : GoodIn wsX4_unpin (wsV RX4 73 RX1 yX1_removePin wsX1_removePin) := goodIn_app (goodIn_of _ (by decide +kernel)) ggX4_unpin_X1_removePin
theorem dX4_unpin_0 : decode cX4_unpin 0 = .ok (.iload_n 1, 1) := by decide +kernel
theorem dX4_unpin_1 : decode cX4_unpin 1 = .ok (.invokestatic 45, 3) := by decide +kernel
theorem dX4_unpin_4 : decode cX4_unpin 4 = .ok (.ifCond .ne 5, 3) := by decide +kernel
theorem dX4_unpin_7 : decode cX4_unpin 7 = .ok (.iconst (-1), 1) := by decide +kernel
theorem dX4_unpin_8 : decode cX4_unpin 8 = .ok (.ireturn, 1) := by decide +kernel
theorem dX4_unpin_9 : decode cX4_unpin 9 = .ok (.aload_n 0, 1) := by decide +kernel
theorem dX4_unpin_10 : decode cX4_unpin 10 = .ok (.getfield 19, 3) := by decide +kernel
theorem dX4_unpin_13 : decode cX4_unpin 13 = .ok (.iload_n 1, 1) := by decide +kernel
theorem dX4_unpin_14 : decode cX4_unpin 14 = .ok (.invokevirtual 70, 3) := by decide +kernel
theorem dX4_unpin_17 : decode cX4_unpin 17 = .ok (.ifCond .ne 6, 3) := by decide +kernel
theorem dX4_unpin_20 : decode cX4_unpin 20 = .ok (.bipush (-4), 2) := by decide +kernel
theorem dX4_unpin_22 : decode cX4_unpin 22 = .ok (.ireturn, 1) := by decide +kernel
theorem dX4_unpin_23 : decode cX4_unpin 23 = .ok (.aload_n 0, 1) := by decide +kernel
theorem dX4_unpin_24 : decode cX4_unpin 24 = .ok (.getfield 19, 3) := by decide +kernel
theorem dX4_unpin_27 : decode cX4_unpin 27 = .ok (.iload_n 1, 1) := by decide +kernel
theorem dX4_unpin_28 : decode cX4_unpin 28 = .ok (.invokevirtual 64, 3) := by decide +kernel
theorem dX4_unpin_31 : decode cX4_unpin 31 = .ok (.ifCond .ne 6, 3) := by decide +kernel
theorem dX4_unpin_34 : decode cX4_unpin 34 = .ok (.bipush (-5), 2) := by decide +kernel
theorem dX4_unpin_36 : decode cX4_unpin 36 = .ok (.ireturn, 1) := by decide +kernel
theorem dX4_unpin_37 : decode cX4_unpin 37 = .ok (.aload_n 0, 1) := by decide +kernel
theorem dX4_unpin_38 : decode cX4_unpin 38 = .ok (.getfield 19, 3) := by decide +kernel
theorem dX4_unpin_41 : decode cX4_unpin 41 = .ok (.iload_n 1, 1) := by decide +kernel
theorem dX4_unpin_42 : decode cX4_unpin 42 = .ok (.invokevirtual 73, 3) := by decide +kernel
theorem dX4_unpin_45 : decode cX4_unpin 45 = .ok (.aload_n 0, 1) := by decide +kernel
theorem dX4_unpin_46 : decode cX4_unpin 46 = .ok (.getfield 19, 3) := by decide +kernel
theorem dX4_unpin_49 : decode cX4_unpin 49 = .ok (.iload_n 1, 1) := by decide +kernel
theorem dX4_unpin_50 : decode cX4_unpin 50 = .ok (.invokevirtual 64, 3) := by decide +kernel
theorem dX4_unpin_53 : decode cX4_unpin 53 = .ok (.ireturn, 1) := by decide +kernel
set_option maxRecDepth 20000 in
theorem ggX4_flush_X4_isPage : GoodIn wsX4_flush wsX4_isPage := goodIn_r _ [6, 7, 8, 5, 9] (by decide +kernel) (by decide +kernel)
set_option maxRecDepth 20000 in
theorem gX4_flush_X4_isPage : GoodIn wsX4_flush (va_wsS RX4 45 yX4_isPage wsX4_isPage) := goodIn_app (goodIn_of _ (by decide +kernel)) ggX4_flush_X4_isPage
set_option maxRecDepth 20000 in
theorem ggX4_flush_X1_isChanged : GoodIn wsX4_flush wsX1_isChanged := goodIn_r _ [14, 15, 75, 76, 77, 78, 79, 80] (by decide +kernel) (by decide +kernel)
set_option maxRecDepth 20000 in
theorem gX4_flush_X1_isChanged : GoodIn wsX4_flush (wsV RX4 76 RX1 yX1_isChanged wsX1_isChanged) := goodIn_app (goodIn_of _ (by decide +kernel)) ggX4_flush_X1_isChanged
set_option maxRecDepth 20000 in
theorem ggX4_flush_X4_writeFrame : GoodIn wsX4_flush wsX4_writeFrame := goodIn_r _ [19, 20, 1, 21, 22, 23, 13, 24, 25, 26, 27, 28, 29, 30, 31, 32, 33, 34, 35, 36, 15, 65, 66, 67, 68, 69, 70, 71, 72, 73, 74, 75, 76, 77, 78, 79, 80, 81, 82, 83] (by decide +kernel) (by decide +kernel)
set_option maxRecDepth 20000 in
theorem gX4_flush_X4_writeFrame : GoodIn wsX4_flush (wsV RX4 79 RX4 yX4_writeFrame wsX4_writeFrame) := goodIn_app (goodIn_of _ (by decide +kernel)) ggX4_flush_X4_writeFrame
set_option maxRecDepth 20000 in
theorem ggX4_flush_X3_positionOf : GoodIn wsX4_flush wsX3_positionOf := goodIn_r _ [41, 42, 43, 84, 85, 86, 87] (by decide +kernel) (by decide +kernel)
set_option maxRecDepth 20000 in
theorem gX4_flush_X3_positionOf : GoodIn wsX4_flush (wsV RX4 82 RX3 yX3_positionOf wsX3_positionOf) := goodIn_app (goodIn_of _ (by decide +kernel)) ggX4_flush_X3_positionOf
set_option maxRecDepth 20000 in
theorem ggX4_flush_X4_writeEntry : GoodIn wsX4_flush wsX4_writeEntry := goodIn_r _ [47, 2, 20, 48, 49, 50, 40, 51, 43, 52, 53, 54, 55, 42, 56, 57, 58, 59, 60, 26, 27, 28, 29, 30, 31, 32, 61, 62, 63, 64, 65, 66, 67, 68, 69, 70, 71, 72, 73, 74, 84, 85, 86, 87, 81, 82, 83] (by decide +kernel) (by decide +kernel)
set_option maxRecDepth 20000 in
theorem gX4_flush_X4_writeEntry : GoodIn wsX4_flush (wsV RX4 85 RX4 yX4_writeEntry wsX4_writeEntry) := goodIn_app (goodIn_of _ (by decide +kernel)) ggX4_flush_X4_writeEntry
theorem dX4_flush_0 : decode cX4_flush 0 = .ok (.iload_n 1, 1) := by decide +kernel
theorem dX4_flush_1 : decode cX4_flush 1 = .ok (.invokestatic 45, 3) := by decide +kernel
theorem dX4_flush_4 : decode cX4_flush 4 = .ok (.ifCond .ne 5, 3) := by decide +kernel
theorem dX4_flush_7 : decode cX4_flush 7 = .ok (.iconst (-1), 1) := by decide +kernel
theorem dX4_flush_8 : decode cX4_flush 8 = .ok (.ireturn, 1) := by decide +kernel
theorem dX4_flush_9 : decode cX4_flush 9 = .ok (.aload_n 0, 1) := by decide +kernel
theorem dX4_flush_10 : decode cX4_flush 10 = .ok (.getfield 19, 3) := by decide +kernel
theorem dX4_flush_13 : decode cX4_flush 13 = .ok (.iload_n 1, 1) := by decide +kernel
theorem dX4_flush_14 : decode cX4_flush 14 = .ok (.invokevirtual 76, 3) := by decide +kernel
theorem dX4_flush_17 : decode cX4_flush 17 = .ok (.ifCond .eq 10, 3) := by decide +kernel
theorem dX4_flush_20 : decode cX4_flush 20 = .ok (.aload_n 0, 1) := by decide +kernel
theorem dX4_flush_21 : decode cX4_flush 21 = .ok (.iload_n 1, 1) := by decide +kernel
theorem dX4_flush_22 : decode cX4_flush 22 = .ok (.invokevirtual 79, 3) := by decide +kernel
theorem dX4_flush_25 : decode cX4_flush 25 = .ok (.iconst 1, 1) := by decide +kernel
theorem dX4_flush_26 : decode cX4_flush 26 = .ok (.ireturn, 1) := by decide +kernel
theorem dX4_flush_27 : decode cX4_flush 27 = .ok (.aload_n 0, 1) := by decide +kernel
theorem dX4_flush_28 : decode cX4_flush 28 = .ok (.getfield 26, 3) := by decide +kernel
theorem dX4_flush_31 : decode cX4_flush 31 = .ok (.iload_n 1, 1) := by decide +kernel
theorem dX4_flush_32 : decode cX4_flush 32 = .ok (.invokevirtual 82, 3) := by decide +kernel
theorem dX4_flush_35 : decode cX4_flush 35 = .ok (.istore_n 2, 1) := by decide +kernel
theorem dX4_flush_36 : decode cX4_flush 36 = .ok (.iload_n 2, 1) := by decide +kernel
theorem dX4_flush_37 : decode cX4_flush 37 = .ok (.bipush (-9), 2) := by decide +kernel
theorem dX4_flush_39 : decode cX4_flush 39 = .ok (.if_icmp .ne 5, 3) := by decide +kernel
theorem dX4_flush_42 : decode cX4_flush 42 = .ok (.iconst 0, 1) := by decide +kernel
theorem dX4_flush_43 : decode cX4_flush 43 = .ok (.ireturn, 1) := by decide +kernel
theorem dX4_flush_44 : decode cX4_flush 44 = .ok (.aload_n 0, 1) := by decide +kernel
theorem dX4_flush_45 : decode cX4_flush 45 = .ok (.iload_n 2, 1) := by decide +kernel
theorem dX4_flush_46 : decode cX4_flush 46 = .ok (.invokevirtual 85, 3) := by decide +kernel
theorem dX4_flush_49 : decode cX4_flush 49 = .ok (.iconst 1, 1) := by decide +kernel
theorem dX4_flush_50 : decode cX4_flush 50 = .ok (.ireturn, 1) := by decide +kernel
set_option maxRecDepth 20000 in
theorem ggX4_flushAll_X3_length : GoodIn wsX4_flushAll wsX3_length := goodIn_r _ [7, 8, 77, 78, 79, 80] (by decide +kernel) (by decide +kernel)
set_option maxRecDepth 20000 in
theorem gX4_flushAll_X3_length : GoodIn wsX4_flushAll (wsV RX4 88 RX3 yX3_length wsX3_length) := goodIn_app (goodIn_of _ (by decide +kernel)) ggX4_flushAll_X3_length
set_option maxRecDepth 20000 in
theorem ggX4_flushAll_X4_writeOldest : GoodIn wsX4_flushAll wsX4_writeOldest := goodIn_r _ [13, 1, 14, 15, 16, 17, 3, 4, 5, 6, 7, 8, 18, 19, 20, 12, 21, 22, 23, 24, 25, 26, 27, 28, 29, 30, 31, 32, 33, 34, 35, 36, 37, 38, 39, 40, 41, 42, 43, 44, 45, 46, 47, 67, 68, 69, 70, 71, 72, 73, 74, 75, 76, 77, 78, 79, 80, 81, 82, 83] (by decide +kernel) (by decide +kernel)
set_option maxRecDepth 20000 in
theorem gX4_flushAll_X4_writeOldest : GoodIn wsX4_flushAll (wsV RX4 92 RX4 yX4_writeOldest wsX4_writeOldest) := goodIn_app (goodIn_of _ (by decide +kernel)) ggX4_flushAll_X4_writeOldest
set_option maxRecDepth 20000 in
theorem ggX4_flushAll_X1_isChanged : GoodIn wsX4_flushAll wsX1_isChanged := goodIn_r _ [52, 53, 84, 85, 86, 87, 88, 89] (by decide +kernel) (by decide +kernel)
set_option maxRecDepth 20000 in
theorem gX4_flushAll_X1_isChanged : GoodIn wsX4_flushAll (wsV RX4 76 RX1 yX1_isChanged wsX1_isChanged) := goodIn_app (goodIn_of _ (by decide +kernel)) ggX4_flushAll_X1_isChanged
set_option maxRecDepth 20000 in
theorem ggX4_flushAll_X4_writeFrame : GoodIn wsX4_flushAll wsX4_writeFrame := goodIn_r _ [57, 22, 2, 58, 59, 60, 51, 61, 62, 37, 38, 39, 40, 41, 42, 43, 63, 64, 65, 66, 53, 67, 68, 69, 70, 71, 72, 73, 74, 75, 76, 84, 85, 86, 87, 88, 89, 81, 82, 83] (by decide +kernel) (by decide +kernel)
set_option maxRecDepth 20000 in
theorem gX4_flushAll_X4_writeFrame : GoodIn wsX4_flushAll (wsV RX4 79 RX4 yX4_writeFrame wsX4_writeFrame) := goodIn_app (goodIn_of _ (by decide +kernel)) ggX4_flushAll_X4_writeFrame
theorem dX4_flushAll_0 : decode cX4_flushAll 0 = .ok (.aload_n 0, 1) := by decide +kernel
theorem dX4_flushAll_1 : decode cX4_flushAll 1 = .ok (.aload_n 0, 1) := by decide +kernel
theorem dX4_flushAll_2 : decode cX4_flushAll 2 = .ok (.getfield 26, 3) := by decide +kernel
theorem dX4_flushAll_5 : decode cX4_flushAll 5 = .ok (.invokevirtual 88, 3) := by decide +kernel
theorem dX4_flushAll_8 : decode cX4_flushAll 8 = .ok (.invokevirtual 92, 3) := by decide +kernel
theorem dX4_flushAll_11 : decode cX4_flushAll 11 = .ok (.istore_n 1, 1) := by decide +kernel
theorem dX4_flushAll_12 : decode cX4_flushAll 12 = .ok (.iconst 0, 1) := by decide +kernel
theorem dX4_flushAll_13 : decode cX4_flushAll 13 = .ok (.istore_n 2, 1) := by decide +kernel
theorem dX4_flushAll_14 : decode cX4_flushAll 14 = .ok (.iload_n 2, 1) := by decide +kernel
theorem dX4_flushAll_15 : decode cX4_flushAll 15 = .ok (.bipush 64, 2) := by decide +kernel
theorem dX4_flushAll_17 : decode cX4_flushAll 17 = .ok (.if_icmp .ge 28, 3) := by decide +kernel
theorem dX4_flushAll_20 : decode cX4_flushAll 20 = .ok (.aload_n 0, 1) := by decide +kernel
theorem dX4_flushAll_21 : decode cX4_flushAll 21 = .ok (.getfield 19, 3) := by decide +kernel
theorem dX4_flushAll_24 : decode cX4_flushAll 24 = .ok (.iload_n 2, 1) := by decide +kernel
theorem dX4_flushAll_25 : decode cX4_flushAll 25 = .ok (.invokevirtual 76, 3) := by decide +kernel
theorem dX4_flushAll_28 : decode cX4_flushAll 28 = .ok (.ifCond .eq 11, 3) := by decide +kernel
theorem dX4_flushAll_31 : decode cX4_flushAll 31 = .ok (.aload_n 0, 1) := by decide +kernel
theorem dX4_flushAll_32 : decode cX4_flushAll 32 = .ok (.iload_n 2, 1) := by decide +kernel
theorem dX4_flushAll_33 : decode cX4_flushAll 33 = .ok (.invokevirtual 79, 3) := by decide +kernel
theorem dX4_flushAll_36 : decode cX4_flushAll 36 = .ok (.iinc 1 1, 3) := by decide +kernel
theorem dX4_flushAll_39 : decode cX4_flushAll 39 = .ok (.iinc 2 1, 3) := by decide +kernel
theorem dX4_flushAll_42 : decode cX4_flushAll 42 = .ok (.goto (-28), 3) := by decide +kernel
theorem dX4_flushAll_45 : decode cX4_flushAll 45 = .ok (.iload_n 1, 1) := by decide +kernel
theorem dX4_flushAll_46 : decode cX4_flushAll 46 = .ok (.ireturn, 1) := by decide +kernel
set_option maxRecDepth 20000 in
theorem ggX4_drain_X4_isWithin : GoodIn wsX4_drain wsX4_isWithin := goodIn_r _ [4] (by decide +kernel) (by decide +kernel)
set_option maxRecDepth 20000 in
theorem gX4_drain_X4_isWithin : GoodIn wsX4_drain (va_wsS RX4 41 yX4_isWithin wsX4_isWithin) := goodIn_app (goodIn_of _ (by decide +kernel)) ggX4_drain_X4_isWithin
set_option maxRecDepth 20000 in
theorem ggX4_drain_X4_writeOldest : GoodIn wsX4_drain wsX4_writeOldest := goodIn_r _ [8, 9, 10, 11, 12, 13, 14, 15, 16, 17, 18, 19, 20, 21, 22, 3, 23, 24, 25, 26, 27, 28, 29, 30, 31, 32, 33, 34, 35, 36, 37, 38, 39, 40, 41, 42, 43, 44, 45, 46, 47, 48, 49, 50, 51, 52, 53, 54, 55, 56, 57, 58, 59, 60, 61, 62, 63, 64, 65, 66] (by decide +kernel) (by decide +kernel)
set_option maxRecDepth 20000 in
theorem gX4_drain_X4_writeOldest : GoodIn wsX4_drain (wsV RX4 92 RX4 yX4_writeOldest wsX4_writeOldest) := goodIn_app (goodIn_of _ (by decide +kernel)) ggX4_drain_X4_writeOldest
theorem dX4_drain_0 : decode cX4_drain 0 = .ok (.iload_n 1, 1) := by decide +kernel
theorem dX4_drain_1 : decode cX4_drain 1 = .ok (.iconst 0, 1) := by decide +kernel
theorem dX4_drain_2 : decode cX4_drain 2 = .ok (.bipush 8, 2) := by decide +kernel
theorem dX4_drain_4 : decode cX4_drain 4 = .ok (.invokestatic 41, 3) := by decide +kernel
theorem dX4_drain_7 : decode cX4_drain 7 = .ok (.ifCond .ne 6, 3) := by decide +kernel
theorem dX4_drain_10 : decode cX4_drain 10 = .ok (.bipush (-8), 2) := by decide +kernel
theorem dX4_drain_12 : decode cX4_drain 12 = .ok (.ireturn, 1) := by decide +kernel
theorem dX4_drain_13 : decode cX4_drain 13 = .ok (.aload_n 0, 1) := by decide +kernel
theorem dX4_drain_14 : decode cX4_drain 14 = .ok (.iload_n 1, 1) := by decide +kernel
theorem dX4_drain_15 : decode cX4_drain 15 = .ok (.invokevirtual 92, 3) := by decide +kernel
theorem dX4_drain_18 : decode cX4_drain 18 = .ok (.ireturn, 1) := by decide +kernel
set_option maxRecDepth 20000 in
theorem ggX4_discard_X4_isPage : GoodIn wsX4_discard wsX4_isPage := goodIn_r _ [7, 8, 9, 6, 10] (by decide +kernel) (by decide +kernel)
set_option maxRecDepth 20000 in
theorem gX4_discard_X4_isPage : GoodIn wsX4_discard (va_wsS RX4 45 yX4_isPage wsX4_isPage) := goodIn_app (goodIn_of _ (by decide +kernel)) ggX4_discard_X4_isPage
set_option maxRecDepth 20000 in
theorem ggX4_discard_X1_pinsOf : GoodIn wsX4_discard wsX1_pinsOf := goodIn_r _ [15, 16, 64, 65, 66, 67, 68, 69] (by decide +kernel) (by decide +kernel)
set_option maxRecDepth 20000 in
theorem gX4_discard_X1_pinsOf : GoodIn wsX4_discard (wsV RX4 64 RX1 yX1_pinsOf wsX1_pinsOf) := goodIn_app (goodIn_of _ (by decide +kernel)) ggX4_discard_X1_pinsOf
set_option maxRecDepth 20000 in
theorem ggX4_discard_X2_forget : GoodIn wsX4_discard wsX2_forget := goodIn_r _ [21, 22, 70, 71, 72] (by decide +kernel) (by decide +kernel)
set_option maxRecDepth 20000 in
theorem gX4_discard_X2_forget : GoodIn wsX4_discard (wsV RX4 95 RX2 yX2_forget wsX2_forget) := goodIn_app (goodIn_of _ (by decide +kernel)) ggX4_discard_X2_forget
set_option maxRecDepth 20000 in
theorem ggX4_discard_X1_holds : GoodIn wsX4_discard wsX1_holds := goodIn_r _ [26, 27, 64, 65, 66, 67, 68, 69] (by decide +kernel) (by decide +kernel)
set_option maxRecDepth 20000 in
theorem gX4_discard_X1_holds : GoodIn wsX4_discard (wsV RX4 70 RX1 yX1_holds wsX1_holds) := goodIn_app (goodIn_of _ (by decide +kernel)) ggX4_discard_X1_holds
set_option maxRecDepth 20000 in
theorem ggX4_discard_X1_release : GoodIn wsX4_discard wsX1_release := goodIn_r _ [31, 32, 33, 34, 35, 14, 36, 27, 37, 16, 64, 65, 66, 67, 68, 69] (by decide +kernel) (by decide +kernel)
set_option maxRecDepth 20000 in
theorem gX4_discard_X1_release : GoodIn wsX4_discard (wsV RX4 98 RX1 yX1_release wsX1_release) := goodIn_app (goodIn_of _ (by decide +kernel)) ggX4_discard_X1_release
set_option maxRecDepth 20000 in
theorem ggX4_discard_X3_positionOf : GoodIn wsX4_discard wsX3_positionOf := goodIn_r _ [42, 43, 44, 73, 74, 75, 76] (by decide +kernel) (by decide +kernel)
set_option maxRecDepth 20000 in
theorem gX4_discard_X3_positionOf : GoodIn wsX4_discard (wsV RX4 82 RX3 yX3_positionOf wsX3_positionOf) := goodIn_app (goodIn_of _ (by decide +kernel)) ggX4_discard_X3_positionOf
set_option maxRecDepth 20000 in
theorem ggX4_discard_X3_removeAt : GoodIn wsX4_discard wsX3_removeAt := goodIn_r _ [48, 43, 44, 49, 50, 51, 52, 41, 53, 73, 74, 75, 76] (by decide +kernel) (by decide +kernel)
set_option maxRecDepth 20000 in
theorem gX4_discard_X3_removeAt : GoodIn wsX4_discard (wsV RX4 101 RX3 yX3_removeAt wsX3_removeAt) := goodIn_app (goodIn_of _ (by decide +kernel)) ggX4_discard_X3_removeAt
theorem dX4_discard_0 : decode cX4_discard 0 = .ok (.iload_n 1, 1) := by decide +kernel
theorem dX4_discard_1 : decode cX4_discard 1 = .ok (.invokestatic 45, 3) := by decide +kernel
theorem dX4_discard_4 : decode cX4_discard 4 = .ok (.ifCond .ne 5, 3) := by decide +kernel
theorem dX4_discard_7 : decode cX4_discard 7 = .ok (.iconst (-1), 1) := by decide +kernel
theorem dX4_discard_8 : decode cX4_discard 8 = .ok (.ireturn, 1) := by decide +kernel
theorem dX4_discard_9 : decode cX4_discard 9 = .ok (.aload_n 0, 1) := by decide +kernel
theorem dX4_discard_10 : decode cX4_discard 10 = .ok (.getfield 19, 3) := by decide +kernel
theorem dX4_discard_13 : decode cX4_discard 13 = .ok (.iload_n 1, 1) := by decide +kernel
theorem dX4_discard_14 : decode cX4_discard 14 = .ok (.invokevirtual 64, 3) := by decide +kernel
theorem dX4_discard_17 : decode cX4_discard 17 = .ok (.ifCond .le 6, 3) := by decide +kernel
theorem dX4_discard_20 : decode cX4_discard 20 = .ok (.bipush (-7), 2) := by decide +kernel
theorem dX4_discard_22 : decode cX4_discard 22 = .ok (.ireturn, 1) := by decide +kernel
theorem dX4_discard_23 : decode cX4_discard 23 = .ok (.aload_n 0, 1) := by decide +kernel
theorem dX4_discard_24 : decode cX4_discard 24 = .ok (.getfield 33, 3) := by decide +kernel
theorem dX4_discard_27 : decode cX4_discard 27 = .ok (.iload_n 1, 1) := by decide +kernel
theorem dX4_discard_28 : decode cX4_discard 28 = .ok (.invokevirtual 95, 3) := by decide +kernel
theorem dX4_discard_31 : decode cX4_discard 31 = .ok (.aload_n 0, 1) := by decide +kernel
theorem dX4_discard_32 : decode cX4_discard 32 = .ok (.getfield 19, 3) := by decide +kernel
theorem dX4_discard_35 : decode cX4_discard 35 = .ok (.iload_n 1, 1) := by decide +kernel
theorem dX4_discard_36 : decode cX4_discard 36 = .ok (.invokevirtual 70, 3) := by decide +kernel
theorem dX4_discard_39 : decode cX4_discard 39 = .ok (.ifCond .eq 13, 3) := by decide +kernel
theorem dX4_discard_42 : decode cX4_discard 42 = .ok (.aload_n 0, 1) := by decide +kernel
theorem dX4_discard_43 : decode cX4_discard 43 = .ok (.getfield 19, 3) := by decide +kernel
theorem dX4_discard_46 : decode cX4_discard 46 = .ok (.iload_n 1, 1) := by decide +kernel
theorem dX4_discard_47 : decode cX4_discard 47 = .ok (.invokevirtual 98, 3) := by decide +kernel
theorem dX4_discard_50 : decode cX4_discard 50 = .ok (.iconst 1, 1) := by decide +kernel
theorem dX4_discard_51 : decode cX4_discard 51 = .ok (.ireturn, 1) := by decide +kernel
theorem dX4_discard_52 : decode cX4_discard 52 = .ok (.aload_n 0, 1) := by decide +kernel
theorem dX4_discard_53 : decode cX4_discard 53 = .ok (.getfield 26, 3) := by decide +kernel
theorem dX4_discard_56 : decode cX4_discard 56 = .ok (.iload_n 1, 1) := by decide +kernel
theorem dX4_discard_57 : decode cX4_discard 57 = .ok (.invokevirtual 82, 3) := by decide +kernel
theorem dX4_discard_60 : decode cX4_discard 60 = .ok (.istore_n 2, 1) := by decide +kernel
theorem dX4_discard_61 : decode cX4_discard 61 = .ok (.iload_n 2, 1) := by decide +kernel
theorem dX4_discard_62 : decode cX4_discard 62 = .ok (.bipush (-9), 2) := by decide +kernel
theorem dX4_discard_64 : decode cX4_discard 64 = .ok (.if_icmp .ne 5, 3) := by decide +kernel
theorem dX4_discard_67 : decode cX4_discard 67 = .ok (.iconst 0, 1) := by decide +kernel
theorem dX4_discard_68 : decode cX4_discard 68 = .ok (.ireturn, 1) := by decide +kernel
theorem dX4_discard_69 : decode cX4_discard 69 = .ok (.aload_n 0, 1) := by decide +kernel
theorem dX4_discard_70 : decode cX4_discard 70 = .ok (.getfield 26, 3) := by decide +kernel
theorem dX4_discard_73 : decode cX4_discard 73 = .ok (.iload_n 2, 1) := by decide +kernel
theorem dX4_discard_74 : decode cX4_discard 74 = .ok (.invokevirtual 101, 3) := by decide +kernel
theorem dX4_discard_77 : decode cX4_discard 77 = .ok (.iconst 1, 1) := by decide +kernel
theorem dX4_discard_78 : decode cX4_discard 78 = .ok (.ireturn, 1) := by decide +kernel
set_option maxRecDepth 20000 in
theorem ggX4_isResident_X4_isPage : GoodIn wsX4_isResident wsX4_isPage := goodIn_r _ [5, 6, 7, 4, 8] (by decide +kernel) (by decide +kernel)
set_option maxRecDepth 20000 in
theorem gX4_isResident_X4_isPage : GoodIn wsX4_isResident (va_wsS RX4 45 yX4_isPage wsX4_isPage) := goodIn_app (goodIn_of _ (by decide +kernel)) ggX4_isResident_X4_isPage
set_option maxRecDepth 20000 in
theorem ggX4_isResident_X1_holds : GoodIn wsX4_isResident wsX1_holds := goodIn_r _ [13, 14, 25, 26, 27, 28, 29, 30] (by decide +kernel) (by decide +kernel)
set_option maxRecDepth 20000 in
theorem gX4_isResident_X1_holds : GoodIn wsX4_isResident (wsV RX4 70 RX1 yX1_holds wsX1_holds) := goodIn_app (goodIn_of _ (by decide +kernel)) ggX4_isResident_X1_holds
theorem dX4_isResident_0 : decode cX4_isResident 0 = .ok (.iload_n 1, 1) := by decide +kernel
theorem dX4_isResident_1 : decode cX4_isResident 1 = .ok (.invokestatic 45, 3) := by decide +kernel
theorem dX4_isResident_4 : decode cX4_isResident 4 = .ok (.ifCond .ne 5, 3) := by decide +kernel
theorem dX4_isResident_7 : decode cX4_isResident 7 = .ok (.iconst (-1), 1) := by decide +kernel
theorem dX4_isResident_8 : decode cX4_isResident 8 = .ok (.ireturn, 1) := by decide +kernel
theorem dX4_isResident_9 : decode cX4_isResident 9 = .ok (.aload_n 0, 1) := by decide +kernel
theorem dX4_isResident_10 : decode cX4_isResident 10 = .ok (.getfield 19, 3) := by decide +kernel
theorem dX4_isResident_13 : decode cX4_isResident 13 = .ok (.iload_n 1, 1) := by decide +kernel
theorem dX4_isResident_14 : decode cX4_isResident 14 = .ok (.invokevirtual 70, 3) := by decide +kernel
theorem dX4_isResident_17 : decode cX4_isResident 17 = .ok (.ifCond .eq 7, 3) := by decide +kernel
theorem dX4_isResident_20 : decode cX4_isResident 20 = .ok (.iconst 1, 1) := by decide +kernel
theorem dX4_isResident_21 : decode cX4_isResident 21 = .ok (.goto 4, 3) := by decide +kernel
theorem dX4_isResident_24 : decode cX4_isResident 24 = .ok (.iconst 0, 1) := by decide +kernel
theorem dX4_isResident_25 : decode cX4_isResident 25 = .ok (.ireturn, 1) := by decide +kernel
set_option maxRecDepth 20000 in
theorem ggX4_isDirty_X4_isPage : GoodIn wsX4_isDirty wsX4_isPage := goodIn_r _ [5, 6, 7, 4, 8] (by decide +kernel) (by decide +kernel)
set_option maxRecDepth 20000 in
theorem gX4_isDirty_X4_isPage : GoodIn wsX4_isDirty (va_wsS RX4 45 yX4_isPage wsX4_isPage) := goodIn_app (goodIn_of _ (by decide +kernel)) ggX4_isDirty_X4_isPage
set_option maxRecDepth 20000 in
theorem ggX4_isDirty_X1_holds : GoodIn wsX4_isDirty wsX1_holds := goodIn_r _ [13, 14, 30, 31, 32, 33, 34, 35] (by decide +kernel) (by decide +kernel)
set_option maxRecDepth 20000 in
theorem gX4_isDirty_X1_holds : GoodIn wsX4_isDirty (wsV RX4 70 RX1 yX1_holds wsX1_holds) := goodIn_app (goodIn_of _ (by decide +kernel)) ggX4_isDirty_X1_holds
set_option maxRecDepth 20000 in
theorem ggX4_isDirty_X1_isChanged : GoodIn wsX4_isDirty wsX1_isChanged := goodIn_r _ [18, 19, 30, 31, 32, 33, 34, 35] (by decide +kernel) (by decide +kernel)
set_option maxRecDepth 20000 in
theorem gX4_isDirty_X1_isChanged : GoodIn wsX4_isDirty (wsV RX4 76 RX1 yX1_isChanged wsX1_isChanged) := goodIn_app (goodIn_of _ (by decide +kernel)) ggX4_isDirty_X1_isChanged
theorem dX4_isDirty_0 : decode cX4_isDirty 0 = .ok (.iload_n 1, 1) := by decide +kernel
theorem dX4_isDirty_1 : decode cX4_isDirty 1 = .ok (.invokestatic 45, 3) := by decide +kernel
theorem dX4_isDirty_4 : decode cX4_isDirty 4 = .ok (.ifCond .ne 5, 3) := by decide +kernel
theorem dX4_isDirty_7 : decode cX4_isDirty 7 = .ok (.iconst (-1), 1) := by decide +kernel
theorem dX4_isDirty_8 : decode cX4_isDirty 8 = .ok (.ireturn, 1) := by decide +kernel
theorem dX4_isDirty_9 : decode cX4_isDirty 9 = .ok (.aload_n 0, 1) := by decide +kernel
theorem dX4_isDirty_10 : decode cX4_isDirty 10 = .ok (.getfield 19, 3) := by decide +kernel
theorem dX4_isDirty_13 : decode cX4_isDirty 13 = .ok (.iload_n 1, 1) := by decide +kernel
theorem dX4_isDirty_14 : decode cX4_isDirty 14 = .ok (.invokevirtual 70, 3) := by decide +kernel
theorem dX4_isDirty_17 : decode cX4_isDirty 17 = .ok (.ifCond .ne 6, 3) := by decide +kernel
theorem dX4_isDirty_20 : decode cX4_isDirty 20 = .ok (.bipush (-4), 2) := by decide +kernel
theorem dX4_isDirty_22 : decode cX4_isDirty 22 = .ok (.ireturn, 1) := by decide +kernel
theorem dX4_isDirty_23 : decode cX4_isDirty 23 = .ok (.aload_n 0, 1) := by decide +kernel
theorem dX4_isDirty_24 : decode cX4_isDirty 24 = .ok (.getfield 19, 3) := by decide +kernel
theorem dX4_isDirty_27 : decode cX4_isDirty 27 = .ok (.iload_n 1, 1) := by decide +kernel
theorem dX4_isDirty_28 : decode cX4_isDirty 28 = .ok (.invokevirtual 76, 3) := by decide +kernel
theorem dX4_isDirty_31 : decode cX4_isDirty 31 = .ok (.ifCond .eq 7, 3) := by decide +kernel
theorem dX4_isDirty_34 : decode cX4_isDirty 34 = .ok (.iconst 1, 1) := by decide +kernel
theorem dX4_isDirty_35 : decode cX4_isDirty 35 = .ok (.goto 4, 3) := by decide +kernel
theorem dX4_isDirty_38 : decode cX4_isDirty 38 = .ok (.iconst 0, 1) := by decide +kernel
theorem dX4_isDirty_39 : decode cX4_isDirty 39 = .ok (.ireturn, 1) := by decide +kernel
set_option maxRecDepth 20000 in
theorem ggX4_pinCount_X4_isPage : GoodIn wsX4_pinCount wsX4_isPage := goodIn_r _ [5, 6, 7, 4, 8] (by decide +kernel) (by decide +kernel)
set_option maxRecDepth 20000 in
theorem gX4_pinCount_X4_isPage : GoodIn wsX4_pinCount (va_wsS RX4 45 yX4_isPage wsX4_isPage) := goodIn_app (goodIn_of _ (by decide +kernel)) ggX4_pinCount_X4_isPage
set_option maxRecDepth 20000 in
theorem ggX4_pinCount_X1_holds : GoodIn wsX4_pinCount wsX1_holds := goodIn_r _ [13, 14, 30, 31, 32, 33, 34, 35] (by decide +kernel) (by decide +kernel)
set_option maxRecDepth 20000 in
theorem gX4_pinCount_X1_holds : GoodIn wsX4_pinCount (wsV RX4 70 RX1 yX1_holds wsX1_holds) := goodIn_app (goodIn_of _ (by decide +kernel)) ggX4_pinCount_X1_holds
set_option maxRecDepth 20000 in
theorem ggX4_pinCount_X1_pinsOf : GoodIn wsX4_pinCount wsX1_pinsOf := goodIn_r _ [18, 19, 30, 31, 32, 33, 34, 35] (by decide +kernel) (by decide +kernel)
set_option maxRecDepth 20000 in
theorem gX4_pinCount_X1_pinsOf : GoodIn wsX4_pinCount (wsV RX4 64 RX1 yX1_pinsOf wsX1_pinsOf) := goodIn_app (goodIn_of _ (by decide +kernel)) ggX4_pinCount_X1_pinsOf
theorem dX4_pinCount_0 : decode cX4_pinCount 0 = .ok (.iload_n 1, 1) := by decide +kernel
theorem dX4_pinCount_1 : decode cX4_pinCount 1 = .ok (.invokestatic 45, 3) := by decide +kernel
theorem dX4_pinCount_4 : decode cX4_pinCount 4 = .ok (.ifCond .ne 5, 3) := by decide +kernel
theorem dX4_pinCount_7 : decode cX4_pinCount 7 = .ok (.iconst (-1), 1) := by decide +kernel
theorem dX4_pinCount_8 : decode cX4_pinCount 8 = .ok (.ireturn, 1) := by decide +kernel
theorem dX4_pinCount_9 : decode cX4_pinCount 9 = .ok (.aload_n 0, 1) := by decide +kernel
theorem dX4_pinCount_10 : decode cX4_pinCount 10 = .ok (.getfield 19, 3) := by decide +kernel
theorem dX4_pinCount_13 : decode cX4_pinCount 13 = .ok (.iload_n 1, 1) := by decide +kernel
theorem dX4_pinCount_14 : decode cX4_pinCount 14 = .ok (.invokevirtual 70, 3) := by decide +kernel
theorem dX4_pinCount_17 : decode cX4_pinCount 17 = .ok (.ifCond .ne 6, 3) := by decide +kernel
theorem dX4_pinCount_20 : decode cX4_pinCount 20 = .ok (.bipush (-4), 2) := by decide +kernel
theorem dX4_pinCount_22 : decode cX4_pinCount 22 = .ok (.ireturn, 1) := by decide +kernel
theorem dX4_pinCount_23 : decode cX4_pinCount 23 = .ok (.aload_n 0, 1) := by decide +kernel
theorem dX4_pinCount_24 : decode cX4_pinCount 24 = .ok (.getfield 19, 3) := by decide +kernel
theorem dX4_pinCount_27 : decode cX4_pinCount 27 = .ok (.iload_n 1, 1) := by decide +kernel
theorem dX4_pinCount_28 : decode cX4_pinCount 28 = .ok (.invokevirtual 64, 3) := by decide +kernel
theorem dX4_pinCount_31 : decode cX4_pinCount 31 = .ok (.ireturn, 1) := by decide +kernel
set_option maxRecDepth 20000 in
theorem ggX4_referenceTime_X4_isPage : GoodIn wsX4_referenceTime wsX4_isPage := goodIn_r _ [5, 6, 7, 4, 8] (by decide +kernel) (by decide +kernel)
set_option maxRecDepth 20000 in
theorem gX4_referenceTime_X4_isPage : GoodIn wsX4_referenceTime (va_wsS RX4 45 yX4_isPage wsX4_isPage) := goodIn_app (goodIn_of _ (by decide +kernel)) ggX4_referenceTime_X4_isPage
set_option maxRecDepth 20000 in
theorem ggX4_referenceTime_X2_depth : GoodIn wsX4_referenceTime wsX2_depth := goodIn_r _ [13, 14, 31, 32, 33] (by decide +kernel) (by decide +kernel)
set_option maxRecDepth 20000 in
theorem gX4_referenceTime_X2_depth : GoodIn wsX4_referenceTime (wsV RX4 104 RX2 yX2_depth wsX2_depth) := goodIn_app (goodIn_of _ (by decide +kernel)) ggX4_referenceTime_X2_depth
set_option maxRecDepth 20000 in
theorem ggX4_referenceTime_X4_isWithin : GoodIn wsX4_referenceTime wsX4_isWithin := goodIn_r _ [8] (by decide +kernel) (by decide +kernel)
set_option maxRecDepth 20000 in
theorem gX4_referenceTime_X4_isWithin : GoodIn wsX4_referenceTime (va_wsS RX4 41 yX4_isWithin wsX4_isWithin) := goodIn_app (goodIn_of _ (by decide +kernel)) ggX4_referenceTime_X4_isWithin
set_option maxRecDepth 20000 in
theorem ggX4_referenceTime_X2_timeOf : GoodIn wsX4_referenceTime wsX2_timeOf := goodIn_r _ [18, 19, 20, 31, 32, 33] (by decide +kernel) (by decide +kernel)
set_option maxRecDepth 20000 in
theorem gX4_referenceTime_X2_timeOf : GoodIn wsX4_referenceTime (wsV RX4 107 RX2 yX2_timeOf wsX2_timeOf) := goodIn_app (goodIn_of _ (by decide +kernel)) ggX4_referenceTime_X2_timeOf
theorem dX4_referenceTime_0 : decode cX4_referenceTime 0 = .ok (.iload_n 1, 1) := by decide +kernel
theorem dX4_referenceTime_1 : decode cX4_referenceTime 1 = .ok (.invokestatic 45, 3) := by decide +kernel
theorem dX4_referenceTime_4 : decode cX4_referenceTime 4 = .ok (.ifCond .ne 5, 3) := by decide +kernel
theorem dX4_referenceTime_7 : decode cX4_referenceTime 7 = .ok (.iconst (-1), 1) := by decide +kernel
theorem dX4_referenceTime_8 : decode cX4_referenceTime 8 = .ok (.ireturn, 1) := by decide +kernel
theorem dX4_referenceTime_9 : decode cX4_referenceTime 9 = .ok (.iload_n 2, 1) := by decide +kernel
theorem dX4_referenceTime_10 : decode cX4_referenceTime 10 = .ok (.iconst 1, 1) := by decide +kernel
theorem dX4_referenceTime_11 : decode cX4_referenceTime 11 = .ok (.aload_n 0, 1) := by decide +kernel
theorem dX4_referenceTime_12 : decode cX4_referenceTime 12 = .ok (.getfield 33, 3) := by decide +kernel
theorem dX4_referenceTime_15 : decode cX4_referenceTime 15 = .ok (.invokevirtual 104, 3) := by decide +kernel
theorem dX4_referenceTime_18 : decode cX4_referenceTime 18 = .ok (.invokestatic 41, 3) := by decide +kernel
theorem dX4_referenceTime_21 : decode cX4_referenceTime 21 = .ok (.ifCond .ne 6, 3) := by decide +kernel
theorem dX4_referenceTime_24 : decode cX4_referenceTime 24 = .ok (.bipush (-8), 2) := by decide +kernel
theorem dX4_referenceTime_26 : decode cX4_referenceTime 26 = .ok (.ireturn, 1) := by decide +kernel
theorem dX4_referenceTime_27 : decode cX4_referenceTime 27 = .ok (.aload_n 0, 1) := by decide +kernel
theorem dX4_referenceTime_28 : decode cX4_referenceTime 28 = .ok (.getfield 33, 3) := by decide +kernel
theorem dX4_referenceTime_31 : decode cX4_referenceTime 31 = .ok (.iload_n 1, 1) := by decide +kernel
theorem dX4_referenceTime_32 : decode cX4_referenceTime 32 = .ok (.iload_n 2, 1) := by decide +kernel
theorem dX4_referenceTime_33 : decode cX4_referenceTime 33 = .ok (.invokevirtual 107, 3) := by decide +kernel
theorem dX4_referenceTime_36 : decode cX4_referenceTime 36 = .ok (.ireturn, 1) := by decide +kernel
set_option maxRecDepth 20000 in
theorem ggX4_backwardKDistance_X4_isPage : GoodIn wsX4_backwardKDistance wsX4_isPage := goodIn_r _ [6, 7, 8, 5, 9] (by decide +kernel) (by decide +kernel)
set_option maxRecDepth 20000 in
theorem gX4_backwardKDistance_X4_isPage : GoodIn wsX4_backwardKDistance (va_wsS RX4 45 yX4_isPage wsX4_isPage) := goodIn_app (goodIn_of _ (by decide +kernel)) ggX4_backwardKDistance_X4_isPage
set_option maxRecDepth 20000 in
theorem ggX4_backwardKDistance_X2_depth : GoodIn wsX4_backwardKDistance wsX2_depth := goodIn_r _ [14, 15, 32, 33, 34] (by decide +kernel) (by decide +kernel)
set_option maxRecDepth 20000 in
theorem gX4_backwardKDistance_X2_depth : GoodIn wsX4_backwardKDistance (wsV RX4 104 RX2 yX2_depth wsX2_depth) := goodIn_app (goodIn_of _ (by decide +kernel)) ggX4_backwardKDistance_X2_depth
set_option maxRecDepth 20000 in
theorem ggX4_backwardKDistance_X2_timeOf : GoodIn wsX4_backwardKDistance wsX2_timeOf := goodIn_r _ [19, 20, 21, 32, 33, 34] (by decide +kernel) (by decide +kernel)
set_option maxRecDepth 20000 in
theorem gX4_backwardKDistance_X2_timeOf : GoodIn wsX4_backwardKDistance (wsV RX4 107 RX2 yX2_timeOf wsX2_timeOf) := goodIn_app (goodIn_of _ (by decide +kernel)) ggX4_backwardKDistance_X2_timeOf
theorem dX4_backwardKDistance_0 : decode cX4_backwardKDistance 0 = .ok (.iload_n 1, 1) := by decide +kernel
theorem dX4_backwardKDistance_1 : decode cX4_backwardKDistance 1 = .ok (.invokestatic 45, 3) := by decide +kernel
theorem dX4_backwardKDistance_4 : decode cX4_backwardKDistance 4 = .ok (.ifCond .ne 5, 3) := by decide +kernel
theorem dX4_backwardKDistance_7 : decode cX4_backwardKDistance 7 = .ok (.iconst (-1), 1) := by decide +kernel
theorem dX4_backwardKDistance_8 : decode cX4_backwardKDistance 8 = .ok (.ireturn, 1) := by decide +kernel
theorem dX4_backwardKDistance_9 : decode cX4_backwardKDistance 9 = .ok (.aload_n 0, 1) := by decide +kernel
theorem dX4_backwardKDistance_10 : decode cX4_backwardKDistance 10 = .ok (.getfield 33, 3) := by decide +kernel
theorem dX4_backwardKDistance_13 : decode cX4_backwardKDistance 13 = .ok (.iload_n 1, 1) := by decide +kernel
theorem dX4_backwardKDistance_14 : decode cX4_backwardKDistance 14 = .ok (.aload_n 0, 1) := by decide +kernel
theorem dX4_backwardKDistance_15 : decode cX4_backwardKDistance 15 = .ok (.getfield 33, 3) := by decide +kernel
theorem dX4_backwardKDistance_18 : decode cX4_backwardKDistance 18 = .ok (.invokevirtual 104, 3) := by decide +kernel
theorem dX4_backwardKDistance_21 : decode cX4_backwardKDistance 21 = .ok (.invokevirtual 107, 3) := by decide +kernel
theorem dX4_backwardKDistance_24 : decode cX4_backwardKDistance 24 = .ok (.istore_n 2, 1) := by decide +kernel
theorem dX4_backwardKDistance_25 : decode cX4_backwardKDistance 25 = .ok (.iload_n 2, 1) := by decide +kernel
theorem dX4_backwardKDistance_26 : decode cX4_backwardKDistance 26 = .ok (.bipush (-9), 2) := by decide +kernel
theorem dX4_backwardKDistance_28 : decode cX4_backwardKDistance 28 = .ok (.if_icmp .ne 8, 3) := by decide +kernel
theorem dX4_backwardKDistance_31 : decode cX4_backwardKDistance 31 = .ok (.bipush (-9), 2) := by decide +kernel
theorem dX4_backwardKDistance_33 : decode cX4_backwardKDistance 33 = .ok (.goto 9, 3) := by decide +kernel
theorem dX4_backwardKDistance_36 : decode cX4_backwardKDistance 36 = .ok (.aload_n 0, 1) := by decide +kernel
theorem dX4_backwardKDistance_37 : decode cX4_backwardKDistance 37 = .ok (.getfield 111, 3) := by decide +kernel
theorem dX4_backwardKDistance_40 : decode cX4_backwardKDistance 40 = .ok (.iload_n 2, 1) := by decide +kernel
theorem dX4_backwardKDistance_41 : decode cX4_backwardKDistance 41 = .ok (.isub, 1) := by decide +kernel
theorem dX4_backwardKDistance_42 : decode cX4_backwardKDistance 42 = .ok (.ireturn, 1) := by decide +kernel
set_option maxRecDepth 20000 in
theorem ggX4_victim_X4_chooseVictim : GoodIn wsX4_victim wsX4_chooseVictim := goodIn_r _ [5, 6, 7, 8, 9, 10, 11, 12, 13, 14, 15, 16, 17, 18, 19, 20, 21, 22, 23, 24, 25, 26, 27, 28, 29, 30, 31, 32, 33, 34, 35, 36, 37, 38, 39, 40, 41, 42, 43, 44, 45, 46, 47, 48, 49] (by decide +kernel) (by decide +kernel)
set_option maxRecDepth 20000 in
theorem gX4_victim_X4_chooseVictim : GoodIn wsX4_victim (wsV RX4 115 RX4 yX4_chooseVictim wsX4_chooseVictim) := goodIn_app (goodIn_of _ (by decide +kernel)) ggX4_victim_X4_chooseVictim
theorem dX4_victim_0 : decode cX4_victim 0 = .ok (.aload_n 0, 1) := by decide +kernel
theorem dX4_victim_1 : decode cX4_victim 1 = .ok (.invokevirtual 115, 3) := by decide +kernel
theorem dX4_victim_4 : decode cX4_victim 4 = .ok (.ireturn, 1) := by decide +kernel
set_option maxRecDepth 20000 in
theorem ggX4_diskValue_X4_isPage : GoodIn wsX4_diskValue wsX4_isPage := goodIn_r _ [5, 6, 7, 4, 8] (by decide +kernel) (by decide +kernel)
set_option maxRecDepth 20000 in
theorem gX4_diskValue_X4_isPage : GoodIn wsX4_diskValue (va_wsS RX4 45 yX4_isPage wsX4_isPage) := goodIn_app (goodIn_of _ (by decide +kernel)) ggX4_diskValue_X4_isPage
set_option maxRecDepth 20000 in
theorem ggX4_diskValue_X0_valueOf : GoodIn wsX4_diskValue wsX0_valueOf := goodIn_r _ [13, 14, 25, 26, 27] (by decide +kernel) (by decide +kernel)
set_option maxRecDepth 20000 in
theorem gX4_diskValue_X0_valueOf : GoodIn wsX4_diskValue (wsV RX4 118 RX0 yX0_valueOf wsX0_valueOf) := goodIn_app (goodIn_of _ (by decide +kernel)) ggX4_diskValue_X0_valueOf
theorem dX4_diskValue_0 : decode cX4_diskValue 0 = .ok (.iload_n 1, 1) := by decide +kernel
theorem dX4_diskValue_1 : decode cX4_diskValue 1 = .ok (.invokestatic 45, 3) := by decide +kernel
theorem dX4_diskValue_4 : decode cX4_diskValue 4 = .ok (.ifCond .ne 5, 3) := by decide +kernel
theorem dX4_diskValue_7 : decode cX4_diskValue 7 = .ok (.iconst (-1), 1) := by decide +kernel
theorem dX4_diskValue_8 : decode cX4_diskValue 8 = .ok (.ireturn, 1) := by decide +kernel
theorem dX4_diskValue_9 : decode cX4_diskValue 9 = .ok (.aload_n 0, 1) := by decide +kernel
theorem dX4_diskValue_10 : decode cX4_diskValue 10 = .ok (.getfield 10, 3) := by decide +kernel
theorem dX4_diskValue_13 : decode cX4_diskValue 13 = .ok (.iload_n 1, 1) := by decide +kernel
theorem dX4_diskValue_14 : decode cX4_diskValue 14 = .ok (.invokevirtual 118, 3) := by decide +kernel
theorem dX4_diskValue_17 : decode cX4_diskValue 17 = .ok (.ireturn, 1) := by decide +kernel
set_option maxRecDepth 20000 in
theorem ggX4_residentCount_X1_used : GoodIn wsX4_residentCount wsX1_used := goodIn_r _ [6, 7, 18, 19, 20, 21, 22, 23] (by decide +kernel) (by decide +kernel)
set_option maxRecDepth 20000 in
theorem gX4_residentCount_X1_used : GoodIn wsX4_residentCount (wsV RX4 119 RX1 yX1_used wsX1_used) := goodIn_app (goodIn_of _ (by decide +kernel)) ggX4_residentCount_X1_used
theorem dX4_residentCount_0 : decode cX4_residentCount 0 = .ok (.aload_n 0, 1) := by decide +kernel
theorem dX4_residentCount_1 : decode cX4_residentCount 1 = .ok (.getfield 19, 3) := by decide +kernel
theorem dX4_residentCount_4 : decode cX4_residentCount 4 = .ok (.invokevirtual 119, 3) := by decide +kernel
theorem dX4_residentCount_7 : decode cX4_residentCount 7 = .ok (.ireturn, 1) := by decide +kernel
set_option maxRecDepth 20000 in
theorem ggX4_residentPage_X1_pageAt : GoodIn wsX4_residentPage wsX1_pageAt := goodIn_r _ [6, 7, 18, 19, 20, 21, 22, 23] (by decide +kernel) (by decide +kernel)
set_option maxRecDepth 20000 in
theorem gX4_residentPage_X1_pageAt : GoodIn wsX4_residentPage (wsV RX4 122 RX1 yX1_pageAt wsX1_pageAt) := goodIn_app (goodIn_of _ (by decide +kernel)) ggX4_residentPage_X1_pageAt
theorem dX4_residentPage_0 : decode cX4_residentPage 0 = .ok (.aload_n 0, 1) := by decide +kernel
theorem dX4_residentPage_1 : decode cX4_residentPage 1 = .ok (.getfield 19, 3) := by decide +kernel
theorem dX4_residentPage_4 : decode cX4_residentPage 4 = .ok (.iload_n 1, 1) := by decide +kernel
theorem dX4_residentPage_5 : decode cX4_residentPage 5 = .ok (.invokevirtual 122, 3) := by decide +kernel
theorem dX4_residentPage_8 : decode cX4_residentPage 8 = .ok (.ireturn, 1) := by decide +kernel
set_option maxRecDepth 20000 in
theorem ggX4_queueSize_X3_length : GoodIn wsX4_queueSize wsX3_length := goodIn_r _ [6, 7, 18, 19, 20, 21] (by decide +kernel) (by decide +kernel)
set_option maxRecDepth 20000 in
theorem gX4_queueSize_X3_length : GoodIn wsX4_queueSize (wsV RX4 88 RX3 yX3_length wsX3_length) := goodIn_app (goodIn_of _ (by decide +kernel)) ggX4_queueSize_X3_length
theorem dX4_queueSize_0 : decode cX4_queueSize 0 = .ok (.aload_n 0, 1) := by decide +kernel
theorem dX4_queueSize_1 : decode cX4_queueSize 1 = .ok (.getfield 26, 3) := by decide +kernel
theorem dX4_queueSize_4 : decode cX4_queueSize 4 = .ok (.invokevirtual 88, 3) := by decide +kernel
theorem dX4_queueSize_7 : decode cX4_queueSize 7 = .ok (.ireturn, 1) := by decide +kernel
set_option maxRecDepth 20000 in
theorem ggX4_queuedPage_X3_pageAt : GoodIn wsX4_queuedPage wsX3_pageAt := goodIn_r _ [6, 7, 8, 9, 10, 5, 11, 12, 23, 24, 25, 26] (by decide +kernel) (by decide +kernel)
set_option maxRecDepth 20000 in
theorem gX4_queuedPage_X3_pageAt : GoodIn wsX4_queuedPage (wsV RX4 125 RX3 yX3_pageAt wsX3_pageAt) := goodIn_app (goodIn_of _ (by decide +kernel)) ggX4_queuedPage_X3_pageAt
theorem dX4_queuedPage_0 : decode cX4_queuedPage 0 = .ok (.aload_n 0, 1) := by decide +kernel
theorem dX4_queuedPage_1 : decode cX4_queuedPage 1 = .ok (.getfield 26, 3) := by decide +kernel
theorem dX4_queuedPage_4 : decode cX4_queuedPage 4 = .ok (.iload_n 1, 1) := by decide +kernel
theorem dX4_queuedPage_5 : decode cX4_queuedPage 5 = .ok (.invokevirtual 125, 3) := by decide +kernel
theorem dX4_queuedPage_8 : decode cX4_queuedPage 8 = .ok (.ireturn, 1) := by decide +kernel
set_option maxRecDepth 20000 in
theorem ggX4_queuedValue_X3_valueAt : GoodIn wsX4_queuedValue wsX3_valueAt := goodIn_r _ [6, 7, 8, 9, 10, 5, 11, 12, 23, 24, 25, 26] (by decide +kernel) (by decide +kernel)
set_option maxRecDepth 20000 in
theorem gX4_queuedValue_X3_valueAt : GoodIn wsX4_queuedValue (wsV RX4 126 RX3 yX3_valueAt wsX3_valueAt) := goodIn_app (goodIn_of _ (by decide +kernel)) ggX4_queuedValue_X3_valueAt
theorem dX4_queuedValue_0 : decode cX4_queuedValue 0 = .ok (.aload_n 0, 1) := by decide +kernel
theorem dX4_queuedValue_1 : decode cX4_queuedValue 1 = .ok (.getfield 26, 3) := by decide +kernel
theorem dX4_queuedValue_4 : decode cX4_queuedValue 4 = .ok (.iload_n 1, 1) := by decide +kernel
theorem dX4_queuedValue_5 : decode cX4_queuedValue 5 = .ok (.invokevirtual 126, 3) := by decide +kernel
theorem dX4_queuedValue_8 : decode cX4_queuedValue 8 = .ok (.ireturn, 1) := by decide +kernel
theorem dX4_clock_0 : decode cX4_clock 0 = .ok (.aload_n 0, 1) := by decide +kernel
theorem dX4_clock_1 : decode cX4_clock 1 = .ok (.getfield 111, 3) := by decide +kernel
theorem dX4_clock_4 : decode cX4_clock 4 = .ok (.ireturn, 1) := by decide +kernel
theorem dX4_hits_0 : decode cX4_hits 0 = .ok (.aload_n 0, 1) := by decide +kernel
theorem dX4_hits_1 : decode cX4_hits 1 = .ok (.getfield 129, 3) := by decide +kernel
theorem dX4_hits_4 : decode cX4_hits 4 = .ok (.ireturn, 1) := by decide +kernel
theorem dX4_misses_0 : decode cX4_misses 0 = .ok (.aload_n 0, 1) := by decide +kernel
theorem dX4_misses_1 : decode cX4_misses 1 = .ok (.getfield 132, 3) := by decide +kernel
theorem dX4_misses_4 : decode cX4_misses 4 = .ok (.ireturn, 1) := by decide +kernel
theorem dX4_evictions_0 : decode cX4_evictions 0 = .ok (.aload_n 0, 1) := by decide +kernel
theorem dX4_evictions_1 : decode cX4_evictions 1 = .ok (.getfield 135, 3) := by decide +kernel
theorem dX4_evictions_4 : decode cX4_evictions 4 = .ok (.ireturn, 1) := by decide +kernel
set_option maxRecDepth 20000 in
theorem ggX4_diskReads_X0_loads : GoodIn wsX4_diskReads wsX0_loads := goodIn_r _ [6, 7, 18, 19, 20] (by decide +kernel) (by decide +kernel)
set_option maxRecDepth 20000 in
theorem gX4_diskReads_X0_loads : GoodIn wsX4_diskReads (wsV RX4 138 RX0 yX0_loads wsX0_loads) := goodIn_app (goodIn_of _ (by decide +kernel)) ggX4_diskReads_X0_loads
theorem dX4_diskReads_0 : decode cX4_diskReads 0 = .ok (.aload_n 0, 1) := by decide +kernel
theorem dX4_diskReads_1 : decode cX4_diskReads 1 = .ok (.getfield 10, 3) := by decide +kernel
theorem dX4_diskReads_4 : decode cX4_diskReads 4 = .ok (.invokevirtual 138, 3) := by decide +kernel
theorem dX4_diskReads_7 : decode cX4_diskReads 7 = .ok (.ireturn, 1) := by decide +kernel
set_option maxRecDepth 20000 in
theorem ggX4_diskWrites_X0_stores : GoodIn wsX4_diskWrites wsX0_stores := goodIn_r _ [6, 7, 18, 19, 20] (by decide +kernel) (by decide +kernel)
set_option maxRecDepth 20000 in
theorem gX4_diskWrites_X0_stores : GoodIn wsX4_diskWrites (wsV RX4 141 RX0 yX0_stores wsX0_stores) := goodIn_app (goodIn_of _ (by decide +kernel)) ggX4_diskWrites_X0_stores
theorem dX4_diskWrites_0 : decode cX4_diskWrites 0 = .ok (.aload_n 0, 1) := by decide +kernel
theorem dX4_diskWrites_1 : decode cX4_diskWrites 1 = .ok (.getfield 10, 3) := by decide +kernel
theorem dX4_diskWrites_4 : decode cX4_diskWrites 4 = .ok (.invokevirtual 141, 3) := by decide +kernel
theorem dX4_diskWrites_7 : decode cX4_diskWrites 7 = .ok (.ireturn, 1) := by decide +kernel
theorem dX4_stalls_0 : decode cX4_stalls 0 = .ok (.aload_n 0, 1) := by decide +kernel
theorem dX4_stalls_1 : decode cX4_stalls 1 = .ok (.getfield 144, 3) := by decide +kernel
theorem dX4_stalls_4 : decode cX4_stalls 4 = .ok (.ireturn, 1) := by decide +kernel
set_option maxRecDepth 20000 in
theorem ggX4_isPage_X4_isWithin : GoodIn wsX4_isPage wsX4_isWithin := goodIn_r _ [4] (by decide +kernel) (by decide +kernel)
set_option maxRecDepth 20000 in
theorem gX4_isPage_X4_isWithin : GoodIn wsX4_isPage (va_wsS RX4 41 yX4_isWithin wsX4_isWithin) := goodIn_app (goodIn_of _ (by decide +kernel)) ggX4_isPage_X4_isWithin
theorem dX4_isPage_0 : decode cX4_isPage 0 = .ok (.iload_n 0, 1) := by decide +kernel
theorem dX4_isPage_1 : decode cX4_isPage 1 = .ok (.iconst 0, 1) := by decide +kernel
theorem dX4_isPage_2 : decode cX4_isPage 2 = .ok (.bipush 63, 2) := by decide +kernel
theorem dX4_isPage_4 : decode cX4_isPage 4 = .ok (.invokestatic 41, 3) := by decide +kernel
theorem dX4_isPage_7 : decode cX4_isPage 7 = .ok (.ireturn, 1) := by decide +kernel
theorem dX4_isWithin_0 : decode cX4_isWithin 0 = .ok (.iload_n 0, 1) := by decide +kernel
theorem dX4_isWithin_1 : decode cX4_isWithin 1 = .ok (.iload_n 1, 1) := by decide +kernel
theorem dX4_isWithin_2 : decode cX4_isWithin 2 = .ok (.if_icmp .lt 12, 3) := by decide +kernel
theorem dX4_isWithin_5 : decode cX4_isWithin 5 = .ok (.iload_n 0, 1) := by decide +kernel
theorem dX4_isWithin_6 : decode cX4_isWithin 6 = .ok (.iload_n 2, 1) := by decide +kernel
theorem dX4_isWithin_7 : decode cX4_isWithin 7 = .ok (.if_icmp .gt 7, 3) := by decide +kernel
theorem dX4_isWithin_10 : decode cX4_isWithin 10 = .ok (.iconst 1, 1) := by decide +kernel
theorem dX4_isWithin_11 : decode cX4_isWithin 11 = .ok (.goto 4, 3) := by decide +kernel
theorem dX4_isWithin_14 : decode cX4_isWithin 14 = .ok (.iconst 0, 1) := by decide +kernel
theorem dX4_isWithin_15 : decode cX4_isWithin 15 = .ok (.ireturn, 1) := by decide +kernel
set_option maxRecDepth 20000 in
theorem ggX4_startAnew_X0_erase : GoodIn wsX4_startAnew wsX0_erase := goodIn_r _ [15, 16, 17, 18, 19, 20, 21, 22, 62, 63, 64] (by decide +kernel) (by decide +kernel)
set_option maxRecDepth 20000 in
theorem gX4_startAnew_X0_erase : GoodIn wsX4_startAnew (wsV RX4 147 RX0 yX0_erase wsX0_erase) := goodIn_app (goodIn_of _ (by decide +kernel)) ggX4_startAnew_X0_erase
set_option maxRecDepth 20000 in
theorem ggX4_startAnew_X1_empty : GoodIn wsX4_startAnew wsX1_empty := goodIn_r _ [27, 28, 29, 30, 31, 32, 26, 33, 34, 35, 36, 65, 66, 67, 68, 69, 70] (by decide +kernel) (by decide +kernel)
set_option maxRecDepth 20000 in
theorem gX4_startAnew_X1_empty : GoodIn wsX4_startAnew (wsV RX4 150 RX1 yX1_empty wsX1_empty) := goodIn_app (goodIn_of _ (by decide +kernel)) ggX4_startAnew_X1_empty
set_option maxRecDepth 20000 in
theorem ggX4_startAnew_X3_empty : GoodIn wsX4_startAnew wsX3_empty := goodIn_r _ [41, 42, 43, 71, 72, 73, 74] (by decide +kernel) (by decide +kernel)
set_option maxRecDepth 20000 in
theorem gX4_startAnew_X3_empty : GoodIn wsX4_startAnew (wsV RX4 153 RX3 yX3_empty wsX3_empty) := goodIn_app (goodIn_of _ (by decide +kernel)) ggX4_startAnew_X3_empty
set_option maxRecDepth 20000 in
theorem ggX4_startAnew_X2_forgetAll : GoodIn wsX4_startAnew wsX2_forgetAll := goodIn_r _ [48, 49, 50, 51, 20, 21, 22, 75, 76, 77] (by decide +kernel) (by decide +kernel)
set_option maxRecDepth 20000 in
theorem gX4_startAnew_X2_forgetAll : GoodIn wsX4_startAnew (wsV RX4 154 RX2 yX2_forgetAll wsX2_forgetAll) := goodIn_app (goodIn_of _ (by decide +kernel)) ggX4_startAnew_X2_forgetAll
theorem dX4_startAnew_0 : decode cX4_startAnew 0 = .ok (.aload_n 0, 1) := by decide +kernel
theorem dX4_startAnew_1 : decode cX4_startAnew 1 = .ok (.getfield 10, 3) := by decide +kernel
theorem dX4_startAnew_4 : decode cX4_startAnew 4 = .ok (.invokevirtual 147, 3) := by decide +kernel
theorem dX4_startAnew_7 : decode cX4_startAnew 7 = .ok (.aload_n 0, 1) := by decide +kernel
theorem dX4_startAnew_8 : decode cX4_startAnew 8 = .ok (.getfield 19, 3) := by decide +kernel
theorem dX4_startAnew_11 : decode cX4_startAnew 11 = .ok (.iload_n 1, 1) := by decide +kernel
theorem dX4_startAnew_12 : decode cX4_startAnew 12 = .ok (.invokevirtual 150, 3) := by decide +kernel
theorem dX4_startAnew_15 : decode cX4_startAnew 15 = .ok (.aload_n 0, 1) := by decide +kernel
theorem dX4_startAnew_16 : decode cX4_startAnew 16 = .ok (.getfield 26, 3) := by decide +kernel
theorem dX4_startAnew_19 : decode cX4_startAnew 19 = .ok (.iload_n 3, 1) := by decide +kernel
theorem dX4_startAnew_20 : decode cX4_startAnew 20 = .ok (.invokevirtual 153, 3) := by decide +kernel
theorem dX4_startAnew_23 : decode cX4_startAnew 23 = .ok (.aload_n 0, 1) := by decide +kernel
theorem dX4_startAnew_24 : decode cX4_startAnew 24 = .ok (.getfield 33, 3) := by decide +kernel
theorem dX4_startAnew_27 : decode cX4_startAnew 27 = .ok (.iload_n 2, 1) := by decide +kernel
theorem dX4_startAnew_28 : decode cX4_startAnew 28 = .ok (.invokevirtual 154, 3) := by decide +kernel
theorem dX4_startAnew_31 : decode cX4_startAnew 31 = .ok (.aload_n 0, 1) := by decide +kernel
theorem dX4_startAnew_32 : decode cX4_startAnew 32 = .ok (.iload 4, 2) := by decide +kernel
theorem dX4_startAnew_34 : decode cX4_startAnew 34 = .ok (.putfield 157, 3) := by decide +kernel
theorem dX4_startAnew_37 : decode cX4_startAnew 37 = .ok (.aload_n 0, 1) := by decide +kernel
theorem dX4_startAnew_38 : decode cX4_startAnew 38 = .ok (.iconst 0, 1) := by decide +kernel
theorem dX4_startAnew_39 : decode cX4_startAnew 39 = .ok (.putfield 111, 3) := by decide +kernel
theorem dX4_startAnew_42 : decode cX4_startAnew 42 = .ok (.aload_n 0, 1) := by decide +kernel
theorem dX4_startAnew_43 : decode cX4_startAnew 43 = .ok (.iconst 0, 1) := by decide +kernel
theorem dX4_startAnew_44 : decode cX4_startAnew 44 = .ok (.putfield 129, 3) := by decide +kernel
theorem dX4_startAnew_47 : decode cX4_startAnew 47 = .ok (.aload_n 0, 1) := by decide +kernel
theorem dX4_startAnew_48 : decode cX4_startAnew 48 = .ok (.iconst 0, 1) := by decide +kernel
theorem dX4_startAnew_49 : decode cX4_startAnew 49 = .ok (.putfield 132, 3) := by decide +kernel
theorem dX4_startAnew_52 : decode cX4_startAnew 52 = .ok (.aload_n 0, 1) := by decide +kernel
theorem dX4_startAnew_53 : decode cX4_startAnew 53 = .ok (.iconst 0, 1) := by decide +kernel
theorem dX4_startAnew_54 : decode cX4_startAnew 54 = .ok (.putfield 135, 3) := by decide +kernel
theorem dX4_startAnew_57 : decode cX4_startAnew 57 = .ok (.aload_n 0, 1) := by decide +kernel
theorem dX4_startAnew_58 : decode cX4_startAnew 58 = .ok (.iconst 0, 1) := by decide +kernel
theorem dX4_startAnew_59 : decode cX4_startAnew 59 = .ok (.putfield 144, 3) := by decide +kernel
theorem dX4_startAnew_62 : decode cX4_startAnew 62 = .ok (.return_, 1) := by decide +kernel
set_option maxRecDepth 20000 in
theorem ggX4_canReference_X1_holds : GoodIn wsX4_canReference wsX1_holds := goodIn_r _ [6, 7, 47, 48, 49, 50, 51, 52] (by decide +kernel) (by decide +kernel)
set_option maxRecDepth 20000 in
theorem gX4_canReference_X1_holds : GoodIn wsX4_canReference (wsV RX4 70 RX1 yX1_holds wsX1_holds) := goodIn_app (goodIn_of _ (by decide +kernel)) ggX4_canReference_X1_holds
set_option maxRecDepth 20000 in
theorem ggX4_canReference_X1_areFull : GoodIn wsX4_canReference wsX1_areFull := goodIn_r _ [11, 12, 13, 47, 48, 49, 50, 51, 52] (by decide +kernel) (by decide +kernel)
set_option maxRecDepth 20000 in
theorem gX4_canReference_X1_areFull : GoodIn wsX4_canReference (wsV RX4 160 RX1 yX1_areFull wsX1_areFull) := goodIn_app (goodIn_of _ (by decide +kernel)) ggX4_canReference_X1_areFull
set_option maxRecDepth 20000 in
theorem ggX4_canReference_X4_chooseVictim : GoodIn wsX4_canReference wsX4_chooseVictim := goodIn_r _ [18, 1, 19, 2, 3, 4, 5, 6, 7, 20, 21, 22, 23, 24, 25, 26, 27, 28, 29, 30, 31, 32, 33, 34, 35, 36, 37, 38, 39, 40, 41, 42, 43, 44, 45, 46, 47, 48, 49, 50, 51, 52, 53, 54, 55] (by decide +kernel) (by decide +kernel)
set_option maxRecDepth 20000 in
theorem gX4_canReference_X4_chooseVictim : GoodIn wsX4_canReference (wsV RX4 115 RX4 yX4_chooseVictim wsX4_chooseVictim) := goodIn_app (goodIn_of _ (by decide +kernel)) ggX4_canReference_X4_chooseVictim
theorem dX4_canReference_0 : decode cX4_canReference 0 = .ok (.aload_n 0, 1) := by decide +kernel
theorem dX4_canReference_1 : decode cX4_canReference 1 = .ok (.getfield 19, 3) := by decide +kernel
theorem dX4_canReference_4 : decode cX4_canReference 4 = .ok (.iload_n 1, 1) := by decide +kernel
theorem dX4_canReference_5 : decode cX4_canReference 5 = .ok (.invokevirtual 70, 3) := by decide +kernel
theorem dX4_canReference_8 : decode cX4_canReference 8 = .ok (.ifCond .ne 22, 3) := by decide +kernel
theorem dX4_canReference_11 : decode cX4_canReference 11 = .ok (.aload_n 0, 1) := by decide +kernel
theorem dX4_canReference_12 : decode cX4_canReference 12 = .ok (.getfield 19, 3) := by decide +kernel
theorem dX4_canReference_15 : decode cX4_canReference 15 = .ok (.invokevirtual 160, 3) := by decide +kernel
theorem dX4_canReference_18 : decode cX4_canReference 18 = .ok (.ifCond .eq 12, 3) := by decide +kernel
theorem dX4_canReference_21 : decode cX4_canReference 21 = .ok (.aload_n 0, 1) := by decide +kernel
theorem dX4_canReference_22 : decode cX4_canReference 22 = .ok (.invokevirtual 115, 3) := by decide +kernel
theorem dX4_canReference_25 : decode cX4_canReference 25 = .ok (.bipush (-9), 2) := by decide +kernel
theorem dX4_canReference_27 : decode cX4_canReference 27 = .ok (.if_icmp .eq 7, 3) := by decide +kernel
theorem dX4_canReference_30 : decode cX4_canReference 30 = .ok (.iconst 1, 1) := by decide +kernel
theorem dX4_canReference_31 : decode cX4_canReference 31 = .ok (.goto 4, 3) := by decide +kernel
theorem dX4_canReference_34 : decode cX4_canReference 34 = .ok (.iconst 0, 1) := by decide +kernel
theorem dX4_canReference_35 : decode cX4_canReference 35 = .ok (.ireturn, 1) := by decide +kernel
set_option maxRecDepth 20000 in
theorem ggX4_reference_X1_holds : GoodIn wsX4_reference wsX1_holds := goodIn_r _ [10, 11, 156, 157, 158, 159, 160, 161] (by decide +kernel) (by decide +kernel)
set_option maxRecDepth 20000 in
theorem gX4_reference_X1_holds : GoodIn wsX4_reference (wsV RX4 70 RX1 yX1_holds wsX1_holds) := goodIn_app (goodIn_of _ (by decide +kernel)) ggX4_reference_X1_holds
set_option maxRecDepth 20000 in
theorem ggX4_reference_X4_makeRoom : GoodIn wsX4_reference wsX4_makeRoom := goodIn_r _ [16, 2, 17, 18, 19, 20, 9, 21, 22, 23, 24, 25, 26, 15, 27, 5, 6, 7, 8, 10, 11, 28, 29, 30, 31, 32, 33, 34, 35, 36, 37, 38, 39, 40, 41, 42, 43, 44, 45, 46, 47, 48, 49, 50, 51, 52, 53, 54, 55, 56, 57, 58, 59, 60, 61, 62, 63, 64, 65, 66, 67, 68, 69, 70, 71, 72, 73, 74, 75, 76, 77, 78, 79, 80, 81, 82, 83, 84, 85, 86, 87, 88, 89, 90, 91, 92, 93, 94, 95, 96, 97, 98, 99, 100, 101, 102, 103, 104, 105, 106, 107, 108, 109, 110, 146, 147, 148, 149, 150, 151, 152, 153, 154, 155, 156, 157, 158, 159, 160, 161, 162, 163, 164, 165, 166, 167, 168, 169, 170, 171] (by decide +kernel) (by decide +kernel)
set_option maxRecDepth 20000 in
theorem gX4_reference_X4_makeRoom : GoodIn wsX4_reference (wsV RX4 164 RX4 yX4_makeRoom wsX4_makeRoom) := goodIn_app (goodIn_of _ (by decide +kernel)) ggX4_reference_X4_makeRoom
set_option maxRecDepth 20000 in
theorem ggX4_reference_X4_load : GoodIn wsX4_reference wsX4_load := goodIn_r _ [114, 54, 2, 67, 115, 116, 117, 59, 118, 61, 72, 119, 120, 121, 85, 122, 123, 88, 124, 125, 126, 9, 127, 11, 97, 22, 77, 78, 79, 80, 81, 73, 74, 75, 76, 89, 90, 91, 92, 128, 129, 130, 131, 49, 146, 147, 148, 149, 150, 151, 152, 153, 154, 155, 165, 166, 167, 168, 169, 170, 171, 156, 157, 158, 159, 160, 161] (by decide +kernel) (by decide +kernel)
set_option maxRecDepth 20000 in
theorem gX4_reference_X4_load : GoodIn wsX4_reference (wsV RX4 167 RX4 yX4_load wsX4_load) := goodIn_app (goodIn_of _ (by decide +kernel)) ggX4_reference_X4_load
set_option maxRecDepth 20000 in
theorem ggX4_reference_X4_forgetIfStale : GoodIn wsX4_reference wsX4_forgetIfStale := goodIn_r _ [135, 5, 1, 136, 137, 41, 42, 36, 43, 38, 44, 138, 139, 140, 141, 146, 147, 148, 149, 150, 151, 152, 153, 154, 155, 162, 163, 164] (by decide +kernel) (by decide +kernel)
set_option maxRecDepth 20000 in
theorem gX4_reference_X4_forgetIfStale : GoodIn wsX4_reference (wsV RX4 170 RX4 yX4_forgetIfStale wsX4_forgetIfStale) := goodIn_app (goodIn_of _ (by decide +kernel)) ggX4_reference_X4_forgetIfStale
set_option maxRecDepth 20000 in
theorem ggX4_reference_X2_record : GoodIn wsX4_reference wsX2_record := goodIn_r _ [145, 44, 38, 39, 162, 163, 164] (by decide +kernel) (by decide +kernel)
set_option maxRecDepth 20000 in
theorem gX4_reference_X2_record : GoodIn wsX4_reference (wsV RX4 173 RX2 yX2_record wsX2_record) := goodIn_app (goodIn_of _ (by decide +kernel)) ggX4_reference_X2_record
theorem dX4_reference_0 : decode cX4_reference 0 = .ok (.aload_n 0, 1) := by decide +kernel
theorem dX4_reference_1 : decode cX4_reference 1 = .ok (.dup, 1) := by decide +kernel
theorem dX4_reference_2 : decode cX4_reference 2 = .ok (.getfield 111, 3) := by decide +kernel
theorem dX4_reference_5 : decode cX4_reference 5 = .ok (.iconst 1, 1) := by decide +kernel
theorem dX4_reference_6 : decode cX4_reference 6 = .ok (.iadd, 1) := by decide +kernel
theorem dX4_reference_7 : decode cX4_reference 7 = .ok (.putfield 111, 3) := by decide +kernel
theorem dX4_reference_10 : decode cX4_reference 10 = .ok (.aload_n 0, 1) := by decide +kernel
theorem dX4_reference_11 : decode cX4_reference 11 = .ok (.getfield 19, 3) := by decide +kernel
theorem dX4_reference_14 : decode cX4_reference 14 = .ok (.iload_n 1, 1) := by decide +kernel
theorem dX4_reference_15 : decode cX4_reference 15 = .ok (.invokevirtual 70, 3) := by decide +kernel
theorem dX4_reference_18 : decode cX4_reference 18 = .ok (.ifCond .eq 16, 3) := by decide +kernel
theorem dX4_reference_21 : decode cX4_reference 21 = .ok (.aload_n 0, 1) := by decide +kernel
theorem dX4_reference_22 : decode cX4_reference 22 = .ok (.dup, 1) := by decide +kernel
theorem dX4_reference_23 : decode cX4_reference 23 = .ok (.getfield 129, 3) := by decide +kernel
theorem dX4_reference_26 : decode cX4_reference 26 = .ok (.iconst 1, 1) := by decide +kernel
theorem dX4_reference_27 : decode cX4_reference 27 = .ok (.iadd, 1) := by decide +kernel
theorem dX4_reference_28 : decode cX4_reference 28 = .ok (.putfield 129, 3) := by decide +kernel
theorem dX4_reference_31 : decode cX4_reference 31 = .ok (.goto 27, 3) := by decide +kernel
theorem dX4_reference_34 : decode cX4_reference 34 = .ok (.aload_n 0, 1) := by decide +kernel
theorem dX4_reference_35 : decode cX4_reference 35 = .ok (.dup, 1) := by decide +kernel
theorem dX4_reference_36 : decode cX4_reference 36 = .ok (.getfield 132, 3) := by decide +kernel
theorem dX4_reference_39 : decode cX4_reference 39 = .ok (.iconst 1, 1) := by decide +kernel
theorem dX4_reference_40 : decode cX4_reference 40 = .ok (.iadd, 1) := by decide +kernel
theorem dX4_reference_41 : decode cX4_reference 41 = .ok (.putfield 132, 3) := by decide +kernel
theorem dX4_reference_44 : decode cX4_reference 44 = .ok (.aload_n 0, 1) := by decide +kernel
theorem dX4_reference_45 : decode cX4_reference 45 = .ok (.invokevirtual 164, 3) := by decide +kernel
theorem dX4_reference_48 : decode cX4_reference 48 = .ok (.aload_n 0, 1) := by decide +kernel
theorem dX4_reference_49 : decode cX4_reference 49 = .ok (.iload_n 1, 1) := by decide +kernel
theorem dX4_reference_50 : decode cX4_reference 50 = .ok (.invokevirtual 167, 3) := by decide +kernel
theorem dX4_reference_53 : decode cX4_reference 53 = .ok (.aload_n 0, 1) := by decide +kernel
theorem dX4_reference_54 : decode cX4_reference 54 = .ok (.iload_n 1, 1) := by decide +kernel
theorem dX4_reference_55 : decode cX4_reference 55 = .ok (.invokevirtual 170, 3) := by decide +kernel
theorem dX4_reference_58 : decode cX4_reference 58 = .ok (.aload_n 0, 1) := by decide +kernel
theorem dX4_reference_59 : decode cX4_reference 59 = .ok (.getfield 33, 3) := by decide +kernel
theorem dX4_reference_62 : decode cX4_reference 62 = .ok (.iload_n 1, 1) := by decide +kernel
theorem dX4_reference_63 : decode cX4_reference 63 = .ok (.aload_n 0, 1) := by decide +kernel
theorem dX4_reference_64 : decode cX4_reference 64 = .ok (.getfield 111, 3) := by decide +kernel
theorem dX4_reference_67 : decode cX4_reference 67 = .ok (.invokevirtual 173, 3) := by decide +kernel
theorem dX4_reference_70 : decode cX4_reference 70 = .ok (.return_, 1) := by decide +kernel
set_option maxRecDepth 20000 in
theorem ggX4_makeRoom_X1_areFull : GoodIn wsX4_makeRoom wsX1_areFull := goodIn_r _ [7, 8, 9, 114, 115, 116, 117, 118, 119] (by decide +kernel) (by decide +kernel)
set_option maxRecDepth 20000 in
theorem gX4_makeRoom_X1_areFull : GoodIn wsX4_makeRoom (wsV RX4 160 RX1 yX1_areFull wsX1_areFull) := goodIn_app (goodIn_of _ (by decide +kernel)) ggX4_makeRoom_X1_areFull
set_option maxRecDepth 20000 in
theorem ggX4_makeRoom_X4_chooseVictim : GoodIn wsX4_makeRoom wsX4_chooseVictim := goodIn_r _ [14, 1, 15, 16, 17, 18, 6, 19, 20, 21, 22, 23, 24, 25, 26, 27, 28, 29, 30, 31, 32, 33, 34, 35, 36, 37, 104, 105, 106, 107, 108, 109, 110, 111, 112, 113, 114, 115, 116, 117, 118, 119, 120, 121, 122] (by decide +kernel) (by decide +kernel)
set_option maxRecDepth 20000 in
theorem gX4_makeRoom_X4_chooseVictim : GoodIn wsX4_makeRoom (wsV RX4 115 RX4 yX4_chooseVictim wsX4_chooseVictim) := goodIn_app (goodIn_of _ (by decide +kernel)) ggX4_makeRoom_X4_chooseVictim
set_option maxRecDepth 20000 in
theorem ggX4_makeRoom_X1_isChanged : GoodIn wsX4_makeRoom wsX1_isChanged := goodIn_r _ [41, 42, 114, 115, 116, 117, 118, 119] (by decide +kernel) (by decide +kernel)
set_option maxRecDepth 20000 in
theorem gX4_makeRoom_X1_isChanged : GoodIn wsX4_makeRoom (wsV RX4 76 RX1 yX1_isChanged wsX1_isChanged) := goodIn_app (goodIn_of _ (by decide +kernel)) ggX4_makeRoom_X1_isChanged
set_option maxRecDepth 20000 in
theorem ggX4_makeRoom_X4_enqueue : GoodIn wsX4_makeRoom wsX4_enqueue := goodIn_r _ [46, 47, 48, 1, 49, 50, 51, 52, 53, 54, 55, 56, 57, 58, 13, 59, 60, 61, 62, 63, 64, 65, 66, 67, 68, 69, 70, 71, 72, 73, 74, 75, 76, 77, 78, 79, 80, 81, 82, 83, 84, 85, 86, 87, 88, 6, 89, 90, 91, 92, 93, 94, 95, 104, 105, 106, 107, 108, 109, 110, 111, 112, 113, 123, 124, 125, 126, 127, 128, 129, 114, 115, 116, 117, 118, 119] (by decide +kernel) (by decide +kernel)
set_option maxRecDepth 20000 in
theorem gX4_makeRoom_X4_enqueue : GoodIn wsX4_makeRoom (wsV RX4 176 RX4 yX4_enqueue wsX4_enqueue) := goodIn_app (goodIn_of _ (by decide +kernel)) ggX4_makeRoom_X4_enqueue
set_option maxRecDepth 20000 in
theorem ggX4_makeRoom_X1_release : GoodIn wsX4_makeRoom wsX1_release := goodIn_r _ [99, 8, 100, 101, 102, 6, 103, 20, 42, 25, 114, 115, 116, 117, 118, 119] (by decide +kernel) (by decide +kernel)
set_option maxRecDepth 20000 in
theorem gX4_makeRoom_X1_release : GoodIn wsX4_makeRoom (wsV RX4 98 RX1 yX1_release wsX1_release) := goodIn_app (goodIn_of _ (by decide +kernel)) ggX4_makeRoom_X1_release
theorem dX4_makeRoom_0 : decode cX4_makeRoom 0 = .ok (.aload_n 0, 1) := by decide +kernel
theorem dX4_makeRoom_1 : decode cX4_makeRoom 1 = .ok (.getfield 19, 3) := by decide +kernel
theorem dX4_makeRoom_4 : decode cX4_makeRoom 4 = .ok (.invokevirtual 160, 3) := by decide +kernel
theorem dX4_makeRoom_7 : decode cX4_makeRoom 7 = .ok (.ifCond .ne 4, 3) := by decide +kernel
theorem dX4_makeRoom_10 : decode cX4_makeRoom 10 = .ok (.return_, 1) := by decide +kernel
theorem dX4_makeRoom_11 : decode cX4_makeRoom 11 = .ok (.aload_n 0, 1) := by decide +kernel
theorem dX4_makeRoom_12 : decode cX4_makeRoom 12 = .ok (.invokevirtual 115, 3) := by decide +kernel
theorem dX4_makeRoom_15 : decode cX4_makeRoom 15 = .ok (.istore_n 1, 1) := by decide +kernel
theorem dX4_makeRoom_16 : decode cX4_makeRoom 16 = .ok (.iload_n 1, 1) := by decide +kernel
theorem dX4_makeRoom_17 : decode cX4_makeRoom 17 = .ok (.bipush (-9), 2) := by decide +kernel
theorem dX4_makeRoom_19 : decode cX4_makeRoom 19 = .ok (.if_icmp .ne 4, 3) := by decide +kernel
theorem dX4_makeRoom_22 : decode cX4_makeRoom 22 = .ok (.return_, 1) := by decide +kernel
theorem dX4_makeRoom_23 : decode cX4_makeRoom 23 = .ok (.aload_n 0, 1) := by decide +kernel
theorem dX4_makeRoom_24 : decode cX4_makeRoom 24 = .ok (.getfield 19, 3) := by decide +kernel
theorem dX4_makeRoom_27 : decode cX4_makeRoom 27 = .ok (.iload_n 1, 1) := by decide +kernel
theorem dX4_makeRoom_28 : decode cX4_makeRoom 28 = .ok (.invokevirtual 76, 3) := by decide +kernel
theorem dX4_makeRoom_31 : decode cX4_makeRoom 31 = .ok (.ifCond .eq 8, 3) := by decide +kernel
theorem dX4_makeRoom_34 : decode cX4_makeRoom 34 = .ok (.aload_n 0, 1) := by decide +kernel
theorem dX4_makeRoom_35 : decode cX4_makeRoom 35 = .ok (.iload_n 1, 1) := by decide +kernel
theorem dX4_makeRoom_36 : decode cX4_makeRoom 36 = .ok (.invokevirtual 176, 3) := by decide +kernel
theorem dX4_makeRoom_39 : decode cX4_makeRoom 39 = .ok (.aload_n 0, 1) := by decide +kernel
theorem dX4_makeRoom_40 : decode cX4_makeRoom 40 = .ok (.getfield 19, 3) := by decide +kernel
theorem dX4_makeRoom_43 : decode cX4_makeRoom 43 = .ok (.iload_n 1, 1) := by decide +kernel
theorem dX4_makeRoom_44 : decode cX4_makeRoom 44 = .ok (.invokevirtual 98, 3) := by decide +kernel
theorem dX4_makeRoom_47 : decode cX4_makeRoom 47 = .ok (.aload_n 0, 1) := by decide +kernel
theorem dX4_makeRoom_48 : decode cX4_makeRoom 48 = .ok (.dup, 1) := by decide +kernel
theorem dX4_makeRoom_49 : decode cX4_makeRoom 49 = .ok (.getfield 135, 3) := by decide +kernel
theorem dX4_makeRoom_52 : decode cX4_makeRoom 52 = .ok (.iconst 1, 1) := by decide +kernel
theorem dX4_makeRoom_53 : decode cX4_makeRoom 53 = .ok (.iadd, 1) := by decide +kernel
theorem dX4_makeRoom_54 : decode cX4_makeRoom 54 = .ok (.putfield 135, 3) := by decide +kernel
theorem dX4_makeRoom_57 : decode cX4_makeRoom 57 = .ok (.return_, 1) := by decide +kernel
set_option maxRecDepth 20000 in
theorem ggX4_enqueue_X3_isFull : GoodIn wsX4_enqueue wsX3_isFull := goodIn_r _ [8, 9, 10, 63, 64, 65, 66] (by decide +kernel) (by decide +kernel)
set_option maxRecDepth 20000 in
theorem gX4_enqueue_X3_isFull : GoodIn wsX4_enqueue (wsV RX4 179 RX3 yX3_isFull wsX3_isFull) := goodIn_app (goodIn_of _ (by decide +kernel)) ggX4_enqueue_X3_isFull
set_option maxRecDepth 20000 in
theorem ggX4_enqueue_X4_writeEntry : GoodIn wsX4_enqueue wsX4_writeEntry := goodIn_r _ [15, 1, 16, 17, 18, 19, 7, 20, 21, 22, 23, 24, 25, 9, 26, 27, 28, 29, 30, 31, 32, 33, 34, 35, 36, 37, 38, 39, 40, 41, 53, 54, 55, 56, 57, 58, 59, 60, 61, 62, 63, 64, 65, 66, 67, 68, 69] (by decide +kernel) (by decide +kernel)
set_option maxRecDepth 20000 in
theorem gX4_enqueue_X4_writeEntry : GoodIn wsX4_enqueue (wsV RX4 85 RX4 yX4_writeEntry wsX4_writeEntry) := goodIn_app (goodIn_of _ (by decide +kernel)) ggX4_enqueue_X4_writeEntry
set_option maxRecDepth 20000 in
theorem ggX4_enqueue_X1_valueOf : GoodIn wsX4_enqueue wsX1_valueOf := goodIn_r _ [46, 47, 70, 71, 72, 73, 74, 75] (by decide +kernel) (by decide +kernel)
set_option maxRecDepth 20000 in
theorem gX4_enqueue_X1_valueOf : GoodIn wsX4_enqueue (wsV RX4 56 RX1 yX1_valueOf wsX1_valueOf) := goodIn_app (goodIn_of _ (by decide +kernel)) ggX4_enqueue_X1_valueOf
set_option maxRecDepth 20000 in
theorem ggX4_enqueue_X3_append : GoodIn wsX4_enqueue wsX3_append := goodIn_r _ [51, 21, 9, 30, 52, 5, 6, 7, 8, 10, 63, 64, 65, 66] (by decide +kernel) (by decide +kernel)
set_option maxRecDepth 20000 in
theorem gX4_enqueue_X3_append : GoodIn wsX4_enqueue (wsV RX4 182 RX3 yX3_append wsX3_append) := goodIn_app (goodIn_of _ (by decide +kernel)) ggX4_enqueue_X3_append
theorem dX4_enqueue_0 : decode cX4_enqueue 0 = .ok (.aload_n 0, 1) := by decide +kernel
theorem dX4_enqueue_1 : decode cX4_enqueue 1 = .ok (.getfield 26, 3) := by decide +kernel
theorem dX4_enqueue_4 : decode cX4_enqueue 4 = .ok (.invokevirtual 179, 3) := by decide +kernel
theorem dX4_enqueue_7 : decode cX4_enqueue 7 = .ok (.ifCond .eq 18, 3) := by decide +kernel
theorem dX4_enqueue_10 : decode cX4_enqueue 10 = .ok (.aload_n 0, 1) := by decide +kernel
theorem dX4_enqueue_11 : decode cX4_enqueue 11 = .ok (.iconst 0, 1) := by decide +kernel
theorem dX4_enqueue_12 : decode cX4_enqueue 12 = .ok (.invokevirtual 85, 3) := by decide +kernel
theorem dX4_enqueue_15 : decode cX4_enqueue 15 = .ok (.aload_n 0, 1) := by decide +kernel
theorem dX4_enqueue_16 : decode cX4_enqueue 16 = .ok (.dup, 1) := by decide +kernel
theorem dX4_enqueue_17 : decode cX4_enqueue 17 = .ok (.getfield 144, 3) := by decide +kernel
theorem dX4_enqueue_20 : decode cX4_enqueue 20 = .ok (.iconst 1, 1) := by decide +kernel
theorem dX4_enqueue_21 : decode cX4_enqueue 21 = .ok (.iadd, 1) := by decide +kernel
theorem dX4_enqueue_22 : decode cX4_enqueue 22 = .ok (.putfield 144, 3) := by decide +kernel
theorem dX4_enqueue_25 : decode cX4_enqueue 25 = .ok (.aload_n 0, 1) := by decide +kernel
theorem dX4_enqueue_26 : decode cX4_enqueue 26 = .ok (.getfield 26, 3) := by decide +kernel
theorem dX4_enqueue_29 : decode cX4_enqueue 29 = .ok (.iload_n 1, 1) := by decide +kernel
theorem dX4_enqueue_30 : decode cX4_enqueue 30 = .ok (.aload_n 0, 1) := by decide +kernel
theorem dX4_enqueue_31 : decode cX4_enqueue 31 = .ok (.getfield 19, 3) := by decide +kernel
theorem dX4_enqueue_34 : decode cX4_enqueue 34 = .ok (.iload_n 1, 1) := by decide +kernel
theorem dX4_enqueue_35 : decode cX4_enqueue 35 = .ok (.invokevirtual 56, 3) := by decide +kernel
theorem dX4_enqueue_38 : decode cX4_enqueue 38 = .ok (.invokevirtual 182, 3) := by decide +kernel
theorem dX4_enqueue_41 : decode cX4_enqueue 41 = .ok (.return_, 1) := by decide +kernel
set_option maxRecDepth 20000 in
theorem ggX4_load_X3_positionOf : GoodIn wsX4_load wsX3_positionOf := goodIn_r _ [8, 9, 10, 54, 55, 56, 57] (by decide +kernel) (by decide +kernel)
set_option maxRecDepth 20000 in
theorem gX4_load_X3_positionOf : GoodIn wsX4_load (wsV RX4 82 RX3 yX3_positionOf wsX3_positionOf) := goodIn_app (goodIn_of _ (by decide +kernel)) ggX4_load_X3_positionOf
set_option maxRecDepth 20000 in
theorem ggX4_load_X0_load : GoodIn wsX4_load wsX0_load := goodIn_r _ [15, 16, 17, 58, 59, 60] (by decide +kernel) (by decide +kernel)
set_option maxRecDepth 20000 in
theorem gX4_load_X0_load : GoodIn wsX4_load (wsV RX4 185 RX0 yX0_load wsX0_load) := goodIn_app (goodIn_of _ (by decide +kernel)) ggX4_load_X0_load
set_option maxRecDepth 20000 in
theorem ggX4_load_X1_place : GoodIn wsX4_load wsX1_place := goodIn_r _ [22, 23, 24, 25, 61, 62, 63, 64, 65, 66] (by decide +kernel) (by decide +kernel)
set_option maxRecDepth 20000 in
theorem gX4_load_X1_place : GoodIn wsX4_load (wsV RX4 187 RX1 yX1_place wsX1_place) := goodIn_app (goodIn_of _ (by decide +kernel)) ggX4_load_X1_place
set_option maxRecDepth 20000 in
theorem ggX4_load_X3_valueAt : GoodIn wsX4_load wsX3_valueAt := goodIn_r _ [29, 30, 31, 32, 33, 7, 34, 9, 54, 55, 56, 57] (by decide +kernel) (by decide +kernel)
set_option maxRecDepth 20000 in
theorem gX4_load_X3_valueAt : GoodIn wsX4_load (wsV RX4 126 RX3 yX3_valueAt wsX3_valueAt) := goodIn_app (goodIn_of _ (by decide +kernel)) ggX4_load_X3_valueAt
set_option maxRecDepth 20000 in
theorem ggX4_load_X3_removeAt : GoodIn wsX4_load wsX3_removeAt := goodIn_r _ [38, 9, 10, 30, 31, 32, 33, 7, 34, 54, 55, 56, 57] (by decide +kernel) (by decide +kernel)
set_option maxRecDepth 20000 in
theorem gX4_load_X3_removeAt : GoodIn wsX4_load (wsV RX4 101 RX3 yX3_removeAt wsX3_removeAt) := goodIn_app (goodIn_of _ (by decide +kernel)) ggX4_load_X3_removeAt
set_option maxRecDepth 20000 in
theorem ggX4_load_X1_change : GoodIn wsX4_load wsX1_change := goodIn_r _ [42, 24, 43, 61, 62, 63, 64, 65, 66] (by decide +kernel) (by decide +kernel)
set_option maxRecDepth 20000 in
theorem gX4_load_X1_change : GoodIn wsX4_load (wsV RX4 60 RX1 yX1_change wsX1_change) := goodIn_app (goodIn_of _ (by decide +kernel)) ggX4_load_X1_change
theorem dX4_load_0 : decode cX4_load 0 = .ok (.aload_n 0, 1) := by decide +kernel
theorem dX4_load_1 : decode cX4_load 1 = .ok (.getfield 26, 3) := by decide +kernel
theorem dX4_load_4 : decode cX4_load 4 = .ok (.iload_n 1, 1) := by decide +kernel
theorem dX4_load_5 : decode cX4_load 5 = .ok (.invokevirtual 82, 3) := by decide +kernel
theorem dX4_load_8 : decode cX4_load 8 = .ok (.istore_n 2, 1) := by decide +kernel
theorem dX4_load_9 : decode cX4_load 9 = .ok (.iload_n 2, 1) := by decide +kernel
theorem dX4_load_10 : decode cX4_load 10 = .ok (.bipush (-9), 2) := by decide +kernel
theorem dX4_load_12 : decode cX4_load 12 = .ok (.if_icmp .ne 20, 3) := by decide +kernel
theorem dX4_load_15 : decode cX4_load 15 = .ok (.aload_n 0, 1) := by decide +kernel
theorem dX4_load_16 : decode cX4_load 16 = .ok (.getfield 19, 3) := by decide +kernel
theorem dX4_load_19 : decode cX4_load 19 = .ok (.iload_n 1, 1) := by decide +kernel
theorem dX4_load_20 : decode cX4_load 20 = .ok (.aload_n 0, 1) := by decide +kernel
theorem dX4_load_21 : decode cX4_load 21 = .ok (.getfield 10, 3) := by decide +kernel
theorem dX4_load_24 : decode cX4_load 24 = .ok (.iload_n 1, 1) := by decide +kernel
theorem dX4_load_25 : decode cX4_load 25 = .ok (.invokevirtual 185, 3) := by decide +kernel
theorem dX4_load_28 : decode cX4_load 28 = .ok (.invokevirtual 187, 3) := by decide +kernel
theorem dX4_load_31 : decode cX4_load 31 = .ok (.return_, 1) := by decide +kernel
theorem dX4_load_32 : decode cX4_load 32 = .ok (.aload_n 0, 1) := by decide +kernel
theorem dX4_load_33 : decode cX4_load 33 = .ok (.getfield 26, 3) := by decide +kernel
theorem dX4_load_36 : decode cX4_load 36 = .ok (.iload_n 2, 1) := by decide +kernel
theorem dX4_load_37 : decode cX4_load 37 = .ok (.invokevirtual 126, 3) := by decide +kernel
theorem dX4_load_40 : decode cX4_load 40 = .ok (.istore_n 3, 1) := by decide +kernel
theorem dX4_load_41 : decode cX4_load 41 = .ok (.aload_n 0, 1) := by decide +kernel
theorem dX4_load_42 : decode cX4_load 42 = .ok (.getfield 26, 3) := by decide +kernel
theorem dX4_load_45 : decode cX4_load 45 = .ok (.iload_n 2, 1) := by decide +kernel
theorem dX4_load_46 : decode cX4_load 46 = .ok (.invokevirtual 101, 3) := by decide +kernel
theorem dX4_load_49 : decode cX4_load 49 = .ok (.aload_n 0, 1) := by decide +kernel
theorem dX4_load_50 : decode cX4_load 50 = .ok (.getfield 19, 3) := by decide +kernel
theorem dX4_load_53 : decode cX4_load 53 = .ok (.iload_n 1, 1) := by decide +kernel
theorem dX4_load_54 : decode cX4_load 54 = .ok (.iload_n 3, 1) := by decide +kernel
theorem dX4_load_55 : decode cX4_load 55 = .ok (.invokevirtual 187, 3) := by decide +kernel
theorem dX4_load_58 : decode cX4_load 58 = .ok (.aload_n 0, 1) := by decide +kernel
theorem dX4_load_59 : decode cX4_load 59 = .ok (.getfield 19, 3) := by decide +kernel
theorem dX4_load_62 : decode cX4_load 62 = .ok (.iload_n 1, 1) := by decide +kernel
theorem dX4_load_63 : decode cX4_load 63 = .ok (.iload_n 3, 1) := by decide +kernel
theorem dX4_load_64 : decode cX4_load 64 = .ok (.invokevirtual 60, 3) := by decide +kernel
theorem dX4_load_67 : decode cX4_load 67 = .ok (.return_, 1) := by decide +kernel
set_option maxRecDepth 20000 in
theorem ggX4_forgetIfStale_X2_timeOf : GoodIn wsX4_forgetIfStale wsX2_timeOf := goodIn_r _ [8, 9, 10, 25, 26, 27] (by decide +kernel) (by decide +kernel)
set_option maxRecDepth 20000 in
theorem gX4_forgetIfStale_X2_timeOf : GoodIn wsX4_forgetIfStale (wsV RX4 107 RX2 yX2_timeOf wsX2_timeOf) := goodIn_app (goodIn_of _ (by decide +kernel)) ggX4_forgetIfStale_X2_timeOf
set_option maxRecDepth 20000 in
theorem ggX4_forgetIfStale_X2_forget : GoodIn wsX4_forgetIfStale wsX2_forget := goodIn_r _ [14, 9, 25, 26, 27] (by decide +kernel) (by decide +kernel)
set_option maxRecDepth 20000 in
theorem gX4_forgetIfStale_X2_forget : GoodIn wsX4_forgetIfStale (wsV RX4 95 RX2 yX2_forget wsX2_forget) := goodIn_app (goodIn_of _ (by decide +kernel)) ggX4_forgetIfStale_X2_forget
theorem dX4_forgetIfStale_0 : decode cX4_forgetIfStale 0 = .ok (.aload_n 0, 1) := by decide +kernel
theorem dX4_forgetIfStale_1 : decode cX4_forgetIfStale 1 = .ok (.getfield 33, 3) := by decide +kernel
theorem dX4_forgetIfStale_4 : decode cX4_forgetIfStale 4 = .ok (.iload_n 1, 1) := by decide +kernel
theorem dX4_forgetIfStale_5 : decode cX4_forgetIfStale 5 = .ok (.iconst 1, 1) := by decide +kernel
theorem dX4_forgetIfStale_6 : decode cX4_forgetIfStale 6 = .ok (.invokevirtual 107, 3) := by decide +kernel
theorem dX4_forgetIfStale_9 : decode cX4_forgetIfStale 9 = .ok (.istore_n 2, 1) := by decide +kernel
theorem dX4_forgetIfStale_10 : decode cX4_forgetIfStale 10 = .ok (.iload_n 2, 1) := by decide +kernel
theorem dX4_forgetIfStale_11 : decode cX4_forgetIfStale 11 = .ok (.bipush (-9), 2) := by decide +kernel
theorem dX4_forgetIfStale_13 : decode cX4_forgetIfStale 13 = .ok (.if_icmp .eq 24, 3) := by decide +kernel
theorem dX4_forgetIfStale_16 : decode cX4_forgetIfStale 16 = .ok (.aload_n 0, 1) := by decide +kernel
theorem dX4_forgetIfStale_17 : decode cX4_forgetIfStale 17 = .ok (.getfield 111, 3) := by decide +kernel
theorem dX4_forgetIfStale_20 : decode cX4_forgetIfStale 20 = .ok (.iload_n 2, 1) := by decide +kernel
theorem dX4_forgetIfStale_21 : decode cX4_forgetIfStale 21 = .ok (.isub, 1) := by decide +kernel
theorem dX4_forgetIfStale_22 : decode cX4_forgetIfStale 22 = .ok (.aload_n 0, 1) := by decide +kernel
theorem dX4_forgetIfStale_23 : decode cX4_forgetIfStale 23 = .ok (.getfield 157, 3) := by decide +kernel
theorem dX4_forgetIfStale_26 : decode cX4_forgetIfStale 26 = .ok (.if_icmp .le 11, 3) := by decide +kernel
theorem dX4_forgetIfStale_29 : decode cX4_forgetIfStale 29 = .ok (.aload_n 0, 1) := by decide +kernel
theorem dX4_forgetIfStale_30 : decode cX4_forgetIfStale 30 = .ok (.getfield 33, 3) := by decide +kernel
theorem dX4_forgetIfStale_33 : decode cX4_forgetIfStale 33 = .ok (.iload_n 1, 1) := by decide +kernel
theorem dX4_forgetIfStale_34 : decode cX4_forgetIfStale 34 = .ok (.invokevirtual 95, 3) := by decide +kernel
theorem dX4_forgetIfStale_37 : decode cX4_forgetIfStale 37 = .ok (.return_, 1) := by decide +kernel
set_option maxRecDepth 20000 in
theorem ggX4_chooseVictim_X1_holds : GoodIn wsX4_chooseVictim wsX1_holds := goodIn_r _ [7, 8, 36, 37, 38, 39, 40, 41] (by decide +kernel) (by decide +kernel)
set_option maxRecDepth 20000 in
theorem gX4_chooseVictim_X1_holds : GoodIn wsX4_chooseVictim (wsV RX4 70 RX1 yX1_holds wsX1_holds) := goodIn_app (goodIn_of _ (by decide +kernel)) ggX4_chooseVictim_X1_holds
set_option maxRecDepth 20000 in
theorem ggX4_chooseVictim_X1_pinsOf : GoodIn wsX4_chooseVictim wsX1_pinsOf := goodIn_r _ [12, 13, 36, 37, 38, 39, 40, 41] (by decide +kernel) (by decide +kernel)
set_option maxRecDepth 20000 in
theorem gX4_chooseVictim_X1_pinsOf : GoodIn wsX4_chooseVictim (wsV RX4 64 RX1 yX1_pinsOf wsX1_pinsOf) := goodIn_app (goodIn_of _ (by decide +kernel)) ggX4_chooseVictim_X1_pinsOf
set_option maxRecDepth 20000 in
theorem ggX4_chooseVictim_X2_goesBefore : GoodIn wsX4_chooseVictim wsX2_goesBefore := goodIn_r _ [18, 19, 20, 21, 22, 23, 17, 24, 25, 42, 43, 44] (by decide +kernel) (by decide +kernel)
set_option maxRecDepth 20000 in
theorem gX4_chooseVictim_X2_goesBefore : GoodIn wsX4_chooseVictim (wsV RX4 190 RX2 yX2_goesBefore wsX2_goesBefore) := goodIn_app (goodIn_of _ (by decide +kernel)) ggX4_chooseVictim_X2_goesBefore
theorem dX4_chooseVictim_0 : decode cX4_chooseVictim 0 = .ok (.bipush (-9), 2) := by decide +kernel
theorem dX4_chooseVictim_2 : decode cX4_chooseVictim 2 = .ok (.istore_n 1, 1) := by decide +kernel
theorem dX4_chooseVictim_3 : decode cX4_chooseVictim 3 = .ok (.iconst 0, 1) := by decide +kernel
theorem dX4_chooseVictim_4 : decode cX4_chooseVictim 4 = .ok (.istore_n 2, 1) := by decide +kernel
theorem dX4_chooseVictim_5 : decode cX4_chooseVictim 5 = .ok (.iload_n 2, 1) := by decide +kernel
theorem dX4_chooseVictim_6 : decode cX4_chooseVictim 6 = .ok (.bipush 64, 2) := by decide +kernel
theorem dX4_chooseVictim_8 : decode cX4_chooseVictim 8 = .ok (.if_icmp .ge 51, 3) := by decide +kernel
theorem dX4_chooseVictim_11 : decode cX4_chooseVictim 11 = .ok (.aload_n 0, 1) := by decide +kernel
theorem dX4_chooseVictim_12 : decode cX4_chooseVictim 12 = .ok (.getfield 19, 3) := by decide +kernel
theorem dX4_chooseVictim_15 : decode cX4_chooseVictim 15 = .ok (.iload_n 2, 1) := by decide +kernel
theorem dX4_chooseVictim_16 : decode cX4_chooseVictim 16 = .ok (.invokevirtual 70, 3) := by decide +kernel
theorem dX4_chooseVictim_19 : decode cX4_chooseVictim 19 = .ok (.ifCond .eq 34, 3) := by decide +kernel
theorem dX4_chooseVictim_22 : decode cX4_chooseVictim 22 = .ok (.aload_n 0, 1) := by decide +kernel
theorem dX4_chooseVictim_23 : decode cX4_chooseVictim 23 = .ok (.getfield 19, 3) := by decide +kernel
theorem dX4_chooseVictim_26 : decode cX4_chooseVictim 26 = .ok (.iload_n 2, 1) := by decide +kernel
theorem dX4_chooseVictim_27 : decode cX4_chooseVictim 27 = .ok (.invokevirtual 64, 3) := by decide +kernel
theorem dX4_chooseVictim_30 : decode cX4_chooseVictim 30 = .ok (.ifCond .ne 23, 3) := by decide +kernel
theorem dX4_chooseVictim_33 : decode cX4_chooseVictim 33 = .ok (.iload_n 1, 1) := by decide +kernel
theorem dX4_chooseVictim_34 : decode cX4_chooseVictim 34 = .ok (.bipush (-9), 2) := by decide +kernel
theorem dX4_chooseVictim_36 : decode cX4_chooseVictim 36 = .ok (.if_icmp .eq 15, 3) := by decide +kernel
theorem dX4_chooseVictim_39 : decode cX4_chooseVictim 39 = .ok (.aload_n 0, 1) := by decide +kernel
theorem dX4_chooseVictim_40 : decode cX4_chooseVictim 40 = .ok (.getfield 33, 3) := by decide +kernel
theorem dX4_chooseVictim_43 : decode cX4_chooseVictim 43 = .ok (.iload_n 2, 1) := by decide +kernel
theorem dX4_chooseVictim_44 : decode cX4_chooseVictim 44 = .ok (.iload_n 1, 1) := by decide +kernel
theorem dX4_chooseVictim_45 : decode cX4_chooseVictim 45 = .ok (.invokevirtual 190, 3) := by decide +kernel
theorem dX4_chooseVictim_48 : decode cX4_chooseVictim 48 = .ok (.ifCond .eq 5, 3) := by decide +kernel
theorem dX4_chooseVictim_51 : decode cX4_chooseVictim 51 = .ok (.iload_n 2, 1) := by decide +kernel
theorem dX4_chooseVictim_52 : decode cX4_chooseVictim 52 = .ok (.istore_n 1, 1) := by decide +kernel
theorem dX4_chooseVictim_53 : decode cX4_chooseVictim 53 = .ok (.iinc 2 1, 3) := by decide +kernel
theorem dX4_chooseVictim_56 : decode cX4_chooseVictim 56 = .ok (.goto (-51), 3) := by decide +kernel
theorem dX4_chooseVictim_59 : decode cX4_chooseVictim 59 = .ok (.iload_n 1, 1) := by decide +kernel
theorem dX4_chooseVictim_60 : decode cX4_chooseVictim 60 = .ok (.ireturn, 1) := by decide +kernel
set_option maxRecDepth 20000 in
theorem ggX4_writeFrame_X1_valueOf : GoodIn wsX4_writeFrame wsX1_valueOf := goodIn_r _ [7, 8, 31, 32, 33, 34, 35, 36] (by decide +kernel) (by decide +kernel)
set_option maxRecDepth 20000 in
theorem gX4_writeFrame_X1_valueOf : GoodIn wsX4_writeFrame (wsV RX4 56 RX1 yX1_valueOf wsX1_valueOf) := goodIn_app (goodIn_of _ (by decide +kernel)) ggX4_writeFrame_X1_valueOf
set_option maxRecDepth 20000 in
theorem ggX4_writeFrame_X0_store : GoodIn wsX4_writeFrame wsX0_store := goodIn_r _ [13, 14, 15, 37, 38, 39] (by decide +kernel) (by decide +kernel)
set_option maxRecDepth 20000 in
theorem gX4_writeFrame_X0_store : GoodIn wsX4_writeFrame (wsV RX4 194 RX0 yX0_store wsX0_store) := goodIn_app (goodIn_of _ (by decide +kernel)) ggX4_writeFrame_X0_store
set_option maxRecDepth 20000 in
theorem ggX4_writeFrame_X1_markClean : GoodIn wsX4_writeFrame wsX1_markClean := goodIn_r _ [19, 20, 31, 32, 33, 34, 35, 36] (by decide +kernel) (by decide +kernel)
set_option maxRecDepth 20000 in
theorem gX4_writeFrame_X1_markClean : GoodIn wsX4_writeFrame (wsV RX4 197 RX1 yX1_markClean wsX1_markClean) := goodIn_app (goodIn_of _ (by decide +kernel)) ggX4_writeFrame_X1_markClean
theorem dX4_writeFrame_0 : decode cX4_writeFrame 0 = .ok (.aload_n 0, 1) := by decide +kernel
theorem dX4_writeFrame_1 : decode cX4_writeFrame 1 = .ok (.getfield 10, 3) := by decide +kernel
theorem dX4_writeFrame_4 : decode cX4_writeFrame 4 = .ok (.iload_n 1, 1) := by decide +kernel
theorem dX4_writeFrame_5 : decode cX4_writeFrame 5 = .ok (.aload_n 0, 1) := by decide +kernel
theorem dX4_writeFrame_6 : decode cX4_writeFrame 6 = .ok (.getfield 19, 3) := by decide +kernel
theorem dX4_writeFrame_9 : decode cX4_writeFrame 9 = .ok (.iload_n 1, 1) := by decide +kernel
theorem dX4_writeFrame_10 : decode cX4_writeFrame 10 = .ok (.invokevirtual 56, 3) := by decide +kernel
theorem dX4_writeFrame_13 : decode cX4_writeFrame 13 = .ok (.invokevirtual 194, 3) := by decide +kernel
theorem dX4_writeFrame_16 : decode cX4_writeFrame 16 = .ok (.aload_n 0, 1) := by decide +kernel
theorem dX4_writeFrame_17 : decode cX4_writeFrame 17 = .ok (.getfield 19, 3) := by decide +kernel
theorem dX4_writeFrame_20 : decode cX4_writeFrame 20 = .ok (.iload_n 1, 1) := by decide +kernel
theorem dX4_writeFrame_21 : decode cX4_writeFrame 21 = .ok (.invokevirtual 197, 3) := by decide +kernel
theorem dX4_writeFrame_24 : decode cX4_writeFrame 24 = .ok (.return_, 1) := by decide +kernel
set_option maxRecDepth 20000 in
theorem ggX4_writeOldest_X3_length : GoodIn wsX4_writeOldest wsX3_length := goodIn_r _ [10, 11, 53, 54, 55, 56] (by decide +kernel) (by decide +kernel)
set_option maxRecDepth 20000 in
theorem gX4_writeOldest_X3_length : GoodIn wsX4_writeOldest (wsV RX4 88 RX3 yX3_length wsX3_length) := goodIn_app (goodIn_of _ (by decide +kernel)) ggX4_writeOldest_X3_length
set_option maxRecDepth 20000 in
theorem ggX4_writeOldest_X4_writeEntry : GoodIn wsX4_writeOldest wsX4_writeEntry := goodIn_r _ [16, 1, 17, 18, 19, 20, 9, 21, 22, 23, 24, 25, 26, 11, 27, 28, 29, 30, 31, 32, 33, 34, 35, 36, 37, 38, 39, 40, 41, 42, 43, 44, 45, 46, 47, 48, 49, 50, 51, 52, 53, 54, 55, 56, 57, 58, 59] (by decide +kernel) (by decide +kernel)
set_option maxRecDepth 20000 in
theorem gX4_writeOldest_X4_writeEntry : GoodIn wsX4_writeOldest (wsV RX4 85 RX4 yX4_writeEntry wsX4_writeEntry) := goodIn_app (goodIn_of _ (by decide +kernel)) ggX4_writeOldest_X4_writeEntry
theorem dX4_writeOldest_0 : decode cX4_writeOldest 0 = .ok (.iload_n 1, 1) := by decide +kernel
theorem dX4_writeOldest_1 : decode cX4_writeOldest 1 = .ok (.aload_n 0, 1) := by decide +kernel
theorem dX4_writeOldest_2 : decode cX4_writeOldest 2 = .ok (.getfield 26, 3) := by decide +kernel
theorem dX4_writeOldest_5 : decode cX4_writeOldest 5 = .ok (.invokevirtual 88, 3) := by decide +kernel
theorem dX4_writeOldest_8 : decode cX4_writeOldest 8 = .ok (.invokestatic 200, 3) := by decide +kernel
theorem dX4_writeOldest_11 : decode cX4_writeOldest 11 = .ok (.istore_n 2, 1) := by decide +kernel
theorem dX4_writeOldest_12 : decode cX4_writeOldest 12 = .ok (.iconst 0, 1) := by decide +kernel
theorem dX4_writeOldest_13 : decode cX4_writeOldest 13 = .ok (.istore_n 3, 1) := by decide +kernel
theorem dX4_writeOldest_14 : decode cX4_writeOldest 14 = .ok (.iload_n 3, 1) := by decide +kernel
theorem dX4_writeOldest_15 : decode cX4_writeOldest 15 = .ok (.iload_n 2, 1) := by decide +kernel
theorem dX4_writeOldest_16 : decode cX4_writeOldest 16 = .ok (.if_icmp .ge 14, 3) := by decide +kernel
theorem dX4_writeOldest_19 : decode cX4_writeOldest 19 = .ok (.aload_n 0, 1) := by decide +kernel
theorem dX4_writeOldest_20 : decode cX4_writeOldest 20 = .ok (.iconst 0, 1) := by decide +kernel
theorem dX4_writeOldest_21 : decode cX4_writeOldest 21 = .ok (.invokevirtual 85, 3) := by decide +kernel
theorem dX4_writeOldest_24 : decode cX4_writeOldest 24 = .ok (.iinc 3 1, 3) := by decide +kernel
theorem dX4_writeOldest_27 : decode cX4_writeOldest 27 = .ok (.goto (-13), 3) := by decide +kernel
theorem dX4_writeOldest_30 : decode cX4_writeOldest 30 = .ok (.iload_n 2, 1) := by decide +kernel
theorem dX4_writeOldest_31 : decode cX4_writeOldest 31 = .ok (.ireturn, 1) := by decide +kernel
set_option maxRecDepth 20000 in
theorem ggX4_writeEntry_X3_pageAt : GoodIn wsX4_writeEntry wsX3_pageAt := goodIn_r _ [7, 8, 9, 10, 11, 6, 12, 13, 40, 41, 42, 43] (by decide +kernel) (by decide +kernel)
set_option maxRecDepth 20000 in
theorem gX4_writeEntry_X3_pageAt : GoodIn wsX4_writeEntry (wsV RX4 125 RX3 yX3_pageAt wsX3_pageAt) := goodIn_app (goodIn_of _ (by decide +kernel)) ggX4_writeEntry_X3_pageAt
set_option maxRecDepth 20000 in
theorem ggX4_writeEntry_X3_valueAt : GoodIn wsX4_writeEntry wsX3_valueAt := goodIn_r _ [17, 18, 9, 10, 11, 6, 12, 13, 40, 41, 42, 43] (by decide +kernel) (by decide +kernel)
set_option maxRecDepth 20000 in
theorem gX4_writeEntry_X3_valueAt : GoodIn wsX4_writeEntry (wsV RX4 126 RX3 yX3_valueAt wsX3_valueAt) := goodIn_app (goodIn_of _ (by decide +kernel)) ggX4_writeEntry_X3_valueAt
set_option maxRecDepth 20000 in
theorem ggX4_writeEntry_X0_store : GoodIn wsX4_writeEntry wsX0_store := goodIn_r _ [23, 24, 25, 44, 45, 46] (by decide +kernel) (by decide +kernel)
set_option maxRecDepth 20000 in
theorem gX4_writeEntry_X0_store : GoodIn wsX4_writeEntry (wsV RX4 194 RX0 yX0_store wsX0_store) := goodIn_app (goodIn_of _ (by decide +kernel)) ggX4_writeEntry_X0_store
set_option maxRecDepth 20000 in
theorem ggX4_writeEntry_X3_removeAt : GoodIn wsX4_writeEntry wsX3_removeAt := goodIn_r _ [29, 13, 8, 18, 9, 10, 11, 6, 12, 40, 41, 42, 43] (by decide +kernel) (by decide +kernel)
set_option maxRecDepth 20000 in
theorem gX4_writeEntry_X3_removeAt : GoodIn wsX4_writeEntry (wsV RX4 101 RX3 yX3_removeAt wsX3_removeAt) := goodIn_app (goodIn_of _ (by decide +kernel)) ggX4_writeEntry_X3_removeAt
theorem dX4_writeEntry_0 : decode cX4_writeEntry 0 = .ok (.aload_n 0, 1) := by decide +kernel
theorem dX4_writeEntry_1 : decode cX4_writeEntry 1 = .ok (.getfield 26, 3) := by decide +kernel
theorem dX4_writeEntry_4 : decode cX4_writeEntry 4 = .ok (.iload_n 1, 1) := by decide +kernel
theorem dX4_writeEntry_5 : decode cX4_writeEntry 5 = .ok (.invokevirtual 125, 3) := by decide +kernel
theorem dX4_writeEntry_8 : decode cX4_writeEntry 8 = .ok (.istore_n 2, 1) := by decide +kernel
theorem dX4_writeEntry_9 : decode cX4_writeEntry 9 = .ok (.iload_n 2, 1) := by decide +kernel
theorem dX4_writeEntry_10 : decode cX4_writeEntry 10 = .ok (.bipush (-9), 2) := by decide +kernel
theorem dX4_writeEntry_12 : decode cX4_writeEntry 12 = .ok (.if_icmp .ne 4, 3) := by decide +kernel
theorem dX4_writeEntry_15 : decode cX4_writeEntry 15 = .ok (.return_, 1) := by decide +kernel
theorem dX4_writeEntry_16 : decode cX4_writeEntry 16 = .ok (.aload_n 0, 1) := by decide +kernel
theorem dX4_writeEntry_17 : decode cX4_writeEntry 17 = .ok (.getfield 10, 3) := by decide +kernel
theorem dX4_writeEntry_20 : decode cX4_writeEntry 20 = .ok (.iload_n 2, 1) := by decide +kernel
theorem dX4_writeEntry_21 : decode cX4_writeEntry 21 = .ok (.aload_n 0, 1) := by decide +kernel
theorem dX4_writeEntry_22 : decode cX4_writeEntry 22 = .ok (.getfield 26, 3) := by decide +kernel
theorem dX4_writeEntry_25 : decode cX4_writeEntry 25 = .ok (.iload_n 1, 1) := by decide +kernel
theorem dX4_writeEntry_26 : decode cX4_writeEntry 26 = .ok (.invokevirtual 126, 3) := by decide +kernel
theorem dX4_writeEntry_29 : decode cX4_writeEntry 29 = .ok (.invokevirtual 194, 3) := by decide +kernel
theorem dX4_writeEntry_32 : decode cX4_writeEntry 32 = .ok (.aload_n 0, 1) := by decide +kernel
theorem dX4_writeEntry_33 : decode cX4_writeEntry 33 = .ok (.getfield 26, 3) := by decide +kernel
theorem dX4_writeEntry_36 : decode cX4_writeEntry 36 = .ok (.iload_n 1, 1) := by decide +kernel
theorem dX4_writeEntry_37 : decode cX4_writeEntry 37 = .ok (.invokevirtual 101, 3) := by decide +kernel
theorem dX4_writeEntry_40 : decode cX4_writeEntry 40 = .ok (.return_, 1) := by decide +kernel
end
section
set_option maxRecDepth 20000 in
theorem ggX5_init_X5_reset : GoodIn wsX5_init wsX5_reset := goodIn_r _ [19, 20, 21, 22, 23, 24, 25, 26, 27, 28, 29, 30, 31, 5, 9, 12, 32, 33, 18, 34, 35, 36, 37, 38, 39, 40, 41, 42, 43, 44, 45, 46, 47, 48, 49, 50, 51, 52, 53, 54, 55] (by decide +kernel) (by decide +kernel)
set_option maxRecDepth 20000 in
theorem gX5_init_X5_reset : GoodIn wsX5_init (wsV RX5 38 RX5 yX5_reset wsX5_reset) := goodIn_app (goodIn_of _ (by decide +kernel)) ggX5_init_X5_reset
theorem dX5_init_0 : decode cX5_init 0 = .ok (.aload_n 0, 1) := by decide +kernel
theorem dX5_init_1 : decode cX5_init 1 = .ok (.invokespecial 1, 3) := by decide +kernel
theorem dX5_init_4 : decode cX5_init 4 = .ok (.aload_n 0, 1) := by decide +kernel
theorem dX5_init_5 : decode cX5_init 5 = .ok (.bipush 64, 2) := by decide +kernel
theorem dX5_init_7 : decode cX5_init 7 = .ok (.newarray .int, 2) := by decide +kernel
theorem dX5_init_9 : decode cX5_init 9 = .ok (.putfield 7, 3) := by decide +kernel
theorem dX5_init_12 : decode cX5_init 12 = .ok (.aload_n 0, 1) := by decide +kernel
theorem dX5_init_13 : decode cX5_init 13 = .ok (.bipush 64, 2) := by decide +kernel
theorem dX5_init_15 : decode cX5_init 15 = .ok (.newarray .int, 2) := by decide +kernel
theorem dX5_init_17 : decode cX5_init 17 = .ok (.putfield 13, 3) := by decide +kernel
theorem dX5_init_20 : decode cX5_init 20 = .ok (.aload_n 0, 1) := by decide +kernel
theorem dX5_init_21 : decode cX5_init 21 = .ok (.bipush 64, 2) := by decide +kernel
theorem dX5_init_23 : decode cX5_init 23 = .ok (.newarray .int, 2) := by decide +kernel
theorem dX5_init_25 : decode cX5_init 25 = .ok (.putfield 16, 3) := by decide +kernel
theorem dX5_init_28 : decode cX5_init 28 = .ok (.aload_n 0, 1) := by decide +kernel
theorem dX5_init_29 : decode cX5_init 29 = .ok (.bipush 64, 2) := by decide +kernel
theorem dX5_init_31 : decode cX5_init 31 = .ok (.newarray .boolean, 2) := by decide +kernel
theorem dX5_init_33 : decode cX5_init 33 = .ok (.putfield 19, 3) := by decide +kernel
theorem dX5_init_36 : decode cX5_init 36 = .ok (.aload_n 0, 1) := by decide +kernel
theorem dX5_init_37 : decode cX5_init 37 = .ok (.bipush 64, 2) := by decide +kernel
theorem dX5_init_39 : decode cX5_init 39 = .ok (.newarray .boolean, 2) := by decide +kernel
theorem dX5_init_41 : decode cX5_init 41 = .ok (.putfield 23, 3) := by decide +kernel
theorem dX5_init_44 : decode cX5_init 44 = .ok (.aload_n 0, 1) := by decide +kernel
theorem dX5_init_45 : decode cX5_init 45 = .ok (.sipush 192, 3) := by decide +kernel
theorem dX5_init_48 : decode cX5_init 48 = .ok (.newarray .int, 2) := by decide +kernel
theorem dX5_init_50 : decode cX5_init 50 = .ok (.putfield 26, 3) := by decide +kernel
theorem dX5_init_53 : decode cX5_init 53 = .ok (.aload_n 0, 1) := by decide +kernel
theorem dX5_init_54 : decode cX5_init 54 = .ok (.bipush 64, 2) := by decide +kernel
theorem dX5_init_56 : decode cX5_init 56 = .ok (.newarray .int, 2) := by decide +kernel
theorem dX5_init_58 : decode cX5_init 58 = .ok (.putfield 29, 3) := by decide +kernel
theorem dX5_init_61 : decode cX5_init 61 = .ok (.aload_n 0, 1) := by decide +kernel
theorem dX5_init_62 : decode cX5_init 62 = .ok (.bipush 8, 2) := by decide +kernel
theorem dX5_init_64 : decode cX5_init 64 = .ok (.newarray .int, 2) := by decide +kernel
theorem dX5_init_66 : decode cX5_init 66 = .ok (.putfield 32, 3) := by decide +kernel
theorem dX5_init_69 : decode cX5_init 69 = .ok (.aload_n 0, 1) := by decide +kernel
theorem dX5_init_70 : decode cX5_init 70 = .ok (.bipush 8, 2) := by decide +kernel
theorem dX5_init_72 : decode cX5_init 72 = .ok (.newarray .int, 2) := by decide +kernel
theorem dX5_init_74 : decode cX5_init 74 = .ok (.putfield 35, 3) := by decide +kernel
theorem dX5_init_77 : decode cX5_init 77 = .ok (.aload_n 0, 1) := by decide +kernel
theorem dX5_init_78 : decode cX5_init 78 = .ok (.iconst 4, 1) := by decide +kernel
theorem dX5_init_79 : decode cX5_init 79 = .ok (.iconst 2, 1) := by decide +kernel
theorem dX5_init_80 : decode cX5_init 80 = .ok (.iconst 3, 1) := by decide +kernel
theorem dX5_init_81 : decode cX5_init 81 = .ok (.bipush 100, 2) := by decide +kernel
theorem dX5_init_83 : decode cX5_init 83 = .ok (.invokevirtual 38, 3) := by decide +kernel
theorem dX5_init_86 : decode cX5_init 86 = .ok (.istore_n 1, 1) := by decide +kernel
theorem dX5_init_87 : decode cX5_init 87 = .ok (.return_, 1) := by decide +kernel
theorem dX5_isFrom_0 : decode cX5_isFrom 0 = .ok (.iload_n 0, 1) := by decide +kernel
theorem dX5_isFrom_1 : decode cX5_isFrom 1 = .ok (.iload_n 1, 1) := by decide +kernel
theorem dX5_isFrom_2 : decode cX5_isFrom 2 = .ok (.if_icmp .lt 12, 3) := by decide +kernel
theorem dX5_isFrom_5 : decode cX5_isFrom 5 = .ok (.iload_n 0, 1) := by decide +kernel
theorem dX5_isFrom_6 : decode cX5_isFrom 6 = .ok (.iload_n 2, 1) := by decide +kernel
theorem dX5_isFrom_7 : decode cX5_isFrom 7 = .ok (.if_icmp .gt 7, 3) := by decide +kernel
theorem dX5_isFrom_10 : decode cX5_isFrom 10 = .ok (.iconst 1, 1) := by decide +kernel
theorem dX5_isFrom_11 : decode cX5_isFrom 11 = .ok (.goto 4, 3) := by decide +kernel
theorem dX5_isFrom_14 : decode cX5_isFrom 14 = .ok (.iconst 0, 1) := by decide +kernel
theorem dX5_isFrom_15 : decode cX5_isFrom 15 = .ok (.ireturn, 1) := by decide +kernel
set_option maxRecDepth 20000 in
theorem ggX5_isPage_X5_isFrom : GoodIn wsX5_isPage wsX5_isFrom := goodIn_r _ [4] (by decide +kernel) (by decide +kernel)
set_option maxRecDepth 20000 in
theorem gX5_isPage_X5_isFrom : GoodIn wsX5_isPage (va_wsS RX5 42 yX5_isFrom wsX5_isFrom) := goodIn_app (goodIn_of _ (by decide +kernel)) ggX5_isPage_X5_isFrom
theorem dX5_isPage_0 : decode cX5_isPage 0 = .ok (.iload_n 0, 1) := by decide +kernel
theorem dX5_isPage_1 : decode cX5_isPage 1 = .ok (.iconst 0, 1) := by decide +kernel
theorem dX5_isPage_2 : decode cX5_isPage 2 = .ok (.bipush 63, 2) := by decide +kernel
theorem dX5_isPage_4 : decode cX5_isPage 4 = .ok (.invokestatic 42, 3) := by decide +kernel
theorem dX5_isPage_7 : decode cX5_isPage 7 = .ok (.ireturn, 1) := by decide +kernel
set_option maxRecDepth 20000 in
theorem ggX5_reset_X5_isFrom : GoodIn wsX5_reset wsX5_isFrom := goodIn_r _ [19] (by decide +kernel) (by decide +kernel)
set_option maxRecDepth 20000 in
theorem gX5_reset_X5_isFrom : GoodIn wsX5_reset (va_wsS RX5 42 yX5_isFrom wsX5_isFrom) := goodIn_app (goodIn_of _ (by decide +kernel)) ggX5_reset_X5_isFrom
theorem dX5_reset_0 : decode cX5_reset 0 = .ok (.iload_n 1, 1) := by decide +kernel
theorem dX5_reset_1 : decode cX5_reset 1 = .ok (.iconst 1, 1) := by decide +kernel
theorem dX5_reset_2 : decode cX5_reset 2 = .ok (.bipush 16, 2) := by decide +kernel
theorem dX5_reset_4 : decode cX5_reset 4 = .ok (.invokestatic 42, 3) := by decide +kernel
theorem dX5_reset_7 : decode cX5_reset 7 = .ok (.ifCond .eq 12, 3) := by decide +kernel
theorem dX5_reset_10 : decode cX5_reset 10 = .ok (.iload_n 2, 1) := by decide +kernel
theorem dX5_reset_11 : decode cX5_reset 11 = .ok (.iconst 1, 1) := by decide +kernel
theorem dX5_reset_12 : decode cX5_reset 12 = .ok (.iconst 3, 1) := by decide +kernel
theorem dX5_reset_13 : decode cX5_reset 13 = .ok (.invokestatic 42, 3) := by decide +kernel
theorem dX5_reset_16 : decode cX5_reset 16 = .ok (.ifCond .ne 6, 3) := by decide +kernel
theorem dX5_reset_19 : decode cX5_reset 19 = .ok (.bipush (-8), 2) := by decide +kernel
theorem dX5_reset_21 : decode cX5_reset 21 = .ok (.ireturn, 1) := by decide +kernel
theorem dX5_reset_22 : decode cX5_reset 22 = .ok (.iload_n 3, 1) := by decide +kernel
theorem dX5_reset_23 : decode cX5_reset 23 = .ok (.iconst 1, 1) := by decide +kernel
theorem dX5_reset_24 : decode cX5_reset 24 = .ok (.bipush 8, 2) := by decide +kernel
theorem dX5_reset_26 : decode cX5_reset 26 = .ok (.invokestatic 42, 3) := by decide +kernel
theorem dX5_reset_29 : decode cX5_reset 29 = .ok (.ifCond .eq 15, 3) := by decide +kernel
theorem dX5_reset_32 : decode cX5_reset 32 = .ok (.iload 4, 2) := by decide +kernel
theorem dX5_reset_34 : decode cX5_reset 34 = .ok (.iconst 0, 1) := by decide +kernel
theorem dX5_reset_35 : decode cX5_reset 35 = .ok (.sipush 9999, 3) := by decide +kernel
theorem dX5_reset_38 : decode cX5_reset 38 = .ok (.invokestatic 42, 3) := by decide +kernel
theorem dX5_reset_41 : decode cX5_reset 41 = .ok (.ifCond .ne 6, 3) := by decide +kernel
theorem dX5_reset_44 : decode cX5_reset 44 = .ok (.bipush (-8), 2) := by decide +kernel
theorem dX5_reset_46 : decode cX5_reset 46 = .ok (.ireturn, 1) := by decide +kernel
theorem dX5_reset_47 : decode cX5_reset 47 = .ok (.aload_n 0, 1) := by decide +kernel
theorem dX5_reset_48 : decode cX5_reset 48 = .ok (.iload_n 1, 1) := by decide +kernel
theorem dX5_reset_49 : decode cX5_reset 49 = .ok (.putfield 46, 3) := by decide +kernel
theorem dX5_reset_52 : decode cX5_reset 52 = .ok (.aload_n 0, 1) := by decide +kernel
theorem dX5_reset_53 : decode cX5_reset 53 = .ok (.iload_n 2, 1) := by decide +kernel
theorem dX5_reset_54 : decode cX5_reset 54 = .ok (.putfield 50, 3) := by decide +kernel
theorem dX5_reset_57 : decode cX5_reset 57 = .ok (.aload_n 0, 1) := by decide +kernel
theorem dX5_reset_58 : decode cX5_reset 58 = .ok (.iload_n 3, 1) := by decide +kernel
theorem dX5_reset_59 : decode cX5_reset 59 = .ok (.putfield 53, 3) := by decide +kernel
theorem dX5_reset_62 : decode cX5_reset 62 = .ok (.aload_n 0, 1) := by decide +kernel
theorem dX5_reset_63 : decode cX5_reset 63 = .ok (.iload 4, 2) := by decide +kernel
theorem dX5_reset_65 : decode cX5_reset 65 = .ok (.putfield 56, 3) := by decide +kernel
theorem dX5_reset_68 : decode cX5_reset 68 = .ok (.aload_n 0, 1) := by decide +kernel
theorem dX5_reset_69 : decode cX5_reset 69 = .ok (.iconst 0, 1) := by decide +kernel
theorem dX5_reset_70 : decode cX5_reset 70 = .ok (.putfield 59, 3) := by decide +kernel
theorem dX5_reset_73 : decode cX5_reset 73 = .ok (.aload_n 0, 1) := by decide +kernel
theorem dX5_reset_74 : decode cX5_reset 74 = .ok (.iconst 0, 1) := by decide +kernel
theorem dX5_reset_75 : decode cX5_reset 75 = .ok (.putfield 62, 3) := by decide +kernel
theorem dX5_reset_78 : decode cX5_reset 78 = .ok (.aload_n 0, 1) := by decide +kernel
theorem dX5_reset_79 : decode cX5_reset 79 = .ok (.iconst 0, 1) := by decide +kernel
theorem dX5_reset_80 : decode cX5_reset 80 = .ok (.putfield 65, 3) := by decide +kernel
theorem dX5_reset_83 : decode cX5_reset 83 = .ok (.aload_n 0, 1) := by decide +kernel
theorem dX5_reset_84 : decode cX5_reset 84 = .ok (.iconst 0, 1) := by decide +kernel
theorem dX5_reset_85 : decode cX5_reset 85 = .ok (.putfield 68, 3) := by decide +kernel
theorem dX5_reset_88 : decode cX5_reset 88 = .ok (.aload_n 0, 1) := by decide +kernel
theorem dX5_reset_89 : decode cX5_reset 89 = .ok (.iconst 0, 1) := by decide +kernel
theorem dX5_reset_90 : decode cX5_reset 90 = .ok (.putfield 71, 3) := by decide +kernel
theorem dX5_reset_93 : decode cX5_reset 93 = .ok (.aload_n 0, 1) := by decide +kernel
theorem dX5_reset_94 : decode cX5_reset 94 = .ok (.iconst 0, 1) := by decide +kernel
theorem dX5_reset_95 : decode cX5_reset 95 = .ok (.putfield 74, 3) := by decide +kernel
theorem dX5_reset_98 : decode cX5_reset 98 = .ok (.aload_n 0, 1) := by decide +kernel
theorem dX5_reset_99 : decode cX5_reset 99 = .ok (.iconst 0, 1) := by decide +kernel
theorem dX5_reset_100 : decode cX5_reset 100 = .ok (.putfield 77, 3) := by decide +kernel
theorem dX5_reset_103 : decode cX5_reset 103 = .ok (.aload_n 0, 1) := by decide +kernel
theorem dX5_reset_104 : decode cX5_reset 104 = .ok (.iconst 0, 1) := by decide +kernel
theorem dX5_reset_105 : decode cX5_reset 105 = .ok (.putfield 80, 3) := by decide +kernel
theorem dX5_reset_108 : decode cX5_reset 108 = .ok (.iconst 0, 1) := by decide +kernel
theorem dX5_reset_109 : decode cX5_reset 109 = .ok (.istore 5, 2) := by decide +kernel
theorem dX5_reset_111 : decode cX5_reset 111 = .ok (.iload 5, 2) := by decide +kernel
theorem dX5_reset_113 : decode cX5_reset 113 = .ok (.bipush 64, 2) := by decide +kernel
theorem dX5_reset_115 : decode cX5_reset 115 = .ok (.if_icmp .ge 33, 3) := by decide +kernel
theorem dX5_reset_118 : decode cX5_reset 118 = .ok (.aload_n 0, 1) := by decide +kernel
theorem dX5_reset_119 : decode cX5_reset 119 = .ok (.getfield 7, 3) := by decide +kernel
theorem dX5_reset_122 : decode cX5_reset 122 = .ok (.iload 5, 2) := by decide +kernel
theorem dX5_reset_124 : decode cX5_reset 124 = .ok (.iconst 0, 1) := by decide +kernel
theorem dX5_reset_125 : decode cX5_reset 125 = .ok (.iastore, 1) := by decide +kernel
theorem dX5_reset_126 : decode cX5_reset 126 = .ok (.aload_n 0, 1) := by decide +kernel
theorem dX5_reset_127 : decode cX5_reset 127 = .ok (.getfield 19, 3) := by decide +kernel
theorem dX5_reset_130 : decode cX5_reset 130 = .ok (.iload 5, 2) := by decide +kernel
theorem dX5_reset_132 : decode cX5_reset 132 = .ok (.iconst 0, 1) := by decide +kernel
theorem dX5_reset_133 : decode cX5_reset 133 = .ok (.bastore, 1) := by decide +kernel
theorem dX5_reset_134 : decode cX5_reset 134 = .ok (.aload_n 0, 1) := by decide +kernel
theorem dX5_reset_135 : decode cX5_reset 135 = .ok (.getfield 29, 3) := by decide +kernel
theorem dX5_reset_138 : decode cX5_reset 138 = .ok (.iload 5, 2) := by decide +kernel
theorem dX5_reset_140 : decode cX5_reset 140 = .ok (.iconst 0, 1) := by decide +kernel
theorem dX5_reset_141 : decode cX5_reset 141 = .ok (.iastore, 1) := by decide +kernel
theorem dX5_reset_142 : decode cX5_reset 142 = .ok (.iinc 5 1, 3) := by decide +kernel
theorem dX5_reset_145 : decode cX5_reset 145 = .ok (.goto (-34), 3) := by decide +kernel
theorem dX5_reset_148 : decode cX5_reset 148 = .ok (.iconst 0, 1) := by decide +kernel
theorem dX5_reset_149 : decode cX5_reset 149 = .ok (.ireturn, 1) := by decide +kernel
theorem dX5_time_0 : decode cX5_time 0 = .ok (.aload_n 0, 1) := by decide +kernel
theorem dX5_time_1 : decode cX5_time 1 = .ok (.getfield 26, 3) := by decide +kernel
theorem dX5_time_4 : decode cX5_time 4 = .ok (.iconst 3, 1) := by decide +kernel
theorem dX5_time_5 : decode cX5_time 5 = .ok (.iload_n 1, 1) := by decide +kernel
theorem dX5_time_6 : decode cX5_time 6 = .ok (.imul, 1) := by decide +kernel
theorem dX5_time_7 : decode cX5_time 7 = .ok (.iload_n 2, 1) := by decide +kernel
theorem dX5_time_8 : decode cX5_time 8 = .ok (.iadd, 1) := by decide +kernel
theorem dX5_time_9 : decode cX5_time 9 = .ok (.iconst 1, 1) := by decide +kernel
theorem dX5_time_10 : decode cX5_time 10 = .ok (.isub, 1) := by decide +kernel
theorem dX5_time_11 : decode cX5_time 11 = .ok (.iaload, 1) := by decide +kernel
theorem dX5_time_12 : decode cX5_time 12 = .ok (.ireturn, 1) := by decide +kernel
set_option maxRecDepth 20000 in
theorem ggX5_record_X5_time : GoodIn wsX5_record wsX5_time := goodIn_r _ [11, 6, 12, 13, 14, 15, 16, 17, 18, 19, 20, 21, 22, 23, 24, 25, 26, 27, 28, 29, 30, 31, 32] (by decide +kernel) (by decide +kernel)
set_option maxRecDepth 20000 in
theorem gX5_record_X5_time : GoodIn wsX5_record (wsV RX5 83 RX5 yX5_time wsX5_time) := goodIn_app (goodIn_of _ (by decide +kernel)) ggX5_record_X5_time
theorem dX5_record_0 : decode cX5_record 0 = .ok (.aload_n 0, 1) := by decide +kernel
theorem dX5_record_1 : decode cX5_record 1 = .ok (.dup, 1) := by decide +kernel
theorem dX5_record_2 : decode cX5_record 2 = .ok (.getfield 59, 3) := by decide +kernel
theorem dX5_record_5 : decode cX5_record 5 = .ok (.iconst 1, 1) := by decide +kernel
theorem dX5_record_6 : decode cX5_record 6 = .ok (.iadd, 1) := by decide +kernel
theorem dX5_record_7 : decode cX5_record 7 = .ok (.putfield 59, 3) := by decide +kernel
theorem dX5_record_10 : decode cX5_record 10 = .ok (.aload_n 0, 1) := by decide +kernel
theorem dX5_record_11 : decode cX5_record 11 = .ok (.getfield 19, 3) := by decide +kernel
theorem dX5_record_14 : decode cX5_record 14 = .ok (.iload_n 1, 1) := by decide +kernel
theorem dX5_record_15 : decode cX5_record 15 = .ok (.baload, 1) := by decide +kernel
theorem dX5_record_16 : decode cX5_record 16 = .ok (.ifCond .ne 37, 3) := by decide +kernel
theorem dX5_record_19 : decode cX5_record 19 = .ok (.aload_n 0, 1) := by decide +kernel
theorem dX5_record_20 : decode cX5_record 20 = .ok (.getfield 29, 3) := by decide +kernel
theorem dX5_record_23 : decode cX5_record 23 = .ok (.iload_n 1, 1) := by decide +kernel
theorem dX5_record_24 : decode cX5_record 24 = .ok (.iaload, 1) := by decide +kernel
theorem dX5_record_25 : decode cX5_record 25 = .ok (.ifCond .le 28, 3) := by decide +kernel
theorem dX5_record_28 : decode cX5_record 28 = .ok (.aload_n 0, 1) := by decide +kernel
theorem dX5_record_29 : decode cX5_record 29 = .ok (.getfield 59, 3) := by decide +kernel
theorem dX5_record_32 : decode cX5_record 32 = .ok (.aload_n 0, 1) := by decide +kernel
theorem dX5_record_33 : decode cX5_record 33 = .ok (.iload_n 1, 1) := by decide +kernel
theorem dX5_record_34 : decode cX5_record 34 = .ok (.iconst 1, 1) := by decide +kernel
theorem dX5_record_35 : decode cX5_record 35 = .ok (.invokevirtual 83, 3) := by decide +kernel
theorem dX5_record_38 : decode cX5_record 38 = .ok (.isub, 1) := by decide +kernel
theorem dX5_record_39 : decode cX5_record 39 = .ok (.aload_n 0, 1) := by decide +kernel
theorem dX5_record_40 : decode cX5_record 40 = .ok (.getfield 56, 3) := by decide +kernel
theorem dX5_record_43 : decode cX5_record 43 = .ok (.if_icmp .le 10, 3) := by decide +kernel
theorem dX5_record_46 : decode cX5_record 46 = .ok (.aload_n 0, 1) := by decide +kernel
theorem dX5_record_47 : decode cX5_record 47 = .ok (.getfield 29, 3) := by decide +kernel
theorem dX5_record_50 : decode cX5_record 50 = .ok (.iload_n 1, 1) := by decide +kernel
theorem dX5_record_51 : decode cX5_record 51 = .ok (.iconst 0, 1) := by decide +kernel
theorem dX5_record_52 : decode cX5_record 52 = .ok (.iastore, 1) := by decide +kernel
theorem dX5_record_53 : decode cX5_record 53 = .ok (.aload_n 0, 1) := by decide +kernel
theorem dX5_record_54 : decode cX5_record 54 = .ok (.getfield 50, 3) := by decide +kernel
theorem dX5_record_57 : decode cX5_record 57 = .ok (.istore_n 2, 1) := by decide +kernel
theorem dX5_record_58 : decode cX5_record 58 = .ok (.iload_n 2, 1) := by decide +kernel
theorem dX5_record_59 : decode cX5_record 59 = .ok (.iconst 1, 1) := by decide +kernel
theorem dX5_record_60 : decode cX5_record 60 = .ok (.if_icmp .le 33, 3) := by decide +kernel
theorem dX5_record_63 : decode cX5_record 63 = .ok (.aload_n 0, 1) := by decide +kernel
theorem dX5_record_64 : decode cX5_record 64 = .ok (.getfield 26, 3) := by decide +kernel
theorem dX5_record_67 : decode cX5_record 67 = .ok (.iconst 3, 1) := by decide +kernel
theorem dX5_record_68 : decode cX5_record 68 = .ok (.iload_n 1, 1) := by decide +kernel
theorem dX5_record_69 : decode cX5_record 69 = .ok (.imul, 1) := by decide +kernel
theorem dX5_record_70 : decode cX5_record 70 = .ok (.iload_n 2, 1) := by decide +kernel
theorem dX5_record_71 : decode cX5_record 71 = .ok (.iadd, 1) := by decide +kernel
theorem dX5_record_72 : decode cX5_record 72 = .ok (.iconst 1, 1) := by decide +kernel
theorem dX5_record_73 : decode cX5_record 73 = .ok (.isub, 1) := by decide +kernel
theorem dX5_record_74 : decode cX5_record 74 = .ok (.aload_n 0, 1) := by decide +kernel
theorem dX5_record_75 : decode cX5_record 75 = .ok (.getfield 26, 3) := by decide +kernel
theorem dX5_record_78 : decode cX5_record 78 = .ok (.iconst 3, 1) := by decide +kernel
theorem dX5_record_79 : decode cX5_record 79 = .ok (.iload_n 1, 1) := by decide +kernel
theorem dX5_record_80 : decode cX5_record 80 = .ok (.imul, 1) := by decide +kernel
theorem dX5_record_81 : decode cX5_record 81 = .ok (.iload_n 2, 1) := by decide +kernel
theorem dX5_record_82 : decode cX5_record 82 = .ok (.iadd, 1) := by decide +kernel
theorem dX5_record_83 : decode cX5_record 83 = .ok (.iconst 2, 1) := by decide +kernel
theorem dX5_record_84 : decode cX5_record 84 = .ok (.isub, 1) := by decide +kernel
theorem dX5_record_85 : decode cX5_record 85 = .ok (.iaload, 1) := by decide +kernel
theorem dX5_record_86 : decode cX5_record 86 = .ok (.iastore, 1) := by decide +kernel
theorem dX5_record_87 : decode cX5_record 87 = .ok (.iinc 2 (-1), 3) := by decide +kernel
theorem dX5_record_90 : decode cX5_record 90 = .ok (.goto (-32), 3) := by decide +kernel
theorem dX5_record_93 : decode cX5_record 93 = .ok (.aload_n 0, 1) := by decide +kernel
theorem dX5_record_94 : decode cX5_record 94 = .ok (.getfield 26, 3) := by decide +kernel
theorem dX5_record_97 : decode cX5_record 97 = .ok (.iconst 3, 1) := by decide +kernel
theorem dX5_record_98 : decode cX5_record 98 = .ok (.iload_n 1, 1) := by decide +kernel
theorem dX5_record_99 : decode cX5_record 99 = .ok (.imul, 1) := by decide +kernel
theorem dX5_record_100 : decode cX5_record 100 = .ok (.aload_n 0, 1) := by decide +kernel
theorem dX5_record_101 : decode cX5_record 101 = .ok (.getfield 59, 3) := by decide +kernel
theorem dX5_record_104 : decode cX5_record 104 = .ok (.iastore, 1) := by decide +kernel
theorem dX5_record_105 : decode cX5_record 105 = .ok (.aload_n 0, 1) := by decide +kernel
theorem dX5_record_106 : decode cX5_record 106 = .ok (.getfield 29, 3) := by decide +kernel
theorem dX5_record_109 : decode cX5_record 109 = .ok (.iload_n 1, 1) := by decide +kernel
theorem dX5_record_110 : decode cX5_record 110 = .ok (.iaload, 1) := by decide +kernel
theorem dX5_record_111 : decode cX5_record 111 = .ok (.aload_n 0, 1) := by decide +kernel
theorem dX5_record_112 : decode cX5_record 112 = .ok (.getfield 50, 3) := by decide +kernel
theorem dX5_record_115 : decode cX5_record 115 = .ok (.if_icmp .ge 13, 3) := by decide +kernel
theorem dX5_record_118 : decode cX5_record 118 = .ok (.aload_n 0, 1) := by decide +kernel
theorem dX5_record_119 : decode cX5_record 119 = .ok (.getfield 29, 3) := by decide +kernel
theorem dX5_record_122 : decode cX5_record 122 = .ok (.iload_n 1, 1) := by decide +kernel
theorem dX5_record_123 : decode cX5_record 123 = .ok (.dup2, 1) := by decide +kernel
theorem dX5_record_124 : decode cX5_record 124 = .ok (.iaload, 1) := by decide +kernel
theorem dX5_record_125 : decode cX5_record 125 = .ok (.iconst 1, 1) := by decide +kernel
theorem dX5_record_126 : decode cX5_record 126 = .ok (.iadd, 1) := by decide +kernel
theorem dX5_record_127 : decode cX5_record 127 = .ok (.iastore, 1) := by decide +kernel
theorem dX5_record_128 : decode cX5_record 128 = .ok (.return_, 1) := by decide +kernel
set_option maxRecDepth 20000 in
theorem ggX5_goesFirst_X5_time : GoodIn wsX5_goesFirst wsX5_time := goodIn_r _ [7, 8, 9, 10, 11, 12, 13, 14, 15, 16, 17, 18, 19, 20, 21, 22, 23, 24, 25, 26, 27, 28, 29] (by decide +kernel) (by decide +kernel)
set_option maxRecDepth 20000 in
theorem gX5_goesFirst_X5_time : GoodIn wsX5_goesFirst (wsV RX5 83 RX5 yX5_time wsX5_time) := goodIn_app (goodIn_of _ (by decide +kernel)) ggX5_goesFirst_X5_time
theorem dX5_goesFirst_0 : decode cX5_goesFirst 0 = .ok (.aload_n 0, 1) := by decide +kernel
theorem dX5_goesFirst_1 : decode cX5_goesFirst 1 = .ok (.getfield 29, 3) := by decide +kernel
theorem dX5_goesFirst_4 : decode cX5_goesFirst 4 = .ok (.iload_n 1, 1) := by decide +kernel
theorem dX5_goesFirst_5 : decode cX5_goesFirst 5 = .ok (.iaload, 1) := by decide +kernel
theorem dX5_goesFirst_6 : decode cX5_goesFirst 6 = .ok (.aload_n 0, 1) := by decide +kernel
theorem dX5_goesFirst_7 : decode cX5_goesFirst 7 = .ok (.getfield 50, 3) := by decide +kernel
theorem dX5_goesFirst_10 : decode cX5_goesFirst 10 = .ok (.if_icmp .ge 7, 3) := by decide +kernel
theorem dX5_goesFirst_13 : decode cX5_goesFirst 13 = .ok (.iconst 1, 1) := by decide +kernel
theorem dX5_goesFirst_14 : decode cX5_goesFirst 14 = .ok (.goto 4, 3) := by decide +kernel
theorem dX5_goesFirst_17 : decode cX5_goesFirst 17 = .ok (.iconst 0, 1) := by decide +kernel
theorem dX5_goesFirst_18 : decode cX5_goesFirst 18 = .ok (.istore_n 3, 1) := by decide +kernel
theorem dX5_goesFirst_19 : decode cX5_goesFirst 19 = .ok (.iload_n 3, 1) := by decide +kernel
theorem dX5_goesFirst_20 : decode cX5_goesFirst 20 = .ok (.aload_n 0, 1) := by decide +kernel
theorem dX5_goesFirst_21 : decode cX5_goesFirst 21 = .ok (.getfield 29, 3) := by decide +kernel
theorem dX5_goesFirst_24 : decode cX5_goesFirst 24 = .ok (.iload_n 2, 1) := by decide +kernel
theorem dX5_goesFirst_25 : decode cX5_goesFirst 25 = .ok (.iaload, 1) := by decide +kernel
theorem dX5_goesFirst_26 : decode cX5_goesFirst 26 = .ok (.aload_n 0, 1) := by decide +kernel
theorem dX5_goesFirst_27 : decode cX5_goesFirst 27 = .ok (.getfield 50, 3) := by decide +kernel
theorem dX5_goesFirst_30 : decode cX5_goesFirst 30 = .ok (.if_icmp .ge 7, 3) := by decide +kernel
theorem dX5_goesFirst_33 : decode cX5_goesFirst 33 = .ok (.iconst 1, 1) := by decide +kernel
theorem dX5_goesFirst_34 : decode cX5_goesFirst 34 = .ok (.goto 4, 3) := by decide +kernel
theorem dX5_goesFirst_37 : decode cX5_goesFirst 37 = .ok (.iconst 0, 1) := by decide +kernel
theorem dX5_goesFirst_38 : decode cX5_goesFirst 38 = .ok (.if_icmp .eq 5, 3) := by decide +kernel
theorem dX5_goesFirst_41 : decode cX5_goesFirst 41 = .ok (.iload_n 3, 1) := by decide +kernel
theorem dX5_goesFirst_42 : decode cX5_goesFirst 42 = .ok (.ireturn, 1) := by decide +kernel
theorem dX5_goesFirst_43 : decode cX5_goesFirst 43 = .ok (.iload_n 3, 1) := by decide +kernel
theorem dX5_goesFirst_44 : decode cX5_goesFirst 44 = .ok (.ifCond .eq 26, 3) := by decide +kernel
theorem dX5_goesFirst_47 : decode cX5_goesFirst 47 = .ok (.aload_n 0, 1) := by decide +kernel
theorem dX5_goesFirst_48 : decode cX5_goesFirst 48 = .ok (.iload_n 1, 1) := by decide +kernel
theorem dX5_goesFirst_49 : decode cX5_goesFirst 49 = .ok (.iconst 1, 1) := by decide +kernel
theorem dX5_goesFirst_50 : decode cX5_goesFirst 50 = .ok (.invokevirtual 83, 3) := by decide +kernel
theorem dX5_goesFirst_53 : decode cX5_goesFirst 53 = .ok (.aload_n 0, 1) := by decide +kernel
theorem dX5_goesFirst_54 : decode cX5_goesFirst 54 = .ok (.iload_n 2, 1) := by decide +kernel
theorem dX5_goesFirst_55 : decode cX5_goesFirst 55 = .ok (.iconst 1, 1) := by decide +kernel
theorem dX5_goesFirst_56 : decode cX5_goesFirst 56 = .ok (.invokevirtual 83, 3) := by decide +kernel
theorem dX5_goesFirst_59 : decode cX5_goesFirst 59 = .ok (.if_icmp .ge 7, 3) := by decide +kernel
theorem dX5_goesFirst_62 : decode cX5_goesFirst 62 = .ok (.iconst 1, 1) := by decide +kernel
theorem dX5_goesFirst_63 : decode cX5_goesFirst 63 = .ok (.goto 33, 3) := by decide +kernel
theorem dX5_goesFirst_66 : decode cX5_goesFirst 66 = .ok (.iconst 0, 1) := by decide +kernel
theorem dX5_goesFirst_67 : decode cX5_goesFirst 67 = .ok (.goto 29, 3) := by decide +kernel
theorem dX5_goesFirst_70 : decode cX5_goesFirst 70 = .ok (.aload_n 0, 1) := by decide +kernel
theorem dX5_goesFirst_71 : decode cX5_goesFirst 71 = .ok (.iload_n 1, 1) := by decide +kernel
theorem dX5_goesFirst_72 : decode cX5_goesFirst 72 = .ok (.aload_n 0, 1) := by decide +kernel
theorem dX5_goesFirst_73 : decode cX5_goesFirst 73 = .ok (.getfield 50, 3) := by decide +kernel
theorem dX5_goesFirst_76 : decode cX5_goesFirst 76 = .ok (.invokevirtual 83, 3) := by decide +kernel
theorem dX5_goesFirst_79 : decode cX5_goesFirst 79 = .ok (.aload_n 0, 1) := by decide +kernel
theorem dX5_goesFirst_80 : decode cX5_goesFirst 80 = .ok (.iload_n 2, 1) := by decide +kernel
theorem dX5_goesFirst_81 : decode cX5_goesFirst 81 = .ok (.aload_n 0, 1) := by decide +kernel
theorem dX5_goesFirst_82 : decode cX5_goesFirst 82 = .ok (.getfield 50, 3) := by decide +kernel
theorem dX5_goesFirst_85 : decode cX5_goesFirst 85 = .ok (.invokevirtual 83, 3) := by decide +kernel
theorem dX5_goesFirst_88 : decode cX5_goesFirst 88 = .ok (.if_icmp .ge 7, 3) := by decide +kernel
theorem dX5_goesFirst_91 : decode cX5_goesFirst 91 = .ok (.iconst 1, 1) := by decide +kernel
theorem dX5_goesFirst_92 : decode cX5_goesFirst 92 = .ok (.goto 4, 3) := by decide +kernel
theorem dX5_goesFirst_95 : decode cX5_goesFirst 95 = .ok (.iconst 0, 1) := by decide +kernel
theorem dX5_goesFirst_96 : decode cX5_goesFirst 96 = .ok (.ireturn, 1) := by decide +kernel
set_option maxRecDepth 20000 in
theorem ggX5_victim_X5_goesFirst : GoodIn wsX5_victim wsX5_goesFirst := goodIn_r _ [7, 8, 9, 10, 11, 12, 6, 13, 14, 15, 16, 17, 18, 19, 20, 21, 22, 23, 24, 25, 26, 27, 28, 29, 30, 31, 32, 33, 34, 35] (by decide +kernel) (by decide +kernel)
set_option maxRecDepth 20000 in
theorem gX5_victim_X5_goesFirst : GoodIn wsX5_victim (wsV RX5 87 RX5 yX5_goesFirst wsX5_goesFirst) := goodIn_app (goodIn_of _ (by decide +kernel)) ggX5_victim_X5_goesFirst
theorem dX5_victim_0 : decode cX5_victim 0 = .ok (.bipush (-9), 2) := by decide +kernel
theorem dX5_victim_2 : decode cX5_victim 2 = .ok (.istore_n 1, 1) := by decide +kernel
theorem dX5_victim_3 : decode cX5_victim 3 = .ok (.iconst 0, 1) := by decide +kernel
theorem dX5_victim_4 : decode cX5_victim 4 = .ok (.istore_n 2, 1) := by decide +kernel
theorem dX5_victim_5 : decode cX5_victim 5 = .ok (.iload_n 2, 1) := by decide +kernel
theorem dX5_victim_6 : decode cX5_victim 6 = .ok (.bipush 64, 2) := by decide +kernel
theorem dX5_victim_8 : decode cX5_victim 8 = .ok (.if_icmp .ge 47, 3) := by decide +kernel
theorem dX5_victim_11 : decode cX5_victim 11 = .ok (.aload_n 0, 1) := by decide +kernel
theorem dX5_victim_12 : decode cX5_victim 12 = .ok (.getfield 19, 3) := by decide +kernel
theorem dX5_victim_15 : decode cX5_victim 15 = .ok (.iload_n 2, 1) := by decide +kernel
theorem dX5_victim_16 : decode cX5_victim 16 = .ok (.baload, 1) := by decide +kernel
theorem dX5_victim_17 : decode cX5_victim 17 = .ok (.ifCond .eq 32, 3) := by decide +kernel
theorem dX5_victim_20 : decode cX5_victim 20 = .ok (.aload_n 0, 1) := by decide +kernel
theorem dX5_victim_21 : decode cX5_victim 21 = .ok (.getfield 16, 3) := by decide +kernel
theorem dX5_victim_24 : decode cX5_victim 24 = .ok (.iload_n 2, 1) := by decide +kernel
theorem dX5_victim_25 : decode cX5_victim 25 = .ok (.iaload, 1) := by decide +kernel
theorem dX5_victim_26 : decode cX5_victim 26 = .ok (.ifCond .le 6, 3) := by decide +kernel
theorem dX5_victim_29 : decode cX5_victim 29 = .ok (.goto 20, 3) := by decide +kernel
theorem dX5_victim_32 : decode cX5_victim 32 = .ok (.iload_n 1, 1) := by decide +kernel
theorem dX5_victim_33 : decode cX5_victim 33 = .ok (.bipush (-9), 2) := by decide +kernel
theorem dX5_victim_35 : decode cX5_victim 35 = .ok (.if_icmp .eq 12, 3) := by decide +kernel
theorem dX5_victim_38 : decode cX5_victim 38 = .ok (.aload_n 0, 1) := by decide +kernel
theorem dX5_victim_39 : decode cX5_victim 39 = .ok (.iload_n 2, 1) := by decide +kernel
theorem dX5_victim_40 : decode cX5_victim 40 = .ok (.iload_n 1, 1) := by decide +kernel
theorem dX5_victim_41 : decode cX5_victim 41 = .ok (.invokevirtual 87, 3) := by decide +kernel
theorem dX5_victim_44 : decode cX5_victim 44 = .ok (.ifCond .eq 5, 3) := by decide +kernel
theorem dX5_victim_47 : decode cX5_victim 47 = .ok (.iload_n 2, 1) := by decide +kernel
theorem dX5_victim_48 : decode cX5_victim 48 = .ok (.istore_n 1, 1) := by decide +kernel
theorem dX5_victim_49 : decode cX5_victim 49 = .ok (.iinc 2 1, 3) := by decide +kernel
theorem dX5_victim_52 : decode cX5_victim 52 = .ok (.goto (-47), 3) := by decide +kernel
theorem dX5_victim_55 : decode cX5_victim 55 = .ok (.iload_n 1, 1) := by decide +kernel
theorem dX5_victim_56 : decode cX5_victim 56 = .ok (.ireturn, 1) := by decide +kernel
set_option maxRecDepth 20000 in
theorem ggX5_canLoad_X5_residentCount : GoodIn wsX5_canLoad wsX5_residentCount := goodIn_r _ [6, 7, 24, 25, 26, 27, 28, 29, 30, 31, 32, 33, 34, 35, 36, 37, 38, 39, 40, 41, 42, 43, 44] (by decide +kernel) (by decide +kernel)
set_option maxRecDepth 20000 in
theorem gX5_canLoad_X5_residentCount : GoodIn wsX5_canLoad (wsV RX5 91 RX5 yX5_residentCount wsX5_residentCount) := goodIn_app (goodIn_of _ (by decide +kernel)) ggX5_canLoad_X5_residentCount
set_option maxRecDepth 20000 in
theorem ggX5_canLoad_X5_victim : GoodIn wsX5_canLoad wsX5_victim := goodIn_r _ [11, 7, 12, 13, 14, 15, 5, 16, 17, 18, 19, 20, 21, 22, 23, 24, 25, 26, 27, 28, 29, 30, 31, 32, 33, 34, 35, 36, 37, 38, 39, 40, 41, 42, 43, 44] (by decide +kernel) (by decide +kernel)
set_option maxRecDepth 20000 in
theorem gX5_canLoad_X5_victim : GoodIn wsX5_canLoad (wsV RX5 95 RX5 yX5_victim wsX5_victim) := goodIn_app (goodIn_of _ (by decide +kernel)) ggX5_canLoad_X5_victim
theorem dX5_canLoad_0 : decode cX5_canLoad 0 = .ok (.aload_n 0, 1) := by decide +kernel
theorem dX5_canLoad_1 : decode cX5_canLoad 1 = .ok (.invokevirtual 91, 3) := by decide +kernel
theorem dX5_canLoad_4 : decode cX5_canLoad 4 = .ok (.aload_n 0, 1) := by decide +kernel
theorem dX5_canLoad_5 : decode cX5_canLoad 5 = .ok (.getfield 46, 3) := by decide +kernel
theorem dX5_canLoad_8 : decode cX5_canLoad 8 = .ok (.if_icmp .lt 12, 3) := by decide +kernel
theorem dX5_canLoad_11 : decode cX5_canLoad 11 = .ok (.aload_n 0, 1) := by decide +kernel
theorem dX5_canLoad_12 : decode cX5_canLoad 12 = .ok (.invokevirtual 95, 3) := by decide +kernel
theorem dX5_canLoad_15 : decode cX5_canLoad 15 = .ok (.bipush (-9), 2) := by decide +kernel
theorem dX5_canLoad_17 : decode cX5_canLoad 17 = .ok (.if_icmp .eq 7, 3) := by decide +kernel
theorem dX5_canLoad_20 : decode cX5_canLoad 20 = .ok (.iconst 1, 1) := by decide +kernel
theorem dX5_canLoad_21 : decode cX5_canLoad 21 = .ok (.goto 4, 3) := by decide +kernel
theorem dX5_canLoad_24 : decode cX5_canLoad 24 = .ok (.iconst 0, 1) := by decide +kernel
theorem dX5_canLoad_25 : decode cX5_canLoad 25 = .ok (.ireturn, 1) := by decide +kernel
theorem dX5_writeToDisk_0 : decode cX5_writeToDisk 0 = .ok (.aload_n 0, 1) := by decide +kernel
theorem dX5_writeToDisk_1 : decode cX5_writeToDisk 1 = .ok (.getfield 7, 3) := by decide +kernel
theorem dX5_writeToDisk_4 : decode cX5_writeToDisk 4 = .ok (.iload_n 1, 1) := by decide +kernel
theorem dX5_writeToDisk_5 : decode cX5_writeToDisk 5 = .ok (.iload_n 2, 1) := by decide +kernel
theorem dX5_writeToDisk_6 : decode cX5_writeToDisk 6 = .ok (.iastore, 1) := by decide +kernel
theorem dX5_writeToDisk_7 : decode cX5_writeToDisk 7 = .ok (.aload_n 0, 1) := by decide +kernel
theorem dX5_writeToDisk_8 : decode cX5_writeToDisk 8 = .ok (.dup, 1) := by decide +kernel
theorem dX5_writeToDisk_9 : decode cX5_writeToDisk 9 = .ok (.getfield 74, 3) := by decide +kernel
theorem dX5_writeToDisk_12 : decode cX5_writeToDisk 12 = .ok (.iconst 1, 1) := by decide +kernel
theorem dX5_writeToDisk_13 : decode cX5_writeToDisk 13 = .ok (.iadd, 1) := by decide +kernel
theorem dX5_writeToDisk_14 : decode cX5_writeToDisk 14 = .ok (.putfield 74, 3) := by decide +kernel
theorem dX5_writeToDisk_17 : decode cX5_writeToDisk 17 = .ok (.return_, 1) := by decide +kernel
theorem dX5_removeEntry_0 : decode cX5_removeEntry 0 = .ok (.aload_n 0, 1) := by decide +kernel
theorem dX5_removeEntry_1 : decode cX5_removeEntry 1 = .ok (.dup, 1) := by decide +kernel
theorem dX5_removeEntry_2 : decode cX5_removeEntry 2 = .ok (.getfield 80, 3) := by decide +kernel
theorem dX5_removeEntry_5 : decode cX5_removeEntry 5 = .ok (.iconst 1, 1) := by decide +kernel
theorem dX5_removeEntry_6 : decode cX5_removeEntry 6 = .ok (.isub, 1) := by decide +kernel
theorem dX5_removeEntry_7 : decode cX5_removeEntry 7 = .ok (.putfield 80, 3) := by decide +kernel
theorem dX5_removeEntry_10 : decode cX5_removeEntry 10 = .ok (.iload_n 1, 1) := by decide +kernel
theorem dX5_removeEntry_11 : decode cX5_removeEntry 11 = .ok (.istore_n 2, 1) := by decide +kernel
theorem dX5_removeEntry_12 : decode cX5_removeEntry 12 = .ok (.iload_n 2, 1) := by decide +kernel
theorem dX5_removeEntry_13 : decode cX5_removeEntry 13 = .ok (.aload_n 0, 1) := by decide +kernel
theorem dX5_removeEntry_14 : decode cX5_removeEntry 14 = .ok (.getfield 80, 3) := by decide +kernel
theorem dX5_removeEntry_17 : decode cX5_removeEntry 17 = .ok (.if_icmp .ge 37, 3) := by decide +kernel
theorem dX5_removeEntry_20 : decode cX5_removeEntry 20 = .ok (.aload_n 0, 1) := by decide +kernel
theorem dX5_removeEntry_21 : decode cX5_removeEntry 21 = .ok (.getfield 32, 3) := by decide +kernel
theorem dX5_removeEntry_24 : decode cX5_removeEntry 24 = .ok (.iload_n 2, 1) := by decide +kernel
theorem dX5_removeEntry_25 : decode cX5_removeEntry 25 = .ok (.aload_n 0, 1) := by decide +kernel
theorem dX5_removeEntry_26 : decode cX5_removeEntry 26 = .ok (.getfield 32, 3) := by decide +kernel
theorem dX5_removeEntry_29 : decode cX5_removeEntry 29 = .ok (.iload_n 2, 1) := by decide +kernel
theorem dX5_removeEntry_30 : decode cX5_removeEntry 30 = .ok (.iconst 1, 1) := by decide +kernel
theorem dX5_removeEntry_31 : decode cX5_removeEntry 31 = .ok (.iadd, 1) := by decide +kernel
theorem dX5_removeEntry_32 : decode cX5_removeEntry 32 = .ok (.iaload, 1) := by decide +kernel
theorem dX5_removeEntry_33 : decode cX5_removeEntry 33 = .ok (.iastore, 1) := by decide +kernel
theorem dX5_removeEntry_34 : decode cX5_removeEntry 34 = .ok (.aload_n 0, 1) := by decide +kernel
theorem dX5_removeEntry_35 : decode cX5_removeEntry 35 = .ok (.getfield 35, 3) := by decide +kernel
theorem dX5_removeEntry_38 : decode cX5_removeEntry 38 = .ok (.iload_n 2, 1) := by decide +kernel
theorem dX5_removeEntry_39 : decode cX5_removeEntry 39 = .ok (.aload_n 0, 1) := by decide +kernel
theorem dX5_removeEntry_40 : decode cX5_removeEntry 40 = .ok (.getfield 35, 3) := by decide +kernel
theorem dX5_removeEntry_43 : decode cX5_removeEntry 43 = .ok (.iload_n 2, 1) := by decide +kernel
theorem dX5_removeEntry_44 : decode cX5_removeEntry 44 = .ok (.iconst 1, 1) := by decide +kernel
theorem dX5_removeEntry_45 : decode cX5_removeEntry 45 = .ok (.iadd, 1) := by decide +kernel
theorem dX5_removeEntry_46 : decode cX5_removeEntry 46 = .ok (.iaload, 1) := by decide +kernel
theorem dX5_removeEntry_47 : decode cX5_removeEntry 47 = .ok (.iastore, 1) := by decide +kernel
theorem dX5_removeEntry_48 : decode cX5_removeEntry 48 = .ok (.iinc 2 1, 3) := by decide +kernel
theorem dX5_removeEntry_51 : decode cX5_removeEntry 51 = .ok (.goto (-39), 3) := by decide +kernel
theorem dX5_removeEntry_54 : decode cX5_removeEntry 54 = .ok (.return_, 1) := by decide +kernel
set_option maxRecDepth 20000 in
theorem ggX5_writeOldest_X5_writeToDisk : GoodIn wsX5_writeOldest wsX5_writeToDisk := goodIn_r _ [7, 8, 9, 15, 16, 17, 18, 19, 20, 21, 22, 23, 24, 25, 26, 27, 28, 29, 30, 31, 32, 33, 34, 35] (by decide +kernel) (by decide +kernel)
set_option maxRecDepth 20000 in
theorem gX5_writeOldest_X5_writeToDisk : GoodIn wsX5_writeOldest (wsV RX5 98 RX5 yX5_writeToDisk wsX5_writeToDisk) := goodIn_app (goodIn_of _ (by decide +kernel)) ggX5_writeOldest_X5_writeToDisk
set_option maxRecDepth 20000 in
theorem ggX5_writeOldest_X5_removeEntry : GoodIn wsX5_writeOldest wsX5_removeEntry := goodIn_r _ [13, 14, 1, 2, 15, 16, 17, 18, 19, 20, 21, 22, 23, 24, 25, 26, 27, 28, 29, 30, 31, 32, 33, 34, 35] (by decide +kernel) (by decide +kernel)
set_option maxRecDepth 20000 in
theorem gX5_writeOldest_X5_removeEntry : GoodIn wsX5_writeOldest (wsV RX5 102 RX5 yX5_removeEntry wsX5_removeEntry) := goodIn_app (goodIn_of _ (by decide +kernel)) ggX5_writeOldest_X5_removeEntry
theorem dX5_writeOldest_0 : decode cX5_writeOldest 0 = .ok (.aload_n 0, 1) := by decide +kernel
theorem dX5_writeOldest_1 : decode cX5_writeOldest 1 = .ok (.aload_n 0, 1) := by decide +kernel
theorem dX5_writeOldest_2 : decode cX5_writeOldest 2 = .ok (.getfield 32, 3) := by decide +kernel
theorem dX5_writeOldest_5 : decode cX5_writeOldest 5 = .ok (.iconst 0, 1) := by decide +kernel
theorem dX5_writeOldest_6 : decode cX5_writeOldest 6 = .ok (.iaload, 1) := by decide +kernel
theorem dX5_writeOldest_7 : decode cX5_writeOldest 7 = .ok (.aload_n 0, 1) := by decide +kernel
theorem dX5_writeOldest_8 : decode cX5_writeOldest 8 = .ok (.getfield 35, 3) := by decide +kernel
theorem dX5_writeOldest_11 : decode cX5_writeOldest 11 = .ok (.iconst 0, 1) := by decide +kernel
theorem dX5_writeOldest_12 : decode cX5_writeOldest 12 = .ok (.iaload, 1) := by decide +kernel
theorem dX5_writeOldest_13 : decode cX5_writeOldest 13 = .ok (.invokevirtual 98, 3) := by decide +kernel
theorem dX5_writeOldest_16 : decode cX5_writeOldest 16 = .ok (.aload_n 0, 1) := by decide +kernel
theorem dX5_writeOldest_17 : decode cX5_writeOldest 17 = .ok (.iconst 0, 1) := by decide +kernel
theorem dX5_writeOldest_18 : decode cX5_writeOldest 18 = .ok (.invokevirtual 102, 3) := by decide +kernel
theorem dX5_writeOldest_21 : decode cX5_writeOldest 21 = .ok (.return_, 1) := by decide +kernel
theorem dX5_positionInQueue_0 : decode cX5_positionInQueue 0 = .ok (.iconst 0, 1) := by decide +kernel
theorem dX5_positionInQueue_1 : decode cX5_positionInQueue 1 = .ok (.istore_n 2, 1) := by decide +kernel
theorem dX5_positionInQueue_2 : decode cX5_positionInQueue 2 = .ok (.iload_n 2, 1) := by decide +kernel
theorem dX5_positionInQueue_3 : decode cX5_positionInQueue 3 = .ok (.aload_n 0, 1) := by decide +kernel
theorem dX5_positionInQueue_4 : decode cX5_positionInQueue 4 = .ok (.getfield 80, 3) := by decide +kernel
theorem dX5_positionInQueue_7 : decode cX5_positionInQueue 7 = .ok (.if_icmp .ge 21, 3) := by decide +kernel
theorem dX5_positionInQueue_10 : decode cX5_positionInQueue 10 = .ok (.aload_n 0, 1) := by decide +kernel
theorem dX5_positionInQueue_11 : decode cX5_positionInQueue 11 = .ok (.getfield 32, 3) := by decide +kernel
theorem dX5_positionInQueue_14 : decode cX5_positionInQueue 14 = .ok (.iload_n 2, 1) := by decide +kernel
theorem dX5_positionInQueue_15 : decode cX5_positionInQueue 15 = .ok (.iaload, 1) := by decide +kernel
theorem dX5_positionInQueue_16 : decode cX5_positionInQueue 16 = .ok (.iload_n 1, 1) := by decide +kernel
theorem dX5_positionInQueue_17 : decode cX5_positionInQueue 17 = .ok (.if_icmp .ne 5, 3) := by decide +kernel
theorem dX5_positionInQueue_20 : decode cX5_positionInQueue 20 = .ok (.iload_n 2, 1) := by decide +kernel
theorem dX5_positionInQueue_21 : decode cX5_positionInQueue 21 = .ok (.ireturn, 1) := by decide +kernel
theorem dX5_positionInQueue_22 : decode cX5_positionInQueue 22 = .ok (.iinc 2 1, 3) := by decide +kernel
theorem dX5_positionInQueue_25 : decode cX5_positionInQueue 25 = .ok (.goto (-23), 3) := by decide +kernel
theorem dX5_positionInQueue_28 : decode cX5_positionInQueue 28 = .ok (.bipush (-9), 2) := by decide +kernel
theorem dX5_positionInQueue_30 : decode cX5_positionInQueue 30 = .ok (.ireturn, 1) := by decide +kernel
set_option maxRecDepth 20000 in
theorem ggX5_evict_X5_writeOldest : GoodIn wsX5_evict wsX5_writeOldest := goodIn_r _ [14, 7, 8, 15, 16, 17, 13, 18, 19, 20, 21, 22, 23, 24, 4, 25, 26, 27, 28, 29, 30, 31, 32, 33, 34, 35, 36, 37, 38, 39, 40, 41, 42, 43, 44, 45] (by decide +kernel) (by decide +kernel)
set_option maxRecDepth 20000 in
theorem gX5_evict_X5_writeOldest : GoodIn wsX5_evict (wsV RX5 106 RX5 yX5_writeOldest wsX5_writeOldest) := goodIn_app (goodIn_of _ (by decide +kernel)) ggX5_evict_X5_writeOldest
theorem dX5_evict_0 : decode cX5_evict 0 = .ok (.aload_n 0, 1) := by decide +kernel
theorem dX5_evict_1 : decode cX5_evict 1 = .ok (.dup, 1) := by decide +kernel
theorem dX5_evict_2 : decode cX5_evict 2 = .ok (.getfield 68, 3) := by decide +kernel
theorem dX5_evict_5 : decode cX5_evict 5 = .ok (.iconst 1, 1) := by decide +kernel
theorem dX5_evict_6 : decode cX5_evict 6 = .ok (.iadd, 1) := by decide +kernel
theorem dX5_evict_7 : decode cX5_evict 7 = .ok (.putfield 68, 3) := by decide +kernel
theorem dX5_evict_10 : decode cX5_evict 10 = .ok (.aload_n 0, 1) := by decide +kernel
theorem dX5_evict_11 : decode cX5_evict 11 = .ok (.getfield 19, 3) := by decide +kernel
theorem dX5_evict_14 : decode cX5_evict 14 = .ok (.iload_n 1, 1) := by decide +kernel
theorem dX5_evict_15 : decode cX5_evict 15 = .ok (.iconst 0, 1) := by decide +kernel
theorem dX5_evict_16 : decode cX5_evict 16 = .ok (.bastore, 1) := by decide +kernel
theorem dX5_evict_17 : decode cX5_evict 17 = .ok (.aload_n 0, 1) := by decide +kernel
theorem dX5_evict_18 : decode cX5_evict 18 = .ok (.getfield 23, 3) := by decide +kernel
theorem dX5_evict_21 : decode cX5_evict 21 = .ok (.iload_n 1, 1) := by decide +kernel
theorem dX5_evict_22 : decode cX5_evict 22 = .ok (.baload, 1) := by decide +kernel
theorem dX5_evict_23 : decode cX5_evict 23 = .ok (.ifCond .ne 4, 3) := by decide +kernel
theorem dX5_evict_26 : decode cX5_evict 26 = .ok (.return_, 1) := by decide +kernel
theorem dX5_evict_27 : decode cX5_evict 27 = .ok (.aload_n 0, 1) := by decide +kernel
theorem dX5_evict_28 : decode cX5_evict 28 = .ok (.getfield 80, 3) := by decide +kernel
theorem dX5_evict_31 : decode cX5_evict 31 = .ok (.aload_n 0, 1) := by decide +kernel
theorem dX5_evict_32 : decode cX5_evict 32 = .ok (.getfield 53, 3) := by decide +kernel
theorem dX5_evict_35 : decode cX5_evict 35 = .ok (.if_icmp .ne 17, 3) := by decide +kernel
theorem dX5_evict_38 : decode cX5_evict 38 = .ok (.aload_n 0, 1) := by decide +kernel
theorem dX5_evict_39 : decode cX5_evict 39 = .ok (.dup, 1) := by decide +kernel
theorem dX5_evict_40 : decode cX5_evict 40 = .ok (.getfield 77, 3) := by decide +kernel
theorem dX5_evict_43 : decode cX5_evict 43 = .ok (.iconst 1, 1) := by decide +kernel
theorem dX5_evict_44 : decode cX5_evict 44 = .ok (.iadd, 1) := by decide +kernel
theorem dX5_evict_45 : decode cX5_evict 45 = .ok (.putfield 77, 3) := by decide +kernel
theorem dX5_evict_48 : decode cX5_evict 48 = .ok (.aload_n 0, 1) := by decide +kernel
theorem dX5_evict_49 : decode cX5_evict 49 = .ok (.invokevirtual 106, 3) := by decide +kernel
theorem dX5_evict_52 : decode cX5_evict 52 = .ok (.aload_n 0, 1) := by decide +kernel
theorem dX5_evict_53 : decode cX5_evict 53 = .ok (.getfield 32, 3) := by decide +kernel
theorem dX5_evict_56 : decode cX5_evict 56 = .ok (.aload_n 0, 1) := by decide +kernel
theorem dX5_evict_57 : decode cX5_evict 57 = .ok (.getfield 80, 3) := by decide +kernel
theorem dX5_evict_60 : decode cX5_evict 60 = .ok (.iload_n 1, 1) := by decide +kernel
theorem dX5_evict_61 : decode cX5_evict 61 = .ok (.iastore, 1) := by decide +kernel
theorem dX5_evict_62 : decode cX5_evict 62 = .ok (.aload_n 0, 1) := by decide +kernel
theorem dX5_evict_63 : decode cX5_evict 63 = .ok (.getfield 35, 3) := by decide +kernel
theorem dX5_evict_66 : decode cX5_evict 66 = .ok (.aload_n 0, 1) := by decide +kernel
theorem dX5_evict_67 : decode cX5_evict 67 = .ok (.getfield 80, 3) := by decide +kernel
theorem dX5_evict_70 : decode cX5_evict 70 = .ok (.aload_n 0, 1) := by decide +kernel
theorem dX5_evict_71 : decode cX5_evict 71 = .ok (.getfield 13, 3) := by decide +kernel
theorem dX5_evict_74 : decode cX5_evict 74 = .ok (.iload_n 1, 1) := by decide +kernel
theorem dX5_evict_75 : decode cX5_evict 75 = .ok (.iaload, 1) := by decide +kernel
theorem dX5_evict_76 : decode cX5_evict 76 = .ok (.iastore, 1) := by decide +kernel
theorem dX5_evict_77 : decode cX5_evict 77 = .ok (.aload_n 0, 1) := by decide +kernel
theorem dX5_evict_78 : decode cX5_evict 78 = .ok (.dup, 1) := by decide +kernel
theorem dX5_evict_79 : decode cX5_evict 79 = .ok (.getfield 80, 3) := by decide +kernel
theorem dX5_evict_82 : decode cX5_evict 82 = .ok (.iconst 1, 1) := by decide +kernel
theorem dX5_evict_83 : decode cX5_evict 83 = .ok (.iadd, 1) := by decide +kernel
theorem dX5_evict_84 : decode cX5_evict 84 = .ok (.putfield 80, 3) := by decide +kernel
theorem dX5_evict_87 : decode cX5_evict 87 = .ok (.return_, 1) := by decide +kernel
set_option maxRecDepth 20000 in
theorem ggX5_load_X5_residentCount : GoodIn wsX5_load wsX5_residentCount := goodIn_r _ [13, 2, 55, 56, 57, 58, 59, 60, 61, 62, 63, 64, 65, 66, 67, 68, 69, 70, 71, 72, 73, 74, 75] (by decide +kernel) (by decide +kernel)
set_option maxRecDepth 20000 in
theorem gX5_load_X5_residentCount : GoodIn wsX5_load (wsV RX5 91 RX5 yX5_residentCount wsX5_residentCount) := goodIn_app (goodIn_of _ (by decide +kernel)) ggX5_load_X5_residentCount
set_option maxRecDepth 20000 in
theorem ggX5_load_X5_victim : GoodIn wsX5_load wsX5_victim := goodIn_r _ [17, 2, 4, 18, 19, 20, 12, 21, 22, 23, 24, 25, 26, 27, 28, 55, 56, 57, 58, 59, 60, 61, 62, 63, 64, 65, 66, 67, 68, 69, 70, 71, 72, 73, 74, 75] (by decide +kernel) (by decide +kernel)
set_option maxRecDepth 20000 in
theorem gX5_load_X5_victim : GoodIn wsX5_load (wsV RX5 95 RX5 yX5_victim wsX5_victim) := goodIn_app (goodIn_of _ (by decide +kernel)) ggX5_load_X5_victim
set_option maxRecDepth 20000 in
theorem ggX5_load_X5_evict : GoodIn wsX5_load wsX5_evict := goodIn_r _ [32, 33, 2, 3, 34, 35, 36, 37, 8, 5, 38, 39, 40, 12, 41, 42, 43, 44, 45, 6, 46, 47, 48, 49, 50, 55, 56, 57, 58, 59, 60, 61, 62, 63, 64, 65, 66, 67, 68, 69, 70, 71, 72, 73, 74, 75] (by decide +kernel) (by decide +kernel)
set_option maxRecDepth 20000 in
theorem gX5_load_X5_evict : GoodIn wsX5_load (wsV RX5 109 RX5 yX5_evict wsX5_evict) := goodIn_app (goodIn_of _ (by decide +kernel)) ggX5_load_X5_evict
set_option maxRecDepth 20000 in
theorem ggX5_load_X5_positionInQueue : GoodIn wsX5_load wsX5_positionInQueue := goodIn_r _ [54, 34, 37, 55, 56, 57, 58, 59, 60, 61, 62, 63, 64, 65, 66, 67, 68, 69, 70, 71, 72, 73, 74, 75] (by decide +kernel) (by decide +kernel)
set_option maxRecDepth 20000 in
theorem gX5_load_X5_positionInQueue : GoodIn wsX5_load (wsV RX5 112 RX5 yX5_positionInQueue wsX5_positionInQueue) := goodIn_app (goodIn_of _ (by decide +kernel)) ggX5_load_X5_positionInQueue
set_option maxRecDepth 20000 in
theorem ggX5_load_X5_removeEntry : GoodIn wsX5_load wsX5_removeEntry := goodIn_r _ [50, 34, 37, 8, 55, 56, 57, 58, 59, 60, 61, 62, 63, 64, 65, 66, 67, 68, 69, 70, 71, 72, 73, 74, 75] (by decide +kernel) (by decide +kernel)
set_option maxRecDepth 20000 in
theorem gX5_load_X5_removeEntry : GoodIn wsX5_load (wsV RX5 102 RX5 yX5_removeEntry wsX5_removeEntry) := goodIn_app (goodIn_of _ (by decide +kernel)) ggX5_load_X5_removeEntry
theorem dX5_load_0 : decode cX5_load 0 = .ok (.aload_n 0, 1) := by decide +kernel
theorem dX5_load_1 : decode cX5_load 1 = .ok (.invokevirtual 91, 3) := by decide +kernel
theorem dX5_load_4 : decode cX5_load 4 = .ok (.aload_n 0, 1) := by decide +kernel
theorem dX5_load_5 : decode cX5_load 5 = .ok (.getfield 46, 3) := by decide +kernel
theorem dX5_load_8 : decode cX5_load 8 = .ok (.if_icmp .ne 11, 3) := by decide +kernel
theorem dX5_load_11 : decode cX5_load 11 = .ok (.aload_n 0, 1) := by decide +kernel
theorem dX5_load_12 : decode cX5_load 12 = .ok (.aload_n 0, 1) := by decide +kernel
theorem dX5_load_13 : decode cX5_load 13 = .ok (.invokevirtual 95, 3) := by decide +kernel
theorem dX5_load_16 : decode cX5_load 16 = .ok (.invokevirtual 109, 3) := by decide +kernel
theorem dX5_load_19 : decode cX5_load 19 = .ok (.aload_n 0, 1) := by decide +kernel
theorem dX5_load_20 : decode cX5_load 20 = .ok (.iload_n 1, 1) := by decide +kernel
theorem dX5_load_21 : decode cX5_load 21 = .ok (.invokevirtual 112, 3) := by decide +kernel
theorem dX5_load_24 : decode cX5_load 24 = .ok (.istore_n 2, 1) := by decide +kernel
theorem dX5_load_25 : decode cX5_load 25 = .ok (.aload_n 0, 1) := by decide +kernel
theorem dX5_load_26 : decode cX5_load 26 = .ok (.getfield 19, 3) := by decide +kernel
theorem dX5_load_29 : decode cX5_load 29 = .ok (.iload_n 1, 1) := by decide +kernel
theorem dX5_load_30 : decode cX5_load 30 = .ok (.iconst 1, 1) := by decide +kernel
theorem dX5_load_31 : decode cX5_load 31 = .ok (.bastore, 1) := by decide +kernel
theorem dX5_load_32 : decode cX5_load 32 = .ok (.aload_n 0, 1) := by decide +kernel
theorem dX5_load_33 : decode cX5_load 33 = .ok (.getfield 23, 3) := by decide +kernel
theorem dX5_load_36 : decode cX5_load 36 = .ok (.iload_n 1, 1) := by decide +kernel
theorem dX5_load_37 : decode cX5_load 37 = .ok (.iload_n 2, 1) := by decide +kernel
theorem dX5_load_38 : decode cX5_load 38 = .ok (.bipush (-9), 2) := by decide +kernel
theorem dX5_load_40 : decode cX5_load 40 = .ok (.if_icmp .eq 7, 3) := by decide +kernel
theorem dX5_load_43 : decode cX5_load 43 = .ok (.iconst 1, 1) := by decide +kernel
theorem dX5_load_44 : decode cX5_load 44 = .ok (.goto 4, 3) := by decide +kernel
theorem dX5_load_47 : decode cX5_load 47 = .ok (.iconst 0, 1) := by decide +kernel
theorem dX5_load_48 : decode cX5_load 48 = .ok (.bastore, 1) := by decide +kernel
theorem dX5_load_49 : decode cX5_load 49 = .ok (.aload_n 0, 1) := by decide +kernel
theorem dX5_load_50 : decode cX5_load 50 = .ok (.getfield 16, 3) := by decide +kernel
theorem dX5_load_53 : decode cX5_load 53 = .ok (.iload_n 1, 1) := by decide +kernel
theorem dX5_load_54 : decode cX5_load 54 = .ok (.iconst 0, 1) := by decide +kernel
theorem dX5_load_55 : decode cX5_load 55 = .ok (.iastore, 1) := by decide +kernel
theorem dX5_load_56 : decode cX5_load 56 = .ok (.iload_n 2, 1) := by decide +kernel
theorem dX5_load_57 : decode cX5_load 57 = .ok (.bipush (-9), 2) := by decide +kernel
theorem dX5_load_59 : decode cX5_load 59 = .ok (.if_icmp .ne 28, 3) := by decide +kernel
theorem dX5_load_62 : decode cX5_load 62 = .ok (.aload_n 0, 1) := by decide +kernel
theorem dX5_load_63 : decode cX5_load 63 = .ok (.getfield 13, 3) := by decide +kernel
theorem dX5_load_66 : decode cX5_load 66 = .ok (.iload_n 1, 1) := by decide +kernel
theorem dX5_load_67 : decode cX5_load 67 = .ok (.aload_n 0, 1) := by decide +kernel
theorem dX5_load_68 : decode cX5_load 68 = .ok (.getfield 7, 3) := by decide +kernel
theorem dX5_load_71 : decode cX5_load 71 = .ok (.iload_n 1, 1) := by decide +kernel
theorem dX5_load_72 : decode cX5_load 72 = .ok (.iaload, 1) := by decide +kernel
theorem dX5_load_73 : decode cX5_load 73 = .ok (.iastore, 1) := by decide +kernel
theorem dX5_load_74 : decode cX5_load 74 = .ok (.aload_n 0, 1) := by decide +kernel
theorem dX5_load_75 : decode cX5_load 75 = .ok (.dup, 1) := by decide +kernel
theorem dX5_load_76 : decode cX5_load 76 = .ok (.getfield 71, 3) := by decide +kernel
theorem dX5_load_79 : decode cX5_load 79 = .ok (.iconst 1, 1) := by decide +kernel
theorem dX5_load_80 : decode cX5_load 80 = .ok (.iadd, 1) := by decide +kernel
theorem dX5_load_81 : decode cX5_load 81 = .ok (.putfield 71, 3) := by decide +kernel
theorem dX5_load_84 : decode cX5_load 84 = .ok (.goto 20, 3) := by decide +kernel
theorem dX5_load_87 : decode cX5_load 87 = .ok (.aload_n 0, 1) := by decide +kernel
theorem dX5_load_88 : decode cX5_load 88 = .ok (.getfield 13, 3) := by decide +kernel
theorem dX5_load_91 : decode cX5_load 91 = .ok (.iload_n 1, 1) := by decide +kernel
theorem dX5_load_92 : decode cX5_load 92 = .ok (.aload_n 0, 1) := by decide +kernel
theorem dX5_load_93 : decode cX5_load 93 = .ok (.getfield 35, 3) := by decide +kernel
theorem dX5_load_96 : decode cX5_load 96 = .ok (.iload_n 2, 1) := by decide +kernel
theorem dX5_load_97 : decode cX5_load 97 = .ok (.iaload, 1) := by decide +kernel
theorem dX5_load_98 : decode cX5_load 98 = .ok (.iastore, 1) := by decide +kernel
theorem dX5_load_99 : decode cX5_load 99 = .ok (.aload_n 0, 1) := by decide +kernel
theorem dX5_load_100 : decode cX5_load 100 = .ok (.iload_n 2, 1) := by decide +kernel
theorem dX5_load_101 : decode cX5_load 101 = .ok (.invokevirtual 102, 3) := by decide +kernel
theorem dX5_load_104 : decode cX5_load 104 = .ok (.return_, 1) := by decide +kernel
set_option maxRecDepth 20000 in
theorem ggX5_reference_X5_record : GoodIn wsX5_reference wsX5_record := goodIn_r _ [8, 9, 1, 10, 11, 12, 13, 14, 15, 16, 7, 17, 67, 68, 69, 70, 71, 72, 73, 74, 75, 76, 77, 78, 79, 80, 81, 82, 83, 84, 85, 86, 87] (by decide +kernel) (by decide +kernel)
set_option maxRecDepth 20000 in
theorem gX5_reference_X5_record : GoodIn wsX5_reference (wsV RX5 116 RX5 yX5_record wsX5_record) := goodIn_app (goodIn_of _ (by decide +kernel)) ggX5_reference_X5_record
set_option maxRecDepth 20000 in
theorem ggX5_reference_X5_load : GoodIn wsX5_reference wsX5_load := goodIn_r _ [21, 22, 1, 23, 24, 25, 26, 27, 28, 29, 30, 31, 7, 32, 33, 34, 35, 36, 37, 38, 39, 40, 10, 12, 14, 15, 16, 17, 13, 41, 42, 43, 44, 45, 46, 47, 48, 49, 50, 51, 52, 53, 54, 55, 56, 57, 58, 59, 60, 61, 62, 63, 64, 65, 66, 67, 68, 69, 70, 71, 72, 73, 74, 75, 76, 77, 78, 79, 80, 81, 82, 83, 84, 85, 86, 87] (by decide +kernel) (by decide +kernel)
set_option maxRecDepth 20000 in
theorem gX5_reference_X5_load : GoodIn wsX5_reference (wsV RX5 119 RX5 yX5_load wsX5_load) := goodIn_app (goodIn_of _ (by decide +kernel)) ggX5_reference_X5_load
theorem dX5_reference_0 : decode cX5_reference 0 = .ok (.aload_n 0, 1) := by decide +kernel
theorem dX5_reference_1 : decode cX5_reference 1 = .ok (.iload_n 1, 1) := by decide +kernel
theorem dX5_reference_2 : decode cX5_reference 2 = .ok (.invokevirtual 116, 3) := by decide +kernel
theorem dX5_reference_5 : decode cX5_reference 5 = .ok (.aload_n 0, 1) := by decide +kernel
theorem dX5_reference_6 : decode cX5_reference 6 = .ok (.getfield 19, 3) := by decide +kernel
theorem dX5_reference_9 : decode cX5_reference 9 = .ok (.iload_n 1, 1) := by decide +kernel
theorem dX5_reference_10 : decode cX5_reference 10 = .ok (.baload, 1) := by decide +kernel
theorem dX5_reference_11 : decode cX5_reference 11 = .ok (.ifCond .eq 16, 3) := by decide +kernel
theorem dX5_reference_14 : decode cX5_reference 14 = .ok (.aload_n 0, 1) := by decide +kernel
theorem dX5_reference_15 : decode cX5_reference 15 = .ok (.dup, 1) := by decide +kernel
theorem dX5_reference_16 : decode cX5_reference 16 = .ok (.getfield 62, 3) := by decide +kernel
theorem dX5_reference_19 : decode cX5_reference 19 = .ok (.iconst 1, 1) := by decide +kernel
theorem dX5_reference_20 : decode cX5_reference 20 = .ok (.iadd, 1) := by decide +kernel
theorem dX5_reference_21 : decode cX5_reference 21 = .ok (.putfield 62, 3) := by decide +kernel
theorem dX5_reference_24 : decode cX5_reference 24 = .ok (.goto 18, 3) := by decide +kernel
theorem dX5_reference_27 : decode cX5_reference 27 = .ok (.aload_n 0, 1) := by decide +kernel
theorem dX5_reference_28 : decode cX5_reference 28 = .ok (.dup, 1) := by decide +kernel
theorem dX5_reference_29 : decode cX5_reference 29 = .ok (.getfield 65, 3) := by decide +kernel
theorem dX5_reference_32 : decode cX5_reference 32 = .ok (.iconst 1, 1) := by decide +kernel
theorem dX5_reference_33 : decode cX5_reference 33 = .ok (.iadd, 1) := by decide +kernel
theorem dX5_reference_34 : decode cX5_reference 34 = .ok (.putfield 65, 3) := by decide +kernel
theorem dX5_reference_37 : decode cX5_reference 37 = .ok (.aload_n 0, 1) := by decide +kernel
theorem dX5_reference_38 : decode cX5_reference 38 = .ok (.iload_n 1, 1) := by decide +kernel
theorem dX5_reference_39 : decode cX5_reference 39 = .ok (.invokevirtual 119, 3) := by decide +kernel
theorem dX5_reference_42 : decode cX5_reference 42 = .ok (.return_, 1) := by decide +kernel
set_option maxRecDepth 20000 in
theorem ggX5_isStuck_X5_canLoad : GoodIn wsX5_isStuck wsX5_canLoad := goodIn_r _ [6, 7, 8, 9, 10, 5, 11, 1, 12, 13, 14, 15, 16, 17, 18, 19, 20, 21, 22, 23, 24, 25, 26, 27, 28, 29, 30, 31, 32, 33, 34, 35, 36, 37, 38, 39, 40, 41, 42, 43, 44, 45, 46, 47, 48] (by decide +kernel) (by decide +kernel)
set_option maxRecDepth 20000 in
theorem gX5_isStuck_X5_canLoad : GoodIn wsX5_isStuck (wsV RX5 122 RX5 yX5_canLoad wsX5_canLoad) := goodIn_app (goodIn_of _ (by decide +kernel)) ggX5_isStuck_X5_canLoad
theorem dX5_isStuck_0 : decode cX5_isStuck 0 = .ok (.aload_n 0, 1) := by decide +kernel
theorem dX5_isStuck_1 : decode cX5_isStuck 1 = .ok (.getfield 19, 3) := by decide +kernel
theorem dX5_isStuck_4 : decode cX5_isStuck 4 = .ok (.iload_n 1, 1) := by decide +kernel
theorem dX5_isStuck_5 : decode cX5_isStuck 5 = .ok (.baload, 1) := by decide +kernel
theorem dX5_isStuck_6 : decode cX5_isStuck 6 = .ok (.ifCond .ne 14, 3) := by decide +kernel
theorem dX5_isStuck_9 : decode cX5_isStuck 9 = .ok (.aload_n 0, 1) := by decide +kernel
theorem dX5_isStuck_10 : decode cX5_isStuck 10 = .ok (.invokevirtual 122, 3) := by decide +kernel
theorem dX5_isStuck_13 : decode cX5_isStuck 13 = .ok (.ifCond .ne 7, 3) := by decide +kernel
theorem dX5_isStuck_16 : decode cX5_isStuck 16 = .ok (.iconst 1, 1) := by decide +kernel
theorem dX5_isStuck_17 : decode cX5_isStuck 17 = .ok (.goto 4, 3) := by decide +kernel
theorem dX5_isStuck_20 : decode cX5_isStuck 20 = .ok (.iconst 0, 1) := by decide +kernel
theorem dX5_isStuck_21 : decode cX5_isStuck 21 = .ok (.ireturn, 1) := by decide +kernel
set_option maxRecDepth 20000 in
theorem ggX5_read_X5_isPage : GoodIn wsX5_read wsX5_isPage := goodIn_r _ [5, 6, 7, 4, 8] (by decide +kernel) (by decide +kernel)
set_option maxRecDepth 20000 in
theorem gX5_read_X5_isPage : GoodIn wsX5_read (va_wsS RX5 126 yX5_isPage wsX5_isPage) := goodIn_app (goodIn_of _ (by decide +kernel)) ggX5_read_X5_isPage
set_option maxRecDepth 20000 in
theorem ggX5_read_X5_isStuck : GoodIn wsX5_read wsX5_isStuck := goodIn_r _ [12, 13, 14, 15, 16, 4, 17, 18, 19, 20, 21, 22, 23, 24, 25, 26, 27, 28, 29, 30, 31, 32, 33, 34, 35, 36, 37, 38, 85, 86, 87, 88, 89, 90, 91, 92, 93, 94, 95, 96, 97, 98, 99, 100, 101, 102, 103, 104, 105] (by decide +kernel) (by decide +kernel)
set_option maxRecDepth 20000 in
theorem gX5_read_X5_isStuck : GoodIn wsX5_read (wsV RX5 130 RX5 yX5_isStuck wsX5_isStuck) := goodIn_app (goodIn_of _ (by decide +kernel)) ggX5_read_X5_isStuck
set_option maxRecDepth 20000 in
theorem ggX5_read_X5_reference : GoodIn wsX5_read wsX5_reference := goodIn_r _ [42, 13, 43, 44, 45, 46, 47, 4, 48, 49, 32, 50, 33, 38, 34, 35, 36, 37, 51, 52, 53, 54, 18, 55, 27, 1, 56, 57, 58, 19, 20, 21, 22, 23, 24, 25, 26, 28, 29, 30, 31, 59, 60, 61, 62, 63, 64, 65, 66, 67, 68, 69, 70, 71, 72, 73, 74, 75, 76, 77, 78, 79, 80, 81, 82, 83, 84, 85, 86, 87, 88, 89, 90, 91, 92, 93, 94, 95, 96, 97, 98, 99, 100, 101, 102, 103, 104, 105] (by decide +kernel) (by decide +kernel)
set_option maxRecDepth 20000 in
theorem gX5_read_X5_reference : GoodIn wsX5_read (wsV RX5 133 RX5 yX5_reference wsX5_reference) := goodIn_app (goodIn_of _ (by decide +kernel)) ggX5_read_X5_reference
theorem dX5_read_0 : decode cX5_read 0 = .ok (.iload_n 1, 1) := by decide +kernel
theorem dX5_read_1 : decode cX5_read 1 = .ok (.invokestatic 126, 3) := by decide +kernel
theorem dX5_read_4 : decode cX5_read 4 = .ok (.ifCond .ne 5, 3) := by decide +kernel
theorem dX5_read_7 : decode cX5_read 7 = .ok (.iconst (-1), 1) := by decide +kernel
theorem dX5_read_8 : decode cX5_read 8 = .ok (.ireturn, 1) := by decide +kernel
theorem dX5_read_9 : decode cX5_read 9 = .ok (.aload_n 0, 1) := by decide +kernel
theorem dX5_read_10 : decode cX5_read 10 = .ok (.iload_n 1, 1) := by decide +kernel
theorem dX5_read_11 : decode cX5_read 11 = .ok (.invokevirtual 130, 3) := by decide +kernel
theorem dX5_read_14 : decode cX5_read 14 = .ok (.ifCond .eq 6, 3) := by decide +kernel
theorem dX5_read_17 : decode cX5_read 17 = .ok (.bipush (-3), 2) := by decide +kernel
theorem dX5_read_19 : decode cX5_read 19 = .ok (.ireturn, 1) := by decide +kernel
theorem dX5_read_20 : decode cX5_read 20 = .ok (.aload_n 0, 1) := by decide +kernel
theorem dX5_read_21 : decode cX5_read 21 = .ok (.iload_n 1, 1) := by decide +kernel
theorem dX5_read_22 : decode cX5_read 22 = .ok (.invokevirtual 133, 3) := by decide +kernel
theorem dX5_read_25 : decode cX5_read 25 = .ok (.aload_n 0, 1) := by decide +kernel
theorem dX5_read_26 : decode cX5_read 26 = .ok (.getfield 13, 3) := by decide +kernel
theorem dX5_read_29 : decode cX5_read 29 = .ok (.iload_n 1, 1) := by decide +kernel
theorem dX5_read_30 : decode cX5_read 30 = .ok (.iaload, 1) := by decide +kernel
theorem dX5_read_31 : decode cX5_read 31 = .ok (.ireturn, 1) := by decide +kernel
set_option maxRecDepth 20000 in
theorem ggX5_write_X5_isPage : GoodIn wsX5_write wsX5_isPage := goodIn_r _ [6, 7, 8, 5, 9] (by decide +kernel) (by decide +kernel)
set_option maxRecDepth 20000 in
theorem gX5_write_X5_isPage : GoodIn wsX5_write (va_wsS RX5 126 yX5_isPage wsX5_isPage) := goodIn_app (goodIn_of _ (by decide +kernel)) ggX5_write_X5_isPage
set_option maxRecDepth 20000 in
theorem ggX5_write_X5_isFrom : GoodIn wsX5_write wsX5_isFrom := goodIn_r _ [9] (by decide +kernel) (by decide +kernel)
set_option maxRecDepth 20000 in
theorem gX5_write_X5_isFrom : GoodIn wsX5_write (va_wsS RX5 42 yX5_isFrom wsX5_isFrom) := goodIn_app (goodIn_of _ (by decide +kernel)) ggX5_write_X5_isFrom
set_option maxRecDepth 20000 in
theorem ggX5_write_X5_isStuck : GoodIn wsX5_write wsX5_isStuck := goodIn_r _ [13, 14, 15, 16, 17, 5, 18, 19, 20, 21, 22, 23, 24, 25, 26, 27, 28, 29, 30, 31, 32, 33, 34, 35, 36, 37, 38, 39, 85, 86, 87, 88, 89, 90, 91, 92, 93, 94, 95, 96, 97, 98, 99, 100, 101, 102, 103, 104, 105] (by decide +kernel) (by decide +kernel)
set_option maxRecDepth 20000 in
theorem gX5_write_X5_isStuck : GoodIn wsX5_write (wsV RX5 130 RX5 yX5_isStuck wsX5_isStuck) := goodIn_app (goodIn_of _ (by decide +kernel)) ggX5_write_X5_isStuck
set_option maxRecDepth 20000 in
theorem ggX5_write_X5_reference : GoodIn wsX5_write wsX5_reference := goodIn_r _ [43, 14, 44, 45, 46, 47, 48, 5, 49, 50, 33, 51, 34, 39, 35, 36, 37, 38, 52, 53, 54, 55, 19, 2, 28, 1, 56, 57, 58, 20, 21, 22, 23, 24, 25, 26, 27, 29, 30, 31, 32, 59, 60, 61, 62, 63, 64, 65, 66, 67, 68, 69, 70, 71, 72, 73, 74, 75, 76, 77, 78, 79, 80, 81, 82, 83, 84, 85, 86, 87, 88, 89, 90, 91, 92, 93, 94, 95, 96, 97, 98, 99, 100, 101, 102, 103, 104, 105] (by decide +kernel) (by decide +kernel)
set_option maxRecDepth 20000 in
theorem gX5_write_X5_reference : GoodIn wsX5_write (wsV RX5 133 RX5 yX5_reference wsX5_reference) := goodIn_app (goodIn_of _ (by decide +kernel)) ggX5_write_X5_reference
theorem dX5_write_0 : decode cX5_write 0 = .ok (.iload_n 1, 1) := by decide +kernel
theorem dX5_write_1 : decode cX5_write 1 = .ok (.invokestatic 126, 3) := by decide +kernel
theorem dX5_write_4 : decode cX5_write 4 = .ok (.ifCond .ne 5, 3) := by decide +kernel
theorem dX5_write_7 : decode cX5_write 7 = .ok (.iconst (-1), 1) := by decide +kernel
theorem dX5_write_8 : decode cX5_write 8 = .ok (.ireturn, 1) := by decide +kernel
theorem dX5_write_9 : decode cX5_write 9 = .ok (.iload_n 2, 1) := by decide +kernel
theorem dX5_write_10 : decode cX5_write 10 = .ok (.iconst 0, 1) := by decide +kernel
theorem dX5_write_11 : decode cX5_write 11 = .ok (.sipush 9999, 3) := by decide +kernel
theorem dX5_write_14 : decode cX5_write 14 = .ok (.invokestatic 42, 3) := by decide +kernel
theorem dX5_write_17 : decode cX5_write 17 = .ok (.ifCond .ne 6, 3) := by decide +kernel
theorem dX5_write_20 : decode cX5_write 20 = .ok (.bipush (-2), 2) := by decide +kernel
theorem dX5_write_22 : decode cX5_write 22 = .ok (.ireturn, 1) := by decide +kernel
theorem dX5_write_23 : decode cX5_write 23 = .ok (.aload_n 0, 1) := by decide +kernel
theorem dX5_write_24 : decode cX5_write 24 = .ok (.iload_n 1, 1) := by decide +kernel
theorem dX5_write_25 : decode cX5_write 25 = .ok (.invokevirtual 130, 3) := by decide +kernel
theorem dX5_write_28 : decode cX5_write 28 = .ok (.ifCond .eq 6, 3) := by decide +kernel
theorem dX5_write_31 : decode cX5_write 31 = .ok (.bipush (-3), 2) := by decide +kernel
theorem dX5_write_33 : decode cX5_write 33 = .ok (.ireturn, 1) := by decide +kernel
theorem dX5_write_34 : decode cX5_write 34 = .ok (.aload_n 0, 1) := by decide +kernel
theorem dX5_write_35 : decode cX5_write 35 = .ok (.iload_n 1, 1) := by decide +kernel
theorem dX5_write_36 : decode cX5_write 36 = .ok (.invokevirtual 133, 3) := by decide +kernel
theorem dX5_write_39 : decode cX5_write 39 = .ok (.aload_n 0, 1) := by decide +kernel
theorem dX5_write_40 : decode cX5_write 40 = .ok (.getfield 13, 3) := by decide +kernel
theorem dX5_write_43 : decode cX5_write 43 = .ok (.iload_n 1, 1) := by decide +kernel
theorem dX5_write_44 : decode cX5_write 44 = .ok (.iaload, 1) := by decide +kernel
theorem dX5_write_45 : decode cX5_write 45 = .ok (.istore_n 3, 1) := by decide +kernel
theorem dX5_write_46 : decode cX5_write 46 = .ok (.aload_n 0, 1) := by decide +kernel
theorem dX5_write_47 : decode cX5_write 47 = .ok (.getfield 13, 3) := by decide +kernel
theorem dX5_write_50 : decode cX5_write 50 = .ok (.iload_n 1, 1) := by decide +kernel
theorem dX5_write_51 : decode cX5_write 51 = .ok (.iload_n 2, 1) := by decide +kernel
theorem dX5_write_52 : decode cX5_write 52 = .ok (.iastore, 1) := by decide +kernel
theorem dX5_write_53 : decode cX5_write 53 = .ok (.aload_n 0, 1) := by decide +kernel
theorem dX5_write_54 : decode cX5_write 54 = .ok (.getfield 23, 3) := by decide +kernel
theorem dX5_write_57 : decode cX5_write 57 = .ok (.iload_n 1, 1) := by decide +kernel
theorem dX5_write_58 : decode cX5_write 58 = .ok (.iconst 1, 1) := by decide +kernel
theorem dX5_write_59 : decode cX5_write 59 = .ok (.bastore, 1) := by decide +kernel
theorem dX5_write_60 : decode cX5_write 60 = .ok (.iload_n 3, 1) := by decide +kernel
theorem dX5_write_61 : decode cX5_write 61 = .ok (.ireturn, 1) := by decide +kernel
set_option maxRecDepth 20000 in
theorem ggX5_pin_X5_isPage : GoodIn wsX5_pin wsX5_isPage := goodIn_r _ [6, 7, 8, 5, 9] (by decide +kernel) (by decide +kernel)
set_option maxRecDepth 20000 in
theorem gX5_pin_X5_isPage : GoodIn wsX5_pin (va_wsS RX5 126 yX5_isPage wsX5_isPage) := goodIn_app (goodIn_of _ (by decide +kernel)) ggX5_pin_X5_isPage
set_option maxRecDepth 20000 in
theorem ggX5_pin_X5_isStuck : GoodIn wsX5_pin wsX5_isStuck := goodIn_r _ [13, 1, 14, 15, 16, 5, 17, 18, 19, 20, 21, 22, 23, 24, 25, 26, 2, 27, 28, 29, 30, 31, 32, 33, 34, 35, 36, 37, 85, 86, 87, 88, 89, 90, 91, 92, 93, 94, 95, 96, 97, 98, 99, 100, 101, 102, 103, 104, 105] (by decide +kernel) (by decide +kernel)
set_option maxRecDepth 20000 in
theorem gX5_pin_X5_isStuck : GoodIn wsX5_pin (wsV RX5 130 RX5 yX5_isStuck wsX5_isStuck) := goodIn_app (goodIn_of _ (by decide +kernel)) ggX5_pin_X5_isStuck
set_option maxRecDepth 20000 in
theorem ggX5_pin_X5_reference : GoodIn wsX5_pin wsX5_reference := goodIn_r _ [41, 1, 42, 43, 44, 45, 46, 5, 47, 48, 31, 49, 32, 37, 33, 34, 35, 36, 50, 51, 52, 53, 18, 54, 2, 55, 56, 57, 58, 19, 20, 21, 22, 23, 24, 25, 26, 27, 28, 29, 30, 59, 60, 61, 62, 63, 64, 65, 66, 67, 68, 69, 70, 71, 72, 73, 74, 75, 76, 77, 78, 79, 80, 81, 82, 83, 84, 85, 86, 87, 88, 89, 90, 91, 92, 93, 94, 95, 96, 97, 98, 99, 100, 101, 102, 103, 104, 105] (by decide +kernel) (by decide +kernel)
set_option maxRecDepth 20000 in
theorem gX5_pin_X5_reference : GoodIn wsX5_pin (wsV RX5 133 RX5 yX5_reference wsX5_reference) := goodIn_app (goodIn_of _ (by decide +kernel)) ggX5_pin_X5_reference
theorem dX5_pin_0 : decode cX5_pin 0 = .ok (.iload_n 1, 1) := by decide +kernel
theorem dX5_pin_1 : decode cX5_pin 1 = .ok (.invokestatic 126, 3) := by decide +kernel
theorem dX5_pin_4 : decode cX5_pin 4 = .ok (.ifCond .ne 5, 3) := by decide +kernel
theorem dX5_pin_7 : decode cX5_pin 7 = .ok (.iconst (-1), 1) := by decide +kernel
theorem dX5_pin_8 : decode cX5_pin 8 = .ok (.ireturn, 1) := by decide +kernel
theorem dX5_pin_9 : decode cX5_pin 9 = .ok (.aload_n 0, 1) := by decide +kernel
theorem dX5_pin_10 : decode cX5_pin 10 = .ok (.getfield 19, 3) := by decide +kernel
theorem dX5_pin_13 : decode cX5_pin 13 = .ok (.iload_n 1, 1) := by decide +kernel
theorem dX5_pin_14 : decode cX5_pin 14 = .ok (.baload, 1) := by decide +kernel
theorem dX5_pin_15 : decode cX5_pin 15 = .ok (.ifCond .eq 17, 3) := by decide +kernel
theorem dX5_pin_18 : decode cX5_pin 18 = .ok (.aload_n 0, 1) := by decide +kernel
theorem dX5_pin_19 : decode cX5_pin 19 = .ok (.getfield 16, 3) := by decide +kernel
theorem dX5_pin_22 : decode cX5_pin 22 = .ok (.iload_n 1, 1) := by decide +kernel
theorem dX5_pin_23 : decode cX5_pin 23 = .ok (.iaload, 1) := by decide +kernel
theorem dX5_pin_24 : decode cX5_pin 24 = .ok (.bipush 9, 2) := by decide +kernel
theorem dX5_pin_26 : decode cX5_pin 26 = .ok (.if_icmp .ne 6, 3) := by decide +kernel
theorem dX5_pin_29 : decode cX5_pin 29 = .ok (.bipush (-6), 2) := by decide +kernel
theorem dX5_pin_31 : decode cX5_pin 31 = .ok (.ireturn, 1) := by decide +kernel
theorem dX5_pin_32 : decode cX5_pin 32 = .ok (.aload_n 0, 1) := by decide +kernel
theorem dX5_pin_33 : decode cX5_pin 33 = .ok (.iload_n 1, 1) := by decide +kernel
theorem dX5_pin_34 : decode cX5_pin 34 = .ok (.invokevirtual 130, 3) := by decide +kernel
theorem dX5_pin_37 : decode cX5_pin 37 = .ok (.ifCond .eq 6, 3) := by decide +kernel
theorem dX5_pin_40 : decode cX5_pin 40 = .ok (.bipush (-3), 2) := by decide +kernel
theorem dX5_pin_42 : decode cX5_pin 42 = .ok (.ireturn, 1) := by decide +kernel
theorem dX5_pin_43 : decode cX5_pin 43 = .ok (.aload_n 0, 1) := by decide +kernel
theorem dX5_pin_44 : decode cX5_pin 44 = .ok (.iload_n 1, 1) := by decide +kernel
theorem dX5_pin_45 : decode cX5_pin 45 = .ok (.invokevirtual 133, 3) := by decide +kernel
theorem dX5_pin_48 : decode cX5_pin 48 = .ok (.aload_n 0, 1) := by decide +kernel
theorem dX5_pin_49 : decode cX5_pin 49 = .ok (.getfield 16, 3) := by decide +kernel
theorem dX5_pin_52 : decode cX5_pin 52 = .ok (.iload_n 1, 1) := by decide +kernel
theorem dX5_pin_53 : decode cX5_pin 53 = .ok (.dup2, 1) := by decide +kernel
theorem dX5_pin_54 : decode cX5_pin 54 = .ok (.iaload, 1) := by decide +kernel
theorem dX5_pin_55 : decode cX5_pin 55 = .ok (.iconst 1, 1) := by decide +kernel
theorem dX5_pin_56 : decode cX5_pin 56 = .ok (.iadd, 1) := by decide +kernel
theorem dX5_pin_57 : decode cX5_pin 57 = .ok (.iastore, 1) := by decide +kernel
theorem dX5_pin_58 : decode cX5_pin 58 = .ok (.aload_n 0, 1) := by decide +kernel
theorem dX5_pin_59 : decode cX5_pin 59 = .ok (.getfield 16, 3) := by decide +kernel
theorem dX5_pin_62 : decode cX5_pin 62 = .ok (.iload_n 1, 1) := by decide +kernel
theorem dX5_pin_63 : decode cX5_pin 63 = .ok (.iaload, 1) := by decide +kernel
theorem dX5_pin_64 : decode cX5_pin 64 = .ok (.ireturn, 1) := by decide +kernel
set_option maxRecDepth 20000 in
theorem ggX5_unpin_X5_isPage : GoodIn wsX5_unpin wsX5_isPage := goodIn_r _ [6, 7, 8, 5, 9] (by decide +kernel) (by decide +kernel)
set_option maxRecDepth 20000 in
theorem gX5_unpin_X5_isPage : GoodIn wsX5_unpin (va_wsS RX5 126 yX5_isPage wsX5_isPage) := goodIn_app (goodIn_of _ (by decide +kernel)) ggX5_unpin_X5_isPage
theorem dX5_unpin_0 : decode cX5_unpin 0 = .ok (.iload_n 1, 1) := by decide +kernel
theorem dX5_unpin_1 : decode cX5_unpin 1 = .ok (.invokestatic 126, 3) := by decide +kernel
theorem dX5_unpin_4 : decode cX5_unpin 4 = .ok (.ifCond .ne 5, 3) := by decide +kernel
theorem dX5_unpin_7 : decode cX5_unpin 7 = .ok (.iconst (-1), 1) := by decide +kernel
theorem dX5_unpin_8 : decode cX5_unpin 8 = .ok (.ireturn, 1) := by decide +kernel
theorem dX5_unpin_9 : decode cX5_unpin 9 = .ok (.aload_n 0, 1) := by decide +kernel
theorem dX5_unpin_10 : decode cX5_unpin 10 = .ok (.getfield 19, 3) := by decide +kernel
theorem dX5_unpin_13 : decode cX5_unpin 13 = .ok (.iload_n 1, 1) := by decide +kernel
theorem dX5_unpin_14 : decode cX5_unpin 14 = .ok (.baload, 1) := by decide +kernel
theorem dX5_unpin_15 : decode cX5_unpin 15 = .ok (.ifCond .ne 6, 3) := by decide +kernel
theorem dX5_unpin_18 : decode cX5_unpin 18 = .ok (.bipush (-4), 2) := by decide +kernel
theorem dX5_unpin_20 : decode cX5_unpin 20 = .ok (.ireturn, 1) := by decide +kernel
theorem dX5_unpin_21 : decode cX5_unpin 21 = .ok (.aload_n 0, 1) := by decide +kernel
theorem dX5_unpin_22 : decode cX5_unpin 22 = .ok (.getfield 16, 3) := by decide +kernel
theorem dX5_unpin_25 : decode cX5_unpin 25 = .ok (.iload_n 1, 1) := by decide +kernel
theorem dX5_unpin_26 : decode cX5_unpin 26 = .ok (.iaload, 1) := by decide +kernel
theorem dX5_unpin_27 : decode cX5_unpin 27 = .ok (.ifCond .ne 6, 3) := by decide +kernel
theorem dX5_unpin_30 : decode cX5_unpin 30 = .ok (.bipush (-5), 2) := by decide +kernel
theorem dX5_unpin_32 : decode cX5_unpin 32 = .ok (.ireturn, 1) := by decide +kernel
theorem dX5_unpin_33 : decode cX5_unpin 33 = .ok (.aload_n 0, 1) := by decide +kernel
theorem dX5_unpin_34 : decode cX5_unpin 34 = .ok (.getfield 16, 3) := by decide +kernel
theorem dX5_unpin_37 : decode cX5_unpin 37 = .ok (.iload_n 1, 1) := by decide +kernel
theorem dX5_unpin_38 : decode cX5_unpin 38 = .ok (.dup2, 1) := by decide +kernel
theorem dX5_unpin_39 : decode cX5_unpin 39 = .ok (.iaload, 1) := by decide +kernel
theorem dX5_unpin_40 : decode cX5_unpin 40 = .ok (.iconst 1, 1) := by decide +kernel
theorem dX5_unpin_41 : decode cX5_unpin 41 = .ok (.isub, 1) := by decide +kernel
theorem dX5_unpin_42 : decode cX5_unpin 42 = .ok (.iastore, 1) := by decide +kernel
theorem dX5_unpin_43 : decode cX5_unpin 43 = .ok (.aload_n 0, 1) := by decide +kernel
theorem dX5_unpin_44 : decode cX5_unpin 44 = .ok (.getfield 16, 3) := by decide +kernel
theorem dX5_unpin_47 : decode cX5_unpin 47 = .ok (.iload_n 1, 1) := by decide +kernel
theorem dX5_unpin_48 : decode cX5_unpin 48 = .ok (.iaload, 1) := by decide +kernel
theorem dX5_unpin_49 : decode cX5_unpin 49 = .ok (.ireturn, 1) := by decide +kernel
set_option maxRecDepth 20000 in
theorem ggX5_writeResident_X5_writeToDisk : GoodIn wsX5_writeResident wsX5_writeToDisk := goodIn_r _ [8, 9, 10, 11, 12, 13, 14, 15, 16, 17, 18, 19, 20, 21, 22, 23, 24, 25, 26, 27, 28, 29, 30, 31] (by decide +kernel) (by decide +kernel)
set_option maxRecDepth 20000 in
theorem gX5_writeResident_X5_writeToDisk : GoodIn wsX5_writeResident (wsV RX5 98 RX5 yX5_writeToDisk wsX5_writeToDisk) := goodIn_app (goodIn_of _ (by decide +kernel)) ggX5_writeResident_X5_writeToDisk
theorem dX5_writeResident_0 : decode cX5_writeResident 0 = .ok (.aload_n 0, 1) := by decide +kernel
theorem dX5_writeResident_1 : decode cX5_writeResident 1 = .ok (.getfield 19, 3) := by decide +kernel
theorem dX5_writeResident_4 : decode cX5_writeResident 4 = .ok (.iload_n 1, 1) := by decide +kernel
theorem dX5_writeResident_5 : decode cX5_writeResident 5 = .ok (.baload, 1) := by decide +kernel
theorem dX5_writeResident_6 : decode cX5_writeResident 6 = .ok (.ifCond .eq 12, 3) := by decide +kernel
theorem dX5_writeResident_9 : decode cX5_writeResident 9 = .ok (.aload_n 0, 1) := by decide +kernel
theorem dX5_writeResident_10 : decode cX5_writeResident 10 = .ok (.getfield 23, 3) := by decide +kernel
theorem dX5_writeResident_13 : decode cX5_writeResident 13 = .ok (.iload_n 1, 1) := by decide +kernel
theorem dX5_writeResident_14 : decode cX5_writeResident 14 = .ok (.baload, 1) := by decide +kernel
theorem dX5_writeResident_15 : decode cX5_writeResident 15 = .ok (.ifCond .ne 5, 3) := by decide +kernel
theorem dX5_writeResident_18 : decode cX5_writeResident 18 = .ok (.iconst 0, 1) := by decide +kernel
theorem dX5_writeResident_19 : decode cX5_writeResident 19 = .ok (.ireturn, 1) := by decide +kernel
theorem dX5_writeResident_20 : decode cX5_writeResident 20 = .ok (.aload_n 0, 1) := by decide +kernel
theorem dX5_writeResident_21 : decode cX5_writeResident 21 = .ok (.iload_n 1, 1) := by decide +kernel
theorem dX5_writeResident_22 : decode cX5_writeResident 22 = .ok (.aload_n 0, 1) := by decide +kernel
theorem dX5_writeResident_23 : decode cX5_writeResident 23 = .ok (.getfield 13, 3) := by decide +kernel
theorem dX5_writeResident_26 : decode cX5_writeResident 26 = .ok (.iload_n 1, 1) := by decide +kernel
theorem dX5_writeResident_27 : decode cX5_writeResident 27 = .ok (.iaload, 1) := by decide +kernel
theorem dX5_writeResident_28 : decode cX5_writeResident 28 = .ok (.invokevirtual 98, 3) := by decide +kernel
theorem dX5_writeResident_31 : decode cX5_writeResident 31 = .ok (.aload_n 0, 1) := by decide +kernel
theorem dX5_writeResident_32 : decode cX5_writeResident 32 = .ok (.getfield 23, 3) := by decide +kernel
theorem dX5_writeResident_35 : decode cX5_writeResident 35 = .ok (.iload_n 1, 1) := by decide +kernel
theorem dX5_writeResident_36 : decode cX5_writeResident 36 = .ok (.iconst 0, 1) := by decide +kernel
theorem dX5_writeResident_37 : decode cX5_writeResident 37 = .ok (.bastore, 1) := by decide +kernel
theorem dX5_writeResident_38 : decode cX5_writeResident 38 = .ok (.iconst 1, 1) := by decide +kernel
theorem dX5_writeResident_39 : decode cX5_writeResident 39 = .ok (.ireturn, 1) := by decide +kernel
set_option maxRecDepth 20000 in
theorem ggX5_flush_X5_isPage : GoodIn wsX5_flush wsX5_isPage := goodIn_r _ [5, 6, 7, 4, 8] (by decide +kernel) (by decide +kernel)
set_option maxRecDepth 20000 in
theorem gX5_flush_X5_isPage : GoodIn wsX5_flush (va_wsS RX5 126 yX5_isPage wsX5_isPage) := goodIn_app (goodIn_of _ (by decide +kernel)) ggX5_flush_X5_isPage
set_option maxRecDepth 20000 in
theorem ggX5_flush_X5_writeResident : GoodIn wsX5_flush wsX5_writeResident := goodIn_r _ [12, 13, 14, 15, 16, 17, 18, 4, 19, 20, 21, 32, 33, 34, 35, 36, 37, 38, 39, 40, 41, 42, 43, 44, 45, 46, 47, 48, 49, 50, 51, 52] (by decide +kernel) (by decide +kernel)
set_option maxRecDepth 20000 in
theorem gX5_flush_X5_writeResident : GoodIn wsX5_flush (wsV RX5 136 RX5 yX5_writeResident wsX5_writeResident) := goodIn_app (goodIn_of _ (by decide +kernel)) ggX5_flush_X5_writeResident
set_option maxRecDepth 20000 in
theorem ggX5_flush_X5_positionInQueue : GoodIn wsX5_flush wsX5_positionInQueue := goodIn_r _ [25, 26, 27, 32, 33, 34, 35, 36, 37, 38, 39, 40, 41, 42, 43, 44, 45, 46, 47, 48, 49, 50, 51, 52] (by decide +kernel) (by decide +kernel)
set_option maxRecDepth 20000 in
theorem gX5_flush_X5_positionInQueue : GoodIn wsX5_flush (wsV RX5 112 RX5 yX5_positionInQueue wsX5_positionInQueue) := goodIn_app (goodIn_of _ (by decide +kernel)) ggX5_flush_X5_positionInQueue
set_option maxRecDepth 20000 in
theorem ggX5_flush_X5_writeToDisk : GoodIn wsX5_flush wsX5_writeToDisk := goodIn_r _ [19, 20, 21, 32, 33, 34, 35, 36, 37, 38, 39, 40, 41, 42, 43, 44, 45, 46, 47, 48, 49, 50, 51, 52] (by decide +kernel) (by decide +kernel)
set_option maxRecDepth 20000 in
theorem gX5_flush_X5_writeToDisk : GoodIn wsX5_flush (wsV RX5 98 RX5 yX5_writeToDisk wsX5_writeToDisk) := goodIn_app (goodIn_of _ (by decide +kernel)) ggX5_flush_X5_writeToDisk
set_option maxRecDepth 20000 in
theorem ggX5_flush_X5_removeEntry : GoodIn wsX5_flush wsX5_removeEntry := goodIn_r _ [31, 26, 27, 1, 32, 33, 34, 35, 36, 37, 38, 39, 40, 41, 42, 43, 44, 45, 46, 47, 48, 49, 50, 51, 52] (by decide +kernel) (by decide +kernel)
set_option maxRecDepth 20000 in
theorem gX5_flush_X5_removeEntry : GoodIn wsX5_flush (wsV RX5 102 RX5 yX5_removeEntry wsX5_removeEntry) := goodIn_app (goodIn_of _ (by decide +kernel)) ggX5_flush_X5_removeEntry
theorem dX5_flush_0 : decode cX5_flush 0 = .ok (.iload_n 1, 1) := by decide +kernel
theorem dX5_flush_1 : decode cX5_flush 1 = .ok (.invokestatic 126, 3) := by decide +kernel
theorem dX5_flush_4 : decode cX5_flush 4 = .ok (.ifCond .ne 5, 3) := by decide +kernel
theorem dX5_flush_7 : decode cX5_flush 7 = .ok (.iconst (-1), 1) := by decide +kernel
theorem dX5_flush_8 : decode cX5_flush 8 = .ok (.ireturn, 1) := by decide +kernel
theorem dX5_flush_9 : decode cX5_flush 9 = .ok (.aload_n 0, 1) := by decide +kernel
theorem dX5_flush_10 : decode cX5_flush 10 = .ok (.iload_n 1, 1) := by decide +kernel
theorem dX5_flush_11 : decode cX5_flush 11 = .ok (.invokevirtual 136, 3) := by decide +kernel
theorem dX5_flush_14 : decode cX5_flush 14 = .ok (.ifCond .eq 5, 3) := by decide +kernel
theorem dX5_flush_17 : decode cX5_flush 17 = .ok (.iconst 1, 1) := by decide +kernel
theorem dX5_flush_18 : decode cX5_flush 18 = .ok (.ireturn, 1) := by decide +kernel
theorem dX5_flush_19 : decode cX5_flush 19 = .ok (.aload_n 0, 1) := by decide +kernel
theorem dX5_flush_20 : decode cX5_flush 20 = .ok (.iload_n 1, 1) := by decide +kernel
theorem dX5_flush_21 : decode cX5_flush 21 = .ok (.invokevirtual 112, 3) := by decide +kernel
theorem dX5_flush_24 : decode cX5_flush 24 = .ok (.istore_n 2, 1) := by decide +kernel
theorem dX5_flush_25 : decode cX5_flush 25 = .ok (.iload_n 2, 1) := by decide +kernel
theorem dX5_flush_26 : decode cX5_flush 26 = .ok (.bipush (-9), 2) := by decide +kernel
theorem dX5_flush_28 : decode cX5_flush 28 = .ok (.if_icmp .ne 5, 3) := by decide +kernel
theorem dX5_flush_31 : decode cX5_flush 31 = .ok (.iconst 0, 1) := by decide +kernel
theorem dX5_flush_32 : decode cX5_flush 32 = .ok (.ireturn, 1) := by decide +kernel
theorem dX5_flush_33 : decode cX5_flush 33 = .ok (.aload_n 0, 1) := by decide +kernel
theorem dX5_flush_34 : decode cX5_flush 34 = .ok (.iload_n 1, 1) := by decide +kernel
theorem dX5_flush_35 : decode cX5_flush 35 = .ok (.aload_n 0, 1) := by decide +kernel
theorem dX5_flush_36 : decode cX5_flush 36 = .ok (.getfield 35, 3) := by decide +kernel
theorem dX5_flush_39 : decode cX5_flush 39 = .ok (.iload_n 2, 1) := by decide +kernel
theorem dX5_flush_40 : decode cX5_flush 40 = .ok (.iaload, 1) := by decide +kernel
theorem dX5_flush_41 : decode cX5_flush 41 = .ok (.invokevirtual 98, 3) := by decide +kernel
theorem dX5_flush_44 : decode cX5_flush 44 = .ok (.aload_n 0, 1) := by decide +kernel
theorem dX5_flush_45 : decode cX5_flush 45 = .ok (.iload_n 2, 1) := by decide +kernel
theorem dX5_flush_46 : decode cX5_flush 46 = .ok (.invokevirtual 102, 3) := by decide +kernel
theorem dX5_flush_49 : decode cX5_flush 49 = .ok (.iconst 1, 1) := by decide +kernel
theorem dX5_flush_50 : decode cX5_flush 50 = .ok (.ireturn, 1) := by decide +kernel
set_option maxRecDepth 20000 in
theorem ggX5_flushAll_X5_writeOldest : GoodIn wsX5_flushAll wsX5_writeOldest := goodIn_r _ [7, 8, 9, 10, 11, 12, 6, 13, 14, 1, 15, 16, 17, 18, 2, 26, 27, 28, 29, 30, 31, 32, 33, 34, 35, 36, 37, 38, 39, 40, 41, 42, 43, 44, 45, 46] (by decide +kernel) (by decide +kernel)
set_option maxRecDepth 20000 in
theorem gX5_flushAll_X5_writeOldest : GoodIn wsX5_flushAll (wsV RX5 106 RX5 yX5_writeOldest wsX5_writeOldest) := goodIn_app (goodIn_of _ (by decide +kernel)) ggX5_flushAll_X5_writeOldest
set_option maxRecDepth 20000 in
theorem ggX5_flushAll_X5_writeResident : GoodIn wsX5_flushAll wsX5_writeResident := goodIn_r _ [22, 23, 24, 25, 10, 11, 12, 6, 13, 14, 1, 26, 27, 28, 29, 30, 31, 32, 33, 34, 35, 36, 37, 38, 39, 40, 41, 42, 43, 44, 45, 46] (by decide +kernel) (by decide +kernel)
set_option maxRecDepth 20000 in
theorem gX5_flushAll_X5_writeResident : GoodIn wsX5_flushAll (wsV RX5 136 RX5 yX5_writeResident wsX5_writeResident) := goodIn_app (goodIn_of _ (by decide +kernel)) ggX5_flushAll_X5_writeResident
theorem dX5_flushAll_0 : decode cX5_flushAll 0 = .ok (.aload_n 0, 1) := by decide +kernel
theorem dX5_flushAll_1 : decode cX5_flushAll 1 = .ok (.getfield 74, 3) := by decide +kernel
theorem dX5_flushAll_4 : decode cX5_flushAll 4 = .ok (.istore_n 1, 1) := by decide +kernel
theorem dX5_flushAll_5 : decode cX5_flushAll 5 = .ok (.aload_n 0, 1) := by decide +kernel
theorem dX5_flushAll_6 : decode cX5_flushAll 6 = .ok (.getfield 80, 3) := by decide +kernel
theorem dX5_flushAll_9 : decode cX5_flushAll 9 = .ok (.ifCond .le 10, 3) := by decide +kernel
theorem dX5_flushAll_12 : decode cX5_flushAll 12 = .ok (.aload_n 0, 1) := by decide +kernel
theorem dX5_flushAll_13 : decode cX5_flushAll 13 = .ok (.invokevirtual 106, 3) := by decide +kernel
theorem dX5_flushAll_16 : decode cX5_flushAll 16 = .ok (.goto (-11), 3) := by decide +kernel
theorem dX5_flushAll_19 : decode cX5_flushAll 19 = .ok (.iconst 0, 1) := by decide +kernel
theorem dX5_flushAll_20 : decode cX5_flushAll 20 = .ok (.istore_n 2, 1) := by decide +kernel
theorem dX5_flushAll_21 : decode cX5_flushAll 21 = .ok (.iconst 0, 1) := by decide +kernel
theorem dX5_flushAll_22 : decode cX5_flushAll 22 = .ok (.istore_n 3, 1) := by decide +kernel
theorem dX5_flushAll_23 : decode cX5_flushAll 23 = .ok (.iload_n 3, 1) := by decide +kernel
theorem dX5_flushAll_24 : decode cX5_flushAll 24 = .ok (.bipush 64, 2) := by decide +kernel
theorem dX5_flushAll_26 : decode cX5_flushAll 26 = .ok (.if_icmp .ge 25, 3) := by decide +kernel
theorem dX5_flushAll_29 : decode cX5_flushAll 29 = .ok (.iload_n 2, 1) := by decide +kernel
theorem dX5_flushAll_30 : decode cX5_flushAll 30 = .ok (.aload_n 0, 1) := by decide +kernel
theorem dX5_flushAll_31 : decode cX5_flushAll 31 = .ok (.iload_n 3, 1) := by decide +kernel
theorem dX5_flushAll_32 : decode cX5_flushAll 32 = .ok (.invokevirtual 136, 3) := by decide +kernel
theorem dX5_flushAll_35 : decode cX5_flushAll 35 = .ok (.ifCond .eq 7, 3) := by decide +kernel
theorem dX5_flushAll_38 : decode cX5_flushAll 38 = .ok (.iconst 1, 1) := by decide +kernel
theorem dX5_flushAll_39 : decode cX5_flushAll 39 = .ok (.goto 4, 3) := by decide +kernel
theorem dX5_flushAll_42 : decode cX5_flushAll 42 = .ok (.iconst 0, 1) := by decide +kernel
theorem dX5_flushAll_43 : decode cX5_flushAll 43 = .ok (.iadd, 1) := by decide +kernel
theorem dX5_flushAll_44 : decode cX5_flushAll 44 = .ok (.istore_n 2, 1) := by decide +kernel
theorem dX5_flushAll_45 : decode cX5_flushAll 45 = .ok (.iinc 3 1, 3) := by decide +kernel
theorem dX5_flushAll_48 : decode cX5_flushAll 48 = .ok (.goto (-25), 3) := by decide +kernel
theorem dX5_flushAll_51 : decode cX5_flushAll 51 = .ok (.aload_n 0, 1) := by decide +kernel
theorem dX5_flushAll_52 : decode cX5_flushAll 52 = .ok (.getfield 74, 3) := by decide +kernel
theorem dX5_flushAll_55 : decode cX5_flushAll 55 = .ok (.iload_n 1, 1) := by decide +kernel
theorem dX5_flushAll_56 : decode cX5_flushAll 56 = .ok (.isub, 1) := by decide +kernel
theorem dX5_flushAll_57 : decode cX5_flushAll 57 = .ok (.ireturn, 1) := by decide +kernel
set_option maxRecDepth 20000 in
theorem ggX5_drain_X5_isFrom : GoodIn wsX5_drain wsX5_isFrom := goodIn_r _ [6] (by decide +kernel) (by decide +kernel)
set_option maxRecDepth 20000 in
theorem gX5_drain_X5_isFrom : GoodIn wsX5_drain (va_wsS RX5 42 yX5_isFrom wsX5_isFrom) := goodIn_app (goodIn_of _ (by decide +kernel)) ggX5_drain_X5_isFrom
set_option maxRecDepth 20000 in
theorem ggX5_drain_X5_writeOldest : GoodIn wsX5_drain wsX5_writeOldest := goodIn_r _ [10, 11, 12, 13, 14, 15, 5, 16, 17, 1, 18, 19, 20, 21, 2, 22, 23, 24, 25, 26, 27, 28, 29, 30, 31, 32, 33, 34, 35, 36, 37, 38, 39, 40, 41, 42] (by decide +kernel) (by decide +kernel)
set_option maxRecDepth 20000 in
theorem gX5_drain_X5_writeOldest : GoodIn wsX5_drain (wsV RX5 106 RX5 yX5_writeOldest wsX5_writeOldest) := goodIn_app (goodIn_of _ (by decide +kernel)) ggX5_drain_X5_writeOldest
theorem dX5_drain_0 : decode cX5_drain 0 = .ok (.iload_n 1, 1) := by decide +kernel
theorem dX5_drain_1 : decode cX5_drain 1 = .ok (.iconst 0, 1) := by decide +kernel
theorem dX5_drain_2 : decode cX5_drain 2 = .ok (.bipush 8, 2) := by decide +kernel
theorem dX5_drain_4 : decode cX5_drain 4 = .ok (.invokestatic 42, 3) := by decide +kernel
theorem dX5_drain_7 : decode cX5_drain 7 = .ok (.ifCond .ne 6, 3) := by decide +kernel
theorem dX5_drain_10 : decode cX5_drain 10 = .ok (.bipush (-8), 2) := by decide +kernel
theorem dX5_drain_12 : decode cX5_drain 12 = .ok (.ireturn, 1) := by decide +kernel
theorem dX5_drain_13 : decode cX5_drain 13 = .ok (.aload_n 0, 1) := by decide +kernel
theorem dX5_drain_14 : decode cX5_drain 14 = .ok (.getfield 74, 3) := by decide +kernel
theorem dX5_drain_17 : decode cX5_drain 17 = .ok (.istore_n 2, 1) := by decide +kernel
theorem dX5_drain_18 : decode cX5_drain 18 = .ok (.aload_n 0, 1) := by decide +kernel
theorem dX5_drain_19 : decode cX5_drain 19 = .ok (.getfield 80, 3) := by decide +kernel
theorem dX5_drain_22 : decode cX5_drain 22 = .ok (.ifCond .le 20, 3) := by decide +kernel
theorem dX5_drain_25 : decode cX5_drain 25 = .ok (.aload_n 0, 1) := by decide +kernel
theorem dX5_drain_26 : decode cX5_drain 26 = .ok (.getfield 74, 3) := by decide +kernel
theorem dX5_drain_29 : decode cX5_drain 29 = .ok (.iload_n 2, 1) := by decide +kernel
theorem dX5_drain_30 : decode cX5_drain 30 = .ok (.isub, 1) := by decide +kernel
theorem dX5_drain_31 : decode cX5_drain 31 = .ok (.iload_n 1, 1) := by decide +kernel
theorem dX5_drain_32 : decode cX5_drain 32 = .ok (.if_icmp .ge 10, 3) := by decide +kernel
theorem dX5_drain_35 : decode cX5_drain 35 = .ok (.aload_n 0, 1) := by decide +kernel
theorem dX5_drain_36 : decode cX5_drain 36 = .ok (.invokevirtual 106, 3) := by decide +kernel
theorem dX5_drain_39 : decode cX5_drain 39 = .ok (.goto (-21), 3) := by decide +kernel
theorem dX5_drain_42 : decode cX5_drain 42 = .ok (.aload_n 0, 1) := by decide +kernel
theorem dX5_drain_43 : decode cX5_drain 43 = .ok (.getfield 74, 3) := by decide +kernel
theorem dX5_drain_46 : decode cX5_drain 46 = .ok (.iload_n 2, 1) := by decide +kernel
theorem dX5_drain_47 : decode cX5_drain 47 = .ok (.isub, 1) := by decide +kernel
theorem dX5_drain_48 : decode cX5_drain 48 = .ok (.ireturn, 1) := by decide +kernel
set_option maxRecDepth 20000 in
theorem ggX5_discard_X5_isPage : GoodIn wsX5_discard wsX5_isPage := goodIn_r _ [7, 8, 9, 6, 10] (by decide +kernel) (by decide +kernel)
set_option maxRecDepth 20000 in
theorem gX5_discard_X5_isPage : GoodIn wsX5_discard (va_wsS RX5 126 yX5_isPage wsX5_isPage) := goodIn_app (goodIn_of _ (by decide +kernel)) ggX5_discard_X5_isPage
set_option maxRecDepth 20000 in
theorem ggX5_discard_X5_positionInQueue : GoodIn wsX5_discard wsX5_positionInQueue := goodIn_r _ [14, 15, 16, 22, 23, 24, 25, 26, 27, 28, 29, 30, 31, 32, 33, 34, 35, 36, 37, 38, 39, 40, 41, 42] (by decide +kernel) (by decide +kernel)
set_option maxRecDepth 20000 in
theorem gX5_discard_X5_positionInQueue : GoodIn wsX5_discard (wsV RX5 112 RX5 yX5_positionInQueue wsX5_positionInQueue) := goodIn_app (goodIn_of _ (by decide +kernel)) ggX5_discard_X5_positionInQueue
set_option maxRecDepth 20000 in
theorem ggX5_discard_X5_removeEntry : GoodIn wsX5_discard wsX5_removeEntry := goodIn_r _ [20, 15, 16, 21, 22, 23, 24, 25, 26, 27, 28, 29, 30, 31, 32, 33, 34, 35, 36, 37, 38, 39, 40, 41, 42] (by decide +kernel) (by decide +kernel)
set_option maxRecDepth 20000 in
theorem gX5_discard_X5_removeEntry : GoodIn wsX5_discard (wsV RX5 102 RX5 yX5_removeEntry wsX5_removeEntry) := goodIn_app (goodIn_of _ (by decide +kernel)) ggX5_discard_X5_removeEntry
theorem dX5_discard_0 : decode cX5_discard 0 = .ok (.iload_n 1, 1) := by decide +kernel
theorem dX5_discard_1 : decode cX5_discard 1 = .ok (.invokestatic 126, 3) := by decide +kernel
theorem dX5_discard_4 : decode cX5_discard 4 = .ok (.ifCond .ne 5, 3) := by decide +kernel
theorem dX5_discard_7 : decode cX5_discard 7 = .ok (.iconst (-1), 1) := by decide +kernel
theorem dX5_discard_8 : decode cX5_discard 8 = .ok (.ireturn, 1) := by decide +kernel
theorem dX5_discard_9 : decode cX5_discard 9 = .ok (.aload_n 0, 1) := by decide +kernel
theorem dX5_discard_10 : decode cX5_discard 10 = .ok (.getfield 19, 3) := by decide +kernel
theorem dX5_discard_13 : decode cX5_discard 13 = .ok (.iload_n 1, 1) := by decide +kernel
theorem dX5_discard_14 : decode cX5_discard 14 = .ok (.baload, 1) := by decide +kernel
theorem dX5_discard_15 : decode cX5_discard 15 = .ok (.ifCond .eq 15, 3) := by decide +kernel
theorem dX5_discard_18 : decode cX5_discard 18 = .ok (.aload_n 0, 1) := by decide +kernel
theorem dX5_discard_19 : decode cX5_discard 19 = .ok (.getfield 16, 3) := by decide +kernel
theorem dX5_discard_22 : decode cX5_discard 22 = .ok (.iload_n 1, 1) := by decide +kernel
theorem dX5_discard_23 : decode cX5_discard 23 = .ok (.iaload, 1) := by decide +kernel
theorem dX5_discard_24 : decode cX5_discard 24 = .ok (.ifCond .le 6, 3) := by decide +kernel
theorem dX5_discard_27 : decode cX5_discard 27 = .ok (.bipush (-7), 2) := by decide +kernel
theorem dX5_discard_29 : decode cX5_discard 29 = .ok (.ireturn, 1) := by decide +kernel
theorem dX5_discard_30 : decode cX5_discard 30 = .ok (.aload_n 0, 1) := by decide +kernel
theorem dX5_discard_31 : decode cX5_discard 31 = .ok (.iload_n 1, 1) := by decide +kernel
theorem dX5_discard_32 : decode cX5_discard 32 = .ok (.invokevirtual 112, 3) := by decide +kernel
theorem dX5_discard_35 : decode cX5_discard 35 = .ok (.istore_n 2, 1) := by decide +kernel
theorem dX5_discard_36 : decode cX5_discard 36 = .ok (.aload_n 0, 1) := by decide +kernel
theorem dX5_discard_37 : decode cX5_discard 37 = .ok (.getfield 19, 3) := by decide +kernel
theorem dX5_discard_40 : decode cX5_discard 40 = .ok (.iload_n 1, 1) := by decide +kernel
theorem dX5_discard_41 : decode cX5_discard 41 = .ok (.baload, 1) := by decide +kernel
theorem dX5_discard_42 : decode cX5_discard 42 = .ok (.ifCond .ne 9, 3) := by decide +kernel
theorem dX5_discard_45 : decode cX5_discard 45 = .ok (.iload_n 2, 1) := by decide +kernel
theorem dX5_discard_46 : decode cX5_discard 46 = .ok (.bipush (-9), 2) := by decide +kernel
theorem dX5_discard_48 : decode cX5_discard 48 = .ok (.if_icmp .eq 7, 3) := by decide +kernel
theorem dX5_discard_51 : decode cX5_discard 51 = .ok (.iconst 1, 1) := by decide +kernel
theorem dX5_discard_52 : decode cX5_discard 52 = .ok (.goto 4, 3) := by decide +kernel
theorem dX5_discard_55 : decode cX5_discard 55 = .ok (.iconst 0, 1) := by decide +kernel
theorem dX5_discard_56 : decode cX5_discard 56 = .ok (.istore_n 3, 1) := by decide +kernel
theorem dX5_discard_57 : decode cX5_discard 57 = .ok (.aload_n 0, 1) := by decide +kernel
theorem dX5_discard_58 : decode cX5_discard 58 = .ok (.getfield 19, 3) := by decide +kernel
theorem dX5_discard_61 : decode cX5_discard 61 = .ok (.iload_n 1, 1) := by decide +kernel
theorem dX5_discard_62 : decode cX5_discard 62 = .ok (.iconst 0, 1) := by decide +kernel
theorem dX5_discard_63 : decode cX5_discard 63 = .ok (.bastore, 1) := by decide +kernel
theorem dX5_discard_64 : decode cX5_discard 64 = .ok (.aload_n 0, 1) := by decide +kernel
theorem dX5_discard_65 : decode cX5_discard 65 = .ok (.getfield 29, 3) := by decide +kernel
theorem dX5_discard_68 : decode cX5_discard 68 = .ok (.iload_n 1, 1) := by decide +kernel
theorem dX5_discard_69 : decode cX5_discard 69 = .ok (.iconst 0, 1) := by decide +kernel
theorem dX5_discard_70 : decode cX5_discard 70 = .ok (.iastore, 1) := by decide +kernel
theorem dX5_discard_71 : decode cX5_discard 71 = .ok (.iload_n 2, 1) := by decide +kernel
theorem dX5_discard_72 : decode cX5_discard 72 = .ok (.bipush (-9), 2) := by decide +kernel
theorem dX5_discard_74 : decode cX5_discard 74 = .ok (.if_icmp .eq 8, 3) := by decide +kernel
theorem dX5_discard_77 : decode cX5_discard 77 = .ok (.aload_n 0, 1) := by decide +kernel
theorem dX5_discard_78 : decode cX5_discard 78 = .ok (.iload_n 2, 1) := by decide +kernel
theorem dX5_discard_79 : decode cX5_discard 79 = .ok (.invokevirtual 102, 3) := by decide +kernel
theorem dX5_discard_82 : decode cX5_discard 82 = .ok (.iload_n 3, 1) := by decide +kernel
theorem dX5_discard_83 : decode cX5_discard 83 = .ok (.ifCond .eq 7, 3) := by decide +kernel
theorem dX5_discard_86 : decode cX5_discard 86 = .ok (.iconst 1, 1) := by decide +kernel
theorem dX5_discard_87 : decode cX5_discard 87 = .ok (.goto 4, 3) := by decide +kernel
theorem dX5_discard_90 : decode cX5_discard 90 = .ok (.iconst 0, 1) := by decide +kernel
theorem dX5_discard_91 : decode cX5_discard 91 = .ok (.ireturn, 1) := by decide +kernel
set_option maxRecDepth 20000 in
theorem ggX5_isResident_X5_isPage : GoodIn wsX5_isResident wsX5_isPage := goodIn_r _ [5, 6, 7, 4, 8] (by decide +kernel) (by decide +kernel)
set_option maxRecDepth 20000 in
theorem gX5_isResident_X5_isPage : GoodIn wsX5_isResident (va_wsS RX5 126 yX5_isPage wsX5_isPage) := goodIn_app (goodIn_of _ (by decide +kernel)) ggX5_isResident_X5_isPage
theorem dX5_isResident_0 : decode cX5_isResident 0 = .ok (.iload_n 1, 1) := by decide +kernel
theorem dX5_isResident_1 : decode cX5_isResident 1 = .ok (.invokestatic 126, 3) := by decide +kernel
theorem dX5_isResident_4 : decode cX5_isResident 4 = .ok (.ifCond .ne 5, 3) := by decide +kernel
theorem dX5_isResident_7 : decode cX5_isResident 7 = .ok (.iconst (-1), 1) := by decide +kernel
theorem dX5_isResident_8 : decode cX5_isResident 8 = .ok (.ireturn, 1) := by decide +kernel
theorem dX5_isResident_9 : decode cX5_isResident 9 = .ok (.aload_n 0, 1) := by decide +kernel
theorem dX5_isResident_10 : decode cX5_isResident 10 = .ok (.getfield 19, 3) := by decide +kernel
theorem dX5_isResident_13 : decode cX5_isResident 13 = .ok (.iload_n 1, 1) := by decide +kernel
theorem dX5_isResident_14 : decode cX5_isResident 14 = .ok (.baload, 1) := by decide +kernel
theorem dX5_isResident_15 : decode cX5_isResident 15 = .ok (.ifCond .eq 7, 3) := by decide +kernel
theorem dX5_isResident_18 : decode cX5_isResident 18 = .ok (.iconst 1, 1) := by decide +kernel
theorem dX5_isResident_19 : decode cX5_isResident 19 = .ok (.goto 4, 3) := by decide +kernel
theorem dX5_isResident_22 : decode cX5_isResident 22 = .ok (.iconst 0, 1) := by decide +kernel
theorem dX5_isResident_23 : decode cX5_isResident 23 = .ok (.ireturn, 1) := by decide +kernel
set_option maxRecDepth 20000 in
theorem ggX5_isDirty_X5_isPage : GoodIn wsX5_isDirty wsX5_isPage := goodIn_r _ [6, 7, 8, 5, 9] (by decide +kernel) (by decide +kernel)
set_option maxRecDepth 20000 in
theorem gX5_isDirty_X5_isPage : GoodIn wsX5_isDirty (va_wsS RX5 126 yX5_isPage wsX5_isPage) := goodIn_app (goodIn_of _ (by decide +kernel)) ggX5_isDirty_X5_isPage
theorem dX5_isDirty_0 : decode cX5_isDirty 0 = .ok (.iload_n 1, 1) := by decide +kernel
theorem dX5_isDirty_1 : decode cX5_isDirty 1 = .ok (.invokestatic 126, 3) := by decide +kernel
theorem dX5_isDirty_4 : decode cX5_isDirty 4 = .ok (.ifCond .ne 5, 3) := by decide +kernel
theorem dX5_isDirty_7 : decode cX5_isDirty 7 = .ok (.iconst (-1), 1) := by decide +kernel
theorem dX5_isDirty_8 : decode cX5_isDirty 8 = .ok (.ireturn, 1) := by decide +kernel
theorem dX5_isDirty_9 : decode cX5_isDirty 9 = .ok (.aload_n 0, 1) := by decide +kernel
theorem dX5_isDirty_10 : decode cX5_isDirty 10 = .ok (.getfield 19, 3) := by decide +kernel
theorem dX5_isDirty_13 : decode cX5_isDirty 13 = .ok (.iload_n 1, 1) := by decide +kernel
theorem dX5_isDirty_14 : decode cX5_isDirty 14 = .ok (.baload, 1) := by decide +kernel
theorem dX5_isDirty_15 : decode cX5_isDirty 15 = .ok (.ifCond .ne 6, 3) := by decide +kernel
theorem dX5_isDirty_18 : decode cX5_isDirty 18 = .ok (.bipush (-4), 2) := by decide +kernel
theorem dX5_isDirty_20 : decode cX5_isDirty 20 = .ok (.ireturn, 1) := by decide +kernel
theorem dX5_isDirty_21 : decode cX5_isDirty 21 = .ok (.aload_n 0, 1) := by decide +kernel
theorem dX5_isDirty_22 : decode cX5_isDirty 22 = .ok (.getfield 23, 3) := by decide +kernel
theorem dX5_isDirty_25 : decode cX5_isDirty 25 = .ok (.iload_n 1, 1) := by decide +kernel
theorem dX5_isDirty_26 : decode cX5_isDirty 26 = .ok (.baload, 1) := by decide +kernel
theorem dX5_isDirty_27 : decode cX5_isDirty 27 = .ok (.ifCond .eq 7, 3) := by decide +kernel
theorem dX5_isDirty_30 : decode cX5_isDirty 30 = .ok (.iconst 1, 1) := by decide +kernel
theorem dX5_isDirty_31 : decode cX5_isDirty 31 = .ok (.goto 4, 3) := by decide +kernel
theorem dX5_isDirty_34 : decode cX5_isDirty 34 = .ok (.iconst 0, 1) := by decide +kernel
theorem dX5_isDirty_35 : decode cX5_isDirty 35 = .ok (.ireturn, 1) := by decide +kernel
set_option maxRecDepth 20000 in
theorem ggX5_pinCount_X5_isPage : GoodIn wsX5_pinCount wsX5_isPage := goodIn_r _ [6, 7, 8, 5, 9] (by decide +kernel) (by decide +kernel)
set_option maxRecDepth 20000 in
theorem gX5_pinCount_X5_isPage : GoodIn wsX5_pinCount (va_wsS RX5 126 yX5_isPage wsX5_isPage) := goodIn_app (goodIn_of _ (by decide +kernel)) ggX5_pinCount_X5_isPage
theorem dX5_pinCount_0 : decode cX5_pinCount 0 = .ok (.iload_n 1, 1) := by decide +kernel
theorem dX5_pinCount_1 : decode cX5_pinCount 1 = .ok (.invokestatic 126, 3) := by decide +kernel
theorem dX5_pinCount_4 : decode cX5_pinCount 4 = .ok (.ifCond .ne 5, 3) := by decide +kernel
theorem dX5_pinCount_7 : decode cX5_pinCount 7 = .ok (.iconst (-1), 1) := by decide +kernel
theorem dX5_pinCount_8 : decode cX5_pinCount 8 = .ok (.ireturn, 1) := by decide +kernel
theorem dX5_pinCount_9 : decode cX5_pinCount 9 = .ok (.aload_n 0, 1) := by decide +kernel
theorem dX5_pinCount_10 : decode cX5_pinCount 10 = .ok (.getfield 19, 3) := by decide +kernel
theorem dX5_pinCount_13 : decode cX5_pinCount 13 = .ok (.iload_n 1, 1) := by decide +kernel
theorem dX5_pinCount_14 : decode cX5_pinCount 14 = .ok (.baload, 1) := by decide +kernel
theorem dX5_pinCount_15 : decode cX5_pinCount 15 = .ok (.ifCond .eq 12, 3) := by decide +kernel
theorem dX5_pinCount_18 : decode cX5_pinCount 18 = .ok (.aload_n 0, 1) := by decide +kernel
theorem dX5_pinCount_19 : decode cX5_pinCount 19 = .ok (.getfield 16, 3) := by decide +kernel
theorem dX5_pinCount_22 : decode cX5_pinCount 22 = .ok (.iload_n 1, 1) := by decide +kernel
theorem dX5_pinCount_23 : decode cX5_pinCount 23 = .ok (.iaload, 1) := by decide +kernel
theorem dX5_pinCount_24 : decode cX5_pinCount 24 = .ok (.goto 5, 3) := by decide +kernel
theorem dX5_pinCount_27 : decode cX5_pinCount 27 = .ok (.bipush (-4), 2) := by decide +kernel
theorem dX5_pinCount_29 : decode cX5_pinCount 29 = .ok (.ireturn, 1) := by decide +kernel
set_option maxRecDepth 20000 in
theorem ggX5_referenceTime_X5_isPage : GoodIn wsX5_referenceTime wsX5_isPage := goodIn_r _ [6, 7, 8, 5, 9] (by decide +kernel) (by decide +kernel)
set_option maxRecDepth 20000 in
theorem gX5_referenceTime_X5_isPage : GoodIn wsX5_referenceTime (va_wsS RX5 126 yX5_isPage wsX5_isPage) := goodIn_app (goodIn_of _ (by decide +kernel)) ggX5_referenceTime_X5_isPage
set_option maxRecDepth 20000 in
theorem ggX5_referenceTime_X5_isFrom : GoodIn wsX5_referenceTime wsX5_isFrom := goodIn_r _ [9] (by decide +kernel) (by decide +kernel)
set_option maxRecDepth 20000 in
theorem gX5_referenceTime_X5_isFrom : GoodIn wsX5_referenceTime (va_wsS RX5 42 yX5_isFrom wsX5_isFrom) := goodIn_app (goodIn_of _ (by decide +kernel)) ggX5_referenceTime_X5_isFrom
set_option maxRecDepth 20000 in
theorem ggX5_referenceTime_X5_time : GoodIn wsX5_referenceTime wsX5_time := goodIn_r _ [13, 14, 15, 16, 17, 18, 19, 20, 21, 22, 23, 24, 25, 26, 27, 28, 29, 30, 31, 32, 33, 34, 35] (by decide +kernel) (by decide +kernel)
set_option maxRecDepth 20000 in
theorem gX5_referenceTime_X5_time : GoodIn wsX5_referenceTime (wsV RX5 83 RX5 yX5_time wsX5_time) := goodIn_app (goodIn_of _ (by decide +kernel)) ggX5_referenceTime_X5_time
theorem dX5_referenceTime_0 : decode cX5_referenceTime 0 = .ok (.iload_n 1, 1) := by decide +kernel
theorem dX5_referenceTime_1 : decode cX5_referenceTime 1 = .ok (.invokestatic 126, 3) := by decide +kernel
theorem dX5_referenceTime_4 : decode cX5_referenceTime 4 = .ok (.ifCond .ne 5, 3) := by decide +kernel
theorem dX5_referenceTime_7 : decode cX5_referenceTime 7 = .ok (.iconst (-1), 1) := by decide +kernel
theorem dX5_referenceTime_8 : decode cX5_referenceTime 8 = .ok (.ireturn, 1) := by decide +kernel
theorem dX5_referenceTime_9 : decode cX5_referenceTime 9 = .ok (.iload_n 2, 1) := by decide +kernel
theorem dX5_referenceTime_10 : decode cX5_referenceTime 10 = .ok (.iconst 1, 1) := by decide +kernel
theorem dX5_referenceTime_11 : decode cX5_referenceTime 11 = .ok (.aload_n 0, 1) := by decide +kernel
theorem dX5_referenceTime_12 : decode cX5_referenceTime 12 = .ok (.getfield 50, 3) := by decide +kernel
theorem dX5_referenceTime_15 : decode cX5_referenceTime 15 = .ok (.invokestatic 42, 3) := by decide +kernel
theorem dX5_referenceTime_18 : decode cX5_referenceTime 18 = .ok (.ifCond .ne 6, 3) := by decide +kernel
theorem dX5_referenceTime_21 : decode cX5_referenceTime 21 = .ok (.bipush (-8), 2) := by decide +kernel
theorem dX5_referenceTime_23 : decode cX5_referenceTime 23 = .ok (.ireturn, 1) := by decide +kernel
theorem dX5_referenceTime_24 : decode cX5_referenceTime 24 = .ok (.iload_n 2, 1) := by decide +kernel
theorem dX5_referenceTime_25 : decode cX5_referenceTime 25 = .ok (.aload_n 0, 1) := by decide +kernel
theorem dX5_referenceTime_26 : decode cX5_referenceTime 26 = .ok (.getfield 29, 3) := by decide +kernel
theorem dX5_referenceTime_29 : decode cX5_referenceTime 29 = .ok (.iload_n 1, 1) := by decide +kernel
theorem dX5_referenceTime_30 : decode cX5_referenceTime 30 = .ok (.iaload, 1) := by decide +kernel
theorem dX5_referenceTime_31 : decode cX5_referenceTime 31 = .ok (.if_icmp .gt 12, 3) := by decide +kernel
theorem dX5_referenceTime_34 : decode cX5_referenceTime 34 = .ok (.aload_n 0, 1) := by decide +kernel
theorem dX5_referenceTime_35 : decode cX5_referenceTime 35 = .ok (.iload_n 1, 1) := by decide +kernel
theorem dX5_referenceTime_36 : decode cX5_referenceTime 36 = .ok (.iload_n 2, 1) := by decide +kernel
theorem dX5_referenceTime_37 : decode cX5_referenceTime 37 = .ok (.invokevirtual 83, 3) := by decide +kernel
theorem dX5_referenceTime_40 : decode cX5_referenceTime 40 = .ok (.goto 5, 3) := by decide +kernel
theorem dX5_referenceTime_43 : decode cX5_referenceTime 43 = .ok (.bipush (-9), 2) := by decide +kernel
theorem dX5_referenceTime_45 : decode cX5_referenceTime 45 = .ok (.ireturn, 1) := by decide +kernel
set_option maxRecDepth 20000 in
theorem ggX5_backwardKDistance_X5_isPage : GoodIn wsX5_backwardKDistance wsX5_isPage := goodIn_r _ [7, 8, 9, 6, 10] (by decide +kernel) (by decide +kernel)
set_option maxRecDepth 20000 in
theorem gX5_backwardKDistance_X5_isPage : GoodIn wsX5_backwardKDistance (va_wsS RX5 126 yX5_isPage wsX5_isPage) := goodIn_app (goodIn_of _ (by decide +kernel)) ggX5_backwardKDistance_X5_isPage
set_option maxRecDepth 20000 in
theorem ggX5_backwardKDistance_X5_time : GoodIn wsX5_backwardKDistance wsX5_time := goodIn_r _ [14, 15, 16, 17, 18, 19, 20, 21, 22, 23, 24, 25, 26, 27, 28, 29, 30, 31, 32, 33, 34, 35, 36] (by decide +kernel) (by decide +kernel)
set_option maxRecDepth 20000 in
theorem gX5_backwardKDistance_X5_time : GoodIn wsX5_backwardKDistance (wsV RX5 83 RX5 yX5_time wsX5_time) := goodIn_app (goodIn_of _ (by decide +kernel)) ggX5_backwardKDistance_X5_time
theorem dX5_backwardKDistance_0 : decode cX5_backwardKDistance 0 = .ok (.iload_n 1, 1) := by decide +kernel
theorem dX5_backwardKDistance_1 : decode cX5_backwardKDistance 1 = .ok (.invokestatic 126, 3) := by decide +kernel
theorem dX5_backwardKDistance_4 : decode cX5_backwardKDistance 4 = .ok (.ifCond .ne 5, 3) := by decide +kernel
theorem dX5_backwardKDistance_7 : decode cX5_backwardKDistance 7 = .ok (.iconst (-1), 1) := by decide +kernel
theorem dX5_backwardKDistance_8 : decode cX5_backwardKDistance 8 = .ok (.ireturn, 1) := by decide +kernel
theorem dX5_backwardKDistance_9 : decode cX5_backwardKDistance 9 = .ok (.aload_n 0, 1) := by decide +kernel
theorem dX5_backwardKDistance_10 : decode cX5_backwardKDistance 10 = .ok (.getfield 29, 3) := by decide +kernel
theorem dX5_backwardKDistance_13 : decode cX5_backwardKDistance 13 = .ok (.iload_n 1, 1) := by decide +kernel
theorem dX5_backwardKDistance_14 : decode cX5_backwardKDistance 14 = .ok (.iaload, 1) := by decide +kernel
theorem dX5_backwardKDistance_15 : decode cX5_backwardKDistance 15 = .ok (.aload_n 0, 1) := by decide +kernel
theorem dX5_backwardKDistance_16 : decode cX5_backwardKDistance 16 = .ok (.getfield 50, 3) := by decide +kernel
theorem dX5_backwardKDistance_19 : decode cX5_backwardKDistance 19 = .ok (.if_icmp .ge 8, 3) := by decide +kernel
theorem dX5_backwardKDistance_22 : decode cX5_backwardKDistance 22 = .ok (.bipush (-9), 2) := by decide +kernel
theorem dX5_backwardKDistance_24 : decode cX5_backwardKDistance 24 = .ok (.goto 17, 3) := by decide +kernel
theorem dX5_backwardKDistance_27 : decode cX5_backwardKDistance 27 = .ok (.aload_n 0, 1) := by decide +kernel
theorem dX5_backwardKDistance_28 : decode cX5_backwardKDistance 28 = .ok (.getfield 59, 3) := by decide +kernel
theorem dX5_backwardKDistance_31 : decode cX5_backwardKDistance 31 = .ok (.aload_n 0, 1) := by decide +kernel
theorem dX5_backwardKDistance_32 : decode cX5_backwardKDistance 32 = .ok (.iload_n 1, 1) := by decide +kernel
theorem dX5_backwardKDistance_33 : decode cX5_backwardKDistance 33 = .ok (.aload_n 0, 1) := by decide +kernel
theorem dX5_backwardKDistance_34 : decode cX5_backwardKDistance 34 = .ok (.getfield 50, 3) := by decide +kernel
theorem dX5_backwardKDistance_37 : decode cX5_backwardKDistance 37 = .ok (.invokevirtual 83, 3) := by decide +kernel
theorem dX5_backwardKDistance_40 : decode cX5_backwardKDistance 40 = .ok (.isub, 1) := by decide +kernel
theorem dX5_backwardKDistance_41 : decode cX5_backwardKDistance 41 = .ok (.ireturn, 1) := by decide +kernel
set_option maxRecDepth 20000 in
theorem ggX5_diskValue_X5_isPage : GoodIn wsX5_diskValue wsX5_isPage := goodIn_r _ [5, 6, 7, 4, 8] (by decide +kernel) (by decide +kernel)
set_option maxRecDepth 20000 in
theorem gX5_diskValue_X5_isPage : GoodIn wsX5_diskValue (va_wsS RX5 126 yX5_isPage wsX5_isPage) := goodIn_app (goodIn_of _ (by decide +kernel)) ggX5_diskValue_X5_isPage
theorem dX5_diskValue_0 : decode cX5_diskValue 0 = .ok (.iload_n 1, 1) := by decide +kernel
theorem dX5_diskValue_1 : decode cX5_diskValue 1 = .ok (.invokestatic 126, 3) := by decide +kernel
theorem dX5_diskValue_4 : decode cX5_diskValue 4 = .ok (.ifCond .eq 12, 3) := by decide +kernel
theorem dX5_diskValue_7 : decode cX5_diskValue 7 = .ok (.aload_n 0, 1) := by decide +kernel
theorem dX5_diskValue_8 : decode cX5_diskValue 8 = .ok (.getfield 7, 3) := by decide +kernel
theorem dX5_diskValue_11 : decode cX5_diskValue 11 = .ok (.iload_n 1, 1) := by decide +kernel
theorem dX5_diskValue_12 : decode cX5_diskValue 12 = .ok (.iaload, 1) := by decide +kernel
theorem dX5_diskValue_13 : decode cX5_diskValue 13 = .ok (.goto 4, 3) := by decide +kernel
theorem dX5_diskValue_16 : decode cX5_diskValue 16 = .ok (.iconst (-1), 1) := by decide +kernel
theorem dX5_diskValue_17 : decode cX5_diskValue 17 = .ok (.ireturn, 1) := by decide +kernel
theorem dX5_residentCount_0 : decode cX5_residentCount 0 = .ok (.iconst 0, 1) := by decide +kernel
theorem dX5_residentCount_1 : decode cX5_residentCount 1 = .ok (.istore_n 1, 1) := by decide +kernel
theorem dX5_residentCount_2 : decode cX5_residentCount 2 = .ok (.iconst 0, 1) := by decide +kernel
theorem dX5_residentCount_3 : decode cX5_residentCount 3 = .ok (.istore_n 2, 1) := by decide +kernel
theorem dX5_residentCount_4 : decode cX5_residentCount 4 = .ok (.iload_n 2, 1) := by decide +kernel
theorem dX5_residentCount_5 : decode cX5_residentCount 5 = .ok (.bipush 64, 2) := by decide +kernel
theorem dX5_residentCount_7 : decode cX5_residentCount 7 = .ok (.if_icmp .ge 21, 3) := by decide +kernel
theorem dX5_residentCount_10 : decode cX5_residentCount 10 = .ok (.aload_n 0, 1) := by decide +kernel
theorem dX5_residentCount_11 : decode cX5_residentCount 11 = .ok (.getfield 19, 3) := by decide +kernel
theorem dX5_residentCount_14 : decode cX5_residentCount 14 = .ok (.iload_n 2, 1) := by decide +kernel
theorem dX5_residentCount_15 : decode cX5_residentCount 15 = .ok (.baload, 1) := by decide +kernel
theorem dX5_residentCount_16 : decode cX5_residentCount 16 = .ok (.ifCond .eq 6, 3) := by decide +kernel
theorem dX5_residentCount_19 : decode cX5_residentCount 19 = .ok (.iinc 1 1, 3) := by decide +kernel
theorem dX5_residentCount_22 : decode cX5_residentCount 22 = .ok (.iinc 2 1, 3) := by decide +kernel
theorem dX5_residentCount_25 : decode cX5_residentCount 25 = .ok (.goto (-21), 3) := by decide +kernel
theorem dX5_residentCount_28 : decode cX5_residentCount 28 = .ok (.iload_n 1, 1) := by decide +kernel
theorem dX5_residentCount_29 : decode cX5_residentCount 29 = .ok (.ireturn, 1) := by decide +kernel
theorem dX5_residentPage_0 : decode cX5_residentPage 0 = .ok (.iload_n 1, 1) := by decide +kernel
theorem dX5_residentPage_1 : decode cX5_residentPage 1 = .ok (.istore_n 2, 1) := by decide +kernel
theorem dX5_residentPage_2 : decode cX5_residentPage 2 = .ok (.iconst 0, 1) := by decide +kernel
theorem dX5_residentPage_3 : decode cX5_residentPage 3 = .ok (.istore_n 3, 1) := by decide +kernel
theorem dX5_residentPage_4 : decode cX5_residentPage 4 = .ok (.iload_n 3, 1) := by decide +kernel
theorem dX5_residentPage_5 : decode cX5_residentPage 5 = .ok (.bipush 64, 2) := by decide +kernel
theorem dX5_residentPage_7 : decode cX5_residentPage 7 = .ok (.if_icmp .ge 34, 3) := by decide +kernel
theorem dX5_residentPage_10 : decode cX5_residentPage 10 = .ok (.iload_n 2, 1) := by decide +kernel
theorem dX5_residentPage_11 : decode cX5_residentPage 11 = .ok (.ifCond .lt 30, 3) := by decide +kernel
theorem dX5_residentPage_14 : decode cX5_residentPage 14 = .ok (.aload_n 0, 1) := by decide +kernel
theorem dX5_residentPage_15 : decode cX5_residentPage 15 = .ok (.getfield 19, 3) := by decide +kernel
theorem dX5_residentPage_18 : decode cX5_residentPage 18 = .ok (.iload_n 3, 1) := by decide +kernel
theorem dX5_residentPage_19 : decode cX5_residentPage 19 = .ok (.baload, 1) := by decide +kernel
theorem dX5_residentPage_20 : decode cX5_residentPage 20 = .ok (.ifCond .ne 6, 3) := by decide +kernel
theorem dX5_residentPage_23 : decode cX5_residentPage 23 = .ok (.goto 12, 3) := by decide +kernel
theorem dX5_residentPage_26 : decode cX5_residentPage 26 = .ok (.iload_n 2, 1) := by decide +kernel
theorem dX5_residentPage_27 : decode cX5_residentPage 27 = .ok (.ifCond .ne 5, 3) := by decide +kernel
theorem dX5_residentPage_30 : decode cX5_residentPage 30 = .ok (.iload_n 3, 1) := by decide +kernel
theorem dX5_residentPage_31 : decode cX5_residentPage 31 = .ok (.ireturn, 1) := by decide +kernel
theorem dX5_residentPage_32 : decode cX5_residentPage 32 = .ok (.iinc 2 (-1), 3) := by decide +kernel
theorem dX5_residentPage_35 : decode cX5_residentPage 35 = .ok (.iinc 3 1, 3) := by decide +kernel
theorem dX5_residentPage_38 : decode cX5_residentPage 38 = .ok (.goto (-34), 3) := by decide +kernel
theorem dX5_residentPage_41 : decode cX5_residentPage 41 = .ok (.bipush (-9), 2) := by decide +kernel
theorem dX5_residentPage_43 : decode cX5_residentPage 43 = .ok (.ireturn, 1) := by decide +kernel
set_option maxRecDepth 20000 in
theorem ggX5_isInQueue_X5_isFrom : GoodIn wsX5_isInQueue wsX5_isFrom := goodIn_r _ [5] (by decide +kernel) (by decide +kernel)
set_option maxRecDepth 20000 in
theorem gX5_isInQueue_X5_isFrom : GoodIn wsX5_isInQueue (va_wsS RX5 42 yX5_isFrom wsX5_isFrom) := goodIn_app (goodIn_of _ (by decide +kernel)) ggX5_isInQueue_X5_isFrom
theorem dX5_isInQueue_0 : decode cX5_isInQueue 0 = .ok (.iload_n 1, 1) := by decide +kernel
theorem dX5_isInQueue_1 : decode cX5_isInQueue 1 = .ok (.iconst 0, 1) := by decide +kernel
theorem dX5_isInQueue_2 : decode cX5_isInQueue 2 = .ok (.aload_n 0, 1) := by decide +kernel
theorem dX5_isInQueue_3 : decode cX5_isInQueue 3 = .ok (.getfield 80, 3) := by decide +kernel
theorem dX5_isInQueue_6 : decode cX5_isInQueue 6 = .ok (.iconst 1, 1) := by decide +kernel
theorem dX5_isInQueue_7 : decode cX5_isInQueue 7 = .ok (.isub, 1) := by decide +kernel
theorem dX5_isInQueue_8 : decode cX5_isInQueue 8 = .ok (.invokestatic 42, 3) := by decide +kernel
theorem dX5_isInQueue_11 : decode cX5_isInQueue 11 = .ok (.ireturn, 1) := by decide +kernel
theorem dX5_queueSize_0 : decode cX5_queueSize 0 = .ok (.aload_n 0, 1) := by decide +kernel
theorem dX5_queueSize_1 : decode cX5_queueSize 1 = .ok (.getfield 80, 3) := by decide +kernel
theorem dX5_queueSize_4 : decode cX5_queueSize 4 = .ok (.ireturn, 1) := by decide +kernel
set_option maxRecDepth 20000 in
theorem ggX5_queuedPage_X5_isInQueue : GoodIn wsX5_queuedPage wsX5_isInQueue := goodIn_r _ [6, 7, 8, 9, 5, 10, 11, 12, 13, 14, 15, 16, 17, 18, 19, 20, 21, 22, 23, 24, 25, 26, 27, 28, 29, 30, 31] (by decide +kernel) (by decide +kernel)
set_option maxRecDepth 20000 in
theorem gX5_queuedPage_X5_isInQueue : GoodIn wsX5_queuedPage (wsV RX5 139 RX5 yX5_isInQueue wsX5_isInQueue) := goodIn_app (goodIn_of _ (by decide +kernel)) ggX5_queuedPage_X5_isInQueue
theorem dX5_queuedPage_0 : decode cX5_queuedPage 0 = .ok (.aload_n 0, 1) := by decide +kernel
theorem dX5_queuedPage_1 : decode cX5_queuedPage 1 = .ok (.iload_n 1, 1) := by decide +kernel
theorem dX5_queuedPage_2 : decode cX5_queuedPage 2 = .ok (.invokevirtual 139, 3) := by decide +kernel
theorem dX5_queuedPage_5 : decode cX5_queuedPage 5 = .ok (.ifCond .eq 12, 3) := by decide +kernel
theorem dX5_queuedPage_8 : decode cX5_queuedPage 8 = .ok (.aload_n 0, 1) := by decide +kernel
theorem dX5_queuedPage_9 : decode cX5_queuedPage 9 = .ok (.getfield 32, 3) := by decide +kernel
theorem dX5_queuedPage_12 : decode cX5_queuedPage 12 = .ok (.iload_n 1, 1) := by decide +kernel
theorem dX5_queuedPage_13 : decode cX5_queuedPage 13 = .ok (.iaload, 1) := by decide +kernel
theorem dX5_queuedPage_14 : decode cX5_queuedPage 14 = .ok (.goto 5, 3) := by decide +kernel
theorem dX5_queuedPage_17 : decode cX5_queuedPage 17 = .ok (.bipush (-9), 2) := by decide +kernel
theorem dX5_queuedPage_19 : decode cX5_queuedPage 19 = .ok (.ireturn, 1) := by decide +kernel
set_option maxRecDepth 20000 in
theorem ggX5_queuedValue_X5_isInQueue : GoodIn wsX5_queuedValue wsX5_isInQueue := goodIn_r _ [6, 7, 8, 9, 5, 10, 11, 12, 13, 14, 15, 16, 17, 18, 19, 20, 21, 22, 23, 24, 25, 26, 27, 28, 29, 30, 31] (by decide +kernel) (by decide +kernel)
set_option maxRecDepth 20000 in
theorem gX5_queuedValue_X5_isInQueue : GoodIn wsX5_queuedValue (wsV RX5 139 RX5 yX5_isInQueue wsX5_isInQueue) := goodIn_app (goodIn_of _ (by decide +kernel)) ggX5_queuedValue_X5_isInQueue
theorem dX5_queuedValue_0 : decode cX5_queuedValue 0 = .ok (.aload_n 0, 1) := by decide +kernel
theorem dX5_queuedValue_1 : decode cX5_queuedValue 1 = .ok (.iload_n 1, 1) := by decide +kernel
theorem dX5_queuedValue_2 : decode cX5_queuedValue 2 = .ok (.invokevirtual 139, 3) := by decide +kernel
theorem dX5_queuedValue_5 : decode cX5_queuedValue 5 = .ok (.ifCond .eq 12, 3) := by decide +kernel
theorem dX5_queuedValue_8 : decode cX5_queuedValue 8 = .ok (.aload_n 0, 1) := by decide +kernel
theorem dX5_queuedValue_9 : decode cX5_queuedValue 9 = .ok (.getfield 35, 3) := by decide +kernel
theorem dX5_queuedValue_12 : decode cX5_queuedValue 12 = .ok (.iload_n 1, 1) := by decide +kernel
theorem dX5_queuedValue_13 : decode cX5_queuedValue 13 = .ok (.iaload, 1) := by decide +kernel
theorem dX5_queuedValue_14 : decode cX5_queuedValue 14 = .ok (.goto 5, 3) := by decide +kernel
theorem dX5_queuedValue_17 : decode cX5_queuedValue 17 = .ok (.bipush (-9), 2) := by decide +kernel
theorem dX5_queuedValue_19 : decode cX5_queuedValue 19 = .ok (.ireturn, 1) := by decide +kernel
theorem dX5_clock_0 : decode cX5_clock 0 = .ok (.aload_n 0, 1) := by decide +kernel
theorem dX5_clock_1 : decode cX5_clock 1 = .ok (.getfield 59, 3) := by decide +kernel
theorem dX5_clock_4 : decode cX5_clock 4 = .ok (.ireturn, 1) := by decide +kernel
theorem dX5_hits_0 : decode cX5_hits 0 = .ok (.aload_n 0, 1) := by decide +kernel
theorem dX5_hits_1 : decode cX5_hits 1 = .ok (.getfield 62, 3) := by decide +kernel
theorem dX5_hits_4 : decode cX5_hits 4 = .ok (.ireturn, 1) := by decide +kernel
theorem dX5_misses_0 : decode cX5_misses 0 = .ok (.aload_n 0, 1) := by decide +kernel
theorem dX5_misses_1 : decode cX5_misses 1 = .ok (.getfield 65, 3) := by decide +kernel
theorem dX5_misses_4 : decode cX5_misses 4 = .ok (.ireturn, 1) := by decide +kernel
theorem dX5_evictions_0 : decode cX5_evictions 0 = .ok (.aload_n 0, 1) := by decide +kernel
theorem dX5_evictions_1 : decode cX5_evictions 1 = .ok (.getfield 68, 3) := by decide +kernel
theorem dX5_evictions_4 : decode cX5_evictions 4 = .ok (.ireturn, 1) := by decide +kernel
theorem dX5_diskReads_0 : decode cX5_diskReads 0 = .ok (.aload_n 0, 1) := by decide +kernel
theorem dX5_diskReads_1 : decode cX5_diskReads 1 = .ok (.getfield 71, 3) := by decide +kernel
theorem dX5_diskReads_4 : decode cX5_diskReads 4 = .ok (.ireturn, 1) := by decide +kernel
theorem dX5_diskWrites_0 : decode cX5_diskWrites 0 = .ok (.aload_n 0, 1) := by decide +kernel
theorem dX5_diskWrites_1 : decode cX5_diskWrites 1 = .ok (.getfield 74, 3) := by decide +kernel
theorem dX5_diskWrites_4 : decode cX5_diskWrites 4 = .ok (.ireturn, 1) := by decide +kernel
theorem dX5_stalls_0 : decode cX5_stalls 0 = .ok (.aload_n 0, 1) := by decide +kernel
theorem dX5_stalls_1 : decode cX5_stalls 1 = .ok (.getfield 77, 3) := by decide +kernel
theorem dX5_stalls_4 : decode cX5_stalls 4 = .ok (.ireturn, 1) := by decide +kernel
end
section
abbrev vwCl : List vw_C := [(RX0, TX0, 3), (RX1, TX1, 6), (RX2, TX2, 3), (RX3, TX3, 4), (RX4, TX4, 10), (RX5, TX5, 21)]
/-! ===== the judgement G: a frame at pc over a world, for any heap that holds it ===== -/
abbrev Cx : Type := Program × Launch × Env × State × MethodId × Array Value × List Frame × Method × Code × (State → Prop) × (Nat → Prop) × va_G
def G (K : Cx) (cI cZ : ClassId) (cc : ByteArray) (nL : Nat) (own : String) (Ts : List Cond) (R : Room) (ce sl : Nat) (ws : va_W) (pc : Nat) (lv : List (Nat × Value)) (st : List Value) : Prop :=
  match K with
  | (p, l, e, s, m, args, below, meth, c, Q, A, D) =>
    p.tables.exec = Jvm.exec → c.code = cc → c.maxLocals = nL → s.vm.findClass own = some m.cls → (∀ w ∈ Ts, w.before args s = true) → va_K D vwCl [(cI, .int), (cZ, .boolean)] s → (∀ q : Nat, s.heap.size ≤ q → A q) → meth.locks = false →
    ∀ (H : Heap) (locs : List Loc) (ls : Array Slot), va_P D vwCl ws H → va_D A ws → va_S A s.heap H locs → lv_has ls nL lv →
      W p l e R s m args below meth c H locs ce sl Q (F0 m pc ls st)
/-- the end that a contract allows: an answer and a world -/
def QR (D : va_G) (cI cZ : ClassId) (Rt : Option Int32 → va_W → Prop) (A : Nat → Prop) : Array Value → State → Outcome → State → Prop := fun _ st oc t =>
  (∃ (v : Option Int32) (ws : va_W), oc = .returned (v.map Value.int) ∧ Rt v ws ∧ va_P D vwCl ws t.heap ∧ va_K D vwCl [(cI, .int), (cZ, .boolean)] t ∧ va_D A ws) ∧ va_F A st t
/-- a contract: from arguments av and world ws; at the end Rt holds of answer and world -/
def Ct (y : MethodName) (Ts : List Cond) (rm : Room) (cI cZ : ClassId) (av : List Value) (ws : va_W) (mc ms : Nat) (Rt : Option Int32 → va_W → Prop) : Prop :=
  ∀ (l : Launch) (D : va_G) (sz : Nat), Met l y Ts rm (va_Pc av (fun U => U.heap.size = sz ∧ va_P D vwCl ws U.heap ∧ va_K D vwCl [(cI, .int), (cZ, .boolean)] U ∧ va_D (fun _ => True) ws)) (QR D cI cZ Rt (va_A ws sz)) mc ms (va_A ws sz)
/-- one answer, one world -/
def rt (v : Option Int32) (ws : va_W) : Option Int32 → va_W → Prop := fun v' ws' => v' = v ∧ ws' = ws
def RetOK (K : Cx) (cI cZ : ClassId) (mc ms : Nat) (ret : Option FieldType) (Rt : Option Int32 → va_W → Prop) : Prop :=
  match K with
  | (p, l, e, s, m, args, below, meth, c, Q, A, D) => meth.sig.returnType = ret ∧ Q = MQ below (QR D cI cZ Rt A) args s mc ms A
def NameOK (K : Cx) (n : String) : Prop :=
  match K with
  | (p, l, e, s, m, args, below, meth, c, Q, A, D) => meth.name = n
def Ix (i : Int32) (j n : Nat) : Prop := i = nI j ∧ j < n ∧ n < 2147483648
theorem Ix.vin {i : Int32} {j n : Nat} (h : Ix i j n) : vp_in i n := by
  obtain ⟨rfl, h1, h2⟩ := h
  exact vp_in_nI h1 h2
theorem Ix.cl {i : Int32} {j n : Nat} (h : Ix i j n) : i.toNatClampNeg = j := by
  obtain ⟨rfl, h1, h2⟩ := h
  exact nI_clamp (Nat.lt_trans h1 h2)
def lget : List (Nat × Value) → Nat → Option Value
  | [], _ => none
  | (k, v) :: r, i => if k = i then some v else lget r i
theorem lget_mem : ∀ {lv : List (Nat × Value)} {i : Nat} {v : Value}, lget lv i = some v → (i, v) ∈ lv
  | [], _, _, h => by cases h
  | (k, w) :: r, i, v, h => by
    unfold lget at h
    split at h
    · rename_i hk
      cases h
      subst hk
      exact List.mem_cons_self
    · exact List.mem_cons_of_mem _ (lget_mem h)
theorem lget_at {ls : Array Slot} {nL : Nat} {lv : List (Nat × Value)} {i : Nat} {v : Value} (h : lv_has ls nL lv) (hg : lget lv i = some v) : ls[i]? = some (.val v) := h.2.2 (i, v) (lget_mem hg)
/-! worlds in three pieces -/
theorem app_l {α : Type} {a b : List α} {i : Nat} {p : α} (h : a[i]? = some p) : (a ++ b)[i]? = some p := by
  rw [List.getElem?_append_left (List.getElem?_eq_some_iff.mp h).1]
  exact h
theorem app_r {α : Type} {a b : List α} {i : Nat} {p : α} (h : b[i]? = some p) : (a ++ b)[a.length + i]? = some p := by
  rw [List.getElem?_append_right (Nat.le_add_right _ _), Nat.add_sub_cancel_left]
  exact h
theorem vP_l {D : va_G} {cl : List vw_C} {a b : va_W} {H : Heap} (h : va_P D cl (a ++ b) H) : va_P D cl a H := fun k q hk => h k q (app_l hk)
theorem vP_r {D : va_G} {cl : List vw_C} {a b : va_W} {H : Heap} (h : va_P D cl (a ++ b) H) : va_P D cl b H := fun k q hk => h _ q (app_r hk)
theorem vD_l {A : Nat → Prop} {a b : va_W} (h : va_D A (a ++ b)) : va_D A a := ⟨fun i j p q hi hj e => h.1 i j p q (app_l hi) (app_l hj) e, fun k q hk => h.2 k q (app_l hk)⟩
theorem vD_r {A : Nat → Prop} {a b : va_W} (h : va_D A (a ++ b)) : va_D A b := ⟨fun i j p q hi hj e => Nat.add_left_cancel (h.1 _ _ p q (app_r hi) (app_r hj) e), fun k q hk => h.2 _ q (app_r hk)⟩
theorem vD_x {A : Nat → Prop} {a b : va_W} (h : va_D A (a ++ b)) {i j : Nat} {p q : Nat × va_E} (hi : a[i]? = some p) (hj : b[j]? = some q) : p.1 ≠ q.1 := fun e => by
  have h1 := h.1 _ _ p q (app_l hi) (app_r hj) e
  have h2 := (List.getElem?_eq_some_iff.mp hi).1
  omega
theorem joinM {A0 : Nat → Prop} {D : va_G} {cl : List vw_C} {pre wc suf w1 : va_W} {H H1 : Heap} (hP : va_P D cl (pre ++ (wc ++ suf)) H) (hD : va_D A0 (pre ++ (wc ++ suf)))
    (hk : ∀ q : Nat, q < H.size → ¬ va_A wc H.size q → H1[q]? = H[q]?) (hF : ∀ q, va_A wc H.size q → A0 q) (hP1 : va_P D cl w1 H1) (hD1 : va_D (va_A wc H.size) w1) : va_P D cl (pre ++ (w1 ++ suf)) H1 ∧ va_D A0 (pre ++ (w1 ++ suf)) := by
  have n1 : ∀ (i : Nat) (p : Nat × va_E), pre[i]? = some p → ¬ va_A wc H.size p.1 := by
    intro i p hi h
    rcases h with ⟨k, e, h⟩ | h
    · exact vD_x hD hi (app_l (b := suf) h) rfl
    · exact absurd ((vP_l hP) i p hi).lt (Nat.not_lt.mpr h)
  have n2 : ∀ (i : Nat) (p : Nat × va_E), suf[i]? = some p → ¬ va_A wc H.size p.1 := by
    intro i p hi h
    rcases h with ⟨k, e, h⟩ | h
    · exact vD_x (vD_r hD) h hi rfl
    · exact absurd ((vP_r (vP_r hP)) i p hi).lt (Nat.not_lt.mpr h)
  refine ⟨va_P.app (fun k q hq => ((vP_l hP) k q hq).kept (hk q.1 ((vP_l hP) k q hq).lt (n1 k q hq))) (va_P.app hP1 (fun k q hq => ((vP_r (vP_r hP)) k q hq).kept (hk q.1 ((vP_r (vP_r hP)) k q hq).lt (n2 k q hq)))), va_D.app (vD_l hD) (va_D.app (hD1.weaken (fun k q _ h => hF q.1 h)) (vD_r (vD_r hD)) (fun i j p q hi hj e => n2 j q hj (e ▸ hD1.2 i p hi))) (fun i j p q hi hj e => ?_)⟩
  by_cases hl : j < w1.length
  · rw [List.getElem?_append_left hl] at hj
    exact n1 i p hi (e.symm ▸ hD1.2 j q hj)
  · rw [List.getElem?_append_right (Nat.le_of_not_lt hl)] at hj
    exact vD_x hD hi (app_r (a := wc) hj) e
/-- a body gives the contract -/
theorem Ct.of {y : MethodName} {Ts Ts' : List Cond} {rm : Room} {cI cZ : ClassId} {av : List Value} {ws : va_W} {mc ms : Nat} {Rt : Option Int32 → va_W → Prop} {cc : ByteArray} {nL : Nat} {ret : Option FieldType} {own : String} {lv : List (Nat × Value)}
    (hy : plainName y.cls = true) (hw : Ts = Cond.code y cc nL ret :: Ts') (hown : y.cls = own) (hlen : (lg_sl av).length ≤ nL) (hlv : lv_args 0 av = lv)
    (h : ∀ K : Cx, RetOK K cI cZ mc ms ret Rt → NameOK K y.name → G K cI cZ cc nL own Ts rm 0 0 ws 0 lv []) : Ct y Ts rm cI cZ av ws mc ms Rt := by
  intro l D sz
  refine Met.ofW (cc := cc) (maxL := nL) (ret := ret) hy hw ?_
  intro p e s m args below meth c s₁ B hml hv
  obtain ⟨rfl, hsz, hP, hK, hD0⟩ := hv
  have hts := atoms_spec (ws := Ts) B.pre
  have hown' : s.vm.findClass own = some m.cls := hown ▸ findClass_of_methodNamed B.named
  have hin : meth.name = y.name := (name_of_methodNamed B.named B.method).1
  subst hsz
  have hD := hD0.self (sz := s.heap.size)
  have hl := lv_entry av (n := nL) hlen
  rw [hlv] at hl
  rw [lg_entry_eq]
  exact h (p, l, e, s, m, av.toArray, below, meth, c, MQ below (QR D cI cZ Rt (va_A ws s.heap.size)) av.toArray s mc ms (va_A ws s.heap.size), va_A ws s.heap.size, D) ⟨B.returns, rfl⟩ hin B.exec B.bytes hml hown' hts hK (fun q hq => Or.inr hq) B.notSynchronized s.heap [] _ hP hD va_S.rf hl
section GL
variable {K : Cx} {cI cZ : ClassId} {cc : ByteArray} {nL : Nat} {own : String} {Ts : List Cond} {R : Room} {ce sl : Nat} {ws ws2 : va_W} {pc pc2 : Nat} {lv lv2 : List (Nat × Value)} {st : List Value}
theorem G.iconst {n : Int} {v : Int32} (d : decode cc pc = .ok (.iconst n, 1)) (hv : Int32.ofInt n = v) (hp : pc + 1 = pc2) (h : G K cI cZ cc nL own Ts R ce sl ws pc2 lv (.int v :: st)) : G K cI cZ cc nL own Ts R ce sl ws pc lv st := by
  obtain ⟨p, l, e, s, m, args, below, meth, c, Q, A, D⟩ := K
  intro hx hb hml hown hts hK hA hlk H locs ls hP hD hS hl
  subst hp
  exact lv_iconst hx hb d hv (h hx hb hml hown hts hK hA hlk H locs ls hP hD hS hl)
theorem G.bipush {n : Int} {v : Int32} (d : decode cc pc = .ok (.bipush n, 2)) (hv : (Int8.ofInt n).toInt32 = v) (hp : pc + 2 = pc2) (h : G K cI cZ cc nL own Ts R ce sl ws pc2 lv (.int v :: st)) : G K cI cZ cc nL own Ts R ce sl ws pc lv st := by
  obtain ⟨p, l, e, s, m, args, below, meth, c, Q, A, D⟩ := K
  intro hx hb hml hown hts hK hA hlk H locs ls hP hD hS hl
  subst hp
  exact lv_bipush hx hb d hv (h hx hb hml hown hts hK hA hlk H locs ls hP hD hS hl)
theorem G.sipush {n : Int} {v : Int32} (d : decode cc pc = .ok (.sipush n, 3)) (hv : (Int16.ofInt n).toInt32 = v) (hp : pc + 3 = pc2) (h : G K cI cZ cc nL own Ts R ce sl ws pc2 lv (.int v :: st)) : G K cI cZ cc nL own Ts R ce sl ws pc lv st := by
  obtain ⟨p, l, e, s, m, args, below, meth, c, Q, A, D⟩ := K
  intro hx hb hml hown hts hK hA hlk H locs ls hP hD hS hl
  subst hp
  exact lv_sipush hx hb d hv (h hx hb hml hown hts hK hA hlk H locs ls hP hD hS hl)
theorem G.iload_n {k : Fin 4} {i : Nat} {x : Int32} (d : decode cc pc = .ok (.iload_n k, 1)) (hi : (k : Nat) = i) (hg : lget lv i = some (.int x)) (hp : pc + 1 = pc2) (h : G K cI cZ cc nL own Ts R ce sl ws pc2 lv (.int x :: st)) : G K cI cZ cc nL own Ts R ce sl ws pc lv st := by
  obtain ⟨p, l, e, s, m, args, below, meth, c, Q, A, D⟩ := K
  intro hx hb hml hown hts hK hA hlk H locs ls hP hD hS hl
  subst hp
  exact lv_iload_n hx hb d hi (lget_at hl hg) (h hx hb hml hown hts hK hA hlk H locs ls hP hD hS hl)
theorem G.iload {i : Nat} {x : Int32} (d : decode cc pc = .ok (.iload i, 2)) (hg : lget lv i = some (.int x)) (hp : pc + 2 = pc2) (h : G K cI cZ cc nL own Ts R ce sl ws pc2 lv (.int x :: st)) : G K cI cZ cc nL own Ts R ce sl ws pc lv st := by
  obtain ⟨p, l, e, s, m, args, below, meth, c, Q, A, D⟩ := K
  intro hx hb hml hown hts hK hA hlk H locs ls hP hD hS hl
  subst hp
  exact lv_iload hx hb d (lget_at hl hg) (h hx hb hml hown hts hK hA hlk H locs ls hP hD hS hl)
theorem G.aload_n {k : Fin 4} {i : Nat} {x : Nat} (d : decode cc pc = .ok (.aload_n k, 1)) (hi : (k : Nat) = i) (hg : lget lv i = some (.ref x)) (hp : pc + 1 = pc2) (h : G K cI cZ cc nL own Ts R ce sl ws pc2 lv (.ref x :: st)) : G K cI cZ cc nL own Ts R ce sl ws pc lv st := by
  obtain ⟨p, l, e, s, m, args, below, meth, c, Q, A, D⟩ := K
  intro hx hb hml hown hts hK hA hlk H locs ls hP hD hS hl
  subst hp
  exact lv_aload_n hx hb d hi (lget_at hl hg) (h hx hb hml hown hts hK hA hlk H locs ls hP hD hS hl)
theorem G.istore_n {k : Fin 4} {i : Nat} {x : Int32} (ks : List Nat) (d : decode cc pc = .ok (.istore_n k, 1)) (hi : (k : Nat) = i) (hn : i < nL) (hk : lv_pick ((i, Value.int x) :: lv.filter (fun q => !(q.1 == i) && !(q.1 + 1 == i && q.2.category == 2))) ks = lv2) (hp : pc + 1 = pc2) (h : G K cI cZ cc nL own Ts R ce sl ws pc2 lv2 st) : G K cI cZ cc nL own Ts R ce sl ws pc lv (.int x :: st) := by
  obtain ⟨p, l, e, s, m, args, below, meth, c, Q, A, D⟩ := K
  intro hx hb hml hown hts hK hA hlk H locs ls hP hD hS hl
  subst hp
  exact lv_istore_n hx hb d hi hl hn rfl (fun ls2 hl2 => h hx hb hml hown hts hK hA hlk H locs ls2 hP hD hS (lv_sub hl2 ks hk))
theorem G.istore {i : Nat} {x : Int32} (ks : List Nat) (d : decode cc pc = .ok (.istore i, 2)) (hn : i < nL) (hk : lv_pick ((i, Value.int x) :: lv.filter (fun q => !(q.1 == i) && !(q.1 + 1 == i && q.2.category == 2))) ks = lv2) (hp : pc + 2 = pc2) (h : G K cI cZ cc nL own Ts R ce sl ws pc2 lv2 st) : G K cI cZ cc nL own Ts R ce sl ws pc lv (.int x :: st) := by
  obtain ⟨p, l, e, s, m, args, below, meth, c, Q, A, D⟩ := K
  intro hx hb hml hown hts hK hA hlk H locs ls hP hD hS hl
  subst hp
  exact lv_istore hx hb d hl hn rfl (fun ls2 hl2 => h hx hb hml hown hts hK hA hlk H locs ls2 hP hD hS (lv_sub hl2 ks hk))
theorem G.astore_n {k : Fin 4} {i : Nat} {x : Nat} (ks : List Nat) (d : decode cc pc = .ok (.astore_n k, 1)) (hi : (k : Nat) = i) (hn : i < nL) (hk : lv_pick ((i, Value.ref x) :: lv.filter (fun q => !(q.1 == i) && !(q.1 + 1 == i && q.2.category == 2))) ks = lv2) (hp : pc + 1 = pc2) (h : G K cI cZ cc nL own Ts R ce sl ws pc2 lv2 st) : G K cI cZ cc nL own Ts R ce sl ws pc lv (.ref x :: st) := by
  obtain ⟨p, l, e, s, m, args, below, meth, c, Q, A, D⟩ := K
  intro hx hb hml hown hts hK hA hlk H locs ls hP hD hS hl
  subst hp
  exact lv_astore_n hx hb d hi hl hn rfl (fun ls2 hl2 => h hx hb hml hown hts hK hA hlk H locs ls2 hP hD hS (lv_sub hl2 ks hk))
theorem G.iinc {i k : Nat} {n : Int} {x v : Int32} (ks : List Nat) (d : decode cc pc = .ok (.iinc i n, 3)) (hg : lv[k]? = some (i, .int x)) (hv : x + Int32.ofInt n = v) (hn : i < nL) (hk : lv_pick ((i, Value.int v) :: lv.filter (fun q => !(q.1 == i) && !(q.1 + 1 == i && q.2.category == 2))) ks = lv2) (hp : pc + 3 = pc2) (h : G K cI cZ cc nL own Ts R ce sl ws pc2 lv2 st) : G K cI cZ cc nL own Ts R ce sl ws pc lv st := by
  obtain ⟨p, l, e, s, m, args, below, meth, c, Q, A, D⟩ := K
  intro hx hb hml hown hts hK hA hlk H locs ls hP hD hS hl
  subst hp
  exact lv_iinc hx hb d hl hg hv hn rfl (fun ls2 hl2 => h hx hb hml hown hts hK hA hlk H locs ls2 hP hD hS (lv_sub hl2 ks hk))
theorem G.iadd {x y v : Int32} (d : decode cc pc = .ok (.iadd, 1)) (hv : x + y = v) (hp : pc + 1 = pc2) (h : G K cI cZ cc nL own Ts R ce sl ws pc2 lv (.int v :: st)) : G K cI cZ cc nL own Ts R ce sl ws pc lv (.int y :: .int x :: st) := by
  obtain ⟨p, l, e, s, m, args, below, meth, c, Q, A, D⟩ := K
  intro hx hb hml hown hts hK hA hlk H locs ls hP hD hS hl
  subst hp
  subst hv
  exact lv_iadd hx hb d (h hx hb hml hown hts hK hA hlk H locs ls hP hD hS hl)
theorem G.isub {x y v : Int32} (d : decode cc pc = .ok (.isub, 1)) (hv : x - y = v) (hp : pc + 1 = pc2) (h : G K cI cZ cc nL own Ts R ce sl ws pc2 lv (.int v :: st)) : G K cI cZ cc nL own Ts R ce sl ws pc lv (.int y :: .int x :: st) := by
  obtain ⟨p, l, e, s, m, args, below, meth, c, Q, A, D⟩ := K
  intro hx hb hml hown hts hK hA hlk H locs ls hP hD hS hl
  subst hp
  subst hv
  exact lv_isub hx hb d (h hx hb hml hown hts hK hA hlk H locs ls hP hD hS hl)
theorem G.imul {x y v : Int32} (d : decode cc pc = .ok (.imul, 1)) (hv : x * y = v) (hp : pc + 1 = pc2) (h : G K cI cZ cc nL own Ts R ce sl ws pc2 lv (.int v :: st)) : G K cI cZ cc nL own Ts R ce sl ws pc lv (.int y :: .int x :: st) := by
  obtain ⟨p, l, e, s, m, args, below, meth, c, Q, A, D⟩ := K
  intro hx hb hml hown hts hK hA hlk H locs ls hP hD hS hl
  subst hp
  subst hv
  exact lv_imul hx hb d (h hx hb hml hown hts hK hA hlk H locs ls hP hD hS hl)
theorem G.iand {x y v : Int32} (d : decode cc pc = .ok (.iand, 1)) (hv : x &&& y = v) (hp : pc + 1 = pc2) (h : G K cI cZ cc nL own Ts R ce sl ws pc2 lv (.int v :: st)) : G K cI cZ cc nL own Ts R ce sl ws pc lv (.int y :: .int x :: st) := by
  obtain ⟨p, l, e, s, m, args, below, meth, c, Q, A, D⟩ := K
  intro hx hb hml hown hts hK hA hlk H locs ls hP hD hS hl
  subst hp
  subst hv
  exact lv_iand hx hb d (h hx hb hml hown hts hK hA hlk H locs ls hP hD hS hl)
theorem G.dup {a : Value} (d : decode cc pc = .ok (.dup, 1)) (hc : a.category = 1) (hp : pc + 1 = pc2) (h : G K cI cZ cc nL own Ts R ce sl ws pc2 lv (a :: a :: st)) : G K cI cZ cc nL own Ts R ce sl ws pc lv (a :: st) := by
  obtain ⟨p, l, e, s, m, args, below, meth, c, Q, A, D⟩ := K
  intro hx hb hml hown hts hK hA hlk H locs ls hP hD hS hl
  subst hp
  exact lv_dup hx hb d hc (h hx hb hml hown hts hK hA hlk H locs ls hP hD hS hl)
theorem G.dup2 {a b : Value} (d : decode cc pc = .ok (.dup2, 1)) (hc : a.category = 1) (hc2 : b.category = 1) (hp : pc + 1 = pc2) (h : G K cI cZ cc nL own Ts R ce sl ws pc2 lv (a :: b :: a :: b :: st)) : G K cI cZ cc nL own Ts R ce sl ws pc lv (a :: b :: st) := by
  obtain ⟨p, l, e, s, m, args, below, meth, c, Q, A, D⟩ := K
  intro hx hb hml hown hts hK hA hlk H locs ls hP hD hS hl
  subst hp
  exact lv_dup2_11 hx hb d hc hc2 (h hx hb hml hown hts hK hA hlk H locs ls hP hD hS hl)
theorem G.pop {a : Value} (d : decode cc pc = .ok (.pop, 1)) (hc : a.category = 1) (hp : pc + 1 = pc2) (h : G K cI cZ cc nL own Ts R ce sl ws pc2 lv st) : G K cI cZ cc nL own Ts R ce sl ws pc lv (a :: st) := by
  obtain ⟨p, l, e, s, m, args, below, meth, c, Q, A, D⟩ := K
  intro hx hb hml hown hts hK hA hlk H locs ls hP hD hS hl
  subst hp
  exact lv_pop hx hb d hc (h hx hb hml hown hts hK hA hlk H locs ls hP hD hS hl)
theorem G.if_eq {x : Int32} {off : Int} {tgt : Nat} (d : decode cc pc = .ok (.ifCond .eq off, 3)) (ht : (pc : Int) + off = (tgt : Int)) (hp : pc + 3 = pc2) (kt : (x = 0) → G K cI cZ cc nL own Ts R ce sl ws tgt lv st) (kf : (¬ x = 0) → G K cI cZ cc nL own Ts R ce sl ws pc2 lv st) : G K cI cZ cc nL own Ts R ce sl ws pc lv (.int x :: st) := by
  obtain ⟨p, l, e, s, m, args, below, meth, c, Q, A, D⟩ := K
  intro hx hb hml hown hts hK hA hlk H locs ls hP hD hS hl
  subst hp
  exact lv_if_eq hx hb d ht (fun z => kt z hx hb hml hown hts hK hA hlk H locs ls hP hD hS hl) (fun z => kf z hx hb hml hown hts hK hA hlk H locs ls hP hD hS hl)
theorem G.icmp_eq {x y : Int32} {off : Int} {tgt : Nat} (d : decode cc pc = .ok (.if_icmp .eq off, 3)) (ht : (pc : Int) + off = (tgt : Int)) (hp : pc + 3 = pc2) (kt : (x = y) → G K cI cZ cc nL own Ts R ce sl ws tgt lv st) (kf : (¬ x = y) → G K cI cZ cc nL own Ts R ce sl ws pc2 lv st) : G K cI cZ cc nL own Ts R ce sl ws pc lv (.int y :: .int x :: st) := by
  obtain ⟨p, l, e, s, m, args, below, meth, c, Q, A, D⟩ := K
  intro hx hb hml hown hts hK hA hlk H locs ls hP hD hS hl
  subst hp
  exact lv_icmp_eq hx hb d ht (fun z => kt z hx hb hml hown hts hK hA hlk H locs ls hP hD hS hl) (fun z => kf z hx hb hml hown hts hK hA hlk H locs ls hP hD hS hl)
theorem G.if_ne {x : Int32} {off : Int} {tgt : Nat} (d : decode cc pc = .ok (.ifCond .ne off, 3)) (ht : (pc : Int) + off = (tgt : Int)) (hp : pc + 3 = pc2) (kt : (¬ x = 0) → G K cI cZ cc nL own Ts R ce sl ws tgt lv st) (kf : (x = 0) → G K cI cZ cc nL own Ts R ce sl ws pc2 lv st) : G K cI cZ cc nL own Ts R ce sl ws pc lv (.int x :: st) := by
  obtain ⟨p, l, e, s, m, args, below, meth, c, Q, A, D⟩ := K
  intro hx hb hml hown hts hK hA hlk H locs ls hP hD hS hl
  subst hp
  exact lv_if_ne hx hb d ht (fun z => kt z hx hb hml hown hts hK hA hlk H locs ls hP hD hS hl) (fun z => kf z hx hb hml hown hts hK hA hlk H locs ls hP hD hS hl)
theorem G.icmp_ne {x y : Int32} {off : Int} {tgt : Nat} (d : decode cc pc = .ok (.if_icmp .ne off, 3)) (ht : (pc : Int) + off = (tgt : Int)) (hp : pc + 3 = pc2) (kt : (¬ x = y) → G K cI cZ cc nL own Ts R ce sl ws tgt lv st) (kf : (x = y) → G K cI cZ cc nL own Ts R ce sl ws pc2 lv st) : G K cI cZ cc nL own Ts R ce sl ws pc lv (.int y :: .int x :: st) := by
  obtain ⟨p, l, e, s, m, args, below, meth, c, Q, A, D⟩ := K
  intro hx hb hml hown hts hK hA hlk H locs ls hP hD hS hl
  subst hp
  exact lv_icmp_ne hx hb d ht (fun z => kt z hx hb hml hown hts hK hA hlk H locs ls hP hD hS hl) (fun z => kf z hx hb hml hown hts hK hA hlk H locs ls hP hD hS hl)
theorem G.if_lt {x : Int32} {off : Int} {tgt : Nat} (d : decode cc pc = .ok (.ifCond .lt off, 3)) (ht : (pc : Int) + off = (tgt : Int)) (hp : pc + 3 = pc2) (kt : (x < 0) → G K cI cZ cc nL own Ts R ce sl ws tgt lv st) (kf : (¬ x < 0) → G K cI cZ cc nL own Ts R ce sl ws pc2 lv st) : G K cI cZ cc nL own Ts R ce sl ws pc lv (.int x :: st) := by
  obtain ⟨p, l, e, s, m, args, below, meth, c, Q, A, D⟩ := K
  intro hx hb hml hown hts hK hA hlk H locs ls hP hD hS hl
  subst hp
  exact lv_if_lt hx hb d ht (fun z => kt z hx hb hml hown hts hK hA hlk H locs ls hP hD hS hl) (fun z => kf z hx hb hml hown hts hK hA hlk H locs ls hP hD hS hl)
theorem G.icmp_lt {x y : Int32} {off : Int} {tgt : Nat} (d : decode cc pc = .ok (.if_icmp .lt off, 3)) (ht : (pc : Int) + off = (tgt : Int)) (hp : pc + 3 = pc2) (kt : (x < y) → G K cI cZ cc nL own Ts R ce sl ws tgt lv st) (kf : (¬ x < y) → G K cI cZ cc nL own Ts R ce sl ws pc2 lv st) : G K cI cZ cc nL own Ts R ce sl ws pc lv (.int y :: .int x :: st) := by
  obtain ⟨p, l, e, s, m, args, below, meth, c, Q, A, D⟩ := K
  intro hx hb hml hown hts hK hA hlk H locs ls hP hD hS hl
  subst hp
  exact lv_icmp_lt hx hb d ht (fun z => kt z hx hb hml hown hts hK hA hlk H locs ls hP hD hS hl) (fun z => kf z hx hb hml hown hts hK hA hlk H locs ls hP hD hS hl)
theorem G.if_ge {x : Int32} {off : Int} {tgt : Nat} (d : decode cc pc = .ok (.ifCond .ge off, 3)) (ht : (pc : Int) + off = (tgt : Int)) (hp : pc + 3 = pc2) (kt : (¬ x < 0) → G K cI cZ cc nL own Ts R ce sl ws tgt lv st) (kf : (x < 0) → G K cI cZ cc nL own Ts R ce sl ws pc2 lv st) : G K cI cZ cc nL own Ts R ce sl ws pc lv (.int x :: st) := by
  obtain ⟨p, l, e, s, m, args, below, meth, c, Q, A, D⟩ := K
  intro hx hb hml hown hts hK hA hlk H locs ls hP hD hS hl
  subst hp
  exact lv_if_ge hx hb d ht (fun z => kt (Int32.not_lt.mpr z) hx hb hml hown hts hK hA hlk H locs ls hP hD hS hl) (fun z => kf (Int32.not_le.mp z) hx hb hml hown hts hK hA hlk H locs ls hP hD hS hl)
theorem G.icmp_ge {x y : Int32} {off : Int} {tgt : Nat} (d : decode cc pc = .ok (.if_icmp .ge off, 3)) (ht : (pc : Int) + off = (tgt : Int)) (hp : pc + 3 = pc2) (kt : (¬ x < y) → G K cI cZ cc nL own Ts R ce sl ws tgt lv st) (kf : (x < y) → G K cI cZ cc nL own Ts R ce sl ws pc2 lv st) : G K cI cZ cc nL own Ts R ce sl ws pc lv (.int y :: .int x :: st) := by
  obtain ⟨p, l, e, s, m, args, below, meth, c, Q, A, D⟩ := K
  intro hx hb hml hown hts hK hA hlk H locs ls hP hD hS hl
  subst hp
  exact lv_icmp_ge hx hb d ht (fun z => kt (Int32.not_lt.mpr z) hx hb hml hown hts hK hA hlk H locs ls hP hD hS hl) (fun z => kf (Int32.not_le.mp z) hx hb hml hown hts hK hA hlk H locs ls hP hD hS hl)
theorem G.if_gt {x : Int32} {off : Int} {tgt : Nat} (d : decode cc pc = .ok (.ifCond .gt off, 3)) (ht : (pc : Int) + off = (tgt : Int)) (hp : pc + 3 = pc2) (kt : (0 < x) → G K cI cZ cc nL own Ts R ce sl ws tgt lv st) (kf : (¬ 0 < x) → G K cI cZ cc nL own Ts R ce sl ws pc2 lv st) : G K cI cZ cc nL own Ts R ce sl ws pc lv (.int x :: st) := by
  obtain ⟨p, l, e, s, m, args, below, meth, c, Q, A, D⟩ := K
  intro hx hb hml hown hts hK hA hlk H locs ls hP hD hS hl
  subst hp
  exact lv_if_gt hx hb d ht (fun z => kt z hx hb hml hown hts hK hA hlk H locs ls hP hD hS hl) (fun z => kf z hx hb hml hown hts hK hA hlk H locs ls hP hD hS hl)
theorem G.icmp_gt {x y : Int32} {off : Int} {tgt : Nat} (d : decode cc pc = .ok (.if_icmp .gt off, 3)) (ht : (pc : Int) + off = (tgt : Int)) (hp : pc + 3 = pc2) (kt : (y < x) → G K cI cZ cc nL own Ts R ce sl ws tgt lv st) (kf : (¬ y < x) → G K cI cZ cc nL own Ts R ce sl ws pc2 lv st) : G K cI cZ cc nL own Ts R ce sl ws pc lv (.int y :: .int x :: st) := by
  obtain ⟨p, l, e, s, m, args, below, meth, c, Q, A, D⟩ := K
  intro hx hb hml hown hts hK hA hlk H locs ls hP hD hS hl
  subst hp
  exact lv_icmp_gt hx hb d ht (fun z => kt z hx hb hml hown hts hK hA hlk H locs ls hP hD hS hl) (fun z => kf z hx hb hml hown hts hK hA hlk H locs ls hP hD hS hl)
theorem G.if_le {x : Int32} {off : Int} {tgt : Nat} (d : decode cc pc = .ok (.ifCond .le off, 3)) (ht : (pc : Int) + off = (tgt : Int)) (hp : pc + 3 = pc2) (kt : (¬ 0 < x) → G K cI cZ cc nL own Ts R ce sl ws tgt lv st) (kf : (0 < x) → G K cI cZ cc nL own Ts R ce sl ws pc2 lv st) : G K cI cZ cc nL own Ts R ce sl ws pc lv (.int x :: st) := by
  obtain ⟨p, l, e, s, m, args, below, meth, c, Q, A, D⟩ := K
  intro hx hb hml hown hts hK hA hlk H locs ls hP hD hS hl
  subst hp
  exact lv_if_le hx hb d ht (fun z => kt (Int32.not_lt.mpr z) hx hb hml hown hts hK hA hlk H locs ls hP hD hS hl) (fun z => kf (Int32.not_le.mp z) hx hb hml hown hts hK hA hlk H locs ls hP hD hS hl)
theorem G.icmp_le {x y : Int32} {off : Int} {tgt : Nat} (d : decode cc pc = .ok (.if_icmp .le off, 3)) (ht : (pc : Int) + off = (tgt : Int)) (hp : pc + 3 = pc2) (kt : (¬ y < x) → G K cI cZ cc nL own Ts R ce sl ws tgt lv st) (kf : (y < x) → G K cI cZ cc nL own Ts R ce sl ws pc2 lv st) : G K cI cZ cc nL own Ts R ce sl ws pc lv (.int y :: .int x :: st) := by
  obtain ⟨p, l, e, s, m, args, below, meth, c, Q, A, D⟩ := K
  intro hx hb hml hown hts hK hA hlk H locs ls hP hD hS hl
  subst hp
  exact lv_icmp_le hx hb d ht (fun z => kt (Int32.not_lt.mpr z) hx hb hml hown hts hK hA hlk H locs ls hP hD hS hl) (fun z => kf (Int32.not_le.mp z) hx hb hml hown hts hK hA hlk H locs ls hP hD hS hl)
theorem G.goto {off : Int} {tgt : Nat} (d : decode cc pc = .ok (.goto off, 3)) (ht : (pc : Int) + off = (tgt : Int)) (h : G K cI cZ cc nL own Ts R ce sl ws tgt lv st) : G K cI cZ cc nL own Ts R ce sl ws pc lv st := by
  obtain ⟨p, l, e, s, m, args, below, meth, c, Q, A, D⟩ := K
  intro hx hb hml hown hts hK hA hlk H locs ls hP hD hS hl
  exact lv_goto hx hb d ht (h hx hb hml hown hts hK hA hlk H locs ls hP hD hS hl)
theorem G.getf {C : String} {T : u_T} {N ci idx q0 k a : Nat} {fs : List Value} {v : Value} (hin : ∀ w ∈ u_ws C T N, w ∈ Ts) (hfl : Cond.fieldLink own idx (T k).1 (T k).2.1 (T k).2.2.1 ∈ Ts) (he : ws[q0]? = some (a, .inr (ci, fs))) (hc : vwCl[ci]? = some (C, T, N)) (hk : k < N) (hv : fs[k]? = some v) (d : decode cc pc = .ok (.getfield idx, 3)) (hp : pc + 3 = pc2) (h : G K cI cZ cc nL own Ts R ce sl ws pc2 lv (v :: st)) : G K cI cZ cc nL own Ts R ce sl ws pc lv (.ref a :: st) := by
  obtain ⟨p, l, e, s, m, args, below, meth, c, Q, A, D⟩ := K
  intro hx hb hml hown hts hK hA hlk H locs ls hP hD hS hl
  subst hp
  exact va_get hx hb hts hin hown hK hP q0 he hc k hk (hts _ hfl) (fun _ z => z) hv d (h hx hb hml hown hts hK hA hlk H locs ls hP hD hS hl)
theorem G.putf {C : String} {T : u_T} {N ci idx q0 k a : Nat} {fs : List Value} {v : Value} {ty0 : Nat → FieldType} (hin : ∀ w ∈ u_ws C T N, w ∈ Ts) (hfl : Cond.fieldLink own idx (T k).1 (T k).2.1 (T k).2.2.1 ∈ Ts) (hty : ∀ k, k < N → parseFieldDescriptor (T k).2.2.1 = some (ty0 k)) (hnm : ∀ a, a < N → ∀ b, b < N → a ≠ b → (T a).2.1 ≠ (T b).2.1) (he : ws[q0]? = some (a, .inr (ci, fs))) (hc : vwCl[ci]? = some (C, T, N)) (hk : k < N) (hfin : (T k).2.2.2 = false) (hn : narrow (ty0 k) v = v) (hfit : fits (ty0 k) v = true) (hlen : k < fs.length) (hws : ws.set q0 (a, .inr (ci, fs.set k v)) = ws2) (d : decode cc pc = .ok (.putfield idx, 3)) (hp : pc + 3 = pc2) (h : G K cI cZ cc nL own Ts R ce sl ws2 pc2 lv st) : G K cI cZ cc nL own Ts R ce sl ws pc lv (v :: .ref a :: st) := by
  obtain ⟨p, l, e, s, m, args, below, meth, c, Q, A, D⟩ := K
  intro hx hb hml hown hts hK hA hlk H locs ls hP hD hS hl
  subst hp
  exact va_put hx hb hts hin ty0 hty hnm hown hK hP hD hS q0 he hc k hk (hts _ hfl) (fun _ z => z) hfin (hty k hk) hn hfit hlen d (fun H2 locs2 hP2 hD2 hS2 => by subst hws; exact h hx hb hml hown hts hK hA hlk H2 locs2 ls hP2 hD2 hS2 hl)
theorem G.putF {C : String} {T : u_T} {N ci idx q0 k a : Nat} {fs : List Value} {v : Value} {ty0 : Nat → FieldType} (hin : ∀ w ∈ u_ws C T N, w ∈ Ts) (hfl : Cond.fieldLink own idx (T k).1 (T k).2.1 (T k).2.2.1 ∈ Ts) (hty : ∀ k, k < N → parseFieldDescriptor (T k).2.2.1 = some (ty0 k)) (hnm : ∀ a, a < N → ∀ b, b < N → a ≠ b → (T a).2.1 ≠ (T b).2.1) (he : ws[q0]? = some (a, .inr (ci, fs))) (hc : vwCl[ci]? = some (C, T, N)) (hk : k < N) (hfin : (T k).2.2.2 = true) (hnk : NameOK K "<init>") (hdecl : (T k).1 = own) (hn : narrow (ty0 k) v = v) (hfit : fits (ty0 k) v = true) (hlen : k < fs.length) (hws : ws.set q0 (a, .inr (ci, fs.set k v)) = ws2) (d : decode cc pc = .ok (.putfield idx, 3)) (hp : pc + 3 = pc2) (h : G K cI cZ cc nL own Ts R ce sl ws2 pc2 lv st) : G K cI cZ cc nL own Ts R ce sl ws pc lv (v :: .ref a :: st) := by
  obtain ⟨p, l, e, s, m, args, below, meth, c, Q, A, D⟩ := K
  intro hx hb hml hown hts hK hA hlk H locs ls hP hD hS hl
  subst hp
  exact va_putF hx hb hts hin ty0 hty hnm hown hK hP hD hS q0 he hc k hk (hts _ hfl) (fun _ z => z) hfin hnk hdecl (hty k hk) hn hfit hlen d (fun H2 locs2 hP2 hD2 hS2 => by subst hws; exact h hx hb hml hown hts hK hA hlk H2 locs2 ls hP2 hD2 hS2 hl)
theorem G.iald {q0 n a j : Nat} {f : Nat → Int32} {i v : Int32} (he : ws[q0]? = some (a, .inl (cI, n, .inl f))) (hi : Ix i j n) (hv : f j = v) (d : decode cc pc = .ok (.iaload, 1)) (hp : pc + 1 = pc2) (h : G K cI cZ cc nL own Ts R ce sl ws pc2 lv (.int v :: st)) : G K cI cZ cc nL own Ts R ce sl ws pc lv (.int i :: .ref a :: st) := by
  obtain ⟨p, l, e, s, m, args, below, meth, c, Q, A, D⟩ := K
  intro hx hb hml hown hts hK hA hlk H locs ls hP hD hS hl
  subst hp
  have h2 := h hx hb hml hown hts hK hA hlk H locs ls hP hD hS hl
  rw [← hv, ← hi.cl] at h2
  exact va_iald hx hb hK hP q0 0 he rfl hi.vin d h2
theorem G.zald {q0 n a j : Nat} {f : Nat → Int32} {i v : Int32} (he : ws[q0]? = some (a, .inl (cZ, n, .inl f))) (hi : Ix i j n) (hv : f j = v) (d : decode cc pc = .ok (.baload, 1)) (hp : pc + 1 = pc2) (h : G K cI cZ cc nL own Ts R ce sl ws pc2 lv (.int v :: st)) : G K cI cZ cc nL own Ts R ce sl ws pc lv (.int i :: .ref a :: st) := by
  obtain ⟨p, l, e, s, m, args, below, meth, c, Q, A, D⟩ := K
  intro hx hb hml hown hts hK hA hlk H locs ls hP hD hS hl
  subst hp
  have h2 := h hx hb hml hown hts hK hA hlk H locs ls hP hD hS hl
  rw [← hv, ← hi.cl] at h2
  exact va_zald hx hb hK hP q0 1 he rfl hi.vin d h2
theorem G.iast {q0 n a j : Nat} {f : Nat → Int32} {i x : Int32} (he : ws[q0]? = some (a, .inl (cI, n, .inl f))) (hi : Ix i j n) (hws : ws.set q0 (a, .inl (cI, n, .inl (upd f j x))) = ws2) (d : decode cc pc = .ok (.iastore, 1)) (hp : pc + 1 = pc2) (h : G K cI cZ cc nL own Ts R ce sl ws2 pc2 lv st) : G K cI cZ cc nL own Ts R ce sl ws pc lv (.int x :: .int i :: .ref a :: st) := by
  obtain ⟨p, l, e, s, m, args, below, meth, c, Q, A, D⟩ := K
  intro hx hb hml hown hts hK hA hlk H locs ls hP hD hS hl
  subst hp
  subst hws
  rw [← hi.cl] at h
  exact va_iast hx hb hK hP hD hS q0 0 he rfl hi.vin d (fun H2 locs2 hP2 hD2 hS2 => h hx hb hml hown hts hK hA hlk H2 locs2 ls hP2 hD2 hS2 hl)
theorem G.zast {q0 n a j : Nat} {f : Nat → Int32} {i x y : Int32} (he : ws[q0]? = some (a, .inl (cZ, n, .inl f))) (hi : Ix i j n) (hy : vp_nar .boolean x = y) (hws : ws.set q0 (a, .inl (cZ, n, .inl (upd f j y))) = ws2) (d : decode cc pc = .ok (.bastore, 1)) (hp : pc + 1 = pc2) (h : G K cI cZ cc nL own Ts R ce sl ws2 pc2 lv st) : G K cI cZ cc nL own Ts R ce sl ws pc lv (.int x :: .int i :: .ref a :: st) := by
  obtain ⟨p, l, e, s, m, args, below, meth, c, Q, A, D⟩ := K
  intro hx hb hml hown hts hK hA hlk H locs ls hP hD hS hl
  subst hp
  subst hws
  subst hy
  rw [← hi.cl] at h
  exact va_zast hx hb hK hP hD hS q0 1 he rfl hi.vin d (fun H2 locs2 hP2 hD2 hS2 => h hx hb hml hown hts hK hA hlk H2 locs2 ls hP2 hD2 hS2 hl)
theorem G.alen {q0 n a : Nat} {f : Nat → Int32} (he : ws[q0]? = some (a, .inl (cI, n, .inl f))) (d : decode cc pc = .ok (.arraylength, 1)) (hp : pc + 1 = pc2) (h : G K cI cZ cc nL own Ts R ce sl ws pc2 lv (.int (nI n) :: st)) : G K cI cZ cc nL own Ts R ce sl ws pc lv (.ref a :: st) := by
  obtain ⟨p, l, e, s, m, args, below, meth, c, Q, A, D⟩ := K
  intro hx hb hml hown hts hK hA hlk H locs ls hP hD hS hl
  subst hp
  exact va_alen hx hb hK hP q0 0 he rfl rfl d (h hx hb hml hown hts hK hA hlk H locs ls hP hD hS hl)
theorem G.same {q0 n a : Nat} {c0 : ClassId} {f g : Nat → Int32} (he : ws[q0]? = some (a, .inl (c0, n, .inl f))) (hfg : ∀ j, j < n → f j = g j) (hws : ws.set q0 (a, .inl (c0, n, .inl g)) = ws2) (h : G K cI cZ cc nL own Ts R ce sl ws2 pc lv st) : G K cI cZ cc nL own Ts R ce sl ws pc lv st := by
  obtain ⟨p, l, e, s, m, args, below, meth, c, Q, A, D⟩ := K
  intro hx hb hml hown hts hK hA hlk H locs ls hP hD hS hl
  subst hws
  have hc : vp_cell c0 (n, .inl f) = vp_cell c0 (n, .inl g) := by
    rw [vp_cell_i, vp_cell_i]
    unfold arrV
    congr 1
    congr 1
    funext j
    show Value.int (f j.val) = Value.int (g j.val)
    rw [hfg j.val j.isLt]
  have h1 := hP q0 _ he
  have h2 : va_at D vwCl (a, .inl (c0, n, .inl g)) H := by
    show H[a]? = some (vp_cell c0 (n, .inl g))
    rw [← hc]
    exact h1
  exact h hx hb hml hown hts hK hA hlk H locs ls (hP.set hD he h2 (fun _ _ => rfl)) (hD.set he) hS hl
theorem G.ireturn {ty : FieldType} {Rt : Option Int32 → va_W → Prop} {v : Int32} (hR : RetOK K cI cZ ce sl (some ty) Rt) (hn : narrow ty (.int v) = .int v) (d : decode cc pc = .ok (.ireturn, 1)) (hr : Rt (some v) ws) : G K cI cZ cc nL own Ts R ce sl ws pc lv [.int v] := by
  obtain ⟨p, l, e, s, m, args, below, meth, c, Q, A, D⟩ := K
  intro hx hb hml hown hts hK hA hlk H locs ls hP hD hS hl
  obtain ⟨hr1, rfl⟩ := hR
  exact W.zret hx hb hr1 hn (fun t ht hW => ⟨⟨some v, ws, rfl, hr, by rw [ht]; exact hP, va_K.moved hW.alike hK, hD⟩, hS.F ht⟩) hS.2.2 d hlk
theorem G.vreturn {Rt : Option Int32 → va_W → Prop} (hR : RetOK K cI cZ ce sl none Rt) (d : decode cc pc = .ok (.return_, 1)) (hr : Rt none ws) : G K cI cZ cc nL own Ts R ce sl ws pc lv [] := by
  obtain ⟨p, l, e, s, m, args, below, meth, c, Q, A, D⟩ := K
  intro hx hb hml hown hts hK hA hlk H locs ls hP hD hS hl
  obtain ⟨hr1, rfl⟩ := hR
  exact W.vret hx hb hr1 (fun t ht hW => ⟨⟨none, ws, rfl, hr, by rw [ht]; exact hP, va_K.moved hW.alike hK, hD⟩, hS.F ht⟩) hS.2.2 d hlk
theorem G.callV {y : MethodName} {wsY wsY2 : List Cond} {rmY : Room} {q0 ci b idx maxL n mc ms i j : Nat} {bytes : ByteArray} {ret : Option FieldType} {As rest : List Value} {wc : va_W} {Rt : Option Int32 → va_W → Prop}  {C : String} {q : vw_C} {fs : List Value} (hM : Ct y wsY rmY cI cZ (.ref b :: As) wc mc ms Rt) (hG : GoodIn Ts (wsV own idx C y wsY)) (hw : wsY = Cond.code y bytes maxL ret :: wsY2) (hrc : rmY.cells = mc) (hrs : rmY.slots = ms) (hd : y.cls = C ∧ y.cls ≠ "java/lang/invoke/MethodHandle" ∧ y.cls ≠ "java/lang/invoke/VarHandle" ∧ (parseMethodDescriptor y.desc).map (fun d => d.parameters.length) = some n) (hR : rmY.frames + 1 ≤ R.frames ∧ 8 + (maxL + 11) + rmY.locals ≤ R.locals) (hf : ce + mc ≤ R.cells ∧ sl + ms ≤ R.slots) (hn : As.length = n) (hst : st = As.reverse ++ .ref b :: rest) (hroom : (rest.map fun v => v.category).sum ≤ 8) (hws : ws = ws.take i ++ (wc ++ ws.drop j)) (he : ws[q0]? = some (b, .inr (ci, fs))) (hc : vwCl[ci]? = some q) (hq : q.1 = C) (d : decode cc pc = .ok (.invokevirtual idx, 3)) (hp : pc + 3 = pc2) (h : ∀ (v : Option Int32) (wc2 : va_W), Rt v wc2 → G K cI cZ cc nL own Ts R (ce + mc) (sl + ms) (ws.take i ++ (wc2 ++ ws.drop j)) pc2 lv ((v.map Value.int).toList ++ rest)) : G K cI cZ cc nL own Ts R ce sl ws pc lv st := by
  obtain ⟨p, l, e, s, m, args, below, meth, c, Q, A, D⟩ := K
  intro hx hb hml hown hts hK hA hlk H locs ls hP hD hS hl
  subst hp
  subst hst
  have hP3 : va_P D vwCl (ws.take i ++ (wc ++ ws.drop j)) H := by rw [← hws]; exact hP
  have hD3 : va_D A (ws.take i ++ (wc ++ ws.drop j)) := by rw [← hws]; exact hD
  have hPc := vP_l (vP_r hP3)
  have hDc := vD_l (vD_r hD3)
  have hF : ∀ q, va_A wc H.size q → A q := by
    intro q hq
    rcases hq with ⟨k, e9, hq⟩ | hq
    · exact hDc.2 k _ hq
    · exact hA q (Nat.le_trans hS.1 hq)
  have run := va_runV (cells := ce) (slots := sl) (e := e) (below := below) (meth := meth) (locs := locs) (As := As) (rest := rest) (b := b) (g := F0 m pc ls (As.reverse ++ .ref b :: rest)) ⟨hx, hb, hml, hown, hts⟩ (hM l D H.size) (cwV n hts hG hw hrc hrs hd hR) ⟨fun a U g mk q => by obtain ⟨q0, q1, qP, qK, qD⟩ := q; exact ⟨q0, q1, qP, va_K.moved (u := U) (U := U.calling g mk a) (Vm.Alike.refl U.vm) qK, qD⟩, hq ▸ va_recv hK hP hc he, fun U hU hW => ⟨rfl, by rw [hU], by rw [hU]; exact hPc, va_K.moved hW.alike hK, hDc.weaken (fun _ _ _ _ => trivial)⟩⟩ rfl hn hl.1 rfl (lv_room hroom) d hf
  intro T hT X
  obtain ⟨v, st₀, t, T2, L, h0, X2, hL, e1, e2, ⟨⟨r, wc2, hv, hr, hP1, hK1, hD1⟩, hz, hk⟩, stp⟩ := run T hT X
  cases hv
  rw [h0] at hz hk
  obtain ⟨hPn, hDn⟩ := joinM (H1 := T2.heap) hP3 hD3 (fun q h1 h2 => by rw [e1]; exact hk q h1 h2) hF (by rw [e1]; exact hP1) hD1
  have hSn : va_S A s.heap T2.heap (locs ++ L) := ⟨Nat.le_trans hS.1 (by rw [e1]; exact hz), fun q h1 h2 => by
      rw [e1, hk q (Nat.lt_of_lt_of_le h1 hS.1) (fun z => h2 (hF q z))]
      exact hS.2.1 q h1 h2, fun q hq => by
      rcases List.mem_append.mp hq with h9 | h9
      · exact hS.2.2 q h9
      · exact hF _ (hL q h9)⟩
  obtain ⟨t2, a1, b1⟩ := h r wc2 hr hx hb hml hown hts hK hA hlk T2.heap (locs ++ L) ls hPn hDn hSn hl T2 rfl X2
  exact ⟨t2, stp t2 a1, b1⟩
theorem G.callS {y : MethodName} {wsY wsY2 : List Cond} {rmY : Room} {idx maxL n mc ms i j : Nat} {bytes : ByteArray} {ret : Option FieldType} {As rest : List Value} {wc : va_W} {Rt : Option Int32 → va_W → Prop}   (hM : Ct y wsY rmY cI cZ As wc mc ms Rt) (hG : GoodIn Ts (va_wsS own idx y wsY)) (hw : wsY = Cond.code y bytes maxL ret :: wsY2) (hrc : rmY.cells = mc) (hrs : rmY.slots = ms) (hd : y.cls ≠ "java/lang/invoke/MethodHandle" ∧ y.cls ≠ "java/lang/invoke/VarHandle" ∧ (parseMethodDescriptor y.desc).map (fun d => d.parameters.length) = some n) (hR : rmY.frames + 1 ≤ R.frames ∧ 8 + (maxL + 11) + rmY.locals ≤ R.locals) (hf : ce + mc ≤ R.cells ∧ sl + ms ≤ R.slots) (hn : As.length = n) (hst : st = As.reverse ++ rest) (hroom : (rest.map fun v => v.category).sum ≤ 8) (hws : ws = ws.take i ++ (wc ++ ws.drop j))  (d : decode cc pc = .ok (.invokestatic idx, 3)) (hp : pc + 3 = pc2) (h : ∀ (v : Option Int32) (wc2 : va_W), Rt v wc2 → G K cI cZ cc nL own Ts R (ce + mc) (sl + ms) (ws.take i ++ (wc2 ++ ws.drop j)) pc2 lv ((v.map Value.int).toList ++ rest)) : G K cI cZ cc nL own Ts R ce sl ws pc lv st := by
  obtain ⟨p, l, e, s, m, args, below, meth, c, Q, A, D⟩ := K
  intro hx hb hml hown hts hK hA hlk H locs ls hP hD hS hl
  subst hp
  subst hst
  have hP3 : va_P D vwCl (ws.take i ++ (wc ++ ws.drop j)) H := by rw [← hws]; exact hP
  have hD3 : va_D A (ws.take i ++ (wc ++ ws.drop j)) := by rw [← hws]; exact hD
  have hPc := vP_l (vP_r hP3)
  have hDc := vD_l (vD_r hD3)
  have hF : ∀ q, va_A wc H.size q → A q := by
    intro q hq
    rcases hq with ⟨k, e9, hq⟩ | hq
    · exact hDc.2 k _ hq
    · exact hA q (Nat.le_trans hS.1 hq)
  have run := va_runS (cells := ce) (slots := sl) (e := e) (below := below) (meth := meth) (locs := locs) (As := As) (rest := rest) (g := F0 m pc ls (As.reverse ++ rest)) ⟨hx, hb, hml, hown, hts⟩ (hM l D H.size) (va_cwS n hts hG hw hrc hrs hd hR) ⟨fun a U g mk q => by obtain ⟨q0, q1, qP, qK, qD⟩ := q; exact ⟨q0, q1, qP, va_K.moved (u := U) (U := U.calling g mk a) (Vm.Alike.refl U.vm) qK, qD⟩, fun U hU hW => ⟨rfl, by rw [hU], by rw [hU]; exact hPc, va_K.moved hW.alike hK, hDc.weaken (fun _ _ _ _ => trivial)⟩⟩ rfl hn hl.1 rfl (lv_room hroom) d hf
  intro T hT X
  obtain ⟨v, st₀, t, T2, L, h0, X2, hL, e1, e2, ⟨⟨r, wc2, hv, hr, hP1, hK1, hD1⟩, hz, hk⟩, stp⟩ := run T hT X
  cases hv
  rw [h0] at hz hk
  obtain ⟨hPn, hDn⟩ := joinM (H1 := T2.heap) hP3 hD3 (fun q h1 h2 => by rw [e1]; exact hk q h1 h2) hF (by rw [e1]; exact hP1) hD1
  have hSn : va_S A s.heap T2.heap (locs ++ L) := ⟨Nat.le_trans hS.1 (by rw [e1]; exact hz), fun q h1 h2 => by
      rw [e1, hk q (Nat.lt_of_lt_of_le h1 hS.1) (fun z => h2 (hF q z))]
      exact hS.2.1 q h1 h2, fun q hq => by
      rcases List.mem_append.mp hq with h9 | h9
      · exact hS.2.2 q h9
      · exact hF _ (hL q h9)⟩
  obtain ⟨t2, a1, b1⟩ := h r wc2 hr hx hb hml hown hts hK hA hlk T2.heap (locs ++ L) ls hPn hDn hSn hl T2 rfl X2
  exact ⟨t2, stp t2 a1, b1⟩
theorem G.callVd {y : MethodName} {wsY wsY2 : List Cond} {rmY : Room} {q0 ci b idx maxL n i j : Nat} {bytes : ByteArray} {ret : Option FieldType} {As rest : List Value} {wc : va_W}  {C : String} {q : vw_C} {fs : List Value} {v : Option Int32} {wc2 : va_W} {st2 : List Value} (hM : Ct y wsY rmY cI cZ (.ref b :: As) wc 0 0 (rt v wc2)) (hG : GoodIn Ts (wsV own idx C y wsY)) (hw : wsY = Cond.code y bytes maxL ret :: wsY2) (hrc : rmY.cells = 0) (hrs : rmY.slots = 0) (hd : y.cls = C ∧ y.cls ≠ "java/lang/invoke/MethodHandle" ∧ y.cls ≠ "java/lang/invoke/VarHandle" ∧ (parseMethodDescriptor y.desc).map (fun d => d.parameters.length) = some n) (hR : rmY.frames + 1 ≤ R.frames ∧ 8 + (maxL + 11) + rmY.locals ≤ R.locals) (hf : ce ≤ R.cells ∧ sl ≤ R.slots) (hn : As.length = n) (hst : st = As.reverse ++ .ref b :: rest) (hroom : (rest.map fun v => v.category).sum ≤ 8) (hws : ws = ws.take i ++ (wc ++ ws.drop j)) (he : ws[q0]? = some (b, .inr (ci, fs))) (hc : vwCl[ci]? = some q) (hq : q.1 = C) (hws2 : ws.take i ++ (wc2 ++ ws.drop j) = ws2) (hst2 : (v.map Value.int).toList ++ rest = st2) (d : decode cc pc = .ok (.invokevirtual idx, 3)) (hp : pc + 3 = pc2) (h : G K cI cZ cc nL own Ts R ce sl ws2 pc2 lv st2) : G K cI cZ cc nL own Ts R ce sl ws pc lv st := by
  refine G.callV hM hG hw hrc hrs hd hR hf hn hst hroom hws he hc hq d hp ?_
  rintro _ _ ⟨rfl, rfl⟩
  rw [hws2, hst2]
  exact h
theorem G.callSd {y : MethodName} {wsY wsY2 : List Cond} {rmY : Room} {idx maxL n i j : Nat} {bytes : ByteArray} {ret : Option FieldType} {As rest : List Value} {wc : va_W}   {v : Option Int32} {wc2 : va_W} {st2 : List Value} (hM : Ct y wsY rmY cI cZ As wc 0 0 (rt v wc2)) (hG : GoodIn Ts (va_wsS own idx y wsY)) (hw : wsY = Cond.code y bytes maxL ret :: wsY2) (hrc : rmY.cells = 0) (hrs : rmY.slots = 0) (hd : y.cls ≠ "java/lang/invoke/MethodHandle" ∧ y.cls ≠ "java/lang/invoke/VarHandle" ∧ (parseMethodDescriptor y.desc).map (fun d => d.parameters.length) = some n) (hR : rmY.frames + 1 ≤ R.frames ∧ 8 + (maxL + 11) + rmY.locals ≤ R.locals) (hf : ce ≤ R.cells ∧ sl ≤ R.slots) (hn : As.length = n) (hst : st = As.reverse ++ rest) (hroom : (rest.map fun v => v.category).sum ≤ 8) (hws : ws = ws.take i ++ (wc ++ ws.drop j))  (hws2 : ws.take i ++ (wc2 ++ ws.drop j) = ws2) (hst2 : (v.map Value.int).toList ++ rest = st2) (d : decode cc pc = .ok (.invokestatic idx, 3)) (hp : pc + 3 = pc2) (h : G K cI cZ cc nL own Ts R ce sl ws2 pc2 lv st2) : G K cI cZ cc nL own Ts R ce sl ws pc lv st := by
  refine G.callS hM hG hw hrc hrs hd hR hf hn hst hroom hws  d hp ?_
  rintro _ _ ⟨rfl, rfl⟩
  rw [hws2, hst2]
  exact h
theorem G.mmin {x y v : Int32} {idx : Nat} (hlk2 : Cond.methodLink own idx Lib.Math.min.name ∈ Ts) (hst : Cond.static Lib.Math.min.name ∈ Ts) (hin : Cond.initialized "java/lang/Math" ∈ Ts) (hco : Cond.code Lib.Math.min.name Lib.Math.min.code 2 (some .int) ∈ Ts) (hR : 1 ≤ R.frames ∧ (st.map fun v => v.category).sum + 13 ≤ R.locals) (hf : ce ≤ R.cells ∧ sl ≤ R.slots) (hv : (if y < x then y else x) = v) (d : decode cc pc = .ok (.invokestatic idx, 3)) (hp : pc + 3 = pc2) (h : G K cI cZ cc nL own Ts R ce sl ws pc2 lv (.int v :: st)) : G K cI cZ cc nL own Ts R ce sl ws pc lv (.int y :: .int x :: st) := by
  obtain ⟨p, l, e, s, m, args, below, meth, c, Q, A, D⟩ := K
  intro hx hb hml hown hts hK hA hlk H locs ls hP hD hS hl
  subst hp
  subst hv
  exact va_mmin hx hb (hml.trans hl.1.symm) hown (hts _ hlk2) (hts _ hst) (hts _ hin) (hts _ hco) hR.1 hR.2 hf.1 hf.2 d (h hx hb hml hown hts hK hA hlk H locs ls hP hD hS hl)
end GL
end
section
/-! ===== states and worlds ===== -/
abbrev SD : Type := (Nat → Int32) × Int32 × Int32
abbrev SF : Type := (Nat → Int32) × (Nat → Int32) × (Nat → Int32) × (Nat → Int32) × Int32 × Int32
abbrev SFm : Type := (Nat → Int32) × (Nat → Int32) × (Nat → Int32) × (Nat → Int32) × Int32
abbrev SQ : Type := (Nat → Int32) × (Nat → Int32) × Int32 × Int32
abbrev SH : Type := (Nat → Int32) × (Nat → Int32) × Int32
abbrev SC : Type := Int32 × Int32 × Int32 × Int32 × Int32 × Int32
abbrev SX : Type := SD × SF × SQ × SH × SC
abbrev SM : Type := SD × SFm × SQ × SH × SC
abbrev ix (p : Int32) : Nat := p.toNatClampNeg
def wA (q : Nat) (cI : ClassId) (u : Nat → Int32) : va_W := [(q, .inl (cI, 64, .inl u))]
def wD (o a : Nat) (cI : ClassId) (u : SD) : va_W := [(o, .inr (0, [.ref a, .int u.2.1, .int u.2.2])), (a, .inl (cI, 64, .inl u.1))]
def wF (o r c v p : Nat) (cI cZ : ClassId) (u : SF) : va_W := [(o, .inr (1, [.ref r, .ref c, .ref v, .ref p, .int u.2.2.2.2.1, .int u.2.2.2.2.2])), (r, .inl (cZ, 64, .inl u.1)), (c, .inl (cZ, 64, .inl u.2.1)), (v, .inl (cI, 64, .inl u.2.2.1)), (p, .inl (cI, 64, .inl u.2.2.2.1))]
def wH (o t b : Nat) (cI : ClassId) (u : SH) : va_W := [(o, .inr (2, [.ref t, .ref b, .int u.2.2])), (t, .inl (cI, 192, .inl u.1)), (b, .inl (cI, 64, .inl u.2.1))]
def wQ (o g v : Nat) (cI : ClassId) (u : SQ) : va_W := [(o, .inr (3, [.ref g, .ref v, .int u.2.2.1, .int u.2.2.2])), (g, .inl (cI, 8, .inl u.1)), (v, .inl (cI, 8, .inl u.2.1))]
def wX (a : Nat → Nat) (cI cZ : ClassId) (u : SX) : va_W := (a 0, .inr (4, [.ref (a 1), .ref (a 3), .ref (a 8), .ref (a 11), .int u.2.2.2.2.1, .int u.2.2.2.2.2.1, .int u.2.2.2.2.2.2.1, .int u.2.2.2.2.2.2.2.1, .int u.2.2.2.2.2.2.2.2.1, .int u.2.2.2.2.2.2.2.2.2])) :: (wD (a 1) (a 2) cI u.1 ++ (wF (a 3) (a 4) (a 5) (a 6) (a 7) cI cZ u.2.1 ++ (wQ (a 8) (a 9) (a 10) cI u.2.2.1 ++ wH (a 11) (a 12) (a 13) cI u.2.2.2.1)))
def wM (a : Nat → Nat) (cI cZ : ClassId) (u : SM) : va_W := [(a 0, .inr (5, [.int u.2.1.2.2.2.2, .int u.2.2.2.1.2.2, .int u.2.2.1.2.2.1, .int u.2.2.2.2.1, .int u.2.2.2.2.2.1, .int u.2.2.2.2.2.2.1, .int u.2.2.2.2.2.2.2.1, .int u.2.2.2.2.2.2.2.2.1, .int u.1.2.1, .int u.1.2.2, .int u.2.2.2.2.2.2.2.2.2, .ref (a 1), .ref (a 2), .ref (a 3), .ref (a 4), .ref (a 5), .ref (a 6), .ref (a 7), .ref (a 8), .ref (a 9), .int u.2.2.1.2.2.2])), (a 1, .inl (cI, 64, .inl u.1.1)), (a 2, .inl (cI, 64, .inl u.2.1.2.2.1)), (a 3, .inl (cI, 64, .inl u.2.1.2.2.2.1)), (a 4, .inl (cZ, 64, .inl u.2.1.1)), (a 5, .inl (cZ, 64, .inl u.2.1.2.1)), (a 6, .inl (cI, 192, .inl u.2.2.2.1.1)), (a 7, .inl (cI, 64, .inl u.2.2.2.1.2.1)), (a 8, .inl (cI, 8, .inl u.2.2.1.1)), (a 9, .inl (cI, 8, .inl u.2.2.1.2.1))]
def lsJ7_fill_53178_5 (p1 : Int32) : Nat → (Nat → Int32) → Int32 → (Nat → Int32)
  | 0, w, _ => w
  | n + 1, w, l2 => if l2 < (nI 64) then lsJ7_fill_53178_5 p1 n (upd w (ix l2) p1) (l2 + 1) else w
def sJ7_fill_53178 (u : (Nat → Int32)) (p1 : Int32) : (Nat → Int32) := lsJ7_fill_53178_5 p1 65 u 0
def sX0_erase (u : SD) : SD := ((sJ7_fill_53178 u.1 0), 0, 0)
def sX1_vacate (u : SF) (p0 : Int32) : SF := (upd u.1 (ix p0) 0, upd u.2.1 (ix p0) 0, u.2.2.1, upd u.2.2.2.1 (ix p0) 0, u.2.2.2.2.1, u.2.2.2.2.2)
def lsX1_empty_2 (p0 : Int32) : Nat → SF → Int32 → SF
  | 0, w, _ => w
  | n + 1, w, l2 => if l2 < 64 then lsX1_empty_2 p0 n (sX1_vacate w l2) (l2 + 1) else (w.1, w.2.1, w.2.2.1, w.2.2.2.1, p0, 0)
def sX1_empty (u : SF) (p0 : Int32) : SF := lsX1_empty_2 p0 65 u 0
def sX3_empty (u : SQ) (p0 : Int32) : SQ := (u.1, u.2.1, p0, 0)
def sX2_forgetAll (u : SH) (p0 : Int32) : SH := (u.1, (sJ7_fill_53178 u.2.1 0), p0)
def sX4_startAnew (u : SX) (p0 p1 p2 p3 : Int32) : SX := ((sX0_erase u.1), (sX1_empty u.2.1 p0), (sX3_empty u.2.2.1 p2), (sX2_forgetAll u.2.2.2.1 p1), (p3, 0, 0, 0, 0, 0))
def vX4_isWithin (p0 p1 p2 : Int32) : Int32 := if p0 < p1 then 0 else if p2 < p0 then 0 else 1
def vX4_reset (u : SX) (p0 p1 p2 p3 : Int32) : Int32 := if (vX4_isWithin p0 1 16) = 0 then (-8) else if (vX4_isWithin p1 1 3) = 0 then (-8) else if (vX4_isWithin p2 1 8) = 0 then (-8) else if (vX4_isWithin p3 0 9999) = 0 then (-8) else 0
def sX4_reset (u : SX) (p0 p1 p2 p3 : Int32) : SX := if (vX4_isWithin p0 1 16) = 0 then u else if (vX4_isWithin p1 1 3) = 0 then u else if (vX4_isWithin p2 1 8) = 0 then u else if (vX4_isWithin p3 0 9999) = 0 then u else (sX4_startAnew u p0 p1 p2 p3)
def vX4_isPage (p0 : Int32) : Int32 := (vX4_isWithin p0 0 63)
def vX1_holds (u : SF) (p0 : Int32) : Int32 := u.1 (ix p0)
def vX1_areFull (u : SF) : Int32 := if u.2.2.2.2.2 < u.2.2.2.2.1 then 0 else 1
def vX1_pinsOf (u : SF) (p0 : Int32) : Int32 := u.2.2.2.1 (ix p0)
def vX2_timeOf (u : SH) (p0 p1 : Int32) : Int32 := if p1 < 1 then (-9) else if (u.2.1 (ix p0)) < p1 then (-9) else u.1 (ix (((p0 * 3) + p1) - 1))
def vX2_goesBefore (u : SH) (p0 p1 : Int32) : Int32 := if (u.2.1 (ix p0)) < u.2.2 then (if (u.2.1 (ix p1)) < u.2.2 then (if (vX2_timeOf u p0 1) < (vX2_timeOf u p1 1) then 1 else 0) else 1) else if (u.2.1 (ix p1)) < u.2.2 then 0 else if (vX2_timeOf u p0 u.2.2) < (vX2_timeOf u p1 u.2.2) then 1 else 0
def lvX4_chooseVictim_5 (u : SX) : Nat → Int32 → Int32 → Int32
  | 0, _, _ => 0
  | n + 1, l1, l2 => if l2 < 64 then (if (vX1_holds u.2.1 l2) = 0 then lvX4_chooseVictim_5 u n l1 (l2 + 1) else if (vX1_pinsOf u.2.1 l2) = 0 then (if l1 = (-9) then lvX4_chooseVictim_5 u n l2 (l2 + 1) else if (vX2_goesBefore u.2.2.2.1 l2 l1) = 0 then lvX4_chooseVictim_5 u n l1 (l2 + 1) else lvX4_chooseVictim_5 u n l2 (l2 + 1)) else lvX4_chooseVictim_5 u n l1 (l2 + 1)) else l1
def vX4_chooseVictim (u : SX) : Int32 := lvX4_chooseVictim_5 u 65 (-9) 0
def vX4_canReference (u : SX) (p0 : Int32) : Int32 := if (vX1_holds u.2.1 p0) = 0 then (if (vX1_areFull u.2.1) = 0 then 1 else if (vX4_chooseVictim u) = (-9) then 0 else 1) else 1
def vX1_isChanged (u : SF) (p0 : Int32) : Int32 := u.2.1 (ix p0)
def sX1_release (u : SF) (p0 : Int32) : SF := ((sX1_vacate u p0).1, (sX1_vacate u p0).2.1, (sX1_vacate u p0).2.2.1, (sX1_vacate u p0).2.2.2.1, (sX1_vacate u p0).2.2.2.2.1, (sX1_vacate u p0).2.2.2.2.2 - 1)
def vX3_isFull (u : SQ) : Int32 := if u.2.2.2 < u.2.2.1 then 0 else 1
def vX1_valueOf (u : SF) (p0 : Int32) : Int32 := u.2.2.1 (ix p0)
def sX3_append (u : SQ) (p0 p1 : Int32) : SQ := if (vX3_isFull u) = 0 then (upd u.1 (ix u.2.2.2) p0, upd u.2.1 (ix u.2.2.2) p1, u.2.2.1, u.2.2.2 + 1) else u
def vX3_has (u : SQ) (p0 : Int32) : Int32 := if p0 < 0 then 0 else if p0 < u.2.2.2 then 1 else 0
def vX3_pageAt (u : SQ) (p0 : Int32) : Int32 := if (vX3_has u p0) = 0 then (-9) else u.1 (ix p0)
def vX3_valueAt (u : SQ) (p0 : Int32) : Int32 := if (vX3_has u p0) = 0 then (-9) else u.2.1 (ix p0)
def sX0_store (u : SD) (p0 p1 : Int32) : SD := (upd u.1 (ix p0) p1, u.2.1, u.2.2 + 1)
def lsX3_removeAt_21 (p0 : Int32) : Nat → SQ → Int32 → SQ
  | 0, w, _ => w
  | n + 1, w, l2 => if l2 < w.2.2.2 then lsX3_removeAt_21 p0 n (upd w.1 (ix l2) (w.1 (ix (l2 + 1))), upd w.2.1 (ix l2) (w.2.1 (ix (l2 + 1))), w.2.2.1, w.2.2.2) (l2 + 1) else w
def sX3_removeAt (u : SQ) (p0 : Int32) : SQ := if (vX3_has u p0) = 0 then u else lsX3_removeAt_21 p0 9 (u.1, u.2.1, u.2.2.1, u.2.2.2 - 1) p0
def sX4_writeEntry (u : SX) (p0 : Int32) : SX := if (vX3_pageAt u.2.2.1 p0) = (-9) then u else ((sX0_store u.1 (vX3_pageAt u.2.2.1 p0) (vX3_valueAt u.2.2.1 p0)), u.2.1, (sX3_removeAt u.2.2.1 p0), u.2.2.2.1, u.2.2.2.2)
def sX4_enqueue (u : SX) (p0 : Int32) : SX := if (vX3_isFull u.2.2.1) = 0 then (u.1, u.2.1, (sX3_append u.2.2.1 p0 (vX1_valueOf u.2.1 p0)), u.2.2.2.1, u.2.2.2.2) else ((sX4_writeEntry u 0).1, (sX4_writeEntry u 0).2.1, (sX3_append (sX4_writeEntry u 0).2.2.1 p0 (vX1_valueOf (sX4_writeEntry u 0).2.1 p0)), (sX4_writeEntry u 0).2.2.2.1, ((sX4_writeEntry u 0).2.2.2.2.1, (sX4_writeEntry u 0).2.2.2.2.2.1, (sX4_writeEntry u 0).2.2.2.2.2.2.1, (sX4_writeEntry u 0).2.2.2.2.2.2.2.1, (sX4_writeEntry u 0).2.2.2.2.2.2.2.2.1, (sX4_writeEntry u 0).2.2.2.2.2.2.2.2.2 + 1))
def sX4_makeRoom (u : SX) : SX := if (vX1_areFull u.2.1) = 0 then u else if (vX4_chooseVictim u) = (-9) then u else if (vX1_isChanged u.2.1 (vX4_chooseVictim u)) = 0 then (u.1, (sX1_release u.2.1 (vX4_chooseVictim u)), u.2.2.1, u.2.2.2.1, (u.2.2.2.2.1, u.2.2.2.2.2.1, u.2.2.2.2.2.2.1, u.2.2.2.2.2.2.2.1, u.2.2.2.2.2.2.2.2.1 + 1, u.2.2.2.2.2.2.2.2.2)) else ((sX4_enqueue u (vX4_chooseVictim u)).1, (sX1_release (sX4_enqueue u (vX4_chooseVictim u)).2.1 (vX4_chooseVictim u)), (sX4_enqueue u (vX4_chooseVictim u)).2.2.1, (sX4_enqueue u (vX4_chooseVictim u)).2.2.2.1, ((sX4_enqueue u (vX4_chooseVictim u)).2.2.2.2.1, (sX4_enqueue u (vX4_chooseVictim u)).2.2.2.2.2.1, (sX4_enqueue u (vX4_chooseVictim u)).2.2.2.2.2.2.1, (sX4_enqueue u (vX4_chooseVictim u)).2.2.2.2.2.2.2.1, (sX4_enqueue u (vX4_chooseVictim u)).2.2.2.2.2.2.2.2.1 + 1, (sX4_enqueue u (vX4_chooseVictim u)).2.2.2.2.2.2.2.2.2))
def lvX3_positionOf_2 (u : SQ) (p0 : Int32) : Nat → Int32 → Int32
  | 0, _ => 0
  | n + 1, l2 => if l2 < u.2.2.2 then (if (u.1 (ix l2)) = p0 then l2 else lvX3_positionOf_2 u p0 n (l2 + 1)) else (-9)
def vX3_positionOf (u : SQ) (p0 : Int32) : Int32 := lvX3_positionOf_2 u p0 9 0
def sX1_place (u : SF) (p0 p1 : Int32) : SF := (upd u.1 (ix p0) 1, u.2.1, upd u.2.2.1 (ix p0) p1, u.2.2.2.1, u.2.2.2.2.1, u.2.2.2.2.2 + 1)
def sX1_change (u : SF) (p0 p1 : Int32) : SF := (u.1, upd u.2.1 (ix p0) 1, upd u.2.2.1 (ix p0) p1, u.2.2.2.1, u.2.2.2.2.1, u.2.2.2.2.2)
def vX0_load (u : SD) (p0 : Int32) : Int32 := u.1 (ix p0)
def sX0_load (u : SD) (p0 : Int32) : SD := (u.1, u.2.1 + 1, u.2.2)
def sX4_load (u : SX) (p0 : Int32) : SX := if (vX3_positionOf u.2.2.1 p0) = (-9) then ((sX0_load u.1 p0), (sX1_place u.2.1 p0 (vX0_load u.1 p0)), u.2.2.1, u.2.2.2.1, u.2.2.2.2) else (u.1, (sX1_change (sX1_place u.2.1 p0 (vX3_valueAt u.2.2.1 (vX3_positionOf u.2.2.1 p0))) p0 (vX3_valueAt u.2.2.1 (vX3_positionOf u.2.2.1 p0))), (sX3_removeAt u.2.2.1 (vX3_positionOf u.2.2.1 p0)), u.2.2.2.1, u.2.2.2.2)
def sX2_forget (u : SH) (p0 : Int32) : SH := (u.1, upd u.2.1 (ix p0) 0, u.2.2)
def sX4_forgetIfStale (u : SX) (p0 : Int32) : SX := if (vX2_timeOf u.2.2.2.1 p0 1) = (-9) then u else if u.2.2.2.2.1 < (u.2.2.2.2.2.1 - (vX2_timeOf u.2.2.2.1 p0 1)) then (u.1, u.2.1, u.2.2.1, (sX2_forget u.2.2.2.1 p0), u.2.2.2.2) else u
def lsX2_record_11 (p0 p1 : Int32) : Nat → SH → Int32 → SH
  | 0, w, _ => w
  | n + 1, w, l4 => if (p0 * 3) < l4 then lsX2_record_11 p0 p1 n (upd w.1 (ix l4) (w.1 (ix (l4 - 1))), w.2.1, w.2.2) (l4 + (-1)) else if (w.2.1 (ix p0)) < w.2.2 then (upd w.1 (ix (p0 * 3)) p1, upd w.2.1 (ix p0) ((w.2.1 (ix p0)) + 1), w.2.2) else (upd w.1 (ix (p0 * 3)) p1, w.2.1, w.2.2)
def sX2_record (u : SH) (p0 p1 : Int32) : SH := lsX2_record_11 p0 p1 3 u (((p0 * 3) + 3) - 1)
def sX4_reference (u : SX) (p0 : Int32) : SX := if (vX1_holds u.2.1 p0) = 0 then ((sX4_forgetIfStale (sX4_load (sX4_makeRoom (u.1, u.2.1, u.2.2.1, u.2.2.2.1, (u.2.2.2.2.1, u.2.2.2.2.2.1 + 1, u.2.2.2.2.2.2.1, u.2.2.2.2.2.2.2.1 + 1, u.2.2.2.2.2.2.2.2.1, u.2.2.2.2.2.2.2.2.2))) p0) p0).1, (sX4_forgetIfStale (sX4_load (sX4_makeRoom (u.1, u.2.1, u.2.2.1, u.2.2.2.1, (u.2.2.2.2.1, u.2.2.2.2.2.1 + 1, u.2.2.2.2.2.2.1, u.2.2.2.2.2.2.2.1 + 1, u.2.2.2.2.2.2.2.2.1, u.2.2.2.2.2.2.2.2.2))) p0) p0).2.1, (sX4_forgetIfStale (sX4_load (sX4_makeRoom (u.1, u.2.1, u.2.2.1, u.2.2.2.1, (u.2.2.2.2.1, u.2.2.2.2.2.1 + 1, u.2.2.2.2.2.2.1, u.2.2.2.2.2.2.2.1 + 1, u.2.2.2.2.2.2.2.2.1, u.2.2.2.2.2.2.2.2.2))) p0) p0).2.2.1, (sX2_record (sX4_forgetIfStale (sX4_load (sX4_makeRoom (u.1, u.2.1, u.2.2.1, u.2.2.2.1, (u.2.2.2.2.1, u.2.2.2.2.2.1 + 1, u.2.2.2.2.2.2.1, u.2.2.2.2.2.2.2.1 + 1, u.2.2.2.2.2.2.2.2.1, u.2.2.2.2.2.2.2.2.2))) p0) p0).2.2.2.1 p0 (sX4_forgetIfStale (sX4_load (sX4_makeRoom (u.1, u.2.1, u.2.2.1, u.2.2.2.1, (u.2.2.2.2.1, u.2.2.2.2.2.1 + 1, u.2.2.2.2.2.2.1, u.2.2.2.2.2.2.2.1 + 1, u.2.2.2.2.2.2.2.2.1, u.2.2.2.2.2.2.2.2.2))) p0) p0).2.2.2.2.2.1), (sX4_forgetIfStale (sX4_load (sX4_makeRoom (u.1, u.2.1, u.2.2.1, u.2.2.2.1, (u.2.2.2.2.1, u.2.2.2.2.2.1 + 1, u.2.2.2.2.2.2.1, u.2.2.2.2.2.2.2.1 + 1, u.2.2.2.2.2.2.2.2.1, u.2.2.2.2.2.2.2.2.2))) p0) p0).2.2.2.2) else (u.1, u.2.1, u.2.2.1, (sX2_record u.2.2.2.1 p0 (u.2.2.2.2.2.1 + 1)), (u.2.2.2.2.1, u.2.2.2.2.2.1 + 1, u.2.2.2.2.2.2.1 + 1, u.2.2.2.2.2.2.2.1, u.2.2.2.2.2.2.2.2.1, u.2.2.2.2.2.2.2.2.2))
def vX4_read (u : SX) (p0 : Int32) : Int32 := if (vX4_isPage p0) = 0 then (-1) else if (vX4_canReference u p0) = 0 then (-3) else (vX1_valueOf (sX4_reference u p0).2.1 p0)
def sX4_read (u : SX) (p0 : Int32) : SX := if (vX4_isPage p0) = 0 then u else if (vX4_canReference u p0) = 0 then u else (sX4_reference u p0)
def vX4_write (u : SX) (p0 p1 : Int32) : Int32 := if (vX4_isPage p0) = 0 then (-1) else if (vX4_isWithin p1 0 9999) = 0 then (-2) else if (vX4_canReference u p0) = 0 then (-3) else (vX1_valueOf (sX4_reference u p0).2.1 p0)
def sX4_write (u : SX) (p0 p1 : Int32) : SX := if (vX4_isPage p0) = 0 then u else if (vX4_isWithin p1 0 9999) = 0 then u else if (vX4_canReference u p0) = 0 then u else ((sX4_reference u p0).1, (sX1_change (sX4_reference u p0).2.1 p0 p1), (sX4_reference u p0).2.2.1, (sX4_reference u p0).2.2.2.1, (sX4_reference u p0).2.2.2.2)
def sX1_addPin (u : SF) (p0 : Int32) : SF := (u.1, u.2.1, u.2.2.1, upd u.2.2.2.1 (ix p0) ((u.2.2.2.1 (ix p0)) + 1), u.2.2.2.2.1, u.2.2.2.2.2)
def vX4_pin (u : SX) (p0 : Int32) : Int32 := if (vX4_isPage p0) = 0 then (-1) else if (vX1_pinsOf u.2.1 p0) < 9 then (if (vX4_canReference u p0) = 0 then (-3) else (vX1_pinsOf (sX1_addPin (sX4_reference u p0).2.1 p0) p0)) else (-6)
def sX4_pin (u : SX) (p0 : Int32) : SX := if (vX4_isPage p0) = 0 then u else if (vX1_pinsOf u.2.1 p0) < 9 then (if (vX4_canReference u p0) = 0 then u else ((sX4_reference u p0).1, (sX1_addPin (sX4_reference u p0).2.1 p0), (sX4_reference u p0).2.2.1, (sX4_reference u p0).2.2.2.1, (sX4_reference u p0).2.2.2.2)) else u
def sX1_removePin (u : SF) (p0 : Int32) : SF := (u.1, u.2.1, u.2.2.1, upd u.2.2.2.1 (ix p0) ((u.2.2.2.1 (ix p0)) - 1), u.2.2.2.2.1, u.2.2.2.2.2)
def vX4_unpin (u : SX) (p0 : Int32) : Int32 := if (vX4_isPage p0) = 0 then (-1) else if (vX1_holds u.2.1 p0) = 0 then (-4) else if (vX1_pinsOf u.2.1 p0) = 0 then (-5) else (vX1_pinsOf (sX1_removePin u.2.1 p0) p0)
def sX4_unpin (u : SX) (p0 : Int32) : SX := if (vX4_isPage p0) = 0 then u else if (vX1_holds u.2.1 p0) = 0 then u else if (vX1_pinsOf u.2.1 p0) = 0 then u else (u.1, (sX1_removePin u.2.1 p0), u.2.2.1, u.2.2.2.1, u.2.2.2.2)
def sX1_markClean (u : SF) (p0 : Int32) : SF := (u.1, upd u.2.1 (ix p0) 0, u.2.2.1, u.2.2.2.1, u.2.2.2.2.1, u.2.2.2.2.2)
def sX4_writeFrame (u : SX) (p0 : Int32) : SX := ((sX0_store u.1 p0 (vX1_valueOf u.2.1 p0)), (sX1_markClean u.2.1 p0), u.2.2.1, u.2.2.2.1, u.2.2.2.2)
def vX4_flush (u : SX) (p0 : Int32) : Int32 := if (vX4_isPage p0) = 0 then (-1) else if (vX1_isChanged u.2.1 p0) = 0 then (if (vX3_positionOf u.2.2.1 p0) = (-9) then 0 else 1) else 1
def sX4_flush (u : SX) (p0 : Int32) : SX := if (vX4_isPage p0) = 0 then u else if (vX1_isChanged u.2.1 p0) = 0 then (if (vX3_positionOf u.2.2.1 p0) = (-9) then u else (sX4_writeEntry u (vX3_positionOf u.2.2.1 p0))) else (sX4_writeFrame u p0)
def vX3_length (u : SQ) : Int32 := u.2.2.2
def lvX4_writeOldest_14 (p0 : Int32) : Nat → SX → Int32 → Int32 → Int32
  | 0, w, _, _ => 0
  | n + 1, w, l2, l3 => if l3 < l2 then lvX4_writeOldest_14 p0 n (sX4_writeEntry w 0) l2 (l3 + 1) else l2
def lsX4_writeOldest_14 (p0 : Int32) : Nat → SX → Int32 → Int32 → SX
  | 0, w, _, _ => w
  | n + 1, w, l2, l3 => if l3 < l2 then lsX4_writeOldest_14 p0 n (sX4_writeEntry w 0) l2 (l3 + 1) else w
def vX4_writeOldest (u : SX) (p0 : Int32) : Int32 := lvX4_writeOldest_14 p0 9 u (if (vX3_length u.2.2.1) < p0 then (vX3_length u.2.2.1) else p0) 0
def sX4_writeOldest (u : SX) (p0 : Int32) : SX := lsX4_writeOldest_14 p0 9 u (if (vX3_length u.2.2.1) < p0 then (vX3_length u.2.2.1) else p0) 0
def lvX4_flushAll_14  : Nat → SX → Int32 → Int32 → Int32
  | 0, w, _, _ => 0
  | n + 1, w, l1, l2 => if l2 < 64 then (if (vX1_isChanged w.2.1 l2) = 0 then lvX4_flushAll_14 n w l1 (l2 + 1) else lvX4_flushAll_14 n (sX4_writeFrame w l2) (l1 + 1) (l2 + 1)) else l1
def lsX4_flushAll_14  : Nat → SX → Int32 → Int32 → SX
  | 0, w, _, _ => w
  | n + 1, w, l1, l2 => if l2 < 64 then (if (vX1_isChanged w.2.1 l2) = 0 then lsX4_flushAll_14 n w l1 (l2 + 1) else lsX4_flushAll_14 n (sX4_writeFrame w l2) (l1 + 1) (l2 + 1)) else w
def vX4_flushAll (u : SX) : Int32 := lvX4_flushAll_14 65 (sX4_writeOldest u (vX3_length u.2.2.1)) (vX4_writeOldest u (vX3_length u.2.2.1)) 0
def sX4_flushAll (u : SX) : SX := lsX4_flushAll_14 65 (sX4_writeOldest u (vX3_length u.2.2.1)) (vX4_writeOldest u (vX3_length u.2.2.1)) 0
def vX4_drain (u : SX) (p0 : Int32) : Int32 := if (vX4_isWithin p0 0 8) = 0 then (-8) else (vX4_writeOldest u p0)
def sX4_drain (u : SX) (p0 : Int32) : SX := if (vX4_isWithin p0 0 8) = 0 then u else (sX4_writeOldest u p0)
def vX4_discard (u : SX) (p0 : Int32) : Int32 := if (vX4_isPage p0) = 0 then (-1) else if 0 < (vX1_pinsOf u.2.1 p0) then (-7) else if (vX1_holds u.2.1 p0) = 0 then (if (vX3_positionOf u.2.2.1 p0) = (-9) then 0 else 1) else 1
def sX4_discard (u : SX) (p0 : Int32) : SX := if (vX4_isPage p0) = 0 then u else if 0 < (vX1_pinsOf u.2.1 p0) then u else if (vX1_holds u.2.1 p0) = 0 then (if (vX3_positionOf u.2.2.1 p0) = (-9) then (u.1, u.2.1, u.2.2.1, (sX2_forget u.2.2.2.1 p0), u.2.2.2.2) else (u.1, u.2.1, (sX3_removeAt u.2.2.1 (vX3_positionOf u.2.2.1 p0)), (sX2_forget u.2.2.2.1 p0), u.2.2.2.2)) else (u.1, (sX1_release u.2.1 p0), u.2.2.1, (sX2_forget u.2.2.2.1 p0), u.2.2.2.2)
def vX4_isResident (u : SX) (p0 : Int32) : Int32 := if (vX4_isPage p0) = 0 then (-1) else if (vX1_holds u.2.1 p0) = 0 then 0 else 1
def vX4_isDirty (u : SX) (p0 : Int32) : Int32 := if (vX4_isPage p0) = 0 then (-1) else if (vX1_holds u.2.1 p0) = 0 then (-4) else if (vX1_isChanged u.2.1 p0) = 0 then 0 else 1
def vX4_pinCount (u : SX) (p0 : Int32) : Int32 := if (vX4_isPage p0) = 0 then (-1) else if (vX1_holds u.2.1 p0) = 0 then (-4) else (vX1_pinsOf u.2.1 p0)
def vX2_depth (u : SH) : Int32 := u.2.2
def vX4_referenceTime (u : SX) (p0 p1 : Int32) : Int32 := if (vX4_isPage p0) = 0 then (-1) else if (vX4_isWithin p1 1 (vX2_depth u.2.2.2.1)) = 0 then (-8) else (vX2_timeOf u.2.2.2.1 p0 p1)
def vX4_backwardKDistance (u : SX) (p0 : Int32) : Int32 := if (vX4_isPage p0) = 0 then (-1) else if (vX2_timeOf u.2.2.2.1 p0 (vX2_depth u.2.2.2.1)) = (-9) then (-9) else u.2.2.2.2.2.1 - (vX2_timeOf u.2.2.2.1 p0 (vX2_depth u.2.2.2.1))
def vX4_victim (u : SX) : Int32 := (vX4_chooseVictim u)
def vX0_valueOf (u : SD) (p0 : Int32) : Int32 := u.1 (ix p0)
def vX4_diskValue (u : SX) (p0 : Int32) : Int32 := if (vX4_isPage p0) = 0 then (-1) else (vX0_valueOf u.1 p0)
def vX1_used (u : SF) : Int32 := u.2.2.2.2.2
def vX4_residentCount (u : SX) : Int32 := (vX1_used u.2.1)
def lvX1_pageAt_4 (u : SF) (p0 : Int32) : Nat → Int32 → Int32 → Int32
  | 0, _, _ => 0
  | n + 1, l2, l3 => if l3 < 64 then (if (u.1 (ix l3)) = 0 then lvX1_pageAt_4 u p0 n l2 (l3 + 1) else if l2 = p0 then l3 else lvX1_pageAt_4 u p0 n (l2 + 1) (l3 + 1)) else (-9)
def vX1_pageAt (u : SF) (p0 : Int32) : Int32 := lvX1_pageAt_4 u p0 65 0 0
def vX4_residentPage (u : SX) (p0 : Int32) : Int32 := (vX1_pageAt u.2.1 p0)
def vX4_queueSize (u : SX) : Int32 := (vX3_length u.2.2.1)
def vX4_queuedPage (u : SX) (p0 : Int32) : Int32 := (vX3_pageAt u.2.2.1 p0)
def vX4_queuedValue (u : SX) (p0 : Int32) : Int32 := (vX3_valueAt u.2.2.1 p0)
def vX4_clock (u : SX) : Int32 := u.2.2.2.2.2.1
def vX4_hits (u : SX) : Int32 := u.2.2.2.2.2.2.1
def vX4_misses (u : SX) : Int32 := u.2.2.2.2.2.2.2.1
def vX4_evictions (u : SX) : Int32 := u.2.2.2.2.2.2.2.2.1
def vX0_loads (u : SD) : Int32 := u.2.1
def vX4_diskReads (u : SX) : Int32 := (vX0_loads u.1)
def vX0_stores (u : SD) : Int32 := u.2.2
def vX4_diskWrites (u : SX) : Int32 := (vX0_stores u.1)
def vX4_stalls (u : SX) : Int32 := u.2.2.2.2.2.2.2.2.2
def vX5_isFrom (p0 p1 p2 : Int32) : Int32 := if p0 < p1 then 0 else if p2 < p0 then 0 else 1
def lvX5_reset_111 (p0 p1 p2 p3 : Int32) : Nat → SM → Int32 → Int32
  | 0, w, _ => 0
  | n + 1, w, l5 => if l5 < 64 then lvX5_reset_111 p0 p1 p2 p3 n ((upd w.1.1 (ix l5) 0, w.1.2.1, w.1.2.2), (upd w.2.1.1 (ix l5) 0, w.2.1.2.1, w.2.1.2.2.1, w.2.1.2.2.2.1, w.2.1.2.2.2.2), w.2.2.1, (w.2.2.2.1.1, upd w.2.2.2.1.2.1 (ix l5) 0, w.2.2.2.1.2.2), w.2.2.2.2) (l5 + 1) else 0
def lsX5_reset_111 (p0 p1 p2 p3 : Int32) : Nat → SM → Int32 → SM
  | 0, w, _ => w
  | n + 1, w, l5 => if l5 < 64 then lsX5_reset_111 p0 p1 p2 p3 n ((upd w.1.1 (ix l5) 0, w.1.2.1, w.1.2.2), (upd w.2.1.1 (ix l5) 0, w.2.1.2.1, w.2.1.2.2.1, w.2.1.2.2.2.1, w.2.1.2.2.2.2), w.2.2.1, (w.2.2.2.1.1, upd w.2.2.2.1.2.1 (ix l5) 0, w.2.2.2.1.2.2), w.2.2.2.2) (l5 + 1) else w
def vX5_reset (u : SM) (p0 p1 p2 p3 : Int32) : Int32 := if (vX5_isFrom p0 1 16) = 0 then (-8) else if (vX5_isFrom p1 1 3) = 0 then (-8) else if (vX5_isFrom p2 1 8) = 0 then (-8) else if (vX5_isFrom p3 0 9999) = 0 then (-8) else lvX5_reset_111 p0 p1 p2 p3 65 ((u.1.1, 0, 0), (u.2.1.1, u.2.1.2.1, u.2.1.2.2.1, u.2.1.2.2.2.1, p0), (u.2.2.1.1, u.2.2.1.2.1, p2, 0), (u.2.2.2.1.1, u.2.2.2.1.2.1, p1), (p3, 0, 0, 0, 0, 0)) 0
def sX5_reset (u : SM) (p0 p1 p2 p3 : Int32) : SM := if (vX5_isFrom p0 1 16) = 0 then u else if (vX5_isFrom p1 1 3) = 0 then u else if (vX5_isFrom p2 1 8) = 0 then u else if (vX5_isFrom p3 0 9999) = 0 then u else lsX5_reset_111 p0 p1 p2 p3 65 ((u.1.1, 0, 0), (u.2.1.1, u.2.1.2.1, u.2.1.2.2.1, u.2.1.2.2.2.1, p0), (u.2.2.1.1, u.2.2.1.2.1, p2, 0), (u.2.2.2.1.1, u.2.2.2.1.2.1, p1), (p3, 0, 0, 0, 0, 0)) 0
def vX5_isPage (p0 : Int32) : Int32 := (vX5_isFrom p0 0 63)
def lvX5_residentCount_4 (u : SM) : Nat → Int32 → Int32 → Int32
  | 0, _, _ => 0
  | n + 1, l1, l2 => if l2 < 64 then (if (u.2.1.1 (ix l2)) = 0 then lvX5_residentCount_4 u n l1 (l2 + 1) else lvX5_residentCount_4 u n (l1 + 1) (l2 + 1)) else l1
def vX5_residentCount (u : SM) : Int32 := lvX5_residentCount_4 u 65 0 0
def vX5_time (u : SM) (p0 p1 : Int32) : Int32 := u.2.2.2.1.1 (ix (((3 * p0) + p1) - 1))
def vX5_goesFirst (u : SM) (p0 p1 : Int32) : Int32 := if (u.2.2.2.1.2.1 (ix p0)) < u.2.2.2.1.2.2 then (if (u.2.2.2.1.2.1 (ix p1)) < u.2.2.2.1.2.2 then (if (vX5_time u p0 1) < (vX5_time u p1 1) then 1 else 0) else 1) else if (u.2.2.2.1.2.1 (ix p1)) < u.2.2.2.1.2.2 then 0 else if (vX5_time u p0 u.2.2.2.1.2.2) < (vX5_time u p1 u.2.2.2.1.2.2) then 1 else 0
def lvX5_victim_5 (u : SM) : Nat → Int32 → Int32 → Int32
  | 0, _, _ => 0
  | n + 1, l1, l2 => if l2 < 64 then (if (u.2.1.1 (ix l2)) = 0 then lvX5_victim_5 u n l1 (l2 + 1) else if 0 < (u.2.1.2.2.2.1 (ix l2)) then lvX5_victim_5 u n l1 (l2 + 1) else if l1 = (-9) then lvX5_victim_5 u n l2 (l2 + 1) else if (vX5_goesFirst u l2 l1) = 0 then lvX5_victim_5 u n l1 (l2 + 1) else lvX5_victim_5 u n l2 (l2 + 1)) else l1
def vX5_victim (u : SM) : Int32 := lvX5_victim_5 u 65 (-9) 0
def vX5_canLoad (u : SM) : Int32 := if (vX5_residentCount u) < u.2.1.2.2.2.2 then 1 else if (vX5_victim u) = (-9) then 0 else 1
def vX5_isStuck (u : SM) (p0 : Int32) : Int32 := if (u.2.1.1 (ix p0)) = 0 then (if (vX5_canLoad u) = 0 then 1 else 0) else 0
def lsX5_record_58 (p0 : Int32) : Nat → SM → Int32 → SM
  | 0, w, _ => w
  | n + 1, w, l2 => if 1 < l2 then lsX5_record_58 p0 n (w.1, w.2.1, w.2.2.1, (upd w.2.2.2.1.1 (ix (((3 * p0) + l2) - 1)) (w.2.2.2.1.1 (ix (((3 * p0) + l2) - 2))), w.2.2.2.1.2.1, w.2.2.2.1.2.2), w.2.2.2.2) (l2 + (-1)) else if (w.2.2.2.1.2.1 (ix p0)) < w.2.2.2.1.2.2 then (w.1, w.2.1, w.2.2.1, (upd w.2.2.2.1.1 (ix (3 * p0)) w.2.2.2.2.2.1, upd w.2.2.2.1.2.1 (ix p0) ((w.2.2.2.1.2.1 (ix p0)) + 1), w.2.2.2.1.2.2), w.2.2.2.2) else (w.1, w.2.1, w.2.2.1, (upd w.2.2.2.1.1 (ix (3 * p0)) w.2.2.2.2.2.1, w.2.2.2.1.2.1, w.2.2.2.1.2.2), w.2.2.2.2)
def sX5_record (u : SM) (p0 : Int32) : SM := if (u.2.1.1 (ix p0)) = 0 then (if 0 < (u.2.2.2.1.2.1 (ix p0)) then (if u.2.2.2.2.1 < ((u.2.2.2.2.2.1 + 1) - (vX5_time (u.1, u.2.1, u.2.2.1, u.2.2.2.1, (u.2.2.2.2.1, u.2.2.2.2.2.1 + 1, u.2.2.2.2.2.2.1, u.2.2.2.2.2.2.2.1, u.2.2.2.2.2.2.2.2.1, u.2.2.2.2.2.2.2.2.2)) p0 1)) then lsX5_record_58 p0 3 (u.1, u.2.1, u.2.2.1, (u.2.2.2.1.1, upd u.2.2.2.1.2.1 (ix p0) 0, u.2.2.2.1.2.2), (u.2.2.2.2.1, u.2.2.2.2.2.1 + 1, u.2.2.2.2.2.2.1, u.2.2.2.2.2.2.2.1, u.2.2.2.2.2.2.2.2.1, u.2.2.2.2.2.2.2.2.2)) u.2.2.2.1.2.2 else lsX5_record_58 p0 3 (u.1, u.2.1, u.2.2.1, u.2.2.2.1, (u.2.2.2.2.1, u.2.2.2.2.2.1 + 1, u.2.2.2.2.2.2.1, u.2.2.2.2.2.2.2.1, u.2.2.2.2.2.2.2.2.1, u.2.2.2.2.2.2.2.2.2)) u.2.2.2.1.2.2) else lsX5_record_58 p0 3 (u.1, u.2.1, u.2.2.1, u.2.2.2.1, (u.2.2.2.2.1, u.2.2.2.2.2.1 + 1, u.2.2.2.2.2.2.1, u.2.2.2.2.2.2.2.1, u.2.2.2.2.2.2.2.2.1, u.2.2.2.2.2.2.2.2.2)) u.2.2.2.1.2.2) else lsX5_record_58 p0 3 (u.1, u.2.1, u.2.2.1, u.2.2.2.1, (u.2.2.2.2.1, u.2.2.2.2.2.1 + 1, u.2.2.2.2.2.2.1, u.2.2.2.2.2.2.2.1, u.2.2.2.2.2.2.2.2.1, u.2.2.2.2.2.2.2.2.2)) u.2.2.2.1.2.2
def lvX5_positionInQueue_2 (u : SM) (p0 : Int32) : Nat → Int32 → Int32
  | 0, _ => 0
  | n + 1, l2 => if l2 < u.2.2.1.2.2.2 then (if (u.2.2.1.1 (ix l2)) = p0 then l2 else lvX5_positionInQueue_2 u p0 n (l2 + 1)) else (-9)
def vX5_positionInQueue (u : SM) (p0 : Int32) : Int32 := lvX5_positionInQueue_2 u p0 9 0
def lsX5_removeEntry_12 (p0 : Int32) : Nat → SM → Int32 → SM
  | 0, w, _ => w
  | n + 1, w, l2 => if l2 < w.2.2.1.2.2.2 then lsX5_removeEntry_12 p0 n (w.1, w.2.1, (upd w.2.2.1.1 (ix l2) (w.2.2.1.1 (ix (l2 + 1))), upd w.2.2.1.2.1 (ix l2) (w.2.2.1.2.1 (ix (l2 + 1))), w.2.2.1.2.2.1, w.2.2.1.2.2.2), w.2.2.2.1, w.2.2.2.2) (l2 + 1) else w
def sX5_removeEntry (u : SM) (p0 : Int32) : SM := lsX5_removeEntry_12 p0 9 (u.1, u.2.1, (u.2.2.1.1, u.2.2.1.2.1, u.2.2.1.2.2.1, u.2.2.1.2.2.2 - 1), u.2.2.2.1, u.2.2.2.2) p0
def sX5_writeToDisk (u : SM) (p0 p1 : Int32) : SM := ((upd u.1.1 (ix p0) p1, u.1.2.1, u.1.2.2 + 1), u.2.1, u.2.2.1, u.2.2.2.1, u.2.2.2.2)
def sX5_writeOldest (u : SM) : SM := (sX5_removeEntry (sX5_writeToDisk u (u.2.2.1.1 0) (u.2.2.1.2.1 0)) 0)
def sX5_evict (u : SM) (p0 : Int32) : SM := if (u.2.1.2.1 (ix p0)) = 0 then (u.1, (upd u.2.1.1 (ix p0) 0, u.2.1.2.1, u.2.1.2.2.1, u.2.1.2.2.2.1, u.2.1.2.2.2.2), u.2.2.1, u.2.2.2.1, (u.2.2.2.2.1, u.2.2.2.2.2.1, u.2.2.2.2.2.2.1, u.2.2.2.2.2.2.2.1, u.2.2.2.2.2.2.2.2.1 + 1, u.2.2.2.2.2.2.2.2.2)) else if u.2.2.1.2.2.2 = u.2.2.1.2.2.1 then ((sX5_writeOldest (u.1, (upd u.2.1.1 (ix p0) 0, u.2.1.2.1, u.2.1.2.2.1, u.2.1.2.2.2.1, u.2.1.2.2.2.2), u.2.2.1, u.2.2.2.1, (u.2.2.2.2.1, u.2.2.2.2.2.1, u.2.2.2.2.2.2.1, u.2.2.2.2.2.2.2.1, u.2.2.2.2.2.2.2.2.1 + 1, u.2.2.2.2.2.2.2.2.2 + 1))).1, (sX5_writeOldest (u.1, (upd u.2.1.1 (ix p0) 0, u.2.1.2.1, u.2.1.2.2.1, u.2.1.2.2.2.1, u.2.1.2.2.2.2), u.2.2.1, u.2.2.2.1, (u.2.2.2.2.1, u.2.2.2.2.2.1, u.2.2.2.2.2.2.1, u.2.2.2.2.2.2.2.1, u.2.2.2.2.2.2.2.2.1 + 1, u.2.2.2.2.2.2.2.2.2 + 1))).2.1, (upd (sX5_writeOldest (u.1, (upd u.2.1.1 (ix p0) 0, u.2.1.2.1, u.2.1.2.2.1, u.2.1.2.2.2.1, u.2.1.2.2.2.2), u.2.2.1, u.2.2.2.1, (u.2.2.2.2.1, u.2.2.2.2.2.1, u.2.2.2.2.2.2.1, u.2.2.2.2.2.2.2.1, u.2.2.2.2.2.2.2.2.1 + 1, u.2.2.2.2.2.2.2.2.2 + 1))).2.2.1.1 (ix (sX5_writeOldest (u.1, (upd u.2.1.1 (ix p0) 0, u.2.1.2.1, u.2.1.2.2.1, u.2.1.2.2.2.1, u.2.1.2.2.2.2), u.2.2.1, u.2.2.2.1, (u.2.2.2.2.1, u.2.2.2.2.2.1, u.2.2.2.2.2.2.1, u.2.2.2.2.2.2.2.1, u.2.2.2.2.2.2.2.2.1 + 1, u.2.2.2.2.2.2.2.2.2 + 1))).2.2.1.2.2.2) p0, upd (sX5_writeOldest (u.1, (upd u.2.1.1 (ix p0) 0, u.2.1.2.1, u.2.1.2.2.1, u.2.1.2.2.2.1, u.2.1.2.2.2.2), u.2.2.1, u.2.2.2.1, (u.2.2.2.2.1, u.2.2.2.2.2.1, u.2.2.2.2.2.2.1, u.2.2.2.2.2.2.2.1, u.2.2.2.2.2.2.2.2.1 + 1, u.2.2.2.2.2.2.2.2.2 + 1))).2.2.1.2.1 (ix (sX5_writeOldest (u.1, (upd u.2.1.1 (ix p0) 0, u.2.1.2.1, u.2.1.2.2.1, u.2.1.2.2.2.1, u.2.1.2.2.2.2), u.2.2.1, u.2.2.2.1, (u.2.2.2.2.1, u.2.2.2.2.2.1, u.2.2.2.2.2.2.1, u.2.2.2.2.2.2.2.1, u.2.2.2.2.2.2.2.2.1 + 1, u.2.2.2.2.2.2.2.2.2 + 1))).2.2.1.2.2.2) ((sX5_writeOldest (u.1, (upd u.2.1.1 (ix p0) 0, u.2.1.2.1, u.2.1.2.2.1, u.2.1.2.2.2.1, u.2.1.2.2.2.2), u.2.2.1, u.2.2.2.1, (u.2.2.2.2.1, u.2.2.2.2.2.1, u.2.2.2.2.2.2.1, u.2.2.2.2.2.2.2.1, u.2.2.2.2.2.2.2.2.1 + 1, u.2.2.2.2.2.2.2.2.2 + 1))).2.1.2.2.1 (ix p0)), (sX5_writeOldest (u.1, (upd u.2.1.1 (ix p0) 0, u.2.1.2.1, u.2.1.2.2.1, u.2.1.2.2.2.1, u.2.1.2.2.2.2), u.2.2.1, u.2.2.2.1, (u.2.2.2.2.1, u.2.2.2.2.2.1, u.2.2.2.2.2.2.1, u.2.2.2.2.2.2.2.1, u.2.2.2.2.2.2.2.2.1 + 1, u.2.2.2.2.2.2.2.2.2 + 1))).2.2.1.2.2.1, (sX5_writeOldest (u.1, (upd u.2.1.1 (ix p0) 0, u.2.1.2.1, u.2.1.2.2.1, u.2.1.2.2.2.1, u.2.1.2.2.2.2), u.2.2.1, u.2.2.2.1, (u.2.2.2.2.1, u.2.2.2.2.2.1, u.2.2.2.2.2.2.1, u.2.2.2.2.2.2.2.1, u.2.2.2.2.2.2.2.2.1 + 1, u.2.2.2.2.2.2.2.2.2 + 1))).2.2.1.2.2.2 + 1), (sX5_writeOldest (u.1, (upd u.2.1.1 (ix p0) 0, u.2.1.2.1, u.2.1.2.2.1, u.2.1.2.2.2.1, u.2.1.2.2.2.2), u.2.2.1, u.2.2.2.1, (u.2.2.2.2.1, u.2.2.2.2.2.1, u.2.2.2.2.2.2.1, u.2.2.2.2.2.2.2.1, u.2.2.2.2.2.2.2.2.1 + 1, u.2.2.2.2.2.2.2.2.2 + 1))).2.2.2.1, (sX5_writeOldest (u.1, (upd u.2.1.1 (ix p0) 0, u.2.1.2.1, u.2.1.2.2.1, u.2.1.2.2.2.1, u.2.1.2.2.2.2), u.2.2.1, u.2.2.2.1, (u.2.2.2.2.1, u.2.2.2.2.2.1, u.2.2.2.2.2.2.1, u.2.2.2.2.2.2.2.1, u.2.2.2.2.2.2.2.2.1 + 1, u.2.2.2.2.2.2.2.2.2 + 1))).2.2.2.2) else (u.1, (upd u.2.1.1 (ix p0) 0, u.2.1.2.1, u.2.1.2.2.1, u.2.1.2.2.2.1, u.2.1.2.2.2.2), (upd u.2.2.1.1 (ix u.2.2.1.2.2.2) p0, upd u.2.2.1.2.1 (ix u.2.2.1.2.2.2) (u.2.1.2.2.1 (ix p0)), u.2.2.1.2.2.1, u.2.2.1.2.2.2 + 1), u.2.2.2.1, (u.2.2.2.2.1, u.2.2.2.2.2.1, u.2.2.2.2.2.2.1, u.2.2.2.2.2.2.2.1, u.2.2.2.2.2.2.2.2.1 + 1, u.2.2.2.2.2.2.2.2.2))
def sX5_load (u : SM) (p0 : Int32) : SM := if (vX5_residentCount u) = u.2.1.2.2.2.2 then (if (vX5_positionInQueue (sX5_evict u (vX5_victim u)) p0) = (-9) then (((sX5_evict u (vX5_victim u)).1.1, (sX5_evict u (vX5_victim u)).1.2.1 + 1, (sX5_evict u (vX5_victim u)).1.2.2), (upd (sX5_evict u (vX5_victim u)).2.1.1 (ix p0) 1, upd (sX5_evict u (vX5_victim u)).2.1.2.1 (ix p0) 0, upd (sX5_evict u (vX5_victim u)).2.1.2.2.1 (ix p0) ((sX5_evict u (vX5_victim u)).1.1 (ix p0)), upd (sX5_evict u (vX5_victim u)).2.1.2.2.2.1 (ix p0) 0, (sX5_evict u (vX5_victim u)).2.1.2.2.2.2), (sX5_evict u (vX5_victim u)).2.2.1, (sX5_evict u (vX5_victim u)).2.2.2.1, (sX5_evict u (vX5_victim u)).2.2.2.2) else (sX5_removeEntry ((sX5_evict u (vX5_victim u)).1, (upd (sX5_evict u (vX5_victim u)).2.1.1 (ix p0) 1, upd (sX5_evict u (vX5_victim u)).2.1.2.1 (ix p0) 1, upd (sX5_evict u (vX5_victim u)).2.1.2.2.1 (ix p0) ((sX5_evict u (vX5_victim u)).2.2.1.2.1 (ix (vX5_positionInQueue (sX5_evict u (vX5_victim u)) p0))), upd (sX5_evict u (vX5_victim u)).2.1.2.2.2.1 (ix p0) 0, (sX5_evict u (vX5_victim u)).2.1.2.2.2.2), (sX5_evict u (vX5_victim u)).2.2.1, (sX5_evict u (vX5_victim u)).2.2.2.1, (sX5_evict u (vX5_victim u)).2.2.2.2) (vX5_positionInQueue (sX5_evict u (vX5_victim u)) p0))) else if (vX5_positionInQueue u p0) = (-9) then ((u.1.1, u.1.2.1 + 1, u.1.2.2), (upd u.2.1.1 (ix p0) 1, upd u.2.1.2.1 (ix p0) 0, upd u.2.1.2.2.1 (ix p0) (u.1.1 (ix p0)), upd u.2.1.2.2.2.1 (ix p0) 0, u.2.1.2.2.2.2), u.2.2.1, u.2.2.2.1, u.2.2.2.2) else (sX5_removeEntry (u.1, (upd u.2.1.1 (ix p0) 1, upd u.2.1.2.1 (ix p0) 1, upd u.2.1.2.2.1 (ix p0) (u.2.2.1.2.1 (ix (vX5_positionInQueue u p0))), upd u.2.1.2.2.2.1 (ix p0) 0, u.2.1.2.2.2.2), u.2.2.1, u.2.2.2.1, u.2.2.2.2) (vX5_positionInQueue u p0))
def sX5_reference (u : SM) (p0 : Int32) : SM := if ((sX5_record u p0).2.1.1 (ix p0)) = 0 then (sX5_load ((sX5_record u p0).1, (sX5_record u p0).2.1, (sX5_record u p0).2.2.1, (sX5_record u p0).2.2.2.1, ((sX5_record u p0).2.2.2.2.1, (sX5_record u p0).2.2.2.2.2.1, (sX5_record u p0).2.2.2.2.2.2.1, (sX5_record u p0).2.2.2.2.2.2.2.1 + 1, (sX5_record u p0).2.2.2.2.2.2.2.2.1, (sX5_record u p0).2.2.2.2.2.2.2.2.2)) p0) else ((sX5_record u p0).1, (sX5_record u p0).2.1, (sX5_record u p0).2.2.1, (sX5_record u p0).2.2.2.1, ((sX5_record u p0).2.2.2.2.1, (sX5_record u p0).2.2.2.2.2.1, (sX5_record u p0).2.2.2.2.2.2.1 + 1, (sX5_record u p0).2.2.2.2.2.2.2.1, (sX5_record u p0).2.2.2.2.2.2.2.2.1, (sX5_record u p0).2.2.2.2.2.2.2.2.2))
def vX5_read (u : SM) (p0 : Int32) : Int32 := if (vX5_isPage p0) = 0 then (-1) else if (vX5_isStuck u p0) = 0 then (sX5_reference u p0).2.1.2.2.1 (ix p0) else (-3)
def sX5_read (u : SM) (p0 : Int32) : SM := if (vX5_isPage p0) = 0 then u else if (vX5_isStuck u p0) = 0 then (sX5_reference u p0) else u
def vX5_write (u : SM) (p0 p1 : Int32) : Int32 := if (vX5_isPage p0) = 0 then (-1) else if (vX5_isFrom p1 0 9999) = 0 then (-2) else if (vX5_isStuck u p0) = 0 then (sX5_reference u p0).2.1.2.2.1 (ix p0) else (-3)
def sX5_write (u : SM) (p0 p1 : Int32) : SM := if (vX5_isPage p0) = 0 then u else if (vX5_isFrom p1 0 9999) = 0 then u else if (vX5_isStuck u p0) = 0 then ((sX5_reference u p0).1, ((sX5_reference u p0).2.1.1, upd (sX5_reference u p0).2.1.2.1 (ix p0) 1, upd (sX5_reference u p0).2.1.2.2.1 (ix p0) p1, (sX5_reference u p0).2.1.2.2.2.1, (sX5_reference u p0).2.1.2.2.2.2), (sX5_reference u p0).2.2.1, (sX5_reference u p0).2.2.2.1, (sX5_reference u p0).2.2.2.2) else u
def vX5_pin (u : SM) (p0 : Int32) : Int32 := if (vX5_isPage p0) = 0 then (-1) else if (u.2.1.1 (ix p0)) = 0 then (if (vX5_isStuck u p0) = 0 then (upd (sX5_reference u p0).2.1.2.2.2.1 (ix p0) (((sX5_reference u p0).2.1.2.2.2.1 (ix p0)) + 1)) (ix p0) else (-3)) else if (u.2.1.2.2.2.1 (ix p0)) = 9 then (-6) else if (vX5_isStuck u p0) = 0 then (upd (sX5_reference u p0).2.1.2.2.2.1 (ix p0) (((sX5_reference u p0).2.1.2.2.2.1 (ix p0)) + 1)) (ix p0) else (-3)
def sX5_pin (u : SM) (p0 : Int32) : SM := if (vX5_isPage p0) = 0 then u else if (u.2.1.1 (ix p0)) = 0 then (if (vX5_isStuck u p0) = 0 then ((sX5_reference u p0).1, ((sX5_reference u p0).2.1.1, (sX5_reference u p0).2.1.2.1, (sX5_reference u p0).2.1.2.2.1, upd (sX5_reference u p0).2.1.2.2.2.1 (ix p0) (((sX5_reference u p0).2.1.2.2.2.1 (ix p0)) + 1), (sX5_reference u p0).2.1.2.2.2.2), (sX5_reference u p0).2.2.1, (sX5_reference u p0).2.2.2.1, (sX5_reference u p0).2.2.2.2) else u) else if (u.2.1.2.2.2.1 (ix p0)) = 9 then u else if (vX5_isStuck u p0) = 0 then ((sX5_reference u p0).1, ((sX5_reference u p0).2.1.1, (sX5_reference u p0).2.1.2.1, (sX5_reference u p0).2.1.2.2.1, upd (sX5_reference u p0).2.1.2.2.2.1 (ix p0) (((sX5_reference u p0).2.1.2.2.2.1 (ix p0)) + 1), (sX5_reference u p0).2.1.2.2.2.2), (sX5_reference u p0).2.2.1, (sX5_reference u p0).2.2.2.1, (sX5_reference u p0).2.2.2.2) else u
def vX5_unpin (u : SM) (p0 : Int32) : Int32 := if (vX5_isPage p0) = 0 then (-1) else if (u.2.1.1 (ix p0)) = 0 then (-4) else if (u.2.1.2.2.2.1 (ix p0)) = 0 then (-5) else (upd u.2.1.2.2.2.1 (ix p0) ((u.2.1.2.2.2.1 (ix p0)) - 1)) (ix p0)
def sX5_unpin (u : SM) (p0 : Int32) : SM := if (vX5_isPage p0) = 0 then u else if (u.2.1.1 (ix p0)) = 0 then u else if (u.2.1.2.2.2.1 (ix p0)) = 0 then u else (u.1, (u.2.1.1, u.2.1.2.1, u.2.1.2.2.1, upd u.2.1.2.2.2.1 (ix p0) ((u.2.1.2.2.2.1 (ix p0)) - 1), u.2.1.2.2.2.2), u.2.2.1, u.2.2.2.1, u.2.2.2.2)
def vX5_writeResident (u : SM) (p0 : Int32) : Int32 := if (u.2.1.1 (ix p0)) = 0 then 0 else if (u.2.1.2.1 (ix p0)) = 0 then 0 else 1
def sX5_writeResident (u : SM) (p0 : Int32) : SM := if (u.2.1.1 (ix p0)) = 0 then u else if (u.2.1.2.1 (ix p0)) = 0 then u else ((sX5_writeToDisk u p0 (u.2.1.2.2.1 (ix p0))).1, ((sX5_writeToDisk u p0 (u.2.1.2.2.1 (ix p0))).2.1.1, upd (sX5_writeToDisk u p0 (u.2.1.2.2.1 (ix p0))).2.1.2.1 (ix p0) 0, (sX5_writeToDisk u p0 (u.2.1.2.2.1 (ix p0))).2.1.2.2.1, (sX5_writeToDisk u p0 (u.2.1.2.2.1 (ix p0))).2.1.2.2.2.1, (sX5_writeToDisk u p0 (u.2.1.2.2.1 (ix p0))).2.1.2.2.2.2), (sX5_writeToDisk u p0 (u.2.1.2.2.1 (ix p0))).2.2.1, (sX5_writeToDisk u p0 (u.2.1.2.2.1 (ix p0))).2.2.2.1, (sX5_writeToDisk u p0 (u.2.1.2.2.1 (ix p0))).2.2.2.2)
def vX5_flush (u : SM) (p0 : Int32) : Int32 := if (vX5_isPage p0) = 0 then (-1) else if (vX5_writeResident u p0) = 0 then (if (vX5_positionInQueue (sX5_writeResident u p0) p0) = (-9) then 0 else 1) else 1
def sX5_flush (u : SM) (p0 : Int32) : SM := if (vX5_isPage p0) = 0 then u else if (vX5_writeResident u p0) = 0 then (if (vX5_positionInQueue (sX5_writeResident u p0) p0) = (-9) then (sX5_writeResident u p0) else (sX5_removeEntry (sX5_writeToDisk (sX5_writeResident u p0) p0 ((sX5_writeResident u p0).2.2.1.2.1 (ix (vX5_positionInQueue (sX5_writeResident u p0) p0)))) (vX5_positionInQueue (sX5_writeResident u p0) p0))) else (sX5_writeResident u p0)
def lvX5_flushAll_23  : Nat → SM → Int32 → Int32 → Int32 → Int32
  | 0, w, _, _, _ => 0
  | n + 1, w, l1, l2, l3 => if l3 < 64 then (if (vX5_writeResident w l3) = 0 then lvX5_flushAll_23 n (sX5_writeResident w l3) l1 (l2 + 0) (l3 + 1) else lvX5_flushAll_23 n (sX5_writeResident w l3) l1 (l2 + 1) (l3 + 1)) else w.1.2.2 - l1
def lsX5_flushAll_23  : Nat → SM → Int32 → Int32 → Int32 → SM
  | 0, w, _, _, _ => w
  | n + 1, w, l1, l2, l3 => if l3 < 64 then (if (vX5_writeResident w l3) = 0 then lsX5_flushAll_23 n (sX5_writeResident w l3) l1 (l2 + 0) (l3 + 1) else lsX5_flushAll_23 n (sX5_writeResident w l3) l1 (l2 + 1) (l3 + 1)) else w
def lvX5_flushAll_5  : Nat → SM → Int32 → Int32
  | 0, w, _ => 0
  | n + 1, w, l1 => if 0 < w.2.2.1.2.2.2 then lvX5_flushAll_5 n (sX5_writeOldest w) l1 else lvX5_flushAll_23 65 w l1 0 0
def lsX5_flushAll_5  : Nat → SM → Int32 → SM
  | 0, w, _ => w
  | n + 1, w, l1 => if 0 < w.2.2.1.2.2.2 then lsX5_flushAll_5 n (sX5_writeOldest w) l1 else lsX5_flushAll_23 65 w l1 0 0
def vX5_flushAll (u : SM) : Int32 := lvX5_flushAll_5 9 u u.1.2.2
def sX5_flushAll (u : SM) : SM := lsX5_flushAll_5 9 u u.1.2.2
def lvX5_drain_18 (p0 : Int32) : Nat → SM → Int32 → Int32
  | 0, w, _ => 0
  | n + 1, w, l2 => if 0 < w.2.2.1.2.2.2 then (if (w.1.2.2 - l2) < p0 then lvX5_drain_18 p0 n (sX5_writeOldest w) l2 else w.1.2.2 - l2) else w.1.2.2 - l2
def lsX5_drain_18 (p0 : Int32) : Nat → SM → Int32 → SM
  | 0, w, _ => w
  | n + 1, w, l2 => if 0 < w.2.2.1.2.2.2 then (if (w.1.2.2 - l2) < p0 then lsX5_drain_18 p0 n (sX5_writeOldest w) l2 else w) else w
def vX5_drain (u : SM) (p0 : Int32) : Int32 := if (vX5_isFrom p0 0 8) = 0 then (-8) else lvX5_drain_18 p0 9 u u.1.2.2
def sX5_drain (u : SM) (p0 : Int32) : SM := if (vX5_isFrom p0 0 8) = 0 then u else lsX5_drain_18 p0 9 u u.1.2.2
def vX5_discard (u : SM) (p0 : Int32) : Int32 := if (vX5_isPage p0) = 0 then (-1) else if (u.2.1.1 (ix p0)) = 0 then (if (vX5_positionInQueue u p0) = (-9) then 0 else 1) else if 0 < (u.2.1.2.2.2.1 (ix p0)) then (-7) else if (vX5_positionInQueue u p0) = (-9) then 1 else 1
def sX5_discard (u : SM) (p0 : Int32) : SM := if (vX5_isPage p0) = 0 then u else if (u.2.1.1 (ix p0)) = 0 then (if (vX5_positionInQueue u p0) = (-9) then (u.1, (upd u.2.1.1 (ix p0) 0, u.2.1.2.1, u.2.1.2.2.1, u.2.1.2.2.2.1, u.2.1.2.2.2.2), u.2.2.1, (u.2.2.2.1.1, upd u.2.2.2.1.2.1 (ix p0) 0, u.2.2.2.1.2.2), u.2.2.2.2) else (sX5_removeEntry (u.1, (upd u.2.1.1 (ix p0) 0, u.2.1.2.1, u.2.1.2.2.1, u.2.1.2.2.2.1, u.2.1.2.2.2.2), u.2.2.1, (u.2.2.2.1.1, upd u.2.2.2.1.2.1 (ix p0) 0, u.2.2.2.1.2.2), u.2.2.2.2) (vX5_positionInQueue u p0))) else if 0 < (u.2.1.2.2.2.1 (ix p0)) then u else if (vX5_positionInQueue u p0) = (-9) then (u.1, (upd u.2.1.1 (ix p0) 0, u.2.1.2.1, u.2.1.2.2.1, u.2.1.2.2.2.1, u.2.1.2.2.2.2), u.2.2.1, (u.2.2.2.1.1, upd u.2.2.2.1.2.1 (ix p0) 0, u.2.2.2.1.2.2), u.2.2.2.2) else (sX5_removeEntry (u.1, (upd u.2.1.1 (ix p0) 0, u.2.1.2.1, u.2.1.2.2.1, u.2.1.2.2.2.1, u.2.1.2.2.2.2), u.2.2.1, (u.2.2.2.1.1, upd u.2.2.2.1.2.1 (ix p0) 0, u.2.2.2.1.2.2), u.2.2.2.2) (vX5_positionInQueue u p0))
def vX5_isResident (u : SM) (p0 : Int32) : Int32 := if (vX5_isPage p0) = 0 then (-1) else if (u.2.1.1 (ix p0)) = 0 then 0 else 1
def vX5_isDirty (u : SM) (p0 : Int32) : Int32 := if (vX5_isPage p0) = 0 then (-1) else if (u.2.1.1 (ix p0)) = 0 then (-4) else if (u.2.1.2.1 (ix p0)) = 0 then 0 else 1
def vX5_pinCount (u : SM) (p0 : Int32) : Int32 := if (vX5_isPage p0) = 0 then (-1) else if (u.2.1.1 (ix p0)) = 0 then (-4) else u.2.1.2.2.2.1 (ix p0)
def vX5_referenceTime (u : SM) (p0 p1 : Int32) : Int32 := if (vX5_isPage p0) = 0 then (-1) else if (vX5_isFrom p1 1 u.2.2.2.1.2.2) = 0 then (-8) else if (u.2.2.2.1.2.1 (ix p0)) < p1 then (-9) else (vX5_time u p0 p1)
def vX5_backwardKDistance (u : SM) (p0 : Int32) : Int32 := if (vX5_isPage p0) = 0 then (-1) else if (u.2.2.2.1.2.1 (ix p0)) < u.2.2.2.1.2.2 then (-9) else u.2.2.2.2.2.1 - (vX5_time u p0 u.2.2.2.1.2.2)
def vX5_diskValue (u : SM) (p0 : Int32) : Int32 := if (vX5_isPage p0) = 0 then (-1) else u.1.1 (ix p0)
def lvX5_residentPage_4 (u : SM) (p0 : Int32) : Nat → Int32 → Int32 → Int32
  | 0, _, _ => 0
  | n + 1, l2, l3 => if l3 < 64 then (if l2 < 0 then (-9) else if (u.2.1.1 (ix l3)) = 0 then lvX5_residentPage_4 u p0 n l2 (l3 + 1) else if l2 = 0 then l3 else lvX5_residentPage_4 u p0 n (l2 + (-1)) (l3 + 1)) else (-9)
def vX5_residentPage (u : SM) (p0 : Int32) : Int32 := lvX5_residentPage_4 u p0 65 p0 0
def vX5_queueSize (u : SM) : Int32 := u.2.2.1.2.2.2
def vX5_isInQueue (u : SM) (p0 : Int32) : Int32 := (vX5_isFrom p0 0 (u.2.2.1.2.2.2 - 1))
def vX5_queuedPage (u : SM) (p0 : Int32) : Int32 := if (vX5_isInQueue u p0) = 0 then (-9) else u.2.2.1.1 (ix p0)
def vX5_queuedValue (u : SM) (p0 : Int32) : Int32 := if (vX5_isInQueue u p0) = 0 then (-9) else u.2.2.1.2.1 (ix p0)
def vX5_clock (u : SM) : Int32 := u.2.2.2.2.2.1
def vX5_hits (u : SM) : Int32 := u.2.2.2.2.2.2.1
def vX5_misses (u : SM) : Int32 := u.2.2.2.2.2.2.2.1
def vX5_evictions (u : SM) : Int32 := u.2.2.2.2.2.2.2.2.1
def vX5_diskReads (u : SM) : Int32 := u.1.2.1
def vX5_diskWrites (u : SM) : Int32 := u.1.2.2
def vX5_stalls (u : SM) : Int32 := u.2.2.2.2.2.2.2.2.2
end
section
/-! ===== numbers, indices, and what keeps them in range ===== -/
theorem ixN {i : Nat} (h : i < 2147483648) : ix (nI i) = i := nI_clamp h
theorem ixIn {i n : Nat} (h : i < n) (hn : n < 2147483648) : Ix (nI i) (ix (nI i)) n := by
  have e := ixN (Nat.lt_trans h hn)
  exact ⟨by rw [e], by rw [e]; exact h, hn⟩
theorem Ix.ofN {p : Int32} {i n : Nat} (e : p = nI i) (h : i < n) (hn : n < 2147483648) : Ix p (ix p) n := by rw [e]; exact ixIn h hn
def Pg (p : Int32) : Prop := Ix p (ix p) 64
def PgN (p : Int32) : Prop := p = -9 ∨ Pg p
theorem pgI {i : Nat} (h : i < 64) : Pg (nI i) := ixIn h (by decide)
theorem Pg.ex {p : Int32} (h : Pg p) : ∃ j, j < 64 ∧ p = nI j := ⟨ix p, h.2.1, h.1⟩
theorem Pg.ne {p : Int32} (h : Pg p) : ¬ p = -9 := by
  obtain ⟨j, hj, rfl⟩ := h.ex
  intro e
  have h1 : (nI j).toInt = (-9 : Int32).toInt := by rw [e]
  rw [nI_toInt (by omega)] at h1
  have h2 : (-9 : Int32).toInt = -9 := by decide
  omega
def QW (q : SQ) : Prop := (∃ n c, q.2.2.2 = nI n ∧ q.2.2.1 = nI c ∧ n ≤ c ∧ 1 ≤ c ∧ c ≤ 8) ∧ ∀ i, i < 8 → Pg (q.1 i)
def HW (h : SH) : Prop := (∃ k, h.2.2 = nI k ∧ 1 ≤ k ∧ k ≤ 3) ∧ ∀ j, j < 64 → ∃ n, h.2.1 j = nI n ∧ n ≤ 3
def Sm (p : Int32) : Prop := ∃ c, c ≤ 8 ∧ p = nI c
def PE (p : Int32) (q : SQ) : Prop := ∃ i m, p = nI i ∧ q.2.2.2 = nI m ∧ i < m ∧ m ≤ 8
def TI (p i : Int32) : Prop := Ix (3 * p + i - 1) (ix (3 * p + i - 1)) 192
def NV (v : SM) : Prop := vX5_residentCount v = v.2.1.2.2.2.2 → Pg (vX5_victim v)
/-! loops over the pages -/
def PI (n : Nat) (l : Int32) : Prop := ∃ i, l = nI i ∧ i ≤ 64 ∧ 64 < i + n
theorem PI.start : PI 65 0 := ⟨0, rfl, by omega, by omega⟩
theorem PI.zero {l : Int32} : ¬ PI 0 l := fun ⟨i, _, h1, h2⟩ => by omega
theorem PI.lt {l : Int32} {i : Nat} (e : l = nI i) (h : i ≤ 64) (c : l < 64) : i < 64 := by
  rw [e] at c
  have c2 : nI i < nI 64 := c
  exact (nI_ltI (by omega) (by omega)).mp c2
theorem PI.pg {n : Nat} {l : Int32} (h : PI n l) (c : l < 64) : Pg l := by
  obtain ⟨i, e, h1, h2⟩ := h
  exact Ix.ofN e (PI.lt e h1 c) (by decide)
theorem PI.next {n : Nat} {l : Int32} (h : PI (n + 1) l) (c : l < 64) : PI n (l + 1) := by
  obtain ⟨i, e, h1, h2⟩ := h
  have h3 := PI.lt e h1 c
  exact ⟨i + 1, by rw [e]; exact nI_1 i, by omega, by omega⟩
/-! loops over the queue -/
def QI (n : Nat) (q : SQ) (l : Int32) : Prop := ∃ i m, l = nI i ∧ q.2.2.2 = nI m ∧ i ≤ m ∧ m ≤ 8 ∧ m < i + n
theorem QI.start {q : SQ} (h : QW q) : QI 9 q 0 := by
  obtain ⟨⟨n, c, h1, h2, h3, h4, h5⟩, -⟩ := h
  exact ⟨0, n, rfl, h1, by omega, by omega, by omega⟩
theorem QI.zero {q : SQ} {l : Int32} : ¬ QI 0 q l := fun ⟨i, m, _, _, h1, h2, h3⟩ => by omega
theorem QI.inx {n : Nat} {q : SQ} {l : Int32} (h : QI n q l) (c : l < q.2.2.2) : Ix l (ix l) 8 := by
  obtain ⟨i, m, e, e2, h1, h2, h3⟩ := h
  rw [e, e2] at c
  have := (nI_ltI (by omega) (by omega)).mp c
  exact Ix.ofN e (by omega) (by decide)
theorem QI.next {n : Nat} {q : SQ} {l : Int32} (h : QI (n + 1) q l) (c : l < q.2.2.2) : QI n q (l + 1) := by
  obtain ⟨i, m, e, e2, h1, h2, h3⟩ := h
  rw [e, e2] at c
  have := (nI_ltI (by omega) (by omega)).mp c
  exact ⟨i + 1, m, by rw [e]; exact nI_1 i, e2, by omega, h2, by omega⟩
def SI (n : Nat) (q : SQ) (l : Int32) : Prop := ∃ i m, l = nI i ∧ q.2.2.2 = nI m ∧ i ≤ m ∧ m ≤ 7 ∧ m < i + n
theorem SI.zero {q : SQ} {l : Int32} : ¬ SI 0 q l := fun ⟨i, m, _, _, h1, h2, h3⟩ => by omega
theorem SI.lt {n : Nat} {q : SQ} {l : Int32} (h : SI n q l) (c : l < q.2.2.2) : ∃ i m, l = nI i ∧ q.2.2.2 = nI m ∧ i < m ∧ m ≤ 7 ∧ m < i + n := by
  obtain ⟨i, m, e, e2, h1, h2, h3⟩ := h
  rw [e, e2] at c
  have := (nI_ltI (by omega) (by omega)).mp c
  exact ⟨i, m, e, e2, this, h2, h3⟩
theorem SI.inx {n : Nat} {q : SQ} {l : Int32} (h : SI n q l) (c : l < q.2.2.2) : Ix l (ix l) 8 := by
  obtain ⟨i, m, e, e2, h1, h2, h3⟩ := h.lt c
  exact Ix.ofN e (by omega) (by decide)
theorem SI.inx1 {n : Nat} {q : SQ} {l : Int32} (h : SI n q l) (c : l < q.2.2.2) : Ix (l + 1) (ix (l + 1)) 8 := by
  obtain ⟨i, m, e, e2, h1, h2, h3⟩ := h.lt c
  exact Ix.ofN (i := i + 1) (by rw [e]; exact nI_1 i) (by omega) (by decide)
theorem SI.next {n : Nat} {q : SQ} {l : Int32} {a b : Nat → Int32} {k : Int32} (h : SI (n + 1) q l) (c : l < q.2.2.2) : SI n (a, b, k, q.2.2.2) (l + 1) := by
  obtain ⟨i, m, e, e2, h1, h2, h3⟩ := h.lt c
  exact ⟨i + 1, m, by rw [e]; exact nI_1 i, e2, by omega, h2, by omega⟩
theorem SI.start2 {q : SQ} {p : Int32} (h : PE p q) : SI 9 (q.1, q.2.1, q.2.2.1, q.2.2.2 - 1) p := by
  obtain ⟨i, m, e, e2, h1, h2⟩ := h
  refine ⟨i, m - 1, e, ?_, by omega, by omega, by omega⟩
  show q.2.2.2 - 1 = nI (m - 1)
  rw [e2]
  exact pk_sub (b := 1) (by omega)
theorem has_pe {q : SQ} {p : Int32} (hq : QW q) (c : ¬ vX3_has q p = 0) : PE p q := by
  obtain ⟨⟨n, k, h1, h2, h3, h4, h5⟩, -⟩ := hq
  unfold vX3_has at c
  split at c
  · exact absurd rfl c
  · rename_i c1
    split at c
    · rename_i c2
      obtain ⟨j, hj, rfl⟩ := nI_of c1
      rw [h1] at c2
      exact ⟨j, n, rfl, h1, (nI_ltI hj (by omega)).mp c2, by omega⟩
    · exact absurd rfl c
theorem SI.start {q : SQ} {p : Int32} (hq : QW q) (c : ¬ vX3_has q p = 0) : SI 9 (q.1, q.2.1, q.2.2.1, q.2.2.2 - 1) p := SI.start2 (has_pe hq c)
theorem PE.inx {p : Int32} {q : SQ} (h : PE p q) : Ix p (ix p) 8 := by
  obtain ⟨i, m, e, e2, h1, h2⟩ := h
  exact Ix.ofN e (by omega) (by decide)
theorem hasIx {q : SQ} {p : Int32} (hq : QW q) (c : ¬ vX3_has q p = 0) : Ix p (ix p) 8 := (has_pe hq c).inx
theorem appIx {q : SQ} (hq : QW q) (c : vX3_isFull q = 0) : Ix q.2.2.2 (ix q.2.2.2) 8 := by
  obtain ⟨⟨n, k, h1, h2, h3, h4, h5⟩, -⟩ := hq
  unfold vX3_isFull at c
  split at c
  · rename_i c2
    rw [h1, h2] at c2
    have := (nI_ltI (by omega) (by omega)).mp c2
    exact Ix.ofN h1 (by omega) (by decide)
  · exact absurd c (by decide)
theorem qwPg {q : SQ} (hq : QW q) : Pg (q.1 0) := hq.2 0 (by omega)
theorem pageAt_pg {q : SQ} {p : Int32} (hq : QW q) : PgN (vX3_pageAt q p) := by
  unfold vX3_pageAt
  split
  · exact Or.inl rfl
  · rename_i c
    exact Or.inr (hq.2 _ (hasIx hq c).2.1)
theorem qwSm {q : SQ} (hq : QW q) : Sm (vX3_length q) := by
  obtain ⟨⟨n, k, h1, h2, h3, h4, h5⟩, -⟩ := hq
  exact ⟨n, by omega, h1⟩
/-! between two bounds -/
theorem nle_lt {a b : Int32} (h : ¬ a < b) : b ≤ a := Int32.not_lt.mp h
theorem within_of {p lo hi : Int32} (c : ¬ vX4_isWithin p lo hi = 0) : ¬ p < lo ∧ ¬ hi < p := by
  unfold vX4_isWithin at c
  split at c
  · exact absurd rfl c
  · split at c
    · exact absurd rfl c
    · exact ⟨by assumption, by assumption⟩
theorem from_of {p lo hi : Int32} (c : ¬ vX5_isFrom p lo hi = 0) : ¬ p < lo ∧ ¬ hi < p := by
  unfold vX5_isFrom at c
  split at c
  · exact absurd rfl c
  · split at c
    · exact absurd rfl c
    · exact ⟨by assumption, by assumption⟩
theorem upto_nI {p : Int32} {n : Nat} (hn : n < 2147483648) (h1 : ¬ p < 0) (h2 : ¬ nI n < p) : ∃ j, j ≤ n ∧ p = nI j := by
  obtain ⟨j, hj, rfl⟩ := nI_of h1
  refine ⟨j, ?_, rfl⟩
  rcases Nat.lt_or_ge n j with h | h
  · exact absurd ((nI_ltI hn hj).mpr h) h2
  · exact h
theorem pgX {p : Int32} (c : ¬ vX4_isPage p = 0) : Pg p := by
  obtain ⟨h1, h2⟩ := within_of (p := p) (lo := 0) (hi := 63) c
  obtain ⟨j, hj, e⟩ := upto_nI (n := 63) (by decide) h1 h2
  exact Ix.ofN e (by omega) (by decide)
theorem pgM {p : Int32} (c : ¬ vX5_isPage p = 0) : Pg p := by
  obtain ⟨h1, h2⟩ := from_of (p := p) (lo := 0) (hi := 63) c
  obtain ⟨j, hj, e⟩ := upto_nI (n := 63) (by decide) h1 h2
  exact Ix.ofN e (by omega) (by decide)
theorem smX {p : Int32} (c : ¬ vX4_isWithin p 0 8 = 0) : Sm p := by
  obtain ⟨h1, h2⟩ := within_of (p := p) (lo := 0) (hi := 8) c
  obtain ⟨j, hj, e⟩ := upto_nI (n := 8) (by decide) h1 h2
  exact ⟨j, hj, e⟩
theorem nbX (a b c : Int32) : narrow .boolean (.int (vX4_isWithin a b c)) = .int (vX4_isWithin a b c) := by
  unfold vX4_isWithin
  split
  · rfl
  · split <;> rfl
theorem nbM (a b c : Int32) : narrow .boolean (.int (vX5_isFrom a b c)) = .int (vX5_isFrom a b c) := by
  unfold vX5_isFrom
  split
  · rfl
  · split <;> rfl
/-! the rows of the histories -/
theorem mul3 (j : Nat) : nI j * 3 = nI (3 * j) := by
  have h : nI j * nI 3 = nI (j * 3) := pk_mul j 3
  rw [Nat.mul_comm 3 j]
  exact h
theorem mul3r (j : Nat) : 3 * nI j = nI (3 * j) := pk_mul 3 j
theorem sub_nI {a b : Nat} (h : b ≤ a) : nI a - nI b = nI (a - b) := pk_sub h
theorem recIx0 {p : Int32} (h : Pg p) : Ix (p * 3) (ix (p * 3)) 192 := by
  obtain ⟨j, hj, rfl⟩ := h.ex
  exact Ix.ofN (mul3 j) (by omega) (by decide)
theorem recIx3 {p : Int32} (h : Pg p) : Ix (3 * p) (ix (3 * p)) 192 := by
  obtain ⟨j, hj, rfl⟩ := h.ex
  exact Ix.ofN (mul3r j) (by omega) (by decide)
theorem timeIx {u : SH} {p i : Int32} (h : Pg p) (hh : HW u) (c1 : ¬ i < 1) (c2 : ¬ u.2.1 (ix p) < i) : Ix (p * 3 + i - 1) (ix (p * 3 + i - 1)) 192 := by
  obtain ⟨n, e, hn⟩ := hh.2 (ix p) h.2.1
  obtain ⟨j, hj, rfl⟩ := h.ex
  rw [e] at c2
  have c3 : ¬ i < 0 := fun z => c1 (by
    have z2 : i.toInt < 0 := Int32.lt_iff_toInt_lt.mp z
    exact Int32.lt_iff_toInt_lt.mpr (by have : (1 : Int32).toInt = 1 := by decide
                                        omega))
  obtain ⟨k, hk, rfl⟩ := upto_nI (n := n) (by omega) c3 c2
  have hk1 : 1 ≤ k := by
    rcases Nat.lt_or_ge 0 k with h | h
    · exact h
    · have : k = 0 := by omega
      subst this
      exact absurd (by decide) c1
  refine Ix.ofN (i := 3 * j + k - 1) ?_ (by omega) (by decide)
  rw [mul3, nI_add]
  exact sub_nI (b := 1) (by omega)
theorem ti_of {p i : Int32} {k : Nat} (h : Pg p) (e : i = nI k) (h1 : 1 ≤ k) (h3 : k ≤ 3) : TI p i := by
  obtain ⟨j, hj, rfl⟩ := h.ex
  subst e
  refine Ix.ofN (i := 3 * j + k - 1) ?_ (by omega) (by decide)
  rw [mul3r, nI_add]
  exact sub_nI (b := 1) (by omega)
theorem ti1 {p : Int32} (h : Pg p) : TI p 1 := ti_of (k := 1) h rfl (by omega) (by omega)
theorem tik {p : Int32} {u : SH} (h : Pg p) (hh : HW u) : TI p u.2.2 := by
  obtain ⟨k, e, h1, h3⟩ := hh.1
  exact ti_of h e h1 h3
theorem ge1_of {i : Int32} {n : Nat} (hn : n < 2147483648) (c1 : ¬ i < 1) (c2 : ¬ nI n < i) : ∃ k, i = nI k ∧ 1 ≤ k ∧ k ≤ n := by
  have c3 : ¬ i < 0 := fun z => c1 (by
    have z2 : i.toInt < 0 := Int32.lt_iff_toInt_lt.mp z
    exact Int32.lt_iff_toInt_lt.mpr (by have : (1 : Int32).toInt = 1 := by decide
                                        omega))
  obtain ⟨k, hk, rfl⟩ := upto_nI hn c3 c2
  refine ⟨k, rfl, ?_, hk⟩
  rcases Nat.lt_or_ge 0 k with h | h
  · exact h
  · have : k = 0 := by omega
    subst this
    exact absurd (by decide) c1
theorem tiR {p i : Int32} {u : SH} {x : Int32} (h : Pg p) (hh : HW u) (c : ¬ vX5_isFrom i 1 u.2.2 = 0) (_ : ¬ x < i) : TI p i := by
  obtain ⟨h1, h2⟩ := from_of c
  obtain ⟨k, e, hk1, hk3⟩ := hh.1
  rw [e] at h2
  obtain ⟨k2, e2, h3, h4⟩ := ge1_of (by omega) h1 h2
  exact ti_of h e2 h3 (by omega)
def RI (n : Nat) (p l : Int32) : Prop := Pg p ∧ ∃ m, l = nI (3 * ix p + m) ∧ m ≤ 2 ∧ m < n
theorem RI.start {p : Int32} (h : Pg p) : RI 3 p (p * 3 + 3 - 1) := by
  refine ⟨h, 2, ?_, by omega, by omega⟩
  obtain ⟨j, hj, rfl⟩ := h.ex
  rw [mul3, ixN (by omega)]
  show nI (3 * j) + nI 3 - nI 1 = _
  rw [nI_add, sub_nI (by omega)]
  rfl
theorem RI.zero {p l : Int32} : ¬ RI 0 p l := fun ⟨_, m, _, _, h⟩ => by omega
theorem RI.inx {n : Nat} {p l : Int32} (h0 : Pg p) (h : RI n p l) : Ix l (ix l) 192 := by
  obtain ⟨_, m, e, h1, h2⟩ := h
  have := h0.2.1
  exact Ix.ofN e (by omega) (by decide)
theorem RI.pos {n : Nat} {p l : Int32} (h : RI n p l) (c : p * 3 < l) : ∃ m, l = nI (3 * ix p + m + 1) ∧ m ≤ 1 ∧ m + 1 < n := by
  obtain ⟨h0, m, e, h1, h2⟩ := h
  have hj := h0.2.1
  rw [h0.1, mul3, e] at c
  have := (nI_ltI (by omega) (by omega)).mp c
  exact ⟨m - 1, by rw [e]; congr 1; omega, by omega, by omega⟩
theorem RI.inx1 {n : Nat} {p l : Int32} (h0 : Pg p) (h : RI n p l) (c : p * 3 < l) : Ix (l - 1) (ix (l - 1)) 192 := by
  obtain ⟨m, e, h1, h2⟩ := h.pos c
  have hj := h0.2.1
  refine Ix.ofN (i := 3 * (ix p) + m) ?_ (by omega) (by decide)
  rw [e]
  exact nI_pred _
theorem RI.next {n : Nat} {p l : Int32} (h : RI (n + 1) p l) (c : p * 3 < l) : RI n p (l + (-1)) := by
  obtain ⟨m, e, h1, h2⟩ := h.pos c
  exact ⟨h.1, m, by rw [e]; exact pk_m1 _, by omega, by omega⟩
def KI (n : Nat) (l : Int32) : Prop := ∃ k, l = nI k ∧ 1 ≤ k ∧ k ≤ 3 ∧ k ≤ n
theorem KI.start {u : SH} (hh : HW u) : KI 3 u.2.2 := by
  obtain ⟨k, e, h1, h3⟩ := hh.1
  exact ⟨k, e, h1, h3, h3⟩
theorem KI.zero {l : Int32} : ¬ KI 0 l := fun ⟨k, _, h1, _, h2⟩ => by omega
theorem KI.pos {n : Nat} {l : Int32} (h : KI n l) (c : 1 < l) : ∃ k, l = nI (k + 1) ∧ 1 ≤ k ∧ k ≤ 2 ∧ k + 1 ≤ n := by
  obtain ⟨k, e, h1, h3, h4⟩ := h
  rw [e] at c
  have c2 : nI 1 < nI k := c
  have := (nI_ltI (by omega) (by omega)).mp c2
  exact ⟨k - 1, by rw [e]; congr 1; omega, by omega, by omega, by omega⟩
theorem KI.next {n : Nat} {l : Int32} (h : KI (n + 1) l) (c : 1 < l) : KI n (l + (-1)) := by
  obtain ⟨k, e, h1, h3, h4⟩ := h.pos c
  exact ⟨k, by rw [e]; exact pk_m1 _, h1, by omega, by omega⟩
theorem KI.inx1 {n : Nat} {p l : Int32} (h0 : Pg p) (h : KI n l) : Ix (3 * p + l - 1) (ix (3 * p + l - 1)) 192 := by
  obtain ⟨k, e, h1, h3, h4⟩ := h
  exact ti_of h0 e h1 h3
theorem KI.inx2 {n : Nat} {p l : Int32} (h0 : Pg p) (h : KI n l) (c : 1 < l) : Ix (3 * p + l - 2) (ix (3 * p + l - 2)) 192 := by
  obtain ⟨k, e, h1, h3, h4⟩ := h.pos c
  obtain ⟨j, hj, rfl⟩ := h0.ex
  refine Ix.ofN (i := 3 * j + (k + 1) - 2) ?_ (by omega) (by decide)
  rw [mul3r, e, nI_add]
  exact sub_nI (b := 2) (by omega)
theorem ix08 : Ix 0 0 8 := ⟨rfl, by decide, by decide⟩
end
section
/-! ===== what the methods of the class keep ===== -/
def B01 (x : Int32) : Prop := x = 0 ∨ x = 1
theorem B01.nar {x : Int32} (h : B01 x) : narrow .boolean (.int x) = .int x := by rcases h with rfl | rfl <;> rfl
def FW (f : SF) : Prop := (∀ j, B01 (f.1 j)) ∧ ∀ j, B01 (f.2.1 j)
theorem FW.r {f : SF} (h : FW f) (j : Nat) : narrow .boolean (.int (f.1 j)) = .int (f.1 j) := (h.1 j).nar
theorem FW.c {f : SF} (h : FW f) (j : Nat) : narrow .boolean (.int (f.2.1 j)) = .int (f.2.1 j) := (h.2 j).nar
theorem B01.upd {f : Nat → Int32} (h : ∀ j, B01 (f j)) (k : Nat) {x : Int32} (hx : B01 x) (j : Nat) : B01 (Jvm.Pilot.CLruKPageCacheLaw_law_r2794_7e931b.upd f k x j) := by
  unfold Jvm.Pilot.CLruKPageCacheLaw_law_r2794_7e931b.upd
  split
  · exact hx
  · exact h j
theorem b0 : B01 0 := Or.inl rfl
theorem b1 : B01 1 := Or.inr rfl
theorem fw_vacate {f : SF} {p : Int32} (h : FW f) : FW (sX1_vacate f p) := ⟨fun j => B01.upd h.1 _ b0 j, fun j => B01.upd h.2 _ b0 j⟩
theorem fw_release {f : SF} {p : Int32} (h : FW f) : FW (sX1_release f p) := ⟨fun j => B01.upd h.1 _ b0 j, fun j => B01.upd h.2 _ b0 j⟩
theorem fw_place {f : SF} {p v : Int32} (h : FW f) : FW (sX1_place f p v) := ⟨fun j => B01.upd h.1 _ b1 j, h.2⟩
theorem fw_change {f : SF} {p v : Int32} (h : FW f) : FW (sX1_change f p v) := ⟨h.1, fun j => B01.upd h.2 _ b1 j⟩
theorem fw_markClean {f : SF} {p : Int32} (h : FW f) : FW (sX1_markClean f p) := ⟨h.1, fun j => B01.upd h.2 _ b0 j⟩
theorem fw_writeFrame {u : SX} {p : Int32} (h : FW u.2.1) : FW (sX4_writeFrame u p).2.1 := fw_markClean h
theorem fw_empty {f : SF} {p : Int32} (h : FW f) : FW (sX1_empty f p) := by
  have loop : ∀ (n : Nat) (w : SF) (l : Int32), FW w → FW (lsX1_empty_2 p n w l) := by
    intro n
    induction n with
    | zero => intro w l h; exact h
    | succ n ih =>
      intro w l h
      rw [lsX1_empty_2]
      split
      · exact ih _ _ (fw_vacate h)
      · exact ⟨h.1, h.2⟩
  exact loop 65 f 0 h
theorem F_writeEntry (u : SX) (p : Int32) : (sX4_writeEntry u p).2.1 = u.2.1 := by
  unfold sX4_writeEntry
  split <;> rfl
theorem H_writeEntry (u : SX) (p : Int32) : (sX4_writeEntry u p).2.2.2.1 = u.2.2.2.1 := by
  unfold sX4_writeEntry
  split <;> rfl
theorem C_writeEntry (u : SX) (p : Int32) : (sX4_writeEntry u p).2.2.2.2 = u.2.2.2.2 := by
  unfold sX4_writeEntry
  split <;> rfl
theorem F_writeOldest (u : SX) (p : Int32) : (sX4_writeOldest u p).2.1 = u.2.1 := by
  have loop : ∀ (n : Nat) (w : SX) (l2 l3 : Int32), (lsX4_writeOldest_14 p n w l2 l3).2.1 = w.2.1 := by
    intro n
    induction n with
    | zero => intro w l2 l3; rfl
    | succ n ih =>
      intro w l2 l3
      rw [lsX4_writeOldest_14]
      split
      · rw [ih, F_writeEntry]
      · rfl
  exact loop _ _ _ _
theorem fw_writeOldest {u : SX} {p : Int32} (h : FW u.2.1) : FW (sX4_writeOldest u p).2.1 := by rw [F_writeOldest]; exact h
theorem victim_pg (u : SX) : PgN (vX4_chooseVictim u) := by
  have loop : ∀ (n : Nat) (l1 l2 : Int32), PI n l2 → PgN l1 → PgN (lvX4_chooseVictim_5 u n l1 l2) := by
    intro n
    induction n with
    | zero => intro l1 l2 h; exact absurd h PI.zero
    | succ n ih =>
      intro l1 l2 h h1
      rw [lvX4_chooseVictim_5]
      split
      · rename_i c
        have hn := PI.next h c
        have hp : PgN l2 := Or.inr (PI.pg h c)
        split
        · exact ih _ _ hn h1
        · split
          · split
            · exact ih _ _ hn hp
            · split
              · exact ih _ _ hn h1
              · exact ih _ _ hn hp
          · exact ih _ _ hn h1
      · exact h1
  exact loop 65 _ _ PI.start (Or.inl rfl)
theorem victimM_pg (u : SM) : PgN (vX5_victim u) := by
  have loop : ∀ (n : Nat) (l1 l2 : Int32), PI n l2 → PgN l1 → PgN (lvX5_victim_5 u n l1 l2) := by
    intro n
    induction n with
    | zero => intro l1 l2 h; exact absurd h PI.zero
    | succ n ih =>
      intro l1 l2 h h1
      rw [lvX5_victim_5]
      split
      · rename_i c
        have hn := PI.next h c
        have hp : PgN l2 := Or.inr (PI.pg h c)
        split
        · exact ih _ _ hn h1
        · split
          · exact ih _ _ hn h1
          · split
            · exact ih _ _ hn hp
            · split
              · exact ih _ _ hn h1
              · exact ih _ _ hn hp
      · exact h1
  exact loop 65 _ _ PI.start (Or.inl rfl)
/-! the queue -/
theorem rem_loop (p : Int32) : ∀ (n : Nat) (w : SQ) (l : Int32), SI n w l → (∀ i, i < 8 → Pg (w.1 i)) → (∀ i, i < 8 → Pg ((lsX3_removeAt_21 p n w l).1 i)) ∧ (lsX3_removeAt_21 p n w l).2.2 = w.2.2 := by
  intro n
  induction n with
  | zero => intro w l h; exact absurd h SI.zero
  | succ n ih =>
    intro w l h hp
    rw [lsX3_removeAt_21]
    split
    · rename_i c
      have h1 := SI.inx1 h c
      obtain ⟨a, b⟩ := ih (upd w.1 (ix l) (w.1 (ix (l + 1))), upd w.2.1 (ix l) (w.2.1 (ix (l + 1))), w.2.2.1, w.2.2.2) (l + 1) (SI.next h c) (by
        intro i hi
        show Pg (upd w.1 (ix l) (w.1 (ix (l + 1))) i)
        unfold upd
        split
        · exact hp _ h1.2.1
        · exact hp i hi)
      exact ⟨a, b⟩
    · exact ⟨hp, rfl⟩
theorem qw_rem {q : SQ} {p p2 : Int32} (hq : QW q) (hp : PE p q) : QW (lsX3_removeAt_21 p2 9 (q.1, q.2.1, q.2.2.1, q.2.2.2 - 1) p) := by
  obtain ⟨a, b⟩ := rem_loop p2 9 (q.1, q.2.1, q.2.2.1, q.2.2.2 - 1) p (SI.start2 hp) hq.2
  obtain ⟨⟨n, c, h1, h2, h3, h4, h5⟩, -⟩ := hq
  obtain ⟨i, m, e, e2, h6, h7⟩ := hp
  have hnm : n = m := (nI_eq (by omega) (by omega)).mp (h1.symm.trans e2)
  subst hnm
  refine ⟨⟨n - 1, c, ?_, ?_, by omega, h4, h5⟩, a⟩
  · rw [show (lsX3_removeAt_21 p2 9 (q.1, q.2.1, q.2.2.1, q.2.2.2 - 1) p).2.2.2 = q.2.2.2 - 1 by rw [b], h1]
    exact sub_nI (b := 1) (by omega)
  · rw [show (lsX3_removeAt_21 p2 9 (q.1, q.2.1, q.2.2.1, q.2.2.2 - 1) p).2.2.1 = q.2.2.1 by rw [b], h2]
theorem qw_removeAt {q : SQ} {p : Int32} (hq : QW q) : QW (sX3_removeAt q p) := by
  unfold sX3_removeAt
  split
  · exact hq
  · rename_i c
    exact qw_rem hq (has_pe hq c)
theorem qw_writeEntry {u : SX} {p : Int32} (hq : QW u.2.2.1) : QW (sX4_writeEntry u p).2.2.1 := by
  unfold sX4_writeEntry
  split
  · exact hq
  · exact qw_removeAt hq
theorem qw_append {q : SQ} {p v : Int32} (hq : QW q) (hp : Pg p) : QW (sX3_append q p v) := by
  unfold sX3_append
  split
  · rename_i c
    obtain ⟨⟨n, k, h1, h2, h3, h4, h5⟩, h6⟩ := hq
    unfold vX3_isFull at c
    split at c
    · rename_i c2
      rw [h1, h2] at c2
      have h7 := (nI_ltI (by omega) (by omega)).mp c2
      refine ⟨⟨n + 1, k, ?_, h2, by omega, h4, h5⟩, ?_⟩
      · show q.2.2.2 + 1 = nI (n + 1)
        rw [h1]
        exact nI_1 n
      · intro i hi
        show Pg (upd q.1 (ix q.2.2.2) p i)
        unfold upd
        split
        · exact hp
        · exact h6 i hi
    · exact absurd c (by decide)
  · exact hq
theorem qw_enqueue {u : SX} {p : Int32} (hq : QW u.2.2.1) (hp : Pg p) : QW (sX4_enqueue u p).2.2.1 := by
  unfold sX4_enqueue
  split
  · dsimp only
    exact qw_append hq hp
  · dsimp only
    exact qw_append (qw_writeEntry hq) hp
theorem H_enqueue (u : SX) (p : Int32) : (sX4_enqueue u p).2.2.2.1 = u.2.2.2.1 := by
  unfold sX4_enqueue
  split
  · rfl
  · exact H_writeEntry u 0
theorem F_enqueue (u : SX) (p : Int32) : (sX4_enqueue u p).2.1 = u.2.1 := by
  unfold sX4_enqueue
  split
  · rfl
  · exact F_writeEntry u 0
theorem qw_makeRoom {u : SX} (hq : QW u.2.2.1) : QW (sX4_makeRoom u).2.2.1 := by
  unfold sX4_makeRoom
  split
  · exact hq
  · split
    · exact hq
    · rename_i c
      split
      · exact hq
      · exact qw_enqueue hq ((victim_pg u).resolve_left c)
theorem H_makeRoom (u : SX) : (sX4_makeRoom u).2.2.2.1 = u.2.2.2.1 := by
  unfold sX4_makeRoom
  split
  · rfl
  · split
    · rfl
    · split
      · rfl
      · exact H_enqueue u _
theorem hw_makeRoom {u : SX} (hh : HW u.2.2.2.1) : HW (sX4_makeRoom u).2.2.2.1 := by rw [H_makeRoom]; exact hh
theorem H_load (u : SX) (p : Int32) : (sX4_load u p).2.2.2.1 = u.2.2.2.1 := by
  unfold sX4_load
  split <;> rfl
theorem hw_load {u : SX} {p : Int32} (hh : HW u.2.2.2.1) : HW (sX4_load u p).2.2.2.1 := by rw [H_load]; exact hh
def OI (n : Nat) (l2 l3 : Int32) : Prop := ∃ i m, l3 = nI i ∧ l2 = nI m ∧ i ≤ m ∧ m ≤ 8 ∧ m < i + n
theorem OI.start {q : SQ} {p : Int32} (hc : Sm p) (hq : QW q) : OI 9 (if vX3_length q < p then vX3_length q else p) 0 := by
  obtain ⟨c, h1, rfl⟩ := hc
  obtain ⟨n, h2, e⟩ := qwSm hq
  split
  · exact ⟨0, n, rfl, e, by omega, h2, by omega⟩
  · exact ⟨0, c, rfl, rfl, by omega, h1, by omega⟩
theorem OI.zero {l2 l3 : Int32} : ¬ OI 0 l2 l3 := fun ⟨i, m, _, _, h1, h2, h3⟩ => by omega
theorem OI.next {n : Nat} {l2 l3 : Int32} (h : OI (n + 1) l2 l3) (c : l3 < l2) : OI n l2 (l3 + 1) := by
  obtain ⟨i, m, rfl, rfl, h1, h2, h3⟩ := h
  have := (nI_ltI (by omega) (by omega)).mp c
  exact ⟨i + 1, m, nI_1 i, rfl, by omega, h2, by omega⟩
/-! ===== the reference ===== -/
theorem rem_same (p p2 : Int32) : ∀ (n : Nat) (w : SM) (l : Int32), lsX5_removeEntry_12 p n w l = (w.1, w.2.1, lsX3_removeAt_21 p2 n w.2.2.1 l, w.2.2.2.1, w.2.2.2.2) := by
  intro n
  induction n with
  | zero => intro w l; rfl
  | succ n ih =>
    intro w l
    rw [lsX5_removeEntry_12, lsX3_removeAt_21]
    split
    · rw [ih]
    · rfl
theorem M_remove (u : SM) (p : Int32) : sX5_removeEntry u p = (u.1, u.2.1, lsX3_removeAt_21 0 9 (u.2.2.1.1, u.2.2.1.2.1, u.2.2.1.2.2.1, u.2.2.1.2.2.2 - 1) p, u.2.2.2.1, u.2.2.2.2) := rem_same p 0 9 _ p
theorem qw_removeM {u : SM} {p : Int32} (hq : QW u.2.2.1) (hp : PE p u.2.2.1) : QW (sX5_removeEntry u p).2.2.1 := by
  rw [M_remove]
  exact qw_rem hq hp
theorem qw_writeOldestM {u : SM} (hq : QW u.2.2.1) (hp : PE 0 u.2.2.1) : QW (sX5_writeOldest u).2.2.1 := qw_removeM (u := sX5_writeToDisk u (u.2.2.1.1 0) (u.2.2.1.2.1 0)) hq hp
theorem peFull {q : SQ} (hq : QW q) (c : q.2.2.2 = q.2.2.1) : PE 0 q := by
  obtain ⟨⟨n, k, h1, h2, h3, h4, h5⟩, -⟩ := hq
  rw [h1, h2] at c
  have := (nI_eq (by omega) (by omega)).mp c
  exact ⟨0, n, rfl, h1, by omega, by omega⟩
theorem evIx {q : SQ} (hq : QW q) (c : ¬ q.2.2.2 = q.2.2.1) : Ix q.2.2.2 (ix q.2.2.2) 8 := by
  obtain ⟨⟨n, k, h1, h2, h3, h4, h5⟩, -⟩ := hq
  refine Ix.ofN h1 ?_ (by decide)
  rcases Nat.lt_or_ge n 8 with h | h
  · exact h
  · exact absurd (by rw [h1, h2]; congr 1; omega) c
theorem wo_size {v : SM} (hq : QW v.2.2.1) (hp : PE 0 v.2.2.1) : (sX5_writeOldest v).2.2.1.2.2 = (v.2.2.1.2.2.1, v.2.2.1.2.2.2 - 1) := by
  show (sX5_removeEntry (sX5_writeToDisk v (v.2.2.1.1 0) (v.2.2.1.2.1 0)) 0).2.2.1.2.2 = _
  rw [M_remove]
  exact (rem_loop 0 9 (v.2.2.1.1, v.2.2.1.2.1, v.2.2.1.2.2.1, v.2.2.1.2.2.2 - 1) 0 (SI.start2 hp) hq.2).2
theorem woIx {v : SM} (hq : QW v.2.2.1) (c : v.2.2.1.2.2.2 = v.2.2.1.2.2.1) : Ix (sX5_writeOldest v).2.2.1.2.2.2 (ix (sX5_writeOldest v).2.2.1.2.2.2) 8 := by
  have hp := peFull hq c
  rw [show (sX5_writeOldest v).2.2.1.2.2.2 = v.2.2.1.2.2.2 - 1 from congrArg Prod.snd (wo_size hq hp)]
  obtain ⟨i, m, e, e2, h1, h2⟩ := hp
  refine Ix.ofN (i := m - 1) ?_ (by omega) (by decide)
  rw [e2]
  exact sub_nI (b := 1) (by omega)
def WI (n : Nat) (q : SQ) : Prop := QW q ∧ ∃ m, q.2.2.2 = nI m ∧ m ≤ 8 ∧ m < n
theorem WI.start {q : SQ} (hq : QW q) : WI 9 q := by
  obtain ⟨n, h1, h2⟩ := qwSm hq
  exact ⟨hq, n, h2, h1, by omega⟩
theorem WI.zero {q : SQ} : ¬ WI 0 q := fun ⟨_, m, _, _, h⟩ => by omega
theorem WI.qw {n : Nat} {q : SQ} (h : WI n q) : QW q := h.1
theorem WI.pe {n : Nat} {q : SQ} (h : WI n q) (c : 0 < q.2.2.2) : PE 0 q := by
  obtain ⟨_, m, e, h8, h⟩ := h
  rw [e] at c
  have c2 : nI 0 < nI m := c
  have := (nI_ltI (by omega) (by omega)).mp c2
  exact ⟨0, m, rfl, e, this, h8⟩
theorem WI.next {n : Nat} {w : SM} (h : WI (n + 1) w.2.2.1) (c : 0 < w.2.2.1.2.2.2) : WI n (sX5_writeOldest w).2.2.1 := by
  have hp := WI.pe h c
  refine ⟨qw_writeOldestM h.1 hp, ?_⟩
  rw [show (sX5_writeOldest w).2.2.1.2.2.2 = w.2.2.1.2.2.2 - 1 from congrArg Prod.snd (wo_size h.1 hp)]
  obtain ⟨_, m, e, h8, h9⟩ := h
  obtain ⟨i, m2, e1, e2, h1, h2⟩ := hp
  have : m = m2 := (nI_eq (by omega) (by omega)).mp (e.symm.trans e2)
  subst this
  refine ⟨m - 1, ?_, by omega, by omega⟩
  rw [e]
  exact sub_nI (b := 1) (by omega)
theorem pos_same (u : SM) (p : Int32) : vX5_positionInQueue u p = vX3_positionOf u.2.2.1 p := by
  have loop : ∀ (n : Nat) (l : Int32), lvX5_positionInQueue_2 u p n l = lvX3_positionOf_2 u.2.2.1 p n l := by
    intro n
    induction n with
    | zero => intro l; rfl
    | succ n ih =>
      intro l
      rw [lvX5_positionInQueue_2, lvX3_positionOf_2, ih]
  exact loop 9 0
theorem pos_loop {q : SQ} (p : Int32) : ∀ (n : Nat) (l : Int32), QI n q l → lvX3_positionOf_2 q p n l = -9 ∨ PE (lvX3_positionOf_2 q p n l) q := by
  intro n
  induction n with
  | zero => intro l h; exact absurd h QI.zero
  | succ n ih =>
    intro l h
    rw [lvX3_positionOf_2]
    split
    · rename_i c
      split
      · right
        obtain ⟨i, m, e, e2, h1, h2, h3⟩ := h
        rw [e, e2] at c
        have := (nI_ltI (by omega) (by omega)).mp c
        exact ⟨i, m, e, e2, this, h2⟩
      · exact ih _ (QI.next h c)
    · exact Or.inl rfl
theorem pos_pe {q : SQ} {p : Int32} (hq : QW q) (c : ¬ vX3_positionOf q p = -9) : PE (vX3_positionOf q p) q := (pos_loop p 9 0 (QI.start hq)).resolve_left c
theorem posPE {u : SM} {p : Int32} (hq : QW u.2.2.1) (c : ¬ vX5_positionInQueue u p = -9) : PE (vX5_positionInQueue u p) u.2.2.1 := by
  rw [pos_same] at c ⊢
  exact pos_pe hq c
theorem posIx {u : SM} {p : Int32} (hq : QW u.2.2.1) (c : ¬ vX5_positionInQueue u p = -9) : Ix (vX5_positionInQueue u p) (ix (vX5_positionInQueue u p)) 8 := (posPE hq c).inx
theorem inqIx {u : SM} {p : Int32} (hq : QW u.2.2.1) (c : ¬ vX5_isInQueue u p = 0) : Ix p (ix p) 8 := by
  obtain ⟨h1, h2⟩ := from_of (p := p) (lo := 0) (hi := u.2.2.1.2.2.2 - 1) c
  obtain ⟨j, hj, rfl⟩ := nI_of h1
  obtain ⟨⟨n, k, e1, e2, h3, h4, h5⟩, -⟩ := hq
  rw [e1] at h2
  rcases Nat.lt_or_ge 0 n with hn | hn
  · rw [show nI n - 1 = nI (n - 1) from sub_nI (b := 1) (by omega)] at h2
    refine ixIn ?_ (by decide)
    rcases Nat.lt_or_ge j 8 with h | h
    · exact h
    · exact absurd ((nI_ltI (by omega) hj).mpr (by omega)) h2
  · have : n = 0 := by omega
    subst this
    refine absurd ?_ h2
    rw [show nI 0 - 1 = -1 from by decide]
    exact Int32.lt_iff_toInt_lt.mpr (by rw [nI_toInt hj, show (-1 : Int32).toInt = -1 from by decide]; omega)
theorem qw_wr {u : SM} {p : Int32} (hq : QW u.2.2.1) : QW (sX5_writeResident u p).2.2.1 := by
  unfold sX5_writeResident
  split
  · exact hq
  · split <;> exact hq
theorem qw_evict {u : SM} {p : Int32} (hp : Pg p) (hq : QW u.2.2.1) : QW (sX5_evict u p).2.2.1 := by
  unfold sX5_evict
  split
  · exact hq
  · split
    · rename_i c
      have h1 := qw_writeOldestM (u := (u.1, (upd u.2.1.1 (ix p) 0, u.2.1.2.1, u.2.1.2.2.1, u.2.1.2.2.2.1, u.2.1.2.2.2.2), u.2.2.1, u.2.2.2.1, (u.2.2.2.2.1, u.2.2.2.2.2.1, u.2.2.2.2.2.2.1, u.2.2.2.2.2.2.2.1, u.2.2.2.2.2.2.2.2.1 + 1, u.2.2.2.2.2.2.2.2.2 + 1))) hq (peFull hq c)
      have h2 := wo_size (v := (u.1, (upd u.2.1.1 (ix p) 0, u.2.1.2.1, u.2.1.2.2.1, u.2.1.2.2.2.1, u.2.1.2.2.2.2), u.2.2.1, u.2.2.2.1, (u.2.2.2.2.1, u.2.2.2.2.2.1, u.2.2.2.2.2.2.1, u.2.2.2.2.2.2.2.1, u.2.2.2.2.2.2.2.2.1 + 1, u.2.2.2.2.2.2.2.2.2 + 1))) hq (peFull hq c)
      generalize sX5_writeOldest _ = w at h1 h2 ⊢
      obtain ⟨⟨n, k, e1, e2, h3, h4, h5⟩, h6⟩ := h1
      have hlt : n < k := by
        have e3 : w.2.2.1.2.2.2 = u.2.2.1.2.2.2 - 1 := by rw [h2]
        have e4 : w.2.2.1.2.2.1 = u.2.2.1.2.2.1 := by rw [h2]
        rw [e1] at e3
        rw [e2] at e4
        rw [c, ← e4, show nI k - 1 = nI (k - 1) from sub_nI (b := 1) (by omega)] at e3
        have := (nI_eq (by omega) (by omega)).mp e3
        omega
      refine ⟨⟨n + 1, k, ?_, e2, by omega, h4, h5⟩, ?_⟩
      · show w.2.2.1.2.2.2 + 1 = nI (n + 1)
        rw [e1]
        exact nI_1 n
      · intro i hi
        show Pg (upd w.2.2.1.1 (ix w.2.2.1.2.2.2) p i)
        unfold upd
        split
        · exact hp
        · exact h6 i hi
    · rename_i c
      obtain ⟨⟨n, k, e1, e2, h3, h4, h5⟩, h6⟩ := hq
      refine ⟨⟨n + 1, k, ?_, e2, ?_, h4, h5⟩, ?_⟩
      · show u.2.2.1.2.2.2 + 1 = nI (n + 1)
        rw [e1]
        exact nI_1 n
      · rcases Nat.lt_or_ge n k with h | h
        · exact h
        · exact absurd (by rw [e1, e2]; congr 1; omega) c
      · intro i hi
        show Pg (upd u.2.2.1.1 (ix u.2.2.1.2.2.2) p i)
        unfold upd
        split
        · exact hp
        · exact h6 i hi
/-! the record of a reference: what it leaves -/
theorem rec_loop (p : Int32) : ∀ (n : Nat) (w : SM) (l : Int32), ((lsX5_record_58 p n w l).1 = w.1 ∧ (lsX5_record_58 p n w l).2.1 = w.2.1 ∧ (lsX5_record_58 p n w l).2.2.1 = w.2.2.1 ∧ (lsX5_record_58 p n w l).2.2.2.2 = w.2.2.2.2) ∧ (HW w.2.2.2.1 → HW (lsX5_record_58 p n w l).2.2.2.1) := by
  intro n
  induction n with
  | zero => intro w l; exact ⟨⟨rfl, rfl, rfl, rfl⟩, id⟩
  | succ n ih =>
    intro w l
    rw [lsX5_record_58]
    split
    · obtain ⟨⟨a, b, c, d⟩, e⟩ := ih (w.1, w.2.1, w.2.2.1, (upd w.2.2.2.1.1 (ix (3 * p + l - 1)) (w.2.2.2.1.1 (ix (3 * p + l - 2))), w.2.2.2.1.2.1, w.2.2.2.1.2.2), w.2.2.2.2) (l + (-1))
      exact ⟨⟨a, b, c, d⟩, fun h => e ⟨h.1, h.2⟩⟩
    · split
      · rename_i c
        refine ⟨⟨rfl, rfl, rfl, rfl⟩, fun h => ⟨h.1, fun j hj => ?_⟩⟩
        show ∃ n, upd w.2.2.2.1.2.1 (ix p) (w.2.2.2.1.2.1 (ix p) + 1) j = nI n ∧ n ≤ 3
        unfold upd
        split
        · rename_i hjp
          subst hjp
          obtain ⟨k, e, h1, h3⟩ := h.1
          obtain ⟨m, e2, h4⟩ := h.2 _ hj
          rw [e, e2] at c
          have := (nI_ltI (by omega) (by omega)).mp c
          exact ⟨m + 1, by rw [e2]; exact nI_1 m, by omega⟩
        · exact h.2 j hj
      · exact ⟨⟨rfl, rfl, rfl, rfl⟩, fun h => ⟨h.1, h.2⟩⟩
theorem hw_zero {h : SH} {k : Nat} {a : Nat → Int32} (hh : HW h) : HW (a, upd h.2.1 k 0, h.2.2) := by
  refine ⟨hh.1, fun j hj => ?_⟩
  show ∃ n, upd h.2.1 k 0 j = nI n ∧ n ≤ 3
  unfold upd
  split
  · exact ⟨0, rfl, by omega⟩
  · exact hh.2 j hj
theorem M_record (u : SM) (p : Int32) : (sX5_record u p).1 = u.1 ∧ (sX5_record u p).2.1 = u.2.1 ∧ (sX5_record u p).2.2.1 = u.2.2.1 ∧ (HW u.2.2.2.1 → HW (sX5_record u p).2.2.2.1) := by
  unfold sX5_record
  split
  · split
    · split
      · obtain ⟨⟨a, b, c, d⟩, e⟩ := rec_loop p 3 (u.1, u.2.1, u.2.2.1, (u.2.2.2.1.1, upd u.2.2.2.1.2.1 (ix p) 0, u.2.2.2.1.2.2), (u.2.2.2.2.1, u.2.2.2.2.2.1 + 1, u.2.2.2.2.2.2.1, u.2.2.2.2.2.2.2.1, u.2.2.2.2.2.2.2.2.1, u.2.2.2.2.2.2.2.2.2)) u.2.2.2.1.2.2
        exact ⟨a, b, c, fun h => e (hw_zero h)⟩
      · obtain ⟨⟨a, b, c, d⟩, e⟩ := rec_loop p 3 (u.1, u.2.1, u.2.2.1, u.2.2.2.1, (u.2.2.2.2.1, u.2.2.2.2.2.1 + 1, u.2.2.2.2.2.2.1, u.2.2.2.2.2.2.2.1, u.2.2.2.2.2.2.2.2.1, u.2.2.2.2.2.2.2.2.2)) u.2.2.2.1.2.2
        exact ⟨a, b, c, e⟩
    · obtain ⟨⟨a, b, c, d⟩, e⟩ := rec_loop p 3 (u.1, u.2.1, u.2.2.1, u.2.2.2.1, (u.2.2.2.2.1, u.2.2.2.2.2.1 + 1, u.2.2.2.2.2.2.1, u.2.2.2.2.2.2.2.1, u.2.2.2.2.2.2.2.2.1, u.2.2.2.2.2.2.2.2.2)) u.2.2.2.1.2.2
      exact ⟨a, b, c, e⟩
  · obtain ⟨⟨a, b, c, d⟩, e⟩ := rec_loop p 3 (u.1, u.2.1, u.2.2.1, u.2.2.2.1, (u.2.2.2.2.1, u.2.2.2.2.2.1 + 1, u.2.2.2.2.2.2.1, u.2.2.2.2.2.2.2.1, u.2.2.2.2.2.2.2.2.1, u.2.2.2.2.2.2.2.2.2)) u.2.2.2.1.2.2
    exact ⟨a, b, c, e⟩
theorem qw_record {u : SM} {p : Int32} (hq : QW u.2.2.1) : QW (sX5_record u p).2.2.1 := by rw [(M_record u p).2.2.1]; exact hq
theorem hw_record {u : SM} {p : Int32} (h0 : Pg p) (hh : HW u.2.2.2.1) : HW (sX5_record u p).2.2.2.1 := (M_record u p).2.2.2 hh
theorem count_same {u v : SM} (h : u.2.1.1 = v.2.1.1) : vX5_residentCount u = vX5_residentCount v := by
  have loop : ∀ (n : Nat) (l1 l2 : Int32), lvX5_residentCount_4 u n l1 l2 = lvX5_residentCount_4 v n l1 l2 := by
    intro n
    induction n with
    | zero => intro l1 l2; rfl
    | succ n ih =>
      intro l1 l2
      rw [lvX5_residentCount_4, lvX5_residentCount_4, ih, ih, h]
  exact loop 65 0 0
theorem victim_C {d : SD} {f : SFm} {q : SQ} {h : SH} {c c2 : SC} : vX5_victim (d, f, q, h, c) = vX5_victim (d, f, q, h, c2) := by
  have loop : ∀ (n : Nat) (l1 l2 : Int32), lvX5_victim_5 (d, f, q, h, c) n l1 l2 = lvX5_victim_5 (d, f, q, h, c2) n l1 l2 := by
    intro n
    induction n with
    | zero => intro l1 l2; rfl
    | succ n ih =>
      intro l1 l2
      rw [lvX5_victim_5, lvX5_victim_5, ih, ih]
      rfl
  exact loop 65 _ _
theorem nv_C {v : SM} {c : SC} (h : NV v) : NV (v.1, v.2.1, v.2.2.1, v.2.2.2.1, c) := by
  intro e
  rw [victim_C (c2 := v.2.2.2.2)]
  exact h ((count_same rfl).trans e)
theorem none_same {u v : SM} (h : u.2.1 = v.2.1) : ∀ (n : Nat) (l1 m1 l2 : Int32), PI n l2 → (l1 = -9 ↔ m1 = -9) → (lvX5_victim_5 u n l1 l2 = -9 ↔ lvX5_victim_5 v n m1 l2 = -9) := by
  intro n
  induction n with
  | zero => intro l1 m1 l2 h; exact absurd h PI.zero
  | succ n ih =>
    intro l1 m1 l2 hi hl
    rw [lvX5_victim_5, lvX5_victim_5, h]
    by_cases c : l2 < 64
    · rw [if_pos c, if_pos c]
      have hn := PI.next hi c
      have hp := (PI.pg hi c).ne
      have same := ih l1 m1 _ hn hl
      have both := ih l2 l2 _ hn Iff.rfl
      by_cases c1 : v.2.1.1 (ix l2) = 0
      · rw [if_pos c1, if_pos c1]; exact same
      · rw [if_neg c1, if_neg c1]
        by_cases c2 : 0 < v.2.1.2.2.2.1 (ix l2)
        · rw [if_pos c2, if_pos c2]; exact same
        · rw [if_neg c2, if_neg c2]
          by_cases c3 : l1 = -9
          · rw [if_pos c3, if_pos (hl.mp c3)]; exact both
          · have c4 : ¬ m1 = -9 := fun z => c3 (hl.mpr z)
            rw [if_neg c3, if_neg c4]
            have t1 : ∀ {a b : Int32}, ¬ a = -9 → ¬ b = -9 → (lvX5_victim_5 u n a (l2 + 1) = -9 ↔ lvX5_victim_5 v n b (l2 + 1) = -9) := fun ha hb => ih _ _ _ hn ⟨fun z => absurd z ha, fun z => absurd z hb⟩
            split
            · split
              · exact t1 c3 c4
              · exact t1 c3 hp
            · split
              · exact t1 hp c4
              · exact t1 hp hp
    · rw [if_neg c, if_neg c]; exact hl
theorem notStuck {u : SM} {p : Int32} (h0 : Pg p) (hh : HW u.2.2.2.1) (c : vX5_isStuck u p = 0) : (sX5_record u p).2.1.1 (ix p) = 0 → NV (sX5_record u p) := by
  intro hz e
  have hF := (M_record u p).2.1
  refine (victimM_pg _).resolve_left (fun z => ?_)
  have z2 : vX5_victim u = -9 := (none_same hF.symm 65 (-9) (-9) 0 PI.start Iff.rfl).mpr z
  have e2 : vX5_residentCount u = u.2.1.2.2.2.2 := by
    rw [count_same (congrArg Prod.fst hF), hF] at e
    exact e
  rw [hF] at hz
  unfold vX5_isStuck at c
  rw [if_pos hz] at c
  have hc : vX5_canLoad u = 0 := by
    unfold vX5_canLoad
    rw [if_neg (by rw [e2]; exact Int32.lt_irrefl), if_pos z2]
  rw [if_pos hc] at c
  exact absurd c (by decide)
end
section
def rJ7_fill_53178 : Room := { frames := 0, cells := 0, slots := 0, locals := 0 }
theorem ndJ7_fill_53178 : yJ7_fill_53178.cls = RJ7 ∧ yJ7_fill_53178.cls ≠ "java/lang/invoke/MethodHandle" ∧ yJ7_fill_53178.cls ≠ "java/lang/invoke/VarHandle" ∧ (parseMethodDescriptor yJ7_fill_53178.desc).map (fun d => d.parameters.length) = some 2 := by decide +kernel
def rX0_erase : Room := { frames := 1, cells := 0, slots := 0, locals := 23 }
theorem ndX0_erase : yX0_erase.cls = RX0 ∧ yX0_erase.cls ≠ "java/lang/invoke/MethodHandle" ∧ yX0_erase.cls ≠ "java/lang/invoke/VarHandle" ∧ (parseMethodDescriptor yX0_erase.desc).map (fun d => d.parameters.length) = some 0 := by decide +kernel
theorem iX0_erase_X0 : ∀ w ∈ u_ws RX0 TX0 3, w ∈ wsX0_erase := by decide +kernel
theorem kX0_erase_9 : Cond.fieldLink RX0 9 (TX0 0).1 (TX0 0).2.1 (TX0 0).2.2.1 ∈ wsX0_erase := by decide +kernel
theorem kX0_erase_21 : Cond.fieldLink RX0 21 (TX0 1).1 (TX0 1).2.1 (TX0 1).2.2.1 ∈ wsX0_erase := by decide +kernel
theorem kX0_erase_25 : Cond.fieldLink RX0 25 (TX0 2).1 (TX0 2).2.1 (TX0 2).2.2.1 ∈ wsX0_erase := by decide +kernel
def rX1_vacate : Room := { frames := 0, cells := 0, slots := 0, locals := 0 }
theorem ndX1_vacate : yX1_vacate.cls = RX1 ∧ yX1_vacate.cls ≠ "java/lang/invoke/MethodHandle" ∧ yX1_vacate.cls ≠ "java/lang/invoke/VarHandle" ∧ (parseMethodDescriptor yX1_vacate.desc).map (fun d => d.parameters.length) = some 1 := by decide +kernel
theorem iX1_vacate_X1 : ∀ w ∈ u_ws RX1 TX1 6, w ∈ wsX1_vacate := by decide +kernel
theorem kX1_vacate_9 : Cond.fieldLink RX1 9 (TX1 0).1 (TX1 0).2.1 (TX1 0).2.2.1 ∈ wsX1_vacate := by decide +kernel
theorem kX1_vacate_15 : Cond.fieldLink RX1 15 (TX1 1).1 (TX1 1).2.1 (TX1 1).2.2.1 ∈ wsX1_vacate := by decide +kernel
theorem kX1_vacate_22 : Cond.fieldLink RX1 22 (TX1 3).1 (TX1 3).2.1 (TX1 3).2.2.1 ∈ wsX1_vacate := by decide +kernel
def rX1_empty : Room := { frames := 1, cells := 0, slots := 0, locals := 21 }
theorem ndX1_empty : yX1_empty.cls = RX1 ∧ yX1_empty.cls ≠ "java/lang/invoke/MethodHandle" ∧ yX1_empty.cls ≠ "java/lang/invoke/VarHandle" ∧ (parseMethodDescriptor yX1_empty.desc).map (fun d => d.parameters.length) = some 1 := by decide +kernel
theorem iX1_empty_X1 : ∀ w ∈ u_ws RX1 TX1 6, w ∈ wsX1_empty := by decide +kernel
theorem kX1_empty_29 : Cond.fieldLink RX1 29 (TX1 5).1 (TX1 5).2.1 (TX1 5).2.2.1 ∈ wsX1_empty := by decide +kernel
theorem kX1_empty_33 : Cond.fieldLink RX1 33 (TX1 4).1 (TX1 4).2.1 (TX1 4).2.2.1 ∈ wsX1_empty := by decide +kernel
def rX3_empty : Room := { frames := 0, cells := 0, slots := 0, locals := 0 }
theorem ndX3_empty : yX3_empty.cls = RX3 ∧ yX3_empty.cls ≠ "java/lang/invoke/MethodHandle" ∧ yX3_empty.cls ≠ "java/lang/invoke/VarHandle" ∧ (parseMethodDescriptor yX3_empty.desc).map (fun d => d.parameters.length) = some 1 := by decide +kernel
theorem iX3_empty_X3 : ∀ w ∈ u_ws RX3 TX3 4, w ∈ wsX3_empty := by decide +kernel
theorem kX3_empty_18 : Cond.fieldLink RX3 18 (TX3 3).1 (TX3 3).2.1 (TX3 3).2.2.1 ∈ wsX3_empty := by decide +kernel
theorem kX3_empty_22 : Cond.fieldLink RX3 22 (TX3 2).1 (TX3 2).2.1 (TX3 2).2.2.1 ∈ wsX3_empty := by decide +kernel
def rX2_forgetAll : Room := { frames := 1, cells := 0, slots := 0, locals := 23 }
theorem ndX2_forgetAll : yX2_forgetAll.cls = RX2 ∧ yX2_forgetAll.cls ≠ "java/lang/invoke/MethodHandle" ∧ yX2_forgetAll.cls ≠ "java/lang/invoke/VarHandle" ∧ (parseMethodDescriptor yX2_forgetAll.desc).map (fun d => d.parameters.length) = some 1 := by decide +kernel
theorem iX2_forgetAll_X2 : ∀ w ∈ u_ws RX2 TX2 3, w ∈ wsX2_forgetAll := by decide +kernel
theorem kX2_forgetAll_15 : Cond.fieldLink RX2 15 (TX2 1).1 (TX2 1).2.1 (TX2 1).2.2.1 ∈ wsX2_forgetAll := by decide +kernel
theorem kX2_forgetAll_24 : Cond.fieldLink RX2 24 (TX2 2).1 (TX2 2).2.1 (TX2 2).2.2.1 ∈ wsX2_forgetAll := by decide +kernel
def rX4_startAnew : Room := { frames := 2, cells := 0, slots := 0, locals := 44 }
theorem ndX4_startAnew : yX4_startAnew.cls = RX4 ∧ yX4_startAnew.cls ≠ "java/lang/invoke/MethodHandle" ∧ yX4_startAnew.cls ≠ "java/lang/invoke/VarHandle" ∧ (parseMethodDescriptor yX4_startAnew.desc).map (fun d => d.parameters.length) = some 4 := by decide +kernel
theorem iX4_startAnew_X4 : ∀ w ∈ u_ws RX4 TX4 10, w ∈ wsX4_startAnew := by decide +kernel
theorem kX4_startAnew_10 : Cond.fieldLink RX4 10 (TX4 0).1 (TX4 0).2.1 (TX4 0).2.2.1 ∈ wsX4_startAnew := by decide +kernel
theorem kX4_startAnew_19 : Cond.fieldLink RX4 19 (TX4 1).1 (TX4 1).2.1 (TX4 1).2.2.1 ∈ wsX4_startAnew := by decide +kernel
theorem kX4_startAnew_26 : Cond.fieldLink RX4 26 (TX4 2).1 (TX4 2).2.1 (TX4 2).2.2.1 ∈ wsX4_startAnew := by decide +kernel
theorem kX4_startAnew_33 : Cond.fieldLink RX4 33 (TX4 3).1 (TX4 3).2.1 (TX4 3).2.2.1 ∈ wsX4_startAnew := by decide +kernel
theorem kX4_startAnew_111 : Cond.fieldLink RX4 111 (TX4 5).1 (TX4 5).2.1 (TX4 5).2.2.1 ∈ wsX4_startAnew := by decide +kernel
theorem kX4_startAnew_129 : Cond.fieldLink RX4 129 (TX4 6).1 (TX4 6).2.1 (TX4 6).2.2.1 ∈ wsX4_startAnew := by decide +kernel
theorem kX4_startAnew_132 : Cond.fieldLink RX4 132 (TX4 7).1 (TX4 7).2.1 (TX4 7).2.2.1 ∈ wsX4_startAnew := by decide +kernel
theorem kX4_startAnew_135 : Cond.fieldLink RX4 135 (TX4 8).1 (TX4 8).2.1 (TX4 8).2.2.1 ∈ wsX4_startAnew := by decide +kernel
theorem kX4_startAnew_144 : Cond.fieldLink RX4 144 (TX4 9).1 (TX4 9).2.1 (TX4 9).2.2.1 ∈ wsX4_startAnew := by decide +kernel
theorem kX4_startAnew_157 : Cond.fieldLink RX4 157 (TX4 4).1 (TX4 4).2.1 (TX4 4).2.2.1 ∈ wsX4_startAnew := by decide +kernel
def rX4_isWithin : Room := { frames := 0, cells := 0, slots := 0, locals := 0 }
theorem ndX4_isWithin : yX4_isWithin.cls = RX4 ∧ yX4_isWithin.cls ≠ "java/lang/invoke/MethodHandle" ∧ yX4_isWithin.cls ≠ "java/lang/invoke/VarHandle" ∧ (parseMethodDescriptor yX4_isWithin.desc).map (fun d => d.parameters.length) = some 3 := by decide +kernel
def rX4_reset : Room := { frames := 3, cells := 0, slots := 0, locals := 68 }
theorem ndX4_reset : yX4_reset.cls = RX4 ∧ yX4_reset.cls ≠ "java/lang/invoke/MethodHandle" ∧ yX4_reset.cls ≠ "java/lang/invoke/VarHandle" ∧ (parseMethodDescriptor yX4_reset.desc).map (fun d => d.parameters.length) = some 4 := by decide +kernel
def rX4_isPage : Room := { frames := 1, cells := 0, slots := 0, locals := 22 }
theorem ndX4_isPage : yX4_isPage.cls = RX4 ∧ yX4_isPage.cls ≠ "java/lang/invoke/MethodHandle" ∧ yX4_isPage.cls ≠ "java/lang/invoke/VarHandle" ∧ (parseMethodDescriptor yX4_isPage.desc).map (fun d => d.parameters.length) = some 1 := by decide +kernel
def rX1_holds : Room := { frames := 0, cells := 0, slots := 0, locals := 0 }
theorem ndX1_holds : yX1_holds.cls = RX1 ∧ yX1_holds.cls ≠ "java/lang/invoke/MethodHandle" ∧ yX1_holds.cls ≠ "java/lang/invoke/VarHandle" ∧ (parseMethodDescriptor yX1_holds.desc).map (fun d => d.parameters.length) = some 1 := by decide +kernel
theorem iX1_holds_X1 : ∀ w ∈ u_ws RX1 TX1 6, w ∈ wsX1_holds := by decide +kernel
theorem kX1_holds_9 : Cond.fieldLink RX1 9 (TX1 0).1 (TX1 0).2.1 (TX1 0).2.2.1 ∈ wsX1_holds := by decide +kernel
def rX1_areFull : Room := { frames := 0, cells := 0, slots := 0, locals := 0 }
theorem ndX1_areFull : yX1_areFull.cls = RX1 ∧ yX1_areFull.cls ≠ "java/lang/invoke/MethodHandle" ∧ yX1_areFull.cls ≠ "java/lang/invoke/VarHandle" ∧ (parseMethodDescriptor yX1_areFull.desc).map (fun d => d.parameters.length) = some 0 := by decide +kernel
theorem iX1_areFull_X1 : ∀ w ∈ u_ws RX1 TX1 6, w ∈ wsX1_areFull := by decide +kernel
theorem kX1_areFull_29 : Cond.fieldLink RX1 29 (TX1 5).1 (TX1 5).2.1 (TX1 5).2.2.1 ∈ wsX1_areFull := by decide +kernel
theorem kX1_areFull_33 : Cond.fieldLink RX1 33 (TX1 4).1 (TX1 4).2.1 (TX1 4).2.2.1 ∈ wsX1_areFull := by decide +kernel
def rX1_pinsOf : Room := { frames := 0, cells := 0, slots := 0, locals := 0 }
theorem ndX1_pinsOf : yX1_pinsOf.cls = RX1 ∧ yX1_pinsOf.cls ≠ "java/lang/invoke/MethodHandle" ∧ yX1_pinsOf.cls ≠ "java/lang/invoke/VarHandle" ∧ (parseMethodDescriptor yX1_pinsOf.desc).map (fun d => d.parameters.length) = some 1 := by decide +kernel
theorem iX1_pinsOf_X1 : ∀ w ∈ u_ws RX1 TX1 6, w ∈ wsX1_pinsOf := by decide +kernel
theorem kX1_pinsOf_22 : Cond.fieldLink RX1 22 (TX1 3).1 (TX1 3).2.1 (TX1 3).2.2.1 ∈ wsX1_pinsOf := by decide +kernel
def rX2_timeOf : Room := { frames := 0, cells := 0, slots := 0, locals := 0 }
theorem ndX2_timeOf : yX2_timeOf.cls = RX2 ∧ yX2_timeOf.cls ≠ "java/lang/invoke/MethodHandle" ∧ yX2_timeOf.cls ≠ "java/lang/invoke/VarHandle" ∧ (parseMethodDescriptor yX2_timeOf.desc).map (fun d => d.parameters.length) = some 2 := by decide +kernel
theorem iX2_timeOf_X2 : ∀ w ∈ u_ws RX2 TX2 3, w ∈ wsX2_timeOf := by decide +kernel
theorem kX2_timeOf_9 : Cond.fieldLink RX2 9 (TX2 0).1 (TX2 0).2.1 (TX2 0).2.2.1 ∈ wsX2_timeOf := by decide +kernel
theorem kX2_timeOf_15 : Cond.fieldLink RX2 15 (TX2 1).1 (TX2 1).2.1 (TX2 1).2.2.1 ∈ wsX2_timeOf := by decide +kernel
def rX2_goesBefore : Room := { frames := 1, cells := 0, slots := 0, locals := 22 }
theorem ndX2_goesBefore : yX2_goesBefore.cls = RX2 ∧ yX2_goesBefore.cls ≠ "java/lang/invoke/MethodHandle" ∧ yX2_goesBefore.cls ≠ "java/lang/invoke/VarHandle" ∧ (parseMethodDescriptor yX2_goesBefore.desc).map (fun d => d.parameters.length) = some 2 := by decide +kernel
theorem iX2_goesBefore_X2 : ∀ w ∈ u_ws RX2 TX2 3, w ∈ wsX2_goesBefore := by decide +kernel
theorem kX2_goesBefore_15 : Cond.fieldLink RX2 15 (TX2 1).1 (TX2 1).2.1 (TX2 1).2.2.1 ∈ wsX2_goesBefore := by decide +kernel
theorem kX2_goesBefore_24 : Cond.fieldLink RX2 24 (TX2 2).1 (TX2 2).2.1 (TX2 2).2.2.1 ∈ wsX2_goesBefore := by decide +kernel
def rX4_chooseVictim : Room := { frames := 2, cells := 0, slots := 0, locals := 47 }
theorem ndX4_chooseVictim : yX4_chooseVictim.cls = RX4 ∧ yX4_chooseVictim.cls ≠ "java/lang/invoke/MethodHandle" ∧ yX4_chooseVictim.cls ≠ "java/lang/invoke/VarHandle" ∧ (parseMethodDescriptor yX4_chooseVictim.desc).map (fun d => d.parameters.length) = some 0 := by decide +kernel
theorem iX4_chooseVictim_X4 : ∀ w ∈ u_ws RX4 TX4 10, w ∈ wsX4_chooseVictim := by decide +kernel
theorem kX4_chooseVictim_19 : Cond.fieldLink RX4 19 (TX4 1).1 (TX4 1).2.1 (TX4 1).2.2.1 ∈ wsX4_chooseVictim := by decide +kernel
theorem kX4_chooseVictim_33 : Cond.fieldLink RX4 33 (TX4 3).1 (TX4 3).2.1 (TX4 3).2.2.1 ∈ wsX4_chooseVictim := by decide +kernel
def rX4_canReference : Room := { frames := 3, cells := 0, slots := 0, locals := 69 }
theorem ndX4_canReference : yX4_canReference.cls = RX4 ∧ yX4_canReference.cls ≠ "java/lang/invoke/MethodHandle" ∧ yX4_canReference.cls ≠ "java/lang/invoke/VarHandle" ∧ (parseMethodDescriptor yX4_canReference.desc).map (fun d => d.parameters.length) = some 1 := by decide +kernel
theorem iX4_canReference_X4 : ∀ w ∈ u_ws RX4 TX4 10, w ∈ wsX4_canReference := by decide +kernel
theorem kX4_canReference_19 : Cond.fieldLink RX4 19 (TX4 1).1 (TX4 1).2.1 (TX4 1).2.2.1 ∈ wsX4_canReference := by decide +kernel
def rX1_isChanged : Room := { frames := 0, cells := 0, slots := 0, locals := 0 }
theorem ndX1_isChanged : yX1_isChanged.cls = RX1 ∧ yX1_isChanged.cls ≠ "java/lang/invoke/MethodHandle" ∧ yX1_isChanged.cls ≠ "java/lang/invoke/VarHandle" ∧ (parseMethodDescriptor yX1_isChanged.desc).map (fun d => d.parameters.length) = some 1 := by decide +kernel
theorem iX1_isChanged_X1 : ∀ w ∈ u_ws RX1 TX1 6, w ∈ wsX1_isChanged := by decide +kernel
theorem kX1_isChanged_15 : Cond.fieldLink RX1 15 (TX1 1).1 (TX1 1).2.1 (TX1 1).2.2.1 ∈ wsX1_isChanged := by decide +kernel
def rX1_release : Room := { frames := 1, cells := 0, slots := 0, locals := 21 }
theorem ndX1_release : yX1_release.cls = RX1 ∧ yX1_release.cls ≠ "java/lang/invoke/MethodHandle" ∧ yX1_release.cls ≠ "java/lang/invoke/VarHandle" ∧ (parseMethodDescriptor yX1_release.desc).map (fun d => d.parameters.length) = some 1 := by decide +kernel
theorem iX1_release_X1 : ∀ w ∈ u_ws RX1 TX1 6, w ∈ wsX1_release := by decide +kernel
theorem kX1_release_29 : Cond.fieldLink RX1 29 (TX1 5).1 (TX1 5).2.1 (TX1 5).2.2.1 ∈ wsX1_release := by decide +kernel
def rX3_isFull : Room := { frames := 0, cells := 0, slots := 0, locals := 0 }
theorem ndX3_isFull : yX3_isFull.cls = RX3 ∧ yX3_isFull.cls ≠ "java/lang/invoke/MethodHandle" ∧ yX3_isFull.cls ≠ "java/lang/invoke/VarHandle" ∧ (parseMethodDescriptor yX3_isFull.desc).map (fun d => d.parameters.length) = some 0 := by decide +kernel
theorem iX3_isFull_X3 : ∀ w ∈ u_ws RX3 TX3 4, w ∈ wsX3_isFull := by decide +kernel
theorem kX3_isFull_18 : Cond.fieldLink RX3 18 (TX3 3).1 (TX3 3).2.1 (TX3 3).2.2.1 ∈ wsX3_isFull := by decide +kernel
theorem kX3_isFull_22 : Cond.fieldLink RX3 22 (TX3 2).1 (TX3 2).2.1 (TX3 2).2.2.1 ∈ wsX3_isFull := by decide +kernel
def rX1_valueOf : Room := { frames := 0, cells := 0, slots := 0, locals := 0 }
theorem ndX1_valueOf : yX1_valueOf.cls = RX1 ∧ yX1_valueOf.cls ≠ "java/lang/invoke/MethodHandle" ∧ yX1_valueOf.cls ≠ "java/lang/invoke/VarHandle" ∧ (parseMethodDescriptor yX1_valueOf.desc).map (fun d => d.parameters.length) = some 1 := by decide +kernel
theorem iX1_valueOf_X1 : ∀ w ∈ u_ws RX1 TX1 6, w ∈ wsX1_valueOf := by decide +kernel
theorem kX1_valueOf_18 : Cond.fieldLink RX1 18 (TX1 2).1 (TX1 2).2.1 (TX1 2).2.2.1 ∈ wsX1_valueOf := by decide +kernel
def rX3_append : Room := { frames := 1, cells := 0, slots := 0, locals := 20 }
theorem ndX3_append : yX3_append.cls = RX3 ∧ yX3_append.cls ≠ "java/lang/invoke/MethodHandle" ∧ yX3_append.cls ≠ "java/lang/invoke/VarHandle" ∧ (parseMethodDescriptor yX3_append.desc).map (fun d => d.parameters.length) = some 2 := by decide +kernel
theorem iX3_append_X3 : ∀ w ∈ u_ws RX3 TX3 4, w ∈ wsX3_append := by decide +kernel
theorem kX3_append_9 : Cond.fieldLink RX3 9 (TX3 0).1 (TX3 0).2.1 (TX3 0).2.2.1 ∈ wsX3_append := by decide +kernel
theorem kX3_append_15 : Cond.fieldLink RX3 15 (TX3 1).1 (TX3 1).2.1 (TX3 1).2.2.1 ∈ wsX3_append := by decide +kernel
theorem kX3_append_18 : Cond.fieldLink RX3 18 (TX3 3).1 (TX3 3).2.1 (TX3 3).2.2.1 ∈ wsX3_append := by decide +kernel
def rX3_has : Room := { frames := 0, cells := 0, slots := 0, locals := 0 }
theorem ndX3_has : yX3_has.cls = RX3 ∧ yX3_has.cls ≠ "java/lang/invoke/MethodHandle" ∧ yX3_has.cls ≠ "java/lang/invoke/VarHandle" ∧ (parseMethodDescriptor yX3_has.desc).map (fun d => d.parameters.length) = some 1 := by decide +kernel
theorem iX3_has_X3 : ∀ w ∈ u_ws RX3 TX3 4, w ∈ wsX3_has := by decide +kernel
theorem kX3_has_18 : Cond.fieldLink RX3 18 (TX3 3).1 (TX3 3).2.1 (TX3 3).2.2.1 ∈ wsX3_has := by decide +kernel
def rX3_pageAt : Room := { frames := 1, cells := 0, slots := 0, locals := 21 }
theorem ndX3_pageAt : yX3_pageAt.cls = RX3 ∧ yX3_pageAt.cls ≠ "java/lang/invoke/MethodHandle" ∧ yX3_pageAt.cls ≠ "java/lang/invoke/VarHandle" ∧ (parseMethodDescriptor yX3_pageAt.desc).map (fun d => d.parameters.length) = some 1 := by decide +kernel
theorem iX3_pageAt_X3 : ∀ w ∈ u_ws RX3 TX3 4, w ∈ wsX3_pageAt := by decide +kernel
theorem kX3_pageAt_9 : Cond.fieldLink RX3 9 (TX3 0).1 (TX3 0).2.1 (TX3 0).2.2.1 ∈ wsX3_pageAt := by decide +kernel
def rX3_valueAt : Room := { frames := 1, cells := 0, slots := 0, locals := 21 }
theorem ndX3_valueAt : yX3_valueAt.cls = RX3 ∧ yX3_valueAt.cls ≠ "java/lang/invoke/MethodHandle" ∧ yX3_valueAt.cls ≠ "java/lang/invoke/VarHandle" ∧ (parseMethodDescriptor yX3_valueAt.desc).map (fun d => d.parameters.length) = some 1 := by decide +kernel
theorem iX3_valueAt_X3 : ∀ w ∈ u_ws RX3 TX3 4, w ∈ wsX3_valueAt := by decide +kernel
theorem kX3_valueAt_15 : Cond.fieldLink RX3 15 (TX3 1).1 (TX3 1).2.1 (TX3 1).2.2.1 ∈ wsX3_valueAt := by decide +kernel
def rX0_store : Room := { frames := 0, cells := 0, slots := 0, locals := 0 }
theorem ndX0_store : yX0_store.cls = RX0 ∧ yX0_store.cls ≠ "java/lang/invoke/MethodHandle" ∧ yX0_store.cls ≠ "java/lang/invoke/VarHandle" ∧ (parseMethodDescriptor yX0_store.desc).map (fun d => d.parameters.length) = some 2 := by decide +kernel
theorem iX0_store_X0 : ∀ w ∈ u_ws RX0 TX0 3, w ∈ wsX0_store := by decide +kernel
theorem kX0_store_9 : Cond.fieldLink RX0 9 (TX0 0).1 (TX0 0).2.1 (TX0 0).2.2.1 ∈ wsX0_store := by decide +kernel
theorem kX0_store_25 : Cond.fieldLink RX0 25 (TX0 2).1 (TX0 2).2.1 (TX0 2).2.2.1 ∈ wsX0_store := by decide +kernel
def rX3_removeAt : Room := { frames := 1, cells := 0, slots := 0, locals := 21 }
theorem ndX3_removeAt : yX3_removeAt.cls = RX3 ∧ yX3_removeAt.cls ≠ "java/lang/invoke/MethodHandle" ∧ yX3_removeAt.cls ≠ "java/lang/invoke/VarHandle" ∧ (parseMethodDescriptor yX3_removeAt.desc).map (fun d => d.parameters.length) = some 1 := by decide +kernel
theorem iX3_removeAt_X3 : ∀ w ∈ u_ws RX3 TX3 4, w ∈ wsX3_removeAt := by decide +kernel
theorem kX3_removeAt_9 : Cond.fieldLink RX3 9 (TX3 0).1 (TX3 0).2.1 (TX3 0).2.2.1 ∈ wsX3_removeAt := by decide +kernel
theorem kX3_removeAt_15 : Cond.fieldLink RX3 15 (TX3 1).1 (TX3 1).2.1 (TX3 1).2.2.1 ∈ wsX3_removeAt := by decide +kernel
theorem kX3_removeAt_18 : Cond.fieldLink RX3 18 (TX3 3).1 (TX3 3).2.1 (TX3 3).2.2.1 ∈ wsX3_removeAt := by decide +kernel
def rX4_writeEntry : Room := { frames := 2, cells := 0, slots := 0, locals := 43 }
theorem ndX4_writeEntry : yX4_writeEntry.cls = RX4 ∧ yX4_writeEntry.cls ≠ "java/lang/invoke/MethodHandle" ∧ yX4_writeEntry.cls ≠ "java/lang/invoke/VarHandle" ∧ (parseMethodDescriptor yX4_writeEntry.desc).map (fun d => d.parameters.length) = some 1 := by decide +kernel
theorem iX4_writeEntry_X4 : ∀ w ∈ u_ws RX4 TX4 10, w ∈ wsX4_writeEntry := by decide +kernel
theorem kX4_writeEntry_10 : Cond.fieldLink RX4 10 (TX4 0).1 (TX4 0).2.1 (TX4 0).2.2.1 ∈ wsX4_writeEntry := by decide +kernel
theorem kX4_writeEntry_26 : Cond.fieldLink RX4 26 (TX4 2).1 (TX4 2).2.1 (TX4 2).2.2.1 ∈ wsX4_writeEntry := by decide +kernel
def rX4_enqueue : Room := { frames := 3, cells := 0, slots := 0, locals := 65 }
theorem ndX4_enqueue : yX4_enqueue.cls = RX4 ∧ yX4_enqueue.cls ≠ "java/lang/invoke/MethodHandle" ∧ yX4_enqueue.cls ≠ "java/lang/invoke/VarHandle" ∧ (parseMethodDescriptor yX4_enqueue.desc).map (fun d => d.parameters.length) = some 1 := by decide +kernel
theorem iX4_enqueue_X4 : ∀ w ∈ u_ws RX4 TX4 10, w ∈ wsX4_enqueue := by decide +kernel
theorem kX4_enqueue_19 : Cond.fieldLink RX4 19 (TX4 1).1 (TX4 1).2.1 (TX4 1).2.2.1 ∈ wsX4_enqueue := by decide +kernel
theorem kX4_enqueue_26 : Cond.fieldLink RX4 26 (TX4 2).1 (TX4 2).2.1 (TX4 2).2.2.1 ∈ wsX4_enqueue := by decide +kernel
theorem kX4_enqueue_144 : Cond.fieldLink RX4 144 (TX4 9).1 (TX4 9).2.1 (TX4 9).2.2.1 ∈ wsX4_enqueue := by decide +kernel
def rX4_makeRoom : Room := { frames := 4, cells := 0, slots := 0, locals := 86 }
theorem ndX4_makeRoom : yX4_makeRoom.cls = RX4 ∧ yX4_makeRoom.cls ≠ "java/lang/invoke/MethodHandle" ∧ yX4_makeRoom.cls ≠ "java/lang/invoke/VarHandle" ∧ (parseMethodDescriptor yX4_makeRoom.desc).map (fun d => d.parameters.length) = some 0 := by decide +kernel
theorem iX4_makeRoom_X4 : ∀ w ∈ u_ws RX4 TX4 10, w ∈ wsX4_makeRoom := by decide +kernel
theorem kX4_makeRoom_19 : Cond.fieldLink RX4 19 (TX4 1).1 (TX4 1).2.1 (TX4 1).2.2.1 ∈ wsX4_makeRoom := by decide +kernel
theorem kX4_makeRoom_135 : Cond.fieldLink RX4 135 (TX4 8).1 (TX4 8).2.1 (TX4 8).2.2.1 ∈ wsX4_makeRoom := by decide +kernel
def rX3_positionOf : Room := { frames := 0, cells := 0, slots := 0, locals := 0 }
theorem ndX3_positionOf : yX3_positionOf.cls = RX3 ∧ yX3_positionOf.cls ≠ "java/lang/invoke/MethodHandle" ∧ yX3_positionOf.cls ≠ "java/lang/invoke/VarHandle" ∧ (parseMethodDescriptor yX3_positionOf.desc).map (fun d => d.parameters.length) = some 1 := by decide +kernel
theorem iX3_positionOf_X3 : ∀ w ∈ u_ws RX3 TX3 4, w ∈ wsX3_positionOf := by decide +kernel
theorem kX3_positionOf_9 : Cond.fieldLink RX3 9 (TX3 0).1 (TX3 0).2.1 (TX3 0).2.2.1 ∈ wsX3_positionOf := by decide +kernel
theorem kX3_positionOf_18 : Cond.fieldLink RX3 18 (TX3 3).1 (TX3 3).2.1 (TX3 3).2.2.1 ∈ wsX3_positionOf := by decide +kernel
def rX1_place : Room := { frames := 0, cells := 0, slots := 0, locals := 0 }
theorem ndX1_place : yX1_place.cls = RX1 ∧ yX1_place.cls ≠ "java/lang/invoke/MethodHandle" ∧ yX1_place.cls ≠ "java/lang/invoke/VarHandle" ∧ (parseMethodDescriptor yX1_place.desc).map (fun d => d.parameters.length) = some 2 := by decide +kernel
theorem iX1_place_X1 : ∀ w ∈ u_ws RX1 TX1 6, w ∈ wsX1_place := by decide +kernel
theorem kX1_place_9 : Cond.fieldLink RX1 9 (TX1 0).1 (TX1 0).2.1 (TX1 0).2.2.1 ∈ wsX1_place := by decide +kernel
theorem kX1_place_18 : Cond.fieldLink RX1 18 (TX1 2).1 (TX1 2).2.1 (TX1 2).2.2.1 ∈ wsX1_place := by decide +kernel
theorem kX1_place_29 : Cond.fieldLink RX1 29 (TX1 5).1 (TX1 5).2.1 (TX1 5).2.2.1 ∈ wsX1_place := by decide +kernel
def rX1_change : Room := { frames := 0, cells := 0, slots := 0, locals := 0 }
theorem ndX1_change : yX1_change.cls = RX1 ∧ yX1_change.cls ≠ "java/lang/invoke/MethodHandle" ∧ yX1_change.cls ≠ "java/lang/invoke/VarHandle" ∧ (parseMethodDescriptor yX1_change.desc).map (fun d => d.parameters.length) = some 2 := by decide +kernel
theorem iX1_change_X1 : ∀ w ∈ u_ws RX1 TX1 6, w ∈ wsX1_change := by decide +kernel
theorem kX1_change_15 : Cond.fieldLink RX1 15 (TX1 1).1 (TX1 1).2.1 (TX1 1).2.2.1 ∈ wsX1_change := by decide +kernel
theorem kX1_change_18 : Cond.fieldLink RX1 18 (TX1 2).1 (TX1 2).2.1 (TX1 2).2.2.1 ∈ wsX1_change := by decide +kernel
def rX0_load : Room := { frames := 0, cells := 0, slots := 0, locals := 0 }
theorem ndX0_load : yX0_load.cls = RX0 ∧ yX0_load.cls ≠ "java/lang/invoke/MethodHandle" ∧ yX0_load.cls ≠ "java/lang/invoke/VarHandle" ∧ (parseMethodDescriptor yX0_load.desc).map (fun d => d.parameters.length) = some 1 := by decide +kernel
theorem iX0_load_X0 : ∀ w ∈ u_ws RX0 TX0 3, w ∈ wsX0_load := by decide +kernel
theorem kX0_load_9 : Cond.fieldLink RX0 9 (TX0 0).1 (TX0 0).2.1 (TX0 0).2.2.1 ∈ wsX0_load := by decide +kernel
theorem kX0_load_21 : Cond.fieldLink RX0 21 (TX0 1).1 (TX0 1).2.1 (TX0 1).2.2.1 ∈ wsX0_load := by decide +kernel
def rX4_load : Room := { frames := 2, cells := 0, slots := 0, locals := 43 }
theorem ndX4_load : yX4_load.cls = RX4 ∧ yX4_load.cls ≠ "java/lang/invoke/MethodHandle" ∧ yX4_load.cls ≠ "java/lang/invoke/VarHandle" ∧ (parseMethodDescriptor yX4_load.desc).map (fun d => d.parameters.length) = some 1 := by decide +kernel
theorem iX4_load_X4 : ∀ w ∈ u_ws RX4 TX4 10, w ∈ wsX4_load := by decide +kernel
theorem kX4_load_10 : Cond.fieldLink RX4 10 (TX4 0).1 (TX4 0).2.1 (TX4 0).2.2.1 ∈ wsX4_load := by decide +kernel
theorem kX4_load_19 : Cond.fieldLink RX4 19 (TX4 1).1 (TX4 1).2.1 (TX4 1).2.2.1 ∈ wsX4_load := by decide +kernel
theorem kX4_load_26 : Cond.fieldLink RX4 26 (TX4 2).1 (TX4 2).2.1 (TX4 2).2.2.1 ∈ wsX4_load := by decide +kernel
def rX2_forget : Room := { frames := 0, cells := 0, slots := 0, locals := 0 }
theorem ndX2_forget : yX2_forget.cls = RX2 ∧ yX2_forget.cls ≠ "java/lang/invoke/MethodHandle" ∧ yX2_forget.cls ≠ "java/lang/invoke/VarHandle" ∧ (parseMethodDescriptor yX2_forget.desc).map (fun d => d.parameters.length) = some 1 := by decide +kernel
theorem iX2_forget_X2 : ∀ w ∈ u_ws RX2 TX2 3, w ∈ wsX2_forget := by decide +kernel
theorem kX2_forget_15 : Cond.fieldLink RX2 15 (TX2 1).1 (TX2 1).2.1 (TX2 1).2.2.1 ∈ wsX2_forget := by decide +kernel
def rX4_forgetIfStale : Room := { frames := 1, cells := 0, slots := 0, locals := 22 }
theorem ndX4_forgetIfStale : yX4_forgetIfStale.cls = RX4 ∧ yX4_forgetIfStale.cls ≠ "java/lang/invoke/MethodHandle" ∧ yX4_forgetIfStale.cls ≠ "java/lang/invoke/VarHandle" ∧ (parseMethodDescriptor yX4_forgetIfStale.desc).map (fun d => d.parameters.length) = some 1 := by decide +kernel
theorem iX4_forgetIfStale_X4 : ∀ w ∈ u_ws RX4 TX4 10, w ∈ wsX4_forgetIfStale := by decide +kernel
theorem kX4_forgetIfStale_33 : Cond.fieldLink RX4 33 (TX4 3).1 (TX4 3).2.1 (TX4 3).2.2.1 ∈ wsX4_forgetIfStale := by decide +kernel
theorem kX4_forgetIfStale_111 : Cond.fieldLink RX4 111 (TX4 5).1 (TX4 5).2.1 (TX4 5).2.2.1 ∈ wsX4_forgetIfStale := by decide +kernel
theorem kX4_forgetIfStale_157 : Cond.fieldLink RX4 157 (TX4 4).1 (TX4 4).2.1 (TX4 4).2.2.1 ∈ wsX4_forgetIfStale := by decide +kernel
def rX2_record : Room := { frames := 0, cells := 0, slots := 0, locals := 0 }
theorem ndX2_record : yX2_record.cls = RX2 ∧ yX2_record.cls ≠ "java/lang/invoke/MethodHandle" ∧ yX2_record.cls ≠ "java/lang/invoke/VarHandle" ∧ (parseMethodDescriptor yX2_record.desc).map (fun d => d.parameters.length) = some 2 := by decide +kernel
theorem iX2_record_X2 : ∀ w ∈ u_ws RX2 TX2 3, w ∈ wsX2_record := by decide +kernel
theorem kX2_record_9 : Cond.fieldLink RX2 9 (TX2 0).1 (TX2 0).2.1 (TX2 0).2.2.1 ∈ wsX2_record := by decide +kernel
theorem kX2_record_15 : Cond.fieldLink RX2 15 (TX2 1).1 (TX2 1).2.1 (TX2 1).2.2.1 ∈ wsX2_record := by decide +kernel
theorem kX2_record_24 : Cond.fieldLink RX2 24 (TX2 2).1 (TX2 2).2.1 (TX2 2).2.2.1 ∈ wsX2_record := by decide +kernel
def rX4_reference : Room := { frames := 5, cells := 0, slots := 0, locals := 107 }
theorem ndX4_reference : yX4_reference.cls = RX4 ∧ yX4_reference.cls ≠ "java/lang/invoke/MethodHandle" ∧ yX4_reference.cls ≠ "java/lang/invoke/VarHandle" ∧ (parseMethodDescriptor yX4_reference.desc).map (fun d => d.parameters.length) = some 1 := by decide +kernel
theorem iX4_reference_X4 : ∀ w ∈ u_ws RX4 TX4 10, w ∈ wsX4_reference := by decide +kernel
theorem kX4_reference_19 : Cond.fieldLink RX4 19 (TX4 1).1 (TX4 1).2.1 (TX4 1).2.2.1 ∈ wsX4_reference := by decide +kernel
theorem kX4_reference_33 : Cond.fieldLink RX4 33 (TX4 3).1 (TX4 3).2.1 (TX4 3).2.2.1 ∈ wsX4_reference := by decide +kernel
theorem kX4_reference_111 : Cond.fieldLink RX4 111 (TX4 5).1 (TX4 5).2.1 (TX4 5).2.2.1 ∈ wsX4_reference := by decide +kernel
theorem kX4_reference_129 : Cond.fieldLink RX4 129 (TX4 6).1 (TX4 6).2.1 (TX4 6).2.2.1 ∈ wsX4_reference := by decide +kernel
theorem kX4_reference_132 : Cond.fieldLink RX4 132 (TX4 7).1 (TX4 7).2.1 (TX4 7).2.2.1 ∈ wsX4_reference := by decide +kernel
def rX4_read : Room := { frames := 6, cells := 0, slots := 0, locals := 128 }
theorem ndX4_read : yX4_read.cls = RX4 ∧ yX4_read.cls ≠ "java/lang/invoke/MethodHandle" ∧ yX4_read.cls ≠ "java/lang/invoke/VarHandle" ∧ (parseMethodDescriptor yX4_read.desc).map (fun d => d.parameters.length) = some 1 := by decide +kernel
theorem iX4_read_X4 : ∀ w ∈ u_ws RX4 TX4 10, w ∈ wsX4_read := by decide +kernel
theorem kX4_read_19 : Cond.fieldLink RX4 19 (TX4 1).1 (TX4 1).2.1 (TX4 1).2.2.1 ∈ wsX4_read := by decide +kernel
def rX4_write : Room := { frames := 6, cells := 0, slots := 0, locals := 128 }
theorem ndX4_write : yX4_write.cls = RX4 ∧ yX4_write.cls ≠ "java/lang/invoke/MethodHandle" ∧ yX4_write.cls ≠ "java/lang/invoke/VarHandle" ∧ (parseMethodDescriptor yX4_write.desc).map (fun d => d.parameters.length) = some 2 := by decide +kernel
theorem iX4_write_X4 : ∀ w ∈ u_ws RX4 TX4 10, w ∈ wsX4_write := by decide +kernel
theorem kX4_write_19 : Cond.fieldLink RX4 19 (TX4 1).1 (TX4 1).2.1 (TX4 1).2.2.1 ∈ wsX4_write := by decide +kernel
def rX1_addPin : Room := { frames := 0, cells := 0, slots := 0, locals := 0 }
theorem ndX1_addPin : yX1_addPin.cls = RX1 ∧ yX1_addPin.cls ≠ "java/lang/invoke/MethodHandle" ∧ yX1_addPin.cls ≠ "java/lang/invoke/VarHandle" ∧ (parseMethodDescriptor yX1_addPin.desc).map (fun d => d.parameters.length) = some 1 := by decide +kernel
theorem iX1_addPin_X1 : ∀ w ∈ u_ws RX1 TX1 6, w ∈ wsX1_addPin := by decide +kernel
theorem kX1_addPin_22 : Cond.fieldLink RX1 22 (TX1 3).1 (TX1 3).2.1 (TX1 3).2.2.1 ∈ wsX1_addPin := by decide +kernel
def rX4_pin : Room := { frames := 6, cells := 0, slots := 0, locals := 128 }
theorem ndX4_pin : yX4_pin.cls = RX4 ∧ yX4_pin.cls ≠ "java/lang/invoke/MethodHandle" ∧ yX4_pin.cls ≠ "java/lang/invoke/VarHandle" ∧ (parseMethodDescriptor yX4_pin.desc).map (fun d => d.parameters.length) = some 1 := by decide +kernel
theorem iX4_pin_X4 : ∀ w ∈ u_ws RX4 TX4 10, w ∈ wsX4_pin := by decide +kernel
theorem kX4_pin_19 : Cond.fieldLink RX4 19 (TX4 1).1 (TX4 1).2.1 (TX4 1).2.2.1 ∈ wsX4_pin := by decide +kernel
def rX1_removePin : Room := { frames := 0, cells := 0, slots := 0, locals := 0 }
theorem ndX1_removePin : yX1_removePin.cls = RX1 ∧ yX1_removePin.cls ≠ "java/lang/invoke/MethodHandle" ∧ yX1_removePin.cls ≠ "java/lang/invoke/VarHandle" ∧ (parseMethodDescriptor yX1_removePin.desc).map (fun d => d.parameters.length) = some 1 := by decide +kernel
theorem iX1_removePin_X1 : ∀ w ∈ u_ws RX1 TX1 6, w ∈ wsX1_removePin := by decide +kernel
theorem kX1_removePin_22 : Cond.fieldLink RX1 22 (TX1 3).1 (TX1 3).2.1 (TX1 3).2.2.1 ∈ wsX1_removePin := by decide +kernel
def rX4_unpin : Room := { frames := 2, cells := 0, slots := 0, locals := 42 }
theorem ndX4_unpin : yX4_unpin.cls = RX4 ∧ yX4_unpin.cls ≠ "java/lang/invoke/MethodHandle" ∧ yX4_unpin.cls ≠ "java/lang/invoke/VarHandle" ∧ (parseMethodDescriptor yX4_unpin.desc).map (fun d => d.parameters.length) = some 1 := by decide +kernel
theorem iX4_unpin_X4 : ∀ w ∈ u_ws RX4 TX4 10, w ∈ wsX4_unpin := by decide +kernel
theorem kX4_unpin_19 : Cond.fieldLink RX4 19 (TX4 1).1 (TX4 1).2.1 (TX4 1).2.2.1 ∈ wsX4_unpin := by decide +kernel
def rX1_markClean : Room := { frames := 0, cells := 0, slots := 0, locals := 0 }
theorem ndX1_markClean : yX1_markClean.cls = RX1 ∧ yX1_markClean.cls ≠ "java/lang/invoke/MethodHandle" ∧ yX1_markClean.cls ≠ "java/lang/invoke/VarHandle" ∧ (parseMethodDescriptor yX1_markClean.desc).map (fun d => d.parameters.length) = some 1 := by decide +kernel
theorem iX1_markClean_X1 : ∀ w ∈ u_ws RX1 TX1 6, w ∈ wsX1_markClean := by decide +kernel
theorem kX1_markClean_15 : Cond.fieldLink RX1 15 (TX1 1).1 (TX1 1).2.1 (TX1 1).2.2.1 ∈ wsX1_markClean := by decide +kernel
def rX4_writeFrame : Room := { frames := 1, cells := 0, slots := 0, locals := 22 }
theorem ndX4_writeFrame : yX4_writeFrame.cls = RX4 ∧ yX4_writeFrame.cls ≠ "java/lang/invoke/MethodHandle" ∧ yX4_writeFrame.cls ≠ "java/lang/invoke/VarHandle" ∧ (parseMethodDescriptor yX4_writeFrame.desc).map (fun d => d.parameters.length) = some 1 := by decide +kernel
theorem iX4_writeFrame_X4 : ∀ w ∈ u_ws RX4 TX4 10, w ∈ wsX4_writeFrame := by decide +kernel
theorem kX4_writeFrame_10 : Cond.fieldLink RX4 10 (TX4 0).1 (TX4 0).2.1 (TX4 0).2.2.1 ∈ wsX4_writeFrame := by decide +kernel
theorem kX4_writeFrame_19 : Cond.fieldLink RX4 19 (TX4 1).1 (TX4 1).2.1 (TX4 1).2.2.1 ∈ wsX4_writeFrame := by decide +kernel
def rX4_flush : Room := { frames := 3, cells := 0, slots := 0, locals := 65 }
theorem ndX4_flush : yX4_flush.cls = RX4 ∧ yX4_flush.cls ≠ "java/lang/invoke/MethodHandle" ∧ yX4_flush.cls ≠ "java/lang/invoke/VarHandle" ∧ (parseMethodDescriptor yX4_flush.desc).map (fun d => d.parameters.length) = some 1 := by decide +kernel
theorem iX4_flush_X4 : ∀ w ∈ u_ws RX4 TX4 10, w ∈ wsX4_flush := by decide +kernel
theorem kX4_flush_19 : Cond.fieldLink RX4 19 (TX4 1).1 (TX4 1).2.1 (TX4 1).2.2.1 ∈ wsX4_flush := by decide +kernel
theorem kX4_flush_26 : Cond.fieldLink RX4 26 (TX4 2).1 (TX4 2).2.1 (TX4 2).2.2.1 ∈ wsX4_flush := by decide +kernel
def rX3_length : Room := { frames := 0, cells := 0, slots := 0, locals := 0 }
theorem ndX3_length : yX3_length.cls = RX3 ∧ yX3_length.cls ≠ "java/lang/invoke/MethodHandle" ∧ yX3_length.cls ≠ "java/lang/invoke/VarHandle" ∧ (parseMethodDescriptor yX3_length.desc).map (fun d => d.parameters.length) = some 0 := by decide +kernel
theorem iX3_length_X3 : ∀ w ∈ u_ws RX3 TX3 4, w ∈ wsX3_length := by decide +kernel
theorem kX3_length_18 : Cond.fieldLink RX3 18 (TX3 3).1 (TX3 3).2.1 (TX3 3).2.2.1 ∈ wsX3_length := by decide +kernel
def rX4_writeOldest : Room := { frames := 3, cells := 0, slots := 0, locals := 65 }
theorem ndX4_writeOldest : yX4_writeOldest.cls = RX4 ∧ yX4_writeOldest.cls ≠ "java/lang/invoke/MethodHandle" ∧ yX4_writeOldest.cls ≠ "java/lang/invoke/VarHandle" ∧ (parseMethodDescriptor yX4_writeOldest.desc).map (fun d => d.parameters.length) = some 1 := by decide +kernel
theorem iX4_writeOldest_X4 : ∀ w ∈ u_ws RX4 TX4 10, w ∈ wsX4_writeOldest := by decide +kernel
theorem kX4_writeOldest_26 : Cond.fieldLink RX4 26 (TX4 2).1 (TX4 2).2.1 (TX4 2).2.2.1 ∈ wsX4_writeOldest := by decide +kernel
def rX4_flushAll : Room := { frames := 4, cells := 0, slots := 0, locals := 88 }
theorem ndX4_flushAll : yX4_flushAll.cls = RX4 ∧ yX4_flushAll.cls ≠ "java/lang/invoke/MethodHandle" ∧ yX4_flushAll.cls ≠ "java/lang/invoke/VarHandle" ∧ (parseMethodDescriptor yX4_flushAll.desc).map (fun d => d.parameters.length) = some 0 := by decide +kernel
theorem iX4_flushAll_X4 : ∀ w ∈ u_ws RX4 TX4 10, w ∈ wsX4_flushAll := by decide +kernel
theorem kX4_flushAll_19 : Cond.fieldLink RX4 19 (TX4 1).1 (TX4 1).2.1 (TX4 1).2.2.1 ∈ wsX4_flushAll := by decide +kernel
theorem kX4_flushAll_26 : Cond.fieldLink RX4 26 (TX4 2).1 (TX4 2).2.1 (TX4 2).2.2.1 ∈ wsX4_flushAll := by decide +kernel
def rX4_drain : Room := { frames := 4, cells := 0, slots := 0, locals := 88 }
theorem ndX4_drain : yX4_drain.cls = RX4 ∧ yX4_drain.cls ≠ "java/lang/invoke/MethodHandle" ∧ yX4_drain.cls ≠ "java/lang/invoke/VarHandle" ∧ (parseMethodDescriptor yX4_drain.desc).map (fun d => d.parameters.length) = some 1 := by decide +kernel
def rX4_discard : Room := { frames := 2, cells := 0, slots := 0, locals := 43 }
theorem ndX4_discard : yX4_discard.cls = RX4 ∧ yX4_discard.cls ≠ "java/lang/invoke/MethodHandle" ∧ yX4_discard.cls ≠ "java/lang/invoke/VarHandle" ∧ (parseMethodDescriptor yX4_discard.desc).map (fun d => d.parameters.length) = some 1 := by decide +kernel
theorem iX4_discard_X4 : ∀ w ∈ u_ws RX4 TX4 10, w ∈ wsX4_discard := by decide +kernel
theorem kX4_discard_19 : Cond.fieldLink RX4 19 (TX4 1).1 (TX4 1).2.1 (TX4 1).2.2.1 ∈ wsX4_discard := by decide +kernel
theorem kX4_discard_26 : Cond.fieldLink RX4 26 (TX4 2).1 (TX4 2).2.1 (TX4 2).2.2.1 ∈ wsX4_discard := by decide +kernel
theorem kX4_discard_33 : Cond.fieldLink RX4 33 (TX4 3).1 (TX4 3).2.1 (TX4 3).2.2.1 ∈ wsX4_discard := by decide +kernel
def rX4_isResident : Room := { frames := 2, cells := 0, slots := 0, locals := 42 }
theorem ndX4_isResident : yX4_isResident.cls = RX4 ∧ yX4_isResident.cls ≠ "java/lang/invoke/MethodHandle" ∧ yX4_isResident.cls ≠ "java/lang/invoke/VarHandle" ∧ (parseMethodDescriptor yX4_isResident.desc).map (fun d => d.parameters.length) = some 1 := by decide +kernel
theorem iX4_isResident_X4 : ∀ w ∈ u_ws RX4 TX4 10, w ∈ wsX4_isResident := by decide +kernel
theorem kX4_isResident_19 : Cond.fieldLink RX4 19 (TX4 1).1 (TX4 1).2.1 (TX4 1).2.2.1 ∈ wsX4_isResident := by decide +kernel
def rX4_isDirty : Room := { frames := 2, cells := 0, slots := 0, locals := 42 }
theorem ndX4_isDirty : yX4_isDirty.cls = RX4 ∧ yX4_isDirty.cls ≠ "java/lang/invoke/MethodHandle" ∧ yX4_isDirty.cls ≠ "java/lang/invoke/VarHandle" ∧ (parseMethodDescriptor yX4_isDirty.desc).map (fun d => d.parameters.length) = some 1 := by decide +kernel
theorem iX4_isDirty_X4 : ∀ w ∈ u_ws RX4 TX4 10, w ∈ wsX4_isDirty := by decide +kernel
theorem kX4_isDirty_19 : Cond.fieldLink RX4 19 (TX4 1).1 (TX4 1).2.1 (TX4 1).2.2.1 ∈ wsX4_isDirty := by decide +kernel
def rX4_pinCount : Room := { frames := 2, cells := 0, slots := 0, locals := 42 }
theorem ndX4_pinCount : yX4_pinCount.cls = RX4 ∧ yX4_pinCount.cls ≠ "java/lang/invoke/MethodHandle" ∧ yX4_pinCount.cls ≠ "java/lang/invoke/VarHandle" ∧ (parseMethodDescriptor yX4_pinCount.desc).map (fun d => d.parameters.length) = some 1 := by decide +kernel
theorem iX4_pinCount_X4 : ∀ w ∈ u_ws RX4 TX4 10, w ∈ wsX4_pinCount := by decide +kernel
theorem kX4_pinCount_19 : Cond.fieldLink RX4 19 (TX4 1).1 (TX4 1).2.1 (TX4 1).2.2.1 ∈ wsX4_pinCount := by decide +kernel
def rX2_depth : Room := { frames := 0, cells := 0, slots := 0, locals := 0 }
theorem ndX2_depth : yX2_depth.cls = RX2 ∧ yX2_depth.cls ≠ "java/lang/invoke/MethodHandle" ∧ yX2_depth.cls ≠ "java/lang/invoke/VarHandle" ∧ (parseMethodDescriptor yX2_depth.desc).map (fun d => d.parameters.length) = some 0 := by decide +kernel
theorem iX2_depth_X2 : ∀ w ∈ u_ws RX2 TX2 3, w ∈ wsX2_depth := by decide +kernel
theorem kX2_depth_24 : Cond.fieldLink RX2 24 (TX2 2).1 (TX2 2).2.1 (TX2 2).2.2.1 ∈ wsX2_depth := by decide +kernel
def rX4_referenceTime : Room := { frames := 2, cells := 0, slots := 0, locals := 42 }
theorem ndX4_referenceTime : yX4_referenceTime.cls = RX4 ∧ yX4_referenceTime.cls ≠ "java/lang/invoke/MethodHandle" ∧ yX4_referenceTime.cls ≠ "java/lang/invoke/VarHandle" ∧ (parseMethodDescriptor yX4_referenceTime.desc).map (fun d => d.parameters.length) = some 2 := by decide +kernel
theorem iX4_referenceTime_X4 : ∀ w ∈ u_ws RX4 TX4 10, w ∈ wsX4_referenceTime := by decide +kernel
theorem kX4_referenceTime_33 : Cond.fieldLink RX4 33 (TX4 3).1 (TX4 3).2.1 (TX4 3).2.2.1 ∈ wsX4_referenceTime := by decide +kernel
def rX4_backwardKDistance : Room := { frames := 2, cells := 0, slots := 0, locals := 42 }
theorem ndX4_backwardKDistance : yX4_backwardKDistance.cls = RX4 ∧ yX4_backwardKDistance.cls ≠ "java/lang/invoke/MethodHandle" ∧ yX4_backwardKDistance.cls ≠ "java/lang/invoke/VarHandle" ∧ (parseMethodDescriptor yX4_backwardKDistance.desc).map (fun d => d.parameters.length) = some 1 := by decide +kernel
theorem iX4_backwardKDistance_X4 : ∀ w ∈ u_ws RX4 TX4 10, w ∈ wsX4_backwardKDistance := by decide +kernel
theorem kX4_backwardKDistance_33 : Cond.fieldLink RX4 33 (TX4 3).1 (TX4 3).2.1 (TX4 3).2.2.1 ∈ wsX4_backwardKDistance := by decide +kernel
theorem kX4_backwardKDistance_111 : Cond.fieldLink RX4 111 (TX4 5).1 (TX4 5).2.1 (TX4 5).2.2.1 ∈ wsX4_backwardKDistance := by decide +kernel
def rX4_victim : Room := { frames := 3, cells := 0, slots := 0, locals := 69 }
theorem ndX4_victim : yX4_victim.cls = RX4 ∧ yX4_victim.cls ≠ "java/lang/invoke/MethodHandle" ∧ yX4_victim.cls ≠ "java/lang/invoke/VarHandle" ∧ (parseMethodDescriptor yX4_victim.desc).map (fun d => d.parameters.length) = some 0 := by decide +kernel
def rX0_valueOf : Room := { frames := 0, cells := 0, slots := 0, locals := 0 }
theorem ndX0_valueOf : yX0_valueOf.cls = RX0 ∧ yX0_valueOf.cls ≠ "java/lang/invoke/MethodHandle" ∧ yX0_valueOf.cls ≠ "java/lang/invoke/VarHandle" ∧ (parseMethodDescriptor yX0_valueOf.desc).map (fun d => d.parameters.length) = some 1 := by decide +kernel
theorem iX0_valueOf_X0 : ∀ w ∈ u_ws RX0 TX0 3, w ∈ wsX0_valueOf := by decide +kernel
theorem kX0_valueOf_9 : Cond.fieldLink RX0 9 (TX0 0).1 (TX0 0).2.1 (TX0 0).2.2.1 ∈ wsX0_valueOf := by decide +kernel
def rX4_diskValue : Room := { frames := 2, cells := 0, slots := 0, locals := 42 }
theorem ndX4_diskValue : yX4_diskValue.cls = RX4 ∧ yX4_diskValue.cls ≠ "java/lang/invoke/MethodHandle" ∧ yX4_diskValue.cls ≠ "java/lang/invoke/VarHandle" ∧ (parseMethodDescriptor yX4_diskValue.desc).map (fun d => d.parameters.length) = some 1 := by decide +kernel
theorem iX4_diskValue_X4 : ∀ w ∈ u_ws RX4 TX4 10, w ∈ wsX4_diskValue := by decide +kernel
theorem kX4_diskValue_10 : Cond.fieldLink RX4 10 (TX4 0).1 (TX4 0).2.1 (TX4 0).2.2.1 ∈ wsX4_diskValue := by decide +kernel
def rX1_used : Room := { frames := 0, cells := 0, slots := 0, locals := 0 }
theorem ndX1_used : yX1_used.cls = RX1 ∧ yX1_used.cls ≠ "java/lang/invoke/MethodHandle" ∧ yX1_used.cls ≠ "java/lang/invoke/VarHandle" ∧ (parseMethodDescriptor yX1_used.desc).map (fun d => d.parameters.length) = some 0 := by decide +kernel
theorem iX1_used_X1 : ∀ w ∈ u_ws RX1 TX1 6, w ∈ wsX1_used := by decide +kernel
theorem kX1_used_29 : Cond.fieldLink RX1 29 (TX1 5).1 (TX1 5).2.1 (TX1 5).2.2.1 ∈ wsX1_used := by decide +kernel
def rX4_residentCount : Room := { frames := 1, cells := 0, slots := 0, locals := 20 }
theorem ndX4_residentCount : yX4_residentCount.cls = RX4 ∧ yX4_residentCount.cls ≠ "java/lang/invoke/MethodHandle" ∧ yX4_residentCount.cls ≠ "java/lang/invoke/VarHandle" ∧ (parseMethodDescriptor yX4_residentCount.desc).map (fun d => d.parameters.length) = some 0 := by decide +kernel
theorem iX4_residentCount_X4 : ∀ w ∈ u_ws RX4 TX4 10, w ∈ wsX4_residentCount := by decide +kernel
theorem kX4_residentCount_19 : Cond.fieldLink RX4 19 (TX4 1).1 (TX4 1).2.1 (TX4 1).2.2.1 ∈ wsX4_residentCount := by decide +kernel
def rX1_pageAt : Room := { frames := 0, cells := 0, slots := 0, locals := 0 }
theorem ndX1_pageAt : yX1_pageAt.cls = RX1 ∧ yX1_pageAt.cls ≠ "java/lang/invoke/MethodHandle" ∧ yX1_pageAt.cls ≠ "java/lang/invoke/VarHandle" ∧ (parseMethodDescriptor yX1_pageAt.desc).map (fun d => d.parameters.length) = some 1 := by decide +kernel
theorem iX1_pageAt_X1 : ∀ w ∈ u_ws RX1 TX1 6, w ∈ wsX1_pageAt := by decide +kernel
theorem kX1_pageAt_9 : Cond.fieldLink RX1 9 (TX1 0).1 (TX1 0).2.1 (TX1 0).2.2.1 ∈ wsX1_pageAt := by decide +kernel
def rX4_residentPage : Room := { frames := 1, cells := 0, slots := 0, locals := 23 }
theorem ndX4_residentPage : yX4_residentPage.cls = RX4 ∧ yX4_residentPage.cls ≠ "java/lang/invoke/MethodHandle" ∧ yX4_residentPage.cls ≠ "java/lang/invoke/VarHandle" ∧ (parseMethodDescriptor yX4_residentPage.desc).map (fun d => d.parameters.length) = some 1 := by decide +kernel
theorem iX4_residentPage_X4 : ∀ w ∈ u_ws RX4 TX4 10, w ∈ wsX4_residentPage := by decide +kernel
theorem kX4_residentPage_19 : Cond.fieldLink RX4 19 (TX4 1).1 (TX4 1).2.1 (TX4 1).2.2.1 ∈ wsX4_residentPage := by decide +kernel
def rX4_queueSize : Room := { frames := 1, cells := 0, slots := 0, locals := 20 }
theorem ndX4_queueSize : yX4_queueSize.cls = RX4 ∧ yX4_queueSize.cls ≠ "java/lang/invoke/MethodHandle" ∧ yX4_queueSize.cls ≠ "java/lang/invoke/VarHandle" ∧ (parseMethodDescriptor yX4_queueSize.desc).map (fun d => d.parameters.length) = some 0 := by decide +kernel
theorem iX4_queueSize_X4 : ∀ w ∈ u_ws RX4 TX4 10, w ∈ wsX4_queueSize := by decide +kernel
theorem kX4_queueSize_26 : Cond.fieldLink RX4 26 (TX4 2).1 (TX4 2).2.1 (TX4 2).2.2.1 ∈ wsX4_queueSize := by decide +kernel
def rX4_queuedPage : Room := { frames := 2, cells := 0, slots := 0, locals := 42 }
theorem ndX4_queuedPage : yX4_queuedPage.cls = RX4 ∧ yX4_queuedPage.cls ≠ "java/lang/invoke/MethodHandle" ∧ yX4_queuedPage.cls ≠ "java/lang/invoke/VarHandle" ∧ (parseMethodDescriptor yX4_queuedPage.desc).map (fun d => d.parameters.length) = some 1 := by decide +kernel
theorem iX4_queuedPage_X4 : ∀ w ∈ u_ws RX4 TX4 10, w ∈ wsX4_queuedPage := by decide +kernel
theorem kX4_queuedPage_26 : Cond.fieldLink RX4 26 (TX4 2).1 (TX4 2).2.1 (TX4 2).2.2.1 ∈ wsX4_queuedPage := by decide +kernel
def rX4_queuedValue : Room := { frames := 2, cells := 0, slots := 0, locals := 42 }
theorem ndX4_queuedValue : yX4_queuedValue.cls = RX4 ∧ yX4_queuedValue.cls ≠ "java/lang/invoke/MethodHandle" ∧ yX4_queuedValue.cls ≠ "java/lang/invoke/VarHandle" ∧ (parseMethodDescriptor yX4_queuedValue.desc).map (fun d => d.parameters.length) = some 1 := by decide +kernel
theorem iX4_queuedValue_X4 : ∀ w ∈ u_ws RX4 TX4 10, w ∈ wsX4_queuedValue := by decide +kernel
theorem kX4_queuedValue_26 : Cond.fieldLink RX4 26 (TX4 2).1 (TX4 2).2.1 (TX4 2).2.2.1 ∈ wsX4_queuedValue := by decide +kernel
def rX4_clock : Room := { frames := 0, cells := 0, slots := 0, locals := 0 }
theorem ndX4_clock : yX4_clock.cls = RX4 ∧ yX4_clock.cls ≠ "java/lang/invoke/MethodHandle" ∧ yX4_clock.cls ≠ "java/lang/invoke/VarHandle" ∧ (parseMethodDescriptor yX4_clock.desc).map (fun d => d.parameters.length) = some 0 := by decide +kernel
theorem iX4_clock_X4 : ∀ w ∈ u_ws RX4 TX4 10, w ∈ wsX4_clock := by decide +kernel
theorem kX4_clock_111 : Cond.fieldLink RX4 111 (TX4 5).1 (TX4 5).2.1 (TX4 5).2.2.1 ∈ wsX4_clock := by decide +kernel
def rX4_hits : Room := { frames := 0, cells := 0, slots := 0, locals := 0 }
theorem ndX4_hits : yX4_hits.cls = RX4 ∧ yX4_hits.cls ≠ "java/lang/invoke/MethodHandle" ∧ yX4_hits.cls ≠ "java/lang/invoke/VarHandle" ∧ (parseMethodDescriptor yX4_hits.desc).map (fun d => d.parameters.length) = some 0 := by decide +kernel
theorem iX4_hits_X4 : ∀ w ∈ u_ws RX4 TX4 10, w ∈ wsX4_hits := by decide +kernel
theorem kX4_hits_129 : Cond.fieldLink RX4 129 (TX4 6).1 (TX4 6).2.1 (TX4 6).2.2.1 ∈ wsX4_hits := by decide +kernel
def rX4_misses : Room := { frames := 0, cells := 0, slots := 0, locals := 0 }
theorem ndX4_misses : yX4_misses.cls = RX4 ∧ yX4_misses.cls ≠ "java/lang/invoke/MethodHandle" ∧ yX4_misses.cls ≠ "java/lang/invoke/VarHandle" ∧ (parseMethodDescriptor yX4_misses.desc).map (fun d => d.parameters.length) = some 0 := by decide +kernel
theorem iX4_misses_X4 : ∀ w ∈ u_ws RX4 TX4 10, w ∈ wsX4_misses := by decide +kernel
theorem kX4_misses_132 : Cond.fieldLink RX4 132 (TX4 7).1 (TX4 7).2.1 (TX4 7).2.2.1 ∈ wsX4_misses := by decide +kernel
def rX4_evictions : Room := { frames := 0, cells := 0, slots := 0, locals := 0 }
theorem ndX4_evictions : yX4_evictions.cls = RX4 ∧ yX4_evictions.cls ≠ "java/lang/invoke/MethodHandle" ∧ yX4_evictions.cls ≠ "java/lang/invoke/VarHandle" ∧ (parseMethodDescriptor yX4_evictions.desc).map (fun d => d.parameters.length) = some 0 := by decide +kernel
theorem iX4_evictions_X4 : ∀ w ∈ u_ws RX4 TX4 10, w ∈ wsX4_evictions := by decide +kernel
theorem kX4_evictions_135 : Cond.fieldLink RX4 135 (TX4 8).1 (TX4 8).2.1 (TX4 8).2.2.1 ∈ wsX4_evictions := by decide +kernel
def rX0_loads : Room := { frames := 0, cells := 0, slots := 0, locals := 0 }
theorem ndX0_loads : yX0_loads.cls = RX0 ∧ yX0_loads.cls ≠ "java/lang/invoke/MethodHandle" ∧ yX0_loads.cls ≠ "java/lang/invoke/VarHandle" ∧ (parseMethodDescriptor yX0_loads.desc).map (fun d => d.parameters.length) = some 0 := by decide +kernel
theorem iX0_loads_X0 : ∀ w ∈ u_ws RX0 TX0 3, w ∈ wsX0_loads := by decide +kernel
theorem kX0_loads_21 : Cond.fieldLink RX0 21 (TX0 1).1 (TX0 1).2.1 (TX0 1).2.2.1 ∈ wsX0_loads := by decide +kernel
def rX4_diskReads : Room := { frames := 1, cells := 0, slots := 0, locals := 20 }
theorem ndX4_diskReads : yX4_diskReads.cls = RX4 ∧ yX4_diskReads.cls ≠ "java/lang/invoke/MethodHandle" ∧ yX4_diskReads.cls ≠ "java/lang/invoke/VarHandle" ∧ (parseMethodDescriptor yX4_diskReads.desc).map (fun d => d.parameters.length) = some 0 := by decide +kernel
theorem iX4_diskReads_X4 : ∀ w ∈ u_ws RX4 TX4 10, w ∈ wsX4_diskReads := by decide +kernel
theorem kX4_diskReads_10 : Cond.fieldLink RX4 10 (TX4 0).1 (TX4 0).2.1 (TX4 0).2.2.1 ∈ wsX4_diskReads := by decide +kernel
def rX0_stores : Room := { frames := 0, cells := 0, slots := 0, locals := 0 }
theorem ndX0_stores : yX0_stores.cls = RX0 ∧ yX0_stores.cls ≠ "java/lang/invoke/MethodHandle" ∧ yX0_stores.cls ≠ "java/lang/invoke/VarHandle" ∧ (parseMethodDescriptor yX0_stores.desc).map (fun d => d.parameters.length) = some 0 := by decide +kernel
theorem iX0_stores_X0 : ∀ w ∈ u_ws RX0 TX0 3, w ∈ wsX0_stores := by decide +kernel
theorem kX0_stores_25 : Cond.fieldLink RX0 25 (TX0 2).1 (TX0 2).2.1 (TX0 2).2.2.1 ∈ wsX0_stores := by decide +kernel
def rX4_diskWrites : Room := { frames := 1, cells := 0, slots := 0, locals := 20 }
theorem ndX4_diskWrites : yX4_diskWrites.cls = RX4 ∧ yX4_diskWrites.cls ≠ "java/lang/invoke/MethodHandle" ∧ yX4_diskWrites.cls ≠ "java/lang/invoke/VarHandle" ∧ (parseMethodDescriptor yX4_diskWrites.desc).map (fun d => d.parameters.length) = some 0 := by decide +kernel
theorem iX4_diskWrites_X4 : ∀ w ∈ u_ws RX4 TX4 10, w ∈ wsX4_diskWrites := by decide +kernel
theorem kX4_diskWrites_10 : Cond.fieldLink RX4 10 (TX4 0).1 (TX4 0).2.1 (TX4 0).2.2.1 ∈ wsX4_diskWrites := by decide +kernel
def rX4_stalls : Room := { frames := 0, cells := 0, slots := 0, locals := 0 }
theorem ndX4_stalls : yX4_stalls.cls = RX4 ∧ yX4_stalls.cls ≠ "java/lang/invoke/MethodHandle" ∧ yX4_stalls.cls ≠ "java/lang/invoke/VarHandle" ∧ (parseMethodDescriptor yX4_stalls.desc).map (fun d => d.parameters.length) = some 0 := by decide +kernel
theorem iX4_stalls_X4 : ∀ w ∈ u_ws RX4 TX4 10, w ∈ wsX4_stalls := by decide +kernel
theorem kX4_stalls_144 : Cond.fieldLink RX4 144 (TX4 9).1 (TX4 9).2.1 (TX4 9).2.2.1 ∈ wsX4_stalls := by decide +kernel
end
section
set_option maxRecDepth 100000 in
set_option maxHeartbeats 4000000 in
theorem c_J7_fill_53178 {cI cZ : ClassId} (q : Nat) (u : (Nat → Int32)) (p1 : Int32)  : Ct yJ7_fill_53178 wsJ7_fill_53178 rJ7_fill_53178 cI cZ [.ref q, .int p1] (wA q cI u) 0 0 (rt (none) (wA q cI (sJ7_fill_53178 u p1))) := by
  refine Ct.of (cc := cJ7_fill_53178) (nL := 4) (own := RJ7) (by decide) rfl rfl (Nat.le_of_ble_eq_true rfl) rfl ?_
  intro K hR hN
  have loop5 : ∀ (n : Nat) (w : (Nat → Int32)) (l2 : Int32), PI n l2 → sJ7_fill_53178 u p1 = lsJ7_fill_53178_5 p1 n w l2 → G K cI cZ cJ7_fill_53178 4 RJ7 wsJ7_fill_53178 rJ7_fill_53178 0 0 (wA q cI w) 5 [(0, .ref q), (1, .int p1), (2, .int l2), (3, .int (nI 64))] [] := by
    intro n
    induction n with
    | zero =>
      intro w l2 hi hs
      exact absurd hi (PI.zero)
    | succ n ih =>
      intro w l2 hi hs
      refine G.iload_n (pc2 := 6) (x := l2) dJ7_fill_53178_5 rfl rfl rfl ?_
      refine G.iload_n (pc2 := 7) (x := nI 64) dJ7_fill_53178_6 rfl rfl rfl ?_
      refine G.icmp_ge (pc2 := 10) (tgt := 20) dJ7_fill_53178_7 rfl rfl (fun c_7 => ?_) (fun c_7 => ?_)
      · exact G.vreturn hR dJ7_fill_53178_20 ⟨rfl, congrArg (wA q cI) (by rw [hs]; simp only [lsJ7_fill_53178_5, if_neg c_7])⟩
      · refine G.aload_n (pc2 := 11) (x := q) dJ7_fill_53178_10 rfl rfl rfl ?_
        refine G.iload_n (pc2 := 12) (x := l2) dJ7_fill_53178_11 rfl rfl rfl ?_
        refine G.iload_n (pc2 := 13) (x := p1) dJ7_fill_53178_12 rfl rfl rfl ?_
        refine G.iast (pc2 := 14) (q0 := 0) (j := ix l2) (ws2 := wA q cI (upd w (ix l2) p1)) rfl (PI.pg hi (show l2 < 64 from c_7)) rfl dJ7_fill_53178_13 rfl ?_
        refine G.iinc (pc2 := 17) (k := 2) (v := l2 + 1) (lv2 := [(0, .ref q), (1, .int p1), (2, .int (l2 + 1)), (3, .int (nI 64))]) [1, 2, 0, 3] dJ7_fill_53178_14 rfl rfl (by decide) rfl rfl ?_
        refine G.goto (tgt := 5) dJ7_fill_53178_17 rfl ?_
        exact ih  (upd w (ix l2) p1) (l2 + 1) (PI.next hi (show l2 < 64 from c_7)) (by rw [hs]; simp only [lsJ7_fill_53178_5, if_pos c_7])
  refine G.iconst (pc2 := 1) (v := 0) dJ7_fill_53178_0 (by decide) rfl ?_
  refine G.istore_n (pc2 := 2) (lv2 := [(0, .ref q), (1, .int p1), (2, .int 0)]) [1, 2, 0] dJ7_fill_53178_1 rfl (by decide) rfl rfl ?_
  refine G.aload_n (pc2 := 3) (x := q) dJ7_fill_53178_2 rfl rfl rfl ?_
  refine G.alen (pc2 := 4) (q0 := 0) rfl dJ7_fill_53178_3 rfl ?_
  refine G.istore_n (pc2 := 5) (lv2 := [(0, .ref q), (1, .int p1), (2, .int 0), (3, .int (nI 64))]) [1, 2, 3, 0] dJ7_fill_53178_4 rfl (by decide) rfl rfl ?_
  exact loop5 65 u 0 (PI.start) (rfl)
set_option maxRecDepth 100000 in
set_option maxHeartbeats 4000000 in
theorem c_X0_erase {cI cZ : ClassId} (o a : Nat) (u : SD)  : Ct yX0_erase wsX0_erase rX0_erase cI cZ [.ref o] (wD o a cI u) 0 0 (rt (none) (wD o a cI (sX0_erase u))) := by
  refine Ct.of (cc := cX0_erase) (nL := 1) (own := RX0) (by decide) rfl rfl (Nat.le_of_ble_eq_true rfl) rfl ?_
  intro K hR hN
  refine G.aload_n (pc2 := 1) (x := o) dX0_erase_0 rfl rfl rfl ?_
  refine G.getf (pc2 := 4) (q0 := 0) (ci := 0) (k := 0) (v := .ref a) iX0_erase_X0 kX0_erase_9 rfl rfl (by decide) rfl dX0_erase_1 rfl ?_
  refine G.iconst (pc2 := 5) (v := 0) dX0_erase_4 (by decide) rfl ?_
  refine G.callSd (pc2 := 8) (i := 1) (j := 2) (As := [.ref a, .int 0]) (rest := []) (ws2 := wD o a cI (sJ7_fill_53178 u.1 0, u.2.1, u.2.2)) (st2 := []) (c_J7_fill_53178 (cI := cI) (cZ := cZ) a u.1 0) gX0_erase_J7_fill_53178 rfl rfl rfl ndJ7_fill_53178.2 ⟨Nat.le_of_ble_eq_true rfl, Nat.le_of_ble_eq_true rfl⟩ ⟨Nat.le_of_ble_eq_true rfl, Nat.le_of_ble_eq_true rfl⟩ rfl rfl (Nat.le_of_ble_eq_true rfl) rfl rfl rfl dX0_erase_5 rfl ?_
  generalize et_5 : sJ7_fill_53178 u.1 0 = t_5
  refine G.aload_n (pc2 := 9) (x := o) dX0_erase_8 rfl rfl rfl ?_
  refine G.iconst (pc2 := 10) (v := 0) dX0_erase_9 (by decide) rfl ?_
  refine G.putf (pc2 := 13) (q0 := 0) (ci := 0) (k := 1) (ws2 := wD o a cI (t_5, 0, u.2.2)) iX0_erase_X0 kX0_erase_21 tyX0_ok nmX0 rfl rfl (by decide) rfl rfl rfl (Nat.le_of_ble_eq_true rfl) rfl dX0_erase_10 rfl ?_
  refine G.aload_n (pc2 := 14) (x := o) dX0_erase_13 rfl rfl rfl ?_
  refine G.iconst (pc2 := 15) (v := 0) dX0_erase_14 (by decide) rfl ?_
  refine G.putf (pc2 := 18) (q0 := 0) (ci := 0) (k := 2) (ws2 := wD o a cI (t_5, 0, 0)) iX0_erase_X0 kX0_erase_25 tyX0_ok nmX0 rfl rfl (by decide) rfl rfl rfl (Nat.le_of_ble_eq_true rfl) rfl dX0_erase_15 rfl ?_
  subst et_5
  exact G.vreturn hR dX0_erase_18 ⟨rfl, congrArg (wD o a cI) (rfl)⟩
set_option maxRecDepth 100000 in
set_option maxHeartbeats 4000000 in
theorem c_X1_vacate {cI cZ : ClassId} (o r c v p : Nat) (u : SF) (p0 : Int32) (h0 : Pg p0) : Ct yX1_vacate wsX1_vacate rX1_vacate cI cZ [.ref o, .int p0] (wF o r c v p cI cZ u) 0 0 (rt (none) (wF o r c v p cI cZ (sX1_vacate u p0))) := by
  refine Ct.of (cc := cX1_vacate) (nL := 2) (own := RX1) (by decide) rfl rfl (Nat.le_of_ble_eq_true rfl) rfl ?_
  intro K hR hN
  refine G.aload_n (pc2 := 1) (x := o) dX1_vacate_0 rfl rfl rfl ?_
  refine G.getf (pc2 := 4) (q0 := 0) (ci := 1) (k := 0) (v := .ref r) iX1_vacate_X1 kX1_vacate_9 rfl rfl (by decide) rfl dX1_vacate_1 rfl ?_
  refine G.iload_n (pc2 := 5) (x := p0) dX1_vacate_4 rfl rfl rfl ?_
  refine G.iconst (pc2 := 6) (v := 0) dX1_vacate_5 (by decide) rfl ?_
  refine G.zast (y := 0) (pc2 := 7) (q0 := 1) (j := ix p0) (ws2 := wF o r c v p cI cZ (upd u.1 (ix p0) 0, u.2.1, u.2.2.1, u.2.2.2.1, u.2.2.2.2.1, u.2.2.2.2.2)) rfl (h0) rfl rfl dX1_vacate_6 rfl ?_
  refine G.aload_n (pc2 := 8) (x := o) dX1_vacate_7 rfl rfl rfl ?_
  refine G.getf (pc2 := 11) (q0 := 0) (ci := 1) (k := 1) (v := .ref c) iX1_vacate_X1 kX1_vacate_15 rfl rfl (by decide) rfl dX1_vacate_8 rfl ?_
  refine G.iload_n (pc2 := 12) (x := p0) dX1_vacate_11 rfl rfl rfl ?_
  refine G.iconst (pc2 := 13) (v := 0) dX1_vacate_12 (by decide) rfl ?_
  refine G.zast (y := 0) (pc2 := 14) (q0 := 2) (j := ix p0) (ws2 := wF o r c v p cI cZ (upd u.1 (ix p0) 0, upd u.2.1 (ix p0) 0, u.2.2.1, u.2.2.2.1, u.2.2.2.2.1, u.2.2.2.2.2)) rfl (h0) rfl rfl dX1_vacate_13 rfl ?_
  refine G.aload_n (pc2 := 15) (x := o) dX1_vacate_14 rfl rfl rfl ?_
  refine G.getf (pc2 := 18) (q0 := 0) (ci := 1) (k := 3) (v := .ref p) iX1_vacate_X1 kX1_vacate_22 rfl rfl (by decide) rfl dX1_vacate_15 rfl ?_
  refine G.iload_n (pc2 := 19) (x := p0) dX1_vacate_18 rfl rfl rfl ?_
  refine G.iconst (pc2 := 20) (v := 0) dX1_vacate_19 (by decide) rfl ?_
  refine G.iast (pc2 := 21) (q0 := 4) (j := ix p0) (ws2 := wF o r c v p cI cZ (upd u.1 (ix p0) 0, upd u.2.1 (ix p0) 0, u.2.2.1, upd u.2.2.2.1 (ix p0) 0, u.2.2.2.2.1, u.2.2.2.2.2)) rfl (h0) rfl dX1_vacate_20 rfl ?_
  exact G.vreturn hR dX1_vacate_21 ⟨rfl, congrArg (wF o r c v p cI cZ) (rfl)⟩
set_option maxRecDepth 100000 in
set_option maxHeartbeats 4000000 in
theorem c_X1_empty {cI cZ : ClassId} (o r c v p : Nat) (u : SF) (p0 : Int32)  : Ct yX1_empty wsX1_empty rX1_empty cI cZ [.ref o, .int p0] (wF o r c v p cI cZ u) 0 0 (rt (none) (wF o r c v p cI cZ (sX1_empty u p0))) := by
  refine Ct.of (cc := cX1_empty) (nL := 3) (own := RX1) (by decide) rfl rfl (Nat.le_of_ble_eq_true rfl) rfl ?_
  intro K hR hN
  have loop2 : ∀ (n : Nat) (w : SF) (l2 : Int32), PI n l2 → sX1_empty u p0 = lsX1_empty_2 p0 n w l2 → G K cI cZ cX1_empty 3 RX1 wsX1_empty rX1_empty 0 0 (wF o r c v p cI cZ w) 2 [(0, .ref o), (1, .int p0), (2, .int l2)] [] := by
    intro n
    induction n with
    | zero =>
      intro w l2 hi hs
      exact absurd hi (PI.zero)
    | succ n ih =>
      intro w l2 hi hs
      refine G.iload_n (pc2 := 3) (x := l2) dX1_empty_2 rfl rfl rfl ?_
      refine G.bipush (pc2 := 5) (v := 64) dX1_empty_3 (by decide) rfl ?_
      refine G.icmp_ge (pc2 := 8) (tgt := 19) dX1_empty_5 rfl rfl (fun c_5 => ?_) (fun c_5 => ?_)
      · refine G.aload_n (pc2 := 20) (x := o) dX1_empty_19 rfl rfl rfl ?_
        refine G.iconst (pc2 := 21) (v := 0) dX1_empty_20 (by decide) rfl ?_
        refine G.putf (pc2 := 24) (q0 := 0) (ci := 1) (k := 5) (ws2 := wF o r c v p cI cZ (w.1, w.2.1, w.2.2.1, w.2.2.2.1, w.2.2.2.2.1, 0)) iX1_empty_X1 kX1_empty_29 tyX1_ok nmX1 rfl rfl (by decide) rfl rfl rfl (Nat.le_of_ble_eq_true rfl) rfl dX1_empty_21 rfl ?_
        refine G.aload_n (pc2 := 25) (x := o) dX1_empty_24 rfl rfl rfl ?_
        refine G.iload_n (pc2 := 26) (x := p0) dX1_empty_25 rfl rfl rfl ?_
        refine G.putf (pc2 := 29) (q0 := 0) (ci := 1) (k := 4) (ws2 := wF o r c v p cI cZ (w.1, w.2.1, w.2.2.1, w.2.2.2.1, p0, 0)) iX1_empty_X1 kX1_empty_33 tyX1_ok nmX1 rfl rfl (by decide) rfl rfl rfl (Nat.le_of_ble_eq_true rfl) rfl dX1_empty_26 rfl ?_
        exact G.vreturn hR dX1_empty_29 ⟨rfl, congrArg (wF o r c v p cI cZ) (by rw [hs]; simp only [lsX1_empty_2, if_neg c_5])⟩
      · refine G.aload_n (pc2 := 9) (x := o) dX1_empty_8 rfl rfl rfl ?_
        refine G.iload_n (pc2 := 10) (x := l2) dX1_empty_9 rfl rfl rfl ?_
        refine G.callVd (pc2 := 13) (i := 0) (j := 5) (q0 := 0) (ci := 1) (As := [.int l2]) (rest := []) (ws2 := wF o r c v p cI cZ (sX1_vacate w l2)) (st2 := []) (c_X1_vacate (cI := cI) (cZ := cZ) o r c v p w l2 (PI.pg hi c_5)) gX1_empty_X1_vacate rfl rfl rfl ndX1_vacate ⟨Nat.le_of_ble_eq_true rfl, Nat.le_of_ble_eq_true rfl⟩ ⟨Nat.le_of_ble_eq_true rfl, Nat.le_of_ble_eq_true rfl⟩ rfl rfl (Nat.le_of_ble_eq_true rfl) rfl rfl rfl rfl rfl rfl dX1_empty_10 rfl ?_
        generalize et_10 : sX1_vacate w l2 = t_10
        refine G.iinc (pc2 := 16) (k := 2) (v := l2 + 1) (lv2 := [(0, .ref o), (1, .int p0), (2, .int (l2 + 1))]) [1, 2, 0] dX1_empty_13 rfl rfl (by decide) rfl rfl ?_
        refine G.goto (tgt := 2) dX1_empty_16 rfl ?_
        subst et_10
        exact ih  (sX1_vacate w l2) (l2 + 1) (PI.next hi c_5) (by rw [hs]; simp only [lsX1_empty_2, if_pos c_5])
  refine G.iconst (pc2 := 1) (v := 0) dX1_empty_0 (by decide) rfl ?_
  refine G.istore_n (pc2 := 2) (lv2 := [(0, .ref o), (1, .int p0), (2, .int 0)]) [1, 2, 0] dX1_empty_1 rfl (by decide) rfl rfl ?_
  exact loop2 65 u 0 (PI.start) (rfl)
set_option maxRecDepth 100000 in
set_option maxHeartbeats 4000000 in
theorem c_X3_empty {cI cZ : ClassId} (o g v : Nat) (u : SQ) (p0 : Int32)  : Ct yX3_empty wsX3_empty rX3_empty cI cZ [.ref o, .int p0] (wQ o g v cI u) 0 0 (rt (none) (wQ o g v cI (sX3_empty u p0))) := by
  refine Ct.of (cc := cX3_empty) (nL := 2) (own := RX3) (by decide) rfl rfl (Nat.le_of_ble_eq_true rfl) rfl ?_
  intro K hR hN
  refine G.aload_n (pc2 := 1) (x := o) dX3_empty_0 rfl rfl rfl ?_
  refine G.iconst (pc2 := 2) (v := 0) dX3_empty_1 (by decide) rfl ?_
  refine G.putf (pc2 := 5) (q0 := 0) (ci := 3) (k := 3) (ws2 := wQ o g v cI (u.1, u.2.1, u.2.2.1, 0)) iX3_empty_X3 kX3_empty_18 tyX3_ok nmX3 rfl rfl (by decide) rfl rfl rfl (Nat.le_of_ble_eq_true rfl) rfl dX3_empty_2 rfl ?_
  refine G.aload_n (pc2 := 6) (x := o) dX3_empty_5 rfl rfl rfl ?_
  refine G.iload_n (pc2 := 7) (x := p0) dX3_empty_6 rfl rfl rfl ?_
  refine G.putf (pc2 := 10) (q0 := 0) (ci := 3) (k := 2) (ws2 := wQ o g v cI (u.1, u.2.1, p0, 0)) iX3_empty_X3 kX3_empty_22 tyX3_ok nmX3 rfl rfl (by decide) rfl rfl rfl (Nat.le_of_ble_eq_true rfl) rfl dX3_empty_7 rfl ?_
  exact G.vreturn hR dX3_empty_10 ⟨rfl, congrArg (wQ o g v cI) (rfl)⟩
set_option maxRecDepth 100000 in
set_option maxHeartbeats 4000000 in
theorem c_X2_forgetAll {cI cZ : ClassId} (o t b : Nat) (u : SH) (p0 : Int32)  : Ct yX2_forgetAll wsX2_forgetAll rX2_forgetAll cI cZ [.ref o, .int p0] (wH o t b cI u) 0 0 (rt (none) (wH o t b cI (sX2_forgetAll u p0))) := by
  refine Ct.of (cc := cX2_forgetAll) (nL := 2) (own := RX2) (by decide) rfl rfl (Nat.le_of_ble_eq_true rfl) rfl ?_
  intro K hR hN
  refine G.aload_n (pc2 := 1) (x := o) dX2_forgetAll_0 rfl rfl rfl ?_
  refine G.getf (pc2 := 4) (q0 := 0) (ci := 2) (k := 1) (v := .ref b) iX2_forgetAll_X2 kX2_forgetAll_15 rfl rfl (by decide) rfl dX2_forgetAll_1 rfl ?_
  refine G.iconst (pc2 := 5) (v := 0) dX2_forgetAll_4 (by decide) rfl ?_
  refine G.callSd (pc2 := 8) (i := 2) (j := 3) (As := [.ref b, .int 0]) (rest := []) (ws2 := wH o t b cI (u.1, sJ7_fill_53178 u.2.1 0, u.2.2)) (st2 := []) (c_J7_fill_53178 (cI := cI) (cZ := cZ) b u.2.1 0) gX2_forgetAll_J7_fill_53178 rfl rfl rfl ndJ7_fill_53178.2 ⟨Nat.le_of_ble_eq_true rfl, Nat.le_of_ble_eq_true rfl⟩ ⟨Nat.le_of_ble_eq_true rfl, Nat.le_of_ble_eq_true rfl⟩ rfl rfl (Nat.le_of_ble_eq_true rfl) rfl rfl rfl dX2_forgetAll_5 rfl ?_
  generalize et_5 : sJ7_fill_53178 u.2.1 0 = t_5
  refine G.aload_n (pc2 := 9) (x := o) dX2_forgetAll_8 rfl rfl rfl ?_
  refine G.iload_n (pc2 := 10) (x := p0) dX2_forgetAll_9 rfl rfl rfl ?_
  refine G.putf (pc2 := 13) (q0 := 0) (ci := 2) (k := 2) (ws2 := wH o t b cI (u.1, t_5, p0)) iX2_forgetAll_X2 kX2_forgetAll_24 tyX2_ok nmX2 rfl rfl (by decide) rfl rfl rfl (Nat.le_of_ble_eq_true rfl) rfl dX2_forgetAll_10 rfl ?_
  subst et_5
  exact G.vreturn hR dX2_forgetAll_13 ⟨rfl, congrArg (wH o t b cI) (rfl)⟩
set_option maxRecDepth 100000 in
set_option maxHeartbeats 4000000 in
theorem c_X1_holds {cI cZ : ClassId} (o r c v p : Nat) (u : SF) (p0 : Int32) (h0 : Pg p0) (hf : FW u) : Ct yX1_holds wsX1_holds rX1_holds cI cZ [.ref o, .int p0] (wF o r c v p cI cZ u) 0 0 (rt (some (vX1_holds u p0)) (wF o r c v p cI cZ u)) := by
  refine Ct.of (cc := cX1_holds) (nL := 2) (own := RX1) (by decide) rfl rfl (Nat.le_of_ble_eq_true rfl) rfl ?_
  intro K hR hN
  refine G.aload_n (pc2 := 1) (x := o) dX1_holds_0 rfl rfl rfl ?_
  refine G.getf (pc2 := 4) (q0 := 0) (ci := 1) (k := 0) (v := .ref r) iX1_holds_X1 kX1_holds_9 rfl rfl (by decide) rfl dX1_holds_1 rfl ?_
  refine G.iload_n (pc2 := 5) (x := p0) dX1_holds_4 rfl rfl rfl ?_
  refine G.zald (pc2 := 6) (q0 := 1) (j := ix p0) (v := u.1 (ix p0)) rfl (h0) rfl dX1_holds_5 rfl ?_
  exact G.ireturn hR (hf.r _) dX1_holds_6 ⟨congrArg some (rfl), rfl⟩
set_option maxRecDepth 100000 in
set_option maxHeartbeats 4000000 in
theorem c_X1_areFull {cI cZ : ClassId} (o r c v p : Nat) (u : SF)  : Ct yX1_areFull wsX1_areFull rX1_areFull cI cZ [.ref o] (wF o r c v p cI cZ u) 0 0 (rt (some (vX1_areFull u)) (wF o r c v p cI cZ u)) := by
  refine Ct.of (cc := cX1_areFull) (nL := 1) (own := RX1) (by decide) rfl rfl (Nat.le_of_ble_eq_true rfl) rfl ?_
  intro K hR hN
  refine G.aload_n (pc2 := 1) (x := o) dX1_areFull_0 rfl rfl rfl ?_
  refine G.getf (pc2 := 4) (q0 := 0) (ci := 1) (k := 5) (v := .int u.2.2.2.2.2) iX1_areFull_X1 kX1_areFull_29 rfl rfl (by decide) rfl dX1_areFull_1 rfl ?_
  refine G.aload_n (pc2 := 5) (x := o) dX1_areFull_4 rfl rfl rfl ?_
  refine G.getf (pc2 := 8) (q0 := 0) (ci := 1) (k := 4) (v := .int u.2.2.2.2.1) iX1_areFull_X1 kX1_areFull_33 rfl rfl (by decide) rfl dX1_areFull_5 rfl ?_
  refine G.icmp_lt (pc2 := 11) (tgt := 15) dX1_areFull_8 rfl rfl (fun c_8 => ?_) (fun c_8 => ?_)
  · refine G.iconst (pc2 := 16) (v := 0) dX1_areFull_15 (by decide) rfl ?_
    exact G.ireturn hR (rfl) dX1_areFull_16 ⟨congrArg some (by simp only [vX1_areFull, if_pos c_8]), rfl⟩
  · refine G.iconst (pc2 := 12) (v := 1) dX1_areFull_11 (by decide) rfl ?_
    refine G.goto (tgt := 16) dX1_areFull_12 rfl ?_
    exact G.ireturn hR (rfl) dX1_areFull_16 ⟨congrArg some (by simp only [vX1_areFull, if_neg c_8]), rfl⟩
set_option maxRecDepth 100000 in
set_option maxHeartbeats 4000000 in
theorem c_X1_pinsOf {cI cZ : ClassId} (o r c v p : Nat) (u : SF) (p0 : Int32) (h0 : Pg p0) : Ct yX1_pinsOf wsX1_pinsOf rX1_pinsOf cI cZ [.ref o, .int p0] (wF o r c v p cI cZ u) 0 0 (rt (some (vX1_pinsOf u p0)) (wF o r c v p cI cZ u)) := by
  refine Ct.of (cc := cX1_pinsOf) (nL := 2) (own := RX1) (by decide) rfl rfl (Nat.le_of_ble_eq_true rfl) rfl ?_
  intro K hR hN
  refine G.aload_n (pc2 := 1) (x := o) dX1_pinsOf_0 rfl rfl rfl ?_
  refine G.getf (pc2 := 4) (q0 := 0) (ci := 1) (k := 3) (v := .ref p) iX1_pinsOf_X1 kX1_pinsOf_22 rfl rfl (by decide) rfl dX1_pinsOf_1 rfl ?_
  refine G.iload_n (pc2 := 5) (x := p0) dX1_pinsOf_4 rfl rfl rfl ?_
  refine G.iald (pc2 := 6) (q0 := 4) (j := ix p0) (v := u.2.2.2.1 (ix p0)) rfl (h0) rfl dX1_pinsOf_5 rfl ?_
  exact G.ireturn hR (rfl) dX1_pinsOf_6 ⟨congrArg some (rfl), rfl⟩
set_option maxRecDepth 100000 in
set_option maxHeartbeats 4000000 in
theorem c_X2_timeOf {cI cZ : ClassId} (o t b : Nat) (u : SH) (p0 p1 : Int32) (h0 : Pg p0) (hh : HW u) : Ct yX2_timeOf wsX2_timeOf rX2_timeOf cI cZ [.ref o, .int p0, .int p1] (wH o t b cI u) 0 0 (rt (some (vX2_timeOf u p0 p1)) (wH o t b cI u)) := by
  refine Ct.of (cc := cX2_timeOf) (nL := 3) (own := RX2) (by decide) rfl rfl (Nat.le_of_ble_eq_true rfl) rfl ?_
  intro K hR hN
  refine G.iload_n (pc2 := 1) (x := p1) dX2_timeOf_0 rfl rfl rfl ?_
  refine G.iconst (pc2 := 2) (v := 1) dX2_timeOf_1 (by decide) rfl ?_
  refine G.icmp_lt (pc2 := 5) (tgt := 30) dX2_timeOf_2 rfl rfl (fun c_2 => ?_) (fun c_2 => ?_)
  · refine G.bipush (pc2 := 32) (v := (-9)) dX2_timeOf_30 (by decide) rfl ?_
    exact G.ireturn hR (rfl) dX2_timeOf_32 ⟨congrArg some (by simp only [vX2_timeOf, if_pos c_2]), rfl⟩
  · refine G.iload_n (pc2 := 6) (x := p1) dX2_timeOf_5 rfl rfl rfl ?_
    refine G.aload_n (pc2 := 7) (x := o) dX2_timeOf_6 rfl rfl rfl ?_
    refine G.getf (pc2 := 10) (q0 := 0) (ci := 2) (k := 1) (v := .ref b) iX2_timeOf_X2 kX2_timeOf_15 rfl rfl (by decide) rfl dX2_timeOf_7 rfl ?_
    refine G.iload_n (pc2 := 11) (x := p0) dX2_timeOf_10 rfl rfl rfl ?_
    refine G.iald (pc2 := 12) (q0 := 2) (j := ix p0) (v := u.2.1 (ix p0)) rfl (h0) rfl dX2_timeOf_11 rfl ?_
    refine G.icmp_gt (pc2 := 15) (tgt := 30) dX2_timeOf_12 rfl rfl (fun c_12 => ?_) (fun c_12 => ?_)
    · refine G.bipush (pc2 := 32) (v := (-9)) dX2_timeOf_30 (by decide) rfl ?_
      exact G.ireturn hR (rfl) dX2_timeOf_32 ⟨congrArg some (by simp only [vX2_timeOf, if_neg c_2, if_pos c_12]), rfl⟩
    · refine G.aload_n (pc2 := 16) (x := o) dX2_timeOf_15 rfl rfl rfl ?_
      refine G.getf (pc2 := 19) (q0 := 0) (ci := 2) (k := 0) (v := .ref t) iX2_timeOf_X2 kX2_timeOf_9 rfl rfl (by decide) rfl dX2_timeOf_16 rfl ?_
      refine G.iload_n (pc2 := 20) (x := p0) dX2_timeOf_19 rfl rfl rfl ?_
      refine G.iconst (pc2 := 21) (v := 3) dX2_timeOf_20 (by decide) rfl ?_
      refine G.imul (pc2 := 22) (v := p0 * 3) dX2_timeOf_21 rfl rfl ?_
      refine G.iload_n (pc2 := 23) (x := p1) dX2_timeOf_22 rfl rfl rfl ?_
      refine G.iadd (pc2 := 24) (v := (p0 * 3) + p1) dX2_timeOf_23 rfl rfl ?_
      refine G.iconst (pc2 := 25) (v := 1) dX2_timeOf_24 (by decide) rfl ?_
      refine G.isub (pc2 := 26) (v := ((p0 * 3) + p1) - 1) dX2_timeOf_25 rfl rfl ?_
      refine G.iald (pc2 := 27) (q0 := 1) (j := ix (((p0 * 3) + p1) - 1)) (v := u.1 (ix (((p0 * 3) + p1) - 1))) rfl (timeIx h0 hh c_2 c_12) rfl dX2_timeOf_26 rfl ?_
      refine G.goto (tgt := 32) dX2_timeOf_27 rfl ?_
      exact G.ireturn hR (rfl) dX2_timeOf_32 ⟨congrArg some (by simp only [vX2_timeOf, if_neg c_2, if_neg c_12]), rfl⟩
set_option maxRecDepth 100000 in
set_option maxHeartbeats 4000000 in
theorem c_X2_goesBefore {cI cZ : ClassId} (o t b : Nat) (u : SH) (p0 p1 : Int32) (h0 : Pg p0) (h1 : Pg p1) (hh : HW u) : Ct yX2_goesBefore wsX2_goesBefore rX2_goesBefore cI cZ [.ref o, .int p0, .int p1] (wH o t b cI u) 0 0 (rt (some (vX2_goesBefore u p0 p1)) (wH o t b cI u)) := by
  refine Ct.of (cc := cX2_goesBefore) (nL := 6) (own := RX2) (by decide) rfl rfl (Nat.le_of_ble_eq_true rfl) rfl ?_
  intro K hR hN
  refine G.aload_n (pc2 := 1) (x := o) dX2_goesBefore_0 rfl rfl rfl ?_
  refine G.getf (pc2 := 4) (q0 := 0) (ci := 2) (k := 1) (v := .ref b) iX2_goesBefore_X2 kX2_goesBefore_15 rfl rfl (by decide) rfl dX2_goesBefore_1 rfl ?_
  refine G.iload_n (pc2 := 5) (x := p0) dX2_goesBefore_4 rfl rfl rfl ?_
  refine G.iald (pc2 := 6) (q0 := 2) (j := ix p0) (v := u.2.1 (ix p0)) rfl (h0) rfl dX2_goesBefore_5 rfl ?_
  refine G.aload_n (pc2 := 7) (x := o) dX2_goesBefore_6 rfl rfl rfl ?_
  refine G.getf (pc2 := 10) (q0 := 0) (ci := 2) (k := 2) (v := .int u.2.2) iX2_goesBefore_X2 kX2_goesBefore_24 rfl rfl (by decide) rfl dX2_goesBefore_7 rfl ?_
  refine G.icmp_ge (pc2 := 13) (tgt := 17) dX2_goesBefore_10 rfl rfl (fun c_10 => ?_) (fun c_10 => ?_)
  · refine G.iconst (pc2 := 18) (v := 0) dX2_goesBefore_17 (by decide) rfl ?_
    refine G.istore_n (pc2 := 19) (lv2 := [(0, .ref o), (1, .int p0), (2, .int p1), (3, .int 0)]) [1, 2, 3, 0] dX2_goesBefore_18 rfl (by decide) rfl rfl ?_
    refine G.aload_n (pc2 := 20) (x := o) dX2_goesBefore_19 rfl rfl rfl ?_
    refine G.getf (pc2 := 23) (q0 := 0) (ci := 2) (k := 1) (v := .ref b) iX2_goesBefore_X2 kX2_goesBefore_15 rfl rfl (by decide) rfl dX2_goesBefore_20 rfl ?_
    refine G.iload_n (pc2 := 24) (x := p1) dX2_goesBefore_23 rfl rfl rfl ?_
    refine G.iald (pc2 := 25) (q0 := 2) (j := ix p1) (v := u.2.1 (ix p1)) rfl (h1) rfl dX2_goesBefore_24 rfl ?_
    refine G.aload_n (pc2 := 26) (x := o) dX2_goesBefore_25 rfl rfl rfl ?_
    refine G.getf (pc2 := 29) (q0 := 0) (ci := 2) (k := 2) (v := .int u.2.2) iX2_goesBefore_X2 kX2_goesBefore_24 rfl rfl (by decide) rfl dX2_goesBefore_26 rfl ?_
    refine G.icmp_ge (pc2 := 32) (tgt := 36) dX2_goesBefore_29 rfl rfl (fun c_29 => ?_) (fun c_29 => ?_)
    · refine G.iconst (pc2 := 37) (v := 0) dX2_goesBefore_36 (by decide) rfl ?_
      refine G.istore (pc2 := 39) (lv2 := [(0, .ref o), (1, .int p0), (2, .int p1), (3, .int 0), (4, .int 0)]) [1, 2, 3, 4, 0] dX2_goesBefore_37 (by decide) rfl rfl ?_
      refine G.iload_n (pc2 := 40) (x := 0) dX2_goesBefore_39 rfl rfl rfl ?_
      refine G.iload (pc2 := 42) (x := 0) dX2_goesBefore_40 rfl rfl ?_
      refine G.icmp_eq (pc2 := 45) (tgt := 47) dX2_goesBefore_42 rfl rfl (fun c_42 => ?_) (fun c_42 => ?_)
      · refine G.iload_n (pc2 := 48) (x := 0) dX2_goesBefore_47 rfl rfl rfl ?_
        refine G.if_eq (pc2 := 51) (tgt := 55) dX2_goesBefore_48 rfl rfl (fun c_48 => ?_) (fun c_48 => ?_)
        · refine G.aload_n (pc2 := 56) (x := o) dX2_goesBefore_55 rfl rfl rfl ?_
          refine G.getf (pc2 := 59) (q0 := 0) (ci := 2) (k := 2) (v := .int u.2.2) iX2_goesBefore_X2 kX2_goesBefore_24 rfl rfl (by decide) rfl dX2_goesBefore_56 rfl ?_
          refine G.istore (pc2 := 61) (lv2 := [(0, .ref o), (1, .int p0), (2, .int p1), (3, .int 0), (4, .int 0), (5, .int u.2.2)]) [1, 2, 3, 4, 5, 0] dX2_goesBefore_59 (by decide) rfl rfl ?_
          refine G.aload_n (pc2 := 62) (x := o) dX2_goesBefore_61 rfl rfl rfl ?_
          refine G.iload_n (pc2 := 63) (x := p0) dX2_goesBefore_62 rfl rfl rfl ?_
          refine G.iload (pc2 := 65) (x := u.2.2) dX2_goesBefore_63 rfl rfl ?_
          refine G.callVd (pc2 := 68) (i := 0) (j := 3) (q0 := 0) (ci := 2) (As := [.int p0, .int u.2.2]) (rest := []) (ws2 := wH o t b cI u) (st2 := [.int (vX2_timeOf u p0 u.2.2)]) (c_X2_timeOf (cI := cI) (cZ := cZ) o t b u p0 u.2.2 (h0) (hh)) gX2_goesBefore_X2_timeOf rfl rfl rfl ndX2_timeOf ⟨Nat.le_of_ble_eq_true rfl, Nat.le_of_ble_eq_true rfl⟩ ⟨Nat.le_of_ble_eq_true rfl, Nat.le_of_ble_eq_true rfl⟩ rfl rfl (Nat.le_of_ble_eq_true rfl) rfl rfl rfl rfl rfl rfl dX2_goesBefore_65 rfl ?_
          generalize ev_65 : vX2_timeOf u p0 u.2.2 = v_65
          refine G.aload_n (pc2 := 69) (x := o) dX2_goesBefore_68 rfl rfl rfl ?_
          refine G.iload_n (pc2 := 70) (x := p1) dX2_goesBefore_69 rfl rfl rfl ?_
          refine G.iload (pc2 := 72) (x := u.2.2) dX2_goesBefore_70 rfl rfl ?_
          refine G.callVd (pc2 := 75) (i := 0) (j := 3) (q0 := 0) (ci := 2) (As := [.int p1, .int u.2.2]) (rest := [.int v_65]) (ws2 := wH o t b cI u) (st2 := [.int (vX2_timeOf u p1 u.2.2), .int v_65]) (c_X2_timeOf (cI := cI) (cZ := cZ) o t b u p1 u.2.2 (h1) (hh)) gX2_goesBefore_X2_timeOf rfl rfl rfl ndX2_timeOf ⟨Nat.le_of_ble_eq_true rfl, Nat.le_of_ble_eq_true rfl⟩ ⟨Nat.le_of_ble_eq_true rfl, Nat.le_of_ble_eq_true rfl⟩ rfl rfl (Nat.le_of_ble_eq_true rfl) rfl rfl rfl rfl rfl rfl dX2_goesBefore_72 rfl ?_
          generalize ev_72 : vX2_timeOf u p1 u.2.2 = v_72
          refine G.icmp_ge (pc2 := 78) (tgt := 82) dX2_goesBefore_75 rfl rfl (fun c_75 => ?_) (fun c_75 => ?_)
          · refine G.iconst (pc2 := 83) (v := 0) dX2_goesBefore_82 (by decide) rfl ?_
            subst ev_72 ev_65
            exact G.ireturn hR (rfl) dX2_goesBefore_83 ⟨congrArg some (by simp only [vX2_goesBefore, if_neg c_10, if_neg c_29, if_neg c_75]), rfl⟩
          · refine G.iconst (pc2 := 79) (v := 1) dX2_goesBefore_78 (by decide) rfl ?_
            refine G.goto (tgt := 83) dX2_goesBefore_79 rfl ?_
            subst ev_72 ev_65
            exact G.ireturn hR (rfl) dX2_goesBefore_83 ⟨congrArg some (by simp only [vX2_goesBefore, if_neg c_10, if_neg c_29, if_pos c_75]), rfl⟩
        · exact absurd c_48 (by decide)
      · exact absurd c_42 (by decide)
    · refine G.iconst (pc2 := 33) (v := 1) dX2_goesBefore_32 (by decide) rfl ?_
      refine G.goto (tgt := 37) dX2_goesBefore_33 rfl ?_
      refine G.istore (pc2 := 39) (lv2 := [(0, .ref o), (1, .int p0), (2, .int p1), (3, .int 0), (4, .int 1)]) [1, 2, 3, 4, 0] dX2_goesBefore_37 (by decide) rfl rfl ?_
      refine G.iload_n (pc2 := 40) (x := 0) dX2_goesBefore_39 rfl rfl rfl ?_
      refine G.iload (pc2 := 42) (x := 1) dX2_goesBefore_40 rfl rfl ?_
      refine G.icmp_eq (pc2 := 45) (tgt := 47) dX2_goesBefore_42 rfl rfl (fun c_42 => ?_) (fun c_42 => ?_)
      · exact absurd c_42 (by decide)
      · refine G.iload_n (pc2 := 46) (x := 0) dX2_goesBefore_45 rfl rfl rfl ?_
        exact G.ireturn hR (rfl) dX2_goesBefore_46 ⟨congrArg some (by simp only [vX2_goesBefore, if_neg c_10, if_pos c_29]), rfl⟩
  · refine G.iconst (pc2 := 14) (v := 1) dX2_goesBefore_13 (by decide) rfl ?_
    refine G.goto (tgt := 18) dX2_goesBefore_14 rfl ?_
    refine G.istore_n (pc2 := 19) (lv2 := [(0, .ref o), (1, .int p0), (2, .int p1), (3, .int 1)]) [1, 2, 3, 0] dX2_goesBefore_18 rfl (by decide) rfl rfl ?_
    refine G.aload_n (pc2 := 20) (x := o) dX2_goesBefore_19 rfl rfl rfl ?_
    refine G.getf (pc2 := 23) (q0 := 0) (ci := 2) (k := 1) (v := .ref b) iX2_goesBefore_X2 kX2_goesBefore_15 rfl rfl (by decide) rfl dX2_goesBefore_20 rfl ?_
    refine G.iload_n (pc2 := 24) (x := p1) dX2_goesBefore_23 rfl rfl rfl ?_
    refine G.iald (pc2 := 25) (q0 := 2) (j := ix p1) (v := u.2.1 (ix p1)) rfl (h1) rfl dX2_goesBefore_24 rfl ?_
    refine G.aload_n (pc2 := 26) (x := o) dX2_goesBefore_25 rfl rfl rfl ?_
    refine G.getf (pc2 := 29) (q0 := 0) (ci := 2) (k := 2) (v := .int u.2.2) iX2_goesBefore_X2 kX2_goesBefore_24 rfl rfl (by decide) rfl dX2_goesBefore_26 rfl ?_
    refine G.icmp_ge (pc2 := 32) (tgt := 36) dX2_goesBefore_29 rfl rfl (fun c_29 => ?_) (fun c_29 => ?_)
    · refine G.iconst (pc2 := 37) (v := 0) dX2_goesBefore_36 (by decide) rfl ?_
      refine G.istore (pc2 := 39) (lv2 := [(0, .ref o), (1, .int p0), (2, .int p1), (3, .int 1), (4, .int 0)]) [1, 2, 3, 4, 0] dX2_goesBefore_37 (by decide) rfl rfl ?_
      refine G.iload_n (pc2 := 40) (x := 1) dX2_goesBefore_39 rfl rfl rfl ?_
      refine G.iload (pc2 := 42) (x := 0) dX2_goesBefore_40 rfl rfl ?_
      refine G.icmp_eq (pc2 := 45) (tgt := 47) dX2_goesBefore_42 rfl rfl (fun c_42 => ?_) (fun c_42 => ?_)
      · exact absurd c_42 (by decide)
      · refine G.iload_n (pc2 := 46) (x := 1) dX2_goesBefore_45 rfl rfl rfl ?_
        exact G.ireturn hR (rfl) dX2_goesBefore_46 ⟨congrArg some (by simp only [vX2_goesBefore, if_pos c_10, if_neg c_29]), rfl⟩
    · refine G.iconst (pc2 := 33) (v := 1) dX2_goesBefore_32 (by decide) rfl ?_
      refine G.goto (tgt := 37) dX2_goesBefore_33 rfl ?_
      refine G.istore (pc2 := 39) (lv2 := [(0, .ref o), (1, .int p0), (2, .int p1), (3, .int 1), (4, .int 1)]) [1, 2, 3, 4, 0] dX2_goesBefore_37 (by decide) rfl rfl ?_
      refine G.iload_n (pc2 := 40) (x := 1) dX2_goesBefore_39 rfl rfl rfl ?_
      refine G.iload (pc2 := 42) (x := 1) dX2_goesBefore_40 rfl rfl ?_
      refine G.icmp_eq (pc2 := 45) (tgt := 47) dX2_goesBefore_42 rfl rfl (fun c_42 => ?_) (fun c_42 => ?_)
      · refine G.iload_n (pc2 := 48) (x := 1) dX2_goesBefore_47 rfl rfl rfl ?_
        refine G.if_eq (pc2 := 51) (tgt := 55) dX2_goesBefore_48 rfl rfl (fun c_48 => ?_) (fun c_48 => ?_)
        · exact absurd c_48 (by decide)
        · refine G.iconst (pc2 := 52) (v := 1) dX2_goesBefore_51 (by decide) rfl ?_
          refine G.goto (tgt := 59) dX2_goesBefore_52 rfl ?_
          refine G.istore (pc2 := 61) (lv2 := [(0, .ref o), (1, .int p0), (2, .int p1), (3, .int 1), (4, .int 1), (5, .int 1)]) [1, 2, 3, 4, 5, 0] dX2_goesBefore_59 (by decide) rfl rfl ?_
          refine G.aload_n (pc2 := 62) (x := o) dX2_goesBefore_61 rfl rfl rfl ?_
          refine G.iload_n (pc2 := 63) (x := p0) dX2_goesBefore_62 rfl rfl rfl ?_
          refine G.iload (pc2 := 65) (x := 1) dX2_goesBefore_63 rfl rfl ?_
          refine G.callVd (pc2 := 68) (i := 0) (j := 3) (q0 := 0) (ci := 2) (As := [.int p0, .int 1]) (rest := []) (ws2 := wH o t b cI u) (st2 := [.int (vX2_timeOf u p0 1)]) (c_X2_timeOf (cI := cI) (cZ := cZ) o t b u p0 1 (h0) (hh)) gX2_goesBefore_X2_timeOf rfl rfl rfl ndX2_timeOf ⟨Nat.le_of_ble_eq_true rfl, Nat.le_of_ble_eq_true rfl⟩ ⟨Nat.le_of_ble_eq_true rfl, Nat.le_of_ble_eq_true rfl⟩ rfl rfl (Nat.le_of_ble_eq_true rfl) rfl rfl rfl rfl rfl rfl dX2_goesBefore_65 rfl ?_
          generalize ev_65 : vX2_timeOf u p0 1 = v_65
          refine G.aload_n (pc2 := 69) (x := o) dX2_goesBefore_68 rfl rfl rfl ?_
          refine G.iload_n (pc2 := 70) (x := p1) dX2_goesBefore_69 rfl rfl rfl ?_
          refine G.iload (pc2 := 72) (x := 1) dX2_goesBefore_70 rfl rfl ?_
          refine G.callVd (pc2 := 75) (i := 0) (j := 3) (q0 := 0) (ci := 2) (As := [.int p1, .int 1]) (rest := [.int v_65]) (ws2 := wH o t b cI u) (st2 := [.int (vX2_timeOf u p1 1), .int v_65]) (c_X2_timeOf (cI := cI) (cZ := cZ) o t b u p1 1 (h1) (hh)) gX2_goesBefore_X2_timeOf rfl rfl rfl ndX2_timeOf ⟨Nat.le_of_ble_eq_true rfl, Nat.le_of_ble_eq_true rfl⟩ ⟨Nat.le_of_ble_eq_true rfl, Nat.le_of_ble_eq_true rfl⟩ rfl rfl (Nat.le_of_ble_eq_true rfl) rfl rfl rfl rfl rfl rfl dX2_goesBefore_72 rfl ?_
          generalize ev_72 : vX2_timeOf u p1 1 = v_72
          refine G.icmp_ge (pc2 := 78) (tgt := 82) dX2_goesBefore_75 rfl rfl (fun c_75 => ?_) (fun c_75 => ?_)
          · refine G.iconst (pc2 := 83) (v := 0) dX2_goesBefore_82 (by decide) rfl ?_
            subst ev_72 ev_65
            exact G.ireturn hR (rfl) dX2_goesBefore_83 ⟨congrArg some (by simp only [vX2_goesBefore, if_pos c_10, if_pos c_29, if_neg c_75]), rfl⟩
          · refine G.iconst (pc2 := 79) (v := 1) dX2_goesBefore_78 (by decide) rfl ?_
            refine G.goto (tgt := 83) dX2_goesBefore_79 rfl ?_
            subst ev_72 ev_65
            exact G.ireturn hR (rfl) dX2_goesBefore_83 ⟨congrArg some (by simp only [vX2_goesBefore, if_pos c_10, if_pos c_29, if_pos c_75]), rfl⟩
      · exact absurd c_42 (by decide)
set_option maxRecDepth 100000 in
set_option maxHeartbeats 4000000 in
theorem c_X1_isChanged {cI cZ : ClassId} (o r c v p : Nat) (u : SF) (p0 : Int32) (h0 : Pg p0) (hf : FW u) : Ct yX1_isChanged wsX1_isChanged rX1_isChanged cI cZ [.ref o, .int p0] (wF o r c v p cI cZ u) 0 0 (rt (some (vX1_isChanged u p0)) (wF o r c v p cI cZ u)) := by
  refine Ct.of (cc := cX1_isChanged) (nL := 2) (own := RX1) (by decide) rfl rfl (Nat.le_of_ble_eq_true rfl) rfl ?_
  intro K hR hN
  refine G.aload_n (pc2 := 1) (x := o) dX1_isChanged_0 rfl rfl rfl ?_
  refine G.getf (pc2 := 4) (q0 := 0) (ci := 1) (k := 1) (v := .ref c) iX1_isChanged_X1 kX1_isChanged_15 rfl rfl (by decide) rfl dX1_isChanged_1 rfl ?_
  refine G.iload_n (pc2 := 5) (x := p0) dX1_isChanged_4 rfl rfl rfl ?_
  refine G.zald (pc2 := 6) (q0 := 2) (j := ix p0) (v := u.2.1 (ix p0)) rfl (h0) rfl dX1_isChanged_5 rfl ?_
  exact G.ireturn hR (hf.c _) dX1_isChanged_6 ⟨congrArg some (rfl), rfl⟩
set_option maxRecDepth 100000 in
set_option maxHeartbeats 4000000 in
theorem c_X1_release {cI cZ : ClassId} (o r c v p : Nat) (u : SF) (p0 : Int32) (h0 : Pg p0) : Ct yX1_release wsX1_release rX1_release cI cZ [.ref o, .int p0] (wF o r c v p cI cZ u) 0 0 (rt (none) (wF o r c v p cI cZ (sX1_release u p0))) := by
  refine Ct.of (cc := cX1_release) (nL := 2) (own := RX1) (by decide) rfl rfl (Nat.le_of_ble_eq_true rfl) rfl ?_
  intro K hR hN
  refine G.aload_n (pc2 := 1) (x := o) dX1_release_0 rfl rfl rfl ?_
  refine G.iload_n (pc2 := 2) (x := p0) dX1_release_1 rfl rfl rfl ?_
  refine G.callVd (pc2 := 5) (i := 0) (j := 5) (q0 := 0) (ci := 1) (As := [.int p0]) (rest := []) (ws2 := wF o r c v p cI cZ (sX1_vacate u p0)) (st2 := []) (c_X1_vacate (cI := cI) (cZ := cZ) o r c v p u p0 (h0)) gX1_release_X1_vacate rfl rfl rfl ndX1_vacate ⟨Nat.le_of_ble_eq_true rfl, Nat.le_of_ble_eq_true rfl⟩ ⟨Nat.le_of_ble_eq_true rfl, Nat.le_of_ble_eq_true rfl⟩ rfl rfl (Nat.le_of_ble_eq_true rfl) rfl rfl rfl rfl rfl rfl dX1_release_2 rfl ?_
  generalize et_2 : sX1_vacate u p0 = t_2
  refine G.aload_n (pc2 := 6) (x := o) dX1_release_5 rfl rfl rfl ?_
  refine G.dup (pc2 := 7) dX1_release_6 rfl rfl ?_
  refine G.getf (pc2 := 10) (q0 := 0) (ci := 1) (k := 5) (v := .int t_2.2.2.2.2.2) iX1_release_X1 kX1_release_29 rfl rfl (by decide) rfl dX1_release_7 rfl ?_
  refine G.iconst (pc2 := 11) (v := 1) dX1_release_10 (by decide) rfl ?_
  refine G.isub (pc2 := 12) (v := t_2.2.2.2.2.2 - 1) dX1_release_11 rfl rfl ?_
  refine G.putf (pc2 := 15) (q0 := 0) (ci := 1) (k := 5) (ws2 := wF o r c v p cI cZ (t_2.1, t_2.2.1, t_2.2.2.1, t_2.2.2.2.1, t_2.2.2.2.2.1, t_2.2.2.2.2.2 - 1)) iX1_release_X1 kX1_release_29 tyX1_ok nmX1 rfl rfl (by decide) rfl rfl rfl (Nat.le_of_ble_eq_true rfl) rfl dX1_release_12 rfl ?_
  subst et_2
  exact G.vreturn hR dX1_release_15 ⟨rfl, congrArg (wF o r c v p cI cZ) (rfl)⟩
set_option maxRecDepth 100000 in
set_option maxHeartbeats 4000000 in
theorem c_X3_isFull {cI cZ : ClassId} (o g v : Nat) (u : SQ)  : Ct yX3_isFull wsX3_isFull rX3_isFull cI cZ [.ref o] (wQ o g v cI u) 0 0 (rt (some (vX3_isFull u)) (wQ o g v cI u)) := by
  refine Ct.of (cc := cX3_isFull) (nL := 1) (own := RX3) (by decide) rfl rfl (Nat.le_of_ble_eq_true rfl) rfl ?_
  intro K hR hN
  refine G.aload_n (pc2 := 1) (x := o) dX3_isFull_0 rfl rfl rfl ?_
  refine G.getf (pc2 := 4) (q0 := 0) (ci := 3) (k := 3) (v := .int u.2.2.2) iX3_isFull_X3 kX3_isFull_18 rfl rfl (by decide) rfl dX3_isFull_1 rfl ?_
  refine G.aload_n (pc2 := 5) (x := o) dX3_isFull_4 rfl rfl rfl ?_
  refine G.getf (pc2 := 8) (q0 := 0) (ci := 3) (k := 2) (v := .int u.2.2.1) iX3_isFull_X3 kX3_isFull_22 rfl rfl (by decide) rfl dX3_isFull_5 rfl ?_
  refine G.icmp_lt (pc2 := 11) (tgt := 15) dX3_isFull_8 rfl rfl (fun c_8 => ?_) (fun c_8 => ?_)
  · refine G.iconst (pc2 := 16) (v := 0) dX3_isFull_15 (by decide) rfl ?_
    exact G.ireturn hR (rfl) dX3_isFull_16 ⟨congrArg some (by simp only [vX3_isFull, if_pos c_8]), rfl⟩
  · refine G.iconst (pc2 := 12) (v := 1) dX3_isFull_11 (by decide) rfl ?_
    refine G.goto (tgt := 16) dX3_isFull_12 rfl ?_
    exact G.ireturn hR (rfl) dX3_isFull_16 ⟨congrArg some (by simp only [vX3_isFull, if_neg c_8]), rfl⟩
set_option maxRecDepth 100000 in
set_option maxHeartbeats 4000000 in
theorem c_X1_valueOf {cI cZ : ClassId} (o r c v p : Nat) (u : SF) (p0 : Int32) (h0 : Pg p0) : Ct yX1_valueOf wsX1_valueOf rX1_valueOf cI cZ [.ref o, .int p0] (wF o r c v p cI cZ u) 0 0 (rt (some (vX1_valueOf u p0)) (wF o r c v p cI cZ u)) := by
  refine Ct.of (cc := cX1_valueOf) (nL := 2) (own := RX1) (by decide) rfl rfl (Nat.le_of_ble_eq_true rfl) rfl ?_
  intro K hR hN
  refine G.aload_n (pc2 := 1) (x := o) dX1_valueOf_0 rfl rfl rfl ?_
  refine G.getf (pc2 := 4) (q0 := 0) (ci := 1) (k := 2) (v := .ref v) iX1_valueOf_X1 kX1_valueOf_18 rfl rfl (by decide) rfl dX1_valueOf_1 rfl ?_
  refine G.iload_n (pc2 := 5) (x := p0) dX1_valueOf_4 rfl rfl rfl ?_
  refine G.iald (pc2 := 6) (q0 := 3) (j := ix p0) (v := u.2.2.1 (ix p0)) rfl (h0) rfl dX1_valueOf_5 rfl ?_
  exact G.ireturn hR (rfl) dX1_valueOf_6 ⟨congrArg some (rfl), rfl⟩
set_option maxRecDepth 100000 in
set_option maxHeartbeats 4000000 in
theorem c_X3_append {cI cZ : ClassId} (o g v : Nat) (u : SQ) (p0 p1 : Int32) (hq : QW u) : Ct yX3_append wsX3_append rX3_append cI cZ [.ref o, .int p0, .int p1] (wQ o g v cI u) 0 0 (rt (none) (wQ o g v cI (sX3_append u p0 p1))) := by
  refine Ct.of (cc := cX3_append) (nL := 3) (own := RX3) (by decide) rfl rfl (Nat.le_of_ble_eq_true rfl) rfl ?_
  intro K hR hN
  refine G.aload_n (pc2 := 1) (x := o) dX3_append_0 rfl rfl rfl ?_
  refine G.callVd (pc2 := 4) (i := 0) (j := 3) (q0 := 0) (ci := 3) (As := []) (rest := []) (ws2 := wQ o g v cI u) (st2 := [.int (vX3_isFull u)]) (c_X3_isFull (cI := cI) (cZ := cZ) o g v u) gX3_append_X3_isFull rfl rfl rfl ndX3_isFull ⟨Nat.le_of_ble_eq_true rfl, Nat.le_of_ble_eq_true rfl⟩ ⟨Nat.le_of_ble_eq_true rfl, Nat.le_of_ble_eq_true rfl⟩ rfl rfl (Nat.le_of_ble_eq_true rfl) rfl rfl rfl rfl rfl rfl dX3_append_1 rfl ?_
  generalize ev_1 : vX3_isFull u = v_1
  refine G.if_eq (pc2 := 7) (tgt := 8) dX3_append_4 rfl rfl (fun c_4 => ?_) (fun c_4 => ?_)
  · refine G.aload_n (pc2 := 9) (x := o) dX3_append_8 rfl rfl rfl ?_
    refine G.getf (pc2 := 12) (q0 := 0) (ci := 3) (k := 0) (v := .ref g) iX3_append_X3 kX3_append_9 rfl rfl (by decide) rfl dX3_append_9 rfl ?_
    refine G.aload_n (pc2 := 13) (x := o) dX3_append_12 rfl rfl rfl ?_
    refine G.getf (pc2 := 16) (q0 := 0) (ci := 3) (k := 3) (v := .int u.2.2.2) iX3_append_X3 kX3_append_18 rfl rfl (by decide) rfl dX3_append_13 rfl ?_
    refine G.iload_n (pc2 := 17) (x := p0) dX3_append_16 rfl rfl rfl ?_
    refine G.iast (pc2 := 18) (q0 := 1) (j := ix u.2.2.2) (ws2 := wQ o g v cI (upd u.1 (ix u.2.2.2) p0, u.2.1, u.2.2.1, u.2.2.2)) rfl (by subst ev_1; exact (appIx hq c_4)) rfl dX3_append_17 rfl ?_
    refine G.aload_n (pc2 := 19) (x := o) dX3_append_18 rfl rfl rfl ?_
    refine G.getf (pc2 := 22) (q0 := 0) (ci := 3) (k := 1) (v := .ref v) iX3_append_X3 kX3_append_15 rfl rfl (by decide) rfl dX3_append_19 rfl ?_
    refine G.aload_n (pc2 := 23) (x := o) dX3_append_22 rfl rfl rfl ?_
    refine G.getf (pc2 := 26) (q0 := 0) (ci := 3) (k := 3) (v := .int u.2.2.2) iX3_append_X3 kX3_append_18 rfl rfl (by decide) rfl dX3_append_23 rfl ?_
    refine G.iload_n (pc2 := 27) (x := p1) dX3_append_26 rfl rfl rfl ?_
    refine G.iast (pc2 := 28) (q0 := 2) (j := ix u.2.2.2) (ws2 := wQ o g v cI (upd u.1 (ix u.2.2.2) p0, upd u.2.1 (ix u.2.2.2) p1, u.2.2.1, u.2.2.2)) rfl (by subst ev_1; exact (appIx hq c_4)) rfl dX3_append_27 rfl ?_
    refine G.aload_n (pc2 := 29) (x := o) dX3_append_28 rfl rfl rfl ?_
    refine G.dup (pc2 := 30) dX3_append_29 rfl rfl ?_
    refine G.getf (pc2 := 33) (q0 := 0) (ci := 3) (k := 3) (v := .int u.2.2.2) iX3_append_X3 kX3_append_18 rfl rfl (by decide) rfl dX3_append_30 rfl ?_
    refine G.iconst (pc2 := 34) (v := 1) dX3_append_33 (by decide) rfl ?_
    refine G.iadd (pc2 := 35) (v := u.2.2.2 + 1) dX3_append_34 rfl rfl ?_
    refine G.putf (pc2 := 38) (q0 := 0) (ci := 3) (k := 3) (ws2 := wQ o g v cI (upd u.1 (ix u.2.2.2) p0, upd u.2.1 (ix u.2.2.2) p1, u.2.2.1, u.2.2.2 + 1)) iX3_append_X3 kX3_append_18 tyX3_ok nmX3 rfl rfl (by decide) rfl rfl rfl (Nat.le_of_ble_eq_true rfl) rfl dX3_append_35 rfl ?_
    subst ev_1
    exact G.vreturn hR dX3_append_38 ⟨rfl, congrArg (wQ o g v cI) (by simp only [sX3_append, if_pos c_4])⟩
  · subst ev_1
    exact G.vreturn hR dX3_append_7 ⟨rfl, congrArg (wQ o g v cI) (by simp only [sX3_append, if_neg c_4])⟩
set_option maxRecDepth 100000 in
set_option maxHeartbeats 4000000 in
theorem c_X3_has {cI cZ : ClassId} (o g v : Nat) (u : SQ) (p0 : Int32)  : Ct yX3_has wsX3_has rX3_has cI cZ [.ref o, .int p0] (wQ o g v cI u) 0 0 (rt (some (vX3_has u p0)) (wQ o g v cI u)) := by
  refine Ct.of (cc := cX3_has) (nL := 2) (own := RX3) (by decide) rfl rfl (Nat.le_of_ble_eq_true rfl) rfl ?_
  intro K hR hN
  refine G.iload_n (pc2 := 1) (x := p0) dX3_has_0 rfl rfl rfl ?_
  refine G.if_lt (pc2 := 4) (tgt := 16) dX3_has_1 rfl rfl (fun c_1 => ?_) (fun c_1 => ?_)
  · refine G.iconst (pc2 := 17) (v := 0) dX3_has_16 (by decide) rfl ?_
    exact G.ireturn hR (rfl) dX3_has_17 ⟨congrArg some (by simp only [vX3_has, if_pos c_1]), rfl⟩
  · refine G.iload_n (pc2 := 5) (x := p0) dX3_has_4 rfl rfl rfl ?_
    refine G.aload_n (pc2 := 6) (x := o) dX3_has_5 rfl rfl rfl ?_
    refine G.getf (pc2 := 9) (q0 := 0) (ci := 3) (k := 3) (v := .int u.2.2.2) iX3_has_X3 kX3_has_18 rfl rfl (by decide) rfl dX3_has_6 rfl ?_
    refine G.icmp_ge (pc2 := 12) (tgt := 16) dX3_has_9 rfl rfl (fun c_9 => ?_) (fun c_9 => ?_)
    · refine G.iconst (pc2 := 17) (v := 0) dX3_has_16 (by decide) rfl ?_
      exact G.ireturn hR (rfl) dX3_has_17 ⟨congrArg some (by simp only [vX3_has, if_neg c_1, if_neg c_9]), rfl⟩
    · refine G.iconst (pc2 := 13) (v := 1) dX3_has_12 (by decide) rfl ?_
      refine G.goto (tgt := 17) dX3_has_13 rfl ?_
      exact G.ireturn hR (rfl) dX3_has_17 ⟨congrArg some (by simp only [vX3_has, if_neg c_1, if_pos c_9]), rfl⟩
set_option maxRecDepth 100000 in
set_option maxHeartbeats 4000000 in
theorem c_X3_pageAt {cI cZ : ClassId} (o g v : Nat) (u : SQ) (p0 : Int32) (hq : QW u) : Ct yX3_pageAt wsX3_pageAt rX3_pageAt cI cZ [.ref o, .int p0] (wQ o g v cI u) 0 0 (rt (some (vX3_pageAt u p0)) (wQ o g v cI u)) := by
  refine Ct.of (cc := cX3_pageAt) (nL := 2) (own := RX3) (by decide) rfl rfl (Nat.le_of_ble_eq_true rfl) rfl ?_
  intro K hR hN
  refine G.aload_n (pc2 := 1) (x := o) dX3_pageAt_0 rfl rfl rfl ?_
  refine G.iload_n (pc2 := 2) (x := p0) dX3_pageAt_1 rfl rfl rfl ?_
  refine G.callVd (pc2 := 5) (i := 0) (j := 3) (q0 := 0) (ci := 3) (As := [.int p0]) (rest := []) (ws2 := wQ o g v cI u) (st2 := [.int (vX3_has u p0)]) (c_X3_has (cI := cI) (cZ := cZ) o g v u p0) gX3_pageAt_X3_has rfl rfl rfl ndX3_has ⟨Nat.le_of_ble_eq_true rfl, Nat.le_of_ble_eq_true rfl⟩ ⟨Nat.le_of_ble_eq_true rfl, Nat.le_of_ble_eq_true rfl⟩ rfl rfl (Nat.le_of_ble_eq_true rfl) rfl rfl rfl rfl rfl rfl dX3_pageAt_2 rfl ?_
  generalize ev_2 : vX3_has u p0 = v_2
  refine G.if_eq (pc2 := 8) (tgt := 17) dX3_pageAt_5 rfl rfl (fun c_5 => ?_) (fun c_5 => ?_)
  · refine G.bipush (pc2 := 19) (v := (-9)) dX3_pageAt_17 (by decide) rfl ?_
    subst ev_2
    exact G.ireturn hR (rfl) dX3_pageAt_19 ⟨congrArg some (by simp only [vX3_pageAt, if_pos c_5]), rfl⟩
  · refine G.aload_n (pc2 := 9) (x := o) dX3_pageAt_8 rfl rfl rfl ?_
    refine G.getf (pc2 := 12) (q0 := 0) (ci := 3) (k := 0) (v := .ref g) iX3_pageAt_X3 kX3_pageAt_9 rfl rfl (by decide) rfl dX3_pageAt_9 rfl ?_
    refine G.iload_n (pc2 := 13) (x := p0) dX3_pageAt_12 rfl rfl rfl ?_
    refine G.iald (pc2 := 14) (q0 := 1) (j := ix p0) (v := u.1 (ix p0)) rfl (by subst ev_2; exact (hasIx hq c_5)) rfl dX3_pageAt_13 rfl ?_
    refine G.goto (tgt := 19) dX3_pageAt_14 rfl ?_
    subst ev_2
    exact G.ireturn hR (rfl) dX3_pageAt_19 ⟨congrArg some (by simp only [vX3_pageAt, if_neg c_5]), rfl⟩
set_option maxRecDepth 100000 in
set_option maxHeartbeats 4000000 in
theorem c_X3_valueAt {cI cZ : ClassId} (o g v : Nat) (u : SQ) (p0 : Int32) (hq : QW u) : Ct yX3_valueAt wsX3_valueAt rX3_valueAt cI cZ [.ref o, .int p0] (wQ o g v cI u) 0 0 (rt (some (vX3_valueAt u p0)) (wQ o g v cI u)) := by
  refine Ct.of (cc := cX3_valueAt) (nL := 2) (own := RX3) (by decide) rfl rfl (Nat.le_of_ble_eq_true rfl) rfl ?_
  intro K hR hN
  refine G.aload_n (pc2 := 1) (x := o) dX3_valueAt_0 rfl rfl rfl ?_
  refine G.iload_n (pc2 := 2) (x := p0) dX3_valueAt_1 rfl rfl rfl ?_
  refine G.callVd (pc2 := 5) (i := 0) (j := 3) (q0 := 0) (ci := 3) (As := [.int p0]) (rest := []) (ws2 := wQ o g v cI u) (st2 := [.int (vX3_has u p0)]) (c_X3_has (cI := cI) (cZ := cZ) o g v u p0) gX3_valueAt_X3_has rfl rfl rfl ndX3_has ⟨Nat.le_of_ble_eq_true rfl, Nat.le_of_ble_eq_true rfl⟩ ⟨Nat.le_of_ble_eq_true rfl, Nat.le_of_ble_eq_true rfl⟩ rfl rfl (Nat.le_of_ble_eq_true rfl) rfl rfl rfl rfl rfl rfl dX3_valueAt_2 rfl ?_
  generalize ev_2 : vX3_has u p0 = v_2
  refine G.if_eq (pc2 := 8) (tgt := 17) dX3_valueAt_5 rfl rfl (fun c_5 => ?_) (fun c_5 => ?_)
  · refine G.bipush (pc2 := 19) (v := (-9)) dX3_valueAt_17 (by decide) rfl ?_
    subst ev_2
    exact G.ireturn hR (rfl) dX3_valueAt_19 ⟨congrArg some (by simp only [vX3_valueAt, if_pos c_5]), rfl⟩
  · refine G.aload_n (pc2 := 9) (x := o) dX3_valueAt_8 rfl rfl rfl ?_
    refine G.getf (pc2 := 12) (q0 := 0) (ci := 3) (k := 1) (v := .ref v) iX3_valueAt_X3 kX3_valueAt_15 rfl rfl (by decide) rfl dX3_valueAt_9 rfl ?_
    refine G.iload_n (pc2 := 13) (x := p0) dX3_valueAt_12 rfl rfl rfl ?_
    refine G.iald (pc2 := 14) (q0 := 2) (j := ix p0) (v := u.2.1 (ix p0)) rfl (by subst ev_2; exact (hasIx hq c_5)) rfl dX3_valueAt_13 rfl ?_
    refine G.goto (tgt := 19) dX3_valueAt_14 rfl ?_
    subst ev_2
    exact G.ireturn hR (rfl) dX3_valueAt_19 ⟨congrArg some (by simp only [vX3_valueAt, if_neg c_5]), rfl⟩
set_option maxRecDepth 100000 in
set_option maxHeartbeats 4000000 in
theorem c_X0_store {cI cZ : ClassId} (o a : Nat) (u : SD) (p0 p1 : Int32) (h0 : Pg p0) : Ct yX0_store wsX0_store rX0_store cI cZ [.ref o, .int p0, .int p1] (wD o a cI u) 0 0 (rt (none) (wD o a cI (sX0_store u p0 p1))) := by
  refine Ct.of (cc := cX0_store) (nL := 3) (own := RX0) (by decide) rfl rfl (Nat.le_of_ble_eq_true rfl) rfl ?_
  intro K hR hN
  refine G.aload_n (pc2 := 1) (x := o) dX0_store_0 rfl rfl rfl ?_
  refine G.dup (pc2 := 2) dX0_store_1 rfl rfl ?_
  refine G.getf (pc2 := 5) (q0 := 0) (ci := 0) (k := 2) (v := .int u.2.2) iX0_store_X0 kX0_store_25 rfl rfl (by decide) rfl dX0_store_2 rfl ?_
  refine G.iconst (pc2 := 6) (v := 1) dX0_store_5 (by decide) rfl ?_
  refine G.iadd (pc2 := 7) (v := u.2.2 + 1) dX0_store_6 rfl rfl ?_
  refine G.putf (pc2 := 10) (q0 := 0) (ci := 0) (k := 2) (ws2 := wD o a cI (u.1, u.2.1, u.2.2 + 1)) iX0_store_X0 kX0_store_25 tyX0_ok nmX0 rfl rfl (by decide) rfl rfl rfl (Nat.le_of_ble_eq_true rfl) rfl dX0_store_7 rfl ?_
  refine G.aload_n (pc2 := 11) (x := o) dX0_store_10 rfl rfl rfl ?_
  refine G.getf (pc2 := 14) (q0 := 0) (ci := 0) (k := 0) (v := .ref a) iX0_store_X0 kX0_store_9 rfl rfl (by decide) rfl dX0_store_11 rfl ?_
  refine G.iload_n (pc2 := 15) (x := p0) dX0_store_14 rfl rfl rfl ?_
  refine G.iload_n (pc2 := 16) (x := p1) dX0_store_15 rfl rfl rfl ?_
  refine G.iast (pc2 := 17) (q0 := 1) (j := ix p0) (ws2 := wD o a cI (upd u.1 (ix p0) p1, u.2.1, u.2.2 + 1)) rfl (h0) rfl dX0_store_16 rfl ?_
  exact G.vreturn hR dX0_store_17 ⟨rfl, congrArg (wD o a cI) (rfl)⟩
set_option maxRecDepth 100000 in
set_option maxHeartbeats 4000000 in
theorem c_X3_removeAt {cI cZ : ClassId} (o g v : Nat) (u : SQ) (p0 : Int32) (hq : QW u) : Ct yX3_removeAt wsX3_removeAt rX3_removeAt cI cZ [.ref o, .int p0] (wQ o g v cI u) 0 0 (rt (none) (wQ o g v cI (sX3_removeAt u p0))) := by
  refine Ct.of (cc := cX3_removeAt) (nL := 3) (own := RX3) (by decide) rfl rfl (Nat.le_of_ble_eq_true rfl) rfl ?_
  intro K hR hN
  have loop21 : ∀ (n : Nat) (w : SQ) (l2 : Int32), SI n w l2 → sX3_removeAt u p0 = lsX3_removeAt_21 p0 n w l2 → G K cI cZ cX3_removeAt 3 RX3 wsX3_removeAt rX3_removeAt 0 0 (wQ o g v cI w) 21 [(0, .ref o), (1, .int p0), (2, .int l2)] [] := by
    intro n
    induction n with
    | zero =>
      intro w l2 hi hs
      exact absurd hi (SI.zero)
    | succ n ih =>
      intro w l2 hi hs
      refine G.iload_n (pc2 := 22) (x := l2) dX3_removeAt_21 rfl rfl rfl ?_
      refine G.aload_n (pc2 := 23) (x := o) dX3_removeAt_22 rfl rfl rfl ?_
      refine G.getf (pc2 := 26) (q0 := 0) (ci := 3) (k := 3) (v := .int w.2.2.2) iX3_removeAt_X3 kX3_removeAt_18 rfl rfl (by decide) rfl dX3_removeAt_23 rfl ?_
      refine G.icmp_ge (pc2 := 29) (tgt := 63) dX3_removeAt_26 rfl rfl (fun c_26 => ?_) (fun c_26 => ?_)
      · exact G.vreturn hR dX3_removeAt_63 ⟨rfl, congrArg (wQ o g v cI) (by rw [hs]; simp only [lsX3_removeAt_21, if_neg c_26])⟩
      · refine G.aload_n (pc2 := 30) (x := o) dX3_removeAt_29 rfl rfl rfl ?_
        refine G.getf (pc2 := 33) (q0 := 0) (ci := 3) (k := 0) (v := .ref g) iX3_removeAt_X3 kX3_removeAt_9 rfl rfl (by decide) rfl dX3_removeAt_30 rfl ?_
        refine G.iload_n (pc2 := 34) (x := l2) dX3_removeAt_33 rfl rfl rfl ?_
        refine G.aload_n (pc2 := 35) (x := o) dX3_removeAt_34 rfl rfl rfl ?_
        refine G.getf (pc2 := 38) (q0 := 0) (ci := 3) (k := 0) (v := .ref g) iX3_removeAt_X3 kX3_removeAt_9 rfl rfl (by decide) rfl dX3_removeAt_35 rfl ?_
        refine G.iload_n (pc2 := 39) (x := l2) dX3_removeAt_38 rfl rfl rfl ?_
        refine G.iconst (pc2 := 40) (v := 1) dX3_removeAt_39 (by decide) rfl ?_
        refine G.iadd (pc2 := 41) (v := l2 + 1) dX3_removeAt_40 rfl rfl ?_
        refine G.iald (pc2 := 42) (q0 := 1) (j := ix (l2 + 1)) (v := w.1 (ix (l2 + 1))) rfl (SI.inx1 hi c_26) rfl dX3_removeAt_41 rfl ?_
        refine G.iast (pc2 := 43) (q0 := 1) (j := ix l2) (ws2 := wQ o g v cI (upd w.1 (ix l2) (w.1 (ix (l2 + 1))), w.2.1, w.2.2.1, w.2.2.2)) rfl (SI.inx hi c_26) rfl dX3_removeAt_42 rfl ?_
        refine G.aload_n (pc2 := 44) (x := o) dX3_removeAt_43 rfl rfl rfl ?_
        refine G.getf (pc2 := 47) (q0 := 0) (ci := 3) (k := 1) (v := .ref v) iX3_removeAt_X3 kX3_removeAt_15 rfl rfl (by decide) rfl dX3_removeAt_44 rfl ?_
        refine G.iload_n (pc2 := 48) (x := l2) dX3_removeAt_47 rfl rfl rfl ?_
        refine G.aload_n (pc2 := 49) (x := o) dX3_removeAt_48 rfl rfl rfl ?_
        refine G.getf (pc2 := 52) (q0 := 0) (ci := 3) (k := 1) (v := .ref v) iX3_removeAt_X3 kX3_removeAt_15 rfl rfl (by decide) rfl dX3_removeAt_49 rfl ?_
        refine G.iload_n (pc2 := 53) (x := l2) dX3_removeAt_52 rfl rfl rfl ?_
        refine G.iconst (pc2 := 54) (v := 1) dX3_removeAt_53 (by decide) rfl ?_
        refine G.iadd (pc2 := 55) (v := l2 + 1) dX3_removeAt_54 rfl rfl ?_
        refine G.iald (pc2 := 56) (q0 := 2) (j := ix (l2 + 1)) (v := w.2.1 (ix (l2 + 1))) rfl (SI.inx1 hi c_26) rfl dX3_removeAt_55 rfl ?_
        refine G.iast (pc2 := 57) (q0 := 2) (j := ix l2) (ws2 := wQ o g v cI (upd w.1 (ix l2) (w.1 (ix (l2 + 1))), upd w.2.1 (ix l2) (w.2.1 (ix (l2 + 1))), w.2.2.1, w.2.2.2)) rfl (SI.inx hi c_26) rfl dX3_removeAt_56 rfl ?_
        refine G.iinc (pc2 := 60) (k := 2) (v := l2 + 1) (lv2 := [(0, .ref o), (1, .int p0), (2, .int (l2 + 1))]) [1, 2, 0] dX3_removeAt_57 rfl rfl (by decide) rfl rfl ?_
        refine G.goto (tgt := 21) dX3_removeAt_60 rfl ?_
        exact ih  (upd w.1 (ix l2) (w.1 (ix (l2 + 1))), upd w.2.1 (ix l2) (w.2.1 (ix (l2 + 1))), w.2.2.1, w.2.2.2) (l2 + 1) (SI.next hi c_26) (by rw [hs]; simp only [lsX3_removeAt_21, if_pos c_26])
  refine G.aload_n (pc2 := 1) (x := o) dX3_removeAt_0 rfl rfl rfl ?_
  refine G.iload_n (pc2 := 2) (x := p0) dX3_removeAt_1 rfl rfl rfl ?_
  refine G.callVd (pc2 := 5) (i := 0) (j := 3) (q0 := 0) (ci := 3) (As := [.int p0]) (rest := []) (ws2 := wQ o g v cI u) (st2 := [.int (vX3_has u p0)]) (c_X3_has (cI := cI) (cZ := cZ) o g v u p0) gX3_removeAt_X3_has rfl rfl rfl ndX3_has ⟨Nat.le_of_ble_eq_true rfl, Nat.le_of_ble_eq_true rfl⟩ ⟨Nat.le_of_ble_eq_true rfl, Nat.le_of_ble_eq_true rfl⟩ rfl rfl (Nat.le_of_ble_eq_true rfl) rfl rfl rfl rfl rfl rfl dX3_removeAt_2 rfl ?_
  generalize ev_2 : vX3_has u p0 = v_2
  refine G.if_ne (pc2 := 8) (tgt := 9) dX3_removeAt_5 rfl rfl (fun c_5 => ?_) (fun c_5 => ?_)
  · refine G.aload_n (pc2 := 10) (x := o) dX3_removeAt_9 rfl rfl rfl ?_
    refine G.dup (pc2 := 11) dX3_removeAt_10 rfl rfl ?_
    refine G.getf (pc2 := 14) (q0 := 0) (ci := 3) (k := 3) (v := .int u.2.2.2) iX3_removeAt_X3 kX3_removeAt_18 rfl rfl (by decide) rfl dX3_removeAt_11 rfl ?_
    refine G.iconst (pc2 := 15) (v := 1) dX3_removeAt_14 (by decide) rfl ?_
    refine G.isub (pc2 := 16) (v := u.2.2.2 - 1) dX3_removeAt_15 rfl rfl ?_
    refine G.putf (pc2 := 19) (q0 := 0) (ci := 3) (k := 3) (ws2 := wQ o g v cI (u.1, u.2.1, u.2.2.1, u.2.2.2 - 1)) iX3_removeAt_X3 kX3_removeAt_18 tyX3_ok nmX3 rfl rfl (by decide) rfl rfl rfl (Nat.le_of_ble_eq_true rfl) rfl dX3_removeAt_16 rfl ?_
    refine G.iload_n (pc2 := 20) (x := p0) dX3_removeAt_19 rfl rfl rfl ?_
    refine G.istore_n (pc2 := 21) (lv2 := [(0, .ref o), (1, .int p0), (2, .int p0)]) [1, 2, 0] dX3_removeAt_20 rfl (by decide) rfl rfl ?_
    subst ev_2
    exact loop21 9 (u.1, u.2.1, u.2.2.1, u.2.2.2 - 1) p0 (SI.start hq c_5) (by simp only [sX3_removeAt, if_neg c_5])
  · subst ev_2
    exact G.vreturn hR dX3_removeAt_8 ⟨rfl, congrArg (wQ o g v cI) (by simp only [sX3_removeAt, if_pos c_5])⟩
set_option maxRecDepth 100000 in
set_option maxHeartbeats 4000000 in
theorem c_X3_positionOf {cI cZ : ClassId} (o g v : Nat) (u : SQ) (p0 : Int32) (hq : QW u) : Ct yX3_positionOf wsX3_positionOf rX3_positionOf cI cZ [.ref o, .int p0] (wQ o g v cI u) 0 0 (rt (some (vX3_positionOf u p0)) (wQ o g v cI u)) := by
  refine Ct.of (cc := cX3_positionOf) (nL := 3) (own := RX3) (by decide) rfl rfl (Nat.le_of_ble_eq_true rfl) rfl ?_
  intro K hR hN
  have loop2 : ∀ (n : Nat) (l2 : Int32), QI n u l2 → vX3_positionOf u p0 = lvX3_positionOf_2 u p0 n l2 → G K cI cZ cX3_positionOf 3 RX3 wsX3_positionOf rX3_positionOf 0 0 (wQ o g v cI u) 2 [(0, .ref o), (1, .int p0), (2, .int l2)] [] := by
    intro n
    induction n with
    | zero =>
      intro l2 hi hv
      exact absurd hi (QI.zero)
    | succ n ih =>
      intro l2 hi hv
      refine G.iload_n (pc2 := 3) (x := l2) dX3_positionOf_2 rfl rfl rfl ?_
      refine G.aload_n (pc2 := 4) (x := o) dX3_positionOf_3 rfl rfl rfl ?_
      refine G.getf (pc2 := 7) (q0 := 0) (ci := 3) (k := 3) (v := .int u.2.2.2) iX3_positionOf_X3 kX3_positionOf_18 rfl rfl (by decide) rfl dX3_positionOf_4 rfl ?_
      refine G.icmp_ge (pc2 := 10) (tgt := 28) dX3_positionOf_7 rfl rfl (fun c_7 => ?_) (fun c_7 => ?_)
      · refine G.bipush (pc2 := 30) (v := (-9)) dX3_positionOf_28 (by decide) rfl ?_
        exact G.ireturn hR (rfl) dX3_positionOf_30 ⟨congrArg some (by rw [hv]; simp only [lvX3_positionOf_2, if_neg c_7]), rfl⟩
      · refine G.aload_n (pc2 := 11) (x := o) dX3_positionOf_10 rfl rfl rfl ?_
        refine G.getf (pc2 := 14) (q0 := 0) (ci := 3) (k := 0) (v := .ref g) iX3_positionOf_X3 kX3_positionOf_9 rfl rfl (by decide) rfl dX3_positionOf_11 rfl ?_
        refine G.iload_n (pc2 := 15) (x := l2) dX3_positionOf_14 rfl rfl rfl ?_
        refine G.iald (pc2 := 16) (q0 := 1) (j := ix l2) (v := u.1 (ix l2)) rfl (QI.inx hi c_7) rfl dX3_positionOf_15 rfl ?_
        refine G.iload_n (pc2 := 17) (x := p0) dX3_positionOf_16 rfl rfl rfl ?_
        refine G.icmp_ne (pc2 := 20) (tgt := 22) dX3_positionOf_17 rfl rfl (fun c_17 => ?_) (fun c_17 => ?_)
        · refine G.iinc (pc2 := 25) (k := 2) (v := l2 + 1) (lv2 := [(0, .ref o), (1, .int p0), (2, .int (l2 + 1))]) [1, 2, 0] dX3_positionOf_22 rfl rfl (by decide) rfl rfl ?_
          refine G.goto (tgt := 2) dX3_positionOf_25 rfl ?_
          exact ih  (l2 + 1) (QI.next hi c_7) (by rw [hv]; simp only [lvX3_positionOf_2, if_pos c_7, if_neg c_17])
        · refine G.iload_n (pc2 := 21) (x := l2) dX3_positionOf_20 rfl rfl rfl ?_
          exact G.ireturn hR (rfl) dX3_positionOf_21 ⟨congrArg some (by rw [hv]; simp only [lvX3_positionOf_2, if_pos c_7, if_pos c_17]), rfl⟩
  refine G.iconst (pc2 := 1) (v := 0) dX3_positionOf_0 (by decide) rfl ?_
  refine G.istore_n (pc2 := 2) (lv2 := [(0, .ref o), (1, .int p0), (2, .int 0)]) [1, 2, 0] dX3_positionOf_1 rfl (by decide) rfl rfl ?_
  exact loop2 9 0 (QI.start hq) (rfl)
set_option maxRecDepth 100000 in
set_option maxHeartbeats 4000000 in
theorem c_X1_place {cI cZ : ClassId} (o r c v p : Nat) (u : SF) (p0 p1 : Int32) (h0 : Pg p0) : Ct yX1_place wsX1_place rX1_place cI cZ [.ref o, .int p0, .int p1] (wF o r c v p cI cZ u) 0 0 (rt (none) (wF o r c v p cI cZ (sX1_place u p0 p1))) := by
  refine Ct.of (cc := cX1_place) (nL := 3) (own := RX1) (by decide) rfl rfl (Nat.le_of_ble_eq_true rfl) rfl ?_
  intro K hR hN
  refine G.aload_n (pc2 := 1) (x := o) dX1_place_0 rfl rfl rfl ?_
  refine G.getf (pc2 := 4) (q0 := 0) (ci := 1) (k := 0) (v := .ref r) iX1_place_X1 kX1_place_9 rfl rfl (by decide) rfl dX1_place_1 rfl ?_
  refine G.iload_n (pc2 := 5) (x := p0) dX1_place_4 rfl rfl rfl ?_
  refine G.iconst (pc2 := 6) (v := 1) dX1_place_5 (by decide) rfl ?_
  refine G.zast (y := 1) (pc2 := 7) (q0 := 1) (j := ix p0) (ws2 := wF o r c v p cI cZ (upd u.1 (ix p0) 1, u.2.1, u.2.2.1, u.2.2.2.1, u.2.2.2.2.1, u.2.2.2.2.2)) rfl (h0) rfl rfl dX1_place_6 rfl ?_
  refine G.aload_n (pc2 := 8) (x := o) dX1_place_7 rfl rfl rfl ?_
  refine G.getf (pc2 := 11) (q0 := 0) (ci := 1) (k := 2) (v := .ref v) iX1_place_X1 kX1_place_18 rfl rfl (by decide) rfl dX1_place_8 rfl ?_
  refine G.iload_n (pc2 := 12) (x := p0) dX1_place_11 rfl rfl rfl ?_
  refine G.iload_n (pc2 := 13) (x := p1) dX1_place_12 rfl rfl rfl ?_
  refine G.iast (pc2 := 14) (q0 := 3) (j := ix p0) (ws2 := wF o r c v p cI cZ (upd u.1 (ix p0) 1, u.2.1, upd u.2.2.1 (ix p0) p1, u.2.2.2.1, u.2.2.2.2.1, u.2.2.2.2.2)) rfl (h0) rfl dX1_place_13 rfl ?_
  refine G.aload_n (pc2 := 15) (x := o) dX1_place_14 rfl rfl rfl ?_
  refine G.dup (pc2 := 16) dX1_place_15 rfl rfl ?_
  refine G.getf (pc2 := 19) (q0 := 0) (ci := 1) (k := 5) (v := .int u.2.2.2.2.2) iX1_place_X1 kX1_place_29 rfl rfl (by decide) rfl dX1_place_16 rfl ?_
  refine G.iconst (pc2 := 20) (v := 1) dX1_place_19 (by decide) rfl ?_
  refine G.iadd (pc2 := 21) (v := u.2.2.2.2.2 + 1) dX1_place_20 rfl rfl ?_
  refine G.putf (pc2 := 24) (q0 := 0) (ci := 1) (k := 5) (ws2 := wF o r c v p cI cZ (upd u.1 (ix p0) 1, u.2.1, upd u.2.2.1 (ix p0) p1, u.2.2.2.1, u.2.2.2.2.1, u.2.2.2.2.2 + 1)) iX1_place_X1 kX1_place_29 tyX1_ok nmX1 rfl rfl (by decide) rfl rfl rfl (Nat.le_of_ble_eq_true rfl) rfl dX1_place_21 rfl ?_
  exact G.vreturn hR dX1_place_24 ⟨rfl, congrArg (wF o r c v p cI cZ) (rfl)⟩
set_option maxRecDepth 100000 in
set_option maxHeartbeats 4000000 in
theorem c_X1_change {cI cZ : ClassId} (o r c v p : Nat) (u : SF) (p0 p1 : Int32) (h0 : Pg p0) : Ct yX1_change wsX1_change rX1_change cI cZ [.ref o, .int p0, .int p1] (wF o r c v p cI cZ u) 0 0 (rt (none) (wF o r c v p cI cZ (sX1_change u p0 p1))) := by
  refine Ct.of (cc := cX1_change) (nL := 3) (own := RX1) (by decide) rfl rfl (Nat.le_of_ble_eq_true rfl) rfl ?_
  intro K hR hN
  refine G.aload_n (pc2 := 1) (x := o) dX1_change_0 rfl rfl rfl ?_
  refine G.getf (pc2 := 4) (q0 := 0) (ci := 1) (k := 2) (v := .ref v) iX1_change_X1 kX1_change_18 rfl rfl (by decide) rfl dX1_change_1 rfl ?_
  refine G.iload_n (pc2 := 5) (x := p0) dX1_change_4 rfl rfl rfl ?_
  refine G.iload_n (pc2 := 6) (x := p1) dX1_change_5 rfl rfl rfl ?_
  refine G.iast (pc2 := 7) (q0 := 3) (j := ix p0) (ws2 := wF o r c v p cI cZ (u.1, u.2.1, upd u.2.2.1 (ix p0) p1, u.2.2.2.1, u.2.2.2.2.1, u.2.2.2.2.2)) rfl (h0) rfl dX1_change_6 rfl ?_
  refine G.aload_n (pc2 := 8) (x := o) dX1_change_7 rfl rfl rfl ?_
  refine G.getf (pc2 := 11) (q0 := 0) (ci := 1) (k := 1) (v := .ref c) iX1_change_X1 kX1_change_15 rfl rfl (by decide) rfl dX1_change_8 rfl ?_
  refine G.iload_n (pc2 := 12) (x := p0) dX1_change_11 rfl rfl rfl ?_
  refine G.iconst (pc2 := 13) (v := 1) dX1_change_12 (by decide) rfl ?_
  refine G.zast (y := 1) (pc2 := 14) (q0 := 2) (j := ix p0) (ws2 := wF o r c v p cI cZ (u.1, upd u.2.1 (ix p0) 1, upd u.2.2.1 (ix p0) p1, u.2.2.2.1, u.2.2.2.2.1, u.2.2.2.2.2)) rfl (h0) rfl rfl dX1_change_13 rfl ?_
  exact G.vreturn hR dX1_change_14 ⟨rfl, congrArg (wF o r c v p cI cZ) (rfl)⟩
set_option maxRecDepth 100000 in
set_option maxHeartbeats 4000000 in
theorem c_X0_load {cI cZ : ClassId} (o a : Nat) (u : SD) (p0 : Int32) (h0 : Pg p0) : Ct yX0_load wsX0_load rX0_load cI cZ [.ref o, .int p0] (wD o a cI u) 0 0 (rt (some (vX0_load u p0)) (wD o a cI (sX0_load u p0))) := by
  refine Ct.of (cc := cX0_load) (nL := 2) (own := RX0) (by decide) rfl rfl (Nat.le_of_ble_eq_true rfl) rfl ?_
  intro K hR hN
  refine G.aload_n (pc2 := 1) (x := o) dX0_load_0 rfl rfl rfl ?_
  refine G.dup (pc2 := 2) dX0_load_1 rfl rfl ?_
  refine G.getf (pc2 := 5) (q0 := 0) (ci := 0) (k := 1) (v := .int u.2.1) iX0_load_X0 kX0_load_21 rfl rfl (by decide) rfl dX0_load_2 rfl ?_
  refine G.iconst (pc2 := 6) (v := 1) dX0_load_5 (by decide) rfl ?_
  refine G.iadd (pc2 := 7) (v := u.2.1 + 1) dX0_load_6 rfl rfl ?_
  refine G.putf (pc2 := 10) (q0 := 0) (ci := 0) (k := 1) (ws2 := wD o a cI (u.1, u.2.1 + 1, u.2.2)) iX0_load_X0 kX0_load_21 tyX0_ok nmX0 rfl rfl (by decide) rfl rfl rfl (Nat.le_of_ble_eq_true rfl) rfl dX0_load_7 rfl ?_
  refine G.aload_n (pc2 := 11) (x := o) dX0_load_10 rfl rfl rfl ?_
  refine G.getf (pc2 := 14) (q0 := 0) (ci := 0) (k := 0) (v := .ref a) iX0_load_X0 kX0_load_9 rfl rfl (by decide) rfl dX0_load_11 rfl ?_
  refine G.iload_n (pc2 := 15) (x := p0) dX0_load_14 rfl rfl rfl ?_
  refine G.iald (pc2 := 16) (q0 := 1) (j := ix p0) (v := u.1 (ix p0)) rfl (h0) rfl dX0_load_15 rfl ?_
  exact G.ireturn hR (rfl) dX0_load_16 ⟨congrArg some (rfl), congrArg (wD o a cI) (rfl)⟩
set_option maxRecDepth 100000 in
set_option maxHeartbeats 4000000 in
theorem c_X2_forget {cI cZ : ClassId} (o t b : Nat) (u : SH) (p0 : Int32) (h0 : Pg p0) : Ct yX2_forget wsX2_forget rX2_forget cI cZ [.ref o, .int p0] (wH o t b cI u) 0 0 (rt (none) (wH o t b cI (sX2_forget u p0))) := by
  refine Ct.of (cc := cX2_forget) (nL := 2) (own := RX2) (by decide) rfl rfl (Nat.le_of_ble_eq_true rfl) rfl ?_
  intro K hR hN
  refine G.aload_n (pc2 := 1) (x := o) dX2_forget_0 rfl rfl rfl ?_
  refine G.getf (pc2 := 4) (q0 := 0) (ci := 2) (k := 1) (v := .ref b) iX2_forget_X2 kX2_forget_15 rfl rfl (by decide) rfl dX2_forget_1 rfl ?_
  refine G.iload_n (pc2 := 5) (x := p0) dX2_forget_4 rfl rfl rfl ?_
  refine G.iconst (pc2 := 6) (v := 0) dX2_forget_5 (by decide) rfl ?_
  refine G.iast (pc2 := 7) (q0 := 2) (j := ix p0) (ws2 := wH o t b cI (u.1, upd u.2.1 (ix p0) 0, u.2.2)) rfl (h0) rfl dX2_forget_6 rfl ?_
  exact G.vreturn hR dX2_forget_7 ⟨rfl, congrArg (wH o t b cI) (rfl)⟩
set_option maxRecDepth 100000 in
set_option maxHeartbeats 4000000 in
theorem c_X2_record {cI cZ : ClassId} (o t b : Nat) (u : SH) (p0 p1 : Int32) (h0 : Pg p0) : Ct yX2_record wsX2_record rX2_record cI cZ [.ref o, .int p0, .int p1] (wH o t b cI u) 0 0 (rt (none) (wH o t b cI (sX2_record u p0 p1))) := by
  refine Ct.of (cc := cX2_record) (nL := 5) (own := RX2) (by decide) rfl rfl (Nat.le_of_ble_eq_true rfl) rfl ?_
  intro K hR hN
  have loop11 : ∀ (n : Nat) (w : SH) (l4 : Int32), RI n p0 l4 → sX2_record u p0 p1 = lsX2_record_11 p0 p1 n w l4 → G K cI cZ cX2_record 5 RX2 wsX2_record rX2_record 0 0 (wH o t b cI w) 11 [(0, .ref o), (1, .int p0), (2, .int p1), (3, .int (p0 * 3)), (4, .int l4)] [] := by
    intro n
    induction n with
    | zero =>
      intro w l4 hi hs
      exact absurd hi (RI.zero)
    | succ n ih =>
      intro w l4 hi hs
      refine G.iload (pc2 := 13) (x := l4) dX2_record_11 rfl rfl ?_
      refine G.iload_n (pc2 := 14) (x := p0 * 3) dX2_record_13 rfl rfl rfl ?_
      refine G.icmp_le (pc2 := 17) (tgt := 39) dX2_record_14 rfl rfl (fun c_14 => ?_) (fun c_14 => ?_)
      · refine G.aload_n (pc2 := 40) (x := o) dX2_record_39 rfl rfl rfl ?_
        refine G.getf (pc2 := 43) (q0 := 0) (ci := 2) (k := 0) (v := .ref t) iX2_record_X2 kX2_record_9 rfl rfl (by decide) rfl dX2_record_40 rfl ?_
        refine G.iload_n (pc2 := 44) (x := p0 * 3) dX2_record_43 rfl rfl rfl ?_
        refine G.iload_n (pc2 := 45) (x := p1) dX2_record_44 rfl rfl rfl ?_
        refine G.iast (pc2 := 46) (q0 := 1) (j := ix (p0 * 3)) (ws2 := wH o t b cI (upd w.1 (ix (p0 * 3)) p1, w.2.1, w.2.2)) rfl (recIx0 h0) rfl dX2_record_45 rfl ?_
        refine G.aload_n (pc2 := 47) (x := o) dX2_record_46 rfl rfl rfl ?_
        refine G.getf (pc2 := 50) (q0 := 0) (ci := 2) (k := 1) (v := .ref b) iX2_record_X2 kX2_record_15 rfl rfl (by decide) rfl dX2_record_47 rfl ?_
        refine G.iload_n (pc2 := 51) (x := p0) dX2_record_50 rfl rfl rfl ?_
        refine G.iald (pc2 := 52) (q0 := 2) (j := ix p0) (v := w.2.1 (ix p0)) rfl (h0) rfl dX2_record_51 rfl ?_
        refine G.aload_n (pc2 := 53) (x := o) dX2_record_52 rfl rfl rfl ?_
        refine G.getf (pc2 := 56) (q0 := 0) (ci := 2) (k := 2) (v := .int w.2.2) iX2_record_X2 kX2_record_24 rfl rfl (by decide) rfl dX2_record_53 rfl ?_
        refine G.icmp_ge (pc2 := 59) (tgt := 69) dX2_record_56 rfl rfl (fun c_56 => ?_) (fun c_56 => ?_)
        · exact G.vreturn hR dX2_record_69 ⟨rfl, congrArg (wH o t b cI) (by rw [hs]; simp only [lsX2_record_11, if_neg c_14, if_neg c_56])⟩
        · refine G.aload_n (pc2 := 60) (x := o) dX2_record_59 rfl rfl rfl ?_
          refine G.getf (pc2 := 63) (q0 := 0) (ci := 2) (k := 1) (v := .ref b) iX2_record_X2 kX2_record_15 rfl rfl (by decide) rfl dX2_record_60 rfl ?_
          refine G.iload_n (pc2 := 64) (x := p0) dX2_record_63 rfl rfl rfl ?_
          refine G.dup2 (pc2 := 65) dX2_record_64 rfl rfl rfl ?_
          refine G.iald (pc2 := 66) (q0 := 2) (j := ix p0) (v := w.2.1 (ix p0)) rfl (h0) rfl dX2_record_65 rfl ?_
          refine G.iconst (pc2 := 67) (v := 1) dX2_record_66 (by decide) rfl ?_
          refine G.iadd (pc2 := 68) (v := (w.2.1 (ix p0)) + 1) dX2_record_67 rfl rfl ?_
          refine G.iast (pc2 := 69) (q0 := 2) (j := ix p0) (ws2 := wH o t b cI (upd w.1 (ix (p0 * 3)) p1, upd w.2.1 (ix p0) ((w.2.1 (ix p0)) + 1), w.2.2)) rfl (h0) rfl dX2_record_68 rfl ?_
          exact G.vreturn hR dX2_record_69 ⟨rfl, congrArg (wH o t b cI) (by rw [hs]; simp only [lsX2_record_11, if_neg c_14, if_pos c_56])⟩
      · refine G.aload_n (pc2 := 18) (x := o) dX2_record_17 rfl rfl rfl ?_
        refine G.getf (pc2 := 21) (q0 := 0) (ci := 2) (k := 0) (v := .ref t) iX2_record_X2 kX2_record_9 rfl rfl (by decide) rfl dX2_record_18 rfl ?_
        refine G.iload (pc2 := 23) (x := l4) dX2_record_21 rfl rfl ?_
        refine G.aload_n (pc2 := 24) (x := o) dX2_record_23 rfl rfl rfl ?_
        refine G.getf (pc2 := 27) (q0 := 0) (ci := 2) (k := 0) (v := .ref t) iX2_record_X2 kX2_record_9 rfl rfl (by decide) rfl dX2_record_24 rfl ?_
        refine G.iload (pc2 := 29) (x := l4) dX2_record_27 rfl rfl ?_
        refine G.iconst (pc2 := 30) (v := 1) dX2_record_29 (by decide) rfl ?_
        refine G.isub (pc2 := 31) (v := l4 - 1) dX2_record_30 rfl rfl ?_
        refine G.iald (pc2 := 32) (q0 := 1) (j := ix (l4 - 1)) (v := w.1 (ix (l4 - 1))) rfl (RI.inx1 h0 hi c_14) rfl dX2_record_31 rfl ?_
        refine G.iast (pc2 := 33) (q0 := 1) (j := ix l4) (ws2 := wH o t b cI (upd w.1 (ix l4) (w.1 (ix (l4 - 1))), w.2.1, w.2.2)) rfl (RI.inx h0 hi) rfl dX2_record_32 rfl ?_
        refine G.iinc (pc2 := 36) (k := 4) (v := l4 + (-1)) (lv2 := [(0, .ref o), (1, .int p0), (2, .int p1), (3, .int (p0 * 3)), (4, .int (l4 + (-1)))]) [1, 2, 3, 4, 0] dX2_record_33 rfl rfl (by decide) rfl rfl ?_
        refine G.goto (tgt := 11) dX2_record_36 rfl ?_
        exact ih  (upd w.1 (ix l4) (w.1 (ix (l4 - 1))), w.2.1, w.2.2) (l4 + (-1)) (RI.next hi c_14) (by rw [hs]; simp only [lsX2_record_11, if_pos c_14])
  refine G.iload_n (pc2 := 1) (x := p0) dX2_record_0 rfl rfl rfl ?_
  refine G.iconst (pc2 := 2) (v := 3) dX2_record_1 (by decide) rfl ?_
  refine G.imul (pc2 := 3) (v := p0 * 3) dX2_record_2 rfl rfl ?_
  refine G.istore_n (pc2 := 4) (lv2 := [(0, .ref o), (1, .int p0), (2, .int p1), (3, .int (p0 * 3))]) [1, 2, 3, 0] dX2_record_3 rfl (by decide) rfl rfl ?_
  refine G.iload_n (pc2 := 5) (x := p0 * 3) dX2_record_4 rfl rfl rfl ?_
  refine G.iconst (pc2 := 6) (v := 3) dX2_record_5 (by decide) rfl ?_
  refine G.iadd (pc2 := 7) (v := (p0 * 3) + 3) dX2_record_6 rfl rfl ?_
  refine G.iconst (pc2 := 8) (v := 1) dX2_record_7 (by decide) rfl ?_
  refine G.isub (pc2 := 9) (v := ((p0 * 3) + 3) - 1) dX2_record_8 rfl rfl ?_
  refine G.istore (pc2 := 11) (lv2 := [(0, .ref o), (1, .int p0), (2, .int p1), (3, .int (p0 * 3)), (4, .int (((p0 * 3) + 3) - 1))]) [1, 2, 3, 4, 0] dX2_record_9 (by decide) rfl rfl ?_
  exact loop11 3 u (((p0 * 3) + 3) - 1) (RI.start h0) (rfl)
set_option maxRecDepth 100000 in
set_option maxHeartbeats 4000000 in
theorem c_X1_addPin {cI cZ : ClassId} (o r c v p : Nat) (u : SF) (p0 : Int32) (h0 : Pg p0) : Ct yX1_addPin wsX1_addPin rX1_addPin cI cZ [.ref o, .int p0] (wF o r c v p cI cZ u) 0 0 (rt (none) (wF o r c v p cI cZ (sX1_addPin u p0))) := by
  refine Ct.of (cc := cX1_addPin) (nL := 2) (own := RX1) (by decide) rfl rfl (Nat.le_of_ble_eq_true rfl) rfl ?_
  intro K hR hN
  refine G.aload_n (pc2 := 1) (x := o) dX1_addPin_0 rfl rfl rfl ?_
  refine G.getf (pc2 := 4) (q0 := 0) (ci := 1) (k := 3) (v := .ref p) iX1_addPin_X1 kX1_addPin_22 rfl rfl (by decide) rfl dX1_addPin_1 rfl ?_
  refine G.iload_n (pc2 := 5) (x := p0) dX1_addPin_4 rfl rfl rfl ?_
  refine G.dup2 (pc2 := 6) dX1_addPin_5 rfl rfl rfl ?_
  refine G.iald (pc2 := 7) (q0 := 4) (j := ix p0) (v := u.2.2.2.1 (ix p0)) rfl (h0) rfl dX1_addPin_6 rfl ?_
  refine G.iconst (pc2 := 8) (v := 1) dX1_addPin_7 (by decide) rfl ?_
  refine G.iadd (pc2 := 9) (v := (u.2.2.2.1 (ix p0)) + 1) dX1_addPin_8 rfl rfl ?_
  refine G.iast (pc2 := 10) (q0 := 4) (j := ix p0) (ws2 := wF o r c v p cI cZ (u.1, u.2.1, u.2.2.1, upd u.2.2.2.1 (ix p0) ((u.2.2.2.1 (ix p0)) + 1), u.2.2.2.2.1, u.2.2.2.2.2)) rfl (h0) rfl dX1_addPin_9 rfl ?_
  exact G.vreturn hR dX1_addPin_10 ⟨rfl, congrArg (wF o r c v p cI cZ) (rfl)⟩
set_option maxRecDepth 100000 in
set_option maxHeartbeats 4000000 in
theorem c_X1_removePin {cI cZ : ClassId} (o r c v p : Nat) (u : SF) (p0 : Int32) (h0 : Pg p0) : Ct yX1_removePin wsX1_removePin rX1_removePin cI cZ [.ref o, .int p0] (wF o r c v p cI cZ u) 0 0 (rt (none) (wF o r c v p cI cZ (sX1_removePin u p0))) := by
  refine Ct.of (cc := cX1_removePin) (nL := 2) (own := RX1) (by decide) rfl rfl (Nat.le_of_ble_eq_true rfl) rfl ?_
  intro K hR hN
  refine G.aload_n (pc2 := 1) (x := o) dX1_removePin_0 rfl rfl rfl ?_
  refine G.getf (pc2 := 4) (q0 := 0) (ci := 1) (k := 3) (v := .ref p) iX1_removePin_X1 kX1_removePin_22 rfl rfl (by decide) rfl dX1_removePin_1 rfl ?_
  refine G.iload_n (pc2 := 5) (x := p0) dX1_removePin_4 rfl rfl rfl ?_
  refine G.dup2 (pc2 := 6) dX1_removePin_5 rfl rfl rfl ?_
  refine G.iald (pc2 := 7) (q0 := 4) (j := ix p0) (v := u.2.2.2.1 (ix p0)) rfl (h0) rfl dX1_removePin_6 rfl ?_
  refine G.iconst (pc2 := 8) (v := 1) dX1_removePin_7 (by decide) rfl ?_
  refine G.isub (pc2 := 9) (v := (u.2.2.2.1 (ix p0)) - 1) dX1_removePin_8 rfl rfl ?_
  refine G.iast (pc2 := 10) (q0 := 4) (j := ix p0) (ws2 := wF o r c v p cI cZ (u.1, u.2.1, u.2.2.1, upd u.2.2.2.1 (ix p0) ((u.2.2.2.1 (ix p0)) - 1), u.2.2.2.2.1, u.2.2.2.2.2)) rfl (h0) rfl dX1_removePin_9 rfl ?_
  exact G.vreturn hR dX1_removePin_10 ⟨rfl, congrArg (wF o r c v p cI cZ) (rfl)⟩
set_option maxRecDepth 100000 in
set_option maxHeartbeats 4000000 in
theorem c_X1_markClean {cI cZ : ClassId} (o r c v p : Nat) (u : SF) (p0 : Int32) (h0 : Pg p0) : Ct yX1_markClean wsX1_markClean rX1_markClean cI cZ [.ref o, .int p0] (wF o r c v p cI cZ u) 0 0 (rt (none) (wF o r c v p cI cZ (sX1_markClean u p0))) := by
  refine Ct.of (cc := cX1_markClean) (nL := 2) (own := RX1) (by decide) rfl rfl (Nat.le_of_ble_eq_true rfl) rfl ?_
  intro K hR hN
  refine G.aload_n (pc2 := 1) (x := o) dX1_markClean_0 rfl rfl rfl ?_
  refine G.getf (pc2 := 4) (q0 := 0) (ci := 1) (k := 1) (v := .ref c) iX1_markClean_X1 kX1_markClean_15 rfl rfl (by decide) rfl dX1_markClean_1 rfl ?_
  refine G.iload_n (pc2 := 5) (x := p0) dX1_markClean_4 rfl rfl rfl ?_
  refine G.iconst (pc2 := 6) (v := 0) dX1_markClean_5 (by decide) rfl ?_
  refine G.zast (y := 0) (pc2 := 7) (q0 := 2) (j := ix p0) (ws2 := wF o r c v p cI cZ (u.1, upd u.2.1 (ix p0) 0, u.2.2.1, u.2.2.2.1, u.2.2.2.2.1, u.2.2.2.2.2)) rfl (h0) rfl rfl dX1_markClean_6 rfl ?_
  exact G.vreturn hR dX1_markClean_7 ⟨rfl, congrArg (wF o r c v p cI cZ) (rfl)⟩
set_option maxRecDepth 100000 in
set_option maxHeartbeats 4000000 in
theorem c_X3_length {cI cZ : ClassId} (o g v : Nat) (u : SQ)  : Ct yX3_length wsX3_length rX3_length cI cZ [.ref o] (wQ o g v cI u) 0 0 (rt (some (vX3_length u)) (wQ o g v cI u)) := by
  refine Ct.of (cc := cX3_length) (nL := 1) (own := RX3) (by decide) rfl rfl (Nat.le_of_ble_eq_true rfl) rfl ?_
  intro K hR hN
  refine G.aload_n (pc2 := 1) (x := o) dX3_length_0 rfl rfl rfl ?_
  refine G.getf (pc2 := 4) (q0 := 0) (ci := 3) (k := 3) (v := .int u.2.2.2) iX3_length_X3 kX3_length_18 rfl rfl (by decide) rfl dX3_length_1 rfl ?_
  exact G.ireturn hR (rfl) dX3_length_4 ⟨congrArg some (rfl), rfl⟩
set_option maxRecDepth 100000 in
set_option maxHeartbeats 4000000 in
theorem c_X2_depth {cI cZ : ClassId} (o t b : Nat) (u : SH)  : Ct yX2_depth wsX2_depth rX2_depth cI cZ [.ref o] (wH o t b cI u) 0 0 (rt (some (vX2_depth u)) (wH o t b cI u)) := by
  refine Ct.of (cc := cX2_depth) (nL := 1) (own := RX2) (by decide) rfl rfl (Nat.le_of_ble_eq_true rfl) rfl ?_
  intro K hR hN
  refine G.aload_n (pc2 := 1) (x := o) dX2_depth_0 rfl rfl rfl ?_
  refine G.getf (pc2 := 4) (q0 := 0) (ci := 2) (k := 2) (v := .int u.2.2) iX2_depth_X2 kX2_depth_24 rfl rfl (by decide) rfl dX2_depth_1 rfl ?_
  exact G.ireturn hR (rfl) dX2_depth_4 ⟨congrArg some (rfl), rfl⟩
set_option maxRecDepth 100000 in
set_option maxHeartbeats 4000000 in
theorem c_X0_valueOf {cI cZ : ClassId} (o a : Nat) (u : SD) (p0 : Int32) (h0 : Pg p0) : Ct yX0_valueOf wsX0_valueOf rX0_valueOf cI cZ [.ref o, .int p0] (wD o a cI u) 0 0 (rt (some (vX0_valueOf u p0)) (wD o a cI u)) := by
  refine Ct.of (cc := cX0_valueOf) (nL := 2) (own := RX0) (by decide) rfl rfl (Nat.le_of_ble_eq_true rfl) rfl ?_
  intro K hR hN
  refine G.aload_n (pc2 := 1) (x := o) dX0_valueOf_0 rfl rfl rfl ?_
  refine G.getf (pc2 := 4) (q0 := 0) (ci := 0) (k := 0) (v := .ref a) iX0_valueOf_X0 kX0_valueOf_9 rfl rfl (by decide) rfl dX0_valueOf_1 rfl ?_
  refine G.iload_n (pc2 := 5) (x := p0) dX0_valueOf_4 rfl rfl rfl ?_
  refine G.iald (pc2 := 6) (q0 := 1) (j := ix p0) (v := u.1 (ix p0)) rfl (h0) rfl dX0_valueOf_5 rfl ?_
  exact G.ireturn hR (rfl) dX0_valueOf_6 ⟨congrArg some (rfl), rfl⟩
set_option maxRecDepth 100000 in
set_option maxHeartbeats 4000000 in
theorem c_X1_used {cI cZ : ClassId} (o r c v p : Nat) (u : SF)  : Ct yX1_used wsX1_used rX1_used cI cZ [.ref o] (wF o r c v p cI cZ u) 0 0 (rt (some (vX1_used u)) (wF o r c v p cI cZ u)) := by
  refine Ct.of (cc := cX1_used) (nL := 1) (own := RX1) (by decide) rfl rfl (Nat.le_of_ble_eq_true rfl) rfl ?_
  intro K hR hN
  refine G.aload_n (pc2 := 1) (x := o) dX1_used_0 rfl rfl rfl ?_
  refine G.getf (pc2 := 4) (q0 := 0) (ci := 1) (k := 5) (v := .int u.2.2.2.2.2) iX1_used_X1 kX1_used_29 rfl rfl (by decide) rfl dX1_used_1 rfl ?_
  exact G.ireturn hR (rfl) dX1_used_4 ⟨congrArg some (rfl), rfl⟩
set_option maxRecDepth 100000 in
set_option maxHeartbeats 4000000 in
theorem c_X1_pageAt {cI cZ : ClassId} (o r c v p : Nat) (u : SF) (p0 : Int32)  : Ct yX1_pageAt wsX1_pageAt rX1_pageAt cI cZ [.ref o, .int p0] (wF o r c v p cI cZ u) 0 0 (rt (some (vX1_pageAt u p0)) (wF o r c v p cI cZ u)) := by
  refine Ct.of (cc := cX1_pageAt) (nL := 4) (own := RX1) (by decide) rfl rfl (Nat.le_of_ble_eq_true rfl) rfl ?_
  intro K hR hN
  have loop4 : ∀ (n : Nat) (l2 l3 : Int32), PI n l3 → vX1_pageAt u p0 = lvX1_pageAt_4 u p0 n l2 l3 → G K cI cZ cX1_pageAt 4 RX1 wsX1_pageAt rX1_pageAt 0 0 (wF o r c v p cI cZ u) 4 [(0, .ref o), (1, .int p0), (2, .int l2), (3, .int l3)] [] := by
    intro n
    induction n with
    | zero =>
      intro l2 l3 hi hv
      exact absurd hi (PI.zero)
    | succ n ih =>
      intro l2 l3 hi hv
      refine G.iload_n (pc2 := 5) (x := l3) dX1_pageAt_4 rfl rfl rfl ?_
      refine G.bipush (pc2 := 7) (v := 64) dX1_pageAt_5 (by decide) rfl ?_
      refine G.icmp_ge (pc2 := 10) (tgt := 35) dX1_pageAt_7 rfl rfl (fun c_7 => ?_) (fun c_7 => ?_)
      · refine G.bipush (pc2 := 37) (v := (-9)) dX1_pageAt_35 (by decide) rfl ?_
        exact G.ireturn hR (rfl) dX1_pageAt_37 ⟨congrArg some (by rw [hv]; simp only [lvX1_pageAt_4, if_neg c_7]), rfl⟩
      · refine G.aload_n (pc2 := 11) (x := o) dX1_pageAt_10 rfl rfl rfl ?_
        refine G.getf (pc2 := 14) (q0 := 0) (ci := 1) (k := 0) (v := .ref r) iX1_pageAt_X1 kX1_pageAt_9 rfl rfl (by decide) rfl dX1_pageAt_11 rfl ?_
        refine G.iload_n (pc2 := 15) (x := l3) dX1_pageAt_14 rfl rfl rfl ?_
        refine G.zald (pc2 := 16) (q0 := 1) (j := ix l3) (v := u.1 (ix l3)) rfl (PI.pg hi c_7) rfl dX1_pageAt_15 rfl ?_
        refine G.if_eq (pc2 := 19) (tgt := 29) dX1_pageAt_16 rfl rfl (fun c_16 => ?_) (fun c_16 => ?_)
        · refine G.iinc (pc2 := 32) (k := 3) (v := l3 + 1) (lv2 := [(0, .ref o), (1, .int p0), (2, .int l2), (3, .int (l3 + 1))]) [1, 2, 3, 0] dX1_pageAt_29 rfl rfl (by decide) rfl rfl ?_
          refine G.goto (tgt := 4) dX1_pageAt_32 rfl ?_
          exact ih  l2 (l3 + 1) (PI.next hi c_7) (by rw [hv]; simp only [lvX1_pageAt_4, if_pos c_7, if_pos c_16])
        · refine G.iload_n (pc2 := 20) (x := l2) dX1_pageAt_19 rfl rfl rfl ?_
          refine G.iload_n (pc2 := 21) (x := p0) dX1_pageAt_20 rfl rfl rfl ?_
          refine G.icmp_ne (pc2 := 24) (tgt := 26) dX1_pageAt_21 rfl rfl (fun c_21 => ?_) (fun c_21 => ?_)
          · refine G.iinc (pc2 := 29) (k := 2) (v := l2 + 1) (lv2 := [(0, .ref o), (1, .int p0), (2, .int (l2 + 1)), (3, .int l3)]) [1, 2, 0, 3] dX1_pageAt_26 rfl rfl (by decide) rfl rfl ?_
            refine G.iinc (pc2 := 32) (k := 3) (v := l3 + 1) (lv2 := [(0, .ref o), (1, .int p0), (2, .int (l2 + 1)), (3, .int (l3 + 1))]) [1, 2, 3, 0] dX1_pageAt_29 rfl rfl (by decide) rfl rfl ?_
            refine G.goto (tgt := 4) dX1_pageAt_32 rfl ?_
            exact ih  (l2 + 1) (l3 + 1) (PI.next hi c_7) (by rw [hv]; simp only [lvX1_pageAt_4, if_pos c_7, if_neg c_16, if_neg c_21])
          · refine G.iload_n (pc2 := 25) (x := l3) dX1_pageAt_24 rfl rfl rfl ?_
            exact G.ireturn hR (rfl) dX1_pageAt_25 ⟨congrArg some (by rw [hv]; simp only [lvX1_pageAt_4, if_pos c_7, if_neg c_16, if_pos c_21]), rfl⟩
  refine G.iconst (pc2 := 1) (v := 0) dX1_pageAt_0 (by decide) rfl ?_
  refine G.istore_n (pc2 := 2) (lv2 := [(0, .ref o), (1, .int p0), (2, .int 0)]) [1, 2, 0] dX1_pageAt_1 rfl (by decide) rfl rfl ?_
  refine G.iconst (pc2 := 3) (v := 0) dX1_pageAt_2 (by decide) rfl ?_
  refine G.istore_n (pc2 := 4) (lv2 := [(0, .ref o), (1, .int p0), (2, .int 0), (3, .int 0)]) [1, 2, 3, 0] dX1_pageAt_3 rfl (by decide) rfl rfl ?_
  exact loop4 65 0 0 (PI.start) (rfl)
set_option maxRecDepth 100000 in
set_option maxHeartbeats 4000000 in
theorem c_X0_loads {cI cZ : ClassId} (o a : Nat) (u : SD)  : Ct yX0_loads wsX0_loads rX0_loads cI cZ [.ref o] (wD o a cI u) 0 0 (rt (some (vX0_loads u)) (wD o a cI u)) := by
  refine Ct.of (cc := cX0_loads) (nL := 1) (own := RX0) (by decide) rfl rfl (Nat.le_of_ble_eq_true rfl) rfl ?_
  intro K hR hN
  refine G.aload_n (pc2 := 1) (x := o) dX0_loads_0 rfl rfl rfl ?_
  refine G.getf (pc2 := 4) (q0 := 0) (ci := 0) (k := 1) (v := .int u.2.1) iX0_loads_X0 kX0_loads_21 rfl rfl (by decide) rfl dX0_loads_1 rfl ?_
  exact G.ireturn hR (rfl) dX0_loads_4 ⟨congrArg some (rfl), rfl⟩
set_option maxRecDepth 100000 in
set_option maxHeartbeats 4000000 in
theorem c_X0_stores {cI cZ : ClassId} (o a : Nat) (u : SD)  : Ct yX0_stores wsX0_stores rX0_stores cI cZ [.ref o] (wD o a cI u) 0 0 (rt (some (vX0_stores u)) (wD o a cI u)) := by
  refine Ct.of (cc := cX0_stores) (nL := 1) (own := RX0) (by decide) rfl rfl (Nat.le_of_ble_eq_true rfl) rfl ?_
  intro K hR hN
  refine G.aload_n (pc2 := 1) (x := o) dX0_stores_0 rfl rfl rfl ?_
  refine G.getf (pc2 := 4) (q0 := 0) (ci := 0) (k := 2) (v := .int u.2.2) iX0_stores_X0 kX0_stores_25 rfl rfl (by decide) rfl dX0_stores_1 rfl ?_
  exact G.ireturn hR (rfl) dX0_stores_4 ⟨congrArg some (rfl), rfl⟩
end
section
set_option maxRecDepth 100000 in
set_option maxHeartbeats 4000000 in
theorem c_X4_startAnew {cI cZ : ClassId} (a : Nat → Nat) (u : SX) (p0 p1 p2 p3 : Int32)  : Ct yX4_startAnew wsX4_startAnew rX4_startAnew cI cZ [.ref (a 0), .int p0, .int p1, .int p2, .int p3] (wX a cI cZ u) 0 0 (rt (none) (wX a cI cZ (sX4_startAnew u p0 p1 p2 p3))) := by
  refine Ct.of (cc := cX4_startAnew) (nL := 5) (own := RX4) (by decide) rfl rfl (Nat.le_of_ble_eq_true rfl) rfl ?_
  intro K hR hN
  refine G.aload_n (pc2 := 1) (x := a 0) dX4_startAnew_0 rfl rfl rfl ?_
  refine G.getf (pc2 := 4) (q0 := 0) (ci := 4) (k := 0) (v := .ref (a 1)) iX4_startAnew_X4 kX4_startAnew_10 rfl rfl (by decide) rfl dX4_startAnew_1 rfl ?_
  refine G.callVd (pc2 := 7) (i := 1) (j := 3) (q0 := 1) (ci := 0) (As := []) (rest := []) (ws2 := wX a cI cZ ((sX0_erase u.1), u.2.1, u.2.2.1, u.2.2.2.1, u.2.2.2.2)) (st2 := []) (c_X0_erase (cI := cI) (cZ := cZ) (a 1) (a 2) u.1) gX4_startAnew_X0_erase rfl rfl rfl ndX0_erase ⟨Nat.le_of_ble_eq_true rfl, Nat.le_of_ble_eq_true rfl⟩ ⟨Nat.le_of_ble_eq_true rfl, Nat.le_of_ble_eq_true rfl⟩ rfl rfl (Nat.le_of_ble_eq_true rfl) rfl rfl rfl rfl rfl rfl dX4_startAnew_4 rfl ?_
  generalize et_4 : sX0_erase u.1 = t_4
  refine G.aload_n (pc2 := 8) (x := a 0) dX4_startAnew_7 rfl rfl rfl ?_
  refine G.getf (pc2 := 11) (q0 := 0) (ci := 4) (k := 1) (v := .ref (a 3)) iX4_startAnew_X4 kX4_startAnew_19 rfl rfl (by decide) rfl dX4_startAnew_8 rfl ?_
  refine G.iload_n (pc2 := 12) (x := p0) dX4_startAnew_11 rfl rfl rfl ?_
  refine G.callVd (pc2 := 15) (i := 3) (j := 8) (q0 := 3) (ci := 1) (As := [.int p0]) (rest := []) (ws2 := wX a cI cZ (t_4, (sX1_empty u.2.1 p0), u.2.2.1, u.2.2.2.1, u.2.2.2.2)) (st2 := []) (c_X1_empty (cI := cI) (cZ := cZ) (a 3) (a 4) (a 5) (a 6) (a 7) u.2.1 p0) gX4_startAnew_X1_empty rfl rfl rfl ndX1_empty ⟨Nat.le_of_ble_eq_true rfl, Nat.le_of_ble_eq_true rfl⟩ ⟨Nat.le_of_ble_eq_true rfl, Nat.le_of_ble_eq_true rfl⟩ rfl rfl (Nat.le_of_ble_eq_true rfl) rfl rfl rfl rfl rfl rfl dX4_startAnew_12 rfl ?_
  generalize et_12 : sX1_empty u.2.1 p0 = t_12
  refine G.aload_n (pc2 := 16) (x := a 0) dX4_startAnew_15 rfl rfl rfl ?_
  refine G.getf (pc2 := 19) (q0 := 0) (ci := 4) (k := 2) (v := .ref (a 8)) iX4_startAnew_X4 kX4_startAnew_26 rfl rfl (by decide) rfl dX4_startAnew_16 rfl ?_
  refine G.iload_n (pc2 := 20) (x := p2) dX4_startAnew_19 rfl rfl rfl ?_
  refine G.callVd (pc2 := 23) (i := 8) (j := 11) (q0 := 8) (ci := 3) (As := [.int p2]) (rest := []) (ws2 := wX a cI cZ (t_4, t_12, (sX3_empty u.2.2.1 p2), u.2.2.2.1, u.2.2.2.2)) (st2 := []) (c_X3_empty (cI := cI) (cZ := cZ) (a 8) (a 9) (a 10) u.2.2.1 p2) gX4_startAnew_X3_empty rfl rfl rfl ndX3_empty ⟨Nat.le_of_ble_eq_true rfl, Nat.le_of_ble_eq_true rfl⟩ ⟨Nat.le_of_ble_eq_true rfl, Nat.le_of_ble_eq_true rfl⟩ rfl rfl (Nat.le_of_ble_eq_true rfl) rfl rfl rfl rfl rfl rfl dX4_startAnew_20 rfl ?_
  generalize et_20 : sX3_empty u.2.2.1 p2 = t_20
  refine G.aload_n (pc2 := 24) (x := a 0) dX4_startAnew_23 rfl rfl rfl ?_
  refine G.getf (pc2 := 27) (q0 := 0) (ci := 4) (k := 3) (v := .ref (a 11)) iX4_startAnew_X4 kX4_startAnew_33 rfl rfl (by decide) rfl dX4_startAnew_24 rfl ?_
  refine G.iload_n (pc2 := 28) (x := p1) dX4_startAnew_27 rfl rfl rfl ?_
  refine G.callVd (pc2 := 31) (i := 11) (j := 14) (q0 := 11) (ci := 2) (As := [.int p1]) (rest := []) (ws2 := wX a cI cZ (t_4, t_12, t_20, (sX2_forgetAll u.2.2.2.1 p1), u.2.2.2.2)) (st2 := []) (c_X2_forgetAll (cI := cI) (cZ := cZ) (a 11) (a 12) (a 13) u.2.2.2.1 p1) gX4_startAnew_X2_forgetAll rfl rfl rfl ndX2_forgetAll ⟨Nat.le_of_ble_eq_true rfl, Nat.le_of_ble_eq_true rfl⟩ ⟨Nat.le_of_ble_eq_true rfl, Nat.le_of_ble_eq_true rfl⟩ rfl rfl (Nat.le_of_ble_eq_true rfl) rfl rfl rfl rfl rfl rfl dX4_startAnew_28 rfl ?_
  generalize et_28 : sX2_forgetAll u.2.2.2.1 p1 = t_28
  refine G.aload_n (pc2 := 32) (x := a 0) dX4_startAnew_31 rfl rfl rfl ?_
  refine G.iload (pc2 := 34) (x := p3) dX4_startAnew_32 rfl rfl ?_
  refine G.putf (pc2 := 37) (q0 := 0) (ci := 4) (k := 4) (ws2 := wX a cI cZ (t_4, t_12, t_20, t_28, (p3, u.2.2.2.2.2.1, u.2.2.2.2.2.2.1, u.2.2.2.2.2.2.2.1, u.2.2.2.2.2.2.2.2.1, u.2.2.2.2.2.2.2.2.2))) iX4_startAnew_X4 kX4_startAnew_157 tyX4_ok nmX4 rfl rfl (by decide) rfl rfl rfl (Nat.le_of_ble_eq_true rfl) rfl dX4_startAnew_34 rfl ?_
  refine G.aload_n (pc2 := 38) (x := a 0) dX4_startAnew_37 rfl rfl rfl ?_
  refine G.iconst (pc2 := 39) (v := 0) dX4_startAnew_38 (by decide) rfl ?_
  refine G.putf (pc2 := 42) (q0 := 0) (ci := 4) (k := 5) (ws2 := wX a cI cZ (t_4, t_12, t_20, t_28, (p3, 0, u.2.2.2.2.2.2.1, u.2.2.2.2.2.2.2.1, u.2.2.2.2.2.2.2.2.1, u.2.2.2.2.2.2.2.2.2))) iX4_startAnew_X4 kX4_startAnew_111 tyX4_ok nmX4 rfl rfl (by decide) rfl rfl rfl (Nat.le_of_ble_eq_true rfl) rfl dX4_startAnew_39 rfl ?_
  refine G.aload_n (pc2 := 43) (x := a 0) dX4_startAnew_42 rfl rfl rfl ?_
  refine G.iconst (pc2 := 44) (v := 0) dX4_startAnew_43 (by decide) rfl ?_
  refine G.putf (pc2 := 47) (q0 := 0) (ci := 4) (k := 6) (ws2 := wX a cI cZ (t_4, t_12, t_20, t_28, (p3, 0, 0, u.2.2.2.2.2.2.2.1, u.2.2.2.2.2.2.2.2.1, u.2.2.2.2.2.2.2.2.2))) iX4_startAnew_X4 kX4_startAnew_129 tyX4_ok nmX4 rfl rfl (by decide) rfl rfl rfl (Nat.le_of_ble_eq_true rfl) rfl dX4_startAnew_44 rfl ?_
  refine G.aload_n (pc2 := 48) (x := a 0) dX4_startAnew_47 rfl rfl rfl ?_
  refine G.iconst (pc2 := 49) (v := 0) dX4_startAnew_48 (by decide) rfl ?_
  refine G.putf (pc2 := 52) (q0 := 0) (ci := 4) (k := 7) (ws2 := wX a cI cZ (t_4, t_12, t_20, t_28, (p3, 0, 0, 0, u.2.2.2.2.2.2.2.2.1, u.2.2.2.2.2.2.2.2.2))) iX4_startAnew_X4 kX4_startAnew_132 tyX4_ok nmX4 rfl rfl (by decide) rfl rfl rfl (Nat.le_of_ble_eq_true rfl) rfl dX4_startAnew_49 rfl ?_
  refine G.aload_n (pc2 := 53) (x := a 0) dX4_startAnew_52 rfl rfl rfl ?_
  refine G.iconst (pc2 := 54) (v := 0) dX4_startAnew_53 (by decide) rfl ?_
  refine G.putf (pc2 := 57) (q0 := 0) (ci := 4) (k := 8) (ws2 := wX a cI cZ (t_4, t_12, t_20, t_28, (p3, 0, 0, 0, 0, u.2.2.2.2.2.2.2.2.2))) iX4_startAnew_X4 kX4_startAnew_135 tyX4_ok nmX4 rfl rfl (by decide) rfl rfl rfl (Nat.le_of_ble_eq_true rfl) rfl dX4_startAnew_54 rfl ?_
  refine G.aload_n (pc2 := 58) (x := a 0) dX4_startAnew_57 rfl rfl rfl ?_
  refine G.iconst (pc2 := 59) (v := 0) dX4_startAnew_58 (by decide) rfl ?_
  refine G.putf (pc2 := 62) (q0 := 0) (ci := 4) (k := 9) (ws2 := wX a cI cZ (t_4, t_12, t_20, t_28, (p3, 0, 0, 0, 0, 0))) iX4_startAnew_X4 kX4_startAnew_144 tyX4_ok nmX4 rfl rfl (by decide) rfl rfl rfl (Nat.le_of_ble_eq_true rfl) rfl dX4_startAnew_59 rfl ?_
  subst et_28 et_20 et_12 et_4
  exact G.vreturn hR dX4_startAnew_62 ⟨rfl, congrArg (wX a cI cZ) (rfl)⟩
set_option maxRecDepth 100000 in
set_option maxHeartbeats 4000000 in
theorem c_X4_isWithin {cI cZ : ClassId}  (p0 p1 p2 : Int32)  : Ct yX4_isWithin wsX4_isWithin rX4_isWithin cI cZ [.int p0, .int p1, .int p2] ([]) 0 0 (rt (some (vX4_isWithin p0 p1 p2)) ([])) := by
  refine Ct.of (cc := cX4_isWithin) (nL := 3) (own := RX4) (by decide) rfl rfl (Nat.le_of_ble_eq_true rfl) rfl ?_
  intro K hR hN
  refine G.iload_n (pc2 := 1) (x := p0) dX4_isWithin_0 rfl rfl rfl ?_
  refine G.iload_n (pc2 := 2) (x := p1) dX4_isWithin_1 rfl rfl rfl ?_
  refine G.icmp_lt (pc2 := 5) (tgt := 14) dX4_isWithin_2 rfl rfl (fun c_2 => ?_) (fun c_2 => ?_)
  · refine G.iconst (pc2 := 15) (v := 0) dX4_isWithin_14 (by decide) rfl ?_
    exact G.ireturn hR (rfl) dX4_isWithin_15 ⟨congrArg some (by simp only [vX4_isWithin, if_pos c_2]), rfl⟩
  · refine G.iload_n (pc2 := 6) (x := p0) dX4_isWithin_5 rfl rfl rfl ?_
    refine G.iload_n (pc2 := 7) (x := p2) dX4_isWithin_6 rfl rfl rfl ?_
    refine G.icmp_gt (pc2 := 10) (tgt := 14) dX4_isWithin_7 rfl rfl (fun c_7 => ?_) (fun c_7 => ?_)
    · refine G.iconst (pc2 := 15) (v := 0) dX4_isWithin_14 (by decide) rfl ?_
      exact G.ireturn hR (rfl) dX4_isWithin_15 ⟨congrArg some (by simp only [vX4_isWithin, if_neg c_2, if_pos c_7]), rfl⟩
    · refine G.iconst (pc2 := 11) (v := 1) dX4_isWithin_10 (by decide) rfl ?_
      refine G.goto (tgt := 15) dX4_isWithin_11 rfl ?_
      exact G.ireturn hR (rfl) dX4_isWithin_15 ⟨congrArg some (by simp only [vX4_isWithin, if_neg c_2, if_neg c_7]), rfl⟩
set_option maxRecDepth 100000 in
set_option maxHeartbeats 4000000 in
theorem c_X4_reset {cI cZ : ClassId} (a : Nat → Nat) (u : SX) (p0 p1 p2 p3 : Int32)  : Ct yX4_reset wsX4_reset rX4_reset cI cZ [.ref (a 0), .int p0, .int p1, .int p2, .int p3] (wX a cI cZ u) 0 0 (rt (some (vX4_reset u p0 p1 p2 p3)) (wX a cI cZ (sX4_reset u p0 p1 p2 p3))) := by
  refine Ct.of (cc := cX4_reset) (nL := 5) (own := RX4) (by decide) rfl rfl (Nat.le_of_ble_eq_true rfl) rfl ?_
  intro K hR hN
  refine G.iload_n (pc2 := 1) (x := p0) dX4_reset_0 rfl rfl rfl ?_
  refine G.iconst (pc2 := 2) (v := 1) dX4_reset_1 (by decide) rfl ?_
  refine G.bipush (pc2 := 4) (v := 16) dX4_reset_2 (by decide) rfl ?_
  refine G.callSd (pc2 := 7) (i := 0) (j := 0) (As := [.int p0, .int 1, .int 16]) (rest := []) (ws2 := wX a cI cZ u) (st2 := [.int (vX4_isWithin p0 1 16)]) (c_X4_isWithin (cI := cI) (cZ := cZ) p0 1 16) gX4_reset_X4_isWithin rfl rfl rfl ndX4_isWithin.2 ⟨Nat.le_of_ble_eq_true rfl, Nat.le_of_ble_eq_true rfl⟩ ⟨Nat.le_of_ble_eq_true rfl, Nat.le_of_ble_eq_true rfl⟩ rfl rfl (Nat.le_of_ble_eq_true rfl) rfl rfl rfl dX4_reset_4 rfl ?_
  generalize ev_4 : vX4_isWithin p0 1 16 = v_4
  refine G.if_eq (pc2 := 10) (tgt := 41) dX4_reset_7 rfl rfl (fun c_7 => ?_) (fun c_7 => ?_)
  · refine G.bipush (pc2 := 43) (v := (-8)) dX4_reset_41 (by decide) rfl ?_
    subst ev_4
    exact G.ireturn hR (rfl) dX4_reset_43 ⟨congrArg some (by simp only [vX4_reset, if_pos c_7]), congrArg (wX a cI cZ) (by simp only [sX4_reset, if_pos c_7])⟩
  · refine G.iload_n (pc2 := 11) (x := p1) dX4_reset_10 rfl rfl rfl ?_
    refine G.iconst (pc2 := 12) (v := 1) dX4_reset_11 (by decide) rfl ?_
    refine G.iconst (pc2 := 13) (v := 3) dX4_reset_12 (by decide) rfl ?_
    refine G.callSd (pc2 := 16) (i := 0) (j := 0) (As := [.int p1, .int 1, .int 3]) (rest := []) (ws2 := wX a cI cZ u) (st2 := [.int (vX4_isWithin p1 1 3)]) (c_X4_isWithin (cI := cI) (cZ := cZ) p1 1 3) gX4_reset_X4_isWithin rfl rfl rfl ndX4_isWithin.2 ⟨Nat.le_of_ble_eq_true rfl, Nat.le_of_ble_eq_true rfl⟩ ⟨Nat.le_of_ble_eq_true rfl, Nat.le_of_ble_eq_true rfl⟩ rfl rfl (Nat.le_of_ble_eq_true rfl) rfl rfl rfl dX4_reset_13 rfl ?_
    generalize ev_13 : vX4_isWithin p1 1 3 = v_13
    refine G.if_eq (pc2 := 19) (tgt := 41) dX4_reset_16 rfl rfl (fun c_16 => ?_) (fun c_16 => ?_)
    · refine G.bipush (pc2 := 43) (v := (-8)) dX4_reset_41 (by decide) rfl ?_
      subst ev_13 ev_4
      exact G.ireturn hR (rfl) dX4_reset_43 ⟨congrArg some (by simp only [vX4_reset, if_neg c_7, if_pos c_16]), congrArg (wX a cI cZ) (by simp only [sX4_reset, if_neg c_7, if_pos c_16])⟩
    · refine G.iload_n (pc2 := 20) (x := p2) dX4_reset_19 rfl rfl rfl ?_
      refine G.iconst (pc2 := 21) (v := 1) dX4_reset_20 (by decide) rfl ?_
      refine G.bipush (pc2 := 23) (v := 8) dX4_reset_21 (by decide) rfl ?_
      refine G.callSd (pc2 := 26) (i := 0) (j := 0) (As := [.int p2, .int 1, .int 8]) (rest := []) (ws2 := wX a cI cZ u) (st2 := [.int (vX4_isWithin p2 1 8)]) (c_X4_isWithin (cI := cI) (cZ := cZ) p2 1 8) gX4_reset_X4_isWithin rfl rfl rfl ndX4_isWithin.2 ⟨Nat.le_of_ble_eq_true rfl, Nat.le_of_ble_eq_true rfl⟩ ⟨Nat.le_of_ble_eq_true rfl, Nat.le_of_ble_eq_true rfl⟩ rfl rfl (Nat.le_of_ble_eq_true rfl) rfl rfl rfl dX4_reset_23 rfl ?_
      generalize ev_23 : vX4_isWithin p2 1 8 = v_23
      refine G.if_eq (pc2 := 29) (tgt := 41) dX4_reset_26 rfl rfl (fun c_26 => ?_) (fun c_26 => ?_)
      · refine G.bipush (pc2 := 43) (v := (-8)) dX4_reset_41 (by decide) rfl ?_
        subst ev_23 ev_13 ev_4
        exact G.ireturn hR (rfl) dX4_reset_43 ⟨congrArg some (by simp only [vX4_reset, if_neg c_7, if_neg c_16, if_pos c_26]), congrArg (wX a cI cZ) (by simp only [sX4_reset, if_neg c_7, if_neg c_16, if_pos c_26])⟩
      · refine G.iload (pc2 := 31) (x := p3) dX4_reset_29 rfl rfl ?_
        refine G.iconst (pc2 := 32) (v := 0) dX4_reset_31 (by decide) rfl ?_
        refine G.sipush (pc2 := 35) (v := 9999) dX4_reset_32 (by decide) rfl ?_
        refine G.callSd (pc2 := 38) (i := 0) (j := 0) (As := [.int p3, .int 0, .int 9999]) (rest := []) (ws2 := wX a cI cZ u) (st2 := [.int (vX4_isWithin p3 0 9999)]) (c_X4_isWithin (cI := cI) (cZ := cZ) p3 0 9999) gX4_reset_X4_isWithin rfl rfl rfl ndX4_isWithin.2 ⟨Nat.le_of_ble_eq_true rfl, Nat.le_of_ble_eq_true rfl⟩ ⟨Nat.le_of_ble_eq_true rfl, Nat.le_of_ble_eq_true rfl⟩ rfl rfl (Nat.le_of_ble_eq_true rfl) rfl rfl rfl dX4_reset_35 rfl ?_
        generalize ev_35 : vX4_isWithin p3 0 9999 = v_35
        refine G.if_ne (pc2 := 41) (tgt := 44) dX4_reset_38 rfl rfl (fun c_38 => ?_) (fun c_38 => ?_)
        · refine G.aload_n (pc2 := 45) (x := a 0) dX4_reset_44 rfl rfl rfl ?_
          refine G.iload_n (pc2 := 46) (x := p0) dX4_reset_45 rfl rfl rfl ?_
          refine G.iload_n (pc2 := 47) (x := p1) dX4_reset_46 rfl rfl rfl ?_
          refine G.iload_n (pc2 := 48) (x := p2) dX4_reset_47 rfl rfl rfl ?_
          refine G.iload (pc2 := 50) (x := p3) dX4_reset_48 rfl rfl ?_
          refine G.callVd (pc2 := 53) (i := 0) (j := 14) (q0 := 0) (ci := 4) (As := [.int p0, .int p1, .int p2, .int p3]) (rest := []) (ws2 := wX a cI cZ (sX4_startAnew u p0 p1 p2 p3)) (st2 := []) (c_X4_startAnew (cI := cI) (cZ := cZ) a u p0 p1 p2 p3) gX4_reset_X4_startAnew rfl rfl rfl ndX4_startAnew ⟨Nat.le_of_ble_eq_true rfl, Nat.le_of_ble_eq_true rfl⟩ ⟨Nat.le_of_ble_eq_true rfl, Nat.le_of_ble_eq_true rfl⟩ rfl rfl (Nat.le_of_ble_eq_true rfl) rfl rfl rfl rfl rfl rfl dX4_reset_50 rfl ?_
          generalize et_50 : sX4_startAnew u p0 p1 p2 p3 = t_50
          refine G.iconst (pc2 := 54) (v := 0) dX4_reset_53 (by decide) rfl ?_
          subst et_50 ev_35 ev_23 ev_13 ev_4
          exact G.ireturn hR (rfl) dX4_reset_54 ⟨congrArg some (by simp only [vX4_reset, if_neg c_7, if_neg c_16, if_neg c_26, if_neg c_38]), congrArg (wX a cI cZ) (by simp only [sX4_reset, if_neg c_7, if_neg c_16, if_neg c_26, if_neg c_38])⟩
        · refine G.bipush (pc2 := 43) (v := (-8)) dX4_reset_41 (by decide) rfl ?_
          subst ev_35 ev_23 ev_13 ev_4
          exact G.ireturn hR (rfl) dX4_reset_43 ⟨congrArg some (by simp only [vX4_reset, if_neg c_7, if_neg c_16, if_neg c_26, if_pos c_38]), congrArg (wX a cI cZ) (by simp only [sX4_reset, if_neg c_7, if_neg c_16, if_neg c_26, if_pos c_38])⟩
set_option maxRecDepth 100000 in
set_option maxHeartbeats 4000000 in
theorem c_X4_isPage {cI cZ : ClassId}  (p0 : Int32)  : Ct yX4_isPage wsX4_isPage rX4_isPage cI cZ [.int p0] ([]) 0 0 (rt (some (vX4_isPage p0)) ([])) := by
  refine Ct.of (cc := cX4_isPage) (nL := 1) (own := RX4) (by decide) rfl rfl (Nat.le_of_ble_eq_true rfl) rfl ?_
  intro K hR hN
  refine G.iload_n (pc2 := 1) (x := p0) dX4_isPage_0 rfl rfl rfl ?_
  refine G.iconst (pc2 := 2) (v := 0) dX4_isPage_1 (by decide) rfl ?_
  refine G.bipush (pc2 := 4) (v := 63) dX4_isPage_2 (by decide) rfl ?_
  refine G.callSd (pc2 := 7) (i := 0) (j := 0) (As := [.int p0, .int 0, .int 63]) (rest := []) (ws2 := []) (st2 := [.int (vX4_isWithin p0 0 63)]) (c_X4_isWithin (cI := cI) (cZ := cZ) p0 0 63) gX4_isPage_X4_isWithin rfl rfl rfl ndX4_isWithin.2 ⟨Nat.le_of_ble_eq_true rfl, Nat.le_of_ble_eq_true rfl⟩ ⟨Nat.le_of_ble_eq_true rfl, Nat.le_of_ble_eq_true rfl⟩ rfl rfl (Nat.le_of_ble_eq_true rfl) rfl rfl rfl dX4_isPage_4 rfl ?_
  generalize ev_4 : vX4_isWithin p0 0 63 = v_4
  subst ev_4
  exact G.ireturn hR (nbX _ _ _) dX4_isPage_7 ⟨congrArg some (rfl), rfl⟩
set_option maxRecDepth 100000 in
set_option maxHeartbeats 4000000 in
theorem c_X4_chooseVictim {cI cZ : ClassId} (a : Nat → Nat) (u : SX) (hh : HW u.2.2.2.1) (hf : FW u.2.1) : Ct yX4_chooseVictim wsX4_chooseVictim rX4_chooseVictim cI cZ [.ref (a 0)] (wX a cI cZ u) 0 0 (rt (some (vX4_chooseVictim u)) (wX a cI cZ u)) := by
  refine Ct.of (cc := cX4_chooseVictim) (nL := 3) (own := RX4) (by decide) rfl rfl (Nat.le_of_ble_eq_true rfl) rfl ?_
  intro K hR hN
  have loop5 : ∀ (n : Nat) (l1 l2 : Int32), PI n l2 ∧ PgN l1 → vX4_chooseVictim u = lvX4_chooseVictim_5 u n l1 l2 → G K cI cZ cX4_chooseVictim 3 RX4 wsX4_chooseVictim rX4_chooseVictim 0 0 (wX a cI cZ u) 5 [(0, .ref (a 0)), (1, .int l1), (2, .int l2)] [] := by
    intro n
    induction n with
    | zero =>
      intro l1 l2 hi hv
      exact absurd hi (fun h => PI.zero h.1)
    | succ n ih =>
      intro l1 l2 hi hv
      refine G.iload_n (pc2 := 6) (x := l2) dX4_chooseVictim_5 rfl rfl rfl ?_
      refine G.bipush (pc2 := 8) (v := 64) dX4_chooseVictim_6 (by decide) rfl ?_
      refine G.icmp_ge (pc2 := 11) (tgt := 59) dX4_chooseVictim_8 rfl rfl (fun c_8 => ?_) (fun c_8 => ?_)
      · refine G.iload_n (pc2 := 60) (x := l1) dX4_chooseVictim_59 rfl rfl rfl ?_
        exact G.ireturn hR (rfl) dX4_chooseVictim_60 ⟨congrArg some (by rw [hv]; simp only [lvX4_chooseVictim_5, if_neg c_8]), rfl⟩
      · refine G.aload_n (pc2 := 12) (x := a 0) dX4_chooseVictim_11 rfl rfl rfl ?_
        refine G.getf (pc2 := 15) (q0 := 0) (ci := 4) (k := 1) (v := .ref (a 3)) iX4_chooseVictim_X4 kX4_chooseVictim_19 rfl rfl (by decide) rfl dX4_chooseVictim_12 rfl ?_
        refine G.iload_n (pc2 := 16) (x := l2) dX4_chooseVictim_15 rfl rfl rfl ?_
        refine G.callVd (pc2 := 19) (i := 3) (j := 8) (q0 := 3) (ci := 1) (As := [.int l2]) (rest := []) (ws2 := wX a cI cZ u) (st2 := [.int (vX1_holds u.2.1 l2)]) (c_X1_holds (cI := cI) (cZ := cZ) (a 3) (a 4) (a 5) (a 6) (a 7) u.2.1 l2 (PI.pg hi.1 c_8) (hf)) gX4_chooseVictim_X1_holds rfl rfl rfl ndX1_holds ⟨Nat.le_of_ble_eq_true rfl, Nat.le_of_ble_eq_true rfl⟩ ⟨Nat.le_of_ble_eq_true rfl, Nat.le_of_ble_eq_true rfl⟩ rfl rfl (Nat.le_of_ble_eq_true rfl) rfl rfl rfl rfl rfl rfl dX4_chooseVictim_16 rfl ?_
        generalize ev_16 : vX1_holds u.2.1 l2 = v_16
        refine G.if_eq (pc2 := 22) (tgt := 53) dX4_chooseVictim_19 rfl rfl (fun c_19 => ?_) (fun c_19 => ?_)
        · refine G.iinc (pc2 := 56) (k := 2) (v := l2 + 1) (lv2 := [(0, .ref (a 0)), (1, .int l1), (2, .int (l2 + 1))]) [1, 2, 0] dX4_chooseVictim_53 rfl rfl (by decide) rfl rfl ?_
          refine G.goto (tgt := 5) dX4_chooseVictim_56 rfl ?_
          subst ev_16
          exact ih  l1 (l2 + 1) (⟨PI.next hi.1 c_8, by first | exact hi.2 | exact Or.inr (PI.pg hi.1 c_8)⟩) (by rw [hv]; simp only [lvX4_chooseVictim_5, if_pos c_8, if_pos c_19])
        · refine G.aload_n (pc2 := 23) (x := a 0) dX4_chooseVictim_22 rfl rfl rfl ?_
          refine G.getf (pc2 := 26) (q0 := 0) (ci := 4) (k := 1) (v := .ref (a 3)) iX4_chooseVictim_X4 kX4_chooseVictim_19 rfl rfl (by decide) rfl dX4_chooseVictim_23 rfl ?_
          refine G.iload_n (pc2 := 27) (x := l2) dX4_chooseVictim_26 rfl rfl rfl ?_
          refine G.callVd (pc2 := 30) (i := 3) (j := 8) (q0 := 3) (ci := 1) (As := [.int l2]) (rest := []) (ws2 := wX a cI cZ u) (st2 := [.int (vX1_pinsOf u.2.1 l2)]) (c_X1_pinsOf (cI := cI) (cZ := cZ) (a 3) (a 4) (a 5) (a 6) (a 7) u.2.1 l2 (by subst ev_16; exact (PI.pg hi.1 c_8))) gX4_chooseVictim_X1_pinsOf rfl rfl rfl ndX1_pinsOf ⟨Nat.le_of_ble_eq_true rfl, Nat.le_of_ble_eq_true rfl⟩ ⟨Nat.le_of_ble_eq_true rfl, Nat.le_of_ble_eq_true rfl⟩ rfl rfl (Nat.le_of_ble_eq_true rfl) rfl rfl rfl rfl rfl rfl dX4_chooseVictim_27 rfl ?_
          generalize ev_27 : vX1_pinsOf u.2.1 l2 = v_27
          refine G.if_ne (pc2 := 33) (tgt := 53) dX4_chooseVictim_30 rfl rfl (fun c_30 => ?_) (fun c_30 => ?_)
          · refine G.iinc (pc2 := 56) (k := 2) (v := l2 + 1) (lv2 := [(0, .ref (a 0)), (1, .int l1), (2, .int (l2 + 1))]) [1, 2, 0] dX4_chooseVictim_53 rfl rfl (by decide) rfl rfl ?_
            refine G.goto (tgt := 5) dX4_chooseVictim_56 rfl ?_
            subst ev_27 ev_16
            exact ih  l1 (l2 + 1) (⟨PI.next hi.1 c_8, by first | exact hi.2 | exact Or.inr (PI.pg hi.1 c_8)⟩) (by rw [hv]; simp only [lvX4_chooseVictim_5, if_pos c_8, if_neg c_19, if_neg c_30])
          · refine G.iload_n (pc2 := 34) (x := l1) dX4_chooseVictim_33 rfl rfl rfl ?_
            refine G.bipush (pc2 := 36) (v := (-9)) dX4_chooseVictim_34 (by decide) rfl ?_
            refine G.icmp_eq (pc2 := 39) (tgt := 51) dX4_chooseVictim_36 rfl rfl (fun c_36 => ?_) (fun c_36 => ?_)
            · refine G.iload_n (pc2 := 52) (x := l2) dX4_chooseVictim_51 rfl rfl rfl ?_
              refine G.istore_n (pc2 := 53) (lv2 := [(0, .ref (a 0)), (1, .int l2), (2, .int l2)]) [1, 0, 2] dX4_chooseVictim_52 rfl (by decide) rfl rfl ?_
              refine G.iinc (pc2 := 56) (k := 2) (v := l2 + 1) (lv2 := [(0, .ref (a 0)), (1, .int l2), (2, .int (l2 + 1))]) [1, 2, 0] dX4_chooseVictim_53 rfl rfl (by decide) rfl rfl ?_
              refine G.goto (tgt := 5) dX4_chooseVictim_56 rfl ?_
              subst ev_27 ev_16
              exact ih  l2 (l2 + 1) (⟨PI.next hi.1 c_8, by first | exact hi.2 | exact Or.inr (PI.pg hi.1 c_8)⟩) (by rw [hv]; simp only [lvX4_chooseVictim_5, if_pos c_8, if_neg c_19, if_pos c_30, if_pos c_36])
            · refine G.aload_n (pc2 := 40) (x := a 0) dX4_chooseVictim_39 rfl rfl rfl ?_
              refine G.getf (pc2 := 43) (q0 := 0) (ci := 4) (k := 3) (v := .ref (a 11)) iX4_chooseVictim_X4 kX4_chooseVictim_33 rfl rfl (by decide) rfl dX4_chooseVictim_40 rfl ?_
              refine G.iload_n (pc2 := 44) (x := l2) dX4_chooseVictim_43 rfl rfl rfl ?_
              refine G.iload_n (pc2 := 45) (x := l1) dX4_chooseVictim_44 rfl rfl rfl ?_
              refine G.callVd (pc2 := 48) (i := 11) (j := 14) (q0 := 11) (ci := 2) (As := [.int l2, .int l1]) (rest := []) (ws2 := wX a cI cZ u) (st2 := [.int (vX2_goesBefore u.2.2.2.1 l2 l1)]) (c_X2_goesBefore (cI := cI) (cZ := cZ) (a 11) (a 12) (a 13) u.2.2.2.1 l2 l1 (by subst ev_27 ev_16; exact (PI.pg hi.1 c_8)) (by subst ev_27 ev_16; exact (hi.2.resolve_left c_36)) (hh)) gX4_chooseVictim_X2_goesBefore rfl rfl rfl ndX2_goesBefore ⟨Nat.le_of_ble_eq_true rfl, Nat.le_of_ble_eq_true rfl⟩ ⟨Nat.le_of_ble_eq_true rfl, Nat.le_of_ble_eq_true rfl⟩ rfl rfl (Nat.le_of_ble_eq_true rfl) rfl rfl rfl rfl rfl rfl dX4_chooseVictim_45 rfl ?_
              generalize ev_45 : vX2_goesBefore u.2.2.2.1 l2 l1 = v_45
              refine G.if_eq (pc2 := 51) (tgt := 53) dX4_chooseVictim_48 rfl rfl (fun c_48 => ?_) (fun c_48 => ?_)
              · refine G.iinc (pc2 := 56) (k := 2) (v := l2 + 1) (lv2 := [(0, .ref (a 0)), (1, .int l1), (2, .int (l2 + 1))]) [1, 2, 0] dX4_chooseVictim_53 rfl rfl (by decide) rfl rfl ?_
                refine G.goto (tgt := 5) dX4_chooseVictim_56 rfl ?_
                subst ev_45 ev_27 ev_16
                exact ih  l1 (l2 + 1) (⟨PI.next hi.1 c_8, by first | exact hi.2 | exact Or.inr (PI.pg hi.1 c_8)⟩) (by rw [hv]; simp only [lvX4_chooseVictim_5, if_pos c_8, if_neg c_19, if_pos c_30, if_neg c_36, if_pos c_48])
              · refine G.iload_n (pc2 := 52) (x := l2) dX4_chooseVictim_51 rfl rfl rfl ?_
                refine G.istore_n (pc2 := 53) (lv2 := [(0, .ref (a 0)), (1, .int l2), (2, .int l2)]) [1, 0, 2] dX4_chooseVictim_52 rfl (by decide) rfl rfl ?_
                refine G.iinc (pc2 := 56) (k := 2) (v := l2 + 1) (lv2 := [(0, .ref (a 0)), (1, .int l2), (2, .int (l2 + 1))]) [1, 2, 0] dX4_chooseVictim_53 rfl rfl (by decide) rfl rfl ?_
                refine G.goto (tgt := 5) dX4_chooseVictim_56 rfl ?_
                subst ev_45 ev_27 ev_16
                exact ih  l2 (l2 + 1) (⟨PI.next hi.1 c_8, by first | exact hi.2 | exact Or.inr (PI.pg hi.1 c_8)⟩) (by rw [hv]; simp only [lvX4_chooseVictim_5, if_pos c_8, if_neg c_19, if_pos c_30, if_neg c_36, if_neg c_48])
  refine G.bipush (pc2 := 2) (v := (-9)) dX4_chooseVictim_0 (by decide) rfl ?_
  refine G.istore_n (pc2 := 3) (lv2 := [(0, .ref (a 0)), (1, .int (-9))]) [1, 0] dX4_chooseVictim_2 rfl (by decide) rfl rfl ?_
  refine G.iconst (pc2 := 4) (v := 0) dX4_chooseVictim_3 (by decide) rfl ?_
  refine G.istore_n (pc2 := 5) (lv2 := [(0, .ref (a 0)), (1, .int (-9)), (2, .int 0)]) [1, 2, 0] dX4_chooseVictim_4 rfl (by decide) rfl rfl ?_
  exact loop5 65 (-9) 0 (⟨PI.start, Or.inl rfl⟩) (rfl)
set_option maxRecDepth 100000 in
set_option maxHeartbeats 4000000 in
theorem c_X4_canReference {cI cZ : ClassId} (a : Nat → Nat) (u : SX) (p0 : Int32) (h0 : Pg p0) (hh : HW u.2.2.2.1) (hf : FW u.2.1) : Ct yX4_canReference wsX4_canReference rX4_canReference cI cZ [.ref (a 0), .int p0] (wX a cI cZ u) 0 0 (rt (some (vX4_canReference u p0)) (wX a cI cZ u)) := by
  refine Ct.of (cc := cX4_canReference) (nL := 2) (own := RX4) (by decide) rfl rfl (Nat.le_of_ble_eq_true rfl) rfl ?_
  intro K hR hN
  refine G.aload_n (pc2 := 1) (x := a 0) dX4_canReference_0 rfl rfl rfl ?_
  refine G.getf (pc2 := 4) (q0 := 0) (ci := 4) (k := 1) (v := .ref (a 3)) iX4_canReference_X4 kX4_canReference_19 rfl rfl (by decide) rfl dX4_canReference_1 rfl ?_
  refine G.iload_n (pc2 := 5) (x := p0) dX4_canReference_4 rfl rfl rfl ?_
  refine G.callVd (pc2 := 8) (i := 3) (j := 8) (q0 := 3) (ci := 1) (As := [.int p0]) (rest := []) (ws2 := wX a cI cZ u) (st2 := [.int (vX1_holds u.2.1 p0)]) (c_X1_holds (cI := cI) (cZ := cZ) (a 3) (a 4) (a 5) (a 6) (a 7) u.2.1 p0 (h0) (hf)) gX4_canReference_X1_holds rfl rfl rfl ndX1_holds ⟨Nat.le_of_ble_eq_true rfl, Nat.le_of_ble_eq_true rfl⟩ ⟨Nat.le_of_ble_eq_true rfl, Nat.le_of_ble_eq_true rfl⟩ rfl rfl (Nat.le_of_ble_eq_true rfl) rfl rfl rfl rfl rfl rfl dX4_canReference_5 rfl ?_
  generalize ev_5 : vX1_holds u.2.1 p0 = v_5
  refine G.if_ne (pc2 := 11) (tgt := 30) dX4_canReference_8 rfl rfl (fun c_8 => ?_) (fun c_8 => ?_)
  · refine G.iconst (pc2 := 31) (v := 1) dX4_canReference_30 (by decide) rfl ?_
    refine G.goto (tgt := 35) dX4_canReference_31 rfl ?_
    subst ev_5
    exact G.ireturn hR (rfl) dX4_canReference_35 ⟨congrArg some (by simp only [vX4_canReference, if_neg c_8]), rfl⟩
  · refine G.aload_n (pc2 := 12) (x := a 0) dX4_canReference_11 rfl rfl rfl ?_
    refine G.getf (pc2 := 15) (q0 := 0) (ci := 4) (k := 1) (v := .ref (a 3)) iX4_canReference_X4 kX4_canReference_19 rfl rfl (by decide) rfl dX4_canReference_12 rfl ?_
    refine G.callVd (pc2 := 18) (i := 3) (j := 8) (q0 := 3) (ci := 1) (As := []) (rest := []) (ws2 := wX a cI cZ u) (st2 := [.int (vX1_areFull u.2.1)]) (c_X1_areFull (cI := cI) (cZ := cZ) (a 3) (a 4) (a 5) (a 6) (a 7) u.2.1) gX4_canReference_X1_areFull rfl rfl rfl ndX1_areFull ⟨Nat.le_of_ble_eq_true rfl, Nat.le_of_ble_eq_true rfl⟩ ⟨Nat.le_of_ble_eq_true rfl, Nat.le_of_ble_eq_true rfl⟩ rfl rfl (Nat.le_of_ble_eq_true rfl) rfl rfl rfl rfl rfl rfl dX4_canReference_15 rfl ?_
    generalize ev_15 : vX1_areFull u.2.1 = v_15
    refine G.if_eq (pc2 := 21) (tgt := 30) dX4_canReference_18 rfl rfl (fun c_18 => ?_) (fun c_18 => ?_)
    · refine G.iconst (pc2 := 31) (v := 1) dX4_canReference_30 (by decide) rfl ?_
      refine G.goto (tgt := 35) dX4_canReference_31 rfl ?_
      subst ev_15 ev_5
      exact G.ireturn hR (rfl) dX4_canReference_35 ⟨congrArg some (by simp only [vX4_canReference, if_pos c_8, if_pos c_18]), rfl⟩
    · refine G.aload_n (pc2 := 22) (x := a 0) dX4_canReference_21 rfl rfl rfl ?_
      refine G.callVd (pc2 := 25) (i := 0) (j := 14) (q0 := 0) (ci := 4) (As := []) (rest := []) (ws2 := wX a cI cZ u) (st2 := [.int (vX4_chooseVictim u)]) (c_X4_chooseVictim (cI := cI) (cZ := cZ) a u (hh) (hf)) gX4_canReference_X4_chooseVictim rfl rfl rfl ndX4_chooseVictim ⟨Nat.le_of_ble_eq_true rfl, Nat.le_of_ble_eq_true rfl⟩ ⟨Nat.le_of_ble_eq_true rfl, Nat.le_of_ble_eq_true rfl⟩ rfl rfl (Nat.le_of_ble_eq_true rfl) rfl rfl rfl rfl rfl rfl dX4_canReference_22 rfl ?_
      generalize ev_22 : vX4_chooseVictim u = v_22
      refine G.bipush (pc2 := 27) (v := (-9)) dX4_canReference_25 (by decide) rfl ?_
      refine G.icmp_eq (pc2 := 30) (tgt := 34) dX4_canReference_27 rfl rfl (fun c_27 => ?_) (fun c_27 => ?_)
      · refine G.iconst (pc2 := 35) (v := 0) dX4_canReference_34 (by decide) rfl ?_
        subst ev_22 ev_15 ev_5
        exact G.ireturn hR (rfl) dX4_canReference_35 ⟨congrArg some (by simp only [vX4_canReference, if_pos c_8, if_neg c_18, if_pos c_27]), rfl⟩
      · refine G.iconst (pc2 := 31) (v := 1) dX4_canReference_30 (by decide) rfl ?_
        refine G.goto (tgt := 35) dX4_canReference_31 rfl ?_
        subst ev_22 ev_15 ev_5
        exact G.ireturn hR (rfl) dX4_canReference_35 ⟨congrArg some (by simp only [vX4_canReference, if_pos c_8, if_neg c_18, if_neg c_27]), rfl⟩
set_option maxRecDepth 100000 in
set_option maxHeartbeats 4000000 in
theorem c_X4_writeEntry {cI cZ : ClassId} (a : Nat → Nat) (u : SX) (p0 : Int32) (hq : QW u.2.2.1) : Ct yX4_writeEntry wsX4_writeEntry rX4_writeEntry cI cZ [.ref (a 0), .int p0] (wX a cI cZ u) 0 0 (rt (none) (wX a cI cZ (sX4_writeEntry u p0))) := by
  refine Ct.of (cc := cX4_writeEntry) (nL := 3) (own := RX4) (by decide) rfl rfl (Nat.le_of_ble_eq_true rfl) rfl ?_
  intro K hR hN
  refine G.aload_n (pc2 := 1) (x := a 0) dX4_writeEntry_0 rfl rfl rfl ?_
  refine G.getf (pc2 := 4) (q0 := 0) (ci := 4) (k := 2) (v := .ref (a 8)) iX4_writeEntry_X4 kX4_writeEntry_26 rfl rfl (by decide) rfl dX4_writeEntry_1 rfl ?_
  refine G.iload_n (pc2 := 5) (x := p0) dX4_writeEntry_4 rfl rfl rfl ?_
  refine G.callVd (pc2 := 8) (i := 8) (j := 11) (q0 := 8) (ci := 3) (As := [.int p0]) (rest := []) (ws2 := wX a cI cZ u) (st2 := [.int (vX3_pageAt u.2.2.1 p0)]) (c_X3_pageAt (cI := cI) (cZ := cZ) (a 8) (a 9) (a 10) u.2.2.1 p0 (hq)) gX4_writeEntry_X3_pageAt rfl rfl rfl ndX3_pageAt ⟨Nat.le_of_ble_eq_true rfl, Nat.le_of_ble_eq_true rfl⟩ ⟨Nat.le_of_ble_eq_true rfl, Nat.le_of_ble_eq_true rfl⟩ rfl rfl (Nat.le_of_ble_eq_true rfl) rfl rfl rfl rfl rfl rfl dX4_writeEntry_5 rfl ?_
  generalize ev_5 : vX3_pageAt u.2.2.1 p0 = v_5
  refine G.istore_n (pc2 := 9) (lv2 := [(0, .ref (a 0)), (1, .int p0), (2, .int v_5)]) [1, 2, 0] dX4_writeEntry_8 rfl (by decide) rfl rfl ?_
  refine G.iload_n (pc2 := 10) (x := v_5) dX4_writeEntry_9 rfl rfl rfl ?_
  refine G.bipush (pc2 := 12) (v := (-9)) dX4_writeEntry_10 (by decide) rfl ?_
  refine G.icmp_ne (pc2 := 15) (tgt := 16) dX4_writeEntry_12 rfl rfl (fun c_12 => ?_) (fun c_12 => ?_)
  · refine G.aload_n (pc2 := 17) (x := a 0) dX4_writeEntry_16 rfl rfl rfl ?_
    refine G.getf (pc2 := 20) (q0 := 0) (ci := 4) (k := 0) (v := .ref (a 1)) iX4_writeEntry_X4 kX4_writeEntry_10 rfl rfl (by decide) rfl dX4_writeEntry_17 rfl ?_
    refine G.iload_n (pc2 := 21) (x := v_5) dX4_writeEntry_20 rfl rfl rfl ?_
    refine G.aload_n (pc2 := 22) (x := a 0) dX4_writeEntry_21 rfl rfl rfl ?_
    refine G.getf (pc2 := 25) (q0 := 0) (ci := 4) (k := 2) (v := .ref (a 8)) iX4_writeEntry_X4 kX4_writeEntry_26 rfl rfl (by decide) rfl dX4_writeEntry_22 rfl ?_
    refine G.iload_n (pc2 := 26) (x := p0) dX4_writeEntry_25 rfl rfl rfl ?_
    refine G.callVd (pc2 := 29) (i := 8) (j := 11) (q0 := 8) (ci := 3) (As := [.int p0]) (rest := [.int v_5, .ref (a 1)]) (ws2 := wX a cI cZ u) (st2 := [.int (vX3_valueAt u.2.2.1 p0), .int v_5, .ref (a 1)]) (c_X3_valueAt (cI := cI) (cZ := cZ) (a 8) (a 9) (a 10) u.2.2.1 p0 (hq)) gX4_writeEntry_X3_valueAt rfl rfl rfl ndX3_valueAt ⟨Nat.le_of_ble_eq_true rfl, Nat.le_of_ble_eq_true rfl⟩ ⟨Nat.le_of_ble_eq_true rfl, Nat.le_of_ble_eq_true rfl⟩ rfl rfl (Nat.le_of_ble_eq_true rfl) rfl rfl rfl rfl rfl rfl dX4_writeEntry_26 rfl ?_
    generalize ev_26 : vX3_valueAt u.2.2.1 p0 = v_26
    refine G.callVd (pc2 := 32) (i := 1) (j := 3) (q0 := 1) (ci := 0) (As := [.int v_5, .int v_26]) (rest := []) (ws2 := wX a cI cZ ((sX0_store u.1 v_5 v_26), u.2.1, u.2.2.1, u.2.2.2.1, u.2.2.2.2)) (st2 := []) (c_X0_store (cI := cI) (cZ := cZ) (a 1) (a 2) u.1 v_5 v_26 (by subst ev_26 ev_5; exact ((pageAt_pg hq).resolve_left c_12))) gX4_writeEntry_X0_store rfl rfl rfl ndX0_store ⟨Nat.le_of_ble_eq_true rfl, Nat.le_of_ble_eq_true rfl⟩ ⟨Nat.le_of_ble_eq_true rfl, Nat.le_of_ble_eq_true rfl⟩ rfl rfl (Nat.le_of_ble_eq_true rfl) rfl rfl rfl rfl rfl rfl dX4_writeEntry_29 rfl ?_
    generalize et_29 : sX0_store u.1 v_5 v_26 = t_29
    refine G.aload_n (pc2 := 33) (x := a 0) dX4_writeEntry_32 rfl rfl rfl ?_
    refine G.getf (pc2 := 36) (q0 := 0) (ci := 4) (k := 2) (v := .ref (a 8)) iX4_writeEntry_X4 kX4_writeEntry_26 rfl rfl (by decide) rfl dX4_writeEntry_33 rfl ?_
    refine G.iload_n (pc2 := 37) (x := p0) dX4_writeEntry_36 rfl rfl rfl ?_
    refine G.callVd (pc2 := 40) (i := 8) (j := 11) (q0 := 8) (ci := 3) (As := [.int p0]) (rest := []) (ws2 := wX a cI cZ (t_29, u.2.1, (sX3_removeAt u.2.2.1 p0), u.2.2.2.1, u.2.2.2.2)) (st2 := []) (c_X3_removeAt (cI := cI) (cZ := cZ) (a 8) (a 9) (a 10) u.2.2.1 p0 (hq)) gX4_writeEntry_X3_removeAt rfl rfl rfl ndX3_removeAt ⟨Nat.le_of_ble_eq_true rfl, Nat.le_of_ble_eq_true rfl⟩ ⟨Nat.le_of_ble_eq_true rfl, Nat.le_of_ble_eq_true rfl⟩ rfl rfl (Nat.le_of_ble_eq_true rfl) rfl rfl rfl rfl rfl rfl dX4_writeEntry_37 rfl ?_
    generalize et_37 : sX3_removeAt u.2.2.1 p0 = t_37
    subst et_37 et_29 ev_26 ev_5
    exact G.vreturn hR dX4_writeEntry_40 ⟨rfl, congrArg (wX a cI cZ) (by simp only [sX4_writeEntry, if_neg c_12])⟩
  · subst ev_5
    exact G.vreturn hR dX4_writeEntry_15 ⟨rfl, congrArg (wX a cI cZ) (by simp only [sX4_writeEntry, if_pos c_12])⟩
set_option maxRecDepth 100000 in
set_option maxHeartbeats 4000000 in
theorem c_X4_enqueue {cI cZ : ClassId} (a : Nat → Nat) (u : SX) (p0 : Int32) (h0 : Pg p0) (hq : QW u.2.2.1) : Ct yX4_enqueue wsX4_enqueue rX4_enqueue cI cZ [.ref (a 0), .int p0] (wX a cI cZ u) 0 0 (rt (none) (wX a cI cZ (sX4_enqueue u p0))) := by
  refine Ct.of (cc := cX4_enqueue) (nL := 2) (own := RX4) (by decide) rfl rfl (Nat.le_of_ble_eq_true rfl) rfl ?_
  intro K hR hN
  refine G.aload_n (pc2 := 1) (x := a 0) dX4_enqueue_0 rfl rfl rfl ?_
  refine G.getf (pc2 := 4) (q0 := 0) (ci := 4) (k := 2) (v := .ref (a 8)) iX4_enqueue_X4 kX4_enqueue_26 rfl rfl (by decide) rfl dX4_enqueue_1 rfl ?_
  refine G.callVd (pc2 := 7) (i := 8) (j := 11) (q0 := 8) (ci := 3) (As := []) (rest := []) (ws2 := wX a cI cZ u) (st2 := [.int (vX3_isFull u.2.2.1)]) (c_X3_isFull (cI := cI) (cZ := cZ) (a 8) (a 9) (a 10) u.2.2.1) gX4_enqueue_X3_isFull rfl rfl rfl ndX3_isFull ⟨Nat.le_of_ble_eq_true rfl, Nat.le_of_ble_eq_true rfl⟩ ⟨Nat.le_of_ble_eq_true rfl, Nat.le_of_ble_eq_true rfl⟩ rfl rfl (Nat.le_of_ble_eq_true rfl) rfl rfl rfl rfl rfl rfl dX4_enqueue_4 rfl ?_
  generalize ev_4 : vX3_isFull u.2.2.1 = v_4
  refine G.if_eq (pc2 := 10) (tgt := 25) dX4_enqueue_7 rfl rfl (fun c_7 => ?_) (fun c_7 => ?_)
  · refine G.aload_n (pc2 := 26) (x := a 0) dX4_enqueue_25 rfl rfl rfl ?_
    refine G.getf (pc2 := 29) (q0 := 0) (ci := 4) (k := 2) (v := .ref (a 8)) iX4_enqueue_X4 kX4_enqueue_26 rfl rfl (by decide) rfl dX4_enqueue_26 rfl ?_
    refine G.iload_n (pc2 := 30) (x := p0) dX4_enqueue_29 rfl rfl rfl ?_
    refine G.aload_n (pc2 := 31) (x := a 0) dX4_enqueue_30 rfl rfl rfl ?_
    refine G.getf (pc2 := 34) (q0 := 0) (ci := 4) (k := 1) (v := .ref (a 3)) iX4_enqueue_X4 kX4_enqueue_19 rfl rfl (by decide) rfl dX4_enqueue_31 rfl ?_
    refine G.iload_n (pc2 := 35) (x := p0) dX4_enqueue_34 rfl rfl rfl ?_
    refine G.callVd (pc2 := 38) (i := 3) (j := 8) (q0 := 3) (ci := 1) (As := [.int p0]) (rest := [.int p0, .ref (a 8)]) (ws2 := wX a cI cZ u) (st2 := [.int (vX1_valueOf u.2.1 p0), .int p0, .ref (a 8)]) (c_X1_valueOf (cI := cI) (cZ := cZ) (a 3) (a 4) (a 5) (a 6) (a 7) u.2.1 p0 (h0)) gX4_enqueue_X1_valueOf rfl rfl rfl ndX1_valueOf ⟨Nat.le_of_ble_eq_true rfl, Nat.le_of_ble_eq_true rfl⟩ ⟨Nat.le_of_ble_eq_true rfl, Nat.le_of_ble_eq_true rfl⟩ rfl rfl (Nat.le_of_ble_eq_true rfl) rfl rfl rfl rfl rfl rfl dX4_enqueue_35 rfl ?_
    generalize ev_35 : vX1_valueOf u.2.1 p0 = v_35
    refine G.callVd (pc2 := 41) (i := 8) (j := 11) (q0 := 8) (ci := 3) (As := [.int p0, .int v_35]) (rest := []) (ws2 := wX a cI cZ (u.1, u.2.1, (sX3_append u.2.2.1 p0 v_35), u.2.2.2.1, u.2.2.2.2)) (st2 := []) (c_X3_append (cI := cI) (cZ := cZ) (a 8) (a 9) (a 10) u.2.2.1 p0 v_35 (hq)) gX4_enqueue_X3_append rfl rfl rfl ndX3_append ⟨Nat.le_of_ble_eq_true rfl, Nat.le_of_ble_eq_true rfl⟩ ⟨Nat.le_of_ble_eq_true rfl, Nat.le_of_ble_eq_true rfl⟩ rfl rfl (Nat.le_of_ble_eq_true rfl) rfl rfl rfl rfl rfl rfl dX4_enqueue_38 rfl ?_
    generalize et_38 : sX3_append u.2.2.1 p0 v_35 = t_38
    subst et_38 ev_35 ev_4
    exact G.vreturn hR dX4_enqueue_41 ⟨rfl, congrArg (wX a cI cZ) (by simp only [sX4_enqueue, if_pos c_7])⟩
  · refine G.aload_n (pc2 := 11) (x := a 0) dX4_enqueue_10 rfl rfl rfl ?_
    refine G.iconst (pc2 := 12) (v := 0) dX4_enqueue_11 (by decide) rfl ?_
    refine G.callVd (pc2 := 15) (i := 0) (j := 14) (q0 := 0) (ci := 4) (As := [.int 0]) (rest := []) (ws2 := wX a cI cZ (sX4_writeEntry u 0)) (st2 := []) (c_X4_writeEntry (cI := cI) (cZ := cZ) a u 0 (hq)) gX4_enqueue_X4_writeEntry rfl rfl rfl ndX4_writeEntry ⟨Nat.le_of_ble_eq_true rfl, Nat.le_of_ble_eq_true rfl⟩ ⟨Nat.le_of_ble_eq_true rfl, Nat.le_of_ble_eq_true rfl⟩ rfl rfl (Nat.le_of_ble_eq_true rfl) rfl rfl rfl rfl rfl rfl dX4_enqueue_12 rfl ?_
    generalize et_12 : sX4_writeEntry u 0 = t_12
    refine G.aload_n (pc2 := 16) (x := a 0) dX4_enqueue_15 rfl rfl rfl ?_
    refine G.dup (pc2 := 17) dX4_enqueue_16 rfl rfl ?_
    refine G.getf (pc2 := 20) (q0 := 0) (ci := 4) (k := 9) (v := .int t_12.2.2.2.2.2.2.2.2.2) iX4_enqueue_X4 kX4_enqueue_144 rfl rfl (by decide) rfl dX4_enqueue_17 rfl ?_
    refine G.iconst (pc2 := 21) (v := 1) dX4_enqueue_20 (by decide) rfl ?_
    refine G.iadd (pc2 := 22) (v := t_12.2.2.2.2.2.2.2.2.2 + 1) dX4_enqueue_21 rfl rfl ?_
    refine G.putf (pc2 := 25) (q0 := 0) (ci := 4) (k := 9) (ws2 := wX a cI cZ (t_12.1, t_12.2.1, t_12.2.2.1, t_12.2.2.2.1, (t_12.2.2.2.2.1, t_12.2.2.2.2.2.1, t_12.2.2.2.2.2.2.1, t_12.2.2.2.2.2.2.2.1, t_12.2.2.2.2.2.2.2.2.1, t_12.2.2.2.2.2.2.2.2.2 + 1))) iX4_enqueue_X4 kX4_enqueue_144 tyX4_ok nmX4 rfl rfl (by decide) rfl rfl rfl (Nat.le_of_ble_eq_true rfl) rfl dX4_enqueue_22 rfl ?_
    refine G.aload_n (pc2 := 26) (x := a 0) dX4_enqueue_25 rfl rfl rfl ?_
    refine G.getf (pc2 := 29) (q0 := 0) (ci := 4) (k := 2) (v := .ref (a 8)) iX4_enqueue_X4 kX4_enqueue_26 rfl rfl (by decide) rfl dX4_enqueue_26 rfl ?_
    refine G.iload_n (pc2 := 30) (x := p0) dX4_enqueue_29 rfl rfl rfl ?_
    refine G.aload_n (pc2 := 31) (x := a 0) dX4_enqueue_30 rfl rfl rfl ?_
    refine G.getf (pc2 := 34) (q0 := 0) (ci := 4) (k := 1) (v := .ref (a 3)) iX4_enqueue_X4 kX4_enqueue_19 rfl rfl (by decide) rfl dX4_enqueue_31 rfl ?_
    refine G.iload_n (pc2 := 35) (x := p0) dX4_enqueue_34 rfl rfl rfl ?_
    refine G.callVd (pc2 := 38) (i := 3) (j := 8) (q0 := 3) (ci := 1) (As := [.int p0]) (rest := [.int p0, .ref (a 8)]) (ws2 := wX a cI cZ (t_12.1, t_12.2.1, t_12.2.2.1, t_12.2.2.2.1, (t_12.2.2.2.2.1, t_12.2.2.2.2.2.1, t_12.2.2.2.2.2.2.1, t_12.2.2.2.2.2.2.2.1, t_12.2.2.2.2.2.2.2.2.1, t_12.2.2.2.2.2.2.2.2.2 + 1))) (st2 := [.int (vX1_valueOf t_12.2.1 p0), .int p0, .ref (a 8)]) (c_X1_valueOf (cI := cI) (cZ := cZ) (a 3) (a 4) (a 5) (a 6) (a 7) t_12.2.1 p0 (h0)) gX4_enqueue_X1_valueOf rfl rfl rfl ndX1_valueOf ⟨Nat.le_of_ble_eq_true rfl, Nat.le_of_ble_eq_true rfl⟩ ⟨Nat.le_of_ble_eq_true rfl, Nat.le_of_ble_eq_true rfl⟩ rfl rfl (Nat.le_of_ble_eq_true rfl) rfl rfl rfl rfl rfl rfl dX4_enqueue_35 rfl ?_
    generalize ev_35 : vX1_valueOf t_12.2.1 p0 = v_35
    refine G.callVd (pc2 := 41) (i := 8) (j := 11) (q0 := 8) (ci := 3) (As := [.int p0, .int v_35]) (rest := []) (ws2 := wX a cI cZ (t_12.1, t_12.2.1, (sX3_append t_12.2.2.1 p0 v_35), t_12.2.2.2.1, (t_12.2.2.2.2.1, t_12.2.2.2.2.2.1, t_12.2.2.2.2.2.2.1, t_12.2.2.2.2.2.2.2.1, t_12.2.2.2.2.2.2.2.2.1, t_12.2.2.2.2.2.2.2.2.2 + 1))) (st2 := []) (c_X3_append (cI := cI) (cZ := cZ) (a 8) (a 9) (a 10) t_12.2.2.1 p0 v_35 (by subst ev_35 et_12 ev_4; exact (by first | exact hq | exact qw_writeEntry hq))) gX4_enqueue_X3_append rfl rfl rfl ndX3_append ⟨Nat.le_of_ble_eq_true rfl, Nat.le_of_ble_eq_true rfl⟩ ⟨Nat.le_of_ble_eq_true rfl, Nat.le_of_ble_eq_true rfl⟩ rfl rfl (Nat.le_of_ble_eq_true rfl) rfl rfl rfl rfl rfl rfl dX4_enqueue_38 rfl ?_
    generalize et_38 : sX3_append t_12.2.2.1 p0 v_35 = t_38
    subst et_38 ev_35 et_12 ev_4
    exact G.vreturn hR dX4_enqueue_41 ⟨rfl, congrArg (wX a cI cZ) (by simp only [sX4_enqueue, if_neg c_7])⟩
end
section
set_option maxRecDepth 100000 in
set_option maxHeartbeats 4000000 in
theorem c_X4_makeRoom {cI cZ : ClassId} (a : Nat → Nat) (u : SX) (hq : QW u.2.2.1) (hh : HW u.2.2.2.1) (hf : FW u.2.1) : Ct yX4_makeRoom wsX4_makeRoom rX4_makeRoom cI cZ [.ref (a 0)] (wX a cI cZ u) 0 0 (rt (none) (wX a cI cZ (sX4_makeRoom u))) := by
  refine Ct.of (cc := cX4_makeRoom) (nL := 2) (own := RX4) (by decide) rfl rfl (Nat.le_of_ble_eq_true rfl) rfl ?_
  intro K hR hN
  refine G.aload_n (pc2 := 1) (x := a 0) dX4_makeRoom_0 rfl rfl rfl ?_
  refine G.getf (pc2 := 4) (q0 := 0) (ci := 4) (k := 1) (v := .ref (a 3)) iX4_makeRoom_X4 kX4_makeRoom_19 rfl rfl (by decide) rfl dX4_makeRoom_1 rfl ?_
  refine G.callVd (pc2 := 7) (i := 3) (j := 8) (q0 := 3) (ci := 1) (As := []) (rest := []) (ws2 := wX a cI cZ u) (st2 := [.int (vX1_areFull u.2.1)]) (c_X1_areFull (cI := cI) (cZ := cZ) (a 3) (a 4) (a 5) (a 6) (a 7) u.2.1) gX4_makeRoom_X1_areFull rfl rfl rfl ndX1_areFull ⟨Nat.le_of_ble_eq_true rfl, Nat.le_of_ble_eq_true rfl⟩ ⟨Nat.le_of_ble_eq_true rfl, Nat.le_of_ble_eq_true rfl⟩ rfl rfl (Nat.le_of_ble_eq_true rfl) rfl rfl rfl rfl rfl rfl dX4_makeRoom_4 rfl ?_
  generalize ev_4 : vX1_areFull u.2.1 = v_4
  refine G.if_ne (pc2 := 10) (tgt := 11) dX4_makeRoom_7 rfl rfl (fun c_7 => ?_) (fun c_7 => ?_)
  · refine G.aload_n (pc2 := 12) (x := a 0) dX4_makeRoom_11 rfl rfl rfl ?_
    refine G.callVd (pc2 := 15) (i := 0) (j := 14) (q0 := 0) (ci := 4) (As := []) (rest := []) (ws2 := wX a cI cZ u) (st2 := [.int (vX4_chooseVictim u)]) (c_X4_chooseVictim (cI := cI) (cZ := cZ) a u (hh) (hf)) gX4_makeRoom_X4_chooseVictim rfl rfl rfl ndX4_chooseVictim ⟨Nat.le_of_ble_eq_true rfl, Nat.le_of_ble_eq_true rfl⟩ ⟨Nat.le_of_ble_eq_true rfl, Nat.le_of_ble_eq_true rfl⟩ rfl rfl (Nat.le_of_ble_eq_true rfl) rfl rfl rfl rfl rfl rfl dX4_makeRoom_12 rfl ?_
    generalize ev_12 : vX4_chooseVictim u = v_12
    refine G.istore_n (pc2 := 16) (lv2 := [(0, .ref (a 0)), (1, .int v_12)]) [1, 0] dX4_makeRoom_15 rfl (by decide) rfl rfl ?_
    refine G.iload_n (pc2 := 17) (x := v_12) dX4_makeRoom_16 rfl rfl rfl ?_
    refine G.bipush (pc2 := 19) (v := (-9)) dX4_makeRoom_17 (by decide) rfl ?_
    refine G.icmp_ne (pc2 := 22) (tgt := 23) dX4_makeRoom_19 rfl rfl (fun c_19 => ?_) (fun c_19 => ?_)
    · refine G.aload_n (pc2 := 24) (x := a 0) dX4_makeRoom_23 rfl rfl rfl ?_
      refine G.getf (pc2 := 27) (q0 := 0) (ci := 4) (k := 1) (v := .ref (a 3)) iX4_makeRoom_X4 kX4_makeRoom_19 rfl rfl (by decide) rfl dX4_makeRoom_24 rfl ?_
      refine G.iload_n (pc2 := 28) (x := v_12) dX4_makeRoom_27 rfl rfl rfl ?_
      refine G.callVd (pc2 := 31) (i := 3) (j := 8) (q0 := 3) (ci := 1) (As := [.int v_12]) (rest := []) (ws2 := wX a cI cZ u) (st2 := [.int (vX1_isChanged u.2.1 v_12)]) (c_X1_isChanged (cI := cI) (cZ := cZ) (a 3) (a 4) (a 5) (a 6) (a 7) u.2.1 v_12 (by subst ev_12 ev_4; exact ((victim_pg u).resolve_left c_19)) (hf)) gX4_makeRoom_X1_isChanged rfl rfl rfl ndX1_isChanged ⟨Nat.le_of_ble_eq_true rfl, Nat.le_of_ble_eq_true rfl⟩ ⟨Nat.le_of_ble_eq_true rfl, Nat.le_of_ble_eq_true rfl⟩ rfl rfl (Nat.le_of_ble_eq_true rfl) rfl rfl rfl rfl rfl rfl dX4_makeRoom_28 rfl ?_
      generalize ev_28 : vX1_isChanged u.2.1 v_12 = v_28
      refine G.if_eq (pc2 := 34) (tgt := 39) dX4_makeRoom_31 rfl rfl (fun c_31 => ?_) (fun c_31 => ?_)
      · refine G.aload_n (pc2 := 40) (x := a 0) dX4_makeRoom_39 rfl rfl rfl ?_
        refine G.getf (pc2 := 43) (q0 := 0) (ci := 4) (k := 1) (v := .ref (a 3)) iX4_makeRoom_X4 kX4_makeRoom_19 rfl rfl (by decide) rfl dX4_makeRoom_40 rfl ?_
        refine G.iload_n (pc2 := 44) (x := v_12) dX4_makeRoom_43 rfl rfl rfl ?_
        refine G.callVd (pc2 := 47) (i := 3) (j := 8) (q0 := 3) (ci := 1) (As := [.int v_12]) (rest := []) (ws2 := wX a cI cZ (u.1, (sX1_release u.2.1 v_12), u.2.2.1, u.2.2.2.1, u.2.2.2.2)) (st2 := []) (c_X1_release (cI := cI) (cZ := cZ) (a 3) (a 4) (a 5) (a 6) (a 7) u.2.1 v_12 (by subst ev_28 ev_12 ev_4; exact ((victim_pg u).resolve_left c_19))) gX4_makeRoom_X1_release rfl rfl rfl ndX1_release ⟨Nat.le_of_ble_eq_true rfl, Nat.le_of_ble_eq_true rfl⟩ ⟨Nat.le_of_ble_eq_true rfl, Nat.le_of_ble_eq_true rfl⟩ rfl rfl (Nat.le_of_ble_eq_true rfl) rfl rfl rfl rfl rfl rfl dX4_makeRoom_44 rfl ?_
        generalize et_44 : sX1_release u.2.1 v_12 = t_44
        refine G.aload_n (pc2 := 48) (x := a 0) dX4_makeRoom_47 rfl rfl rfl ?_
        refine G.dup (pc2 := 49) dX4_makeRoom_48 rfl rfl ?_
        refine G.getf (pc2 := 52) (q0 := 0) (ci := 4) (k := 8) (v := .int u.2.2.2.2.2.2.2.2.1) iX4_makeRoom_X4 kX4_makeRoom_135 rfl rfl (by decide) rfl dX4_makeRoom_49 rfl ?_
        refine G.iconst (pc2 := 53) (v := 1) dX4_makeRoom_52 (by decide) rfl ?_
        refine G.iadd (pc2 := 54) (v := u.2.2.2.2.2.2.2.2.1 + 1) dX4_makeRoom_53 rfl rfl ?_
        refine G.putf (pc2 := 57) (q0 := 0) (ci := 4) (k := 8) (ws2 := wX a cI cZ (u.1, t_44, u.2.2.1, u.2.2.2.1, (u.2.2.2.2.1, u.2.2.2.2.2.1, u.2.2.2.2.2.2.1, u.2.2.2.2.2.2.2.1, u.2.2.2.2.2.2.2.2.1 + 1, u.2.2.2.2.2.2.2.2.2))) iX4_makeRoom_X4 kX4_makeRoom_135 tyX4_ok nmX4 rfl rfl (by decide) rfl rfl rfl (Nat.le_of_ble_eq_true rfl) rfl dX4_makeRoom_54 rfl ?_
        subst et_44 ev_28 ev_12 ev_4
        exact G.vreturn hR dX4_makeRoom_57 ⟨rfl, congrArg (wX a cI cZ) (by simp only [sX4_makeRoom, if_neg c_7, if_neg c_19, if_pos c_31])⟩
      · refine G.aload_n (pc2 := 35) (x := a 0) dX4_makeRoom_34 rfl rfl rfl ?_
        refine G.iload_n (pc2 := 36) (x := v_12) dX4_makeRoom_35 rfl rfl rfl ?_
        refine G.callVd (pc2 := 39) (i := 0) (j := 14) (q0 := 0) (ci := 4) (As := [.int v_12]) (rest := []) (ws2 := wX a cI cZ (sX4_enqueue u v_12)) (st2 := []) (c_X4_enqueue (cI := cI) (cZ := cZ) a u v_12 (by subst ev_28 ev_12 ev_4; exact ((victim_pg u).resolve_left c_19)) (hq)) gX4_makeRoom_X4_enqueue rfl rfl rfl ndX4_enqueue ⟨Nat.le_of_ble_eq_true rfl, Nat.le_of_ble_eq_true rfl⟩ ⟨Nat.le_of_ble_eq_true rfl, Nat.le_of_ble_eq_true rfl⟩ rfl rfl (Nat.le_of_ble_eq_true rfl) rfl rfl rfl rfl rfl rfl dX4_makeRoom_36 rfl ?_
        generalize et_36 : sX4_enqueue u v_12 = t_36
        refine G.aload_n (pc2 := 40) (x := a 0) dX4_makeRoom_39 rfl rfl rfl ?_
        refine G.getf (pc2 := 43) (q0 := 0) (ci := 4) (k := 1) (v := .ref (a 3)) iX4_makeRoom_X4 kX4_makeRoom_19 rfl rfl (by decide) rfl dX4_makeRoom_40 rfl ?_
        refine G.iload_n (pc2 := 44) (x := v_12) dX4_makeRoom_43 rfl rfl rfl ?_
        refine G.callVd (pc2 := 47) (i := 3) (j := 8) (q0 := 3) (ci := 1) (As := [.int v_12]) (rest := []) (ws2 := wX a cI cZ (t_36.1, (sX1_release t_36.2.1 v_12), t_36.2.2.1, t_36.2.2.2.1, t_36.2.2.2.2)) (st2 := []) (c_X1_release (cI := cI) (cZ := cZ) (a 3) (a 4) (a 5) (a 6) (a 7) t_36.2.1 v_12 (by subst et_36 ev_28 ev_12 ev_4; exact ((victim_pg u).resolve_left c_19))) gX4_makeRoom_X1_release rfl rfl rfl ndX1_release ⟨Nat.le_of_ble_eq_true rfl, Nat.le_of_ble_eq_true rfl⟩ ⟨Nat.le_of_ble_eq_true rfl, Nat.le_of_ble_eq_true rfl⟩ rfl rfl (Nat.le_of_ble_eq_true rfl) rfl rfl rfl rfl rfl rfl dX4_makeRoom_44 rfl ?_
        generalize et_44 : sX1_release t_36.2.1 v_12 = t_44
        refine G.aload_n (pc2 := 48) (x := a 0) dX4_makeRoom_47 rfl rfl rfl ?_
        refine G.dup (pc2 := 49) dX4_makeRoom_48 rfl rfl ?_
        refine G.getf (pc2 := 52) (q0 := 0) (ci := 4) (k := 8) (v := .int t_36.2.2.2.2.2.2.2.2.1) iX4_makeRoom_X4 kX4_makeRoom_135 rfl rfl (by decide) rfl dX4_makeRoom_49 rfl ?_
        refine G.iconst (pc2 := 53) (v := 1) dX4_makeRoom_52 (by decide) rfl ?_
        refine G.iadd (pc2 := 54) (v := t_36.2.2.2.2.2.2.2.2.1 + 1) dX4_makeRoom_53 rfl rfl ?_
        refine G.putf (pc2 := 57) (q0 := 0) (ci := 4) (k := 8) (ws2 := wX a cI cZ (t_36.1, t_44, t_36.2.2.1, t_36.2.2.2.1, (t_36.2.2.2.2.1, t_36.2.2.2.2.2.1, t_36.2.2.2.2.2.2.1, t_36.2.2.2.2.2.2.2.1, t_36.2.2.2.2.2.2.2.2.1 + 1, t_36.2.2.2.2.2.2.2.2.2))) iX4_makeRoom_X4 kX4_makeRoom_135 tyX4_ok nmX4 rfl rfl (by decide) rfl rfl rfl (Nat.le_of_ble_eq_true rfl) rfl dX4_makeRoom_54 rfl ?_
        subst et_44 et_36 ev_28 ev_12 ev_4
        exact G.vreturn hR dX4_makeRoom_57 ⟨rfl, congrArg (wX a cI cZ) (by simp only [sX4_makeRoom, if_neg c_7, if_neg c_19, if_neg c_31])⟩
    · subst ev_12 ev_4
      exact G.vreturn hR dX4_makeRoom_22 ⟨rfl, congrArg (wX a cI cZ) (by simp only [sX4_makeRoom, if_neg c_7, if_pos c_19])⟩
  · subst ev_4
    exact G.vreturn hR dX4_makeRoom_10 ⟨rfl, congrArg (wX a cI cZ) (by simp only [sX4_makeRoom, if_pos c_7])⟩
set_option maxRecDepth 100000 in
set_option maxHeartbeats 4000000 in
theorem c_X4_load {cI cZ : ClassId} (a : Nat → Nat) (u : SX) (p0 : Int32) (h0 : Pg p0) (hq : QW u.2.2.1) : Ct yX4_load wsX4_load rX4_load cI cZ [.ref (a 0), .int p0] (wX a cI cZ u) 0 0 (rt (none) (wX a cI cZ (sX4_load u p0))) := by
  refine Ct.of (cc := cX4_load) (nL := 4) (own := RX4) (by decide) rfl rfl (Nat.le_of_ble_eq_true rfl) rfl ?_
  intro K hR hN
  refine G.aload_n (pc2 := 1) (x := a 0) dX4_load_0 rfl rfl rfl ?_
  refine G.getf (pc2 := 4) (q0 := 0) (ci := 4) (k := 2) (v := .ref (a 8)) iX4_load_X4 kX4_load_26 rfl rfl (by decide) rfl dX4_load_1 rfl ?_
  refine G.iload_n (pc2 := 5) (x := p0) dX4_load_4 rfl rfl rfl ?_
  refine G.callVd (pc2 := 8) (i := 8) (j := 11) (q0 := 8) (ci := 3) (As := [.int p0]) (rest := []) (ws2 := wX a cI cZ u) (st2 := [.int (vX3_positionOf u.2.2.1 p0)]) (c_X3_positionOf (cI := cI) (cZ := cZ) (a 8) (a 9) (a 10) u.2.2.1 p0 (hq)) gX4_load_X3_positionOf rfl rfl rfl ndX3_positionOf ⟨Nat.le_of_ble_eq_true rfl, Nat.le_of_ble_eq_true rfl⟩ ⟨Nat.le_of_ble_eq_true rfl, Nat.le_of_ble_eq_true rfl⟩ rfl rfl (Nat.le_of_ble_eq_true rfl) rfl rfl rfl rfl rfl rfl dX4_load_5 rfl ?_
  generalize ev_5 : vX3_positionOf u.2.2.1 p0 = v_5
  refine G.istore_n (pc2 := 9) (lv2 := [(0, .ref (a 0)), (1, .int p0), (2, .int v_5)]) [1, 2, 0] dX4_load_8 rfl (by decide) rfl rfl ?_
  refine G.iload_n (pc2 := 10) (x := v_5) dX4_load_9 rfl rfl rfl ?_
  refine G.bipush (pc2 := 12) (v := (-9)) dX4_load_10 (by decide) rfl ?_
  refine G.icmp_ne (pc2 := 15) (tgt := 32) dX4_load_12 rfl rfl (fun c_12 => ?_) (fun c_12 => ?_)
  · refine G.aload_n (pc2 := 33) (x := a 0) dX4_load_32 rfl rfl rfl ?_
    refine G.getf (pc2 := 36) (q0 := 0) (ci := 4) (k := 2) (v := .ref (a 8)) iX4_load_X4 kX4_load_26 rfl rfl (by decide) rfl dX4_load_33 rfl ?_
    refine G.iload_n (pc2 := 37) (x := v_5) dX4_load_36 rfl rfl rfl ?_
    refine G.callVd (pc2 := 40) (i := 8) (j := 11) (q0 := 8) (ci := 3) (As := [.int v_5]) (rest := []) (ws2 := wX a cI cZ u) (st2 := [.int (vX3_valueAt u.2.2.1 v_5)]) (c_X3_valueAt (cI := cI) (cZ := cZ) (a 8) (a 9) (a 10) u.2.2.1 v_5 (hq)) gX4_load_X3_valueAt rfl rfl rfl ndX3_valueAt ⟨Nat.le_of_ble_eq_true rfl, Nat.le_of_ble_eq_true rfl⟩ ⟨Nat.le_of_ble_eq_true rfl, Nat.le_of_ble_eq_true rfl⟩ rfl rfl (Nat.le_of_ble_eq_true rfl) rfl rfl rfl rfl rfl rfl dX4_load_37 rfl ?_
    generalize ev_37 : vX3_valueAt u.2.2.1 v_5 = v_37
    refine G.istore_n (pc2 := 41) (lv2 := [(0, .ref (a 0)), (1, .int p0), (2, .int v_5), (3, .int v_37)]) [1, 2, 3, 0] dX4_load_40 rfl (by decide) rfl rfl ?_
    refine G.aload_n (pc2 := 42) (x := a 0) dX4_load_41 rfl rfl rfl ?_
    refine G.getf (pc2 := 45) (q0 := 0) (ci := 4) (k := 2) (v := .ref (a 8)) iX4_load_X4 kX4_load_26 rfl rfl (by decide) rfl dX4_load_42 rfl ?_
    refine G.iload_n (pc2 := 46) (x := v_5) dX4_load_45 rfl rfl rfl ?_
    refine G.callVd (pc2 := 49) (i := 8) (j := 11) (q0 := 8) (ci := 3) (As := [.int v_5]) (rest := []) (ws2 := wX a cI cZ (u.1, u.2.1, (sX3_removeAt u.2.2.1 v_5), u.2.2.2.1, u.2.2.2.2)) (st2 := []) (c_X3_removeAt (cI := cI) (cZ := cZ) (a 8) (a 9) (a 10) u.2.2.1 v_5 (hq)) gX4_load_X3_removeAt rfl rfl rfl ndX3_removeAt ⟨Nat.le_of_ble_eq_true rfl, Nat.le_of_ble_eq_true rfl⟩ ⟨Nat.le_of_ble_eq_true rfl, Nat.le_of_ble_eq_true rfl⟩ rfl rfl (Nat.le_of_ble_eq_true rfl) rfl rfl rfl rfl rfl rfl dX4_load_46 rfl ?_
    generalize et_46 : sX3_removeAt u.2.2.1 v_5 = t_46
    refine G.aload_n (pc2 := 50) (x := a 0) dX4_load_49 rfl rfl rfl ?_
    refine G.getf (pc2 := 53) (q0 := 0) (ci := 4) (k := 1) (v := .ref (a 3)) iX4_load_X4 kX4_load_19 rfl rfl (by decide) rfl dX4_load_50 rfl ?_
    refine G.iload_n (pc2 := 54) (x := p0) dX4_load_53 rfl rfl rfl ?_
    refine G.iload_n (pc2 := 55) (x := v_37) dX4_load_54 rfl rfl rfl ?_
    refine G.callVd (pc2 := 58) (i := 3) (j := 8) (q0 := 3) (ci := 1) (As := [.int p0, .int v_37]) (rest := []) (ws2 := wX a cI cZ (u.1, (sX1_place u.2.1 p0 v_37), t_46, u.2.2.2.1, u.2.2.2.2)) (st2 := []) (c_X1_place (cI := cI) (cZ := cZ) (a 3) (a 4) (a 5) (a 6) (a 7) u.2.1 p0 v_37 (h0)) gX4_load_X1_place rfl rfl rfl ndX1_place ⟨Nat.le_of_ble_eq_true rfl, Nat.le_of_ble_eq_true rfl⟩ ⟨Nat.le_of_ble_eq_true rfl, Nat.le_of_ble_eq_true rfl⟩ rfl rfl (Nat.le_of_ble_eq_true rfl) rfl rfl rfl rfl rfl rfl dX4_load_55 rfl ?_
    generalize et_55 : sX1_place u.2.1 p0 v_37 = t_55
    refine G.aload_n (pc2 := 59) (x := a 0) dX4_load_58 rfl rfl rfl ?_
    refine G.getf (pc2 := 62) (q0 := 0) (ci := 4) (k := 1) (v := .ref (a 3)) iX4_load_X4 kX4_load_19 rfl rfl (by decide) rfl dX4_load_59 rfl ?_
    refine G.iload_n (pc2 := 63) (x := p0) dX4_load_62 rfl rfl rfl ?_
    refine G.iload_n (pc2 := 64) (x := v_37) dX4_load_63 rfl rfl rfl ?_
    refine G.callVd (pc2 := 67) (i := 3) (j := 8) (q0 := 3) (ci := 1) (As := [.int p0, .int v_37]) (rest := []) (ws2 := wX a cI cZ (u.1, (sX1_change t_55 p0 v_37), t_46, u.2.2.2.1, u.2.2.2.2)) (st2 := []) (c_X1_change (cI := cI) (cZ := cZ) (a 3) (a 4) (a 5) (a 6) (a 7) t_55 p0 v_37 (h0)) gX4_load_X1_change rfl rfl rfl ndX1_change ⟨Nat.le_of_ble_eq_true rfl, Nat.le_of_ble_eq_true rfl⟩ ⟨Nat.le_of_ble_eq_true rfl, Nat.le_of_ble_eq_true rfl⟩ rfl rfl (Nat.le_of_ble_eq_true rfl) rfl rfl rfl rfl rfl rfl dX4_load_64 rfl ?_
    generalize et_64 : sX1_change t_55 p0 v_37 = t_64
    subst et_64 et_55 et_46 ev_37 ev_5
    exact G.vreturn hR dX4_load_67 ⟨rfl, congrArg (wX a cI cZ) (by simp only [sX4_load, if_neg c_12])⟩
  · refine G.aload_n (pc2 := 16) (x := a 0) dX4_load_15 rfl rfl rfl ?_
    refine G.getf (pc2 := 19) (q0 := 0) (ci := 4) (k := 1) (v := .ref (a 3)) iX4_load_X4 kX4_load_19 rfl rfl (by decide) rfl dX4_load_16 rfl ?_
    refine G.iload_n (pc2 := 20) (x := p0) dX4_load_19 rfl rfl rfl ?_
    refine G.aload_n (pc2 := 21) (x := a 0) dX4_load_20 rfl rfl rfl ?_
    refine G.getf (pc2 := 24) (q0 := 0) (ci := 4) (k := 0) (v := .ref (a 1)) iX4_load_X4 kX4_load_10 rfl rfl (by decide) rfl dX4_load_21 rfl ?_
    refine G.iload_n (pc2 := 25) (x := p0) dX4_load_24 rfl rfl rfl ?_
    refine G.callVd (pc2 := 28) (i := 1) (j := 3) (q0 := 1) (ci := 0) (As := [.int p0]) (rest := [.int p0, .ref (a 3)]) (ws2 := wX a cI cZ ((sX0_load u.1 p0), u.2.1, u.2.2.1, u.2.2.2.1, u.2.2.2.2)) (st2 := [.int (vX0_load u.1 p0), .int p0, .ref (a 3)]) (c_X0_load (cI := cI) (cZ := cZ) (a 1) (a 2) u.1 p0 (h0)) gX4_load_X0_load rfl rfl rfl ndX0_load ⟨Nat.le_of_ble_eq_true rfl, Nat.le_of_ble_eq_true rfl⟩ ⟨Nat.le_of_ble_eq_true rfl, Nat.le_of_ble_eq_true rfl⟩ rfl rfl (Nat.le_of_ble_eq_true rfl) rfl rfl rfl rfl rfl rfl dX4_load_25 rfl ?_
    generalize ev_25 : vX0_load u.1 p0 = v_25
    generalize et_25 : sX0_load u.1 p0 = t_25
    refine G.callVd (pc2 := 31) (i := 3) (j := 8) (q0 := 3) (ci := 1) (As := [.int p0, .int v_25]) (rest := []) (ws2 := wX a cI cZ (t_25, (sX1_place u.2.1 p0 v_25), u.2.2.1, u.2.2.2.1, u.2.2.2.2)) (st2 := []) (c_X1_place (cI := cI) (cZ := cZ) (a 3) (a 4) (a 5) (a 6) (a 7) u.2.1 p0 v_25 (h0)) gX4_load_X1_place rfl rfl rfl ndX1_place ⟨Nat.le_of_ble_eq_true rfl, Nat.le_of_ble_eq_true rfl⟩ ⟨Nat.le_of_ble_eq_true rfl, Nat.le_of_ble_eq_true rfl⟩ rfl rfl (Nat.le_of_ble_eq_true rfl) rfl rfl rfl rfl rfl rfl dX4_load_28 rfl ?_
    generalize et_28 : sX1_place u.2.1 p0 v_25 = t_28
    subst et_28 et_25 ev_25 ev_5
    exact G.vreturn hR dX4_load_31 ⟨rfl, congrArg (wX a cI cZ) (by simp only [sX4_load, if_pos c_12])⟩
set_option maxRecDepth 100000 in
set_option maxHeartbeats 4000000 in
theorem c_X4_forgetIfStale {cI cZ : ClassId} (a : Nat → Nat) (u : SX) (p0 : Int32) (h0 : Pg p0) (hh : HW u.2.2.2.1) : Ct yX4_forgetIfStale wsX4_forgetIfStale rX4_forgetIfStale cI cZ [.ref (a 0), .int p0] (wX a cI cZ u) 0 0 (rt (none) (wX a cI cZ (sX4_forgetIfStale u p0))) := by
  refine Ct.of (cc := cX4_forgetIfStale) (nL := 3) (own := RX4) (by decide) rfl rfl (Nat.le_of_ble_eq_true rfl) rfl ?_
  intro K hR hN
  refine G.aload_n (pc2 := 1) (x := a 0) dX4_forgetIfStale_0 rfl rfl rfl ?_
  refine G.getf (pc2 := 4) (q0 := 0) (ci := 4) (k := 3) (v := .ref (a 11)) iX4_forgetIfStale_X4 kX4_forgetIfStale_33 rfl rfl (by decide) rfl dX4_forgetIfStale_1 rfl ?_
  refine G.iload_n (pc2 := 5) (x := p0) dX4_forgetIfStale_4 rfl rfl rfl ?_
  refine G.iconst (pc2 := 6) (v := 1) dX4_forgetIfStale_5 (by decide) rfl ?_
  refine G.callVd (pc2 := 9) (i := 11) (j := 14) (q0 := 11) (ci := 2) (As := [.int p0, .int 1]) (rest := []) (ws2 := wX a cI cZ u) (st2 := [.int (vX2_timeOf u.2.2.2.1 p0 1)]) (c_X2_timeOf (cI := cI) (cZ := cZ) (a 11) (a 12) (a 13) u.2.2.2.1 p0 1 (h0) (hh)) gX4_forgetIfStale_X2_timeOf rfl rfl rfl ndX2_timeOf ⟨Nat.le_of_ble_eq_true rfl, Nat.le_of_ble_eq_true rfl⟩ ⟨Nat.le_of_ble_eq_true rfl, Nat.le_of_ble_eq_true rfl⟩ rfl rfl (Nat.le_of_ble_eq_true rfl) rfl rfl rfl rfl rfl rfl dX4_forgetIfStale_6 rfl ?_
  generalize ev_6 : vX2_timeOf u.2.2.2.1 p0 1 = v_6
  refine G.istore_n (pc2 := 10) (lv2 := [(0, .ref (a 0)), (1, .int p0), (2, .int v_6)]) [1, 2, 0] dX4_forgetIfStale_9 rfl (by decide) rfl rfl ?_
  refine G.iload_n (pc2 := 11) (x := v_6) dX4_forgetIfStale_10 rfl rfl rfl ?_
  refine G.bipush (pc2 := 13) (v := (-9)) dX4_forgetIfStale_11 (by decide) rfl ?_
  refine G.icmp_eq (pc2 := 16) (tgt := 37) dX4_forgetIfStale_13 rfl rfl (fun c_13 => ?_) (fun c_13 => ?_)
  · subst ev_6
    exact G.vreturn hR dX4_forgetIfStale_37 ⟨rfl, congrArg (wX a cI cZ) (by simp only [sX4_forgetIfStale, if_pos c_13])⟩
  · refine G.aload_n (pc2 := 17) (x := a 0) dX4_forgetIfStale_16 rfl rfl rfl ?_
    refine G.getf (pc2 := 20) (q0 := 0) (ci := 4) (k := 5) (v := .int u.2.2.2.2.2.1) iX4_forgetIfStale_X4 kX4_forgetIfStale_111 rfl rfl (by decide) rfl dX4_forgetIfStale_17 rfl ?_
    refine G.iload_n (pc2 := 21) (x := v_6) dX4_forgetIfStale_20 rfl rfl rfl ?_
    refine G.isub (pc2 := 22) (v := u.2.2.2.2.2.1 - v_6) dX4_forgetIfStale_21 rfl rfl ?_
    refine G.aload_n (pc2 := 23) (x := a 0) dX4_forgetIfStale_22 rfl rfl rfl ?_
    refine G.getf (pc2 := 26) (q0 := 0) (ci := 4) (k := 4) (v := .int u.2.2.2.2.1) iX4_forgetIfStale_X4 kX4_forgetIfStale_157 rfl rfl (by decide) rfl dX4_forgetIfStale_23 rfl ?_
    refine G.icmp_le (pc2 := 29) (tgt := 37) dX4_forgetIfStale_26 rfl rfl (fun c_26 => ?_) (fun c_26 => ?_)
    · subst ev_6
      exact G.vreturn hR dX4_forgetIfStale_37 ⟨rfl, congrArg (wX a cI cZ) (by simp only [sX4_forgetIfStale, if_neg c_13, if_neg c_26])⟩
    · refine G.aload_n (pc2 := 30) (x := a 0) dX4_forgetIfStale_29 rfl rfl rfl ?_
      refine G.getf (pc2 := 33) (q0 := 0) (ci := 4) (k := 3) (v := .ref (a 11)) iX4_forgetIfStale_X4 kX4_forgetIfStale_33 rfl rfl (by decide) rfl dX4_forgetIfStale_30 rfl ?_
      refine G.iload_n (pc2 := 34) (x := p0) dX4_forgetIfStale_33 rfl rfl rfl ?_
      refine G.callVd (pc2 := 37) (i := 11) (j := 14) (q0 := 11) (ci := 2) (As := [.int p0]) (rest := []) (ws2 := wX a cI cZ (u.1, u.2.1, u.2.2.1, (sX2_forget u.2.2.2.1 p0), u.2.2.2.2)) (st2 := []) (c_X2_forget (cI := cI) (cZ := cZ) (a 11) (a 12) (a 13) u.2.2.2.1 p0 (h0)) gX4_forgetIfStale_X2_forget rfl rfl rfl ndX2_forget ⟨Nat.le_of_ble_eq_true rfl, Nat.le_of_ble_eq_true rfl⟩ ⟨Nat.le_of_ble_eq_true rfl, Nat.le_of_ble_eq_true rfl⟩ rfl rfl (Nat.le_of_ble_eq_true rfl) rfl rfl rfl rfl rfl rfl dX4_forgetIfStale_34 rfl ?_
      generalize et_34 : sX2_forget u.2.2.2.1 p0 = t_34
      subst et_34 ev_6
      exact G.vreturn hR dX4_forgetIfStale_37 ⟨rfl, congrArg (wX a cI cZ) (by simp only [sX4_forgetIfStale, if_neg c_13, if_pos c_26])⟩
set_option maxRecDepth 100000 in
set_option maxHeartbeats 4000000 in
theorem c_X4_reference {cI cZ : ClassId} (a : Nat → Nat) (u : SX) (p0 : Int32) (h0 : Pg p0) (hq : QW u.2.2.1) (hh : HW u.2.2.2.1) (hf : FW u.2.1) : Ct yX4_reference wsX4_reference rX4_reference cI cZ [.ref (a 0), .int p0] (wX a cI cZ u) 0 0 (rt (none) (wX a cI cZ (sX4_reference u p0))) := by
  refine Ct.of (cc := cX4_reference) (nL := 2) (own := RX4) (by decide) rfl rfl (Nat.le_of_ble_eq_true rfl) rfl ?_
  intro K hR hN
  refine G.aload_n (pc2 := 1) (x := a 0) dX4_reference_0 rfl rfl rfl ?_
  refine G.dup (pc2 := 2) dX4_reference_1 rfl rfl ?_
  refine G.getf (pc2 := 5) (q0 := 0) (ci := 4) (k := 5) (v := .int u.2.2.2.2.2.1) iX4_reference_X4 kX4_reference_111 rfl rfl (by decide) rfl dX4_reference_2 rfl ?_
  refine G.iconst (pc2 := 6) (v := 1) dX4_reference_5 (by decide) rfl ?_
  refine G.iadd (pc2 := 7) (v := u.2.2.2.2.2.1 + 1) dX4_reference_6 rfl rfl ?_
  refine G.putf (pc2 := 10) (q0 := 0) (ci := 4) (k := 5) (ws2 := wX a cI cZ (u.1, u.2.1, u.2.2.1, u.2.2.2.1, (u.2.2.2.2.1, u.2.2.2.2.2.1 + 1, u.2.2.2.2.2.2.1, u.2.2.2.2.2.2.2.1, u.2.2.2.2.2.2.2.2.1, u.2.2.2.2.2.2.2.2.2))) iX4_reference_X4 kX4_reference_111 tyX4_ok nmX4 rfl rfl (by decide) rfl rfl rfl (Nat.le_of_ble_eq_true rfl) rfl dX4_reference_7 rfl ?_
  refine G.aload_n (pc2 := 11) (x := a 0) dX4_reference_10 rfl rfl rfl ?_
  refine G.getf (pc2 := 14) (q0 := 0) (ci := 4) (k := 1) (v := .ref (a 3)) iX4_reference_X4 kX4_reference_19 rfl rfl (by decide) rfl dX4_reference_11 rfl ?_
  refine G.iload_n (pc2 := 15) (x := p0) dX4_reference_14 rfl rfl rfl ?_
  refine G.callVd (pc2 := 18) (i := 3) (j := 8) (q0 := 3) (ci := 1) (As := [.int p0]) (rest := []) (ws2 := wX a cI cZ (u.1, u.2.1, u.2.2.1, u.2.2.2.1, (u.2.2.2.2.1, u.2.2.2.2.2.1 + 1, u.2.2.2.2.2.2.1, u.2.2.2.2.2.2.2.1, u.2.2.2.2.2.2.2.2.1, u.2.2.2.2.2.2.2.2.2))) (st2 := [.int (vX1_holds u.2.1 p0)]) (c_X1_holds (cI := cI) (cZ := cZ) (a 3) (a 4) (a 5) (a 6) (a 7) u.2.1 p0 (h0) (hf)) gX4_reference_X1_holds rfl rfl rfl ndX1_holds ⟨Nat.le_of_ble_eq_true rfl, Nat.le_of_ble_eq_true rfl⟩ ⟨Nat.le_of_ble_eq_true rfl, Nat.le_of_ble_eq_true rfl⟩ rfl rfl (Nat.le_of_ble_eq_true rfl) rfl rfl rfl rfl rfl rfl dX4_reference_15 rfl ?_
  generalize ev_15 : vX1_holds u.2.1 p0 = v_15
  refine G.if_eq (pc2 := 21) (tgt := 34) dX4_reference_18 rfl rfl (fun c_18 => ?_) (fun c_18 => ?_)
  · refine G.aload_n (pc2 := 35) (x := a 0) dX4_reference_34 rfl rfl rfl ?_
    refine G.dup (pc2 := 36) dX4_reference_35 rfl rfl ?_
    refine G.getf (pc2 := 39) (q0 := 0) (ci := 4) (k := 7) (v := .int u.2.2.2.2.2.2.2.1) iX4_reference_X4 kX4_reference_132 rfl rfl (by decide) rfl dX4_reference_36 rfl ?_
    refine G.iconst (pc2 := 40) (v := 1) dX4_reference_39 (by decide) rfl ?_
    refine G.iadd (pc2 := 41) (v := u.2.2.2.2.2.2.2.1 + 1) dX4_reference_40 rfl rfl ?_
    refine G.putf (pc2 := 44) (q0 := 0) (ci := 4) (k := 7) (ws2 := wX a cI cZ (u.1, u.2.1, u.2.2.1, u.2.2.2.1, (u.2.2.2.2.1, u.2.2.2.2.2.1 + 1, u.2.2.2.2.2.2.1, u.2.2.2.2.2.2.2.1 + 1, u.2.2.2.2.2.2.2.2.1, u.2.2.2.2.2.2.2.2.2))) iX4_reference_X4 kX4_reference_132 tyX4_ok nmX4 rfl rfl (by decide) rfl rfl rfl (Nat.le_of_ble_eq_true rfl) rfl dX4_reference_41 rfl ?_
    refine G.aload_n (pc2 := 45) (x := a 0) dX4_reference_44 rfl rfl rfl ?_
    refine G.callVd (pc2 := 48) (i := 0) (j := 14) (q0 := 0) (ci := 4) (As := []) (rest := []) (ws2 := wX a cI cZ (sX4_makeRoom (u.1, u.2.1, u.2.2.1, u.2.2.2.1, (u.2.2.2.2.1, u.2.2.2.2.2.1 + 1, u.2.2.2.2.2.2.1, u.2.2.2.2.2.2.2.1 + 1, u.2.2.2.2.2.2.2.2.1, u.2.2.2.2.2.2.2.2.2)))) (st2 := []) (c_X4_makeRoom (cI := cI) (cZ := cZ) a (u.1, u.2.1, u.2.2.1, u.2.2.2.1, (u.2.2.2.2.1, u.2.2.2.2.2.1 + 1, u.2.2.2.2.2.2.1, u.2.2.2.2.2.2.2.1 + 1, u.2.2.2.2.2.2.2.2.1, u.2.2.2.2.2.2.2.2.2)) (hq) (hh) (hf)) gX4_reference_X4_makeRoom rfl rfl rfl ndX4_makeRoom ⟨Nat.le_of_ble_eq_true rfl, Nat.le_of_ble_eq_true rfl⟩ ⟨Nat.le_of_ble_eq_true rfl, Nat.le_of_ble_eq_true rfl⟩ rfl rfl (Nat.le_of_ble_eq_true rfl) rfl rfl rfl rfl rfl rfl dX4_reference_45 rfl ?_
    generalize et_45 : sX4_makeRoom (u.1, u.2.1, u.2.2.1, u.2.2.2.1, (u.2.2.2.2.1, u.2.2.2.2.2.1 + 1, u.2.2.2.2.2.2.1, u.2.2.2.2.2.2.2.1 + 1, u.2.2.2.2.2.2.2.2.1, u.2.2.2.2.2.2.2.2.2)) = t_45
    refine G.aload_n (pc2 := 49) (x := a 0) dX4_reference_48 rfl rfl rfl ?_
    refine G.iload_n (pc2 := 50) (x := p0) dX4_reference_49 rfl rfl rfl ?_
    refine G.callVd (pc2 := 53) (i := 0) (j := 14) (q0 := 0) (ci := 4) (As := [.int p0]) (rest := []) (ws2 := wX a cI cZ (sX4_load t_45 p0)) (st2 := []) (c_X4_load (cI := cI) (cZ := cZ) a t_45 p0 (h0) (by subst et_45 ev_15; exact (qw_makeRoom hq))) gX4_reference_X4_load rfl rfl rfl ndX4_load ⟨Nat.le_of_ble_eq_true rfl, Nat.le_of_ble_eq_true rfl⟩ ⟨Nat.le_of_ble_eq_true rfl, Nat.le_of_ble_eq_true rfl⟩ rfl rfl (Nat.le_of_ble_eq_true rfl) rfl rfl rfl rfl rfl rfl dX4_reference_50 rfl ?_
    generalize et_50 : sX4_load t_45 p0 = t_50
    refine G.aload_n (pc2 := 54) (x := a 0) dX4_reference_53 rfl rfl rfl ?_
    refine G.iload_n (pc2 := 55) (x := p0) dX4_reference_54 rfl rfl rfl ?_
    refine G.callVd (pc2 := 58) (i := 0) (j := 14) (q0 := 0) (ci := 4) (As := [.int p0]) (rest := []) (ws2 := wX a cI cZ (sX4_forgetIfStale t_50 p0)) (st2 := []) (c_X4_forgetIfStale (cI := cI) (cZ := cZ) a t_50 p0 (h0) (by subst et_50 et_45 ev_15; exact (hw_load (hw_makeRoom hh)))) gX4_reference_X4_forgetIfStale rfl rfl rfl ndX4_forgetIfStale ⟨Nat.le_of_ble_eq_true rfl, Nat.le_of_ble_eq_true rfl⟩ ⟨Nat.le_of_ble_eq_true rfl, Nat.le_of_ble_eq_true rfl⟩ rfl rfl (Nat.le_of_ble_eq_true rfl) rfl rfl rfl rfl rfl rfl dX4_reference_55 rfl ?_
    generalize et_55 : sX4_forgetIfStale t_50 p0 = t_55
    refine G.aload_n (pc2 := 59) (x := a 0) dX4_reference_58 rfl rfl rfl ?_
    refine G.getf (pc2 := 62) (q0 := 0) (ci := 4) (k := 3) (v := .ref (a 11)) iX4_reference_X4 kX4_reference_33 rfl rfl (by decide) rfl dX4_reference_59 rfl ?_
    refine G.iload_n (pc2 := 63) (x := p0) dX4_reference_62 rfl rfl rfl ?_
    refine G.aload_n (pc2 := 64) (x := a 0) dX4_reference_63 rfl rfl rfl ?_
    refine G.getf (pc2 := 67) (q0 := 0) (ci := 4) (k := 5) (v := .int t_55.2.2.2.2.2.1) iX4_reference_X4 kX4_reference_111 rfl rfl (by decide) rfl dX4_reference_64 rfl ?_
    refine G.callVd (pc2 := 70) (i := 11) (j := 14) (q0 := 11) (ci := 2) (As := [.int p0, .int t_55.2.2.2.2.2.1]) (rest := []) (ws2 := wX a cI cZ (t_55.1, t_55.2.1, t_55.2.2.1, (sX2_record t_55.2.2.2.1 p0 t_55.2.2.2.2.2.1), t_55.2.2.2.2)) (st2 := []) (c_X2_record (cI := cI) (cZ := cZ) (a 11) (a 12) (a 13) t_55.2.2.2.1 p0 t_55.2.2.2.2.2.1 (h0)) gX4_reference_X2_record rfl rfl rfl ndX2_record ⟨Nat.le_of_ble_eq_true rfl, Nat.le_of_ble_eq_true rfl⟩ ⟨Nat.le_of_ble_eq_true rfl, Nat.le_of_ble_eq_true rfl⟩ rfl rfl (Nat.le_of_ble_eq_true rfl) rfl rfl rfl rfl rfl rfl dX4_reference_67 rfl ?_
    generalize et_67 : sX2_record t_55.2.2.2.1 p0 t_55.2.2.2.2.2.1 = t_67
    subst et_67 et_55 et_50 et_45 ev_15
    exact G.vreturn hR dX4_reference_70 ⟨rfl, congrArg (wX a cI cZ) (by simp only [sX4_reference, if_pos c_18])⟩
  · refine G.aload_n (pc2 := 22) (x := a 0) dX4_reference_21 rfl rfl rfl ?_
    refine G.dup (pc2 := 23) dX4_reference_22 rfl rfl ?_
    refine G.getf (pc2 := 26) (q0 := 0) (ci := 4) (k := 6) (v := .int u.2.2.2.2.2.2.1) iX4_reference_X4 kX4_reference_129 rfl rfl (by decide) rfl dX4_reference_23 rfl ?_
    refine G.iconst (pc2 := 27) (v := 1) dX4_reference_26 (by decide) rfl ?_
    refine G.iadd (pc2 := 28) (v := u.2.2.2.2.2.2.1 + 1) dX4_reference_27 rfl rfl ?_
    refine G.putf (pc2 := 31) (q0 := 0) (ci := 4) (k := 6) (ws2 := wX a cI cZ (u.1, u.2.1, u.2.2.1, u.2.2.2.1, (u.2.2.2.2.1, u.2.2.2.2.2.1 + 1, u.2.2.2.2.2.2.1 + 1, u.2.2.2.2.2.2.2.1, u.2.2.2.2.2.2.2.2.1, u.2.2.2.2.2.2.2.2.2))) iX4_reference_X4 kX4_reference_129 tyX4_ok nmX4 rfl rfl (by decide) rfl rfl rfl (Nat.le_of_ble_eq_true rfl) rfl dX4_reference_28 rfl ?_
    refine G.goto (tgt := 58) dX4_reference_31 rfl ?_
    refine G.aload_n (pc2 := 59) (x := a 0) dX4_reference_58 rfl rfl rfl ?_
    refine G.getf (pc2 := 62) (q0 := 0) (ci := 4) (k := 3) (v := .ref (a 11)) iX4_reference_X4 kX4_reference_33 rfl rfl (by decide) rfl dX4_reference_59 rfl ?_
    refine G.iload_n (pc2 := 63) (x := p0) dX4_reference_62 rfl rfl rfl ?_
    refine G.aload_n (pc2 := 64) (x := a 0) dX4_reference_63 rfl rfl rfl ?_
    refine G.getf (pc2 := 67) (q0 := 0) (ci := 4) (k := 5) (v := .int (u.2.2.2.2.2.1 + 1)) iX4_reference_X4 kX4_reference_111 rfl rfl (by decide) rfl dX4_reference_64 rfl ?_
    refine G.callVd (pc2 := 70) (i := 11) (j := 14) (q0 := 11) (ci := 2) (As := [.int p0, .int (u.2.2.2.2.2.1 + 1)]) (rest := []) (ws2 := wX a cI cZ (u.1, u.2.1, u.2.2.1, (sX2_record u.2.2.2.1 p0 (u.2.2.2.2.2.1 + 1)), (u.2.2.2.2.1, u.2.2.2.2.2.1 + 1, u.2.2.2.2.2.2.1 + 1, u.2.2.2.2.2.2.2.1, u.2.2.2.2.2.2.2.2.1, u.2.2.2.2.2.2.2.2.2))) (st2 := []) (c_X2_record (cI := cI) (cZ := cZ) (a 11) (a 12) (a 13) u.2.2.2.1 p0 (u.2.2.2.2.2.1 + 1) (h0)) gX4_reference_X2_record rfl rfl rfl ndX2_record ⟨Nat.le_of_ble_eq_true rfl, Nat.le_of_ble_eq_true rfl⟩ ⟨Nat.le_of_ble_eq_true rfl, Nat.le_of_ble_eq_true rfl⟩ rfl rfl (Nat.le_of_ble_eq_true rfl) rfl rfl rfl rfl rfl rfl dX4_reference_67 rfl ?_
    generalize et_67 : sX2_record u.2.2.2.1 p0 (u.2.2.2.2.2.1 + 1) = t_67
    subst et_67 ev_15
    exact G.vreturn hR dX4_reference_70 ⟨rfl, congrArg (wX a cI cZ) (by simp only [sX4_reference, if_neg c_18])⟩
set_option maxRecDepth 100000 in
set_option maxHeartbeats 4000000 in
theorem c_X4_read {cI cZ : ClassId} (a : Nat → Nat) (u : SX) (p0 : Int32) (hq : QW u.2.2.1) (hh : HW u.2.2.2.1) (hf : FW u.2.1) : Ct yX4_read wsX4_read rX4_read cI cZ [.ref (a 0), .int p0] (wX a cI cZ u) 0 0 (rt (some (vX4_read u p0)) (wX a cI cZ (sX4_read u p0))) := by
  refine Ct.of (cc := cX4_read) (nL := 2) (own := RX4) (by decide) rfl rfl (Nat.le_of_ble_eq_true rfl) rfl ?_
  intro K hR hN
  refine G.iload_n (pc2 := 1) (x := p0) dX4_read_0 rfl rfl rfl ?_
  refine G.callSd (pc2 := 4) (i := 0) (j := 0) (As := [.int p0]) (rest := []) (ws2 := wX a cI cZ u) (st2 := [.int (vX4_isPage p0)]) (c_X4_isPage (cI := cI) (cZ := cZ) p0) gX4_read_X4_isPage rfl rfl rfl ndX4_isPage.2 ⟨Nat.le_of_ble_eq_true rfl, Nat.le_of_ble_eq_true rfl⟩ ⟨Nat.le_of_ble_eq_true rfl, Nat.le_of_ble_eq_true rfl⟩ rfl rfl (Nat.le_of_ble_eq_true rfl) rfl rfl rfl dX4_read_1 rfl ?_
  generalize ev_1 : vX4_isPage p0 = v_1
  refine G.if_ne (pc2 := 7) (tgt := 9) dX4_read_4 rfl rfl (fun c_4 => ?_) (fun c_4 => ?_)
  · refine G.aload_n (pc2 := 10) (x := a 0) dX4_read_9 rfl rfl rfl ?_
    refine G.iload_n (pc2 := 11) (x := p0) dX4_read_10 rfl rfl rfl ?_
    refine G.callVd (pc2 := 14) (i := 0) (j := 14) (q0 := 0) (ci := 4) (As := [.int p0]) (rest := []) (ws2 := wX a cI cZ u) (st2 := [.int (vX4_canReference u p0)]) (c_X4_canReference (cI := cI) (cZ := cZ) a u p0 (by subst ev_1; exact (pgX c_4)) (hh) (hf)) gX4_read_X4_canReference rfl rfl rfl ndX4_canReference ⟨Nat.le_of_ble_eq_true rfl, Nat.le_of_ble_eq_true rfl⟩ ⟨Nat.le_of_ble_eq_true rfl, Nat.le_of_ble_eq_true rfl⟩ rfl rfl (Nat.le_of_ble_eq_true rfl) rfl rfl rfl rfl rfl rfl dX4_read_11 rfl ?_
    generalize ev_11 : vX4_canReference u p0 = v_11
    refine G.if_ne (pc2 := 17) (tgt := 20) dX4_read_14 rfl rfl (fun c_14 => ?_) (fun c_14 => ?_)
    · refine G.aload_n (pc2 := 21) (x := a 0) dX4_read_20 rfl rfl rfl ?_
      refine G.iload_n (pc2 := 22) (x := p0) dX4_read_21 rfl rfl rfl ?_
      refine G.callVd (pc2 := 25) (i := 0) (j := 14) (q0 := 0) (ci := 4) (As := [.int p0]) (rest := []) (ws2 := wX a cI cZ (sX4_reference u p0)) (st2 := []) (c_X4_reference (cI := cI) (cZ := cZ) a u p0 (by subst ev_11 ev_1; exact (pgX c_4)) (hq) (hh) (hf)) gX4_read_X4_reference rfl rfl rfl ndX4_reference ⟨Nat.le_of_ble_eq_true rfl, Nat.le_of_ble_eq_true rfl⟩ ⟨Nat.le_of_ble_eq_true rfl, Nat.le_of_ble_eq_true rfl⟩ rfl rfl (Nat.le_of_ble_eq_true rfl) rfl rfl rfl rfl rfl rfl dX4_read_22 rfl ?_
      generalize et_22 : sX4_reference u p0 = t_22
      refine G.aload_n (pc2 := 26) (x := a 0) dX4_read_25 rfl rfl rfl ?_
      refine G.getf (pc2 := 29) (q0 := 0) (ci := 4) (k := 1) (v := .ref (a 3)) iX4_read_X4 kX4_read_19 rfl rfl (by decide) rfl dX4_read_26 rfl ?_
      refine G.iload_n (pc2 := 30) (x := p0) dX4_read_29 rfl rfl rfl ?_
      refine G.callVd (pc2 := 33) (i := 3) (j := 8) (q0 := 3) (ci := 1) (As := [.int p0]) (rest := []) (ws2 := wX a cI cZ t_22) (st2 := [.int (vX1_valueOf t_22.2.1 p0)]) (c_X1_valueOf (cI := cI) (cZ := cZ) (a 3) (a 4) (a 5) (a 6) (a 7) t_22.2.1 p0 (by subst et_22 ev_11 ev_1; exact (pgX c_4))) gX4_read_X1_valueOf rfl rfl rfl ndX1_valueOf ⟨Nat.le_of_ble_eq_true rfl, Nat.le_of_ble_eq_true rfl⟩ ⟨Nat.le_of_ble_eq_true rfl, Nat.le_of_ble_eq_true rfl⟩ rfl rfl (Nat.le_of_ble_eq_true rfl) rfl rfl rfl rfl rfl rfl dX4_read_30 rfl ?_
      generalize ev_30 : vX1_valueOf t_22.2.1 p0 = v_30
      subst ev_30 et_22 ev_11 ev_1
      exact G.ireturn hR (rfl) dX4_read_33 ⟨congrArg some (by simp only [vX4_read, if_neg c_4, if_neg c_14]), congrArg (wX a cI cZ) (by simp only [sX4_read, if_neg c_4, if_neg c_14])⟩
    · refine G.bipush (pc2 := 19) (v := (-3)) dX4_read_17 (by decide) rfl ?_
      subst ev_11 ev_1
      exact G.ireturn hR (rfl) dX4_read_19 ⟨congrArg some (by simp only [vX4_read, if_neg c_4, if_pos c_14]), congrArg (wX a cI cZ) (by simp only [sX4_read, if_neg c_4, if_pos c_14])⟩
  · refine G.iconst (pc2 := 8) (v := (-1)) dX4_read_7 (by decide) rfl ?_
    subst ev_1
    exact G.ireturn hR (rfl) dX4_read_8 ⟨congrArg some (by simp only [vX4_read, if_pos c_4]), congrArg (wX a cI cZ) (by simp only [sX4_read, if_pos c_4])⟩
set_option maxRecDepth 100000 in
set_option maxHeartbeats 4000000 in
theorem c_X4_write {cI cZ : ClassId} (a : Nat → Nat) (u : SX) (p0 p1 : Int32) (hq : QW u.2.2.1) (hh : HW u.2.2.2.1) (hf : FW u.2.1) : Ct yX4_write wsX4_write rX4_write cI cZ [.ref (a 0), .int p0, .int p1] (wX a cI cZ u) 0 0 (rt (some (vX4_write u p0 p1)) (wX a cI cZ (sX4_write u p0 p1))) := by
  refine Ct.of (cc := cX4_write) (nL := 4) (own := RX4) (by decide) rfl rfl (Nat.le_of_ble_eq_true rfl) rfl ?_
  intro K hR hN
  refine G.iload_n (pc2 := 1) (x := p0) dX4_write_0 rfl rfl rfl ?_
  refine G.callSd (pc2 := 4) (i := 0) (j := 0) (As := [.int p0]) (rest := []) (ws2 := wX a cI cZ u) (st2 := [.int (vX4_isPage p0)]) (c_X4_isPage (cI := cI) (cZ := cZ) p0) gX4_write_X4_isPage rfl rfl rfl ndX4_isPage.2 ⟨Nat.le_of_ble_eq_true rfl, Nat.le_of_ble_eq_true rfl⟩ ⟨Nat.le_of_ble_eq_true rfl, Nat.le_of_ble_eq_true rfl⟩ rfl rfl (Nat.le_of_ble_eq_true rfl) rfl rfl rfl dX4_write_1 rfl ?_
  generalize ev_1 : vX4_isPage p0 = v_1
  refine G.if_ne (pc2 := 7) (tgt := 9) dX4_write_4 rfl rfl (fun c_4 => ?_) (fun c_4 => ?_)
  · refine G.iload_n (pc2 := 10) (x := p1) dX4_write_9 rfl rfl rfl ?_
    refine G.iconst (pc2 := 11) (v := 0) dX4_write_10 (by decide) rfl ?_
    refine G.sipush (pc2 := 14) (v := 9999) dX4_write_11 (by decide) rfl ?_
    refine G.callSd (pc2 := 17) (i := 0) (j := 0) (As := [.int p1, .int 0, .int 9999]) (rest := []) (ws2 := wX a cI cZ u) (st2 := [.int (vX4_isWithin p1 0 9999)]) (c_X4_isWithin (cI := cI) (cZ := cZ) p1 0 9999) gX4_write_X4_isWithin rfl rfl rfl ndX4_isWithin.2 ⟨Nat.le_of_ble_eq_true rfl, Nat.le_of_ble_eq_true rfl⟩ ⟨Nat.le_of_ble_eq_true rfl, Nat.le_of_ble_eq_true rfl⟩ rfl rfl (Nat.le_of_ble_eq_true rfl) rfl rfl rfl dX4_write_14 rfl ?_
    generalize ev_14 : vX4_isWithin p1 0 9999 = v_14
    refine G.if_ne (pc2 := 20) (tgt := 23) dX4_write_17 rfl rfl (fun c_17 => ?_) (fun c_17 => ?_)
    · refine G.aload_n (pc2 := 24) (x := a 0) dX4_write_23 rfl rfl rfl ?_
      refine G.iload_n (pc2 := 25) (x := p0) dX4_write_24 rfl rfl rfl ?_
      refine G.callVd (pc2 := 28) (i := 0) (j := 14) (q0 := 0) (ci := 4) (As := [.int p0]) (rest := []) (ws2 := wX a cI cZ u) (st2 := [.int (vX4_canReference u p0)]) (c_X4_canReference (cI := cI) (cZ := cZ) a u p0 (by subst ev_14 ev_1; exact (pgX c_4)) (hh) (hf)) gX4_write_X4_canReference rfl rfl rfl ndX4_canReference ⟨Nat.le_of_ble_eq_true rfl, Nat.le_of_ble_eq_true rfl⟩ ⟨Nat.le_of_ble_eq_true rfl, Nat.le_of_ble_eq_true rfl⟩ rfl rfl (Nat.le_of_ble_eq_true rfl) rfl rfl rfl rfl rfl rfl dX4_write_25 rfl ?_
      generalize ev_25 : vX4_canReference u p0 = v_25
      refine G.if_ne (pc2 := 31) (tgt := 34) dX4_write_28 rfl rfl (fun c_28 => ?_) (fun c_28 => ?_)
      · refine G.aload_n (pc2 := 35) (x := a 0) dX4_write_34 rfl rfl rfl ?_
        refine G.iload_n (pc2 := 36) (x := p0) dX4_write_35 rfl rfl rfl ?_
        refine G.callVd (pc2 := 39) (i := 0) (j := 14) (q0 := 0) (ci := 4) (As := [.int p0]) (rest := []) (ws2 := wX a cI cZ (sX4_reference u p0)) (st2 := []) (c_X4_reference (cI := cI) (cZ := cZ) a u p0 (by subst ev_25 ev_14 ev_1; exact (pgX c_4)) (hq) (hh) (hf)) gX4_write_X4_reference rfl rfl rfl ndX4_reference ⟨Nat.le_of_ble_eq_true rfl, Nat.le_of_ble_eq_true rfl⟩ ⟨Nat.le_of_ble_eq_true rfl, Nat.le_of_ble_eq_true rfl⟩ rfl rfl (Nat.le_of_ble_eq_true rfl) rfl rfl rfl rfl rfl rfl dX4_write_36 rfl ?_
        generalize et_36 : sX4_reference u p0 = t_36
        refine G.aload_n (pc2 := 40) (x := a 0) dX4_write_39 rfl rfl rfl ?_
        refine G.getf (pc2 := 43) (q0 := 0) (ci := 4) (k := 1) (v := .ref (a 3)) iX4_write_X4 kX4_write_19 rfl rfl (by decide) rfl dX4_write_40 rfl ?_
        refine G.iload_n (pc2 := 44) (x := p0) dX4_write_43 rfl rfl rfl ?_
        refine G.callVd (pc2 := 47) (i := 3) (j := 8) (q0 := 3) (ci := 1) (As := [.int p0]) (rest := []) (ws2 := wX a cI cZ t_36) (st2 := [.int (vX1_valueOf t_36.2.1 p0)]) (c_X1_valueOf (cI := cI) (cZ := cZ) (a 3) (a 4) (a 5) (a 6) (a 7) t_36.2.1 p0 (by subst et_36 ev_25 ev_14 ev_1; exact (pgX c_4))) gX4_write_X1_valueOf rfl rfl rfl ndX1_valueOf ⟨Nat.le_of_ble_eq_true rfl, Nat.le_of_ble_eq_true rfl⟩ ⟨Nat.le_of_ble_eq_true rfl, Nat.le_of_ble_eq_true rfl⟩ rfl rfl (Nat.le_of_ble_eq_true rfl) rfl rfl rfl rfl rfl rfl dX4_write_44 rfl ?_
        generalize ev_44 : vX1_valueOf t_36.2.1 p0 = v_44
        refine G.istore_n (pc2 := 48) (lv2 := [(0, .ref (a 0)), (1, .int p0), (2, .int p1), (3, .int v_44)]) [1, 2, 3, 0] dX4_write_47 rfl (by decide) rfl rfl ?_
        refine G.aload_n (pc2 := 49) (x := a 0) dX4_write_48 rfl rfl rfl ?_
        refine G.getf (pc2 := 52) (q0 := 0) (ci := 4) (k := 1) (v := .ref (a 3)) iX4_write_X4 kX4_write_19 rfl rfl (by decide) rfl dX4_write_49 rfl ?_
        refine G.iload_n (pc2 := 53) (x := p0) dX4_write_52 rfl rfl rfl ?_
        refine G.iload_n (pc2 := 54) (x := p1) dX4_write_53 rfl rfl rfl ?_
        refine G.callVd (pc2 := 57) (i := 3) (j := 8) (q0 := 3) (ci := 1) (As := [.int p0, .int p1]) (rest := []) (ws2 := wX a cI cZ (t_36.1, (sX1_change t_36.2.1 p0 p1), t_36.2.2.1, t_36.2.2.2.1, t_36.2.2.2.2)) (st2 := []) (c_X1_change (cI := cI) (cZ := cZ) (a 3) (a 4) (a 5) (a 6) (a 7) t_36.2.1 p0 p1 (by subst ev_44 et_36 ev_25 ev_14 ev_1; exact (pgX c_4))) gX4_write_X1_change rfl rfl rfl ndX1_change ⟨Nat.le_of_ble_eq_true rfl, Nat.le_of_ble_eq_true rfl⟩ ⟨Nat.le_of_ble_eq_true rfl, Nat.le_of_ble_eq_true rfl⟩ rfl rfl (Nat.le_of_ble_eq_true rfl) rfl rfl rfl rfl rfl rfl dX4_write_54 rfl ?_
        generalize et_54 : sX1_change t_36.2.1 p0 p1 = t_54
        refine G.iload_n (pc2 := 58) (x := v_44) dX4_write_57 rfl rfl rfl ?_
        subst et_54 ev_44 et_36 ev_25 ev_14 ev_1
        exact G.ireturn hR (rfl) dX4_write_58 ⟨congrArg some (by simp only [vX4_write, if_neg c_4, if_neg c_17, if_neg c_28]), congrArg (wX a cI cZ) (by simp only [sX4_write, if_neg c_4, if_neg c_17, if_neg c_28])⟩
      · refine G.bipush (pc2 := 33) (v := (-3)) dX4_write_31 (by decide) rfl ?_
        subst ev_25 ev_14 ev_1
        exact G.ireturn hR (rfl) dX4_write_33 ⟨congrArg some (by simp only [vX4_write, if_neg c_4, if_neg c_17, if_pos c_28]), congrArg (wX a cI cZ) (by simp only [sX4_write, if_neg c_4, if_neg c_17, if_pos c_28])⟩
    · refine G.bipush (pc2 := 22) (v := (-2)) dX4_write_20 (by decide) rfl ?_
      subst ev_14 ev_1
      exact G.ireturn hR (rfl) dX4_write_22 ⟨congrArg some (by simp only [vX4_write, if_neg c_4, if_pos c_17]), congrArg (wX a cI cZ) (by simp only [sX4_write, if_neg c_4, if_pos c_17])⟩
  · refine G.iconst (pc2 := 8) (v := (-1)) dX4_write_7 (by decide) rfl ?_
    subst ev_1
    exact G.ireturn hR (rfl) dX4_write_8 ⟨congrArg some (by simp only [vX4_write, if_pos c_4]), congrArg (wX a cI cZ) (by simp only [sX4_write, if_pos c_4])⟩
set_option maxRecDepth 100000 in
set_option maxHeartbeats 4000000 in
theorem c_X4_pin {cI cZ : ClassId} (a : Nat → Nat) (u : SX) (p0 : Int32) (hq : QW u.2.2.1) (hh : HW u.2.2.2.1) (hf : FW u.2.1) : Ct yX4_pin wsX4_pin rX4_pin cI cZ [.ref (a 0), .int p0] (wX a cI cZ u) 0 0 (rt (some (vX4_pin u p0)) (wX a cI cZ (sX4_pin u p0))) := by
  refine Ct.of (cc := cX4_pin) (nL := 2) (own := RX4) (by decide) rfl rfl (Nat.le_of_ble_eq_true rfl) rfl ?_
  intro K hR hN
  refine G.iload_n (pc2 := 1) (x := p0) dX4_pin_0 rfl rfl rfl ?_
  refine G.callSd (pc2 := 4) (i := 0) (j := 0) (As := [.int p0]) (rest := []) (ws2 := wX a cI cZ u) (st2 := [.int (vX4_isPage p0)]) (c_X4_isPage (cI := cI) (cZ := cZ) p0) gX4_pin_X4_isPage rfl rfl rfl ndX4_isPage.2 ⟨Nat.le_of_ble_eq_true rfl, Nat.le_of_ble_eq_true rfl⟩ ⟨Nat.le_of_ble_eq_true rfl, Nat.le_of_ble_eq_true rfl⟩ rfl rfl (Nat.le_of_ble_eq_true rfl) rfl rfl rfl dX4_pin_1 rfl ?_
  generalize ev_1 : vX4_isPage p0 = v_1
  refine G.if_ne (pc2 := 7) (tgt := 9) dX4_pin_4 rfl rfl (fun c_4 => ?_) (fun c_4 => ?_)
  · refine G.aload_n (pc2 := 10) (x := a 0) dX4_pin_9 rfl rfl rfl ?_
    refine G.getf (pc2 := 13) (q0 := 0) (ci := 4) (k := 1) (v := .ref (a 3)) iX4_pin_X4 kX4_pin_19 rfl rfl (by decide) rfl dX4_pin_10 rfl ?_
    refine G.iload_n (pc2 := 14) (x := p0) dX4_pin_13 rfl rfl rfl ?_
    refine G.callVd (pc2 := 17) (i := 3) (j := 8) (q0 := 3) (ci := 1) (As := [.int p0]) (rest := []) (ws2 := wX a cI cZ u) (st2 := [.int (vX1_pinsOf u.2.1 p0)]) (c_X1_pinsOf (cI := cI) (cZ := cZ) (a 3) (a 4) (a 5) (a 6) (a 7) u.2.1 p0 (by subst ev_1; exact (pgX c_4))) gX4_pin_X1_pinsOf rfl rfl rfl ndX1_pinsOf ⟨Nat.le_of_ble_eq_true rfl, Nat.le_of_ble_eq_true rfl⟩ ⟨Nat.le_of_ble_eq_true rfl, Nat.le_of_ble_eq_true rfl⟩ rfl rfl (Nat.le_of_ble_eq_true rfl) rfl rfl rfl rfl rfl rfl dX4_pin_14 rfl ?_
    generalize ev_14 : vX1_pinsOf u.2.1 p0 = v_14
    refine G.bipush (pc2 := 19) (v := 9) dX4_pin_17 (by decide) rfl ?_
    refine G.icmp_lt (pc2 := 22) (tgt := 25) dX4_pin_19 rfl rfl (fun c_19 => ?_) (fun c_19 => ?_)
    · refine G.aload_n (pc2 := 26) (x := a 0) dX4_pin_25 rfl rfl rfl ?_
      refine G.iload_n (pc2 := 27) (x := p0) dX4_pin_26 rfl rfl rfl ?_
      refine G.callVd (pc2 := 30) (i := 0) (j := 14) (q0 := 0) (ci := 4) (As := [.int p0]) (rest := []) (ws2 := wX a cI cZ u) (st2 := [.int (vX4_canReference u p0)]) (c_X4_canReference (cI := cI) (cZ := cZ) a u p0 (by subst ev_14 ev_1; exact (pgX c_4)) (hh) (hf)) gX4_pin_X4_canReference rfl rfl rfl ndX4_canReference ⟨Nat.le_of_ble_eq_true rfl, Nat.le_of_ble_eq_true rfl⟩ ⟨Nat.le_of_ble_eq_true rfl, Nat.le_of_ble_eq_true rfl⟩ rfl rfl (Nat.le_of_ble_eq_true rfl) rfl rfl rfl rfl rfl rfl dX4_pin_27 rfl ?_
      generalize ev_27 : vX4_canReference u p0 = v_27
      refine G.if_ne (pc2 := 33) (tgt := 36) dX4_pin_30 rfl rfl (fun c_30 => ?_) (fun c_30 => ?_)
      · refine G.aload_n (pc2 := 37) (x := a 0) dX4_pin_36 rfl rfl rfl ?_
        refine G.iload_n (pc2 := 38) (x := p0) dX4_pin_37 rfl rfl rfl ?_
        refine G.callVd (pc2 := 41) (i := 0) (j := 14) (q0 := 0) (ci := 4) (As := [.int p0]) (rest := []) (ws2 := wX a cI cZ (sX4_reference u p0)) (st2 := []) (c_X4_reference (cI := cI) (cZ := cZ) a u p0 (by subst ev_27 ev_14 ev_1; exact (pgX c_4)) (hq) (hh) (hf)) gX4_pin_X4_reference rfl rfl rfl ndX4_reference ⟨Nat.le_of_ble_eq_true rfl, Nat.le_of_ble_eq_true rfl⟩ ⟨Nat.le_of_ble_eq_true rfl, Nat.le_of_ble_eq_true rfl⟩ rfl rfl (Nat.le_of_ble_eq_true rfl) rfl rfl rfl rfl rfl rfl dX4_pin_38 rfl ?_
        generalize et_38 : sX4_reference u p0 = t_38
        refine G.aload_n (pc2 := 42) (x := a 0) dX4_pin_41 rfl rfl rfl ?_
        refine G.getf (pc2 := 45) (q0 := 0) (ci := 4) (k := 1) (v := .ref (a 3)) iX4_pin_X4 kX4_pin_19 rfl rfl (by decide) rfl dX4_pin_42 rfl ?_
        refine G.iload_n (pc2 := 46) (x := p0) dX4_pin_45 rfl rfl rfl ?_
        refine G.callVd (pc2 := 49) (i := 3) (j := 8) (q0 := 3) (ci := 1) (As := [.int p0]) (rest := []) (ws2 := wX a cI cZ (t_38.1, (sX1_addPin t_38.2.1 p0), t_38.2.2.1, t_38.2.2.2.1, t_38.2.2.2.2)) (st2 := []) (c_X1_addPin (cI := cI) (cZ := cZ) (a 3) (a 4) (a 5) (a 6) (a 7) t_38.2.1 p0 (by subst et_38 ev_27 ev_14 ev_1; exact (pgX c_4))) gX4_pin_X1_addPin rfl rfl rfl ndX1_addPin ⟨Nat.le_of_ble_eq_true rfl, Nat.le_of_ble_eq_true rfl⟩ ⟨Nat.le_of_ble_eq_true rfl, Nat.le_of_ble_eq_true rfl⟩ rfl rfl (Nat.le_of_ble_eq_true rfl) rfl rfl rfl rfl rfl rfl dX4_pin_46 rfl ?_
        generalize et_46 : sX1_addPin t_38.2.1 p0 = t_46
        refine G.aload_n (pc2 := 50) (x := a 0) dX4_pin_49 rfl rfl rfl ?_
        refine G.getf (pc2 := 53) (q0 := 0) (ci := 4) (k := 1) (v := .ref (a 3)) iX4_pin_X4 kX4_pin_19 rfl rfl (by decide) rfl dX4_pin_50 rfl ?_
        refine G.iload_n (pc2 := 54) (x := p0) dX4_pin_53 rfl rfl rfl ?_
        refine G.callVd (pc2 := 57) (i := 3) (j := 8) (q0 := 3) (ci := 1) (As := [.int p0]) (rest := []) (ws2 := wX a cI cZ (t_38.1, t_46, t_38.2.2.1, t_38.2.2.2.1, t_38.2.2.2.2)) (st2 := [.int (vX1_pinsOf t_46 p0)]) (c_X1_pinsOf (cI := cI) (cZ := cZ) (a 3) (a 4) (a 5) (a 6) (a 7) t_46 p0 (by subst et_46 et_38 ev_27 ev_14 ev_1; exact (pgX c_4))) gX4_pin_X1_pinsOf rfl rfl rfl ndX1_pinsOf ⟨Nat.le_of_ble_eq_true rfl, Nat.le_of_ble_eq_true rfl⟩ ⟨Nat.le_of_ble_eq_true rfl, Nat.le_of_ble_eq_true rfl⟩ rfl rfl (Nat.le_of_ble_eq_true rfl) rfl rfl rfl rfl rfl rfl dX4_pin_54 rfl ?_
        generalize ev_54 : vX1_pinsOf t_46 p0 = v_54
        subst ev_54 et_46 et_38 ev_27 ev_14 ev_1
        exact G.ireturn hR (rfl) dX4_pin_57 ⟨congrArg some (by simp only [vX4_pin, if_neg c_4, if_pos c_19, if_neg c_30]), congrArg (wX a cI cZ) (by simp only [sX4_pin, if_neg c_4, if_pos c_19, if_neg c_30])⟩
      · refine G.bipush (pc2 := 35) (v := (-3)) dX4_pin_33 (by decide) rfl ?_
        subst ev_27 ev_14 ev_1
        exact G.ireturn hR (rfl) dX4_pin_35 ⟨congrArg some (by simp only [vX4_pin, if_neg c_4, if_pos c_19, if_pos c_30]), congrArg (wX a cI cZ) (by simp only [sX4_pin, if_neg c_4, if_pos c_19, if_pos c_30])⟩
    · refine G.bipush (pc2 := 24) (v := (-6)) dX4_pin_22 (by decide) rfl ?_
      subst ev_14 ev_1
      exact G.ireturn hR (rfl) dX4_pin_24 ⟨congrArg some (by simp only [vX4_pin, if_neg c_4, if_neg c_19]), congrArg (wX a cI cZ) (by simp only [sX4_pin, if_neg c_4, if_neg c_19])⟩
  · refine G.iconst (pc2 := 8) (v := (-1)) dX4_pin_7 (by decide) rfl ?_
    subst ev_1
    exact G.ireturn hR (rfl) dX4_pin_8 ⟨congrArg some (by simp only [vX4_pin, if_pos c_4]), congrArg (wX a cI cZ) (by simp only [sX4_pin, if_pos c_4])⟩
set_option maxRecDepth 100000 in
set_option maxHeartbeats 4000000 in
theorem c_X4_unpin {cI cZ : ClassId} (a : Nat → Nat) (u : SX) (p0 : Int32) (hf : FW u.2.1) : Ct yX4_unpin wsX4_unpin rX4_unpin cI cZ [.ref (a 0), .int p0] (wX a cI cZ u) 0 0 (rt (some (vX4_unpin u p0)) (wX a cI cZ (sX4_unpin u p0))) := by
  refine Ct.of (cc := cX4_unpin) (nL := 2) (own := RX4) (by decide) rfl rfl (Nat.le_of_ble_eq_true rfl) rfl ?_
  intro K hR hN
  refine G.iload_n (pc2 := 1) (x := p0) dX4_unpin_0 rfl rfl rfl ?_
  refine G.callSd (pc2 := 4) (i := 0) (j := 0) (As := [.int p0]) (rest := []) (ws2 := wX a cI cZ u) (st2 := [.int (vX4_isPage p0)]) (c_X4_isPage (cI := cI) (cZ := cZ) p0) gX4_unpin_X4_isPage rfl rfl rfl ndX4_isPage.2 ⟨Nat.le_of_ble_eq_true rfl, Nat.le_of_ble_eq_true rfl⟩ ⟨Nat.le_of_ble_eq_true rfl, Nat.le_of_ble_eq_true rfl⟩ rfl rfl (Nat.le_of_ble_eq_true rfl) rfl rfl rfl dX4_unpin_1 rfl ?_
  generalize ev_1 : vX4_isPage p0 = v_1
  refine G.if_ne (pc2 := 7) (tgt := 9) dX4_unpin_4 rfl rfl (fun c_4 => ?_) (fun c_4 => ?_)
  · refine G.aload_n (pc2 := 10) (x := a 0) dX4_unpin_9 rfl rfl rfl ?_
    refine G.getf (pc2 := 13) (q0 := 0) (ci := 4) (k := 1) (v := .ref (a 3)) iX4_unpin_X4 kX4_unpin_19 rfl rfl (by decide) rfl dX4_unpin_10 rfl ?_
    refine G.iload_n (pc2 := 14) (x := p0) dX4_unpin_13 rfl rfl rfl ?_
    refine G.callVd (pc2 := 17) (i := 3) (j := 8) (q0 := 3) (ci := 1) (As := [.int p0]) (rest := []) (ws2 := wX a cI cZ u) (st2 := [.int (vX1_holds u.2.1 p0)]) (c_X1_holds (cI := cI) (cZ := cZ) (a 3) (a 4) (a 5) (a 6) (a 7) u.2.1 p0 (by subst ev_1; exact (pgX c_4)) (hf)) gX4_unpin_X1_holds rfl rfl rfl ndX1_holds ⟨Nat.le_of_ble_eq_true rfl, Nat.le_of_ble_eq_true rfl⟩ ⟨Nat.le_of_ble_eq_true rfl, Nat.le_of_ble_eq_true rfl⟩ rfl rfl (Nat.le_of_ble_eq_true rfl) rfl rfl rfl rfl rfl rfl dX4_unpin_14 rfl ?_
    generalize ev_14 : vX1_holds u.2.1 p0 = v_14
    refine G.if_ne (pc2 := 20) (tgt := 23) dX4_unpin_17 rfl rfl (fun c_17 => ?_) (fun c_17 => ?_)
    · refine G.aload_n (pc2 := 24) (x := a 0) dX4_unpin_23 rfl rfl rfl ?_
      refine G.getf (pc2 := 27) (q0 := 0) (ci := 4) (k := 1) (v := .ref (a 3)) iX4_unpin_X4 kX4_unpin_19 rfl rfl (by decide) rfl dX4_unpin_24 rfl ?_
      refine G.iload_n (pc2 := 28) (x := p0) dX4_unpin_27 rfl rfl rfl ?_
      refine G.callVd (pc2 := 31) (i := 3) (j := 8) (q0 := 3) (ci := 1) (As := [.int p0]) (rest := []) (ws2 := wX a cI cZ u) (st2 := [.int (vX1_pinsOf u.2.1 p0)]) (c_X1_pinsOf (cI := cI) (cZ := cZ) (a 3) (a 4) (a 5) (a 6) (a 7) u.2.1 p0 (by subst ev_14 ev_1; exact (pgX c_4))) gX4_unpin_X1_pinsOf rfl rfl rfl ndX1_pinsOf ⟨Nat.le_of_ble_eq_true rfl, Nat.le_of_ble_eq_true rfl⟩ ⟨Nat.le_of_ble_eq_true rfl, Nat.le_of_ble_eq_true rfl⟩ rfl rfl (Nat.le_of_ble_eq_true rfl) rfl rfl rfl rfl rfl rfl dX4_unpin_28 rfl ?_
      generalize ev_28 : vX1_pinsOf u.2.1 p0 = v_28
      refine G.if_ne (pc2 := 34) (tgt := 37) dX4_unpin_31 rfl rfl (fun c_31 => ?_) (fun c_31 => ?_)
      · refine G.aload_n (pc2 := 38) (x := a 0) dX4_unpin_37 rfl rfl rfl ?_
        refine G.getf (pc2 := 41) (q0 := 0) (ci := 4) (k := 1) (v := .ref (a 3)) iX4_unpin_X4 kX4_unpin_19 rfl rfl (by decide) rfl dX4_unpin_38 rfl ?_
        refine G.iload_n (pc2 := 42) (x := p0) dX4_unpin_41 rfl rfl rfl ?_
        refine G.callVd (pc2 := 45) (i := 3) (j := 8) (q0 := 3) (ci := 1) (As := [.int p0]) (rest := []) (ws2 := wX a cI cZ (u.1, (sX1_removePin u.2.1 p0), u.2.2.1, u.2.2.2.1, u.2.2.2.2)) (st2 := []) (c_X1_removePin (cI := cI) (cZ := cZ) (a 3) (a 4) (a 5) (a 6) (a 7) u.2.1 p0 (by subst ev_28 ev_14 ev_1; exact (pgX c_4))) gX4_unpin_X1_removePin rfl rfl rfl ndX1_removePin ⟨Nat.le_of_ble_eq_true rfl, Nat.le_of_ble_eq_true rfl⟩ ⟨Nat.le_of_ble_eq_true rfl, Nat.le_of_ble_eq_true rfl⟩ rfl rfl (Nat.le_of_ble_eq_true rfl) rfl rfl rfl rfl rfl rfl dX4_unpin_42 rfl ?_
        generalize et_42 : sX1_removePin u.2.1 p0 = t_42
        refine G.aload_n (pc2 := 46) (x := a 0) dX4_unpin_45 rfl rfl rfl ?_
        refine G.getf (pc2 := 49) (q0 := 0) (ci := 4) (k := 1) (v := .ref (a 3)) iX4_unpin_X4 kX4_unpin_19 rfl rfl (by decide) rfl dX4_unpin_46 rfl ?_
        refine G.iload_n (pc2 := 50) (x := p0) dX4_unpin_49 rfl rfl rfl ?_
        refine G.callVd (pc2 := 53) (i := 3) (j := 8) (q0 := 3) (ci := 1) (As := [.int p0]) (rest := []) (ws2 := wX a cI cZ (u.1, t_42, u.2.2.1, u.2.2.2.1, u.2.2.2.2)) (st2 := [.int (vX1_pinsOf t_42 p0)]) (c_X1_pinsOf (cI := cI) (cZ := cZ) (a 3) (a 4) (a 5) (a 6) (a 7) t_42 p0 (by subst et_42 ev_28 ev_14 ev_1; exact (pgX c_4))) gX4_unpin_X1_pinsOf rfl rfl rfl ndX1_pinsOf ⟨Nat.le_of_ble_eq_true rfl, Nat.le_of_ble_eq_true rfl⟩ ⟨Nat.le_of_ble_eq_true rfl, Nat.le_of_ble_eq_true rfl⟩ rfl rfl (Nat.le_of_ble_eq_true rfl) rfl rfl rfl rfl rfl rfl dX4_unpin_50 rfl ?_
        generalize ev_50 : vX1_pinsOf t_42 p0 = v_50
        subst ev_50 et_42 ev_28 ev_14 ev_1
        exact G.ireturn hR (rfl) dX4_unpin_53 ⟨congrArg some (by simp only [vX4_unpin, if_neg c_4, if_neg c_17, if_neg c_31]), congrArg (wX a cI cZ) (by simp only [sX4_unpin, if_neg c_4, if_neg c_17, if_neg c_31])⟩
      · refine G.bipush (pc2 := 36) (v := (-5)) dX4_unpin_34 (by decide) rfl ?_
        subst ev_28 ev_14 ev_1
        exact G.ireturn hR (rfl) dX4_unpin_36 ⟨congrArg some (by simp only [vX4_unpin, if_neg c_4, if_neg c_17, if_pos c_31]), congrArg (wX a cI cZ) (by simp only [sX4_unpin, if_neg c_4, if_neg c_17, if_pos c_31])⟩
    · refine G.bipush (pc2 := 22) (v := (-4)) dX4_unpin_20 (by decide) rfl ?_
      subst ev_14 ev_1
      exact G.ireturn hR (rfl) dX4_unpin_22 ⟨congrArg some (by simp only [vX4_unpin, if_neg c_4, if_pos c_17]), congrArg (wX a cI cZ) (by simp only [sX4_unpin, if_neg c_4, if_pos c_17])⟩
  · refine G.iconst (pc2 := 8) (v := (-1)) dX4_unpin_7 (by decide) rfl ?_
    subst ev_1
    exact G.ireturn hR (rfl) dX4_unpin_8 ⟨congrArg some (by simp only [vX4_unpin, if_pos c_4]), congrArg (wX a cI cZ) (by simp only [sX4_unpin, if_pos c_4])⟩
end
section
set_option maxRecDepth 100000 in
set_option maxHeartbeats 4000000 in
theorem c_X4_writeFrame {cI cZ : ClassId} (a : Nat → Nat) (u : SX) (p0 : Int32) (h0 : Pg p0) : Ct yX4_writeFrame wsX4_writeFrame rX4_writeFrame cI cZ [.ref (a 0), .int p0] (wX a cI cZ u) 0 0 (rt (none) (wX a cI cZ (sX4_writeFrame u p0))) := by
  refine Ct.of (cc := cX4_writeFrame) (nL := 2) (own := RX4) (by decide) rfl rfl (Nat.le_of_ble_eq_true rfl) rfl ?_
  intro K hR hN
  refine G.aload_n (pc2 := 1) (x := a 0) dX4_writeFrame_0 rfl rfl rfl ?_
  refine G.getf (pc2 := 4) (q0 := 0) (ci := 4) (k := 0) (v := .ref (a 1)) iX4_writeFrame_X4 kX4_writeFrame_10 rfl rfl (by decide) rfl dX4_writeFrame_1 rfl ?_
  refine G.iload_n (pc2 := 5) (x := p0) dX4_writeFrame_4 rfl rfl rfl ?_
  refine G.aload_n (pc2 := 6) (x := a 0) dX4_writeFrame_5 rfl rfl rfl ?_
  refine G.getf (pc2 := 9) (q0 := 0) (ci := 4) (k := 1) (v := .ref (a 3)) iX4_writeFrame_X4 kX4_writeFrame_19 rfl rfl (by decide) rfl dX4_writeFrame_6 rfl ?_
  refine G.iload_n (pc2 := 10) (x := p0) dX4_writeFrame_9 rfl rfl rfl ?_
  refine G.callVd (pc2 := 13) (i := 3) (j := 8) (q0 := 3) (ci := 1) (As := [.int p0]) (rest := [.int p0, .ref (a 1)]) (ws2 := wX a cI cZ u) (st2 := [.int (vX1_valueOf u.2.1 p0), .int p0, .ref (a 1)]) (c_X1_valueOf (cI := cI) (cZ := cZ) (a 3) (a 4) (a 5) (a 6) (a 7) u.2.1 p0 (h0)) gX4_writeFrame_X1_valueOf rfl rfl rfl ndX1_valueOf ⟨Nat.le_of_ble_eq_true rfl, Nat.le_of_ble_eq_true rfl⟩ ⟨Nat.le_of_ble_eq_true rfl, Nat.le_of_ble_eq_true rfl⟩ rfl rfl (Nat.le_of_ble_eq_true rfl) rfl rfl rfl rfl rfl rfl dX4_writeFrame_10 rfl ?_
  generalize ev_10 : vX1_valueOf u.2.1 p0 = v_10
  refine G.callVd (pc2 := 16) (i := 1) (j := 3) (q0 := 1) (ci := 0) (As := [.int p0, .int v_10]) (rest := []) (ws2 := wX a cI cZ ((sX0_store u.1 p0 v_10), u.2.1, u.2.2.1, u.2.2.2.1, u.2.2.2.2)) (st2 := []) (c_X0_store (cI := cI) (cZ := cZ) (a 1) (a 2) u.1 p0 v_10 (h0)) gX4_writeFrame_X0_store rfl rfl rfl ndX0_store ⟨Nat.le_of_ble_eq_true rfl, Nat.le_of_ble_eq_true rfl⟩ ⟨Nat.le_of_ble_eq_true rfl, Nat.le_of_ble_eq_true rfl⟩ rfl rfl (Nat.le_of_ble_eq_true rfl) rfl rfl rfl rfl rfl rfl dX4_writeFrame_13 rfl ?_
  generalize et_13 : sX0_store u.1 p0 v_10 = t_13
  refine G.aload_n (pc2 := 17) (x := a 0) dX4_writeFrame_16 rfl rfl rfl ?_
  refine G.getf (pc2 := 20) (q0 := 0) (ci := 4) (k := 1) (v := .ref (a 3)) iX4_writeFrame_X4 kX4_writeFrame_19 rfl rfl (by decide) rfl dX4_writeFrame_17 rfl ?_
  refine G.iload_n (pc2 := 21) (x := p0) dX4_writeFrame_20 rfl rfl rfl ?_
  refine G.callVd (pc2 := 24) (i := 3) (j := 8) (q0 := 3) (ci := 1) (As := [.int p0]) (rest := []) (ws2 := wX a cI cZ (t_13, (sX1_markClean u.2.1 p0), u.2.2.1, u.2.2.2.1, u.2.2.2.2)) (st2 := []) (c_X1_markClean (cI := cI) (cZ := cZ) (a 3) (a 4) (a 5) (a 6) (a 7) u.2.1 p0 (h0)) gX4_writeFrame_X1_markClean rfl rfl rfl ndX1_markClean ⟨Nat.le_of_ble_eq_true rfl, Nat.le_of_ble_eq_true rfl⟩ ⟨Nat.le_of_ble_eq_true rfl, Nat.le_of_ble_eq_true rfl⟩ rfl rfl (Nat.le_of_ble_eq_true rfl) rfl rfl rfl rfl rfl rfl dX4_writeFrame_21 rfl ?_
  generalize et_21 : sX1_markClean u.2.1 p0 = t_21
  subst et_21 et_13 ev_10
  exact G.vreturn hR dX4_writeFrame_24 ⟨rfl, congrArg (wX a cI cZ) (rfl)⟩
set_option maxRecDepth 100000 in
set_option maxHeartbeats 4000000 in
theorem c_X4_flush {cI cZ : ClassId} (a : Nat → Nat) (u : SX) (p0 : Int32) (hq : QW u.2.2.1) (hf : FW u.2.1) : Ct yX4_flush wsX4_flush rX4_flush cI cZ [.ref (a 0), .int p0] (wX a cI cZ u) 0 0 (rt (some (vX4_flush u p0)) (wX a cI cZ (sX4_flush u p0))) := by
  refine Ct.of (cc := cX4_flush) (nL := 3) (own := RX4) (by decide) rfl rfl (Nat.le_of_ble_eq_true rfl) rfl ?_
  intro K hR hN
  refine G.iload_n (pc2 := 1) (x := p0) dX4_flush_0 rfl rfl rfl ?_
  refine G.callSd (pc2 := 4) (i := 0) (j := 0) (As := [.int p0]) (rest := []) (ws2 := wX a cI cZ u) (st2 := [.int (vX4_isPage p0)]) (c_X4_isPage (cI := cI) (cZ := cZ) p0) gX4_flush_X4_isPage rfl rfl rfl ndX4_isPage.2 ⟨Nat.le_of_ble_eq_true rfl, Nat.le_of_ble_eq_true rfl⟩ ⟨Nat.le_of_ble_eq_true rfl, Nat.le_of_ble_eq_true rfl⟩ rfl rfl (Nat.le_of_ble_eq_true rfl) rfl rfl rfl dX4_flush_1 rfl ?_
  generalize ev_1 : vX4_isPage p0 = v_1
  refine G.if_ne (pc2 := 7) (tgt := 9) dX4_flush_4 rfl rfl (fun c_4 => ?_) (fun c_4 => ?_)
  · refine G.aload_n (pc2 := 10) (x := a 0) dX4_flush_9 rfl rfl rfl ?_
    refine G.getf (pc2 := 13) (q0 := 0) (ci := 4) (k := 1) (v := .ref (a 3)) iX4_flush_X4 kX4_flush_19 rfl rfl (by decide) rfl dX4_flush_10 rfl ?_
    refine G.iload_n (pc2 := 14) (x := p0) dX4_flush_13 rfl rfl rfl ?_
    refine G.callVd (pc2 := 17) (i := 3) (j := 8) (q0 := 3) (ci := 1) (As := [.int p0]) (rest := []) (ws2 := wX a cI cZ u) (st2 := [.int (vX1_isChanged u.2.1 p0)]) (c_X1_isChanged (cI := cI) (cZ := cZ) (a 3) (a 4) (a 5) (a 6) (a 7) u.2.1 p0 (by subst ev_1; exact (pgX c_4)) (hf)) gX4_flush_X1_isChanged rfl rfl rfl ndX1_isChanged ⟨Nat.le_of_ble_eq_true rfl, Nat.le_of_ble_eq_true rfl⟩ ⟨Nat.le_of_ble_eq_true rfl, Nat.le_of_ble_eq_true rfl⟩ rfl rfl (Nat.le_of_ble_eq_true rfl) rfl rfl rfl rfl rfl rfl dX4_flush_14 rfl ?_
    generalize ev_14 : vX1_isChanged u.2.1 p0 = v_14
    refine G.if_eq (pc2 := 20) (tgt := 27) dX4_flush_17 rfl rfl (fun c_17 => ?_) (fun c_17 => ?_)
    · refine G.aload_n (pc2 := 28) (x := a 0) dX4_flush_27 rfl rfl rfl ?_
      refine G.getf (pc2 := 31) (q0 := 0) (ci := 4) (k := 2) (v := .ref (a 8)) iX4_flush_X4 kX4_flush_26 rfl rfl (by decide) rfl dX4_flush_28 rfl ?_
      refine G.iload_n (pc2 := 32) (x := p0) dX4_flush_31 rfl rfl rfl ?_
      refine G.callVd (pc2 := 35) (i := 8) (j := 11) (q0 := 8) (ci := 3) (As := [.int p0]) (rest := []) (ws2 := wX a cI cZ u) (st2 := [.int (vX3_positionOf u.2.2.1 p0)]) (c_X3_positionOf (cI := cI) (cZ := cZ) (a 8) (a 9) (a 10) u.2.2.1 p0 (hq)) gX4_flush_X3_positionOf rfl rfl rfl ndX3_positionOf ⟨Nat.le_of_ble_eq_true rfl, Nat.le_of_ble_eq_true rfl⟩ ⟨Nat.le_of_ble_eq_true rfl, Nat.le_of_ble_eq_true rfl⟩ rfl rfl (Nat.le_of_ble_eq_true rfl) rfl rfl rfl rfl rfl rfl dX4_flush_32 rfl ?_
      generalize ev_32 : vX3_positionOf u.2.2.1 p0 = v_32
      refine G.istore_n (pc2 := 36) (lv2 := [(0, .ref (a 0)), (1, .int p0), (2, .int v_32)]) [1, 2, 0] dX4_flush_35 rfl (by decide) rfl rfl ?_
      refine G.iload_n (pc2 := 37) (x := v_32) dX4_flush_36 rfl rfl rfl ?_
      refine G.bipush (pc2 := 39) (v := (-9)) dX4_flush_37 (by decide) rfl ?_
      refine G.icmp_ne (pc2 := 42) (tgt := 44) dX4_flush_39 rfl rfl (fun c_39 => ?_) (fun c_39 => ?_)
      · refine G.aload_n (pc2 := 45) (x := a 0) dX4_flush_44 rfl rfl rfl ?_
        refine G.iload_n (pc2 := 46) (x := v_32) dX4_flush_45 rfl rfl rfl ?_
        refine G.callVd (pc2 := 49) (i := 0) (j := 14) (q0 := 0) (ci := 4) (As := [.int v_32]) (rest := []) (ws2 := wX a cI cZ (sX4_writeEntry u v_32)) (st2 := []) (c_X4_writeEntry (cI := cI) (cZ := cZ) a u v_32 (hq)) gX4_flush_X4_writeEntry rfl rfl rfl ndX4_writeEntry ⟨Nat.le_of_ble_eq_true rfl, Nat.le_of_ble_eq_true rfl⟩ ⟨Nat.le_of_ble_eq_true rfl, Nat.le_of_ble_eq_true rfl⟩ rfl rfl (Nat.le_of_ble_eq_true rfl) rfl rfl rfl rfl rfl rfl dX4_flush_46 rfl ?_
        generalize et_46 : sX4_writeEntry u v_32 = t_46
        refine G.iconst (pc2 := 50) (v := 1) dX4_flush_49 (by decide) rfl ?_
        subst et_46 ev_32 ev_14 ev_1
        exact G.ireturn hR (rfl) dX4_flush_50 ⟨congrArg some (by simp only [vX4_flush, if_neg c_4, if_pos c_17, if_neg c_39]), congrArg (wX a cI cZ) (by simp only [sX4_flush, if_neg c_4, if_pos c_17, if_neg c_39])⟩
      · refine G.iconst (pc2 := 43) (v := 0) dX4_flush_42 (by decide) rfl ?_
        subst ev_32 ev_14 ev_1
        exact G.ireturn hR (rfl) dX4_flush_43 ⟨congrArg some (by simp only [vX4_flush, if_neg c_4, if_pos c_17, if_pos c_39]), congrArg (wX a cI cZ) (by simp only [sX4_flush, if_neg c_4, if_pos c_17, if_pos c_39])⟩
    · refine G.aload_n (pc2 := 21) (x := a 0) dX4_flush_20 rfl rfl rfl ?_
      refine G.iload_n (pc2 := 22) (x := p0) dX4_flush_21 rfl rfl rfl ?_
      refine G.callVd (pc2 := 25) (i := 0) (j := 14) (q0 := 0) (ci := 4) (As := [.int p0]) (rest := []) (ws2 := wX a cI cZ (sX4_writeFrame u p0)) (st2 := []) (c_X4_writeFrame (cI := cI) (cZ := cZ) a u p0 (by subst ev_14 ev_1; exact (pgX c_4))) gX4_flush_X4_writeFrame rfl rfl rfl ndX4_writeFrame ⟨Nat.le_of_ble_eq_true rfl, Nat.le_of_ble_eq_true rfl⟩ ⟨Nat.le_of_ble_eq_true rfl, Nat.le_of_ble_eq_true rfl⟩ rfl rfl (Nat.le_of_ble_eq_true rfl) rfl rfl rfl rfl rfl rfl dX4_flush_22 rfl ?_
      generalize et_22 : sX4_writeFrame u p0 = t_22
      refine G.iconst (pc2 := 26) (v := 1) dX4_flush_25 (by decide) rfl ?_
      subst et_22 ev_14 ev_1
      exact G.ireturn hR (rfl) dX4_flush_26 ⟨congrArg some (by simp only [vX4_flush, if_neg c_4, if_neg c_17]), congrArg (wX a cI cZ) (by simp only [sX4_flush, if_neg c_4, if_neg c_17])⟩
  · refine G.iconst (pc2 := 8) (v := (-1)) dX4_flush_7 (by decide) rfl ?_
    subst ev_1
    exact G.ireturn hR (rfl) dX4_flush_8 ⟨congrArg some (by simp only [vX4_flush, if_pos c_4]), congrArg (wX a cI cZ) (by simp only [sX4_flush, if_pos c_4])⟩
set_option maxRecDepth 100000 in
set_option maxHeartbeats 4000000 in
theorem c_X4_writeOldest {cI cZ : ClassId} (a : Nat → Nat) (u : SX) (p0 : Int32) (hq : QW u.2.2.1) (hc : Sm p0) : Ct yX4_writeOldest wsX4_writeOldest rX4_writeOldest cI cZ [.ref (a 0), .int p0] (wX a cI cZ u) 0 0 (rt (some (vX4_writeOldest u p0)) (wX a cI cZ (sX4_writeOldest u p0))) := by
  refine Ct.of (cc := cX4_writeOldest) (nL := 4) (own := RX4) (by decide) rfl rfl (Nat.le_of_ble_eq_true rfl) rfl ?_
  intro K hR hN
  have loop14 : ∀ (n : Nat) (w : SX) (l2 l3 : Int32), OI n l2 l3 ∧ QW w.2.2.1 → vX4_writeOldest u p0 = lvX4_writeOldest_14 p0 n w l2 l3 → sX4_writeOldest u p0 = lsX4_writeOldest_14 p0 n w l2 l3 → G K cI cZ cX4_writeOldest 4 RX4 wsX4_writeOldest rX4_writeOldest 0 0 (wX a cI cZ w) 14 [(0, .ref (a 0)), (1, .int p0), (2, .int l2), (3, .int l3)] [] := by
    intro n
    induction n with
    | zero =>
      intro w l2 l3 hi hv hs
      exact absurd hi (fun h => OI.zero h.1)
    | succ n ih =>
      intro w l2 l3 hi hv hs
      refine G.iload_n (pc2 := 15) (x := l3) dX4_writeOldest_14 rfl rfl rfl ?_
      refine G.iload_n (pc2 := 16) (x := l2) dX4_writeOldest_15 rfl rfl rfl ?_
      refine G.icmp_ge (pc2 := 19) (tgt := 30) dX4_writeOldest_16 rfl rfl (fun c_16 => ?_) (fun c_16 => ?_)
      · refine G.iload_n (pc2 := 31) (x := l2) dX4_writeOldest_30 rfl rfl rfl ?_
        exact G.ireturn hR (rfl) dX4_writeOldest_31 ⟨congrArg some (by rw [hv]; simp only [lvX4_writeOldest_14, if_neg c_16]), congrArg (wX a cI cZ) (by rw [hs]; simp only [lsX4_writeOldest_14, if_neg c_16])⟩
      · refine G.aload_n (pc2 := 20) (x := a 0) dX4_writeOldest_19 rfl rfl rfl ?_
        refine G.iconst (pc2 := 21) (v := 0) dX4_writeOldest_20 (by decide) rfl ?_
        refine G.callVd (pc2 := 24) (i := 0) (j := 14) (q0 := 0) (ci := 4) (As := [.int 0]) (rest := []) (ws2 := wX a cI cZ (sX4_writeEntry w 0)) (st2 := []) (c_X4_writeEntry (cI := cI) (cZ := cZ) a w 0 (hi.2)) gX4_writeOldest_X4_writeEntry rfl rfl rfl ndX4_writeEntry ⟨Nat.le_of_ble_eq_true rfl, Nat.le_of_ble_eq_true rfl⟩ ⟨Nat.le_of_ble_eq_true rfl, Nat.le_of_ble_eq_true rfl⟩ rfl rfl (Nat.le_of_ble_eq_true rfl) rfl rfl rfl rfl rfl rfl dX4_writeOldest_21 rfl ?_
        generalize et_21 : sX4_writeEntry w 0 = t_21
        refine G.iinc (pc2 := 27) (k := 3) (v := l3 + 1) (lv2 := [(0, .ref (a 0)), (1, .int p0), (2, .int l2), (3, .int (l3 + 1))]) [1, 2, 3, 0] dX4_writeOldest_24 rfl rfl (by decide) rfl rfl ?_
        refine G.goto (tgt := 14) dX4_writeOldest_27 rfl ?_
        subst et_21
        exact ih  (sX4_writeEntry w 0) l2 (l3 + 1) (⟨OI.next hi.1 c_16, qw_writeEntry hi.2⟩) (by rw [hv]; simp only [lvX4_writeOldest_14, if_pos c_16]) (by rw [hs]; simp only [lsX4_writeOldest_14, if_pos c_16])
  refine G.iload_n (pc2 := 1) (x := p0) dX4_writeOldest_0 rfl rfl rfl ?_
  refine G.aload_n (pc2 := 2) (x := a 0) dX4_writeOldest_1 rfl rfl rfl ?_
  refine G.getf (pc2 := 5) (q0 := 0) (ci := 4) (k := 2) (v := .ref (a 8)) iX4_writeOldest_X4 kX4_writeOldest_26 rfl rfl (by decide) rfl dX4_writeOldest_2 rfl ?_
  refine G.callVd (pc2 := 8) (i := 8) (j := 11) (q0 := 8) (ci := 3) (As := []) (rest := [.int p0]) (ws2 := wX a cI cZ u) (st2 := [.int (vX3_length u.2.2.1), .int p0]) (c_X3_length (cI := cI) (cZ := cZ) (a 8) (a 9) (a 10) u.2.2.1) gX4_writeOldest_X3_length rfl rfl rfl ndX3_length ⟨Nat.le_of_ble_eq_true rfl, Nat.le_of_ble_eq_true rfl⟩ ⟨Nat.le_of_ble_eq_true rfl, Nat.le_of_ble_eq_true rfl⟩ rfl rfl (Nat.le_of_ble_eq_true rfl) rfl rfl rfl rfl rfl rfl dX4_writeOldest_5 rfl ?_
  generalize ev_5 : vX3_length u.2.2.1 = v_5
  refine G.mmin (pc2 := 11) (v := if v_5 < p0 then v_5 else p0) (by decide +kernel) (by decide +kernel) (by decide +kernel) (by decide +kernel) ⟨Nat.le_of_ble_eq_true rfl, Nat.le_of_ble_eq_true rfl⟩ ⟨Nat.le_of_ble_eq_true rfl, Nat.le_of_ble_eq_true rfl⟩ rfl dX4_writeOldest_8 rfl ?_
  refine G.istore_n (pc2 := 12) (lv2 := [(0, .ref (a 0)), (1, .int p0), (2, .int (if v_5 < p0 then v_5 else p0))]) [1, 2, 0] dX4_writeOldest_11 rfl (by decide) rfl rfl ?_
  refine G.iconst (pc2 := 13) (v := 0) dX4_writeOldest_12 (by decide) rfl ?_
  refine G.istore_n (pc2 := 14) (lv2 := [(0, .ref (a 0)), (1, .int p0), (2, .int (if v_5 < p0 then v_5 else p0)), (3, .int 0)]) [1, 2, 3, 0] dX4_writeOldest_13 rfl (by decide) rfl rfl ?_
  subst ev_5
  exact loop14 9 u (if (vX3_length u.2.2.1) < p0 then (vX3_length u.2.2.1) else p0) 0 (⟨OI.start hc hq, hq⟩) (rfl) (rfl)
set_option maxRecDepth 100000 in
set_option maxHeartbeats 4000000 in
theorem c_X4_flushAll {cI cZ : ClassId} (a : Nat → Nat) (u : SX) (hq : QW u.2.2.1) (hf : FW u.2.1) : Ct yX4_flushAll wsX4_flushAll rX4_flushAll cI cZ [.ref (a 0)] (wX a cI cZ u) 0 0 (rt (some (vX4_flushAll u)) (wX a cI cZ (sX4_flushAll u))) := by
  refine Ct.of (cc := cX4_flushAll) (nL := 3) (own := RX4) (by decide) rfl rfl (Nat.le_of_ble_eq_true rfl) rfl ?_
  intro K hR hN
  have loop14 : ∀ (n : Nat) (w : SX) (l1 l2 : Int32), PI n l2 ∧ FW w.2.1 → vX4_flushAll u = lvX4_flushAll_14 n w l1 l2 → sX4_flushAll u = lsX4_flushAll_14 n w l1 l2 → G K cI cZ cX4_flushAll 3 RX4 wsX4_flushAll rX4_flushAll 0 0 (wX a cI cZ w) 14 [(0, .ref (a 0)), (1, .int l1), (2, .int l2)] [] := by
    intro n
    induction n with
    | zero =>
      intro w l1 l2 hi hv hs
      exact absurd hi (fun h => PI.zero h.1)
    | succ n ih =>
      intro w l1 l2 hi hv hs
      refine G.iload_n (pc2 := 15) (x := l2) dX4_flushAll_14 rfl rfl rfl ?_
      refine G.bipush (pc2 := 17) (v := 64) dX4_flushAll_15 (by decide) rfl ?_
      refine G.icmp_ge (pc2 := 20) (tgt := 45) dX4_flushAll_17 rfl rfl (fun c_17 => ?_) (fun c_17 => ?_)
      · refine G.iload_n (pc2 := 46) (x := l1) dX4_flushAll_45 rfl rfl rfl ?_
        exact G.ireturn hR (rfl) dX4_flushAll_46 ⟨congrArg some (by rw [hv]; simp only [lvX4_flushAll_14, if_neg c_17]), congrArg (wX a cI cZ) (by rw [hs]; simp only [lsX4_flushAll_14, if_neg c_17])⟩
      · refine G.aload_n (pc2 := 21) (x := a 0) dX4_flushAll_20 rfl rfl rfl ?_
        refine G.getf (pc2 := 24) (q0 := 0) (ci := 4) (k := 1) (v := .ref (a 3)) iX4_flushAll_X4 kX4_flushAll_19 rfl rfl (by decide) rfl dX4_flushAll_21 rfl ?_
        refine G.iload_n (pc2 := 25) (x := l2) dX4_flushAll_24 rfl rfl rfl ?_
        refine G.callVd (pc2 := 28) (i := 3) (j := 8) (q0 := 3) (ci := 1) (As := [.int l2]) (rest := []) (ws2 := wX a cI cZ w) (st2 := [.int (vX1_isChanged w.2.1 l2)]) (c_X1_isChanged (cI := cI) (cZ := cZ) (a 3) (a 4) (a 5) (a 6) (a 7) w.2.1 l2 (PI.pg hi.1 c_17) (hi.2)) gX4_flushAll_X1_isChanged rfl rfl rfl ndX1_isChanged ⟨Nat.le_of_ble_eq_true rfl, Nat.le_of_ble_eq_true rfl⟩ ⟨Nat.le_of_ble_eq_true rfl, Nat.le_of_ble_eq_true rfl⟩ rfl rfl (Nat.le_of_ble_eq_true rfl) rfl rfl rfl rfl rfl rfl dX4_flushAll_25 rfl ?_
        generalize ev_25 : vX1_isChanged w.2.1 l2 = v_25
        refine G.if_eq (pc2 := 31) (tgt := 39) dX4_flushAll_28 rfl rfl (fun c_28 => ?_) (fun c_28 => ?_)
        · refine G.iinc (pc2 := 42) (k := 2) (v := l2 + 1) (lv2 := [(0, .ref (a 0)), (1, .int l1), (2, .int (l2 + 1))]) [1, 2, 0] dX4_flushAll_39 rfl rfl (by decide) rfl rfl ?_
          refine G.goto (tgt := 14) dX4_flushAll_42 rfl ?_
          subst ev_25
          exact ih  w l1 (l2 + 1) (⟨PI.next hi.1 c_17, by first | exact hi.2 | exact fw_writeFrame hi.2⟩) (by rw [hv]; simp only [lvX4_flushAll_14, if_pos c_17, if_pos c_28]) (by rw [hs]; simp only [lsX4_flushAll_14, if_pos c_17, if_pos c_28])
        · refine G.aload_n (pc2 := 32) (x := a 0) dX4_flushAll_31 rfl rfl rfl ?_
          refine G.iload_n (pc2 := 33) (x := l2) dX4_flushAll_32 rfl rfl rfl ?_
          refine G.callVd (pc2 := 36) (i := 0) (j := 14) (q0 := 0) (ci := 4) (As := [.int l2]) (rest := []) (ws2 := wX a cI cZ (sX4_writeFrame w l2)) (st2 := []) (c_X4_writeFrame (cI := cI) (cZ := cZ) a w l2 (by subst ev_25; exact (PI.pg hi.1 c_17))) gX4_flushAll_X4_writeFrame rfl rfl rfl ndX4_writeFrame ⟨Nat.le_of_ble_eq_true rfl, Nat.le_of_ble_eq_true rfl⟩ ⟨Nat.le_of_ble_eq_true rfl, Nat.le_of_ble_eq_true rfl⟩ rfl rfl (Nat.le_of_ble_eq_true rfl) rfl rfl rfl rfl rfl rfl dX4_flushAll_33 rfl ?_
          generalize et_33 : sX4_writeFrame w l2 = t_33
          refine G.iinc (pc2 := 39) (k := 1) (v := l1 + 1) (lv2 := [(0, .ref (a 0)), (1, .int (l1 + 1)), (2, .int l2)]) [1, 0, 2] dX4_flushAll_36 rfl rfl (by decide) rfl rfl ?_
          refine G.iinc (pc2 := 42) (k := 2) (v := l2 + 1) (lv2 := [(0, .ref (a 0)), (1, .int (l1 + 1)), (2, .int (l2 + 1))]) [1, 2, 0] dX4_flushAll_39 rfl rfl (by decide) rfl rfl ?_
          refine G.goto (tgt := 14) dX4_flushAll_42 rfl ?_
          subst et_33 ev_25
          exact ih  (sX4_writeFrame w l2) (l1 + 1) (l2 + 1) (⟨PI.next hi.1 c_17, by first | exact hi.2 | exact fw_writeFrame hi.2⟩) (by rw [hv]; simp only [lvX4_flushAll_14, if_pos c_17, if_neg c_28]) (by rw [hs]; simp only [lsX4_flushAll_14, if_pos c_17, if_neg c_28])
  refine G.aload_n (pc2 := 1) (x := a 0) dX4_flushAll_0 rfl rfl rfl ?_
  refine G.aload_n (pc2 := 2) (x := a 0) dX4_flushAll_1 rfl rfl rfl ?_
  refine G.getf (pc2 := 5) (q0 := 0) (ci := 4) (k := 2) (v := .ref (a 8)) iX4_flushAll_X4 kX4_flushAll_26 rfl rfl (by decide) rfl dX4_flushAll_2 rfl ?_
  refine G.callVd (pc2 := 8) (i := 8) (j := 11) (q0 := 8) (ci := 3) (As := []) (rest := [.ref (a 0)]) (ws2 := wX a cI cZ u) (st2 := [.int (vX3_length u.2.2.1), .ref (a 0)]) (c_X3_length (cI := cI) (cZ := cZ) (a 8) (a 9) (a 10) u.2.2.1) gX4_flushAll_X3_length rfl rfl rfl ndX3_length ⟨Nat.le_of_ble_eq_true rfl, Nat.le_of_ble_eq_true rfl⟩ ⟨Nat.le_of_ble_eq_true rfl, Nat.le_of_ble_eq_true rfl⟩ rfl rfl (Nat.le_of_ble_eq_true rfl) rfl rfl rfl rfl rfl rfl dX4_flushAll_5 rfl ?_
  generalize ev_5 : vX3_length u.2.2.1 = v_5
  refine G.callVd (pc2 := 11) (i := 0) (j := 14) (q0 := 0) (ci := 4) (As := [.int v_5]) (rest := []) (ws2 := wX a cI cZ (sX4_writeOldest u v_5)) (st2 := [.int (vX4_writeOldest u v_5)]) (c_X4_writeOldest (cI := cI) (cZ := cZ) a u v_5 (hq) (by subst ev_5; exact (qwSm hq))) gX4_flushAll_X4_writeOldest rfl rfl rfl ndX4_writeOldest ⟨Nat.le_of_ble_eq_true rfl, Nat.le_of_ble_eq_true rfl⟩ ⟨Nat.le_of_ble_eq_true rfl, Nat.le_of_ble_eq_true rfl⟩ rfl rfl (Nat.le_of_ble_eq_true rfl) rfl rfl rfl rfl rfl rfl dX4_flushAll_8 rfl ?_
  generalize ev_8 : vX4_writeOldest u v_5 = v_8
  generalize et_8 : sX4_writeOldest u v_5 = t_8
  refine G.istore_n (pc2 := 12) (lv2 := [(0, .ref (a 0)), (1, .int v_8)]) [1, 0] dX4_flushAll_11 rfl (by decide) rfl rfl ?_
  refine G.iconst (pc2 := 13) (v := 0) dX4_flushAll_12 (by decide) rfl ?_
  refine G.istore_n (pc2 := 14) (lv2 := [(0, .ref (a 0)), (1, .int v_8), (2, .int 0)]) [1, 2, 0] dX4_flushAll_13 rfl (by decide) rfl rfl ?_
  subst et_8 ev_8 ev_5
  exact loop14 65 (sX4_writeOldest u (vX3_length u.2.2.1)) (vX4_writeOldest u (vX3_length u.2.2.1)) 0 (⟨PI.start, fw_writeOldest hf⟩) (rfl) (rfl)
set_option maxRecDepth 100000 in
set_option maxHeartbeats 4000000 in
theorem c_X4_drain {cI cZ : ClassId} (a : Nat → Nat) (u : SX) (p0 : Int32) (hq : QW u.2.2.1) : Ct yX4_drain wsX4_drain rX4_drain cI cZ [.ref (a 0), .int p0] (wX a cI cZ u) 0 0 (rt (some (vX4_drain u p0)) (wX a cI cZ (sX4_drain u p0))) := by
  refine Ct.of (cc := cX4_drain) (nL := 2) (own := RX4) (by decide) rfl rfl (Nat.le_of_ble_eq_true rfl) rfl ?_
  intro K hR hN
  refine G.iload_n (pc2 := 1) (x := p0) dX4_drain_0 rfl rfl rfl ?_
  refine G.iconst (pc2 := 2) (v := 0) dX4_drain_1 (by decide) rfl ?_
  refine G.bipush (pc2 := 4) (v := 8) dX4_drain_2 (by decide) rfl ?_
  refine G.callSd (pc2 := 7) (i := 0) (j := 0) (As := [.int p0, .int 0, .int 8]) (rest := []) (ws2 := wX a cI cZ u) (st2 := [.int (vX4_isWithin p0 0 8)]) (c_X4_isWithin (cI := cI) (cZ := cZ) p0 0 8) gX4_drain_X4_isWithin rfl rfl rfl ndX4_isWithin.2 ⟨Nat.le_of_ble_eq_true rfl, Nat.le_of_ble_eq_true rfl⟩ ⟨Nat.le_of_ble_eq_true rfl, Nat.le_of_ble_eq_true rfl⟩ rfl rfl (Nat.le_of_ble_eq_true rfl) rfl rfl rfl dX4_drain_4 rfl ?_
  generalize ev_4 : vX4_isWithin p0 0 8 = v_4
  refine G.if_ne (pc2 := 10) (tgt := 13) dX4_drain_7 rfl rfl (fun c_7 => ?_) (fun c_7 => ?_)
  · refine G.aload_n (pc2 := 14) (x := a 0) dX4_drain_13 rfl rfl rfl ?_
    refine G.iload_n (pc2 := 15) (x := p0) dX4_drain_14 rfl rfl rfl ?_
    refine G.callVd (pc2 := 18) (i := 0) (j := 14) (q0 := 0) (ci := 4) (As := [.int p0]) (rest := []) (ws2 := wX a cI cZ (sX4_writeOldest u p0)) (st2 := [.int (vX4_writeOldest u p0)]) (c_X4_writeOldest (cI := cI) (cZ := cZ) a u p0 (hq) (by subst ev_4; exact (smX c_7))) gX4_drain_X4_writeOldest rfl rfl rfl ndX4_writeOldest ⟨Nat.le_of_ble_eq_true rfl, Nat.le_of_ble_eq_true rfl⟩ ⟨Nat.le_of_ble_eq_true rfl, Nat.le_of_ble_eq_true rfl⟩ rfl rfl (Nat.le_of_ble_eq_true rfl) rfl rfl rfl rfl rfl rfl dX4_drain_15 rfl ?_
    generalize ev_15 : vX4_writeOldest u p0 = v_15
    generalize et_15 : sX4_writeOldest u p0 = t_15
    subst et_15 ev_15 ev_4
    exact G.ireturn hR (rfl) dX4_drain_18 ⟨congrArg some (by simp only [vX4_drain, if_neg c_7]), congrArg (wX a cI cZ) (by simp only [sX4_drain, if_neg c_7])⟩
  · refine G.bipush (pc2 := 12) (v := (-8)) dX4_drain_10 (by decide) rfl ?_
    subst ev_4
    exact G.ireturn hR (rfl) dX4_drain_12 ⟨congrArg some (by simp only [vX4_drain, if_pos c_7]), congrArg (wX a cI cZ) (by simp only [sX4_drain, if_pos c_7])⟩
set_option maxRecDepth 100000 in
set_option maxHeartbeats 4000000 in
theorem c_X4_discard {cI cZ : ClassId} (a : Nat → Nat) (u : SX) (p0 : Int32) (hq : QW u.2.2.1) (hf : FW u.2.1) : Ct yX4_discard wsX4_discard rX4_discard cI cZ [.ref (a 0), .int p0] (wX a cI cZ u) 0 0 (rt (some (vX4_discard u p0)) (wX a cI cZ (sX4_discard u p0))) := by
  refine Ct.of (cc := cX4_discard) (nL := 3) (own := RX4) (by decide) rfl rfl (Nat.le_of_ble_eq_true rfl) rfl ?_
  intro K hR hN
  refine G.iload_n (pc2 := 1) (x := p0) dX4_discard_0 rfl rfl rfl ?_
  refine G.callSd (pc2 := 4) (i := 0) (j := 0) (As := [.int p0]) (rest := []) (ws2 := wX a cI cZ u) (st2 := [.int (vX4_isPage p0)]) (c_X4_isPage (cI := cI) (cZ := cZ) p0) gX4_discard_X4_isPage rfl rfl rfl ndX4_isPage.2 ⟨Nat.le_of_ble_eq_true rfl, Nat.le_of_ble_eq_true rfl⟩ ⟨Nat.le_of_ble_eq_true rfl, Nat.le_of_ble_eq_true rfl⟩ rfl rfl (Nat.le_of_ble_eq_true rfl) rfl rfl rfl dX4_discard_1 rfl ?_
  generalize ev_1 : vX4_isPage p0 = v_1
  refine G.if_ne (pc2 := 7) (tgt := 9) dX4_discard_4 rfl rfl (fun c_4 => ?_) (fun c_4 => ?_)
  · refine G.aload_n (pc2 := 10) (x := a 0) dX4_discard_9 rfl rfl rfl ?_
    refine G.getf (pc2 := 13) (q0 := 0) (ci := 4) (k := 1) (v := .ref (a 3)) iX4_discard_X4 kX4_discard_19 rfl rfl (by decide) rfl dX4_discard_10 rfl ?_
    refine G.iload_n (pc2 := 14) (x := p0) dX4_discard_13 rfl rfl rfl ?_
    refine G.callVd (pc2 := 17) (i := 3) (j := 8) (q0 := 3) (ci := 1) (As := [.int p0]) (rest := []) (ws2 := wX a cI cZ u) (st2 := [.int (vX1_pinsOf u.2.1 p0)]) (c_X1_pinsOf (cI := cI) (cZ := cZ) (a 3) (a 4) (a 5) (a 6) (a 7) u.2.1 p0 (by subst ev_1; exact (pgX c_4))) gX4_discard_X1_pinsOf rfl rfl rfl ndX1_pinsOf ⟨Nat.le_of_ble_eq_true rfl, Nat.le_of_ble_eq_true rfl⟩ ⟨Nat.le_of_ble_eq_true rfl, Nat.le_of_ble_eq_true rfl⟩ rfl rfl (Nat.le_of_ble_eq_true rfl) rfl rfl rfl rfl rfl rfl dX4_discard_14 rfl ?_
    generalize ev_14 : vX1_pinsOf u.2.1 p0 = v_14
    refine G.if_le (pc2 := 20) (tgt := 23) dX4_discard_17 rfl rfl (fun c_17 => ?_) (fun c_17 => ?_)
    · refine G.aload_n (pc2 := 24) (x := a 0) dX4_discard_23 rfl rfl rfl ?_
      refine G.getf (pc2 := 27) (q0 := 0) (ci := 4) (k := 3) (v := .ref (a 11)) iX4_discard_X4 kX4_discard_33 rfl rfl (by decide) rfl dX4_discard_24 rfl ?_
      refine G.iload_n (pc2 := 28) (x := p0) dX4_discard_27 rfl rfl rfl ?_
      refine G.callVd (pc2 := 31) (i := 11) (j := 14) (q0 := 11) (ci := 2) (As := [.int p0]) (rest := []) (ws2 := wX a cI cZ (u.1, u.2.1, u.2.2.1, (sX2_forget u.2.2.2.1 p0), u.2.2.2.2)) (st2 := []) (c_X2_forget (cI := cI) (cZ := cZ) (a 11) (a 12) (a 13) u.2.2.2.1 p0 (by subst ev_14 ev_1; exact (pgX c_4))) gX4_discard_X2_forget rfl rfl rfl ndX2_forget ⟨Nat.le_of_ble_eq_true rfl, Nat.le_of_ble_eq_true rfl⟩ ⟨Nat.le_of_ble_eq_true rfl, Nat.le_of_ble_eq_true rfl⟩ rfl rfl (Nat.le_of_ble_eq_true rfl) rfl rfl rfl rfl rfl rfl dX4_discard_28 rfl ?_
      generalize et_28 : sX2_forget u.2.2.2.1 p0 = t_28
      refine G.aload_n (pc2 := 32) (x := a 0) dX4_discard_31 rfl rfl rfl ?_
      refine G.getf (pc2 := 35) (q0 := 0) (ci := 4) (k := 1) (v := .ref (a 3)) iX4_discard_X4 kX4_discard_19 rfl rfl (by decide) rfl dX4_discard_32 rfl ?_
      refine G.iload_n (pc2 := 36) (x := p0) dX4_discard_35 rfl rfl rfl ?_
      refine G.callVd (pc2 := 39) (i := 3) (j := 8) (q0 := 3) (ci := 1) (As := [.int p0]) (rest := []) (ws2 := wX a cI cZ (u.1, u.2.1, u.2.2.1, t_28, u.2.2.2.2)) (st2 := [.int (vX1_holds u.2.1 p0)]) (c_X1_holds (cI := cI) (cZ := cZ) (a 3) (a 4) (a 5) (a 6) (a 7) u.2.1 p0 (by subst et_28 ev_14 ev_1; exact (pgX c_4)) (hf)) gX4_discard_X1_holds rfl rfl rfl ndX1_holds ⟨Nat.le_of_ble_eq_true rfl, Nat.le_of_ble_eq_true rfl⟩ ⟨Nat.le_of_ble_eq_true rfl, Nat.le_of_ble_eq_true rfl⟩ rfl rfl (Nat.le_of_ble_eq_true rfl) rfl rfl rfl rfl rfl rfl dX4_discard_36 rfl ?_
      generalize ev_36 : vX1_holds u.2.1 p0 = v_36
      refine G.if_eq (pc2 := 42) (tgt := 52) dX4_discard_39 rfl rfl (fun c_39 => ?_) (fun c_39 => ?_)
      · refine G.aload_n (pc2 := 53) (x := a 0) dX4_discard_52 rfl rfl rfl ?_
        refine G.getf (pc2 := 56) (q0 := 0) (ci := 4) (k := 2) (v := .ref (a 8)) iX4_discard_X4 kX4_discard_26 rfl rfl (by decide) rfl dX4_discard_53 rfl ?_
        refine G.iload_n (pc2 := 57) (x := p0) dX4_discard_56 rfl rfl rfl ?_
        refine G.callVd (pc2 := 60) (i := 8) (j := 11) (q0 := 8) (ci := 3) (As := [.int p0]) (rest := []) (ws2 := wX a cI cZ (u.1, u.2.1, u.2.2.1, t_28, u.2.2.2.2)) (st2 := [.int (vX3_positionOf u.2.2.1 p0)]) (c_X3_positionOf (cI := cI) (cZ := cZ) (a 8) (a 9) (a 10) u.2.2.1 p0 (hq)) gX4_discard_X3_positionOf rfl rfl rfl ndX3_positionOf ⟨Nat.le_of_ble_eq_true rfl, Nat.le_of_ble_eq_true rfl⟩ ⟨Nat.le_of_ble_eq_true rfl, Nat.le_of_ble_eq_true rfl⟩ rfl rfl (Nat.le_of_ble_eq_true rfl) rfl rfl rfl rfl rfl rfl dX4_discard_57 rfl ?_
        generalize ev_57 : vX3_positionOf u.2.2.1 p0 = v_57
        refine G.istore_n (pc2 := 61) (lv2 := [(0, .ref (a 0)), (1, .int p0), (2, .int v_57)]) [1, 2, 0] dX4_discard_60 rfl (by decide) rfl rfl ?_
        refine G.iload_n (pc2 := 62) (x := v_57) dX4_discard_61 rfl rfl rfl ?_
        refine G.bipush (pc2 := 64) (v := (-9)) dX4_discard_62 (by decide) rfl ?_
        refine G.icmp_ne (pc2 := 67) (tgt := 69) dX4_discard_64 rfl rfl (fun c_64 => ?_) (fun c_64 => ?_)
        · refine G.aload_n (pc2 := 70) (x := a 0) dX4_discard_69 rfl rfl rfl ?_
          refine G.getf (pc2 := 73) (q0 := 0) (ci := 4) (k := 2) (v := .ref (a 8)) iX4_discard_X4 kX4_discard_26 rfl rfl (by decide) rfl dX4_discard_70 rfl ?_
          refine G.iload_n (pc2 := 74) (x := v_57) dX4_discard_73 rfl rfl rfl ?_
          refine G.callVd (pc2 := 77) (i := 8) (j := 11) (q0 := 8) (ci := 3) (As := [.int v_57]) (rest := []) (ws2 := wX a cI cZ (u.1, u.2.1, (sX3_removeAt u.2.2.1 v_57), t_28, u.2.2.2.2)) (st2 := []) (c_X3_removeAt (cI := cI) (cZ := cZ) (a 8) (a 9) (a 10) u.2.2.1 v_57 (hq)) gX4_discard_X3_removeAt rfl rfl rfl ndX3_removeAt ⟨Nat.le_of_ble_eq_true rfl, Nat.le_of_ble_eq_true rfl⟩ ⟨Nat.le_of_ble_eq_true rfl, Nat.le_of_ble_eq_true rfl⟩ rfl rfl (Nat.le_of_ble_eq_true rfl) rfl rfl rfl rfl rfl rfl dX4_discard_74 rfl ?_
          generalize et_74 : sX3_removeAt u.2.2.1 v_57 = t_74
          refine G.iconst (pc2 := 78) (v := 1) dX4_discard_77 (by decide) rfl ?_
          subst et_74 ev_57 ev_36 et_28 ev_14 ev_1
          exact G.ireturn hR (rfl) dX4_discard_78 ⟨congrArg some (by simp only [vX4_discard, if_neg c_4, if_neg c_17, if_pos c_39, if_neg c_64]), congrArg (wX a cI cZ) (by simp only [sX4_discard, if_neg c_4, if_neg c_17, if_pos c_39, if_neg c_64])⟩
        · refine G.iconst (pc2 := 68) (v := 0) dX4_discard_67 (by decide) rfl ?_
          subst ev_57 ev_36 et_28 ev_14 ev_1
          exact G.ireturn hR (rfl) dX4_discard_68 ⟨congrArg some (by simp only [vX4_discard, if_neg c_4, if_neg c_17, if_pos c_39, if_pos c_64]), congrArg (wX a cI cZ) (by simp only [sX4_discard, if_neg c_4, if_neg c_17, if_pos c_39, if_pos c_64])⟩
      · refine G.aload_n (pc2 := 43) (x := a 0) dX4_discard_42 rfl rfl rfl ?_
        refine G.getf (pc2 := 46) (q0 := 0) (ci := 4) (k := 1) (v := .ref (a 3)) iX4_discard_X4 kX4_discard_19 rfl rfl (by decide) rfl dX4_discard_43 rfl ?_
        refine G.iload_n (pc2 := 47) (x := p0) dX4_discard_46 rfl rfl rfl ?_
        refine G.callVd (pc2 := 50) (i := 3) (j := 8) (q0 := 3) (ci := 1) (As := [.int p0]) (rest := []) (ws2 := wX a cI cZ (u.1, (sX1_release u.2.1 p0), u.2.2.1, t_28, u.2.2.2.2)) (st2 := []) (c_X1_release (cI := cI) (cZ := cZ) (a 3) (a 4) (a 5) (a 6) (a 7) u.2.1 p0 (by subst ev_36 et_28 ev_14 ev_1; exact (pgX c_4))) gX4_discard_X1_release rfl rfl rfl ndX1_release ⟨Nat.le_of_ble_eq_true rfl, Nat.le_of_ble_eq_true rfl⟩ ⟨Nat.le_of_ble_eq_true rfl, Nat.le_of_ble_eq_true rfl⟩ rfl rfl (Nat.le_of_ble_eq_true rfl) rfl rfl rfl rfl rfl rfl dX4_discard_47 rfl ?_
        generalize et_47 : sX1_release u.2.1 p0 = t_47
        refine G.iconst (pc2 := 51) (v := 1) dX4_discard_50 (by decide) rfl ?_
        subst et_47 ev_36 et_28 ev_14 ev_1
        exact G.ireturn hR (rfl) dX4_discard_51 ⟨congrArg some (by simp only [vX4_discard, if_neg c_4, if_neg c_17, if_neg c_39]), congrArg (wX a cI cZ) (by simp only [sX4_discard, if_neg c_4, if_neg c_17, if_neg c_39])⟩
    · refine G.bipush (pc2 := 22) (v := (-7)) dX4_discard_20 (by decide) rfl ?_
      subst ev_14 ev_1
      exact G.ireturn hR (rfl) dX4_discard_22 ⟨congrArg some (by simp only [vX4_discard, if_neg c_4, if_pos c_17]), congrArg (wX a cI cZ) (by simp only [sX4_discard, if_neg c_4, if_pos c_17])⟩
  · refine G.iconst (pc2 := 8) (v := (-1)) dX4_discard_7 (by decide) rfl ?_
    subst ev_1
    exact G.ireturn hR (rfl) dX4_discard_8 ⟨congrArg some (by simp only [vX4_discard, if_pos c_4]), congrArg (wX a cI cZ) (by simp only [sX4_discard, if_pos c_4])⟩
set_option maxRecDepth 100000 in
set_option maxHeartbeats 4000000 in
theorem c_X4_isResident {cI cZ : ClassId} (a : Nat → Nat) (u : SX) (p0 : Int32) (hf : FW u.2.1) : Ct yX4_isResident wsX4_isResident rX4_isResident cI cZ [.ref (a 0), .int p0] (wX a cI cZ u) 0 0 (rt (some (vX4_isResident u p0)) (wX a cI cZ u)) := by
  refine Ct.of (cc := cX4_isResident) (nL := 2) (own := RX4) (by decide) rfl rfl (Nat.le_of_ble_eq_true rfl) rfl ?_
  intro K hR hN
  refine G.iload_n (pc2 := 1) (x := p0) dX4_isResident_0 rfl rfl rfl ?_
  refine G.callSd (pc2 := 4) (i := 0) (j := 0) (As := [.int p0]) (rest := []) (ws2 := wX a cI cZ u) (st2 := [.int (vX4_isPage p0)]) (c_X4_isPage (cI := cI) (cZ := cZ) p0) gX4_isResident_X4_isPage rfl rfl rfl ndX4_isPage.2 ⟨Nat.le_of_ble_eq_true rfl, Nat.le_of_ble_eq_true rfl⟩ ⟨Nat.le_of_ble_eq_true rfl, Nat.le_of_ble_eq_true rfl⟩ rfl rfl (Nat.le_of_ble_eq_true rfl) rfl rfl rfl dX4_isResident_1 rfl ?_
  generalize ev_1 : vX4_isPage p0 = v_1
  refine G.if_ne (pc2 := 7) (tgt := 9) dX4_isResident_4 rfl rfl (fun c_4 => ?_) (fun c_4 => ?_)
  · refine G.aload_n (pc2 := 10) (x := a 0) dX4_isResident_9 rfl rfl rfl ?_
    refine G.getf (pc2 := 13) (q0 := 0) (ci := 4) (k := 1) (v := .ref (a 3)) iX4_isResident_X4 kX4_isResident_19 rfl rfl (by decide) rfl dX4_isResident_10 rfl ?_
    refine G.iload_n (pc2 := 14) (x := p0) dX4_isResident_13 rfl rfl rfl ?_
    refine G.callVd (pc2 := 17) (i := 3) (j := 8) (q0 := 3) (ci := 1) (As := [.int p0]) (rest := []) (ws2 := wX a cI cZ u) (st2 := [.int (vX1_holds u.2.1 p0)]) (c_X1_holds (cI := cI) (cZ := cZ) (a 3) (a 4) (a 5) (a 6) (a 7) u.2.1 p0 (by subst ev_1; exact (pgX c_4)) (hf)) gX4_isResident_X1_holds rfl rfl rfl ndX1_holds ⟨Nat.le_of_ble_eq_true rfl, Nat.le_of_ble_eq_true rfl⟩ ⟨Nat.le_of_ble_eq_true rfl, Nat.le_of_ble_eq_true rfl⟩ rfl rfl (Nat.le_of_ble_eq_true rfl) rfl rfl rfl rfl rfl rfl dX4_isResident_14 rfl ?_
    generalize ev_14 : vX1_holds u.2.1 p0 = v_14
    refine G.if_eq (pc2 := 20) (tgt := 24) dX4_isResident_17 rfl rfl (fun c_17 => ?_) (fun c_17 => ?_)
    · refine G.iconst (pc2 := 25) (v := 0) dX4_isResident_24 (by decide) rfl ?_
      subst ev_14 ev_1
      exact G.ireturn hR (rfl) dX4_isResident_25 ⟨congrArg some (by simp only [vX4_isResident, if_neg c_4, if_pos c_17]), rfl⟩
    · refine G.iconst (pc2 := 21) (v := 1) dX4_isResident_20 (by decide) rfl ?_
      refine G.goto (tgt := 25) dX4_isResident_21 rfl ?_
      subst ev_14 ev_1
      exact G.ireturn hR (rfl) dX4_isResident_25 ⟨congrArg some (by simp only [vX4_isResident, if_neg c_4, if_neg c_17]), rfl⟩
  · refine G.iconst (pc2 := 8) (v := (-1)) dX4_isResident_7 (by decide) rfl ?_
    subst ev_1
    exact G.ireturn hR (rfl) dX4_isResident_8 ⟨congrArg some (by simp only [vX4_isResident, if_pos c_4]), rfl⟩
set_option maxRecDepth 100000 in
set_option maxHeartbeats 4000000 in
theorem c_X4_isDirty {cI cZ : ClassId} (a : Nat → Nat) (u : SX) (p0 : Int32) (hf : FW u.2.1) : Ct yX4_isDirty wsX4_isDirty rX4_isDirty cI cZ [.ref (a 0), .int p0] (wX a cI cZ u) 0 0 (rt (some (vX4_isDirty u p0)) (wX a cI cZ u)) := by
  refine Ct.of (cc := cX4_isDirty) (nL := 2) (own := RX4) (by decide) rfl rfl (Nat.le_of_ble_eq_true rfl) rfl ?_
  intro K hR hN
  refine G.iload_n (pc2 := 1) (x := p0) dX4_isDirty_0 rfl rfl rfl ?_
  refine G.callSd (pc2 := 4) (i := 0) (j := 0) (As := [.int p0]) (rest := []) (ws2 := wX a cI cZ u) (st2 := [.int (vX4_isPage p0)]) (c_X4_isPage (cI := cI) (cZ := cZ) p0) gX4_isDirty_X4_isPage rfl rfl rfl ndX4_isPage.2 ⟨Nat.le_of_ble_eq_true rfl, Nat.le_of_ble_eq_true rfl⟩ ⟨Nat.le_of_ble_eq_true rfl, Nat.le_of_ble_eq_true rfl⟩ rfl rfl (Nat.le_of_ble_eq_true rfl) rfl rfl rfl dX4_isDirty_1 rfl ?_
  generalize ev_1 : vX4_isPage p0 = v_1
  refine G.if_ne (pc2 := 7) (tgt := 9) dX4_isDirty_4 rfl rfl (fun c_4 => ?_) (fun c_4 => ?_)
  · refine G.aload_n (pc2 := 10) (x := a 0) dX4_isDirty_9 rfl rfl rfl ?_
    refine G.getf (pc2 := 13) (q0 := 0) (ci := 4) (k := 1) (v := .ref (a 3)) iX4_isDirty_X4 kX4_isDirty_19 rfl rfl (by decide) rfl dX4_isDirty_10 rfl ?_
    refine G.iload_n (pc2 := 14) (x := p0) dX4_isDirty_13 rfl rfl rfl ?_
    refine G.callVd (pc2 := 17) (i := 3) (j := 8) (q0 := 3) (ci := 1) (As := [.int p0]) (rest := []) (ws2 := wX a cI cZ u) (st2 := [.int (vX1_holds u.2.1 p0)]) (c_X1_holds (cI := cI) (cZ := cZ) (a 3) (a 4) (a 5) (a 6) (a 7) u.2.1 p0 (by subst ev_1; exact (pgX c_4)) (hf)) gX4_isDirty_X1_holds rfl rfl rfl ndX1_holds ⟨Nat.le_of_ble_eq_true rfl, Nat.le_of_ble_eq_true rfl⟩ ⟨Nat.le_of_ble_eq_true rfl, Nat.le_of_ble_eq_true rfl⟩ rfl rfl (Nat.le_of_ble_eq_true rfl) rfl rfl rfl rfl rfl rfl dX4_isDirty_14 rfl ?_
    generalize ev_14 : vX1_holds u.2.1 p0 = v_14
    refine G.if_ne (pc2 := 20) (tgt := 23) dX4_isDirty_17 rfl rfl (fun c_17 => ?_) (fun c_17 => ?_)
    · refine G.aload_n (pc2 := 24) (x := a 0) dX4_isDirty_23 rfl rfl rfl ?_
      refine G.getf (pc2 := 27) (q0 := 0) (ci := 4) (k := 1) (v := .ref (a 3)) iX4_isDirty_X4 kX4_isDirty_19 rfl rfl (by decide) rfl dX4_isDirty_24 rfl ?_
      refine G.iload_n (pc2 := 28) (x := p0) dX4_isDirty_27 rfl rfl rfl ?_
      refine G.callVd (pc2 := 31) (i := 3) (j := 8) (q0 := 3) (ci := 1) (As := [.int p0]) (rest := []) (ws2 := wX a cI cZ u) (st2 := [.int (vX1_isChanged u.2.1 p0)]) (c_X1_isChanged (cI := cI) (cZ := cZ) (a 3) (a 4) (a 5) (a 6) (a 7) u.2.1 p0 (by subst ev_14 ev_1; exact (pgX c_4)) (hf)) gX4_isDirty_X1_isChanged rfl rfl rfl ndX1_isChanged ⟨Nat.le_of_ble_eq_true rfl, Nat.le_of_ble_eq_true rfl⟩ ⟨Nat.le_of_ble_eq_true rfl, Nat.le_of_ble_eq_true rfl⟩ rfl rfl (Nat.le_of_ble_eq_true rfl) rfl rfl rfl rfl rfl rfl dX4_isDirty_28 rfl ?_
      generalize ev_28 : vX1_isChanged u.2.1 p0 = v_28
      refine G.if_eq (pc2 := 34) (tgt := 38) dX4_isDirty_31 rfl rfl (fun c_31 => ?_) (fun c_31 => ?_)
      · refine G.iconst (pc2 := 39) (v := 0) dX4_isDirty_38 (by decide) rfl ?_
        subst ev_28 ev_14 ev_1
        exact G.ireturn hR (rfl) dX4_isDirty_39 ⟨congrArg some (by simp only [vX4_isDirty, if_neg c_4, if_neg c_17, if_pos c_31]), rfl⟩
      · refine G.iconst (pc2 := 35) (v := 1) dX4_isDirty_34 (by decide) rfl ?_
        refine G.goto (tgt := 39) dX4_isDirty_35 rfl ?_
        subst ev_28 ev_14 ev_1
        exact G.ireturn hR (rfl) dX4_isDirty_39 ⟨congrArg some (by simp only [vX4_isDirty, if_neg c_4, if_neg c_17, if_neg c_31]), rfl⟩
    · refine G.bipush (pc2 := 22) (v := (-4)) dX4_isDirty_20 (by decide) rfl ?_
      subst ev_14 ev_1
      exact G.ireturn hR (rfl) dX4_isDirty_22 ⟨congrArg some (by simp only [vX4_isDirty, if_neg c_4, if_pos c_17]), rfl⟩
  · refine G.iconst (pc2 := 8) (v := (-1)) dX4_isDirty_7 (by decide) rfl ?_
    subst ev_1
    exact G.ireturn hR (rfl) dX4_isDirty_8 ⟨congrArg some (by simp only [vX4_isDirty, if_pos c_4]), rfl⟩
end
section
set_option maxRecDepth 100000 in
set_option maxHeartbeats 4000000 in
theorem c_X4_pinCount {cI cZ : ClassId} (a : Nat → Nat) (u : SX) (p0 : Int32) (hf : FW u.2.1) : Ct yX4_pinCount wsX4_pinCount rX4_pinCount cI cZ [.ref (a 0), .int p0] (wX a cI cZ u) 0 0 (rt (some (vX4_pinCount u p0)) (wX a cI cZ u)) := by
  refine Ct.of (cc := cX4_pinCount) (nL := 2) (own := RX4) (by decide) rfl rfl (Nat.le_of_ble_eq_true rfl) rfl ?_
  intro K hR hN
  refine G.iload_n (pc2 := 1) (x := p0) dX4_pinCount_0 rfl rfl rfl ?_
  refine G.callSd (pc2 := 4) (i := 0) (j := 0) (As := [.int p0]) (rest := []) (ws2 := wX a cI cZ u) (st2 := [.int (vX4_isPage p0)]) (c_X4_isPage (cI := cI) (cZ := cZ) p0) gX4_pinCount_X4_isPage rfl rfl rfl ndX4_isPage.2 ⟨Nat.le_of_ble_eq_true rfl, Nat.le_of_ble_eq_true rfl⟩ ⟨Nat.le_of_ble_eq_true rfl, Nat.le_of_ble_eq_true rfl⟩ rfl rfl (Nat.le_of_ble_eq_true rfl) rfl rfl rfl dX4_pinCount_1 rfl ?_
  generalize ev_1 : vX4_isPage p0 = v_1
  refine G.if_ne (pc2 := 7) (tgt := 9) dX4_pinCount_4 rfl rfl (fun c_4 => ?_) (fun c_4 => ?_)
  · refine G.aload_n (pc2 := 10) (x := a 0) dX4_pinCount_9 rfl rfl rfl ?_
    refine G.getf (pc2 := 13) (q0 := 0) (ci := 4) (k := 1) (v := .ref (a 3)) iX4_pinCount_X4 kX4_pinCount_19 rfl rfl (by decide) rfl dX4_pinCount_10 rfl ?_
    refine G.iload_n (pc2 := 14) (x := p0) dX4_pinCount_13 rfl rfl rfl ?_
    refine G.callVd (pc2 := 17) (i := 3) (j := 8) (q0 := 3) (ci := 1) (As := [.int p0]) (rest := []) (ws2 := wX a cI cZ u) (st2 := [.int (vX1_holds u.2.1 p0)]) (c_X1_holds (cI := cI) (cZ := cZ) (a 3) (a 4) (a 5) (a 6) (a 7) u.2.1 p0 (by subst ev_1; exact (pgX c_4)) (hf)) gX4_pinCount_X1_holds rfl rfl rfl ndX1_holds ⟨Nat.le_of_ble_eq_true rfl, Nat.le_of_ble_eq_true rfl⟩ ⟨Nat.le_of_ble_eq_true rfl, Nat.le_of_ble_eq_true rfl⟩ rfl rfl (Nat.le_of_ble_eq_true rfl) rfl rfl rfl rfl rfl rfl dX4_pinCount_14 rfl ?_
    generalize ev_14 : vX1_holds u.2.1 p0 = v_14
    refine G.if_ne (pc2 := 20) (tgt := 23) dX4_pinCount_17 rfl rfl (fun c_17 => ?_) (fun c_17 => ?_)
    · refine G.aload_n (pc2 := 24) (x := a 0) dX4_pinCount_23 rfl rfl rfl ?_
      refine G.getf (pc2 := 27) (q0 := 0) (ci := 4) (k := 1) (v := .ref (a 3)) iX4_pinCount_X4 kX4_pinCount_19 rfl rfl (by decide) rfl dX4_pinCount_24 rfl ?_
      refine G.iload_n (pc2 := 28) (x := p0) dX4_pinCount_27 rfl rfl rfl ?_
      refine G.callVd (pc2 := 31) (i := 3) (j := 8) (q0 := 3) (ci := 1) (As := [.int p0]) (rest := []) (ws2 := wX a cI cZ u) (st2 := [.int (vX1_pinsOf u.2.1 p0)]) (c_X1_pinsOf (cI := cI) (cZ := cZ) (a 3) (a 4) (a 5) (a 6) (a 7) u.2.1 p0 (by subst ev_14 ev_1; exact (pgX c_4))) gX4_pinCount_X1_pinsOf rfl rfl rfl ndX1_pinsOf ⟨Nat.le_of_ble_eq_true rfl, Nat.le_of_ble_eq_true rfl⟩ ⟨Nat.le_of_ble_eq_true rfl, Nat.le_of_ble_eq_true rfl⟩ rfl rfl (Nat.le_of_ble_eq_true rfl) rfl rfl rfl rfl rfl rfl dX4_pinCount_28 rfl ?_
      generalize ev_28 : vX1_pinsOf u.2.1 p0 = v_28
      subst ev_28 ev_14 ev_1
      exact G.ireturn hR (rfl) dX4_pinCount_31 ⟨congrArg some (by simp only [vX4_pinCount, if_neg c_4, if_neg c_17]), rfl⟩
    · refine G.bipush (pc2 := 22) (v := (-4)) dX4_pinCount_20 (by decide) rfl ?_
      subst ev_14 ev_1
      exact G.ireturn hR (rfl) dX4_pinCount_22 ⟨congrArg some (by simp only [vX4_pinCount, if_neg c_4, if_pos c_17]), rfl⟩
  · refine G.iconst (pc2 := 8) (v := (-1)) dX4_pinCount_7 (by decide) rfl ?_
    subst ev_1
    exact G.ireturn hR (rfl) dX4_pinCount_8 ⟨congrArg some (by simp only [vX4_pinCount, if_pos c_4]), rfl⟩
set_option maxRecDepth 100000 in
set_option maxHeartbeats 4000000 in
theorem c_X4_referenceTime {cI cZ : ClassId} (a : Nat → Nat) (u : SX) (p0 p1 : Int32) (hh : HW u.2.2.2.1) : Ct yX4_referenceTime wsX4_referenceTime rX4_referenceTime cI cZ [.ref (a 0), .int p0, .int p1] (wX a cI cZ u) 0 0 (rt (some (vX4_referenceTime u p0 p1)) (wX a cI cZ u)) := by
  refine Ct.of (cc := cX4_referenceTime) (nL := 3) (own := RX4) (by decide) rfl rfl (Nat.le_of_ble_eq_true rfl) rfl ?_
  intro K hR hN
  refine G.iload_n (pc2 := 1) (x := p0) dX4_referenceTime_0 rfl rfl rfl ?_
  refine G.callSd (pc2 := 4) (i := 0) (j := 0) (As := [.int p0]) (rest := []) (ws2 := wX a cI cZ u) (st2 := [.int (vX4_isPage p0)]) (c_X4_isPage (cI := cI) (cZ := cZ) p0) gX4_referenceTime_X4_isPage rfl rfl rfl ndX4_isPage.2 ⟨Nat.le_of_ble_eq_true rfl, Nat.le_of_ble_eq_true rfl⟩ ⟨Nat.le_of_ble_eq_true rfl, Nat.le_of_ble_eq_true rfl⟩ rfl rfl (Nat.le_of_ble_eq_true rfl) rfl rfl rfl dX4_referenceTime_1 rfl ?_
  generalize ev_1 : vX4_isPage p0 = v_1
  refine G.if_ne (pc2 := 7) (tgt := 9) dX4_referenceTime_4 rfl rfl (fun c_4 => ?_) (fun c_4 => ?_)
  · refine G.iload_n (pc2 := 10) (x := p1) dX4_referenceTime_9 rfl rfl rfl ?_
    refine G.iconst (pc2 := 11) (v := 1) dX4_referenceTime_10 (by decide) rfl ?_
    refine G.aload_n (pc2 := 12) (x := a 0) dX4_referenceTime_11 rfl rfl rfl ?_
    refine G.getf (pc2 := 15) (q0 := 0) (ci := 4) (k := 3) (v := .ref (a 11)) iX4_referenceTime_X4 kX4_referenceTime_33 rfl rfl (by decide) rfl dX4_referenceTime_12 rfl ?_
    refine G.callVd (pc2 := 18) (i := 11) (j := 14) (q0 := 11) (ci := 2) (As := []) (rest := [.int 1, .int p1]) (ws2 := wX a cI cZ u) (st2 := [.int (vX2_depth u.2.2.2.1), .int 1, .int p1]) (c_X2_depth (cI := cI) (cZ := cZ) (a 11) (a 12) (a 13) u.2.2.2.1) gX4_referenceTime_X2_depth rfl rfl rfl ndX2_depth ⟨Nat.le_of_ble_eq_true rfl, Nat.le_of_ble_eq_true rfl⟩ ⟨Nat.le_of_ble_eq_true rfl, Nat.le_of_ble_eq_true rfl⟩ rfl rfl (Nat.le_of_ble_eq_true rfl) rfl rfl rfl rfl rfl rfl dX4_referenceTime_15 rfl ?_
    generalize ev_15 : vX2_depth u.2.2.2.1 = v_15
    refine G.callSd (pc2 := 21) (i := 0) (j := 0) (As := [.int p1, .int 1, .int v_15]) (rest := []) (ws2 := wX a cI cZ u) (st2 := [.int (vX4_isWithin p1 1 v_15)]) (c_X4_isWithin (cI := cI) (cZ := cZ) p1 1 v_15) gX4_referenceTime_X4_isWithin rfl rfl rfl ndX4_isWithin.2 ⟨Nat.le_of_ble_eq_true rfl, Nat.le_of_ble_eq_true rfl⟩ ⟨Nat.le_of_ble_eq_true rfl, Nat.le_of_ble_eq_true rfl⟩ rfl rfl (Nat.le_of_ble_eq_true rfl) rfl rfl rfl dX4_referenceTime_18 rfl ?_
    generalize ev_18 : vX4_isWithin p1 1 v_15 = v_18
    refine G.if_ne (pc2 := 24) (tgt := 27) dX4_referenceTime_21 rfl rfl (fun c_21 => ?_) (fun c_21 => ?_)
    · refine G.aload_n (pc2 := 28) (x := a 0) dX4_referenceTime_27 rfl rfl rfl ?_
      refine G.getf (pc2 := 31) (q0 := 0) (ci := 4) (k := 3) (v := .ref (a 11)) iX4_referenceTime_X4 kX4_referenceTime_33 rfl rfl (by decide) rfl dX4_referenceTime_28 rfl ?_
      refine G.iload_n (pc2 := 32) (x := p0) dX4_referenceTime_31 rfl rfl rfl ?_
      refine G.iload_n (pc2 := 33) (x := p1) dX4_referenceTime_32 rfl rfl rfl ?_
      refine G.callVd (pc2 := 36) (i := 11) (j := 14) (q0 := 11) (ci := 2) (As := [.int p0, .int p1]) (rest := []) (ws2 := wX a cI cZ u) (st2 := [.int (vX2_timeOf u.2.2.2.1 p0 p1)]) (c_X2_timeOf (cI := cI) (cZ := cZ) (a 11) (a 12) (a 13) u.2.2.2.1 p0 p1 (by subst ev_18 ev_15 ev_1; exact (pgX c_4)) (hh)) gX4_referenceTime_X2_timeOf rfl rfl rfl ndX2_timeOf ⟨Nat.le_of_ble_eq_true rfl, Nat.le_of_ble_eq_true rfl⟩ ⟨Nat.le_of_ble_eq_true rfl, Nat.le_of_ble_eq_true rfl⟩ rfl rfl (Nat.le_of_ble_eq_true rfl) rfl rfl rfl rfl rfl rfl dX4_referenceTime_33 rfl ?_
      generalize ev_33 : vX2_timeOf u.2.2.2.1 p0 p1 = v_33
      subst ev_33 ev_18 ev_15 ev_1
      exact G.ireturn hR (rfl) dX4_referenceTime_36 ⟨congrArg some (by simp only [vX4_referenceTime, if_neg c_4, if_neg c_21]), rfl⟩
    · refine G.bipush (pc2 := 26) (v := (-8)) dX4_referenceTime_24 (by decide) rfl ?_
      subst ev_18 ev_15 ev_1
      exact G.ireturn hR (rfl) dX4_referenceTime_26 ⟨congrArg some (by simp only [vX4_referenceTime, if_neg c_4, if_pos c_21]), rfl⟩
  · refine G.iconst (pc2 := 8) (v := (-1)) dX4_referenceTime_7 (by decide) rfl ?_
    subst ev_1
    exact G.ireturn hR (rfl) dX4_referenceTime_8 ⟨congrArg some (by simp only [vX4_referenceTime, if_pos c_4]), rfl⟩
set_option maxRecDepth 100000 in
set_option maxHeartbeats 4000000 in
theorem c_X4_backwardKDistance {cI cZ : ClassId} (a : Nat → Nat) (u : SX) (p0 : Int32) (hh : HW u.2.2.2.1) : Ct yX4_backwardKDistance wsX4_backwardKDistance rX4_backwardKDistance cI cZ [.ref (a 0), .int p0] (wX a cI cZ u) 0 0 (rt (some (vX4_backwardKDistance u p0)) (wX a cI cZ u)) := by
  refine Ct.of (cc := cX4_backwardKDistance) (nL := 3) (own := RX4) (by decide) rfl rfl (Nat.le_of_ble_eq_true rfl) rfl ?_
  intro K hR hN
  refine G.iload_n (pc2 := 1) (x := p0) dX4_backwardKDistance_0 rfl rfl rfl ?_
  refine G.callSd (pc2 := 4) (i := 0) (j := 0) (As := [.int p0]) (rest := []) (ws2 := wX a cI cZ u) (st2 := [.int (vX4_isPage p0)]) (c_X4_isPage (cI := cI) (cZ := cZ) p0) gX4_backwardKDistance_X4_isPage rfl rfl rfl ndX4_isPage.2 ⟨Nat.le_of_ble_eq_true rfl, Nat.le_of_ble_eq_true rfl⟩ ⟨Nat.le_of_ble_eq_true rfl, Nat.le_of_ble_eq_true rfl⟩ rfl rfl (Nat.le_of_ble_eq_true rfl) rfl rfl rfl dX4_backwardKDistance_1 rfl ?_
  generalize ev_1 : vX4_isPage p0 = v_1
  refine G.if_ne (pc2 := 7) (tgt := 9) dX4_backwardKDistance_4 rfl rfl (fun c_4 => ?_) (fun c_4 => ?_)
  · refine G.aload_n (pc2 := 10) (x := a 0) dX4_backwardKDistance_9 rfl rfl rfl ?_
    refine G.getf (pc2 := 13) (q0 := 0) (ci := 4) (k := 3) (v := .ref (a 11)) iX4_backwardKDistance_X4 kX4_backwardKDistance_33 rfl rfl (by decide) rfl dX4_backwardKDistance_10 rfl ?_
    refine G.iload_n (pc2 := 14) (x := p0) dX4_backwardKDistance_13 rfl rfl rfl ?_
    refine G.aload_n (pc2 := 15) (x := a 0) dX4_backwardKDistance_14 rfl rfl rfl ?_
    refine G.getf (pc2 := 18) (q0 := 0) (ci := 4) (k := 3) (v := .ref (a 11)) iX4_backwardKDistance_X4 kX4_backwardKDistance_33 rfl rfl (by decide) rfl dX4_backwardKDistance_15 rfl ?_
    refine G.callVd (pc2 := 21) (i := 11) (j := 14) (q0 := 11) (ci := 2) (As := []) (rest := [.int p0, .ref (a 11)]) (ws2 := wX a cI cZ u) (st2 := [.int (vX2_depth u.2.2.2.1), .int p0, .ref (a 11)]) (c_X2_depth (cI := cI) (cZ := cZ) (a 11) (a 12) (a 13) u.2.2.2.1) gX4_backwardKDistance_X2_depth rfl rfl rfl ndX2_depth ⟨Nat.le_of_ble_eq_true rfl, Nat.le_of_ble_eq_true rfl⟩ ⟨Nat.le_of_ble_eq_true rfl, Nat.le_of_ble_eq_true rfl⟩ rfl rfl (Nat.le_of_ble_eq_true rfl) rfl rfl rfl rfl rfl rfl dX4_backwardKDistance_18 rfl ?_
    generalize ev_18 : vX2_depth u.2.2.2.1 = v_18
    refine G.callVd (pc2 := 24) (i := 11) (j := 14) (q0 := 11) (ci := 2) (As := [.int p0, .int v_18]) (rest := []) (ws2 := wX a cI cZ u) (st2 := [.int (vX2_timeOf u.2.2.2.1 p0 v_18)]) (c_X2_timeOf (cI := cI) (cZ := cZ) (a 11) (a 12) (a 13) u.2.2.2.1 p0 v_18 (by subst ev_18 ev_1; exact (pgX c_4)) (hh)) gX4_backwardKDistance_X2_timeOf rfl rfl rfl ndX2_timeOf ⟨Nat.le_of_ble_eq_true rfl, Nat.le_of_ble_eq_true rfl⟩ ⟨Nat.le_of_ble_eq_true rfl, Nat.le_of_ble_eq_true rfl⟩ rfl rfl (Nat.le_of_ble_eq_true rfl) rfl rfl rfl rfl rfl rfl dX4_backwardKDistance_21 rfl ?_
    generalize ev_21 : vX2_timeOf u.2.2.2.1 p0 v_18 = v_21
    refine G.istore_n (pc2 := 25) (lv2 := [(0, .ref (a 0)), (1, .int p0), (2, .int v_21)]) [1, 2, 0] dX4_backwardKDistance_24 rfl (by decide) rfl rfl ?_
    refine G.iload_n (pc2 := 26) (x := v_21) dX4_backwardKDistance_25 rfl rfl rfl ?_
    refine G.bipush (pc2 := 28) (v := (-9)) dX4_backwardKDistance_26 (by decide) rfl ?_
    refine G.icmp_ne (pc2 := 31) (tgt := 36) dX4_backwardKDistance_28 rfl rfl (fun c_28 => ?_) (fun c_28 => ?_)
    · refine G.aload_n (pc2 := 37) (x := a 0) dX4_backwardKDistance_36 rfl rfl rfl ?_
      refine G.getf (pc2 := 40) (q0 := 0) (ci := 4) (k := 5) (v := .int u.2.2.2.2.2.1) iX4_backwardKDistance_X4 kX4_backwardKDistance_111 rfl rfl (by decide) rfl dX4_backwardKDistance_37 rfl ?_
      refine G.iload_n (pc2 := 41) (x := v_21) dX4_backwardKDistance_40 rfl rfl rfl ?_
      refine G.isub (pc2 := 42) (v := u.2.2.2.2.2.1 - v_21) dX4_backwardKDistance_41 rfl rfl ?_
      subst ev_21 ev_18 ev_1
      exact G.ireturn hR (rfl) dX4_backwardKDistance_42 ⟨congrArg some (by simp only [vX4_backwardKDistance, if_neg c_4, if_neg c_28]), rfl⟩
    · refine G.bipush (pc2 := 33) (v := (-9)) dX4_backwardKDistance_31 (by decide) rfl ?_
      refine G.goto (tgt := 42) dX4_backwardKDistance_33 rfl ?_
      subst ev_21 ev_18 ev_1
      exact G.ireturn hR (rfl) dX4_backwardKDistance_42 ⟨congrArg some (by simp only [vX4_backwardKDistance, if_neg c_4, if_pos c_28]), rfl⟩
  · refine G.iconst (pc2 := 8) (v := (-1)) dX4_backwardKDistance_7 (by decide) rfl ?_
    subst ev_1
    exact G.ireturn hR (rfl) dX4_backwardKDistance_8 ⟨congrArg some (by simp only [vX4_backwardKDistance, if_pos c_4]), rfl⟩
set_option maxRecDepth 100000 in
set_option maxHeartbeats 4000000 in
theorem c_X4_victim {cI cZ : ClassId} (a : Nat → Nat) (u : SX) (hh : HW u.2.2.2.1) (hf : FW u.2.1) : Ct yX4_victim wsX4_victim rX4_victim cI cZ [.ref (a 0)] (wX a cI cZ u) 0 0 (rt (some (vX4_victim u)) (wX a cI cZ u)) := by
  refine Ct.of (cc := cX4_victim) (nL := 1) (own := RX4) (by decide) rfl rfl (Nat.le_of_ble_eq_true rfl) rfl ?_
  intro K hR hN
  refine G.aload_n (pc2 := 1) (x := a 0) dX4_victim_0 rfl rfl rfl ?_
  refine G.callVd (pc2 := 4) (i := 0) (j := 14) (q0 := 0) (ci := 4) (As := []) (rest := []) (ws2 := wX a cI cZ u) (st2 := [.int (vX4_chooseVictim u)]) (c_X4_chooseVictim (cI := cI) (cZ := cZ) a u (hh) (hf)) gX4_victim_X4_chooseVictim rfl rfl rfl ndX4_chooseVictim ⟨Nat.le_of_ble_eq_true rfl, Nat.le_of_ble_eq_true rfl⟩ ⟨Nat.le_of_ble_eq_true rfl, Nat.le_of_ble_eq_true rfl⟩ rfl rfl (Nat.le_of_ble_eq_true rfl) rfl rfl rfl rfl rfl rfl dX4_victim_1 rfl ?_
  generalize ev_1 : vX4_chooseVictim u = v_1
  subst ev_1
  exact G.ireturn hR (rfl) dX4_victim_4 ⟨congrArg some (rfl), rfl⟩
set_option maxRecDepth 100000 in
set_option maxHeartbeats 4000000 in
theorem c_X4_diskValue {cI cZ : ClassId} (a : Nat → Nat) (u : SX) (p0 : Int32)  : Ct yX4_diskValue wsX4_diskValue rX4_diskValue cI cZ [.ref (a 0), .int p0] (wX a cI cZ u) 0 0 (rt (some (vX4_diskValue u p0)) (wX a cI cZ u)) := by
  refine Ct.of (cc := cX4_diskValue) (nL := 2) (own := RX4) (by decide) rfl rfl (Nat.le_of_ble_eq_true rfl) rfl ?_
  intro K hR hN
  refine G.iload_n (pc2 := 1) (x := p0) dX4_diskValue_0 rfl rfl rfl ?_
  refine G.callSd (pc2 := 4) (i := 0) (j := 0) (As := [.int p0]) (rest := []) (ws2 := wX a cI cZ u) (st2 := [.int (vX4_isPage p0)]) (c_X4_isPage (cI := cI) (cZ := cZ) p0) gX4_diskValue_X4_isPage rfl rfl rfl ndX4_isPage.2 ⟨Nat.le_of_ble_eq_true rfl, Nat.le_of_ble_eq_true rfl⟩ ⟨Nat.le_of_ble_eq_true rfl, Nat.le_of_ble_eq_true rfl⟩ rfl rfl (Nat.le_of_ble_eq_true rfl) rfl rfl rfl dX4_diskValue_1 rfl ?_
  generalize ev_1 : vX4_isPage p0 = v_1
  refine G.if_ne (pc2 := 7) (tgt := 9) dX4_diskValue_4 rfl rfl (fun c_4 => ?_) (fun c_4 => ?_)
  · refine G.aload_n (pc2 := 10) (x := a 0) dX4_diskValue_9 rfl rfl rfl ?_
    refine G.getf (pc2 := 13) (q0 := 0) (ci := 4) (k := 0) (v := .ref (a 1)) iX4_diskValue_X4 kX4_diskValue_10 rfl rfl (by decide) rfl dX4_diskValue_10 rfl ?_
    refine G.iload_n (pc2 := 14) (x := p0) dX4_diskValue_13 rfl rfl rfl ?_
    refine G.callVd (pc2 := 17) (i := 1) (j := 3) (q0 := 1) (ci := 0) (As := [.int p0]) (rest := []) (ws2 := wX a cI cZ u) (st2 := [.int (vX0_valueOf u.1 p0)]) (c_X0_valueOf (cI := cI) (cZ := cZ) (a 1) (a 2) u.1 p0 (by subst ev_1; exact (pgX c_4))) gX4_diskValue_X0_valueOf rfl rfl rfl ndX0_valueOf ⟨Nat.le_of_ble_eq_true rfl, Nat.le_of_ble_eq_true rfl⟩ ⟨Nat.le_of_ble_eq_true rfl, Nat.le_of_ble_eq_true rfl⟩ rfl rfl (Nat.le_of_ble_eq_true rfl) rfl rfl rfl rfl rfl rfl dX4_diskValue_14 rfl ?_
    generalize ev_14 : vX0_valueOf u.1 p0 = v_14
    subst ev_14 ev_1
    exact G.ireturn hR (rfl) dX4_diskValue_17 ⟨congrArg some (by simp only [vX4_diskValue, if_neg c_4]), rfl⟩
  · refine G.iconst (pc2 := 8) (v := (-1)) dX4_diskValue_7 (by decide) rfl ?_
    subst ev_1
    exact G.ireturn hR (rfl) dX4_diskValue_8 ⟨congrArg some (by simp only [vX4_diskValue, if_pos c_4]), rfl⟩
set_option maxRecDepth 100000 in
set_option maxHeartbeats 4000000 in
theorem c_X4_residentCount {cI cZ : ClassId} (a : Nat → Nat) (u : SX)  : Ct yX4_residentCount wsX4_residentCount rX4_residentCount cI cZ [.ref (a 0)] (wX a cI cZ u) 0 0 (rt (some (vX4_residentCount u)) (wX a cI cZ u)) := by
  refine Ct.of (cc := cX4_residentCount) (nL := 1) (own := RX4) (by decide) rfl rfl (Nat.le_of_ble_eq_true rfl) rfl ?_
  intro K hR hN
  refine G.aload_n (pc2 := 1) (x := a 0) dX4_residentCount_0 rfl rfl rfl ?_
  refine G.getf (pc2 := 4) (q0 := 0) (ci := 4) (k := 1) (v := .ref (a 3)) iX4_residentCount_X4 kX4_residentCount_19 rfl rfl (by decide) rfl dX4_residentCount_1 rfl ?_
  refine G.callVd (pc2 := 7) (i := 3) (j := 8) (q0 := 3) (ci := 1) (As := []) (rest := []) (ws2 := wX a cI cZ u) (st2 := [.int (vX1_used u.2.1)]) (c_X1_used (cI := cI) (cZ := cZ) (a 3) (a 4) (a 5) (a 6) (a 7) u.2.1) gX4_residentCount_X1_used rfl rfl rfl ndX1_used ⟨Nat.le_of_ble_eq_true rfl, Nat.le_of_ble_eq_true rfl⟩ ⟨Nat.le_of_ble_eq_true rfl, Nat.le_of_ble_eq_true rfl⟩ rfl rfl (Nat.le_of_ble_eq_true rfl) rfl rfl rfl rfl rfl rfl dX4_residentCount_4 rfl ?_
  generalize ev_4 : vX1_used u.2.1 = v_4
  subst ev_4
  exact G.ireturn hR (rfl) dX4_residentCount_7 ⟨congrArg some (rfl), rfl⟩
set_option maxRecDepth 100000 in
set_option maxHeartbeats 4000000 in
theorem c_X4_residentPage {cI cZ : ClassId} (a : Nat → Nat) (u : SX) (p0 : Int32)  : Ct yX4_residentPage wsX4_residentPage rX4_residentPage cI cZ [.ref (a 0), .int p0] (wX a cI cZ u) 0 0 (rt (some (vX4_residentPage u p0)) (wX a cI cZ u)) := by
  refine Ct.of (cc := cX4_residentPage) (nL := 2) (own := RX4) (by decide) rfl rfl (Nat.le_of_ble_eq_true rfl) rfl ?_
  intro K hR hN
  refine G.aload_n (pc2 := 1) (x := a 0) dX4_residentPage_0 rfl rfl rfl ?_
  refine G.getf (pc2 := 4) (q0 := 0) (ci := 4) (k := 1) (v := .ref (a 3)) iX4_residentPage_X4 kX4_residentPage_19 rfl rfl (by decide) rfl dX4_residentPage_1 rfl ?_
  refine G.iload_n (pc2 := 5) (x := p0) dX4_residentPage_4 rfl rfl rfl ?_
  refine G.callVd (pc2 := 8) (i := 3) (j := 8) (q0 := 3) (ci := 1) (As := [.int p0]) (rest := []) (ws2 := wX a cI cZ u) (st2 := [.int (vX1_pageAt u.2.1 p0)]) (c_X1_pageAt (cI := cI) (cZ := cZ) (a 3) (a 4) (a 5) (a 6) (a 7) u.2.1 p0) gX4_residentPage_X1_pageAt rfl rfl rfl ndX1_pageAt ⟨Nat.le_of_ble_eq_true rfl, Nat.le_of_ble_eq_true rfl⟩ ⟨Nat.le_of_ble_eq_true rfl, Nat.le_of_ble_eq_true rfl⟩ rfl rfl (Nat.le_of_ble_eq_true rfl) rfl rfl rfl rfl rfl rfl dX4_residentPage_5 rfl ?_
  generalize ev_5 : vX1_pageAt u.2.1 p0 = v_5
  subst ev_5
  exact G.ireturn hR (rfl) dX4_residentPage_8 ⟨congrArg some (rfl), rfl⟩
set_option maxRecDepth 100000 in
set_option maxHeartbeats 4000000 in
theorem c_X4_queueSize {cI cZ : ClassId} (a : Nat → Nat) (u : SX)  : Ct yX4_queueSize wsX4_queueSize rX4_queueSize cI cZ [.ref (a 0)] (wX a cI cZ u) 0 0 (rt (some (vX4_queueSize u)) (wX a cI cZ u)) := by
  refine Ct.of (cc := cX4_queueSize) (nL := 1) (own := RX4) (by decide) rfl rfl (Nat.le_of_ble_eq_true rfl) rfl ?_
  intro K hR hN
  refine G.aload_n (pc2 := 1) (x := a 0) dX4_queueSize_0 rfl rfl rfl ?_
  refine G.getf (pc2 := 4) (q0 := 0) (ci := 4) (k := 2) (v := .ref (a 8)) iX4_queueSize_X4 kX4_queueSize_26 rfl rfl (by decide) rfl dX4_queueSize_1 rfl ?_
  refine G.callVd (pc2 := 7) (i := 8) (j := 11) (q0 := 8) (ci := 3) (As := []) (rest := []) (ws2 := wX a cI cZ u) (st2 := [.int (vX3_length u.2.2.1)]) (c_X3_length (cI := cI) (cZ := cZ) (a 8) (a 9) (a 10) u.2.2.1) gX4_queueSize_X3_length rfl rfl rfl ndX3_length ⟨Nat.le_of_ble_eq_true rfl, Nat.le_of_ble_eq_true rfl⟩ ⟨Nat.le_of_ble_eq_true rfl, Nat.le_of_ble_eq_true rfl⟩ rfl rfl (Nat.le_of_ble_eq_true rfl) rfl rfl rfl rfl rfl rfl dX4_queueSize_4 rfl ?_
  generalize ev_4 : vX3_length u.2.2.1 = v_4
  subst ev_4
  exact G.ireturn hR (rfl) dX4_queueSize_7 ⟨congrArg some (rfl), rfl⟩
end
section
set_option maxRecDepth 100000 in
set_option maxHeartbeats 4000000 in
theorem c_X4_queuedPage {cI cZ : ClassId} (a : Nat → Nat) (u : SX) (p0 : Int32) (hq : QW u.2.2.1) : Ct yX4_queuedPage wsX4_queuedPage rX4_queuedPage cI cZ [.ref (a 0), .int p0] (wX a cI cZ u) 0 0 (rt (some (vX4_queuedPage u p0)) (wX a cI cZ u)) := by
  refine Ct.of (cc := cX4_queuedPage) (nL := 2) (own := RX4) (by decide) rfl rfl (Nat.le_of_ble_eq_true rfl) rfl ?_
  intro K hR hN
  refine G.aload_n (pc2 := 1) (x := a 0) dX4_queuedPage_0 rfl rfl rfl ?_
  refine G.getf (pc2 := 4) (q0 := 0) (ci := 4) (k := 2) (v := .ref (a 8)) iX4_queuedPage_X4 kX4_queuedPage_26 rfl rfl (by decide) rfl dX4_queuedPage_1 rfl ?_
  refine G.iload_n (pc2 := 5) (x := p0) dX4_queuedPage_4 rfl rfl rfl ?_
  refine G.callVd (pc2 := 8) (i := 8) (j := 11) (q0 := 8) (ci := 3) (As := [.int p0]) (rest := []) (ws2 := wX a cI cZ u) (st2 := [.int (vX3_pageAt u.2.2.1 p0)]) (c_X3_pageAt (cI := cI) (cZ := cZ) (a 8) (a 9) (a 10) u.2.2.1 p0 (hq)) gX4_queuedPage_X3_pageAt rfl rfl rfl ndX3_pageAt ⟨Nat.le_of_ble_eq_true rfl, Nat.le_of_ble_eq_true rfl⟩ ⟨Nat.le_of_ble_eq_true rfl, Nat.le_of_ble_eq_true rfl⟩ rfl rfl (Nat.le_of_ble_eq_true rfl) rfl rfl rfl rfl rfl rfl dX4_queuedPage_5 rfl ?_
  generalize ev_5 : vX3_pageAt u.2.2.1 p0 = v_5
  subst ev_5
  exact G.ireturn hR (rfl) dX4_queuedPage_8 ⟨congrArg some (rfl), rfl⟩
set_option maxRecDepth 100000 in
set_option maxHeartbeats 4000000 in
theorem c_X4_queuedValue {cI cZ : ClassId} (a : Nat → Nat) (u : SX) (p0 : Int32) (hq : QW u.2.2.1) : Ct yX4_queuedValue wsX4_queuedValue rX4_queuedValue cI cZ [.ref (a 0), .int p0] (wX a cI cZ u) 0 0 (rt (some (vX4_queuedValue u p0)) (wX a cI cZ u)) := by
  refine Ct.of (cc := cX4_queuedValue) (nL := 2) (own := RX4) (by decide) rfl rfl (Nat.le_of_ble_eq_true rfl) rfl ?_
  intro K hR hN
  refine G.aload_n (pc2 := 1) (x := a 0) dX4_queuedValue_0 rfl rfl rfl ?_
  refine G.getf (pc2 := 4) (q0 := 0) (ci := 4) (k := 2) (v := .ref (a 8)) iX4_queuedValue_X4 kX4_queuedValue_26 rfl rfl (by decide) rfl dX4_queuedValue_1 rfl ?_
  refine G.iload_n (pc2 := 5) (x := p0) dX4_queuedValue_4 rfl rfl rfl ?_
  refine G.callVd (pc2 := 8) (i := 8) (j := 11) (q0 := 8) (ci := 3) (As := [.int p0]) (rest := []) (ws2 := wX a cI cZ u) (st2 := [.int (vX3_valueAt u.2.2.1 p0)]) (c_X3_valueAt (cI := cI) (cZ := cZ) (a 8) (a 9) (a 10) u.2.2.1 p0 (hq)) gX4_queuedValue_X3_valueAt rfl rfl rfl ndX3_valueAt ⟨Nat.le_of_ble_eq_true rfl, Nat.le_of_ble_eq_true rfl⟩ ⟨Nat.le_of_ble_eq_true rfl, Nat.le_of_ble_eq_true rfl⟩ rfl rfl (Nat.le_of_ble_eq_true rfl) rfl rfl rfl rfl rfl rfl dX4_queuedValue_5 rfl ?_
  generalize ev_5 : vX3_valueAt u.2.2.1 p0 = v_5
  subst ev_5
  exact G.ireturn hR (rfl) dX4_queuedValue_8 ⟨congrArg some (rfl), rfl⟩
set_option maxRecDepth 100000 in
set_option maxHeartbeats 4000000 in
theorem c_X4_clock {cI cZ : ClassId} (a : Nat → Nat) (u : SX)  : Ct yX4_clock wsX4_clock rX4_clock cI cZ [.ref (a 0)] (wX a cI cZ u) 0 0 (rt (some (vX4_clock u)) (wX a cI cZ u)) := by
  refine Ct.of (cc := cX4_clock) (nL := 1) (own := RX4) (by decide) rfl rfl (Nat.le_of_ble_eq_true rfl) rfl ?_
  intro K hR hN
  refine G.aload_n (pc2 := 1) (x := a 0) dX4_clock_0 rfl rfl rfl ?_
  refine G.getf (pc2 := 4) (q0 := 0) (ci := 4) (k := 5) (v := .int u.2.2.2.2.2.1) iX4_clock_X4 kX4_clock_111 rfl rfl (by decide) rfl dX4_clock_1 rfl ?_
  exact G.ireturn hR (rfl) dX4_clock_4 ⟨congrArg some (rfl), rfl⟩
set_option maxRecDepth 100000 in
set_option maxHeartbeats 4000000 in
theorem c_X4_hits {cI cZ : ClassId} (a : Nat → Nat) (u : SX)  : Ct yX4_hits wsX4_hits rX4_hits cI cZ [.ref (a 0)] (wX a cI cZ u) 0 0 (rt (some (vX4_hits u)) (wX a cI cZ u)) := by
  refine Ct.of (cc := cX4_hits) (nL := 1) (own := RX4) (by decide) rfl rfl (Nat.le_of_ble_eq_true rfl) rfl ?_
  intro K hR hN
  refine G.aload_n (pc2 := 1) (x := a 0) dX4_hits_0 rfl rfl rfl ?_
  refine G.getf (pc2 := 4) (q0 := 0) (ci := 4) (k := 6) (v := .int u.2.2.2.2.2.2.1) iX4_hits_X4 kX4_hits_129 rfl rfl (by decide) rfl dX4_hits_1 rfl ?_
  exact G.ireturn hR (rfl) dX4_hits_4 ⟨congrArg some (rfl), rfl⟩
set_option maxRecDepth 100000 in
set_option maxHeartbeats 4000000 in
theorem c_X4_misses {cI cZ : ClassId} (a : Nat → Nat) (u : SX)  : Ct yX4_misses wsX4_misses rX4_misses cI cZ [.ref (a 0)] (wX a cI cZ u) 0 0 (rt (some (vX4_misses u)) (wX a cI cZ u)) := by
  refine Ct.of (cc := cX4_misses) (nL := 1) (own := RX4) (by decide) rfl rfl (Nat.le_of_ble_eq_true rfl) rfl ?_
  intro K hR hN
  refine G.aload_n (pc2 := 1) (x := a 0) dX4_misses_0 rfl rfl rfl ?_
  refine G.getf (pc2 := 4) (q0 := 0) (ci := 4) (k := 7) (v := .int u.2.2.2.2.2.2.2.1) iX4_misses_X4 kX4_misses_132 rfl rfl (by decide) rfl dX4_misses_1 rfl ?_
  exact G.ireturn hR (rfl) dX4_misses_4 ⟨congrArg some (rfl), rfl⟩
set_option maxRecDepth 100000 in
set_option maxHeartbeats 4000000 in
theorem c_X4_evictions {cI cZ : ClassId} (a : Nat → Nat) (u : SX)  : Ct yX4_evictions wsX4_evictions rX4_evictions cI cZ [.ref (a 0)] (wX a cI cZ u) 0 0 (rt (some (vX4_evictions u)) (wX a cI cZ u)) := by
  refine Ct.of (cc := cX4_evictions) (nL := 1) (own := RX4) (by decide) rfl rfl (Nat.le_of_ble_eq_true rfl) rfl ?_
  intro K hR hN
  refine G.aload_n (pc2 := 1) (x := a 0) dX4_evictions_0 rfl rfl rfl ?_
  refine G.getf (pc2 := 4) (q0 := 0) (ci := 4) (k := 8) (v := .int u.2.2.2.2.2.2.2.2.1) iX4_evictions_X4 kX4_evictions_135 rfl rfl (by decide) rfl dX4_evictions_1 rfl ?_
  exact G.ireturn hR (rfl) dX4_evictions_4 ⟨congrArg some (rfl), rfl⟩
set_option maxRecDepth 100000 in
set_option maxHeartbeats 4000000 in
theorem c_X4_diskReads {cI cZ : ClassId} (a : Nat → Nat) (u : SX)  : Ct yX4_diskReads wsX4_diskReads rX4_diskReads cI cZ [.ref (a 0)] (wX a cI cZ u) 0 0 (rt (some (vX4_diskReads u)) (wX a cI cZ u)) := by
  refine Ct.of (cc := cX4_diskReads) (nL := 1) (own := RX4) (by decide) rfl rfl (Nat.le_of_ble_eq_true rfl) rfl ?_
  intro K hR hN
  refine G.aload_n (pc2 := 1) (x := a 0) dX4_diskReads_0 rfl rfl rfl ?_
  refine G.getf (pc2 := 4) (q0 := 0) (ci := 4) (k := 0) (v := .ref (a 1)) iX4_diskReads_X4 kX4_diskReads_10 rfl rfl (by decide) rfl dX4_diskReads_1 rfl ?_
  refine G.callVd (pc2 := 7) (i := 1) (j := 3) (q0 := 1) (ci := 0) (As := []) (rest := []) (ws2 := wX a cI cZ u) (st2 := [.int (vX0_loads u.1)]) (c_X0_loads (cI := cI) (cZ := cZ) (a 1) (a 2) u.1) gX4_diskReads_X0_loads rfl rfl rfl ndX0_loads ⟨Nat.le_of_ble_eq_true rfl, Nat.le_of_ble_eq_true rfl⟩ ⟨Nat.le_of_ble_eq_true rfl, Nat.le_of_ble_eq_true rfl⟩ rfl rfl (Nat.le_of_ble_eq_true rfl) rfl rfl rfl rfl rfl rfl dX4_diskReads_4 rfl ?_
  generalize ev_4 : vX0_loads u.1 = v_4
  subst ev_4
  exact G.ireturn hR (rfl) dX4_diskReads_7 ⟨congrArg some (rfl), rfl⟩
set_option maxRecDepth 100000 in
set_option maxHeartbeats 4000000 in
theorem c_X4_diskWrites {cI cZ : ClassId} (a : Nat → Nat) (u : SX)  : Ct yX4_diskWrites wsX4_diskWrites rX4_diskWrites cI cZ [.ref (a 0)] (wX a cI cZ u) 0 0 (rt (some (vX4_diskWrites u)) (wX a cI cZ u)) := by
  refine Ct.of (cc := cX4_diskWrites) (nL := 1) (own := RX4) (by decide) rfl rfl (Nat.le_of_ble_eq_true rfl) rfl ?_
  intro K hR hN
  refine G.aload_n (pc2 := 1) (x := a 0) dX4_diskWrites_0 rfl rfl rfl ?_
  refine G.getf (pc2 := 4) (q0 := 0) (ci := 4) (k := 0) (v := .ref (a 1)) iX4_diskWrites_X4 kX4_diskWrites_10 rfl rfl (by decide) rfl dX4_diskWrites_1 rfl ?_
  refine G.callVd (pc2 := 7) (i := 1) (j := 3) (q0 := 1) (ci := 0) (As := []) (rest := []) (ws2 := wX a cI cZ u) (st2 := [.int (vX0_stores u.1)]) (c_X0_stores (cI := cI) (cZ := cZ) (a 1) (a 2) u.1) gX4_diskWrites_X0_stores rfl rfl rfl ndX0_stores ⟨Nat.le_of_ble_eq_true rfl, Nat.le_of_ble_eq_true rfl⟩ ⟨Nat.le_of_ble_eq_true rfl, Nat.le_of_ble_eq_true rfl⟩ rfl rfl (Nat.le_of_ble_eq_true rfl) rfl rfl rfl rfl rfl rfl dX4_diskWrites_4 rfl ?_
  generalize ev_4 : vX0_stores u.1 = v_4
  subst ev_4
  exact G.ireturn hR (rfl) dX4_diskWrites_7 ⟨congrArg some (rfl), rfl⟩
end
section
set_option maxRecDepth 100000 in
set_option maxHeartbeats 4000000 in
theorem c_X4_stalls {cI cZ : ClassId} (a : Nat → Nat) (u : SX)  : Ct yX4_stalls wsX4_stalls rX4_stalls cI cZ [.ref (a 0)] (wX a cI cZ u) 0 0 (rt (some (vX4_stalls u)) (wX a cI cZ u)) := by
  refine Ct.of (cc := cX4_stalls) (nL := 1) (own := RX4) (by decide) rfl rfl (Nat.le_of_ble_eq_true rfl) rfl ?_
  intro K hR hN
  refine G.aload_n (pc2 := 1) (x := a 0) dX4_stalls_0 rfl rfl rfl ?_
  refine G.getf (pc2 := 4) (q0 := 0) (ci := 4) (k := 9) (v := .int u.2.2.2.2.2.2.2.2.2) iX4_stalls_X4 kX4_stalls_144 rfl rfl (by decide) rfl dX4_stalls_1 rfl ?_
  exact G.ireturn hR (rfl) dX4_stalls_4 ⟨congrArg some (rfl), rfl⟩
end
