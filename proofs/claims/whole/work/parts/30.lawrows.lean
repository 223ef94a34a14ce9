/-! THE CLAIM OUT OF ONE WALK OF THE LAW'S BODY. Your part is whole_start (and what it stands on); all else here is the same for every law, but numbers. -/
def R_law : String := "LruKPageCacheLaw"
def lw_P (b : Addr) (xs : List Int32) (args : Array Value) (s : State) : Prop := args = #[.ref b] ∧ s.IntsAt b xs ∧ xs.length ≤ 2560 ∧ (Jvm.Cond.and given_1 narrow_1).before args s = true
def lw_Q (_ : Array Value) (s : State) (o : Outcome) (t : State) : Prop := o = .returned (some (.int 1)) ∧ Framed s o t [] 24 1231
def lw_Z (below : List Frame) (a : Array Value) (s : State) : State → Prop := fun t => ∃ o, t.status = .running ∧ Ended t below o ∧ lw_Q a s o t
/-- the law's own end, with 1 on the stack, nothing written that was there before, its room as the claim has it -/
theorem lw_ret {p : Program} {l : Launch} {e : Env} {s : State} {m : MethodId} {below : List Frame} {meth : Method} {c : Code} {b : Nat} (hx : p.tables.exec = Jvm.exec) (hb : c.code = code) (hr : meth.sig.returnType = ret) (hlocks : meth.locks = false) {pc : Nat} {H : Heap} {ls : Array Slot} (hdg : decode code pc = .ok (.ireturn, 1)) : W p l e room_1 s m #[Value.ref b] below meth c H [] 24 1231 (lw_Z below #[Value.ref b] s) (F0 m pc ls [.int 1]) := by
  intro T hT X
  obtain ⟨fs, hret, hrun, hended, hW, hframe⟩ := X.leave (v := some (.int 1)) (hlocks := hlocks) (fun h => by rw [hr] at h; cases h)
  have hmeth' : T.vm.method? m = some meth := X.method'
  refine ⟨T.setFrames fs, ?_, .returned (some (.int 1)), hrun, hended, rfl, ⟨_, rfl⟩, hW, hframe⟩
  jvm_step X.here [X.here.top, hx, hb, hdg, hmeth', hr, ret, narrow_b1]
  (try refine ⟨rfl, ?_⟩); (try refine ⟨rfl, ?_⟩)
  first | (intro acts; rw [hret _ acts rfl rfl rfl]) | rw [hret _ _ rfl rfl rfl]
  exact Steps.refl _
/-- what holds at the law's entry: the machine, the code, the tables' words (any of lw_tbl by 'hts w (by decide +kernel)'), the script of L ints xs at the cell b, what the Statement gives of the start (any of its parts by flat_of_before) -/
def lw_At (p : Program) (s : State) (m : MethodId) (meth : Method) (c : Code) (b L : Nat) (xs : Nat → Int32) : Prop :=
  p.tables.exec = Jvm.exec ∧ c.code = code ∧ meth.sig.returnType = ret ∧ c.maxLocals = 4 ∧ s.vm.findClass R_law = some m.cls ∧ (∀ w ∈ lw_tbl, w.before #[Value.ref b] s = true) ∧ va_X b L xs s s.heap ∧ b < s.heap.size ∧ meth.locks = false ∧ (Jvm.Cond.and given_1 narrow_1).before #[Value.ref b] s = true

def LawOK (K : Cx) (b L : Nat) (xs : Nat → Int32) : Prop :=
  match K with
  | (p, l, e, s, m, args, below, meth, c, Q, A, D) => meth.sig.returnType = ret ∧ args = #[Value.ref b] ∧ Q = lw_Z below #[Value.ref b] s ∧ A = (fun q : Nat => s.heap.size ≤ q) ∧ va_X b L xs s s.heap ∧ b < s.heap.size
section GLaw
variable {K : Cx} {cI cZ : ClassId} {ce sl : Nat} {ws ws2 : va_W} {pc pc2 : Nat} {lv lv2 : List (Nat × Value)} {st : List Value} {b L : Nat} {xs : Nat → Int32}
theorem G.lawret (hL : LawOK K b L xs) (hce : ce ≤ 24) (hsl : sl ≤ 1231) (d : decode code pc = .ok (.ireturn, 1)) : G K cI cZ code 4 RL wsL_law room_1 ce sl ws pc lv [.int 1] := by
  obtain ⟨p, l, e, s, m, args, below, meth, c, Q, A, D⟩ := K
  intro hx hb hml hown hts hK hA hlk H locs ls hP hD hS hl
  obtain ⟨hr, rfl, rfl, rfl, hX, hbl⟩ := hL
  refine va_forget (fun q hq => hS.2.2 q hq) ?_
  refine W.widen (k := 24) (n := 1231) hce hsl ?_
  exact lw_ret hx hb hr hlk d
theorem G.sld {i : Int32} (hL : LawOK K b L xs) (hi : vp_in i L) (d : decode code pc = .ok (.iaload, 1)) (hp : pc + 1 = pc2) (h : G K cI cZ code 4 RL wsL_law room_1 ce sl ws pc2 lv (.int (xs (ix i)) :: st)) : G K cI cZ code 4 RL wsL_law room_1 ce sl ws pc lv (.int i :: .ref b :: st) := by
  obtain ⟨p, l, e, s, m, args, below, meth, c, Q, A, D⟩ := K
  intro hx hb hml hown hts hK hA hlk H locs ls hP hD hS hl
  obtain ⟨hr, rfl, rfl, rfl, hX, hbl⟩ := hL
  subst hp
  exact va_sld hx hb hX hbl (Nat.not_le.mpr hbl) hS hi d (h hx hb hml hown hts hK hA hlk H locs ls hP hD hS hl)
theorem G.slen (hL : LawOK K b L xs) (d : decode code pc = .ok (.arraylength, 1)) (hp : pc + 1 = pc2) (h : G K cI cZ code 4 RL wsL_law room_1 ce sl ws pc2 lv (.int (nI L) :: st)) : G K cI cZ code 4 RL wsL_law room_1 ce sl ws pc lv (.ref b :: st) := by
  obtain ⟨p, l, e, s, m, args, below, meth, c, Q, A, D⟩ := K
  intro hx hb hml hown hts hK hA hlk H locs ls hP hD hS hl
  obtain ⟨hr, rfl, rfl, rfl, hX, hbl⟩ := hL
  subst hp
  exact va_slen hx hb hX hbl (Nat.not_le.mpr hbl) hS d (h hx hb hml hown hts hK hA hlk H locs ls hP hD hS hl)
theorem G.tabIn {dflt lo hi : Int} {offs : Array Int} {len : Nat} {x : Int32} {off : Int} {tgt : Nat} (d : decode code pc = .ok (.tableswitch dflt lo hi offs, len)) (h1 : ¬ x.toInt < lo) (h2 : ¬ hi < x.toInt) (ho : offs[(x.toInt - lo).toNat]? = some off) (ht : (pc : Int) + off = (tgt : Int)) (h : G K cI cZ code 4 RL wsL_law room_1 ce sl ws tgt lv st) : G K cI cZ code 4 RL wsL_law room_1 ce sl ws pc lv (.int x :: st) := by
  obtain ⟨p, l, e, s, m, args, below, meth, c, Q, A, D⟩ := K
  intro hx hb hml hown hts hK hA hlk H locs ls hP hD hS hl
  exact lv_tableIn hx hb d h1 h2 ho ht (h hx hb hml hown hts hK hA hlk H locs ls hP hD hS hl)
theorem G.tabOut {dflt lo hi : Int} {offs : Array Int} {len : Nat} {x : Int32} {tgt : Nat} (d : decode code pc = .ok (.tableswitch dflt lo hi offs, len)) (h1 : x.toInt < lo ∨ hi < x.toInt) (ht : (pc : Int) + dflt = (tgt : Int)) (h : G K cI cZ code 4 RL wsL_law room_1 ce sl ws tgt lv st) : G K cI cZ code 4 RL wsL_law room_1 ce sl ws pc lv (.int x :: st) := by
  obtain ⟨p, l, e, s, m, args, below, meth, c, Q, A, D⟩ := K
  intro hx hb hml hown hts hK hA hlk H locs ls hP hD hS hl
  exact lv_tableOut hx hb d h1 ht (h hx hb hml hown hts hK hA hlk H locs ls hP hD hS hl)
end GLaw
theorem scr_in {l3 : Int32} {i L : Nat} (e : l3 = nI i) (h : i + 5 ≤ L) (hL : L ≤ 2560) (j : Nat) (hj : j < 5) : vp_in (l3 + nI j) L := by
  rw [e, nI_add]
  exact vp_in_nI (by omega) (by omega)
