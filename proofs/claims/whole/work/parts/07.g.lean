abbrev vwCl : List vw_C := [(RX0, TX0, 3), (RX1, TX1, 6), (RX2, TX2, 3), (RX3, TX3, 4), (RX4, TX4, 10), (RX5, TX5, 21)]
/-! ===== the judgement G: a frame at pc over a world, for any heap that holds it ===== -/
abbrev Cx : Type := Program × Launch × Env × State × MethodId × Array Value × List Frame × Method × Code × (State → Prop) × (Nat → Prop) × va_G
def G (K : Cx) (cI cZ : ClassId) (cc : ByteArray) (nL : Nat) (own : String) (Ts : List Cond) (R : Room) (ce sl : Nat) (ws : va_W) (pc : Nat) (lv : List (Nat × Value)) (st : List Value) : Prop :=
  match K with
  | (p, l, e, s, m, args, below, meth, c, Q, A, D) =>
    p.tables.exec = Jvm.exec → c.code = cc → c.maxLocals = nL → s.vm.findClass own = some m.cls → (∀ w ∈ Ts, w.before args s = true) → va_K D vwCl [(cI, .int), (cZ, .boolean)] s → (∀ q : Nat, s.heap.size ≤ q → A q) → meth.locks = false →
    ∀ (H : Heap) (locs : List Loc) (ls : Array Slot), va_P D vwCl ws H → va_D A ws → va_S A s.heap H locs → lv_has ls nL lv →
      W p l e R s m args below meth c H locs ce sl Q (F0 m pc ls st)
/-- the end that a contract allows: an answer and a world -/
def QR (D : va_G) (cI cZ : ClassId) (Rt : Option Int32 → va_W → Prop) (A : Nat → Prop) : Array Value → State → Outcome → State → Prop := fun _ st oc t =>
  (∃ (v : Option Int32) (ws : va_W), oc = .returned (v.map Value.int) ∧ Rt v ws ∧ va_P D vwCl ws t.heap ∧ va_K D vwCl [(cI, .int), (cZ, .boolean)] t ∧ va_D A ws) ∧ va_F A st t
/-- a contract: from arguments av and world ws; at the end Rt holds of answer and world -/
def Ct (y : MethodName) (Ts : List Cond) (rm : Room) (cI cZ : ClassId) (av : List Value) (ws : va_W) (mc ms : Nat) (Rt : Option Int32 → va_W → Prop) : Prop :=
  ∀ (l : Launch) (D : va_G) (sz : Nat), Met l y Ts rm (va_Pc av (fun U => U.heap.size = sz ∧ va_P D vwCl ws U.heap ∧ va_K D vwCl [(cI, .int), (cZ, .boolean)] U ∧ va_D (fun _ => True) ws)) (QR D cI cZ Rt (va_A ws sz)) mc ms (va_A ws sz)
/-- one answer, one world -/
def rt (v : Option Int32) (ws : va_W) : Option Int32 → va_W → Prop := fun v' ws' => v' = v ∧ ws' = ws
def RetOK (K : Cx) (cI cZ : ClassId) (mc ms : Nat) (ret : Option FieldType) (Rt : Option Int32 → va_W → Prop) : Prop :=
  match K with
  | (p, l, e, s, m, args, below, meth, c, Q, A, D) => meth.sig.returnType = ret ∧ Q = MQ below (QR D cI cZ Rt A) args s mc ms A
def NameOK (K : Cx) (n : String) : Prop :=
  match K with
  | (p, l, e, s, m, args, below, meth, c, Q, A, D) => meth.name = n
def Ix (i : Int32) (j n : Nat) : Prop := i = nI j ∧ j < n ∧ n < 2147483648
theorem Ix.vin {i : Int32} {j n : Nat} (h : Ix i j n) : vp_in i n := by
  obtain ⟨rfl, h1, h2⟩ := h
  exact vp_in_nI h1 h2
theorem Ix.cl {i : Int32} {j n : Nat} (h : Ix i j n) : i.toNatClampNeg = j := by
  obtain ⟨rfl, h1, h2⟩ := h
  exact nI_clamp (Nat.lt_trans h1 h2)
def lget : List (Nat × Value) → Nat → Option Value
  | [], _ => none
  | (k, v) :: r, i => if k = i then some v else lget r i
theorem lget_mem : ∀ {lv : List (Nat × Value)} {i : Nat} {v : Value}, lget lv i = some v → (i, v) ∈ lv
  | [], _, _, h => by cases h
  | (k, w) :: r, i, v, h => by
    unfold lget at h
    split at h
    · rename_i hk
      cases h
      subst hk
      exact List.mem_cons_self
    · exact List.mem_cons_of_mem _ (lget_mem h)
theorem lget_at {ls : Array Slot} {nL : Nat} {lv : List (Nat × Value)} {i : Nat} {v : Value} (h : lv_has ls nL lv) (hg : lget lv i = some v) : ls[i]? = some (.val v) := h.2.2 (i, v) (lget_mem hg)
/-! worlds in three pieces -/
theorem app_l {α : Type} {a b : List α} {i : Nat} {p : α} (h : a[i]? = some p) : (a ++ b)[i]? = some p := by
  rw [List.getElem?_append_left (List.getElem?_eq_some_iff.mp h).1]
  exact h
theorem app_r {α : Type} {a b : List α} {i : Nat} {p : α} (h : b[i]? = some p) : (a ++ b)[a.length + i]? = some p := by
  rw [List.getElem?_append_right (Nat.le_add_right _ _), Nat.add_sub_cancel_left]
  exact h
theorem vP_l {D : va_G} {cl : List vw_C} {a b : va_W} {H : Heap} (h : va_P D cl (a ++ b) H) : va_P D cl a H := fun k q hk => h k q (app_l hk)
theorem vP_r {D : va_G} {cl : List vw_C} {a b : va_W} {H : Heap} (h : va_P D cl (a ++ b) H) : va_P D cl b H := fun k q hk => h _ q (app_r hk)
theorem vD_l {A : Nat → Prop} {a b : va_W} (h : va_D A (a ++ b)) : va_D A a := ⟨fun i j p q hi hj e => h.1 i j p q (app_l hi) (app_l hj) e, fun k q hk => h.2 k q (app_l hk)⟩
theorem vD_r {A : Nat → Prop} {a b : va_W} (h : va_D A (a ++ b)) : va_D A b := ⟨fun i j p q hi hj e => Nat.add_left_cancel (h.1 _ _ p q (app_r hi) (app_r hj) e), fun k q hk => h.2 _ q (app_r hk)⟩
theorem vD_x {A : Nat → Prop} {a b : va_W} (h : va_D A (a ++ b)) {i j : Nat} {p q : Nat × va_E} (hi : a[i]? = some p) (hj : b[j]? = some q) : p.1 ≠ q.1 := fun e => by
  have h1 := h.1 _ _ p q (app_l hi) (app_r hj) e
  have h2 := (List.getElem?_eq_some_iff.mp hi).1
  omega
theorem joinM {A0 : Nat → Prop} {D : va_G} {cl : List vw_C} {pre wc suf w1 : va_W} {H H1 : Heap} (hP : va_P D cl (pre ++ (wc ++ suf)) H) (hD : va_D A0 (pre ++ (wc ++ suf)))
    (hk : ∀ q : Nat, q < H.size → ¬ va_A wc H.size q → H1[q]? = H[q]?) (hF : ∀ q, va_A wc H.size q → A0 q) (hP1 : va_P D cl w1 H1) (hD1 : va_D (va_A wc H.size) w1) : va_P D cl (pre ++ (w1 ++ suf)) H1 ∧ va_D A0 (pre ++ (w1 ++ suf)) := by
  have n1 : ∀ (i : Nat) (p : Nat × va_E), pre[i]? = some p → ¬ va_A wc H.size p.1 := by
    intro i p hi h
    rcases h with ⟨k, e, h⟩ | h
    · exact vD_x hD hi (app_l (b := suf) h) rfl
    · exact absurd ((vP_l hP) i p hi).lt (Nat.not_lt.mpr h)
  have n2 : ∀ (i : Nat) (p : Nat × va_E), suf[i]? = some p → ¬ va_A wc H.size p.1 := by
    intro i p hi h
    rcases h with ⟨k, e, h⟩ | h
    · exact vD_x (vD_r hD) h hi rfl
    · exact absurd ((vP_r (vP_r hP)) i p hi).lt (Nat.not_lt.mpr h)
  refine ⟨va_P.app (fun k q hq => ((vP_l hP) k q hq).kept (hk q.1 ((vP_l hP) k q hq).lt (n1 k q hq))) (va_P.app hP1 (fun k q hq => ((vP_r (vP_r hP)) k q hq).kept (hk q.1 ((vP_r (vP_r hP)) k q hq).lt (n2 k q hq)))), va_D.app (vD_l hD) (va_D.app (hD1.weaken (fun k q _ h => hF q.1 h)) (vD_r (vD_r hD)) (fun i j p q hi hj e => n2 j q hj (e ▸ hD1.2 i p hi))) (fun i j p q hi hj e => ?_)⟩
  by_cases hl : j < w1.length
  · rw [List.getElem?_append_left hl] at hj
    exact n1 i p hi (e.symm ▸ hD1.2 j q hj)
  · rw [List.getElem?_append_right (Nat.le_of_not_lt hl)] at hj
    exact vD_x hD hi (app_r (a := wc) hj) e
/-- a body gives the contract -/
theorem Ct.of {y : MethodName} {Ts Ts' : List Cond} {rm : Room} {cI cZ : ClassId} {av : List Value} {ws : va_W} {mc ms : Nat} {Rt : Option Int32 → va_W → Prop} {cc : ByteArray} {nL : Nat} {ret : Option FieldType} {own : String} {lv : List (Nat × Value)}
    (hy : plainName y.cls = true) (hw : Ts = Cond.code y cc nL ret :: Ts') (hown : y.cls = own) (hlen : (lg_sl av).length ≤ nL) (hlv : lv_args 0 av = lv)
    (h : ∀ K : Cx, RetOK K cI cZ mc ms ret Rt → NameOK K y.name → G K cI cZ cc nL own Ts rm 0 0 ws 0 lv []) : Ct y Ts rm cI cZ av ws mc ms Rt := by
  intro l D sz
  refine Met.ofW (cc := cc) (maxL := nL) (ret := ret) hy hw ?_
  intro p e s m args below meth c s₁ B hml hv
  obtain ⟨rfl, hsz, hP, hK, hD0⟩ := hv
  have hts := atoms_spec (ws := Ts) B.pre
  have hown' : s.vm.findClass own = some m.cls := hown ▸ findClass_of_methodNamed B.named
  have hin : meth.name = y.name := (name_of_methodNamed B.named B.method).1
  subst hsz
  have hD := hD0.self (sz := s.heap.size)
  have hl := lv_entry av (n := nL) hlen
  rw [hlv] at hl
  rw [lg_entry_eq]
  exact h (p, l, e, s, m, av.toArray, below, meth, c, MQ below (QR D cI cZ Rt (va_A ws s.heap.size)) av.toArray s mc ms (va_A ws s.heap.size), va_A ws s.heap.size, D) ⟨B.returns, rfl⟩ hin B.exec B.bytes hml hown' hts hK (fun q hq => Or.inr hq) B.notSynchronized s.heap [] _ hP hD va_S.rf hl
section GL
variable {K : Cx} {cI cZ : ClassId} {cc : ByteArray} {nL : Nat} {own : String} {Ts : List Cond} {R : Room} {ce sl : Nat} {ws ws2 : va_W} {pc pc2 : Nat} {lv lv2 : List (Nat × Value)} {st : List Value}
theorem G.iconst {n : Int} {v : Int32} (d : decode cc pc = .ok (.iconst n, 1)) (hv : Int32.ofInt n = v) (hp : pc + 1 = pc2) (h : G K cI cZ cc nL own Ts R ce sl ws pc2 lv (.int v :: st)) : G K cI cZ cc nL own Ts R ce sl ws pc lv st := by
  obtain ⟨p, l, e, s, m, args, below, meth, c, Q, A, D⟩ := K
  intro hx hb hml hown hts hK hA hlk H locs ls hP hD hS hl
  subst hp
  exact lv_iconst hx hb d hv (h hx hb hml hown hts hK hA hlk H locs ls hP hD hS hl)
theorem G.bipush {n : Int} {v : Int32} (d : decode cc pc = .ok (.bipush n, 2)) (hv : (Int8.ofInt n).toInt32 = v) (hp : pc + 2 = pc2) (h : G K cI cZ cc nL own Ts R ce sl ws pc2 lv (.int v :: st)) : G K cI cZ cc nL own Ts R ce sl ws pc lv st := by
  obtain ⟨p, l, e, s, m, args, below, meth, c, Q, A, D⟩ := K
  intro hx hb hml hown hts hK hA hlk H locs ls hP hD hS hl
  subst hp
  exact lv_bipush hx hb d hv (h hx hb hml hown hts hK hA hlk H locs ls hP hD hS hl)
theorem G.sipush {n : Int} {v : Int32} (d : decode cc pc = .ok (.sipush n, 3)) (hv : (Int16.ofInt n).toInt32 = v) (hp : pc + 3 = pc2) (h : G K cI cZ cc nL own Ts R ce sl ws pc2 lv (.int v :: st)) : G K cI cZ cc nL own Ts R ce sl ws pc lv st := by
  obtain ⟨p, l, e, s, m, args, below, meth, c, Q, A, D⟩ := K
  intro hx hb hml hown hts hK hA hlk H locs ls hP hD hS hl
  subst hp
  exact lv_sipush hx hb d hv (h hx hb hml hown hts hK hA hlk H locs ls hP hD hS hl)
theorem G.iload_n {k : Fin 4} {i : Nat} {x : Int32} (d : decode cc pc = .ok (.iload_n k, 1)) (hi : (k : Nat) = i) (hg : lget lv i = some (.int x)) (hp : pc + 1 = pc2) (h : G K cI cZ cc nL own Ts R ce sl ws pc2 lv (.int x :: st)) : G K cI cZ cc nL own Ts R ce sl ws pc lv st := by
  obtain ⟨p, l, e, s, m, args, below, meth, c, Q, A, D⟩ := K
  intro hx hb hml hown hts hK hA hlk H locs ls hP hD hS hl
  subst hp
  exact lv_iload_n hx hb d hi (lget_at hl hg) (h hx hb hml hown hts hK hA hlk H locs ls hP hD hS hl)
theorem G.iload {i : Nat} {x : Int32} (d : decode cc pc = .ok (.iload i, 2)) (hg : lget lv i = some (.int x)) (hp : pc + 2 = pc2) (h : G K cI cZ cc nL own Ts R ce sl ws pc2 lv (.int x :: st)) : G K cI cZ cc nL own Ts R ce sl ws pc lv st := by
  obtain ⟨p, l, e, s, m, args, below, meth, c, Q, A, D⟩ := K
  intro hx hb hml hown hts hK hA hlk H locs ls hP hD hS hl
  subst hp
  exact lv_iload hx hb d (lget_at hl hg) (h hx hb hml hown hts hK hA hlk H locs ls hP hD hS hl)
theorem G.aload_n {k : Fin 4} {i : Nat} {x : Nat} (d : decode cc pc = .ok (.aload_n k, 1)) (hi : (k : Nat) = i) (hg : lget lv i = some (.ref x)) (hp : pc + 1 = pc2) (h : G K cI cZ cc nL own Ts R ce sl ws pc2 lv (.ref x :: st)) : G K cI cZ cc nL own Ts R ce sl ws pc lv st := by
  obtain ⟨p, l, e, s, m, args, below, meth, c, Q, A, D⟩ := K
  intro hx hb hml hown hts hK hA hlk H locs ls hP hD hS hl
  subst hp
  exact lv_aload_n hx hb d hi (lget_at hl hg) (h hx hb hml hown hts hK hA hlk H locs ls hP hD hS hl)
theorem G.istore_n {k : Fin 4} {i : Nat} {x : Int32} (ks : List Nat) (d : decode cc pc = .ok (.istore_n k, 1)) (hi : (k : Nat) = i) (hn : i < nL) (hk : lv_pick ((i, Value.int x) :: lv.filter (fun q => !(q.1 == i) && !(q.1 + 1 == i && q.2.category == 2))) ks = lv2) (hp : pc + 1 = pc2) (h : G K cI cZ cc nL own Ts R ce sl ws pc2 lv2 st) : G K cI cZ cc nL own Ts R ce sl ws pc lv (.int x :: st) := by
  obtain ⟨p, l, e, s, m, args, below, meth, c, Q, A, D⟩ := K
  intro hx hb hml hown hts hK hA hlk H locs ls hP hD hS hl
  subst hp
  exact lv_istore_n hx hb d hi hl hn rfl (fun ls2 hl2 => h hx hb hml hown hts hK hA hlk H locs ls2 hP hD hS (lv_sub hl2 ks hk))
theorem G.istore {i : Nat} {x : Int32} (ks : List Nat) (d : decode cc pc = .ok (.istore i, 2)) (hn : i < nL) (hk : lv_pick ((i, Value.int x) :: lv.filter (fun q => !(q.1 == i) && !(q.1 + 1 == i && q.2.category == 2))) ks = lv2) (hp : pc + 2 = pc2) (h : G K cI cZ cc nL own Ts R ce sl ws pc2 lv2 st) : G K cI cZ cc nL own Ts R ce sl ws pc lv (.int x :: st) := by
  obtain ⟨p, l, e, s, m, args, below, meth, c, Q, A, D⟩ := K
  intro hx hb hml hown hts hK hA hlk H locs ls hP hD hS hl
  subst hp
  exact lv_istore hx hb d hl hn rfl (fun ls2 hl2 => h hx hb hml hown hts hK hA hlk H locs ls2 hP hD hS (lv_sub hl2 ks hk))
theorem G.astore_n {k : Fin 4} {i : Nat} {x : Nat} (ks : List Nat) (d : decode cc pc = .ok (.astore_n k, 1)) (hi : (k : Nat) = i) (hn : i < nL) (hk : lv_pick ((i, Value.ref x) :: lv.filter (fun q => !(q.1 == i) && !(q.1 + 1 == i && q.2.category == 2))) ks = lv2) (hp : pc + 1 = pc2) (h : G K cI cZ cc nL own Ts R ce sl ws pc2 lv2 st) : G K cI cZ cc nL own Ts R ce sl ws pc lv (.ref x :: st) := by
  obtain ⟨p, l, e, s, m, args, below, meth, c, Q, A, D⟩ := K
  intro hx hb hml hown hts hK hA hlk H locs ls hP hD hS hl
  subst hp
  exact lv_astore_n hx hb d hi hl hn rfl (fun ls2 hl2 => h hx hb hml hown hts hK hA hlk H locs ls2 hP hD hS (lv_sub hl2 ks hk))
theorem G.iinc {i k : Nat} {n : Int} {x v : Int32} (ks : List Nat) (d : decode cc pc = .ok (.iinc i n, 3)) (hg : lv[k]? = some (i, .int x)) (hv : x + Int32.ofInt n = v) (hn : i < nL) (hk : lv_pick ((i, Value.int v) :: lv.filter (fun q => !(q.1 == i) && !(q.1 + 1 == i && q.2.category == 2))) ks = lv2) (hp : pc + 3 = pc2) (h : G K cI cZ cc nL own Ts R ce sl ws pc2 lv2 st) : G K cI cZ cc nL own Ts R ce sl ws pc lv st := by
  obtain ⟨p, l, e, s, m, args, below, meth, c, Q, A, D⟩ := K
  intro hx hb hml hown hts hK hA hlk H locs ls hP hD hS hl
  subst hp
  exact lv_iinc hx hb d hl hg hv hn rfl (fun ls2 hl2 => h hx hb hml hown hts hK hA hlk H locs ls2 hP hD hS (lv_sub hl2 ks hk))
theorem G.iadd {x y v : Int32} (d : decode cc pc = .ok (.iadd, 1)) (hv : x + y = v) (hp : pc + 1 = pc2) (h : G K cI cZ cc nL own Ts R ce sl ws pc2 lv (.int v :: st)) : G K cI cZ cc nL own Ts R ce sl ws pc lv (.int y :: .int x :: st) := by
  obtain ⟨p, l, e, s, m, args, below, meth, c, Q, A, D⟩ := K
  intro hx hb hml hown hts hK hA hlk H locs ls hP hD hS hl
  subst hp
  subst hv
  exact lv_iadd hx hb d (h hx hb hml hown hts hK hA hlk H locs ls hP hD hS hl)
theorem G.isub {x y v : Int32} (d : decode cc pc = .ok (.isub, 1)) (hv : x - y = v) (hp : pc + 1 = pc2) (h : G K cI cZ cc nL own Ts R ce sl ws pc2 lv (.int v :: st)) : G K cI cZ cc nL own Ts R ce sl ws pc lv (.int y :: .int x :: st) := by
  obtain ⟨p, l, e, s, m, args, below, meth, c, Q, A, D⟩ := K
  intro hx hb hml hown hts hK hA hlk H locs ls hP hD hS hl
  subst hp
  subst hv
  exact lv_isub hx hb d (h hx hb hml hown hts hK hA hlk H locs ls hP hD hS hl)
theorem G.imul {x y v : Int32} (d : decode cc pc = .ok (.imul, 1)) (hv : x * y = v) (hp : pc + 1 = pc2) (h : G K cI cZ cc nL own Ts R ce sl ws pc2 lv (.int v :: st)) : G K cI cZ cc nL own Ts R ce sl ws pc lv (.int y :: .int x :: st) := by
  obtain ⟨p, l, e, s, m, args, below, meth, c, Q, A, D⟩ := K
  intro hx hb hml hown hts hK hA hlk H locs ls hP hD hS hl
  subst hp
  subst hv
  exact lv_imul hx hb d (h hx hb hml hown hts hK hA hlk H locs ls hP hD hS hl)
theorem G.iand {x y v : Int32} (d : decode cc pc = .ok (.iand, 1)) (hv : x &&& y = v) (hp : pc + 1 = pc2) (h : G K cI cZ cc nL own Ts R ce sl ws pc2 lv (.int v :: st)) : G K cI cZ cc nL own Ts R ce sl ws pc lv (.int y :: .int x :: st) := by
  obtain ⟨p, l, e, s, m, args, below, meth, c, Q, A, D⟩ := K
  intro hx hb hml hown hts hK hA hlk H locs ls hP hD hS hl
  subst hp
  subst hv
  exact lv_iand hx hb d (h hx hb hml hown hts hK hA hlk H locs ls hP hD hS hl)
theorem G.dup {a : Value} (d : decode cc pc = .ok (.dup, 1)) (hc : a.category = 1) (hp : pc + 1 = pc2) (h : G K cI cZ cc nL own Ts R ce sl ws pc2 lv (a :: a :: st)) : G K cI cZ cc nL own Ts R ce sl ws pc lv (a :: st) := by
  obtain ⟨p, l, e, s, m, args, below, meth, c, Q, A, D⟩ := K
  intro hx hb hml hown hts hK hA hlk H locs ls hP hD hS hl
  subst hp
  exact lv_dup hx hb d hc (h hx hb hml hown hts hK hA hlk H locs ls hP hD hS hl)
theorem G.dup2 {a b : Value} (d : decode cc pc = .ok (.dup2, 1)) (hc : a.category = 1) (hc2 : b.category = 1) (hp : pc + 1 = pc2) (h : G K cI cZ cc nL own Ts R ce sl ws pc2 lv (a :: b :: a :: b :: st)) : G K cI cZ cc nL own Ts R ce sl ws pc lv (a :: b :: st) := by
  obtain ⟨p, l, e, s, m, args, below, meth, c, Q, A, D⟩ := K
  intro hx hb hml hown hts hK hA hlk H locs ls hP hD hS hl
  subst hp
  exact lv_dup2_11 hx hb d hc hc2 (h hx hb hml hown hts hK hA hlk H locs ls hP hD hS hl)
theorem G.pop {a : Value} (d : decode cc pc = .ok (.pop, 1)) (hc : a.category = 1) (hp : pc + 1 = pc2) (h : G K cI cZ cc nL own Ts R ce sl ws pc2 lv st) : G K cI cZ cc nL own Ts R ce sl ws pc lv (a :: st) := by
  obtain ⟨p, l, e, s, m, args, below, meth, c, Q, A, D⟩ := K
  intro hx hb hml hown hts hK hA hlk H locs ls hP hD hS hl
  subst hp
  exact lv_pop hx hb d hc (h hx hb hml hown hts hK hA hlk H locs ls hP hD hS hl)
theorem G.if_eq {x : Int32} {off : Int} {tgt : Nat} (d : decode cc pc = .ok (.ifCond .eq off, 3)) (ht : (pc : Int) + off = (tgt : Int)) (hp : pc + 3 = pc2) (kt : (x = 0) → G K cI cZ cc nL own Ts R ce sl ws tgt lv st) (kf : (¬ x = 0) → G K cI cZ cc nL own Ts R ce sl ws pc2 lv st) : G K cI cZ cc nL own Ts R ce sl ws pc lv (.int x :: st) := by
  obtain ⟨p, l, e, s, m, args, below, meth, c, Q, A, D⟩ := K
  intro hx hb hml hown hts hK hA hlk H locs ls hP hD hS hl
  subst hp
  exact lv_if_eq hx hb d ht (fun z => kt z hx hb hml hown hts hK hA hlk H locs ls hP hD hS hl) (fun z => kf z hx hb hml hown hts hK hA hlk H locs ls hP hD hS hl)
theorem G.icmp_eq {x y : Int32} {off : Int} {tgt : Nat} (d : decode cc pc = .ok (.if_icmp .eq off, 3)) (ht : (pc : Int) + off = (tgt : Int)) (hp : pc + 3 = pc2) (kt : (x = y) → G K cI cZ cc nL own Ts R ce sl ws tgt lv st) (kf : (¬ x = y) → G K cI cZ cc nL own Ts R ce sl ws pc2 lv st) : G K cI cZ cc nL own Ts R ce sl ws pc lv (.int y :: .int x :: st) := by
  obtain ⟨p, l, e, s, m, args, below, meth, c, Q, A, D⟩ := K
  intro hx hb hml hown hts hK hA hlk H locs ls hP hD hS hl
  subst hp
  exact lv_icmp_eq hx hb d ht (fun z => kt z hx hb hml hown hts hK hA hlk H locs ls hP hD hS hl) (fun z => kf z hx hb hml hown hts hK hA hlk H locs ls hP hD hS hl)
theorem G.if_ne {x : Int32} {off : Int} {tgt : Nat} (d : decode cc pc = .ok (.ifCond .ne off, 3)) (ht : (pc : Int) + off = (tgt : Int)) (hp : pc + 3 = pc2) (kt : (¬ x = 0) → G K cI cZ cc nL own Ts R ce sl ws tgt lv st) (kf : (x = 0) → G K cI cZ cc nL own Ts R ce sl ws pc2 lv st) : G K cI cZ cc nL own Ts R ce sl ws pc lv (.int x :: st) := by
  obtain ⟨p, l, e, s, m, args, below, meth, c, Q, A, D⟩ := K
  intro hx hb hml hown hts hK hA hlk H locs ls hP hD hS hl
  subst hp
  exact lv_if_ne hx hb d ht (fun z => kt z hx hb hml hown hts hK hA hlk H locs ls hP hD hS hl) (fun z => kf z hx hb hml hown hts hK hA hlk H locs ls hP hD hS hl)
theorem G.icmp_ne {x y : Int32} {off : Int} {tgt : Nat} (d : decode cc pc = .ok (.if_icmp .ne off, 3)) (ht : (pc : Int) + off = (tgt : Int)) (hp : pc + 3 = pc2) (kt : (¬ x = y) → G K cI cZ cc nL own Ts R ce sl ws tgt lv st) (kf : (x = y) → G K cI cZ cc nL own Ts R ce sl ws pc2 lv st) : G K cI cZ cc nL own Ts R ce sl ws pc lv (.int y :: .int x :: st) := by
  obtain ⟨p, l, e, s, m, args, below, meth, c, Q, A, D⟩ := K
  intro hx hb hml hown hts hK hA hlk H locs ls hP hD hS hl
  subst hp
  exact lv_icmp_ne hx hb d ht (fun z => kt z hx hb hml hown hts hK hA hlk H locs ls hP hD hS hl) (fun z => kf z hx hb hml hown hts hK hA hlk H locs ls hP hD hS hl)
theorem G.if_lt {x : Int32} {off : Int} {tgt : Nat} (d : decode cc pc = .ok (.ifCond .lt off, 3)) (ht : (pc : Int) + off = (tgt : Int)) (hp : pc + 3 = pc2) (kt : (x < 0) → G K cI cZ cc nL own Ts R ce sl ws tgt lv st) (kf : (¬ x < 0) → G K cI cZ cc nL own Ts R ce sl ws pc2 lv st) : G K cI cZ cc nL own Ts R ce sl ws pc lv (.int x :: st) := by
  obtain ⟨p, l, e, s, m, args, below, meth, c, Q, A, D⟩ := K
  intro hx hb hml hown hts hK hA hlk H locs ls hP hD hS hl
  subst hp
  exact lv_if_lt hx hb d ht (fun z => kt z hx hb hml hown hts hK hA hlk H locs ls hP hD hS hl) (fun z => kf z hx hb hml hown hts hK hA hlk H locs ls hP hD hS hl)
theorem G.icmp_lt {x y : Int32} {off : Int} {tgt : Nat} (d : decode cc pc = .ok (.if_icmp .lt off, 3)) (ht : (pc : Int) + off = (tgt : Int)) (hp : pc + 3 = pc2) (kt : (x < y) → G K cI cZ cc nL own Ts R ce sl ws tgt lv st) (kf : (¬ x < y) → G K cI cZ cc nL own Ts R ce sl ws pc2 lv st) : G K cI cZ cc nL own Ts R ce sl ws pc lv (.int y :: .int x :: st) := by
  obtain ⟨p, l, e, s, m, args, below, meth, c, Q, A, D⟩ := K
  intro hx hb hml hown hts hK hA hlk H locs ls hP hD hS hl
  subst hp
  exact lv_icmp_lt hx hb d ht (fun z => kt z hx hb hml hown hts hK hA hlk H locs ls hP hD hS hl) (fun z => kf z hx hb hml hown hts hK hA hlk H locs ls hP hD hS hl)
theorem G.if_ge {x : Int32} {off : Int} {tgt : Nat} (d : decode cc pc = .ok (.ifCond .ge off, 3)) (ht : (pc : Int) + off = (tgt : Int)) (hp : pc + 3 = pc2) (kt : (¬ x < 0) → G K cI cZ cc nL own Ts R ce sl ws tgt lv st) (kf : (x < 0) → G K cI cZ cc nL own Ts R ce sl ws pc2 lv st) : G K cI cZ cc nL own Ts R ce sl ws pc lv (.int x :: st) := by
  obtain ⟨p, l, e, s, m, args, below, meth, c, Q, A, D⟩ := K
  intro hx hb hml hown hts hK hA hlk H locs ls hP hD hS hl
  subst hp
  exact lv_if_ge hx hb d ht (fun z => kt (Int32.not_lt.mpr z) hx hb hml hown hts hK hA hlk H locs ls hP hD hS hl) (fun z => kf (Int32.not_le.mp z) hx hb hml hown hts hK hA hlk H locs ls hP hD hS hl)
theorem G.icmp_ge {x y : Int32} {off : Int} {tgt : Nat} (d : decode cc pc = .ok (.if_icmp .ge off, 3)) (ht : (pc : Int) + off = (tgt : Int)) (hp : pc + 3 = pc2) (kt : (¬ x < y) → G K cI cZ cc nL own Ts R ce sl ws tgt lv st) (kf : (x < y) → G K cI cZ cc nL own Ts R ce sl ws pc2 lv st) : G K cI cZ cc nL own Ts R ce sl ws pc lv (.int y :: .int x :: st) := by
  obtain ⟨p, l, e, s, m, args, below, meth, c, Q, A, D⟩ := K
  intro hx hb hml hown hts hK hA hlk H locs ls hP hD hS hl
  subst hp
  exact lv_icmp_ge hx hb d ht (fun z => kt (Int32.not_lt.mpr z) hx hb hml hown hts hK hA hlk H locs ls hP hD hS hl) (fun z => kf (Int32.not_le.mp z) hx hb hml hown hts hK hA hlk H locs ls hP hD hS hl)
theorem G.if_gt {x : Int32} {off : Int} {tgt : Nat} (d : decode cc pc = .ok (.ifCond .gt off, 3)) (ht : (pc : Int) + off = (tgt : Int)) (hp : pc + 3 = pc2) (kt : (0 < x) → G K cI cZ cc nL own Ts R ce sl ws tgt lv st) (kf : (¬ 0 < x) → G K cI cZ cc nL own Ts R ce sl ws pc2 lv st) : G K cI cZ cc nL own Ts R ce sl ws pc lv (.int x :: st) := by
  obtain ⟨p, l, e, s, m, args, below, meth, c, Q, A, D⟩ := K
  intro hx hb hml hown hts hK hA hlk H locs ls hP hD hS hl
  subst hp
  exact lv_if_gt hx hb d ht (fun z => kt z hx hb hml hown hts hK hA hlk H locs ls hP hD hS hl) (fun z => kf z hx hb hml hown hts hK hA hlk H locs ls hP hD hS hl)
theorem G.icmp_gt {x y : Int32} {off : Int} {tgt : Nat} (d : decode cc pc = .ok (.if_icmp .gt off, 3)) (ht : (pc : Int) + off = (tgt : Int)) (hp : pc + 3 = pc2) (kt : (y < x) → G K cI cZ cc nL own Ts R ce sl ws tgt lv st) (kf : (¬ y < x) → G K cI cZ cc nL own Ts R ce sl ws pc2 lv st) : G K cI cZ cc nL own Ts R ce sl ws pc lv (.int y :: .int x :: st) := by
  obtain ⟨p, l, e, s, m, args, below, meth, c, Q, A, D⟩ := K
  intro hx hb hml hown hts hK hA hlk H locs ls hP hD hS hl
  subst hp
  exact lv_icmp_gt hx hb d ht (fun z => kt z hx hb hml hown hts hK hA hlk H locs ls hP hD hS hl) (fun z => kf z hx hb hml hown hts hK hA hlk H locs ls hP hD hS hl)
theorem G.if_le {x : Int32} {off : Int} {tgt : Nat} (d : decode cc pc = .ok (.ifCond .le off, 3)) (ht : (pc : Int) + off = (tgt : Int)) (hp : pc + 3 = pc2) (kt : (¬ 0 < x) → G K cI cZ cc nL own Ts R ce sl ws tgt lv st) (kf : (0 < x) → G K cI cZ cc nL own Ts R ce sl ws pc2 lv st) : G K cI cZ cc nL own Ts R ce sl ws pc lv (.int x :: st) := by
  obtain ⟨p, l, e, s, m, args, below, meth, c, Q, A, D⟩ := K
  intro hx hb hml hown hts hK hA hlk H locs ls hP hD hS hl
  subst hp
  exact lv_if_le hx hb d ht (fun z => kt (Int32.not_lt.mpr z) hx hb hml hown hts hK hA hlk H locs ls hP hD hS hl) (fun z => kf (Int32.not_le.mp z) hx hb hml hown hts hK hA hlk H locs ls hP hD hS hl)
theorem G.icmp_le {x y : Int32} {off : Int} {tgt : Nat} (d : decode cc pc = .ok (.if_icmp .le off, 3)) (ht : (pc : Int) + off = (tgt : Int)) (hp : pc + 3 = pc2) (kt : (¬ y < x) → G K cI cZ cc nL own Ts R ce sl ws tgt lv st) (kf : (y < x) → G K cI cZ cc nL own Ts R ce sl ws pc2 lv st) : G K cI cZ cc nL own Ts R ce sl ws pc lv (.int y :: .int x :: st) := by
  obtain ⟨p, l, e, s, m, args, below, meth, c, Q, A, D⟩ := K
  intro hx hb hml hown hts hK hA hlk H locs ls hP hD hS hl
  subst hp
  exact lv_icmp_le hx hb d ht (fun z => kt (Int32.not_lt.mpr z) hx hb hml hown hts hK hA hlk H locs ls hP hD hS hl) (fun z => kf (Int32.not_le.mp z) hx hb hml hown hts hK hA hlk H locs ls hP hD hS hl)
theorem G.goto {off : Int} {tgt : Nat} (d : decode cc pc = .ok (.goto off, 3)) (ht : (pc : Int) + off = (tgt : Int)) (h : G K cI cZ cc nL own Ts R ce sl ws tgt lv st) : G K cI cZ cc nL own Ts R ce sl ws pc lv st := by
  obtain ⟨p, l, e, s, m, args, below, meth, c, Q, A, D⟩ := K
  intro hx hb hml hown hts hK hA hlk H locs ls hP hD hS hl
  exact lv_goto hx hb d ht (h hx hb hml hown hts hK hA hlk H locs ls hP hD hS hl)
theorem G.getf {C : String} {T : u_T} {N ci idx q0 k a : Nat} {fs : List Value} {v : Value} (hin : ∀ w ∈ u_ws C T N, w ∈ Ts) (hfl : Cond.fieldLink own idx (T k).1 (T k).2.1 (T k).2.2.1 ∈ Ts) (he : ws[q0]? = some (a, .inr (ci, fs))) (hc : vwCl[ci]? = some (C, T, N)) (hk : k < N) (hv : fs[k]? = some v) (d : decode cc pc = .ok (.getfield idx, 3)) (hp : pc + 3 = pc2) (h : G K cI cZ cc nL own Ts R ce sl ws pc2 lv (v :: st)) : G K cI cZ cc nL own Ts R ce sl ws pc lv (.ref a :: st) := by
  obtain ⟨p, l, e, s, m, args, below, meth, c, Q, A, D⟩ := K
  intro hx hb hml hown hts hK hA hlk H locs ls hP hD hS hl
  subst hp
  exact va_get hx hb hts hin hown hK hP q0 he hc k hk (hts _ hfl) (fun _ z => z) hv d (h hx hb hml hown hts hK hA hlk H locs ls hP hD hS hl)
theorem G.putf {C : String} {T : u_T} {N ci idx q0 k a : Nat} {fs : List Value} {v : Value} {ty0 : Nat → FieldType} (hin : ∀ w ∈ u_ws C T N, w ∈ Ts) (hfl : Cond.fieldLink own idx (T k).1 (T k).2.1 (T k).2.2.1 ∈ Ts) (hty : ∀ k, k < N → parseFieldDescriptor (T k).2.2.1 = some (ty0 k)) (hnm : ∀ a, a < N → ∀ b, b < N → a ≠ b → (T a).2.1 ≠ (T b).2.1) (he : ws[q0]? = some (a, .inr (ci, fs))) (hc : vwCl[ci]? = some (C, T, N)) (hk : k < N) (hfin : (T k).2.2.2 = false) (hn : narrow (ty0 k) v = v) (hfit : fits (ty0 k) v = true) (hlen : k < fs.length) (hws : ws.set q0 (a, .inr (ci, fs.set k v)) = ws2) (d : decode cc pc = .ok (.putfield idx, 3)) (hp : pc + 3 = pc2) (h : G K cI cZ cc nL own Ts R ce sl ws2 pc2 lv st) : G K cI cZ cc nL own Ts R ce sl ws pc lv (v :: .ref a :: st) := by
  obtain ⟨p, l, e, s, m, args, below, meth, c, Q, A, D⟩ := K
  intro hx hb hml hown hts hK hA hlk H locs ls hP hD hS hl
  subst hp
  exact va_put hx hb hts hin ty0 hty hnm hown hK hP hD hS q0 he hc k hk (hts _ hfl) (fun _ z => z) hfin (hty k hk) hn hfit hlen d (fun H2 locs2 hP2 hD2 hS2 => by subst hws; exact h hx hb hml hown hts hK hA hlk H2 locs2 ls hP2 hD2 hS2 hl)
theorem G.putF {C : String} {T : u_T} {N ci idx q0 k a : Nat} {fs : List Value} {v : Value} {ty0 : Nat → FieldType} (hin : ∀ w ∈ u_ws C T N, w ∈ Ts) (hfl : Cond.fieldLink own idx (T k).1 (T k).2.1 (T k).2.2.1 ∈ Ts) (hty : ∀ k, k < N → parseFieldDescriptor (T k).2.2.1 = some (ty0 k)) (hnm : ∀ a, a < N → ∀ b, b < N → a ≠ b → (T a).2.1 ≠ (T b).2.1) (he : ws[q0]? = some (a, .inr (ci, fs))) (hc : vwCl[ci]? = some (C, T, N)) (hk : k < N) (hfin : (T k).2.2.2 = true) (hnk : NameOK K "<init>") (hdecl : (T k).1 = own) (hn : narrow (ty0 k) v = v) (hfit : fits (ty0 k) v = true) (hlen : k < fs.length) (hws : ws.set q0 (a, .inr (ci, fs.set k v)) = ws2) (d : decode cc pc = .ok (.putfield idx, 3)) (hp : pc + 3 = pc2) (h : G K cI cZ cc nL own Ts R ce sl ws2 pc2 lv st) : G K cI cZ cc nL own Ts R ce sl ws pc lv (v :: .ref a :: st) := by
  obtain ⟨p, l, e, s, m, args, below, meth, c, Q, A, D⟩ := K
  intro hx hb hml hown hts hK hA hlk H locs ls hP hD hS hl
  subst hp
  exact va_putF hx hb hts hin ty0 hty hnm hown hK hP hD hS q0 he hc k hk (hts _ hfl) (fun _ z => z) hfin hnk hdecl (hty k hk) hn hfit hlen d (fun H2 locs2 hP2 hD2 hS2 => by subst hws; exact h hx hb hml hown hts hK hA hlk H2 locs2 ls hP2 hD2 hS2 hl)
theorem G.iald {q0 n a j : Nat} {f : Nat → Int32} {i v : Int32} (he : ws[q0]? = some (a, .inl (cI, n, .inl f))) (hi : Ix i j n) (hv : f j = v) (d : decode cc pc = .ok (.iaload, 1)) (hp : pc + 1 = pc2) (h : G K cI cZ cc nL own Ts R ce sl ws pc2 lv (.int v :: st)) : G K cI cZ cc nL own Ts R ce sl ws pc lv (.int i :: .ref a :: st) := by
  obtain ⟨p, l, e, s, m, args, below, meth, c, Q, A, D⟩ := K
  intro hx hb hml hown hts hK hA hlk H locs ls hP hD hS hl
  subst hp
  have h2 := h hx hb hml hown hts hK hA hlk H locs ls hP hD hS hl
  rw [← hv, ← hi.cl] at h2
  exact va_iald hx hb hK hP q0 0 he rfl hi.vin d h2
theorem G.zald {q0 n a j : Nat} {f : Nat → Int32} {i v : Int32} (he : ws[q0]? = some (a, .inl (cZ, n, .inl f))) (hi : Ix i j n) (hv : f j = v) (d : decode cc pc = .ok (.baload, 1)) (hp : pc + 1 = pc2) (h : G K cI cZ cc nL own Ts R ce sl ws pc2 lv (.int v :: st)) : G K cI cZ cc nL own Ts R ce sl ws pc lv (.int i :: .ref a :: st) := by
  obtain ⟨p, l, e, s, m, args, below, meth, c, Q, A, D⟩ := K
  intro hx hb hml hown hts hK hA hlk H locs ls hP hD hS hl
  subst hp
  have h2 := h hx hb hml hown hts hK hA hlk H locs ls hP hD hS hl
  rw [← hv, ← hi.cl] at h2
  exact va_zald hx hb hK hP q0 1 he rfl hi.vin d h2
theorem G.iast {q0 n a j : Nat} {f : Nat → Int32} {i x : Int32} (he : ws[q0]? = some (a, .inl (cI, n, .inl f))) (hi : Ix i j n) (hws : ws.set q0 (a, .inl (cI, n, .inl (upd f j x))) = ws2) (d : decode cc pc = .ok (.iastore, 1)) (hp : pc + 1 = pc2) (h : G K cI cZ cc nL own Ts R ce sl ws2 pc2 lv st) : G K cI cZ cc nL own Ts R ce sl ws pc lv (.int x :: .int i :: .ref a :: st) := by
  obtain ⟨p, l, e, s, m, args, below, meth, c, Q, A, D⟩ := K
  intro hx hb hml hown hts hK hA hlk H locs ls hP hD hS hl
  subst hp
  subst hws
  rw [← hi.cl] at h
  exact va_iast hx hb hK hP hD hS q0 0 he rfl hi.vin d (fun H2 locs2 hP2 hD2 hS2 => h hx hb hml hown hts hK hA hlk H2 locs2 ls hP2 hD2 hS2 hl)
theorem G.zast {q0 n a j : Nat} {f : Nat → Int32} {i x y : Int32} (he : ws[q0]? = some (a, .inl (cZ, n, .inl f))) (hi : Ix i j n) (hy : vp_nar .boolean x = y) (hws : ws.set q0 (a, .inl (cZ, n, .inl (upd f j y))) = ws2) (d : decode cc pc = .ok (.bastore, 1)) (hp : pc + 1 = pc2) (h : G K cI cZ cc nL own Ts R ce sl ws2 pc2 lv st) : G K cI cZ cc nL own Ts R ce sl ws pc lv (.int x :: .int i :: .ref a :: st) := by
  obtain ⟨p, l, e, s, m, args, below, meth, c, Q, A, D⟩ := K
  intro hx hb hml hown hts hK hA hlk H locs ls hP hD hS hl
  subst hp
  subst hws
  subst hy
  rw [← hi.cl] at h
  exact va_zast hx hb hK hP hD hS q0 1 he rfl hi.vin d (fun H2 locs2 hP2 hD2 hS2 => h hx hb hml hown hts hK hA hlk H2 locs2 ls hP2 hD2 hS2 hl)
theorem G.alen {q0 n a : Nat} {f : Nat → Int32} (he : ws[q0]? = some (a, .inl (cI, n, .inl f))) (d : decode cc pc = .ok (.arraylength, 1)) (hp : pc + 1 = pc2) (h : G K cI cZ cc nL own Ts R ce sl ws pc2 lv (.int (nI n) :: st)) : G K cI cZ cc nL own Ts R ce sl ws pc lv (.ref a :: st) := by
  obtain ⟨p, l, e, s, m, args, below, meth, c, Q, A, D⟩ := K
  intro hx hb hml hown hts hK hA hlk H locs ls hP hD hS hl
  subst hp
  exact va_alen hx hb hK hP q0 0 he rfl rfl d (h hx hb hml hown hts hK hA hlk H locs ls hP hD hS hl)
theorem G.same {q0 n a : Nat} {c0 : ClassId} {f g : Nat → Int32} (he : ws[q0]? = some (a, .inl (c0, n, .inl f))) (hfg : ∀ j, j < n → f j = g j) (hws : ws.set q0 (a, .inl (c0, n, .inl g)) = ws2) (h : G K cI cZ cc nL own Ts R ce sl ws2 pc lv st) : G K cI cZ cc nL own Ts R ce sl ws pc lv st := by
  obtain ⟨p, l, e, s, m, args, below, meth, c, Q, A, D⟩ := K
  intro hx hb hml hown hts hK hA hlk H locs ls hP hD hS hl
  subst hws
  have hc : vp_cell c0 (n, .inl f) = vp_cell c0 (n, .inl g) := by
    rw [vp_cell_i, vp_cell_i]
    unfold arrV
    congr 1
    congr 1
    funext j
    show Value.int (f j.val) = Value.int (g j.val)
    rw [hfg j.val j.isLt]
  have h1 := hP q0 _ he
  have h2 : va_at D vwCl (a, .inl (c0, n, .inl g)) H := by
    show H[a]? = some (vp_cell c0 (n, .inl g))
    rw [← hc]
    exact h1
  exact h hx hb hml hown hts hK hA hlk H locs ls (hP.set hD he h2 (fun _ _ => rfl)) (hD.set he) hS hl
theorem G.ireturn {ty : FieldType} {Rt : Option Int32 → va_W → Prop} {v : Int32} (hR : RetOK K cI cZ ce sl (some ty) Rt) (hn : narrow ty (.int v) = .int v) (d : decode cc pc = .ok (.ireturn, 1)) (hr : Rt (some v) ws) : G K cI cZ cc nL own Ts R ce sl ws pc lv [.int v] := by
  obtain ⟨p, l, e, s, m, args, below, meth, c, Q, A, D⟩ := K
  intro hx hb hml hown hts hK hA hlk H locs ls hP hD hS hl
  obtain ⟨hr1, rfl⟩ := hR
  exact W.zret hx hb hr1 hn (fun t ht hW => ⟨⟨some v, ws, rfl, hr, by rw [ht]; exact hP, va_K.moved hW.alike hK, hD⟩, hS.F ht⟩) hS.2.2 d hlk
theorem G.vreturn {Rt : Option Int32 → va_W → Prop} (hR : RetOK K cI cZ ce sl none Rt) (d : decode cc pc = .ok (.return_, 1)) (hr : Rt none ws) : G K cI cZ cc nL own Ts R ce sl ws pc lv [] := by
  obtain ⟨p, l, e, s, m, args, below, meth, c, Q, A, D⟩ := K
  intro hx hb hml hown hts hK hA hlk H locs ls hP hD hS hl
  obtain ⟨hr1, rfl⟩ := hR
  exact W.vret hx hb hr1 (fun t ht hW => ⟨⟨none, ws, rfl, hr, by rw [ht]; exact hP, va_K.moved hW.alike hK, hD⟩, hS.F ht⟩) hS.2.2 d hlk
theorem G.callV {y : MethodName} {wsY wsY2 : List Cond} {rmY : Room} {q0 ci b idx maxL n mc ms i j : Nat} {bytes : ByteArray} {ret : Option FieldType} {As rest : List Value} {wc : va_W} {Rt : Option Int32 → va_W → Prop}  {C : String} {q : vw_C} {fs : List Value} (hM : Ct y wsY rmY cI cZ (.ref b :: As) wc mc ms Rt) (hG : GoodIn Ts (wsV own idx C y wsY)) (hw : wsY = Cond.code y bytes maxL ret :: wsY2) (hrc : rmY.cells = mc) (hrs : rmY.slots = ms) (hd : y.cls = C ∧ y.cls ≠ "java/lang/invoke/MethodHandle" ∧ y.cls ≠ "java/lang/invoke/VarHandle" ∧ (parseMethodDescriptor y.desc).map (fun d => d.parameters.length) = some n) (hR : rmY.frames + 1 ≤ R.frames ∧ 8 + (maxL + 11) + rmY.locals ≤ R.locals) (hf : ce + mc ≤ R.cells ∧ sl + ms ≤ R.slots) (hn : As.length = n) (hst : st = As.reverse ++ .ref b :: rest) (hroom : (rest.map fun v => v.category).sum ≤ 8) (hws : ws = ws.take i ++ (wc ++ ws.drop j)) (he : ws[q0]? = some (b, .inr (ci, fs))) (hc : vwCl[ci]? = some q) (hq : q.1 = C) (d : decode cc pc = .ok (.invokevirtual idx, 3)) (hp : pc + 3 = pc2) (h : ∀ (v : Option Int32) (wc2 : va_W), Rt v wc2 → G K cI cZ cc nL own Ts R (ce + mc) (sl + ms) (ws.take i ++ (wc2 ++ ws.drop j)) pc2 lv ((v.map Value.int).toList ++ rest)) : G K cI cZ cc nL own Ts R ce sl ws pc lv st := by
  obtain ⟨p, l, e, s, m, args, below, meth, c, Q, A, D⟩ := K
  intro hx hb hml hown hts hK hA hlk H locs ls hP hD hS hl
  subst hp
  subst hst
  have hP3 : va_P D vwCl (ws.take i ++ (wc ++ ws.drop j)) H := by rw [← hws]; exact hP
  have hD3 : va_D A (ws.take i ++ (wc ++ ws.drop j)) := by rw [← hws]; exact hD
  have hPc := vP_l (vP_r hP3)
  have hDc := vD_l (vD_r hD3)
  have hF : ∀ q, va_A wc H.size q → A q := by
    intro q hq
    rcases hq with ⟨k, e9, hq⟩ | hq
    · exact hDc.2 k _ hq
    · exact hA q (Nat.le_trans hS.1 hq)
  have run := va_runV (cells := ce) (slots := sl) (e := e) (below := below) (meth := meth) (locs := locs) (As := As) (rest := rest) (b := b) (g := F0 m pc ls (As.reverse ++ .ref b :: rest)) ⟨hx, hb, hml, hown, hts⟩ (hM l D H.size) (cwV n hts hG hw hrc hrs hd hR) ⟨fun a U g mk q => by obtain ⟨q0, q1, qP, qK, qD⟩ := q; exact ⟨q0, q1, qP, va_K.moved (u := U) (U := U.calling g mk a) (Vm.Alike.refl U.vm) qK, qD⟩, hq ▸ va_recv hK hP hc he, fun U hU hW => ⟨rfl, by rw [hU], by rw [hU]; exact hPc, va_K.moved hW.alike hK, hDc.weaken (fun _ _ _ _ => trivial)⟩⟩ rfl hn hl.1 rfl (lv_room hroom) d hf
  intro T hT X
  obtain ⟨v, st₀, t, T2, L, h0, X2, hL, e1, e2, ⟨⟨r, wc2, hv, hr, hP1, hK1, hD1⟩, hz, hk⟩, stp⟩ := run T hT X
  cases hv
  rw [h0] at hz hk
  obtain ⟨hPn, hDn⟩ := joinM (H1 := T2.heap) hP3 hD3 (fun q h1 h2 => by rw [e1]; exact hk q h1 h2) hF (by rw [e1]; exact hP1) hD1
  have hSn : va_S A s.heap T2.heap (locs ++ L) := ⟨Nat.le_trans hS.1 (by rw [e1]; exact hz), fun q h1 h2 => by
      rw [e1, hk q (Nat.lt_of_lt_of_le h1 hS.1) (fun z => h2 (hF q z))]
      exact hS.2.1 q h1 h2, fun q hq => by
      rcases List.mem_append.mp hq with h9 | h9
      · exact hS.2.2 q h9
      · exact hF _ (hL q h9)⟩
  obtain ⟨t2, a1, b1⟩ := h r wc2 hr hx hb hml hown hts hK hA hlk T2.heap (locs ++ L) ls hPn hDn hSn hl T2 rfl X2
  exact ⟨t2, stp t2 a1, b1⟩
theorem G.callS {y : MethodName} {wsY wsY2 : List Cond} {rmY : Room} {idx maxL n mc ms i j : Nat} {bytes : ByteArray} {ret : Option FieldType} {As rest : List Value} {wc : va_W} {Rt : Option Int32 → va_W → Prop}   (hM : Ct y wsY rmY cI cZ As wc mc ms Rt) (hG : GoodIn Ts (va_wsS own idx y wsY)) (hw : wsY = Cond.code y bytes maxL ret :: wsY2) (hrc : rmY.cells = mc) (hrs : rmY.slots = ms) (hd : y.cls ≠ "java/lang/invoke/MethodHandle" ∧ y.cls ≠ "java/lang/invoke/VarHandle" ∧ (parseMethodDescriptor y.desc).map (fun d => d.parameters.length) = some n) (hR : rmY.frames + 1 ≤ R.frames ∧ 8 + (maxL + 11) + rmY.locals ≤ R.locals) (hf : ce + mc ≤ R.cells ∧ sl + ms ≤ R.slots) (hn : As.length = n) (hst : st = As.reverse ++ rest) (hroom : (rest.map fun v => v.category).sum ≤ 8) (hws : ws = ws.take i ++ (wc ++ ws.drop j))  (d : decode cc pc = .ok (.invokestatic idx, 3)) (hp : pc + 3 = pc2) (h : ∀ (v : Option Int32) (wc2 : va_W), Rt v wc2 → G K cI cZ cc nL own Ts R (ce + mc) (sl + ms) (ws.take i ++ (wc2 ++ ws.drop j)) pc2 lv ((v.map Value.int).toList ++ rest)) : G K cI cZ cc nL own Ts R ce sl ws pc lv st := by
  obtain ⟨p, l, e, s, m, args, below, meth, c, Q, A, D⟩ := K
  intro hx hb hml hown hts hK hA hlk H locs ls hP hD hS hl
  subst hp
  subst hst
  have hP3 : va_P D vwCl (ws.take i ++ (wc ++ ws.drop j)) H := by rw [← hws]; exact hP
  have hD3 : va_D A (ws.take i ++ (wc ++ ws.drop j)) := by rw [← hws]; exact hD
  have hPc := vP_l (vP_r hP3)
  have hDc := vD_l (vD_r hD3)
  have hF : ∀ q, va_A wc H.size q → A q := by
    intro q hq
    rcases hq with ⟨k, e9, hq⟩ | hq
    · exact hDc.2 k _ hq
    · exact hA q (Nat.le_trans hS.1 hq)
  have run := va_runS (cells := ce) (slots := sl) (e := e) (below := below) (meth := meth) (locs := locs) (As := As) (rest := rest) (g := F0 m pc ls (As.reverse ++ rest)) ⟨hx, hb, hml, hown, hts⟩ (hM l D H.size) (va_cwS n hts hG hw hrc hrs hd hR) ⟨fun a U g mk q => by obtain ⟨q0, q1, qP, qK, qD⟩ := q; exact ⟨q0, q1, qP, va_K.moved (u := U) (U := U.calling g mk a) (Vm.Alike.refl U.vm) qK, qD⟩, fun U hU hW => ⟨rfl, by rw [hU], by rw [hU]; exact hPc, va_K.moved hW.alike hK, hDc.weaken (fun _ _ _ _ => trivial)⟩⟩ rfl hn hl.1 rfl (lv_room hroom) d hf
  intro T hT X
  obtain ⟨v, st₀, t, T2, L, h0, X2, hL, e1, e2, ⟨⟨r, wc2, hv, hr, hP1, hK1, hD1⟩, hz, hk⟩, stp⟩ := run T hT X
  cases hv
  rw [h0] at hz hk
  obtain ⟨hPn, hDn⟩ := joinM (H1 := T2.heap) hP3 hD3 (fun q h1 h2 => by rw [e1]; exact hk q h1 h2) hF (by rw [e1]; exact hP1) hD1
  have hSn : va_S A s.heap T2.heap (locs ++ L) := ⟨Nat.le_trans hS.1 (by rw [e1]; exact hz), fun q h1 h2 => by
      rw [e1, hk q (Nat.lt_of_lt_of_le h1 hS.1) (fun z => h2 (hF q z))]
      exact hS.2.1 q h1 h2, fun q hq => by
      rcases List.mem_append.mp hq with h9 | h9
      · exact hS.2.2 q h9
      · exact hF _ (hL q h9)⟩
  obtain ⟨t2, a1, b1⟩ := h r wc2 hr hx hb hml hown hts hK hA hlk T2.heap (locs ++ L) ls hPn hDn hSn hl T2 rfl X2
  exact ⟨t2, stp t2 a1, b1⟩
theorem G.callVd {y : MethodName} {wsY wsY2 : List Cond} {rmY : Room} {q0 ci b idx maxL n i j : Nat} {bytes : ByteArray} {ret : Option FieldType} {As rest : List Value} {wc : va_W}  {C : String} {q : vw_C} {fs : List Value} {v : Option Int32} {wc2 : va_W} {st2 : List Value} (hM : Ct y wsY rmY cI cZ (.ref b :: As) wc 0 0 (rt v wc2)) (hG : GoodIn Ts (wsV own idx C y wsY)) (hw : wsY = Cond.code y bytes maxL ret :: wsY2) (hrc : rmY.cells = 0) (hrs : rmY.slots = 0) (hd : y.cls = C ∧ y.cls ≠ "java/lang/invoke/MethodHandle" ∧ y.cls ≠ "java/lang/invoke/VarHandle" ∧ (parseMethodDescriptor y.desc).map (fun d => d.parameters.length) = some n) (hR : rmY.frames + 1 ≤ R.frames ∧ 8 + (maxL + 11) + rmY.locals ≤ R.locals) (hf : ce ≤ R.cells ∧ sl ≤ R.slots) (hn : As.length = n) (hst : st = As.reverse ++ .ref b :: rest) (hroom : (rest.map fun v => v.category).sum ≤ 8) (hws : ws = ws.take i ++ (wc ++ ws.drop j)) (he : ws[q0]? = some (b, .inr (ci, fs))) (hc : vwCl[ci]? = some q) (hq : q.1 = C) (hws2 : ws.take i ++ (wc2 ++ ws.drop j) = ws2) (hst2 : (v.map Value.int).toList ++ rest = st2) (d : decode cc pc = .ok (.invokevirtual idx, 3)) (hp : pc + 3 = pc2) (h : G K cI cZ cc nL own Ts R ce sl ws2 pc2 lv st2) : G K cI cZ cc nL own Ts R ce sl ws pc lv st := by
  refine G.callV hM hG hw hrc hrs hd hR hf hn hst hroom hws he hc hq d hp ?_
  rintro _ _ ⟨rfl, rfl⟩
  rw [hws2, hst2]
  exact h
theorem G.callSd {y : MethodName} {wsY wsY2 : List Cond} {rmY : Room} {idx maxL n i j : Nat} {bytes : ByteArray} {ret : Option FieldType} {As rest : List Value} {wc : va_W}   {v : Option Int32} {wc2 : va_W} {st2 : List Value} (hM : Ct y wsY rmY cI cZ As wc 0 0 (rt v wc2)) (hG : GoodIn Ts (va_wsS own idx y wsY)) (hw : wsY = Cond.code y bytes maxL ret :: wsY2) (hrc : rmY.cells = 0) (hrs : rmY.slots = 0) (hd : y.cls ≠ "java/lang/invoke/MethodHandle" ∧ y.cls ≠ "java/lang/invoke/VarHandle" ∧ (parseMethodDescriptor y.desc).map (fun d => d.parameters.length) = some n) (hR : rmY.frames + 1 ≤ R.frames ∧ 8 + (maxL + 11) + rmY.locals ≤ R.locals) (hf : ce ≤ R.cells ∧ sl ≤ R.slots) (hn : As.length = n) (hst : st = As.reverse ++ rest) (hroom : (rest.map fun v => v.category).sum ≤ 8) (hws : ws = ws.take i ++ (wc ++ ws.drop j))  (hws2 : ws.take i ++ (wc2 ++ ws.drop j) = ws2) (hst2 : (v.map Value.int).toList ++ rest = st2) (d : decode cc pc = .ok (.invokestatic idx, 3)) (hp : pc + 3 = pc2) (h : G K cI cZ cc nL own Ts R ce sl ws2 pc2 lv st2) : G K cI cZ cc nL own Ts R ce sl ws pc lv st := by
  refine G.callS hM hG hw hrc hrs hd hR hf hn hst hroom hws  d hp ?_
  rintro _ _ ⟨rfl, rfl⟩
  rw [hws2, hst2]
  exact h
theorem G.mmin {x y v : Int32} {idx : Nat} (hlk2 : Cond.methodLink own idx Lib.Math.min.name ∈ Ts) (hst : Cond.static Lib.Math.min.name ∈ Ts) (hin : Cond.initialized "java/lang/Math" ∈ Ts) (hco : Cond.code Lib.Math.min.name Lib.Math.min.code 2 (some .int) ∈ Ts) (hR : 1 ≤ R.frames ∧ (st.map fun v => v.category).sum + 13 ≤ R.locals) (hf : ce ≤ R.cells ∧ sl ≤ R.slots) (hv : (if y < x then y else x) = v) (d : decode cc pc = .ok (.invokestatic idx, 3)) (hp : pc + 3 = pc2) (h : G K cI cZ cc nL own Ts R ce sl ws pc2 lv (.int v :: st)) : G K cI cZ cc nL own Ts R ce sl ws pc lv (.int y :: .int x :: st) := by
  obtain ⟨p, l, e, s, m, args, below, meth, c, Q, A, D⟩ := K
  intro hx hb hml hown hts hK hA hlk H locs ls hP hD hS hl
  subst hp
  subst hv
  exact va_mmin hx hb (hml.trans hl.1.symm) hown (hts _ hlk2) (hts _ hst) (hts _ hin) (hts _ hco) hR.1 hR.2 hf.1 hf.2 d (h hx hb hml hown hts hK hA hlk H locs ls hP hD hS hl)
end GL
