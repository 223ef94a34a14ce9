section GC
variable {K : Cx} {cI cZ : ClassId} {cc : ByteArray} {nL : Nat} {own : String} {Ts : List Cond} {R : Room} {ce sl : Nat} {ws ws2 : va_W} {pc pc2 : Nat} {lv lv2 : List (Nat × Value)} {st : List Value}
theorem G.newI {n : Int32} {N : Nat} (harr : Cond.arrayClass .int ∈ Ts) (hn : ¬ n < 0) (hN : n.toNatClampNeg = N) (hby : N * componentBytes .int ≤ 536870912) (hc : ce + 1 ≤ R.cells) (hsl : sl + N ≤ R.slots) (d : decode cc pc = .ok (.newarray .int, 2)) (hp : pc + 2 = pc2) (h : ∀ q : Nat, G K cI cZ cc nL own Ts R (ce + 1) (sl + N) (ws ++ [(q, .inl (cI, N, .inl (fun _ => 0)))]) pc2 lv (.ref q :: st)) : G K cI cZ cc nL own Ts R ce sl ws pc lv (.int n :: st) := by
  obtain ⟨p, l, e, s, m, args, below, meth, c, Q, A, D⟩ := K
  intro hx hb hml hown hts hK hA hlk H locs ls hP hD hS hl
  subst hp
  refine va_newa (atype := .int) (ty := .int) (a0 := (N, .inl (fun _ => 0))) hx hb (hts _ harr) rfl hK hP hD hS hA (fun cA => rfl) hn hN hby hc hsl d (fun q cA H1 hK1 hP1 hD1 hS1 => ?_)
  have e9 : cA = cI := Option.some.inj (((hK1.2 2 (cA, .int) rfl).2).symm.trans (hK.2 0 (cI, .int) rfl).2)
  rw [e9] at hP1 hD1
  exact h q hx hb hml hown hts hK hA hlk H1 locs ls hP1 hD1 hS1 hl
theorem G.newZ {n : Int32} {N : Nat} (harr : Cond.arrayClass .boolean ∈ Ts) (hn : ¬ n < 0) (hN : n.toNatClampNeg = N) (hby : N * componentBytes .boolean ≤ 536870912) (hc : ce + 1 ≤ R.cells) (hsl : sl + N ≤ R.slots) (d : decode cc pc = .ok (.newarray .boolean, 2)) (hp : pc + 2 = pc2) (h : ∀ q : Nat, G K cI cZ cc nL own Ts R (ce + 1) (sl + N) (ws ++ [(q, .inl (cZ, N, .inl (fun _ => 0)))]) pc2 lv (.ref q :: st)) : G K cI cZ cc nL own Ts R ce sl ws pc lv (.int n :: st) := by
  obtain ⟨p, l, e, s, m, args, below, meth, c, Q, A, D⟩ := K
  intro hx hb hml hown hts hK hA hlk H locs ls hP hD hS hl
  subst hp
  refine va_newa (atype := .boolean) (ty := .boolean) (a0 := (N, .inl (fun _ => 0))) hx hb (hts _ harr) rfl hK hP hD hS hA (fun cA => rfl) hn hN hby hc hsl d (fun q cA H1 hK1 hP1 hD1 hS1 => ?_)
  have e9 : cA = cZ := Option.some.inj (((hK1.2 2 (cA, .boolean) rfl).2).symm.trans (hK.2 1 (cZ, .boolean) rfl).2)
  rw [e9] at hP1 hD1
  exact h q hx hb hml hown hts hK hA hlk H1 locs ls hP1 hD1 hS1 hl
theorem G.newO {C : String} {T : u_T} {N ci idx : Nat} {fs : List Value} {ty : Nat → FieldType} (hin : ∀ w ∈ u_ws C T N, w ∈ Ts) (hty : ∀ k, k < N → parseFieldDescriptor (T k).2.2.1 = some (ty k)) (hcl : Cond.classLink own idx C ∈ Ts) (hinst : Cond.instantiable C N ∈ Ts) (hini : Cond.initialized C ∈ Ts) (hc : vwCl[ci]? = some (C, T, N)) (hfs : ∀ j, j < N → defaultValue (ty j) = vp_V fs j) (hce : ce + 1 ≤ R.cells) (hsl : sl + N ≤ R.slots) (d : decode cc pc = .ok (.new idx, 3)) (hp : pc + 3 = pc2) (h : ∀ q : Nat, G K cI cZ cc nL own Ts R (ce + 1) (sl + N) (ws ++ [(q, .inr (ci, fs))]) pc2 lv (.ref q :: st)) : G K cI cZ cc nL own Ts R ce sl ws pc lv st := by
  obtain ⟨p, l, e, s, m, args, below, meth, c, Q, A, D⟩ := K
  intro hx hb hml hown hts hK hA hlk H locs ls hP hD hS hl
  subst hp
  exact va_new hx hb hts hin ty hty hown (hts _ hcl) (hts _ hinst) (hts _ hini) hK hP hD hS hA hc hfs hce hsl d (fun q H1 hP1 hD1 hS1 => h q hx hb hml hown hts hK hA hlk H1 locs ls hP1 hD1 hS1 hl)
theorem G.objInit {idx a : Nat} (hlk2 : Cond.methodLink own idx objectInit ∈ Ts) (hi : Cond.instanceMethod objectInit ∈ Ts) (hco : Cond.code objectInit ⟨#[0xb1]⟩ 1 none ∈ Ts) (hfr : 1 ≤ R.frames) (hlo : (st.map fun v => v.category).sum + 12 ≤ R.locals) (d : decode cc pc = .ok (.invokespecial idx, 3)) (hp : pc + 3 = pc2) (h : G K cI cZ cc nL own Ts R ce sl ws pc2 lv st) : G K cI cZ cc nL own Ts R ce sl ws pc lv (.ref a :: st) := by
  obtain ⟨p, l, e, s, m, args, below, meth, c, Q, A, D⟩ := K
  intro hx hb hml hown hts hK hA hlk H locs ls hP hD hS hl
  subst hp
  refine W.objInit (g := F0 m pc ls (.ref a :: st)) hx hb hown (hts _ hlk2) (hts _ hi) (hts _ hco) rfl (hl.1.trans hml.symm) rfl d hfr (by show 2 * 0 + _ + 12 ≤ _; omega) ?_
  exact h hx hb hml hown hts hK hA hlk H locs ls hP hD hS hl
theorem G.callI {y : MethodName} {wsY wsY2 : List Cond} {rmY : Room} {b idx maxL n mc ms i j : Nat} {bytes : ByteArray} {As rest : List Value} {wc : va_W} {Rt : Option Int32 → va_W → Prop}  (hM : Ct y wsY rmY cI cZ (.ref b :: As) wc mc ms Rt) (hG : GoodIn Ts wsY) (hw : wsY = Cond.code y bytes maxL none :: wsY2) (hrc : rmY.cells = mc) (hrs : rmY.slots = ms) (hini : Cond.initialized y.cls ∈ Ts) (hlk2 : Cond.methodLink own idx y ∈ Ts) (hins : Cond.instanceMethod y ∈ Ts) (hy1 : y.name = "<init>") (hd : y.cls ≠ "java/lang/invoke/MethodHandle" ∧ y.cls ≠ "java/lang/invoke/VarHandle" ∧ (parseMethodDescriptor y.desc).map (fun d => d.parameters.length) = some n) (hR : rmY.frames + 1 ≤ R.frames ∧ 8 + (maxL + 11) + rmY.locals ≤ R.locals) (hf : ce + mc ≤ R.cells ∧ sl + ms ≤ R.slots) (hn : As.length = n) (hst : st = As.reverse ++ .ref b :: rest) (hroom : (rest.map fun v => v.category).sum ≤ 8) (hws : ws = ws.take i ++ (wc ++ ws.drop j))  (d : decode cc pc = .ok (.invokespecial idx, 3)) (hp : pc + 3 = pc2) (h : ∀ (v : Option Int32) (wc2 : va_W), Rt v wc2 → G K cI cZ cc nL own Ts R (ce + mc) (sl + ms) (ws.take i ++ (wc2 ++ ws.drop j)) pc2 lv ((v.map Value.int).toList ++ rest)) : G K cI cZ cc nL own Ts R ce sl ws pc lv st := by
  obtain ⟨p, l, e, s, m, args, below, meth, c, Q, A, D⟩ := K
  intro hx hb hml hown hts hK hA hlk H locs ls hP hD hS hl
  subst hp
  subst hst
  have hP3 : va_P D vwCl (ws.take i ++ (wc ++ ws.drop j)) H := by rw [← hws]; exact hP
  have hD3 : va_D A (ws.take i ++ (wc ++ ws.drop j)) := by rw [← hws]; exact hD
  have hPc := vP_l (vP_r hP3)
  have hDc := vD_l (vD_r hD3)
  have hF : ∀ q, va_A wc H.size q → A q := by
    intro q hq
    rcases hq with ⟨k, e9, hq⟩ | hq
    · exact hDc.2 k _ hq
    · exact hA q (Nat.le_trans hS.1 hq)
  have run := va_runI (cells := ce) (slots := sl) (e := e) (below := below) (meth := meth) (locs := locs) (As := As) (rest := rest) (b := b) (g := F0 m pc ls (As.reverse ++ .ref b :: rest)) ⟨hx, hb, hml, hown, hts⟩ (hM l D H.size) (cwI n hts hG hw hrc hrs (hts _ hini) (hts _ hlk2) (hts _ hins) hy1 hd hR) ⟨fun a U g mk q => by obtain ⟨q0, q1, qP, qK, qD⟩ := q; exact ⟨q0, q1, qP, va_K.moved (u := U) (U := U.calling g mk a) (Vm.Alike.refl U.vm) qK, qD⟩, fun U hU hW => ⟨rfl, by rw [hU], by rw [hU]; exact hPc, va_K.moved hW.alike hK, hDc.weaken (fun _ _ _ _ => trivial)⟩⟩ rfl hn hl.1 rfl (lv_room hroom) d hf
  intro T hT X
  obtain ⟨v, st₀, t, T2, L, h0, X2, hL, e1, e2, ⟨⟨r, wc2, hv, hr, hP1, hK1, hD1⟩, hz, hk⟩, stp⟩ := run T hT X
  cases hv
  rw [h0] at hz hk
  obtain ⟨hPn, hDn⟩ := joinM (H1 := T2.heap) hP3 hD3 (fun q h1 h2 => by rw [e1]; exact hk q h1 h2) hF (by rw [e1]; exact hP1) hD1
  have hSn : va_S A s.heap T2.heap (locs ++ L) := ⟨Nat.le_trans hS.1 (by rw [e1]; exact hz), fun q h1 h2 => by
      rw [e1, hk q (Nat.lt_of_lt_of_le h1 hS.1) (fun z => h2 (hF q z))]
      exact hS.2.1 q h1 h2, fun q hq => by
      rcases List.mem_append.mp hq with h9 | h9
      · exact hS.2.2 q h9
      · exact hF _ (hL q h9)⟩
  obtain ⟨t2, a1, b1⟩ := h r wc2 hr hx hb hml hown hts hK hA hlk T2.heap (locs ++ L) ls hPn hDn hSn hl T2 rfl X2
  exact ⟨t2, stp t2 a1, b1⟩
end GC
