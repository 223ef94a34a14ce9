set_option maxRecDepth 100000 in
set_option maxHeartbeats 4000000 in
theorem law_reset {K : Cx} {cI cZ : ClassId} {b L : Nat} {xs : Nat → Int32} {aX aM : Nat → Nat} {σ : SX} {τ : SM} {t i : Nat} {l3 : Int32} (hL : LawOK K b L xs) (e3 : l3 = nI i) (hiL : i + 5 ≤ L) (hL2 : L ≤ 2560) (ht : t < 1073741824) (R : Rel t σ τ) (next : ∀ (σ : SX) (τ : SM), Rel (t + 1) σ τ → G K cI cZ code 4 RL wsL_law room_1 24 1231 (wX aX cI cZ σ ++ wM aM cI cZ τ) 744 [(0, .ref b), (1, .ref (aX 0)), (2, .ref (aM 0)), (3, .int l3)] []) : G K cI cZ code 4 RL wsL_law room_1 24 1231 (wX aX cI cZ σ ++ wM aM cI cZ τ) 160 [(0, .ref b), (1, .ref (aX 0)), (2, .ref (aM 0)), (3, .int l3)] [] := by
  refine G.aload_n (pc2 := 161) (x := aX 0) dL_law_160 rfl rfl rfl ?_
  refine G.aload_n (pc2 := 162) (x := b) dL_law_161 rfl rfl rfl ?_
  refine G.iload_n (pc2 := 163) (x := l3) dL_law_162 rfl rfl rfl ?_
  refine G.iconst (pc2 := 164) (v := 1) dL_law_163 (by decide) rfl ?_
  refine G.iadd (pc2 := 165) (v := l3 + 1) dL_law_164 rfl rfl ?_
  refine G.sld (pc2 := 166) hL (scr_in e3 hiL hL2 1 (by omega)) dL_law_165 rfl ?_
  refine G.aload_n (pc2 := 167) (x := b) dL_law_166 rfl rfl rfl ?_
  refine G.iload_n (pc2 := 168) (x := l3) dL_law_167 rfl rfl rfl ?_
  refine G.iconst (pc2 := 169) (v := 2) dL_law_168 (by decide) rfl ?_
  refine G.iadd (pc2 := 170) (v := l3 + 2) dL_law_169 rfl rfl ?_
  refine G.sld (pc2 := 171) hL (scr_in e3 hiL hL2 2 (by omega)) dL_law_170 rfl ?_
  refine G.aload_n (pc2 := 172) (x := b) dL_law_171 rfl rfl rfl ?_
  refine G.iload_n (pc2 := 173) (x := l3) dL_law_172 rfl rfl rfl ?_
  refine G.iconst (pc2 := 174) (v := 3) dL_law_173 (by decide) rfl ?_
  refine G.iadd (pc2 := 175) (v := l3 + 3) dL_law_174 rfl rfl ?_
  refine G.sld (pc2 := 176) hL (scr_in e3 hiL hL2 3 (by omega)) dL_law_175 rfl ?_
  refine G.aload_n (pc2 := 177) (x := b) dL_law_176 rfl rfl rfl ?_
  refine G.iload_n (pc2 := 178) (x := l3) dL_law_177 rfl rfl rfl ?_
  refine G.iconst (pc2 := 179) (v := 4) dL_law_178 (by decide) rfl ?_
  refine G.iadd (pc2 := 180) (v := l3 + 4) dL_law_179 rfl rfl ?_
  refine G.sld (pc2 := 181) hL (scr_in e3 hiL hL2 4 (by omega)) dL_law_180 rfl ?_
  refine G.callVd (pc2 := 184) (i := 0) (j := 14) (q0 := 0) (ci := 4) (As := [.int (xs (ix (l3 + 1))), .int (xs (ix (l3 + 2))), .int (xs (ix (l3 + 3))), .int (xs (ix (l3 + 4)))]) (rest := []) (ws2 := wX aX cI cZ (sX4_reset σ (xs (ix (l3 + 1))) (xs (ix (l3 + 2))) (xs (ix (l3 + 3))) (xs (ix (l3 + 4)))) ++ wM aM cI cZ τ) (st2 := [.int (vX4_reset σ (xs (ix (l3 + 1))) (xs (ix (l3 + 2))) (xs (ix (l3 + 3))) (xs (ix (l3 + 4))))]) (c_X4_reset (cI := cI) (cZ := cZ) aX σ (xs (ix (l3 + 1))) (xs (ix (l3 + 2))) (xs (ix (l3 + 3))) (xs (ix (l3 + 4))) ) gL_law_X4_reset rfl rfl rfl ndX4_reset ⟨Nat.le_of_ble_eq_true rfl, Nat.le_of_ble_eq_true rfl⟩ ⟨Nat.le_of_ble_eq_true rfl, Nat.le_of_ble_eq_true rfl⟩ rfl rfl (Nat.le_of_ble_eq_true rfl) rfl rfl rfl rfl rfl rfl dL_law_181 rfl ?_
  generalize hv1 : vX4_reset σ (xs (ix (l3 + 1))) (xs (ix (l3 + 2))) (xs (ix (l3 + 3))) (xs (ix (l3 + 4))) = v1
  generalize hs1 : sX4_reset σ (xs (ix (l3 + 1))) (xs (ix (l3 + 2))) (xs (ix (l3 + 3))) (xs (ix (l3 + 4))) = z1
  refine G.aload_n (pc2 := 185) (x := aM 0) dL_law_184 rfl rfl rfl ?_
  refine G.aload_n (pc2 := 186) (x := b) dL_law_185 rfl rfl rfl ?_
  refine G.iload_n (pc2 := 187) (x := l3) dL_law_186 rfl rfl rfl ?_
  refine G.iconst (pc2 := 188) (v := 1) dL_law_187 (by decide) rfl ?_
  refine G.iadd (pc2 := 189) (v := l3 + 1) dL_law_188 rfl rfl ?_
  refine G.sld (pc2 := 190) hL (scr_in e3 hiL hL2 1 (by omega)) dL_law_189 rfl ?_
  refine G.aload_n (pc2 := 191) (x := b) dL_law_190 rfl rfl rfl ?_
  refine G.iload_n (pc2 := 192) (x := l3) dL_law_191 rfl rfl rfl ?_
  refine G.iconst (pc2 := 193) (v := 2) dL_law_192 (by decide) rfl ?_
  refine G.iadd (pc2 := 194) (v := l3 + 2) dL_law_193 rfl rfl ?_
  refine G.sld (pc2 := 195) hL (scr_in e3 hiL hL2 2 (by omega)) dL_law_194 rfl ?_
  refine G.aload_n (pc2 := 196) (x := b) dL_law_195 rfl rfl rfl ?_
  refine G.iload_n (pc2 := 197) (x := l3) dL_law_196 rfl rfl rfl ?_
  refine G.iconst (pc2 := 198) (v := 3) dL_law_197 (by decide) rfl ?_
  refine G.iadd (pc2 := 199) (v := l3 + 3) dL_law_198 rfl rfl ?_
  refine G.sld (pc2 := 200) hL (scr_in e3 hiL hL2 3 (by omega)) dL_law_199 rfl ?_
  refine G.aload_n (pc2 := 201) (x := b) dL_law_200 rfl rfl rfl ?_
  refine G.iload_n (pc2 := 202) (x := l3) dL_law_201 rfl rfl rfl ?_
  refine G.iconst (pc2 := 203) (v := 4) dL_law_202 (by decide) rfl ?_
  refine G.iadd (pc2 := 204) (v := l3 + 4) dL_law_203 rfl rfl ?_
  refine G.sld (pc2 := 205) hL (scr_in e3 hiL hL2 4 (by omega)) dL_law_204 rfl ?_
  refine G.callVd (pc2 := 208) (i := 14) (j := 24) (q0 := 14) (ci := 5) (As := [.int (xs (ix (l3 + 1))), .int (xs (ix (l3 + 2))), .int (xs (ix (l3 + 3))), .int (xs (ix (l3 + 4)))]) (rest := [.int v1]) (ws2 := wX aX cI cZ z1 ++ wM aM cI cZ (sX5_reset τ (xs (ix (l3 + 1))) (xs (ix (l3 + 2))) (xs (ix (l3 + 3))) (xs (ix (l3 + 4))))) (st2 := [.int (vX5_reset τ (xs (ix (l3 + 1))) (xs (ix (l3 + 2))) (xs (ix (l3 + 3))) (xs (ix (l3 + 4)))), .int v1]) (c_X5_reset (cI := cI) (cZ := cZ) aM τ (xs (ix (l3 + 1))) (xs (ix (l3 + 2))) (xs (ix (l3 + 3))) (xs (ix (l3 + 4))) ) gL_law_X5_reset rfl rfl rfl ndX5_reset ⟨Nat.le_of_ble_eq_true rfl, Nat.le_of_ble_eq_true rfl⟩ ⟨Nat.le_of_ble_eq_true rfl, Nat.le_of_ble_eq_true rfl⟩ rfl rfl (Nat.le_of_ble_eq_true rfl) rfl rfl rfl rfl rfl rfl dL_law_205 rfl ?_
  generalize hv2 : vX5_reset τ (xs (ix (l3 + 1))) (xs (ix (l3 + 2))) (xs (ix (l3 + 3))) (xs (ix (l3 + 4))) = v2
  generalize hs2 : sX5_reset τ (xs (ix (l3 + 1))) (xs (ix (l3 + 2))) (xs (ix (l3 + 3))) (xs (ix (l3 + 4))) = z2
  refine G.icmp_eq (pc2 := 211) (tgt := 744) dL_law_208 rfl rfl (fun _ => ?_) (fun c9 => ?_)
  · subst hv1 hv2 hs1 hs2
    exact next _ _ (op_reset R (xs (ix (l3 + 1))) (xs (ix (l3 + 2))) (xs (ix (l3 + 3))) (xs (ix (l3 + 4)))).2
  · subst hv1 hv2 hs1 hs2
    exact absurd (op_reset R (xs (ix (l3 + 1))) (xs (ix (l3 + 2))) (xs (ix (l3 + 3))) (xs (ix (l3 + 4)))).1 c9
set_option maxRecDepth 100000 in
set_option maxHeartbeats 4000000 in
theorem law_read {K : Cx} {cI cZ : ClassId} {b L : Nat} {xs : Nat → Int32} {aX aM : Nat → Nat} {σ : SX} {τ : SM} {t i : Nat} {l3 : Int32} (hL : LawOK K b L xs) (e3 : l3 = nI i) (hiL : i + 5 ≤ L) (hL2 : L ≤ 2560) (ht : t < 1073741824) (R : Rel t σ τ) (next : ∀ (σ : SX) (τ : SM), Rel (t + 1) σ τ → G K cI cZ code 4 RL wsL_law room_1 24 1231 (wX aX cI cZ σ ++ wM aM cI cZ τ) 744 [(0, .ref b), (1, .ref (aX 0)), (2, .ref (aM 0)), (3, .int l3)] []) : G K cI cZ code 4 RL wsL_law room_1 24 1231 (wX aX cI cZ σ ++ wM aM cI cZ τ) 213 [(0, .ref b), (1, .ref (aX 0)), (2, .ref (aM 0)), (3, .int l3)] [] := by
  refine G.aload_n (pc2 := 214) (x := aX 0) dL_law_213 rfl rfl rfl ?_
  refine G.aload_n (pc2 := 215) (x := b) dL_law_214 rfl rfl rfl ?_
  refine G.iload_n (pc2 := 216) (x := l3) dL_law_215 rfl rfl rfl ?_
  refine G.iconst (pc2 := 217) (v := 1) dL_law_216 (by decide) rfl ?_
  refine G.iadd (pc2 := 218) (v := l3 + 1) dL_law_217 rfl rfl ?_
  refine G.sld (pc2 := 219) hL (scr_in e3 hiL hL2 1 (by omega)) dL_law_218 rfl ?_
  refine G.callVd (pc2 := 222) (i := 0) (j := 14) (q0 := 0) (ci := 4) (As := [.int (xs (ix (l3 + 1)))]) (rest := []) (ws2 := wX aX cI cZ (sX4_read σ (xs (ix (l3 + 1)))) ++ wM aM cI cZ τ) (st2 := [.int (vX4_read σ (xs (ix (l3 + 1))))]) (c_X4_read (cI := cI) (cZ := cZ) aX σ (xs (ix (l3 + 1))) R.qw R.hw R.fw) gL_law_X4_read rfl rfl rfl ndX4_read ⟨Nat.le_of_ble_eq_true rfl, Nat.le_of_ble_eq_true rfl⟩ ⟨Nat.le_of_ble_eq_true rfl, Nat.le_of_ble_eq_true rfl⟩ rfl rfl (Nat.le_of_ble_eq_true rfl) rfl rfl rfl rfl rfl rfl dL_law_219 rfl ?_
  generalize hv1 : vX4_read σ (xs (ix (l3 + 1))) = v1
  generalize hs1 : sX4_read σ (xs (ix (l3 + 1))) = z1
  refine G.aload_n (pc2 := 223) (x := aM 0) dL_law_222 rfl rfl rfl ?_
  refine G.aload_n (pc2 := 224) (x := b) dL_law_223 rfl rfl rfl ?_
  refine G.iload_n (pc2 := 225) (x := l3) dL_law_224 rfl rfl rfl ?_
  refine G.iconst (pc2 := 226) (v := 1) dL_law_225 (by decide) rfl ?_
  refine G.iadd (pc2 := 227) (v := l3 + 1) dL_law_226 rfl rfl ?_
  refine G.sld (pc2 := 228) hL (scr_in e3 hiL hL2 1 (by omega)) dL_law_227 rfl ?_
  refine G.callVd (pc2 := 231) (i := 14) (j := 24) (q0 := 14) (ci := 5) (As := [.int (xs (ix (l3 + 1)))]) (rest := [.int v1]) (ws2 := wX aX cI cZ z1 ++ wM aM cI cZ (sX5_read τ (xs (ix (l3 + 1))))) (st2 := [.int (vX5_read τ (xs (ix (l3 + 1)))), .int v1]) (c_X5_read (cI := cI) (cZ := cZ) aM τ (xs (ix (l3 + 1))) R.qwM R.hwM) gL_law_X5_read rfl rfl rfl ndX5_read ⟨Nat.le_of_ble_eq_true rfl, Nat.le_of_ble_eq_true rfl⟩ ⟨Nat.le_of_ble_eq_true rfl, Nat.le_of_ble_eq_true rfl⟩ rfl rfl (Nat.le_of_ble_eq_true rfl) rfl rfl rfl rfl rfl rfl dL_law_228 rfl ?_
  generalize hv2 : vX5_read τ (xs (ix (l3 + 1))) = v2
  generalize hs2 : sX5_read τ (xs (ix (l3 + 1))) = z2
  refine G.icmp_eq (pc2 := 234) (tgt := 744) dL_law_231 rfl rfl (fun _ => ?_) (fun c9 => ?_)
  · subst hv1 hv2 hs1 hs2
    exact next _ _ (op_read ht R (xs (ix (l3 + 1)))).2
  · subst hv1 hv2 hs1 hs2
    exact absurd (op_read ht R (xs (ix (l3 + 1)))).1 c9
set_option maxRecDepth 100000 in
set_option maxHeartbeats 4000000 in
theorem law_write {K : Cx} {cI cZ : ClassId} {b L : Nat} {xs : Nat → Int32} {aX aM : Nat → Nat} {σ : SX} {τ : SM} {t i : Nat} {l3 : Int32} (hL : LawOK K b L xs) (e3 : l3 = nI i) (hiL : i + 5 ≤ L) (hL2 : L ≤ 2560) (ht : t < 1073741824) (R : Rel t σ τ) (next : ∀ (σ : SX) (τ : SM), Rel (t + 1) σ τ → G K cI cZ code 4 RL wsL_law room_1 24 1231 (wX aX cI cZ σ ++ wM aM cI cZ τ) 744 [(0, .ref b), (1, .ref (aX 0)), (2, .ref (aM 0)), (3, .int l3)] []) : G K cI cZ code 4 RL wsL_law room_1 24 1231 (wX aX cI cZ σ ++ wM aM cI cZ τ) 236 [(0, .ref b), (1, .ref (aX 0)), (2, .ref (aM 0)), (3, .int l3)] [] := by
  refine G.aload_n (pc2 := 237) (x := aX 0) dL_law_236 rfl rfl rfl ?_
  refine G.aload_n (pc2 := 238) (x := b) dL_law_237 rfl rfl rfl ?_
  refine G.iload_n (pc2 := 239) (x := l3) dL_law_238 rfl rfl rfl ?_
  refine G.iconst (pc2 := 240) (v := 1) dL_law_239 (by decide) rfl ?_
  refine G.iadd (pc2 := 241) (v := l3 + 1) dL_law_240 rfl rfl ?_
  refine G.sld (pc2 := 242) hL (scr_in e3 hiL hL2 1 (by omega)) dL_law_241 rfl ?_
  refine G.aload_n (pc2 := 243) (x := b) dL_law_242 rfl rfl rfl ?_
  refine G.iload_n (pc2 := 244) (x := l3) dL_law_243 rfl rfl rfl ?_
  refine G.iconst (pc2 := 245) (v := 2) dL_law_244 (by decide) rfl ?_
  refine G.iadd (pc2 := 246) (v := l3 + 2) dL_law_245 rfl rfl ?_
  refine G.sld (pc2 := 247) hL (scr_in e3 hiL hL2 2 (by omega)) dL_law_246 rfl ?_
  refine G.callVd (pc2 := 250) (i := 0) (j := 14) (q0 := 0) (ci := 4) (As := [.int (xs (ix (l3 + 1))), .int (xs (ix (l3 + 2)))]) (rest := []) (ws2 := wX aX cI cZ (sX4_write σ (xs (ix (l3 + 1))) (xs (ix (l3 + 2)))) ++ wM aM cI cZ τ) (st2 := [.int (vX4_write σ (xs (ix (l3 + 1))) (xs (ix (l3 + 2))))]) (c_X4_write (cI := cI) (cZ := cZ) aX σ (xs (ix (l3 + 1))) (xs (ix (l3 + 2))) R.qw R.hw R.fw) gL_law_X4_write rfl rfl rfl ndX4_write ⟨Nat.le_of_ble_eq_true rfl, Nat.le_of_ble_eq_true rfl⟩ ⟨Nat.le_of_ble_eq_true rfl, Nat.le_of_ble_eq_true rfl⟩ rfl rfl (Nat.le_of_ble_eq_true rfl) rfl rfl rfl rfl rfl rfl dL_law_247 rfl ?_
  generalize hv1 : vX4_write σ (xs (ix (l3 + 1))) (xs (ix (l3 + 2))) = v1
  generalize hs1 : sX4_write σ (xs (ix (l3 + 1))) (xs (ix (l3 + 2))) = z1
  refine G.aload_n (pc2 := 251) (x := aM 0) dL_law_250 rfl rfl rfl ?_
  refine G.aload_n (pc2 := 252) (x := b) dL_law_251 rfl rfl rfl ?_
  refine G.iload_n (pc2 := 253) (x := l3) dL_law_252 rfl rfl rfl ?_
  refine G.iconst (pc2 := 254) (v := 1) dL_law_253 (by decide) rfl ?_
  refine G.iadd (pc2 := 255) (v := l3 + 1) dL_law_254 rfl rfl ?_
  refine G.sld (pc2 := 256) hL (scr_in e3 hiL hL2 1 (by omega)) dL_law_255 rfl ?_
  refine G.aload_n (pc2 := 257) (x := b) dL_law_256 rfl rfl rfl ?_
  refine G.iload_n (pc2 := 258) (x := l3) dL_law_257 rfl rfl rfl ?_
  refine G.iconst (pc2 := 259) (v := 2) dL_law_258 (by decide) rfl ?_
  refine G.iadd (pc2 := 260) (v := l3 + 2) dL_law_259 rfl rfl ?_
  refine G.sld (pc2 := 261) hL (scr_in e3 hiL hL2 2 (by omega)) dL_law_260 rfl ?_
  refine G.callVd (pc2 := 264) (i := 14) (j := 24) (q0 := 14) (ci := 5) (As := [.int (xs (ix (l3 + 1))), .int (xs (ix (l3 + 2)))]) (rest := [.int v1]) (ws2 := wX aX cI cZ z1 ++ wM aM cI cZ (sX5_write τ (xs (ix (l3 + 1))) (xs (ix (l3 + 2))))) (st2 := [.int (vX5_write τ (xs (ix (l3 + 1))) (xs (ix (l3 + 2)))), .int v1]) (c_X5_write (cI := cI) (cZ := cZ) aM τ (xs (ix (l3 + 1))) (xs (ix (l3 + 2))) R.qwM R.hwM) gL_law_X5_write rfl rfl rfl ndX5_write ⟨Nat.le_of_ble_eq_true rfl, Nat.le_of_ble_eq_true rfl⟩ ⟨Nat.le_of_ble_eq_true rfl, Nat.le_of_ble_eq_true rfl⟩ rfl rfl (Nat.le_of_ble_eq_true rfl) rfl rfl rfl rfl rfl rfl dL_law_261 rfl ?_
  generalize hv2 : vX5_write τ (xs (ix (l3 + 1))) (xs (ix (l3 + 2))) = v2
  generalize hs2 : sX5_write τ (xs (ix (l3 + 1))) (xs (ix (l3 + 2))) = z2
  refine G.icmp_eq (pc2 := 267) (tgt := 744) dL_law_264 rfl rfl (fun _ => ?_) (fun c9 => ?_)
  · subst hv1 hv2 hs1 hs2
    exact next _ _ (op_write ht R (xs (ix (l3 + 1))) (xs (ix (l3 + 2)))).2
  · subst hv1 hv2 hs1 hs2
    exact absurd (op_write ht R (xs (ix (l3 + 1))) (xs (ix (l3 + 2)))).1 c9
set_option maxRecDepth 100000 in
set_option maxHeartbeats 4000000 in
theorem law_pin {K : Cx} {cI cZ : ClassId} {b L : Nat} {xs : Nat → Int32} {aX aM : Nat → Nat} {σ : SX} {τ : SM} {t i : Nat} {l3 : Int32} (hL : LawOK K b L xs) (e3 : l3 = nI i) (hiL : i + 5 ≤ L) (hL2 : L ≤ 2560) (ht : t < 1073741824) (R : Rel t σ τ) (next : ∀ (σ : SX) (τ : SM), Rel (t + 1) σ τ → G K cI cZ code 4 RL wsL_law room_1 24 1231 (wX aX cI cZ σ ++ wM aM cI cZ τ) 744 [(0, .ref b), (1, .ref (aX 0)), (2, .ref (aM 0)), (3, .int l3)] []) : G K cI cZ code 4 RL wsL_law room_1 24 1231 (wX aX cI cZ σ ++ wM aM cI cZ τ) 269 [(0, .ref b), (1, .ref (aX 0)), (2, .ref (aM 0)), (3, .int l3)] [] := by
  refine G.aload_n (pc2 := 270) (x := aX 0) dL_law_269 rfl rfl rfl ?_
  refine G.aload_n (pc2 := 271) (x := b) dL_law_270 rfl rfl rfl ?_
  refine G.iload_n (pc2 := 272) (x := l3) dL_law_271 rfl rfl rfl ?_
  refine G.iconst (pc2 := 273) (v := 1) dL_law_272 (by decide) rfl ?_
  refine G.iadd (pc2 := 274) (v := l3 + 1) dL_law_273 rfl rfl ?_
  refine G.sld (pc2 := 275) hL (scr_in e3 hiL hL2 1 (by omega)) dL_law_274 rfl ?_
  refine G.callVd (pc2 := 278) (i := 0) (j := 14) (q0 := 0) (ci := 4) (As := [.int (xs (ix (l3 + 1)))]) (rest := []) (ws2 := wX aX cI cZ (sX4_pin σ (xs (ix (l3 + 1)))) ++ wM aM cI cZ τ) (st2 := [.int (vX4_pin σ (xs (ix (l3 + 1))))]) (c_X4_pin (cI := cI) (cZ := cZ) aX σ (xs (ix (l3 + 1))) R.qw R.hw R.fw) gL_law_X4_pin rfl rfl rfl ndX4_pin ⟨Nat.le_of_ble_eq_true rfl, Nat.le_of_ble_eq_true rfl⟩ ⟨Nat.le_of_ble_eq_true rfl, Nat.le_of_ble_eq_true rfl⟩ rfl rfl (Nat.le_of_ble_eq_true rfl) rfl rfl rfl rfl rfl rfl dL_law_275 rfl ?_
  generalize hv1 : vX4_pin σ (xs (ix (l3 + 1))) = v1
  generalize hs1 : sX4_pin σ (xs (ix (l3 + 1))) = z1
  refine G.aload_n (pc2 := 279) (x := aM 0) dL_law_278 rfl rfl rfl ?_
  refine G.aload_n (pc2 := 280) (x := b) dL_law_279 rfl rfl rfl ?_
  refine G.iload_n (pc2 := 281) (x := l3) dL_law_280 rfl rfl rfl ?_
  refine G.iconst (pc2 := 282) (v := 1) dL_law_281 (by decide) rfl ?_
  refine G.iadd (pc2 := 283) (v := l3 + 1) dL_law_282 rfl rfl ?_
  refine G.sld (pc2 := 284) hL (scr_in e3 hiL hL2 1 (by omega)) dL_law_283 rfl ?_
  refine G.callVd (pc2 := 287) (i := 14) (j := 24) (q0 := 14) (ci := 5) (As := [.int (xs (ix (l3 + 1)))]) (rest := [.int v1]) (ws2 := wX aX cI cZ z1 ++ wM aM cI cZ (sX5_pin τ (xs (ix (l3 + 1))))) (st2 := [.int (vX5_pin τ (xs (ix (l3 + 1)))), .int v1]) (c_X5_pin (cI := cI) (cZ := cZ) aM τ (xs (ix (l3 + 1))) R.qwM R.hwM) gL_law_X5_pin rfl rfl rfl ndX5_pin ⟨Nat.le_of_ble_eq_true rfl, Nat.le_of_ble_eq_true rfl⟩ ⟨Nat.le_of_ble_eq_true rfl, Nat.le_of_ble_eq_true rfl⟩ rfl rfl (Nat.le_of_ble_eq_true rfl) rfl rfl rfl rfl rfl rfl dL_law_284 rfl ?_
  generalize hv2 : vX5_pin τ (xs (ix (l3 + 1))) = v2
  generalize hs2 : sX5_pin τ (xs (ix (l3 + 1))) = z2
  refine G.icmp_eq (pc2 := 290) (tgt := 744) dL_law_287 rfl rfl (fun _ => ?_) (fun c9 => ?_)
  · subst hv1 hv2 hs1 hs2
    exact next _ _ (op_pin ht R (xs (ix (l3 + 1)))).2
  · subst hv1 hv2 hs1 hs2
    exact absurd (op_pin ht R (xs (ix (l3 + 1)))).1 c9
set_option maxRecDepth 100000 in
set_option maxHeartbeats 4000000 in
theorem law_unpin {K : Cx} {cI cZ : ClassId} {b L : Nat} {xs : Nat → Int32} {aX aM : Nat → Nat} {σ : SX} {τ : SM} {t i : Nat} {l3 : Int32} (hL : LawOK K b L xs) (e3 : l3 = nI i) (hiL : i + 5 ≤ L) (hL2 : L ≤ 2560) (ht : t < 1073741824) (R : Rel t σ τ) (next : ∀ (σ : SX) (τ : SM), Rel (t + 1) σ τ → G K cI cZ code 4 RL wsL_law room_1 24 1231 (wX aX cI cZ σ ++ wM aM cI cZ τ) 744 [(0, .ref b), (1, .ref (aX 0)), (2, .ref (aM 0)), (3, .int l3)] []) : G K cI cZ code 4 RL wsL_law room_1 24 1231 (wX aX cI cZ σ ++ wM aM cI cZ τ) 292 [(0, .ref b), (1, .ref (aX 0)), (2, .ref (aM 0)), (3, .int l3)] [] := by
  refine G.aload_n (pc2 := 293) (x := aX 0) dL_law_292 rfl rfl rfl ?_
  refine G.aload_n (pc2 := 294) (x := b) dL_law_293 rfl rfl rfl ?_
  refine G.iload_n (pc2 := 295) (x := l3) dL_law_294 rfl rfl rfl ?_
  refine G.iconst (pc2 := 296) (v := 1) dL_law_295 (by decide) rfl ?_
  refine G.iadd (pc2 := 297) (v := l3 + 1) dL_law_296 rfl rfl ?_
  refine G.sld (pc2 := 298) hL (scr_in e3 hiL hL2 1 (by omega)) dL_law_297 rfl ?_
  refine G.callVd (pc2 := 301) (i := 0) (j := 14) (q0 := 0) (ci := 4) (As := [.int (xs (ix (l3 + 1)))]) (rest := []) (ws2 := wX aX cI cZ (sX4_unpin σ (xs (ix (l3 + 1)))) ++ wM aM cI cZ τ) (st2 := [.int (vX4_unpin σ (xs (ix (l3 + 1))))]) (c_X4_unpin (cI := cI) (cZ := cZ) aX σ (xs (ix (l3 + 1))) R.fw) gL_law_X4_unpin rfl rfl rfl ndX4_unpin ⟨Nat.le_of_ble_eq_true rfl, Nat.le_of_ble_eq_true rfl⟩ ⟨Nat.le_of_ble_eq_true rfl, Nat.le_of_ble_eq_true rfl⟩ rfl rfl (Nat.le_of_ble_eq_true rfl) rfl rfl rfl rfl rfl rfl dL_law_298 rfl ?_
  generalize hv1 : vX4_unpin σ (xs (ix (l3 + 1))) = v1
  generalize hs1 : sX4_unpin σ (xs (ix (l3 + 1))) = z1
  refine G.aload_n (pc2 := 302) (x := aM 0) dL_law_301 rfl rfl rfl ?_
  refine G.aload_n (pc2 := 303) (x := b) dL_law_302 rfl rfl rfl ?_
  refine G.iload_n (pc2 := 304) (x := l3) dL_law_303 rfl rfl rfl ?_
  refine G.iconst (pc2 := 305) (v := 1) dL_law_304 (by decide) rfl ?_
  refine G.iadd (pc2 := 306) (v := l3 + 1) dL_law_305 rfl rfl ?_
  refine G.sld (pc2 := 307) hL (scr_in e3 hiL hL2 1 (by omega)) dL_law_306 rfl ?_
  refine G.callVd (pc2 := 310) (i := 14) (j := 24) (q0 := 14) (ci := 5) (As := [.int (xs (ix (l3 + 1)))]) (rest := [.int v1]) (ws2 := wX aX cI cZ z1 ++ wM aM cI cZ (sX5_unpin τ (xs (ix (l3 + 1))))) (st2 := [.int (vX5_unpin τ (xs (ix (l3 + 1)))), .int v1]) (c_X5_unpin (cI := cI) (cZ := cZ) aM τ (xs (ix (l3 + 1))) ) gL_law_X5_unpin rfl rfl rfl ndX5_unpin ⟨Nat.le_of_ble_eq_true rfl, Nat.le_of_ble_eq_true rfl⟩ ⟨Nat.le_of_ble_eq_true rfl, Nat.le_of_ble_eq_true rfl⟩ rfl rfl (Nat.le_of_ble_eq_true rfl) rfl rfl rfl rfl rfl rfl dL_law_307 rfl ?_
  generalize hv2 : vX5_unpin τ (xs (ix (l3 + 1))) = v2
  generalize hs2 : sX5_unpin τ (xs (ix (l3 + 1))) = z2
  refine G.icmp_eq (pc2 := 313) (tgt := 744) dL_law_310 rfl rfl (fun _ => ?_) (fun c9 => ?_)
  · subst hv1 hv2 hs1 hs2
    exact next _ _ (op_unpin R (xs (ix (l3 + 1)))).2
  · subst hv1 hv2 hs1 hs2
    exact absurd (op_unpin R (xs (ix (l3 + 1)))).1 c9
set_option maxRecDepth 100000 in
set_option maxHeartbeats 4000000 in
theorem law_flush {K : Cx} {cI cZ : ClassId} {b L : Nat} {xs : Nat → Int32} {aX aM : Nat → Nat} {σ : SX} {τ : SM} {t i : Nat} {l3 : Int32} (hL : LawOK K b L xs) (e3 : l3 = nI i) (hiL : i + 5 ≤ L) (hL2 : L ≤ 2560) (ht : t < 1073741824) (R : Rel t σ τ) (next : ∀ (σ : SX) (τ : SM), Rel (t + 1) σ τ → G K cI cZ code 4 RL wsL_law room_1 24 1231 (wX aX cI cZ σ ++ wM aM cI cZ τ) 744 [(0, .ref b), (1, .ref (aX 0)), (2, .ref (aM 0)), (3, .int l3)] []) : G K cI cZ code 4 RL wsL_law room_1 24 1231 (wX aX cI cZ σ ++ wM aM cI cZ τ) 315 [(0, .ref b), (1, .ref (aX 0)), (2, .ref (aM 0)), (3, .int l3)] [] := by
  refine G.aload_n (pc2 := 316) (x := aX 0) dL_law_315 rfl rfl rfl ?_
  refine G.aload_n (pc2 := 317) (x := b) dL_law_316 rfl rfl rfl ?_
  refine G.iload_n (pc2 := 318) (x := l3) dL_law_317 rfl rfl rfl ?_
  refine G.iconst (pc2 := 319) (v := 1) dL_law_318 (by decide) rfl ?_
  refine G.iadd (pc2 := 320) (v := l3 + 1) dL_law_319 rfl rfl ?_
  refine G.sld (pc2 := 321) hL (scr_in e3 hiL hL2 1 (by omega)) dL_law_320 rfl ?_
  refine G.callVd (pc2 := 324) (i := 0) (j := 14) (q0 := 0) (ci := 4) (As := [.int (xs (ix (l3 + 1)))]) (rest := []) (ws2 := wX aX cI cZ (sX4_flush σ (xs (ix (l3 + 1)))) ++ wM aM cI cZ τ) (st2 := [.int (vX4_flush σ (xs (ix (l3 + 1))))]) (c_X4_flush (cI := cI) (cZ := cZ) aX σ (xs (ix (l3 + 1))) R.qw R.fw) gL_law_X4_flush rfl rfl rfl ndX4_flush ⟨Nat.le_of_ble_eq_true rfl, Nat.le_of_ble_eq_true rfl⟩ ⟨Nat.le_of_ble_eq_true rfl, Nat.le_of_ble_eq_true rfl⟩ rfl rfl (Nat.le_of_ble_eq_true rfl) rfl rfl rfl rfl rfl rfl dL_law_321 rfl ?_
  generalize hv1 : vX4_flush σ (xs (ix (l3 + 1))) = v1
  generalize hs1 : sX4_flush σ (xs (ix (l3 + 1))) = z1
  refine G.aload_n (pc2 := 325) (x := aM 0) dL_law_324 rfl rfl rfl ?_
  refine G.aload_n (pc2 := 326) (x := b) dL_law_325 rfl rfl rfl ?_
  refine G.iload_n (pc2 := 327) (x := l3) dL_law_326 rfl rfl rfl ?_
  refine G.iconst (pc2 := 328) (v := 1) dL_law_327 (by decide) rfl ?_
  refine G.iadd (pc2 := 329) (v := l3 + 1) dL_law_328 rfl rfl ?_
  refine G.sld (pc2 := 330) hL (scr_in e3 hiL hL2 1 (by omega)) dL_law_329 rfl ?_
  refine G.callVd (pc2 := 333) (i := 14) (j := 24) (q0 := 14) (ci := 5) (As := [.int (xs (ix (l3 + 1)))]) (rest := [.int v1]) (ws2 := wX aX cI cZ z1 ++ wM aM cI cZ (sX5_flush τ (xs (ix (l3 + 1))))) (st2 := [.int (vX5_flush τ (xs (ix (l3 + 1)))), .int v1]) (c_X5_flush (cI := cI) (cZ := cZ) aM τ (xs (ix (l3 + 1))) R.qwM) gL_law_X5_flush rfl rfl rfl ndX5_flush ⟨Nat.le_of_ble_eq_true rfl, Nat.le_of_ble_eq_true rfl⟩ ⟨Nat.le_of_ble_eq_true rfl, Nat.le_of_ble_eq_true rfl⟩ rfl rfl (Nat.le_of_ble_eq_true rfl) rfl rfl rfl rfl rfl rfl dL_law_330 rfl ?_
  generalize hv2 : vX5_flush τ (xs (ix (l3 + 1))) = v2
  generalize hs2 : sX5_flush τ (xs (ix (l3 + 1))) = z2
  refine G.icmp_eq (pc2 := 336) (tgt := 744) dL_law_333 rfl rfl (fun _ => ?_) (fun c9 => ?_)
  · subst hv1 hv2 hs1 hs2
    exact next _ _ (op_flush R (xs (ix (l3 + 1)))).2
  · subst hv1 hv2 hs1 hs2
    exact absurd (op_flush R (xs (ix (l3 + 1)))).1 c9
set_option maxRecDepth 100000 in
set_option maxHeartbeats 4000000 in
theorem law_flushAll {K : Cx} {cI cZ : ClassId} {b L : Nat} {xs : Nat → Int32} {aX aM : Nat → Nat} {σ : SX} {τ : SM} {t i : Nat} {l3 : Int32} (hL : LawOK K b L xs) (e3 : l3 = nI i) (hiL : i + 5 ≤ L) (hL2 : L ≤ 2560) (ht : t < 1073741824) (R : Rel t σ τ) (next : ∀ (σ : SX) (τ : SM), Rel (t + 1) σ τ → G K cI cZ code 4 RL wsL_law room_1 24 1231 (wX aX cI cZ σ ++ wM aM cI cZ τ) 744 [(0, .ref b), (1, .ref (aX 0)), (2, .ref (aM 0)), (3, .int l3)] []) : G K cI cZ code 4 RL wsL_law room_1 24 1231 (wX aX cI cZ σ ++ wM aM cI cZ τ) 338 [(0, .ref b), (1, .ref (aX 0)), (2, .ref (aM 0)), (3, .int l3)] [] := by
  refine G.aload_n (pc2 := 339) (x := aX 0) dL_law_338 rfl rfl rfl ?_
  refine G.callVd (pc2 := 342) (i := 0) (j := 14) (q0 := 0) (ci := 4) (As := []) (rest := []) (ws2 := wX aX cI cZ (sX4_flushAll σ) ++ wM aM cI cZ τ) (st2 := [.int (vX4_flushAll σ)]) (c_X4_flushAll (cI := cI) (cZ := cZ) aX σ R.qw R.fw) gL_law_X4_flushAll rfl rfl rfl ndX4_flushAll ⟨Nat.le_of_ble_eq_true rfl, Nat.le_of_ble_eq_true rfl⟩ ⟨Nat.le_of_ble_eq_true rfl, Nat.le_of_ble_eq_true rfl⟩ rfl rfl (Nat.le_of_ble_eq_true rfl) rfl rfl rfl rfl rfl rfl dL_law_339 rfl ?_
  generalize hv1 : vX4_flushAll σ = v1
  generalize hs1 : sX4_flushAll σ = z1
  refine G.aload_n (pc2 := 343) (x := aM 0) dL_law_342 rfl rfl rfl ?_
  refine G.callVd (pc2 := 346) (i := 14) (j := 24) (q0 := 14) (ci := 5) (As := []) (rest := [.int v1]) (ws2 := wX aX cI cZ z1 ++ wM aM cI cZ (sX5_flushAll τ)) (st2 := [.int (vX5_flushAll τ), .int v1]) (c_X5_flushAll (cI := cI) (cZ := cZ) aM τ R.qwM) gL_law_X5_flushAll rfl rfl rfl ndX5_flushAll ⟨Nat.le_of_ble_eq_true rfl, Nat.le_of_ble_eq_true rfl⟩ ⟨Nat.le_of_ble_eq_true rfl, Nat.le_of_ble_eq_true rfl⟩ rfl rfl (Nat.le_of_ble_eq_true rfl) rfl rfl rfl rfl rfl rfl dL_law_343 rfl ?_
  generalize hv2 : vX5_flushAll τ = v2
  generalize hs2 : sX5_flushAll τ = z2
  refine G.icmp_eq (pc2 := 349) (tgt := 744) dL_law_346 rfl rfl (fun _ => ?_) (fun c9 => ?_)
  · subst hv1 hv2 hs1 hs2
    exact next _ _ (op_flushAll R).2
  · subst hv1 hv2 hs1 hs2
    exact absurd (op_flushAll R).1 c9
set_option maxRecDepth 100000 in
set_option maxHeartbeats 4000000 in
theorem law_drain {K : Cx} {cI cZ : ClassId} {b L : Nat} {xs : Nat → Int32} {aX aM : Nat → Nat} {σ : SX} {τ : SM} {t i : Nat} {l3 : Int32} (hL : LawOK K b L xs) (e3 : l3 = nI i) (hiL : i + 5 ≤ L) (hL2 : L ≤ 2560) (ht : t < 1073741824) (R : Rel t σ τ) (next : ∀ (σ : SX) (τ : SM), Rel (t + 1) σ τ → G K cI cZ code 4 RL wsL_law room_1 24 1231 (wX aX cI cZ σ ++ wM aM cI cZ τ) 744 [(0, .ref b), (1, .ref (aX 0)), (2, .ref (aM 0)), (3, .int l3)] []) : G K cI cZ code 4 RL wsL_law room_1 24 1231 (wX aX cI cZ σ ++ wM aM cI cZ τ) 351 [(0, .ref b), (1, .ref (aX 0)), (2, .ref (aM 0)), (3, .int l3)] [] := by
  refine G.aload_n (pc2 := 352) (x := aX 0) dL_law_351 rfl rfl rfl ?_
  refine G.aload_n (pc2 := 353) (x := b) dL_law_352 rfl rfl rfl ?_
  refine G.iload_n (pc2 := 354) (x := l3) dL_law_353 rfl rfl rfl ?_
  refine G.iconst (pc2 := 355) (v := 1) dL_law_354 (by decide) rfl ?_
  refine G.iadd (pc2 := 356) (v := l3 + 1) dL_law_355 rfl rfl ?_
  refine G.sld (pc2 := 357) hL (scr_in e3 hiL hL2 1 (by omega)) dL_law_356 rfl ?_
  refine G.callVd (pc2 := 360) (i := 0) (j := 14) (q0 := 0) (ci := 4) (As := [.int (xs (ix (l3 + 1)))]) (rest := []) (ws2 := wX aX cI cZ (sX4_drain σ (xs (ix (l3 + 1)))) ++ wM aM cI cZ τ) (st2 := [.int (vX4_drain σ (xs (ix (l3 + 1))))]) (c_X4_drain (cI := cI) (cZ := cZ) aX σ (xs (ix (l3 + 1))) R.qw) gL_law_X4_drain rfl rfl rfl ndX4_drain ⟨Nat.le_of_ble_eq_true rfl, Nat.le_of_ble_eq_true rfl⟩ ⟨Nat.le_of_ble_eq_true rfl, Nat.le_of_ble_eq_true rfl⟩ rfl rfl (Nat.le_of_ble_eq_true rfl) rfl rfl rfl rfl rfl rfl dL_law_357 rfl ?_
  generalize hv1 : vX4_drain σ (xs (ix (l3 + 1))) = v1
  generalize hs1 : sX4_drain σ (xs (ix (l3 + 1))) = z1
  refine G.aload_n (pc2 := 361) (x := aM 0) dL_law_360 rfl rfl rfl ?_
  refine G.aload_n (pc2 := 362) (x := b) dL_law_361 rfl rfl rfl ?_
  refine G.iload_n (pc2 := 363) (x := l3) dL_law_362 rfl rfl rfl ?_
  refine G.iconst (pc2 := 364) (v := 1) dL_law_363 (by decide) rfl ?_
  refine G.iadd (pc2 := 365) (v := l3 + 1) dL_law_364 rfl rfl ?_
  refine G.sld (pc2 := 366) hL (scr_in e3 hiL hL2 1 (by omega)) dL_law_365 rfl ?_
  refine G.callVd (pc2 := 369) (i := 14) (j := 24) (q0 := 14) (ci := 5) (As := [.int (xs (ix (l3 + 1)))]) (rest := [.int v1]) (ws2 := wX aX cI cZ z1 ++ wM aM cI cZ (sX5_drain τ (xs (ix (l3 + 1))))) (st2 := [.int (vX5_drain τ (xs (ix (l3 + 1)))), .int v1]) (c_X5_drain (cI := cI) (cZ := cZ) aM τ (xs (ix (l3 + 1))) R.qwM) gL_law_X5_drain rfl rfl rfl ndX5_drain ⟨Nat.le_of_ble_eq_true rfl, Nat.le_of_ble_eq_true rfl⟩ ⟨Nat.le_of_ble_eq_true rfl, Nat.le_of_ble_eq_true rfl⟩ rfl rfl (Nat.le_of_ble_eq_true rfl) rfl rfl rfl rfl rfl rfl dL_law_366 rfl ?_
  generalize hv2 : vX5_drain τ (xs (ix (l3 + 1))) = v2
  generalize hs2 : sX5_drain τ (xs (ix (l3 + 1))) = z2
  refine G.icmp_eq (pc2 := 372) (tgt := 744) dL_law_369 rfl rfl (fun _ => ?_) (fun c9 => ?_)
  · subst hv1 hv2 hs1 hs2
    exact next _ _ (op_drain R (xs (ix (l3 + 1)))).2
  · subst hv1 hv2 hs1 hs2
    exact absurd (op_drain R (xs (ix (l3 + 1)))).1 c9
set_option maxRecDepth 100000 in
set_option maxHeartbeats 4000000 in
theorem law_discard {K : Cx} {cI cZ : ClassId} {b L : Nat} {xs : Nat → Int32} {aX aM : Nat → Nat} {σ : SX} {τ : SM} {t i : Nat} {l3 : Int32} (hL : LawOK K b L xs) (e3 : l3 = nI i) (hiL : i + 5 ≤ L) (hL2 : L ≤ 2560) (ht : t < 1073741824) (R : Rel t σ τ) (next : ∀ (σ : SX) (τ : SM), Rel (t + 1) σ τ → G K cI cZ code 4 RL wsL_law room_1 24 1231 (wX aX cI cZ σ ++ wM aM cI cZ τ) 744 [(0, .ref b), (1, .ref (aX 0)), (2, .ref (aM 0)), (3, .int l3)] []) : G K cI cZ code 4 RL wsL_law room_1 24 1231 (wX aX cI cZ σ ++ wM aM cI cZ τ) 374 [(0, .ref b), (1, .ref (aX 0)), (2, .ref (aM 0)), (3, .int l3)] [] := by
  refine G.aload_n (pc2 := 375) (x := aX 0) dL_law_374 rfl rfl rfl ?_
  refine G.aload_n (pc2 := 376) (x := b) dL_law_375 rfl rfl rfl ?_
  refine G.iload_n (pc2 := 377) (x := l3) dL_law_376 rfl rfl rfl ?_
  refine G.iconst (pc2 := 378) (v := 1) dL_law_377 (by decide) rfl ?_
  refine G.iadd (pc2 := 379) (v := l3 + 1) dL_law_378 rfl rfl ?_
  refine G.sld (pc2 := 380) hL (scr_in e3 hiL hL2 1 (by omega)) dL_law_379 rfl ?_
  refine G.callVd (pc2 := 383) (i := 0) (j := 14) (q0 := 0) (ci := 4) (As := [.int (xs (ix (l3 + 1)))]) (rest := []) (ws2 := wX aX cI cZ (sX4_discard σ (xs (ix (l3 + 1)))) ++ wM aM cI cZ τ) (st2 := [.int (vX4_discard σ (xs (ix (l3 + 1))))]) (c_X4_discard (cI := cI) (cZ := cZ) aX σ (xs (ix (l3 + 1))) R.qw R.fw) gL_law_X4_discard rfl rfl rfl ndX4_discard ⟨Nat.le_of_ble_eq_true rfl, Nat.le_of_ble_eq_true rfl⟩ ⟨Nat.le_of_ble_eq_true rfl, Nat.le_of_ble_eq_true rfl⟩ rfl rfl (Nat.le_of_ble_eq_true rfl) rfl rfl rfl rfl rfl rfl dL_law_380 rfl ?_
  generalize hv1 : vX4_discard σ (xs (ix (l3 + 1))) = v1
  generalize hs1 : sX4_discard σ (xs (ix (l3 + 1))) = z1
  refine G.aload_n (pc2 := 384) (x := aM 0) dL_law_383 rfl rfl rfl ?_
  refine G.aload_n (pc2 := 385) (x := b) dL_law_384 rfl rfl rfl ?_
  refine G.iload_n (pc2 := 386) (x := l3) dL_law_385 rfl rfl rfl ?_
  refine G.iconst (pc2 := 387) (v := 1) dL_law_386 (by decide) rfl ?_
  refine G.iadd (pc2 := 388) (v := l3 + 1) dL_law_387 rfl rfl ?_
  refine G.sld (pc2 := 389) hL (scr_in e3 hiL hL2 1 (by omega)) dL_law_388 rfl ?_
  refine G.callVd (pc2 := 392) (i := 14) (j := 24) (q0 := 14) (ci := 5) (As := [.int (xs (ix (l3 + 1)))]) (rest := [.int v1]) (ws2 := wX aX cI cZ z1 ++ wM aM cI cZ (sX5_discard τ (xs (ix (l3 + 1))))) (st2 := [.int (vX5_discard τ (xs (ix (l3 + 1)))), .int v1]) (c_X5_discard (cI := cI) (cZ := cZ) aM τ (xs (ix (l3 + 1))) R.qwM) gL_law_X5_discard rfl rfl rfl ndX5_discard ⟨Nat.le_of_ble_eq_true rfl, Nat.le_of_ble_eq_true rfl⟩ ⟨Nat.le_of_ble_eq_true rfl, Nat.le_of_ble_eq_true rfl⟩ rfl rfl (Nat.le_of_ble_eq_true rfl) rfl rfl rfl rfl rfl rfl dL_law_389 rfl ?_
  generalize hv2 : vX5_discard τ (xs (ix (l3 + 1))) = v2
  generalize hs2 : sX5_discard τ (xs (ix (l3 + 1))) = z2
  refine G.icmp_eq (pc2 := 395) (tgt := 744) dL_law_392 rfl rfl (fun _ => ?_) (fun c9 => ?_)
  · subst hv1 hv2 hs1 hs2
    exact next _ _ (op_discard R (xs (ix (l3 + 1)))).2
  · subst hv1 hv2 hs1 hs2
    exact absurd (op_discard R (xs (ix (l3 + 1)))).1 c9
set_option maxRecDepth 100000 in
set_option maxHeartbeats 4000000 in
theorem law_isResident {K : Cx} {cI cZ : ClassId} {b L : Nat} {xs : Nat → Int32} {aX aM : Nat → Nat} {σ : SX} {τ : SM} {t i : Nat} {l3 : Int32} (hL : LawOK K b L xs) (e3 : l3 = nI i) (hiL : i + 5 ≤ L) (hL2 : L ≤ 2560) (ht : t < 1073741824) (R : Rel t σ τ) (next : ∀ (σ : SX) (τ : SM), Rel (t + 1) σ τ → G K cI cZ code 4 RL wsL_law room_1 24 1231 (wX aX cI cZ σ ++ wM aM cI cZ τ) 744 [(0, .ref b), (1, .ref (aX 0)), (2, .ref (aM 0)), (3, .int l3)] []) : G K cI cZ code 4 RL wsL_law room_1 24 1231 (wX aX cI cZ σ ++ wM aM cI cZ τ) 397 [(0, .ref b), (1, .ref (aX 0)), (2, .ref (aM 0)), (3, .int l3)] [] := by
  refine G.aload_n (pc2 := 398) (x := aX 0) dL_law_397 rfl rfl rfl ?_
  refine G.aload_n (pc2 := 399) (x := b) dL_law_398 rfl rfl rfl ?_
  refine G.iload_n (pc2 := 400) (x := l3) dL_law_399 rfl rfl rfl ?_
  refine G.iconst (pc2 := 401) (v := 1) dL_law_400 (by decide) rfl ?_
  refine G.iadd (pc2 := 402) (v := l3 + 1) dL_law_401 rfl rfl ?_
  refine G.sld (pc2 := 403) hL (scr_in e3 hiL hL2 1 (by omega)) dL_law_402 rfl ?_
  refine G.callVd (pc2 := 406) (i := 0) (j := 14) (q0 := 0) (ci := 4) (As := [.int (xs (ix (l3 + 1)))]) (rest := []) (ws2 := wX aX cI cZ σ ++ wM aM cI cZ τ) (st2 := [.int (vX4_isResident σ (xs (ix (l3 + 1))))]) (c_X4_isResident (cI := cI) (cZ := cZ) aX σ (xs (ix (l3 + 1))) R.fw) gL_law_X4_isResident rfl rfl rfl ndX4_isResident ⟨Nat.le_of_ble_eq_true rfl, Nat.le_of_ble_eq_true rfl⟩ ⟨Nat.le_of_ble_eq_true rfl, Nat.le_of_ble_eq_true rfl⟩ rfl rfl (Nat.le_of_ble_eq_true rfl) rfl rfl rfl rfl rfl rfl dL_law_403 rfl ?_
  generalize hv1 : vX4_isResident σ (xs (ix (l3 + 1))) = v1
  refine G.aload_n (pc2 := 407) (x := aM 0) dL_law_406 rfl rfl rfl ?_
  refine G.aload_n (pc2 := 408) (x := b) dL_law_407 rfl rfl rfl ?_
  refine G.iload_n (pc2 := 409) (x := l3) dL_law_408 rfl rfl rfl ?_
  refine G.iconst (pc2 := 410) (v := 1) dL_law_409 (by decide) rfl ?_
  refine G.iadd (pc2 := 411) (v := l3 + 1) dL_law_410 rfl rfl ?_
  refine G.sld (pc2 := 412) hL (scr_in e3 hiL hL2 1 (by omega)) dL_law_411 rfl ?_
  refine G.callVd (pc2 := 415) (i := 14) (j := 24) (q0 := 14) (ci := 5) (As := [.int (xs (ix (l3 + 1)))]) (rest := [.int v1]) (ws2 := wX aX cI cZ σ ++ wM aM cI cZ τ) (st2 := [.int (vX5_isResident τ (xs (ix (l3 + 1)))), .int v1]) (c_X5_isResident (cI := cI) (cZ := cZ) aM τ (xs (ix (l3 + 1))) ) gL_law_X5_isResident rfl rfl rfl ndX5_isResident ⟨Nat.le_of_ble_eq_true rfl, Nat.le_of_ble_eq_true rfl⟩ ⟨Nat.le_of_ble_eq_true rfl, Nat.le_of_ble_eq_true rfl⟩ rfl rfl (Nat.le_of_ble_eq_true rfl) rfl rfl rfl rfl rfl rfl dL_law_412 rfl ?_
  generalize hv2 : vX5_isResident τ (xs (ix (l3 + 1))) = v2
  refine G.icmp_eq (pc2 := 418) (tgt := 744) dL_law_415 rfl rfl (fun _ => ?_) (fun c9 => ?_)
  · subst hv1 hv2
    exact next _ _ R.step
  · subst hv1 hv2
    exact absurd (op_isResident R (xs (ix (l3 + 1)))) c9
set_option maxRecDepth 100000 in
set_option maxHeartbeats 4000000 in
theorem law_isDirty {K : Cx} {cI cZ : ClassId} {b L : Nat} {xs : Nat → Int32} {aX aM : Nat → Nat} {σ : SX} {τ : SM} {t i : Nat} {l3 : Int32} (hL : LawOK K b L xs) (e3 : l3 = nI i) (hiL : i + 5 ≤ L) (hL2 : L ≤ 2560) (ht : t < 1073741824) (R : Rel t σ τ) (next : ∀ (σ : SX) (τ : SM), Rel (t + 1) σ τ → G K cI cZ code 4 RL wsL_law room_1 24 1231 (wX aX cI cZ σ ++ wM aM cI cZ τ) 744 [(0, .ref b), (1, .ref (aX 0)), (2, .ref (aM 0)), (3, .int l3)] []) : G K cI cZ code 4 RL wsL_law room_1 24 1231 (wX aX cI cZ σ ++ wM aM cI cZ τ) 420 [(0, .ref b), (1, .ref (aX 0)), (2, .ref (aM 0)), (3, .int l3)] [] := by
  refine G.aload_n (pc2 := 421) (x := aX 0) dL_law_420 rfl rfl rfl ?_
  refine G.aload_n (pc2 := 422) (x := b) dL_law_421 rfl rfl rfl ?_
  refine G.iload_n (pc2 := 423) (x := l3) dL_law_422 rfl rfl rfl ?_
  refine G.iconst (pc2 := 424) (v := 1) dL_law_423 (by decide) rfl ?_
  refine G.iadd (pc2 := 425) (v := l3 + 1) dL_law_424 rfl rfl ?_
  refine G.sld (pc2 := 426) hL (scr_in e3 hiL hL2 1 (by omega)) dL_law_425 rfl ?_
  refine G.callVd (pc2 := 429) (i := 0) (j := 14) (q0 := 0) (ci := 4) (As := [.int (xs (ix (l3 + 1)))]) (rest := []) (ws2 := wX aX cI cZ σ ++ wM aM cI cZ τ) (st2 := [.int (vX4_isDirty σ (xs (ix (l3 + 1))))]) (c_X4_isDirty (cI := cI) (cZ := cZ) aX σ (xs (ix (l3 + 1))) R.fw) gL_law_X4_isDirty rfl rfl rfl ndX4_isDirty ⟨Nat.le_of_ble_eq_true rfl, Nat.le_of_ble_eq_true rfl⟩ ⟨Nat.le_of_ble_eq_true rfl, Nat.le_of_ble_eq_true rfl⟩ rfl rfl (Nat.le_of_ble_eq_true rfl) rfl rfl rfl rfl rfl rfl dL_law_426 rfl ?_
  generalize hv1 : vX4_isDirty σ (xs (ix (l3 + 1))) = v1
  refine G.aload_n (pc2 := 430) (x := aM 0) dL_law_429 rfl rfl rfl ?_
  refine G.aload_n (pc2 := 431) (x := b) dL_law_430 rfl rfl rfl ?_
  refine G.iload_n (pc2 := 432) (x := l3) dL_law_431 rfl rfl rfl ?_
  refine G.iconst (pc2 := 433) (v := 1) dL_law_432 (by decide) rfl ?_
  refine G.iadd (pc2 := 434) (v := l3 + 1) dL_law_433 rfl rfl ?_
  refine G.sld (pc2 := 435) hL (scr_in e3 hiL hL2 1 (by omega)) dL_law_434 rfl ?_
  refine G.callVd (pc2 := 438) (i := 14) (j := 24) (q0 := 14) (ci := 5) (As := [.int (xs (ix (l3 + 1)))]) (rest := [.int v1]) (ws2 := wX aX cI cZ σ ++ wM aM cI cZ τ) (st2 := [.int (vX5_isDirty τ (xs (ix (l3 + 1)))), .int v1]) (c_X5_isDirty (cI := cI) (cZ := cZ) aM τ (xs (ix (l3 + 1))) ) gL_law_X5_isDirty rfl rfl rfl ndX5_isDirty ⟨Nat.le_of_ble_eq_true rfl, Nat.le_of_ble_eq_true rfl⟩ ⟨Nat.le_of_ble_eq_true rfl, Nat.le_of_ble_eq_true rfl⟩ rfl rfl (Nat.le_of_ble_eq_true rfl) rfl rfl rfl rfl rfl rfl dL_law_435 rfl ?_
  generalize hv2 : vX5_isDirty τ (xs (ix (l3 + 1))) = v2
  refine G.icmp_eq (pc2 := 441) (tgt := 744) dL_law_438 rfl rfl (fun _ => ?_) (fun c9 => ?_)
  · subst hv1 hv2
    exact next _ _ R.step
  · subst hv1 hv2
    exact absurd (op_isDirty R (xs (ix (l3 + 1)))) c9
set_option maxRecDepth 100000 in
set_option maxHeartbeats 4000000 in
theorem law_pinCount {K : Cx} {cI cZ : ClassId} {b L : Nat} {xs : Nat → Int32} {aX aM : Nat → Nat} {σ : SX} {τ : SM} {t i : Nat} {l3 : Int32} (hL : LawOK K b L xs) (e3 : l3 = nI i) (hiL : i + 5 ≤ L) (hL2 : L ≤ 2560) (ht : t < 1073741824) (R : Rel t σ τ) (next : ∀ (σ : SX) (τ : SM), Rel (t + 1) σ τ → G K cI cZ code 4 RL wsL_law room_1 24 1231 (wX aX cI cZ σ ++ wM aM cI cZ τ) 744 [(0, .ref b), (1, .ref (aX 0)), (2, .ref (aM 0)), (3, .int l3)] []) : G K cI cZ code 4 RL wsL_law room_1 24 1231 (wX aX cI cZ σ ++ wM aM cI cZ τ) 443 [(0, .ref b), (1, .ref (aX 0)), (2, .ref (aM 0)), (3, .int l3)] [] := by
  refine G.aload_n (pc2 := 444) (x := aX 0) dL_law_443 rfl rfl rfl ?_
  refine G.aload_n (pc2 := 445) (x := b) dL_law_444 rfl rfl rfl ?_
  refine G.iload_n (pc2 := 446) (x := l3) dL_law_445 rfl rfl rfl ?_
  refine G.iconst (pc2 := 447) (v := 1) dL_law_446 (by decide) rfl ?_
  refine G.iadd (pc2 := 448) (v := l3 + 1) dL_law_447 rfl rfl ?_
  refine G.sld (pc2 := 449) hL (scr_in e3 hiL hL2 1 (by omega)) dL_law_448 rfl ?_
  refine G.callVd (pc2 := 452) (i := 0) (j := 14) (q0 := 0) (ci := 4) (As := [.int (xs (ix (l3 + 1)))]) (rest := []) (ws2 := wX aX cI cZ σ ++ wM aM cI cZ τ) (st2 := [.int (vX4_pinCount σ (xs (ix (l3 + 1))))]) (c_X4_pinCount (cI := cI) (cZ := cZ) aX σ (xs (ix (l3 + 1))) R.fw) gL_law_X4_pinCount rfl rfl rfl ndX4_pinCount ⟨Nat.le_of_ble_eq_true rfl, Nat.le_of_ble_eq_true rfl⟩ ⟨Nat.le_of_ble_eq_true rfl, Nat.le_of_ble_eq_true rfl⟩ rfl rfl (Nat.le_of_ble_eq_true rfl) rfl rfl rfl rfl rfl rfl dL_law_449 rfl ?_
  generalize hv1 : vX4_pinCount σ (xs (ix (l3 + 1))) = v1
  refine G.aload_n (pc2 := 453) (x := aM 0) dL_law_452 rfl rfl rfl ?_
  refine G.aload_n (pc2 := 454) (x := b) dL_law_453 rfl rfl rfl ?_
  refine G.iload_n (pc2 := 455) (x := l3) dL_law_454 rfl rfl rfl ?_
  refine G.iconst (pc2 := 456) (v := 1) dL_law_455 (by decide) rfl ?_
  refine G.iadd (pc2 := 457) (v := l3 + 1) dL_law_456 rfl rfl ?_
  refine G.sld (pc2 := 458) hL (scr_in e3 hiL hL2 1 (by omega)) dL_law_457 rfl ?_
  refine G.callVd (pc2 := 461) (i := 14) (j := 24) (q0 := 14) (ci := 5) (As := [.int (xs (ix (l3 + 1)))]) (rest := [.int v1]) (ws2 := wX aX cI cZ σ ++ wM aM cI cZ τ) (st2 := [.int (vX5_pinCount τ (xs (ix (l3 + 1)))), .int v1]) (c_X5_pinCount (cI := cI) (cZ := cZ) aM τ (xs (ix (l3 + 1))) ) gL_law_X5_pinCount rfl rfl rfl ndX5_pinCount ⟨Nat.le_of_ble_eq_true rfl, Nat.le_of_ble_eq_true rfl⟩ ⟨Nat.le_of_ble_eq_true rfl, Nat.le_of_ble_eq_true rfl⟩ rfl rfl (Nat.le_of_ble_eq_true rfl) rfl rfl rfl rfl rfl rfl dL_law_458 rfl ?_
  generalize hv2 : vX5_pinCount τ (xs (ix (l3 + 1))) = v2
  refine G.icmp_eq (pc2 := 464) (tgt := 744) dL_law_461 rfl rfl (fun _ => ?_) (fun c9 => ?_)
  · subst hv1 hv2
    exact next _ _ R.step
  · subst hv1 hv2
    exact absurd (op_pinCount R (xs (ix (l3 + 1)))) c9
