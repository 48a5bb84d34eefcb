theorem nIk1 (i : Nat) : nI i + 1 = nI (i + 1) := nI_add i 1
theorem nIk2 (i : Nat) : nI i + 2 = nI (i + 2) := nI_add i 2
theorem nIk3 (i : Nat) : nI i + 3 = nI (i + 3) := nI_add i 3
theorem nIk4 (i : Nat) : nI i + 4 = nI (i + 4) := nI_add i 4
theorem nIk5 (i : Nat) : nI i + 5 = nI (i + 5) := nI_add i 5
theorem Rel.ru {S M : St} (hR : Rel S M) (q : Int32) : inr q 2 = true → RuOK M q.toNatClampNeg := by
  intro h
  have hq : q.toNatClampNeg < 2 := inr_j (k := 2) rfl (by decide) h
  unfold RuOK
  rw [← hR.2.1 _ hq]
  rcases hR.2.2.1.1 _ hq with e1 | ⟨j, hj, e1, -⟩
  · rw [e1]; exact Or.inl (by decide)
  · rw [e1]
    have : j = 0 ∨ j = 1 ∨ j = 2 ∨ j = 3 := by omega
    rcases this with rfl | rfl | rfl | rfl <;> exact Or.inr (by decide)
abbrev LW (p : Program) (l : Launch) (e : Env) (s : State) (m : MethodId) (below : List Frame) (meth : Method) (c : Code) (b : Nat) (D : va_G) (cells slots : Nat) (w : va_W) (pc : Nat) (lv : List (Option Value)) (st : List Value) : Prop := EV p l e room_1 s m #[Value.ref b] below meth c cells slots (lw_Z below #[Value.ref b] s) 4 D clX (fun q => s.heap.size ≤ q) s.heap w pc lv st
section LAW
variable {p : Program} {l : Launch} {e : Env} {s : State} {m : MethodId} {below : List Frame} {meth : Method} {c : Code} {b L i : Nat} {xs : Nat → Int32} {D : va_G} {ad ad2 : Nat → Nat} {ca : Nat → ClassId} {S M : St}
abbrev LX (p : Program) (s : State) (m : MethodId) (c : Code) (b : Nat) (D : va_G) (ca : Nat → ClassId) : Prop := ECx p s m #[Value.ref b] c code 4 R_L TT D clX (tyX ca) (fun q => s.heap.size ≤ q) s.heap
set_option maxHeartbeats 4000000 in
set_option maxRecDepth 100000 in
theorem L_load (X : LX p s m c b D ca) (hX : va_X b L xs s s.heap) (hbl : b < s.heap.size) (hbA : ¬ (fun q => s.heap.size ≤ q) b) (hL : L < 2 ^ 31) (hi : i + 6 ≤ L) (hR : Rel S M) (K : ∀ S' M', Rel S' M' → LW p l e s m below meth c b D 55 831 (ly_w lyX 41 ad ca S' (ly_w lyM 14 ad2 ca M' [])) 689 [some (.ref b), some (.ref (ad 0)), some (.ref (ad2 0)), some (.int (nI i))] []) : LW p l e s m below meth c b D 55 831 (ly_w lyX 41 ad ca S (ly_w lyM 14 ad2 ca M [])) 124 [some (.ref b), some (.ref (ad 0)), some (.ref (ad2 0)), some (.int (nI i))] [] := by
  refine ev_aload_n X d_L_law_124 rfl ?_
  refine ev_aload_n X d_L_law_125 rfl ?_
  refine ev_iload_n X d_L_law_126 rfl ?_
  refine ev_iconst (v := 1) X d_L_law_127 (by decide) ?_
  refine ev_iadd X d_L_law_128 ?_
  refine ev_sld (j := i + 1) X hX hbl hbA (nIk1 i) (by omega) hL d_L_law_129 ?_
  refine ev_aload_n X d_L_law_130 rfl ?_
  refine ev_iload_n X d_L_law_131 rfl ?_
  refine ev_iconst (v := 2) X d_L_law_132 (by decide) ?_
  refine ev_iadd X d_L_law_133 ?_
  refine ev_sld (j := i + 2) X hX hbl hbA (nIk2 i) (by omega) hL d_L_law_134 ?_
  refine ev_cV1 X m_L_21 c_X_load lo_this rfl rfl (by decide) (by decide) d_L_law_135 rfl rfl (Nat.le_of_ble_eq_true rfl) ?_
  refine ev_toM ?_
  refine ev_aload_n X d_L_law_138 rfl ?_
  refine ev_aload_n X d_L_law_139 rfl ?_
  refine ev_iload_n X d_L_law_140 rfl ?_
  refine ev_iconst (v := 1) X d_L_law_141 (by decide) ?_
  refine ev_iadd X d_L_law_142 ?_
  refine ev_sld (j := i + 1) X hX hbl hbA (nIk1 i) (by omega) hL d_L_law_143 ?_
  refine ev_aload_n X d_L_law_144 rfl ?_
  refine ev_iload_n X d_L_law_145 rfl ?_
  refine ev_iconst (v := 2) X d_L_law_146 (by decide) ?_
  refine ev_iadd X d_L_law_147 ?_
  refine ev_sld (j := i + 2) X hX hbl hbA (nIk2 i) (by omega) hL d_L_law_148 ?_
  refine ev_cV1 X m_L_25 c_M_load lo_mod rfl rfl (by decide) (by decide) d_L_law_149 rfl rfl (Nat.le_of_ble_eq_true rfl) ?_
  refine ev_toX ?_
  refine ev_lcmp X d_L_law_152 ?_
  refine ev_if_eq (tgt := 689) X d_L_law_153 (by decide) (fun _ => K _ _ (R_load hR (xs (i + 1)) (xs (i + 2))).2) (fun h => absurd (lcmp0 (R_load hR (xs (i + 1)) (xs (i + 2))).1) h)
set_option maxHeartbeats 4000000 in
set_option maxRecDepth 100000 in
theorem L_store (X : LX p s m c b D ca) (hX : va_X b L xs s s.heap) (hbl : b < s.heap.size) (hbA : ¬ (fun q => s.heap.size ≤ q) b) (hL : L < 2 ^ 31) (hi : i + 6 ≤ L) (hR : Rel S M) (K : ∀ S' M', Rel S' M' → LW p l e s m below meth c b D 55 831 (ly_w lyX 41 ad ca S' (ly_w lyM 14 ad2 ca M' [])) 689 [some (.ref b), some (.ref (ad 0)), some (.ref (ad2 0)), some (.int (nI i))] []) : LW p l e s m below meth c b D 55 831 (ly_w lyX 41 ad ca S (ly_w lyM 14 ad2 ca M [])) 158 [some (.ref b), some (.ref (ad 0)), some (.ref (ad2 0)), some (.int (nI i))] [] := by
  refine ev_aload_n X d_L_law_158 rfl ?_
  refine ev_aload_n X d_L_law_159 rfl ?_
  refine ev_iload_n X d_L_law_160 rfl ?_
  refine ev_iconst (v := 1) X d_L_law_161 (by decide) ?_
  refine ev_iadd X d_L_law_162 ?_
  refine ev_sld (j := i + 1) X hX hbl hbA (nIk1 i) (by omega) hL d_L_law_163 ?_
  refine ev_aload_n X d_L_law_164 rfl ?_
  refine ev_iload_n X d_L_law_165 rfl ?_
  refine ev_iconst (v := 2) X d_L_law_166 (by decide) ?_
  refine ev_iadd X d_L_law_167 ?_
  refine ev_sld (j := i + 2) X hX hbl hbA (nIk2 i) (by omega) hL d_L_law_168 ?_
  refine ev_aload_n X d_L_law_169 rfl ?_
  refine ev_iload_n X d_L_law_170 rfl ?_
  refine ev_iconst (v := 3) X d_L_law_171 (by decide) ?_
  refine ev_iadd X d_L_law_172 ?_
  refine ev_sld (j := i + 3) X hX hbl hbA (nIk3 i) (by omega) hL d_L_law_173 ?_
  refine ev_cV1 X m_L_26 c_X_store lo_this rfl rfl (by decide) (by decide) d_L_law_174 rfl rfl (Nat.le_of_ble_eq_true rfl) ?_
  refine ev_toM ?_
  refine ev_aload_n X d_L_law_177 rfl ?_
  refine ev_aload_n X d_L_law_178 rfl ?_
  refine ev_iload_n X d_L_law_179 rfl ?_
  refine ev_iconst (v := 1) X d_L_law_180 (by decide) ?_
  refine ev_iadd X d_L_law_181 ?_
  refine ev_sld (j := i + 1) X hX hbl hbA (nIk1 i) (by omega) hL d_L_law_182 ?_
  refine ev_aload_n X d_L_law_183 rfl ?_
  refine ev_iload_n X d_L_law_184 rfl ?_
  refine ev_iconst (v := 2) X d_L_law_185 (by decide) ?_
  refine ev_iadd X d_L_law_186 ?_
  refine ev_sld (j := i + 2) X hX hbl hbA (nIk2 i) (by omega) hL d_L_law_187 ?_
  refine ev_aload_n X d_L_law_188 rfl ?_
  refine ev_iload_n X d_L_law_189 rfl ?_
  refine ev_iconst (v := 3) X d_L_law_190 (by decide) ?_
  refine ev_iadd X d_L_law_191 ?_
  refine ev_sld (j := i + 3) X hX hbl hbA (nIk3 i) (by omega) hL d_L_law_192 ?_
  refine ev_cV1 X m_L_30 c_M_store lo_mod rfl rfl (by decide) (by decide) d_L_law_193 rfl rfl (Nat.le_of_ble_eq_true rfl) ?_
  refine ev_toX ?_
  refine ev_icmp_eq (tgt := 689) X d_L_law_196 (by decide) (fun _ => K _ _ (R_store hR (xs (i + 1)) (xs (i + 2)) (xs (i + 3))).2) (fun h => absurd (R_store hR (xs (i + 1)) (xs (i + 2)) (xs (i + 3))).1 h)
set_option maxHeartbeats 4000000 in
set_option maxRecDepth 100000 in
theorem L_denied (X : LX p s m c b D ca) (hX : va_X b L xs s s.heap) (hbl : b < s.heap.size) (hbA : ¬ (fun q => s.heap.size ≤ q) b) (hL : L < 2 ^ 31) (hi : i + 6 ≤ L) (hR : Rel S M) (K : ∀ S' M', Rel S' M' → LW p l e s m below meth c b D 55 831 (ly_w lyX 41 ad ca S' (ly_w lyM 14 ad2 ca M' [])) 689 [some (.ref b), some (.ref (ad 0)), some (.ref (ad2 0)), some (.int (nI i))] []) : LW p l e s m below meth c b D 55 831 (ly_w lyX 41 ad ca S (ly_w lyM 14 ad2 ca M [])) 201 [some (.ref b), some (.ref (ad 0)), some (.ref (ad2 0)), some (.int (nI i))] [] := by
  refine ev_aload_n X d_L_law_201 rfl ?_
  refine ev_cV1 X m_L_31 c_X_denied lo_this rfl rfl (by decide) (by decide) d_L_law_202 rfl rfl (Nat.le_of_ble_eq_true rfl) ?_
  refine ev_toM ?_
  refine ev_aload_n X d_L_law_205 rfl ?_
  refine ev_cV1 X m_L_35 c_M_denied lo_mod rfl rfl (by decide) (by decide) d_L_law_206 rfl rfl (Nat.le_of_ble_eq_true rfl) ?_
  refine ev_toX ?_
  refine ev_icmp_eq (tgt := 689) X d_L_law_209 (by decide) (fun _ => K _ _ hR) (fun h => absurd (hR.1.2.1) h)
set_option maxHeartbeats 4000000 in
set_option maxRecDepth 100000 in
theorem L_give (X : LX p s m c b D ca) (hX : va_X b L xs s s.heap) (hbl : b < s.heap.size) (hbA : ¬ (fun q => s.heap.size ≤ q) b) (hL : L < 2 ^ 31) (hi : i + 6 ≤ L) (hR : Rel S M) (K : ∀ S' M', Rel S' M' → LW p l e s m below meth c b D 55 831 (ly_w lyX 41 ad ca S' (ly_w lyM 14 ad2 ca M' [])) 689 [some (.ref b), some (.ref (ad 0)), some (.ref (ad2 0)), some (.int (nI i))] []) : LW p l e s m below meth c b D 55 831 (ly_w lyX 41 ad ca S (ly_w lyM 14 ad2 ca M [])) 214 [some (.ref b), some (.ref (ad 0)), some (.ref (ad2 0)), some (.int (nI i))] [] := by
  refine ev_aload_n X d_L_law_214 rfl ?_
  refine ev_aload_n X d_L_law_215 rfl ?_
  refine ev_iload_n X d_L_law_216 rfl ?_
  refine ev_iconst (v := 1) X d_L_law_217 (by decide) ?_
  refine ev_iadd X d_L_law_218 ?_
  refine ev_sld (j := i + 1) X hX hbl hbA (nIk1 i) (by omega) hL d_L_law_219 ?_
  refine ev_aload_n X d_L_law_220 rfl ?_
  refine ev_iload_n X d_L_law_221 rfl ?_
  refine ev_iconst (v := 2) X d_L_law_222 (by decide) ?_
  refine ev_iadd X d_L_law_223 ?_
  refine ev_sld (j := i + 2) X hX hbl hbA (nIk2 i) (by omega) hL d_L_law_224 ?_
  refine ev_aload_n X d_L_law_225 rfl ?_
  refine ev_iload_n X d_L_law_226 rfl ?_
  refine ev_iconst (v := 3) X d_L_law_227 (by decide) ?_
  refine ev_iadd X d_L_law_228 ?_
  refine ev_sld (j := i + 3) X hX hbl hbA (nIk3 i) (by omega) hL d_L_law_229 ?_
  refine ev_cV1 X m_L_36 c_X_give lo_this rfl rfl (by decide) (by decide) d_L_law_230 rfl rfl (Nat.le_of_ble_eq_true rfl) ?_
  refine ev_toM ?_
  refine ev_aload_n X d_L_law_233 rfl ?_
  refine ev_aload_n X d_L_law_234 rfl ?_
  refine ev_iload_n X d_L_law_235 rfl ?_
  refine ev_iconst (v := 1) X d_L_law_236 (by decide) ?_
  refine ev_iadd X d_L_law_237 ?_
  refine ev_sld (j := i + 1) X hX hbl hbA (nIk1 i) (by omega) hL d_L_law_238 ?_
  refine ev_aload_n X d_L_law_239 rfl ?_
  refine ev_iload_n X d_L_law_240 rfl ?_
  refine ev_iconst (v := 2) X d_L_law_241 (by decide) ?_
  refine ev_iadd X d_L_law_242 ?_
  refine ev_sld (j := i + 2) X hX hbl hbA (nIk2 i) (by omega) hL d_L_law_243 ?_
  refine ev_aload_n X d_L_law_244 rfl ?_
  refine ev_iload_n X d_L_law_245 rfl ?_
  refine ev_iconst (v := 3) X d_L_law_246 (by decide) ?_
  refine ev_iadd X d_L_law_247 ?_
  refine ev_sld (j := i + 3) X hX hbl hbA (nIk3 i) (by omega) hL d_L_law_248 ?_
  refine ev_cV1 X m_L_40 c_M_give lo_mod rfl rfl (by decide) (by decide) d_L_law_249 rfl rfl (Nat.le_of_ble_eq_true rfl) ?_
  refine ev_toX ?_
  refine ev_icmp_eq (tgt := 689) X d_L_law_252 (by decide) (fun _ => K _ _ (R_give hR (xs (i + 1)) (xs (i + 2)) (xs (i + 3))).2) (fun h => absurd (congrArg b2i (R_give hR (xs (i + 1)) (xs (i + 2)) (xs (i + 3))).1) h)
set_option maxHeartbeats 4000000 in
set_option maxRecDepth 100000 in
theorem L_register (X : LX p s m c b D ca) (hX : va_X b L xs s s.heap) (hbl : b < s.heap.size) (hbA : ¬ (fun q => s.heap.size ≤ q) b) (hL : L < 2 ^ 31) (hi : i + 6 ≤ L) (hR : Rel S M) (K : ∀ S' M', Rel S' M' → LW p l e s m below meth c b D 55 831 (ly_w lyX 41 ad ca S' (ly_w lyM 14 ad2 ca M' [])) 689 [some (.ref b), some (.ref (ad 0)), some (.ref (ad2 0)), some (.int (nI i))] []) : LW p l e s m below meth c b D 55 831 (ly_w lyX 41 ad ca S (ly_w lyM 14 ad2 ca M [])) 257 [some (.ref b), some (.ref (ad 0)), some (.ref (ad2 0)), some (.int (nI i))] [] := by
  refine ev_aload_n X d_L_law_257 rfl ?_
  refine ev_aload_n X d_L_law_258 rfl ?_
  refine ev_iload_n X d_L_law_259 rfl ?_
  refine ev_iconst (v := 1) X d_L_law_260 (by decide) ?_
  refine ev_iadd X d_L_law_261 ?_
  refine ev_sld (j := i + 1) X hX hbl hbA (nIk1 i) (by omega) hL d_L_law_262 ?_
  refine ev_aload_n X d_L_law_263 rfl ?_
  refine ev_iload_n X d_L_law_264 rfl ?_
  refine ev_iconst (v := 2) X d_L_law_265 (by decide) ?_
  refine ev_iadd X d_L_law_266 ?_
  refine ev_sld (j := i + 2) X hX hbl hbA (nIk2 i) (by omega) hL d_L_law_267 ?_
  refine ev_cV1 X m_L_41 c_X_register lo_this rfl rfl (by decide) (by decide) d_L_law_268 rfl rfl (Nat.le_of_ble_eq_true rfl) ?_
  refine ev_toM ?_
  refine ev_aload_n X d_L_law_271 rfl ?_
  refine ev_aload_n X d_L_law_272 rfl ?_
  refine ev_iload_n X d_L_law_273 rfl ?_
  refine ev_iconst (v := 1) X d_L_law_274 (by decide) ?_
  refine ev_iadd X d_L_law_275 ?_
  refine ev_sld (j := i + 1) X hX hbl hbA (nIk1 i) (by omega) hL d_L_law_276 ?_
  refine ev_aload_n X d_L_law_277 rfl ?_
  refine ev_iload_n X d_L_law_278 rfl ?_
  refine ev_iconst (v := 2) X d_L_law_279 (by decide) ?_
  refine ev_iadd X d_L_law_280 ?_
  refine ev_sld (j := i + 2) X hX hbl hbA (nIk2 i) (by omega) hL d_L_law_281 ?_
  refine ev_cV1 X m_L_44 c_M_register lo_mod rfl rfl (by decide) (by decide) d_L_law_282 rfl rfl (Nat.le_of_ble_eq_true rfl) ?_
  refine ev_toX ?_
  refine ev_lcmp X d_L_law_285 ?_
  refine ev_if_eq (tgt := 689) X d_L_law_286 (by decide) (fun _ => K _ _ hR) (fun h => absurd (lcmp0 (R_reg hR (xs (i + 1)) (xs (i + 2)))) h)
set_option maxHeartbeats 4000000 in
set_option maxRecDepth 100000 in
theorem L_create (X : LX p s m c b D ca) (hX : va_X b L xs s s.heap) (hbl : b < s.heap.size) (hbA : ¬ (fun q => s.heap.size ≤ q) b) (hL : L < 2 ^ 31) (hi : i + 6 ≤ L) (hR : Rel S M) (K : ∀ S' M', Rel S' M' → LW p l e s m below meth c b D 55 831 (ly_w lyX 41 ad ca S' (ly_w lyM 14 ad2 ca M' [])) 689 [some (.ref b), some (.ref (ad 0)), some (.ref (ad2 0)), some (.int (nI i))] []) : LW p l e s m below meth c b D 55 831 (ly_w lyX 41 ad ca S (ly_w lyM 14 ad2 ca M [])) 291 [some (.ref b), some (.ref (ad 0)), some (.ref (ad2 0)), some (.int (nI i))] [] := by
  refine ev_aload_n X d_L_law_291 rfl ?_
  refine ev_aload_n X d_L_law_292 rfl ?_
  refine ev_iload_n X d_L_law_293 rfl ?_
  refine ev_iconst (v := 1) X d_L_law_294 (by decide) ?_
  refine ev_iadd X d_L_law_295 ?_
  refine ev_sld (j := i + 1) X hX hbl hbA (nIk1 i) (by omega) hL d_L_law_296 ?_
  refine ev_aload_n X d_L_law_297 rfl ?_
  refine ev_iload_n X d_L_law_298 rfl ?_
  refine ev_iconst (v := 2) X d_L_law_299 (by decide) ?_
  refine ev_iadd X d_L_law_300 ?_
  refine ev_sld (j := i + 2) X hX hbl hbA (nIk2 i) (by omega) hL d_L_law_301 ?_
  refine ev_aload_n X d_L_law_302 rfl ?_
  refine ev_iload_n X d_L_law_303 rfl ?_
  refine ev_iconst (v := 3) X d_L_law_304 (by decide) ?_
  refine ev_iadd X d_L_law_305 ?_
  refine ev_sld (j := i + 3) X hX hbl hbA (nIk3 i) (by omega) hL d_L_law_306 ?_
  refine ev_aload_n X d_L_law_307 rfl ?_
  refine ev_iload_n X d_L_law_308 rfl ?_
  refine ev_iconst (v := 4) X d_L_law_309 (by decide) ?_
  refine ev_iadd X d_L_law_310 ?_
  refine ev_sld (j := i + 4) X hX hbl hbA (nIk4 i) (by omega) hL d_L_law_311 ?_
  refine ev_aload_n X d_L_law_312 rfl ?_
  refine ev_iload_n X d_L_law_313 rfl ?_
  refine ev_iconst (v := 5) X d_L_law_314 (by decide) ?_
  refine ev_iadd X d_L_law_315 ?_
  refine ev_sld (j := i + 5) X hX hbl hbA (nIk5 i) (by omega) hL d_L_law_316 ?_
  refine ev_cV1 X m_L_45 (c_X_create hR.2.2.1.ok) lo_this rfl rfl (by decide) (by decide) d_L_law_317 rfl rfl (Nat.le_of_ble_eq_true rfl) ?_
  refine ev_toM ?_
  refine ev_aload_n X d_L_law_320 rfl ?_
  refine ev_aload_n X d_L_law_321 rfl ?_
  refine ev_iload_n X d_L_law_322 rfl ?_
  refine ev_iconst (v := 1) X d_L_law_323 (by decide) ?_
  refine ev_iadd X d_L_law_324 ?_
  refine ev_sld (j := i + 1) X hX hbl hbA (nIk1 i) (by omega) hL d_L_law_325 ?_
  refine ev_aload_n X d_L_law_326 rfl ?_
  refine ev_iload_n X d_L_law_327 rfl ?_
  refine ev_iconst (v := 2) X d_L_law_328 (by decide) ?_
  refine ev_iadd X d_L_law_329 ?_
  refine ev_sld (j := i + 2) X hX hbl hbA (nIk2 i) (by omega) hL d_L_law_330 ?_
  refine ev_aload_n X d_L_law_331 rfl ?_
  refine ev_iload_n X d_L_law_332 rfl ?_
  refine ev_iconst (v := 3) X d_L_law_333 (by decide) ?_
  refine ev_iadd X d_L_law_334 ?_
  refine ev_sld (j := i + 3) X hX hbl hbA (nIk3 i) (by omega) hL d_L_law_335 ?_
  refine ev_aload_n X d_L_law_336 rfl ?_
  refine ev_iload_n X d_L_law_337 rfl ?_
  refine ev_iconst (v := 4) X d_L_law_338 (by decide) ?_
  refine ev_iadd X d_L_law_339 ?_
  refine ev_sld (j := i + 4) X hX hbl hbA (nIk4 i) (by omega) hL d_L_law_340 ?_
  refine ev_aload_n X d_L_law_341 rfl ?_
  refine ev_iload_n X d_L_law_342 rfl ?_
  refine ev_iconst (v := 5) X d_L_law_343 (by decide) ?_
  refine ev_iadd X d_L_law_344 ?_
  refine ev_sld (j := i + 5) X hX hbl hbA (nIk5 i) (by omega) hL d_L_law_345 ?_
  refine ev_cV1 X m_L_49 c_M_create lo_mod rfl rfl (by decide) (by decide) d_L_law_346 rfl rfl (Nat.le_of_ble_eq_true rfl) ?_
  refine ev_toX ?_
  refine ev_icmp_eq (tgt := 689) X d_L_law_349 (by decide) (fun _ => K _ _ (R_create hR (xs (i + 1)) (xs (i + 2)) (xs (i + 3)) (xs (i + 4)) (xs (i + 5))).2) (fun h => absurd (R_create hR (xs (i + 1)) (xs (i + 2)) (xs (i + 3)) (xs (i + 4)) (xs (i + 5))).1 h)
set_option maxHeartbeats 4000000 in
set_option maxRecDepth 100000 in
theorem L_run (X : LX p s m c b D ca) (hX : va_X b L xs s s.heap) (hbl : b < s.heap.size) (hbA : ¬ (fun q => s.heap.size ≤ q) b) (hL : L < 2 ^ 31) (hi : i + 6 ≤ L) (hR : Rel S M) (K : ∀ S' M', Rel S' M' → LW p l e s m below meth c b D 55 831 (ly_w lyX 41 ad ca S' (ly_w lyM 14 ad2 ca M' [])) 689 [some (.ref b), some (.ref (ad 0)), some (.ref (ad2 0)), some (.int (nI i))] []) : LW p l e s m below meth c b D 55 831 (ly_w lyX 41 ad ca S (ly_w lyM 14 ad2 ca M [])) 354 [some (.ref b), some (.ref (ad 0)), some (.ref (ad2 0)), some (.int (nI i))] [] := by
  refine ev_aload_n X d_L_law_354 rfl ?_
  refine ev_aload_n X d_L_law_355 rfl ?_
  refine ev_iload_n X d_L_law_356 rfl ?_
  refine ev_iconst (v := 1) X d_L_law_357 (by decide) ?_
  refine ev_iadd X d_L_law_358 ?_
  refine ev_sld (j := i + 1) X hX hbl hbA (nIk1 i) (by omega) hL d_L_law_359 ?_
  refine ev_aload_n X d_L_law_360 rfl ?_
  refine ev_iload_n X d_L_law_361 rfl ?_
  refine ev_iconst (v := 2) X d_L_law_362 (by decide) ?_
  refine ev_iadd X d_L_law_363 ?_
  refine ev_sld (j := i + 2) X hX hbl hbA (nIk2 i) (by omega) hL d_L_law_364 ?_
  refine ev_aload_n X d_L_law_365 rfl ?_
  refine ev_iload_n X d_L_law_366 rfl ?_
  refine ev_iconst (v := 3) X d_L_law_367 (by decide) ?_
  refine ev_iadd X d_L_law_368 ?_
  refine ev_sld (j := i + 3) X hX hbl hbA (nIk3 i) (by omega) hL d_L_law_369 ?_
  refine ev_cV1 X m_L_50 c_X_run lo_this rfl rfl (by decide) (by decide) d_L_law_370 rfl rfl (Nat.le_of_ble_eq_true rfl) ?_
  refine ev_toM ?_
  refine ev_aload_n X d_L_law_373 rfl ?_
  refine ev_aload_n X d_L_law_374 rfl ?_
  refine ev_iload_n X d_L_law_375 rfl ?_
  refine ev_iconst (v := 1) X d_L_law_376 (by decide) ?_
  refine ev_iadd X d_L_law_377 ?_
  refine ev_sld (j := i + 1) X hX hbl hbA (nIk1 i) (by omega) hL d_L_law_378 ?_
  refine ev_aload_n X d_L_law_379 rfl ?_
  refine ev_iload_n X d_L_law_380 rfl ?_
  refine ev_iconst (v := 2) X d_L_law_381 (by decide) ?_
  refine ev_iadd X d_L_law_382 ?_
  refine ev_sld (j := i + 2) X hX hbl hbA (nIk2 i) (by omega) hL d_L_law_383 ?_
  refine ev_aload_n X d_L_law_384 rfl ?_
  refine ev_iload_n X d_L_law_385 rfl ?_
  refine ev_iconst (v := 3) X d_L_law_386 (by decide) ?_
  refine ev_iadd X d_L_law_387 ?_
  refine ev_sld (j := i + 3) X hX hbl hbA (nIk3 i) (by omega) hL d_L_law_388 ?_
  refine ev_cV1 X m_L_53 c_M_run lo_mod rfl rfl (by decide) (by decide) d_L_law_389 rfl rfl (Nat.le_of_ble_eq_true rfl) ?_
  refine ev_toX ?_
  refine ev_icmp_eq (tgt := 689) X d_L_law_392 (by decide) (fun _ => K _ _ (R_Run hR (xs (i + 1)) (xs (i + 2)) (xs (i + 3))).2) (fun h => absurd (R_Run hR (xs (i + 1)) (xs (i + 2)) (xs (i + 3))).1 h)
set_option maxHeartbeats 4000000 in
set_option maxRecDepth 100000 in
theorem L_step (X : LX p s m c b D ca) (hX : va_X b L xs s s.heap) (hbl : b < s.heap.size) (hbA : ¬ (fun q => s.heap.size ≤ q) b) (hL : L < 2 ^ 31) (hi : i + 6 ≤ L) (hR : Rel S M) (K : ∀ S' M', Rel S' M' → LW p l e s m below meth c b D 55 831 (ly_w lyX 41 ad ca S' (ly_w lyM 14 ad2 ca M' [])) 689 [some (.ref b), some (.ref (ad 0)), some (.ref (ad2 0)), some (.int (nI i))] []) : LW p l e s m below meth c b D 55 831 (ly_w lyX 41 ad ca S (ly_w lyM 14 ad2 ca M [])) 397 [some (.ref b), some (.ref (ad 0)), some (.ref (ad2 0)), some (.int (nI i))] [] := by
  refine ev_aload_n X d_L_law_397 rfl ?_
  refine ev_aload_n X d_L_law_398 rfl ?_
  refine ev_iload_n X d_L_law_399 rfl ?_
  refine ev_iconst (v := 1) X d_L_law_400 (by decide) ?_
  refine ev_iadd X d_L_law_401 ?_
  refine ev_sld (j := i + 1) X hX hbl hbA (nIk1 i) (by omega) hL d_L_law_402 ?_
  refine ev_aload_n X d_L_law_403 rfl ?_
  refine ev_iload_n X d_L_law_404 rfl ?_
  refine ev_iconst (v := 2) X d_L_law_405 (by decide) ?_
  refine ev_iadd X d_L_law_406 ?_
  refine ev_sld (j := i + 2) X hX hbl hbA (nIk2 i) (by omega) hL d_L_law_407 ?_
  refine ev_cV1 X m_L_54 (c_X_step hR.2.2.1.ok) lo_this rfl rfl (by decide) (by decide) d_L_law_408 rfl rfl (Nat.le_of_ble_eq_true rfl) ?_
  refine ev_toM ?_
  refine ev_aload_n X d_L_law_411 rfl ?_
  refine ev_aload_n X d_L_law_412 rfl ?_
  refine ev_iload_n X d_L_law_413 rfl ?_
  refine ev_iconst (v := 1) X d_L_law_414 (by decide) ?_
  refine ev_iadd X d_L_law_415 ?_
  refine ev_sld (j := i + 1) X hX hbl hbA (nIk1 i) (by omega) hL d_L_law_416 ?_
  refine ev_aload_n X d_L_law_417 rfl ?_
  refine ev_iload_n X d_L_law_418 rfl ?_
  refine ev_iconst (v := 2) X d_L_law_419 (by decide) ?_
  refine ev_iadd X d_L_law_420 ?_
  refine ev_sld (j := i + 2) X hX hbl hbA (nIk2 i) (by omega) hL d_L_law_421 ?_
  refine ev_cV1 X m_L_58 (c_M_step (hR.ru _)) lo_mod rfl rfl (by decide) (by decide) d_L_law_422 rfl rfl (Nat.le_of_ble_eq_true rfl) ?_
  refine ev_toX ?_
  refine ev_icmp_eq (tgt := 689) X d_L_law_425 (by decide) (fun _ => K _ _ (R_step hR (xs (i + 1)) (xs (i + 2))).2) (fun h => absurd (R_step hR (xs (i + 1)) (xs (i + 2))).1 h)
set_option maxHeartbeats 4000000 in
set_option maxRecDepth 100000 in
theorem L_interrupt (X : LX p s m c b D ca) (hX : va_X b L xs s s.heap) (hbl : b < s.heap.size) (hbA : ¬ (fun q => s.heap.size ≤ q) b) (hL : L < 2 ^ 31) (hi : i + 6 ≤ L) (hR : Rel S M) (K : ∀ S' M', Rel S' M' → LW p l e s m below meth c b D 55 831 (ly_w lyX 41 ad ca S' (ly_w lyM 14 ad2 ca M' [])) 689 [some (.ref b), some (.ref (ad 0)), some (.ref (ad2 0)), some (.int (nI i))] []) : LW p l e s m below meth c b D 55 831 (ly_w lyX 41 ad ca S (ly_w lyM 14 ad2 ca M [])) 430 [some (.ref b), some (.ref (ad 0)), some (.ref (ad2 0)), some (.int (nI i))] [] := by
  refine ev_aload_n X d_L_law_430 rfl ?_
  refine ev_aload_n X d_L_law_431 rfl ?_
  refine ev_iload_n X d_L_law_432 rfl ?_
  refine ev_iconst (v := 1) X d_L_law_433 (by decide) ?_
  refine ev_iadd X d_L_law_434 ?_
  refine ev_sld (j := i + 1) X hX hbl hbA (nIk1 i) (by omega) hL d_L_law_435 ?_
  refine ev_cV1 X m_L_59 (c_X_interrupt hR.2.2.1.ok) lo_this rfl rfl (by decide) (by decide) d_L_law_436 rfl rfl (Nat.le_of_ble_eq_true rfl) ?_
  refine ev_toM ?_
  refine ev_aload_n X d_L_law_439 rfl ?_
  refine ev_aload_n X d_L_law_440 rfl ?_
  refine ev_iload_n X d_L_law_441 rfl ?_
  refine ev_iconst (v := 1) X d_L_law_442 (by decide) ?_
  refine ev_iadd X d_L_law_443 ?_
  refine ev_sld (j := i + 1) X hX hbl hbA (nIk1 i) (by omega) hL d_L_law_444 ?_
  refine ev_cV1 X m_L_63 (c_M_interrupt (hR.ru _)) lo_mod rfl rfl (by decide) (by decide) d_L_law_445 rfl rfl (Nat.le_of_ble_eq_true rfl) ?_
  refine ev_toX ?_
  refine ev_icmp_eq (tgt := 689) X d_L_law_448 (by decide) (fun _ => K _ _ (R_int hR (xs (i + 1))).2) (fun h => absurd (R_int hR (xs (i + 1))).1 h)
set_option maxHeartbeats 4000000 in
set_option maxRecDepth 100000 in
theorem L_destroy (X : LX p s m c b D ca) (hX : va_X b L xs s s.heap) (hbl : b < s.heap.size) (hbA : ¬ (fun q => s.heap.size ≤ q) b) (hL : L < 2 ^ 31) (hi : i + 6 ≤ L) (hR : Rel S M) (K : ∀ S' M', Rel S' M' → LW p l e s m below meth c b D 55 831 (ly_w lyX 41 ad ca S' (ly_w lyM 14 ad2 ca M' [])) 689 [some (.ref b), some (.ref (ad 0)), some (.ref (ad2 0)), some (.int (nI i))] []) : LW p l e s m below meth c b D 55 831 (ly_w lyX 41 ad ca S (ly_w lyM 14 ad2 ca M [])) 453 [some (.ref b), some (.ref (ad 0)), some (.ref (ad2 0)), some (.int (nI i))] [] := by
  refine ev_aload_n X d_L_law_453 rfl ?_
  refine ev_aload_n X d_L_law_454 rfl ?_
  refine ev_iload_n X d_L_law_455 rfl ?_
  refine ev_iconst (v := 1) X d_L_law_456 (by decide) ?_
  refine ev_iadd X d_L_law_457 ?_
  refine ev_sld (j := i + 1) X hX hbl hbA (nIk1 i) (by omega) hL d_L_law_458 ?_
  refine ev_aload_n X d_L_law_459 rfl ?_
  refine ev_iload_n X d_L_law_460 rfl ?_
  refine ev_iconst (v := 2) X d_L_law_461 (by decide) ?_
  refine ev_iadd X d_L_law_462 ?_
  refine ev_sld (j := i + 2) X hX hbl hbA (nIk2 i) (by omega) hL d_L_law_463 ?_
  refine ev_cV1 X m_L_64 (c_X_destroy hR.2.2.1.ok hR.2.2.2.1.ok) lo_this rfl rfl (by decide) (by decide) d_L_law_464 rfl rfl (Nat.le_of_ble_eq_true rfl) ?_
  refine ev_toM ?_
  refine ev_aload_n X d_L_law_467 rfl ?_
  refine ev_aload_n X d_L_law_468 rfl ?_
  refine ev_iload_n X d_L_law_469 rfl ?_
  refine ev_iconst (v := 1) X d_L_law_470 (by decide) ?_
  refine ev_iadd X d_L_law_471 ?_
  refine ev_sld (j := i + 1) X hX hbl hbA (nIk1 i) (by omega) hL d_L_law_472 ?_
  refine ev_aload_n X d_L_law_473 rfl ?_
  refine ev_iload_n X d_L_law_474 rfl ?_
  refine ev_iconst (v := 2) X d_L_law_475 (by decide) ?_
  refine ev_iadd X d_L_law_476 ?_
  refine ev_sld (j := i + 2) X hX hbl hbA (nIk2 i) (by omega) hL d_L_law_477 ?_
  refine ev_cV1 X m_L_67 c_M_destroy lo_mod rfl rfl (by decide) (by decide) d_L_law_478 rfl rfl (Nat.le_of_ble_eq_true rfl) ?_
  refine ev_toX ?_
  refine ev_icmp_eq (tgt := 689) X d_L_law_481 (by decide) (fun _ => K _ _ (R_des hR (xs (i + 1)) (xs (i + 2))).2) (fun h => absurd (R_des hR (xs (i + 1)) (xs (i + 2))).1 h)
set_option maxHeartbeats 4000000 in
set_option maxRecDepth 100000 in
theorem L_state (X : LX p s m c b D ca) (hX : va_X b L xs s s.heap) (hbl : b < s.heap.size) (hbA : ¬ (fun q => s.heap.size ≤ q) b) (hL : L < 2 ^ 31) (hi : i + 6 ≤ L) (hR : Rel S M) (K : ∀ S' M', Rel S' M' → LW p l e s m below meth c b D 55 831 (ly_w lyX 41 ad ca S' (ly_w lyM 14 ad2 ca M' [])) 689 [some (.ref b), some (.ref (ad 0)), some (.ref (ad2 0)), some (.int (nI i))] []) : LW p l e s m below meth c b D 55 831 (ly_w lyX 41 ad ca S (ly_w lyM 14 ad2 ca M [])) 486 [some (.ref b), some (.ref (ad 0)), some (.ref (ad2 0)), some (.int (nI i))] [] := by
  refine ev_aload_n X d_L_law_486 rfl ?_
  refine ev_aload_n X d_L_law_487 rfl ?_
  refine ev_iload_n X d_L_law_488 rfl ?_
  refine ev_iconst (v := 1) X d_L_law_489 (by decide) ?_
  refine ev_iadd X d_L_law_490 ?_
  refine ev_sld (j := i + 1) X hX hbl hbA (nIk1 i) (by omega) hL d_L_law_491 ?_
  refine ev_cV1 X m_L_68 c_X_state lo_this rfl rfl (by decide) (by decide) d_L_law_492 rfl rfl (Nat.le_of_ble_eq_true rfl) ?_
  refine ev_toM ?_
  refine ev_aload_n X d_L_law_495 rfl ?_
  refine ev_aload_n X d_L_law_496 rfl ?_
  refine ev_iload_n X d_L_law_497 rfl ?_
  refine ev_iconst (v := 1) X d_L_law_498 (by decide) ?_
  refine ev_iadd X d_L_law_499 ?_
  refine ev_sld (j := i + 1) X hX hbl hbA (nIk1 i) (by omega) hL d_L_law_500 ?_
  refine ev_cV1 X m_L_71 c_M_state lo_mod rfl rfl (by decide) (by decide) d_L_law_501 rfl rfl (Nat.le_of_ble_eq_true rfl) ?_
  refine ev_toX ?_
  refine ev_icmp_eq (tgt := 689) X d_L_law_504 (by decide) (fun _ => K _ _ hR) (fun h => absurd (R_state hR (xs (i + 1))) h)
set_option maxHeartbeats 4000000 in
set_option maxRecDepth 100000 in
theorem L_released (X : LX p s m c b D ca) (hX : va_X b L xs s s.heap) (hbl : b < s.heap.size) (hbA : ¬ (fun q => s.heap.size ≤ q) b) (hL : L < 2 ^ 31) (hi : i + 6 ≤ L) (hR : Rel S M) (K : ∀ S' M', Rel S' M' → LW p l e s m below meth c b D 55 831 (ly_w lyX 41 ad ca S' (ly_w lyM 14 ad2 ca M' [])) 689 [some (.ref b), some (.ref (ad 0)), some (.ref (ad2 0)), some (.int (nI i))] []) : LW p l e s m below meth c b D 55 831 (ly_w lyX 41 ad ca S (ly_w lyM 14 ad2 ca M [])) 509 [some (.ref b), some (.ref (ad 0)), some (.ref (ad2 0)), some (.int (nI i))] [] := by
  refine ev_aload_n X d_L_law_509 rfl ?_
  refine ev_aload_n X d_L_law_510 rfl ?_
  refine ev_iload_n X d_L_law_511 rfl ?_
  refine ev_iconst (v := 1) X d_L_law_512 (by decide) ?_
  refine ev_iadd X d_L_law_513 ?_
  refine ev_sld (j := i + 1) X hX hbl hbA (nIk1 i) (by omega) hL d_L_law_514 ?_
  refine ev_cV1 X m_L_72 c_X_released lo_this rfl rfl (by decide) (by decide) d_L_law_515 rfl rfl (Nat.le_of_ble_eq_true rfl) ?_
  refine ev_toM ?_
  refine ev_aload_n X d_L_law_518 rfl ?_
  refine ev_aload_n X d_L_law_519 rfl ?_
  refine ev_iload_n X d_L_law_520 rfl ?_
  refine ev_iconst (v := 1) X d_L_law_521 (by decide) ?_
  refine ev_iadd X d_L_law_522 ?_
  refine ev_sld (j := i + 1) X hX hbl hbA (nIk1 i) (by omega) hL d_L_law_523 ?_
  refine ev_cV1 X m_L_76 c_M_released lo_mod rfl rfl (by decide) (by decide) d_L_law_524 rfl rfl (Nat.le_of_ble_eq_true rfl) ?_
  refine ev_toX ?_
  refine ev_lcmp X d_L_law_527 ?_
  refine ev_if_eq (tgt := 689) X d_L_law_528 (by decide) (fun _ => K _ _ hR) (fun h => absurd (lcmp0 (R_rel hR (xs (i + 1)))) h)
set_option maxHeartbeats 4000000 in
set_option maxRecDepth 100000 in
theorem L_measurement (X : LX p s m c b D ca) (hX : va_X b L xs s s.heap) (hbl : b < s.heap.size) (hbA : ¬ (fun q => s.heap.size ≤ q) b) (hL : L < 2 ^ 31) (hi : i + 6 ≤ L) (hR : Rel S M) (K : ∀ S' M', Rel S' M' → LW p l e s m below meth c b D 55 831 (ly_w lyX 41 ad ca S' (ly_w lyM 14 ad2 ca M' [])) 689 [some (.ref b), some (.ref (ad 0)), some (.ref (ad2 0)), some (.int (nI i))] []) : LW p l e s m below meth c b D 55 831 (ly_w lyX 41 ad ca S (ly_w lyM 14 ad2 ca M [])) 533 [some (.ref b), some (.ref (ad 0)), some (.ref (ad2 0)), some (.int (nI i))] [] := by
  refine ev_aload_n X d_L_law_533 rfl ?_
  refine ev_aload_n X d_L_law_534 rfl ?_
  refine ev_iload_n X d_L_law_535 rfl ?_
  refine ev_iconst (v := 1) X d_L_law_536 (by decide) ?_
  refine ev_iadd X d_L_law_537 ?_
  refine ev_sld (j := i + 1) X hX hbl hbA (nIk1 i) (by omega) hL d_L_law_538 ?_
  refine ev_cV1 X m_L_77 c_X_measurement lo_this rfl rfl (by decide) (by decide) d_L_law_539 rfl rfl (Nat.le_of_ble_eq_true rfl) ?_
  refine ev_toM ?_
  refine ev_aload_n X d_L_law_542 rfl ?_
  refine ev_aload_n X d_L_law_543 rfl ?_
  refine ev_iload_n X d_L_law_544 rfl ?_
  refine ev_iconst (v := 1) X d_L_law_545 (by decide) ?_
  refine ev_iadd X d_L_law_546 ?_
  refine ev_sld (j := i + 1) X hX hbl hbA (nIk1 i) (by omega) hL d_L_law_547 ?_
  refine ev_cV1 X m_L_80 c_M_measurement lo_mod rfl rfl (by decide) (by decide) d_L_law_548 rfl rfl (Nat.le_of_ble_eq_true rfl) ?_
  refine ev_toX ?_
  refine ev_lcmp X d_L_law_551 ?_
  refine ev_if_eq (tgt := 689) X d_L_law_552 (by decide) (fun _ => K _ _ hR) (fun h => absurd (lcmp0 (R_mea hR (xs (i + 1)))) h)
set_option maxHeartbeats 4000000 in
set_option maxRecDepth 100000 in
theorem L_verify (X : LX p s m c b D ca) (hX : va_X b L xs s s.heap) (hbl : b < s.heap.size) (hbA : ¬ (fun q => s.heap.size ≤ q) b) (hL : L < 2 ^ 31) (hi : i + 6 ≤ L) (hR : Rel S M) (K : ∀ S' M', Rel S' M' → LW p l e s m below meth c b D 55 831 (ly_w lyX 41 ad ca S' (ly_w lyM 14 ad2 ca M' [])) 689 [some (.ref b), some (.ref (ad 0)), some (.ref (ad2 0)), some (.int (nI i))] []) : LW p l e s m below meth c b D 55 831 (ly_w lyX 41 ad ca S (ly_w lyM 14 ad2 ca M [])) 557 [some (.ref b), some (.ref (ad 0)), some (.ref (ad2 0)), some (.int (nI i))] [] := by
  refine ev_aload_n X d_L_law_557 rfl ?_
  refine ev_aload_n X d_L_law_558 rfl ?_
  refine ev_iload_n X d_L_law_559 rfl ?_
  refine ev_iconst (v := 1) X d_L_law_560 (by decide) ?_
  refine ev_iadd X d_L_law_561 ?_
  refine ev_sld (j := i + 1) X hX hbl hbA (nIk1 i) (by omega) hL d_L_law_562 ?_
  refine ev_aload_n X d_L_law_563 rfl ?_
  refine ev_iload_n X d_L_law_564 rfl ?_
  refine ev_iconst (v := 2) X d_L_law_565 (by decide) ?_
  refine ev_iadd X d_L_law_566 ?_
  refine ev_sld (j := i + 2) X hX hbl hbA (nIk2 i) (by omega) hL d_L_law_567 ?_
  refine ev_aload_n X d_L_law_568 rfl ?_
  refine ev_iload_n X d_L_law_569 rfl ?_
  refine ev_iconst (v := 3) X d_L_law_570 (by decide) ?_
  refine ev_iadd X d_L_law_571 ?_
  refine ev_sld (j := i + 3) X hX hbl hbA (nIk3 i) (by omega) hL d_L_law_572 ?_
  refine ev_cV1 X m_L_81 c_X_verify lo_this rfl rfl (by decide) (by decide) d_L_law_573 rfl rfl (Nat.le_of_ble_eq_true rfl) ?_
  refine ev_toM ?_
  refine ev_aload_n X d_L_law_576 rfl ?_
  refine ev_aload_n X d_L_law_577 rfl ?_
  refine ev_iload_n X d_L_law_578 rfl ?_
  refine ev_iconst (v := 1) X d_L_law_579 (by decide) ?_
  refine ev_iadd X d_L_law_580 ?_
  refine ev_sld (j := i + 1) X hX hbl hbA (nIk1 i) (by omega) hL d_L_law_581 ?_
  refine ev_aload_n X d_L_law_582 rfl ?_
  refine ev_iload_n X d_L_law_583 rfl ?_
  refine ev_iconst (v := 2) X d_L_law_584 (by decide) ?_
  refine ev_iadd X d_L_law_585 ?_
  refine ev_sld (j := i + 2) X hX hbl hbA (nIk2 i) (by omega) hL d_L_law_586 ?_
  refine ev_aload_n X d_L_law_587 rfl ?_
  refine ev_iload_n X d_L_law_588 rfl ?_
  refine ev_iconst (v := 3) X d_L_law_589 (by decide) ?_
  refine ev_iadd X d_L_law_590 ?_
  refine ev_sld (j := i + 3) X hX hbl hbA (nIk3 i) (by omega) hL d_L_law_591 ?_
  refine ev_cV1 X m_L_84 c_M_verify lo_mod rfl rfl (by decide) (by decide) d_L_law_592 rfl rfl (Nat.le_of_ble_eq_true rfl) ?_
  refine ev_toX ?_
  refine ev_icmp_eq (tgt := 689) X d_L_law_595 (by decide) (fun _ => K _ _ hR) (fun h => absurd (by rw [hR.1.1]) h)
set_option maxHeartbeats 4000000 in
set_option maxRecDepth 100000 in
theorem L_running (X : LX p s m c b D ca) (hX : va_X b L xs s s.heap) (hbl : b < s.heap.size) (hbA : ¬ (fun q => s.heap.size ≤ q) b) (hL : L < 2 ^ 31) (hi : i + 6 ≤ L) (hR : Rel S M) (K : ∀ S' M', Rel S' M' → LW p l e s m below meth c b D 55 831 (ly_w lyX 41 ad ca S' (ly_w lyM 14 ad2 ca M' [])) 689 [some (.ref b), some (.ref (ad 0)), some (.ref (ad2 0)), some (.int (nI i))] []) : LW p l e s m below meth c b D 55 831 (ly_w lyX 41 ad ca S (ly_w lyM 14 ad2 ca M [])) 600 [some (.ref b), some (.ref (ad 0)), some (.ref (ad2 0)), some (.int (nI i))] [] := by
  refine ev_aload_n X d_L_law_600 rfl ?_
  refine ev_aload_n X d_L_law_601 rfl ?_
  refine ev_iload_n X d_L_law_602 rfl ?_
  refine ev_iconst (v := 1) X d_L_law_603 (by decide) ?_
  refine ev_iadd X d_L_law_604 ?_
  refine ev_sld (j := i + 1) X hX hbl hbA (nIk1 i) (by omega) hL d_L_law_605 ?_
  refine ev_cV1 X m_L_85 c_X_running lo_this rfl rfl (by decide) (by decide) d_L_law_606 rfl rfl (Nat.le_of_ble_eq_true rfl) ?_
  refine ev_toM ?_
  refine ev_aload_n X d_L_law_609 rfl ?_
  refine ev_aload_n X d_L_law_610 rfl ?_
  refine ev_iload_n X d_L_law_611 rfl ?_
  refine ev_iconst (v := 1) X d_L_law_612 (by decide) ?_
  refine ev_iadd X d_L_law_613 ?_
  refine ev_sld (j := i + 1) X hX hbl hbA (nIk1 i) (by omega) hL d_L_law_614 ?_
  refine ev_cV1 X m_L_88 c_M_running lo_mod rfl rfl (by decide) (by decide) d_L_law_615 rfl rfl (Nat.le_of_ble_eq_true rfl) ?_
  refine ev_toX ?_
  refine ev_icmp_eq (tgt := 689) X d_L_law_618 (by decide) (fun _ => K _ _ hR) (fun h => absurd (R_run hR (xs (i + 1))) h)
set_option maxHeartbeats 4000000 in
set_option maxRecDepth 100000 in
theorem L_owner (X : LX p s m c b D ca) (hX : va_X b L xs s s.heap) (hbl : b < s.heap.size) (hbA : ¬ (fun q => s.heap.size ≤ q) b) (hL : L < 2 ^ 31) (hi : i + 6 ≤ L) (hR : Rel S M) (K : ∀ S' M', Rel S' M' → LW p l e s m below meth c b D 55 831 (ly_w lyX 41 ad ca S' (ly_w lyM 14 ad2 ca M' [])) 689 [some (.ref b), some (.ref (ad 0)), some (.ref (ad2 0)), some (.int (nI i))] []) : LW p l e s m below meth c b D 55 831 (ly_w lyX 41 ad ca S (ly_w lyM 14 ad2 ca M [])) 623 [some (.ref b), some (.ref (ad 0)), some (.ref (ad2 0)), some (.int (nI i))] [] := by
  refine ev_aload_n X d_L_law_623 rfl ?_
  refine ev_aload_n X d_L_law_624 rfl ?_
  refine ev_iload_n X d_L_law_625 rfl ?_
  refine ev_iconst (v := 1) X d_L_law_626 (by decide) ?_
  refine ev_iadd X d_L_law_627 ?_
  refine ev_sld (j := i + 1) X hX hbl hbA (nIk1 i) (by omega) hL d_L_law_628 ?_
  refine ev_cV1 X m_L_89 c_X_owner lo_this rfl rfl (by decide) (by decide) d_L_law_629 rfl rfl (Nat.le_of_ble_eq_true rfl) ?_
  refine ev_toM ?_
  refine ev_aload_n X d_L_law_632 rfl ?_
  refine ev_aload_n X d_L_law_633 rfl ?_
  refine ev_iload_n X d_L_law_634 rfl ?_
  refine ev_iconst (v := 1) X d_L_law_635 (by decide) ?_
  refine ev_iadd X d_L_law_636 ?_
  refine ev_sld (j := i + 1) X hX hbl hbA (nIk1 i) (by omega) hL d_L_law_637 ?_
  refine ev_cV1 X m_L_92 c_M_owner lo_mod rfl rfl (by decide) (by decide) d_L_law_638 rfl rfl (Nat.le_of_ble_eq_true rfl) ?_
  refine ev_toX ?_
  refine ev_icmp_eq (tgt := 689) X d_L_law_641 (by decide) (fun _ => K _ _ hR) (fun h => absurd (R_own hR (xs (i + 1))) h)
set_option maxHeartbeats 4000000 in
set_option maxRecDepth 100000 in
theorem L_guard (X : LX p s m c b D ca) (hX : va_X b L xs s s.heap) (hbl : b < s.heap.size) (hbA : ¬ (fun q => s.heap.size ≤ q) b) (hL : L < 2 ^ 31) (hi : i + 6 ≤ L) (hR : Rel S M) (K : ∀ S' M', Rel S' M' → LW p l e s m below meth c b D 55 831 (ly_w lyX 41 ad ca S' (ly_w lyM 14 ad2 ca M' [])) 689 [some (.ref b), some (.ref (ad 0)), some (.ref (ad2 0)), some (.int (nI i))] []) : LW p l e s m below meth c b D 55 831 (ly_w lyX 41 ad ca S (ly_w lyM 14 ad2 ca M [])) 646 [some (.ref b), some (.ref (ad 0)), some (.ref (ad2 0)), some (.int (nI i))] [] := by
  refine ev_aload_n X d_L_law_646 rfl ?_
  refine ev_aload_n X d_L_law_647 rfl ?_
  refine ev_iload_n X d_L_law_648 rfl ?_
  refine ev_iconst (v := 1) X d_L_law_649 (by decide) ?_
  refine ev_iadd X d_L_law_650 ?_
  refine ev_sld (j := i + 1) X hX hbl hbA (nIk1 i) (by omega) hL d_L_law_651 ?_
  refine ev_aload_n X d_L_law_652 rfl ?_
  refine ev_iload_n X d_L_law_653 rfl ?_
  refine ev_iconst (v := 2) X d_L_law_654 (by decide) ?_
  refine ev_iadd X d_L_law_655 ?_
  refine ev_sld (j := i + 2) X hX hbl hbA (nIk2 i) (by omega) hL d_L_law_656 ?_
  refine ev_aload_n X d_L_law_657 rfl ?_
  refine ev_iload_n X d_L_law_658 rfl ?_
  refine ev_iconst (v := 3) X d_L_law_659 (by decide) ?_
  refine ev_iadd X d_L_law_660 ?_
  refine ev_sld (j := i + 3) X hX hbl hbA (nIk3 i) (by omega) hL d_L_law_661 ?_
  refine ev_cV1 X m_L_93 c_X_guard lo_this rfl rfl (by decide) (by decide) d_L_law_662 rfl rfl (Nat.le_of_ble_eq_true rfl) ?_
  refine ev_toM ?_
  refine ev_aload_n X d_L_law_665 rfl ?_
  refine ev_aload_n X d_L_law_666 rfl ?_
  refine ev_iload_n X d_L_law_667 rfl ?_
  refine ev_iconst (v := 1) X d_L_law_668 (by decide) ?_
  refine ev_iadd X d_L_law_669 ?_
  refine ev_sld (j := i + 1) X hX hbl hbA (nIk1 i) (by omega) hL d_L_law_670 ?_
  refine ev_aload_n X d_L_law_671 rfl ?_
  refine ev_iload_n X d_L_law_672 rfl ?_
  refine ev_iconst (v := 2) X d_L_law_673 (by decide) ?_
  refine ev_iadd X d_L_law_674 ?_
  refine ev_sld (j := i + 2) X hX hbl hbA (nIk2 i) (by omega) hL d_L_law_675 ?_
  refine ev_aload_n X d_L_law_676 rfl ?_
  refine ev_iload_n X d_L_law_677 rfl ?_
  refine ev_iconst (v := 3) X d_L_law_678 (by decide) ?_
  refine ev_iadd X d_L_law_679 ?_
  refine ev_sld (j := i + 3) X hX hbl hbA (nIk3 i) (by omega) hL d_L_law_680 ?_
  refine ev_cV1 X m_L_96 (c_M_guard (hR.ru _)) lo_mod rfl rfl (by decide) (by decide) d_L_law_681 rfl rfl (Nat.le_of_ble_eq_true rfl) ?_
  refine ev_toX ?_
  refine ev_icmp_eq (tgt := 689) X d_L_law_684 (by decide) (fun _ => K _ _ hR) (fun h => absurd (R_guard hR (xs (i + 1)) (xs (i + 2)) (xs (i + 3))) h)
end LAW
