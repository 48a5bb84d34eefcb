-- ===== rows of constructors: worlds that grow =====
def rmc (d mc ms : Nat) : Room := { frames := d, cells := mc, slots := ms, locals := 32 * d }
def AOx (U : State) : Prop := va_AO R_P U ∧ va_AO R_E U ∧ va_AO R_G U
theorem AOx.moved {u U : State} (hvm : u.vm.Alike U.vm) (h : AOx u) : AOx U := ⟨h.1.moved hvm, h.2.1.moved hvm, h.2.2.moved hvm⟩
def CPC (cl : List vw_C) (tys : List (ClassId × FieldType)) (D : va_G) (as : List Value) (sz : Nat) (w : va_W) : Array Value → State → Prop := va_Pc as (fun U => U.heap.size = sz ∧ va_P D cl w U.heap ∧ va_K D cl tys U ∧ va_D (fun _ => True) w ∧ AOx U)
theorem CPC.blind {cl : List vw_C} {tys : List (ClassId × FieldType)} {D : va_G} {as : List Value} {sz : Nat} {w : va_W} : FrameBlind (CPC cl tys D as sz w) := fun a U g mk q => by
  obtain ⟨q0, q1, qP, qK, qD, qA⟩ := q
  exact ⟨q0, q1, qP, va_K.moved (u := U) (U := U.calling g mk a) (Vm.Alike.refl U.vm) qK, qD, AOx.moved (u := U) (U := U.calling g mk a) (Vm.Alike.refl U.vm) qA⟩
def QC (cl : List vw_C) (D : va_G) (A : Nat → Prop) (post : va_W → Prop) : Array Value → State → Outcome → State → Prop := fun _ st oc t => oc = .returned none ∧ (∃ w', post w' ∧ va_P D cl w' t.heap ∧ va_D A w') ∧ va_F A st t
def CtC (l : Launch) (cl : List vw_C) (tys : List (ClassId × FieldType)) (Ts : List Cond) (D : va_G) (y : MethodName) (cc : ByteArray) (nL : Nat) (rm : Room) (mc ms : Nat) (as : List Value) (w : va_W) (post : va_W → Prop) : Prop :=
  ∀ sz, Met l y (.code y cc nL none :: Ts) rm (CPC cl tys D as sz w) (QC cl D (va_A w sz) post) mc ms (va_A w sz)
section EVN
variable {p : Program} {l : Launch} {e : Env} {R : Room} {s : State} {m : MethodId} {args : Array Value} {below : List Frame} {meth : Method} {c : Code} {cells slots : Nat} {Q : State → Prop}
variable {cc : ByteArray} {nL pc : Nat} {own : String} {Ts : List Cond} {D : va_G} {cl : List vw_C} {tys : List (ClassId × FieldType)} {A : Nat → Prop} {H0 : Heap} {w : va_W} {lv : List (Option Value)} {st : List Value}
theorem ev_objInit (X : ECx p s m args c cc nL own Ts D cl tys A H0) {idx a : Nat} (h1 : Cond.methodLink own idx objectInit ∈ Ts) (h2 : Cond.instanceMethod objectInit ∈ Ts) (h3 : Cond.code objectInit ⟨#[0xb1]⟩ 1 none ∈ Ts) (d : decode cc pc = .ok (.invokespecial idx, 3)) (hf : 1 ≤ R.frames) (hl0 : (st.map fun v => v.category).sum + 12 ≤ R.locals)
    (k : EV p l e R s m args below meth c cells slots Q nL D cl A H0 w (pc + 3) lv st) : EV p l e R s m args below meth c cells slots Q nL D cl A H0 w pc lv (.ref a :: st) := fun H locs ls hP hD hS hl => by
  refine W.objInit X.1.1 X.1.2.1 X.1.2.2.2.1 (X.1.2.2.2.2 _ h1) (X.1.2.2.2.2 _ h2) (X.1.2.2.2.2 _ h3) rfl (by rw [X.1.2.2.1]; exact hl.1.1) rfl d hf ?_ ?_
  · show 2 * 0 + _ + 12 ≤ _
    omega
  · exact W.eq (g2 := F0 m (pc + 3) ls st) rfl (k H locs ls hP hD hS hl)
theorem ev_new (X : ECx p s m args c cc nL own Ts D cl tys A H0) {idx ci N : Nat} {C : String} {T : u_T} {fs : List Value} (hcl : Cond.classLink own idx C ∈ Ts) (hinst : Cond.instantiable C N ∈ Ts) (hini : Cond.initialized C ∈ Ts) (hc : cl[ci]? = some (C, T, N)) (hu : ∀ w ∈ u_ws C T N, w ∈ Ts) (ty0 : Nat → FieldType) (hty : ∀ k, k < N → parseFieldDescriptor (T k).2.2.1 = some (ty0 k)) (hfs : ∀ j, j < N → defaultValue (ty0 j) = vp_V fs j) (hcells : cells + 1 ≤ R.cells) (hslots : slots + N ≤ R.slots) (d : decode cc pc = .ok (.new idx, 3))
    (k : ∀ q : Nat, EV p l e R s m args below meth c (cells + 1) (slots + N) Q nL D cl A H0 (w ++ [(q, .inr (ci, fs))]) (pc + 3) lv (.ref q :: st)) : EV p l e R s m args below meth c cells slots Q nL D cl A H0 w pc lv st := fun H locs ls hP hD hS hl =>
  va_new X.1.1 X.1.2.1 X.1.2.2.2.2 hu ty0 hty X.1.2.2.2.1 (X.1.2.2.2.2 _ hcl) (X.1.2.2.2.2 _ hinst) (X.1.2.2.2.2 _ hini) X.2.1 hP hD hS X.2.2.1 hc hfs hcells hslots d (fun q H1 hP1 hD1 hS1 => k q H1 locs ls hP1 hD1 hS1 hl)
theorem ev_newa (X : ECx p s m args c cc nL own Ts D cl tys A H0) {c0 : ClassId} {n : Int32} {N' : Nat} (harr : Cond.arrayClass .int ∈ Ts) (ht : tys[0]? = some (c0, .int)) (hn : ¬ n < 0) (hN : n.toNatClampNeg = N') (hb : N' * componentBytes .int ≤ 536870912) (hcells : cells + 1 ≤ R.cells) (hslots : slots + N' ≤ R.slots) (d : decode cc pc = .ok (.newarray .int, 2))
    (k : ∀ q : Nat, EV p l e R s m args below meth c (cells + 1) (slots + N') Q nL D cl A H0 (w ++ [(q, .inl (c0, N', .inl (fun _ => 0)))]) (pc + 2) lv (.ref q :: st)) : EV p l e R s m args below meth c cells slots Q nL D cl A H0 w pc lv (.int n :: st) := fun H locs ls hP hD hS hl => by
  refine va_newa (atype := .int) (ty := .int) (a0 := (N', .inl (fun _ => 0))) X.1.1 X.1.2.1 (X.1.2.2.2.2 _ harr) rfl X.2.1 hP hD hS X.2.2.1 (fun cA => rfl) hn hN hb hcells hslots d (fun q cA H1 hK1 hP1 hD1 hS1 => ?_)
  have e1 : s.vm.findClass ("[" ++ (FieldType.int).toString) = some c0 := (X.2.1.2 0 _ ht).2
  have e2 : s.vm.findClass ("[" ++ (FieldType.int).toString) = some cA := (hK1.2 tys.length (cA, .int) (by rw [List.getElem?_append_right (Nat.le_refl _), Nat.sub_self]; rfl)).2
  have e3 : c0 = cA := Option.some.inj (e1.symm.trans e2)
  subst e3
  exact k q H1 locs ls hP1 hD1 hS1 hl
theorem ev_newq (X : ECx p s m args c cc nL own Ts D cl tys A H0) {c0 : ClassId} {idx t0 : Nat} {C : String} {n : Int32} {N' : Nat} (hcl : Cond.classLink own idx C ∈ Ts) (hov : va_AO C s) (ht : tys[t0]? = some (c0, .object C)) (hn : ¬ n < 0) (hN : n.toNatClampNeg = N') (hb : N' * 4 ≤ 536870912) (hcells : cells + 1 ≤ R.cells) (hslots : slots + N' ≤ R.slots) (d : decode cc pc = .ok (.anewarray idx, 3))
    (k : ∀ q : Nat, EV p l e R s m args below meth c (cells + 1) (slots + N') Q nL D cl A H0 (w ++ [(q, .inl (c0, N', .inr (.inr (.inr (.inr (fun _ => none))))))]) (pc + 3) lv (.ref q :: st)) : EV p l e R s m args below meth c cells slots Q nL D cl A H0 w pc lv (.int n :: st) := fun H locs ls hP hD hS hl => by
  refine va_newq X.1.1 X.1.2.1 X.1.2.2.2.1 (X.1.2.2.2.2 _ hcl) hov X.2.1 hP hD hS X.2.2.1 hn hN hb hcells hslots d (fun q cA H1 hK1 hP1 hD1 hS1 => ?_)
  obtain ⟨-, -, -, -, -, e1⟩ := (X.2.1.2 t0 _ ht).2
  obtain ⟨-, -, -, -, -, e2⟩ := (hK1.2 tys.length (cA, .object C) (by rw [List.getElem?_append_right (Nat.le_refl _), Nat.sub_self]; rfl)).2
  have e3 : c0 = cA := Option.some.inj (e1.symm.trans e2)
  subst e3
  exact k q H1 locs ls hP1 hD1 hS1 hl
theorem ev_putF (X : ECx p s m args c cc nL own Ts D cl tys A H0) (hin : meth.name = "<init>") {idx ci k : Nat} {ty : FieldType} (F : Fk cl Ts own idx ci k true ty) (hF : ∀ r : vw_C, cl[ci]? = some r → (r.2.1 k).1 = own) (q0 : Nat) {a : Nat} {fs : List Value} (he : w[q0]? = some (a, .inr (ci, fs))) {v : Value} (hn : narrow ty v = v) (hfit : fits ty v = true) (hl0 : k < fs.length) (d : decode cc pc = .ok (.putfield idx, 3))
    (kk : EV p l e R s m args below meth c cells slots Q nL D cl A H0 (w.set q0 (a, .inr (ci, fs.set k v))) (pc + 3) lv st) : EV p l e R s m args below meth c cells slots Q nL D cl A H0 w pc lv (v :: .ref a :: st) := fun H locs ls hP hD hS hl => by
  obtain ⟨C, T, n, t0, h1, h2, h3, h4, h5, h6, h7, h8⟩ := F
  exact va_putF X.1.1 X.1.2.1 X.1.2.2.2.2 h2 t0 h7 h8 X.1.2.2.2.1 X.2.1 hP hD hS q0 he h1 k h3 (X.1.2.2.2.2 _ h4) (fun x h => h) h5 hin (hF _ h1) h6 hn hfit hl0 d (fun H1 locs1 hP1 hD1 hS1 => kk H1 locs1 ls hP1 hD1 hS1 hl)
theorem ev_iastC (X : ECx p s m args c cc nL own Ts D cl tys A H0) {c0 : ClassId} {n j a : Nat} {f : Nat → Int32} {z v : Int32} (q0 : Nat) (he : w[q0]? = some (a, .inl (c0, n, .inl f))) (ht : tys[0]? = some (c0, .int)) (hz : z = nI j) (hj : j < n) (hn : n < 2 ^ 31) (d : decode cc pc = .ok (.iastore, 1))
    (kk : EV p l e R s m args below meth c cells slots Q nL D cl A H0 (w.set q0 (a, .inl (c0, n, .inl (upd f j v)))) (pc + 1) lv st) : EV p l e R s m args below meth c cells slots Q nL D cl A H0 w pc lv (.int v :: .int z :: .ref a :: st) := fun H locs ls hP hD hS hl => by
  subst hz
  refine va_iast X.1.1 X.1.2.1 X.2.1 hP hD hS q0 0 he ht (nI_in hj hn) d (fun H1 locs1 hP1 hD1 hS1 => ?_)
  rw [nI_clamp (Nat.lt_trans hj hn)] at hP1 hD1
  exact kk H1 locs1 ls hP1 hD1 hS1 hl
theorem ev_astq (X : ECx p s m args c cc nL own Ts D cl tys A H0) {c0 : ClassId} {n j a v : Nat} {f : Nat → Option Nat} {z : Int32} {r : vw_C} {vs : List Value} (q0 t0 qk ci : Nat) (he : w[q0]? = some (a, .inl (c0, n, .inr (.inr (.inr (.inr f)))))) (ht : tys[t0]? = some (c0, .object r.1)) (hv : w[qk]? = some (v, .inr (ci, vs))) (hc : cl[ci]? = some r) (hz : z = nI j) (hj : j < n) (hn : n < 2 ^ 31) (d : decode cc pc = .ok (.aastore, 1))
    (kk : EV p l e R s m args below meth c cells slots Q nL D cl A H0 (w.set q0 (a, .inl (c0, n, .inr (.inr (.inr (.inr (va_up f j (some v)))))))) (pc + 1) lv st) : EV p l e R s m args below meth c cells slots Q nL D cl A H0 w pc lv (.ref v :: .int z :: .ref a :: st) := fun H locs ls hP hD hS hl => by
  subst hz
  refine va_astq X.1.1 X.1.2.1 X.2.1 hP hD hS q0 t0 qk ci he ht hv hc (nI_in hj hn) d (fun H1 locs1 hP1 hD1 hS1 => ?_)
  rw [nI_clamp (Nat.lt_trans hj hn)] at hP1 hD1
  exact kk H1 locs1 ls hP1 hD1 hS1 hl
/-- two contents of a cell that say the same -/
def sm (q q' : Nat × va_E) : Prop := q = q' ∨ ∃ (a : Nat) (c0 : ClassId) (n : Nat) (f f' : Nat → Option Nat), q = (a, .inl (c0, n, .inr (.inr (.inr (.inr f))))) ∧ q' = (a, .inl (c0, n, .inr (.inr (.inr (.inr f'))))) ∧ ∀ k, k < n → f k = f' k
theorem arrV_congr {c0 : ClassId} {n : Nat} {f f' : Nat → Value} (h : ∀ k, k < n → f k = f' k) : arrV c0 n f = arrV c0 n f' := by
  unfold arrV
  congr 2
  funext j
  exact h j.val j.isLt
theorem sm.at {q q' : Nat × va_E} {H : Heap} (h : sm q q') (ha : va_at D cl q H) : va_at D cl q' H := by
  rcases h with rfl | ⟨a, c0, n, f, f', rfl, rfl, h⟩
  · exact ha
  · show H[a]? = some (vp_cell c0 (n, .inr (.inr (.inr (.inr f')))))
    rw [vp_cell_q, ← arrV_congr (f := fun j => va_rf (f j)) (fun k hk => by rw [h k hk])]
    exact ha
theorem sm.fst {q q' : Nat × va_E} (h : sm q q') : q.1 = q'.1 := by
  rcases h with rfl | ⟨a, c0, n, f, f', rfl, rfl, h⟩ <;> rfl
theorem ev_sm {w' : va_W} (hlen : w.length = w'.length) (h : ∀ (i : Nat) (q q' : Nat × va_E), w[i]? = some q → w'[i]? = some q' → sm q q') (k : EV p l e R s m args below meth c cells slots Q nL D cl A H0 w' pc lv st) : EV p l e R s m args below meth c cells slots Q nL D cl A H0 w pc lv st := fun H locs ls hP hD hS hl => by
  have key : ∀ (i : Nat) (q' : Nat × va_E), w'[i]? = some q' → ∃ q, w[i]? = some q ∧ sm q q' := by
    intro i q' hq'
    have hi : i < w.length := by rw [hlen]; exact (List.getElem?_eq_some_iff.mp hq').1
    exact ⟨w[i], List.getElem?_eq_getElem hi, h i _ _ (List.getElem?_eq_getElem hi) hq'⟩
  refine k H locs ls (fun i q' hq' => ?_) ?_ hS hl
  · obtain ⟨q, h1, h2⟩ := key i q' hq'
    exact h2.at (hP i q h1)
  · refine va_D_fst ?_ hD
    apply List.ext_getElem?
    intro i
    rw [List.getElem?_map, List.getElem?_map]
    cases hw : w'[i]? with
    | none =>
      have : w'.length ≤ i := List.getElem?_eq_none_iff.mp hw
      rw [List.getElem?_eq_none_iff.mpr (by omega)]
    | some q' =>
      obtain ⟨q, h1, h2⟩ := key i q' hw
      rw [h1]
      exact congrArg some h2.fst
theorem ev_callI (X : ECx p s m args c cc nL own Ts D cl tys A H0) (hAO : AOx s) {y : MethodName} {bytes : ByteArray} {maxL n idx d' mc ms : Nat} {a : Nat} {As st0 : List Value} {post : va_W → Prop}
    (F : MkI Ts own idx y bytes maxL n) (hc : CtC l cl tys Ts D y bytes maxL (rmc d' mc ms) mc ms (.ref a :: As) w post) (hR : d' + 1 ≤ R.frames ∧ 8 + (maxL + 11) + 32 * d' ≤ R.locals) (hcs : cells + mc ≤ R.cells ∧ slots + ms ≤ R.slots) (d : decode cc pc = .ok (.invokespecial idx, 3)) (hst : st0 = As.reverse ++ .ref a :: st) (hn : As.length = n) (hcat : (st.map fun v => v.category).sum ≤ 8)
    (k : ∀ w', post w' → EV p l e R s m args below meth c (cells + mc) (slots + ms) Q nL D cl A H0 w' (pc + 3) lv st) : EV p l e R s m args below meth c cells slots Q nL D cl A H0 w pc lv st0 := by
  intro H locs ls hP hD hS hl
  obtain ⟨⟨m1, m2, m3, m4⟩, hy1, hd⟩ := F
  obtain ⟨hx, hb, hml, hown, hts⟩ := X.1
  have hsub : ∀ q, va_A w H.size q → A q := va_A_sub hD hS X.2.2.1
  have hG : GoodIn Ts (.code y bytes maxL none :: Ts) := by
    intro z hz
    refine X.2.2.2 z ?_
    rcases List.mem_cons.mp hz with rfl | hz
    · exact m4
    · exact hz
  have hr := va_runI (p := p) (e := e) (R := R) (below := below) (meth := meth) (locs := locs) (cells := cells) (slots := slots) (b := a) (As := As) (rest := st) (g := F0 m pc ls st0) ⟨hx, hb, hml, hown, hts⟩ (hc H.size) (cwI (rm := rmc d' mc ms) n hts hG rfl rfl rfl (hts _ m3) (hts _ m1) (hts _ m2) hy1 hd hR) ⟨CPC.blind, fun U hU hW => ⟨rfl, by rw [hU], by rw [hU]; exact hP, va_K.moved hW.alike X.2.1, hD.weaken (fun _ _ _ _ => trivial), hAO.moved hW.alike⟩⟩ rfl hn hl.1.1 hst (lv_room hcat) d hcs
  intro T hT XX
  obtain ⟨v', st₀, t, T', L, h0, X', hL, e1, e2, ⟨hv, ⟨w', hp, hP1, hD1⟩, hz, hk⟩, stp⟩ := hr T hT XX
  cases hv
  rw [h0] at hz hk
  obtain ⟨t2, a1, b1⟩ := k w' hp T'.heap (locs ++ L) ls (by rw [e1]; exact hP1) (hD1.weaken (fun _ q _ h => hsub q.1 h))
    ⟨Nat.le_trans hS.1 (by rw [e1]; exact hz), fun q h1 h2 => by rw [e1, hk q (Nat.lt_of_lt_of_le h1 hS.1) (fun z => h2 (hsub q z))]; exact hS.2.1 q h1 h2, fun q hq => by
      rcases List.mem_append.mp hq with h | h
      · exact hS.2.2 q h
      · exact hsub _ (hL q h)⟩ hl T' rfl X'
  exact ⟨t2, stp t2 a1, b1⟩
theorem ev_entC {y : MethodName} {d mc ms : Nat} {as : List Value} {post : va_W → Prop} (lv0 : List (Option Value)) (hlv : as.map some ++ List.replicate (nL - as.length) none = lv0) (hy : plainName y.cls = true) (hyn : y.name = "<init>") (hn : as.length ≤ nL) (hcat : as.all (fun v => v.category == 1) = true) (hG : GoodIn Ts Ts)
    (body : ∀ (p : Program) (e : Env) (s : State) (m : MethodId) (args : Array Value) (below : List Frame) (meth : Method) (c : Code) (A : Nat → Prop), ECx p s m args c cc nL y.cls Ts D cl tys A s.heap → meth.sig.returnType = none → meth.locks = false → meth.name = "<init>" → AOx s →
      EV p l e (rmc d mc ms) s m args below meth c 0 0 (MQ below (QC cl D A post) args s mc ms A) nL D cl A s.heap w 0 lv0 []) : CtC l cl tys Ts D y cc nL (rmc d mc ms) mc ms as w post := by
  subst hlv
  intro sz
  refine Met.ofW (cc := cc) (maxL := nL) (ret := none) hy rfl ?_
  intro p e s m args below meth c s₁ B hml hv
  obtain ⟨rfl, hsz, hP, hK, hD0, hAO⟩ := hv
  subst hsz
  have hts := atoms_spec (ws := .code y cc nL none :: Ts) B.pre
  have hown : s.vm.findClass y.cls = some m.cls := findClass_of_methodNamed B.named
  have hin : meth.name = "<init>" := (name_of_methodNamed B.named B.method).1.trans hyn
  rw [lg_entry_eq]
  exact body p e s m _ below meth c _ ⟨⟨B.exec, B.bytes, hml, hown, fun w hw => hts w (List.mem_cons_of_mem _ hw)⟩, hK, fun q h => Or.inr h, hG⟩ B.returns B.notSynchronized hin hAO s.heap [] _ hP hD0.self va_S.rf (ll_entry (fun v hv => by simpa using List.all_eq_true.mp hcat v hv) hn)
theorem ev_vretC {post : va_W → Prop} (X : ECx p s m args c cc nL own Ts D cl tys A s.heap) (hr : meth.sig.returnType = none) (hk : meth.locks = false) (d : decode cc pc = .ok (.return_, 1)) (hp : post w) : EV p l e R s m args below meth c cells slots (MQ below (QC cl D A post) args s cells slots A) nL D cl A s.heap w pc lv [] := fun H locs ls hP hD hS hl =>
  W.vret X.1.1 X.1.2.1 hr (fun t ht hW => ⟨rfl, ⟨w, hp, by rw [ht]; exact hP, hD⟩, hS.F ht⟩) hS.2.2 d hk
end EVN
