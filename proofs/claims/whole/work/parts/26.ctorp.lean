theorem xl_at {x L : va_W} {k : Nat} {q : Nat × va_E} (h : L[k]? = some q) : (x ++ L)[x.length + k]? = some q := by
  rw [List.getElem?_append_right (by omega), Nat.add_sub_cancel_left]
  exact h
theorem xl_set {x L : va_W} {k : Nat} {q : Nat × va_E} : (x ++ L).set (x.length + k) q = x ++ L.set k q := by
  rw [List.set_append_right _ _ (by omega), Nat.add_sub_cancel_left]
def SM : va_W → va_W → Prop
  | [], [] => True
  | a :: l, b :: l' => sm a b ∧ SM l l'
  | _, _ => False
theorem SM.nil : SM [] [] := trivial
theorem SM.cons {a b : Nat × va_E} {l l' : va_W} (h : sm a b) (t : SM l l') : SM (a :: l) (b :: l') := ⟨h, t⟩
theorem SM.rf : ∀ (l : va_W), SM l l
  | [] => trivial
  | _ :: l => ⟨Or.inl rfl, SM.rf l⟩
theorem SM.len : ∀ {l l' : va_W}, SM l l' → l.length = l'.length
  | [], [], _ => rfl
  | _ :: _, _ :: _, h => congrArg (· + 1) (SM.len h.2)
theorem SM.get : ∀ {l l' : va_W}, SM l l' → ∀ (i : Nat) (q q' : Nat × va_E), l[i]? = some q → l'[i]? = some q' → sm q q'
  | [], [], _, i, q, q', h1, _ => by simp at h1
  | a :: l, b :: l', h, 0, q, q', h1, h2 => by
    simp at h1 h2
    rw [← h1, ← h2]
    exact h.1
  | a :: l, b :: l', h, i + 1, q, q', h1, h2 => by
    simp at h1 h2
    exact SM.get h.2 i q q' h1 h2
theorem SM.app : ∀ (x : va_W) {l l' : va_W}, SM l l' → SM (x ++ l) (x ++ l')
  | [], _, _, h => h
  | _ :: x, _, _, h => ⟨Or.inl rfl, SM.app x h⟩
theorem sm.arr {a : Nat} {c0 : ClassId} {n : Nat} {f f' : Nat → Option Nat} (h : ∀ k, k < n → f k = f' k) : sm (a, .inl (c0, n, .inr (.inr (.inr (.inr f))))) (a, .inl (c0, n, .inr (.inr (.inr (.inr f'))))) := Or.inr ⟨a, c0, n, f, f', rfl, rfl, h⟩
section EVX
variable {p : Program} {l : Launch} {e : Env} {R : Room} {s : State} {m : MethodId} {args : Array Value} {below : List Frame} {meth : Method} {c : Code} {cells slots : Nat} {Q : State → Prop}
variable {cc : ByteArray} {nL pc : Nat} {own : String} {Ts : List Cond} {D : va_G} {cl : List vw_C} {tys : List (ClassId × FieldType)} {A : Nat → Prop} {H0 : Heap} {w x L : va_W} {lv : List (Option Value)} {st : List Value}
theorem ev_SM {w' : va_W} (h : SM w w') (k : EV p l e R s m args below meth c cells slots Q nL D cl A H0 w' pc lv st) : EV p l e R s m args below meth c cells slots Q nL D cl A H0 w pc lv st := ev_sm h.len h.get k
theorem ev_w {w' : va_W} (h : w = w') (k : EV p l e R s m args below meth c cells slots Q nL D cl A H0 w' pc lv st) : EV p l e R s m args below meth c cells slots Q nL D cl A H0 w pc lv st := by subst h; exact k
theorem ev_cs {cells' slots' : Nat} (h1 : cells = cells') (h2 : slots = slots') (k : EV p l e R s m args below meth c cells' slots' Q nL D cl A H0 w pc lv st) : EV p l e R s m args below meth c cells slots Q nL D cl A H0 w pc lv st := by subst h1; subst h2; exact k
theorem ex_get (X : ECx p s m args c cc nL own Ts D cl tys A H0) {idx ci k : Nat} {fin : Bool} {ty : FieldType} (F : Fk cl Ts own idx ci k fin ty) (k0 : Nat) {a : Nat} {fs : List Value} (he : L[k0]? = some (a, .inr (ci, fs))) {v : Value} (hv : fs[k]? = some v) (d : decode cc pc = .ok (.getfield idx, 3))
    (kk : EV p l e R s m args below meth c cells slots Q nL D cl A H0 (x ++ L) (pc + 3) lv (v :: st)) : EV p l e R s m args below meth c cells slots Q nL D cl A H0 (x ++ L) pc lv (.ref a :: st) := ev_get X F (x.length + k0) (xl_at he) hv d kk
theorem ex_put (X : ECx p s m args c cc nL own Ts D cl tys A H0) {idx ci k : Nat} {ty : FieldType} (F : Fk cl Ts own idx ci k false ty) (k0 : Nat) {a : Nat} {fs : List Value} (he : L[k0]? = some (a, .inr (ci, fs))) {v : Value} (hn : narrow ty v = v) (hfit : fits ty v = true) (hl0 : k < fs.length) (d : decode cc pc = .ok (.putfield idx, 3))
    (kk : EV p l e R s m args below meth c cells slots Q nL D cl A H0 (x ++ L.set k0 (a, .inr (ci, fs.set k v))) (pc + 3) lv st) : EV p l e R s m args below meth c cells slots Q nL D cl A H0 (x ++ L) pc lv (v :: .ref a :: st) := ev_put X F (x.length + k0) (xl_at he) hn hfit hl0 d (ev_w xl_set kk)
theorem ex_putF (X : ECx p s m args c cc nL own Ts D cl tys A H0) (hin : meth.name = "<init>") {idx ci k : Nat} {ty : FieldType} (F : Fk cl Ts own idx ci k true ty) (hF : ∀ r : vw_C, cl[ci]? = some r → (r.2.1 k).1 = own) (k0 : Nat) {a : Nat} {fs : List Value} (he : L[k0]? = some (a, .inr (ci, fs))) {v : Value} (hn : narrow ty v = v) (hfit : fits ty v = true) (hl0 : k < fs.length) (d : decode cc pc = .ok (.putfield idx, 3))
    (kk : EV p l e R s m args below meth c cells slots Q nL D cl A H0 (x ++ L.set k0 (a, .inr (ci, fs.set k v))) (pc + 3) lv st) : EV p l e R s m args below meth c cells slots Q nL D cl A H0 (x ++ L) pc lv (v :: .ref a :: st) := ev_putF X hin F hF (x.length + k0) (xl_at he) hn hfit hl0 d (ev_w xl_set kk)
theorem ex_iast (X : ECx p s m args c cc nL own Ts D cl tys A H0) {c0 : ClassId} {n j a : Nat} {f : Nat → Int32} {z v : Int32} (k0 : Nat) (he : L[k0]? = some (a, .inl (c0, n, .inl f))) (ht : tys[0]? = some (c0, .int)) (hz : z = nI j) (hj : j < n) (hn : n < 2 ^ 31) (d : decode cc pc = .ok (.iastore, 1))
    (kk : EV p l e R s m args below meth c cells slots Q nL D cl A H0 (x ++ L.set k0 (a, .inl (c0, n, .inl (upd f j v)))) (pc + 1) lv st) : EV p l e R s m args below meth c cells slots Q nL D cl A H0 (x ++ L) pc lv (.int v :: .int z :: .ref a :: st) := ev_iastC X (x.length + k0) (xl_at he) ht hz hj hn d (ev_w xl_set kk)
theorem ex_astq (X : ECx p s m args c cc nL own Ts D cl tys A H0) {c0 : ClassId} {n j a v : Nat} {f : Nat → Option Nat} {z : Int32} {r : vw_C} {vs : List Value} (k0 t0 k1 ci : Nat) (he : L[k0]? = some (a, .inl (c0, n, .inr (.inr (.inr (.inr f)))))) (ht : tys[t0]? = some (c0, .object r.1)) (hv : L[k1]? = some (v, .inr (ci, vs))) (hc : cl[ci]? = some r) (hz : z = nI j) (hj : j < n) (hn : n < 2 ^ 31) (d : decode cc pc = .ok (.aastore, 1))
    (kk : EV p l e R s m args below meth c cells slots Q nL D cl A H0 (x ++ L.set k0 (a, .inl (c0, n, .inr (.inr (.inr (.inr (va_up f j (some v)))))))) (pc + 1) lv st) : EV p l e R s m args below meth c cells slots Q nL D cl A H0 (x ++ L) pc lv (.ref v :: .int z :: .ref a :: st) := ev_astq X (x.length + k0) t0 (x.length + k1) ci (xl_at he) ht (xl_at hv) hc hz hj hn d (ev_w xl_set kk)
end EVX
abbrev CtCX (l : Launch) (D : va_G) (ca : Nat → ClassId) (y : MethodName) (cc : ByteArray) (nL d mc ms : Nat) (as : List Value) (w : va_W) (post : va_W → Prop) : Prop := CtC l clX (tyX ca) TT D y cc nL (rmc d mc ms) mc ms as w post
def G0 : va_E := .inr (1, [.int 0, .int 0, .int 0])
def rf (f : Nat → Option Nat) : (Nat → Int32) ⊕ (Nat → Int64) ⊕ (Nat → UInt32) ⊕ (Nat → UInt64) ⊕ (Nat → Option Nat) := .inr (.inr (.inr (.inr f)))
set_option maxHeartbeats 8000000 in
set_option maxRecDepth 100000 in
theorem c_G_init {l : Launch} {D : va_G} {ca : Nat → ClassId} {x : va_W} {h : Nat} : CtCX l D ca y_G_init b_G_init 1 1 0 0 [.ref h] (x ++ [(h, .inr (1, [.int 0, .int 0, .int 0]))]) (fun w' => w' = x ++ [(h, .inr (1, [.int 0, .int 0, .int 0]))]) := by
  refine ev_entC [some (.ref h)] rfl (by decide) rfl (Nat.le_of_ble_eq_true rfl) rfl gTT (fun p e s m args below meth c A X hr hk hin hAO => ?_)
  refine ev_aload_n X d_G_init_0 rfl ?_
  refine ev_objInit X oi_G oi_m oi_c d_G_init_1 (Nat.le_of_ble_eq_true rfl) (Nat.le_of_ble_eq_true rfl) ?_
  refine ev_aload_n X d_G_init_4 rfl ?_
  refine ev_iconst (v := 0) X d_G_init_5 (by decide) ?_
  refine ex_put X f_G_9 0 rfl rfl rfl (Nat.le_of_ble_eq_true rfl) d_G_init_6 ?_
  refine ev_aload_n X d_G_init_9 rfl ?_
  refine ev_iconst (v := 0) X d_G_init_10 (by decide) ?_
  refine ex_put X f_G_15 0 rfl rfl rfl (Nat.le_of_ble_eq_true rfl) d_G_init_11 ?_
  refine ev_aload_n X d_G_init_14 rfl ?_
  refine ev_iconst (v := 0) X d_G_init_15 (by decide) ?_
  refine ex_put X f_G_18 0 rfl rfl rfl (Nat.le_of_ble_eq_true rfl) d_G_init_16 ?_
  exact ev_vretC X hr hk d_G_init_19 rfl
def EL (ca : Nat → ClassId) (h a : Nat) : va_W := [(h, .inr (3, [.ref a, .int 0, .int 0, .int 0, .int 0, .int (-1), .int 0, .int 0, .int 0])), (a, .inl (ca 0, 8, .inl (fun _ => 0)))]
set_option maxHeartbeats 8000000 in
set_option maxRecDepth 100000 in
theorem c_E_init {l : Launch} {D : va_G} {ca : Nat → ClassId} {x : va_W} {h : Nat} : CtCX l D ca y_E_init b_E_init 1 1 1 8 [.ref h] (x ++ [(h, .inr (3, [.null, .int 0, .int 0, .int 0, .int 0, .int 0, .int 0, .int 0, .int 0]))]) (fun w' => ∃ a, w' = x ++ EL ca h a) := by
  refine ev_entC [some (.ref h)] rfl (by decide) rfl (Nat.le_of_ble_eq_true rfl) rfl gTT (fun p e s m args below meth c A X hr hk hin hAO => ?_)
  refine ev_aload_n X d_E_init_0 rfl ?_
  refine ev_objInit X oi_E oi_m oi_c d_E_init_1 (Nat.le_of_ble_eq_true rfl) (Nat.le_of_ble_eq_true rfl) ?_
  refine ev_aload_n X d_E_init_4 rfl ?_
  refine ev_bipush (v := 8) X d_E_init_5 (by decide) ?_
  refine ev_newa (N' := 8) X ac_i rfl (by decide) (by decide) (Nat.le_of_ble_eq_true rfl) (Nat.le_of_ble_eq_true rfl) (Nat.le_of_ble_eq_true rfl) d_E_init_7 (fun q => ?_)
  refine ev_w (List.append_assoc _ _ _) ?_
  refine ex_putF X hin f_E_9 (fun r h => by cases h; rfl) 0 rfl rfl rfl (Nat.le_of_ble_eq_true rfl) d_E_init_9 ?_
  refine ev_aload_n X d_E_init_12 rfl ?_
  refine ev_iconst (v := 0) X d_E_init_13 (by decide) ?_
  refine ex_put X f_E_15 0 rfl rfl rfl (Nat.le_of_ble_eq_true rfl) d_E_init_14 ?_
  refine ev_aload_n X d_E_init_17 rfl ?_
  refine ev_iconst (v := (-1)) X d_E_init_18 (by decide) ?_
  refine ex_put X f_E_19 0 rfl rfl rfl (Nat.le_of_ble_eq_true rfl) d_E_init_19 ?_
  exact ev_vretC X hr hk d_E_init_22 ⟨q, rfl⟩
def PLx (ca : Nat → ClassId) (h : Nat) (a : Nat → Nat) : va_W := [(h, .inr (2, [.ref (a 0), .ref (a 1), .int (-1)])), (a 0, .inl (ca 0, 8, .inl (fun _ => 0))), (a 1, .inl (ca 3, 11, rf (fun k => some (a (2 + k))))), (a 2, G0), (a 3, G0), (a 4, G0), (a 5, G0), (a 6, G0), (a 7, G0), (a 8, G0), (a 9, G0), (a 10, G0), (a 11, G0), (a 12, G0)]
set_option maxHeartbeats 8000000 in
set_option maxRecDepth 100000 in
theorem c_P_init {l : Launch} {D : va_G} {ca : Nat → ClassId} {x : va_W} {h : Nat} : CtCX l D ca y_P_init b_P_init 2 2 13 52 [.ref h] (x ++ [(h, .inr (2, [.null, .null, .int 0]))]) (fun w' => ∃ a, w' = x ++ PLx ca h a) := by
  refine ev_entC [some (.ref h), none] rfl (by decide) rfl (Nat.le_of_ble_eq_true rfl) rfl gTT (fun p e s m args below meth c A X hr hk hin hAO => ?_)
  refine ev_aload_n X d_P_init_0 rfl ?_
  refine ev_objInit X oi_P oi_m oi_c d_P_init_1 (Nat.le_of_ble_eq_true rfl) (Nat.le_of_ble_eq_true rfl) ?_
  refine ev_aload_n X d_P_init_4 rfl ?_
  refine ev_bipush (v := 8) X d_P_init_5 (by decide) ?_
  refine ev_newa (N' := 8) X ac_i rfl (by decide) (by decide) (Nat.le_of_ble_eq_true rfl) (Nat.le_of_ble_eq_true rfl) (Nat.le_of_ble_eq_true rfl) d_P_init_7 (fun q0 => ?_)
  refine ev_w (List.append_assoc _ _ _) ?_
  refine ex_putF X hin f_P_9 (fun r h => by cases h; rfl) 0 rfl rfl rfl (Nat.le_of_ble_eq_true rfl) d_P_init_9 ?_
  refine ev_aload_n X d_P_init_12 rfl ?_
  refine ev_bipush (v := 11) X d_P_init_13 (by decide) ?_
  refine ev_newq (N' := 11) (t0 := 3) X cl_P_15 hAO.2.2 rfl (by decide) (by decide) (Nat.le_of_ble_eq_true rfl) (Nat.le_of_ble_eq_true rfl) (Nat.le_of_ble_eq_true rfl) d_P_init_15 (fun q1 => ?_)
  refine ev_w (List.append_assoc _ _ _) ?_
  refine ex_putF X hin f_P_17 (fun r h => by cases h; rfl) 0 rfl rfl rfl (Nat.le_of_ble_eq_true rfl) d_P_init_18 ?_
  refine ev_w (w' := x ++ [(h, .inr (2, [.ref q0, .ref q1, .int 0])), (q0, .inl (ca 0, 8, .inl (fun _ => 0))), (q1, .inl (ca 3, 11, rf (fun _ => none)))]) rfl ?_
  refine ev_iconst (v := 0) X d_P_init_21 (by decide) ?_
  refine ev_istore_n X d_P_init_22 (by decide) ?_
  refine ev_iload_n X d_P_init_23 rfl ?_
  refine ev_bipush (v := 11) X d_P_init_24 (by decide) ?_
  refine ev_icmp_ge (tgt := 48) X d_P_init_26 (by decide) (fun h26 => ?_) (fun h26 => ?_)
  · exact absurd h26 (by decide)
  refine ev_aload_n X d_P_init_29 rfl ?_
  refine ex_get X f_P_17 0 rfl rfl d_P_init_30 ?_
  refine ev_iload_n X d_P_init_33 rfl ?_
  refine ev_new (ci := 1) (fs := [.int 0, .int 0, .int 0]) X cl_P_15 in_G iz_G rfl u_G t_G t_G_ok (by decide) (Nat.le_of_ble_eq_true rfl) (Nat.le_of_ble_eq_true rfl) d_P_init_34 (fun g0 => ?_)
  refine ev_dup X d_P_init_37 rfl ?_
  refine ev_callI X hAO m_P_21 c_G_init (by decide) (by decide) d_P_init_38 rfl rfl (Nat.le_of_ble_eq_true rfl) (fun w' hw' => ?_)
  subst hw'
  refine ev_w (w' := x ++ [(h, .inr (2, [.ref q0, .ref q1, .int 0])), (q0, .inl (ca 0, 8, .inl (fun _ => 0))), (q1, .inl (ca 3, 11, rf (fun _ => none))), (g0, G0)]) (List.append_assoc _ _ _) ?_
  refine ex_astq (j := 0) X 2 3 3 1 rfl rfl rfl rfl rfl (by decide) (by decide) d_P_init_41 ?_
  refine ev_w (w' := x ++ [(h, .inr (2, [.ref q0, .ref q1, .int 0])), (q0, .inl (ca 0, 8, .inl (fun _ => 0))), (q1, .inl (ca 3, 11, rf (va_up (fun _ => none) 0 (some g0)))), (g0, G0)]) rfl ?_
  refine ev_iinc (v := 1) X d_P_init_42 rfl (by decide) (by decide) ?_
  refine ev_goto (tgt := 23) X d_P_init_45 (by decide) ?_
  refine ev_iload_n X d_P_init_23 rfl ?_
  refine ev_bipush (v := 11) X d_P_init_24 (by decide) ?_
  refine ev_icmp_ge (tgt := 48) X d_P_init_26 (by decide) (fun h26 => ?_) (fun h26 => ?_)
  · exact absurd h26 (by decide)
  refine ev_aload_n X d_P_init_29 rfl ?_
  refine ex_get X f_P_17 0 rfl rfl d_P_init_30 ?_
  refine ev_iload_n X d_P_init_33 rfl ?_
  refine ev_new (ci := 1) (fs := [.int 0, .int 0, .int 0]) X cl_P_15 in_G iz_G rfl u_G t_G t_G_ok (by decide) (Nat.le_of_ble_eq_true rfl) (Nat.le_of_ble_eq_true rfl) d_P_init_34 (fun g1 => ?_)
  refine ev_dup X d_P_init_37 rfl ?_
  refine ev_callI X hAO m_P_21 c_G_init (by decide) (by decide) d_P_init_38 rfl rfl (Nat.le_of_ble_eq_true rfl) (fun w' hw' => ?_)
  subst hw'
  refine ev_w (w' := x ++ [(h, .inr (2, [.ref q0, .ref q1, .int 0])), (q0, .inl (ca 0, 8, .inl (fun _ => 0))), (q1, .inl (ca 3, 11, rf (va_up (fun _ => none) 0 (some g0)))), (g0, G0), (g1, G0)]) (List.append_assoc _ _ _) ?_
  refine ex_astq (j := 1) X 2 3 4 1 rfl rfl rfl rfl rfl (by decide) (by decide) d_P_init_41 ?_
  refine ev_w (w' := x ++ [(h, .inr (2, [.ref q0, .ref q1, .int 0])), (q0, .inl (ca 0, 8, .inl (fun _ => 0))), (q1, .inl (ca 3, 11, rf (va_up (va_up (fun _ => none) 0 (some g0)) 1 (some g1)))), (g0, G0), (g1, G0)]) rfl ?_
  refine ev_iinc (v := 2) X d_P_init_42 rfl (by decide) (by decide) ?_
  refine ev_goto (tgt := 23) X d_P_init_45 (by decide) ?_
  refine ev_iload_n X d_P_init_23 rfl ?_
  refine ev_bipush (v := 11) X d_P_init_24 (by decide) ?_
  refine ev_icmp_ge (tgt := 48) X d_P_init_26 (by decide) (fun h26 => ?_) (fun h26 => ?_)
  · exact absurd h26 (by decide)
  refine ev_aload_n X d_P_init_29 rfl ?_
  refine ex_get X f_P_17 0 rfl rfl d_P_init_30 ?_
  refine ev_iload_n X d_P_init_33 rfl ?_
  refine ev_new (ci := 1) (fs := [.int 0, .int 0, .int 0]) X cl_P_15 in_G iz_G rfl u_G t_G t_G_ok (by decide) (Nat.le_of_ble_eq_true rfl) (Nat.le_of_ble_eq_true rfl) d_P_init_34 (fun g2 => ?_)
  refine ev_dup X d_P_init_37 rfl ?_
  refine ev_callI X hAO m_P_21 c_G_init (by decide) (by decide) d_P_init_38 rfl rfl (Nat.le_of_ble_eq_true rfl) (fun w' hw' => ?_)
  subst hw'
  refine ev_w (w' := x ++ [(h, .inr (2, [.ref q0, .ref q1, .int 0])), (q0, .inl (ca 0, 8, .inl (fun _ => 0))), (q1, .inl (ca 3, 11, rf (va_up (va_up (fun _ => none) 0 (some g0)) 1 (some g1)))), (g0, G0), (g1, G0), (g2, G0)]) (List.append_assoc _ _ _) ?_
  refine ex_astq (j := 2) X 2 3 5 1 rfl rfl rfl rfl rfl (by decide) (by decide) d_P_init_41 ?_
  refine ev_w (w' := x ++ [(h, .inr (2, [.ref q0, .ref q1, .int 0])), (q0, .inl (ca 0, 8, .inl (fun _ => 0))), (q1, .inl (ca 3, 11, rf (va_up (va_up (va_up (fun _ => none) 0 (some g0)) 1 (some g1)) 2 (some g2)))), (g0, G0), (g1, G0), (g2, G0)]) rfl ?_
  refine ev_iinc (v := 3) X d_P_init_42 rfl (by decide) (by decide) ?_
  refine ev_goto (tgt := 23) X d_P_init_45 (by decide) ?_
  refine ev_iload_n X d_P_init_23 rfl ?_
  refine ev_bipush (v := 11) X d_P_init_24 (by decide) ?_
  refine ev_icmp_ge (tgt := 48) X d_P_init_26 (by decide) (fun h26 => ?_) (fun h26 => ?_)
  · exact absurd h26 (by decide)
  refine ev_aload_n X d_P_init_29 rfl ?_
  refine ex_get X f_P_17 0 rfl rfl d_P_init_30 ?_
  refine ev_iload_n X d_P_init_33 rfl ?_
  refine ev_new (ci := 1) (fs := [.int 0, .int 0, .int 0]) X cl_P_15 in_G iz_G rfl u_G t_G t_G_ok (by decide) (Nat.le_of_ble_eq_true rfl) (Nat.le_of_ble_eq_true rfl) d_P_init_34 (fun g3 => ?_)
  refine ev_dup X d_P_init_37 rfl ?_
  refine ev_callI X hAO m_P_21 c_G_init (by decide) (by decide) d_P_init_38 rfl rfl (Nat.le_of_ble_eq_true rfl) (fun w' hw' => ?_)
  subst hw'
  refine ev_w (w' := x ++ [(h, .inr (2, [.ref q0, .ref q1, .int 0])), (q0, .inl (ca 0, 8, .inl (fun _ => 0))), (q1, .inl (ca 3, 11, rf (va_up (va_up (va_up (fun _ => none) 0 (some g0)) 1 (some g1)) 2 (some g2)))), (g0, G0), (g1, G0), (g2, G0), (g3, G0)]) (List.append_assoc _ _ _) ?_
  refine ex_astq (j := 3) X 2 3 6 1 rfl rfl rfl rfl rfl (by decide) (by decide) d_P_init_41 ?_
  refine ev_w (w' := x ++ [(h, .inr (2, [.ref q0, .ref q1, .int 0])), (q0, .inl (ca 0, 8, .inl (fun _ => 0))), (q1, .inl (ca 3, 11, rf (va_up (va_up (va_up (va_up (fun _ => none) 0 (some g0)) 1 (some g1)) 2 (some g2)) 3 (some g3)))), (g0, G0), (g1, G0), (g2, G0), (g3, G0)]) rfl ?_
  refine ev_iinc (v := 4) X d_P_init_42 rfl (by decide) (by decide) ?_
  refine ev_goto (tgt := 23) X d_P_init_45 (by decide) ?_
  refine ev_iload_n X d_P_init_23 rfl ?_
  refine ev_bipush (v := 11) X d_P_init_24 (by decide) ?_
  refine ev_icmp_ge (tgt := 48) X d_P_init_26 (by decide) (fun h26 => ?_) (fun h26 => ?_)
  · exact absurd h26 (by decide)
  refine ev_aload_n X d_P_init_29 rfl ?_
  refine ex_get X f_P_17 0 rfl rfl d_P_init_30 ?_
  refine ev_iload_n X d_P_init_33 rfl ?_
  refine ev_new (ci := 1) (fs := [.int 0, .int 0, .int 0]) X cl_P_15 in_G iz_G rfl u_G t_G t_G_ok (by decide) (Nat.le_of_ble_eq_true rfl) (Nat.le_of_ble_eq_true rfl) d_P_init_34 (fun g4 => ?_)
  refine ev_dup X d_P_init_37 rfl ?_
  refine ev_callI X hAO m_P_21 c_G_init (by decide) (by decide) d_P_init_38 rfl rfl (Nat.le_of_ble_eq_true rfl) (fun w' hw' => ?_)
  subst hw'
  refine ev_w (w' := x ++ [(h, .inr (2, [.ref q0, .ref q1, .int 0])), (q0, .inl (ca 0, 8, .inl (fun _ => 0))), (q1, .inl (ca 3, 11, rf (va_up (va_up (va_up (va_up (fun _ => none) 0 (some g0)) 1 (some g1)) 2 (some g2)) 3 (some g3)))), (g0, G0), (g1, G0), (g2, G0), (g3, G0), (g4, G0)]) (List.append_assoc _ _ _) ?_
  refine ex_astq (j := 4) X 2 3 7 1 rfl rfl rfl rfl rfl (by decide) (by decide) d_P_init_41 ?_
  refine ev_w (w' := x ++ [(h, .inr (2, [.ref q0, .ref q1, .int 0])), (q0, .inl (ca 0, 8, .inl (fun _ => 0))), (q1, .inl (ca 3, 11, rf (va_up (va_up (va_up (va_up (va_up (fun _ => none) 0 (some g0)) 1 (some g1)) 2 (some g2)) 3 (some g3)) 4 (some g4)))), (g0, G0), (g1, G0), (g2, G0), (g3, G0), (g4, G0)]) rfl ?_
  refine ev_iinc (v := 5) X d_P_init_42 rfl (by decide) (by decide) ?_
  refine ev_goto (tgt := 23) X d_P_init_45 (by decide) ?_
  refine ev_iload_n X d_P_init_23 rfl ?_
  refine ev_bipush (v := 11) X d_P_init_24 (by decide) ?_
  refine ev_icmp_ge (tgt := 48) X d_P_init_26 (by decide) (fun h26 => ?_) (fun h26 => ?_)
  · exact absurd h26 (by decide)
  refine ev_aload_n X d_P_init_29 rfl ?_
  refine ex_get X f_P_17 0 rfl rfl d_P_init_30 ?_
  refine ev_iload_n X d_P_init_33 rfl ?_
  refine ev_new (ci := 1) (fs := [.int 0, .int 0, .int 0]) X cl_P_15 in_G iz_G rfl u_G t_G t_G_ok (by decide) (Nat.le_of_ble_eq_true rfl) (Nat.le_of_ble_eq_true rfl) d_P_init_34 (fun g5 => ?_)
  refine ev_dup X d_P_init_37 rfl ?_
  refine ev_callI X hAO m_P_21 c_G_init (by decide) (by decide) d_P_init_38 rfl rfl (Nat.le_of_ble_eq_true rfl) (fun w' hw' => ?_)
  subst hw'
  refine ev_w (w' := x ++ [(h, .inr (2, [.ref q0, .ref q1, .int 0])), (q0, .inl (ca 0, 8, .inl (fun _ => 0))), (q1, .inl (ca 3, 11, rf (va_up (va_up (va_up (va_up (va_up (fun _ => none) 0 (some g0)) 1 (some g1)) 2 (some g2)) 3 (some g3)) 4 (some g4)))), (g0, G0), (g1, G0), (g2, G0), (g3, G0), (g4, G0), (g5, G0)]) (List.append_assoc _ _ _) ?_
  refine ex_astq (j := 5) X 2 3 8 1 rfl rfl rfl rfl rfl (by decide) (by decide) d_P_init_41 ?_
  refine ev_w (w' := x ++ [(h, .inr (2, [.ref q0, .ref q1, .int 0])), (q0, .inl (ca 0, 8, .inl (fun _ => 0))), (q1, .inl (ca 3, 11, rf (va_up (va_up (va_up (va_up (va_up (va_up (fun _ => none) 0 (some g0)) 1 (some g1)) 2 (some g2)) 3 (some g3)) 4 (some g4)) 5 (some g5)))), (g0, G0), (g1, G0), (g2, G0), (g3, G0), (g4, G0), (g5, G0)]) rfl ?_
  refine ev_iinc (v := 6) X d_P_init_42 rfl (by decide) (by decide) ?_
  refine ev_goto (tgt := 23) X d_P_init_45 (by decide) ?_
  refine ev_iload_n X d_P_init_23 rfl ?_
  refine ev_bipush (v := 11) X d_P_init_24 (by decide) ?_
  refine ev_icmp_ge (tgt := 48) X d_P_init_26 (by decide) (fun h26 => ?_) (fun h26 => ?_)
  · exact absurd h26 (by decide)
  refine ev_aload_n X d_P_init_29 rfl ?_
  refine ex_get X f_P_17 0 rfl rfl d_P_init_30 ?_
  refine ev_iload_n X d_P_init_33 rfl ?_
  refine ev_new (ci := 1) (fs := [.int 0, .int 0, .int 0]) X cl_P_15 in_G iz_G rfl u_G t_G t_G_ok (by decide) (Nat.le_of_ble_eq_true rfl) (Nat.le_of_ble_eq_true rfl) d_P_init_34 (fun g6 => ?_)
  refine ev_dup X d_P_init_37 rfl ?_
  refine ev_callI X hAO m_P_21 c_G_init (by decide) (by decide) d_P_init_38 rfl rfl (Nat.le_of_ble_eq_true rfl) (fun w' hw' => ?_)
  subst hw'
  refine ev_w (w' := x ++ [(h, .inr (2, [.ref q0, .ref q1, .int 0])), (q0, .inl (ca 0, 8, .inl (fun _ => 0))), (q1, .inl (ca 3, 11, rf (va_up (va_up (va_up (va_up (va_up (va_up (fun _ => none) 0 (some g0)) 1 (some g1)) 2 (some g2)) 3 (some g3)) 4 (some g4)) 5 (some g5)))), (g0, G0), (g1, G0), (g2, G0), (g3, G0), (g4, G0), (g5, G0), (g6, G0)]) (List.append_assoc _ _ _) ?_
  refine ex_astq (j := 6) X 2 3 9 1 rfl rfl rfl rfl rfl (by decide) (by decide) d_P_init_41 ?_
  refine ev_w (w' := x ++ [(h, .inr (2, [.ref q0, .ref q1, .int 0])), (q0, .inl (ca 0, 8, .inl (fun _ => 0))), (q1, .inl (ca 3, 11, rf (va_up (va_up (va_up (va_up (va_up (va_up (va_up (fun _ => none) 0 (some g0)) 1 (some g1)) 2 (some g2)) 3 (some g3)) 4 (some g4)) 5 (some g5)) 6 (some g6)))), (g0, G0), (g1, G0), (g2, G0), (g3, G0), (g4, G0), (g5, G0), (g6, G0)]) rfl ?_
  refine ev_iinc (v := 7) X d_P_init_42 rfl (by decide) (by decide) ?_
  refine ev_goto (tgt := 23) X d_P_init_45 (by decide) ?_
  refine ev_iload_n X d_P_init_23 rfl ?_
  refine ev_bipush (v := 11) X d_P_init_24 (by decide) ?_
  refine ev_icmp_ge (tgt := 48) X d_P_init_26 (by decide) (fun h26 => ?_) (fun h26 => ?_)
  · exact absurd h26 (by decide)
  refine ev_aload_n X d_P_init_29 rfl ?_
  refine ex_get X f_P_17 0 rfl rfl d_P_init_30 ?_
  refine ev_iload_n X d_P_init_33 rfl ?_
  refine ev_new (ci := 1) (fs := [.int 0, .int 0, .int 0]) X cl_P_15 in_G iz_G rfl u_G t_G t_G_ok (by decide) (Nat.le_of_ble_eq_true rfl) (Nat.le_of_ble_eq_true rfl) d_P_init_34 (fun g7 => ?_)
  refine ev_dup X d_P_init_37 rfl ?_
  refine ev_callI X hAO m_P_21 c_G_init (by decide) (by decide) d_P_init_38 rfl rfl (Nat.le_of_ble_eq_true rfl) (fun w' hw' => ?_)
  subst hw'
  refine ev_w (w' := x ++ [(h, .inr (2, [.ref q0, .ref q1, .int 0])), (q0, .inl (ca 0, 8, .inl (fun _ => 0))), (q1, .inl (ca 3, 11, rf (va_up (va_up (va_up (va_up (va_up (va_up (va_up (fun _ => none) 0 (some g0)) 1 (some g1)) 2 (some g2)) 3 (some g3)) 4 (some g4)) 5 (some g5)) 6 (some g6)))), (g0, G0), (g1, G0), (g2, G0), (g3, G0), (g4, G0), (g5, G0), (g6, G0), (g7, G0)]) (List.append_assoc _ _ _) ?_
  refine ex_astq (j := 7) X 2 3 10 1 rfl rfl rfl rfl rfl (by decide) (by decide) d_P_init_41 ?_
  refine ev_w (w' := x ++ [(h, .inr (2, [.ref q0, .ref q1, .int 0])), (q0, .inl (ca 0, 8, .inl (fun _ => 0))), (q1, .inl (ca 3, 11, rf (va_up (va_up (va_up (va_up (va_up (va_up (va_up (va_up (fun _ => none) 0 (some g0)) 1 (some g1)) 2 (some g2)) 3 (some g3)) 4 (some g4)) 5 (some g5)) 6 (some g6)) 7 (some g7)))), (g0, G0), (g1, G0), (g2, G0), (g3, G0), (g4, G0), (g5, G0), (g6, G0), (g7, G0)]) rfl ?_
  refine ev_iinc (v := 8) X d_P_init_42 rfl (by decide) (by decide) ?_
  refine ev_goto (tgt := 23) X d_P_init_45 (by decide) ?_
  refine ev_iload_n X d_P_init_23 rfl ?_
  refine ev_bipush (v := 11) X d_P_init_24 (by decide) ?_
  refine ev_icmp_ge (tgt := 48) X d_P_init_26 (by decide) (fun h26 => ?_) (fun h26 => ?_)
  · exact absurd h26 (by decide)
  refine ev_aload_n X d_P_init_29 rfl ?_
  refine ex_get X f_P_17 0 rfl rfl d_P_init_30 ?_
  refine ev_iload_n X d_P_init_33 rfl ?_
  refine ev_new (ci := 1) (fs := [.int 0, .int 0, .int 0]) X cl_P_15 in_G iz_G rfl u_G t_G t_G_ok (by decide) (Nat.le_of_ble_eq_true rfl) (Nat.le_of_ble_eq_true rfl) d_P_init_34 (fun g8 => ?_)
  refine ev_dup X d_P_init_37 rfl ?_
  refine ev_callI X hAO m_P_21 c_G_init (by decide) (by decide) d_P_init_38 rfl rfl (Nat.le_of_ble_eq_true rfl) (fun w' hw' => ?_)
  subst hw'
  refine ev_w (w' := x ++ [(h, .inr (2, [.ref q0, .ref q1, .int 0])), (q0, .inl (ca 0, 8, .inl (fun _ => 0))), (q1, .inl (ca 3, 11, rf (va_up (va_up (va_up (va_up (va_up (va_up (va_up (va_up (fun _ => none) 0 (some g0)) 1 (some g1)) 2 (some g2)) 3 (some g3)) 4 (some g4)) 5 (some g5)) 6 (some g6)) 7 (some g7)))), (g0, G0), (g1, G0), (g2, G0), (g3, G0), (g4, G0), (g5, G0), (g6, G0), (g7, G0), (g8, G0)]) (List.append_assoc _ _ _) ?_
  refine ex_astq (j := 8) X 2 3 11 1 rfl rfl rfl rfl rfl (by decide) (by decide) d_P_init_41 ?_
  refine ev_w (w' := x ++ [(h, .inr (2, [.ref q0, .ref q1, .int 0])), (q0, .inl (ca 0, 8, .inl (fun _ => 0))), (q1, .inl (ca 3, 11, rf (va_up (va_up (va_up (va_up (va_up (va_up (va_up (va_up (va_up (fun _ => none) 0 (some g0)) 1 (some g1)) 2 (some g2)) 3 (some g3)) 4 (some g4)) 5 (some g5)) 6 (some g6)) 7 (some g7)) 8 (some g8)))), (g0, G0), (g1, G0), (g2, G0), (g3, G0), (g4, G0), (g5, G0), (g6, G0), (g7, G0), (g8, G0)]) rfl ?_
  refine ev_iinc (v := 9) X d_P_init_42 rfl (by decide) (by decide) ?_
  refine ev_goto (tgt := 23) X d_P_init_45 (by decide) ?_
  refine ev_iload_n X d_P_init_23 rfl ?_
  refine ev_bipush (v := 11) X d_P_init_24 (by decide) ?_
  refine ev_icmp_ge (tgt := 48) X d_P_init_26 (by decide) (fun h26 => ?_) (fun h26 => ?_)
  · exact absurd h26 (by decide)
  refine ev_aload_n X d_P_init_29 rfl ?_
  refine ex_get X f_P_17 0 rfl rfl d_P_init_30 ?_
  refine ev_iload_n X d_P_init_33 rfl ?_
  refine ev_new (ci := 1) (fs := [.int 0, .int 0, .int 0]) X cl_P_15 in_G iz_G rfl u_G t_G t_G_ok (by decide) (Nat.le_of_ble_eq_true rfl) (Nat.le_of_ble_eq_true rfl) d_P_init_34 (fun g9 => ?_)
  refine ev_dup X d_P_init_37 rfl ?_
  refine ev_callI X hAO m_P_21 c_G_init (by decide) (by decide) d_P_init_38 rfl rfl (Nat.le_of_ble_eq_true rfl) (fun w' hw' => ?_)
  subst hw'
  refine ev_w (w' := x ++ [(h, .inr (2, [.ref q0, .ref q1, .int 0])), (q0, .inl (ca 0, 8, .inl (fun _ => 0))), (q1, .inl (ca 3, 11, rf (va_up (va_up (va_up (va_up (va_up (va_up (va_up (va_up (va_up (fun _ => none) 0 (some g0)) 1 (some g1)) 2 (some g2)) 3 (some g3)) 4 (some g4)) 5 (some g5)) 6 (some g6)) 7 (some g7)) 8 (some g8)))), (g0, G0), (g1, G0), (g2, G0), (g3, G0), (g4, G0), (g5, G0), (g6, G0), (g7, G0), (g8, G0), (g9, G0)]) (List.append_assoc _ _ _) ?_
  refine ex_astq (j := 9) X 2 3 12 1 rfl rfl rfl rfl rfl (by decide) (by decide) d_P_init_41 ?_
  refine ev_w (w' := x ++ [(h, .inr (2, [.ref q0, .ref q1, .int 0])), (q0, .inl (ca 0, 8, .inl (fun _ => 0))), (q1, .inl (ca 3, 11, rf (va_up (va_up (va_up (va_up (va_up (va_up (va_up (va_up (va_up (va_up (fun _ => none) 0 (some g0)) 1 (some g1)) 2 (some g2)) 3 (some g3)) 4 (some g4)) 5 (some g5)) 6 (some g6)) 7 (some g7)) 8 (some g8)) 9 (some g9)))), (g0, G0), (g1, G0), (g2, G0), (g3, G0), (g4, G0), (g5, G0), (g6, G0), (g7, G0), (g8, G0), (g9, G0)]) rfl ?_
  refine ev_iinc (v := 10) X d_P_init_42 rfl (by decide) (by decide) ?_
  refine ev_goto (tgt := 23) X d_P_init_45 (by decide) ?_
  refine ev_iload_n X d_P_init_23 rfl ?_
  refine ev_bipush (v := 11) X d_P_init_24 (by decide) ?_
  refine ev_icmp_ge (tgt := 48) X d_P_init_26 (by decide) (fun h26 => ?_) (fun h26 => ?_)
  · exact absurd h26 (by decide)
  refine ev_aload_n X d_P_init_29 rfl ?_
  refine ex_get X f_P_17 0 rfl rfl d_P_init_30 ?_
  refine ev_iload_n X d_P_init_33 rfl ?_
  refine ev_new (ci := 1) (fs := [.int 0, .int 0, .int 0]) X cl_P_15 in_G iz_G rfl u_G t_G t_G_ok (by decide) (Nat.le_of_ble_eq_true rfl) (Nat.le_of_ble_eq_true rfl) d_P_init_34 (fun g10 => ?_)
  refine ev_dup X d_P_init_37 rfl ?_
  refine ev_callI X hAO m_P_21 c_G_init (by decide) (by decide) d_P_init_38 rfl rfl (Nat.le_of_ble_eq_true rfl) (fun w' hw' => ?_)
  subst hw'
  refine ev_w (w' := x ++ [(h, .inr (2, [.ref q0, .ref q1, .int 0])), (q0, .inl (ca 0, 8, .inl (fun _ => 0))), (q1, .inl (ca 3, 11, rf (va_up (va_up (va_up (va_up (va_up (va_up (va_up (va_up (va_up (va_up (fun _ => none) 0 (some g0)) 1 (some g1)) 2 (some g2)) 3 (some g3)) 4 (some g4)) 5 (some g5)) 6 (some g6)) 7 (some g7)) 8 (some g8)) 9 (some g9)))), (g0, G0), (g1, G0), (g2, G0), (g3, G0), (g4, G0), (g5, G0), (g6, G0), (g7, G0), (g8, G0), (g9, G0), (g10, G0)]) (List.append_assoc _ _ _) ?_
  refine ex_astq (j := 10) X 2 3 13 1 rfl rfl rfl rfl rfl (by decide) (by decide) d_P_init_41 ?_
  refine ev_w (w' := x ++ [(h, .inr (2, [.ref q0, .ref q1, .int 0])), (q0, .inl (ca 0, 8, .inl (fun _ => 0))), (q1, .inl (ca 3, 11, rf (va_up (va_up (va_up (va_up (va_up (va_up (va_up (va_up (va_up (va_up (va_up (fun _ => none) 0 (some g0)) 1 (some g1)) 2 (some g2)) 3 (some g3)) 4 (some g4)) 5 (some g5)) 6 (some g6)) 7 (some g7)) 8 (some g8)) 9 (some g9)) 10 (some g10)))), (g0, G0), (g1, G0), (g2, G0), (g3, G0), (g4, G0), (g5, G0), (g6, G0), (g7, G0), (g8, G0), (g9, G0), (g10, G0)]) rfl ?_
  refine ev_iinc (v := 11) X d_P_init_42 rfl (by decide) (by decide) ?_
  refine ev_goto (tgt := 23) X d_P_init_45 (by decide) ?_
  refine ev_iload_n X d_P_init_23 rfl ?_
  refine ev_bipush (v := 11) X d_P_init_24 (by decide) ?_
  refine ev_icmp_ge (tgt := 48) X d_P_init_26 (by decide) (fun h26 => ?_) (fun h26 => ?_)
  · refine ev_aload_n X d_P_init_48 rfl ?_
    refine ev_iconst (v := (-1)) X d_P_init_49 (by decide) ?_
    refine ex_put X f_P_22 0 rfl rfl rfl (Nat.le_of_ble_eq_true rfl) d_P_init_50 ?_
    refine ev_SM (w' := x ++ PLx ca h (fun i => ([q0, q1, g0, g1, g2, g3, g4, g5, g6, g7, g8, g9, g10] : List Nat).getD i 0)) (SM.app x ?_) ?_
    · refine SM.cons (Or.inl rfl) (SM.cons (Or.inl rfl) (SM.cons (sm.arr ?_) (SM.rf _)))
      intro k hk
      have hk : k = 0 ∨ k = 1 ∨ k = 2 ∨ k = 3 ∨ k = 4 ∨ k = 5 ∨ k = 6 ∨ k = 7 ∨ k = 8 ∨ k = 9 ∨ k = 10 := by omega
      rcases hk with rfl | rfl | rfl | rfl | rfl | rfl | rfl | rfl | rfl | rfl | rfl <;> rfl
    · exact ev_vretC X hr hk d_P_init_53 ⟨_, rfl⟩
  · exact absurd h26 (by decide)
