
-- ===== locals by their places =====
def ll_as : Nat → List (Option Value) → List (Nat × Value)
  | _, [] => []
  | i, none :: l => ll_as (i + 1) l
  | i, some v :: l => (i, v) :: ll_as (i + 1) l
theorem ll_mem (lv : List (Option Value)) : ∀ (b : Nat) (q : Nat × Value), q ∈ ll_as b lv ↔ ∃ j, q.1 = b + j ∧ lv[j]? = some (some q.2) := by
  induction lv with
  | nil => intro b q; simp [ll_as]
  | cons a l ih =>
    intro b q
    cases a with
    | none =>
      simp only [ll_as]
      rw [ih]
      constructor
      · rintro ⟨j, h1, h2⟩
        exact ⟨j + 1, by omega, by simpa using h2⟩
      · rintro ⟨j, h1, h2⟩
        cases j with
        | zero => simp at h2
        | succ j => exact ⟨j, by omega, by simpa using h2⟩
    | some v =>
      simp only [ll_as, List.mem_cons]
      rw [ih]
      constructor
      · rintro (h | ⟨j, h1, h2⟩)
        · subst h; exact ⟨0, by simp, by simp⟩
        · exact ⟨j + 1, by omega, by simpa using h2⟩
      · rintro ⟨j, h1, h2⟩
        cases j with
        | zero =>
          left
          obtain ⟨q1, q2⟩ := q
          simp at h1 h2
          rw [h1, h2]
        | succ j => right; exact ⟨j, by omega, by simpa using h2⟩
def ll_has (ls : Array Slot) (nL : Nat) (lv : List (Option Value)) : Prop := lv_has ls nL (ll_as 0 lv) ∧ ∀ (j : Nat) (v : Value), lv[j]? = some (some v) → v.category = 1
theorem ll_at {ls : Array Slot} {nL : Nat} {lv : List (Option Value)} (h : ll_has ls nL lv) {i : Nat} {v : Value} (hk : lv[i]? = some (some v)) : ls[i]? = some (.val v) :=
  h.1.2.2 (i, v) ((ll_mem _ _ _).mpr ⟨i, by simp, hk⟩)
theorem ll_pl {lv : List (Option Value)} {i : Nat} {v : Value} (hk : lv[i]? = some (some v)) : ∃ k : Nat, (ll_as 0 lv)[k]? = some (i, v) :=
  List.getElem?_of_mem ((ll_mem _ _ _).mpr ⟨i, by simp, hk⟩)
theorem ll_st {ls ls' : Array Slot} {nL i : Nat} {lv : List (Option Value)} {v : Value} (h : ll_has ls nL lv) (hc : v.category = 1) (h' : lv_has ls' nL ((i, v) :: (ll_as 0 lv).filter (fun q => !(q.1 == i) && !(q.1 + 1 == i && q.2.category == 2)))) : ll_has ls' nL (lv.set i (some v)) := by
  have key : ∀ (j : Nat) (u : Value), (lv.set i (some v))[j]? = some (some u) → (j = i ∧ u = v) ∨ (j ≠ i ∧ lv[j]? = some (some u)) := by
    intro j u hj
    rw [List.getElem?_set] at hj
    by_cases hji : i = j
    · rw [if_pos hji] at hj
      split at hj
      · cases hj; exact Or.inl ⟨hji.symm, rfl⟩
      · cases hj
    · rw [if_neg hji] at hj
      exact Or.inr ⟨Ne.symm hji, hj⟩
  refine ⟨⟨h'.1, h'.2.1, fun q hq => ?_⟩, fun j u hj => ?_⟩
  · obtain ⟨j, e, hj⟩ := (ll_mem _ _ _).mp hq
    obtain ⟨q1, q2⟩ := q
    simp only [Nat.zero_add] at e hj
    subst e
    rcases key _ _ hj with ⟨rfl, rfl⟩ | ⟨hne, hj⟩
    · exact h'.2.2 (_, _) List.mem_cons_self
    · refine h'.2.2 (_, _) (List.mem_cons_of_mem _ (List.mem_filter.mpr ⟨(ll_mem _ _ _).mpr ⟨q1, by simp, hj⟩, ?_⟩))
      have := h.2 _ _ hj
      simp [hne, this]
  · rcases key _ _ hj with ⟨rfl, rfl⟩ | ⟨hne, hj⟩
    · exact hc
    · exact h.2 _ _ hj
theorem ll_rep : ∀ (k b : Nat), ll_as b (List.replicate k none) = []
  | 0, _ => rfl
  | k + 1, b => by rw [List.replicate_succ]; exact ll_rep k (b + 1)
theorem ll_ent : ∀ (as : List Value) (k b : Nat), (∀ v ∈ as, v.category = 1) → ll_as b (as.map some ++ List.replicate k none) = lv_args b as
  | [], k, b, _ => ll_rep k b
  | v :: vs, k, b, h => by
    have h1 : v.category = 1 := h v List.mem_cons_self
    have h2 : ¬ v.category = 2 := by omega
    show (b, v) :: ll_as (b + 1) (vs.map some ++ List.replicate k none) = (b, v) :: lv_args (if v.category = 2 then b + 2 else b + 1) vs
    rw [if_neg h2, ll_ent vs k (b + 1) (fun u hu => h u (List.mem_cons_of_mem _ hu))]
theorem ll_len : ∀ (as : List Value), (∀ v ∈ as, v.category = 1) → (lg_sl as).length = as.length
  | [], _ => rfl
  | v :: vs, h => by
    have h1 : v.category = 1 := h v List.mem_cons_self
    have h2 : ¬ v.category = 2 := by omega
    have ih := ll_len vs (fun u hu => h u (List.mem_cons_of_mem _ hu))
    simp only [lg_sl, List.flatMap_cons] at ih ⊢
    rw [if_neg h2]
    simp [ih]
theorem ll_entry {as : List Value} {nL : Nat} (hc : ∀ v ∈ as, v.category = 1) (hn : as.length ≤ nL) : ll_has ((lg_sl as ++ List.replicate (nL - (lg_sl as).length) Slot.unset).toArray) nL (as.map some ++ List.replicate (nL - as.length) none) := by
  refine ⟨?_, fun j v hj => ?_⟩
  · rw [ll_ent _ _ _ hc]
    exact lv_entry as (by rw [ll_len as hc]; exact hn)
  · have h := List.mem_of_getElem? hj
    rcases List.mem_append.mp h with h | h
    · obtain ⟨u, hu, he⟩ := List.mem_map.mp h
      cases he
      exact hc _ hu
    · exact absurd (List.eq_of_mem_replicate h) (by simp)
-- ===== the judgement =====
def EV (p : Program) (l : Launch) (e : Env) (R : Room) (s : State) (m : MethodId) (args : Array Value) (below : List Frame) (meth : Method) (c : Code) (cells slots : Nat) (Q : State → Prop) (nL : Nat) (D : va_G) (cl : List vw_C) (A : Nat → Prop) (H0 : Heap) (w : va_W) (pc : Nat) (lv : List (Option Value)) (st : List Value) : Prop :=
  ∀ (H : Heap) (locs : List Loc) (ls : Array Slot), va_P D cl w H → va_D A w → va_S A H0 H locs → ll_has ls nL lv → W p l e R s m args below meth c H locs cells slots Q (F0 m pc ls st)
def ECx (p : Program) (s : State) (m : MethodId) (args : Array Value) (c : Code) (cc : ByteArray) (nL : Nat) (own : String) (Ts : List Cond) (D : va_G) (cl : List vw_C) (tys : List (ClassId × FieldType)) (A : Nat → Prop) (H0 : Heap) : Prop :=
  CallFix p m c cc nL s args Ts own ∧ va_K D cl tys s ∧ (∀ q : Nat, H0.size ≤ q → A q) ∧ GoodIn Ts Ts
def rmI (x y : Int32) : Int32 := x - x / y * y
/-- a boolean on the stack -/
def b2i (b : Bool) : Int32 := if b then 1 else 0
theorem b2i_0 {b : Bool} : b2i b = 0 ↔ b = false := by cases b <;> decide
theorem b2i_1 {b : Bool} : b2i b = 1 ↔ b = true := by cases b <;> decide
theorem b2i_n {b : Bool} : ¬ b2i b = 0 ↔ b = true := by cases b <;> decide
theorem b2i_nar (b : Bool) : narrow .boolean (.int (b2i b)) = .int (b2i b) := by cases b <;> decide
section EVR
variable {p : Program} {l : Launch} {e : Env} {R : Room} {s : State} {m : MethodId} {args : Array Value} {below : List Frame} {meth : Method} {c : Code} {cells slots : Nat} {Q : State → Prop}
variable {cc : ByteArray} {nL pc : Nat} {own : String} {Ts : List Cond} {D : va_G} {cl : List vw_C} {tys : List (ClassId × FieldType)} {A : Nat → Prop} {H0 : Heap} {w : va_W} {lv : List (Option Value)} {st : List Value}

theorem ev_iconst (X : ECx p s m args c cc nL own Ts D cl tys A H0) {n : Int} {v : Int32} (d : decode cc pc = .ok (.iconst n, 1)) (hv : Int32.ofInt n = v) (k : EV p l e R s m args below meth c cells slots Q nL D cl A H0 w (pc + 1) lv (.int v :: st)) : EV p l e R s m args below meth c cells slots Q nL D cl A H0 w pc lv st := fun H locs ls hP hD hS hl => lv_iconst X.1.1 X.1.2.1 d hv (k H locs ls hP hD hS hl)
theorem ev_bipush (X : ECx p s m args c cc nL own Ts D cl tys A H0) {n : Int} {v : Int32} (d : decode cc pc = .ok (.bipush n, 2)) (hv : (Int8.ofInt n).toInt32 = v) (k : EV p l e R s m args below meth c cells slots Q nL D cl A H0 w (pc + 2) lv (.int v :: st)) : EV p l e R s m args below meth c cells slots Q nL D cl A H0 w pc lv st := fun H locs ls hP hD hS hl => lv_bipush X.1.1 X.1.2.1 d hv (k H locs ls hP hD hS hl)
theorem ev_sipush (X : ECx p s m args c cc nL own Ts D cl tys A H0) {n : Int} {v : Int32} (d : decode cc pc = .ok (.sipush n, 3)) (hv : (Int16.ofInt n).toInt32 = v) (k : EV p l e R s m args below meth c cells slots Q nL D cl A H0 w (pc + 3) lv (.int v :: st)) : EV p l e R s m args below meth c cells slots Q nL D cl A H0 w pc lv st := fun H locs ls hP hD hS hl => lv_sipush X.1.1 X.1.2.1 d hv (k H locs ls hP hD hS hl)
theorem ev_ldc (X : ECx p s m args c cc nL own Ts D cl tys A H0) {index : Nat} {v : Int32} (hc : Cond.constant own index v ∈ Ts) (d : decode cc pc = .ok (.ldc index, 2)) (k : EV p l e R s m args below meth c cells slots Q nL D cl A H0 w (pc + 2) lv (.int v :: st)) : EV p l e R s m args below meth c cells slots Q nL D cl A H0 w pc lv st := fun H locs ls hP hD hS hl => lv_ldc X.1.1 X.1.2.1 X.1.2.2.2.1 (X.1.2.2.2.2 _ hc) d (k H locs ls hP hD hS hl)
theorem ev_ldc2 (X : ECx p s m args c cc nL own Ts D cl tys A H0) {index : Nat} {v : Int64} (hc : Cond.constantLong own index v ∈ Ts) (d : decode cc pc = .ok (.ldc2_w index, 3)) (k : EV p l e R s m args below meth c cells slots Q nL D cl A H0 w (pc + 3) lv (.long v :: st)) : EV p l e R s m args below meth c cells slots Q nL D cl A H0 w pc lv st := fun H locs ls hP hD hS hl => lv_ldc2 X.1.1 X.1.2.1 X.1.2.2.2.1 (X.1.2.2.2.2 _ hc) d (k H locs ls hP hD hS hl)
theorem ev_iload_n (X : ECx p s m args c cc nL own Ts D cl tys A H0) {i : Fin 4} {x : Int32} (d : decode cc pc = .ok (.iload_n i, 1)) (hi : lv[i.val]? = some (some (.int x))) (k : EV p l e R s m args below meth c cells slots Q nL D cl A H0 w (pc + 1) lv (.int x :: st)) : EV p l e R s m args below meth c cells slots Q nL D cl A H0 w pc lv st := fun H locs ls hP hD hS hl => lv_iload_n X.1.1 X.1.2.1 d rfl (ll_at hl hi) (k H locs ls hP hD hS hl)
theorem ev_iload (X : ECx p s m args c cc nL own Ts D cl tys A H0) {i : Nat} {x : Int32} (d : decode cc pc = .ok (.iload i, 2)) (hi : lv[i]? = some (some (.int x))) (k : EV p l e R s m args below meth c cells slots Q nL D cl A H0 w (pc + 2) lv (.int x :: st)) : EV p l e R s m args below meth c cells slots Q nL D cl A H0 w pc lv st := fun H locs ls hP hD hS hl => lv_iload X.1.1 X.1.2.1 d (ll_at hl hi) (k H locs ls hP hD hS hl)
theorem ev_aload_n (X : ECx p s m args c cc nL own Ts D cl tys A H0) {i : Fin 4} {x : Nat} (d : decode cc pc = .ok (.aload_n i, 1)) (hi : lv[i.val]? = some (some (.ref x))) (k : EV p l e R s m args below meth c cells slots Q nL D cl A H0 w (pc + 1) lv (.ref x :: st)) : EV p l e R s m args below meth c cells slots Q nL D cl A H0 w pc lv st := fun H locs ls hP hD hS hl => lv_aload_n X.1.1 X.1.2.1 d rfl (ll_at hl hi) (k H locs ls hP hD hS hl)
theorem ev_aload (X : ECx p s m args c cc nL own Ts D cl tys A H0) {i : Nat} {x : Nat} (d : decode cc pc = .ok (.aload i, 2)) (hi : lv[i]? = some (some (.ref x))) (k : EV p l e R s m args below meth c cells slots Q nL D cl A H0 w (pc + 2) lv (.ref x :: st)) : EV p l e R s m args below meth c cells slots Q nL D cl A H0 w pc lv st := fun H locs ls hP hD hS hl => lv_aload X.1.1 X.1.2.1 d (ll_at hl hi) (k H locs ls hP hD hS hl)
theorem ev_istore_n (X : ECx p s m args c cc nL own Ts D cl tys A H0) {i : Fin 4} {x : Int32} (d : decode cc pc = .ok (.istore_n i, 1)) (hn : i.val < nL) (k : EV p l e R s m args below meth c cells slots Q nL D cl A H0 w (pc + 1) (lv.set i.val (some (.int x))) st) : EV p l e R s m args below meth c cells slots Q nL D cl A H0 w pc lv (.int x :: st) := fun H locs ls hP hD hS hl => lv_istore_n X.1.1 X.1.2.1 d rfl hl.1 hn rfl (fun ls' h' => k H locs ls' hP hD hS (ll_st hl rfl h'))
theorem ev_istore (X : ECx p s m args c cc nL own Ts D cl tys A H0) {i : Nat} {x : Int32} (d : decode cc pc = .ok (.istore i, 2)) (hn : i < nL) (k : EV p l e R s m args below meth c cells slots Q nL D cl A H0 w (pc + 2) (lv.set i (some (.int x))) st) : EV p l e R s m args below meth c cells slots Q nL D cl A H0 w pc lv (.int x :: st) := fun H locs ls hP hD hS hl => lv_istore X.1.1 X.1.2.1 d hl.1 hn rfl (fun ls' h' => k H locs ls' hP hD hS (ll_st hl rfl h'))
theorem ev_astore_n (X : ECx p s m args c cc nL own Ts D cl tys A H0) {i : Fin 4} {x : Nat} (d : decode cc pc = .ok (.astore_n i, 1)) (hn : i.val < nL) (k : EV p l e R s m args below meth c cells slots Q nL D cl A H0 w (pc + 1) (lv.set i.val (some (.ref x))) st) : EV p l e R s m args below meth c cells slots Q nL D cl A H0 w pc lv (.ref x :: st) := fun H locs ls hP hD hS hl => lv_astore_n X.1.1 X.1.2.1 d rfl hl.1 hn rfl (fun ls' h' => k H locs ls' hP hD hS (ll_st hl rfl h'))
theorem ev_astore (X : ECx p s m args c cc nL own Ts D cl tys A H0) {i : Nat} {x : Nat} (d : decode cc pc = .ok (.astore i, 2)) (hn : i < nL) (k : EV p l e R s m args below meth c cells slots Q nL D cl A H0 w (pc + 2) (lv.set i (some (.ref x))) st) : EV p l e R s m args below meth c cells slots Q nL D cl A H0 w pc lv (.ref x :: st) := fun H locs ls hP hD hS hl => lv_astore X.1.1 X.1.2.1 d hl.1 hn rfl (fun ls' h' => k H locs ls' hP hD hS (ll_st hl rfl h'))
theorem ev_iinc (X : ECx p s m args c cc nL own Ts D cl tys A H0) {i : Nat} {n : Int} {x v : Int32} (d : decode cc pc = .ok (.iinc i n, 3)) (hi : lv[i]? = some (some (.int x))) (hv : x + Int32.ofInt n = v) (hn : i < nL) (k : EV p l e R s m args below meth c cells slots Q nL D cl A H0 w (pc + 3) (lv.set i (some (.int v))) st) : EV p l e R s m args below meth c cells slots Q nL D cl A H0 w pc lv st := fun H locs ls hP hD hS hl => by
  obtain ⟨q, hq⟩ := ll_pl hi
  exact lv_iinc X.1.1 X.1.2.1 d hl.1 hq hv hn rfl (fun ls' h' => k H locs ls' hP hD hS (ll_st hl rfl h'))
theorem ev_iadd (X : ECx p s m args c cc nL own Ts D cl tys A H0) {x y : Int32} (d : decode cc pc = .ok (.iadd, 1)) (k : EV p l e R s m args below meth c cells slots Q nL D cl A H0 w (pc + 1) lv (.int (x + y) :: st)) : EV p l e R s m args below meth c cells slots Q nL D cl A H0 w pc lv (.int y :: .int x :: st) := fun H locs ls hP hD hS hl => lv_iadd X.1.1 X.1.2.1 d (k H locs ls hP hD hS hl)
theorem ev_isub (X : ECx p s m args c cc nL own Ts D cl tys A H0) {x y : Int32} (d : decode cc pc = .ok (.isub, 1)) (k : EV p l e R s m args below meth c cells slots Q nL D cl A H0 w (pc + 1) lv (.int (x - y) :: st)) : EV p l e R s m args below meth c cells slots Q nL D cl A H0 w pc lv (.int y :: .int x :: st) := fun H locs ls hP hD hS hl => lv_isub X.1.1 X.1.2.1 d (k H locs ls hP hD hS hl)
theorem ev_imul (X : ECx p s m args c cc nL own Ts D cl tys A H0) {x y : Int32} (d : decode cc pc = .ok (.imul, 1)) (k : EV p l e R s m args below meth c cells slots Q nL D cl A H0 w (pc + 1) lv (.int (x * y) :: st)) : EV p l e R s m args below meth c cells slots Q nL D cl A H0 w pc lv (.int y :: .int x :: st) := fun H locs ls hP hD hS hl => lv_imul X.1.1 X.1.2.1 d (k H locs ls hP hD hS hl)
theorem ev_iand (X : ECx p s m args c cc nL own Ts D cl tys A H0) {x y : Int32} (d : decode cc pc = .ok (.iand, 1)) (k : EV p l e R s m args below meth c cells slots Q nL D cl A H0 w (pc + 1) lv (.int (x &&& y) :: st)) : EV p l e R s m args below meth c cells slots Q nL D cl A H0 w pc lv (.int y :: .int x :: st) := fun H locs ls hP hD hS hl => lv_iand X.1.1 X.1.2.1 d (k H locs ls hP hD hS hl)
theorem ev_ior (X : ECx p s m args c cc nL own Ts D cl tys A H0) {x y : Int32} (d : decode cc pc = .ok (.ior, 1)) (k : EV p l e R s m args below meth c cells slots Q nL D cl A H0 w (pc + 1) lv (.int (x ||| y) :: st)) : EV p l e R s m args below meth c cells slots Q nL D cl A H0 w pc lv (.int y :: .int x :: st) := fun H locs ls hP hD hS hl => lv_ior X.1.1 X.1.2.1 d (k H locs ls hP hD hS hl)
theorem ev_ixor (X : ECx p s m args c cc nL own Ts D cl tys A H0) {x y : Int32} (d : decode cc pc = .ok (.ixor, 1)) (k : EV p l e R s m args below meth c cells slots Q nL D cl A H0 w (pc + 1) lv (.int (x ^^^ y) :: st)) : EV p l e R s m args below meth c cells slots Q nL D cl A H0 w pc lv (.int y :: .int x :: st) := fun H locs ls hP hD hS hl => lv_ixor X.1.1 X.1.2.1 d (k H locs ls hP hD hS hl)
theorem ev_idiv (X : ECx p s m args c cc nL own Ts D cl tys A H0) {x y : Int32} (d : decode cc pc = .ok (.idiv, 1)) (hne : ¬ y = 0) (k : EV p l e R s m args below meth c cells slots Q nL D cl A H0 w (pc + 1) lv (.int (x / y) :: st)) : EV p l e R s m args below meth c cells slots Q nL D cl A H0 w pc lv (.int y :: .int x :: st) := fun H locs ls hP hD hS hl => lv_idiv X.1.1 X.1.2.1 d hne (k H locs ls hP hD hS hl)
theorem ev_irem (X : ECx p s m args c cc nL own Ts D cl tys A H0) {x y : Int32} (d : decode cc pc = .ok (.irem, 1)) (hne : ¬ y = 0) (k : EV p l e R s m args below meth c cells slots Q nL D cl A H0 w (pc + 1) lv (.int (rmI x y) :: st)) : EV p l e R s m args below meth c cells slots Q nL D cl A H0 w pc lv (.int y :: .int x :: st) := fun H locs ls hP hD hS hl => lv_irem X.1.1 X.1.2.1 d hne (k H locs ls hP hD hS hl)
theorem ev_ishr (X : ECx p s m args c cc nL own Ts D cl tys A H0) {x y : Int32} (d : decode cc pc = .ok (.ishr, 1)) (k : EV p l e R s m args below meth c cells slots Q nL D cl A H0 w (pc + 1) lv (.int (x >>> (y &&& 31)) :: st)) : EV p l e R s m args below meth c cells slots Q nL D cl A H0 w pc lv (.int y :: .int x :: st) := fun H locs ls hP hD hS hl => lv_ishr X.1.1 X.1.2.1 d (k H locs ls hP hD hS hl)
theorem ev_iushr (X : ECx p s m args c cc nL own Ts D cl tys A H0) {x y v : Int32} (d : decode cc pc = .ok (.iushr, 1)) (hv : (x.toUInt32 >>> (y.toUInt32 &&& Int32.toUInt32 31)).toInt32 = v) (k : EV p l e R s m args below meth c cells slots Q nL D cl A H0 w (pc + 1) lv (.int v :: st)) : EV p l e R s m args below meth c cells slots Q nL D cl A H0 w pc lv (.int y :: .int x :: st) := fun H locs ls hP hD hS hl => lv_iushr X.1.1 X.1.2.1 d hv (k H locs ls hP hD hS hl)
theorem ev_i2l (X : ECx p s m args c cc nL own Ts D cl tys A H0) {x : Int32} (d : decode cc pc = .ok (.i2l, 1)) (k : EV p l e R s m args below meth c cells slots Q nL D cl A H0 w (pc + 1) lv (.long x.toInt64 :: st)) : EV p l e R s m args below meth c cells slots Q nL D cl A H0 w pc lv (.int x :: st) := fun H locs ls hP hD hS hl => lv_i2l X.1.1 X.1.2.1 d rfl (k H locs ls hP hD hS hl)
theorem ev_lcmp (X : ECx p s m args c cc nL own Ts D cl tys A H0) {x y : Int64} (d : decode cc pc = .ok (.lcmp, 1)) (k : EV p l e R s m args below meth c cells slots Q nL D cl A H0 w (pc + 1) lv (.int (lg_cmp x y) :: st)) : EV p l e R s m args below meth c cells slots Q nL D cl A H0 w pc lv (.long y :: .long x :: st) := fun H locs ls hP hD hS hl => W.lcmp X.1.1 X.1.2.1 d (k H locs ls hP hD hS hl)
theorem ev_dup (X : ECx p s m args c cc nL own Ts D cl tys A H0) {va : Value} (d : decode cc pc = .ok (.dup, 1)) (ha : va.category = 1) (k : EV p l e R s m args below meth c cells slots Q nL D cl A H0 w (pc + 1) lv (va :: va :: st)) : EV p l e R s m args below meth c cells slots Q nL D cl A H0 w pc lv (va :: st) := fun H locs ls hP hD hS hl => lv_dup X.1.1 X.1.2.1 d ha (k H locs ls hP hD hS hl)
theorem ev_pop (X : ECx p s m args c cc nL own Ts D cl tys A H0) {va : Value} (d : decode cc pc = .ok (.pop, 1)) (ha : va.category = 1) (k : EV p l e R s m args below meth c cells slots Q nL D cl A H0 w (pc + 1) lv st) : EV p l e R s m args below meth c cells slots Q nL D cl A H0 w pc lv (va :: st) := fun H locs ls hP hD hS hl => lv_pop X.1.1 X.1.2.1 d ha (k H locs ls hP hD hS hl)
theorem ev_dup_x1 (X : ECx p s m args c cc nL own Ts D cl tys A H0) {va vb : Value} (d : decode cc pc = .ok (.dup_x1, 1)) (ha : va.category = 1) (hb : vb.category = 1) (k : EV p l e R s m args below meth c cells slots Q nL D cl A H0 w (pc + 1) lv (va :: vb :: va :: st)) : EV p l e R s m args below meth c cells slots Q nL D cl A H0 w pc lv (va :: vb :: st) := fun H locs ls hP hD hS hl => lv_dup_x1 X.1.1 X.1.2.1 d ha hb (k H locs ls hP hD hS hl)
theorem ev_dup_x2 (X : ECx p s m args c cc nL own Ts D cl tys A H0) {va vb vd : Value} (d : decode cc pc = .ok (.dup_x2, 1)) (ha : va.category = 1) (hb : vb.category = 1) (hd : vd.category = 1) (k : EV p l e R s m args below meth c cells slots Q nL D cl A H0 w (pc + 1) lv (va :: vb :: vd :: va :: st)) : EV p l e R s m args below meth c cells slots Q nL D cl A H0 w pc lv (va :: vb :: vd :: st) := fun H locs ls hP hD hS hl => lv_dup_x2 X.1.1 X.1.2.1 d ha hb hd (k H locs ls hP hD hS hl)
theorem ev_dup2 (X : ECx p s m args c cc nL own Ts D cl tys A H0) {va vb : Value} (d : decode cc pc = .ok (.dup2, 1)) (ha : va.category = 1) (hb : vb.category = 1) (k : EV p l e R s m args below meth c cells slots Q nL D cl A H0 w (pc + 1) lv (va :: vb :: va :: vb :: st)) : EV p l e R s m args below meth c cells slots Q nL D cl A H0 w pc lv (va :: vb :: st) := fun H locs ls hP hD hS hl => lv_dup2_11 X.1.1 X.1.2.1 d ha hb (k H locs ls hP hD hS hl)
theorem ev_if_eq (X : ECx p s m args c cc nL own Ts D cl tys A H0) {x : Int32} {off : Int} {tgt : Nat} (d : decode cc pc = .ok (.ifCond .eq off, 3)) (ht : (pc : Int) + off = (tgt : Int)) (kt : x = 0 → EV p l e R s m args below meth c cells slots Q nL D cl A H0 w tgt lv st) (kf : ¬ x = 0 → EV p l e R s m args below meth c cells slots Q nL D cl A H0 w (pc + 3) lv st) : EV p l e R s m args below meth c cells slots Q nL D cl A H0 w pc lv (.int x :: st) := fun H locs ls hP hD hS hl => lv_if_eq X.1.1 X.1.2.1 d ht (fun h => kt h H locs ls hP hD hS hl) (fun h => kf h H locs ls hP hD hS hl)
theorem ev_icmp_eq (X : ECx p s m args c cc nL own Ts D cl tys A H0) {x y : Int32} {off : Int} {tgt : Nat} (d : decode cc pc = .ok (.if_icmp .eq off, 3)) (ht : (pc : Int) + off = (tgt : Int)) (kt : x = y → EV p l e R s m args below meth c cells slots Q nL D cl A H0 w tgt lv st) (kf : ¬ x = y → EV p l e R s m args below meth c cells slots Q nL D cl A H0 w (pc + 3) lv st) : EV p l e R s m args below meth c cells slots Q nL D cl A H0 w pc lv (.int y :: .int x :: st) := fun H locs ls hP hD hS hl => lv_icmp_eq X.1.1 X.1.2.1 d ht (fun h => kt h H locs ls hP hD hS hl) (fun h => kf h H locs ls hP hD hS hl)
theorem ev_if_ne (X : ECx p s m args c cc nL own Ts D cl tys A H0) {x : Int32} {off : Int} {tgt : Nat} (d : decode cc pc = .ok (.ifCond .ne off, 3)) (ht : (pc : Int) + off = (tgt : Int)) (kt : ¬ x = 0 → EV p l e R s m args below meth c cells slots Q nL D cl A H0 w tgt lv st) (kf : x = 0 → EV p l e R s m args below meth c cells slots Q nL D cl A H0 w (pc + 3) lv st) : EV p l e R s m args below meth c cells slots Q nL D cl A H0 w pc lv (.int x :: st) := fun H locs ls hP hD hS hl => lv_if_ne X.1.1 X.1.2.1 d ht (fun h => kt h H locs ls hP hD hS hl) (fun h => kf h H locs ls hP hD hS hl)
theorem ev_icmp_ne (X : ECx p s m args c cc nL own Ts D cl tys A H0) {x y : Int32} {off : Int} {tgt : Nat} (d : decode cc pc = .ok (.if_icmp .ne off, 3)) (ht : (pc : Int) + off = (tgt : Int)) (kt : ¬ x = y → EV p l e R s m args below meth c cells slots Q nL D cl A H0 w tgt lv st) (kf : x = y → EV p l e R s m args below meth c cells slots Q nL D cl A H0 w (pc + 3) lv st) : EV p l e R s m args below meth c cells slots Q nL D cl A H0 w pc lv (.int y :: .int x :: st) := fun H locs ls hP hD hS hl => lv_icmp_ne X.1.1 X.1.2.1 d ht (fun h => kt h H locs ls hP hD hS hl) (fun h => kf h H locs ls hP hD hS hl)
theorem ev_if_lt (X : ECx p s m args c cc nL own Ts D cl tys A H0) {x : Int32} {off : Int} {tgt : Nat} (d : decode cc pc = .ok (.ifCond .lt off, 3)) (ht : (pc : Int) + off = (tgt : Int)) (kt : x < 0 → EV p l e R s m args below meth c cells slots Q nL D cl A H0 w tgt lv st) (kf : ¬ x < 0 → EV p l e R s m args below meth c cells slots Q nL D cl A H0 w (pc + 3) lv st) : EV p l e R s m args below meth c cells slots Q nL D cl A H0 w pc lv (.int x :: st) := fun H locs ls hP hD hS hl => lv_if_lt X.1.1 X.1.2.1 d ht (fun h => kt h H locs ls hP hD hS hl) (fun h => kf h H locs ls hP hD hS hl)
theorem ev_icmp_lt (X : ECx p s m args c cc nL own Ts D cl tys A H0) {x y : Int32} {off : Int} {tgt : Nat} (d : decode cc pc = .ok (.if_icmp .lt off, 3)) (ht : (pc : Int) + off = (tgt : Int)) (kt : x < y → EV p l e R s m args below meth c cells slots Q nL D cl A H0 w tgt lv st) (kf : ¬ x < y → EV p l e R s m args below meth c cells slots Q nL D cl A H0 w (pc + 3) lv st) : EV p l e R s m args below meth c cells slots Q nL D cl A H0 w pc lv (.int y :: .int x :: st) := fun H locs ls hP hD hS hl => lv_icmp_lt X.1.1 X.1.2.1 d ht (fun h => kt h H locs ls hP hD hS hl) (fun h => kf h H locs ls hP hD hS hl)
theorem ev_if_ge (X : ECx p s m args c cc nL own Ts D cl tys A H0) {x : Int32} {off : Int} {tgt : Nat} (d : decode cc pc = .ok (.ifCond .ge off, 3)) (ht : (pc : Int) + off = (tgt : Int)) (kt : 0 ≤ x → EV p l e R s m args below meth c cells slots Q nL D cl A H0 w tgt lv st) (kf : ¬ 0 ≤ x → EV p l e R s m args below meth c cells slots Q nL D cl A H0 w (pc + 3) lv st) : EV p l e R s m args below meth c cells slots Q nL D cl A H0 w pc lv (.int x :: st) := fun H locs ls hP hD hS hl => lv_if_ge X.1.1 X.1.2.1 d ht (fun h => kt h H locs ls hP hD hS hl) (fun h => kf h H locs ls hP hD hS hl)
theorem ev_icmp_ge (X : ECx p s m args c cc nL own Ts D cl tys A H0) {x y : Int32} {off : Int} {tgt : Nat} (d : decode cc pc = .ok (.if_icmp .ge off, 3)) (ht : (pc : Int) + off = (tgt : Int)) (kt : y ≤ x → EV p l e R s m args below meth c cells slots Q nL D cl A H0 w tgt lv st) (kf : ¬ y ≤ x → EV p l e R s m args below meth c cells slots Q nL D cl A H0 w (pc + 3) lv st) : EV p l e R s m args below meth c cells slots Q nL D cl A H0 w pc lv (.int y :: .int x :: st) := fun H locs ls hP hD hS hl => lv_icmp_ge X.1.1 X.1.2.1 d ht (fun h => kt h H locs ls hP hD hS hl) (fun h => kf h H locs ls hP hD hS hl)
theorem ev_if_gt (X : ECx p s m args c cc nL own Ts D cl tys A H0) {x : Int32} {off : Int} {tgt : Nat} (d : decode cc pc = .ok (.ifCond .gt off, 3)) (ht : (pc : Int) + off = (tgt : Int)) (kt : 0 < x → EV p l e R s m args below meth c cells slots Q nL D cl A H0 w tgt lv st) (kf : ¬ 0 < x → EV p l e R s m args below meth c cells slots Q nL D cl A H0 w (pc + 3) lv st) : EV p l e R s m args below meth c cells slots Q nL D cl A H0 w pc lv (.int x :: st) := fun H locs ls hP hD hS hl => lv_if_gt X.1.1 X.1.2.1 d ht (fun h => kt h H locs ls hP hD hS hl) (fun h => kf h H locs ls hP hD hS hl)
theorem ev_icmp_gt (X : ECx p s m args c cc nL own Ts D cl tys A H0) {x y : Int32} {off : Int} {tgt : Nat} (d : decode cc pc = .ok (.if_icmp .gt off, 3)) (ht : (pc : Int) + off = (tgt : Int)) (kt : y < x → EV p l e R s m args below meth c cells slots Q nL D cl A H0 w tgt lv st) (kf : ¬ y < x → EV p l e R s m args below meth c cells slots Q nL D cl A H0 w (pc + 3) lv st) : EV p l e R s m args below meth c cells slots Q nL D cl A H0 w pc lv (.int y :: .int x :: st) := fun H locs ls hP hD hS hl => lv_icmp_gt X.1.1 X.1.2.1 d ht (fun h => kt h H locs ls hP hD hS hl) (fun h => kf h H locs ls hP hD hS hl)
theorem ev_if_le (X : ECx p s m args c cc nL own Ts D cl tys A H0) {x : Int32} {off : Int} {tgt : Nat} (d : decode cc pc = .ok (.ifCond .le off, 3)) (ht : (pc : Int) + off = (tgt : Int)) (kt : x ≤ 0 → EV p l e R s m args below meth c cells slots Q nL D cl A H0 w tgt lv st) (kf : ¬ x ≤ 0 → EV p l e R s m args below meth c cells slots Q nL D cl A H0 w (pc + 3) lv st) : EV p l e R s m args below meth c cells slots Q nL D cl A H0 w pc lv (.int x :: st) := fun H locs ls hP hD hS hl => lv_if_le X.1.1 X.1.2.1 d ht (fun h => kt h H locs ls hP hD hS hl) (fun h => kf h H locs ls hP hD hS hl)
theorem ev_icmp_le (X : ECx p s m args c cc nL own Ts D cl tys A H0) {x y : Int32} {off : Int} {tgt : Nat} (d : decode cc pc = .ok (.if_icmp .le off, 3)) (ht : (pc : Int) + off = (tgt : Int)) (kt : x ≤ y → EV p l e R s m args below meth c cells slots Q nL D cl A H0 w tgt lv st) (kf : ¬ x ≤ y → EV p l e R s m args below meth c cells slots Q nL D cl A H0 w (pc + 3) lv st) : EV p l e R s m args below meth c cells slots Q nL D cl A H0 w pc lv (.int y :: .int x :: st) := fun H locs ls hP hD hS hl => lv_icmp_le X.1.1 X.1.2.1 d ht (fun h => kt h H locs ls hP hD hS hl) (fun h => kf h H locs ls hP hD hS hl)
theorem ev_if_eqB (X : ECx p s m args c cc nL own Ts D cl tys A H0) {b : Bool} {off : Int} {tgt : Nat} (d : decode cc pc = .ok (.ifCond .eq off, 3)) (ht : (pc : Int) + off = (tgt : Int)) (kt : b = false → EV p l e R s m args below meth c cells slots Q nL D cl A H0 w tgt lv st) (kf : b = true → EV p l e R s m args below meth c cells slots Q nL D cl A H0 w (pc + 3) lv st) : EV p l e R s m args below meth c cells slots Q nL D cl A H0 w pc lv (.int (b2i b) :: st) := ev_if_eq X d ht (fun h => kt (b2i_0.mp h)) (fun h => kf (b2i_n.mp h))
theorem ev_if_neB (X : ECx p s m args c cc nL own Ts D cl tys A H0) {b : Bool} {off : Int} {tgt : Nat} (d : decode cc pc = .ok (.ifCond .ne off, 3)) (ht : (pc : Int) + off = (tgt : Int)) (kt : b = true → EV p l e R s m args below meth c cells slots Q nL D cl A H0 w tgt lv st) (kf : b = false → EV p l e R s m args below meth c cells slots Q nL D cl A H0 w (pc + 3) lv st) : EV p l e R s m args below meth c cells slots Q nL D cl A H0 w pc lv (.int (b2i b) :: st) := ev_if_ne X d ht (fun h => kt (b2i_n.mp h)) (fun h => kf (b2i_0.mp h))
theorem ev_goto (X : ECx p s m args c cc nL own Ts D cl tys A H0) {off : Int} {tgt : Nat} (d : decode cc pc = .ok (.goto off, 3)) (ht : (pc : Int) + off = (tgt : Int)) (k : EV p l e R s m args below meth c cells slots Q nL D cl A H0 w tgt lv st) : EV p l e R s m args below meth c cells slots Q nL D cl A H0 w pc lv st := fun H locs ls hP hD hS hl => lv_goto X.1.1 X.1.2.1 d ht (k H locs ls hP hD hS hl)
theorem ev_tableOut (X : ECx p s m args c cc nL own Ts D cl tys A H0) {dflt lo hi : Int} {offs : Array Int} {len : Nat} {x : Int32} {tgt : Nat} (d : decode cc pc = .ok (.tableswitch dflt lo hi offs, len)) (h : x.toInt < lo ∨ hi < x.toInt) (ht : (pc : Int) + dflt = (tgt : Int)) (k : EV p l e R s m args below meth c cells slots Q nL D cl A H0 w tgt lv st) : EV p l e R s m args below meth c cells slots Q nL D cl A H0 w pc lv (.int x :: st) := fun H locs ls hP hD hS hl => lv_tableOut X.1.1 X.1.2.1 d h ht (k H locs ls hP hD hS hl)
theorem ev_tableIn (X : ECx p s m args c cc nL own Ts D cl tys A H0) {dflt lo hi : Int} {offs : Array Int} {len : Nat} {x : Int32} {off : Int} {tgt : Nat} (d : decode cc pc = .ok (.tableswitch dflt lo hi offs, len)) (h1 : ¬ x.toInt < lo) (h2 : ¬ hi < x.toInt) (ho : offs[(x.toInt - lo).toNat]? = some off) (ht : (pc : Int) + off = (tgt : Int)) (k : EV p l e R s m args below meth c cells slots Q nL D cl A H0 w tgt lv st) : EV p l e R s m args below meth c cells slots Q nL D cl A H0 w pc lv (.int x :: st) := fun H locs ls hP hD hS hl => lv_tableIn X.1.1 X.1.2.1 d h1 h2 ho ht (k H locs ls hP hD hS hl)

/-- a method's end: the answer v, the world w' -/
def QQ (cl : List vw_C) (D : va_G) (A : Nat → Prop) (w' : va_W) (v : Option Value) : Array Value → State → Outcome → State → Prop := fun _ st oc t => oc = .returned v ∧ va_P D cl w' t.heap ∧ va_F A st t
theorem ev_iret {w' : va_W} {v : Option Value} {H0 : Heap} (X : ECx p s m args c cc nL own Ts D cl tys A s.heap) (hr : meth.sig.returnType = some .int) (hk : meth.locks = false) {r : Int32} (d : decode cc pc = .ok (.ireturn, 1)) (hv : some (.int r) = v) (hw : w = w') : EV p l e R s m args below meth c cells slots (MQ below (QQ cl D A w' v) args s cells slots A) nL D cl A s.heap w pc lv ([.int r]) := fun H locs ls hP hD hS hl => by
  subst hv
  subst hw
  exact W.iret X.1.1 X.1.2.1 hr (fun t ht hW => ⟨rfl, by rw [ht]; exact hP, hS.F ht⟩) hS.2.2 d hk
theorem ev_zret {w' : va_W} {v : Option Value} {H0 : Heap} (X : ECx p s m args c cc nL own Ts D cl tys A s.heap) (hr : meth.sig.returnType = some .boolean) (hk : meth.locks = false) {r : Int32} (hn : narrow .boolean (.int r) = .int r) (d : decode cc pc = .ok (.ireturn, 1)) (hv : some (.int r) = v) (hw : w = w') : EV p l e R s m args below meth c cells slots (MQ below (QQ cl D A w' v) args s cells slots A) nL D cl A s.heap w pc lv ([.int r]) := fun H locs ls hP hD hS hl => by
  subst hv
  subst hw
  exact W.zret X.1.1 X.1.2.1 hr hn (fun t ht hW => ⟨rfl, by rw [ht]; exact hP, hS.F ht⟩) hS.2.2 d hk
theorem ev_lret {w' : va_W} {v : Option Value} {H0 : Heap} (X : ECx p s m args c cc nL own Ts D cl tys A s.heap) (hr : meth.sig.returnType = some .long) (hk : meth.locks = false) {r : Int64} (d : decode cc pc = .ok (.lreturn, 1)) (hv : some (.long r) = v) (hw : w = w') : EV p l e R s m args below meth c cells slots (MQ below (QQ cl D A w' v) args s cells slots A) nL D cl A s.heap w pc lv ([.long r]) := fun H locs ls hP hD hS hl => by
  subst hv
  subst hw
  exact W.lret X.1.1 X.1.2.1 hr (fun t ht hW => ⟨rfl, by rw [ht]; exact hP, hS.F ht⟩) hS.2.2 d hk
theorem ev_vret {w' : va_W} {v : Option Value} {H0 : Heap} (X : ECx p s m args c cc nL own Ts D cl tys A s.heap) (hr : meth.sig.returnType = none) (hk : meth.locks = false) (d : decode cc pc = .ok (.return_, 1)) (hv : (none : Option Value) = v) (hw : w = w') : EV p l e R s m args below meth c cells slots (MQ below (QQ cl D A w' v) args s cells slots A) nL D cl A s.heap w pc lv ([]) := fun H locs ls hP hD hS hl => by
  subst hv
  subst hw
  exact W.vret X.1.1 X.1.2.1 hr (fun t ht hW => ⟨rfl, by rw [ht]; exact hP, hS.F ht⟩) hS.2.2 d hk

theorem ev_of {w1 : va_W} {pc1 : Nat} {lv1 : List (Option Value)} {st1 : List Value} (hw : w = w1) (hp : pc = pc1) (hl : lv = lv1) (hs : st = st1) (k : EV p l e R s m args below meth c cells slots Q nL D cl A H0 w1 pc1 lv1 st1) : EV p l e R s m args below meth c cells slots Q nL D cl A H0 w pc lv st := by
  subst hw; subst hp; subst hl; subst hs; exact k
theorem ev_topi {u v : Int32} (h : u = v) (k : EV p l e R s m args below meth c cells slots Q nL D cl A H0 w pc lv (.int v :: st)) : EV p l e R s m args below meth c cells slots Q nL D cl A H0 w pc lv (.int u :: st) := by
  subst h; exact k
/-- behind a call -/
theorem ev_QQ {H : Heap} {locs : List Loc} {ls : Array Slot} {mc ms : Nat} {st0 rest : List Value} {A1 : Nat → Prop} {w' : va_W} {v : Option Value} {a : Array Value} (hr : va_Run p l e R s m args below meth c H locs cells slots mc ms (F0 m pc ls st0) rest (QQ cl D A1 w' v a) A1) (hS : va_S A H0 H locs) (hA : ∀ q, A1 q → A q)
    (kk : ∀ (H1 : Heap) (locs1 : List Loc), va_P D cl w' H1 → va_S A H0 H1 locs1 → W p l e R s m args below meth c H1 locs1 (cells + mc) (slots + ms) Q (F0 m (pc + 3) ls (v.toList ++ rest))) : W p l e R s m args below meth c H locs cells slots Q (F0 m pc ls st0) := by
  intro T hT X
  obtain ⟨v', st₀, t, T', L, h0, X', hL, e1, e2, ⟨hv, hP1, hz, hk⟩, stp⟩ := hr T hT X
  cases hv
  rw [h0] at hz hk
  obtain ⟨t2, a1, b1⟩ := kk T'.heap (locs ++ L) (by rw [e1]; exact hP1)
    ⟨Nat.le_trans hS.1 (by rw [e1]; exact hz), fun q h1 h2 => by rw [e1, hk q (Nat.lt_of_lt_of_le h1 hS.1) (fun z => h2 (hA q z))]; exact hS.2.1 q h1 h2, fun q hq => by
      rcases List.mem_append.mp hq with h | h
      · exact hS.2.2 q h
      · exact hA _ (hL q h)⟩ T' rfl X'
  exact ⟨t2, stp t2 a1, b1⟩
end EVR
/-- the room of a method under which d levels of calls lie -/
def rmd (d : Nat) : Room := { frames := d, cells := 0, slots := 0, locals := 32 * d }
/-- a method's start -/
def CP (cl : List vw_C) (tys : List (ClassId × FieldType)) (D : va_G) (as : List Value) (sz : Nat) (w : va_W) : Array Value → State → Prop := va_Pc as (fun U => U.heap.size = sz ∧ va_P D cl w U.heap ∧ va_K D cl tys U ∧ va_D (fun _ => True) w)
theorem CP.blind {cl : List vw_C} {tys : List (ClassId × FieldType)} {D : va_G} {as : List Value} {sz : Nat} {w : va_W} : FrameBlind (CP cl tys D as sz w) := fun a U g mk q => by
  obtain ⟨q0, q1, qP, qK, qD⟩ := q
  exact ⟨q0, q1, qP, va_K.moved (u := U) (U := U.calling g mk a) (Vm.Alike.refl U.vm) qK, qD⟩
/-- a contract: in the world w, called on as, the method answers v and leaves w' -/
def Ct (l : Launch) (cl : List vw_C) (tys : List (ClassId × FieldType)) (Ts : List Cond) (D : va_G) (y : MethodName) (cc : ByteArray) (nL : Nat) (ret : Option FieldType) (rm : Room) (as : List Value) (w w' : va_W) (v : Option Value) : Prop :=
  ∀ sz, Met l y (.code y cc nL ret :: Ts) rm (CP cl tys D as sz w) (QQ cl D (va_A w sz) w' v) 0 0 (va_A w sz)
/-- the words of a call -/
def MkV (Ts : List Cond) (own : String) (idx : Nat) (y : MethodName) (C : String) (bytes : ByteArray) (maxL : Nat) (ret : Option FieldType) (n : Nat) : Prop :=
  (Cond.methodLink own idx y ∈ Ts ∧ Cond.instanceMethod y ∈ Ts ∧ Cond.selects C y y ∈ Ts ∧ Cond.initialized C ∈ Ts ∧ Cond.code y bytes maxL ret ∈ Ts) ∧ y.cls = C ∧ y.cls ≠ "java/lang/invoke/MethodHandle" ∧ y.cls ≠ "java/lang/invoke/VarHandle" ∧ (parseMethodDescriptor y.desc).map (fun d => d.parameters.length) = some n
def MkS (Ts : List Cond) (own : String) (idx : Nat) (y : MethodName) (bytes : ByteArray) (maxL : Nat) (ret : Option FieldType) (n : Nat) : Prop :=
  (Cond.methodLink own idx y ∈ Ts ∧ Cond.static y ∈ Ts ∧ Cond.initialized own ∈ Ts ∧ Cond.code y bytes maxL ret ∈ Ts) ∧ y.cls = own ∧ y.cls ≠ "java/lang/invoke/MethodHandle" ∧ y.cls ≠ "java/lang/invoke/VarHandle" ∧ (parseMethodDescriptor y.desc).map (fun d => d.parameters.length) = some n
def MkI (Ts : List Cond) (own : String) (idx : Nat) (y : MethodName) (bytes : ByteArray) (maxL n : Nat) : Prop :=
  (Cond.methodLink own idx y ∈ Ts ∧ Cond.instanceMethod y ∈ Ts ∧ Cond.initialized y.cls ∈ Ts ∧ Cond.code y bytes maxL none ∈ Ts) ∧ y.name = "<init>" ∧ y.cls ≠ "java/lang/invoke/MethodHandle" ∧ y.cls ≠ "java/lang/invoke/VarHandle" ∧ (parseMethodDescriptor y.desc).map (fun d => d.parameters.length) = some n
/-- the object at a in the world is of class C -/
def Rcv (cl : List vw_C) (w : va_W) (a : Nat) (C : String) : Prop := ∃ (q0 ci : Nat) (fs : List Value) (r : vw_C), w[q0]? = some (a, .inr (ci, fs)) ∧ cl[ci]? = some r ∧ r.1 = C
section EVC
variable {p : Program} {l : Launch} {e : Env} {R : Room} {s : State} {m : MethodId} {args : Array Value} {below : List Frame} {meth : Method} {c : Code} {cells slots : Nat} {Q : State → Prop}
variable {cc : ByteArray} {nL pc : Nat} {own : String} {Ts : List Cond} {D : va_G} {cl : List vw_C} {tys : List (ClassId × FieldType)} {A : Nat → Prop} {H0 : Heap} {w : va_W} {lv : List (Option Value)} {st : List Value}
theorem va_A_sub {H : Heap} {locs : List Loc} (hD : va_D A w) (hS : va_S A H0 H locs) (hA : ∀ q : Nat, H0.size ≤ q → A q) : ∀ q, va_A w H.size q → A q := by
  intro q h
  rcases h with ⟨k, e, h⟩ | h
  · exact hD.2 k (q, e) h
  · exact hA q (Nat.le_trans hS.1 h)
theorem ev_callV (X : ECx p s m args c cc nL own Ts D cl tys A H0) {y : MethodName} {bytes : ByteArray} {maxL n idx d' : Nat} {ret : Option FieldType} {a : Nat} {As st0 : List Value} {w' : va_W} {v : Option Value} {C : String}
    (F : MkV Ts own idx y C bytes maxL ret n) (hc : Ct l cl tys Ts D y bytes maxL ret (rmd d') (.ref a :: As) w w' v) (hrc : Rcv cl w a C) (hw : ∀ B : Nat → Prop, va_D B w → va_D B w') (hR : d' + 1 ≤ R.frames ∧ 8 + (maxL + 11) + 32 * d' ≤ R.locals) (hcs : cells ≤ R.cells ∧ slots ≤ R.slots) (d : decode cc pc = .ok (.invokevirtual idx, 3)) (hst : st0 = As.reverse ++ .ref a :: st) (hn : As.length = n) (hcat : (st.map fun v => v.category).sum ≤ 8)
    (k : EV p l e R s m args below meth c cells slots Q nL D cl A H0 w' (pc + 3) lv (v.toList ++ st)) : EV p l e R s m args below meth c cells slots Q nL D cl A H0 w pc lv st0 := by
  intro H locs ls hP hD hS hl
  obtain ⟨⟨m1, m2, m3, m4, m5⟩, hd⟩ := F
  obtain ⟨hx, hb, hml, hown, hts⟩ := X.1
  obtain ⟨q0, ci, fs, r, e1, e2, e3⟩ := hrc
  subst e3
  have hsub : ∀ q, va_A w H.size q → A q := va_A_sub hD hS X.2.2.1
  have hG : GoodIn Ts (wsV own idx r.1 y (.code y bytes maxL ret :: Ts)) := by
    intro z hz
    refine X.2.2.2 z ?_
    simp only [wsV, List.mem_append, List.mem_cons, List.not_mem_nil, or_false] at hz
    rcases hz with (rfl | rfl | rfl | rfl) | rfl | hz
    · exact m1
    · exact m2
    · exact m3
    · exact m4
    · exact m5
    · exact hz
  refine ev_QQ (va_runV (b := a) (As := As) (rest := st) ⟨hx, hb, hml, hown, hts⟩ (hc H.size) (cwV (rm := rmd d') n hts hG rfl rfl rfl hd hR) ⟨CP.blind, va_recv X.2.1 hP e2 e1, fun U hU hW => ⟨rfl, by rw [hU], by rw [hU]; exact hP, va_K.moved hW.alike X.2.1, hD.weaken (fun _ _ _ _ => trivial)⟩⟩ rfl hn hl.1.1 hst (lv_room hcat) d hcs) hS hsub (fun H1 locs1 hP1 hS1 => ?_)
  exact k H1 locs1 ls hP1 (hw A hD) hS1 hl
theorem ev_callS (X : ECx p s m args c cc nL own Ts D cl tys A H0) {y : MethodName} {bytes : ByteArray} {maxL n idx d' : Nat} {ret : Option FieldType} {As st0 : List Value} {w' : va_W} {v : Option Value}
    (F : MkS Ts own idx y bytes maxL ret n) (hc : Ct l cl tys Ts D y bytes maxL ret (rmd d') As w w' v) (hw : ∀ B : Nat → Prop, va_D B w → va_D B w') (hR : d' + 1 ≤ R.frames ∧ 8 + (maxL + 11) + 32 * d' ≤ R.locals) (hcs : cells ≤ R.cells ∧ slots ≤ R.slots) (d : decode cc pc = .ok (.invokestatic idx, 3)) (hst : st0 = As.reverse ++ st) (hn : As.length = n) (hcat : (st.map fun v => v.category).sum ≤ 8)
    (k : EV p l e R s m args below meth c cells slots Q nL D cl A H0 w' (pc + 3) lv (v.toList ++ st)) : EV p l e R s m args below meth c cells slots Q nL D cl A H0 w pc lv st0 := by
  intro H locs ls hP hD hS hl
  obtain ⟨⟨m1, m2, m3, m4⟩, hd⟩ := F
  obtain ⟨hx, hb, hml, hown, hts⟩ := X.1
  have hsub : ∀ q, va_A w H.size q → A q := va_A_sub hD hS X.2.2.1
  have hG : GoodIn Ts (wsS own idx y (.code y bytes maxL ret :: Ts)) := by
    intro z hz
    refine X.2.2.2 z ?_
    simp only [wsS, List.mem_append, List.mem_cons, List.not_mem_nil, or_false] at hz
    rcases hz with (rfl | rfl | rfl) | rfl | hz
    · exact m1
    · exact m2
    · exact m3
    · exact m4
    · exact hz
  refine ev_QQ (va_runS (As := As) (rest := st) ⟨hx, hb, hml, hown, hts⟩ (hc H.size) (cwS (rm := rmd d') n hts hG rfl rfl rfl hd hR) ⟨CP.blind, fun U hU hW => ⟨rfl, by rw [hU], by rw [hU]; exact hP, va_K.moved hW.alike X.2.1, hD.weaken (fun _ _ _ _ => trivial)⟩⟩ rfl hn hl.1.1 hst (lv_room hcat) d hcs) hS hsub (fun H1 locs1 hP1 hS1 => ?_)
  exact k H1 locs1 ls hP1 (hw A hD) hS1 hl
/-- a contract by a walk of the body -/
theorem ev_enter {y : MethodName} {ret : Option FieldType} {d : Nat} {as : List Value} {w' : va_W} {v : Option Value} (hy : plainName y.cls = true) (hn : as.length ≤ nL) (hcat : ∀ v ∈ as, v.category = 1) (hG : GoodIn Ts Ts)
    (body : ∀ (p : Program) (e : Env) (s : State) (m : MethodId) (args : Array Value) (below : List Frame) (meth : Method) (c : Code) (A : Nat → Prop), ECx p s m args c cc nL y.cls Ts D cl tys A s.heap → meth.sig.returnType = ret → meth.locks = false →
      EV p l e (rmd d) s m args below meth c 0 0 (MQ below (QQ cl D A w' v) args s 0 0 A) nL D cl A s.heap w 0 (as.map some ++ List.replicate (nL - as.length) none) []) : Ct l cl tys Ts D y cc nL ret (rmd d) as w w' v := by
  intro sz
  refine Met.ofW (cc := cc) (maxL := nL) (ret := ret) hy rfl ?_
  intro p e s m args below meth c s₁ B hml hv
  obtain ⟨rfl, hsz, hP, hK, hD0⟩ := hv
  subst hsz
  have hts := atoms_spec (ws := .code y cc nL ret :: Ts) B.pre
  have hown : s.vm.findClass y.cls = some m.cls := findClass_of_methodNamed B.named
  rw [lg_entry_eq]
  exact body p e s m _ below meth c _ ⟨⟨B.exec, B.bytes, hml, hown, fun w hw => hts w (List.mem_cons_of_mem _ hw)⟩, hK, fun q h => Or.inr h, hG⟩ B.returns B.notSynchronized s.heap [] _ hP hD0.self va_S.rf (ll_entry hcat hn)
end EVC

