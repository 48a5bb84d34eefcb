-- ===== a world by a layout: which cells there are is fixed; the ints in them are S =====
abbrev ly_C : Type := (Nat × List (Option Nat)) ⊕ (Nat ⊕ (Nat × Nat × Nat × Nat))
def up2 (S : Nat → Nat → Int32) (i k : Nat) (v : Int32) : Nat → Nat → Int32 := fun a => if a = i then upd (S i) k v else S a
theorem up2_at (S : Nat → Nat → Int32) (i k : Nat) (v : Int32) (a b : Nat) : up2 S i k v a b = if a = i ∧ b = k then v else S a b := by
  unfold up2 upd
  by_cases h : a = i
  · subst h
    by_cases h2 : b = k <;> simp [h2]
  · simp [h]
theorem up2_ne {S : Nat → Nat → Int32} {i k : Nat} {v : Int32} {a : Nat} (h : a ≠ i) : up2 S i k v a = S a := by
  unfold up2; rw [if_neg h]
theorem up2_eq {S : Nat → Nat → Int32} {i k : Nat} {v : Int32} : up2 S i k v i = upd (S i) k v := by
  unfold up2; rw [if_pos rfl]
def ly_f (ad : Nat → Nat) (f : Nat → Int32) : Nat → List (Option Nat) → List Value
  | _, [] => []
  | k, none :: l => .int (f k) :: ly_f ad f (k + 1) l
  | k, some t :: l => .ref (ad t) :: ly_f ad f (k + 1) l
def ly_v (ad : Nat → Nat) (f : Nat → Int32) (k : Nat) (o : Option Nat) : Value := match o with
  | none => .int (f k)
  | some t => .ref (ad t)
theorem ly_f_at (ad : Nat → Nat) (f : Nat → Int32) : ∀ (fl : List (Option Nat)) (b k : Nat), (ly_f ad f b fl)[k]? = (fl[k]?).map (ly_v ad f (b + k))
  | [], b, k => by simp [ly_f]
  | none :: l, b, 0 => by simp [ly_f, ly_v]
  | some t :: l, b, 0 => by simp [ly_f, ly_v]
  | none :: l, b, k + 1 => by
    have h := ly_f_at ad f l (b + 1) k
    rw [show b + 1 + k = b + (k + 1) by omega] at h
    simpa [ly_f] using h
  | some t :: l, b, k + 1 => by
    have h := ly_f_at ad f l (b + 1) k
    rw [show b + 1 + k = b + (k + 1) by omega] at h
    simpa [ly_f] using h
theorem ly_f_set {ad : Nat → Nat} {f : Nat → Int32} {fl : List (Option Nat)} {k : Nat} {v : Int32} (h : fl[k]? = some none) : (ly_f ad f 0 fl).set k (.int v) = ly_f ad (upd f k v) 0 fl := by
  apply List.ext_getElem?
  intro j
  have hlt : k < (ly_f ad f 0 fl).length := by
    have h1 := ly_f_at ad f fl 0 k
    rw [h] at h1
    exact (List.getElem?_eq_some_iff.mp h1).1
  rw [List.getElem?_set, ly_f_at ad (upd f k v) fl 0 j]
  by_cases hj : k = j
  · subst hj
    rw [if_pos rfl, if_pos hlt, h]
    simp [ly_v, upd]
  · rw [if_neg hj, ly_f_at]
    congr 1
    funext o
    cases o with
    | none => simp [ly_v, upd, Ne.symm hj]
    | some t => rfl
def ly_e (Ly : Nat → ly_C) (ad : Nat → Nat) (ca : Nat → ClassId) (S : Nat → Nat → Int32) (i : Nat) : va_E := match Ly i with
  | .inl (ci, fl) => .inr (ci, ly_f ad (S i) 0 fl)
  | .inr (.inl n) => .inl (ca 0, n, .inl (S i))
  | .inr (.inr (t, n, b, sd)) => .inl (ca t, n, .inr (.inr (.inr (.inr (fun k => some (ad (b + sd * k)))))))
def ly_w (Ly : Nat → ly_C) (N : Nat) (ad : Nat → Nat) (ca : Nat → ClassId) (S : Nat → Nat → Int32) (x : va_W) : va_W := (List.range N).map (fun i => (ad i, ly_e Ly ad ca S i)) ++ x
theorem va_D_fst {B : Nat → Prop} {w w' : va_W} (h : w.map (fun q => q.1) = w'.map (fun q => q.1)) (hD : va_D B w) : va_D B w' := by
  have key : ∀ (k : Nat) (q : Nat × va_E), w'[k]? = some q → ∃ q0, w[k]? = some q0 ∧ q0.1 = q.1 := by
    intro k q hk
    have h1 : (w.map (fun q => q.1))[k]? = some q.1 := by rw [h, List.getElem?_map, hk]; rfl
    rw [List.getElem?_map] at h1
    cases hw : w[k]? with
    | none => rw [hw] at h1; cases h1
    | some q0 => rw [hw] at h1; exact ⟨q0, rfl, Option.some.inj h1⟩
  refine ⟨fun i j x y hi hj hxy => ?_, fun k q hk => ?_⟩
  · obtain ⟨x0, h1, h2⟩ := key i x hi
    obtain ⟨y0, h3, h4⟩ := key j y hj
    exact hD.1 i j x0 y0 h1 h3 (h2.trans (hxy.trans h4.symm))
  · obtain ⟨q0, h1, h2⟩ := key k q hk
    rw [← h2]
    exact hD.2 k q0 h1
section LY
variable {Ly : Nat → ly_C} {N : Nat} {ad : Nat → Nat} {ca : Nat → ClassId} {S S' : Nat → Nat → Int32} {x : va_W}
theorem ly_D {B : Nat → Prop} (hD : va_D B (ly_w Ly N ad ca S x)) : va_D B (ly_w Ly N ad ca S' x) := by
  refine va_D_fst ?_ hD
  simp [ly_w, List.map_map, Function.comp_def]
theorem ly_at {i : Nat} (hi : i < N) : (ly_w Ly N ad ca S x)[i]? = some (ad i, ly_e Ly ad ca S i) := by
  unfold ly_w
  rw [List.getElem?_append_left (by simpa using hi), List.getElem?_map, List.getElem?_range hi]
  rfl
theorem ly_e_congr {j : Nat} (h : S' j = S j) : ly_e Ly ad ca S' j = ly_e Ly ad ca S j := by
  unfold ly_e
  rw [h]
theorem ly_len : (ly_w Ly N ad ca S x).length = N + x.length := by simp [ly_w]
theorem ly_set {i : Nat} {y : va_E} (hi : i < N) (h1 : ly_e Ly ad ca S' i = y) (h2 : ∀ j, j ≠ i → S' j = S j) : (ly_w Ly N ad ca S x).set i (ad i, y) = ly_w Ly N ad ca S' x := by
  apply List.ext_getElem?
  intro j
  rw [List.getElem?_set]
  by_cases hj : i = j
  · subst hj
    rw [if_pos rfl, if_pos (by rw [ly_len]; omega), ly_at hi, h1]
  · rw [if_neg hj]
    by_cases hN : j < N
    · rw [ly_at hN, ly_at hN, ly_e_congr (h2 j (Ne.symm hj))]
    · unfold ly_w
      rw [List.getElem?_append_right (by simp; omega), List.getElem?_append_right (by simp; omega)]
      simp
end LY
def LyO (Ly : Nat → ly_C) (N i ci : Nat) (fl : List (Option Nat)) : Prop := i < N ∧ Ly i = .inl (ci, fl)
def LyI (Ly : Nat → ly_C) (N i n : Nat) : Prop := i < N ∧ Ly i = .inr (.inl n) ∧ n < 2 ^ 31
def LyR (Ly : Nat → ly_C) (N i t n b sd : Nat) : Prop := i < N ∧ Ly i = .inr (.inr (t, n, b, sd)) ∧ n < 2 ^ 31
/-- what the tables say of a field: its class is the ci-th, its place there k -/
def Fk (cl : List vw_C) (Ts : List Cond) (own : String) (index ci k : Nat) (fin : Bool) (ty : FieldType) : Prop := ∃ (C : String) (T : u_T) (n : Nat) (t0 : Nat → FieldType),
  cl[ci]? = some (C, T, n) ∧ (∀ w ∈ u_ws C T n, w ∈ Ts) ∧ k < n ∧ Cond.fieldLink own index (T k).1 (T k).2.1 (T k).2.2.1 ∈ Ts ∧ (T k).2.2.2 = fin ∧ parseFieldDescriptor (T k).2.2.1 = some ty ∧ (∀ k, k < n → parseFieldDescriptor (T k).2.2.1 = some (t0 k)) ∧ (∀ a, a < n → ∀ b, b < n → a ≠ b → (T a).2.1 ≠ (T b).2.1)
section LYR
variable {p : Program} {l : Launch} {e : Env} {R : Room} {s : State} {m : MethodId} {args : Array Value} {below : List Frame} {meth : Method} {c : Code} {cells slots : Nat} {Q : State → Prop}
variable {cc : ByteArray} {nL pc : Nat} {own : String} {Ts : List Cond} {D : va_G} {cl : List vw_C} {tys : List (ClassId × FieldType)} {A : Nat → Prop} {H0 : Heap} {w : va_W} {lv : List (Option Value)} {st : List Value}
variable {Ly : Nat → ly_C} {N : Nat} {ad : Nat → Nat} {ca : Nat → ClassId} {S S' : Nat → Nat → Int32} {x : va_W}
theorem ev_get (X : ECx p s m args c cc nL own Ts D cl tys A H0) {idx ci k : Nat} {fin : Bool} {ty : FieldType} (F : Fk cl Ts own idx ci k fin ty) (q0 : Nat) {a : Nat} {fs : List Value} (he : w[q0]? = some (a, .inr (ci, fs))) {v : Value} (hv : fs[k]? = some v) (d : decode cc pc = .ok (.getfield idx, 3))
    (kk : EV p l e R s m args below meth c cells slots Q nL D cl A H0 w (pc + 3) lv (v :: st)) : EV p l e R s m args below meth c cells slots Q nL D cl A H0 w pc lv (.ref a :: st) := fun H locs ls hP hD hS hl => by
  obtain ⟨C, T, n, t0, h1, h2, h3, h4, -, -, -, -⟩ := F
  exact va_get X.1.1 X.1.2.1 X.1.2.2.2.2 h2 X.1.2.2.2.1 X.2.1 hP q0 he h1 k h3 (X.1.2.2.2.2 _ h4) (fun x h => h) hv d (kk H locs ls hP hD hS hl)
theorem ev_put (X : ECx p s m args c cc nL own Ts D cl tys A H0) {idx ci k : Nat} {ty : FieldType} (F : Fk cl Ts own idx ci k false ty) (q0 : Nat) {a : Nat} {fs : List Value} (he : w[q0]? = some (a, .inr (ci, fs))) {v : Value} (hn : narrow ty v = v) (hfit : fits ty v = true) (hl0 : k < fs.length) (d : decode cc pc = .ok (.putfield idx, 3))
    (kk : EV p l e R s m args below meth c cells slots Q nL D cl A H0 (w.set q0 (a, .inr (ci, fs.set k v))) (pc + 3) lv st) : EV p l e R s m args below meth c cells slots Q nL D cl A H0 w pc lv (v :: .ref a :: st) := fun H locs ls hP hD hS hl => by
  obtain ⟨C, T, n, t0, h1, h2, h3, h4, h5, h6, h7, h8⟩ := F
  exact va_put X.1.1 X.1.2.1 X.1.2.2.2.2 h2 t0 h7 h8 X.1.2.2.2.1 X.2.1 hP hD hS q0 he h1 k h3 (X.1.2.2.2.2 _ h4) (fun x h => h) h5 h6 hn hfit hl0 d (fun H1 locs1 hP1 hD1 hS1 => kk H1 locs1 ls hP1 hD1 hS1 hl)
theorem LyO.at {i ci : Nat} {fl : List (Option Nat)} (L : LyO Ly N i ci fl) : (ly_w Ly N ad ca S x)[i]? = some (ad i, .inr (ci, ly_f ad (S i) 0 fl)) := by
  rw [ly_at L.1]
  unfold ly_e
  rw [L.2]
theorem LyI.at {i n : Nat} (L : LyI Ly N i n) : (ly_w Ly N ad ca S x)[i]? = some (ad i, .inl (ca 0, n, .inl (S i))) := by
  rw [ly_at L.1]
  unfold ly_e
  rw [L.2.1]
theorem LyR.at {i t n b sd : Nat} (L : LyR Ly N i t n b sd) : (ly_w Ly N ad ca S x)[i]? = some (ad i, .inl (ca t, n, .inr (.inr (.inr (.inr (fun k => some (ad (b + sd * k)))))))) := by
  rw [ly_at L.1]
  unfold ly_e
  rw [L.2.1]
theorem ev_getI (X : ECx p s m args c cc nL own Ts D cl tys A H0) {idx ci k i : Nat} {fin : Bool} {ty : FieldType} {fl : List (Option Nat)} (F : Fk cl Ts own idx ci k fin ty) (L : LyO Ly N i ci fl) (hf : fl[k]? = some none) (d : decode cc pc = .ok (.getfield idx, 3))
    (kk : EV p l e R s m args below meth c cells slots Q nL D cl A H0 (ly_w Ly N ad ca S x) (pc + 3) lv (.int (S i k) :: st)) : EV p l e R s m args below meth c cells slots Q nL D cl A H0 (ly_w Ly N ad ca S x) pc lv (.ref (ad i) :: st) :=
  ev_get X F i L.at (v := .int (S i k)) (by rw [ly_f_at, hf]; simp [ly_v]) d kk
theorem ev_getR (X : ECx p s m args c cc nL own Ts D cl tys A H0) {idx ci k i t : Nat} {fin : Bool} {ty : FieldType} {fl : List (Option Nat)} (F : Fk cl Ts own idx ci k fin ty) (L : LyO Ly N i ci fl) (hf : fl[k]? = some (some t)) (d : decode cc pc = .ok (.getfield idx, 3))
    (kk : EV p l e R s m args below meth c cells slots Q nL D cl A H0 (ly_w Ly N ad ca S x) (pc + 3) lv (.ref (ad t) :: st)) : EV p l e R s m args below meth c cells slots Q nL D cl A H0 (ly_w Ly N ad ca S x) pc lv (.ref (ad i) :: st) :=
  ev_get X F i L.at (v := .ref (ad t)) (by rw [ly_f_at, hf]; rfl) d kk
theorem ev_putI (X : ECx p s m args c cc nL own Ts D cl tys A H0) {idx ci k i : Nat} {fl : List (Option Nat)} {v : Int32} (F : Fk cl Ts own idx ci k false .int) (L : LyO Ly N i ci fl) (hf : fl[k]? = some none) (d : decode cc pc = .ok (.putfield idx, 3))
    (kk : EV p l e R s m args below meth c cells slots Q nL D cl A H0 (ly_w Ly N ad ca (up2 S i k v) x) (pc + 3) lv st) : EV p l e R s m args below meth c cells slots Q nL D cl A H0 (ly_w Ly N ad ca S x) pc lv (.int v :: .ref (ad i) :: st) := by
  have hlt : k < (ly_f ad (S i) 0 fl).length := by
    have h1 := ly_f_at ad (S i) fl 0 k
    rw [hf] at h1
    exact (List.getElem?_eq_some_iff.mp h1).1
  refine ev_put X F i L.at rfl rfl hlt d ?_
  rw [ly_f_set hf, ly_set (S' := up2 S i k v) L.1 (by unfold ly_e; rw [L.2, up2_eq]) (fun j hj => up2_ne hj)]
  exact kk
theorem ev_iald (X : ECx p s m args c cc nL own Ts D cl tys A H0) {i n j : Nat} {z : Int32} (L : LyI Ly N i n) (ht : tys[0]? = some (ca 0, .int)) (hz : z = nI j) (hj : j < n) (d : decode cc pc = .ok (.iaload, 1))
    (kk : EV p l e R s m args below meth c cells slots Q nL D cl A H0 (ly_w Ly N ad ca S x) (pc + 1) lv (.int (S i j) :: st)) : EV p l e R s m args below meth c cells slots Q nL D cl A H0 (ly_w Ly N ad ca S x) pc lv (.int z :: .ref (ad i) :: st) := fun H locs ls hP hD hS hl => by
  subst hz
  refine va_iald X.1.1 X.1.2.1 X.2.1 hP i 0 L.at ht (nI_in hj L.2.2) d ?_
  rw [nI_clamp (Nat.lt_trans hj L.2.2)]
  exact kk H locs ls hP hD hS hl
theorem ev_iast (X : ECx p s m args c cc nL own Ts D cl tys A H0) {i n j : Nat} {z v : Int32} (L : LyI Ly N i n) (ht : tys[0]? = some (ca 0, .int)) (hz : z = nI j) (hj : j < n) (d : decode cc pc = .ok (.iastore, 1))
    (kk : EV p l e R s m args below meth c cells slots Q nL D cl A H0 (ly_w Ly N ad ca (up2 S i j v) x) (pc + 1) lv st) : EV p l e R s m args below meth c cells slots Q nL D cl A H0 (ly_w Ly N ad ca S x) pc lv (.int v :: .int z :: .ref (ad i) :: st) := fun H locs ls hP hD hS hl => by
  subst hz
  refine va_iast X.1.1 X.1.2.1 X.2.1 hP hD hS i 0 L.at ht (nI_in hj L.2.2) d (fun H1 locs1 hP1 hD1 hS1 => ?_)
  rw [nI_clamp (Nat.lt_trans hj L.2.2), ly_set (S' := up2 S i j v) L.1 (by unfold ly_e; rw [L.2.1, up2_eq]) (fun j hj => up2_ne hj)] at hP1 hD1
  exact kk H1 locs1 ls hP1 hD1 hS1 hl
theorem ev_aald (X : ECx p s m args c cc nL own Ts D cl tys A H0) {i t n b sd j : Nat} {z : Int32} {C : String} (L : LyR Ly N i t n b sd) (ht : tys[t]? = some (ca t, .object C)) (hz : z = nI j) (hj : j < n) (d : decode cc pc = .ok (.aaload, 1))
    (kk : EV p l e R s m args below meth c cells slots Q nL D cl A H0 (ly_w Ly N ad ca S x) (pc + 1) lv (.ref (ad (b + sd * j)) :: st)) : EV p l e R s m args below meth c cells slots Q nL D cl A H0 (ly_w Ly N ad ca S x) pc lv (.int z :: .ref (ad i) :: st) := fun H locs ls hP hD hS hl => by
  subst hz
  refine va_aldq X.1.1 X.1.2.1 X.2.1 hP i t L.at ht (nI_in hj L.2.2) d ?_
  rw [nI_clamp (Nat.lt_trans hj L.2.2)]
  exact kk H locs ls hP hD hS hl
/-- a call on an object of the layout -/
theorem ev_cV (X : ECx p s m args c cc nL own Ts D cl tys A H0) {y : MethodName} {bytes : ByteArray} {maxL n idx d' i ci : Nat} {ret : Option FieldType} {As st0 : List Value} {v : Option Value} {C : String} {fl : List (Option Nat)} {r : vw_C}
    (F : MkV Ts own idx y C bytes maxL ret n) (hc : Ct l cl tys Ts D y bytes maxL ret (rmd d') (.ref (ad i) :: As) (ly_w Ly N ad ca S x) (ly_w Ly N ad ca S' x) v) (L : LyO Ly N i ci fl) (hcl : cl[ci]? = some r) (hC : r.1 = C) (hR : d' + 1 ≤ R.frames ∧ 8 + (maxL + 11) + 32 * d' ≤ R.locals) (hcs : cells ≤ R.cells ∧ slots ≤ R.slots) (d : decode cc pc = .ok (.invokevirtual idx, 3)) (hst : st0 = As.reverse ++ .ref (ad i) :: st) (hn : As.length = n) (hcat : (st.map fun v => v.category).sum ≤ 8)
    (k : EV p l e R s m args below meth c cells slots Q nL D cl A H0 (ly_w Ly N ad ca S' x) (pc + 3) lv (v.toList ++ st)) : EV p l e R s m args below meth c cells slots Q nL D cl A H0 (ly_w Ly N ad ca S x) pc lv st0 :=
  ev_callV X F hc ⟨i, ci, _, r, L.at, hcl, hC⟩ (fun B h => ly_D h) hR hcs d hst hn hcat k
theorem ev_cS (X : ECx p s m args c cc nL own Ts D cl tys A H0) {y : MethodName} {bytes : ByteArray} {maxL n idx d' : Nat} {ret : Option FieldType} {As st0 : List Value} {v : Option Value}
    (F : MkS Ts own idx y bytes maxL ret n) (hc : Ct l cl tys Ts D y bytes maxL ret (rmd d') As (ly_w Ly N ad ca S x) (ly_w Ly N ad ca S' x) v) (hR : d' + 1 ≤ R.frames ∧ 8 + (maxL + 11) + 32 * d' ≤ R.locals) (hcs : cells ≤ R.cells ∧ slots ≤ R.slots) (d : decode cc pc = .ok (.invokestatic idx, 3)) (hst : st0 = As.reverse ++ st) (hn : As.length = n) (hcat : (st.map fun v => v.category).sum ≤ 8)
    (k : EV p l e R s m args below meth c cells slots Q nL D cl A H0 (ly_w Ly N ad ca S' x) (pc + 3) lv (v.toList ++ st)) : EV p l e R s m args below meth c cells slots Q nL D cl A H0 (ly_w Ly N ad ca S x) pc lv st0 :=
  ev_callS X F hc (fun B h => ly_D h) hR hcs d hst hn hcat k
end LYR
section LYC
variable {p : Program} {l : Launch} {e : Env} {R : Room} {s : State} {m : MethodId} {args : Array Value} {below : List Frame} {meth : Method} {c : Code} {cells slots : Nat} {Q : State → Prop}
variable {cc : ByteArray} {nL pc : Nat} {own : String} {Ts : List Cond} {D : va_G} {cl : List vw_C} {tys : List (ClassId × FieldType)} {A : Nat → Prop} {H0 : Heap} {lv : List (Option Value)} {st : List Value}
variable {Ly : Nat → ly_C} {N : Nat} {ad : Nat → Nat} {ca : Nat → ClassId} {S S' : Nat → Nat → Int32} {x : va_W}
theorem ev_cV1 (X : ECx p s m args c cc nL own Ts D cl tys A H0) {y : MethodName} {bytes : ByteArray} {maxL n idx d' i ci : Nat} {ret : Option FieldType} {As st0 : List Value} {v : Value} {C : String} {fl : List (Option Nat)} {r : vw_C}
    (F : MkV Ts own idx y C bytes maxL ret n) (hc : Ct l cl tys Ts D y bytes maxL ret (rmd d') (.ref (ad i) :: As) (ly_w Ly N ad ca S x) (ly_w Ly N ad ca S' x) (some v)) (L : LyO Ly N i ci fl) (hcl : cl[ci]? = some r) (hC : r.1 = C) (hR : d' + 1 ≤ R.frames ∧ 8 + (maxL + 11) + 32 * d' ≤ R.locals) (hcs : cells ≤ R.cells ∧ slots ≤ R.slots) (d : decode cc pc = .ok (.invokevirtual idx, 3)) (hst : st0 = As.reverse ++ .ref (ad i) :: st) (hn : As.length = n) (hcat : (st.map fun v => v.category).sum ≤ 8)
    (k : EV p l e R s m args below meth c cells slots Q nL D cl A H0 (ly_w Ly N ad ca S' x) (pc + 3) lv (v :: st)) : EV p l e R s m args below meth c cells slots Q nL D cl A H0 (ly_w Ly N ad ca S x) pc lv st0 :=
  ev_cV X F hc L hcl hC hR hcs d hst hn hcat k
theorem ev_cV0 (X : ECx p s m args c cc nL own Ts D cl tys A H0) {y : MethodName} {bytes : ByteArray} {maxL n idx d' i ci : Nat} {ret : Option FieldType} {As st0 : List Value} {C : String} {fl : List (Option Nat)} {r : vw_C}
    (F : MkV Ts own idx y C bytes maxL ret n) (hc : Ct l cl tys Ts D y bytes maxL ret (rmd d') (.ref (ad i) :: As) (ly_w Ly N ad ca S x) (ly_w Ly N ad ca S' x) none) (L : LyO Ly N i ci fl) (hcl : cl[ci]? = some r) (hC : r.1 = C) (hR : d' + 1 ≤ R.frames ∧ 8 + (maxL + 11) + 32 * d' ≤ R.locals) (hcs : cells ≤ R.cells ∧ slots ≤ R.slots) (d : decode cc pc = .ok (.invokevirtual idx, 3)) (hst : st0 = As.reverse ++ .ref (ad i) :: st) (hn : As.length = n) (hcat : (st.map fun v => v.category).sum ≤ 8)
    (k : EV p l e R s m args below meth c cells slots Q nL D cl A H0 (ly_w Ly N ad ca S' x) (pc + 3) lv st) : EV p l e R s m args below meth c cells slots Q nL D cl A H0 (ly_w Ly N ad ca S x) pc lv st0 :=
  ev_cV X F hc L hcl hC hR hcs d hst hn hcat k
theorem ev_cS1 (X : ECx p s m args c cc nL own Ts D cl tys A H0) {y : MethodName} {bytes : ByteArray} {maxL n idx d' : Nat} {ret : Option FieldType} {As st0 : List Value} {v : Value}
    (F : MkS Ts own idx y bytes maxL ret n) (hc : Ct l cl tys Ts D y bytes maxL ret (rmd d') As (ly_w Ly N ad ca S x) (ly_w Ly N ad ca S' x) (some v)) (hR : d' + 1 ≤ R.frames ∧ 8 + (maxL + 11) + 32 * d' ≤ R.locals) (hcs : cells ≤ R.cells ∧ slots ≤ R.slots) (d : decode cc pc = .ok (.invokestatic idx, 3)) (hst : st0 = As.reverse ++ st) (hn : As.length = n) (hcat : (st.map fun v => v.category).sum ≤ 8)
    (k : EV p l e R s m args below meth c cells slots Q nL D cl A H0 (ly_w Ly N ad ca S' x) (pc + 3) lv (v :: st)) : EV p l e R s m args below meth c cells slots Q nL D cl A H0 (ly_w Ly N ad ca S x) pc lv st0 :=
  ev_cS X F hc hR hcs d hst hn hcat k
theorem ev_cS0 (X : ECx p s m args c cc nL own Ts D cl tys A H0) {y : MethodName} {bytes : ByteArray} {maxL n idx d' : Nat} {ret : Option FieldType} {As st0 : List Value}
    (F : MkS Ts own idx y bytes maxL ret n) (hc : Ct l cl tys Ts D y bytes maxL ret (rmd d') As (ly_w Ly N ad ca S x) (ly_w Ly N ad ca S' x) none) (hR : d' + 1 ≤ R.frames ∧ 8 + (maxL + 11) + 32 * d' ≤ R.locals) (hcs : cells ≤ R.cells ∧ slots ≤ R.slots) (d : decode cc pc = .ok (.invokestatic idx, 3)) (hst : st0 = As.reverse ++ st) (hn : As.length = n) (hcat : (st.map fun v => v.category).sum ≤ 8)
    (k : EV p l e R s m args below meth c cells slots Q nL D cl A H0 (ly_w Ly N ad ca S' x) (pc + 3) lv st) : EV p l e R s m args below meth c cells slots Q nL D cl A H0 (ly_w Ly N ad ca S x) pc lv st0 :=
  ev_cS X F hc hR hcs d hst hn hcat k
theorem ev_ent {y : MethodName} {ret : Option FieldType} {d : Nat} {as : List Value} {w w' : va_W} {v : Option Value} (lv0 : List (Option Value)) (hlv : as.map some ++ List.replicate (nL - as.length) none = lv0) (hy : plainName y.cls = true) (hn : as.length ≤ nL) (hcat : as.all (fun v => v.category == 1) = true) (hG : GoodIn Ts Ts)
    (body : ∀ (p : Program) (e : Env) (s : State) (m : MethodId) (args : Array Value) (below : List Frame) (meth : Method) (c : Code) (A : Nat → Prop), ECx p s m args c cc nL y.cls Ts D cl tys A s.heap → meth.sig.returnType = ret → meth.locks = false →
      EV p l e (rmd d) s m args below meth c 0 0 (MQ below (QQ cl D A w' v) args s 0 0 A) nL D cl A s.heap w 0 lv0 []) : Ct l cl tys Ts D y cc nL ret (rmd d) as w w' v := by
  subst hlv
  exact ev_enter hy hn (fun v hv => by simpa using List.all_eq_true.mp hcat v hv) hG body
theorem ev_iretL (X : ECx p s m args c cc nL own Ts D cl tys A s.heap) (hr : meth.sig.returnType = some .int) (hk : meth.locks = false) {r : Int32} {v : Option Value} (d : decode cc pc = .ok (.ireturn, 1)) (hv : some (.int r) = v) (hS : S = S') : EV p l e R s m args below meth c cells slots (MQ below (QQ cl D A (ly_w Ly N ad ca S' x) v) args s cells slots A) nL D cl A s.heap (ly_w Ly N ad ca S x) pc lv [.int r] := by
  subst hS
  exact ev_iret (H0 := s.heap) X hr hk d hv rfl
theorem ev_zretL (X : ECx p s m args c cc nL own Ts D cl tys A s.heap) (hr : meth.sig.returnType = some .boolean) (hk : meth.locks = false) {r : Int32} {b : Bool} (d : decode cc pc = .ok (.ireturn, 1)) (hv : r = b2i b) (hS : S = S') : EV p l e R s m args below meth c cells slots (MQ below (QQ cl D A (ly_w Ly N ad ca S' x) (some (.int (b2i b)))) args s cells slots A) nL D cl A s.heap (ly_w Ly N ad ca S x) pc lv [.int r] := by
  subst hS
  subst hv
  exact ev_zret (H0 := s.heap) X hr hk (b2i_nar b) d rfl rfl
theorem ev_lretL (X : ECx p s m args c cc nL own Ts D cl tys A s.heap) (hr : meth.sig.returnType = some .long) (hk : meth.locks = false) {r : Int64} {v : Option Value} (d : decode cc pc = .ok (.lreturn, 1)) (hv : some (.long r) = v) (hS : S = S') : EV p l e R s m args below meth c cells slots (MQ below (QQ cl D A (ly_w Ly N ad ca S' x) v) args s cells slots A) nL D cl A s.heap (ly_w Ly N ad ca S x) pc lv [.long r] := by
  subst hS
  exact ev_lret (H0 := s.heap) X hr hk d hv rfl
theorem ev_vretL (X : ECx p s m args c cc nL own Ts D cl tys A s.heap) (hr : meth.sig.returnType = none) (hk : meth.locks = false) (d : decode cc pc = .ok (.return_, 1)) (hS : S = S') : EV p l e R s m args below meth c cells slots (MQ below (QQ cl D A (ly_w Ly N ad ca S' x) none) args s cells slots A) nL D cl A s.heap (ly_w Ly N ad ca S x) pc lv [] := by
  subst hS
  exact ev_vret (H0 := s.heap) X hr hk d rfl rfl
end LYC
