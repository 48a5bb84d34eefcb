-- ===== the law's script =====
section EVS
variable {p : Program} {l : Launch} {e : Env} {R : Room} {s : State} {m : MethodId} {args : Array Value} {below : List Frame} {meth : Method} {c : Code} {cells slots : Nat} {Q : State → Prop}
variable {cc : ByteArray} {nL pc : Nat} {own : String} {Ts : List Cond} {D : va_G} {cl : List vw_C} {tys : List (ClassId × FieldType)} {A : Nat → Prop} {H0 : Heap} {w : va_W} {lv : List (Option Value)} {st : List Value}
theorem ev_sld (X : ECx p s m args c cc nL own Ts D cl tys A H0) {b L : Nat} {xs : Nat → Int32} (hX : va_X b L xs s H0) (hbl : b < H0.size) (hbA : ¬ A b) {z : Int32} {j : Nat} (hz : z = nI j) (hj : j < L) (hL : L < 2 ^ 31) (d : decode cc pc = .ok (.iaload, 1))
    (k : EV p l e R s m args below meth c cells slots Q nL D cl A H0 w (pc + 1) lv (.int (xs j) :: st)) : EV p l e R s m args below meth c cells slots Q nL D cl A H0 w pc lv (.int z :: .ref b :: st) := fun H locs ls hP hD hS hl => by
  subst hz
  refine va_sld X.1.1 X.1.2.1 hX hbl hbA hS (nI_in hj hL) d ?_
  rw [nI_clamp (Nat.lt_trans hj hL)]
  exact k H locs ls hP hD hS hl
theorem ev_slen (X : ECx p s m args c cc nL own Ts D cl tys A H0) {b L : Nat} {xs : Nat → Int32} (hX : va_X b L xs s H0) (hbl : b < H0.size) (hbA : ¬ A b) (d : decode cc pc = .ok (.arraylength, 1))
    (k : EV p l e R s m args below meth c cells slots Q nL D cl A H0 w (pc + 1) lv (.int (nI L) :: st)) : EV p l e R s m args below meth c cells slots Q nL D cl A H0 w pc lv (.ref b :: st) := fun H locs ls hP hD hS hl =>
  va_slen X.1.1 X.1.2.1 hX hbl hbA hS d (k H locs ls hP hD hS hl)
end EVS
def QS (sz : Nat) (v : Value) : Array Value → State → Outcome → State → Prop := fun _ st oc t => oc = .returned (some v) ∧ va_F (fun q => sz ≤ q) st t
def CPS (b L : Nat) (xs : Nat → Int32) (as : List Value) (sz : Nat) : Array Value → State → Prop := va_Pc as (fun U => U.heap.size = sz ∧ va_X b L xs U U.heap ∧ b < sz)
theorem CPS.blind {b L : Nat} {xs : Nat → Int32} {as : List Value} {sz : Nat} : FrameBlind (CPS b L xs as sz) := fun a U g mk q => by
  obtain ⟨q0, q1, qX, q2⟩ := q
  exact ⟨q0, q1, va_X.moved (u := U) (U := U.calling g mk a) (Vm.Alike.refl U.vm) qX, q2⟩
def cellV (L : Nat) (xs : Nat → Int32) : Int32 := if 0 < L then xs 0 else 0
set_option maxHeartbeats 4000000 in
set_option maxRecDepth 100000 in
theorem c_cell {l : Launch} {b L sz : Nat} {xs : Nat → Int32} (hL : L < 2 ^ 31) : Met l y_L_cell (.code y_L_cell b_L_cell 2 (some .int) :: TT) (rmd 0) (CPS b L xs [.ref b, .int 0] sz) (QS sz (.int (cellV L xs))) 0 0 (fun q => sz ≤ q) := by
  refine Met.ofW (cc := b_L_cell) (maxL := 2) (ret := some .int) (by decide) rfl ?_
  intro p e s m args below meth c s₁ B hml hv
  obtain ⟨rfl, hsz, hX, hbs⟩ := hv
  subst hsz
  have hts := atoms_spec (ws := .code y_L_cell b_L_cell 2 (some .int) :: TT) B.pre
  have hown : s.vm.findClass y_L_cell.cls = some m.cls := findClass_of_methodNamed B.named
  rw [lg_entry_eq]
  have X : ECx p s m ([Value.ref b, Value.int 0] : List Value).toArray c b_L_cell 2 y_L_cell.cls TT (fun _ => 0, fun _ _ => 0) [] [] (fun q => s.heap.size ≤ q) s.heap := ⟨⟨B.exec, B.bytes, hml, hown, fun w hw => hts w (List.mem_cons_of_mem _ hw)⟩, ⟨fun c q h => by simp at h, fun k q h => by simp at h⟩, fun q h => h, gTT⟩
  have hbA : ¬ (fun q => s.heap.size ≤ q) b := fun q => by dsimp at q; omega
  have fin : ∀ (pc : Nat) (lv : List (Option Value)) (v : Int32), v = cellV L xs → decode b_L_cell pc = .ok (.ireturn, 1) → EV p l e (rmd 0) s m ([Value.ref b, Value.int 0] : List Value).toArray below meth c 0 0 (MQ below (QS s.heap.size (.int (cellV L xs))) ([Value.ref b, Value.int 0] : List Value).toArray s 0 0 (fun q => s.heap.size ≤ q)) 2 (fun _ => 0, fun _ _ => 0) [] (fun q => s.heap.size ≤ q) s.heap [] pc lv [.int v] := by
    intro pc lv v hv d H locs ls hP hD hS hl
    subst hv
    exact W.iret X.1.1 X.1.2.1 B.returns (fun t ht hW => ⟨rfl, hS.F ht⟩) hS.2.2 d B.notSynchronized
  have body : EV p l e (rmd 0) s m ([Value.ref b, Value.int 0] : List Value).toArray below meth c 0 0 (MQ below (QS s.heap.size (.int (cellV L xs))) ([Value.ref b, Value.int 0] : List Value).toArray s 0 0 (fun q => s.heap.size ≤ q)) 2 (fun _ => 0, fun _ _ => 0) [] (fun q => s.heap.size ≤ q) s.heap [] 0 [some (.ref b), some (.int 0)] [] := by
    refine ev_iload_n X d_L_cell_0 rfl ?_
    refine ev_aload_n X d_L_cell_1 rfl ?_
    refine ev_slen X hX hbs hbA d_L_cell_2 ?_
    refine ev_icmp_ge (tgt := 12) X d_L_cell_3 (by decide) (fun h3 => ?_) (fun h3 => ?_)
    · refine ev_iconst (v := 0) X d_L_cell_12 (by decide) ?_
      refine fin _ _ _ ?_ d_L_cell_13
      have : L = 0 := by
        by_cases q : L = 0
        · exact q
        · exact absurd h3 (nI_nle (by omega) hL)
      unfold cellV
      rw [if_neg (by omega)]
    · have h0 : 0 < L := by
        by_cases q : 0 < L
        · exact q
        · exact absurd (by rw [show L = 0 by omega]; decide) h3
      refine ev_aload_n X d_L_cell_6 rfl ?_
      refine ev_iload_n X d_L_cell_7 rfl ?_
      refine ev_sld (j := 0) X hX hbs hbA rfl h0 hL d_L_cell_8 ?_
      refine ev_goto (tgt := 13) X d_L_cell_9 (by decide) ?_
      refine fin _ _ _ ?_ d_L_cell_13
      unfold cellV
      rw [if_pos h0]
  exact body s.heap [] _ (fun k q h => by simp at h) ⟨fun i j p q h => by simp at h, fun k q h => by simp at h⟩ va_S.rf (ll_entry (by intro v hv; simp at hv; rcases hv with rfl | rfl <;> rfl) (Nat.le_of_ble_eq_true rfl))
section EVT
variable {p : Program} {l : Launch} {e : Env} {R : Room} {s : State} {m : MethodId} {args : Array Value} {below : List Frame} {meth : Method} {c : Code} {cells slots : Nat} {Q : State → Prop}
variable {cc : ByteArray} {nL pc : Nat} {own : String} {D : va_G} {cl : List vw_C} {tys : List (ClassId × FieldType)} {A : Nat → Prop} {w : va_W} {lv : List (Option Value)} {st : List Value}
/-- the law asks for the script's first int -/
theorem ev_cell (X : ECx p s m args c cc nL R_L TT D cl tys A s.heap) {b L : Nat} {xs : Nat → Int32} (hX : va_X b L xs s s.heap) (hbl : b < s.heap.size) (hbA : ¬ A b) (hL : L < 2 ^ 31) (hR : 1 ≤ R.frames ∧ 21 ≤ R.locals) (hcs : cells ≤ R.cells ∧ slots ≤ R.slots) (d : decode cc pc = .ok (.invokestatic 9, 3)) (hcat : (st.map fun v => v.category).sum ≤ 8)
    (k : EV p l e R s m args below meth c cells slots Q nL D cl A s.heap w (pc + 3) lv (.int (cellV L xs) :: st)) : EV p l e R s m args below meth c cells slots Q nL D cl A s.heap w pc lv (.int 0 :: .ref b :: st) := by
  intro H locs ls hP hD hS hl
  obtain ⟨⟨m1, m2, m3, m4⟩, hd⟩ := m_L_9
  obtain ⟨hx, hb, hml, hown, hts⟩ := X.1
  have hG : GoodIn TT (wsS R_L 9 y_L_cell (.code y_L_cell b_L_cell 2 (some .int) :: TT)) := by
    intro z hz
    refine X.2.2.2 z ?_
    simp only [wsS, List.mem_append, List.mem_cons, List.not_mem_nil, or_false] at hz
    rcases hz with (rfl | rfl | rfl) | rfl | hz
    · exact m1
    · exact m2
    · exact m3
    · exact m4
    · exact hz
  have hbH : b < H.size := Nat.lt_of_lt_of_le hbl hS.1
  have hXH : va_X b L xs s H := hX.kept (hS.2.1 b hbl hbA)
  have hr := va_runS (p := p) (e := e) (R := R) (below := below) (meth := meth) (locs := locs) (cells := cells) (slots := slots) (As := [.ref b, .int 0]) (rest := st) (g := F0 m pc ls (.int 0 :: .ref b :: st)) ⟨hx, hb, hml, hown, hts⟩ (c_cell (l := l) (b := b) (L := L) (sz := H.size) (xs := xs) hL) (cwS (rm := rmd 0) 2 hts hG rfl rfl rfl hd ⟨by have := hR.1; exact this, by have := hR.2; exact this⟩) ⟨CPS.blind, fun U hU hW => ⟨rfl, by rw [hU], by rw [hU]; exact hXH.moved hW.alike, hbH⟩⟩ rfl rfl hl.1.1 rfl (lv_room hcat) d hcs
  intro T hT XX
  obtain ⟨v', st₀, t, T', L', h0, X', hL', e1, e2, ⟨hv, hz, hk⟩, stp⟩ := hr T hT XX
  cases hv
  rw [h0] at hz hk
  have hsub : ∀ q : Nat, H.size ≤ q → A q := fun q h => X.2.2.1 q (Nat.le_trans hS.1 h)
  have hold : ∀ q : Nat, q < H.size → T'.heap[q]? = H[q]? := fun q h => by rw [e1]; exact hk q h (fun z => absurd h (by dsimp at z; omega))
  obtain ⟨t2, a1, b1⟩ := k T'.heap (locs ++ L') ls (hP.kept (fun i q hq => hold q.1 (hP i q hq).lt)) hD
    ⟨Nat.le_trans hS.1 (by rw [e1]; exact hz), fun q h1 h2 => by rw [hold q (Nat.lt_of_lt_of_le h1 hS.1)]; exact hS.2.1 q h1 h2, fun q hq => by
      rcases List.mem_append.mp hq with h | h
      · exact hS.2.2 q h
      · exact hsub _ (hL' q h)⟩ hl T' rfl X'
  exact ⟨t2, stp t2 a1, b1⟩
theorem va_D_left {B : Nat → Prop} {x y : va_W} (h : va_D B (x ++ y)) : va_D B x :=
  ⟨fun i j p q hi hj e => h.1 i j p q (by rw [List.getElem?_append_left (List.getElem?_eq_some_iff.mp hi).1]; exact hi) (by rw [List.getElem?_append_left (List.getElem?_eq_some_iff.mp hj).1]; exact hj) e, fun k q hk => h.2 k q (by rw [List.getElem?_append_left (List.getElem?_eq_some_iff.mp hk).1]; exact hk)⟩
theorem va_D_right {B : Nat → Prop} {x y : va_W} (h : va_D B (x ++ y)) : va_D B y :=
  ⟨fun i j p q hi hj e => by
    have := h.1 (x.length + i) (x.length + j) p q (by rw [List.getElem?_append_right (by omega), Nat.add_sub_cancel_left]; exact hi) (by rw [List.getElem?_append_right (by omega), Nat.add_sub_cancel_left]; exact hj) e
    omega, fun k q hk => h.2 (x.length + k) q (by rw [List.getElem?_append_right (by omega), Nat.add_sub_cancel_left]; exact hk)⟩
theorem va_D_swap {B : Nat → Prop} {x y : va_W} (h : va_D B (x ++ y)) : va_D B (y ++ x) := by
  refine va_D.app (va_D_right h) (va_D_left h) (fun i j p q hi hj e => ?_)
  have hj' := (List.getElem?_eq_some_iff.mp hj).1
  have := h.1 (x.length + i) j p q (by rw [List.getElem?_append_right (by omega), Nat.add_sub_cancel_left]; exact hi) (by rw [List.getElem?_append_left hj']; exact hj) e
  omega
theorem ev_sw {x y : va_W} (k : EV p l e R s m args below meth c cells slots Q nL D cl A s.heap (y ++ x) pc lv st) : EV p l e R s m args below meth c cells slots Q nL D cl A s.heap (x ++ y) pc lv st := fun H locs ls hP hD hS hl =>
  k H locs ls (fun i q hq => by
    rcases List.mem_append.mp (List.mem_of_getElem? hq) with h | h
    · obtain ⟨i', hi⟩ := List.getElem?_of_mem (List.mem_append_right x h)
      exact hP i' q hi
    · obtain ⟨i', hi⟩ := List.getElem?_of_mem (List.mem_append_left y h)
      exact hP i' q hi) (va_D_swap hD) hS hl
theorem ly_app {Ly : Nat → ly_C} {N : Nat} {ad : Nat → Nat} {ca : Nat → ClassId} {S : St} {x : va_W} : ly_w Ly N ad ca S [] ++ x = ly_w Ly N ad ca S x := by
  unfold ly_w
  rw [List.append_nil]
/-- the class's cells first, or the reference's -/
theorem ev_toM {ad ad2 : Nat → Nat} {ca : Nat → ClassId} {S M : St} (k : EV p l e R s m args below meth c cells slots Q nL D cl A s.heap (ly_w lyM 14 ad2 ca M (ly_w lyX 41 ad ca S [])) pc lv st) : EV p l e R s m args below meth c cells slots Q nL D cl A s.heap (ly_w lyX 41 ad ca S (ly_w lyM 14 ad2 ca M [])) pc lv st :=
  ev_w ly_app.symm (ev_sw (ev_w ly_app k))
theorem ev_toX {ad ad2 : Nat → Nat} {ca : Nat → ClassId} {S M : St} (k : EV p l e R s m args below meth c cells slots Q nL D cl A s.heap (ly_w lyX 41 ad ca S (ly_w lyM 14 ad2 ca M [])) pc lv st) : EV p l e R s m args below meth c cells slots Q nL D cl A s.heap (ly_w lyM 14 ad2 ca M (ly_w lyX 41 ad ca S [])) pc lv st :=
  ev_w ly_app.symm (ev_sw (ev_w ly_app k))
end EVT
theorem lt6 {L i : Nat} (hL : L ≤ 3073) (hi : i ≤ 4000) (h : ¬ nI L - 6 < nI i) : i + 6 ≤ L := by
  have h2 : ¬ (nI L - 6).toInt < (nI i).toInt := fun q => h (Int32.lt_iff_toInt_lt.mpr q)
  rw [show (6 : Int32) = nI 6 from rfl, pk_sub_toInt (by omega) (by decide), nI_toInt (by omega)] at h2
  omega
theorem lcmp0 {x y : Int64} (h : x = y) : lg_cmp x y = 0 := by
  subst h
  simp [lg_cmp]
/-- what the tables say at the law's start -/
theorem start_K {s : State} {b : Nat} (hts : ∀ w ∈ lw_tbl, w.before #[Value.ref b] s = true) : ∃ (D : va_G) (ca : Nat → ClassId), va_K D clX (tyX ca) s ∧ AOx s := by
  have hT : ∀ w ∈ TT, w.before #[Value.ref b] s = true := fun w hw => hts w (List.mem_filter.mp hw).1
  obtain ⟨c0, i0, k0⟩ := u_known (C := R_X) (T := F_X) (N := 6) hT u_X (hT _ in_X)
  obtain ⟨c1, i1, k1⟩ := u_known (C := R_G) (T := F_G) (N := 3) hT u_G (hT _ in_G)
  obtain ⟨c2, i2, k2⟩ := u_known (C := R_P) (T := F_P) (N := 3) hT u_P (hT _ in_P)
  obtain ⟨c3, i3, k3⟩ := u_known (C := R_E) (T := F_E) (N := 9) hT u_E (hT _ in_E)
  obtain ⟨c4, i4, k4⟩ := u_known (C := R_M) (T := F_M) (N := 15) hT u_M (hT _ in_M)
  have aP : (Cond.arrayOver (.object R_P)).before #[Value.ref b] s = true := hts _ (List.mem_append_right _ (List.mem_of_getElem? (i := 59) (by decide +kernel)))
  have aE : (Cond.arrayOver (.object R_E)).before #[Value.ref b] s = true := hts _ (List.mem_append_right _ (List.mem_of_getElem? (i := 15) (by decide +kernel)))
  have aG : (Cond.arrayOver (.object R_G)).before #[Value.ref b] s = true := hts _ (List.mem_append_right _ (List.mem_of_getElem? (i := 66) (by decide +kernel)))
  obtain ⟨d0, q0, w0, f0, f1, f2⟩ := Cond.arrayClass_spec (hT _ ac_i)
  obtain ⟨w1, d1, q1, g1, g2, g3, g4, g5⟩ := Cond.arrayOver_spec aP
  obtain ⟨w2, d2, q2, r1, r2, r3, r4, r5⟩ := Cond.arrayOver_spec aE
  obtain ⟨w3, d3, q3, t1, t2, t3, t4, t5⟩ := Cond.arrayOver_spec aG
  refine ⟨(fun k => if k = 0 then c0 else if k = 1 then c1 else if k = 2 then c2 else if k = 3 then c3 else c4, fun k => if k = 0 then i0 else if k = 1 then i1 else if k = 2 then i2 else if k = 3 then i3 else i4), fun k => if k = 0 then d0 else if k = 1 then d1 else if k = 2 then d2 else d3, ⟨fun k q hq => ?_, fun k q hq => ?_⟩, va_AO.of aP, va_AO.of aE, va_AO.of aG⟩
  · have hk : k < 5 := (List.getElem?_eq_some_iff.mp hq).1
    have hk : k = 0 ∨ k = 1 ∨ k = 2 ∨ k = 3 ∨ k = 4 := by omega
    rcases hk with rfl | rfl | rfl | rfl | rfl <;> cases hq
    · exact k0
    · exact k1
    · exact k2
    · exact k3
    · exact k4
  · have hk : k < 4 := (List.getElem?_eq_some_iff.mp hq).1
    have hk : k = 0 ∨ k = 1 ∨ k = 2 ∨ k = 3 := by omega
    rcases hk with rfl | rfl | rfl | rfl <;> cases hq
    · exact ⟨fun n z => ⟨fun k h => (by cases h), q0, f1, w0, f2⟩, f0⟩
    · exact ⟨fun n z => ⟨fun k h => (by cases h), q1, g3, w1, g4⟩, q1, w1, g3, g4, g1, g5⟩
    · exact ⟨fun n z => ⟨fun k h => (by cases h), q2, r3, w2, r4⟩, q2, w2, r3, r4, r1, r5⟩
    · exact ⟨fun n z => ⟨fun k h => (by cases h), q3, t3, w3, t4⟩, q3, w3, t3, t4, t1, t5⟩
