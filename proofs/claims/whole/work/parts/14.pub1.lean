theorem en_ne_all : ∀ i, i < 41 → ly_eq (lyX i) (.inl (3, flE i)) = true → 4 ≤ i ∧ i < 12 := by decide +kernel
theorem en_ne {i : Nat} (L : LyO lyX 41 i 3 (flE i)) : 4 ≤ i ∧ i < 12 := en_ne_all i L.1 (ly_eq_iff.mpr L.2)
theorem PeOK.of {S T : St} {i : Nat} (h : PeOK S i) (e : T i 2 = S i 2) : PeOK T i := by
  unfold PeOK
  rw [e]
  exact h
theorem fil_ne {S : St} {c a b c' : Nat} {v : Int32} (h : c' ≠ c) : fil S c a b v c' = S c' := by
  funext j
  unfold fil
  rw [if_neg (fun q => h q.1)]
theorem arP_ex {F N : Int32} (h : arP F N = true) : ∃ f n, F = nI f ∧ N = nI n ∧ f + n ≤ 16 ∧ 1 ≤ n ∧ n ≤ 8 := by
  simp only [arP, Bool.and_eq_true, Bool.not_eq_true', decide_eq_false_iff_not] at h
  obtain ⟨h1, h2, h3, h4⟩ := h
  obtain ⟨f, hf, rfl⟩ := inr_ex (k := 16) (by decide) rfl h3
  have hN0 : ¬ N < 0 := fun q => h1 (by
    have := Int32.lt_iff_toInt_lt.mp q
    refine Int32.lt_iff_toInt_lt.mpr ?_
    have e0 : (0 : Int32).toInt = 0 := by decide
    have e1 : (1 : Int32).toInt = 1 := by decide
    rw [e0] at this
    rw [e1]
    omega)
  obtain ⟨n, hn, rfl⟩ := nI_of hN0
  have n1 : 1 ≤ n := by
    by_cases q : 1 ≤ n
    · exact q
    · exact absurd (nI_lt (a := n) (b := 1) (by omega) (by decide)) h1
  have n8 : n ≤ 8 := by
    by_cases q : n ≤ 8
    · exact q
    · exact absurd (nI_lt (a := 8) (b := n) (by omega) hn) h2
  obtain ⟨g, hg, e⟩ := inr_ex (k := 16) (by decide) rfl h4
  rw [nI_add, show (1 : Int32) = nI 1 from rfl, pk_sub (by omega), nI_eq (by omega) (by omega)] at e
  exact ⟨f, n, rfl, rfl, by omega, n1, n8⟩
theorem c_X_areSystemPages' {l : Launch} {D : va_G} {ad : Nat → Nat} {ca : Nat → ClassId} {x : va_W} {S : St} {F N : Int32} (h : arP F N = true) : CtX l D ad ca x y_X_areSystemPages b_X_areSystemPages 4 (some .boolean) 0 [.ref (ad 0), .int F, .int N] S S (some (.int (b2i (sysP S F.toNatClampNeg N.toNatClampNeg)))) := by
  obtain ⟨f, n, rfl, rfl, h1, h2, h3⟩ := arP_ex h
  rw [nI_clamp (by omega), nI_clamp (by omega)]
  exact c_X_areSystemPages h1
def mkE1 (S : St) (i : Nat) (F N en sh : Int32) : St := up2 (up2 (up2 (up2 (up2 S i 1 1) i 2 F) i 3 N) i 4 en) i 5 sh
noncomputable def mkE (S : St) (k : Nat) (F N en sh : Int32) : St :=
  sAll (fil (up2 (mkE1 S (4 + 2 * k) F N en sh) (4 + 2 * k) 6 (meaS (mkE1 S (4 + 2 * k) F N en sh) (4 + 2 * k) F.toNatClampNeg N.toNatClampNeg)) 2 F.toNatClampNeg (F.toNatClampNeg + N.toNatClampNeg) (2 + nI k))
def rmE (S : St) (j f n : Nat) : St := sAll (up2 (fil (fil S 1 (16 * f) (16 * (f + n)) 0) 2 f (f + n) 1) j 1 0)
set_option maxHeartbeats 4000000 in
set_option maxRecDepth 100000 in
theorem c_X_makeEnclave {l : Launch} {D : va_G} {ad : Nat → Nat} {ca : Nat → ClassId} {x : va_W} {S : St} {k : Nat} {F N en sh : Int32} (hk4 : k < 4) (ha : arP F N = true) (p0 : PeOK S 13) (p1 : PeOK S 27) : CtX l D ad ca x y_X_makeEnclave b_X_makeEnclave 7 none 5 [.ref (ad 0), .int (nI k), .int F, .int N, .int en, .int sh] S (mkE S k F N en sh) none := by
  refine ev_ent [some (.ref (ad 0)), some (.int (nI k)), some (.int F), some (.int N), some (.int en), some (.int sh), none] rfl (by decide) (Nat.le_of_ble_eq_true rfl) rfl gTT (fun p e s m args below meth c A X hr hk => ?_)
  obtain ⟨f, n, hF, hN, hfn, -, -⟩ := arP_ex ha
  have eF : F.toNatClampNeg = f := by rw [hF, nI_clamp (by omega)]
  have eN : N.toNatClampNeg = n := by rw [hN, nI_clamp (by omega)]
  have n13 : ¬ 13 = 4 + 2 * k := by omega
  have n27 : ¬ 27 = 4 + 2 * k := by omega
  refine ev_aload_n X d_X_makeEnclave_0 rfl ?_
  refine ev_getR X f_X_22 lo_this rfl d_X_makeEnclave_1 ?_
  refine ev_iload_n X d_X_makeEnclave_4 rfl ?_
  refine ev_aald X lr_en rfl rfl hk4 d_X_makeEnclave_5 ?_
  refine ev_astore X d_X_makeEnclave_6 (by decide) ?_
  refine ev_aload X d_X_makeEnclave_8 rfl ?_
  refine ev_iconst (v := 1) X d_X_makeEnclave_10 (by decide) ?_
  refine ev_putI X f_X_86 (lo_en hk4) rfl d_X_makeEnclave_11 ?_
  refine ev_aload X d_X_makeEnclave_14 rfl ?_
  refine ev_iload_n X d_X_makeEnclave_16 rfl ?_
  refine ev_putI X f_X_148 (lo_en hk4) rfl d_X_makeEnclave_17 ?_
  refine ev_aload X d_X_makeEnclave_20 rfl ?_
  refine ev_iload_n X d_X_makeEnclave_22 rfl ?_
  refine ev_putI X f_X_151 (lo_en hk4) rfl d_X_makeEnclave_23 ?_
  refine ev_aload X d_X_makeEnclave_26 rfl ?_
  refine ev_iload X d_X_makeEnclave_28 rfl ?_
  refine ev_putI X f_X_154 (lo_en hk4) rfl d_X_makeEnclave_30 ?_
  refine ev_aload X d_X_makeEnclave_33 rfl ?_
  refine ev_iload X d_X_makeEnclave_35 rfl ?_
  refine ev_putI X f_X_157 (lo_en hk4) rfl d_X_makeEnclave_37 ?_
  refine ev_aload X d_X_makeEnclave_40 rfl ?_
  refine ev_aload_n X d_X_makeEnclave_42 rfl ?_
  refine ev_aload X d_X_makeEnclave_43 rfl ?_
  refine ev_cV1 X m_X_160 (c_X_measure (f := f) (n := n) (lo_en hk4) (by simp [up2_at, hF]) (by simp [up2_at, hN]) hfn) lo_this rfl rfl (by decide) (by decide) d_X_makeEnclave_45 rfl rfl (Nat.le_of_ble_eq_true rfl) ?_
  refine ev_putI X f_X_120 (lo_en hk4) rfl d_X_makeEnclave_48 ?_
  refine ev_aload_n X d_X_makeEnclave_51 rfl ?_
  refine ev_aload X d_X_makeEnclave_52 rfl ?_
  refine ev_iconst (v := 2) X d_X_makeEnclave_54 (by decide) ?_
  refine ev_iload_n X d_X_makeEnclave_55 rfl ?_
  refine ev_iadd X d_X_makeEnclave_56 ?_
  refine ev_cV0 X m_X_164 (c_X_setOwner (f := f) (n := n) (lo_en hk4) (by simp [up2_at, hF]) (by simp [up2_at, hN]) hfn) lo_this rfl rfl (by decide) (by decide) d_X_makeEnclave_57 rfl rfl (Nat.le_of_ble_eq_true rfl) ?_
  refine ev_aload_n X d_X_makeEnclave_60 rfl ?_
  refine ev_cV0 X m_X_34 (c_X_setAllGuards (p0.of (by simp [fil, up2_at, n13])) (p1.of (by simp [fil, up2_at, n27]))) lo_this rfl rfl (by decide) (by decide) d_X_makeEnclave_61 rfl rfl (Nat.le_of_ble_eq_true rfl) ?_
  exact ev_vretL X hr hk d_X_makeEnclave_64 (by unfold mkE; rw [eF, eN]; rfl)
set_option maxHeartbeats 4000000 in
set_option maxRecDepth 100000 in
theorem c_X_removeEnclave {l : Launch} {D : va_G} {ad : Nat → Nat} {ca : Nat → ClassId} {x : va_W} {S : St} {i f n : Nat} (L : LyO lyX 41 i 3 (flE i)) (hf : S i 2 = nI f) (hn : S i 3 = nI n) (hfn : f + n ≤ 16) (p0 : PeOK S 13) (p1 : PeOK S 27) : CtX l D ad ca x y_X_removeEnclave b_X_removeEnclave 4 none 5 [.ref (ad 0), .ref (ad i)] S (rmE S i f n) none := by
  refine ev_ent [some (.ref (ad 0)), some (.ref (ad i)), none, none] rfl (by decide) (Nat.le_of_ble_eq_true rfl) rfl gTT (fun p e s m args below meth c A X hr hk => ?_)
  have hne := en_ne L
  have n13 : ¬ 13 = i := by omega
  have n27 : ¬ 27 = i := by omega
  have loop : ∀ (r k : Nat), k + r = 16 * (f + n) → 16 * f ≤ k → EV p l e (rmd 5) s m args below meth c 0 0 (MQ below (QQ clX D A (ly_w lyX 41 ad ca (rmE S i f n) x) none) args s 0 0 A) 4 D clX A s.heap (ly_w lyX 41 ad ca (fil S 1 (16 * f) k 0) x) 10 [some (.ref (ad 0)), some (.ref (ad i)), some (.int (nI (16 * (f + n)))), some (.int (nI k))] [] := by
    intro r
    induction r with
    | zero =>
      intro k q1 q2
      refine ev_iload_n X d_X_removeEnclave_10 rfl ?_
      refine ev_iload_n X d_X_removeEnclave_11 rfl ?_
      refine ev_icmp_ge (tgt := 28) X d_X_removeEnclave_12 (by decide) (fun h12 => ?_) (fun h12 => ?_)
      · refine ev_aload_n X d_X_removeEnclave_28 rfl ?_
        refine ev_aload_n X d_X_removeEnclave_29 rfl ?_
        refine ev_iconst (v := 1) X d_X_removeEnclave_30 (by decide) ?_
        refine ev_cV0 X m_X_164 (c_X_setOwner (f := f) (n := n) L (by rw [fil_ne (by omega)]; exact hf) (by rw [fil_ne (by omega)]; exact hn) hfn) lo_this rfl rfl (by decide) (by decide) d_X_removeEnclave_31 rfl rfl (Nat.le_of_ble_eq_true rfl) ?_
        refine ev_aload_n X d_X_removeEnclave_34 rfl ?_
        refine ev_iconst (v := 0) X d_X_removeEnclave_35 (by decide) ?_
        refine ev_putI X f_X_86 L rfl d_X_removeEnclave_36 ?_
        refine ev_aload_n X d_X_removeEnclave_39 rfl ?_
        refine ev_cV0 X m_X_34 (c_X_setAllGuards (p0.of (by simp [fil, up2_at, n13])) (p1.of (by simp [fil, up2_at, n27]))) lo_this rfl rfl (by decide) (by decide) d_X_removeEnclave_40 rfl rfl (Nat.le_of_ble_eq_true rfl) ?_
        exact ev_vretL X hr hk d_X_removeEnclave_43 (by unfold rmE; rw [show k = 16 * (f + n) by omega])
      · exact absurd (nI_le (by omega) (by omega)) h12
    | succ r ih =>
      intro k q1 q2
      refine ev_iload_n X d_X_removeEnclave_10 rfl ?_
      refine ev_iload_n X d_X_removeEnclave_11 rfl ?_
      refine ev_icmp_ge (tgt := 28) X d_X_removeEnclave_12 (by decide) (fun h12 => ?_) (fun h12 => ?_)
      · exact absurd h12 (nI_ge (by omega) (by omega))
      · refine ev_aload_n X d_X_removeEnclave_15 rfl ?_
        refine ev_getR X f_X_13 lo_this rfl d_X_removeEnclave_16 ?_
        refine ev_iload_n X d_X_removeEnclave_19 rfl ?_
        refine ev_iconst (v := 0) X d_X_removeEnclave_20 (by decide) ?_
        refine ev_iast X li_mem rfl rfl (by omega) d_X_removeEnclave_21 ?_
        refine ev_iinc (v := nI (k + 1)) X d_X_removeEnclave_22 rfl (nI_1 k) (by decide) ?_
        refine ev_goto (tgt := 10) X d_X_removeEnclave_25 (by decide) ?_
        rw [fil_up (by omega)]
        exact ih (k + 1) (by omega) (by omega)
  refine ev_aload_n X d_X_removeEnclave_0 rfl ?_
  refine ev_cV1 X m_X_168 (c_E_endWord L) L rfl rfl (by decide) (by decide) d_X_removeEnclave_1 rfl rfl (Nat.le_of_ble_eq_true rfl) ?_
  refine ev_topi (v := nI (16 * (f + n))) (by rw [hf, hn, nI_add, w16]) ?_
  refine ev_istore_n X d_X_removeEnclave_4 (by decide) ?_
  refine ev_aload_n X d_X_removeEnclave_5 rfl ?_
  refine ev_cV1 X m_X_171 (c_E_firstWord L) L rfl rfl (by decide) (by decide) d_X_removeEnclave_6 rfl rfl (Nat.le_of_ble_eq_true rfl) ?_
  refine ev_topi (v := nI (16 * f)) (by rw [hf, w16]) ?_
  refine ev_istore_n X d_X_removeEnclave_9 (by decide) ?_
  refine ev_of (w1 := ly_w lyX 41 ad ca (fil S 1 (16 * f) (16 * f) 0) x) (by rw [fil_nil]) rfl rfl rfl ?_
  exact loop (16 * n) (16 * f) (by omega) (by omega)
def vLoad (S : St) (z a : Int32) : Int64 := if busyS S z = true then 1099511627776 else if alw S (13 + 14 * z.toNatClampNeg) a 1 = true then (S 1 a.toNatClampNeg).toInt64 else 1099511627777
def sLoad (S : St) (z a : Int32) : St := if busyS S z = true then S else if alw S (13 + 14 * z.toNatClampNeg) a 1 = true then S else up2 S 0 5 (S 0 5 + 1)
def vStore (S : St) (z a : Int32) : Int32 := if busyS S z = true then -1 else if alw S (13 + 14 * z.toNatClampNeg) a 2 = true then 0 else 1
def sStore (S : St) (z a v : Int32) : St := if busyS S z = true then S else if alw S (13 + 14 * z.toNatClampNeg) a 2 = true then up2 S 1 a.toNatClampNeg v else up2 S 0 5 (S 0 5 + 1)
def vGive (S : St) (z k : Int32) : Bool := !busyS S z && inr k 8
def sGive (S : St) (z k v : Int32) : St := if busyS S z = true then S else if inr k 8 = true then up2 S (13 + 14 * z.toNatClampNeg + 1) k.toNatClampNeg v else S
def vReg (S : St) (z k : Int32) : Int64 := if busyS S z = true then 1099511627776 else if inr k 8 = true then (S (13 + 14 * z.toNatClampNeg + 1) k.toNatClampNeg).toInt64 else 1099511627776
def okC (S : St) (F N en sh : Int32) : Bool := arP F N && (onP en F N && shS sh)
def vCreate (S : St) (z F N en sh : Int32) : Int32 := if busyS S z = true then -1 else if okC S F N en sh = false then -2 else if sysP S F.toNatClampNeg N.toNatClampNeg = false then -3 else if canS S sh F N = false then -4 else if lfeS S 0 4 = -1 then -5 else lfeS S 0 4
noncomputable def sCreate (S : St) (z F N en sh : Int32) : St := if busyS S z = true then S else if okC S F N en sh = false then S else if sysP S F.toNatClampNeg N.toNatClampNeg = false then S else if canS S sh F N = false then S else if lfeS S 0 4 = -1 then S else mkE S (lfeS S 0 4).toNatClampNeg F N en sh
def vRun (S : St) (z q : Int32) : Int32 := if busyS S z = true then -1 else if thrS S q = false then -2 else if S (4 + 2 * q.toNatClampNeg) 1 = 1 then 0 else if S (4 + 2 * q.toNatClampNeg) 1 = 3 then 0 else -2
def goS (S : St) (z q : Int32) : St := sGs (up2 (up2 S (4 + 2 * q.toNatClampNeg) 1 2) (13 + 14 * z.toNatClampNeg) 2 q) (13 + 14 * z.toNatClampNeg)
def sRun (S : St) (z q v : Int32) : St := if busyS S z = true then S else if thrS S q = false then S else if S (4 + 2 * q.toNatClampNeg) 1 = 1 then goS (sStart S (4 + 2 * q.toNatClampNeg) v) z q else if S (4 + 2 * q.toNatClampNeg) 1 = 3 then goS S z q else S
noncomputable def stp (i j : Nat) : Nat → Nat → St → Nat
  | 0, k, _ => k
  | n + 1, k, S => if S j 1 = 2 then stp i j n (k + 1) (mkS S i j) else k
noncomputable def stS (i j : Nat) : Nat → St → St
  | 0, S => S
  | n + 1, S => if S j 1 = 2 then stS i j n (mkS S i j) else S
def enOf (S : St) (z : Int32) : Nat := 4 + 2 * (S (13 + 14 * z.toNatClampNeg) 2).toNatClampNeg
def okN (N : Int32) : Bool := !decide (N < 1) && decide (N ≤ 100)
noncomputable def vStep (S : St) (z N : Int32) : Int32 := if runsS S z = true ∧ okN N = true then nI (stp (13 + 14 * z.toNatClampNeg) (enOf S z) N.toNatClampNeg 0 S) else -1
def endS (S : St) (i j : Nat) : St := if S j 1 = 2 then S else sGs (up2 S i 2 (-1)) i
noncomputable def sStep (S : St) (z N : Int32) : St := if runsS S z = true ∧ okN N = true then endS (stS (13 + 14 * z.toNatClampNeg) (enOf S z) N.toNatClampNeg S) (13 + 14 * z.toNatClampNeg) (enOf S z) else S
def vInt (S : St) (z : Int32) : Int32 := if runsS S z = true then S (13 + 14 * z.toNatClampNeg) 2 else -1
def sInt (S : St) (z : Int32) : St := if runsS S z = true then sGs (up2 (up2 S (enOf S z) 1 3) (13 + 14 * z.toNatClampNeg) 2 (-1)) (13 + 14 * z.toNatClampNeg) else S
def vDes (S : St) (z q : Int32) : Int32 := if busyS S z = true then -1 else if thrS S q = false then -2 else if S (4 + 2 * q.toNatClampNeg) 1 = 2 then -3 else 0
def sDes (S : St) (z q : Int32) : St := if busyS S z = true then S else if thrS S q = false then S else if S (4 + 2 * q.toNatClampNeg) 1 = 2 then S else rmE S (4 + 2 * q.toNatClampNeg) (S (4 + 2 * q.toNatClampNeg) 2).toNatClampNeg (S (4 + 2 * q.toNatClampNeg) 3).toNatClampNeg
def vRel (S : St) (q : Int32) : Int64 := if thrS S q = false then 1099511627776 else if S (4 + 2 * q.toNatClampNeg) 1 = 4 then (S (4 + 2 * q.toNatClampNeg) 8).toInt64 else if S (4 + 2 * q.toNatClampNeg) 1 = 5 then (S (4 + 2 * q.toNatClampNeg) 8).toInt64 else 1099511627776
def vMea (S : St) (q : Int32) : Int64 := if thrS S q = true then (S (4 + 2 * q.toNatClampNeg) 6).toInt64 else 1099511627776
set_option maxHeartbeats 4000000 in
set_option maxRecDepth 100000 in
theorem c_X_load {l : Launch} {D : va_G} {ad : Nat → Nat} {ca : Nat → ClassId} {x : va_W} {S : St} {z a : Int32}  : CtX l D ad ca x y_X_load b_X_load 3 (some .long) 2 [.ref (ad 0), .int z, .int a] S (sLoad S z a) (some (.long (vLoad S z a))) := by
  refine ev_ent [some (.ref (ad 0)), some (.int z), some (.int a)] rfl (by decide) (Nat.le_of_ble_eq_true rfl) rfl gTT (fun p e s m args below meth c A X hr hk => ?_)
  refine ev_aload_n X d_X_load_0 rfl ?_
  refine ev_iload_n X d_X_load_1 rfl ?_
  refine ev_cV1 X m_X_37 c_X_isBusy lo_this rfl rfl (by decide) (by decide) d_X_load_2 rfl rfl (Nat.le_of_ble_eq_true rfl) ?_
  refine ev_if_eqB (tgt := 12) X d_X_load_5 (by decide) (fun h5 => ?_) (fun h5 => ?_)
  · refine ev_aload_n X d_X_load_12 rfl ?_
    refine ev_aload_n X d_X_load_13 rfl ?_
    refine ev_getR X f_X_29 lo_this rfl d_X_load_14 ?_
    refine ev_iload_n X d_X_load_17 rfl ?_
    refine ev_aald X lr_pr rfl (inr_z (busy_in h5)) (inr_j (k := 2) rfl (by decide) (busy_in h5)) d_X_load_18 ?_
    refine ev_iload_n X d_X_load_19 rfl ?_
    refine ev_iconst (v := 1) X d_X_load_20 (by decide) ?_
    refine ev_cV1 X m_X_43 (c_X_isAllowed (lo_pr (inr_j (k := 2) rfl (by decide) (busy_in h5)))) lo_this rfl rfl (by decide) (by decide) d_X_load_21 rfl rfl (Nat.le_of_ble_eq_true rfl) ?_
    refine ev_if_neB (tgt := 41) X d_X_load_24 (by decide) (fun h24 => ?_) (fun h24 => ?_)
    · refine ev_aload_n X d_X_load_41 rfl ?_
      refine ev_getR X f_X_13 lo_this rfl d_X_load_42 ?_
      refine ev_iload_n X d_X_load_45 rfl ?_
      refine ev_iald X li_mem rfl (inr_z (alw_in h24)) (inr_j (k := 256) rfl (by decide) (alw_in h24)) d_X_load_46 ?_
      refine ev_i2l X d_X_load_47 ?_
      exact ev_lretL X hr hk d_X_load_48 (by simp [vLoad, h5, h24]) (by simp [sLoad, h5, h24])
    · refine ev_aload_n X d_X_load_27 rfl ?_
      refine ev_dup X d_X_load_28 rfl ?_
      refine ev_getI X f_X_47 lo_this rfl d_X_load_29 ?_
      refine ev_iconst (v := 1) X d_X_load_32 (by decide) ?_
      refine ev_iadd X d_X_load_33 ?_
      refine ev_putI X f_X_47 lo_this rfl d_X_load_34 ?_
      refine ev_ldc2 X k_X_50 d_X_load_37 ?_
      exact ev_lretL X hr hk d_X_load_40 (by simp [vLoad, h5, h24]) (by simp [sLoad, h5, h24])
  · refine ev_ldc2 X k_X_41 d_X_load_8 ?_
    exact ev_lretL X hr hk d_X_load_11 (by simp [vLoad, h5]) (by simp [sLoad, h5])
set_option maxHeartbeats 4000000 in
set_option maxRecDepth 100000 in
theorem c_X_store {l : Launch} {D : va_G} {ad : Nat → Nat} {ca : Nat → ClassId} {x : va_W} {S : St} {z a v : Int32}  : CtX l D ad ca x y_X_store b_X_store 4 (some .int) 2 [.ref (ad 0), .int z, .int a, .int v] S (sStore S z a v) (some (.int (vStore S z a))) := by
  refine ev_ent [some (.ref (ad 0)), some (.int z), some (.int a), some (.int v)] rfl (by decide) (Nat.le_of_ble_eq_true rfl) rfl gTT (fun p e s m args below meth c A X hr hk => ?_)
  refine ev_aload_n X d_X_store_0 rfl ?_
  refine ev_iload_n X d_X_store_1 rfl ?_
  refine ev_cV1 X m_X_37 c_X_isBusy lo_this rfl rfl (by decide) (by decide) d_X_store_2 rfl rfl (Nat.le_of_ble_eq_true rfl) ?_
  refine ev_if_eqB (tgt := 10) X d_X_store_5 (by decide) (fun h5 => ?_) (fun h5 => ?_)
  · refine ev_aload_n X d_X_store_10 rfl ?_
    refine ev_aload_n X d_X_store_11 rfl ?_
    refine ev_getR X f_X_29 lo_this rfl d_X_store_12 ?_
    refine ev_iload_n X d_X_store_15 rfl ?_
    refine ev_aald X lr_pr rfl (inr_z (busy_in h5)) (inr_j (k := 2) rfl (by decide) (busy_in h5)) d_X_store_16 ?_
    refine ev_iload_n X d_X_store_17 rfl ?_
    refine ev_iconst (v := 2) X d_X_store_18 (by decide) ?_
    refine ev_cV1 X m_X_43 (c_X_isAllowed (lo_pr (inr_j (k := 2) rfl (by decide) (busy_in h5)))) lo_this rfl rfl (by decide) (by decide) d_X_store_19 rfl rfl (Nat.le_of_ble_eq_true rfl) ?_
    refine ev_if_neB (tgt := 37) X d_X_store_22 (by decide) (fun h22 => ?_) (fun h22 => ?_)
    · refine ev_aload_n X d_X_store_37 rfl ?_
      refine ev_getR X f_X_13 lo_this rfl d_X_store_38 ?_
      refine ev_iload_n X d_X_store_41 rfl ?_
      refine ev_iload_n X d_X_store_42 rfl ?_
      refine ev_iast X li_mem rfl (inr_z (alw_in h22)) (inr_j (k := 256) rfl (by decide) (alw_in h22)) d_X_store_43 ?_
      refine ev_iconst (v := 0) X d_X_store_44 (by decide) ?_
      exact ev_iretL X hr hk d_X_store_45 (by simp [vStore, h5, h22]) (by simp [sStore, h5, h22])
    · refine ev_aload_n X d_X_store_25 rfl ?_
      refine ev_dup X d_X_store_26 rfl ?_
      refine ev_getI X f_X_47 lo_this rfl d_X_store_27 ?_
      refine ev_iconst (v := 1) X d_X_store_30 (by decide) ?_
      refine ev_iadd X d_X_store_31 ?_
      refine ev_putI X f_X_47 lo_this rfl d_X_store_32 ?_
      refine ev_iconst (v := 1) X d_X_store_35 (by decide) ?_
      exact ev_iretL X hr hk d_X_store_36 (by simp [vStore, h5, h22]) (by simp [sStore, h5, h22])
  · refine ev_iconst (v := (-1)) X d_X_store_8 (by decide) ?_
    exact ev_iretL X hr hk d_X_store_9 (by simp [vStore, h5]) (by simp [sStore, h5])
set_option maxHeartbeats 4000000 in
set_option maxRecDepth 100000 in
theorem c_X_give {l : Launch} {D : va_G} {ad : Nat → Nat} {ca : Nat → ClassId} {x : va_W} {S : St} {z a v : Int32}  : CtX l D ad ca x y_X_give b_X_give 4 (some .boolean) 2 [.ref (ad 0), .int z, .int a, .int v] S (sGive S z a v) (some (.int (b2i (vGive S z a)))) := by
  refine ev_ent [some (.ref (ad 0)), some (.int z), some (.int a), some (.int v)] rfl (by decide) (Nat.le_of_ble_eq_true rfl) rfl gTT (fun p e s m args below meth c A X hr hk => ?_)
  refine ev_aload_n X d_X_give_0 rfl ?_
  refine ev_iload_n X d_X_give_1 rfl ?_
  refine ev_cV1 X m_X_37 c_X_isBusy lo_this rfl rfl (by decide) (by decide) d_X_give_2 rfl rfl (Nat.le_of_ble_eq_true rfl) ?_
  refine ev_if_neB (tgt := 15) X d_X_give_5 (by decide) (fun h5 => ?_) (fun h5 => ?_)
  · refine ev_iconst (v := 0) X d_X_give_15 (by decide) ?_
    exact ev_zretL X hr hk d_X_give_16 (by simp [vGive, b2i, h5]) (by simp [sGive, h5])
  · refine ev_iload_n X d_X_give_8 rfl ?_
    refine ev_cS1 X m_X_52 c_X_isRegister (by decide) (by decide) d_X_give_9 rfl rfl (Nat.le_of_ble_eq_true rfl) ?_
    refine ev_if_neB (tgt := 17) X d_X_give_12 (by decide) (fun h12 => ?_) (fun h12 => ?_)
    · refine ev_aload_n X d_X_give_17 rfl ?_
      refine ev_getR X f_X_29 lo_this rfl d_X_give_18 ?_
      refine ev_iload_n X d_X_give_21 rfl ?_
      refine ev_aald X lr_pr rfl (inr_z (busy_in h5)) (inr_j (k := 2) rfl (by decide) (busy_in h5)) d_X_give_22 ?_
      refine ev_getR X f_X_55 (lo_pr (inr_j (k := 2) rfl (by decide) (busy_in h5))) rfl d_X_give_23 ?_
      refine ev_iload_n X d_X_give_26 rfl ?_
      refine ev_iload_n X d_X_give_27 rfl ?_
      refine ev_iast X (li_rg (lo_pr (inr_j (k := 2) rfl (by decide) (busy_in h5)))) rfl (inr_z h12) (inr_j (k := 8) rfl (by decide) h12) d_X_give_28 ?_
      refine ev_iconst (v := 1) X d_X_give_29 (by decide) ?_
      exact ev_zretL X hr hk d_X_give_30 (by simp [vGive, b2i, h5, h12]) (by simp [sGive, h5, h12])
    · refine ev_iconst (v := 0) X d_X_give_15 (by decide) ?_
      exact ev_zretL X hr hk d_X_give_16 (by simp [vGive, b2i, h5, h12]) (by simp [sGive, h5, h12])
set_option maxHeartbeats 4000000 in
set_option maxRecDepth 100000 in
theorem c_X_register {l : Launch} {D : va_G} {ad : Nat → Nat} {ca : Nat → ClassId} {x : va_W} {S : St} {z a : Int32}  : CtX l D ad ca x y_X_register b_X_register 3 (some .long) 2 [.ref (ad 0), .int z, .int a] S S (some (.long (vReg S z a))) := by
  refine ev_ent [some (.ref (ad 0)), some (.int z), some (.int a)] rfl (by decide) (Nat.le_of_ble_eq_true rfl) rfl gTT (fun p e s m args below meth c A X hr hk => ?_)
  refine ev_aload_n X d_X_register_0 rfl ?_
  refine ev_iload_n X d_X_register_1 rfl ?_
  refine ev_cV1 X m_X_37 c_X_isBusy lo_this rfl rfl (by decide) (by decide) d_X_register_2 rfl rfl (Nat.le_of_ble_eq_true rfl) ?_
  refine ev_if_neB (tgt := 15) X d_X_register_5 (by decide) (fun h5 => ?_) (fun h5 => ?_)
  · refine ev_ldc2 X k_X_41 d_X_register_15 ?_
    exact ev_lretL X hr hk d_X_register_18 (by simp [vReg, h5]) (rfl)
  · refine ev_iload_n X d_X_register_8 rfl ?_
    refine ev_cS1 X m_X_52 c_X_isRegister (by decide) (by decide) d_X_register_9 rfl rfl (Nat.le_of_ble_eq_true rfl) ?_
    refine ev_if_neB (tgt := 19) X d_X_register_12 (by decide) (fun h12 => ?_) (fun h12 => ?_)
    · refine ev_aload_n X d_X_register_19 rfl ?_
      refine ev_getR X f_X_29 lo_this rfl d_X_register_20 ?_
      refine ev_iload_n X d_X_register_23 rfl ?_
      refine ev_aald X lr_pr rfl (inr_z (busy_in h5)) (inr_j (k := 2) rfl (by decide) (busy_in h5)) d_X_register_24 ?_
      refine ev_getR X f_X_55 (lo_pr (inr_j (k := 2) rfl (by decide) (busy_in h5))) rfl d_X_register_25 ?_
      refine ev_iload_n X d_X_register_28 rfl ?_
      refine ev_iald X (li_rg (lo_pr (inr_j (k := 2) rfl (by decide) (busy_in h5)))) rfl (inr_z h12) (inr_j (k := 8) rfl (by decide) h12) d_X_register_29 ?_
      refine ev_i2l X d_X_register_30 ?_
      exact ev_lretL X hr hk d_X_register_31 (by simp [vReg, h5, h12]) (rfl)
    · refine ev_ldc2 X k_X_41 d_X_register_15 ?_
      exact ev_lretL X hr hk d_X_register_18 (by simp [vReg, h5, h12]) (rfl)
set_option maxHeartbeats 4000000 in
set_option maxRecDepth 100000 in
theorem c_X_released {l : Launch} {D : va_G} {ad : Nat → Nat} {ca : Nat → ClassId} {x : va_W} {S : St} {z : Int32}  : CtX l D ad ca x y_X_released b_X_released 4 (some .long) 2 [.ref (ad 0), .int z] S S (some (.long (vRel S z))) := by
  refine ev_ent [some (.ref (ad 0)), some (.int z), none, none] rfl (by decide) (Nat.le_of_ble_eq_true rfl) rfl gTT (fun p e s m args below meth c A X hr hk => ?_)
  refine ev_aload_n X d_X_released_0 rfl ?_
  refine ev_iload_n X d_X_released_1 rfl ?_
  refine ev_cV1 X m_X_83 c_X_isThere lo_this rfl rfl (by decide) (by decide) d_X_released_2 rfl rfl (Nat.le_of_ble_eq_true rfl) ?_
  refine ev_if_neB (tgt := 12) X d_X_released_5 (by decide) (fun h5 => ?_) (fun h5 => ?_)
  · refine ev_aload_n X d_X_released_12 rfl ?_
    refine ev_getR X f_X_22 lo_this rfl d_X_released_13 ?_
    refine ev_iload_n X d_X_released_16 rfl ?_
    refine ev_aald X lr_en rfl (inr_z (thr_in h5)) (inr_j (k := 4) rfl (by decide) (thr_in h5)) d_X_released_17 ?_
    refine ev_astore_n X d_X_released_18 (by decide) ?_
    refine ev_aload_n X d_X_released_19 rfl ?_
    refine ev_getI X f_X_86 (lo_en (inr_j (k := 4) rfl (by decide) (thr_in h5))) rfl d_X_released_20 ?_
    refine ev_iconst (v := 4) X d_X_released_23 (by decide) ?_
    refine ev_icmp_eq (tgt := 35) X d_X_released_24 (by decide) (fun h24 => ?_) (fun h24 => ?_)
    · refine ev_iconst (v := 1) X d_X_released_35 (by decide) ?_
      refine ev_goto (tgt := 40) X d_X_released_36 (by decide) ?_
      refine ev_istore_n X d_X_released_40 (by decide) ?_
      refine ev_iload_n X d_X_released_41 rfl ?_
      refine ev_if_eq (tgt := 53) X d_X_released_42 (by decide) (fun h42 => ?_) (fun h42 => ?_)
      · exact absurd h42 (by decide)
      · refine ev_aload_n X d_X_released_45 rfl ?_
        refine ev_getI X f_X_117 (lo_en (inr_j (k := 4) rfl (by decide) (thr_in h5))) rfl d_X_released_46 ?_
        refine ev_i2l X d_X_released_49 ?_
        refine ev_goto (tgt := 56) X d_X_released_50 (by decide) ?_
        exact ev_lretL X hr hk d_X_released_56 (by simp [vRel, h5, h24, h42]) (rfl)
    · refine ev_aload_n X d_X_released_27 rfl ?_
      refine ev_getI X f_X_86 (lo_en (inr_j (k := 4) rfl (by decide) (thr_in h5))) rfl d_X_released_28 ?_
      refine ev_iconst (v := 5) X d_X_released_31 (by decide) ?_
      refine ev_icmp_ne (tgt := 39) X d_X_released_32 (by decide) (fun h32 => ?_) (fun h32 => ?_)
      · refine ev_iconst (v := 0) X d_X_released_39 (by decide) ?_
        refine ev_istore_n X d_X_released_40 (by decide) ?_
        refine ev_iload_n X d_X_released_41 rfl ?_
        refine ev_if_eq (tgt := 53) X d_X_released_42 (by decide) (fun h42 => ?_) (fun h42 => ?_)
        · refine ev_ldc2 X k_X_41 d_X_released_53 ?_
          exact ev_lretL X hr hk d_X_released_56 (by simp [vRel, h5, h24, h32, h42]) (rfl)
        · exact absurd h42 (by decide)
      · refine ev_iconst (v := 1) X d_X_released_35 (by decide) ?_
        refine ev_goto (tgt := 40) X d_X_released_36 (by decide) ?_
        refine ev_istore_n X d_X_released_40 (by decide) ?_
        refine ev_iload_n X d_X_released_41 rfl ?_
        refine ev_if_eq (tgt := 53) X d_X_released_42 (by decide) (fun h42 => ?_) (fun h42 => ?_)
        · exact absurd h42 (by decide)
        · refine ev_aload_n X d_X_released_45 rfl ?_
          refine ev_getI X f_X_117 (lo_en (inr_j (k := 4) rfl (by decide) (thr_in h5))) rfl d_X_released_46 ?_
          refine ev_i2l X d_X_released_49 ?_
          refine ev_goto (tgt := 56) X d_X_released_50 (by decide) ?_
          exact ev_lretL X hr hk d_X_released_56 (by simp [vRel, h5, h24, h32, h42]) (rfl)
  · refine ev_ldc2 X k_X_41 d_X_released_8 ?_
    exact ev_lretL X hr hk d_X_released_11 (by simp [vRel, h5]) (rfl)
set_option maxHeartbeats 4000000 in
set_option maxRecDepth 100000 in
theorem c_X_measurement {l : Launch} {D : va_G} {ad : Nat → Nat} {ca : Nat → ClassId} {x : va_W} {S : St} {z : Int32}  : CtX l D ad ca x y_X_measurement b_X_measurement 2 (some .long) 2 [.ref (ad 0), .int z] S S (some (.long (vMea S z))) := by
  refine ev_ent [some (.ref (ad 0)), some (.int z)] rfl (by decide) (Nat.le_of_ble_eq_true rfl) rfl gTT (fun p e s m args below meth c A X hr hk => ?_)
  refine ev_aload_n X d_X_measurement_0 rfl ?_
  refine ev_iload_n X d_X_measurement_1 rfl ?_
  refine ev_cV1 X m_X_83 c_X_isThere lo_this rfl rfl (by decide) (by decide) d_X_measurement_2 rfl rfl (Nat.le_of_ble_eq_true rfl) ?_
  refine ev_if_eqB (tgt := 21) X d_X_measurement_5 (by decide) (fun h5 => ?_) (fun h5 => ?_)
  · refine ev_ldc2 X k_X_41 d_X_measurement_21 ?_
    exact ev_lretL X hr hk d_X_measurement_24 (by simp [vMea, h5]) (rfl)
  · refine ev_aload_n X d_X_measurement_8 rfl ?_
    refine ev_getR X f_X_22 lo_this rfl d_X_measurement_9 ?_
    refine ev_iload_n X d_X_measurement_12 rfl ?_
    refine ev_aald X lr_en rfl (inr_z (thr_in h5)) (inr_j (k := 4) rfl (by decide) (thr_in h5)) d_X_measurement_13 ?_
    refine ev_getI X f_X_120 (lo_en (inr_j (k := 4) rfl (by decide) (thr_in h5))) rfl d_X_measurement_14 ?_
    refine ev_i2l X d_X_measurement_17 ?_
    refine ev_goto (tgt := 24) X d_X_measurement_18 (by decide) ?_
    exact ev_lretL X hr hk d_X_measurement_24 (by simp [vMea, h5]) (rfl)
set_option maxHeartbeats 4000000 in
set_option maxRecDepth 100000 in
theorem c_X_verify {l : Launch} {D : va_G} {ad : Nat → Nat} {ca : Nat → ClassId} {x : va_W} {S : St} {u v b : Int32}  : CtX l D ad ca x y_X_verify b_X_verify 4 (some .boolean) 2 [.ref (ad 0), .int u, .int v, .int b] S S (some (.int (b2i (decide (b = prfS (S 0 0) u v))))) := by
  refine ev_ent [some (.ref (ad 0)), some (.int u), some (.int v), some (.int b)] rfl (by decide) (Nat.le_of_ble_eq_true rfl) rfl gTT (fun p e s m args below meth c A X hr hk => ?_)
  refine ev_iload_n X d_X_verify_0 rfl ?_
  refine ev_aload_n X d_X_verify_1 rfl ?_
  refine ev_iload_n X d_X_verify_2 rfl ?_
  refine ev_iload_n X d_X_verify_3 rfl ?_
  refine ev_cV1 X m_X_123 c_X_proofOf lo_this rfl rfl (by decide) (by decide) d_X_verify_4 rfl rfl (Nat.le_of_ble_eq_true rfl) ?_
  refine ev_icmp_ne (tgt := 14) X d_X_verify_7 (by decide) (fun h7 => ?_) (fun h7 => ?_)
  · refine ev_iconst (v := 0) X d_X_verify_14 (by decide) ?_
    exact ev_zretL X hr hk d_X_verify_15 (by simp [b2i, h7]) (rfl)
  · refine ev_iconst (v := 1) X d_X_verify_10 (by decide) ?_
    refine ev_goto (tgt := 15) X d_X_verify_11 (by decide) ?_
    exact ev_zretL X hr hk d_X_verify_15 (by simp [b2i, h7]) (rfl)
