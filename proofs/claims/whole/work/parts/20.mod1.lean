def flM : List (Option Nat) := [none, some 1, some 2, some 3, some 4, none, some 5, some 6, some 7, some 8, some 9, some 10, some 11, some 12, some 13]
def lyM (i : Nat) : ly_C := if i = 0 then .inl (4, flM) else if i = 1 then .inr (.inl 256) else if i < 4 then .inr (.inl 16) else if i = 4 then .inr (.inl 2) else if i < 13 then .inr (.inl 4) else .inr (.inl 32)
theorem lo_mod : LyO lyM 14 0 4 flM := ⟨by decide, rfl⟩
theorem lm_words : LyI lyM 14 1 256 := ⟨by decide, rfl, by decide⟩
theorem lm_owners : LyI lyM 14 2 16 := ⟨by decide, rfl, by decide⟩
theorem lm_kept : LyI lyM 14 3 16 := ⟨by decide, rfl, by decide⟩
theorem lm_runs : LyI lyM 14 4 2 := ⟨by decide, rfl, by decide⟩
theorem lm_states : LyI lyM 14 5 4 := ⟨by decide, rfl, by decide⟩
theorem lm_firsts : LyI lyM 14 6 4 := ⟨by decide, rfl, by decide⟩
theorem lm_sizes : LyI lyM 14 7 4 := ⟨by decide, rfl, by decide⟩
theorem lm_entries : LyI lyM 14 8 4 := ⟨by decide, rfl, by decide⟩
theorem lm_shares : LyI lyM 14 9 4 := ⟨by decide, rfl, by decide⟩
theorem lm_measures : LyI lyM 14 10 4 := ⟨by decide, rfl, by decide⟩
theorem lm_outs : LyI lyM 14 11 4 := ⟨by decide, rfl, by decide⟩
theorem lm_counters : LyI lyM 14 12 4 := ⟨by decide, rfl, by decide⟩
theorem lm_r : LyI lyM 14 13 32 := ⟨by decide, rfl, by decide⟩
abbrev CtM (l : Launch) (D : va_G) (ad : Nat → Nat) (ca : Nat → ClassId) (x : va_W) (y : MethodName) (cc : ByteArray) (nL : Nat) (ret : Option FieldType) (d : Nat) (as : List Value) (S S' : St) (v : Option Value) : Prop := Ct l clX (tyX ca) TT D y cc nL ret (rmd d) as (ly_w lyM 14 ad ca S x) (ly_w lyM 14 ad ca S' x) v
theorem inr2_f {z : Int32} (h0 : ¬ z = 0) (h1 : ¬ z = 1) : inr z 2 = false := by
  cases h : inr z 2 with
  | false => rfl
  | true =>
    obtain ⟨j, hj, rfl⟩ := inr_ex (k := 2) (by decide) rfl h
    have : j = 0 ∨ j = 1 := by omega
    rcases this with rfl | rfl
    · exact absurd rfl h0
    · exact absurd rfl h1
theorem inr_le {z : Int32} {n : Nat} {m p : Int32} (hn : n + 1 < 2 ^ 31) (hm : nI n = m) (hp : nI (n + 1) = p) (h1 : ¬ z < 0) (h2 : z ≤ m) : inr z p = true := by
  subst hm; subst hp
  obtain ⟨j, hj, rfl⟩ := nI_of h1
  exact inr_nI (by have := (nI_leI hj (by omega)).mp h2; omega) hn
theorem inr_nle {z : Int32} {n : Nat} {m p : Int32} (hn : n + 1 < 2 ^ 31) (hm : nI n = m) (hp : nI (n + 1) = p) (h2 : ¬ z ≤ m) : inr z p = false := by
  subst hm; subst hp
  cases h : inr z (nI (n + 1)) with
  | false => rfl
  | true =>
    obtain ⟨j, hj, rfl⟩ := inr_ex hn rfl h
    exact absurd (nI_le (by omega) (by omega)) h2
theorem inr_nlt {z : Int32} {n : Nat} {m p : Int32} (hn : n + 1 < 2 ^ 31) (hm : nI n = m) (hp : nI (n + 1) = p) (h1 : ¬ z < 0) (h2 : ¬ m < z) : inr z p = true := inr_le hn hm hp h1 (Int32.not_lt.mp h2)
theorem d16_in {z : Int32} (h1 : ¬ z < 0) (h2 : ¬ 255 < z) : inr (z / 16) 16 = true := by
  obtain ⟨j, hj, rfl⟩ := inr_ex (k := 256) (by decide) rfl (inr_nlt (n := 255) (p := 256) (by decide) rfl rfl h1 h2)
  rw [show (16 : Int32) = nI 16 from rfl, pk_div (by omega) (by decide) (by decide)]
  exact inr_nI (by omega) (by decide)
def bsM (S : St) (z : Int32) : Bool := !inr z 2 || !decide (S 4 z.toNatClampNeg < 0)
theorem bsM_in {S : St} {q : Int32} (h : bsM S q = false) : inr q 2 = true := by
  simp only [bsM, Bool.or_eq_false_iff] at h
  simpa using h.1
theorem bsM_no {S : St} {q : Int32} (h : bsM S q = false) : S 4 q.toNatClampNeg < 0 := by
  simp only [bsM, Bool.or_eq_false_iff] at h
  simpa using h.2
def RuOK (S : St) (q : Nat) : Prop := S 4 q < 0 ∨ inr (S 4 q) 4 = true
def shM (S : St) (q z : Int32) : Bool := !decide (S 9 q.toNatClampNeg < 0) && (if 256 ≤ S 9 q.toNatClampNeg then decide (z / 16 = S 9 q.toNatClampNeg - 256) else decide (z = S 9 q.toNatClampNeg))
def alM (S : St) (q z b : Int32) : Bool :=
  if z < 0 then false else if 255 < z then false else if S 2 (z / 16).toNatClampNeg = 0 then false
  else if S 2 (z / 16).toNatClampNeg ≤ 1 then (if S 4 q.toNatClampNeg < 0 then true else if shM S (S 4 q.toNatClampNeg) z = true then !decide (b = 4) else false) else decide (S 2 (z / 16).toNatClampNeg = 2 + S 4 q.toNatClampNeg)
theorem alM_in {S : St} {q z b : Int32} (h : alM S q z b = true) : inr z 256 = true := by
  unfold alM at h
  by_cases h1 : z < 0
  · rw [if_pos h1] at h; cases h
  · rw [if_neg h1] at h
    by_cases h2 : 255 < z
    · rw [if_pos h2] at h; cases h
    · exact inr_nlt (n := 255) (by decide) rfl rfl h1 h2
def thM (S : St) (q : Int32) : Bool := inr q 4 && !decide (S 5 q.toNatClampNeg = 0)
theorem thM_in {S : St} {q : Int32} (h : thM S q = true) : inr q 4 = true := by
  simp only [thM, Bool.and_eq_true] at h
  exact h.1
def wrM (F N en sh : Int32) : Bool :=
  if N < 1 then true else if 8 < N then true else if F < 0 then true else if 15 < F then true else if F + N ≤ 16 then (if en < 16 * F then true else if 16 * (F + N) ≤ en then true else if sh < -1 then true else !decide (sh ≤ 271)) else true
theorem k8_in {z k : Int32} (hz : inr z 2 = true) (hk : inr k 8 = true) : 8 * z + k = nI (8 * z.toNatClampNeg + k.toNatClampNeg) ∧ 8 * z.toNatClampNeg + k.toNatClampNeg < 16 := by
  obtain ⟨a, ha, rfl⟩ := inr_ex (k := 2) (by decide) rfl hz
  obtain ⟨b, hb, rfl⟩ := inr_ex (k := 8) (by decide) rfl hk
  rw [nI_clamp (by omega), nI_clamp (by omega), show (8 : Int32) = nI 8 from rfl, pk_mul, nI_add]
  exact ⟨rfl, by omega⟩
theorem k32_in {z k : Int32} (hz : inr z 4 = true) (hk : inr k 8 = true) : 8 * z + k = nI (8 * z.toNatClampNeg + k.toNatClampNeg) ∧ 8 * z.toNatClampNeg + k.toNatClampNeg < 32 := by
  obtain ⟨a, ha, rfl⟩ := inr_ex (k := 4) (by decide) rfl hz
  obtain ⟨b, hb, rfl⟩ := inr_ex (k := 8) (by decide) rfl hk
  rw [nI_clamp (by omega), nI_clamp (by omega), show (8 : Int32) = nI 8 from rfl, pk_mul, nI_add]
  exact ⟨rfl, by omega⟩
def NONE64 : Int64 := 1099511627776
def wLoad (S : St) (z a : Int32) : Int64 := if bsM S z = true then 1099511627776 else if alM S z a 1 = true then (S 1 a.toNatClampNeg).toInt64 else 1099511627777
def tLoad (S : St) (z a : Int32) : St := if bsM S z = true then S else if alM S z a 1 = true then S else up2 S 0 5 (S 0 5 + 1)
def wStore (S : St) (z a : Int32) : Int32 := if bsM S z = true then -1 else if alM S z a 2 = true then 0 else 1
def tStore (S : St) (z a v : Int32) : St := if bsM S z = true then S else if alM S z a 2 = true then up2 S 1 a.toNatClampNeg v else up2 S 0 5 (S 0 5 + 1)
def wGive (S : St) (z k : Int32) : Bool := !bsM S z && inr k 8
def tGive (S : St) (z k v : Int32) : St := if bsM S z = true then S else if inr k 8 = true then up2 S 3 (8 * z.toNatClampNeg + k.toNatClampNeg) v else S
def wReg (S : St) (z k : Int32) : Int64 := if bsM S z = true then 1099511627776 else if inr k 8 = true then (S 3 (8 * z.toNatClampNeg + k.toNatClampNeg)).toInt64 else 1099511627776
set_option maxHeartbeats 4000000 in
set_option maxRecDepth 100000 in
theorem c_M_mix {l : Launch} {D : va_G} {ad : Nat → Nat} {ca : Nat → ClassId} {x : va_W} {S : St} {a b : Int32}  : CtM l D ad ca x y_M_mix b_M_mix 3 (some .int) 0 [.int a, .int b] S S (some (.int (mixI a b))) := by
  refine ev_ent [some (.int a), some (.int b), none] rfl (by decide) (Nat.le_of_ble_eq_true rfl) rfl gTT (fun p e s m args below meth c A X hr hk => ?_)
  refine ev_bipush (v := 31) X d_M_mix_0 (by decide) ?_
  refine ev_iload_n X d_M_mix_2 rfl ?_
  refine ev_imul X d_M_mix_3 ?_
  refine ev_iload_n X d_M_mix_4 rfl ?_
  refine ev_ixor X d_M_mix_5 ?_
  refine ev_ldc X k_M_53 d_M_mix_6 ?_
  refine ev_imul X d_M_mix_8 ?_
  refine ev_istore_n X d_M_mix_9 (by decide) ?_
  refine ev_iload_n X d_M_mix_10 rfl ?_
  refine ev_iload_n X d_M_mix_11 rfl ?_
  refine ev_bipush (v := 15) X d_M_mix_12 (by decide) ?_
  refine ev_iushr X d_M_mix_14 rfl ?_
  refine ev_ixor X d_M_mix_15 ?_
  exact ev_iretL X hr hk d_M_mix_16 (by rw [mixI_eq]; rfl) (rfl)
set_option maxHeartbeats 4000000 in
set_option maxRecDepth 100000 in
theorem c_M_processor {l : Launch} {D : va_G} {ad : Nat → Nat} {ca : Nat → ClassId} {x : va_W} {S : St} {z : Int32}  : CtM l D ad ca x y_M_processor b_M_processor 1 (some .boolean) 0 [.int z] S S (some (.int (b2i (inr z 2)))) := by
  refine ev_ent [some (.int z)] rfl (by decide) (Nat.le_of_ble_eq_true rfl) rfl gTT (fun p e s m args below meth c A X hr hk => ?_)
  refine ev_iload_n X d_M_processor_0 rfl ?_
  refine ev_if_eq (tgt := 9) X d_M_processor_1 (by decide) (fun h1 => ?_) (fun h1 => ?_)
  · refine ev_iconst (v := 1) X d_M_processor_9 (by decide) ?_
    refine ev_goto (tgt := 14) X d_M_processor_10 (by decide) ?_
    exact ev_zretL X hr hk d_M_processor_14 (by first | (rw [h1]; decide) | (rw [h6]; decide) | (rw [inr2_f h1 h6]; rfl)) (rfl)
  · refine ev_iload_n X d_M_processor_4 rfl ?_
    refine ev_iconst (v := 1) X d_M_processor_5 (by decide) ?_
    refine ev_icmp_ne (tgt := 13) X d_M_processor_6 (by decide) (fun h6 => ?_) (fun h6 => ?_)
    · refine ev_iconst (v := 0) X d_M_processor_13 (by decide) ?_
      exact ev_zretL X hr hk d_M_processor_14 (by first | (rw [h1]; decide) | (rw [h6]; decide) | (rw [inr2_f h1 h6]; rfl)) (rfl)
    · refine ev_iconst (v := 1) X d_M_processor_9 (by decide) ?_
      refine ev_goto (tgt := 14) X d_M_processor_10 (by decide) ?_
      exact ev_zretL X hr hk d_M_processor_14 (by first | (rw [h1]; decide) | (rw [h6]; decide) | (rw [inr2_f h1 h6]; rfl)) (rfl)
set_option maxHeartbeats 4000000 in
set_option maxRecDepth 100000 in
theorem c_M_isShared {l : Launch} {D : va_G} {ad : Nat → Nat} {ca : Nat → ClassId} {x : va_W} {S : St} {q z : Int32} (hq : inr q 4 = true) : CtM l D ad ca x y_M_isShared b_M_isShared 4 (some .boolean) 0 [.ref (ad 0), .int q, .int z] S S (some (.int (b2i (shM S q z)))) := by
  refine ev_ent [some (.ref (ad 0)), some (.int q), some (.int z), none] rfl (by decide) (Nat.le_of_ble_eq_true rfl) rfl gTT (fun p e s m args below meth c A X hr hk => ?_)
  refine ev_aload_n X d_M_isShared_0 rfl ?_
  refine ev_getR X f_M_34 lo_mod rfl d_M_isShared_1 ?_
  refine ev_iload_n X d_M_isShared_4 rfl ?_
  refine ev_iald X lm_shares rfl (inr_z hq) (inr_j (k := 4) rfl (by decide) hq) d_M_isShared_5 ?_
  refine ev_istore_n X d_M_isShared_6 (by decide) ?_
  refine ev_iload_n X d_M_isShared_7 rfl ?_
  refine ev_if_lt (tgt := 42) X d_M_isShared_8 (by decide) (fun h8 => ?_) (fun h8 => ?_)
  · refine ev_iconst (v := 0) X d_M_isShared_42 (by decide) ?_
    exact ev_zretL X hr hk d_M_isShared_43 (by simp [shM, b2i, h8]) (rfl)
  · refine ev_iload_n X d_M_isShared_11 rfl ?_
    refine ev_sipush (v := 256) X d_M_isShared_12 (by decide) ?_
    refine ev_icmp_ge (tgt := 26) X d_M_isShared_15 (by decide) (fun h15 => ?_) (fun h15 => ?_)
    · refine ev_iload_n X d_M_isShared_26 rfl ?_
      refine ev_bipush (v := 16) X d_M_isShared_27 (by decide) ?_
      refine ev_idiv X d_M_isShared_29 (by decide) ?_
      refine ev_iload_n X d_M_isShared_30 rfl ?_
      refine ev_sipush (v := 256) X d_M_isShared_31 (by decide) ?_
      refine ev_isub X d_M_isShared_34 ?_
      refine ev_icmp_ne (tgt := 42) X d_M_isShared_35 (by decide) (fun h35 => ?_) (fun h35 => ?_)
      · refine ev_iconst (v := 0) X d_M_isShared_42 (by decide) ?_
        exact ev_zretL X hr hk d_M_isShared_43 (by simp [shM, b2i, h8, h15, h35]) (rfl)
      · refine ev_iconst (v := 1) X d_M_isShared_38 (by decide) ?_
        refine ev_goto (tgt := 43) X d_M_isShared_39 (by decide) ?_
        exact ev_zretL X hr hk d_M_isShared_43 (by simp [shM, b2i, h8, h15, h35]) (rfl)
    · refine ev_iload_n X d_M_isShared_18 rfl ?_
      refine ev_iload_n X d_M_isShared_19 rfl ?_
      refine ev_icmp_ne (tgt := 42) X d_M_isShared_20 (by decide) (fun h20 => ?_) (fun h20 => ?_)
      · refine ev_iconst (v := 0) X d_M_isShared_42 (by decide) ?_
        exact ev_zretL X hr hk d_M_isShared_43 (by simp [shM, b2i, h8, h15, h20]) (rfl)
      · refine ev_goto (tgt := 38) X d_M_isShared_23 (by decide) ?_
        refine ev_iconst (v := 1) X d_M_isShared_38 (by decide) ?_
        refine ev_goto (tgt := 43) X d_M_isShared_39 (by decide) ?_
        exact ev_zretL X hr hk d_M_isShared_43 (by simp [shM, b2i, h8, h15, h20]) (rfl)
set_option maxHeartbeats 4000000 in
set_option maxRecDepth 100000 in
theorem c_M_there {l : Launch} {D : va_G} {ad : Nat → Nat} {ca : Nat → ClassId} {x : va_W} {S : St} {q : Int32}  : CtM l D ad ca x y_M_there b_M_there 2 (some .boolean) 0 [.ref (ad 0), .int q] S S (some (.int (b2i (thM S q)))) := by
  refine ev_ent [some (.ref (ad 0)), some (.int q)] rfl (by decide) (Nat.le_of_ble_eq_true rfl) rfl gTT (fun p e s m args below meth c A X hr hk => ?_)
  refine ev_iload_n X d_M_there_0 rfl ?_
  refine ev_if_lt (tgt := 22) X d_M_there_1 (by decide) (fun h1 => ?_) (fun h1 => ?_)
  · refine ev_iconst (v := 0) X d_M_there_22 (by decide) ?_
    exact ev_zretL X hr hk d_M_there_23 (by simp [thM, inr, b2i, h1]) (rfl)
  · refine ev_iload_n X d_M_there_4 rfl ?_
    refine ev_iconst (v := 4) X d_M_there_5 (by decide) ?_
    refine ev_icmp_ge (tgt := 22) X d_M_there_6 (by decide) (fun h6 => ?_) (fun h6 => ?_)
    · refine ev_iconst (v := 0) X d_M_there_22 (by decide) ?_
      exact ev_zretL X hr hk d_M_there_23 (by simp [thM, inr, b2i, h1, h6]) (rfl)
    · refine ev_aload_n X d_M_there_9 rfl ?_
      refine ev_getR X f_M_22 lo_mod rfl d_M_there_10 ?_
      refine ev_iload_n X d_M_there_13 rfl ?_
      refine ev_iald X lm_states rfl (inr_z (show inr q 4 = true by simp [inr, h1, h6])) (inr_j (k := 4) rfl (by decide) (show inr q 4 = true by simp [inr, h1, h6])) d_M_there_14 ?_
      refine ev_if_eq (tgt := 22) X d_M_there_15 (by decide) (fun h15 => ?_) (fun h15 => ?_)
      · refine ev_iconst (v := 0) X d_M_there_22 (by decide) ?_
        exact ev_zretL X hr hk d_M_there_23 (by simp [thM, inr, b2i, h1, h6, h15]) (rfl)
      · refine ev_iconst (v := 1) X d_M_there_18 (by decide) ?_
        refine ev_goto (tgt := 23) X d_M_there_19 (by decide) ?_
        exact ev_zretL X hr hk d_M_there_23 (by simp [thM, inr, b2i, h1, h6, h15]) (rfl)
set_option maxHeartbeats 4000000 in
set_option maxRecDepth 100000 in
theorem c_M_wrongRange {l : Launch} {D : va_G} {ad : Nat → Nat} {ca : Nat → ClassId} {x : va_W} {S : St} {F N en sh : Int32}  : CtM l D ad ca x y_M_wrongRange b_M_wrongRange 5 (some .boolean) 0 [.ref (ad 0), .int F, .int N, .int en, .int sh] S S (some (.int (b2i (wrM F N en sh)))) := by
  refine ev_ent [some (.ref (ad 0)), some (.int F), some (.int N), some (.int en), some (.int sh)] rfl (by decide) (Nat.le_of_ble_eq_true rfl) rfl gTT (fun p e s m args below meth c A X hr hk => ?_)
  refine ev_iload_n X d_M_wrongRange_0 rfl ?_
  refine ev_iconst (v := 1) X d_M_wrongRange_1 (by decide) ?_
  refine ev_icmp_lt (tgt := 29) X d_M_wrongRange_2 (by decide) (fun h2 => ?_) (fun h2 => ?_)
  · refine ev_iconst (v := 1) X d_M_wrongRange_29 (by decide) ?_
    exact ev_zretL X hr hk d_M_wrongRange_30 (by simp [wrM, b2i, h2]) (rfl)
  · refine ev_iload_n X d_M_wrongRange_5 rfl ?_
    refine ev_bipush (v := 8) X d_M_wrongRange_6 (by decide) ?_
    refine ev_icmp_gt (tgt := 29) X d_M_wrongRange_8 (by decide) (fun h8 => ?_) (fun h8 => ?_)
    · refine ev_iconst (v := 1) X d_M_wrongRange_29 (by decide) ?_
      exact ev_zretL X hr hk d_M_wrongRange_30 (by simp [wrM, b2i, h2, h8]) (rfl)
    · refine ev_iload_n X d_M_wrongRange_11 rfl ?_
      refine ev_if_lt (tgt := 29) X d_M_wrongRange_12 (by decide) (fun h12 => ?_) (fun h12 => ?_)
      · refine ev_iconst (v := 1) X d_M_wrongRange_29 (by decide) ?_
        exact ev_zretL X hr hk d_M_wrongRange_30 (by simp [wrM, b2i, h2, h8, h12]) (rfl)
      · refine ev_iload_n X d_M_wrongRange_15 rfl ?_
        refine ev_bipush (v := 15) X d_M_wrongRange_16 (by decide) ?_
        refine ev_icmp_gt (tgt := 29) X d_M_wrongRange_18 (by decide) (fun h18 => ?_) (fun h18 => ?_)
        · refine ev_iconst (v := 1) X d_M_wrongRange_29 (by decide) ?_
          exact ev_zretL X hr hk d_M_wrongRange_30 (by simp [wrM, b2i, h2, h8, h12, h18]) (rfl)
        · refine ev_iload_n X d_M_wrongRange_21 rfl ?_
          refine ev_iload_n X d_M_wrongRange_22 rfl ?_
          refine ev_iadd X d_M_wrongRange_23 ?_
          refine ev_bipush (v := 16) X d_M_wrongRange_24 (by decide) ?_
          refine ev_icmp_le (tgt := 31) X d_M_wrongRange_26 (by decide) (fun h26 => ?_) (fun h26 => ?_)
          · refine ev_iload_n X d_M_wrongRange_31 rfl ?_
            refine ev_bipush (v := 16) X d_M_wrongRange_32 (by decide) ?_
            refine ev_iload_n X d_M_wrongRange_34 rfl ?_
            refine ev_imul X d_M_wrongRange_35 ?_
            refine ev_icmp_lt (tgt := 63) X d_M_wrongRange_36 (by decide) (fun h36 => ?_) (fun h36 => ?_)
            · refine ev_iconst (v := 1) X d_M_wrongRange_63 (by decide) ?_
              refine ev_goto (tgt := 68) X d_M_wrongRange_64 (by decide) ?_
              exact ev_zretL X hr hk d_M_wrongRange_68 (by simp [wrM, b2i, h2, h8, h12, h18, h26, h36]) (rfl)
            · refine ev_iload_n X d_M_wrongRange_39 rfl ?_
              refine ev_bipush (v := 16) X d_M_wrongRange_40 (by decide) ?_
              refine ev_iload_n X d_M_wrongRange_42 rfl ?_
              refine ev_iload_n X d_M_wrongRange_43 rfl ?_
              refine ev_iadd X d_M_wrongRange_44 ?_
              refine ev_imul X d_M_wrongRange_45 ?_
              refine ev_icmp_ge (tgt := 63) X d_M_wrongRange_46 (by decide) (fun h46 => ?_) (fun h46 => ?_)
              · refine ev_iconst (v := 1) X d_M_wrongRange_63 (by decide) ?_
                refine ev_goto (tgt := 68) X d_M_wrongRange_64 (by decide) ?_
                exact ev_zretL X hr hk d_M_wrongRange_68 (by simp [wrM, b2i, h2, h8, h12, h18, h26, h36, h46]) (rfl)
              · refine ev_iload X d_M_wrongRange_49 rfl ?_
                refine ev_iconst (v := (-1)) X d_M_wrongRange_51 (by decide) ?_
                refine ev_icmp_lt (tgt := 63) X d_M_wrongRange_52 (by decide) (fun h52 => ?_) (fun h52 => ?_)
                · refine ev_iconst (v := 1) X d_M_wrongRange_63 (by decide) ?_
                  refine ev_goto (tgt := 68) X d_M_wrongRange_64 (by decide) ?_
                  exact ev_zretL X hr hk d_M_wrongRange_68 (by simp [wrM, b2i, h2, h8, h12, h18, h26, h36, h46, h52]) (rfl)
                · refine ev_iload X d_M_wrongRange_55 rfl ?_
                  refine ev_sipush (v := 271) X d_M_wrongRange_57 (by decide) ?_
                  refine ev_icmp_le (tgt := 67) X d_M_wrongRange_60 (by decide) (fun h60 => ?_) (fun h60 => ?_)
                  · refine ev_iconst (v := 0) X d_M_wrongRange_67 (by decide) ?_
                    exact ev_zretL X hr hk d_M_wrongRange_68 (by simp [wrM, b2i, h2, h8, h12, h18, h26, h36, h46, h52, h60]) (rfl)
                  · refine ev_iconst (v := 1) X d_M_wrongRange_63 (by decide) ?_
                    refine ev_goto (tgt := 68) X d_M_wrongRange_64 (by decide) ?_
                    exact ev_zretL X hr hk d_M_wrongRange_68 (by simp [wrM, b2i, h2, h8, h12, h18, h26, h36, h46, h52, h60]) (rfl)
          · refine ev_iconst (v := 1) X d_M_wrongRange_29 (by decide) ?_
            exact ev_zretL X hr hk d_M_wrongRange_30 (by simp [wrM, b2i, h2, h8, h12, h18, h26]) (rfl)
set_option maxHeartbeats 4000000 in
set_option maxRecDepth 100000 in
theorem c_M_shown {l : Launch} {D : va_G} {ad : Nat → Nat} {ca : Nat → ClassId} {x : va_W} {S : St} {q u v w : Int32}  : CtM l D ad ca x y_M_shown b_M_shown 4 (some .int) 0 [.int q, .int u, .int v, .int w] S S (some (.int (if q = 0 then u else if q = 1 then v else w))) := by
  refine ev_ent [some (.int q), some (.int u), some (.int v), some (.int w)] rfl (by decide) (Nat.le_of_ble_eq_true rfl) rfl gTT (fun p e s m args below meth c A X hr hk => ?_)
  refine ev_iload_n X d_M_shown_0 rfl ?_
  refine ev_if_ne (tgt := 8) X d_M_shown_1 (by decide) (fun h1 => ?_) (fun h1 => ?_)
  · refine ev_iload_n X d_M_shown_8 rfl ?_
    refine ev_iconst (v := 1) X d_M_shown_9 (by decide) ?_
    refine ev_icmp_ne (tgt := 17) X d_M_shown_10 (by decide) (fun h10 => ?_) (fun h10 => ?_)
    · refine ev_iload_n X d_M_shown_17 rfl ?_
      exact ev_iretL X hr hk d_M_shown_18 (by simp [h1, h10]) (rfl)
    · refine ev_iload_n X d_M_shown_13 rfl ?_
      refine ev_goto (tgt := 18) X d_M_shown_14 (by decide) ?_
      exact ev_iretL X hr hk d_M_shown_18 (by simp [h1, h10]) (rfl)
  · refine ev_iload_n X d_M_shown_4 rfl ?_
    refine ev_goto (tgt := 18) X d_M_shown_5 (by decide) ?_
    exact ev_iretL X hr hk d_M_shown_18 (by simp [h1]) (rfl)
set_option maxHeartbeats 4000000 in
set_option maxRecDepth 100000 in
theorem c_M_denied {l : Launch} {D : va_G} {ad : Nat → Nat} {ca : Nat → ClassId} {x : va_W} {S : St}   : CtM l D ad ca x y_M_denied b_M_denied 1 (some .int) 0 [.ref (ad 0)] S S (some (.int (S 0 5))) := by
  refine ev_ent [some (.ref (ad 0))] rfl (by decide) (Nat.le_of_ble_eq_true rfl) rfl gTT (fun p e s m args below meth c A X hr hk => ?_)
  refine ev_aload_n X d_M_denied_0 rfl ?_
  refine ev_getI X f_M_75 lo_mod rfl d_M_denied_1 ?_
  exact ev_iretL X hr hk d_M_denied_4 (rfl) (rfl)
set_option maxHeartbeats 4000000 in
set_option maxRecDepth 100000 in
theorem c_M_state {l : Launch} {D : va_G} {ad : Nat → Nat} {ca : Nat → ClassId} {x : va_W} {S : St} {q : Int32}  : CtM l D ad ca x y_M_state b_M_state 2 (some .int) 0 [.ref (ad 0), .int q] S S (some (.int (if inr q 4 = true then S 5 q.toNatClampNeg else -1))) := by
  refine ev_ent [some (.ref (ad 0)), some (.int q)] rfl (by decide) (Nat.le_of_ble_eq_true rfl) rfl gTT (fun p e s m args below meth c A X hr hk => ?_)
  refine ev_iload_n X d_M_state_0 rfl ?_
  refine ev_if_lt (tgt := 9) X d_M_state_1 (by decide) (fun h1 => ?_) (fun h1 => ?_)
  · have hi : inr q 4 = false := by simp [inr, h1]
    refine ev_iconst (v := (-1)) X d_M_state_9 (by decide) ?_
    refine ev_goto (tgt := 19) X d_M_state_10 (by decide) ?_
    exact ev_iretL X hr hk d_M_state_19 (by simp [hi]) (rfl)
  · refine ev_iload_n X d_M_state_4 rfl ?_
    refine ev_iconst (v := 3) X d_M_state_5 (by decide) ?_
    refine ev_icmp_le (tgt := 13) X d_M_state_6 (by decide) (fun h6 => ?_) (fun h6 => ?_)
    · have hi : inr q 4 = true := inr_le (n := 3) (by decide) rfl rfl h1 h6
      refine ev_aload_n X d_M_state_13 rfl ?_
      refine ev_getR X f_M_22 lo_mod rfl d_M_state_14 ?_
      refine ev_iload_n X d_M_state_17 rfl ?_
      refine ev_iald X lm_states rfl (inr_z hi) (inr_j (k := 4) rfl (by decide) hi) d_M_state_18 ?_
      exact ev_iretL X hr hk d_M_state_19 (by simp [hi]) (rfl)
    · have hi : inr q 4 = false := inr_nle (n := 3) (by decide) rfl rfl h6
      refine ev_iconst (v := (-1)) X d_M_state_9 (by decide) ?_
      refine ev_goto (tgt := 19) X d_M_state_10 (by decide) ?_
      exact ev_iretL X hr hk d_M_state_19 (by simp [hi]) (rfl)
set_option maxHeartbeats 4000000 in
set_option maxRecDepth 100000 in
theorem c_M_owner {l : Launch} {D : va_G} {ad : Nat → Nat} {ca : Nat → ClassId} {x : va_W} {S : St} {q : Int32}  : CtM l D ad ca x y_M_owner b_M_owner 2 (some .int) 0 [.ref (ad 0), .int q] S S (some (.int (if inr q 16 = true then S 2 q.toNatClampNeg else -1))) := by
  refine ev_ent [some (.ref (ad 0)), some (.int q)] rfl (by decide) (Nat.le_of_ble_eq_true rfl) rfl gTT (fun p e s m args below meth c A X hr hk => ?_)
  refine ev_iload_n X d_M_owner_0 rfl ?_
  refine ev_if_lt (tgt := 10) X d_M_owner_1 (by decide) (fun h1 => ?_) (fun h1 => ?_)
  · have hi : inr q 16 = false := by simp [inr, h1]
    refine ev_iconst (v := (-1)) X d_M_owner_10 (by decide) ?_
    refine ev_goto (tgt := 20) X d_M_owner_11 (by decide) ?_
    exact ev_iretL X hr hk d_M_owner_20 (by simp [hi]) (rfl)
  · refine ev_iload_n X d_M_owner_4 rfl ?_
    refine ev_bipush (v := 15) X d_M_owner_5 (by decide) ?_
    refine ev_icmp_le (tgt := 14) X d_M_owner_7 (by decide) (fun h7 => ?_) (fun h7 => ?_)
    · have hi : inr q 16 = true := inr_le (n := 15) (by decide) rfl rfl h1 h7
      refine ev_aload_n X d_M_owner_14 rfl ?_
      refine ev_getR X f_M_13 lo_mod rfl d_M_owner_15 ?_
      refine ev_iload_n X d_M_owner_18 rfl ?_
      refine ev_iald X lm_owners rfl (inr_z hi) (inr_j (k := 16) rfl (by decide) hi) d_M_owner_19 ?_
      exact ev_iretL X hr hk d_M_owner_20 (by simp [hi]) (rfl)
    · have hi : inr q 16 = false := inr_nle (n := 15) (by decide) rfl rfl h7
      refine ev_iconst (v := (-1)) X d_M_owner_10 (by decide) ?_
      refine ev_goto (tgt := 20) X d_M_owner_11 (by decide) ?_
      exact ev_iretL X hr hk d_M_owner_20 (by simp [hi]) (rfl)
set_option maxHeartbeats 4000000 in
set_option maxRecDepth 100000 in
theorem c_M_proof {l : Launch} {D : va_G} {ad : Nat → Nat} {ca : Nat → ClassId} {x : va_W} {S : St} {u v : Int32}  : CtM l D ad ca x y_M_proof b_M_proof 4 (some .int) 1 [.ref (ad 0), .int u, .int v] S S (some (.int (prfS (S 0 0) u v))) := by
  refine ev_ent [some (.ref (ad 0)), some (.int u), some (.int v), none] rfl (by decide) (Nat.le_of_ble_eq_true rfl) rfl gTT (fun p e s m args below meth c A X hr hk => ?_)
  refine ev_aload_n X d_M_proof_0 rfl ?_
  refine ev_getI X f_M_49 lo_mod rfl d_M_proof_1 ?_
  refine ev_iconst (v := 3) X d_M_proof_4 (by decide) ?_
  refine ev_cS1 X m_M_54 c_M_mix (by decide) (by decide) d_M_proof_5 rfl rfl (Nat.le_of_ble_eq_true rfl) ?_
  refine ev_istore_n X d_M_proof_8 (by decide) ?_
  refine ev_iload_n X d_M_proof_9 rfl ?_
  refine ev_iload_n X d_M_proof_10 rfl ?_
  refine ev_cS1 X m_M_54 c_M_mix (by decide) (by decide) d_M_proof_11 rfl rfl (Nat.le_of_ble_eq_true rfl) ?_
  refine ev_iload_n X d_M_proof_14 rfl ?_
  refine ev_cS1 X m_M_54 c_M_mix (by decide) (by decide) d_M_proof_15 rfl rfl (Nat.le_of_ble_eq_true rfl) ?_
  exact ev_iretL X hr hk d_M_proof_18 (rfl) (rfl)
set_option maxHeartbeats 4000000 in
set_option maxRecDepth 100000 in
theorem c_M_busy {l : Launch} {D : va_G} {ad : Nat → Nat} {ca : Nat → ClassId} {x : va_W} {S : St} {z : Int32}  : CtM l D ad ca x y_M_busy b_M_busy 2 (some .boolean) 1 [.ref (ad 0), .int z] S S (some (.int (b2i (bsM S z)))) := by
  refine ev_ent [some (.ref (ad 0)), some (.int z)] rfl (by decide) (Nat.le_of_ble_eq_true rfl) rfl gTT (fun p e s m args below meth c A X hr hk => ?_)
  refine ev_iload_n X d_M_busy_0 rfl ?_
  refine ev_cS1 X m_M_58 c_M_processor (by decide) (by decide) d_M_busy_1 rfl rfl (Nat.le_of_ble_eq_true rfl) ?_
  refine ev_if_eqB (tgt := 16) X d_M_busy_4 (by decide) (fun h4 => ?_) (fun h4 => ?_)
  · refine ev_iconst (v := 1) X d_M_busy_16 (by decide) ?_
    refine ev_goto (tgt := 21) X d_M_busy_17 (by decide) ?_
    exact ev_zretL X hr hk d_M_busy_21 (by simp [bsM, b2i, h4]) (rfl)
  · refine ev_aload_n X d_M_busy_7 rfl ?_
    refine ev_getR X f_M_19 lo_mod rfl d_M_busy_8 ?_
    refine ev_iload_n X d_M_busy_11 rfl ?_
    refine ev_iald X lm_runs rfl (inr_z h4) (inr_j (k := 2) rfl (by decide) h4) d_M_busy_12 ?_
    refine ev_if_lt (tgt := 20) X d_M_busy_13 (by decide) (fun h13 => ?_) (fun h13 => ?_)
    · refine ev_iconst (v := 0) X d_M_busy_20 (by decide) ?_
      exact ev_zretL X hr hk d_M_busy_21 (by simp [bsM, b2i, h4, h13]) (rfl)
    · refine ev_iconst (v := 1) X d_M_busy_16 (by decide) ?_
      refine ev_goto (tgt := 21) X d_M_busy_17 (by decide) ?_
      exact ev_zretL X hr hk d_M_busy_21 (by simp [bsM, b2i, h4, h13]) (rfl)
set_option maxHeartbeats 4000000 in
set_option maxRecDepth 100000 in
theorem c_M_allowed {l : Launch} {D : va_G} {ad : Nat → Nat} {ca : Nat → ClassId} {x : va_W} {S : St} {q z b : Int32} (hq : inr q 2 = true) (hru : RuOK S q.toNatClampNeg) : CtM l D ad ca x y_M_allowed b_M_allowed 5 (some .boolean) 1 [.ref (ad 0), .int q, .int z, .int b] S S (some (.int (b2i (alM S q z b)))) := by
  refine ev_ent [some (.ref (ad 0)), some (.int q), some (.int z), some (.int b), none] rfl (by decide) (Nat.le_of_ble_eq_true rfl) rfl gTT (fun p e s m args below meth c A X hr hk => ?_)
  refine ev_iload_n X d_M_allowed_0 rfl ?_
  refine ev_if_lt (tgt := 23) X d_M_allowed_1 (by decide) (fun h1 => ?_) (fun h1 => ?_)
  · refine ev_iconst (v := 0) X d_M_allowed_23 (by decide) ?_
    exact ev_zretL X hr hk d_M_allowed_24 (by simp [alM, b2i, h1]) (rfl)
  · refine ev_iload_n X d_M_allowed_4 rfl ?_
    refine ev_sipush (v := 255) X d_M_allowed_5 (by decide) ?_
    refine ev_icmp_gt (tgt := 23) X d_M_allowed_8 (by decide) (fun h8 => ?_) (fun h8 => ?_)
    · refine ev_iconst (v := 0) X d_M_allowed_23 (by decide) ?_
      exact ev_zretL X hr hk d_M_allowed_24 (by simp [alM, b2i, h1, h8]) (rfl)
    · refine ev_aload_n X d_M_allowed_11 rfl ?_
      refine ev_getR X f_M_13 lo_mod rfl d_M_allowed_12 ?_
      refine ev_iload_n X d_M_allowed_15 rfl ?_
      refine ev_bipush (v := 16) X d_M_allowed_16 (by decide) ?_
      refine ev_idiv X d_M_allowed_18 (by decide) ?_
      refine ev_iald X lm_owners rfl (inr_z (d16_in h1 h8)) (inr_j (k := 16) rfl (by decide) (d16_in h1 h8)) d_M_allowed_19 ?_
      refine ev_if_ne (tgt := 25) X d_M_allowed_20 (by decide) (fun h20 => ?_) (fun h20 => ?_)
      · refine ev_aload_n X d_M_allowed_25 rfl ?_
        refine ev_getR X f_M_19 lo_mod rfl d_M_allowed_26 ?_
        refine ev_iload_n X d_M_allowed_29 rfl ?_
        refine ev_iald X lm_runs rfl (inr_z hq) (inr_j (k := 2) rfl (by decide) hq) d_M_allowed_30 ?_
        refine ev_istore X d_M_allowed_31 (by decide) ?_
        refine ev_aload_n X d_M_allowed_33 rfl ?_
        refine ev_getR X f_M_13 lo_mod rfl d_M_allowed_34 ?_
        refine ev_iload_n X d_M_allowed_37 rfl ?_
        refine ev_bipush (v := 16) X d_M_allowed_38 (by decide) ?_
        refine ev_idiv X d_M_allowed_40 (by decide) ?_
        refine ev_iald X lm_owners rfl (inr_z (d16_in h1 h8)) (inr_j (k := 16) rfl (by decide) (d16_in h1 h8)) d_M_allowed_41 ?_
        refine ev_iconst (v := 1) X d_M_allowed_42 (by decide) ?_
        refine ev_icmp_le (tgt := 68) X d_M_allowed_43 (by decide) (fun h43 => ?_) (fun h43 => ?_)
        · refine ev_iload X d_M_allowed_68 rfl ?_
          refine ev_if_lt (tgt := 88) X d_M_allowed_70 (by decide) (fun h70 => ?_) (fun h70 => ?_)
          · refine ev_iconst (v := 1) X d_M_allowed_88 (by decide) ?_
            refine ev_goto (tgt := 93) X d_M_allowed_89 (by decide) ?_
            exact ev_zretL X hr hk d_M_allowed_93 (by simp [alM, b2i, h1, h8, h20, h43, h70]) (rfl)
          · refine ev_aload_n X d_M_allowed_73 rfl ?_
            refine ev_iload X d_M_allowed_74 rfl ?_
            refine ev_iload_n X d_M_allowed_76 rfl ?_
            refine ev_cV1 X m_M_62 (c_M_isShared (hru.resolve_left h70)) lo_mod rfl rfl (by decide) (by decide) d_M_allowed_77 rfl rfl (Nat.le_of_ble_eq_true rfl) ?_
            refine ev_if_eqB (tgt := 92) X d_M_allowed_80 (by decide) (fun h80 => ?_) (fun h80 => ?_)
            · refine ev_iconst (v := 0) X d_M_allowed_92 (by decide) ?_
              exact ev_zretL X hr hk d_M_allowed_93 (by simp [alM, b2i, h1, h8, h20, h43, h70, h80]) (rfl)
            · refine ev_iload_n X d_M_allowed_83 rfl ?_
              refine ev_iconst (v := 4) X d_M_allowed_84 (by decide) ?_
              refine ev_icmp_eq (tgt := 92) X d_M_allowed_85 (by decide) (fun h85 => ?_) (fun h85 => ?_)
              · refine ev_iconst (v := 0) X d_M_allowed_92 (by decide) ?_
                exact ev_zretL X hr hk d_M_allowed_93 (by simp [alM, b2i, h1, h8, h20, h43, h70, h80, h85]) (rfl)
              · refine ev_iconst (v := 1) X d_M_allowed_88 (by decide) ?_
                refine ev_goto (tgt := 93) X d_M_allowed_89 (by decide) ?_
                exact ev_zretL X hr hk d_M_allowed_93 (by simp [alM, b2i, h1, h8, h20, h43, h70, h80, h85]) (rfl)
        · refine ev_aload_n X d_M_allowed_46 rfl ?_
          refine ev_getR X f_M_13 lo_mod rfl d_M_allowed_47 ?_
          refine ev_iload_n X d_M_allowed_50 rfl ?_
          refine ev_bipush (v := 16) X d_M_allowed_51 (by decide) ?_
          refine ev_idiv X d_M_allowed_53 (by decide) ?_
          refine ev_iald X lm_owners rfl (inr_z (d16_in h1 h8)) (inr_j (k := 16) rfl (by decide) (d16_in h1 h8)) d_M_allowed_54 ?_
          refine ev_iconst (v := 2) X d_M_allowed_55 (by decide) ?_
          refine ev_iload X d_M_allowed_56 rfl ?_
          refine ev_iadd X d_M_allowed_58 ?_
          refine ev_icmp_ne (tgt := 66) X d_M_allowed_59 (by decide) (fun h59 => ?_) (fun h59 => ?_)
          · refine ev_iconst (v := 0) X d_M_allowed_66 (by decide) ?_
            exact ev_zretL X hr hk d_M_allowed_67 (by rw [alM, if_neg h1, if_neg h8, if_neg h20, if_neg h43]; first | (rw [decide_eq_true h59]; rfl) | (rw [decide_eq_false h59]; rfl)) (rfl)
          · refine ev_iconst (v := 1) X d_M_allowed_62 (by decide) ?_
            refine ev_goto (tgt := 67) X d_M_allowed_63 (by decide) ?_
            exact ev_zretL X hr hk d_M_allowed_67 (by rw [alM, if_neg h1, if_neg h8, if_neg h20, if_neg h43]; first | (rw [decide_eq_true h59]; rfl) | (rw [decide_eq_false h59]; rfl)) (rfl)
      · refine ev_iconst (v := 0) X d_M_allowed_23 (by decide) ?_
        exact ev_zretL X hr hk d_M_allowed_24 (by simp [alM, b2i, h1, h8, h20]) (rfl)
set_option maxHeartbeats 4000000 in
set_option maxRecDepth 100000 in
theorem c_M_running {l : Launch} {D : va_G} {ad : Nat → Nat} {ca : Nat → ClassId} {x : va_W} {S : St} {z : Int32}  : CtM l D ad ca x y_M_running b_M_running 2 (some .int) 1 [.ref (ad 0), .int z] S S (some (.int (if inr z 2 = true then S 4 z.toNatClampNeg else -2))) := by
  refine ev_ent [some (.ref (ad 0)), some (.int z)] rfl (by decide) (Nat.le_of_ble_eq_true rfl) rfl gTT (fun p e s m args below meth c A X hr hk => ?_)
  refine ev_iload_n X d_M_running_0 rfl ?_
  refine ev_cS1 X m_M_58 c_M_processor (by decide) (by decide) d_M_running_1 rfl rfl (Nat.le_of_ble_eq_true rfl) ?_
  refine ev_if_eqB (tgt := 16) X d_M_running_4 (by decide) (fun h4 => ?_) (fun h4 => ?_)
  · refine ev_bipush (v := (-2)) X d_M_running_16 (by decide) ?_
    exact ev_iretL X hr hk d_M_running_18 (by simp [h4]) (rfl)
  · refine ev_aload_n X d_M_running_7 rfl ?_
    refine ev_getR X f_M_19 lo_mod rfl d_M_running_8 ?_
    refine ev_iload_n X d_M_running_11 rfl ?_
    refine ev_iald X lm_runs rfl (inr_z h4) (inr_j (k := 2) rfl (by decide) h4) d_M_running_12 ?_
    refine ev_goto (tgt := 18) X d_M_running_13 (by decide) ?_
    exact ev_iretL X hr hk d_M_running_18 (by simp [h4]) (rfl)
