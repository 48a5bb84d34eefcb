set_option maxHeartbeats 4000000 in
set_option maxRecDepth 100000 in
theorem c_M_load {l : Launch} {D : va_G} {ad : Nat → Nat} {ca : Nat → ClassId} {x : va_W} {S : St} {z a : Int32}  : CtM l D ad ca x y_M_load b_M_load 3 (some .long) 2 [.ref (ad 0), .int z, .int a] S (tLoad S z a) (some (.long (wLoad S z a))) := by
  refine ev_ent [some (.ref (ad 0)), some (.int z), some (.int a)] rfl (by decide) (Nat.le_of_ble_eq_true rfl) rfl gTT (fun p e s m args below meth c A X hr hk => ?_)
  refine ev_aload_n X d_M_load_0 rfl ?_
  refine ev_iload_n X d_M_load_1 rfl ?_
  refine ev_cV1 X m_M_66 c_M_busy lo_mod rfl rfl (by decide) (by decide) d_M_load_2 rfl rfl (Nat.le_of_ble_eq_true rfl) ?_
  refine ev_if_eqB (tgt := 12) X d_M_load_5 (by decide) (fun h5 => ?_) (fun h5 => ?_)
  · refine ev_aload_n X d_M_load_12 rfl ?_
    refine ev_iload_n X d_M_load_13 rfl ?_
    refine ev_iload_n X d_M_load_14 rfl ?_
    refine ev_iconst (v := 1) X d_M_load_15 (by decide) ?_
    refine ev_cV1 X m_M_71 (c_M_allowed (bsM_in h5) (Or.inl (bsM_no h5))) lo_mod rfl rfl (by decide) (by decide) d_M_load_16 rfl rfl (Nat.le_of_ble_eq_true rfl) ?_
    refine ev_if_neB (tgt := 36) X d_M_load_19 (by decide) (fun h19 => ?_) (fun h19 => ?_)
    · refine ev_aload_n X d_M_load_36 rfl ?_
      refine ev_getR X f_M_7 lo_mod rfl d_M_load_37 ?_
      refine ev_iload_n X d_M_load_40 rfl ?_
      refine ev_iald X lm_words rfl (inr_z (alM_in h19)) (inr_j (k := 256) rfl (by decide) (alM_in h19)) d_M_load_41 ?_
      refine ev_i2l X d_M_load_42 ?_
      exact ev_lretL X hr hk d_M_load_43 (by simp [wLoad, h5, h19]) (by simp [tLoad, h5, h19])
    · refine ev_aload_n X d_M_load_22 rfl ?_
      refine ev_dup X d_M_load_23 rfl ?_
      refine ev_getI X f_M_75 lo_mod rfl d_M_load_24 ?_
      refine ev_iconst (v := 1) X d_M_load_27 (by decide) ?_
      refine ev_iadd X d_M_load_28 ?_
      refine ev_putI X f_M_75 lo_mod rfl d_M_load_29 ?_
      refine ev_ldc2 X k_M_78 d_M_load_32 ?_
      exact ev_lretL X hr hk d_M_load_35 (by simp [wLoad, h5, h19]) (by simp [tLoad, h5, h19])
  · refine ev_ldc2 X k_M_69 d_M_load_8 ?_
    exact ev_lretL X hr hk d_M_load_11 (by simp [wLoad, h5]) (by simp [tLoad, h5])
set_option maxHeartbeats 4000000 in
set_option maxRecDepth 100000 in
theorem c_M_store {l : Launch} {D : va_G} {ad : Nat → Nat} {ca : Nat → ClassId} {x : va_W} {S : St} {z a v : Int32}  : CtM l D ad ca x y_M_store b_M_store 4 (some .int) 2 [.ref (ad 0), .int z, .int a, .int v] S (tStore S z a v) (some (.int (wStore S z a))) := by
  refine ev_ent [some (.ref (ad 0)), some (.int z), some (.int a), some (.int v)] rfl (by decide) (Nat.le_of_ble_eq_true rfl) rfl gTT (fun p e s m args below meth c A X hr hk => ?_)
  refine ev_aload_n X d_M_store_0 rfl ?_
  refine ev_iload_n X d_M_store_1 rfl ?_
  refine ev_cV1 X m_M_66 c_M_busy lo_mod rfl rfl (by decide) (by decide) d_M_store_2 rfl rfl (Nat.le_of_ble_eq_true rfl) ?_
  refine ev_if_eqB (tgt := 10) X d_M_store_5 (by decide) (fun h5 => ?_) (fun h5 => ?_)
  · refine ev_aload_n X d_M_store_10 rfl ?_
    refine ev_iload_n X d_M_store_11 rfl ?_
    refine ev_iload_n X d_M_store_12 rfl ?_
    refine ev_iconst (v := 2) X d_M_store_13 (by decide) ?_
    refine ev_cV1 X m_M_71 (c_M_allowed (bsM_in h5) (Or.inl (bsM_no h5))) lo_mod rfl rfl (by decide) (by decide) d_M_store_14 rfl rfl (Nat.le_of_ble_eq_true rfl) ?_
    refine ev_if_neB (tgt := 32) X d_M_store_17 (by decide) (fun h17 => ?_) (fun h17 => ?_)
    · refine ev_aload_n X d_M_store_32 rfl ?_
      refine ev_getR X f_M_7 lo_mod rfl d_M_store_33 ?_
      refine ev_iload_n X d_M_store_36 rfl ?_
      refine ev_iload_n X d_M_store_37 rfl ?_
      refine ev_iast X lm_words rfl (inr_z (alM_in h17)) (inr_j (k := 256) rfl (by decide) (alM_in h17)) d_M_store_38 ?_
      refine ev_iconst (v := 0) X d_M_store_39 (by decide) ?_
      exact ev_iretL X hr hk d_M_store_40 (by simp [wStore, h5, h17]) (by simp [tStore, h5, h17])
    · refine ev_aload_n X d_M_store_20 rfl ?_
      refine ev_dup X d_M_store_21 rfl ?_
      refine ev_getI X f_M_75 lo_mod rfl d_M_store_22 ?_
      refine ev_iconst (v := 1) X d_M_store_25 (by decide) ?_
      refine ev_iadd X d_M_store_26 ?_
      refine ev_putI X f_M_75 lo_mod rfl d_M_store_27 ?_
      refine ev_iconst (v := 1) X d_M_store_30 (by decide) ?_
      exact ev_iretL X hr hk d_M_store_31 (by simp [wStore, h5, h17]) (by simp [tStore, h5, h17])
  · refine ev_iconst (v := (-1)) X d_M_store_8 (by decide) ?_
    exact ev_iretL X hr hk d_M_store_9 (by simp [wStore, h5]) (by simp [tStore, h5])
set_option maxHeartbeats 4000000 in
set_option maxRecDepth 100000 in
theorem c_M_give {l : Launch} {D : va_G} {ad : Nat → Nat} {ca : Nat → ClassId} {x : va_W} {S : St} {z a v : Int32}  : CtM l D ad ca x y_M_give b_M_give 4 (some .boolean) 2 [.ref (ad 0), .int z, .int a, .int v] S (tGive S z a v) (some (.int (b2i (wGive S z a)))) := by
  refine ev_ent [some (.ref (ad 0)), some (.int z), some (.int a), some (.int v)] rfl (by decide) (Nat.le_of_ble_eq_true rfl) rfl gTT (fun p e s m args below meth c A X hr hk => ?_)
  refine ev_aload_n X d_M_give_0 rfl ?_
  refine ev_iload_n X d_M_give_1 rfl ?_
  refine ev_cV1 X m_M_66 c_M_busy lo_mod rfl rfl (by decide) (by decide) d_M_give_2 rfl rfl (Nat.le_of_ble_eq_true rfl) ?_
  refine ev_if_neB (tgt := 18) X d_M_give_5 (by decide) (fun h5 => ?_) (fun h5 => ?_)
  · refine ev_iconst (v := 0) X d_M_give_18 (by decide) ?_
    exact ev_zretL X hr hk d_M_give_19 (by first | (simp [wGive, b2i, h5, hi]; done) | (simp [wGive, b2i, h5]; done)) (by first | (simp [tGive, h5, hi]; done) | (simp [tGive, h5]; done))
  · refine ev_iload_n X d_M_give_8 rfl ?_
    refine ev_if_lt (tgt := 18) X d_M_give_9 (by decide) (fun h9 => ?_) (fun h9 => ?_)
    · have hi : inr a 8 = false := by simp [inr, h9]
      refine ev_iconst (v := 0) X d_M_give_18 (by decide) ?_
      exact ev_zretL X hr hk d_M_give_19 (by first | (simp [wGive, b2i, h5, hi]; done) | (simp [wGive, b2i, h5]; done)) (by first | (simp [tGive, h5, hi]; done) | (simp [tGive, h5]; done))
    · refine ev_iload_n X d_M_give_12 rfl ?_
      refine ev_bipush (v := 7) X d_M_give_13 (by decide) ?_
      refine ev_icmp_le (tgt := 20) X d_M_give_15 (by decide) (fun h15 => ?_) (fun h15 => ?_)
      · have hi : inr a 8 = true := inr_le (n := 7) (by decide) rfl rfl h9 h15
        refine ev_aload_n X d_M_give_20 rfl ?_
        refine ev_getR X f_M_16 lo_mod rfl d_M_give_21 ?_
        refine ev_bipush (v := 8) X d_M_give_24 (by decide) ?_
        refine ev_iload_n X d_M_give_26 rfl ?_
        refine ev_imul X d_M_give_27 ?_
        refine ev_iload_n X d_M_give_28 rfl ?_
        refine ev_iadd X d_M_give_29 ?_
        refine ev_iload_n X d_M_give_30 rfl ?_
        refine ev_iast X lm_kept rfl (k8_in (bsM_in h5) hi).1 (k8_in (bsM_in h5) hi).2 d_M_give_31 ?_
        refine ev_iconst (v := 1) X d_M_give_32 (by decide) ?_
        exact ev_zretL X hr hk d_M_give_33 (by first | (simp [wGive, b2i, h5, hi]; done) | (simp [wGive, b2i, h5]; done)) (by first | (simp [tGive, h5, hi]; done) | (simp [tGive, h5]; done))
      · have hi : inr a 8 = false := inr_nle (n := 7) (by decide) rfl rfl h15
        refine ev_iconst (v := 0) X d_M_give_18 (by decide) ?_
        exact ev_zretL X hr hk d_M_give_19 (by first | (simp [wGive, b2i, h5, hi]; done) | (simp [wGive, b2i, h5]; done)) (by first | (simp [tGive, h5, hi]; done) | (simp [tGive, h5]; done))
set_option maxHeartbeats 4000000 in
set_option maxRecDepth 100000 in
theorem c_M_register {l : Launch} {D : va_G} {ad : Nat → Nat} {ca : Nat → ClassId} {x : va_W} {S : St} {z a : Int32}  : CtM l D ad ca x y_M_register b_M_register 3 (some .long) 2 [.ref (ad 0), .int z, .int a] S S (some (.long (wReg S z a))) := by
  refine ev_ent [some (.ref (ad 0)), some (.int z), some (.int a)] rfl (by decide) (Nat.le_of_ble_eq_true rfl) rfl gTT (fun p e s m args below meth c A X hr hk => ?_)
  refine ev_aload_n X d_M_register_0 rfl ?_
  refine ev_iload_n X d_M_register_1 rfl ?_
  refine ev_cV1 X m_M_66 c_M_busy lo_mod rfl rfl (by decide) (by decide) d_M_register_2 rfl rfl (Nat.le_of_ble_eq_true rfl) ?_
  refine ev_if_neB (tgt := 18) X d_M_register_5 (by decide) (fun h5 => ?_) (fun h5 => ?_)
  · refine ev_ldc2 X k_M_69 d_M_register_18 ?_
    refine ev_goto (tgt := 36) X d_M_register_21 (by decide) ?_
    exact ev_lretL X hr hk d_M_register_36 (by first | (simp [wReg, h5, hi]; done) | (simp [wReg, h5]; done)) (rfl)
  · refine ev_iload_n X d_M_register_8 rfl ?_
    refine ev_if_lt (tgt := 18) X d_M_register_9 (by decide) (fun h9 => ?_) (fun h9 => ?_)
    · have hi : inr a 8 = false := by simp [inr, h9]
      refine ev_ldc2 X k_M_69 d_M_register_18 ?_
      refine ev_goto (tgt := 36) X d_M_register_21 (by decide) ?_
      exact ev_lretL X hr hk d_M_register_36 (by first | (simp [wReg, h5, hi]; done) | (simp [wReg, h5]; done)) (rfl)
    · refine ev_iload_n X d_M_register_12 rfl ?_
      refine ev_bipush (v := 7) X d_M_register_13 (by decide) ?_
      refine ev_icmp_le (tgt := 24) X d_M_register_15 (by decide) (fun h15 => ?_) (fun h15 => ?_)
      · have hi : inr a 8 = true := inr_le (n := 7) (by decide) rfl rfl h9 h15
        refine ev_aload_n X d_M_register_24 rfl ?_
        refine ev_getR X f_M_16 lo_mod rfl d_M_register_25 ?_
        refine ev_bipush (v := 8) X d_M_register_28 (by decide) ?_
        refine ev_iload_n X d_M_register_30 rfl ?_
        refine ev_imul X d_M_register_31 ?_
        refine ev_iload_n X d_M_register_32 rfl ?_
        refine ev_iadd X d_M_register_33 ?_
        refine ev_iald X lm_kept rfl (k8_in (bsM_in h5) hi).1 (k8_in (bsM_in h5) hi).2 d_M_register_34 ?_
        refine ev_i2l X d_M_register_35 ?_
        exact ev_lretL X hr hk d_M_register_36 (by first | (simp [wReg, h5, hi]; done) | (simp [wReg, h5]; done)) (rfl)
      · have hi : inr a 8 = false := inr_nle (n := 7) (by decide) rfl rfl h15
        refine ev_ldc2 X k_M_69 d_M_register_18 ?_
        refine ev_goto (tgt := 36) X d_M_register_21 (by decide) ?_
        exact ev_lretL X hr hk d_M_register_36 (by first | (simp [wReg, h5, hi]; done) | (simp [wReg, h5]; done)) (rfl)
set_option maxHeartbeats 4000000 in
set_option maxRecDepth 100000 in
theorem c_M_verify {l : Launch} {D : va_G} {ad : Nat → Nat} {ca : Nat → ClassId} {x : va_W} {S : St} {u v b : Int32}  : CtM l D ad ca x y_M_verify b_M_verify 4 (some .boolean) 2 [.ref (ad 0), .int u, .int v, .int b] S S (some (.int (b2i (decide (b = prfS (S 0 0) u v))))) := by
  refine ev_ent [some (.ref (ad 0)), some (.int u), some (.int v), some (.int b)] rfl (by decide) (Nat.le_of_ble_eq_true rfl) rfl gTT (fun p e s m args below meth c A X hr hk => ?_)
  refine ev_iload_n X d_M_verify_0 rfl ?_
  refine ev_aload_n X d_M_verify_1 rfl ?_
  refine ev_iload_n X d_M_verify_2 rfl ?_
  refine ev_iload_n X d_M_verify_3 rfl ?_
  refine ev_cV1 X m_M_103 c_M_proof lo_mod rfl rfl (by decide) (by decide) d_M_verify_4 rfl rfl (Nat.le_of_ble_eq_true rfl) ?_
  refine ev_icmp_ne (tgt := 14) X d_M_verify_7 (by decide) (fun h7 => ?_) (fun h7 => ?_)
  · refine ev_iconst (v := 0) X d_M_verify_14 (by decide) ?_
    exact ev_zretL X hr hk d_M_verify_15 (by simp [b2i, h7]) (rfl)
  · refine ev_iconst (v := 1) X d_M_verify_10 (by decide) ?_
    refine ev_goto (tgt := 15) X d_M_verify_11 (by decide) ?_
    exact ev_zretL X hr hk d_M_verify_15 (by simp [b2i, h7]) (rfl)
def wRel (S : St) (q : Int32) : Int64 := if thM S q = true then (if S 5 q.toNatClampNeg < 4 then 1099511627776 else (S 11 q.toNatClampNeg).toInt64) else 1099511627776
def wMea (S : St) (q : Int32) : Int64 := if thM S q = true then (S 10 q.toNatClampNeg).toInt64 else 1099511627776
def lvM (S : St) (q : Nat) (t : Int32) : St := up2 (up2 S 5 (S 4 q).toNatClampNeg t) 4 q (-1)
def edM (S : St) (q : Nat) (t v : Int32) : St := lvM (up2 S 11 (S 4 q).toNatClampNeg v) q t
set_option maxHeartbeats 4000000 in
set_option maxRecDepth 100000 in
theorem c_M_released {l : Launch} {D : va_G} {ad : Nat → Nat} {ca : Nat → ClassId} {x : va_W} {S : St} {q : Int32}  : CtM l D ad ca x y_M_released b_M_released 2 (some .long) 1 [.ref (ad 0), .int q] S S (some (.long (wRel S q))) := by
  refine ev_ent [some (.ref (ad 0)), some (.int q)] rfl (by decide) (Nat.le_of_ble_eq_true rfl) rfl gTT (fun p e s m args below meth c A X hr hk => ?_)
  refine ev_aload_n X d_M_released_0 rfl ?_
  refine ev_iload_n X d_M_released_1 rfl ?_
  refine ev_cV1 X m_M_88 c_M_there lo_mod rfl rfl (by decide) (by decide) d_M_released_2 rfl rfl (Nat.le_of_ble_eq_true rfl) ?_
  refine ev_if_eqB (tgt := 28) X d_M_released_5 (by decide) (fun h5 => ?_) (fun h5 => ?_)
  · refine ev_ldc2 X k_M_69 d_M_released_28 ?_
    exact ev_lretL X hr hk d_M_released_31 (by simp [wRel, h5]) (rfl)
  · refine ev_aload_n X d_M_released_8 rfl ?_
    refine ev_getR X f_M_22 lo_mod rfl d_M_released_9 ?_
    refine ev_iload_n X d_M_released_12 rfl ?_
    refine ev_iald X lm_states rfl (inr_z (thM_in h5)) (inr_j (k := 4) rfl (by decide) (thM_in h5)) d_M_released_13 ?_
    refine ev_iconst (v := 4) X d_M_released_14 (by decide) ?_
    refine ev_icmp_lt (tgt := 28) X d_M_released_15 (by decide) (fun h15 => ?_) (fun h15 => ?_)
    · refine ev_ldc2 X k_M_69 d_M_released_28 ?_
      exact ev_lretL X hr hk d_M_released_31 (by simp [wRel, h5, h15]) (rfl)
    · refine ev_aload_n X d_M_released_18 rfl ?_
      refine ev_getR X f_M_40 lo_mod rfl d_M_released_19 ?_
      refine ev_iload_n X d_M_released_22 rfl ?_
      refine ev_iald X lm_outs rfl (inr_z (thM_in h5)) (inr_j (k := 4) rfl (by decide) (thM_in h5)) d_M_released_23 ?_
      refine ev_i2l X d_M_released_24 ?_
      refine ev_goto (tgt := 31) X d_M_released_25 (by decide) ?_
      exact ev_lretL X hr hk d_M_released_31 (by simp [wRel, h5, h15]) (rfl)
set_option maxHeartbeats 4000000 in
set_option maxRecDepth 100000 in
theorem c_M_measurement {l : Launch} {D : va_G} {ad : Nat → Nat} {ca : Nat → ClassId} {x : va_W} {S : St} {q : Int32}  : CtM l D ad ca x y_M_measurement b_M_measurement 2 (some .long) 1 [.ref (ad 0), .int q] S S (some (.long (wMea S q))) := by
  refine ev_ent [some (.ref (ad 0)), some (.int q)] rfl (by decide) (Nat.le_of_ble_eq_true rfl) rfl gTT (fun p e s m args below meth c A X hr hk => ?_)
  refine ev_aload_n X d_M_measurement_0 rfl ?_
  refine ev_iload_n X d_M_measurement_1 rfl ?_
  refine ev_cV1 X m_M_88 c_M_there lo_mod rfl rfl (by decide) (by decide) d_M_measurement_2 rfl rfl (Nat.le_of_ble_eq_true rfl) ?_
  refine ev_if_eqB (tgt := 18) X d_M_measurement_5 (by decide) (fun h5 => ?_) (fun h5 => ?_)
  · refine ev_ldc2 X k_M_69 d_M_measurement_18 ?_
    exact ev_lretL X hr hk d_M_measurement_21 (by simp [wMea, h5]) (rfl)
  · refine ev_aload_n X d_M_measurement_8 rfl ?_
    refine ev_getR X f_M_37 lo_mod rfl d_M_measurement_9 ?_
    refine ev_iload_n X d_M_measurement_12 rfl ?_
    refine ev_iald X lm_measures rfl (inr_z (thM_in h5)) (inr_j (k := 4) rfl (by decide) (thM_in h5)) d_M_measurement_13 ?_
    refine ev_i2l X d_M_measurement_14 ?_
    refine ev_goto (tgt := 21) X d_M_measurement_15 (by decide) ?_
    exact ev_lretL X hr hk d_M_measurement_21 (by simp [wMea, h5]) (rfl)
set_option maxHeartbeats 4000000 in
set_option maxRecDepth 100000 in
theorem c_M_leave {l : Launch} {D : va_G} {ad : Nat → Nat} {ca : Nat → ClassId} {x : va_W} {S : St} {q t : Int32} (hq : inr q 2 = true) (he : inr (S 4 q.toNatClampNeg) 4 = true) : CtM l D ad ca x y_M_leave b_M_leave 3 none 0 [.ref (ad 0), .int q, .int t] S (lvM S q.toNatClampNeg t) none := by
  refine ev_ent [some (.ref (ad 0)), some (.int q), some (.int t)] rfl (by decide) (Nat.le_of_ble_eq_true rfl) rfl gTT (fun p e s m args below meth c A X hr hk => ?_)
  refine ev_aload_n X d_M_leave_0 rfl ?_
  refine ev_getR X f_M_22 lo_mod rfl d_M_leave_1 ?_
  refine ev_aload_n X d_M_leave_4 rfl ?_
  refine ev_getR X f_M_19 lo_mod rfl d_M_leave_5 ?_
  refine ev_iload_n X d_M_leave_8 rfl ?_
  refine ev_iald X lm_runs rfl (inr_z hq) (inr_j (k := 2) rfl (by decide) hq) d_M_leave_9 ?_
  refine ev_iload_n X d_M_leave_10 rfl ?_
  refine ev_iast X lm_states rfl (inr_z he) (inr_j (k := 4) rfl (by decide) he) d_M_leave_11 ?_
  refine ev_aload_n X d_M_leave_12 rfl ?_
  refine ev_getR X f_M_19 lo_mod rfl d_M_leave_13 ?_
  refine ev_iload_n X d_M_leave_16 rfl ?_
  refine ev_iconst (v := (-1)) X d_M_leave_17 (by decide) ?_
  refine ev_iast X lm_runs rfl (inr_z hq) (inr_j (k := 2) rfl (by decide) hq) d_M_leave_18 ?_
  exact ev_vretL X hr hk d_M_leave_19 (rfl)
set_option maxHeartbeats 4000000 in
set_option maxRecDepth 100000 in
theorem c_M_end {l : Launch} {D : va_G} {ad : Nat → Nat} {ca : Nat → ClassId} {x : va_W} {S : St} {q t v : Int32} (hq : inr q 2 = true) (he : inr (S 4 q.toNatClampNeg) 4 = true) : CtM l D ad ca x y_M_end b_M_end 4 none 1 [.ref (ad 0), .int q, .int t, .int v] S (edM S q.toNatClampNeg t v) none := by
  refine ev_ent [some (.ref (ad 0)), some (.int q), some (.int t), some (.int v)] rfl (by decide) (Nat.le_of_ble_eq_true rfl) rfl gTT (fun p e s m args below meth c A X hr hk => ?_)
  refine ev_aload_n X d_M_end_0 rfl ?_
  refine ev_getR X f_M_40 lo_mod rfl d_M_end_1 ?_
  refine ev_aload_n X d_M_end_4 rfl ?_
  refine ev_getR X f_M_19 lo_mod rfl d_M_end_5 ?_
  refine ev_iload_n X d_M_end_8 rfl ?_
  refine ev_iald X lm_runs rfl (inr_z hq) (inr_j (k := 2) rfl (by decide) hq) d_M_end_9 ?_
  refine ev_iload_n X d_M_end_10 rfl ?_
  refine ev_iast X lm_outs rfl (inr_z he) (inr_j (k := 4) rfl (by decide) he) d_M_end_11 ?_
  refine ev_aload_n X d_M_end_12 rfl ?_
  refine ev_iload_n X d_M_end_13 rfl ?_
  refine ev_iload_n X d_M_end_14 rfl ?_
  refine ev_cV0 X m_M_91 (c_M_leave hq (by rw [up2_ne (by decide)]; exact he)) lo_mod rfl rfl (by decide) (by decide) d_M_end_15 rfl rfl (Nat.le_of_ble_eq_true rfl) ?_
  exact ev_vretL X hr hk d_M_end_18 (rfl)
set_option maxHeartbeats 4000000 in
set_option maxRecDepth 100000 in
theorem c_M_interrupt {l : Launch} {D : va_G} {ad : Nat → Nat} {ca : Nat → ClassId} {x : va_W} {S : St} {q : Int32} (hru : inr q 2 = true → RuOK S q.toNatClampNeg) : CtM l D ad ca x y_M_interrupt b_M_interrupt 3 (some .int) 1 [.ref (ad 0), .int q] S (if inr q 2 = true ∧ ¬ S 4 q.toNatClampNeg < 0 then lvM S q.toNatClampNeg 3 else S) (some (.int (if inr q 2 = true ∧ ¬ S 4 q.toNatClampNeg < 0 then S 4 q.toNatClampNeg else -1))) := by
  refine ev_ent [some (.ref (ad 0)), some (.int q), none] rfl (by decide) (Nat.le_of_ble_eq_true rfl) rfl gTT (fun p e s m args below meth c A X hr hk => ?_)
  refine ev_iload_n X d_M_interrupt_0 rfl ?_
  refine ev_cS1 X m_M_58 c_M_processor (by decide) (by decide) d_M_interrupt_1 rfl rfl (Nat.le_of_ble_eq_true rfl) ?_
  refine ev_if_eqB (tgt := 16) X d_M_interrupt_4 (by decide) (fun h4 => ?_) (fun h4 => ?_)
  · refine ev_iconst (v := (-1)) X d_M_interrupt_16 (by decide) ?_
    exact ev_iretL X hr hk d_M_interrupt_17 (by first | (simp [h4, hn]; done) | (simp [h4]; done)) (by first | (simp [h4, hn]; done) | (simp [h4]; done))
  · refine ev_aload_n X d_M_interrupt_7 rfl ?_
    refine ev_getR X f_M_19 lo_mod rfl d_M_interrupt_8 ?_
    refine ev_iload_n X d_M_interrupt_11 rfl ?_
    refine ev_iald X lm_runs rfl (inr_z h4) (inr_j (k := 2) rfl (by decide) h4) d_M_interrupt_12 ?_
    refine ev_if_ge (tgt := 18) X d_M_interrupt_13 (by decide) (fun h13 => ?_) (fun h13 => ?_)
    · have hn : ¬ S 4 q.toNatClampNeg < 0 := Int32.not_lt.mpr h13
      refine ev_aload_n X d_M_interrupt_18 rfl ?_
      refine ev_getR X f_M_19 lo_mod rfl d_M_interrupt_19 ?_
      refine ev_iload_n X d_M_interrupt_22 rfl ?_
      refine ev_iald X lm_runs rfl (inr_z h4) (inr_j (k := 2) rfl (by decide) h4) d_M_interrupt_23 ?_
      refine ev_istore_n X d_M_interrupt_24 (by decide) ?_
      refine ev_aload_n X d_M_interrupt_25 rfl ?_
      refine ev_iload_n X d_M_interrupt_26 rfl ?_
      refine ev_iconst (v := 3) X d_M_interrupt_27 (by decide) ?_
      refine ev_cV0 X m_M_91 (c_M_leave h4 ((hru h4).resolve_left hn)) lo_mod rfl rfl (by decide) (by decide) d_M_interrupt_28 rfl rfl (Nat.le_of_ble_eq_true rfl) ?_
      refine ev_iload_n X d_M_interrupt_31 rfl ?_
      exact ev_iretL X hr hk d_M_interrupt_32 (by first | (simp [h4, hn]; done) | (simp [h4]; done)) (by first | (simp [h4, hn]; done) | (simp [h4]; done))
    · have hn : S 4 q.toNatClampNeg < 0 := Int32.not_le.mp h13
      refine ev_iconst (v := (-1)) X d_M_interrupt_16 (by decide) ?_
      exact ev_iretL X hr hk d_M_interrupt_17 (by first | (simp [h4, hn]; done) | (simp [h4]; done)) (by first | (simp [h4, hn]; done) | (simp [h4]; done))
