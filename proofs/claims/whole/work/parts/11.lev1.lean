theorem w16 (a : Nat) : nI a * 16 = nI (16 * a) := by rw [show (16 : Int32) = nI 16 from rfl, pk_mul, Nat.mul_comm]
set_option maxHeartbeats 4000000 in
set_option maxRecDepth 100000 in
theorem c_X_arePages {l : Launch} {D : va_G} {ad : Nat → Nat} {ca : Nat → ClassId} {x : va_W} {S : St} {f n : Int32}  : CtX l D ad ca x y_X_arePages b_X_arePages 2 (some .boolean) 1 [.int f, .int n] S S (some (.int (b2i (arP f n)))) := by
  refine ev_ent [some (.int f), some (.int n)] rfl (by decide) (Nat.le_of_ble_eq_true rfl) rfl gTT (fun p e s m args below meth c A X hr hk => ?_)
  refine ev_iload_n X d_X_arePages_0 rfl ?_
  refine ev_iconst (v := 1) X d_X_arePages_1 (by decide) ?_
  refine ev_icmp_lt (tgt := 33) X d_X_arePages_2 (by decide) (fun h2 => ?_) (fun h2 => ?_)
  · refine ev_iconst (v := 0) X d_X_arePages_33 (by decide) ?_
    exact ev_zretL X hr hk d_X_arePages_34 (by simp [arP, b2i, h2]) (rfl)
  · refine ev_iload_n X d_X_arePages_5 rfl ?_
    refine ev_bipush (v := 8) X d_X_arePages_6 (by decide) ?_
    refine ev_icmp_gt (tgt := 33) X d_X_arePages_8 (by decide) (fun h8 => ?_) (fun h8 => ?_)
    · refine ev_iconst (v := 0) X d_X_arePages_33 (by decide) ?_
      exact ev_zretL X hr hk d_X_arePages_34 (by simp [arP, b2i, h2, h8]) (rfl)
    · refine ev_iload_n X d_X_arePages_11 rfl ?_
      refine ev_cS1 X m_X_130 c_X_isPage (by decide) (by decide) d_X_arePages_12 rfl rfl (Nat.le_of_ble_eq_true rfl) ?_
      refine ev_if_eqB (tgt := 33) X d_X_arePages_15 (by decide) (fun h15 => ?_) (fun h15 => ?_)
      · refine ev_iconst (v := 0) X d_X_arePages_33 (by decide) ?_
        exact ev_zretL X hr hk d_X_arePages_34 (by simp [arP, b2i, h2, h8, h15]) (rfl)
      · refine ev_iload_n X d_X_arePages_18 rfl ?_
        refine ev_iload_n X d_X_arePages_19 rfl ?_
        refine ev_iadd X d_X_arePages_20 ?_
        refine ev_iconst (v := 1) X d_X_arePages_21 (by decide) ?_
        refine ev_isub X d_X_arePages_22 ?_
        refine ev_cS1 X m_X_130 c_X_isPage (by decide) (by decide) d_X_arePages_23 rfl rfl (Nat.le_of_ble_eq_true rfl) ?_
        refine ev_if_eqB (tgt := 33) X d_X_arePages_26 (by decide) (fun h26 => ?_) (fun h26 => ?_)
        · refine ev_iconst (v := 0) X d_X_arePages_33 (by decide) ?_
          exact ev_zretL X hr hk d_X_arePages_34 (by simp [arP, b2i, h2, h8, h15, h26]) (rfl)
        · refine ev_iconst (v := 1) X d_X_arePages_29 (by decide) ?_
          refine ev_goto (tgt := 34) X d_X_arePages_30 (by decide) ?_
          exact ev_zretL X hr hk d_X_arePages_34 (by simp [arP, b2i, h2, h8, h15, h26]) (rfl)
set_option maxHeartbeats 4000000 in
set_option maxRecDepth 100000 in
theorem c_X_isBusy {l : Launch} {D : va_G} {ad : Nat → Nat} {ca : Nat → ClassId} {x : va_W} {S : St} {z : Int32}  : CtX l D ad ca x y_X_isBusy b_X_isBusy 2 (some .boolean) 1 [.ref (ad 0), .int z] S S (some (.int (b2i (busyS S z)))) := by
  refine ev_ent [some (.ref (ad 0)), some (.int z)] rfl (by decide) (Nat.le_of_ble_eq_true rfl) rfl gTT (fun p e s m args below meth c A X hr hk => ?_)
  refine ev_iload_n X d_X_isBusy_0 rfl ?_
  refine ev_cS1 X m_X_127 c_X_isProcessor (by decide) (by decide) d_X_isBusy_1 rfl rfl (Nat.le_of_ble_eq_true rfl) ?_
  refine ev_if_eqB (tgt := 20) X d_X_isBusy_4 (by decide) (fun h4 => ?_) (fun h4 => ?_)
  · refine ev_iconst (v := 1) X d_X_isBusy_20 (by decide) ?_
    refine ev_goto (tgt := 25) X d_X_isBusy_21 (by decide) ?_
    exact ev_zretL X hr hk d_X_isBusy_25 (by simp [busyS, b2i, h4]) (rfl)
  · refine ev_aload_n X d_X_isBusy_7 rfl ?_
    refine ev_getR X f_X_29 lo_this rfl d_X_isBusy_8 ?_
    refine ev_iload_n X d_X_isBusy_11 rfl ?_
    refine ev_aald X lr_pr rfl (inr_z h4) (inr_j (k := 2) rfl (by decide) h4) d_X_isBusy_12 ?_
    refine ev_getI X f_X_93 (lo_pr (inr_j (k := 2) rfl (by decide) h4)) rfl d_X_isBusy_13 ?_
    refine ev_iconst (v := (-1)) X d_X_isBusy_16 (by decide) ?_
    refine ev_icmp_eq (tgt := 24) X d_X_isBusy_17 (by decide) (fun h17 => ?_) (fun h17 => ?_)
    · refine ev_iconst (v := 0) X d_X_isBusy_24 (by decide) ?_
      exact ev_zretL X hr hk d_X_isBusy_25 (by simp [busyS, b2i, h4, h17]) (rfl)
    · refine ev_iconst (v := 1) X d_X_isBusy_20 (by decide) ?_
      refine ev_goto (tgt := 25) X d_X_isBusy_21 (by decide) ?_
      exact ev_zretL X hr hk d_X_isBusy_25 (by simp [busyS, b2i, h4, h17]) (rfl)
set_option maxHeartbeats 4000000 in
set_option maxRecDepth 100000 in
theorem c_X_runsEnclave {l : Launch} {D : va_G} {ad : Nat → Nat} {ca : Nat → ClassId} {x : va_W} {S : St} {z : Int32}  : CtX l D ad ca x y_X_runsEnclave b_X_runsEnclave 2 (some .boolean) 1 [.ref (ad 0), .int z] S S (some (.int (b2i (runsS S z)))) := by
  refine ev_ent [some (.ref (ad 0)), some (.int z)] rfl (by decide) (Nat.le_of_ble_eq_true rfl) rfl gTT (fun p e s m args below meth c A X hr hk => ?_)
  refine ev_iload_n X d_X_runsEnclave_0 rfl ?_
  refine ev_cS1 X m_X_127 c_X_isProcessor (by decide) (by decide) d_X_runsEnclave_1 rfl rfl (Nat.le_of_ble_eq_true rfl) ?_
  refine ev_if_eqB (tgt := 24) X d_X_runsEnclave_4 (by decide) (fun h4 => ?_) (fun h4 => ?_)
  · refine ev_iconst (v := 0) X d_X_runsEnclave_24 (by decide) ?_
    exact ev_zretL X hr hk d_X_runsEnclave_25 (by simp [runsS, b2i, h4]) (rfl)
  · refine ev_aload_n X d_X_runsEnclave_7 rfl ?_
    refine ev_getR X f_X_29 lo_this rfl d_X_runsEnclave_8 ?_
    refine ev_iload_n X d_X_runsEnclave_11 rfl ?_
    refine ev_aald X lr_pr rfl (inr_z h4) (inr_j (k := 2) rfl (by decide) h4) d_X_runsEnclave_12 ?_
    refine ev_getI X f_X_93 (lo_pr (inr_j (k := 2) rfl (by decide) h4)) rfl d_X_runsEnclave_13 ?_
    refine ev_iconst (v := (-1)) X d_X_runsEnclave_16 (by decide) ?_
    refine ev_icmp_eq (tgt := 24) X d_X_runsEnclave_17 (by decide) (fun h17 => ?_) (fun h17 => ?_)
    · refine ev_iconst (v := 0) X d_X_runsEnclave_24 (by decide) ?_
      exact ev_zretL X hr hk d_X_runsEnclave_25 (by simp [runsS, b2i, h4, h17]) (rfl)
    · refine ev_iconst (v := 1) X d_X_runsEnclave_20 (by decide) ?_
      refine ev_goto (tgt := 25) X d_X_runsEnclave_21 (by decide) ?_
      exact ev_zretL X hr hk d_X_runsEnclave_25 (by simp [runsS, b2i, h4, h17]) (rfl)
set_option maxHeartbeats 4000000 in
set_option maxRecDepth 100000 in
theorem c_X_isThere {l : Launch} {D : va_G} {ad : Nat → Nat} {ca : Nat → ClassId} {x : va_W} {S : St} {z : Int32}  : CtX l D ad ca x y_X_isThere b_X_isThere 2 (some .boolean) 1 [.ref (ad 0), .int z] S S (some (.int (b2i (thrS S z)))) := by
  refine ev_ent [some (.ref (ad 0)), some (.int z)] rfl (by decide) (Nat.le_of_ble_eq_true rfl) rfl gTT (fun p e s m args below meth c A X hr hk => ?_)
  refine ev_iload_n X d_X_isThere_0 rfl ?_
  refine ev_cS1 X m_X_114 c_X_isEnclaveNumber (by decide) (by decide) d_X_isThere_1 rfl rfl (Nat.le_of_ble_eq_true rfl) ?_
  refine ev_if_eqB (tgt := 23) X d_X_isThere_4 (by decide) (fun h4 => ?_) (fun h4 => ?_)
  · refine ev_iconst (v := 0) X d_X_isThere_23 (by decide) ?_
    exact ev_zretL X hr hk d_X_isThere_24 (by simp [thrS, b2i, h4]) (rfl)
  · refine ev_aload_n X d_X_isThere_7 rfl ?_
    refine ev_getR X f_X_22 lo_this rfl d_X_isThere_8 ?_
    refine ev_iload_n X d_X_isThere_11 rfl ?_
    refine ev_aald X lr_en rfl (inr_z h4) (inr_j (k := 4) rfl (by decide) h4) d_X_isThere_12 ?_
    refine ev_getI X f_X_86 (lo_en (inr_j (k := 4) rfl (by decide) h4)) rfl d_X_isThere_13 ?_
    refine ev_if_eq (tgt := 23) X d_X_isThere_16 (by decide) (fun h16 => ?_) (fun h16 => ?_)
    · refine ev_iconst (v := 0) X d_X_isThere_23 (by decide) ?_
      exact ev_zretL X hr hk d_X_isThere_24 (by simp [thrS, b2i, h4, h16]) (rfl)
    · refine ev_iconst (v := 1) X d_X_isThere_19 (by decide) ?_
      refine ev_goto (tgt := 24) X d_X_isThere_20 (by decide) ?_
      exact ev_zretL X hr hk d_X_isThere_24 (by simp [thrS, b2i, h4, h16]) (rfl)
set_option maxHeartbeats 4000000 in
set_option maxRecDepth 100000 in
theorem c_G_setOff {l : Launch} {D : va_G} {ad : Nat → Nat} {ca : Nat → ClassId} {x : va_W} {S : St} {i : Nat} {a : Int32} (L : LyO lyX 41 i 1 flG) : CtX l D ad ca x y_G_setOff b_G_setOff 2 none 1 [.ref (ad i), .int a] S (sG S i 0 0 a) none := by
  refine ev_ent [some (.ref (ad i)), some (.int a)] rfl (by decide) (Nat.le_of_ble_eq_true rfl) rfl gTT (fun p e s m args below meth c A X hr hk => ?_)
  refine ev_aload_n X d_G_setOff_0 rfl ?_
  refine ev_iconst (v := 0) X d_G_setOff_1 (by decide) ?_
  refine ev_iconst (v := 0) X d_G_setOff_2 (by decide) ?_
  refine ev_iload_n X d_G_setOff_3 rfl ?_
  refine ev_cV0 X m_G_21 (c_G_setTo L) L rfl rfl (by decide) (by decide) d_G_setOff_4 rfl rfl (Nat.le_of_ble_eq_true rfl) ?_
  exact ev_vretL X hr hk d_G_setOff_7 (rfl)
set_option maxHeartbeats 4000000 in
set_option maxRecDepth 100000 in
theorem c_G_setBlock {l : Launch} {D : va_G} {ad : Nat → Nat} {ca : Nat → ClassId} {x : va_W} {S : St} {i : Nat} {f v r : Int32} (L : LyO lyX 41 i 1 flG) : CtX l D ad ca x y_G_setBlock b_G_setBlock 4 none 1 [.ref (ad i), .int f, .int v, .int r] S (sB S i f v r) none := by
  refine ev_ent [some (.ref (ad i)), some (.int f), some (.int v), some (.int r)] rfl (by decide) (Nat.le_of_ble_eq_true rfl) rfl gTT (fun p e s m args below meth c A X hr hk => ?_)
  refine ev_aload_n X d_G_setBlock_0 rfl ?_
  refine ev_iconst (v := 3) X d_G_setBlock_1 (by decide) ?_
  refine ev_iload_n X d_G_setBlock_2 rfl ?_
  refine ev_iload_n X d_G_setBlock_3 rfl ?_
  refine ev_iload_n X d_G_setBlock_4 rfl ?_
  refine ev_iconst (v := 2) X d_G_setBlock_5 (by decide) ?_
  refine ev_idiv X d_G_setBlock_6 (by decide) ?_
  refine ev_iadd X d_G_setBlock_7 ?_
  refine ev_iconst (v := 1) X d_G_setBlock_8 (by decide) ?_
  refine ev_isub X d_G_setBlock_9 ?_
  refine ev_cV0 X m_G_21 (c_G_setTo L) L rfl rfl (by decide) (by decide) d_G_setBlock_10 rfl rfl (Nat.le_of_ble_eq_true rfl) ?_
  exact ev_vretL X hr hk d_G_setBlock_13 (rfl)
set_option maxHeartbeats 4000000 in
set_option maxRecDepth 100000 in
theorem c_X_proofOf {l : Launch} {D : va_G} {ad : Nat → Nat} {ca : Nat → ClassId} {x : va_W} {S : St} {u v : Int32}  : CtX l D ad ca x y_X_proofOf b_X_proofOf 3 (some .int) 1 [.ref (ad 0), .int u, .int v] S S (some (.int (prfS (S 0 0) u v))) := by
  refine ev_ent [some (.ref (ad 0)), some (.int u), some (.int v)] rfl (by decide) (Nat.le_of_ble_eq_true rfl) rfl gTT (fun p e s m args below meth c A X hr hk => ?_)
  refine ev_aload_n X d_X_proofOf_0 rfl ?_
  refine ev_getI X f_X_7 lo_this rfl d_X_proofOf_1 ?_
  refine ev_iconst (v := 3) X d_X_proofOf_4 (by decide) ?_
  refine ev_cS1 X m_X_174 c_X_mix (by decide) (by decide) d_X_proofOf_5 rfl rfl (Nat.le_of_ble_eq_true rfl) ?_
  refine ev_iload_n X d_X_proofOf_8 rfl ?_
  refine ev_cS1 X m_X_174 c_X_mix (by decide) (by decide) d_X_proofOf_9 rfl rfl (Nat.le_of_ble_eq_true rfl) ?_
  refine ev_iload_n X d_X_proofOf_12 rfl ?_
  refine ev_cS1 X m_X_174 c_X_mix (by decide) (by decide) d_X_proofOf_13 rfl rfl (Nat.le_of_ble_eq_true rfl) ?_
  exact ev_iretL X hr hk d_X_proofOf_16 (rfl) (rfl)
set_option maxHeartbeats 4000000 in
set_option maxRecDepth 100000 in
theorem c_X_secretOf {l : Launch} {D : va_G} {ad : Nat → Nat} {ca : Nat → ClassId} {x : va_W} {S : St} {u : Int32}  : CtX l D ad ca x y_X_secretOf b_X_secretOf 2 (some .int) 1 [.ref (ad 0), .int u] S S (some (.int (secS (S 0 0) u))) := by
  refine ev_ent [some (.ref (ad 0)), some (.int u)] rfl (by decide) (Nat.le_of_ble_eq_true rfl) rfl gTT (fun p e s m args below meth c A X hr hk => ?_)
  refine ev_aload_n X d_X_secretOf_0 rfl ?_
  refine ev_getI X f_X_7 lo_this rfl d_X_secretOf_1 ?_
  refine ev_bipush (v := 7) X d_X_secretOf_4 (by decide) ?_
  refine ev_cS1 X m_X_174 c_X_mix (by decide) (by decide) d_X_secretOf_6 rfl rfl (Nat.le_of_ble_eq_true rfl) ?_
  refine ev_iload_n X d_X_secretOf_9 rfl ?_
  refine ev_cS1 X m_X_174 c_X_mix (by decide) (by decide) d_X_secretOf_10 rfl rfl (Nat.le_of_ble_eq_true rfl) ?_
  exact ev_iretL X hr hk d_X_secretOf_13 (rfl) (rfl)
set_option maxHeartbeats 4000000 in
set_option maxRecDepth 100000 in
theorem c_X_running {l : Launch} {D : va_G} {ad : Nat → Nat} {ca : Nat → ClassId} {x : va_W} {S : St} {z : Int32}  : CtX l D ad ca x y_X_running b_X_running 2 (some .int) 1 [.ref (ad 0), .int z] S S (some (.int (if inr z 2 = true then S (13 + 14 * z.toNatClampNeg) 2 else -2))) := by
  refine ev_ent [some (.ref (ad 0)), some (.int z)] rfl (by decide) (Nat.le_of_ble_eq_true rfl) rfl gTT (fun p e s m args below meth c A X hr hk => ?_)
  refine ev_iload_n X d_X_running_0 rfl ?_
  refine ev_cS1 X m_X_127 c_X_isProcessor (by decide) (by decide) d_X_running_1 rfl rfl (Nat.le_of_ble_eq_true rfl) ?_
  refine ev_if_eqB (tgt := 19) X d_X_running_4 (by decide) (fun h4 => ?_) (fun h4 => ?_)
  · refine ev_bipush (v := (-2)) X d_X_running_19 (by decide) ?_
    exact ev_iretL X hr hk d_X_running_21 (by simp [h4]) (rfl)
  · refine ev_aload_n X d_X_running_7 rfl ?_
    refine ev_getR X f_X_29 lo_this rfl d_X_running_8 ?_
    refine ev_iload_n X d_X_running_11 rfl ?_
    refine ev_aald X lr_pr rfl (inr_z h4) (inr_j (k := 2) rfl (by decide) h4) d_X_running_12 ?_
    refine ev_getI X f_X_93 (lo_pr (inr_j (k := 2) rfl (by decide) h4)) rfl d_X_running_13 ?_
    refine ev_goto (tgt := 21) X d_X_running_16 (by decide) ?_
    exact ev_iretL X hr hk d_X_running_21 (by simp [h4]) (rfl)
set_option maxHeartbeats 4000000 in
set_option maxRecDepth 100000 in
theorem c_X_owner {l : Launch} {D : va_G} {ad : Nat → Nat} {ca : Nat → ClassId} {x : va_W} {S : St} {z : Int32}  : CtX l D ad ca x y_X_owner b_X_owner 2 (some .int) 1 [.ref (ad 0), .int z] S S (some (.int (if inr z 16 = true then S 2 z.toNatClampNeg else -1))) := by
  refine ev_ent [some (.ref (ad 0)), some (.int z)] rfl (by decide) (Nat.le_of_ble_eq_true rfl) rfl gTT (fun p e s m args below meth c A X hr hk => ?_)
  refine ev_iload_n X d_X_owner_0 rfl ?_
  refine ev_cS1 X m_X_130 c_X_isPage (by decide) (by decide) d_X_owner_1 rfl rfl (Nat.le_of_ble_eq_true rfl) ?_
  refine ev_if_eqB (tgt := 16) X d_X_owner_4 (by decide) (fun h4 => ?_) (fun h4 => ?_)
  · refine ev_iconst (v := (-1)) X d_X_owner_16 (by decide) ?_
    exact ev_iretL X hr hk d_X_owner_17 (by simp [h4]) (rfl)
  · refine ev_aload_n X d_X_owner_7 rfl ?_
    refine ev_getR X f_X_17 lo_this rfl d_X_owner_8 ?_
    refine ev_iload_n X d_X_owner_11 rfl ?_
    refine ev_iald X li_own rfl (inr_z h4) (inr_j (k := 16) rfl (by decide) h4) d_X_owner_12 ?_
    refine ev_goto (tgt := 17) X d_X_owner_13 (by decide) ?_
    exact ev_iretL X hr hk d_X_owner_17 (by simp [h4]) (rfl)
set_option maxHeartbeats 4000000 in
set_option maxRecDepth 100000 in
theorem c_X_state {l : Launch} {D : va_G} {ad : Nat → Nat} {ca : Nat → ClassId} {x : va_W} {S : St} {z : Int32}  : CtX l D ad ca x y_X_state b_X_state 2 (some .int) 1 [.ref (ad 0), .int z] S S (some (.int (if inr z 4 = true then S (4 + 2 * z.toNatClampNeg) 1 else -1))) := by
  refine ev_ent [some (.ref (ad 0)), some (.int z)] rfl (by decide) (Nat.le_of_ble_eq_true rfl) rfl gTT (fun p e s m args below meth c A X hr hk => ?_)
  refine ev_iload_n X d_X_state_0 rfl ?_
  refine ev_cS1 X m_X_114 c_X_isEnclaveNumber (by decide) (by decide) d_X_state_1 rfl rfl (Nat.le_of_ble_eq_true rfl) ?_
  refine ev_if_eqB (tgt := 19) X d_X_state_4 (by decide) (fun h4 => ?_) (fun h4 => ?_)
  · refine ev_iconst (v := (-1)) X d_X_state_19 (by decide) ?_
    exact ev_iretL X hr hk d_X_state_20 (by simp [h4]) (rfl)
  · refine ev_aload_n X d_X_state_7 rfl ?_
    refine ev_getR X f_X_22 lo_this rfl d_X_state_8 ?_
    refine ev_iload_n X d_X_state_11 rfl ?_
    refine ev_aald X lr_en rfl (inr_z h4) (inr_j (k := 4) rfl (by decide) h4) d_X_state_12 ?_
    refine ev_getI X f_X_86 (lo_en (inr_j (k := 4) rfl (by decide) h4)) rfl d_X_state_13 ?_
    refine ev_goto (tgt := 20) X d_X_state_16 (by decide) ?_
    exact ev_iretL X hr hk d_X_state_20 (by simp [h4]) (rfl)
set_option maxHeartbeats 4000000 in
set_option maxRecDepth 100000 in
theorem c_X_areSystemPages {l : Launch} {D : va_G} {ad : Nat → Nat} {ca : Nat → ClassId} {x : va_W} {S : St} {f n : Nat} (hfn : f + n ≤ 16) : CtX l D ad ca x y_X_areSystemPages b_X_areSystemPages 4 (some .boolean) 0 [.ref (ad 0), .int (nI f), .int (nI n)] S S (some (.int (b2i (sysP S f n)))) := by
  refine ev_ent [some (.ref (ad 0)), some (.int (nI f)), some (.int (nI n)), none] rfl (by decide) (Nat.le_of_ble_eq_true rfl) rfl gTT (fun p e s m args below meth c A X hr hk => ?_)
  have loop : ∀ (r k : Nat), k + r = f + n → sysP S f n = sysP S k r → EV p l e (rmd 0) s m args below meth c 0 0 (MQ below (QQ clX D A (ly_w lyX 41 ad ca S x) (some (.int (b2i (sysP S f n))))) args s 0 0 A) 4 D clX A s.heap (ly_w lyX 41 ad ca S x) 2 [some (.ref (ad 0)), some (.int (nI f)), some (.int (nI n)), some (.int (nI k))] [] := by
    intro r
    induction r with
    | zero =>
      intro k q1 q2
      refine ev_iload_n X d_X_areSystemPages_2 rfl ?_
      refine ev_iload_n X d_X_areSystemPages_3 rfl ?_
      refine ev_iload_n X d_X_areSystemPages_4 rfl ?_
      refine ev_iadd X d_X_areSystemPages_5 ?_
      refine ev_icmp_ge (tgt := 27) X d_X_areSystemPages_6 (by decide) (fun h6 => ?_) (fun h6 => ?_)
      · refine ev_iconst (v := 1) X d_X_areSystemPages_27 (by decide) ?_
        exact ev_zretL X hr hk d_X_areSystemPages_28 (by rw [q2]; rfl) (rfl)
      · exact absurd (by rw [nI_add]; exact nI_le (by omega) (by omega)) h6
    | succ r ih =>
      intro k q1 q2
      refine ev_iload_n X d_X_areSystemPages_2 rfl ?_
      refine ev_iload_n X d_X_areSystemPages_3 rfl ?_
      refine ev_iload_n X d_X_areSystemPages_4 rfl ?_
      refine ev_iadd X d_X_areSystemPages_5 ?_
      refine ev_icmp_ge (tgt := 27) X d_X_areSystemPages_6 (by decide) (fun h6 => ?_) (fun h6 => ?_)
      · exact absurd h6 (by rw [nI_add]; exact nI_ge (by omega) (by omega))
      · refine ev_aload_n X d_X_areSystemPages_9 rfl ?_
        refine ev_getR X f_X_17 lo_this rfl d_X_areSystemPages_10 ?_
        refine ev_iload_n X d_X_areSystemPages_13 rfl ?_
        refine ev_iald X li_own rfl rfl (by omega) d_X_areSystemPages_14 ?_
        refine ev_iconst (v := 1) X d_X_areSystemPages_15 (by decide) ?_
        refine ev_icmp_eq (tgt := 21) X d_X_areSystemPages_16 (by decide) (fun h16 => ?_) (fun h16 => ?_)
        · refine ev_iinc (v := nI (k + 1)) X d_X_areSystemPages_21 rfl (nI_1 k) (by decide) ?_
          refine ev_goto (tgt := 2) X d_X_areSystemPages_24 (by decide) ?_
          exact ih (k + 1) (by omega) (by rw [q2]; simp [sysP, h16])
        · refine ev_iconst (v := 0) X d_X_areSystemPages_19 (by decide) ?_
          exact ev_zretL X hr hk d_X_areSystemPages_20 (by rw [q2]; simp [sysP, b2i, h6, h16]) (rfl)
  refine ev_iload_n X d_X_areSystemPages_0 rfl ?_
  refine ev_istore_n X d_X_areSystemPages_1 (by decide) ?_
  exact loop n f rfl rfl
set_option maxHeartbeats 4000000 in
set_option maxRecDepth 100000 in
theorem c_X_leastFreeEnclave {l : Launch} {D : va_G} {ad : Nat → Nat} {ca : Nat → ClassId} {x : va_W} {S : St}   : CtX l D ad ca x y_X_leastFreeEnclave b_X_leastFreeEnclave 2 (some .int) 0 [.ref (ad 0)] S S (some (.int (lfeS S 0 4))) := by
  refine ev_ent [some (.ref (ad 0)), none] rfl (by decide) (Nat.le_of_ble_eq_true rfl) rfl gTT (fun p e s m args below meth c A X hr hk => ?_)
  have loop : ∀ (r k : Nat), k + r = 4 → lfeS S 0 4 = lfeS S k r → EV p l e (rmd 0) s m args below meth c 0 0 (MQ below (QQ clX D A (ly_w lyX 41 ad ca S x) (some (.int (lfeS S 0 4)))) args s 0 0 A) 2 D clX A s.heap (ly_w lyX 41 ad ca S x) 2 [some (.ref (ad 0)), some (.int (nI k))] [] := by
    intro r
    induction r with
    | zero =>
      intro k q1 q2
      refine ev_iload_n X d_X_leastFreeEnclave_2 rfl ?_
      refine ev_iconst (v := 4) X d_X_leastFreeEnclave_3 (by decide) ?_
      refine ev_icmp_ge (tgt := 27) X d_X_leastFreeEnclave_4 (by decide) (fun h4 => ?_) (fun h4 => ?_)
      · refine ev_iconst (v := (-1)) X d_X_leastFreeEnclave_27 (by decide) ?_
        exact ev_iretL X hr hk d_X_leastFreeEnclave_28 (by rw [q2]; rfl) (rfl)
      · exact absurd (nI_le (a := 4) (by omega) (by omega)) h4
    | succ r ih =>
      intro k q1 q2
      refine ev_iload_n X d_X_leastFreeEnclave_2 rfl ?_
      refine ev_iconst (v := 4) X d_X_leastFreeEnclave_3 (by decide) ?_
      refine ev_icmp_ge (tgt := 27) X d_X_leastFreeEnclave_4 (by decide) (fun h4 => ?_) (fun h4 => ?_)
      · exact absurd h4 (nI_ge (b := 4) (by omega) (by decide))
      · refine ev_aload_n X d_X_leastFreeEnclave_7 rfl ?_
        refine ev_getR X f_X_22 lo_this rfl d_X_leastFreeEnclave_8 ?_
        refine ev_iload_n X d_X_leastFreeEnclave_11 rfl ?_
        refine ev_aald X lr_en rfl rfl (show k < 4 by omega) d_X_leastFreeEnclave_12 ?_
        refine ev_getI X f_X_86 (lo_en (show k < 4 by omega)) rfl d_X_leastFreeEnclave_13 ?_
        refine ev_if_ne (tgt := 21) X d_X_leastFreeEnclave_16 (by decide) (fun h16 => ?_) (fun h16 => ?_)
        · refine ev_iinc (v := nI (k + 1)) X d_X_leastFreeEnclave_21 rfl (nI_1 k) (by decide) ?_
          refine ev_goto (tgt := 2) X d_X_leastFreeEnclave_24 (by decide) ?_
          exact ih (k + 1) (by omega) (by rw [q2]; simp [lfeS, h16])
        · refine ev_iload_n X d_X_leastFreeEnclave_19 rfl ?_
          exact ev_iretL X hr hk d_X_leastFreeEnclave_20 (by rw [q2]; simp [lfeS, h4, h16]) (rfl)
  refine ev_iconst (v := 0) X d_X_leastFreeEnclave_0 (by decide) ?_
  refine ev_istore_n X d_X_leastFreeEnclave_1 (by decide) ?_
  exact loop 4 0 rfl rfl
set_option maxHeartbeats 4000000 in
set_option maxRecDepth 100000 in
theorem c_X_setOwner {l : Launch} {D : va_G} {ad : Nat → Nat} {ca : Nat → ClassId} {x : va_W} {S : St} {i f n : Nat} {v : Int32} (L : LyO lyX 41 i 3 (flE i)) (hf : S i 2 = nI f) (hn : S i 3 = nI n) (hfn : f + n ≤ 16) : CtX l D ad ca x y_X_setOwner b_X_setOwner 5 none 0 [.ref (ad 0), .ref (ad i), .int v] S (fil S 2 f (f + n) v) none := by
  refine ev_ent [some (.ref (ad 0)), some (.ref (ad i)), some (.int v), none, none] rfl (by decide) (Nat.le_of_ble_eq_true rfl) rfl gTT (fun p e s m args below meth c A X hr hk => ?_)
  have loop : ∀ (r k : Nat), k + r = f + n → f ≤ k → EV p l e (rmd 0) s m args below meth c 0 0 (MQ below (QQ clX D A (ly_w lyX 41 ad ca (fil S 2 f (f + n) v) x) none) args s 0 0 A) 5 D clX A s.heap (ly_w lyX 41 ad ca (fil S 2 f k v) x) 16 [some (.ref (ad 0)), some (.ref (ad i)), some (.int v), some (.int (nI (f + n))), some (.int (nI k))] [] := by
    intro r
    induction r with
    | zero =>
      intro k q1 q2
      refine ev_iload X d_X_setOwner_16 rfl ?_
      refine ev_iload_n X d_X_setOwner_18 rfl ?_
      refine ev_icmp_ge (tgt := 36) X d_X_setOwner_19 (by decide) (fun h19 => ?_) (fun h19 => ?_)
      · exact ev_vretL X hr hk d_X_setOwner_36 (by rw [show k = f + n by omega])
      · exact absurd (nI_le (by omega) (by omega)) h19
    | succ r ih =>
      intro k q1 q2
      refine ev_iload X d_X_setOwner_16 rfl ?_
      refine ev_iload_n X d_X_setOwner_18 rfl ?_
      refine ev_icmp_ge (tgt := 36) X d_X_setOwner_19 (by decide) (fun h19 => ?_) (fun h19 => ?_)
      · exact absurd h19 (nI_ge (by omega) (by omega))
      · refine ev_aload_n X d_X_setOwner_22 rfl ?_
        refine ev_getR X f_X_17 lo_this rfl d_X_setOwner_23 ?_
        refine ev_iload X d_X_setOwner_26 rfl ?_
        refine ev_iload_n X d_X_setOwner_28 rfl ?_
        refine ev_iast X li_own rfl rfl (by omega) d_X_setOwner_29 ?_
        refine ev_iinc (v := nI (k + 1)) X d_X_setOwner_30 rfl (nI_1 k) (by decide) ?_
        refine ev_goto (tgt := 16) X d_X_setOwner_33 (by decide) ?_
        rw [fil_up (by omega)]
        exact ih (k + 1) (by omega) (by omega)
  refine ev_aload_n X d_X_setOwner_0 rfl ?_
  refine ev_getI X f_X_148 L rfl d_X_setOwner_1 ?_
  refine ev_aload_n X d_X_setOwner_4 rfl ?_
  refine ev_getI X f_X_151 L rfl d_X_setOwner_5 ?_
  refine ev_iadd X d_X_setOwner_8 ?_
  refine ev_topi (v := nI (f + n)) (by rw [hf, hn, nI_add]) ?_
  refine ev_istore_n X d_X_setOwner_9 (by decide) ?_
  refine ev_aload_n X d_X_setOwner_10 rfl ?_
  refine ev_getI X f_X_148 L rfl d_X_setOwner_11 ?_
  refine ev_topi hf ?_
  refine ev_istore X d_X_setOwner_14 (by decide) ?_
  refine ev_of (w1 := ly_w lyX 41 ad ca (fil S 2 f f v) x) (by rw [fil_nil]) rfl rfl rfl ?_
  exact loop n f rfl (by omega)
set_option maxHeartbeats 4000000 in
set_option maxRecDepth 100000 in
theorem c_X_measure {l : Launch} {D : va_G} {ad : Nat → Nat} {ca : Nat → ClassId} {x : va_W} {S : St} {i f n : Nat} (L : LyO lyX 41 i 3 (flE i)) (hf : S i 2 = nI f) (hn : S i 3 = nI n) (hfn : f + n ≤ 16) : CtX l D ad ca x y_X_measure b_X_measure 5 (some .int) 1 [.ref (ad 0), .ref (ad i)] S S (some (.int (meaS S i f n))) := by
  refine ev_ent [some (.ref (ad 0)), some (.ref (ad i)), none, none, none] rfl (by decide) (Nat.le_of_ble_eq_true rfl) rfl gTT (fun p e s m args below meth c A X hr hk => ?_)
  have loop : ∀ (r k : Nat) (u : Int32), k + r = 16 * (f + n) → meaS S i f n = mfold (S 1) r k u → EV p l e (rmd 1) s m args below meth c 0 0 (MQ below (QQ clX D A (ly_w lyX 41 ad ca S x) (some (.int (meaS S i f n)))) args s 0 0 A) 5 D clX A s.heap (ly_w lyX 41 ad ca S x) 28 [some (.ref (ad 0)), some (.ref (ad i)), some (.int u), some (.int (nI (16 * (f + n)))), some (.int (nI k))] [] := by
    intro r
    induction r with
    | zero =>
      intro k u q1 q2
      refine ev_iload X d_X_measure_28 rfl ?_
      refine ev_iload_n X d_X_measure_30 rfl ?_
      refine ev_icmp_ge (tgt := 52) X d_X_measure_31 (by decide) (fun h31 => ?_) (fun h31 => ?_)
      · refine ev_iload_n X d_X_measure_52 rfl ?_
        exact ev_iretL X hr hk d_X_measure_53 (by rw [q2, mfold_zero]) (rfl)
      · exact absurd (nI_le (by omega) (by omega)) h31
    | succ r ih =>
      intro k u q1 q2
      refine ev_iload X d_X_measure_28 rfl ?_
      refine ev_iload_n X d_X_measure_30 rfl ?_
      refine ev_icmp_ge (tgt := 52) X d_X_measure_31 (by decide) (fun h31 => ?_) (fun h31 => ?_)
      · exact absurd h31 (nI_ge (by omega) (by omega))
      · refine ev_iload_n X d_X_measure_34 rfl ?_
        refine ev_aload_n X d_X_measure_35 rfl ?_
        refine ev_getR X f_X_13 lo_this rfl d_X_measure_36 ?_
        refine ev_iload X d_X_measure_39 rfl ?_
        refine ev_iald X li_mem rfl rfl (by omega) d_X_measure_41 ?_
        refine ev_cS1 X m_X_174 c_X_mix (by decide) (by decide) d_X_measure_42 rfl rfl (Nat.le_of_ble_eq_true rfl) ?_
        refine ev_istore_n X d_X_measure_45 (by decide) ?_
        refine ev_iinc (v := nI (k + 1)) X d_X_measure_46 rfl (nI_1 k) (by decide) ?_
        refine ev_goto (tgt := 28) X d_X_measure_49 (by decide) ?_
        exact ih (k + 1) _ (by omega) (by rw [q2, mfold_succ])
  refine ev_aload_n X d_X_measure_0 rfl ?_
  refine ev_getI X f_X_151 L rfl d_X_measure_1 ?_
  refine ev_aload_n X d_X_measure_4 rfl ?_
  refine ev_getI X f_X_154 L rfl d_X_measure_5 ?_
  refine ev_aload_n X d_X_measure_8 rfl ?_
  refine ev_cV1 X m_X_171 (c_E_firstWord L) L rfl rfl (by decide) (by decide) d_X_measure_9 rfl rfl (Nat.le_of_ble_eq_true rfl) ?_
  refine ev_isub X d_X_measure_12 ?_
  refine ev_cS1 X m_X_174 c_X_mix (by decide) (by decide) d_X_measure_13 rfl rfl (Nat.le_of_ble_eq_true rfl) ?_
  refine ev_istore_n X d_X_measure_16 (by decide) ?_
  refine ev_aload_n X d_X_measure_17 rfl ?_
  refine ev_cV1 X m_X_168 (c_E_endWord L) L rfl rfl (by decide) (by decide) d_X_measure_18 rfl rfl (Nat.le_of_ble_eq_true rfl) ?_
  refine ev_topi (v := nI (16 * (f + n))) (by rw [hf, hn, nI_add, w16]) ?_
  refine ev_istore_n X d_X_measure_21 (by decide) ?_
  refine ev_aload_n X d_X_measure_22 rfl ?_
  refine ev_cV1 X m_X_171 (c_E_firstWord L) L rfl rfl (by decide) (by decide) d_X_measure_23 rfl rfl (Nat.le_of_ble_eq_true rfl) ?_
  refine ev_topi (v := nI (16 * f)) (by rw [hf, w16]) ?_
  refine ev_istore X d_X_measure_26 (by decide) ?_
  exact loop (16 * n) (16 * f) _ (by omega) (by rw [meaS])
theorem nI_m1 {k : Nat} (h : ¬ nI k = 0) : nI k - 1 = nI (k - 1) := by
  cases k with
  | zero => exact absurd rfl h
  | succ k => exact nI_pred k
theorem nI_z {k : Nat} (h : nI k = 0) (hk : k < 2 ^ 31) : k = 0 := by
  by_cases h0 : k = 0
  · exact h0
  · exact absurd h (nI_ne0 (by omega) hk)
theorem nI_nz {k : Nat} (h : ¬ nI k = 0) : ¬ k = 0 := fun q => h (by rw [q]; rfl)
theorem inr_of {z n : Int32} (h1 : ¬ z < 0) (h2 : z < n) : inr z n = true := by
  have h3 : ¬ n ≤ z := Int32.not_le.mpr h2
  simp [inr, h1, h3]
set_option maxHeartbeats 4000000 in
set_option maxRecDepth 100000 in
theorem c_X_isAllowed {l : Launch} {D : va_G} {ad : Nat → Nat} {ca : Nat → ClassId} {x : va_W} {S : St} {i : Nat} {z b : Int32} (L : LyO lyX 41 i 2 (flP i)) : CtX l D ad ca x y_X_isAllowed b_X_isAllowed 6 (some .boolean) 1 [.ref (ad 0), .ref (ad i), .int z, .int b] S S (some (.int (b2i (alw S i z b)))) := by
  refine ev_ent [some (.ref (ad 0)), some (.ref (ad i)), some (.int z), some (.int b), none, none] rfl (by decide) (Nat.le_of_ble_eq_true rfl) rfl gTT (fun p e s m args below meth c A X hr hk => ?_)
  have loop : ∀ (r k : Nat) (o : Option Value), k + r = 11 → alw S i z b = alG S i z b r k → EV p l e (rmd 1) s m args below meth c 0 0 (MQ below (QQ clX D A (ly_w lyX 41 ad ca S x) (some (.int (b2i (alw S i z b))))) args s 0 0 A) 6 D clX A s.heap (ly_w lyX 41 ad ca S x) 12 [some (.ref (ad 0)), some (.ref (ad i)), some (.int z), some (.int b), some (.int (nI k)), o] [] := by
    intro r
    induction r with
    | zero =>
      intro k o q1 q2
      refine ev_iload X d_X_isAllowed_12 rfl ?_
      refine ev_bipush (v := 11) X d_X_isAllowed_14 (by decide) ?_
      refine ev_icmp_ge (tgt := 85) X d_X_isAllowed_16 (by decide) (fun h16 => ?_) (fun h16 => ?_)
      · refine ev_iconst (v := 0) X d_X_isAllowed_85 (by decide) ?_
        exact ev_zretL X hr hk d_X_isAllowed_86 (by rw [q2]; rfl) (rfl)
      · exact absurd (nI_le (a := 11) (by omega) (by omega)) h16
    | succ r ih =>
      intro k o q1 q2
      refine ev_iload X d_X_isAllowed_12 rfl ?_
      refine ev_bipush (v := 11) X d_X_isAllowed_14 (by decide) ?_
      refine ev_icmp_ge (tgt := 85) X d_X_isAllowed_16 (by decide) (fun h16 => ?_) (fun h16 => ?_)
      · exact absurd h16 (nI_ge (b := 11) (by omega) (by decide))
      · refine ev_iload X d_X_isAllowed_19 rfl ?_
        refine ev_if_ne (tgt := 28) X d_X_isAllowed_21 (by decide) (fun h21 => ?_) (fun h21 => ?_)
        · refine ev_aload_n X d_X_isAllowed_28 rfl ?_
          refine ev_getR X f_X_133 L rfl d_X_isAllowed_29 ?_
          refine ev_iload X d_X_isAllowed_32 rfl ?_
          refine ev_iconst (v := 1) X d_X_isAllowed_34 (by decide) ?_
          refine ev_isub X d_X_isAllowed_35 ?_
          refine ev_aald X (lr_gd L) rfl (nI_m1 h21) (show k - 1 < 11 by omega) d_X_isAllowed_36 ?_
          refine ev_getI X f_X_145 (lo_gd L (show k - 1 < 11 by omega)) rfl d_X_isAllowed_37 ?_
          refine ev_topi (v := befS S i k) (by first | (rw [hk0]; rfl) | (rw [befS, if_neg (nI_nz h21)])) ?_
          refine ev_istore X d_X_isAllowed_40 (by decide) ?_
          refine ev_aload_n X d_X_isAllowed_42 rfl ?_
          refine ev_getR X f_X_133 L rfl d_X_isAllowed_43 ?_
          refine ev_iload X d_X_isAllowed_46 rfl ?_
          refine ev_aald X (lr_gd L) rfl rfl (show k < 11 by omega) d_X_isAllowed_48 ?_
          refine ev_iload_n X d_X_isAllowed_49 rfl ?_
          refine ev_iload X d_X_isAllowed_50 rfl ?_
          refine ev_cV1 X m_X_181 (c_G_matches (lo_gd L (show k < 11 by omega))) (lo_gd L (show k < 11 by omega)) rfl rfl (by decide) (by decide) d_X_isAllowed_52 rfl rfl (Nat.le_of_ble_eq_true rfl) ?_
          refine ev_if_eqB (tgt := 79) X d_X_isAllowed_55 (by decide) (fun h55 => ?_) (fun h55 => ?_)
          · refine ev_iinc (v := nI (k + 1)) X d_X_isAllowed_79 rfl (nI_1 k) (by decide) ?_
            refine ev_goto (tgt := 12) X d_X_isAllowed_82 (by decide) ?_
            exact ih (k + 1) _ (by omega) (by rw [q2, alG_f h55])
          · refine ev_aload_n X d_X_isAllowed_58 rfl ?_
            refine ev_getR X f_X_133 L rfl d_X_isAllowed_59 ?_
            refine ev_iload X d_X_isAllowed_62 rfl ?_
            refine ev_aald X (lr_gd L) rfl rfl (show k < 11 by omega) d_X_isAllowed_64 ?_
            refine ev_getI X f_X_142 (lo_gd L (show k < 11 by omega)) rfl d_X_isAllowed_65 ?_
            refine ev_iload_n X d_X_isAllowed_68 rfl ?_
            refine ev_iand X d_X_isAllowed_69 ?_
            refine ev_if_eq (tgt := 77) X d_X_isAllowed_70 (by decide) (fun h70 => ?_) (fun h70 => ?_)
            · refine ev_iconst (v := 0) X d_X_isAllowed_77 (by decide) ?_
              exact ev_zretL X hr hk d_X_isAllowed_78 (by rw [q2, alG_t h55]; first | (rw [decide_eq_true h70]; rfl) | (rw [decide_eq_false h70]; rfl)) (rfl)
            · refine ev_iconst (v := 1) X d_X_isAllowed_73 (by decide) ?_
              refine ev_goto (tgt := 78) X d_X_isAllowed_74 (by decide) ?_
              exact ev_zretL X hr hk d_X_isAllowed_78 (by rw [q2, alG_t h55]; first | (rw [decide_eq_true h70]; rfl) | (rw [decide_eq_false h70]; rfl)) (rfl)
        · have hk0 : k = 0 := nI_z h21 (by omega)
          refine ev_iconst (v := 0) X d_X_isAllowed_24 (by decide) ?_
          refine ev_goto (tgt := 40) X d_X_isAllowed_25 (by decide) ?_
          refine ev_topi (v := befS S i k) (by first | (rw [hk0]; rfl) | (rw [befS, if_neg (nI_nz h21)])) ?_
          refine ev_istore X d_X_isAllowed_40 (by decide) ?_
          refine ev_aload_n X d_X_isAllowed_42 rfl ?_
          refine ev_getR X f_X_133 L rfl d_X_isAllowed_43 ?_
          refine ev_iload X d_X_isAllowed_46 rfl ?_
          refine ev_aald X (lr_gd L) rfl rfl (show k < 11 by omega) d_X_isAllowed_48 ?_
          refine ev_iload_n X d_X_isAllowed_49 rfl ?_
          refine ev_iload X d_X_isAllowed_50 rfl ?_
          refine ev_cV1 X m_X_181 (c_G_matches (lo_gd L (show k < 11 by omega))) (lo_gd L (show k < 11 by omega)) rfl rfl (by decide) (by decide) d_X_isAllowed_52 rfl rfl (Nat.le_of_ble_eq_true rfl) ?_
          refine ev_if_eqB (tgt := 79) X d_X_isAllowed_55 (by decide) (fun h55 => ?_) (fun h55 => ?_)
          · refine ev_iinc (v := nI (k + 1)) X d_X_isAllowed_79 rfl (nI_1 k) (by decide) ?_
            refine ev_goto (tgt := 12) X d_X_isAllowed_82 (by decide) ?_
            exact ih (k + 1) _ (by omega) (by rw [q2, alG_f h55])
          · refine ev_aload_n X d_X_isAllowed_58 rfl ?_
            refine ev_getR X f_X_133 L rfl d_X_isAllowed_59 ?_
            refine ev_iload X d_X_isAllowed_62 rfl ?_
            refine ev_aald X (lr_gd L) rfl rfl (show k < 11 by omega) d_X_isAllowed_64 ?_
            refine ev_getI X f_X_142 (lo_gd L (show k < 11 by omega)) rfl d_X_isAllowed_65 ?_
            refine ev_iload_n X d_X_isAllowed_68 rfl ?_
            refine ev_iand X d_X_isAllowed_69 ?_
            refine ev_if_eq (tgt := 77) X d_X_isAllowed_70 (by decide) (fun h70 => ?_) (fun h70 => ?_)
            · refine ev_iconst (v := 0) X d_X_isAllowed_77 (by decide) ?_
              exact ev_zretL X hr hk d_X_isAllowed_78 (by rw [q2, alG_t h55]; first | (rw [decide_eq_true h70]; rfl) | (rw [decide_eq_false h70]; rfl)) (rfl)
            · refine ev_iconst (v := 1) X d_X_isAllowed_73 (by decide) ?_
              refine ev_goto (tgt := 78) X d_X_isAllowed_74 (by decide) ?_
              exact ev_zretL X hr hk d_X_isAllowed_78 (by rw [q2, alG_t h55]; first | (rw [decide_eq_true h70]; rfl) | (rw [decide_eq_false h70]; rfl)) (rfl)
  refine ev_iload_n X d_X_isAllowed_0 rfl ?_
  refine ev_cS1 X m_X_178 c_X_isAddress (by decide) (by decide) d_X_isAllowed_1 rfl rfl (Nat.le_of_ble_eq_true rfl) ?_
  refine ev_if_neB (tgt := 9) X d_X_isAllowed_4 (by decide) (fun h4 => ?_) (fun h4 => ?_)
  · refine ev_iconst (v := 0) X d_X_isAllowed_9 (by decide) ?_
    refine ev_istore X d_X_isAllowed_10 (by decide) ?_
    exact loop 11 0 _ rfl (by simp [alw, h4])
  · refine ev_iconst (v := 0) X d_X_isAllowed_7 (by decide) ?_
    exact ev_zretL X hr hk d_X_isAllowed_8 (by simp [alw, b2i, h4]) (rfl)
theorem shS_ex {z : Int32} (h : shS z = true) (h2 : ¬ z = -1) : ∃ k, k ≤ 271 ∧ z = nI k := by
  simp only [shS, Bool.and_eq_true, Bool.not_eq_true', decide_eq_false_iff_not] at h
  obtain ⟨h0, h1⟩ := h
  have a1 : ¬ z.toInt < -1 := fun q => h0 (Int32.lt_iff_toInt_lt.mpr (by simpa using q))
  have a2 : ¬ z.toInt = -1 := fun q => h2 (Int32.toInt_inj.mp (by simpa using q))
  have a3 : ¬ 271 < z.toInt := fun q => h1 (Int32.lt_iff_toInt_lt.mpr (by simpa using q))
  have h3 : ¬ z < 0 := fun q => by
    have := Int32.lt_iff_toInt_lt.mp q
    simp at this
    omega
  obtain ⟨j, hj, rfl⟩ := nI_of h3
  rw [nI_toInt hj] at a3
  exact ⟨j, by omega, rfl⟩
theorem canP_nI {k : Nat} (hk : k ≤ 271) : canP (nI k) = nI (if k < 256 then k / 16 else k - 256) := by
  unfold canP
  by_cases h : k < 256
  · rw [if_pos (show nI k < 256 from nI_lt (b := 256) h (by decide)), if_pos h]
    exact pk_div (d := 16) (by omega) (by decide) (by decide)
  · rw [if_neg (show ¬ nI k < 256 from nI_nlt (b := 256) (by omega) (by omega)), if_neg h]
    exact pk_sub (b := 256) (by omega)
theorem canP_in {z : Int32} (h : shS z = true) (h2 : ¬ z = -1) : inr (canP z) 16 = true := by
  obtain ⟨k, hk, rfl⟩ := shS_ex h h2
  rw [canP_nI hk]
  refine inr_nI (k := 16) ?_ (by decide)
  split <;> omega
set_option maxHeartbeats 4000000 in
set_option maxRecDepth 100000 in
theorem c_X_canShare {l : Launch} {D : va_G} {ad : Nat → Nat} {ca : Nat → ClassId} {x : va_W} {S : St} {z f n : Int32} (hz : shS z = true) : CtX l D ad ca x y_X_canShare b_X_canShare 6 (some .boolean) 0 [.ref (ad 0), .int z, .int f, .int n] S S (some (.int (b2i (canS S z f n)))) := by
  refine ev_ent [some (.ref (ad 0)), some (.int z), some (.int f), some (.int n), none, none] rfl (by decide) (Nat.le_of_ble_eq_true rfl) rfl gTT (fun p e s m args below meth c A X hr hk => ?_)
  refine ev_iload_n X d_X_canShare_0 rfl ?_
  refine ev_iconst (v := (-1)) X d_X_canShare_1 (by decide) ?_
  refine ev_icmp_ne (tgt := 7) X d_X_canShare_2 (by decide) (fun h2 => ?_) (fun h2 => ?_)
  · refine ev_iload_n X d_X_canShare_7 rfl ?_
    refine ev_sipush (v := 256) X d_X_canShare_8 (by decide) ?_
    refine ev_icmp_lt (tgt := 22) X d_X_canShare_11 (by decide) (fun h11 => ?_) (fun h11 => ?_)
    · refine ev_iload_n X d_X_canShare_22 rfl ?_
      refine ev_bipush (v := 16) X d_X_canShare_23 (by decide) ?_
      refine ev_idiv X d_X_canShare_25 (by decide) ?_
      refine ev_topi (v := canP z) (by simp [canP, h2, h11]) ?_
      refine ev_istore X d_X_canShare_26 (by decide) ?_
      refine ev_iload X d_X_canShare_28 rfl ?_
      refine ev_iload_n X d_X_canShare_30 rfl ?_
      refine ev_icmp_lt (tgt := 46) X d_X_canShare_31 (by decide) (fun h31 => ?_) (fun h31 => ?_)
      · refine ev_iconst (v := 0) X d_X_canShare_46 (by decide) ?_
        refine ev_istore X d_X_canShare_47 (by decide) ?_
        refine ev_aload_n X d_X_canShare_49 rfl ?_
        refine ev_getR X f_X_17 lo_this rfl d_X_canShare_50 ?_
        refine ev_iload X d_X_canShare_53 rfl ?_
        refine ev_iald X li_own rfl (inr_z (canP_in hz h2)) (inr_j (k := 16) rfl (by decide) (canP_in hz h2)) d_X_canShare_55 ?_
        refine ev_iconst (v := 1) X d_X_canShare_56 (by decide) ?_
        refine ev_icmp_ne (tgt := 69) X d_X_canShare_57 (by decide) (fun h57 => ?_) (fun h57 => ?_)
        · refine ev_iconst (v := 0) X d_X_canShare_69 (by decide) ?_
          exact ev_zretL X hr hk d_X_canShare_70 (by simp [canS, b2i, h2, h11, h31, h57]) (rfl)
        · refine ev_iload X d_X_canShare_60 rfl ?_
          refine ev_if_ne (tgt := 69) X d_X_canShare_62 (by decide) (fun h62 => ?_) (fun h62 => ?_)
          · exact absurd h62 (by decide)
          · refine ev_iconst (v := 1) X d_X_canShare_65 (by decide) ?_
            refine ev_goto (tgt := 70) X d_X_canShare_66 (by decide) ?_
            exact ev_zretL X hr hk d_X_canShare_70 (by simp [canS, b2i, h2, h11, h31, h57, h62]) (rfl)
      · refine ev_iload X d_X_canShare_34 rfl ?_
        refine ev_iload_n X d_X_canShare_36 rfl ?_
        refine ev_iload_n X d_X_canShare_37 rfl ?_
        refine ev_iadd X d_X_canShare_38 ?_
        refine ev_icmp_ge (tgt := 46) X d_X_canShare_39 (by decide) (fun h39 => ?_) (fun h39 => ?_)
        · refine ev_iconst (v := 0) X d_X_canShare_46 (by decide) ?_
          refine ev_istore X d_X_canShare_47 (by decide) ?_
          refine ev_aload_n X d_X_canShare_49 rfl ?_
          refine ev_getR X f_X_17 lo_this rfl d_X_canShare_50 ?_
          refine ev_iload X d_X_canShare_53 rfl ?_
          refine ev_iald X li_own rfl (inr_z (canP_in hz h2)) (inr_j (k := 16) rfl (by decide) (canP_in hz h2)) d_X_canShare_55 ?_
          refine ev_iconst (v := 1) X d_X_canShare_56 (by decide) ?_
          refine ev_icmp_ne (tgt := 69) X d_X_canShare_57 (by decide) (fun h57 => ?_) (fun h57 => ?_)
          · refine ev_iconst (v := 0) X d_X_canShare_69 (by decide) ?_
            exact ev_zretL X hr hk d_X_canShare_70 (by simp [canS, b2i, h2, h11, h31, h39, h57]) (rfl)
          · refine ev_iload X d_X_canShare_60 rfl ?_
            refine ev_if_ne (tgt := 69) X d_X_canShare_62 (by decide) (fun h62 => ?_) (fun h62 => ?_)
            · exact absurd h62 (by decide)
            · refine ev_iconst (v := 1) X d_X_canShare_65 (by decide) ?_
              refine ev_goto (tgt := 70) X d_X_canShare_66 (by decide) ?_
              exact ev_zretL X hr hk d_X_canShare_70 (by simp [canS, b2i, h2, h11, h31, h39, h57, h62]) (rfl)
        · refine ev_iconst (v := 1) X d_X_canShare_42 (by decide) ?_
          refine ev_goto (tgt := 47) X d_X_canShare_43 (by decide) ?_
          refine ev_istore X d_X_canShare_47 (by decide) ?_
          refine ev_aload_n X d_X_canShare_49 rfl ?_
          refine ev_getR X f_X_17 lo_this rfl d_X_canShare_50 ?_
          refine ev_iload X d_X_canShare_53 rfl ?_
          refine ev_iald X li_own rfl (inr_z (canP_in hz h2)) (inr_j (k := 16) rfl (by decide) (canP_in hz h2)) d_X_canShare_55 ?_
          refine ev_iconst (v := 1) X d_X_canShare_56 (by decide) ?_
          refine ev_icmp_ne (tgt := 69) X d_X_canShare_57 (by decide) (fun h57 => ?_) (fun h57 => ?_)
          · refine ev_iconst (v := 0) X d_X_canShare_69 (by decide) ?_
            exact ev_zretL X hr hk d_X_canShare_70 (by simp [canS, b2i, h2, h11, h31, h39, h57]) (rfl)
          · refine ev_iload X d_X_canShare_60 rfl ?_
            refine ev_if_ne (tgt := 69) X d_X_canShare_62 (by decide) (fun h62 => ?_) (fun h62 => ?_)
            · refine ev_iconst (v := 0) X d_X_canShare_69 (by decide) ?_
              exact ev_zretL X hr hk d_X_canShare_70 (by simp [canS, b2i, h2, h11, h31, h39, h57, h62]) (rfl)
            · exact absurd h62 (by decide)
    · refine ev_iload_n X d_X_canShare_14 rfl ?_
      refine ev_sipush (v := 256) X d_X_canShare_15 (by decide) ?_
      refine ev_isub X d_X_canShare_18 ?_
      refine ev_goto (tgt := 26) X d_X_canShare_19 (by decide) ?_
      refine ev_topi (v := canP z) (by simp [canP, h2, h11]) ?_
      refine ev_istore X d_X_canShare_26 (by decide) ?_
      refine ev_iload X d_X_canShare_28 rfl ?_
      refine ev_iload_n X d_X_canShare_30 rfl ?_
      refine ev_icmp_lt (tgt := 46) X d_X_canShare_31 (by decide) (fun h31 => ?_) (fun h31 => ?_)
      · refine ev_iconst (v := 0) X d_X_canShare_46 (by decide) ?_
        refine ev_istore X d_X_canShare_47 (by decide) ?_
        refine ev_aload_n X d_X_canShare_49 rfl ?_
        refine ev_getR X f_X_17 lo_this rfl d_X_canShare_50 ?_
        refine ev_iload X d_X_canShare_53 rfl ?_
        refine ev_iald X li_own rfl (inr_z (canP_in hz h2)) (inr_j (k := 16) rfl (by decide) (canP_in hz h2)) d_X_canShare_55 ?_
        refine ev_iconst (v := 1) X d_X_canShare_56 (by decide) ?_
        refine ev_icmp_ne (tgt := 69) X d_X_canShare_57 (by decide) (fun h57 => ?_) (fun h57 => ?_)
        · refine ev_iconst (v := 0) X d_X_canShare_69 (by decide) ?_
          exact ev_zretL X hr hk d_X_canShare_70 (by simp [canS, b2i, h2, h11, h31, h57]) (rfl)
        · refine ev_iload X d_X_canShare_60 rfl ?_
          refine ev_if_ne (tgt := 69) X d_X_canShare_62 (by decide) (fun h62 => ?_) (fun h62 => ?_)
          · exact absurd h62 (by decide)
          · refine ev_iconst (v := 1) X d_X_canShare_65 (by decide) ?_
            refine ev_goto (tgt := 70) X d_X_canShare_66 (by decide) ?_
            exact ev_zretL X hr hk d_X_canShare_70 (by simp [canS, b2i, h2, h11, h31, h57, h62]) (rfl)
      · refine ev_iload X d_X_canShare_34 rfl ?_
        refine ev_iload_n X d_X_canShare_36 rfl ?_
        refine ev_iload_n X d_X_canShare_37 rfl ?_
        refine ev_iadd X d_X_canShare_38 ?_
        refine ev_icmp_ge (tgt := 46) X d_X_canShare_39 (by decide) (fun h39 => ?_) (fun h39 => ?_)
        · refine ev_iconst (v := 0) X d_X_canShare_46 (by decide) ?_
          refine ev_istore X d_X_canShare_47 (by decide) ?_
          refine ev_aload_n X d_X_canShare_49 rfl ?_
          refine ev_getR X f_X_17 lo_this rfl d_X_canShare_50 ?_
          refine ev_iload X d_X_canShare_53 rfl ?_
          refine ev_iald X li_own rfl (inr_z (canP_in hz h2)) (inr_j (k := 16) rfl (by decide) (canP_in hz h2)) d_X_canShare_55 ?_
          refine ev_iconst (v := 1) X d_X_canShare_56 (by decide) ?_
          refine ev_icmp_ne (tgt := 69) X d_X_canShare_57 (by decide) (fun h57 => ?_) (fun h57 => ?_)
          · refine ev_iconst (v := 0) X d_X_canShare_69 (by decide) ?_
            exact ev_zretL X hr hk d_X_canShare_70 (by simp [canS, b2i, h2, h11, h31, h39, h57]) (rfl)
          · refine ev_iload X d_X_canShare_60 rfl ?_
            refine ev_if_ne (tgt := 69) X d_X_canShare_62 (by decide) (fun h62 => ?_) (fun h62 => ?_)
            · exact absurd h62 (by decide)
            · refine ev_iconst (v := 1) X d_X_canShare_65 (by decide) ?_
              refine ev_goto (tgt := 70) X d_X_canShare_66 (by decide) ?_
              exact ev_zretL X hr hk d_X_canShare_70 (by simp [canS, b2i, h2, h11, h31, h39, h57, h62]) (rfl)
        · refine ev_iconst (v := 1) X d_X_canShare_42 (by decide) ?_
          refine ev_goto (tgt := 47) X d_X_canShare_43 (by decide) ?_
          refine ev_istore X d_X_canShare_47 (by decide) ?_
          refine ev_aload_n X d_X_canShare_49 rfl ?_
          refine ev_getR X f_X_17 lo_this rfl d_X_canShare_50 ?_
          refine ev_iload X d_X_canShare_53 rfl ?_
          refine ev_iald X li_own rfl (inr_z (canP_in hz h2)) (inr_j (k := 16) rfl (by decide) (canP_in hz h2)) d_X_canShare_55 ?_
          refine ev_iconst (v := 1) X d_X_canShare_56 (by decide) ?_
          refine ev_icmp_ne (tgt := 69) X d_X_canShare_57 (by decide) (fun h57 => ?_) (fun h57 => ?_)
          · refine ev_iconst (v := 0) X d_X_canShare_69 (by decide) ?_
            exact ev_zretL X hr hk d_X_canShare_70 (by simp [canS, b2i, h2, h11, h31, h39, h57]) (rfl)
          · refine ev_iload X d_X_canShare_60 rfl ?_
            refine ev_if_ne (tgt := 69) X d_X_canShare_62 (by decide) (fun h62 => ?_) (fun h62 => ?_)
            · refine ev_iconst (v := 0) X d_X_canShare_69 (by decide) ?_
              exact ev_zretL X hr hk d_X_canShare_70 (by simp [canS, b2i, h2, h11, h31, h39, h57, h62]) (rfl)
            · exact absurd h62 (by decide)
  · refine ev_iconst (v := 1) X d_X_canShare_5 (by decide) ?_
    exact ev_zretL X hr hk d_X_canShare_6 (by simp [canS, b2i, h2]) (rfl)
theorem sw_out02 {z : Int32} (h1 : ¬ z = 0) (h2 : ¬ z = 1) (h3 : ¬ z = 2) : z.toInt < 0 ∨ 2 < z.toInt := by
  have a1 := lv_neT h1 (a := 0) (by decide)
  have a2 := lv_neT h2 (a := 1) (by decide)
  have a3 := lv_neT h3 (a := 2) (by decide)
  omega
def grdS (S : St) (z u v : Int32) : Int32 := if inr z 2 = true ∧ inr u 11 = true then (if v = 0 then S (13 + 14 * z.toNatClampNeg + 3 + 1 * u.toNatClampNeg) 0 else if v = 1 then S (13 + 14 * z.toNatClampNeg + 3 + 1 * u.toNatClampNeg) 1 else if v = 2 then S (13 + 14 * z.toNatClampNeg + 3 + 1 * u.toNatClampNeg) 2 else -1) else -1
set_option maxHeartbeats 4000000 in
set_option maxRecDepth 100000 in
theorem c_X_guard {l : Launch} {D : va_G} {ad : Nat → Nat} {ca : Nat → ClassId} {x : va_W} {S : St} {z u v : Int32}  : CtX l D ad ca x y_X_guard b_X_guard 5 (some .int) 1 [.ref (ad 0), .int z, .int u, .int v] S S (some (.int (grdS S z u v))) := by
  refine ev_ent [some (.ref (ad 0)), some (.int z), some (.int u), some (.int v), none] rfl (by decide) (Nat.le_of_ble_eq_true rfl) rfl gTT (fun p e s m args below meth c A X hr hk => ?_)
  refine ev_iload_n X d_X_guard_0 rfl ?_
  refine ev_cS1 X m_X_127 c_X_isProcessor (by decide) (by decide) d_X_guard_1 rfl rfl (Nat.le_of_ble_eq_true rfl) ?_
  refine ev_if_eqB (tgt := 17) X d_X_guard_4 (by decide) (fun h4 => ?_) (fun h4 => ?_)
  · refine ev_iconst (v := (-1)) X d_X_guard_17 (by decide) ?_
    exact ev_iretL X hr hk d_X_guard_18 (by first | (simp [grdS, h4]; done) | (simp [grdS, h8i]; done)) (rfl)
  · refine ev_iload_n X d_X_guard_7 rfl ?_
    refine ev_if_lt (tgt := 17) X d_X_guard_8 (by decide) (fun h8 => ?_) (fun h8 => ?_)
    · have h8i : inr u 11 = false := by simp [inr, h8]
      refine ev_iconst (v := (-1)) X d_X_guard_17 (by decide) ?_
      exact ev_iretL X hr hk d_X_guard_18 (by first | (simp [grdS, h4]; done) | (simp [grdS, h8i]; done)) (rfl)
    · refine ev_iload_n X d_X_guard_11 rfl ?_
      refine ev_bipush (v := 11) X d_X_guard_12 (by decide) ?_
      refine ev_icmp_lt (tgt := 19) X d_X_guard_14 (by decide) (fun h14 => ?_) (fun h14 => ?_)
      · refine ev_aload_n X d_X_guard_19 rfl ?_
        refine ev_getR X f_X_29 lo_this rfl d_X_guard_20 ?_
        refine ev_iload_n X d_X_guard_23 rfl ?_
        refine ev_aald X lr_pr rfl (inr_z h4) (inr_j (k := 2) rfl (by decide) h4) d_X_guard_24 ?_
        refine ev_getR X f_X_133 (lo_pr (inr_j (k := 2) rfl (by decide) h4)) rfl d_X_guard_25 ?_
        refine ev_iload_n X d_X_guard_28 rfl ?_
        refine ev_aald X (lr_gd (lo_pr (inr_j (k := 2) rfl (by decide) h4))) rfl (inr_z (inr_of h8 h14)) (inr_j (k := 11) rfl (by decide) (inr_of h8 h14)) d_X_guard_29 ?_
        refine ev_astore X d_X_guard_30 (by decide) ?_
        refine ev_iload_n X d_X_guard_32 rfl ?_
        by_cases q0 : v = 0
        · rw [q0]
          refine ev_tableIn (tgt := 60) X d_X_guard_33 (by decide) (by decide) rfl (by decide) ?_
          refine ev_aload X d_X_guard_60 rfl ?_
          refine ev_getI X f_X_137 (lo_gd (lo_pr (inr_j (k := 2) rfl (by decide) h4)) (inr_j (k := 11) rfl (by decide) (inr_of h8 h14))) rfl d_X_guard_62 ?_
          exact ev_iretL X hr hk d_X_guard_65 (by simp [grdS, h4, inr_of h8 h14, q0]) (rfl)
        · by_cases q1 : v = 1
          · rw [q1]
            refine ev_tableIn (tgt := 66) X d_X_guard_33 (by decide) (by decide) rfl (by decide) ?_
            refine ev_aload X d_X_guard_66 rfl ?_
            refine ev_getI X f_X_142 (lo_gd (lo_pr (inr_j (k := 2) rfl (by decide) h4)) (inr_j (k := 11) rfl (by decide) (inr_of h8 h14))) rfl d_X_guard_68 ?_
            exact ev_iretL X hr hk d_X_guard_71 (by simp [grdS, h4, inr_of h8 h14, q0, q1]) (rfl)
          · by_cases q2 : v = 2
            · rw [q2]
              refine ev_tableIn (tgt := 72) X d_X_guard_33 (by decide) (by decide) rfl (by decide) ?_
              refine ev_aload X d_X_guard_72 rfl ?_
              refine ev_getI X f_X_145 (lo_gd (lo_pr (inr_j (k := 2) rfl (by decide) h4)) (inr_j (k := 11) rfl (by decide) (inr_of h8 h14))) rfl d_X_guard_74 ?_
              exact ev_iretL X hr hk d_X_guard_77 (by simp [grdS, h4, inr_of h8 h14, q0, q1, q2]) (rfl)
            · refine ev_tableOut (tgt := 78) X d_X_guard_33 (sw_out02 q0 q1 q2) (by decide) ?_
              refine ev_iconst (v := (-1)) X d_X_guard_78 (by decide) ?_
              exact ev_iretL X hr hk d_X_guard_79 (by simp [grdS, h4, inr_of h8 h14, q0, q1, q2]) (rfl)
      · have h8i : inr u 11 = false := by simp [inr, Int32.not_lt.mp h14]
        refine ev_iconst (v := (-1)) X d_X_guard_17 (by decide) ?_
        exact ev_iretL X hr hk d_X_guard_18 (by first | (simp [grdS, h4]; done) | (simp [grdS, h8i]; done)) (rfl)
