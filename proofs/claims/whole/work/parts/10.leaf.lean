set_option maxHeartbeats 4000000 in
set_option maxRecDepth 100000 in
theorem c_X_isProcessor {l : Launch} {D : va_G} {ad : Nat → Nat} {ca : Nat → ClassId} {x : va_W} {S : St} {z : Int32}  : CtX l D ad ca x y_X_isProcessor b_X_isProcessor 1 (some .boolean) 0 [.int z] S S (some (.int (b2i (inr z 2)))) := by
  refine ev_ent [some (.int z)] rfl (by decide) (Nat.le_of_ble_eq_true rfl) rfl gTT (fun p e s m args below meth c A X hr hk => ?_)
  refine ev_iload_n X d_X_isProcessor_0 rfl ?_
  refine ev_if_lt (tgt := 13) X d_X_isProcessor_1 (by decide) (fun h1 => ?_) (fun h1 => ?_)
  · refine ev_iconst (v := 0) X d_X_isProcessor_13 (by decide) ?_
    exact ev_zretL X hr hk d_X_isProcessor_14 (by simp [inr, b2i, h1]) (rfl)
  · refine ev_iload_n X d_X_isProcessor_4 rfl ?_
    refine ev_iconst (v := 2) X d_X_isProcessor_5 (by decide) ?_
    refine ev_icmp_ge (tgt := 13) X d_X_isProcessor_6 (by decide) (fun h6 => ?_) (fun h6 => ?_)
    · refine ev_iconst (v := 0) X d_X_isProcessor_13 (by decide) ?_
      exact ev_zretL X hr hk d_X_isProcessor_14 (by simp [inr, b2i, h1, h6]) (rfl)
    · refine ev_iconst (v := 1) X d_X_isProcessor_9 (by decide) ?_
      refine ev_goto (tgt := 14) X d_X_isProcessor_10 (by decide) ?_
      exact ev_zretL X hr hk d_X_isProcessor_14 (by simp [inr, b2i, h1, h6]) (rfl)
set_option maxHeartbeats 4000000 in
set_option maxRecDepth 100000 in
theorem c_X_isRegister {l : Launch} {D : va_G} {ad : Nat → Nat} {ca : Nat → ClassId} {x : va_W} {S : St} {z : Int32}  : CtX l D ad ca x y_X_isRegister b_X_isRegister 1 (some .boolean) 0 [.int z] S S (some (.int (b2i (inr z 8)))) := by
  refine ev_ent [some (.int z)] rfl (by decide) (Nat.le_of_ble_eq_true rfl) rfl gTT (fun p e s m args below meth c A X hr hk => ?_)
  refine ev_iload_n X d_X_isRegister_0 rfl ?_
  refine ev_if_lt (tgt := 14) X d_X_isRegister_1 (by decide) (fun h1 => ?_) (fun h1 => ?_)
  · refine ev_iconst (v := 0) X d_X_isRegister_14 (by decide) ?_
    exact ev_zretL X hr hk d_X_isRegister_15 (by simp [inr, b2i, h1]) (rfl)
  · refine ev_iload_n X d_X_isRegister_4 rfl ?_
    refine ev_bipush (v := 8) X d_X_isRegister_5 (by decide) ?_
    refine ev_icmp_ge (tgt := 14) X d_X_isRegister_7 (by decide) (fun h7 => ?_) (fun h7 => ?_)
    · refine ev_iconst (v := 0) X d_X_isRegister_14 (by decide) ?_
      exact ev_zretL X hr hk d_X_isRegister_15 (by simp [inr, b2i, h1, h7]) (rfl)
    · refine ev_iconst (v := 1) X d_X_isRegister_10 (by decide) ?_
      refine ev_goto (tgt := 15) X d_X_isRegister_11 (by decide) ?_
      exact ev_zretL X hr hk d_X_isRegister_15 (by simp [inr, b2i, h1, h7]) (rfl)
set_option maxHeartbeats 4000000 in
set_option maxRecDepth 100000 in
theorem c_X_isAddress {l : Launch} {D : va_G} {ad : Nat → Nat} {ca : Nat → ClassId} {x : va_W} {S : St} {z : Int32}  : CtX l D ad ca x y_X_isAddress b_X_isAddress 1 (some .boolean) 0 [.int z] S S (some (.int (b2i (inr z 256)))) := by
  refine ev_ent [some (.int z)] rfl (by decide) (Nat.le_of_ble_eq_true rfl) rfl gTT (fun p e s m args below meth c A X hr hk => ?_)
  refine ev_iload_n X d_X_isAddress_0 rfl ?_
  refine ev_if_lt (tgt := 15) X d_X_isAddress_1 (by decide) (fun h1 => ?_) (fun h1 => ?_)
  · refine ev_iconst (v := 0) X d_X_isAddress_15 (by decide) ?_
    exact ev_zretL X hr hk d_X_isAddress_16 (by simp [inr, b2i, h1]) (rfl)
  · refine ev_iload_n X d_X_isAddress_4 rfl ?_
    refine ev_sipush (v := 256) X d_X_isAddress_5 (by decide) ?_
    refine ev_icmp_ge (tgt := 15) X d_X_isAddress_8 (by decide) (fun h8 => ?_) (fun h8 => ?_)
    · refine ev_iconst (v := 0) X d_X_isAddress_15 (by decide) ?_
      exact ev_zretL X hr hk d_X_isAddress_16 (by simp [inr, b2i, h1, h8]) (rfl)
    · refine ev_iconst (v := 1) X d_X_isAddress_11 (by decide) ?_
      refine ev_goto (tgt := 16) X d_X_isAddress_12 (by decide) ?_
      exact ev_zretL X hr hk d_X_isAddress_16 (by simp [inr, b2i, h1, h8]) (rfl)
set_option maxHeartbeats 4000000 in
set_option maxRecDepth 100000 in
theorem c_X_isPage {l : Launch} {D : va_G} {ad : Nat → Nat} {ca : Nat → ClassId} {x : va_W} {S : St} {z : Int32}  : CtX l D ad ca x y_X_isPage b_X_isPage 1 (some .boolean) 0 [.int z] S S (some (.int (b2i (inr z 16)))) := by
  refine ev_ent [some (.int z)] rfl (by decide) (Nat.le_of_ble_eq_true rfl) rfl gTT (fun p e s m args below meth c A X hr hk => ?_)
  refine ev_iload_n X d_X_isPage_0 rfl ?_
  refine ev_if_lt (tgt := 14) X d_X_isPage_1 (by decide) (fun h1 => ?_) (fun h1 => ?_)
  · refine ev_iconst (v := 0) X d_X_isPage_14 (by decide) ?_
    exact ev_zretL X hr hk d_X_isPage_15 (by simp [inr, b2i, h1]) (rfl)
  · refine ev_iload_n X d_X_isPage_4 rfl ?_
    refine ev_bipush (v := 16) X d_X_isPage_5 (by decide) ?_
    refine ev_icmp_ge (tgt := 14) X d_X_isPage_7 (by decide) (fun h7 => ?_) (fun h7 => ?_)
    · refine ev_iconst (v := 0) X d_X_isPage_14 (by decide) ?_
      exact ev_zretL X hr hk d_X_isPage_15 (by simp [inr, b2i, h1, h7]) (rfl)
    · refine ev_iconst (v := 1) X d_X_isPage_10 (by decide) ?_
      refine ev_goto (tgt := 15) X d_X_isPage_11 (by decide) ?_
      exact ev_zretL X hr hk d_X_isPage_15 (by simp [inr, b2i, h1, h7]) (rfl)
set_option maxHeartbeats 4000000 in
set_option maxRecDepth 100000 in
theorem c_X_isEnclaveNumber {l : Launch} {D : va_G} {ad : Nat → Nat} {ca : Nat → ClassId} {x : va_W} {S : St} {z : Int32}  : CtX l D ad ca x y_X_isEnclaveNumber b_X_isEnclaveNumber 1 (some .boolean) 0 [.int z] S S (some (.int (b2i (inr z 4)))) := by
  refine ev_ent [some (.int z)] rfl (by decide) (Nat.le_of_ble_eq_true rfl) rfl gTT (fun p e s m args below meth c A X hr hk => ?_)
  refine ev_iload_n X d_X_isEnclaveNumber_0 rfl ?_
  refine ev_if_lt (tgt := 13) X d_X_isEnclaveNumber_1 (by decide) (fun h1 => ?_) (fun h1 => ?_)
  · refine ev_iconst (v := 0) X d_X_isEnclaveNumber_13 (by decide) ?_
    exact ev_zretL X hr hk d_X_isEnclaveNumber_14 (by simp [inr, b2i, h1]) (rfl)
  · refine ev_iload_n X d_X_isEnclaveNumber_4 rfl ?_
    refine ev_iconst (v := 4) X d_X_isEnclaveNumber_5 (by decide) ?_
    refine ev_icmp_ge (tgt := 13) X d_X_isEnclaveNumber_6 (by decide) (fun h6 => ?_) (fun h6 => ?_)
    · refine ev_iconst (v := 0) X d_X_isEnclaveNumber_13 (by decide) ?_
      exact ev_zretL X hr hk d_X_isEnclaveNumber_14 (by simp [inr, b2i, h1, h6]) (rfl)
    · refine ev_iconst (v := 1) X d_X_isEnclaveNumber_9 (by decide) ?_
      refine ev_goto (tgt := 14) X d_X_isEnclaveNumber_10 (by decide) ?_
      exact ev_zretL X hr hk d_X_isEnclaveNumber_14 (by simp [inr, b2i, h1, h6]) (rfl)
set_option maxHeartbeats 4000000 in
set_option maxRecDepth 100000 in
theorem c_X_isShared {l : Launch} {D : va_G} {ad : Nat → Nat} {ca : Nat → ClassId} {x : va_W} {S : St} {z : Int32}  : CtX l D ad ca x y_X_isShared b_X_isShared 1 (some .boolean) 0 [.int z] S S (some (.int (b2i (shS z)))) := by
  refine ev_ent [some (.int z)] rfl (by decide) (Nat.le_of_ble_eq_true rfl) rfl gTT (fun p e s m args below meth c A X hr hk => ?_)
  refine ev_iload_n X d_X_isShared_0 rfl ?_
  refine ev_iconst (v := (-1)) X d_X_isShared_1 (by decide) ?_
  refine ev_icmp_lt (tgt := 16) X d_X_isShared_2 (by decide) (fun h2 => ?_) (fun h2 => ?_)
  · refine ev_iconst (v := 0) X d_X_isShared_16 (by decide) ?_
    exact ev_zretL X hr hk d_X_isShared_17 (by simp [shS, b2i, h2]) (rfl)
  · refine ev_iload_n X d_X_isShared_5 rfl ?_
    refine ev_sipush (v := 271) X d_X_isShared_6 (by decide) ?_
    refine ev_icmp_gt (tgt := 16) X d_X_isShared_9 (by decide) (fun h9 => ?_) (fun h9 => ?_)
    · refine ev_iconst (v := 0) X d_X_isShared_16 (by decide) ?_
      exact ev_zretL X hr hk d_X_isShared_17 (by simp [shS, b2i, h2, h9]) (rfl)
    · refine ev_iconst (v := 1) X d_X_isShared_12 (by decide) ?_
      refine ev_goto (tgt := 17) X d_X_isShared_13 (by decide) ?_
      exact ev_zretL X hr hk d_X_isShared_17 (by simp [shS, b2i, h2, h9]) (rfl)
set_option maxHeartbeats 4000000 in
set_option maxRecDepth 100000 in
theorem c_X_isOnPages {l : Launch} {D : va_G} {ad : Nat → Nat} {ca : Nat → ClassId} {x : va_W} {S : St} {a f n : Int32}  : CtX l D ad ca x y_X_isOnPages b_X_isOnPages 3 (some .boolean) 0 [.int a, .int f, .int n] S S (some (.int (b2i (onP a f n)))) := by
  refine ev_ent [some (.int a), some (.int f), some (.int n)] rfl (by decide) (Nat.le_of_ble_eq_true rfl) rfl gTT (fun p e s m args below meth c A X hr hk => ?_)
  refine ev_iload_n X d_X_isOnPages_0 rfl ?_
  refine ev_iload_n X d_X_isOnPages_1 rfl ?_
  refine ev_bipush (v := 16) X d_X_isOnPages_2 (by decide) ?_
  refine ev_imul X d_X_isOnPages_4 ?_
  refine ev_icmp_lt (tgt := 22) X d_X_isOnPages_5 (by decide) (fun h5 => ?_) (fun h5 => ?_)
  · refine ev_iconst (v := 0) X d_X_isOnPages_22 (by decide) ?_
    exact ev_zretL X hr hk d_X_isOnPages_23 (by simp [onP, b2i, h5]) (rfl)
  · refine ev_iload_n X d_X_isOnPages_8 rfl ?_
    refine ev_iload_n X d_X_isOnPages_9 rfl ?_
    refine ev_iload_n X d_X_isOnPages_10 rfl ?_
    refine ev_iadd X d_X_isOnPages_11 ?_
    refine ev_bipush (v := 16) X d_X_isOnPages_12 (by decide) ?_
    refine ev_imul X d_X_isOnPages_14 ?_
    refine ev_icmp_ge (tgt := 22) X d_X_isOnPages_15 (by decide) (fun h15 => ?_) (fun h15 => ?_)
    · refine ev_iconst (v := 0) X d_X_isOnPages_22 (by decide) ?_
      exact ev_zretL X hr hk d_X_isOnPages_23 (by simp [onP, b2i, h5, h15]) (rfl)
    · refine ev_iconst (v := 1) X d_X_isOnPages_18 (by decide) ?_
      refine ev_goto (tgt := 23) X d_X_isOnPages_19 (by decide) ?_
      exact ev_zretL X hr hk d_X_isOnPages_23 (by simp [onP, b2i, h5, h15]) (rfl)
set_option maxHeartbeats 4000000 in
set_option maxRecDepth 100000 in
theorem c_X_mix {l : Launch} {D : va_G} {ad : Nat → Nat} {ca : Nat → ClassId} {x : va_W} {S : St} {a b : Int32}  : CtX l D ad ca x y_X_mix b_X_mix 3 (some .int) 0 [.int a, .int b] S S (some (.int (mixI a b))) := by
  refine ev_ent [some (.int a), some (.int b), none] rfl (by decide) (Nat.le_of_ble_eq_true rfl) rfl gTT (fun p e s m args below meth c A X hr hk => ?_)
  refine ev_bipush (v := 31) X d_X_mix_0 (by decide) ?_
  refine ev_iload_n X d_X_mix_2 rfl ?_
  refine ev_imul X d_X_mix_3 ?_
  refine ev_iload_n X d_X_mix_4 rfl ?_
  refine ev_ixor X d_X_mix_5 ?_
  refine ev_ldc X k_X_177 d_X_mix_6 ?_
  refine ev_imul X d_X_mix_8 ?_
  refine ev_istore_n X d_X_mix_9 (by decide) ?_
  refine ev_iload_n X d_X_mix_10 rfl ?_
  refine ev_iload_n X d_X_mix_11 rfl ?_
  refine ev_bipush (v := 15) X d_X_mix_12 (by decide) ?_
  refine ev_iushr X d_X_mix_14 rfl ?_
  refine ev_ixor X d_X_mix_15 ?_
  exact ev_iretL X hr hk d_X_mix_16 (by rw [mixI_eq]; rfl) (rfl)
set_option maxHeartbeats 4000000 in
set_option maxRecDepth 100000 in
theorem c_X_denied {l : Launch} {D : va_G} {ad : Nat → Nat} {ca : Nat → ClassId} {x : va_W} {S : St}   : CtX l D ad ca x y_X_denied b_X_denied 1 (some .int) 0 [.ref (ad 0)] S S (some (.int (S 0 5))) := by
  refine ev_ent [some (.ref (ad 0))] rfl (by decide) (Nat.le_of_ble_eq_true rfl) rfl gTT (fun p e s m args below meth c A X hr hk => ?_)
  refine ev_aload_n X d_X_denied_0 rfl ?_
  refine ev_getI X f_X_47 lo_this rfl d_X_denied_1 ?_
  exact ev_iretL X hr hk d_X_denied_4 (rfl) (rfl)
set_option maxHeartbeats 4000000 in
set_option maxRecDepth 100000 in
theorem c_G_setTo {l : Launch} {D : va_G} {ad : Nat → Nat} {ca : Nat → ClassId} {x : va_W} {S : St} {i : Nat} {u r a : Int32} (L : LyO lyX 41 i 1 flG) : CtX l D ad ca x y_G_setTo b_G_setTo 4 none 0 [.ref (ad i), .int u, .int r, .int a] S (sG S i u r a) none := by
  refine ev_ent [some (.ref (ad i)), some (.int u), some (.int r), some (.int a)] rfl (by decide) (Nat.le_of_ble_eq_true rfl) rfl gTT (fun p e s m args below meth c A X hr hk => ?_)
  refine ev_aload_n X d_G_setTo_0 rfl ?_
  refine ev_iload_n X d_G_setTo_1 rfl ?_
  refine ev_putI X f_G_9 L rfl d_G_setTo_2 ?_
  refine ev_aload_n X d_G_setTo_5 rfl ?_
  refine ev_iload_n X d_G_setTo_6 rfl ?_
  refine ev_putI X f_G_15 L rfl d_G_setTo_7 ?_
  refine ev_aload_n X d_G_setTo_10 rfl ?_
  refine ev_iload_n X d_G_setTo_11 rfl ?_
  refine ev_putI X f_G_18 L rfl d_G_setTo_12 ?_
  exact ev_vretL X hr hk d_G_setTo_15 (rfl)
theorem sw_out3 {z : Int32} (h1 : ¬ z = 1) (h2 : ¬ z = 2) (h3 : ¬ z = 3) : z.toInt < 1 ∨ 3 < z.toInt := by
  have a1 := lv_neT h1 (a := 1) (by decide)
  have a2 := lv_neT h2 (a := 2) (by decide)
  have a3 := lv_neT h3 (a := 3) (by decide)
  omega
set_option maxHeartbeats 4000000 in
set_option maxRecDepth 100000 in
theorem c_G_matches {l : Launch} {D : va_G} {ad : Nat → Nat} {ca : Nat → ClassId} {x : va_W} {S : St} {i : Nat} {z b : Int32} (L : LyO lyX 41 i 1 flG) : CtX l D ad ca x y_G_matches b_G_matches 4 (some .boolean) 0 [.ref (ad i), .int z, .int b] S S (some (.int (b2i (gmS (S i 0) (S i 2) z b)))) := by
  refine ev_ent [some (.ref (ad i)), some (.int z), some (.int b), none] rfl (by decide) (Nat.le_of_ble_eq_true rfl) rfl gTT (fun p e s m args below meth c A X hr hk => ?_)
  refine ev_aload_n X d_G_matches_0 rfl ?_
  refine ev_getI X f_G_9 L rfl d_G_matches_1 ?_
  by_cases q1 : S i 0 = 1
  · rw [q1]
    refine ev_tableIn (tgt := 32) X d_G_matches_4 (by decide) (by decide) rfl (by decide) ?_
    refine ev_iload_n X d_G_matches_32 rfl ?_
    refine ev_iload_n X d_G_matches_33 rfl ?_
    refine ev_icmp_gt (tgt := 49) X d_G_matches_34 (by decide) (fun h34 => ?_) (fun h34 => ?_)
    · refine ev_iconst (v := 0) X d_G_matches_49 (by decide) ?_
      exact ev_zretL X hr hk d_G_matches_50 (by simp [gmS, b2i, q1, h34]) (rfl)
    · refine ev_iload_n X d_G_matches_37 rfl ?_
      refine ev_aload_n X d_G_matches_38 rfl ?_
      refine ev_getI X f_G_18 L rfl d_G_matches_39 ?_
      refine ev_icmp_ge (tgt := 49) X d_G_matches_42 (by decide) (fun h42 => ?_) (fun h42 => ?_)
      · refine ev_iconst (v := 0) X d_G_matches_49 (by decide) ?_
        exact ev_zretL X hr hk d_G_matches_50 (by simp [gmS, b2i, q1, h34, h42]) (rfl)
      · refine ev_iconst (v := 1) X d_G_matches_45 (by decide) ?_
        refine ev_goto (tgt := 50) X d_G_matches_46 (by decide) ?_
        exact ev_zretL X hr hk d_G_matches_50 (by simp [gmS, b2i, q1, h34, h42]) (rfl)
  · by_cases q2 : S i 0 = 2
    · rw [q2]
      refine ev_tableIn (tgt := 51) X d_G_matches_4 (by decide) (by decide) rfl (by decide) ?_
      refine ev_iload_n X d_G_matches_51 rfl ?_
      refine ev_aload_n X d_G_matches_52 rfl ?_
      refine ev_getI X f_G_18 L rfl d_G_matches_53 ?_
      refine ev_icmp_ne (tgt := 63) X d_G_matches_56 (by decide) (fun h56 => ?_) (fun h56 => ?_)
      · refine ev_iconst (v := 0) X d_G_matches_63 (by decide) ?_
        exact ev_zretL X hr hk d_G_matches_64 (by simp [gmS, b2i, q1, q2, h56]) (rfl)
      · refine ev_iconst (v := 1) X d_G_matches_59 (by decide) ?_
        refine ev_goto (tgt := 64) X d_G_matches_60 (by decide) ?_
        exact ev_zretL X hr hk d_G_matches_64 (by simp [gmS, b2i, q1, q2, h56]) (rfl)
    · by_cases q3 : S i 0 = 3
      · rw [q3]
        refine ev_tableIn (tgt := 65) X d_G_matches_4 (by decide) (by decide) rfl (by decide) ?_
        refine ev_aload_n X d_G_matches_65 rfl ?_
        refine ev_getI X f_G_18 L rfl d_G_matches_66 ?_
        refine ev_aload_n X d_G_matches_69 rfl ?_
        refine ev_getI X f_G_18 L rfl d_G_matches_70 ?_
        refine ev_iconst (v := 1) X d_G_matches_73 (by decide) ?_
        refine ev_iadd X d_G_matches_74 ?_
        refine ev_ixor X d_G_matches_75 ?_
        refine ev_istore_n X d_G_matches_76 (by decide) ?_
        refine ev_iload_n X d_G_matches_77 rfl ?_
        refine ev_iload_n X d_G_matches_78 rfl ?_
        refine ev_ior X d_G_matches_79 ?_
        refine ev_aload_n X d_G_matches_80 rfl ?_
        refine ev_getI X f_G_18 L rfl d_G_matches_81 ?_
        refine ev_iload_n X d_G_matches_84 rfl ?_
        refine ev_ior X d_G_matches_85 ?_
        refine ev_icmp_ne (tgt := 93) X d_G_matches_86 (by decide) (fun h86 => ?_) (fun h86 => ?_)
        · refine ev_iconst (v := 0) X d_G_matches_93 (by decide) ?_
          exact ev_zretL X hr hk d_G_matches_94 (by simp [gmS, b2i, q1, q2, q3, h86]) (rfl)
        · refine ev_iconst (v := 1) X d_G_matches_89 (by decide) ?_
          refine ev_goto (tgt := 94) X d_G_matches_90 (by decide) ?_
          exact ev_zretL X hr hk d_G_matches_94 (by simp [gmS, b2i, q1, q2, q3, h86]) (rfl)
      · refine ev_tableOut (tgt := 95) X d_G_matches_4 (sw_out3 q1 q2 q3) (by decide) ?_
        refine ev_iconst (v := 0) X d_G_matches_95 (by decide) ?_
        exact ev_zretL X hr hk d_G_matches_96 (by simp [gmS, b2i, q1, q2, q3]) (rfl)
set_option maxHeartbeats 4000000 in
set_option maxRecDepth 100000 in
theorem c_E_firstWord {l : Launch} {D : va_G} {ad : Nat → Nat} {ca : Nat → ClassId} {x : va_W} {S : St} {i : Nat} (L : LyO lyX 41 i 3 (flE i)) : CtX l D ad ca x y_E_firstWord b_E_firstWord 1 (some .int) 0 [.ref (ad i)] S S (some (.int (S i 2 * 16))) := by
  refine ev_ent [some (.ref (ad i))] rfl (by decide) (Nat.le_of_ble_eq_true rfl) rfl gTT (fun p e s m args below meth c A X hr hk => ?_)
  refine ev_aload_n X d_E_firstWord_0 rfl ?_
  refine ev_getI X f_E_22 L rfl d_E_firstWord_1 ?_
  refine ev_bipush (v := 16) X d_E_firstWord_4 (by decide) ?_
  refine ev_imul X d_E_firstWord_6 ?_
  exact ev_iretL X hr hk d_E_firstWord_7 (rfl) (rfl)
set_option maxHeartbeats 4000000 in
set_option maxRecDepth 100000 in
theorem c_E_endWord {l : Launch} {D : va_G} {ad : Nat → Nat} {ca : Nat → ClassId} {x : va_W} {S : St} {i : Nat} (L : LyO lyX 41 i 3 (flE i)) : CtX l D ad ca x y_E_endWord b_E_endWord 1 (some .int) 0 [.ref (ad i)] S S (some (.int ((S i 2 + S i 3) * 16))) := by
  refine ev_ent [some (.ref (ad i))] rfl (by decide) (Nat.le_of_ble_eq_true rfl) rfl gTT (fun p e s m args below meth c A X hr hk => ?_)
  refine ev_aload_n X d_E_endWord_0 rfl ?_
  refine ev_getI X f_E_22 L rfl d_E_endWord_1 ?_
  refine ev_aload_n X d_E_endWord_4 rfl ?_
  refine ev_getI X f_E_25 L rfl d_E_endWord_5 ?_
  refine ev_iadd X d_E_endWord_8 ?_
  refine ev_bipush (v := 16) X d_E_endWord_9 (by decide) ?_
  refine ev_imul X d_E_endWord_11 ?_
  exact ev_iretL X hr hk d_E_endWord_12 (rfl) (rfl)
set_option maxHeartbeats 4000000 in
set_option maxRecDepth 100000 in
theorem c_E_isBlock {l : Launch} {D : va_G} {ad : Nat → Nat} {ca : Nat → ClassId} {x : va_W} {S : St} {i : Nat} (L : LyO lyX 41 i 3 (flE i)) : CtX l D ad ca x y_E_isBlock b_E_isBlock 2 (some .boolean) 0 [.ref (ad i)] S S (some (.int (b2i (blkS (S i 2) (S i 3))))) := by
  refine ev_ent [some (.ref (ad i)), none] rfl (by decide) (Nat.le_of_ble_eq_true rfl) rfl gTT (fun p e s m args below meth c A X hr hk => ?_)
  refine ev_aload_n X d_E_isBlock_0 rfl ?_
  refine ev_getI X f_E_25 L rfl d_E_isBlock_1 ?_
  refine ev_aload_n X d_E_isBlock_4 rfl ?_
  refine ev_getI X f_E_25 L rfl d_E_isBlock_5 ?_
  refine ev_iconst (v := 1) X d_E_isBlock_8 (by decide) ?_
  refine ev_isub X d_E_isBlock_9 ?_
  refine ev_iand X d_E_isBlock_10 ?_
  refine ev_if_ne (tgt := 18) X d_E_isBlock_11 (by decide) (fun h11 => ?_) (fun h11 => ?_)
  · refine ev_iconst (v := 0) X d_E_isBlock_18 (by decide) ?_
    refine ev_istore_n X d_E_isBlock_19 (by decide) ?_
    refine ev_iload_n X d_E_isBlock_20 rfl ?_
    refine ev_if_eq (tgt := 42) X d_E_isBlock_21 (by decide) (fun h21 => ?_) (fun h21 => ?_)
    · refine ev_iconst (v := 0) X d_E_isBlock_42 (by decide) ?_
      exact ev_zretL X hr hk d_E_isBlock_43 (by simp [blkS, b2i, h11, h21]) (rfl)
    · exact absurd h21 (by decide)
  · refine ev_iconst (v := 1) X d_E_isBlock_14 (by decide) ?_
    refine ev_goto (tgt := 19) X d_E_isBlock_15 (by decide) ?_
    refine ev_istore_n X d_E_isBlock_19 (by decide) ?_
    refine ev_iload_n X d_E_isBlock_20 rfl ?_
    refine ev_if_eq (tgt := 42) X d_E_isBlock_21 (by decide) (fun h21 => ?_) (fun h21 => ?_)
    · exact absurd h21 (by decide)
    · refine ev_aload_n X d_E_isBlock_24 rfl ?_
      refine ev_getI X f_E_22 L rfl d_E_isBlock_25 ?_
      refine ev_aload_n X d_E_isBlock_28 rfl ?_
      refine ev_getI X f_E_25 L rfl d_E_isBlock_29 ?_
      refine ev_iconst (v := 1) X d_E_isBlock_32 (by decide) ?_
      refine ev_isub X d_E_isBlock_33 ?_
      refine ev_iand X d_E_isBlock_34 ?_
      refine ev_if_ne (tgt := 42) X d_E_isBlock_35 (by decide) (fun h35 => ?_) (fun h35 => ?_)
      · refine ev_iconst (v := 0) X d_E_isBlock_42 (by decide) ?_
        exact ev_zretL X hr hk d_E_isBlock_43 (by simp [blkS, b2i, h11, h21, h35]) (rfl)
      · refine ev_iconst (v := 1) X d_E_isBlock_38 (by decide) ?_
        refine ev_goto (tgt := 43) X d_E_isBlock_39 (by decide) ?_
        exact ev_zretL X hr hk d_E_isBlock_43 (by simp [blkS, b2i, h11, h21, h35]) (rfl)
set_option maxHeartbeats 4000000 in
set_option maxRecDepth 100000 in
theorem c_E_endWith {l : Launch} {D : va_G} {ad : Nat → Nat} {ca : Nat → ClassId} {x : va_W} {S : St} {i : Nat} {t v : Int32} (L : LyO lyX 41 i 3 (flE i)) : CtX l D ad ca x y_E_endWith b_E_endWith 3 none 0 [.ref (ad i), .int t, .int v] S (sEnd S i t v) none := by
  refine ev_ent [some (.ref (ad i)), some (.int t), some (.int v)] rfl (by decide) (Nat.le_of_ble_eq_true rfl) rfl gTT (fun p e s m args below meth c A X hr hk => ?_)
  refine ev_aload_n X d_E_endWith_0 rfl ?_
  refine ev_iload_n X d_E_endWith_1 rfl ?_
  refine ev_putI X f_E_15 L rfl d_E_endWith_2 ?_
  refine ev_aload_n X d_E_endWith_5 rfl ?_
  refine ev_iload_n X d_E_endWith_6 rfl ?_
  refine ev_putI X f_E_34 L rfl d_E_endWith_7 ?_
  exact ev_vretL X hr hk d_E_endWith_10 (rfl)
set_option maxHeartbeats 4000000 in
set_option maxRecDepth 100000 in
theorem c_E_startWith {l : Launch} {D : va_G} {ad : Nat → Nat} {ca : Nat → ClassId} {x : va_W} {S : St} {i : Nat} {v : Int32} (L : LyO lyX 41 i 3 (flE i)) : CtX l D ad ca x y_E_startWith b_E_startWith 3 none 0 [.ref (ad i), .int v] S (sStart S i v) none := by
  refine ev_ent [some (.ref (ad i)), some (.int v), none] rfl (by decide) (Nat.le_of_ble_eq_true rfl) rfl gTT (fun p e s m args below meth c A X hr hk => ?_)
  have loop : ∀ (r k : Nat), k + r = 8 → EV p l e (rmd 0) s m args below meth c 0 0 (MQ below (QQ clX D A (ly_w lyX 41 ad ca (sStart S i v) x) none) args s 0 0 A) 3 D clX A s.heap (ly_w lyX 41 ad ca (fil S (i + 1) 0 k 0) x) 2 [some (.ref (ad i)), some (.int v), some (.int (nI k))] [] := by
    intro r
    induction r with
    | zero =>
      intro k h1
      have h2 : k = 8 := by omega
      subst h2
      refine ev_iload_n X d_E_startWith_2 rfl ?_
      refine ev_bipush (v := 8) X d_E_startWith_3 (by decide) ?_
      refine ev_icmp_ge (tgt := 21) X d_E_startWith_5 (by decide) (fun h5 => ?_) (fun h5 => ?_)
      · refine ev_aload_n X d_E_startWith_21 rfl ?_
        refine ev_getR X f_E_9 L rfl d_E_startWith_22 ?_
        refine ev_iconst (v := 1) X d_E_startWith_25 (by decide) ?_
        refine ev_iload_n X d_E_startWith_26 rfl ?_
        refine ev_iast (j := 1) X (li_er L) rfl rfl (by decide) d_E_startWith_27 ?_
        refine ev_aload_n X d_E_startWith_28 rfl ?_
        refine ev_aload_n X d_E_startWith_29 rfl ?_
        refine ev_getI X f_E_28 L rfl d_E_startWith_30 ?_
        refine ev_putI X f_E_31 L rfl d_E_startWith_33 ?_
        exact ev_vretL X hr hk d_E_startWith_36 (rfl)
      · exact absurd (by decide) h5
    | succ r ih =>
      intro k h1
      refine ev_iload_n X d_E_startWith_2 rfl ?_
      refine ev_bipush (v := 8) X d_E_startWith_3 (by decide) ?_
      refine ev_icmp_ge (tgt := 21) X d_E_startWith_5 (by decide) (fun h5 => ?_) (fun h5 => ?_)
      · exact absurd h5 (nI_ge (b := 8) (by omega) (by decide))
      · refine ev_aload_n X d_E_startWith_8 rfl ?_
        refine ev_getR X f_E_9 L rfl d_E_startWith_9 ?_
        refine ev_iload_n X d_E_startWith_12 rfl ?_
        refine ev_iconst (v := 0) X d_E_startWith_13 (by decide) ?_
        refine ev_iast X (li_er L) rfl rfl (by omega) d_E_startWith_14 ?_
        refine ev_iinc (v := nI (k + 1)) X d_E_startWith_15 rfl (nI_1 k) (by decide) ?_
        refine ev_goto (tgt := 2) X d_E_startWith_18 (by decide) ?_
        rw [fil_up (Nat.zero_le k)]
        exact ih (k + 1) (by omega)
  refine ev_iconst (v := 0) X d_E_startWith_0 (by decide) ?_
  refine ev_istore_n X d_E_startWith_1 (by decide) ?_
  refine ev_of (w1 := ly_w lyX 41 ad ca (fil S (i + 1) 0 0 0) x) (by rw [fil_nil]) rfl rfl rfl ?_
  exact loop 8 0 rfl
