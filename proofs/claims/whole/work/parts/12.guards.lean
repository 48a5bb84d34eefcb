def PeOK (S : St) (i : Nat) : Prop := S i 2 = -1 ∨ inr (S i 2) 4 = true
theorem sG_ne {S : St} {j c : Nat} {m r a : Int32} (h : c ≠ j) : sG S j m r a c = S c := by
  unfold sG
  rw [up2_ne h, up2_ne h, up2_ne h]
theorem sB_ne {S : St} {j c : Nat} {f w r : Int32} (h : c ≠ j) : sB S j f w r c = S c := sG_ne h
theorem sEG_ne {S : St} {i lo up c : Nat} {r : Int32} (h1 : c ≠ lo) (h2 : c ≠ up) : sEG S i lo up r c = S c := by
  unfold sEG
  split
  · rw [sG_ne h2, sG_ne h1]
  · split
    · rw [sB_ne h2, sG_ne h1]
    · rw [sG_ne h2, sG_ne h1]
theorem sGe_ne {S : St} {i e c : Nat} (h : c < i + 3 ∨ i + 3 + 11 ≤ c) (he : e < 4) : sGe S i e c = S c := sEG_ne (by omega) (by omega)
theorem gLoop_ne {i c : Nat} (h : c < i + 3 ∨ i + 3 + 11 ≤ c) : ∀ (n e : Nat) (S : St), e + n ≤ 4 → gLoop i n e S c = S c
  | 0, _, _, _ => rfl
  | n + 1, e, S, he => by
    show gLoop i n (e + 1) (sGe S i e) c = S c
    rw [gLoop_ne h n (e + 1) _ (by omega), sGe_ne h (by omega)]
theorem sSh_ne {S : St} {i c : Nat} (h : c < i + 3 ∨ i + 3 + 11 ≤ c) : sSh S i c = S c := by
  unfold sSh
  split
  · exact sG_ne (by omega)
  · split
    · exact sB_ne (by omega)
    · exact sG_ne (by omega)
theorem sGs_ne {S : St} {i c : Nat} (h : c < i + 3 ∨ i + 3 + 11 ≤ c) : sGs S i c = S c := by
  unfold sGs
  rw [sB_ne (by omega), sSh_ne h, gLoop_ne h 4 0 _ (by omega), sB_ne (by omega)]
theorem gix1 (k : Nat) : 1 + 2 * nI k = nI (1 + 2 * k) := by
  rw [show (2 : Int32) = nI 2 from rfl, show (1 : Int32) = nI 1 from rfl, pk_mul, nI_add]
theorem gix2 (k : Nat) : 2 + 2 * nI k = nI (2 + 2 * k) := by
  rw [show (2 : Int32) = nI 2 from rfl, pk_mul, nI_add]
set_option maxHeartbeats 4000000 in
set_option maxRecDepth 100000 in
theorem c_X_setEnclaveGuards {l : Launch} {D : va_G} {ad : Nat → Nat} {ca : Nat → ClassId} {x : va_W} {S : St} {i lo up : Nat} {r : Int32} (L : LyO lyX 41 i 3 (flE i)) (L1 : LyO lyX 41 lo 1 flG) (L2 : LyO lyX 41 up 1 flG) : CtX l D ad ca x y_X_setEnclaveGuards b_X_setEnclaveGuards 4 none 2 [.ref (ad i), .ref (ad lo), .ref (ad up), .int r] S (sEG S i lo up r) none := by
  refine ev_ent [some (.ref (ad i)), some (.ref (ad lo)), some (.ref (ad up)), some (.int r)] rfl (by decide) (Nat.le_of_ble_eq_true rfl) rfl gTT (fun p e s m args below meth c A X hr hk => ?_)
  refine ev_aload_n X d_X_setEnclaveGuards_0 rfl ?_
  refine ev_getI X f_X_86 L rfl d_X_setEnclaveGuards_1 ?_
  refine ev_if_ne (tgt := 20) X d_X_setEnclaveGuards_4 (by decide) (fun h4 => ?_) (fun h4 => ?_)
  · refine ev_aload_n X d_X_setEnclaveGuards_20 rfl ?_
    refine ev_cV1 X m_X_198 (c_E_isBlock L) L rfl rfl (by decide) (by decide) d_X_setEnclaveGuards_21 rfl rfl (Nat.le_of_ble_eq_true rfl) ?_
    refine ev_if_eqB (tgt := 53) X d_X_setEnclaveGuards_24 (by decide) (fun h24 => ?_) (fun h24 => ?_)
    · refine ev_aload_n X d_X_setEnclaveGuards_53 rfl ?_
      refine ev_aload_n X d_X_setEnclaveGuards_54 rfl ?_
      refine ev_cV1 X m_X_171 (c_E_firstWord L) L rfl rfl (by decide) (by decide) d_X_setEnclaveGuards_55 rfl rfl (Nat.le_of_ble_eq_true rfl) ?_
      refine ev_cV0 X m_X_195 (c_G_setOff L1) L1 rfl rfl (by decide) (by decide) d_X_setEnclaveGuards_58 rfl rfl (Nat.le_of_ble_eq_true rfl) ?_
      refine ev_aload_n X d_X_setEnclaveGuards_61 rfl ?_
      refine ev_iconst (v := 1) X d_X_setEnclaveGuards_62 (by decide) ?_
      refine ev_iload_n X d_X_setEnclaveGuards_63 rfl ?_
      refine ev_aload_n X d_X_setEnclaveGuards_64 rfl ?_
      refine ev_cV1 X m_X_168 (c_E_endWord L) L rfl rfl (by decide) (by decide) d_X_setEnclaveGuards_65 rfl rfl (Nat.le_of_ble_eq_true rfl) ?_
      refine ev_cV0 X m_X_202 (c_G_setTo L2) L2 rfl rfl (by decide) (by decide) d_X_setEnclaveGuards_68 rfl rfl (Nat.le_of_ble_eq_true rfl) ?_
      exact ev_vretL X hr hk d_X_setEnclaveGuards_71 (by simp [sEG, h4, h24])
    · refine ev_aload_n X d_X_setEnclaveGuards_27 rfl ?_
      refine ev_iconst (v := 0) X d_X_setEnclaveGuards_28 (by decide) ?_
      refine ev_cV0 X m_X_195 (c_G_setOff L1) L1 rfl rfl (by decide) (by decide) d_X_setEnclaveGuards_29 rfl rfl (Nat.le_of_ble_eq_true rfl) ?_
      refine ev_aload_n X d_X_setEnclaveGuards_32 rfl ?_
      refine ev_aload_n X d_X_setEnclaveGuards_33 rfl ?_
      refine ev_cV1 X m_X_171 (c_E_firstWord L) L rfl rfl (by decide) (by decide) d_X_setEnclaveGuards_34 rfl rfl (Nat.le_of_ble_eq_true rfl) ?_
      refine ev_aload_n X d_X_setEnclaveGuards_37 rfl ?_
      refine ev_cV1 X m_X_168 (c_E_endWord L) L rfl rfl (by decide) (by decide) d_X_setEnclaveGuards_38 rfl rfl (Nat.le_of_ble_eq_true rfl) ?_
      refine ev_aload_n X d_X_setEnclaveGuards_41 rfl ?_
      refine ev_cV1 X m_X_171 (c_E_firstWord L) L rfl rfl (by decide) (by decide) d_X_setEnclaveGuards_42 rfl rfl (Nat.le_of_ble_eq_true rfl) ?_
      refine ev_isub X d_X_setEnclaveGuards_45 ?_
      refine ev_iload_n X d_X_setEnclaveGuards_46 rfl ?_
      refine ev_cV0 X m_X_184 (c_G_setBlock L2) L2 rfl rfl (by decide) (by decide) d_X_setEnclaveGuards_47 rfl rfl (Nat.le_of_ble_eq_true rfl) ?_
      refine ev_goto (tgt := 71) X d_X_setEnclaveGuards_50 (by decide) ?_
      exact ev_vretL X hr hk d_X_setEnclaveGuards_71 (by simp [sEG, h4, h24])
  · refine ev_aload_n X d_X_setEnclaveGuards_7 rfl ?_
    refine ev_iconst (v := 0) X d_X_setEnclaveGuards_8 (by decide) ?_
    refine ev_cV0 X m_X_195 (c_G_setOff L1) L1 rfl rfl (by decide) (by decide) d_X_setEnclaveGuards_9 rfl rfl (Nat.le_of_ble_eq_true rfl) ?_
    refine ev_aload_n X d_X_setEnclaveGuards_12 rfl ?_
    refine ev_iconst (v := 0) X d_X_setEnclaveGuards_13 (by decide) ?_
    refine ev_cV0 X m_X_195 (c_G_setOff L2) L2 rfl rfl (by decide) (by decide) d_X_setEnclaveGuards_14 rfl rfl (Nat.le_of_ble_eq_true rfl) ?_
    refine ev_goto (tgt := 71) X d_X_setEnclaveGuards_17 (by decide) ?_
    exact ev_vretL X hr hk d_X_setEnclaveGuards_71 (by simp [sEG, h4])
set_option maxHeartbeats 4000000 in
set_option maxRecDepth 100000 in
theorem c_X_setSharedGuard {l : Launch} {D : va_G} {ad : Nat → Nat} {ca : Nat → ClassId} {x : va_W} {S : St} {i : Nat} (L : LyO lyX 41 i 2 (flP i)) (hpe : PeOK S i) : CtX l D ad ca x y_X_setSharedGuard b_X_setSharedGuard 4 none 2 [.ref (ad 0), .ref (ad i)] S (sSh S i) none := by
  refine ev_ent [some (.ref (ad 0)), some (.ref (ad i)), none, none] rfl (by decide) (Nat.le_of_ble_eq_true rfl) rfl gTT (fun p e s m args below meth c A X hr hk => ?_)
  refine ev_aload_n X d_X_setSharedGuard_0 rfl ?_
  refine ev_getI X f_X_93 L rfl d_X_setSharedGuard_1 ?_
  refine ev_iconst (v := (-1)) X d_X_setSharedGuard_4 (by decide) ?_
  refine ev_icmp_ne (tgt := 12) X d_X_setSharedGuard_5 (by decide) (fun h5 => ?_) (fun h5 => ?_)
  · refine ev_aload_n X d_X_setSharedGuard_12 rfl ?_
    refine ev_getR X f_X_22 lo_this rfl d_X_setSharedGuard_13 ?_
    refine ev_aload_n X d_X_setSharedGuard_16 rfl ?_
    refine ev_getI X f_X_93 L rfl d_X_setSharedGuard_17 ?_
    refine ev_aald X lr_en rfl (inr_z (hpe.resolve_left h5)) (inr_j (k := 4) rfl (by decide) (hpe.resolve_left h5)) d_X_setSharedGuard_20 ?_
    refine ev_getI X f_X_157 (lo_en (inr_j (k := 4) rfl (by decide) (hpe.resolve_left h5))) rfl d_X_setSharedGuard_21 ?_
    refine ev_topi (v := shV S i) (by simp [shV, h5]) ?_
    refine ev_istore_n X d_X_setSharedGuard_24 (by decide) ?_
    refine ev_aload_n X d_X_setSharedGuard_25 rfl ?_
    refine ev_getR X f_X_133 L rfl d_X_setSharedGuard_26 ?_
    refine ev_bipush (v := 9) X d_X_setSharedGuard_29 (by decide) ?_
    refine ev_aald (j := 9) X (lr_gd L) rfl rfl (by decide) d_X_setSharedGuard_31 ?_
    refine ev_astore_n X d_X_setSharedGuard_32 (by decide) ?_
    refine ev_iload_n X d_X_setSharedGuard_33 rfl ?_
    refine ev_iconst (v := (-1)) X d_X_setSharedGuard_34 (by decide) ?_
    refine ev_icmp_ne (tgt := 46) X d_X_setSharedGuard_35 (by decide) (fun h35 => ?_) (fun h35 => ?_)
    · refine ev_iload_n X d_X_setSharedGuard_46 rfl ?_
      refine ev_sipush (v := 256) X d_X_setSharedGuard_47 (by decide) ?_
      refine ev_icmp_ge (tgt := 63) X d_X_setSharedGuard_50 (by decide) (fun h50 => ?_) (fun h50 => ?_)
      · refine ev_aload_n X d_X_setSharedGuard_63 rfl ?_
        refine ev_iload_n X d_X_setSharedGuard_64 rfl ?_
        refine ev_sipush (v := 256) X d_X_setSharedGuard_65 (by decide) ?_
        refine ev_isub X d_X_setSharedGuard_68 ?_
        refine ev_bipush (v := 16) X d_X_setSharedGuard_69 (by decide) ?_
        refine ev_imul X d_X_setSharedGuard_71 ?_
        refine ev_bipush (v := 16) X d_X_setSharedGuard_72 (by decide) ?_
        refine ev_iconst (v := 3) X d_X_setSharedGuard_74 (by decide) ?_
        refine ev_cV0 X m_X_184 (c_G_setBlock (lo_gd L (show 9 < _ by decide))) (lo_gd L (show 9 < _ by decide)) rfl rfl (by decide) (by decide) d_X_setSharedGuard_75 rfl rfl (Nat.le_of_ble_eq_true rfl) ?_
        exact ev_vretL X hr hk d_X_setSharedGuard_78 (by simp [sSh, h5, h35, h50])
      · refine ev_aload_n X d_X_setSharedGuard_53 rfl ?_
        refine ev_iconst (v := 2) X d_X_setSharedGuard_54 (by decide) ?_
        refine ev_iconst (v := 3) X d_X_setSharedGuard_55 (by decide) ?_
        refine ev_iload_n X d_X_setSharedGuard_56 rfl ?_
        refine ev_cV0 X m_X_202 (c_G_setTo (lo_gd L (show 9 < _ by decide))) (lo_gd L (show 9 < _ by decide)) rfl rfl (by decide) (by decide) d_X_setSharedGuard_57 rfl rfl (Nat.le_of_ble_eq_true rfl) ?_
        refine ev_goto (tgt := 78) X d_X_setSharedGuard_60 (by decide) ?_
        exact ev_vretL X hr hk d_X_setSharedGuard_78 (by simp [sSh, h5, h35, h50])
    · refine ev_aload_n X d_X_setSharedGuard_38 rfl ?_
      refine ev_iconst (v := 0) X d_X_setSharedGuard_39 (by decide) ?_
      refine ev_cV0 X m_X_195 (c_G_setOff (lo_gd L (show 9 < _ by decide))) (lo_gd L (show 9 < _ by decide)) rfl rfl (by decide) (by decide) d_X_setSharedGuard_40 rfl rfl (Nat.le_of_ble_eq_true rfl) ?_
      refine ev_goto (tgt := 78) X d_X_setSharedGuard_43 (by decide) ?_
      exact ev_vretL X hr hk d_X_setSharedGuard_78 (by simp [sSh, h5, h35])
  · refine ev_iconst (v := (-1)) X d_X_setSharedGuard_8 (by decide) ?_
    refine ev_goto (tgt := 24) X d_X_setSharedGuard_9 (by decide) ?_
    refine ev_topi (v := shV S i) (by simp [shV, h5]) ?_
    refine ev_istore_n X d_X_setSharedGuard_24 (by decide) ?_
    refine ev_aload_n X d_X_setSharedGuard_25 rfl ?_
    refine ev_getR X f_X_133 L rfl d_X_setSharedGuard_26 ?_
    refine ev_bipush (v := 9) X d_X_setSharedGuard_29 (by decide) ?_
    refine ev_aald (j := 9) X (lr_gd L) rfl rfl (by decide) d_X_setSharedGuard_31 ?_
    refine ev_astore_n X d_X_setSharedGuard_32 (by decide) ?_
    refine ev_iload_n X d_X_setSharedGuard_33 rfl ?_
    refine ev_iconst (v := (-1)) X d_X_setSharedGuard_34 (by decide) ?_
    refine ev_icmp_ne (tgt := 46) X d_X_setSharedGuard_35 (by decide) (fun h35 => ?_) (fun h35 => ?_)
    · refine ev_iload_n X d_X_setSharedGuard_46 rfl ?_
      refine ev_sipush (v := 256) X d_X_setSharedGuard_47 (by decide) ?_
      refine ev_icmp_ge (tgt := 63) X d_X_setSharedGuard_50 (by decide) (fun h50 => ?_) (fun h50 => ?_)
      · refine ev_aload_n X d_X_setSharedGuard_63 rfl ?_
        refine ev_iload_n X d_X_setSharedGuard_64 rfl ?_
        refine ev_sipush (v := 256) X d_X_setSharedGuard_65 (by decide) ?_
        refine ev_isub X d_X_setSharedGuard_68 ?_
        refine ev_bipush (v := 16) X d_X_setSharedGuard_69 (by decide) ?_
        refine ev_imul X d_X_setSharedGuard_71 ?_
        refine ev_bipush (v := 16) X d_X_setSharedGuard_72 (by decide) ?_
        refine ev_iconst (v := 3) X d_X_setSharedGuard_74 (by decide) ?_
        refine ev_cV0 X m_X_184 (c_G_setBlock (lo_gd L (show 9 < _ by decide))) (lo_gd L (show 9 < _ by decide)) rfl rfl (by decide) (by decide) d_X_setSharedGuard_75 rfl rfl (Nat.le_of_ble_eq_true rfl) ?_
        exact ev_vretL X hr hk d_X_setSharedGuard_78 (by simp [sSh, h5, h35, h50])
      · refine ev_aload_n X d_X_setSharedGuard_53 rfl ?_
        refine ev_iconst (v := 2) X d_X_setSharedGuard_54 (by decide) ?_
        refine ev_iconst (v := 3) X d_X_setSharedGuard_55 (by decide) ?_
        refine ev_iload_n X d_X_setSharedGuard_56 rfl ?_
        refine ev_cV0 X m_X_202 (c_G_setTo (lo_gd L (show 9 < _ by decide))) (lo_gd L (show 9 < _ by decide)) rfl rfl (by decide) (by decide) d_X_setSharedGuard_57 rfl rfl (Nat.le_of_ble_eq_true rfl) ?_
        refine ev_goto (tgt := 78) X d_X_setSharedGuard_60 (by decide) ?_
        exact ev_vretL X hr hk d_X_setSharedGuard_78 (by simp [sSh, h5, h35, h50])
    · refine ev_aload_n X d_X_setSharedGuard_38 rfl ?_
      refine ev_iconst (v := 0) X d_X_setSharedGuard_39 (by decide) ?_
      refine ev_cV0 X m_X_195 (c_G_setOff (lo_gd L (show 9 < _ by decide))) (lo_gd L (show 9 < _ by decide)) rfl rfl (by decide) (by decide) d_X_setSharedGuard_40 rfl rfl (Nat.le_of_ble_eq_true rfl) ?_
      refine ev_goto (tgt := 78) X d_X_setSharedGuard_43 (by decide) ?_
      exact ev_vretL X hr hk d_X_setSharedGuard_78 (by simp [sSh, h5, h35])
set_option maxHeartbeats 4000000 in
set_option maxRecDepth 100000 in
theorem c_X_setGuards {l : Launch} {D : va_G} {ad : Nat → Nat} {ca : Nat → ClassId} {x : va_W} {S : St} {i : Nat} (L : LyO lyX 41 i 2 (flP i)) (hpe : PeOK S i) : CtX l D ad ca x y_X_setGuards b_X_setGuards 4 none 3 [.ref (ad 0), .ref (ad i)] S (sGs S i) none := by
  refine ev_ent [some (.ref (ad 0)), some (.ref (ad i)), none, none] rfl (by decide) (Nat.le_of_ble_eq_true rfl) rfl gTT (fun p e s m args below meth c A X hr hk => ?_)
  have loop : ∀ (r k : Nat) (o : Option Value) (T : St), k + r = 4 → gLoop i 4 0 (sB S (i + 3 + 1 * 0) 0 16 0) = gLoop i r k T → T i 2 = S i 2 → EV p l e (rmd 3) s m args below meth c 0 0 (MQ below (QQ clX D A (ly_w lyX 41 ad ca (sGs S i) x) none) args s 0 0 A) 4 D clX A s.heap (ly_w lyX 41 ad ca T x) 15 [some (.ref (ad 0)), some (.ref (ad i)), some (.int (nI k)), o] [] := by
    intro r
    induction r with
    | zero =>
      intro k o T q1 q2 q3
      refine ev_iload_n X d_X_setGuards_15 rfl ?_
      refine ev_iconst (v := 4) X d_X_setGuards_16 (by decide) ?_
      refine ev_icmp_ge (tgt := 71) X d_X_setGuards_17 (by decide) (fun h17 => ?_) (fun h17 => ?_)
      · refine ev_aload_n X d_X_setGuards_71 rfl ?_
        refine ev_aload_n X d_X_setGuards_72 rfl ?_
        refine ev_cV0 X m_X_192 (c_X_setSharedGuard L (show PeOK T i by unfold PeOK; rw [q3]; exact hpe)) lo_this rfl rfl (by decide) (by decide) d_X_setGuards_73 rfl rfl (Nat.le_of_ble_eq_true rfl) ?_
        refine ev_aload_n X d_X_setGuards_76 rfl ?_
        refine ev_getI X f_X_93 L rfl d_X_setGuards_77 ?_
        refine ev_iconst (v := (-1)) X d_X_setGuards_80 (by decide) ?_
        refine ev_icmp_ne (tgt := 89) X d_X_setGuards_81 (by decide) (fun h81 => ?_) (fun h81 => ?_)
        · refine ev_iconst (v := 0) X d_X_setGuards_89 (by decide) ?_
          refine ev_topi (v := if sSh T i i 2 = -1 then 7 else 0) (by simp [h17, h81]) ?_
          refine ev_istore_n X d_X_setGuards_90 (by decide) ?_
          refine ev_aload_n X d_X_setGuards_91 rfl ?_
          refine ev_getR X f_X_133 L rfl d_X_setGuards_92 ?_
          refine ev_bipush (v := 10) X d_X_setGuards_95 (by decide) ?_
          refine ev_aald (j := 10) X (lr_gd L) rfl rfl (by decide) d_X_setGuards_97 ?_
          refine ev_iconst (v := 0) X d_X_setGuards_98 (by decide) ?_
          refine ev_sipush (v := 256) X d_X_setGuards_99 (by decide) ?_
          refine ev_iload_n X d_X_setGuards_102 rfl ?_
          refine ev_cV0 X m_X_184 (c_G_setBlock (lo_gd L (show 10 < _ by decide))) (lo_gd L (show 10 < _ by decide)) rfl rfl (by decide) (by decide) d_X_setGuards_103 rfl rfl (Nat.le_of_ble_eq_true rfl) ?_
          exact ev_vretL X hr hk d_X_setGuards_106 (by rw [sGs, q2]; rfl)
        · refine ev_bipush (v := 7) X d_X_setGuards_84 (by decide) ?_
          refine ev_goto (tgt := 90) X d_X_setGuards_86 (by decide) ?_
          refine ev_topi (v := if sSh T i i 2 = -1 then 7 else 0) (by simp [h17, h81]) ?_
          refine ev_istore_n X d_X_setGuards_90 (by decide) ?_
          refine ev_aload_n X d_X_setGuards_91 rfl ?_
          refine ev_getR X f_X_133 L rfl d_X_setGuards_92 ?_
          refine ev_bipush (v := 10) X d_X_setGuards_95 (by decide) ?_
          refine ev_aald (j := 10) X (lr_gd L) rfl rfl (by decide) d_X_setGuards_97 ?_
          refine ev_iconst (v := 0) X d_X_setGuards_98 (by decide) ?_
          refine ev_sipush (v := 256) X d_X_setGuards_99 (by decide) ?_
          refine ev_iload_n X d_X_setGuards_102 rfl ?_
          refine ev_cV0 X m_X_184 (c_G_setBlock (lo_gd L (show 10 < _ by decide))) (lo_gd L (show 10 < _ by decide)) rfl rfl (by decide) (by decide) d_X_setGuards_103 rfl rfl (Nat.le_of_ble_eq_true rfl) ?_
          exact ev_vretL X hr hk d_X_setGuards_106 (by rw [sGs, q2]; rfl)
      · exact absurd (nI_le (a := 4) (by omega) (by omega)) h17
    | succ r ih =>
      intro k o T q1 q2 q3
      refine ev_iload_n X d_X_setGuards_15 rfl ?_
      refine ev_iconst (v := 4) X d_X_setGuards_16 (by decide) ?_
      refine ev_icmp_ge (tgt := 71) X d_X_setGuards_17 (by decide) (fun h17 => ?_) (fun h17 => ?_)
      · exact absurd h17 (nI_ge (b := 4) (by omega) (by decide))
      · refine ev_aload_n X d_X_setGuards_20 rfl ?_
        refine ev_getI X f_X_93 L rfl d_X_setGuards_21 ?_
        refine ev_iload_n X d_X_setGuards_24 rfl ?_
        refine ev_icmp_ne (tgt := 33) X d_X_setGuards_25 (by decide) (fun h25 => ?_) (fun h25 => ?_)
        · refine ev_iconst (v := 0) X d_X_setGuards_33 (by decide) ?_
          refine ev_topi (v := if T i 2 = nI k then 7 else 0) (by simp [h17, h25]) ?_
          refine ev_istore_n X d_X_setGuards_34 (by decide) ?_
          refine ev_aload_n X d_X_setGuards_35 rfl ?_
          refine ev_getR X f_X_22 lo_this rfl d_X_setGuards_36 ?_
          refine ev_iload_n X d_X_setGuards_39 rfl ?_
          refine ev_aald X lr_en rfl rfl (show k < 4 by omega) d_X_setGuards_40 ?_
          refine ev_aload_n X d_X_setGuards_41 rfl ?_
          refine ev_getR X f_X_133 L rfl d_X_setGuards_42 ?_
          refine ev_iconst (v := 1) X d_X_setGuards_45 (by decide) ?_
          refine ev_iconst (v := 2) X d_X_setGuards_46 (by decide) ?_
          refine ev_iload_n X d_X_setGuards_47 rfl ?_
          refine ev_imul X d_X_setGuards_48 ?_
          refine ev_iadd X d_X_setGuards_49 ?_
          refine ev_aald X (lr_gd L) rfl (gix1 k) (show 1 + 2 * k < 11 by omega) d_X_setGuards_50 ?_
          refine ev_aload_n X d_X_setGuards_51 rfl ?_
          refine ev_getR X f_X_133 L rfl d_X_setGuards_52 ?_
          refine ev_iconst (v := 2) X d_X_setGuards_55 (by decide) ?_
          refine ev_iconst (v := 2) X d_X_setGuards_56 (by decide) ?_
          refine ev_iload_n X d_X_setGuards_57 rfl ?_
          refine ev_imul X d_X_setGuards_58 ?_
          refine ev_iadd X d_X_setGuards_59 ?_
          refine ev_aald X (lr_gd L) rfl (gix2 k) (show 2 + 2 * k < 11 by omega) d_X_setGuards_60 ?_
          refine ev_iload_n X d_X_setGuards_61 rfl ?_
          refine ev_cS0 X m_X_188 (c_X_setEnclaveGuards (lo_en (show k < 4 by omega)) (lo_gd L (show 1 + 2 * k < 11 by omega)) (lo_gd L (show 2 + 2 * k < 11 by omega))) (by decide) (by decide) d_X_setGuards_62 rfl rfl (Nat.le_of_ble_eq_true rfl) ?_
          refine ev_iinc (v := nI (k + 1)) X d_X_setGuards_65 rfl (nI_1 k) (by decide) ?_
          refine ev_goto (tgt := 15) X d_X_setGuards_68 (by decide) ?_
          exact ih (k + 1) _ (sGe T i k) (by omega) q2 (by rw [sGe_ne (by omega) (by omega)]; exact q3)
        · refine ev_bipush (v := 7) X d_X_setGuards_28 (by decide) ?_
          refine ev_goto (tgt := 34) X d_X_setGuards_30 (by decide) ?_
          refine ev_topi (v := if T i 2 = nI k then 7 else 0) (by simp [h17, h25]) ?_
          refine ev_istore_n X d_X_setGuards_34 (by decide) ?_
          refine ev_aload_n X d_X_setGuards_35 rfl ?_
          refine ev_getR X f_X_22 lo_this rfl d_X_setGuards_36 ?_
          refine ev_iload_n X d_X_setGuards_39 rfl ?_
          refine ev_aald X lr_en rfl rfl (show k < 4 by omega) d_X_setGuards_40 ?_
          refine ev_aload_n X d_X_setGuards_41 rfl ?_
          refine ev_getR X f_X_133 L rfl d_X_setGuards_42 ?_
          refine ev_iconst (v := 1) X d_X_setGuards_45 (by decide) ?_
          refine ev_iconst (v := 2) X d_X_setGuards_46 (by decide) ?_
          refine ev_iload_n X d_X_setGuards_47 rfl ?_
          refine ev_imul X d_X_setGuards_48 ?_
          refine ev_iadd X d_X_setGuards_49 ?_
          refine ev_aald X (lr_gd L) rfl (gix1 k) (show 1 + 2 * k < 11 by omega) d_X_setGuards_50 ?_
          refine ev_aload_n X d_X_setGuards_51 rfl ?_
          refine ev_getR X f_X_133 L rfl d_X_setGuards_52 ?_
          refine ev_iconst (v := 2) X d_X_setGuards_55 (by decide) ?_
          refine ev_iconst (v := 2) X d_X_setGuards_56 (by decide) ?_
          refine ev_iload_n X d_X_setGuards_57 rfl ?_
          refine ev_imul X d_X_setGuards_58 ?_
          refine ev_iadd X d_X_setGuards_59 ?_
          refine ev_aald X (lr_gd L) rfl (gix2 k) (show 2 + 2 * k < 11 by omega) d_X_setGuards_60 ?_
          refine ev_iload_n X d_X_setGuards_61 rfl ?_
          refine ev_cS0 X m_X_188 (c_X_setEnclaveGuards (lo_en (show k < 4 by omega)) (lo_gd L (show 1 + 2 * k < 11 by omega)) (lo_gd L (show 2 + 2 * k < 11 by omega))) (by decide) (by decide) d_X_setGuards_62 rfl rfl (Nat.le_of_ble_eq_true rfl) ?_
          refine ev_iinc (v := nI (k + 1)) X d_X_setGuards_65 rfl (nI_1 k) (by decide) ?_
          refine ev_goto (tgt := 15) X d_X_setGuards_68 (by decide) ?_
          exact ih (k + 1) _ (sGe T i k) (by omega) q2 (by rw [sGe_ne (by omega) (by omega)]; exact q3)
  refine ev_aload_n X d_X_setGuards_0 rfl ?_
  refine ev_getR X f_X_133 L rfl d_X_setGuards_1 ?_
  refine ev_iconst (v := 0) X d_X_setGuards_4 (by decide) ?_
  refine ev_aald (j := 0) X (lr_gd L) rfl rfl (by decide) d_X_setGuards_5 ?_
  refine ev_iconst (v := 0) X d_X_setGuards_6 (by decide) ?_
  refine ev_bipush (v := 16) X d_X_setGuards_7 (by decide) ?_
  refine ev_iconst (v := 0) X d_X_setGuards_9 (by decide) ?_
  refine ev_cV0 X m_X_184 (c_G_setBlock (lo_gd L (show 0 < _ by decide))) (lo_gd L (show 0 < _ by decide)) rfl rfl (by decide) (by decide) d_X_setGuards_10 rfl rfl (Nat.le_of_ble_eq_true rfl) ?_
  refine ev_iconst (v := 0) X d_X_setGuards_13 (by decide) ?_
  refine ev_istore_n X d_X_setGuards_14 (by decide) ?_
  exact loop 4 0 _ _ rfl rfl (by rw [sB_ne (by omega)])
set_option maxHeartbeats 4000000 in
set_option maxRecDepth 100000 in
theorem c_X_setAllGuards {l : Launch} {D : va_G} {ad : Nat → Nat} {ca : Nat → ClassId} {x : va_W} {S : St}  (h0 : PeOK S 13) (h1 : PeOK S 27) : CtX l D ad ca x y_X_setAllGuards b_X_setAllGuards 2 none 4 [.ref (ad 0)] S (sAll S) none := by
  refine ev_ent [some (.ref (ad 0)), none] rfl (by decide) (Nat.le_of_ble_eq_true rfl) rfl gTT (fun p e s m args below meth c A X hr hk => ?_)
  refine ev_iconst (v := 0) X d_X_setAllGuards_0 (by decide) ?_
  refine ev_istore_n X d_X_setAllGuards_1 (by decide) ?_
  refine ev_iload_n X d_X_setAllGuards_2 rfl ?_
  refine ev_iconst (v := 2) X d_X_setAllGuards_3 (by decide) ?_
  refine ev_icmp_ge (tgt := 23) X d_X_setAllGuards_4 (by decide) (fun h4 => ?_) (fun h4 => ?_)
  · exact absurd h4 (by decide)
  · refine ev_aload_n X d_X_setAllGuards_7 rfl ?_
    refine ev_aload_n X d_X_setAllGuards_8 rfl ?_
    refine ev_getR X f_X_29 lo_this rfl d_X_setAllGuards_9 ?_
    refine ev_iload_n X d_X_setAllGuards_12 rfl ?_
    refine ev_aald (j := 0) X lr_pr rfl rfl (by decide) d_X_setAllGuards_13 ?_
    refine ev_cV0 X m_X_96 (c_X_setGuards (lo_pr (show 0 < _ by decide)) h0) lo_this rfl rfl (by decide) (by decide) d_X_setAllGuards_14 rfl rfl (Nat.le_of_ble_eq_true rfl) ?_
    refine ev_iinc (v := 1) X d_X_setAllGuards_17 rfl (by decide) (by decide) ?_
    refine ev_goto (tgt := 2) X d_X_setAllGuards_20 (by decide) ?_
    refine ev_iload_n X d_X_setAllGuards_2 rfl ?_
    refine ev_iconst (v := 2) X d_X_setAllGuards_3 (by decide) ?_
    refine ev_icmp_ge (tgt := 23) X d_X_setAllGuards_4 (by decide) (fun h4 => ?_) (fun h4 => ?_)
    · exact absurd h4 (by decide)
    · refine ev_aload_n X d_X_setAllGuards_7 rfl ?_
      refine ev_aload_n X d_X_setAllGuards_8 rfl ?_
      refine ev_getR X f_X_29 lo_this rfl d_X_setAllGuards_9 ?_
      refine ev_iload_n X d_X_setAllGuards_12 rfl ?_
      refine ev_aald (j := 1) X lr_pr rfl rfl (by decide) d_X_setAllGuards_13 ?_
      refine ev_cV0 X m_X_96 (c_X_setGuards (lo_pr (show 1 < _ by decide)) (show PeOK (sGs S (13 + 14 * 0)) 27 by unfold PeOK; rw [sGs_ne (by omega)]; exact h1)) lo_this rfl rfl (by decide) (by decide) d_X_setAllGuards_14 rfl rfl (Nat.le_of_ble_eq_true rfl) ?_
      refine ev_iinc (v := 2) X d_X_setAllGuards_17 rfl (by decide) (by decide) ?_
      refine ev_goto (tgt := 2) X d_X_setAllGuards_20 (by decide) ?_
      refine ev_iload_n X d_X_setAllGuards_2 rfl ?_
      refine ev_iconst (v := 2) X d_X_setAllGuards_3 (by decide) ?_
      refine ev_icmp_ge (tgt := 23) X d_X_setAllGuards_4 (by decide) (fun h4 => ?_) (fun h4 => ?_)
      · exact ev_vretL X hr hk d_X_setAllGuards_23 (rfl)
      · exact absurd h4 (by decide)
set_option maxHeartbeats 4000000 in
set_option maxRecDepth 100000 in
theorem c_X_runSystem {l : Launch} {D : va_G} {ad : Nat → Nat} {ca : Nat → ClassId} {x : va_W} {S : St} {i : Nat} (L : LyO lyX 41 i 2 (flP i)) : CtX l D ad ca x y_X_runSystem b_X_runSystem 2 none 4 [.ref (ad 0), .ref (ad i)] S (sGs (up2 S i 2 (-1)) i) none := by
  refine ev_ent [some (.ref (ad 0)), some (.ref (ad i))] rfl (by decide) (Nat.le_of_ble_eq_true rfl) rfl gTT (fun p e s m args below meth c A X hr hk => ?_)
  refine ev_aload_n X d_X_runSystem_0 rfl ?_
  refine ev_iconst (v := (-1)) X d_X_runSystem_1 (by decide) ?_
  refine ev_putI X f_X_93 L rfl d_X_runSystem_2 ?_
  refine ev_aload_n X d_X_runSystem_5 rfl ?_
  refine ev_aload_n X d_X_runSystem_6 rfl ?_
  refine ev_cV0 X m_X_96 (c_X_setGuards L (Or.inl (by simp [up2_at]))) lo_this rfl rfl (by decide) (by decide) d_X_runSystem_7 rfl rfl (Nat.le_of_ble_eq_true rfl) ?_
  exact ev_vretL X hr hk d_X_runSystem_10 (rfl)
