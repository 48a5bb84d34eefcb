def adM (h q1 q2 q3 q4 q5 q6 q7 q8 q9 q10 q11 q12 q13 : Nat) : Nat → Nat := fun i => if i = 0 then h else if i = 1 then q1 else if i = 2 then q2 else if i = 3 then q3 else if i = 4 then q4 else if i = 5 then q5 else if i = 6 then q6 else if i = 7 then q7 else if i = 8 then q8 else if i = 9 then q9 else if i = 10 then q10 else if i = 11 then q11 else if i = 12 then q12 else q13
set_option maxHeartbeats 16000000 in
set_option maxRecDepth 100000 in
theorem c_M_init {l : Launch} {D : va_G} {ca : Nat → ClassId} {x : va_W} {h : Nat} {key : Int32} : CtCX l D ca y_M_init b_M_init 3 1 13 354 [.ref h, .int key] (x ++ [(h, .inr (4, [.int 0, .null, .null, .null, .null, .int 0, .null, .null, .null, .null, .null, .null, .null, .null, .null]))]) (fun w' => ∃ ad : Nat → Nat, ad 0 = h ∧ w' = x ++ ly_w lyM 14 ad ca (M0 key) []) := by
  refine ev_entC [some (.ref h), some (.int key), none] rfl (by decide) rfl (Nat.le_of_ble_eq_true rfl) rfl gTT (fun p e s m args below meth c A X hr hk hin hAO => ?_)
  refine ev_aload_n X d_M_init_0 rfl ?_
  refine ev_objInit X oi_M oi_m oi_c d_M_init_1 (Nat.le_of_ble_eq_true rfl) (Nat.le_of_ble_eq_true rfl) ?_
  refine ev_aload_n X d_M_init_4 rfl ?_
  refine ev_sipush (v := 256) X d_M_init_5 (by decide) ?_
  refine ev_newa (N' := 256) X ac_i rfl (by decide) (by decide) (Nat.le_of_ble_eq_true rfl) (Nat.le_of_ble_eq_true rfl) (Nat.le_of_ble_eq_true rfl) d_M_init_8 (fun q1 => ?_)
  refine ev_w (List.append_assoc _ _ _) ?_
  refine ex_putF X hin f_M_7 (fun r h => by cases h; rfl) 0 rfl rfl rfl (Nat.le_of_ble_eq_true rfl) d_M_init_10 ?_
  refine ev_w (w' := x ++ [(h, .inr (4, [.int 0, .ref q1, .null, .null, .null, .int 0, .null, .null, .null, .null, .null, .null, .null, .null, .null])), (q1, .inl (ca 0, 256, .inl (fun _ => 0)))]) rfl ?_
  refine ev_cs (cells' := 1) (slots' := 256) rfl rfl ?_
  refine ev_aload_n X d_M_init_13 rfl ?_
  refine ev_bipush (v := 16) X d_M_init_14 (by decide) ?_
  refine ev_newa (N' := 16) X ac_i rfl (by decide) (by decide) (Nat.le_of_ble_eq_true rfl) (Nat.le_of_ble_eq_true rfl) (Nat.le_of_ble_eq_true rfl) d_M_init_16 (fun q2 => ?_)
  refine ev_w (List.append_assoc _ _ _) ?_
  refine ex_putF X hin f_M_13 (fun r h => by cases h; rfl) 0 rfl rfl rfl (Nat.le_of_ble_eq_true rfl) d_M_init_18 ?_
  refine ev_w (w' := x ++ [(h, .inr (4, [.int 0, .ref q1, .ref q2, .null, .null, .int 0, .null, .null, .null, .null, .null, .null, .null, .null, .null])), (q1, .inl (ca 0, 256, .inl (fun _ => 0))), (q2, .inl (ca 0, 16, .inl (fun _ => 0)))]) rfl ?_
  refine ev_cs (cells' := 2) (slots' := 272) rfl rfl ?_
  refine ev_aload_n X d_M_init_21 rfl ?_
  refine ev_bipush (v := 16) X d_M_init_22 (by decide) ?_
  refine ev_newa (N' := 16) X ac_i rfl (by decide) (by decide) (Nat.le_of_ble_eq_true rfl) (Nat.le_of_ble_eq_true rfl) (Nat.le_of_ble_eq_true rfl) d_M_init_24 (fun q3 => ?_)
  refine ev_w (List.append_assoc _ _ _) ?_
  refine ex_putF X hin f_M_16 (fun r h => by cases h; rfl) 0 rfl rfl rfl (Nat.le_of_ble_eq_true rfl) d_M_init_26 ?_
  refine ev_w (w' := x ++ [(h, .inr (4, [.int 0, .ref q1, .ref q2, .ref q3, .null, .int 0, .null, .null, .null, .null, .null, .null, .null, .null, .null])), (q1, .inl (ca 0, 256, .inl (fun _ => 0))), (q2, .inl (ca 0, 16, .inl (fun _ => 0))), (q3, .inl (ca 0, 16, .inl (fun _ => 0)))]) rfl ?_
  refine ev_cs (cells' := 3) (slots' := 288) rfl rfl ?_
  refine ev_aload_n X d_M_init_29 rfl ?_
  refine ev_iconst (v := 2) X d_M_init_30 (by decide) ?_
  refine ev_newa (N' := 2) X ac_i rfl (by decide) (by decide) (Nat.le_of_ble_eq_true rfl) (Nat.le_of_ble_eq_true rfl) (Nat.le_of_ble_eq_true rfl) d_M_init_31 (fun q4 => ?_)
  refine ev_w (List.append_assoc _ _ _) ?_
  refine ex_putF X hin f_M_19 (fun r h => by cases h; rfl) 0 rfl rfl rfl (Nat.le_of_ble_eq_true rfl) d_M_init_33 ?_
  refine ev_w (w' := x ++ [(h, .inr (4, [.int 0, .ref q1, .ref q2, .ref q3, .ref q4, .int 0, .null, .null, .null, .null, .null, .null, .null, .null, .null])), (q1, .inl (ca 0, 256, .inl (fun _ => 0))), (q2, .inl (ca 0, 16, .inl (fun _ => 0))), (q3, .inl (ca 0, 16, .inl (fun _ => 0))), (q4, .inl (ca 0, 2, .inl (fun _ => 0)))]) rfl ?_
  refine ev_cs (cells' := 4) (slots' := 290) rfl rfl ?_
  refine ev_aload_n X d_M_init_36 rfl ?_
  refine ev_iconst (v := 4) X d_M_init_37 (by decide) ?_
  refine ev_newa (N' := 4) X ac_i rfl (by decide) (by decide) (Nat.le_of_ble_eq_true rfl) (Nat.le_of_ble_eq_true rfl) (Nat.le_of_ble_eq_true rfl) d_M_init_38 (fun q5 => ?_)
  refine ev_w (List.append_assoc _ _ _) ?_
  refine ex_putF X hin f_M_22 (fun r h => by cases h; rfl) 0 rfl rfl rfl (Nat.le_of_ble_eq_true rfl) d_M_init_40 ?_
  refine ev_w (w' := x ++ [(h, .inr (4, [.int 0, .ref q1, .ref q2, .ref q3, .ref q4, .int 0, .ref q5, .null, .null, .null, .null, .null, .null, .null, .null])), (q1, .inl (ca 0, 256, .inl (fun _ => 0))), (q2, .inl (ca 0, 16, .inl (fun _ => 0))), (q3, .inl (ca 0, 16, .inl (fun _ => 0))), (q4, .inl (ca 0, 2, .inl (fun _ => 0))), (q5, .inl (ca 0, 4, .inl (fun _ => 0)))]) rfl ?_
  refine ev_cs (cells' := 5) (slots' := 294) rfl rfl ?_
  refine ev_aload_n X d_M_init_43 rfl ?_
  refine ev_iconst (v := 4) X d_M_init_44 (by decide) ?_
  refine ev_newa (N' := 4) X ac_i rfl (by decide) (by decide) (Nat.le_of_ble_eq_true rfl) (Nat.le_of_ble_eq_true rfl) (Nat.le_of_ble_eq_true rfl) d_M_init_45 (fun q6 => ?_)
  refine ev_w (List.append_assoc _ _ _) ?_
  refine ex_putF X hin f_M_25 (fun r h => by cases h; rfl) 0 rfl rfl rfl (Nat.le_of_ble_eq_true rfl) d_M_init_47 ?_
  refine ev_w (w' := x ++ [(h, .inr (4, [.int 0, .ref q1, .ref q2, .ref q3, .ref q4, .int 0, .ref q5, .ref q6, .null, .null, .null, .null, .null, .null, .null])), (q1, .inl (ca 0, 256, .inl (fun _ => 0))), (q2, .inl (ca 0, 16, .inl (fun _ => 0))), (q3, .inl (ca 0, 16, .inl (fun _ => 0))), (q4, .inl (ca 0, 2, .inl (fun _ => 0))), (q5, .inl (ca 0, 4, .inl (fun _ => 0))), (q6, .inl (ca 0, 4, .inl (fun _ => 0)))]) rfl ?_
  refine ev_cs (cells' := 6) (slots' := 298) rfl rfl ?_
  refine ev_aload_n X d_M_init_50 rfl ?_
  refine ev_iconst (v := 4) X d_M_init_51 (by decide) ?_
  refine ev_newa (N' := 4) X ac_i rfl (by decide) (by decide) (Nat.le_of_ble_eq_true rfl) (Nat.le_of_ble_eq_true rfl) (Nat.le_of_ble_eq_true rfl) d_M_init_52 (fun q7 => ?_)
  refine ev_w (List.append_assoc _ _ _) ?_
  refine ex_putF X hin f_M_28 (fun r h => by cases h; rfl) 0 rfl rfl rfl (Nat.le_of_ble_eq_true rfl) d_M_init_54 ?_
  refine ev_w (w' := x ++ [(h, .inr (4, [.int 0, .ref q1, .ref q2, .ref q3, .ref q4, .int 0, .ref q5, .ref q6, .ref q7, .null, .null, .null, .null, .null, .null])), (q1, .inl (ca 0, 256, .inl (fun _ => 0))), (q2, .inl (ca 0, 16, .inl (fun _ => 0))), (q3, .inl (ca 0, 16, .inl (fun _ => 0))), (q4, .inl (ca 0, 2, .inl (fun _ => 0))), (q5, .inl (ca 0, 4, .inl (fun _ => 0))), (q6, .inl (ca 0, 4, .inl (fun _ => 0))), (q7, .inl (ca 0, 4, .inl (fun _ => 0)))]) rfl ?_
  refine ev_cs (cells' := 7) (slots' := 302) rfl rfl ?_
  refine ev_aload_n X d_M_init_57 rfl ?_
  refine ev_iconst (v := 4) X d_M_init_58 (by decide) ?_
  refine ev_newa (N' := 4) X ac_i rfl (by decide) (by decide) (Nat.le_of_ble_eq_true rfl) (Nat.le_of_ble_eq_true rfl) (Nat.le_of_ble_eq_true rfl) d_M_init_59 (fun q8 => ?_)
  refine ev_w (List.append_assoc _ _ _) ?_
  refine ex_putF X hin f_M_31 (fun r h => by cases h; rfl) 0 rfl rfl rfl (Nat.le_of_ble_eq_true rfl) d_M_init_61 ?_
  refine ev_w (w' := x ++ [(h, .inr (4, [.int 0, .ref q1, .ref q2, .ref q3, .ref q4, .int 0, .ref q5, .ref q6, .ref q7, .ref q8, .null, .null, .null, .null, .null])), (q1, .inl (ca 0, 256, .inl (fun _ => 0))), (q2, .inl (ca 0, 16, .inl (fun _ => 0))), (q3, .inl (ca 0, 16, .inl (fun _ => 0))), (q4, .inl (ca 0, 2, .inl (fun _ => 0))), (q5, .inl (ca 0, 4, .inl (fun _ => 0))), (q6, .inl (ca 0, 4, .inl (fun _ => 0))), (q7, .inl (ca 0, 4, .inl (fun _ => 0))), (q8, .inl (ca 0, 4, .inl (fun _ => 0)))]) rfl ?_
  refine ev_cs (cells' := 8) (slots' := 306) rfl rfl ?_
  refine ev_aload_n X d_M_init_64 rfl ?_
  refine ev_iconst (v := 4) X d_M_init_65 (by decide) ?_
  refine ev_newa (N' := 4) X ac_i rfl (by decide) (by decide) (Nat.le_of_ble_eq_true rfl) (Nat.le_of_ble_eq_true rfl) (Nat.le_of_ble_eq_true rfl) d_M_init_66 (fun q9 => ?_)
  refine ev_w (List.append_assoc _ _ _) ?_
  refine ex_putF X hin f_M_34 (fun r h => by cases h; rfl) 0 rfl rfl rfl (Nat.le_of_ble_eq_true rfl) d_M_init_68 ?_
  refine ev_w (w' := x ++ [(h, .inr (4, [.int 0, .ref q1, .ref q2, .ref q3, .ref q4, .int 0, .ref q5, .ref q6, .ref q7, .ref q8, .ref q9, .null, .null, .null, .null])), (q1, .inl (ca 0, 256, .inl (fun _ => 0))), (q2, .inl (ca 0, 16, .inl (fun _ => 0))), (q3, .inl (ca 0, 16, .inl (fun _ => 0))), (q4, .inl (ca 0, 2, .inl (fun _ => 0))), (q5, .inl (ca 0, 4, .inl (fun _ => 0))), (q6, .inl (ca 0, 4, .inl (fun _ => 0))), (q7, .inl (ca 0, 4, .inl (fun _ => 0))), (q8, .inl (ca 0, 4, .inl (fun _ => 0))), (q9, .inl (ca 0, 4, .inl (fun _ => 0)))]) rfl ?_
  refine ev_cs (cells' := 9) (slots' := 310) rfl rfl ?_
  refine ev_aload_n X d_M_init_71 rfl ?_
  refine ev_iconst (v := 4) X d_M_init_72 (by decide) ?_
  refine ev_newa (N' := 4) X ac_i rfl (by decide) (by decide) (Nat.le_of_ble_eq_true rfl) (Nat.le_of_ble_eq_true rfl) (Nat.le_of_ble_eq_true rfl) d_M_init_73 (fun q10 => ?_)
  refine ev_w (List.append_assoc _ _ _) ?_
  refine ex_putF X hin f_M_37 (fun r h => by cases h; rfl) 0 rfl rfl rfl (Nat.le_of_ble_eq_true rfl) d_M_init_75 ?_
  refine ev_w (w' := x ++ [(h, .inr (4, [.int 0, .ref q1, .ref q2, .ref q3, .ref q4, .int 0, .ref q5, .ref q6, .ref q7, .ref q8, .ref q9, .ref q10, .null, .null, .null])), (q1, .inl (ca 0, 256, .inl (fun _ => 0))), (q2, .inl (ca 0, 16, .inl (fun _ => 0))), (q3, .inl (ca 0, 16, .inl (fun _ => 0))), (q4, .inl (ca 0, 2, .inl (fun _ => 0))), (q5, .inl (ca 0, 4, .inl (fun _ => 0))), (q6, .inl (ca 0, 4, .inl (fun _ => 0))), (q7, .inl (ca 0, 4, .inl (fun _ => 0))), (q8, .inl (ca 0, 4, .inl (fun _ => 0))), (q9, .inl (ca 0, 4, .inl (fun _ => 0))), (q10, .inl (ca 0, 4, .inl (fun _ => 0)))]) rfl ?_
  refine ev_cs (cells' := 10) (slots' := 314) rfl rfl ?_
  refine ev_aload_n X d_M_init_78 rfl ?_
  refine ev_iconst (v := 4) X d_M_init_79 (by decide) ?_
  refine ev_newa (N' := 4) X ac_i rfl (by decide) (by decide) (Nat.le_of_ble_eq_true rfl) (Nat.le_of_ble_eq_true rfl) (Nat.le_of_ble_eq_true rfl) d_M_init_80 (fun q11 => ?_)
  refine ev_w (List.append_assoc _ _ _) ?_
  refine ex_putF X hin f_M_40 (fun r h => by cases h; rfl) 0 rfl rfl rfl (Nat.le_of_ble_eq_true rfl) d_M_init_82 ?_
  refine ev_w (w' := x ++ [(h, .inr (4, [.int 0, .ref q1, .ref q2, .ref q3, .ref q4, .int 0, .ref q5, .ref q6, .ref q7, .ref q8, .ref q9, .ref q10, .ref q11, .null, .null])), (q1, .inl (ca 0, 256, .inl (fun _ => 0))), (q2, .inl (ca 0, 16, .inl (fun _ => 0))), (q3, .inl (ca 0, 16, .inl (fun _ => 0))), (q4, .inl (ca 0, 2, .inl (fun _ => 0))), (q5, .inl (ca 0, 4, .inl (fun _ => 0))), (q6, .inl (ca 0, 4, .inl (fun _ => 0))), (q7, .inl (ca 0, 4, .inl (fun _ => 0))), (q8, .inl (ca 0, 4, .inl (fun _ => 0))), (q9, .inl (ca 0, 4, .inl (fun _ => 0))), (q10, .inl (ca 0, 4, .inl (fun _ => 0))), (q11, .inl (ca 0, 4, .inl (fun _ => 0)))]) rfl ?_
  refine ev_cs (cells' := 11) (slots' := 318) rfl rfl ?_
  refine ev_aload_n X d_M_init_85 rfl ?_
  refine ev_iconst (v := 4) X d_M_init_86 (by decide) ?_
  refine ev_newa (N' := 4) X ac_i rfl (by decide) (by decide) (Nat.le_of_ble_eq_true rfl) (Nat.le_of_ble_eq_true rfl) (Nat.le_of_ble_eq_true rfl) d_M_init_87 (fun q12 => ?_)
  refine ev_w (List.append_assoc _ _ _) ?_
  refine ex_putF X hin f_M_43 (fun r h => by cases h; rfl) 0 rfl rfl rfl (Nat.le_of_ble_eq_true rfl) d_M_init_89 ?_
  refine ev_w (w' := x ++ [(h, .inr (4, [.int 0, .ref q1, .ref q2, .ref q3, .ref q4, .int 0, .ref q5, .ref q6, .ref q7, .ref q8, .ref q9, .ref q10, .ref q11, .ref q12, .null])), (q1, .inl (ca 0, 256, .inl (fun _ => 0))), (q2, .inl (ca 0, 16, .inl (fun _ => 0))), (q3, .inl (ca 0, 16, .inl (fun _ => 0))), (q4, .inl (ca 0, 2, .inl (fun _ => 0))), (q5, .inl (ca 0, 4, .inl (fun _ => 0))), (q6, .inl (ca 0, 4, .inl (fun _ => 0))), (q7, .inl (ca 0, 4, .inl (fun _ => 0))), (q8, .inl (ca 0, 4, .inl (fun _ => 0))), (q9, .inl (ca 0, 4, .inl (fun _ => 0))), (q10, .inl (ca 0, 4, .inl (fun _ => 0))), (q11, .inl (ca 0, 4, .inl (fun _ => 0))), (q12, .inl (ca 0, 4, .inl (fun _ => 0)))]) rfl ?_
  refine ev_cs (cells' := 12) (slots' := 322) rfl rfl ?_
  refine ev_aload_n X d_M_init_92 rfl ?_
  refine ev_bipush (v := 32) X d_M_init_93 (by decide) ?_
  refine ev_newa (N' := 32) X ac_i rfl (by decide) (by decide) (Nat.le_of_ble_eq_true rfl) (Nat.le_of_ble_eq_true rfl) (Nat.le_of_ble_eq_true rfl) d_M_init_95 (fun q13 => ?_)
  refine ev_w (List.append_assoc _ _ _) ?_
  refine ex_putF X hin f_M_46 (fun r h => by cases h; rfl) 0 rfl rfl rfl (Nat.le_of_ble_eq_true rfl) d_M_init_97 ?_
  refine ev_w (w' := x ++ [(h, .inr (4, [.int 0, .ref q1, .ref q2, .ref q3, .ref q4, .int 0, .ref q5, .ref q6, .ref q7, .ref q8, .ref q9, .ref q10, .ref q11, .ref q12, .ref q13])), (q1, .inl (ca 0, 256, .inl (fun _ => 0))), (q2, .inl (ca 0, 16, .inl (fun _ => 0))), (q3, .inl (ca 0, 16, .inl (fun _ => 0))), (q4, .inl (ca 0, 2, .inl (fun _ => 0))), (q5, .inl (ca 0, 4, .inl (fun _ => 0))), (q6, .inl (ca 0, 4, .inl (fun _ => 0))), (q7, .inl (ca 0, 4, .inl (fun _ => 0))), (q8, .inl (ca 0, 4, .inl (fun _ => 0))), (q9, .inl (ca 0, 4, .inl (fun _ => 0))), (q10, .inl (ca 0, 4, .inl (fun _ => 0))), (q11, .inl (ca 0, 4, .inl (fun _ => 0))), (q12, .inl (ca 0, 4, .inl (fun _ => 0))), (q13, .inl (ca 0, 32, .inl (fun _ => 0)))]) rfl ?_
  refine ev_cs (cells' := 13) (slots' := 354) rfl rfl ?_
  refine ev_aload_n X d_M_init_100 rfl ?_
  refine ev_iload_n X d_M_init_101 rfl ?_
  refine ex_putF X hin f_M_49 (fun r h => by cases h; rfl) 0 rfl rfl rfl (Nat.le_of_ble_eq_true rfl) d_M_init_102 ?_
  refine ev_w (w' := x ++ [(h, .inr (4, [.int key, .ref q1, .ref q2, .ref q3, .ref q4, .int 0, .ref q5, .ref q6, .ref q7, .ref q8, .ref q9, .ref q10, .ref q11, .ref q12, .ref q13])), (q1, .inl (ca 0, 256, .inl (fun _ => 0))), (q2, .inl (ca 0, 16, .inl (ownF 0))), (q3, .inl (ca 0, 16, .inl (fun _ => 0))), (q4, .inl (ca 0, 2, .inl (fun _ => 0))), (q5, .inl (ca 0, 4, .inl (fun _ => 0))), (q6, .inl (ca 0, 4, .inl (fun _ => 0))), (q7, .inl (ca 0, 4, .inl (fun _ => 0))), (q8, .inl (ca 0, 4, .inl (fun _ => 0))), (q9, .inl (ca 0, 4, .inl (fun _ => 0))), (q10, .inl (ca 0, 4, .inl (fun _ => 0))), (q11, .inl (ca 0, 4, .inl (fun _ => 0))), (q12, .inl (ca 0, 4, .inl (fun _ => 0))), (q13, .inl (ca 0, 32, .inl (fun _ => 0)))]) (by rw [← ownF_0]; rfl) ?_
  refine ev_iconst (v := 0) X d_M_init_105 (by decide) ?_
  refine ev_istore_n X d_M_init_106 (by decide) ?_
  have loop : EV p l e (rmc 1 13 354) s m args below meth c 13 354 (MQ below (QC clX D A (fun w' => ∃ ad : Nat → Nat, ad 0 = h ∧ w' = x ++ ly_w lyM 14 ad ca (M0 key) [])) args s 13 354 A) 3 D clX A s.heap (x ++ [(h, .inr (4, [.int key, .ref q1, .ref q2, .ref q3, .ref q4, .int 0, .ref q5, .ref q6, .ref q7, .ref q8, .ref q9, .ref q10, .ref q11, .ref q12, .ref q13])), (q1, .inl (ca 0, 256, .inl (fun _ => 0))), (q2, .inl (ca 0, 16, .inl (ownF 16))), (q3, .inl (ca 0, 16, .inl (fun _ => 0))), (q4, .inl (ca 0, 2, .inl (fun _ => 0))), (q5, .inl (ca 0, 4, .inl (fun _ => 0))), (q6, .inl (ca 0, 4, .inl (fun _ => 0))), (q7, .inl (ca 0, 4, .inl (fun _ => 0))), (q8, .inl (ca 0, 4, .inl (fun _ => 0))), (q9, .inl (ca 0, 4, .inl (fun _ => 0))), (q10, .inl (ca 0, 4, .inl (fun _ => 0))), (q11, .inl (ca 0, 4, .inl (fun _ => 0))), (q12, .inl (ca 0, 4, .inl (fun _ => 0))), (q13, .inl (ca 0, 32, .inl (fun _ => 0)))]) 134 [some (.ref h), some (.int key), some (.int (nI 16))] [] → ∀ (r k : Nat), k + r = 16 → EV p l e (rmc 1 13 354) s m args below meth c 13 354 (MQ below (QC clX D A (fun w' => ∃ ad : Nat → Nat, ad 0 = h ∧ w' = x ++ ly_w lyM 14 ad ca (M0 key) [])) args s 13 354 A) 3 D clX A s.heap (x ++ [(h, .inr (4, [.int key, .ref q1, .ref q2, .ref q3, .ref q4, .int 0, .ref q5, .ref q6, .ref q7, .ref q8, .ref q9, .ref q10, .ref q11, .ref q12, .ref q13])), (q1, .inl (ca 0, 256, .inl (fun _ => 0))), (q2, .inl (ca 0, 16, .inl (ownF k))), (q3, .inl (ca 0, 16, .inl (fun _ => 0))), (q4, .inl (ca 0, 2, .inl (fun _ => 0))), (q5, .inl (ca 0, 4, .inl (fun _ => 0))), (q6, .inl (ca 0, 4, .inl (fun _ => 0))), (q7, .inl (ca 0, 4, .inl (fun _ => 0))), (q8, .inl (ca 0, 4, .inl (fun _ => 0))), (q9, .inl (ca 0, 4, .inl (fun _ => 0))), (q10, .inl (ca 0, 4, .inl (fun _ => 0))), (q11, .inl (ca 0, 4, .inl (fun _ => 0))), (q12, .inl (ca 0, 4, .inl (fun _ => 0))), (q13, .inl (ca 0, 32, .inl (fun _ => 0)))]) 107 [some (.ref h), some (.int key), some (.int (nI k))] [] := by
    intro go r
    induction r with
    | zero =>
      intro k q1'
      have e16 : k = 16 := by omega
      subst e16
      refine ev_iload_n X d_M_init_107 rfl ?_
      refine ev_bipush (v := 16) X d_M_init_108 (by decide) ?_
      refine ev_icmp_ge (tgt := 134) X d_M_init_110 (by decide) (fun h38 => ?_) (fun h38 => ?_)
      · exact go
      · exact absurd (by decide) h38
    | succ r ih =>
      intro k q1'
      refine ev_iload_n X d_M_init_107 rfl ?_
      refine ev_bipush (v := 16) X d_M_init_108 (by decide) ?_
      refine ev_icmp_ge (tgt := 134) X d_M_init_110 (by decide) (fun h38 => ?_) (fun h38 => ?_)
      · exact absurd h38 (nI_ge (b := 16) (by omega) (by decide))
      · refine ev_aload_n X d_M_init_113 rfl ?_
        refine ex_get X f_M_13 0 rfl rfl d_M_init_114 ?_
        refine ev_iload_n X d_M_init_117 rfl ?_
        refine ev_iload_n X d_M_init_118 rfl ?_
        have nx : ∀ v : Int32, ((1 ≤ k ∧ v = 1) ∨ (k = 0 ∧ v = 0)) → EV p l e (rmc 1 13 354) s m args below meth c 13 354 (MQ below (QC clX D A (fun w' => ∃ ad : Nat → Nat, ad 0 = h ∧ w' = x ++ ly_w lyM 14 ad ca (M0 key) [])) args s 13 354 A) 3 D clX A s.heap (x ++ [(h, .inr (4, [.int key, .ref q1, .ref q2, .ref q3, .ref q4, .int 0, .ref q5, .ref q6, .ref q7, .ref q8, .ref q9, .ref q10, .ref q11, .ref q12, .ref q13])), (q1, .inl (ca 0, 256, .inl (fun _ => 0))), (q2, .inl (ca 0, 16, .inl (ownF k))), (q3, .inl (ca 0, 16, .inl (fun _ => 0))), (q4, .inl (ca 0, 2, .inl (fun _ => 0))), (q5, .inl (ca 0, 4, .inl (fun _ => 0))), (q6, .inl (ca 0, 4, .inl (fun _ => 0))), (q7, .inl (ca 0, 4, .inl (fun _ => 0))), (q8, .inl (ca 0, 4, .inl (fun _ => 0))), (q9, .inl (ca 0, 4, .inl (fun _ => 0))), (q10, .inl (ca 0, 4, .inl (fun _ => 0))), (q11, .inl (ca 0, 4, .inl (fun _ => 0))), (q12, .inl (ca 0, 4, .inl (fun _ => 0))), (q13, .inl (ca 0, 32, .inl (fun _ => 0)))]) 127 [some (.ref h), some (.int key), some (.int (nI k))] [.int v, .int (nI k), .ref q2] := by
          intro v hv
          refine ex_iast (j := k) X 2 rfl rfl rfl (by omega) (by decide) d_M_init_127 ?_
          refine ev_w (w' := x ++ [(h, .inr (4, [.int key, .ref q1, .ref q2, .ref q3, .ref q4, .int 0, .ref q5, .ref q6, .ref q7, .ref q8, .ref q9, .ref q10, .ref q11, .ref q12, .ref q13])), (q1, .inl (ca 0, 256, .inl (fun _ => 0))), (q2, .inl (ca 0, 16, .inl (ownF (k + 1)))), (q3, .inl (ca 0, 16, .inl (fun _ => 0))), (q4, .inl (ca 0, 2, .inl (fun _ => 0))), (q5, .inl (ca 0, 4, .inl (fun _ => 0))), (q6, .inl (ca 0, 4, .inl (fun _ => 0))), (q7, .inl (ca 0, 4, .inl (fun _ => 0))), (q8, .inl (ca 0, 4, .inl (fun _ => 0))), (q9, .inl (ca 0, 4, .inl (fun _ => 0))), (q10, .inl (ca 0, 4, .inl (fun _ => 0))), (q11, .inl (ca 0, 4, .inl (fun _ => 0))), (q12, .inl (ca 0, 4, .inl (fun _ => 0))), (q13, .inl (ca 0, 32, .inl (fun _ => 0)))]) (by rw [← ownF_up hv]; rfl) ?_
          refine ev_iinc (v := nI (k + 1)) X d_M_init_128 rfl (nI_1 k) (by decide) ?_
          refine ev_goto (tgt := 107) X d_M_init_131 (by decide) ?_
          exact ih (k + 1) (by omega)
        refine ev_if_ne (tgt := 126) X d_M_init_119 (by decide) (fun h119 => ?_) (fun h119 => ?_)
        · refine ev_iconst (v := 1) X d_M_init_126 (by decide) ?_
          exact nx 1 (Or.inl ⟨by have := nI_nz h119; omega, rfl⟩)
        · refine ev_iconst (v := 0) X d_M_init_122 (by decide) ?_
          refine ev_goto (tgt := 127) X d_M_init_123 (by decide) ?_
          exact nx 0 (Or.inr ⟨nI_z h119 (by omega), rfl⟩)
  refine loop ?_ 16 0 rfl
  refine ev_aload_n X d_M_init_134 rfl ?_
  refine ex_get X f_M_19 0 rfl rfl d_M_init_135 ?_
  refine ev_iconst (v := 0) X d_M_init_138 (by decide) ?_
  refine ev_iconst (v := (-1)) X d_M_init_139 (by decide) ?_
  refine ex_iast (j := 0) X 4 rfl rfl rfl (by decide) (by decide) d_M_init_140 ?_
  refine ev_aload_n X d_M_init_141 rfl ?_
  refine ex_get X f_M_19 0 rfl rfl d_M_init_142 ?_
  refine ev_iconst (v := 1) X d_M_init_145 (by decide) ?_
  refine ev_iconst (v := (-1)) X d_M_init_146 (by decide) ?_
  refine ex_iast (j := 1) X 4 rfl rfl rfl (by decide) (by decide) d_M_init_147 ?_
  refine ev_w (w' := x ++ ly_w lyM 14 (adM h q1 q2 q3 q4 q5 q6 q7 q8 q9 q10 q11 q12 q13) ca (M0 key) []) rfl ?_
  exact ev_vretC X hr hk d_M_init_148 ⟨_, rfl, rfl⟩
