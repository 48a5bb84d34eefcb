def ownF (k : Nat) : Nat → Int32 := fun j => if 1 ≤ j ∧ j < k then 1 else 0
theorem ownF_1 : upd (fun _ => 0) 0 0 = ownF 1 := by
  funext j
  unfold upd ownF
  rw [if_neg (show ¬ (1 ≤ j ∧ j < 1) by omega)]
  split <;> rfl
theorem ownF_0 : (fun _ => 0) = ownF 0 := by
  funext j
  unfold ownF
  rw [if_neg (show ¬ (1 ≤ j ∧ j < 0) by omega)]
theorem ownF_up {k : Nat} {v : Int32} (h : (1 ≤ k ∧ v = 1) ∨ (k = 0 ∧ v = 0)) : upd (ownF k) k v = ownF (k + 1) := by
  funext j
  unfold upd ownF
  by_cases hj : j = k
  · rw [if_pos hj]
    rcases h with ⟨h1, h2⟩ | ⟨h1, h2⟩
    · rw [if_pos (show 1 ≤ j ∧ j < k + 1 by omega), h2]
    · rw [if_neg (show ¬ (1 ≤ j ∧ j < k + 1) by omega), h2]
  · rw [if_neg hj]
    by_cases h2 : 1 ≤ j ∧ j < k
    · rw [if_pos h2, if_pos (show 1 ≤ j ∧ j < k + 1 by omega)]
    · rw [if_neg h2, if_neg (show ¬ (1 ≤ j ∧ j < k + 1) by omega)]
def S0 (key : Int32) : St := fun c => if c = 0 then (fun j => if j = 0 then key else 0) else if c = 2 then ownF 16 else if c = 4 then (fun j => if j = 5 then -1 else 0) else if c = 6 then (fun j => if j = 5 then -1 else 0) else if c = 8 then (fun j => if j = 5 then -1 else 0) else if c = 10 then (fun j => if j = 5 then -1 else 0) else if c = 13 then (fun j => if j = 2 then -1 else 0) else if c = 27 then (fun j => if j = 2 then -1 else 0) else (fun _ => 0)
def M0 (key : Int32) : St := fun c => if c = 0 then (fun j => if j = 0 then key else 0) else if c = 2 then ownF 16 else if c = 4 then upd (upd (fun _ => 0) 0 (-1)) 1 (-1) else (fun _ => 0)
def adX (h q1 q2 q3 e0 r0 e1 r1 e2 r2 e3 r3 q12 p0 : Nat) (a0 : Nat → Nat) (p1 : Nat) (a1 : Nat → Nat) : Nat → Nat := fun i => if i = 0 then h else if i = 1 then q1 else if i = 2 then q2 else if i = 3 then q3 else if i = 4 then e0 else if i = 5 then r0 else if i = 6 then e1 else if i = 7 then r1 else if i = 8 then e2 else if i = 9 then r2 else if i = 10 then e3 else if i = 11 then r3 else if i = 12 then q12 else if i = 13 then p0 else if i < 27 then a0 (i - 14) else if i = 27 then p1 else a1 (i - 28)
set_option maxHeartbeats 16000000 in
set_option maxRecDepth 100000 in
theorem c_X_init {l : Launch} {D : va_G} {ca : Nat → ClassId} {h : Nat} {key : Int32} : CtCX l D ca y_X_init b_X_init 3 5 40 456 [.ref h, .int key] [(h, .inr (0, [.int 0, .null, .null, .null, .null, .int 0]))] (fun w' => ∃ ad : Nat → Nat, ad 0 = h ∧ w' = ly_w lyX 41 ad ca (sAll (S0 key)) []) := by
  refine ev_entC [some (.ref h), some (.int key), none] rfl (by decide) rfl (Nat.le_of_ble_eq_true rfl) rfl gTT (fun p e s m args below meth c A X hr hk hin hAO => ?_)
  refine ev_aload_n X d_X_init_0 rfl ?_
  refine ev_objInit X oi_X oi_m oi_c d_X_init_1 (Nat.le_of_ble_eq_true rfl) (Nat.le_of_ble_eq_true rfl) ?_
  refine ev_aload_n X d_X_init_4 rfl ?_
  refine ev_iload_n X d_X_init_5 rfl ?_
  refine ev_putF X hin f_X_7 (fun r h => by cases h; rfl) 0 rfl rfl rfl (Nat.le_of_ble_eq_true rfl) d_X_init_6 ?_
  refine ev_aload_n X d_X_init_9 rfl ?_
  refine ev_sipush (v := 256) X d_X_init_10 (by decide) ?_
  refine ev_newa (N' := 256) X ac_i rfl (by decide) (by decide) (Nat.le_of_ble_eq_true rfl) (Nat.le_of_ble_eq_true rfl) (Nat.le_of_ble_eq_true rfl) d_X_init_13 (fun q1 => ?_)
  refine ev_putF X hin f_X_13 (fun r h => by cases h; rfl) 0 rfl rfl rfl (Nat.le_of_ble_eq_true rfl) d_X_init_15 ?_
  refine ev_aload_n X d_X_init_18 rfl ?_
  refine ev_bipush (v := 16) X d_X_init_19 (by decide) ?_
  refine ev_newa (N' := 16) X ac_i rfl (by decide) (by decide) (Nat.le_of_ble_eq_true rfl) (Nat.le_of_ble_eq_true rfl) (Nat.le_of_ble_eq_true rfl) d_X_init_21 (fun q2 => ?_)
  refine ev_putF X hin f_X_17 (fun r h => by cases h; rfl) 0 rfl rfl rfl (Nat.le_of_ble_eq_true rfl) d_X_init_23 ?_
  refine ev_aload_n X d_X_init_26 rfl ?_
  refine ev_get X f_X_17 0 rfl rfl d_X_init_27 ?_
  refine ev_iconst (v := 0) X d_X_init_30 (by decide) ?_
  refine ev_iconst (v := 0) X d_X_init_31 (by decide) ?_
  refine ev_iastC (j := 0) X 2 rfl rfl rfl (by decide) (by decide) d_X_init_32 ?_
  refine ev_w (w' := [(h, .inr (0, [.int key, .ref q1, .ref q2, .null, .null, .int 0])), (q1, .inl (ca 0, 256, .inl (fun _ => 0))), (q2, .inl (ca 0, 16, .inl (ownF 1)))]) (by rw [← ownF_1]; rfl) ?_
  refine ev_cs (cells' := 2) (slots' := 272) rfl rfl ?_
  refine ev_iconst (v := 1) X d_X_init_33 (by decide) ?_
  refine ev_istore_n X d_X_init_34 (by decide) ?_
  have loop : EV p l e (rmc 5 40 456) s m args below meth c 2 272 (MQ below (QC clX D A (fun w' => ∃ ad : Nat → Nat, ad 0 = h ∧ w' = ly_w lyX 41 ad ca (sAll (S0 key)) [])) args s 40 456 A) 3 D clX A s.heap [(h, .inr (0, [.int key, .ref q1, .ref q2, .null, .null, .int 0])), (q1, .inl (ca 0, 256, .inl (fun _ => 0))), (q2, .inl (ca 0, 16, .inl (ownF 16)))] 54 [some (.ref h), some (.int key), some (.int (nI 16))] [] → ∀ (r k : Nat), k + r = 16 → 1 ≤ k → EV p l e (rmc 5 40 456) s m args below meth c 2 272 (MQ below (QC clX D A (fun w' => ∃ ad : Nat → Nat, ad 0 = h ∧ w' = ly_w lyX 41 ad ca (sAll (S0 key)) [])) args s 40 456 A) 3 D clX A s.heap [(h, .inr (0, [.int key, .ref q1, .ref q2, .null, .null, .int 0])), (q1, .inl (ca 0, 256, .inl (fun _ => 0))), (q2, .inl (ca 0, 16, .inl (ownF k)))] 35 [some (.ref h), some (.int key), some (.int (nI k))] [] := by
    intro go r
    induction r with
    | zero =>
      intro k q1' q2'
      have e16 : k = 16 := by omega
      subst e16
      refine ev_iload_n X d_X_init_35 rfl ?_
      refine ev_bipush (v := 16) X d_X_init_36 (by decide) ?_
      refine ev_icmp_ge (tgt := 54) X d_X_init_38 (by decide) (fun h38 => ?_) (fun h38 => ?_)
      · exact go
      · exact absurd (by decide) h38
    | succ r ih =>
      intro k q1' q2'
      refine ev_iload_n X d_X_init_35 rfl ?_
      refine ev_bipush (v := 16) X d_X_init_36 (by decide) ?_
      refine ev_icmp_ge (tgt := 54) X d_X_init_38 (by decide) (fun h38 => ?_) (fun h38 => ?_)
      · exact absurd h38 (nI_ge (b := 16) (by omega) (by decide))
      · refine ev_aload_n X d_X_init_41 rfl ?_
        refine ev_get X f_X_17 0 rfl rfl d_X_init_42 ?_
        refine ev_iload_n X d_X_init_45 rfl ?_
        refine ev_iconst (v := 1) X d_X_init_46 (by decide) ?_
        refine ev_iastC (j := k) X 2 rfl rfl rfl (by omega) (by decide) d_X_init_47 ?_
        refine ev_w (w' := [(h, .inr (0, [.int key, .ref q1, .ref q2, .null, .null, .int 0])), (q1, .inl (ca 0, 256, .inl (fun _ => 0))), (q2, .inl (ca 0, 16, .inl (ownF (k + 1))))]) (by rw [← ownF_up (v := 1) (Or.inl ⟨q2', rfl⟩)]; rfl) ?_
        refine ev_iinc (v := nI (k + 1)) X d_X_init_48 rfl (nI_1 k) (by decide) ?_
        refine ev_goto (tgt := 35) X d_X_init_51 (by decide) ?_
        exact ih (k + 1) (by omega) (by omega)
  refine loop ?_ 15 1 rfl (by decide)
  refine ev_aload_n X d_X_init_54 rfl ?_
  refine ev_iconst (v := 4) X d_X_init_55 (by decide) ?_
  refine ev_newq (N' := 4) (t0 := 2) X cl_X_20 hAO.2.1 rfl (by decide) (by decide) (Nat.le_of_ble_eq_true rfl) (Nat.le_of_ble_eq_true rfl) (Nat.le_of_ble_eq_true rfl) d_X_init_56 (fun q3 => ?_)
  refine ev_putF X hin f_X_22 (fun r h => by cases h; rfl) 0 rfl rfl rfl (Nat.le_of_ble_eq_true rfl) d_X_init_59 ?_
  refine ev_w (w' := [(h, .inr (0, [.int key, .ref q1, .ref q2, .null, .ref q3, .int 0])), (q1, .inl (ca 0, 256, .inl (fun _ => 0))), (q2, .inl (ca 0, 16, .inl (ownF 16))), (q3, .inl (ca 2, 4, rf (fun _ => none)))]) rfl ?_
  refine ev_cs (cells' := 3) (slots' := 276) rfl rfl ?_
  refine ev_iconst (v := 0) X d_X_init_62 (by decide) ?_
  refine ev_istore_n X d_X_init_63 (by decide) ?_
  refine ev_iload_n X d_X_init_64 rfl ?_
  refine ev_iconst (v := 4) X d_X_init_65 (by decide) ?_
  refine ev_icmp_ge (tgt := 88) X d_X_init_66 (by decide) (fun h66 => ?_) (fun h66 => ?_)
  · exact absurd h66 (by decide)
  refine ev_aload_n X d_X_init_69 rfl ?_
  refine ev_get X f_X_22 0 rfl rfl d_X_init_70 ?_
  refine ev_iload_n X d_X_init_73 rfl ?_
  refine ev_new (ci := 3) (fs := [.null, .int 0, .int 0, .int 0, .int 0, .int 0, .int 0, .int 0, .int 0]) X cl_X_20 in_E iz_E rfl u_E t_E t_E_ok (by decide) (Nat.le_of_ble_eq_true rfl) (Nat.le_of_ble_eq_true rfl) d_X_init_74 (fun e0 => ?_)
  refine ev_dup X d_X_init_77 rfl ?_
  refine ev_callI X hAO m_X_26 c_E_init (by decide) (by decide) d_X_init_78 rfl rfl (Nat.le_of_ble_eq_true rfl) (fun w' hw' => ?_)
  obtain ⟨r0, rfl⟩ := hw'
  refine ev_w (w' := [(h, .inr (0, [.int key, .ref q1, .ref q2, .null, .ref q3, .int 0])), (q1, .inl (ca 0, 256, .inl (fun _ => 0))), (q2, .inl (ca 0, 16, .inl (ownF 16))), (q3, .inl (ca 2, 4, rf (fun _ => none))), (e0, .inr (3, [.ref r0, .int 0, .int 0, .int 0, .int 0, .int (-1), .int 0, .int 0, .int 0])), (r0, .inl (ca 0, 8, .inl (fun _ => 0)))]) rfl ?_
  refine ev_cs (cells' := 5) (slots' := 293) rfl rfl ?_
  refine ev_astq (j := 0) X 3 2 4 3 rfl rfl rfl rfl rfl (by decide) (by decide) d_X_init_81 ?_
  refine ev_w (w' := [(h, .inr (0, [.int key, .ref q1, .ref q2, .null, .ref q3, .int 0])), (q1, .inl (ca 0, 256, .inl (fun _ => 0))), (q2, .inl (ca 0, 16, .inl (ownF 16))), (q3, .inl (ca 2, 4, rf (va_up (fun _ => none) 0 (some e0)))), (e0, .inr (3, [.ref r0, .int 0, .int 0, .int 0, .int 0, .int (-1), .int 0, .int 0, .int 0])), (r0, .inl (ca 0, 8, .inl (fun _ => 0)))]) rfl ?_
  refine ev_iinc (v := 1) X d_X_init_82 rfl (by decide) (by decide) ?_
  refine ev_goto (tgt := 64) X d_X_init_85 (by decide) ?_
  refine ev_iload_n X d_X_init_64 rfl ?_
  refine ev_iconst (v := 4) X d_X_init_65 (by decide) ?_
  refine ev_icmp_ge (tgt := 88) X d_X_init_66 (by decide) (fun h66 => ?_) (fun h66 => ?_)
  · exact absurd h66 (by decide)
  refine ev_aload_n X d_X_init_69 rfl ?_
  refine ev_get X f_X_22 0 rfl rfl d_X_init_70 ?_
  refine ev_iload_n X d_X_init_73 rfl ?_
  refine ev_new (ci := 3) (fs := [.null, .int 0, .int 0, .int 0, .int 0, .int 0, .int 0, .int 0, .int 0]) X cl_X_20 in_E iz_E rfl u_E t_E t_E_ok (by decide) (Nat.le_of_ble_eq_true rfl) (Nat.le_of_ble_eq_true rfl) d_X_init_74 (fun e1 => ?_)
  refine ev_dup X d_X_init_77 rfl ?_
  refine ev_callI X hAO m_X_26 c_E_init (by decide) (by decide) d_X_init_78 rfl rfl (Nat.le_of_ble_eq_true rfl) (fun w' hw' => ?_)
  obtain ⟨r1, rfl⟩ := hw'
  refine ev_w (w' := [(h, .inr (0, [.int key, .ref q1, .ref q2, .null, .ref q3, .int 0])), (q1, .inl (ca 0, 256, .inl (fun _ => 0))), (q2, .inl (ca 0, 16, .inl (ownF 16))), (q3, .inl (ca 2, 4, rf (va_up (fun _ => none) 0 (some e0)))), (e0, .inr (3, [.ref r0, .int 0, .int 0, .int 0, .int 0, .int (-1), .int 0, .int 0, .int 0])), (r0, .inl (ca 0, 8, .inl (fun _ => 0))), (e1, .inr (3, [.ref r1, .int 0, .int 0, .int 0, .int 0, .int (-1), .int 0, .int 0, .int 0])), (r1, .inl (ca 0, 8, .inl (fun _ => 0)))]) rfl ?_
  refine ev_cs (cells' := 7) (slots' := 310) rfl rfl ?_
  refine ev_astq (j := 1) X 3 2 6 3 rfl rfl rfl rfl rfl (by decide) (by decide) d_X_init_81 ?_
  refine ev_w (w' := [(h, .inr (0, [.int key, .ref q1, .ref q2, .null, .ref q3, .int 0])), (q1, .inl (ca 0, 256, .inl (fun _ => 0))), (q2, .inl (ca 0, 16, .inl (ownF 16))), (q3, .inl (ca 2, 4, rf (va_up (va_up (fun _ => none) 0 (some e0)) 1 (some e1)))), (e0, .inr (3, [.ref r0, .int 0, .int 0, .int 0, .int 0, .int (-1), .int 0, .int 0, .int 0])), (r0, .inl (ca 0, 8, .inl (fun _ => 0))), (e1, .inr (3, [.ref r1, .int 0, .int 0, .int 0, .int 0, .int (-1), .int 0, .int 0, .int 0])), (r1, .inl (ca 0, 8, .inl (fun _ => 0)))]) rfl ?_
  refine ev_iinc (v := 2) X d_X_init_82 rfl (by decide) (by decide) ?_
  refine ev_goto (tgt := 64) X d_X_init_85 (by decide) ?_
  refine ev_iload_n X d_X_init_64 rfl ?_
  refine ev_iconst (v := 4) X d_X_init_65 (by decide) ?_
  refine ev_icmp_ge (tgt := 88) X d_X_init_66 (by decide) (fun h66 => ?_) (fun h66 => ?_)
  · exact absurd h66 (by decide)
  refine ev_aload_n X d_X_init_69 rfl ?_
  refine ev_get X f_X_22 0 rfl rfl d_X_init_70 ?_
  refine ev_iload_n X d_X_init_73 rfl ?_
  refine ev_new (ci := 3) (fs := [.null, .int 0, .int 0, .int 0, .int 0, .int 0, .int 0, .int 0, .int 0]) X cl_X_20 in_E iz_E rfl u_E t_E t_E_ok (by decide) (Nat.le_of_ble_eq_true rfl) (Nat.le_of_ble_eq_true rfl) d_X_init_74 (fun e2 => ?_)
  refine ev_dup X d_X_init_77 rfl ?_
  refine ev_callI X hAO m_X_26 c_E_init (by decide) (by decide) d_X_init_78 rfl rfl (Nat.le_of_ble_eq_true rfl) (fun w' hw' => ?_)
  obtain ⟨r2, rfl⟩ := hw'
  refine ev_w (w' := [(h, .inr (0, [.int key, .ref q1, .ref q2, .null, .ref q3, .int 0])), (q1, .inl (ca 0, 256, .inl (fun _ => 0))), (q2, .inl (ca 0, 16, .inl (ownF 16))), (q3, .inl (ca 2, 4, rf (va_up (va_up (fun _ => none) 0 (some e0)) 1 (some e1)))), (e0, .inr (3, [.ref r0, .int 0, .int 0, .int 0, .int 0, .int (-1), .int 0, .int 0, .int 0])), (r0, .inl (ca 0, 8, .inl (fun _ => 0))), (e1, .inr (3, [.ref r1, .int 0, .int 0, .int 0, .int 0, .int (-1), .int 0, .int 0, .int 0])), (r1, .inl (ca 0, 8, .inl (fun _ => 0))), (e2, .inr (3, [.ref r2, .int 0, .int 0, .int 0, .int 0, .int (-1), .int 0, .int 0, .int 0])), (r2, .inl (ca 0, 8, .inl (fun _ => 0)))]) rfl ?_
  refine ev_cs (cells' := 9) (slots' := 327) rfl rfl ?_
  refine ev_astq (j := 2) X 3 2 8 3 rfl rfl rfl rfl rfl (by decide) (by decide) d_X_init_81 ?_
  refine ev_w (w' := [(h, .inr (0, [.int key, .ref q1, .ref q2, .null, .ref q3, .int 0])), (q1, .inl (ca 0, 256, .inl (fun _ => 0))), (q2, .inl (ca 0, 16, .inl (ownF 16))), (q3, .inl (ca 2, 4, rf (va_up (va_up (va_up (fun _ => none) 0 (some e0)) 1 (some e1)) 2 (some e2)))), (e0, .inr (3, [.ref r0, .int 0, .int 0, .int 0, .int 0, .int (-1), .int 0, .int 0, .int 0])), (r0, .inl (ca 0, 8, .inl (fun _ => 0))), (e1, .inr (3, [.ref r1, .int 0, .int 0, .int 0, .int 0, .int (-1), .int 0, .int 0, .int 0])), (r1, .inl (ca 0, 8, .inl (fun _ => 0))), (e2, .inr (3, [.ref r2, .int 0, .int 0, .int 0, .int 0, .int (-1), .int 0, .int 0, .int 0])), (r2, .inl (ca 0, 8, .inl (fun _ => 0)))]) rfl ?_
  refine ev_iinc (v := 3) X d_X_init_82 rfl (by decide) (by decide) ?_
  refine ev_goto (tgt := 64) X d_X_init_85 (by decide) ?_
  refine ev_iload_n X d_X_init_64 rfl ?_
  refine ev_iconst (v := 4) X d_X_init_65 (by decide) ?_
  refine ev_icmp_ge (tgt := 88) X d_X_init_66 (by decide) (fun h66 => ?_) (fun h66 => ?_)
  · exact absurd h66 (by decide)
  refine ev_aload_n X d_X_init_69 rfl ?_
  refine ev_get X f_X_22 0 rfl rfl d_X_init_70 ?_
  refine ev_iload_n X d_X_init_73 rfl ?_
  refine ev_new (ci := 3) (fs := [.null, .int 0, .int 0, .int 0, .int 0, .int 0, .int 0, .int 0, .int 0]) X cl_X_20 in_E iz_E rfl u_E t_E t_E_ok (by decide) (Nat.le_of_ble_eq_true rfl) (Nat.le_of_ble_eq_true rfl) d_X_init_74 (fun e3 => ?_)
  refine ev_dup X d_X_init_77 rfl ?_
  refine ev_callI X hAO m_X_26 c_E_init (by decide) (by decide) d_X_init_78 rfl rfl (Nat.le_of_ble_eq_true rfl) (fun w' hw' => ?_)
  obtain ⟨r3, rfl⟩ := hw'
  refine ev_w (w' := [(h, .inr (0, [.int key, .ref q1, .ref q2, .null, .ref q3, .int 0])), (q1, .inl (ca 0, 256, .inl (fun _ => 0))), (q2, .inl (ca 0, 16, .inl (ownF 16))), (q3, .inl (ca 2, 4, rf (va_up (va_up (va_up (fun _ => none) 0 (some e0)) 1 (some e1)) 2 (some e2)))), (e0, .inr (3, [.ref r0, .int 0, .int 0, .int 0, .int 0, .int (-1), .int 0, .int 0, .int 0])), (r0, .inl (ca 0, 8, .inl (fun _ => 0))), (e1, .inr (3, [.ref r1, .int 0, .int 0, .int 0, .int 0, .int (-1), .int 0, .int 0, .int 0])), (r1, .inl (ca 0, 8, .inl (fun _ => 0))), (e2, .inr (3, [.ref r2, .int 0, .int 0, .int 0, .int 0, .int (-1), .int 0, .int 0, .int 0])), (r2, .inl (ca 0, 8, .inl (fun _ => 0))), (e3, .inr (3, [.ref r3, .int 0, .int 0, .int 0, .int 0, .int (-1), .int 0, .int 0, .int 0])), (r3, .inl (ca 0, 8, .inl (fun _ => 0)))]) rfl ?_
  refine ev_cs (cells' := 11) (slots' := 344) rfl rfl ?_
  refine ev_astq (j := 3) X 3 2 10 3 rfl rfl rfl rfl rfl (by decide) (by decide) d_X_init_81 ?_
  refine ev_w (w' := [(h, .inr (0, [.int key, .ref q1, .ref q2, .null, .ref q3, .int 0])), (q1, .inl (ca 0, 256, .inl (fun _ => 0))), (q2, .inl (ca 0, 16, .inl (ownF 16))), (q3, .inl (ca 2, 4, rf (va_up (va_up (va_up (va_up (fun _ => none) 0 (some e0)) 1 (some e1)) 2 (some e2)) 3 (some e3)))), (e0, .inr (3, [.ref r0, .int 0, .int 0, .int 0, .int 0, .int (-1), .int 0, .int 0, .int 0])), (r0, .inl (ca 0, 8, .inl (fun _ => 0))), (e1, .inr (3, [.ref r1, .int 0, .int 0, .int 0, .int 0, .int (-1), .int 0, .int 0, .int 0])), (r1, .inl (ca 0, 8, .inl (fun _ => 0))), (e2, .inr (3, [.ref r2, .int 0, .int 0, .int 0, .int 0, .int (-1), .int 0, .int 0, .int 0])), (r2, .inl (ca 0, 8, .inl (fun _ => 0))), (e3, .inr (3, [.ref r3, .int 0, .int 0, .int 0, .int 0, .int (-1), .int 0, .int 0, .int 0])), (r3, .inl (ca 0, 8, .inl (fun _ => 0)))]) rfl ?_
  refine ev_iinc (v := 4) X d_X_init_82 rfl (by decide) (by decide) ?_
  refine ev_goto (tgt := 64) X d_X_init_85 (by decide) ?_
  refine ev_iload_n X d_X_init_64 rfl ?_
  refine ev_iconst (v := 4) X d_X_init_65 (by decide) ?_
  refine ev_icmp_ge (tgt := 88) X d_X_init_66 (by decide) (fun h66 => ?_) (fun h66 => ?_)
  rotate_left
  · exact absurd h66 (by decide)
  refine ev_aload_n X d_X_init_88 rfl ?_
  refine ev_iconst (v := 2) X d_X_init_89 (by decide) ?_
  refine ev_newq (N' := 2) (t0 := 1) X cl_X_27 hAO.1 rfl (by decide) (by decide) (Nat.le_of_ble_eq_true rfl) (Nat.le_of_ble_eq_true rfl) (Nat.le_of_ble_eq_true rfl) d_X_init_90 (fun q12 => ?_)
  refine ev_putF X hin f_X_29 (fun r h => by cases h; rfl) 0 rfl rfl rfl (Nat.le_of_ble_eq_true rfl) d_X_init_93 ?_
  refine ev_w (w' := [(h, .inr (0, [.int key, .ref q1, .ref q2, .ref q12, .ref q3, .int 0])), (q1, .inl (ca 0, 256, .inl (fun _ => 0))), (q2, .inl (ca 0, 16, .inl (ownF 16))), (q3, .inl (ca 2, 4, rf (va_up (va_up (va_up (va_up (fun _ => none) 0 (some e0)) 1 (some e1)) 2 (some e2)) 3 (some e3)))), (e0, .inr (3, [.ref r0, .int 0, .int 0, .int 0, .int 0, .int (-1), .int 0, .int 0, .int 0])), (r0, .inl (ca 0, 8, .inl (fun _ => 0))), (e1, .inr (3, [.ref r1, .int 0, .int 0, .int 0, .int 0, .int (-1), .int 0, .int 0, .int 0])), (r1, .inl (ca 0, 8, .inl (fun _ => 0))), (e2, .inr (3, [.ref r2, .int 0, .int 0, .int 0, .int 0, .int (-1), .int 0, .int 0, .int 0])), (r2, .inl (ca 0, 8, .inl (fun _ => 0))), (e3, .inr (3, [.ref r3, .int 0, .int 0, .int 0, .int 0, .int (-1), .int 0, .int 0, .int 0])), (r3, .inl (ca 0, 8, .inl (fun _ => 0))), (q12, .inl (ca 1, 2, rf (fun _ => none)))]) rfl ?_
  refine ev_cs (cells' := 12) (slots' := 346) rfl rfl ?_
  refine ev_iconst (v := 0) X d_X_init_96 (by decide) ?_
  refine ev_istore_n X d_X_init_97 (by decide) ?_
  refine ev_iload_n X d_X_init_98 rfl ?_
  refine ev_iconst (v := 2) X d_X_init_99 (by decide) ?_
  refine ev_icmp_ge (tgt := 122) X d_X_init_100 (by decide) (fun h100 => ?_) (fun h100 => ?_)
  · exact absurd h100 (by decide)
  refine ev_aload_n X d_X_init_103 rfl ?_
  refine ev_get X f_X_29 0 rfl rfl d_X_init_104 ?_
  refine ev_iload_n X d_X_init_107 rfl ?_
  refine ev_new (ci := 2) (fs := [.null, .null, .int 0]) X cl_X_27 in_P iz_P rfl u_P t_P t_P_ok (by decide) (Nat.le_of_ble_eq_true rfl) (Nat.le_of_ble_eq_true rfl) d_X_init_108 (fun p0 => ?_)
  refine ev_dup X d_X_init_111 rfl ?_
  refine ev_callI X hAO m_X_33 c_P_init (by decide) (by decide) d_X_init_112 rfl rfl (Nat.le_of_ble_eq_true rfl) (fun w' hw' => ?_)
  obtain ⟨a0, rfl⟩ := hw'
  refine ev_w (w' := [(h, .inr (0, [.int key, .ref q1, .ref q2, .ref q12, .ref q3, .int 0])), (q1, .inl (ca 0, 256, .inl (fun _ => 0))), (q2, .inl (ca 0, 16, .inl (ownF 16))), (q3, .inl (ca 2, 4, rf (va_up (va_up (va_up (va_up (fun _ => none) 0 (some e0)) 1 (some e1)) 2 (some e2)) 3 (some e3)))), (e0, .inr (3, [.ref r0, .int 0, .int 0, .int 0, .int 0, .int (-1), .int 0, .int 0, .int 0])), (r0, .inl (ca 0, 8, .inl (fun _ => 0))), (e1, .inr (3, [.ref r1, .int 0, .int 0, .int 0, .int 0, .int (-1), .int 0, .int 0, .int 0])), (r1, .inl (ca 0, 8, .inl (fun _ => 0))), (e2, .inr (3, [.ref r2, .int 0, .int 0, .int 0, .int 0, .int (-1), .int 0, .int 0, .int 0])), (r2, .inl (ca 0, 8, .inl (fun _ => 0))), (e3, .inr (3, [.ref r3, .int 0, .int 0, .int 0, .int 0, .int (-1), .int 0, .int 0, .int 0])), (r3, .inl (ca 0, 8, .inl (fun _ => 0))), (q12, .inl (ca 1, 2, rf (fun _ => none))), (p0, .inr (2, [.ref (a0 0), .ref (a0 1), .int (-1)])), (a0 0, .inl (ca 0, 8, .inl (fun _ => 0))), (a0 1, .inl (ca 3, 11, rf (fun k => some (a0 (2 + k))))), (a0 2, G0), (a0 3, G0), (a0 4, G0), (a0 5, G0), (a0 6, G0), (a0 7, G0), (a0 8, G0), (a0 9, G0), (a0 10, G0), (a0 11, G0), (a0 12, G0)]) rfl ?_
  refine ev_cs (cells' := 26) (slots' := 401) rfl rfl ?_
  refine ev_astq (j := 0) X 12 1 13 2 rfl rfl rfl rfl rfl (by decide) (by decide) d_X_init_115 ?_
  refine ev_w (w' := [(h, .inr (0, [.int key, .ref q1, .ref q2, .ref q12, .ref q3, .int 0])), (q1, .inl (ca 0, 256, .inl (fun _ => 0))), (q2, .inl (ca 0, 16, .inl (ownF 16))), (q3, .inl (ca 2, 4, rf (va_up (va_up (va_up (va_up (fun _ => none) 0 (some e0)) 1 (some e1)) 2 (some e2)) 3 (some e3)))), (e0, .inr (3, [.ref r0, .int 0, .int 0, .int 0, .int 0, .int (-1), .int 0, .int 0, .int 0])), (r0, .inl (ca 0, 8, .inl (fun _ => 0))), (e1, .inr (3, [.ref r1, .int 0, .int 0, .int 0, .int 0, .int (-1), .int 0, .int 0, .int 0])), (r1, .inl (ca 0, 8, .inl (fun _ => 0))), (e2, .inr (3, [.ref r2, .int 0, .int 0, .int 0, .int 0, .int (-1), .int 0, .int 0, .int 0])), (r2, .inl (ca 0, 8, .inl (fun _ => 0))), (e3, .inr (3, [.ref r3, .int 0, .int 0, .int 0, .int 0, .int (-1), .int 0, .int 0, .int 0])), (r3, .inl (ca 0, 8, .inl (fun _ => 0))), (q12, .inl (ca 1, 2, rf (va_up (fun _ => none) 0 (some p0)))), (p0, .inr (2, [.ref (a0 0), .ref (a0 1), .int (-1)])), (a0 0, .inl (ca 0, 8, .inl (fun _ => 0))), (a0 1, .inl (ca 3, 11, rf (fun k => some (a0 (2 + k))))), (a0 2, G0), (a0 3, G0), (a0 4, G0), (a0 5, G0), (a0 6, G0), (a0 7, G0), (a0 8, G0), (a0 9, G0), (a0 10, G0), (a0 11, G0), (a0 12, G0)]) rfl ?_
  refine ev_iinc (v := 1) X d_X_init_116 rfl (by decide) (by decide) ?_
  refine ev_goto (tgt := 98) X d_X_init_119 (by decide) ?_
  refine ev_iload_n X d_X_init_98 rfl ?_
  refine ev_iconst (v := 2) X d_X_init_99 (by decide) ?_
  refine ev_icmp_ge (tgt := 122) X d_X_init_100 (by decide) (fun h100 => ?_) (fun h100 => ?_)
  · exact absurd h100 (by decide)
  refine ev_aload_n X d_X_init_103 rfl ?_
  refine ev_get X f_X_29 0 rfl rfl d_X_init_104 ?_
  refine ev_iload_n X d_X_init_107 rfl ?_
  refine ev_new (ci := 2) (fs := [.null, .null, .int 0]) X cl_X_27 in_P iz_P rfl u_P t_P t_P_ok (by decide) (Nat.le_of_ble_eq_true rfl) (Nat.le_of_ble_eq_true rfl) d_X_init_108 (fun p1 => ?_)
  refine ev_dup X d_X_init_111 rfl ?_
  refine ev_callI X hAO m_X_33 c_P_init (by decide) (by decide) d_X_init_112 rfl rfl (Nat.le_of_ble_eq_true rfl) (fun w' hw' => ?_)
  obtain ⟨a1, rfl⟩ := hw'
  refine ev_w (w' := [(h, .inr (0, [.int key, .ref q1, .ref q2, .ref q12, .ref q3, .int 0])), (q1, .inl (ca 0, 256, .inl (fun _ => 0))), (q2, .inl (ca 0, 16, .inl (ownF 16))), (q3, .inl (ca 2, 4, rf (va_up (va_up (va_up (va_up (fun _ => none) 0 (some e0)) 1 (some e1)) 2 (some e2)) 3 (some e3)))), (e0, .inr (3, [.ref r0, .int 0, .int 0, .int 0, .int 0, .int (-1), .int 0, .int 0, .int 0])), (r0, .inl (ca 0, 8, .inl (fun _ => 0))), (e1, .inr (3, [.ref r1, .int 0, .int 0, .int 0, .int 0, .int (-1), .int 0, .int 0, .int 0])), (r1, .inl (ca 0, 8, .inl (fun _ => 0))), (e2, .inr (3, [.ref r2, .int 0, .int 0, .int 0, .int 0, .int (-1), .int 0, .int 0, .int 0])), (r2, .inl (ca 0, 8, .inl (fun _ => 0))), (e3, .inr (3, [.ref r3, .int 0, .int 0, .int 0, .int 0, .int (-1), .int 0, .int 0, .int 0])), (r3, .inl (ca 0, 8, .inl (fun _ => 0))), (q12, .inl (ca 1, 2, rf (va_up (fun _ => none) 0 (some p0)))), (p0, .inr (2, [.ref (a0 0), .ref (a0 1), .int (-1)])), (a0 0, .inl (ca 0, 8, .inl (fun _ => 0))), (a0 1, .inl (ca 3, 11, rf (fun k => some (a0 (2 + k))))), (a0 2, G0), (a0 3, G0), (a0 4, G0), (a0 5, G0), (a0 6, G0), (a0 7, G0), (a0 8, G0), (a0 9, G0), (a0 10, G0), (a0 11, G0), (a0 12, G0), (p1, .inr (2, [.ref (a1 0), .ref (a1 1), .int (-1)])), (a1 0, .inl (ca 0, 8, .inl (fun _ => 0))), (a1 1, .inl (ca 3, 11, rf (fun k => some (a1 (2 + k))))), (a1 2, G0), (a1 3, G0), (a1 4, G0), (a1 5, G0), (a1 6, G0), (a1 7, G0), (a1 8, G0), (a1 9, G0), (a1 10, G0), (a1 11, G0), (a1 12, G0)]) rfl ?_
  refine ev_cs (cells' := 40) (slots' := 456) rfl rfl ?_
  refine ev_astq (j := 1) X 12 1 27 2 rfl rfl rfl rfl rfl (by decide) (by decide) d_X_init_115 ?_
  refine ev_w (w' := [(h, .inr (0, [.int key, .ref q1, .ref q2, .ref q12, .ref q3, .int 0])), (q1, .inl (ca 0, 256, .inl (fun _ => 0))), (q2, .inl (ca 0, 16, .inl (ownF 16))), (q3, .inl (ca 2, 4, rf (va_up (va_up (va_up (va_up (fun _ => none) 0 (some e0)) 1 (some e1)) 2 (some e2)) 3 (some e3)))), (e0, .inr (3, [.ref r0, .int 0, .int 0, .int 0, .int 0, .int (-1), .int 0, .int 0, .int 0])), (r0, .inl (ca 0, 8, .inl (fun _ => 0))), (e1, .inr (3, [.ref r1, .int 0, .int 0, .int 0, .int 0, .int (-1), .int 0, .int 0, .int 0])), (r1, .inl (ca 0, 8, .inl (fun _ => 0))), (e2, .inr (3, [.ref r2, .int 0, .int 0, .int 0, .int 0, .int (-1), .int 0, .int 0, .int 0])), (r2, .inl (ca 0, 8, .inl (fun _ => 0))), (e3, .inr (3, [.ref r3, .int 0, .int 0, .int 0, .int 0, .int (-1), .int 0, .int 0, .int 0])), (r3, .inl (ca 0, 8, .inl (fun _ => 0))), (q12, .inl (ca 1, 2, rf (va_up (va_up (fun _ => none) 0 (some p0)) 1 (some p1)))), (p0, .inr (2, [.ref (a0 0), .ref (a0 1), .int (-1)])), (a0 0, .inl (ca 0, 8, .inl (fun _ => 0))), (a0 1, .inl (ca 3, 11, rf (fun k => some (a0 (2 + k))))), (a0 2, G0), (a0 3, G0), (a0 4, G0), (a0 5, G0), (a0 6, G0), (a0 7, G0), (a0 8, G0), (a0 9, G0), (a0 10, G0), (a0 11, G0), (a0 12, G0), (p1, .inr (2, [.ref (a1 0), .ref (a1 1), .int (-1)])), (a1 0, .inl (ca 0, 8, .inl (fun _ => 0))), (a1 1, .inl (ca 3, 11, rf (fun k => some (a1 (2 + k))))), (a1 2, G0), (a1 3, G0), (a1 4, G0), (a1 5, G0), (a1 6, G0), (a1 7, G0), (a1 8, G0), (a1 9, G0), (a1 10, G0), (a1 11, G0), (a1 12, G0)]) rfl ?_
  refine ev_iinc (v := 2) X d_X_init_116 rfl (by decide) (by decide) ?_
  refine ev_goto (tgt := 98) X d_X_init_119 (by decide) ?_
  refine ev_iload_n X d_X_init_98 rfl ?_
  refine ev_iconst (v := 2) X d_X_init_99 (by decide) ?_
  refine ev_icmp_ge (tgt := 122) X d_X_init_100 (by decide) (fun h100 => ?_) (fun h100 => ?_)
  rotate_left
  · exact absurd h100 (by decide)
  refine ev_SM (w' := ly_w lyX 41 (adX h q1 q2 q3 e0 r0 e1 r1 e2 r2 e3 r3 q12 p0 a0 p1 a1) ca (S0 key) []) ?_ ?_
  · refine SM.cons (Or.inl rfl) ?_
    refine SM.cons (Or.inl rfl) ?_
    refine SM.cons (Or.inl rfl) ?_
    refine SM.cons (sm.arr (n := 4) ?_) ?_
    · intro k hk
      have hk : k = 0 ∨ k = 1 ∨ k = 2 ∨ k = 3 := by omega
      rcases hk with rfl | rfl | rfl | rfl <;> rfl
    refine SM.cons (Or.inl rfl) ?_
    refine SM.cons (Or.inl rfl) ?_
    refine SM.cons (Or.inl rfl) ?_
    refine SM.cons (Or.inl rfl) ?_
    refine SM.cons (Or.inl rfl) ?_
    refine SM.cons (Or.inl rfl) ?_
    refine SM.cons (Or.inl rfl) ?_
    refine SM.cons (Or.inl rfl) ?_
    refine SM.cons (sm.arr (n := 2) ?_) ?_
    · intro k hk
      have hk : k = 0 ∨ k = 1 := by omega
      rcases hk with rfl | rfl <;> rfl
    refine SM.cons (Or.inl rfl) ?_
    refine SM.cons (Or.inl rfl) ?_
    refine SM.cons (sm.arr (n := 11) ?_) ?_
    · intro k hk
      have hk : k = 0 ∨ k = 1 ∨ k = 2 ∨ k = 3 ∨ k = 4 ∨ k = 5 ∨ k = 6 ∨ k = 7 ∨ k = 8 ∨ k = 9 ∨ k = 10 := by omega
      rcases hk with rfl | rfl | rfl | rfl | rfl | rfl | rfl | rfl | rfl | rfl | rfl <;> rfl
    refine SM.cons (Or.inl rfl) ?_
    refine SM.cons (Or.inl rfl) ?_
    refine SM.cons (Or.inl rfl) ?_
    refine SM.cons (Or.inl rfl) ?_
    refine SM.cons (Or.inl rfl) ?_
    refine SM.cons (Or.inl rfl) ?_
    refine SM.cons (Or.inl rfl) ?_
    refine SM.cons (Or.inl rfl) ?_
    refine SM.cons (Or.inl rfl) ?_
    refine SM.cons (Or.inl rfl) ?_
    refine SM.cons (Or.inl rfl) ?_
    refine SM.cons (Or.inl rfl) ?_
    refine SM.cons (Or.inl rfl) ?_
    refine SM.cons (sm.arr (n := 11) ?_) ?_
    · intro k hk
      have hk : k = 0 ∨ k = 1 ∨ k = 2 ∨ k = 3 ∨ k = 4 ∨ k = 5 ∨ k = 6 ∨ k = 7 ∨ k = 8 ∨ k = 9 ∨ k = 10 := by omega
      rcases hk with rfl | rfl | rfl | rfl | rfl | rfl | rfl | rfl | rfl | rfl | rfl <;> rfl
    refine SM.cons (Or.inl rfl) ?_
    refine SM.cons (Or.inl rfl) ?_
    refine SM.cons (Or.inl rfl) ?_
    refine SM.cons (Or.inl rfl) ?_
    refine SM.cons (Or.inl rfl) ?_
    refine SM.cons (Or.inl rfl) ?_
    refine SM.cons (Or.inl rfl) ?_
    refine SM.cons (Or.inl rfl) ?_
    refine SM.cons (Or.inl rfl) ?_
    refine SM.cons (Or.inl rfl) ?_
    refine SM.cons (Or.inl rfl) ?_
    exact SM.nil
  refine ev_aload_n X d_X_init_122 rfl ?_
  refine ev_cV0 X m_X_34 (c_X_setAllGuards (Or.inl rfl) (Or.inl rfl)) lo_this rfl rfl (by decide) (by decide) d_X_init_123 rfl rfl (Nat.le_of_ble_eq_true rfl) ?_
  exact ev_vretC X hr hk d_X_init_126 ⟨_, rfl, rfl⟩
