section LAW2
variable {p : Program} {l : Launch} {e : Env} {s : State} {m : MethodId} {below : List Frame} {meth : Method} {c : Code} {b L i : Nat} {xs : Nat → Int32} {D : va_G} {ad ad2 : Nat → Nat} {ca : Nat → ClassId} {S M : St}
set_option maxHeartbeats 4000000 in
set_option maxRecDepth 100000 in
theorem law_case (X : LX p s m c b D ca) (hX : va_X b L xs s s.heap) (hbl : b < s.heap.size) (hbA : ¬ (fun q => s.heap.size ≤ q) b) (hL : L < 2 ^ 31) (hi : i + 6 ≤ L) (hR : Rel S M) (K : ∀ S' M', Rel S' M' → LW p l e s m below meth c b D 55 831 (ly_w lyX 41 ad ca S' (ly_w lyM 14 ad2 ca M' [])) 689 [some (.ref b), some (.ref (ad 0)), some (.ref (ad2 0)), some (.int (nI i))] []) : LW p l e s m below meth c b D 55 831 (ly_w lyX 41 ad ca S (ly_w lyM 14 ad2 ca M [])) 37 [some (.ref b), some (.ref (ad 0)), some (.ref (ad2 0)), some (.int (nI i))] [] := by
  refine ev_aload_n X d_L_law_37 rfl ?_
  refine ev_iload_n X d_L_law_38 rfl ?_
  refine ev_sld (j := i) X hX hbl hbA rfl (by omega) hL d_L_law_39 ?_
  refine ev_bipush (v := 31) X d_L_law_40 (by decide) ?_
  refine ev_iand X d_L_law_42 ?_
  obtain ⟨o, ho, eo⟩ := pk_andE (xs i) (m := 31) 5 (by decide)
  refine ev_topi eo ?_
  by_cases h17 : o < 17
  · have hh : o = 0 ∨ o = 1 ∨ o = 2 ∨ o = 3 ∨ o = 4 ∨ o = 5 ∨ o = 6 ∨ o = 7 ∨ o = 8 ∨ o = 9 ∨ o = 10 ∨ o = 11 ∨ o = 12 ∨ o = 13 ∨ o = 14 ∨ o = 15 ∨ o = 16 := by omega
    rcases hh with rfl | rfl | rfl | rfl | rfl | rfl | rfl | rfl | rfl | rfl | rfl | rfl | rfl | rfl | rfl | rfl | rfl
    · exact ev_tableIn (tgt := 124) X d_L_law_43 (by decide) (by decide) rfl (by decide) (L_load X hX hbl hbA hL hi hR K)
    · exact ev_tableIn (tgt := 158) X d_L_law_43 (by decide) (by decide) rfl (by decide) (L_store X hX hbl hbA hL hi hR K)
    · exact ev_tableIn (tgt := 201) X d_L_law_43 (by decide) (by decide) rfl (by decide) (L_denied X hX hbl hbA hL hi hR K)
    · exact ev_tableIn (tgt := 214) X d_L_law_43 (by decide) (by decide) rfl (by decide) (L_give X hX hbl hbA hL hi hR K)
    · exact ev_tableIn (tgt := 257) X d_L_law_43 (by decide) (by decide) rfl (by decide) (L_register X hX hbl hbA hL hi hR K)
    · exact ev_tableIn (tgt := 291) X d_L_law_43 (by decide) (by decide) rfl (by decide) (L_create X hX hbl hbA hL hi hR K)
    · exact ev_tableIn (tgt := 354) X d_L_law_43 (by decide) (by decide) rfl (by decide) (L_run X hX hbl hbA hL hi hR K)
    · exact ev_tableIn (tgt := 397) X d_L_law_43 (by decide) (by decide) rfl (by decide) (L_step X hX hbl hbA hL hi hR K)
    · exact ev_tableIn (tgt := 430) X d_L_law_43 (by decide) (by decide) rfl (by decide) (L_interrupt X hX hbl hbA hL hi hR K)
    · exact ev_tableIn (tgt := 453) X d_L_law_43 (by decide) (by decide) rfl (by decide) (L_destroy X hX hbl hbA hL hi hR K)
    · exact ev_tableIn (tgt := 486) X d_L_law_43 (by decide) (by decide) rfl (by decide) (L_state X hX hbl hbA hL hi hR K)
    · exact ev_tableIn (tgt := 509) X d_L_law_43 (by decide) (by decide) rfl (by decide) (L_released X hX hbl hbA hL hi hR K)
    · exact ev_tableIn (tgt := 533) X d_L_law_43 (by decide) (by decide) rfl (by decide) (L_measurement X hX hbl hbA hL hi hR K)
    · exact ev_tableIn (tgt := 557) X d_L_law_43 (by decide) (by decide) rfl (by decide) (L_verify X hX hbl hbA hL hi hR K)
    · exact ev_tableIn (tgt := 600) X d_L_law_43 (by decide) (by decide) rfl (by decide) (L_running X hX hbl hbA hL hi hR K)
    · exact ev_tableIn (tgt := 623) X d_L_law_43 (by decide) (by decide) rfl (by decide) (L_owner X hX hbl hbA hL hi hR K)
    · exact ev_tableIn (tgt := 646) X d_L_law_43 (by decide) (by decide) rfl (by decide) (L_guard X hX hbl hbA hL hi hR K)
  · refine ev_tableOut (tgt := 689) X d_L_law_43 (Or.inr ?_) (by decide) (K S M hR)
    rw [nI_toInt (by omega)]
    omega
set_option maxHeartbeats 4000000 in
set_option maxRecDepth 100000 in
theorem law_loop (X : LX p s m c b D ca) (hX : va_X b L xs s s.heap) (hbl : b < s.heap.size) (hbA : ¬ (fun q => s.heap.size ≤ q) b) (hL : L ≤ 3073) (hx : p.tables.exec = Jvm.exec) (hb : c.code = code) (hr : meth.sig.returnType = ret) (hlocks : meth.locks = false) (r : Nat) : ∀ (i : Nat) (S M : St), L < i + r → i ≤ 4000 → Rel S M → LW p l e s m below meth c b D 55 831 (ly_w lyX 41 ad ca S (ly_w lyM 14 ad2 ca M [])) 28 [some (.ref b), some (.ref (ad 0)), some (.ref (ad2 0)), some (.int (nI i))] [] := by
  induction r with
  | zero =>
    intro i S M h1 h2 hR
    refine ev_iload_n X d_L_law_28 rfl ?_
    refine ev_aload_n X d_L_law_29 rfl ?_
    refine ev_slen X hX hbl hbA d_L_law_30 ?_
    refine ev_bipush (v := 6) X d_L_law_31 (by decide) ?_
    refine ev_isub X d_L_law_33 ?_
    refine ev_icmp_gt (tgt := 695) X d_L_law_34 (by decide) (fun h => ?_) (fun h => ?_)
    · refine ev_iconst (v := 1) X d_L_law_695 (by decide) ?_
      exact fun H locs ls hP hD hS hl => va_forget (fun q hq => hS.2.2 q hq) (W.widen (by decide) (by decide) (lw_ret hx hb hr hlocks d_L_law_696))
    · exact absurd (lt6 hL h2 h) (by omega)
  | succ r ih =>
    intro i S M h1 h2 hR
    refine ev_iload_n X d_L_law_28 rfl ?_
    refine ev_aload_n X d_L_law_29 rfl ?_
    refine ev_slen X hX hbl hbA d_L_law_30 ?_
    refine ev_bipush (v := 6) X d_L_law_31 (by decide) ?_
    refine ev_isub X d_L_law_33 ?_
    refine ev_icmp_gt (tgt := 695) X d_L_law_34 (by decide) (fun h => ?_) (fun h => ?_)
    · refine ev_iconst (v := 1) X d_L_law_695 (by decide) ?_
      exact fun H locs ls hP hD hS hl => va_forget (fun q hq => hS.2.2 q hq) (W.widen (by decide) (by decide) (lw_ret hx hb hr hlocks d_L_law_696))
    · have h6 := lt6 hL h2 h
      refine law_case X hX hbl hbA (by omega) h6 hR (fun S' M' hR' => ?_)
      refine ev_iinc (v := nI (i + 6)) X d_L_law_689 rfl (nI_add i 6) (by decide) ?_
      refine ev_goto (tgt := 28) X d_L_law_692 (by decide) ?_
      exact ih (i + 6) S' M' (by omega) (by omega) hR'
end LAW2
set_option maxHeartbeats 8000000 in
set_option maxRecDepth 100000 in
theorem whole_start {p : Program} {e : Env} {s : State} {m : MethodId} {below : List Frame} {meth : Method} {c : Code} (l : Launch) {b L : Nat} {xs : Nat → Int32} (hL : L ≤ 3073) (C0 : lw_At p s m meth c b L xs) : W p l e room_1 s m #[Value.ref b] below meth c s.heap [] 0 0 (lw_Z below #[Value.ref b] s) (entryFrame m ([Value.ref b] : List Value).toArray 4) := by
  obtain ⟨hx, hb, hr, hml, hown, hts, hX, hbl, hlocks, -⟩ := C0
  obtain ⟨D, ca, hK, hAO⟩ := start_K hts
  have hbA : ¬ (fun q => s.heap.size ≤ q) b := fun q => by dsimp at q; omega
  have X : LX p s m c b D ca := ⟨⟨hx, hb, hml, hown, fun w hw => hts w (List.mem_filter.mp hw).1⟩, hK, fun q h => h, gTT⟩
  have hL31 : L < 2 ^ 31 := by omega
  rw [lg_entry_eq]
  have body : LW p l e s m below meth c b D 0 0 [] 0 [some (.ref b), none, none, none] [] := by
    refine ev_new (ci := 0) (fs := [.int 0, .null, .null, .null, .null, .int 0]) X cl_L_7 in_X iz_X rfl u_X t_X t_X_ok (by decide) (Nat.le_of_ble_eq_true rfl) (Nat.le_of_ble_eq_true rfl) d_L_law_0 (fun q => ?_)
    refine ev_dup X d_L_law_3 rfl ?_
    refine ev_aload_n X d_L_law_4 rfl ?_
    refine ev_iconst (v := 0) X d_L_law_5 (by decide) ?_
    refine ev_cell X hX hbl hbA hL31 (by decide) (by decide) d_L_law_6 (Nat.le_of_ble_eq_true rfl) ?_
    refine ev_callI X hAO m_L_15 c_X_init (by decide) (by decide) d_L_law_9 rfl rfl (Nat.le_of_ble_eq_true rfl) (fun w' hw' => ?_)
    obtain ⟨ad, had, rfl⟩ := hw'
    subst had
    refine ev_astore_n X d_L_law_12 (by decide) ?_
    refine ev_new (ci := 4) (fs := [.int 0, .null, .null, .null, .null, .int 0, .null, .null, .null, .null, .null, .null, .null, .null, .null]) X cl_L_18 in_M iz_M rfl u_M t_M t_M_ok (by decide) (Nat.le_of_ble_eq_true rfl) (Nat.le_of_ble_eq_true rfl) d_L_law_13 (fun q2 => ?_)
    refine ev_dup X d_L_law_16 rfl ?_
    refine ev_aload_n X d_L_law_17 rfl ?_
    refine ev_iconst (v := 0) X d_L_law_18 (by decide) ?_
    refine ev_cell X hX hbl hbA hL31 (by decide) (by decide) d_L_law_19 (Nat.le_of_ble_eq_true rfl) ?_
    refine ev_callI X hAO m_L_20 c_M_init (by decide) (by decide) d_L_law_22 rfl rfl (Nat.le_of_ble_eq_true rfl) (fun w' hw' => ?_)
    obtain ⟨ad2, had, rfl⟩ := hw'
    subst had
    refine ev_astore_n X d_L_law_25 (by decide) ?_
    refine ev_iconst (v := 1) X d_L_law_26 (by decide) ?_
    refine ev_istore_n X d_L_law_27 (by decide) ?_
    refine ev_w ly_app ?_
    refine ev_cs (cells' := 55) (slots' := 831) rfl rfl ?_
    exact law_loop X hX hbl hbA hL hx hb hr hlocks (L + 1) 1 _ _ (by omega) (by decide) (R_start _)
  exact body s.heap [] _ (fun k q h => by simp at h) ⟨fun i j p q h => by simp at h, fun k q h => by simp at h⟩ va_S.rf (ll_entry (by intro v hv; simp at hv; rcases hv with rfl; rfl) (Nat.le_of_ble_eq_true rfl))
