theorem lfe_all (S : St) : ∀ (n e : Nat), e + n = 4 → ¬ lfeS S e n = -1 → inr (lfeS S e n) 4 = true
  | 0, e, _, h => absurd rfl h
  | n + 1, e, he, h => by
    unfold lfeS at h ⊢
    by_cases q : S (4 + 2 * e) 1 = 0
    · rw [if_pos q]
      exact inr_nI (k := 4) (by omega) (by decide)
    · rw [if_neg q] at h ⊢
      exact lfe_all S n (e + 1) (by omega) h
theorem lfe_in {S : St} (h : ¬ lfeS S 0 4 = -1) : inr (lfeS S 0 4) 4 = true := lfe_all S 4 0 rfl h
def EnOK (S : St) (j : Nat) : Prop := S j 2 = nI (S j 2).toNatClampNeg ∧ S j 3 = nI (S j 3).toNatClampNeg ∧ (S j 2).toNatClampNeg + (S j 3).toNatClampNeg ≤ 16
set_option maxHeartbeats 4000000 in
set_option maxRecDepth 100000 in
theorem c_X_create {l : Launch} {D : va_G} {ad : Nat → Nat} {ca : Nat → ClassId} {x : va_W} {S : St} {z F N en sh : Int32} (hpe : ∀ k, k < 2 → PeOK S (13 + 14 * k)) : CtX l D ad ca x y_X_create b_X_create 7 (some .int) 6 [.ref (ad 0), .int z, .int F, .int N, .int en, .int sh] S (sCreate S z F N en sh) (some (.int (vCreate S z F N en sh))) := by
  refine ev_ent [some (.ref (ad 0)), some (.int z), some (.int F), some (.int N), some (.int en), some (.int sh), none] rfl (by decide) (Nat.le_of_ble_eq_true rfl) rfl gTT (fun p e s m args below meth c A X hr hk => ?_)
  refine ev_aload_n X d_X_create_0 rfl ?_
  refine ev_iload_n X d_X_create_1 rfl ?_
  refine ev_cV1 X m_X_37 c_X_isBusy lo_this rfl rfl (by decide) (by decide) d_X_create_2 rfl rfl (Nat.le_of_ble_eq_true rfl) ?_
  refine ev_if_eqB (tgt := 10) X d_X_create_5 (by decide) (fun h5 => ?_) (fun h5 => ?_)
  · refine ev_iload_n X d_X_create_10 rfl ?_
    refine ev_iload_n X d_X_create_11 rfl ?_
    refine ev_cS1 X m_X_58 c_X_arePages (by decide) (by decide) d_X_create_12 rfl rfl (Nat.le_of_ble_eq_true rfl) ?_
    refine ev_if_eqB (tgt := 36) X d_X_create_15 (by decide) (fun h15 => ?_) (fun h15 => ?_)
    · refine ev_bipush (v := (-2)) X d_X_create_36 (by decide) ?_
      exact ev_iretL X hr hk d_X_create_38 (by simp [vCreate, okC, h5, h15]) (by simp [sCreate, okC, h5, h15])
    · refine ev_iload X d_X_create_18 rfl ?_
      refine ev_iload_n X d_X_create_20 rfl ?_
      refine ev_iload_n X d_X_create_21 rfl ?_
      refine ev_cS1 X m_X_62 c_X_isOnPages (by decide) (by decide) d_X_create_22 rfl rfl (Nat.le_of_ble_eq_true rfl) ?_
      refine ev_if_eqB (tgt := 36) X d_X_create_25 (by decide) (fun h25 => ?_) (fun h25 => ?_)
      · refine ev_bipush (v := (-2)) X d_X_create_36 (by decide) ?_
        exact ev_iretL X hr hk d_X_create_38 (by simp [vCreate, okC, h5, h15, h25]) (by simp [sCreate, okC, h5, h15, h25])
      · refine ev_iload X d_X_create_28 rfl ?_
        refine ev_cS1 X m_X_66 c_X_isShared (by decide) (by decide) d_X_create_30 rfl rfl (Nat.le_of_ble_eq_true rfl) ?_
        refine ev_if_neB (tgt := 39) X d_X_create_33 (by decide) (fun h33 => ?_) (fun h33 => ?_)
        · refine ev_aload_n X d_X_create_39 rfl ?_
          refine ev_iload_n X d_X_create_40 rfl ?_
          refine ev_iload_n X d_X_create_41 rfl ?_
          refine ev_cV1 X m_X_69 (c_X_areSystemPages' h15) lo_this rfl rfl (by decide) (by decide) d_X_create_42 rfl rfl (Nat.le_of_ble_eq_true rfl) ?_
          refine ev_if_neB (tgt := 51) X d_X_create_45 (by decide) (fun h45 => ?_) (fun h45 => ?_)
          · refine ev_aload_n X d_X_create_51 rfl ?_
            refine ev_iload X d_X_create_52 rfl ?_
            refine ev_iload_n X d_X_create_54 rfl ?_
            refine ev_iload_n X d_X_create_55 rfl ?_
            refine ev_cV1 X m_X_72 (c_X_canShare h33) lo_this rfl rfl (by decide) (by decide) d_X_create_56 rfl rfl (Nat.le_of_ble_eq_true rfl) ?_
            refine ev_if_neB (tgt := 65) X d_X_create_59 (by decide) (fun h59 => ?_) (fun h59 => ?_)
            · refine ev_aload_n X d_X_create_65 rfl ?_
              refine ev_cV1 X m_X_75 c_X_leastFreeEnclave lo_this rfl rfl (by decide) (by decide) d_X_create_66 rfl rfl (Nat.le_of_ble_eq_true rfl) ?_
              refine ev_istore X d_X_create_69 (by decide) ?_
              refine ev_iload X d_X_create_71 rfl ?_
              refine ev_iconst (v := (-1)) X d_X_create_73 (by decide) ?_
              refine ev_icmp_ne (tgt := 80) X d_X_create_74 (by decide) (fun h74 => ?_) (fun h74 => ?_)
              · refine ev_aload_n X d_X_create_80 rfl ?_
                refine ev_iload X d_X_create_81 rfl ?_
                refine ev_topi (v := nI (lfeS S 0 4).toNatClampNeg) (inr_z (lfe_in h74)) ?_
                refine ev_iload_n X d_X_create_83 rfl ?_
                refine ev_iload_n X d_X_create_84 rfl ?_
                refine ev_iload X d_X_create_85 rfl ?_
                refine ev_iload X d_X_create_87 rfl ?_
                refine ev_cV0 X m_X_79 (c_X_makeEnclave (inr_j (k := 4) rfl (by decide) (lfe_in h74)) h15 (hpe 0 (by decide)) (hpe 1 (by decide))) lo_this rfl rfl (by decide) (by decide) d_X_create_89 rfl rfl (Nat.le_of_ble_eq_true rfl) ?_
                refine ev_iload X d_X_create_92 rfl ?_
                exact ev_iretL X hr hk d_X_create_94 (by simp [vCreate, okC, h5, h15, h25, h33, h45, h59, h74]) (by simp [sCreate, okC, h5, h15, h25, h33, h45, h59, h74])
              · refine ev_bipush (v := (-5)) X d_X_create_77 (by decide) ?_
                exact ev_iretL X hr hk d_X_create_79 (by simp [vCreate, okC, h5, h15, h25, h33, h45, h59, h74]) (by simp [sCreate, okC, h5, h15, h25, h33, h45, h59, h74])
            · refine ev_bipush (v := (-4)) X d_X_create_62 (by decide) ?_
              exact ev_iretL X hr hk d_X_create_64 (by simp [vCreate, okC, h5, h15, h25, h33, h45, h59]) (by simp [sCreate, okC, h5, h15, h25, h33, h45, h59])
          · refine ev_bipush (v := (-3)) X d_X_create_48 (by decide) ?_
            exact ev_iretL X hr hk d_X_create_50 (by simp [vCreate, okC, h5, h15, h25, h33, h45]) (by simp [sCreate, okC, h5, h15, h25, h33, h45])
        · refine ev_bipush (v := (-2)) X d_X_create_36 (by decide) ?_
          exact ev_iretL X hr hk d_X_create_38 (by simp [vCreate, okC, h5, h15, h25, h33]) (by simp [sCreate, okC, h5, h15, h25, h33])
  · refine ev_iconst (v := (-1)) X d_X_create_8 (by decide) ?_
    exact ev_iretL X hr hk d_X_create_9 (by simp [vCreate, okC, h5]) (by simp [sCreate, okC, h5])
set_option maxHeartbeats 4000000 in
set_option maxRecDepth 100000 in
theorem c_X_run {l : Launch} {D : va_G} {ad : Nat → Nat} {ca : Nat → ClassId} {x : va_W} {S : St} {z q v : Int32}  : CtX l D ad ca x y_X_run b_X_run 5 (some .int) 4 [.ref (ad 0), .int z, .int q, .int v] S (sRun S z q v) (some (.int (vRun S z q))) := by
  refine ev_ent [some (.ref (ad 0)), some (.int z), some (.int q), some (.int v), none] rfl (by decide) (Nat.le_of_ble_eq_true rfl) rfl gTT (fun p e s m args below meth c A X hr hk => ?_)
  refine ev_aload_n X d_X_run_0 rfl ?_
  refine ev_iload_n X d_X_run_1 rfl ?_
  refine ev_cV1 X m_X_37 c_X_isBusy lo_this rfl rfl (by decide) (by decide) d_X_run_2 rfl rfl (Nat.le_of_ble_eq_true rfl) ?_
  refine ev_if_eqB (tgt := 10) X d_X_run_5 (by decide) (fun h5 => ?_) (fun h5 => ?_)
  · refine ev_aload_n X d_X_run_10 rfl ?_
    refine ev_iload_n X d_X_run_11 rfl ?_
    refine ev_cV1 X m_X_83 c_X_isThere lo_this rfl rfl (by decide) (by decide) d_X_run_12 rfl rfl (Nat.le_of_ble_eq_true rfl) ?_
    refine ev_if_neB (tgt := 21) X d_X_run_15 (by decide) (fun h15 => ?_) (fun h15 => ?_)
    · refine ev_aload_n X d_X_run_21 rfl ?_
      refine ev_getR X f_X_22 lo_this rfl d_X_run_22 ?_
      refine ev_iload_n X d_X_run_25 rfl ?_
      refine ev_aald X lr_en rfl (inr_z (thr_in h15)) (inr_j (k := 4) rfl (by decide) (thr_in h15)) d_X_run_26 ?_
      refine ev_astore X d_X_run_27 (by decide) ?_
      refine ev_aload X d_X_run_29 rfl ?_
      refine ev_getI X f_X_86 (lo_en (inr_j (k := 4) rfl (by decide) (thr_in h15))) rfl d_X_run_31 ?_
      refine ev_iconst (v := 1) X d_X_run_34 (by decide) ?_
      refine ev_icmp_eq (tgt := 50) X d_X_run_35 (by decide) (fun h35 => ?_) (fun h35 => ?_)
      · refine ev_aload X d_X_run_50 rfl ?_
        refine ev_getI X f_X_86 (lo_en (inr_j (k := 4) rfl (by decide) (thr_in h15))) rfl d_X_run_52 ?_
        refine ev_iconst (v := 1) X d_X_run_55 (by decide) ?_
        refine ev_icmp_ne (tgt := 65) X d_X_run_56 (by decide) (fun h56 => ?_) (fun h56 => ?_)
        · exact absurd h35 h56
        · refine ev_aload X d_X_run_59 rfl ?_
          refine ev_iload_n X d_X_run_61 rfl ?_
          refine ev_cV0 X m_X_89 (c_E_startWith (lo_en (inr_j (k := 4) rfl (by decide) (thr_in h15)))) (lo_en (inr_j (k := 4) rfl (by decide) (thr_in h15))) rfl rfl (by decide) (by decide) d_X_run_62 rfl rfl (Nat.le_of_ble_eq_true rfl) ?_
          refine ev_aload X d_X_run_65 rfl ?_
          refine ev_iconst (v := 2) X d_X_run_67 (by decide) ?_
          refine ev_putI X f_X_86 (lo_en (inr_j (k := 4) rfl (by decide) (thr_in h15))) rfl d_X_run_68 ?_
          refine ev_aload_n X d_X_run_71 rfl ?_
          refine ev_getR X f_X_29 lo_this rfl d_X_run_72 ?_
          refine ev_iload_n X d_X_run_75 rfl ?_
          refine ev_aald X lr_pr rfl (inr_z (busy_in h5)) (inr_j (k := 2) rfl (by decide) (busy_in h5)) d_X_run_76 ?_
          refine ev_iload_n X d_X_run_77 rfl ?_
          refine ev_putI X f_X_93 (lo_pr (inr_j (k := 2) rfl (by decide) (busy_in h5))) rfl d_X_run_78 ?_
          refine ev_aload_n X d_X_run_81 rfl ?_
          refine ev_aload_n X d_X_run_82 rfl ?_
          refine ev_getR X f_X_29 lo_this rfl d_X_run_83 ?_
          refine ev_iload_n X d_X_run_86 rfl ?_
          refine ev_aald X lr_pr rfl (inr_z (busy_in h5)) (inr_j (k := 2) rfl (by decide) (busy_in h5)) d_X_run_87 ?_
          refine ev_cV0 X m_X_96 (c_X_setGuards (lo_pr (inr_j (k := 2) rfl (by decide) (busy_in h5))) (Or.inr (by simp [up2_at, thr_in h15]))) lo_this rfl rfl (by decide) (by decide) d_X_run_88 rfl rfl (Nat.le_of_ble_eq_true rfl) ?_
          refine ev_iconst (v := 0) X d_X_run_91 (by decide) ?_
          exact ev_iretL X hr hk d_X_run_92 (by simp [vRun, h5, h15, h35, h56]) (by simp [sRun, goS, h5, h15, h35, h56])
      · refine ev_aload X d_X_run_38 rfl ?_
        refine ev_getI X f_X_86 (lo_en (inr_j (k := 4) rfl (by decide) (thr_in h15))) rfl d_X_run_40 ?_
        refine ev_iconst (v := 3) X d_X_run_43 (by decide) ?_
        refine ev_icmp_eq (tgt := 50) X d_X_run_44 (by decide) (fun h44 => ?_) (fun h44 => ?_)
        · refine ev_aload X d_X_run_50 rfl ?_
          refine ev_getI X f_X_86 (lo_en (inr_j (k := 4) rfl (by decide) (thr_in h15))) rfl d_X_run_52 ?_
          refine ev_iconst (v := 1) X d_X_run_55 (by decide) ?_
          refine ev_icmp_ne (tgt := 65) X d_X_run_56 (by decide) (fun h56 => ?_) (fun h56 => ?_)
          · refine ev_aload X d_X_run_65 rfl ?_
            refine ev_iconst (v := 2) X d_X_run_67 (by decide) ?_
            refine ev_putI X f_X_86 (lo_en (inr_j (k := 4) rfl (by decide) (thr_in h15))) rfl d_X_run_68 ?_
            refine ev_aload_n X d_X_run_71 rfl ?_
            refine ev_getR X f_X_29 lo_this rfl d_X_run_72 ?_
            refine ev_iload_n X d_X_run_75 rfl ?_
            refine ev_aald X lr_pr rfl (inr_z (busy_in h5)) (inr_j (k := 2) rfl (by decide) (busy_in h5)) d_X_run_76 ?_
            refine ev_iload_n X d_X_run_77 rfl ?_
            refine ev_putI X f_X_93 (lo_pr (inr_j (k := 2) rfl (by decide) (busy_in h5))) rfl d_X_run_78 ?_
            refine ev_aload_n X d_X_run_81 rfl ?_
            refine ev_aload_n X d_X_run_82 rfl ?_
            refine ev_getR X f_X_29 lo_this rfl d_X_run_83 ?_
            refine ev_iload_n X d_X_run_86 rfl ?_
            refine ev_aald X lr_pr rfl (inr_z (busy_in h5)) (inr_j (k := 2) rfl (by decide) (busy_in h5)) d_X_run_87 ?_
            refine ev_cV0 X m_X_96 (c_X_setGuards (lo_pr (inr_j (k := 2) rfl (by decide) (busy_in h5))) (Or.inr (by simp [up2_at, thr_in h15]))) lo_this rfl rfl (by decide) (by decide) d_X_run_88 rfl rfl (Nat.le_of_ble_eq_true rfl) ?_
            refine ev_iconst (v := 0) X d_X_run_91 (by decide) ?_
            exact ev_iretL X hr hk d_X_run_92 (by simp [vRun, h5, h15, h35, h44, h56]) (by simp [sRun, goS, h5, h15, h35, h44, h56])
          · exact absurd h56 h35
        · refine ev_bipush (v := (-2)) X d_X_run_47 (by decide) ?_
          exact ev_iretL X hr hk d_X_run_49 (by simp [vRun, h5, h15, h35, h44]) (by simp [sRun, goS, h5, h15, h35, h44])
    · refine ev_bipush (v := (-2)) X d_X_run_18 (by decide) ?_
      exact ev_iretL X hr hk d_X_run_20 (by simp [vRun, h5, h15]) (by simp [sRun, goS, h5, h15])
  · refine ev_iconst (v := (-1)) X d_X_run_8 (by decide) ?_
    exact ev_iretL X hr hk d_X_run_9 (by simp [vRun, h5]) (by simp [sRun, goS, h5])
theorem okN_ex {N : Int32} (h : okN N = true) : N = nI N.toNatClampNeg ∧ N.toNatClampNeg ≤ 100 := by
  simp only [okN, Bool.and_eq_true, Bool.not_eq_true', decide_eq_false_iff_not, decide_eq_true_eq] at h
  obtain ⟨h1, h2⟩ := h
  have hN0 : ¬ N < 0 := fun q => h1 (by
    have := Int32.lt_iff_toInt_lt.mp q
    refine Int32.lt_iff_toInt_lt.mpr ?_
    have e0 : (0 : Int32).toInt = 0 := by decide
    have e1 : (1 : Int32).toInt = 1 := by decide
    rw [e0] at this
    rw [e1]
    omega)
  obtain ⟨n, hn, rfl⟩ := nI_of hN0
  rw [nI_clamp hn]
  refine ⟨rfl, ?_⟩
  exact (nI_leI (b := 100) hn (by decide)).mp h2
set_option maxHeartbeats 4000000 in
set_option maxRecDepth 100000 in
theorem c_X_step {l : Launch} {D : va_G} {ad : Nat → Nat} {ca : Nat → ClassId} {x : va_W} {S : St} {z N : Int32} (hpe : ∀ k, k < 2 → PeOK S (13 + 14 * k)) : CtX l D ad ca x y_X_step b_X_step 6 (some .int) 5 [.ref (ad 0), .int z, .int N] S (sStep S z N) (some (.int (vStep S z N))) := by
  refine ev_ent [some (.ref (ad 0)), some (.int z), some (.int N), none, none, none] rfl (by decide) (Nat.le_of_ble_eq_true rfl) rfl gTT (fun p e s m args below meth c A X hr hk => ?_)
  have loop : ∀ (i j : Nat) (L : LyO lyX 41 i 2 (flP i)) (M : LyO lyX 41 j 3 (flE j)) (r k : Nat) (T : St), k + r ≤ 100 → vStep S z N = nI (stp i j r k T) → sStep S z N = endS (stS i j r T) i j → EV p l e (rmd 5) s m args below meth c 0 0 (MQ below (QQ clX D A (ly_w lyX 41 ad ca (sStep S z N) x) (some (.int (vStep S z N)))) args s 0 0 A) 6 D clX A s.heap (ly_w lyX 41 ad ca T x) 42 [some (.ref (ad 0)), some (.int z), some (.int (nI (k + r))), some (.ref (ad i)), some (.ref (ad j)), some (.int (nI k))] [] := by
    intro i j L M r
    induction r with
    | zero =>
      intro k T q1 q2 q3
      refine ev_iload X d_X_step_42 rfl ?_
      refine ev_iload_n X d_X_step_44 rfl ?_
      refine ev_icmp_ge (tgt := 70) X d_X_step_45 (by decide) (fun h45 => ?_) (fun h45 => ?_)
      · refine ev_aload X d_X_step_70 rfl ?_
        refine ev_getI X f_X_86 M rfl d_X_step_72 ?_
        refine ev_iconst (v := 2) X d_X_step_75 (by decide) ?_
        refine ev_icmp_eq (tgt := 84) X d_X_step_76 (by decide) (fun h76 => ?_) (fun h76 => ?_)
        · refine ev_iload X d_X_step_84 rfl ?_
          exact ev_iretL X hr hk d_X_step_86 (by rw [q2]; rfl) (by rw [q3]; simp [endS, stS, h76])
        · refine ev_aload_n X d_X_step_79 rfl ?_
          refine ev_aload_n X d_X_step_80 rfl ?_
          refine ev_cV0 X m_X_107 (c_X_runSystem L) lo_this rfl rfl (by decide) (by decide) d_X_step_81 rfl rfl (Nat.le_of_ble_eq_true rfl) ?_
          refine ev_iload X d_X_step_84 rfl ?_
          exact ev_iretL X hr hk d_X_step_86 (by rw [q2]; rfl) (by rw [q3]; simp [endS, stS, h76])
      · exact absurd (nI_le (by omega) (by omega)) h45
    | succ r ih =>
      intro k T q1 q2 q3
      refine ev_iload X d_X_step_42 rfl ?_
      refine ev_iload_n X d_X_step_44 rfl ?_
      refine ev_icmp_ge (tgt := 70) X d_X_step_45 (by decide) (fun h45 => ?_) (fun h45 => ?_)
      · exact absurd h45 (nI_ge (by omega) (by omega))
      · refine ev_aload X d_X_step_48 rfl ?_
        refine ev_getI X f_X_86 M rfl d_X_step_50 ?_
        refine ev_iconst (v := 2) X d_X_step_53 (by decide) ?_
        refine ev_icmp_ne (tgt := 70) X d_X_step_54 (by decide) (fun h54 => ?_) (fun h54 => ?_)
        · refine ev_aload X d_X_step_70 rfl ?_
          refine ev_getI X f_X_86 M rfl d_X_step_72 ?_
          refine ev_iconst (v := 2) X d_X_step_75 (by decide) ?_
          refine ev_icmp_eq (tgt := 84) X d_X_step_76 (by decide) (fun h76 => ?_) (fun h76 => ?_)
          · exact absurd h76 h54
          · refine ev_aload_n X d_X_step_79 rfl ?_
            refine ev_aload_n X d_X_step_80 rfl ?_
            refine ev_cV0 X m_X_107 (c_X_runSystem L) lo_this rfl rfl (by decide) (by decide) d_X_step_81 rfl rfl (Nat.le_of_ble_eq_true rfl) ?_
            refine ev_iload X d_X_step_84 rfl ?_
            exact ev_iretL X hr hk d_X_step_86 (by rw [q2]; simp [stp, h54]) (by rw [q3]; simp [endS, stS, h54])
        · refine ev_aload_n X d_X_step_57 rfl ?_
          refine ev_aload_n X d_X_step_58 rfl ?_
          refine ev_aload X d_X_step_59 rfl ?_
          refine ev_cV0 X m_X_103 (c_X_makeStep L M) lo_this rfl rfl (by decide) (by decide) d_X_step_61 rfl rfl (Nat.le_of_ble_eq_true rfl) ?_
          refine ev_iinc (v := nI (k + 1)) X d_X_step_64 rfl (nI_1 k) (by decide) ?_
          refine ev_goto (tgt := 42) X d_X_step_67 (by decide) ?_
          refine ev_of rfl rfl (lv1 := [some (.ref (ad 0)), some (.int z), some (.int (nI (k + 1 + r))), some (.ref (ad i)), some (.ref (ad j)), some (.int (nI (k + 1)))]) (by rw [show k + 1 + r = k + (r + 1) by omega]; rfl) rfl ?_
          exact ih (k + 1) (mkS T i j) (by omega) (by rw [q2]; simp [stp, h54]) (by rw [q3]; simp [stS, h54])
  refine ev_aload_n X d_X_step_0 rfl ?_
  refine ev_iload_n X d_X_step_1 rfl ?_
  refine ev_cV1 X m_X_100 c_X_runsEnclave lo_this rfl rfl (by decide) (by decide) d_X_step_2 rfl rfl (Nat.le_of_ble_eq_true rfl) ?_
  refine ev_if_eqB (tgt := 19) X d_X_step_5 (by decide) (fun h5 => ?_) (fun h5 => ?_)
  · refine ev_iconst (v := (-1)) X d_X_step_19 (by decide) ?_
    exact ev_iretL X hr hk d_X_step_20 (by simp [vStep, okN, h5]) (by simp [sStep, okN, h5])
  · refine ev_iload_n X d_X_step_8 rfl ?_
    refine ev_iconst (v := 1) X d_X_step_9 (by decide) ?_
    refine ev_icmp_lt (tgt := 19) X d_X_step_10 (by decide) (fun h10 => ?_) (fun h10 => ?_)
    · refine ev_iconst (v := (-1)) X d_X_step_19 (by decide) ?_
      exact ev_iretL X hr hk d_X_step_20 (by simp [vStep, okN, h5, h10]) (by simp [sStep, okN, h5, h10])
    · refine ev_iload_n X d_X_step_13 rfl ?_
      refine ev_bipush (v := 100) X d_X_step_14 (by decide) ?_
      refine ev_icmp_le (tgt := 21) X d_X_step_16 (by decide) (fun h16 => ?_) (fun h16 => ?_)
      · have hok : okN N = true := by simp [okN, h10, h16]
        obtain ⟨hNz, hNl⟩ := okN_ex hok
        refine ev_aload_n X d_X_step_21 rfl ?_
        refine ev_getR X f_X_29 lo_this rfl d_X_step_22 ?_
        refine ev_iload_n X d_X_step_25 rfl ?_
        refine ev_aald X lr_pr rfl (inr_z (runs_in h5)) (inr_j (k := 2) rfl (by decide) (runs_in h5)) d_X_step_26 ?_
        refine ev_astore_n X d_X_step_27 (by decide) ?_
        refine ev_aload_n X d_X_step_28 rfl ?_
        refine ev_getR X f_X_22 lo_this rfl d_X_step_29 ?_
        refine ev_aload_n X d_X_step_32 rfl ?_
        refine ev_getI X f_X_93 (lo_pr (inr_j (k := 2) rfl (by decide) (runs_in h5))) rfl d_X_step_33 ?_
        refine ev_aald X lr_en rfl (inr_z ((hpe _ (inr_j (k := 2) rfl (by decide) (runs_in h5))).resolve_left (runs_no h5))) (inr_j (k := 4) rfl (by decide) ((hpe _ (inr_j (k := 2) rfl (by decide) (runs_in h5))).resolve_left (runs_no h5))) d_X_step_36 ?_
        refine ev_astore X d_X_step_37 (by decide) ?_
        refine ev_iconst (v := 0) X d_X_step_39 (by decide) ?_
        refine ev_istore X d_X_step_40 (by decide) ?_
        refine ev_of rfl rfl (lv1 := [some (.ref (ad 0)), some (.int z), some (.int (nI (0 + N.toNatClampNeg))), some (.ref (ad (13 + 14 * z.toNatClampNeg))), some (.ref (ad (enOf S z))), some (.int (nI 0))]) (by rw [Nat.zero_add, ← hNz]; rfl) rfl ?_
        exact loop _ _ (lo_pr (inr_j (k := 2) rfl (by decide) (runs_in h5))) (lo_en (inr_j (k := 4) rfl (by decide) ((hpe _ (inr_j (k := 2) rfl (by decide) (runs_in h5))).resolve_left (runs_no h5)))) N.toNatClampNeg 0 S (by omega) (by simp [vStep, enOf, h5, hok]) (by simp [sStep, enOf, h5, hok])
      · refine ev_iconst (v := (-1)) X d_X_step_19 (by decide) ?_
        exact ev_iretL X hr hk d_X_step_20 (by simp [vStep, okN, h5, h10, h16]) (by simp [sStep, okN, h5, h10, h16])
set_option maxHeartbeats 4000000 in
set_option maxRecDepth 100000 in
theorem c_X_interrupt {l : Launch} {D : va_G} {ad : Nat → Nat} {ca : Nat → ClassId} {x : va_W} {S : St} {z : Int32} (hpe : ∀ k, k < 2 → PeOK S (13 + 14 * k)) : CtX l D ad ca x y_X_interrupt b_X_interrupt 4 (some .int) 5 [.ref (ad 0), .int z] S (sInt S z) (some (.int (vInt S z))) := by
  refine ev_ent [some (.ref (ad 0)), some (.int z), none, none] rfl (by decide) (Nat.le_of_ble_eq_true rfl) rfl gTT (fun p e s m args below meth c A X hr hk => ?_)
  refine ev_aload_n X d_X_interrupt_0 rfl ?_
  refine ev_iload_n X d_X_interrupt_1 rfl ?_
  refine ev_cV1 X m_X_100 c_X_runsEnclave lo_this rfl rfl (by decide) (by decide) d_X_interrupt_2 rfl rfl (Nat.le_of_ble_eq_true rfl) ?_
  refine ev_if_neB (tgt := 10) X d_X_interrupt_5 (by decide) (fun h5 => ?_) (fun h5 => ?_)
  · refine ev_aload_n X d_X_interrupt_10 rfl ?_
    refine ev_getR X f_X_29 lo_this rfl d_X_interrupt_11 ?_
    refine ev_iload_n X d_X_interrupt_14 rfl ?_
    refine ev_aald X lr_pr rfl (inr_z (runs_in h5)) (inr_j (k := 2) rfl (by decide) (runs_in h5)) d_X_interrupt_15 ?_
    refine ev_astore_n X d_X_interrupt_16 (by decide) ?_
    refine ev_aload_n X d_X_interrupt_17 rfl ?_
    refine ev_getI X f_X_93 (lo_pr (inr_j (k := 2) rfl (by decide) (runs_in h5))) rfl d_X_interrupt_18 ?_
    refine ev_istore_n X d_X_interrupt_21 (by decide) ?_
    refine ev_aload_n X d_X_interrupt_22 rfl ?_
    refine ev_getR X f_X_22 lo_this rfl d_X_interrupt_23 ?_
    refine ev_iload_n X d_X_interrupt_26 rfl ?_
    refine ev_aald X lr_en rfl (inr_z ((hpe _ (inr_j (k := 2) rfl (by decide) (runs_in h5))).resolve_left (runs_no h5))) (inr_j (k := 4) rfl (by decide) ((hpe _ (inr_j (k := 2) rfl (by decide) (runs_in h5))).resolve_left (runs_no h5))) d_X_interrupt_27 ?_
    refine ev_iconst (v := 3) X d_X_interrupt_28 (by decide) ?_
    refine ev_putI X f_X_86 (lo_en (inr_j (k := 4) rfl (by decide) ((hpe _ (inr_j (k := 2) rfl (by decide) (runs_in h5))).resolve_left (runs_no h5)))) rfl d_X_interrupt_29 ?_
    refine ev_aload_n X d_X_interrupt_32 rfl ?_
    refine ev_aload_n X d_X_interrupt_33 rfl ?_
    refine ev_cV0 X m_X_107 (c_X_runSystem (lo_pr (inr_j (k := 2) rfl (by decide) (runs_in h5)))) lo_this rfl rfl (by decide) (by decide) d_X_interrupt_34 rfl rfl (Nat.le_of_ble_eq_true rfl) ?_
    refine ev_iload_n X d_X_interrupt_37 rfl ?_
    exact ev_iretL X hr hk d_X_interrupt_38 (by simp [vInt, h5]) (by simp [sInt, enOf, h5])
  · refine ev_iconst (v := (-1)) X d_X_interrupt_8 (by decide) ?_
    exact ev_iretL X hr hk d_X_interrupt_9 (by simp [vInt, h5]) (by simp [sInt, enOf, h5])
set_option maxHeartbeats 4000000 in
set_option maxRecDepth 100000 in
theorem c_X_destroy {l : Launch} {D : va_G} {ad : Nat → Nat} {ca : Nat → ClassId} {x : va_W} {S : St} {z q : Int32} (hpe : ∀ k, k < 2 → PeOK S (13 + 14 * k)) (hen : ∀ k, k < 4 → ¬ S (4 + 2 * k) 1 = 0 → EnOK S (4 + 2 * k)) : CtX l D ad ca x y_X_destroy b_X_destroy 3 (some .int) 6 [.ref (ad 0), .int z, .int q] S (sDes S z q) (some (.int (vDes S z q))) := by
  refine ev_ent [some (.ref (ad 0)), some (.int z), some (.int q)] rfl (by decide) (Nat.le_of_ble_eq_true rfl) rfl gTT (fun p e s m args below meth c A X hr hk => ?_)
  refine ev_aload_n X d_X_destroy_0 rfl ?_
  refine ev_iload_n X d_X_destroy_1 rfl ?_
  refine ev_cV1 X m_X_37 c_X_isBusy lo_this rfl rfl (by decide) (by decide) d_X_destroy_2 rfl rfl (Nat.le_of_ble_eq_true rfl) ?_
  refine ev_if_eqB (tgt := 10) X d_X_destroy_5 (by decide) (fun h5 => ?_) (fun h5 => ?_)
  · refine ev_aload_n X d_X_destroy_10 rfl ?_
    refine ev_iload_n X d_X_destroy_11 rfl ?_
    refine ev_cV1 X m_X_83 c_X_isThere lo_this rfl rfl (by decide) (by decide) d_X_destroy_12 rfl rfl (Nat.le_of_ble_eq_true rfl) ?_
    refine ev_if_neB (tgt := 21) X d_X_destroy_15 (by decide) (fun h15 => ?_) (fun h15 => ?_)
    · refine ev_aload_n X d_X_destroy_21 rfl ?_
      refine ev_getR X f_X_22 lo_this rfl d_X_destroy_22 ?_
      refine ev_iload_n X d_X_destroy_25 rfl ?_
      refine ev_aald X lr_en rfl (inr_z (thr_in h15)) (inr_j (k := 4) rfl (by decide) (thr_in h15)) d_X_destroy_26 ?_
      refine ev_getI X f_X_86 (lo_en (inr_j (k := 4) rfl (by decide) (thr_in h15))) rfl d_X_destroy_27 ?_
      refine ev_iconst (v := 2) X d_X_destroy_30 (by decide) ?_
      refine ev_icmp_ne (tgt := 37) X d_X_destroy_31 (by decide) (fun h31 => ?_) (fun h31 => ?_)
      · refine ev_aload_n X d_X_destroy_37 rfl ?_
        refine ev_aload_n X d_X_destroy_38 rfl ?_
        refine ev_getR X f_X_22 lo_this rfl d_X_destroy_39 ?_
        refine ev_iload_n X d_X_destroy_42 rfl ?_
        refine ev_aald X lr_en rfl (inr_z (thr_in h15)) (inr_j (k := 4) rfl (by decide) (thr_in h15)) d_X_destroy_43 ?_
        have hE := hen _ (inr_j (k := 4) rfl (by decide) (thr_in h15)) (thr_no h15)
        refine ev_cV0 X m_X_110 (c_X_removeEnclave (lo_en (inr_j (k := 4) rfl (by decide) (thr_in h15))) hE.1 hE.2.1 hE.2.2 (hpe 0 (by decide)) (hpe 1 (by decide))) lo_this rfl rfl (by decide) (by decide) d_X_destroy_44 rfl rfl (Nat.le_of_ble_eq_true rfl) ?_
        refine ev_iconst (v := 0) X d_X_destroy_47 (by decide) ?_
        exact ev_iretL X hr hk d_X_destroy_48 (by simp [vDes, h5, h15, h31]) (by simp [sDes, h5, h15, h31])
      · refine ev_bipush (v := (-3)) X d_X_destroy_34 (by decide) ?_
        exact ev_iretL X hr hk d_X_destroy_36 (by simp [vDes, h5, h15, h31]) (by simp [sDes, h5, h15, h31])
    · refine ev_bipush (v := (-2)) X d_X_destroy_18 (by decide) ?_
      exact ev_iretL X hr hk d_X_destroy_20 (by simp [vDes, h5, h15]) (by simp [sDes, h5, h15])
  · refine ev_iconst (v := (-1)) X d_X_destroy_8 (by decide) ?_
    exact ev_iretL X hr hk d_X_destroy_9 (by simp [vDes, h5]) (by simp [sDes, h5])
