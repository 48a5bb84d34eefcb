def rgM (S : St) (e k : Nat) (v : Int32) : St := fun c j => if c = 13 ∧ 8 * e ≤ j ∧ j < 8 * e + k then (if j = 8 * e + 1 then v else 0) else S c j
theorem rgM_nil (S : St) (e : Nat) (v : Int32) : rgM S e 0 v = S := by
  funext c j
  unfold rgM
  rw [if_neg (by omega)]
theorem rgM_up {S : St} {e k : Nat} {v : Int32} : up2 (rgM S e k v) 13 (8 * e + k) (if k = 1 then v else 0) = rgM S e (k + 1) v := by
  funext c j
  rw [up2_at]
  unfold rgM
  by_cases h1 : c = 13 ∧ j = 8 * e + k
  · rw [if_pos h1, if_pos (show c = 13 ∧ 8 * e ≤ j ∧ j < 8 * e + (k + 1) from ⟨h1.1, by omega, by omega⟩)]
    by_cases h2 : k = 1
    · rw [if_pos h2, if_pos (show j = 8 * e + 1 by omega)]
    · rw [if_neg h2, if_neg (show ¬ j = 8 * e + 1 by omega)]
  · rw [if_neg h1]
    by_cases h2 : c = 13 ∧ 8 * e ≤ j ∧ j < 8 * e + k
    · rw [if_pos h2, if_pos (show c = 13 ∧ 8 * e ≤ j ∧ j < 8 * e + (k + 1) from ⟨h2.1, h2.2.1, by omega⟩)]
    · rw [if_neg h2, if_neg (show ¬ (c = 13 ∧ 8 * e ≤ j ∧ j < 8 * e + (k + 1)) by omega)]
theorem k32_n {q : Int32} {k : Nat} (hq : inr q 4 = true) (hk : k < 8) : 8 * q + nI k = nI (8 * q.toNatClampNeg + k) ∧ 8 * q.toNatClampNeg + k < 32 := by
  have h := k32_in hq (inr_nI (k := 8) hk (by decide))
  rw [nI_clamp (by omega)] at h
  exact h
def tGo (S : St) (z q : Int32) : St := up2 (up2 S 5 q.toNatClampNeg 2) 4 z.toNatClampNeg q
def tSt (S : St) (q v : Int32) : St := up2 (rgM S q.toNatClampNeg 8 v) 12 q.toNatClampNeg (rgM S q.toNatClampNeg 8 v 8 q.toNatClampNeg)
def wRun (S : St) (z q : Int32) : Int32 := if bsM S z = true then -1 else if thM S q = false then -2 else if S 5 q.toNatClampNeg = 1 then 0 else if S 5 q.toNatClampNeg = 3 then 0 else -2
def tRun (S : St) (z q v : Int32) : St := if bsM S z = true then S else if thM S q = false then S else if S 5 q.toNatClampNeg = 1 then tGo (tSt S q v) z q else if S 5 q.toNatClampNeg = 3 then tGo S z q else S
set_option maxHeartbeats 4000000 in
set_option maxRecDepth 100000 in
theorem c_M_run {l : Launch} {D : va_G} {ad : Nat → Nat} {ca : Nat → ClassId} {x : va_W} {S : St} {z q v : Int32}  : CtM l D ad ca x y_M_run b_M_run 5 (some .int) 2 [.ref (ad 0), .int z, .int q, .int v] S (tRun S z q v) (some (.int (wRun S z q))) := by
  refine ev_ent [some (.ref (ad 0)), some (.int z), some (.int q), some (.int v), none] rfl (by decide) (Nat.le_of_ble_eq_true rfl) rfl gTT (fun p e s m args below meth c A X hr hk => ?_)
  have loop : inr z 2 = true → inr q 4 = true → wRun S z q = 0 → tRun S z q v = tGo (tSt S q v) z q → ∀ (r k : Nat), k + r = 8 → EV p l e (rmd 2) s m args below meth c 0 0 (MQ below (QQ clX D A (ly_w lyM 14 ad ca (tRun S z q v) x) (some (.int (wRun S z q)))) args s 0 0 A) 5 D clX A s.heap (ly_w lyM 14 ad ca (rgM S q.toNatClampNeg k v) x) 54 [some (.ref (ad 0)), some (.int z), some (.int q), some (.int v), some (.int (nI k))] [] := by
    intro hz hq g1 g2 r
    induction r with
    | zero =>
      intro k q1
      refine ev_iload X d_M_run_54 rfl ?_
      refine ev_bipush (v := 8) X d_M_run_56 (by decide) ?_
      refine ev_icmp_ge (tgt := 90) X d_M_run_58 (by decide) (fun h58 => ?_) (fun h58 => ?_)
      · refine ev_aload_n X d_M_run_90 rfl ?_
        refine ev_getR X f_M_43 lo_mod rfl d_M_run_91 ?_
        refine ev_iload_n X d_M_run_94 rfl ?_
        refine ev_aload_n X d_M_run_95 rfl ?_
        refine ev_getR X f_M_31 lo_mod rfl d_M_run_96 ?_
        refine ev_iload_n X d_M_run_99 rfl ?_
        refine ev_iald X lm_entries rfl (inr_z hq) (inr_j (k := 4) rfl (by decide) hq) d_M_run_100 ?_
        refine ev_iast X lm_counters rfl (inr_z hq) (inr_j (k := 4) rfl (by decide) hq) d_M_run_101 ?_
        refine ev_aload_n X d_M_run_102 rfl ?_
        refine ev_getR X f_M_22 lo_mod rfl d_M_run_103 ?_
        refine ev_iload_n X d_M_run_106 rfl ?_
        refine ev_iconst (v := 2) X d_M_run_107 (by decide) ?_
        refine ev_iast X lm_states rfl (inr_z hq) (inr_j (k := 4) rfl (by decide) hq) d_M_run_108 ?_
        refine ev_aload_n X d_M_run_109 rfl ?_
        refine ev_getR X f_M_19 lo_mod rfl d_M_run_110 ?_
        refine ev_iload_n X d_M_run_113 rfl ?_
        refine ev_iload_n X d_M_run_114 rfl ?_
        refine ev_iast X lm_runs rfl (inr_z hz) (inr_j (k := 2) rfl (by decide) hz) d_M_run_115 ?_
        refine ev_iconst (v := 0) X d_M_run_116 (by decide) ?_
        exact ev_iretL X hr hk d_M_run_117 (by rw [g1]) (by rw [g2, show k = 8 by omega]; rfl)
      · exact absurd (nI_le (a := 8) (by omega) (by omega)) h58
    | succ r ih =>
      intro k q1
      refine ev_iload X d_M_run_54 rfl ?_
      refine ev_bipush (v := 8) X d_M_run_56 (by decide) ?_
      refine ev_icmp_ge (tgt := 90) X d_M_run_58 (by decide) (fun h58 => ?_) (fun h58 => ?_)
      · exact absurd h58 (nI_ge (b := 8) (by omega) (by decide))
      · refine ev_aload_n X d_M_run_61 rfl ?_
        refine ev_getR X f_M_46 lo_mod rfl d_M_run_62 ?_
        refine ev_bipush (v := 8) X d_M_run_65 (by decide) ?_
        refine ev_iload_n X d_M_run_67 rfl ?_
        refine ev_imul X d_M_run_68 ?_
        refine ev_iload X d_M_run_69 rfl ?_
        refine ev_iadd X d_M_run_71 ?_
        refine ev_iload X d_M_run_72 rfl ?_
        refine ev_iconst (v := 1) X d_M_run_74 (by decide) ?_
        refine ev_icmp_ne (tgt := 82) X d_M_run_75 (by decide) (fun h75 => ?_) (fun h75 => ?_)
        · have hk1 : ¬ k = 1 := fun q => h75 (by rw [q]; rfl)
          refine ev_iconst (v := 0) X d_M_run_82 (by decide) ?_
          refine ev_topi (v := if k = 1 then v else 0) (by simp [hk1]) ?_
          refine ev_iast X lm_r rfl (k32_n hq (by omega)).1 (k32_n hq (by omega)).2 d_M_run_83 ?_
          refine ev_iinc (v := nI (k + 1)) X d_M_run_84 rfl (nI_1 k) (by decide) ?_
          refine ev_goto (tgt := 54) X d_M_run_87 (by decide) ?_
          rw [rgM_up]
          exact ih (k + 1) (by omega)
        · have hk1 : k = 1 := (nI_eq (b := 1) (by omega) (by decide)).mp h75
          refine ev_iload_n X d_M_run_78 rfl ?_
          refine ev_goto (tgt := 83) X d_M_run_79 (by decide) ?_
          refine ev_topi (v := if k = 1 then v else 0) (by simp [hk1]) ?_
          refine ev_iast X lm_r rfl (k32_n hq (by omega)).1 (k32_n hq (by omega)).2 d_M_run_83 ?_
          refine ev_iinc (v := nI (k + 1)) X d_M_run_84 rfl (nI_1 k) (by decide) ?_
          refine ev_goto (tgt := 54) X d_M_run_87 (by decide) ?_
          rw [rgM_up]
          exact ih (k + 1) (by omega)
  refine ev_aload_n X d_M_run_0 rfl ?_
  refine ev_iload_n X d_M_run_1 rfl ?_
  refine ev_cV1 X m_M_66 c_M_busy lo_mod rfl rfl (by decide) (by decide) d_M_run_2 rfl rfl (Nat.le_of_ble_eq_true rfl) ?_
  refine ev_if_eqB (tgt := 10) X d_M_run_5 (by decide) (fun h5 => ?_) (fun h5 => ?_)
  · refine ev_aload_n X d_M_run_10 rfl ?_
    refine ev_iload_n X d_M_run_11 rfl ?_
    refine ev_cV1 X m_M_88 c_M_there lo_mod rfl rfl (by decide) (by decide) d_M_run_12 rfl rfl (Nat.le_of_ble_eq_true rfl) ?_
    refine ev_if_eqB (tgt := 38) X d_M_run_15 (by decide) (fun h15 => ?_) (fun h15 => ?_)
    · refine ev_bipush (v := (-2)) X d_M_run_38 (by decide) ?_
      exact ev_iretL X hr hk d_M_run_40 (by simp [wRun, h5, h15]) (by simp [tRun, tGo, h5, h15])
    · refine ev_aload_n X d_M_run_18 rfl ?_
      refine ev_getR X f_M_22 lo_mod rfl d_M_run_19 ?_
      refine ev_iload_n X d_M_run_22 rfl ?_
      refine ev_iald X lm_states rfl (inr_z (thM_in h15)) (inr_j (k := 4) rfl (by decide) (thM_in h15)) d_M_run_23 ?_
      refine ev_iconst (v := 1) X d_M_run_24 (by decide) ?_
      refine ev_icmp_eq (tgt := 41) X d_M_run_25 (by decide) (fun h25 => ?_) (fun h25 => ?_)
      · refine ev_aload_n X d_M_run_41 rfl ?_
        refine ev_getR X f_M_22 lo_mod rfl d_M_run_42 ?_
        refine ev_iload_n X d_M_run_45 rfl ?_
        refine ev_iald X lm_states rfl (inr_z (thM_in h15)) (inr_j (k := 4) rfl (by decide) (thM_in h15)) d_M_run_46 ?_
        refine ev_iconst (v := 1) X d_M_run_47 (by decide) ?_
        refine ev_icmp_ne (tgt := 102) X d_M_run_48 (by decide) (fun h48 => ?_) (fun h48 => ?_)
        · exact absurd h25 h48
        · refine ev_iconst (v := 0) X d_M_run_51 (by decide) ?_
          refine ev_istore X d_M_run_52 (by decide) ?_
          refine ev_of (w1 := ly_w lyM 14 ad ca (rgM S q.toNatClampNeg 0 v) x) (by rw [rgM_nil]) rfl rfl rfl ?_
          exact loop (bsM_in h5) (thM_in h15) (by simp [wRun, h5, h15, h25]) (by simp [tRun, h5, h15, h25]) 8 0 rfl
      · refine ev_aload_n X d_M_run_28 rfl ?_
        refine ev_getR X f_M_22 lo_mod rfl d_M_run_29 ?_
        refine ev_iload_n X d_M_run_32 rfl ?_
        refine ev_iald X lm_states rfl (inr_z (thM_in h15)) (inr_j (k := 4) rfl (by decide) (thM_in h15)) d_M_run_33 ?_
        refine ev_iconst (v := 3) X d_M_run_34 (by decide) ?_
        refine ev_icmp_eq (tgt := 41) X d_M_run_35 (by decide) (fun h35 => ?_) (fun h35 => ?_)
        · refine ev_aload_n X d_M_run_41 rfl ?_
          refine ev_getR X f_M_22 lo_mod rfl d_M_run_42 ?_
          refine ev_iload_n X d_M_run_45 rfl ?_
          refine ev_iald X lm_states rfl (inr_z (thM_in h15)) (inr_j (k := 4) rfl (by decide) (thM_in h15)) d_M_run_46 ?_
          refine ev_iconst (v := 1) X d_M_run_47 (by decide) ?_
          refine ev_icmp_ne (tgt := 102) X d_M_run_48 (by decide) (fun h48 => ?_) (fun h48 => ?_)
          · refine ev_aload_n X d_M_run_102 rfl ?_
            refine ev_getR X f_M_22 lo_mod rfl d_M_run_103 ?_
            refine ev_iload_n X d_M_run_106 rfl ?_
            refine ev_iconst (v := 2) X d_M_run_107 (by decide) ?_
            refine ev_iast X lm_states rfl (inr_z (thM_in h15)) (inr_j (k := 4) rfl (by decide) (thM_in h15)) d_M_run_108 ?_
            refine ev_aload_n X d_M_run_109 rfl ?_
            refine ev_getR X f_M_19 lo_mod rfl d_M_run_110 ?_
            refine ev_iload_n X d_M_run_113 rfl ?_
            refine ev_iload_n X d_M_run_114 rfl ?_
            refine ev_iast X lm_runs rfl (inr_z (bsM_in h5)) (inr_j (k := 2) rfl (by decide) (bsM_in h5)) d_M_run_115 ?_
            refine ev_iconst (v := 0) X d_M_run_116 (by decide) ?_
            exact ev_iretL X hr hk d_M_run_117 (by simp [wRun, h5, h15, h25, h35, h48]) (by simp [tRun, tGo, h5, h15, h25, h35, h48])
          · exact absurd h48 h25
        · refine ev_bipush (v := (-2)) X d_M_run_38 (by decide) ?_
          exact ev_iretL X hr hk d_M_run_40 (by simp [wRun, h5, h15, h25, h35]) (by simp [tRun, tGo, h5, h15, h25, h35])
  · refine ev_iconst (v := (-1)) X d_M_run_8 (by decide) ?_
    exact ev_iretL X hr hk d_M_run_9 (by simp [wRun, h5]) (by simp [tRun, tGo, h5])
noncomputable def wkM (S : St) (q o : Int32) (a b : Nat) (t h : Int32) : St :=
  if o = 1 then up2 S 13 a t else if o = 2 then up2 S 13 a (S 13 a + S 13 b) else if o = 3 then up2 S 13 a (S 13 a ^^^ S 13 b) else if o = 4 then up2 S 13 a (S 1 t.toNatClampNeg)
  else if o = 5 then up2 S 1 t.toNatClampNeg (S 13 a) else if o = 7 then up2 S 13 a (h + 1) else if o = 8 then up2 S 13 a (prfS (S 0 0) (S 10 (S 4 q.toNatClampNeg).toNatClampNeg) (S 13 b))
  else if o = 9 then up2 S 13 a (secS (S 0 0) (S 10 (S 4 q.toNatClampNeg).toNatClampNeg)) else if o = 10 then lvM S q.toNatClampNeg 3 else S
def ixA (S : St) (q v : Int32) : Nat := 8 * (S 4 q.toNatClampNeg).toNatClampNeg + (fA v).toNatClampNeg
def ixB (S : St) (q v : Int32) : Nat := 8 * (S 4 q.toNatClampNeg).toNatClampNeg + (fB v).toNatClampNeg
def atM (S : St) (q v : Int32) : Int32 := S 13 (ixB S q v) + fI v
def pcM (S : St) (q v h : Int32) : Int32 := if fO v = 7 then atM S q v else if fO v = 6 ∧ S 13 (ixA S q v) = 0 then h + 1 + fI v else h + 1
noncomputable def onW (S : St) (q v h : Int32) : St :=
  if fO v = 0 then edM S q.toNatClampNeg 4 (S 13 (ixA S q v)) else if ¬ fO v ≤ 10 then edM S q.toNatClampNeg 5 4
  else if fO v = 4 ∧ alM S q (atM S q v) 1 = false then edM S q.toNatClampNeg 5 2 else if fO v = 5 ∧ alM S q (atM S q v) 2 = false then edM S q.toNatClampNeg 5 3
  else wkM (up2 S 12 (S 4 q.toNatClampNeg).toNatClampNeg (pcM S q v h)) q (fO v) (ixA S q v) (ixB S q v) (atM S q v) h
noncomputable def onM (S : St) (q : Int32) : St :=
  if alM S q (S 12 (S 4 q.toNatClampNeg).toNatClampNeg) 4 = true then onW S q (S 1 (S 12 (S 4 q.toNatClampNeg).toNatClampNeg).toNatClampNeg) (S 12 (S 4 q.toNatClampNeg).toNatClampNeg) else edM S q.toNatClampNeg 5 1
theorem sw_out110 {z : Int32} (h1 : ¬ z = 1) (h2 : ¬ z = 2) (h3 : ¬ z = 3) (h4 : ¬ z = 4) (h5 : ¬ z = 5) (h6 : ¬ z = 6) (h7 : ¬ z = 7) (h8 : ¬ z = 8) (h9 : ¬ z = 9) (h10 : ¬ z = 10) : z.toInt < 1 ∨ 10 < z.toInt := by
  have a1 := lv_neT h1 (a := 1) (by decide)
  have a2 := lv_neT h2 (a := 2) (by decide)
  have a3 := lv_neT h3 (a := 3) (by decide)
  have a4 := lv_neT h4 (a := 4) (by decide)
  have a5 := lv_neT h5 (a := 5) (by decide)
  have a6 := lv_neT h6 (a := 6) (by decide)
  have a7 := lv_neT h7 (a := 7) (by decide)
  have a8 := lv_neT h8 (a := 8) (by decide)
  have a9 := lv_neT h9 (a := 9) (by decide)
  have a10 := lv_neT h10 (a := 10) (by decide)
  omega
set_option maxHeartbeats 4000000 in
set_option maxRecDepth 100000 in
theorem c_M_work {l : Launch} {D : va_G} {ad : Nat → Nat} {ca : Nat → ClassId} {x : va_W} {S : St} {q o t h : Int32} {a b : Nat} (hq : inr q 2 = true) (he : inr (S 4 q.toNatClampNeg) 4 = true) (ha : a < 32) (hb : b < 32) (ht : o = 4 ∨ o = 5 → inr t 256 = true) : CtM l D ad ca x y_M_work b_M_work 8 none 2 [.ref (ad 0), .int q, .int o, .int (nI a), .int (nI b), .int t, .int h] S (wkM S q o a b t h) none := by
  refine ev_ent [some (.ref (ad 0)), some (.int q), some (.int o), some (.int (nI a)), some (.int (nI b)), some (.int t), some (.int h), none] rfl (by decide) (Nat.le_of_ble_eq_true rfl) rfl gTT (fun p e s m args below meth c A X hr hk => ?_)
  refine ev_aload_n X d_M_work_0 rfl ?_
  refine ev_getR X f_M_19 lo_mod rfl d_M_work_1 ?_
  refine ev_iload_n X d_M_work_4 rfl ?_
  refine ev_iald X lm_runs rfl (inr_z hq) (inr_j (k := 2) rfl (by decide) hq) d_M_work_5 ?_
  refine ev_istore X d_M_work_6 (by decide) ?_
  refine ev_iload_n X d_M_work_8 rfl ?_
  by_cases q1 : o = 1
  · refine ev_topi (v := 1) q1 ?_
    refine ev_tableIn (tgt := 64) X d_M_work_9 (by decide) (by decide) rfl (by decide) ?_
    refine ev_aload_n X d_M_work_64 rfl ?_
    refine ev_getR X f_M_46 lo_mod rfl d_M_work_65 ?_
    refine ev_iload_n X d_M_work_68 rfl ?_
    refine ev_iload X d_M_work_69 rfl ?_
    refine ev_iast X lm_r rfl rfl ha d_M_work_71 ?_
    refine ev_goto (tgt := 230) X d_M_work_72 (by decide) ?_
    exact ev_vretL X hr hk d_M_work_230 (by simp [wkM, secS, q1])
  · by_cases q2 : o = 2
    · refine ev_topi (v := 2) q2 ?_
      refine ev_tableIn (tgt := 75) X d_M_work_9 (by decide) (by decide) rfl (by decide) ?_
      refine ev_aload_n X d_M_work_75 rfl ?_
      refine ev_getR X f_M_46 lo_mod rfl d_M_work_76 ?_
      refine ev_iload_n X d_M_work_79 rfl ?_
      refine ev_aload_n X d_M_work_80 rfl ?_
      refine ev_getR X f_M_46 lo_mod rfl d_M_work_81 ?_
      refine ev_iload_n X d_M_work_84 rfl ?_
      refine ev_iald X lm_r rfl rfl ha d_M_work_85 ?_
      refine ev_aload_n X d_M_work_86 rfl ?_
      refine ev_getR X f_M_46 lo_mod rfl d_M_work_87 ?_
      refine ev_iload X d_M_work_90 rfl ?_
      refine ev_iald X lm_r rfl rfl hb d_M_work_92 ?_
      refine ev_iadd X d_M_work_93 ?_
      refine ev_iast X lm_r rfl rfl ha d_M_work_94 ?_
      refine ev_goto (tgt := 230) X d_M_work_95 (by decide) ?_
      exact ev_vretL X hr hk d_M_work_230 (by simp [wkM, secS, q1, q2])
    · by_cases q3 : o = 3
      · refine ev_topi (v := 3) q3 ?_
        refine ev_tableIn (tgt := 98) X d_M_work_9 (by decide) (by decide) rfl (by decide) ?_
        refine ev_aload_n X d_M_work_98 rfl ?_
        refine ev_getR X f_M_46 lo_mod rfl d_M_work_99 ?_
        refine ev_iload_n X d_M_work_102 rfl ?_
        refine ev_aload_n X d_M_work_103 rfl ?_
        refine ev_getR X f_M_46 lo_mod rfl d_M_work_104 ?_
        refine ev_iload_n X d_M_work_107 rfl ?_
        refine ev_iald X lm_r rfl rfl ha d_M_work_108 ?_
        refine ev_aload_n X d_M_work_109 rfl ?_
        refine ev_getR X f_M_46 lo_mod rfl d_M_work_110 ?_
        refine ev_iload X d_M_work_113 rfl ?_
        refine ev_iald X lm_r rfl rfl hb d_M_work_115 ?_
        refine ev_ixor X d_M_work_116 ?_
        refine ev_iast X lm_r rfl rfl ha d_M_work_117 ?_
        refine ev_goto (tgt := 230) X d_M_work_118 (by decide) ?_
        exact ev_vretL X hr hk d_M_work_230 (by simp [wkM, secS, q1, q2, q3])
      · by_cases q4 : o = 4
        · refine ev_topi (v := 4) q4 ?_
          refine ev_tableIn (tgt := 121) X d_M_work_9 (by decide) (by decide) rfl (by decide) ?_
          refine ev_aload_n X d_M_work_121 rfl ?_
          refine ev_getR X f_M_46 lo_mod rfl d_M_work_122 ?_
          refine ev_iload_n X d_M_work_125 rfl ?_
          refine ev_aload_n X d_M_work_126 rfl ?_
          refine ev_getR X f_M_7 lo_mod rfl d_M_work_127 ?_
          refine ev_iload X d_M_work_130 rfl ?_
          refine ev_iald X lm_words rfl (inr_z (ht (Or.inl q4))) (inr_j (k := 256) rfl (by decide) (ht (Or.inl q4))) d_M_work_132 ?_
          refine ev_iast X lm_r rfl rfl ha d_M_work_133 ?_
          refine ev_goto (tgt := 230) X d_M_work_134 (by decide) ?_
          exact ev_vretL X hr hk d_M_work_230 (by simp [wkM, secS, q1, q2, q3, q4])
        · by_cases q5 : o = 5
          · refine ev_topi (v := 5) q5 ?_
            refine ev_tableIn (tgt := 137) X d_M_work_9 (by decide) (by decide) rfl (by decide) ?_
            refine ev_aload_n X d_M_work_137 rfl ?_
            refine ev_getR X f_M_7 lo_mod rfl d_M_work_138 ?_
            refine ev_iload X d_M_work_141 rfl ?_
            refine ev_aload_n X d_M_work_143 rfl ?_
            refine ev_getR X f_M_46 lo_mod rfl d_M_work_144 ?_
            refine ev_iload_n X d_M_work_147 rfl ?_
            refine ev_iald X lm_r rfl rfl ha d_M_work_148 ?_
            refine ev_iast X lm_words rfl (inr_z (ht (Or.inr q5))) (inr_j (k := 256) rfl (by decide) (ht (Or.inr q5))) d_M_work_149 ?_
            refine ev_goto (tgt := 230) X d_M_work_150 (by decide) ?_
            exact ev_vretL X hr hk d_M_work_230 (by simp [wkM, secS, q1, q2, q3, q4, q5])
          · by_cases q6 : o = 6
            · refine ev_topi (v := 6) q6 ?_
              refine ev_tableIn (tgt := 230) X d_M_work_9 (by decide) (by decide) rfl (by decide) ?_
              exact ev_vretL X hr hk d_M_work_230 (by simp [wkM, secS, q1, q2, q3, q4, q5, q6])
            · by_cases q7 : o = 7
              · refine ev_topi (v := 7) q7 ?_
                refine ev_tableIn (tgt := 153) X d_M_work_9 (by decide) (by decide) rfl (by decide) ?_
                refine ev_aload_n X d_M_work_153 rfl ?_
                refine ev_getR X f_M_46 lo_mod rfl d_M_work_154 ?_
                refine ev_iload_n X d_M_work_157 rfl ?_
                refine ev_iload X d_M_work_158 rfl ?_
                refine ev_iconst (v := 1) X d_M_work_160 (by decide) ?_
                refine ev_iadd X d_M_work_161 ?_
                refine ev_iast X lm_r rfl rfl ha d_M_work_162 ?_
                refine ev_goto (tgt := 230) X d_M_work_163 (by decide) ?_
                exact ev_vretL X hr hk d_M_work_230 (by simp [wkM, secS, q1, q2, q3, q4, q5, q6, q7])
              · by_cases q8 : o = 8
                · refine ev_topi (v := 8) q8 ?_
                  refine ev_tableIn (tgt := 166) X d_M_work_9 (by decide) (by decide) rfl (by decide) ?_
                  refine ev_aload_n X d_M_work_166 rfl ?_
                  refine ev_getR X f_M_46 lo_mod rfl d_M_work_167 ?_
                  refine ev_iload_n X d_M_work_170 rfl ?_
                  refine ev_aload_n X d_M_work_171 rfl ?_
                  refine ev_aload_n X d_M_work_172 rfl ?_
                  refine ev_getR X f_M_37 lo_mod rfl d_M_work_173 ?_
                  refine ev_iload X d_M_work_176 rfl ?_
                  refine ev_iald X lm_measures rfl (inr_z he) (inr_j (k := 4) rfl (by decide) he) d_M_work_178 ?_
                  refine ev_aload_n X d_M_work_179 rfl ?_
                  refine ev_getR X f_M_46 lo_mod rfl d_M_work_180 ?_
                  refine ev_iload X d_M_work_183 rfl ?_
                  refine ev_iald X lm_r rfl rfl hb d_M_work_185 ?_
                  refine ev_cV1 X m_M_103 c_M_proof lo_mod rfl rfl (by decide) (by decide) d_M_work_186 rfl rfl (Nat.le_of_ble_eq_true rfl) ?_
                  refine ev_iast X lm_r rfl rfl ha d_M_work_189 ?_
                  refine ev_goto (tgt := 230) X d_M_work_190 (by decide) ?_
                  exact ev_vretL X hr hk d_M_work_230 (by simp [wkM, secS, q1, q2, q3, q4, q5, q6, q7, q8])
                · by_cases q9 : o = 9
                  · refine ev_topi (v := 9) q9 ?_
                    refine ev_tableIn (tgt := 193) X d_M_work_9 (by decide) (by decide) rfl (by decide) ?_
                    refine ev_aload_n X d_M_work_193 rfl ?_
                    refine ev_getR X f_M_46 lo_mod rfl d_M_work_194 ?_
                    refine ev_iload_n X d_M_work_197 rfl ?_
                    refine ev_aload_n X d_M_work_198 rfl ?_
                    refine ev_getI X f_M_49 lo_mod rfl d_M_work_199 ?_
                    refine ev_bipush (v := 7) X d_M_work_202 (by decide) ?_
                    refine ev_cS1 X m_M_54 c_M_mix (by decide) (by decide) d_M_work_204 rfl rfl (Nat.le_of_ble_eq_true rfl) ?_
                    refine ev_aload_n X d_M_work_207 rfl ?_
                    refine ev_getR X f_M_37 lo_mod rfl d_M_work_208 ?_
                    refine ev_iload X d_M_work_211 rfl ?_
                    refine ev_iald X lm_measures rfl (inr_z he) (inr_j (k := 4) rfl (by decide) he) d_M_work_213 ?_
                    refine ev_cS1 X m_M_54 c_M_mix (by decide) (by decide) d_M_work_214 rfl rfl (Nat.le_of_ble_eq_true rfl) ?_
                    refine ev_iast X lm_r rfl rfl ha d_M_work_217 ?_
                    refine ev_goto (tgt := 230) X d_M_work_218 (by decide) ?_
                    exact ev_vretL X hr hk d_M_work_230 (by simp [wkM, secS, q1, q2, q3, q4, q5, q6, q7, q8, q9])
                  · by_cases q10 : o = 10
                    · refine ev_topi (v := 10) q10 ?_
                      refine ev_tableIn (tgt := 221) X d_M_work_9 (by decide) (by decide) rfl (by decide) ?_
                      refine ev_aload_n X d_M_work_221 rfl ?_
                      refine ev_iload_n X d_M_work_222 rfl ?_
                      refine ev_iconst (v := 3) X d_M_work_223 (by decide) ?_
                      refine ev_cV0 X m_M_91 (c_M_leave hq he) lo_mod rfl rfl (by decide) (by decide) d_M_work_224 rfl rfl (Nat.le_of_ble_eq_true rfl) ?_
                      refine ev_goto (tgt := 230) X d_M_work_227 (by decide) ?_
                      exact ev_vretL X hr hk d_M_work_230 (by simp [wkM, secS, q1, q2, q3, q4, q5, q6, q7, q8, q9, q10])
                    · refine ev_tableOut (tgt := 230) X d_M_work_9 (sw_out110 q1 q2 q3 q4 q5 q6 q7 q8 q9 q10) (by decide) ?_
                      exact ev_vretL X hr hk d_M_work_230 (by simp [wkM, q1, q2, q3, q4, q5, q6, q7, q8, q9, q10])
