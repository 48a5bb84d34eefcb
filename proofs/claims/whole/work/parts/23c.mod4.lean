noncomputable def spM (q : Int32) : Nat → Nat → St → Nat
  | 0, k, _ => k
  | n + 1, k, S => if S 4 q.toNatClampNeg < 0 then k else spM q n (k + 1) (onM S q)
noncomputable def ssM (q : Int32) : Nat → St → St
  | 0, S => S
  | n + 1, S => if S 4 q.toNatClampNeg < 0 then S else ssM q n (onM S q)
def rnM (S : St) (q : Int32) : Bool := inr q 2 && !decide (S 4 q.toNatClampNeg < 0)
noncomputable def wStep (S : St) (q N : Int32) : Int32 := if rnM S q = true ∧ okN N = true then nI (spM q N.toNatClampNeg 0 S) else -1
noncomputable def tStep (S : St) (q N : Int32) : St := if rnM S q = true ∧ okN N = true then ssM q N.toNatClampNeg S else S
theorem lvM_ru {S : St} {q : Nat} {t : Int32} : RuOK (lvM S q t) q := Or.inl (by simp [lvM, up2_at])
theorem edM_ru {S : St} {q : Nat} {t v : Int32} : RuOK (edM S q t v) q := lvM_ru
theorem RuOK.of {S T : St} {q : Nat} (h : RuOK S q) (e : T 4 q = S 4 q) : RuOK T q := by
  unfold RuOK
  rw [e]
  exact h
theorem wkM_ru {S : St} {q o t h : Int32} {a b : Nat} (hr : RuOK S q.toNatClampNeg) : RuOK (wkM S q o a b t h) q.toNatClampNeg := by
  unfold wkM
  repeat' split
  all_goals first | (refine hr.of ?_; simp [up2_at]; done) | exact lvM_ru
theorem onM_ru {S : St} {q : Int32} (hr : RuOK S q.toNatClampNeg) : RuOK (onM S q) q.toNatClampNeg := by
  unfold onM
  split
  · unfold onW
    split
    · exact edM_ru
    split
    · exact edM_ru
    split
    · exact edM_ru
    split
    · exact edM_ru
    refine wkM_ru (hr.of ?_)
    simp [up2_at]
  · exact edM_ru
set_option maxHeartbeats 4000000 in
set_option maxRecDepth 100000 in
theorem c_M_step {l : Launch} {D : va_G} {ad : Nat → Nat} {ca : Nat → ClassId} {x : va_W} {S : St} {q N : Int32} (hru : inr q 2 = true → RuOK S q.toNatClampNeg) : CtM l D ad ca x y_M_step b_M_step 4 (some .int) 4 [.ref (ad 0), .int q, .int N] S (tStep S q N) (some (.int (wStep S q N))) := by
  refine ev_ent [some (.ref (ad 0)), some (.int q), some (.int N), none] rfl (by decide) (Nat.le_of_ble_eq_true rfl) rfl gTT (fun p e s m args below meth c A X hr hk => ?_)
  have loop : inr q 2 = true → ∀ (r k : Nat) (T : St), k + r ≤ 100 → wStep S q N = nI (spM q r k T) → tStep S q N = ssM q r T → RuOK T q.toNatClampNeg → EV p l e (rmd 4) s m args below meth c 0 0 (MQ below (QQ clX D A (ly_w lyM 14 ad ca (tStep S q N) x) (some (.int (wStep S q N)))) args s 0 0 A) 4 D clX A s.heap (ly_w lyM 14 ad ca T x) 31 [some (.ref (ad 0)), some (.int q), some (.int (nI (k + r))), some (.int (nI k))] [] := by
    intro hq r
    induction r with
    | zero =>
      intro k T q1 q2 q3 q4
      refine ev_iload_n X d_M_step_31 rfl ?_
      refine ev_iload_n X d_M_step_32 rfl ?_
      refine ev_icmp_ge (tgt := 56) X d_M_step_33 (by decide) (fun h33 => ?_) (fun h33 => ?_)
      · refine ev_iload_n X d_M_step_56 rfl ?_
        exact ev_iretL X hr hk d_M_step_57 (by rw [q2]; rfl) (by rw [q3]; rfl)
      · exact absurd (nI_le (by omega) (by omega)) h33
    | succ r ih =>
      intro k T q1 q2 q3 q4
      refine ev_iload_n X d_M_step_31 rfl ?_
      refine ev_iload_n X d_M_step_32 rfl ?_
      refine ev_icmp_ge (tgt := 56) X d_M_step_33 (by decide) (fun h33 => ?_) (fun h33 => ?_)
      · exact absurd h33 (nI_ge (by omega) (by omega))
      · refine ev_aload_n X d_M_step_36 rfl ?_
        refine ev_getR X f_M_19 lo_mod rfl d_M_step_37 ?_
        refine ev_iload_n X d_M_step_40 rfl ?_
        refine ev_iald X lm_runs rfl (inr_z hq) (inr_j (k := 2) rfl (by decide) hq) d_M_step_41 ?_
        refine ev_if_lt (tgt := 56) X d_M_step_42 (by decide) (fun h42 => ?_) (fun h42 => ?_)
        · refine ev_iload_n X d_M_step_56 rfl ?_
          exact ev_iretL X hr hk d_M_step_57 (by rw [q2]; simp [spM, h42]) (by rw [q3]; simp [ssM, h42])
        · refine ev_aload_n X d_M_step_45 rfl ?_
          refine ev_iload_n X d_M_step_46 rfl ?_
          refine ev_cV0 X m_M_106 (c_M_once hq (q4.resolve_left h42)) lo_mod rfl rfl (by decide) (by decide) d_M_step_47 rfl rfl (Nat.le_of_ble_eq_true rfl) ?_
          refine ev_iinc (v := nI (k + 1)) X d_M_step_50 rfl (nI_1 k) (by decide) ?_
          refine ev_goto (tgt := 31) X d_M_step_53 (by decide) ?_
          refine ev_of rfl rfl (lv1 := [some (.ref (ad 0)), some (.int q), some (.int (nI (k + 1 + r))), some (.int (nI (k + 1)))]) (by rw [show k + 1 + r = k + (r + 1) by omega]; rfl) rfl ?_
          exact ih (k + 1) (onM T q) (by omega) (by rw [q2]; simp [spM, h42]) (by rw [q3]; simp [ssM, h42]) (onM_ru q4)
  refine ev_iload_n X d_M_step_0 rfl ?_
  refine ev_cS1 X m_M_58 c_M_processor (by decide) (by decide) d_M_step_1 rfl rfl (Nat.le_of_ble_eq_true rfl) ?_
  refine ev_if_eqB (tgt := 27) X d_M_step_4 (by decide) (fun h4 => ?_) (fun h4 => ?_)
  · refine ev_iconst (v := (-1)) X d_M_step_27 (by decide) ?_
    exact ev_iretL X hr hk d_M_step_28 (by simp [wStep, rnM, okN, h4]) (by simp [tStep, rnM, okN, h4])
  · refine ev_aload_n X d_M_step_7 rfl ?_
    refine ev_getR X f_M_19 lo_mod rfl d_M_step_8 ?_
    refine ev_iload_n X d_M_step_11 rfl ?_
    refine ev_iald X lm_runs rfl (inr_z h4) (inr_j (k := 2) rfl (by decide) h4) d_M_step_12 ?_
    refine ev_if_lt (tgt := 27) X d_M_step_13 (by decide) (fun h13 => ?_) (fun h13 => ?_)
    · refine ev_iconst (v := (-1)) X d_M_step_27 (by decide) ?_
      exact ev_iretL X hr hk d_M_step_28 (by simp [wStep, rnM, okN, h4, h13]) (by simp [tStep, rnM, okN, h4, h13])
    · refine ev_iload_n X d_M_step_16 rfl ?_
      refine ev_iconst (v := 1) X d_M_step_17 (by decide) ?_
      refine ev_icmp_lt (tgt := 27) X d_M_step_18 (by decide) (fun h18 => ?_) (fun h18 => ?_)
      · refine ev_iconst (v := (-1)) X d_M_step_27 (by decide) ?_
        exact ev_iretL X hr hk d_M_step_28 (by simp [wStep, rnM, okN, h4, h13, h18]) (by simp [tStep, rnM, okN, h4, h13, h18])
      · refine ev_iload_n X d_M_step_21 rfl ?_
        refine ev_bipush (v := 100) X d_M_step_22 (by decide) ?_
        refine ev_icmp_le (tgt := 29) X d_M_step_24 (by decide) (fun h24 => ?_) (fun h24 => ?_)
        · have hok : okN N = true := by simp [okN, h18, h24]
          have hrn : rnM S q = true := by simp [rnM, h4, h13]
          obtain ⟨hNz, hNl⟩ := okN_ex hok
          refine ev_iconst (v := 0) X d_M_step_29 (by decide) ?_
          refine ev_istore_n X d_M_step_30 (by decide) ?_
          refine ev_of rfl rfl (lv1 := [some (.ref (ad 0)), some (.int q), some (.int (nI (0 + N.toNatClampNeg))), some (.int (nI 0))]) (by rw [Nat.zero_add, ← hNz]; rfl) rfl ?_
          exact loop h4 N.toNatClampNeg 0 S (by omega) (by simp [wStep, hrn, hok]) (by simp [tStep, hrn, hok]) (hru h4)
        · refine ev_iconst (v := (-1)) X d_M_step_27 (by decide) ?_
          exact ev_iretL X hr hk d_M_step_28 (by simp [wStep, rnM, okN, h4, h13, h18, h24]) (by simp [tStep, rnM, okN, h4, h13, h18, h24])
