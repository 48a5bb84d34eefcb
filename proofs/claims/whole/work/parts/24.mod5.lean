def wzM (S : St) (q : Int32) (k : Nat) : St := fun c j => if c = 1 ∧ j < k then (if S 2 (j / 16) = 2 + q then 0 else S 1 j) else S c j
def ozM (S : St) (q : Int32) (k : Nat) : St := fun c j => if c = 2 ∧ j < k then (if S 2 j = 2 + q then 1 else S 2 j) else S c j
theorem wzM_nil (S : St) (q : Int32) : wzM S q 0 = S := by
  funext c j
  unfold wzM
  rw [if_neg (by omega)]
theorem ozM_nil (S : St) (q : Int32) : ozM S q 0 = S := by
  funext c j
  unfold ozM
  rw [if_neg (by omega)]
theorem wzM_2 (S : St) (q : Int32) (k j : Nat) : wzM S q k 2 j = S 2 j := by
  unfold wzM
  rw [if_neg (by omega)]
theorem wzM_k (S : St) (q : Int32) (k : Nat) : wzM S q k 1 k = S 1 k := by
  unfold wzM
  rw [if_neg (by omega)]
theorem ozM_k (S : St) (q : Int32) (k : Nat) : ozM S q k 2 k = S 2 k := by
  unfold ozM
  rw [if_neg (by omega)]
theorem wzM_up {S : St} {q : Int32} {k : Nat} : up2 (wzM S q k) 1 k (if S 2 (k / 16) = 2 + q then 0 else S 1 k) = wzM S q (k + 1) := by
  funext c j
  rw [up2_at]
  unfold wzM
  by_cases h1 : c = 1 ∧ j = k
  · obtain ⟨rfl, rfl⟩ := h1
    rw [if_pos ⟨rfl, rfl⟩, if_pos (show 1 = 1 ∧ j < j + 1 from ⟨rfl, by omega⟩)]
  · rw [if_neg h1]
    by_cases h2 : c = 1 ∧ j < k
    · rw [if_pos h2, if_pos (show c = 1 ∧ j < k + 1 from ⟨h2.1, by omega⟩)]
    · rw [if_neg h2, if_neg (show ¬ (c = 1 ∧ j < k + 1) by omega)]
theorem ozM_up {S : St} {q : Int32} {k : Nat} : up2 (ozM S q k) 2 k (if S 2 k = 2 + q then 1 else S 2 k) = ozM S q (k + 1) := by
  funext c j
  rw [up2_at]
  unfold ozM
  by_cases h1 : c = 2 ∧ j = k
  · obtain ⟨rfl, rfl⟩ := h1
    rw [if_pos ⟨rfl, rfl⟩, if_pos (show 2 = 2 ∧ j < j + 1 from ⟨rfl, by omega⟩)]
  · rw [if_neg h1]
    by_cases h2 : c = 2 ∧ j < k
    · rw [if_pos h2, if_pos (show c = 2 ∧ j < k + 1 from ⟨h2.1, by omega⟩)]
    · rw [if_neg h2, if_neg (show ¬ (c = 2 ∧ j < k + 1) by omega)]
theorem n16 {k : Nat} (h : k < 2 ^ 31) : nI k / 16 = nI (k / 16) := pk_div (d := 16) h (by decide) (by decide)
def wDes (S : St) (z q : Int32) : Int32 := if bsM S z = true then -1 else if thM S q = false then -2 else if S 5 q.toNatClampNeg = 2 then -3 else 0
def tDes (S : St) (z q : Int32) : St := if bsM S z = true then S else if thM S q = false then S else if S 5 q.toNatClampNeg = 2 then S else up2 (ozM (wzM S q 256) q 16) 5 q.toNatClampNeg 0
set_option maxHeartbeats 4000000 in
set_option maxRecDepth 100000 in
theorem c_M_destroy {l : Launch} {D : va_G} {ad : Nat → Nat} {ca : Nat → ClassId} {x : va_W} {S : St} {z q : Int32}  : CtM l D ad ca x y_M_destroy b_M_destroy 4 (some .int) 2 [.ref (ad 0), .int z, .int q] S (tDes S z q) (some (.int (wDes S z q))) := by
  refine ev_ent [some (.ref (ad 0)), some (.int z), some (.int q), none] rfl (by decide) (Nat.le_of_ble_eq_true rfl) rfl gTT (fun p e s m args below meth c A X hr hk => ?_)
  have loop2 : inr q 4 = true → wDes S z q = 0 → tDes S z q = up2 (ozM (wzM S q 256) q 16) 5 q.toNatClampNeg 0 → ∀ (r k : Nat), k + r = 16 → EV p l e (rmd 2) s m args below meth c 0 0 (MQ below (QQ clX D A (ly_w lyM 14 ad ca (tDes S z q) x) (some (.int (wDes S z q)))) args s 0 0 A) 4 D clX A s.heap (ly_w lyM 14 ad ca (ozM (wzM S q 256) q k) x) 82 [some (.ref (ad 0)), some (.int z), some (.int q), some (.int (nI k))] [] := by
    intro hq g1 g2 r
    induction r with
    | zero =>
      intro k q1
      refine ev_iload_n X d_M_destroy_82 rfl ?_
      refine ev_bipush (v := 16) X d_M_destroy_83 (by decide) ?_
      refine ev_icmp_ge (tgt := 122) X d_M_destroy_85 (by decide) (fun h85 => ?_) (fun h85 => ?_)
      · refine ev_aload_n X d_M_destroy_122 rfl ?_
        refine ev_getR X f_M_22 lo_mod rfl d_M_destroy_123 ?_
        refine ev_iload_n X d_M_destroy_126 rfl ?_
        refine ev_iconst (v := 0) X d_M_destroy_127 (by decide) ?_
        refine ev_iast X lm_states rfl (inr_z hq) (inr_j (k := 4) rfl (by decide) hq) d_M_destroy_128 ?_
        refine ev_iconst (v := 0) X d_M_destroy_129 (by decide) ?_
        exact ev_iretL X hr hk d_M_destroy_130 (by rw [g1]) (by rw [g2, show k = 16 by omega])
      · exact absurd (nI_le (a := 16) (by omega) (by omega)) h85
    | succ r ih =>
      intro k q1
      refine ev_iload_n X d_M_destroy_82 rfl ?_
      refine ev_bipush (v := 16) X d_M_destroy_83 (by decide) ?_
      refine ev_icmp_ge (tgt := 122) X d_M_destroy_85 (by decide) (fun h85 => ?_) (fun h85 => ?_)
      · exact absurd h85 (nI_ge (b := 16) (by omega) (by decide))
      · refine ev_aload_n X d_M_destroy_88 rfl ?_
        refine ev_getR X f_M_13 lo_mod rfl d_M_destroy_89 ?_
        refine ev_iload_n X d_M_destroy_92 rfl ?_
        refine ev_aload_n X d_M_destroy_93 rfl ?_
        refine ev_getR X f_M_13 lo_mod rfl d_M_destroy_94 ?_
        refine ev_iload_n X d_M_destroy_97 rfl ?_
        refine ev_iald X lm_owners rfl rfl (by omega) d_M_destroy_98 ?_
        refine ev_iconst (v := 2) X d_M_destroy_99 (by decide) ?_
        refine ev_iload_n X d_M_destroy_100 rfl ?_
        refine ev_iadd X d_M_destroy_101 ?_
        refine ev_icmp_ne (tgt := 109) X d_M_destroy_102 (by decide) (fun h102 => ?_) (fun h102 => ?_)
        · rw [ozM_k] at h102
          refine ev_aload_n X d_M_destroy_109 rfl ?_
          refine ev_getR X f_M_13 lo_mod rfl d_M_destroy_110 ?_
          refine ev_iload_n X d_M_destroy_113 rfl ?_
          refine ev_iald X lm_owners rfl rfl (by omega) d_M_destroy_114 ?_
          refine ev_topi (v := if wzM S q 256 2 k = 2 + q then 1 else wzM S q 256 2 k) (by simp [ozM_k, h102]) ?_
          refine ev_iast X lm_owners rfl rfl (by omega) d_M_destroy_115 ?_
          refine ev_iinc (v := nI (k + 1)) X d_M_destroy_116 rfl (nI_1 k) (by decide) ?_
          refine ev_goto (tgt := 82) X d_M_destroy_119 (by decide) ?_
          rw [ozM_up]
          exact ih (k + 1) (by omega)
        · rw [ozM_k] at h102
          refine ev_iconst (v := 1) X d_M_destroy_105 (by decide) ?_
          refine ev_goto (tgt := 115) X d_M_destroy_106 (by decide) ?_
          refine ev_topi (v := if wzM S q 256 2 k = 2 + q then 1 else wzM S q 256 2 k) (by simp [ozM_k, h102]) ?_
          refine ev_iast X lm_owners rfl rfl (by omega) d_M_destroy_115 ?_
          refine ev_iinc (v := nI (k + 1)) X d_M_destroy_116 rfl (nI_1 k) (by decide) ?_
          refine ev_goto (tgt := 82) X d_M_destroy_119 (by decide) ?_
          rw [ozM_up]
          exact ih (k + 1) (by omega)
  have loop1 : inr q 4 = true → wDes S z q = 0 → tDes S z q = up2 (ozM (wzM S q 256) q 16) 5 q.toNatClampNeg 0 → ∀ (r k : Nat), k + r = 256 → EV p l e (rmd 2) s m args below meth c 0 0 (MQ below (QQ clX D A (ly_w lyM 14 ad ca (tDes S z q) x) (some (.int (wDes S z q)))) args s 0 0 A) 4 D clX A s.heap (ly_w lyM 14 ad ca (wzM S q k) x) 36 [some (.ref (ad 0)), some (.int z), some (.int q), some (.int (nI k))] [] := by
    intro hq g1 g2 r
    induction r with
    | zero =>
      intro k q1
      refine ev_iload_n X d_M_destroy_36 rfl ?_
      refine ev_sipush (v := 256) X d_M_destroy_37 (by decide) ?_
      refine ev_icmp_ge (tgt := 80) X d_M_destroy_40 (by decide) (fun h40 => ?_) (fun h40 => ?_)
      · refine ev_iconst (v := 0) X d_M_destroy_80 (by decide) ?_
        refine ev_istore_n X d_M_destroy_81 (by decide) ?_
        refine ev_of (w1 := ly_w lyM 14 ad ca (ozM (wzM S q 256) q 0) x) (by rw [ozM_nil, show k = 256 by omega]) rfl rfl rfl ?_
        exact loop2 hq g1 g2 16 0 rfl
      · exact absurd (nI_le (a := 256) (by omega) (by omega)) h40
    | succ r ih =>
      intro k q1
      refine ev_iload_n X d_M_destroy_36 rfl ?_
      refine ev_sipush (v := 256) X d_M_destroy_37 (by decide) ?_
      refine ev_icmp_ge (tgt := 80) X d_M_destroy_40 (by decide) (fun h40 => ?_) (fun h40 => ?_)
      · exact absurd h40 (nI_ge (b := 256) (by omega) (by decide))
      · refine ev_aload_n X d_M_destroy_43 rfl ?_
        refine ev_getR X f_M_7 lo_mod rfl d_M_destroy_44 ?_
        refine ev_iload_n X d_M_destroy_47 rfl ?_
        refine ev_aload_n X d_M_destroy_48 rfl ?_
        refine ev_getR X f_M_13 lo_mod rfl d_M_destroy_49 ?_
        refine ev_iload_n X d_M_destroy_52 rfl ?_
        refine ev_bipush (v := 16) X d_M_destroy_53 (by decide) ?_
        refine ev_idiv X d_M_destroy_55 (by decide) ?_
        refine ev_iald X lm_owners rfl (n16 (by omega)) (by omega) d_M_destroy_56 ?_
        refine ev_iconst (v := 2) X d_M_destroy_57 (by decide) ?_
        refine ev_iload_n X d_M_destroy_58 rfl ?_
        refine ev_iadd X d_M_destroy_59 ?_
        refine ev_icmp_ne (tgt := 67) X d_M_destroy_60 (by decide) (fun h60 => ?_) (fun h60 => ?_)
        · rw [wzM_2] at h60
          refine ev_aload_n X d_M_destroy_67 rfl ?_
          refine ev_getR X f_M_7 lo_mod rfl d_M_destroy_68 ?_
          refine ev_iload_n X d_M_destroy_71 rfl ?_
          refine ev_iald X lm_words rfl rfl (by omega) d_M_destroy_72 ?_
          refine ev_topi (v := if S 2 (k / 16) = 2 + q then 0 else S 1 k) (by simp [wzM_k, h60]) ?_
          refine ev_iast X lm_words rfl rfl (by omega) d_M_destroy_73 ?_
          refine ev_iinc (v := nI (k + 1)) X d_M_destroy_74 rfl (nI_1 k) (by decide) ?_
          refine ev_goto (tgt := 36) X d_M_destroy_77 (by decide) ?_
          rw [wzM_up]
          exact ih (k + 1) (by omega)
        · rw [wzM_2] at h60
          refine ev_iconst (v := 0) X d_M_destroy_63 (by decide) ?_
          refine ev_goto (tgt := 73) X d_M_destroy_64 (by decide) ?_
          refine ev_topi (v := if S 2 (k / 16) = 2 + q then 0 else S 1 k) (by simp [wzM_k, h60]) ?_
          refine ev_iast X lm_words rfl rfl (by omega) d_M_destroy_73 ?_
          refine ev_iinc (v := nI (k + 1)) X d_M_destroy_74 rfl (nI_1 k) (by decide) ?_
          refine ev_goto (tgt := 36) X d_M_destroy_77 (by decide) ?_
          rw [wzM_up]
          exact ih (k + 1) (by omega)
  refine ev_aload_n X d_M_destroy_0 rfl ?_
  refine ev_iload_n X d_M_destroy_1 rfl ?_
  refine ev_cV1 X m_M_66 c_M_busy lo_mod rfl rfl (by decide) (by decide) d_M_destroy_2 rfl rfl (Nat.le_of_ble_eq_true rfl) ?_
  refine ev_if_eqB (tgt := 10) X d_M_destroy_5 (by decide) (fun h5 => ?_) (fun h5 => ?_)
  · refine ev_aload_n X d_M_destroy_10 rfl ?_
    refine ev_iload_n X d_M_destroy_11 rfl ?_
    refine ev_cV1 X m_M_88 c_M_there lo_mod rfl rfl (by decide) (by decide) d_M_destroy_12 rfl rfl (Nat.le_of_ble_eq_true rfl) ?_
    refine ev_if_neB (tgt := 21) X d_M_destroy_15 (by decide) (fun h15 => ?_) (fun h15 => ?_)
    · refine ev_aload_n X d_M_destroy_21 rfl ?_
      refine ev_getR X f_M_22 lo_mod rfl d_M_destroy_22 ?_
      refine ev_iload_n X d_M_destroy_25 rfl ?_
      refine ev_iald X lm_states rfl (inr_z (thM_in h15)) (inr_j (k := 4) rfl (by decide) (thM_in h15)) d_M_destroy_26 ?_
      refine ev_iconst (v := 2) X d_M_destroy_27 (by decide) ?_
      refine ev_icmp_ne (tgt := 34) X d_M_destroy_28 (by decide) (fun h28 => ?_) (fun h28 => ?_)
      · refine ev_iconst (v := 0) X d_M_destroy_34 (by decide) ?_
        refine ev_istore_n X d_M_destroy_35 (by decide) ?_
        refine ev_of (w1 := ly_w lyM 14 ad ca (wzM S q 0) x) (by rw [wzM_nil]) rfl rfl rfl ?_
        exact loop1 (thM_in h15) (by simp [wDes, h5, h15, h28]) (by simp [tDes, h5, h15, h28]) 256 0 rfl
      · refine ev_bipush (v := (-3)) X d_M_destroy_31 (by decide) ?_
        exact ev_iretL X hr hk d_M_destroy_33 (by simp [wDes, h5, h15, h28]) (by simp [tDes, h5, h15, h28])
    · refine ev_bipush (v := (-2)) X d_M_destroy_18 (by decide) ?_
      exact ev_iretL X hr hk d_M_destroy_20 (by simp [wDes, h5, h15]) (by simp [tDes, h5, h15])
  · refine ev_iconst (v := (-1)) X d_M_destroy_8 (by decide) ?_
    exact ev_iretL X hr hk d_M_destroy_9 (by simp [wDes, h5]) (by simp [tDes, h5])
def shw (v a b c : Int32) : Int32 := if v = 0 then a else if v = 1 then b else c
def nwM (S : St) (z : Int32) : Int32 := S 4 z.toNatClampNeg
def s9M (S : St) (z : Int32) : Int32 := if nwM S z < 0 then -1 else S 9 (nwM S z).toNatClampNeg
def evM (f n : Int32) : Bool := (decide (n = 1) || (decide (n = 2) || (decide (n = 4) || decide (n = 8)))) && decide (rmI f n = 0)
def grE (S : St) (e now k v : Int32) : Int32 :=
  if S 5 e.toNatClampNeg = 0 then 0
  else if rmI k 2 = 1 then shw v 0 0 (if evM (S 6 e.toNatClampNeg) (S 7 e.toNatClampNeg) = true then 0 else 16 * S 6 e.toNatClampNeg)
  else if evM (S 6 e.toNatClampNeg) (S 7 e.toNatClampNeg) = true then shw v 3 (if e = now then 7 else 0) (16 * S 6 e.toNatClampNeg + 8 * S 7 e.toNatClampNeg - 1)
  else shw v 1 (if e = now then 7 else 0) (16 * S 6 e.toNatClampNeg + 16 * S 7 e.toNatClampNeg)
def grM (S : St) (z k v : Int32) : Int32 :=
  if inr z 2 = true ∧ inr k 11 = true ∧ inr v 3 = true then
    (if k = 0 then shw v 3 0 7 else if k = 10 then shw v 3 (if nwM S z < 0 then 7 else 0) 127
     else if k = 9 then (if s9M S z < 0 then 0 else if 256 ≤ s9M S z then shw v 3 3 (16 * (s9M S z - 256) + 7) else shw v 2 3 (s9M S z))
     else grE S ((k - 1) / 2) (nwM S z) k v) else -1
theorem evM_t {f n : Int32} (h : n = 1 ∨ n = 2 ∨ n = 4 ∨ n = 8) (hr : rmI f n = 0) : evM f n = true := by
  unfold evM
  rw [decide_eq_true hr]
  rcases h with rfl | rfl | rfl | rfl <;> rfl
theorem evM_f1 {f n : Int32} (hr : ¬ rmI f n = 0) : evM f n = false := by
  unfold evM
  rw [decide_eq_false hr, Bool.and_false]
theorem evM_f2 {f n : Int32} (h1 : ¬ n = 1) (h2 : ¬ n = 2) (h4 : ¬ n = 4) (h8 : ¬ n = 8) : evM f n = false := by
  unfold evM
  rw [decide_eq_false h1, decide_eq_false h2, decide_eq_false h4, decide_eq_false h8]
  rfl
theorem gk_in {k : Int32} (h : inr k 11 = true) (h0 : ¬ k = 0) (h9 : ¬ k = 9) (h10 : ¬ k = 10) : inr ((k - 1) / 2) 4 = true := by
  obtain ⟨j, hj, rfl⟩ := inr_ex (k := 11) (by decide) rfl h
  have a0 : j ≠ 0 := fun q => h0 (by rw [q]; rfl)
  have a9 : j ≠ 9 := fun q => h9 (by rw [q]; rfl)
  have a10 : j ≠ 10 := fun q => h10 (by rw [q]; rfl)
  rw [show (1 : Int32) = nI 1 from rfl, pk_sub (by omega), show (2 : Int32) = nI 2 from rfl, pk_div (by omega) (by decide) (by decide)]
  exact inr_nI (k := 4) (by omega) (by decide)
set_option maxHeartbeats 4000000 in
set_option maxRecDepth 100000 in
theorem c_M_guard {l : Launch} {D : va_G} {ad : Nat → Nat} {ca : Nat → ClassId} {x : va_W} {S : St} {z k v : Int32} (hru : inr z 2 = true → RuOK S z.toNatClampNeg) : CtM l D ad ca x y_M_guard b_M_guard 10 (some .int) 1 [.ref (ad 0), .int z, .int k, .int v] S S (some (.int (grM S z k v))) := by
  refine ev_ent [some (.ref (ad 0)), some (.int z), some (.int k), some (.int v), none, none, none, none, none, none] rfl (by decide) (Nat.le_of_ble_eq_true rfl) rfl gTT (fun p e s m args below meth c A X hr hk => ?_)
  have pair : inr ((k - 1) / 2) 4 = true → grM S z k v = grE S ((k - 1) / 2) (nwM S z) k v → EV p l e (rmd 1) s m args below meth c 0 0 (MQ below (QQ clX D A (ly_w lyM 14 ad ca S x) (some (.int (grM S z k v)))) args s 0 0 A) 10 D clX A s.heap (ly_w lyM 14 ad ca S x) 145 [some (.ref (ad 0)), some (.int z), some (.int k), some (.int v), some (.int (nwM S z)), none, none, none, none, none] [] := by
    intro hg gq
    refine ev_iload_n X d_M_guard_145 rfl ?_
    refine ev_iconst (v := 1) X d_M_guard_146 (by decide) ?_
    refine ev_isub X d_M_guard_147 ?_
    refine ev_iconst (v := 2) X d_M_guard_148 (by decide) ?_
    refine ev_idiv X d_M_guard_149 (by decide) ?_
    refine ev_istore X d_M_guard_150 (by decide) ?_
    refine ev_aload_n X d_M_guard_152 rfl ?_
    refine ev_getR X f_M_22 lo_mod rfl d_M_guard_153 ?_
    refine ev_iload X d_M_guard_156 rfl ?_
    refine ev_iald X lm_states rfl (inr_z hg) (inr_j (k := 4) rfl (by decide) hg) d_M_guard_158 ?_
    refine ev_if_ne (tgt := 164) X d_M_guard_159 (by decide) (fun h159 => ?_) (fun h159 => ?_)
    · have g5 : ¬ S 5 ((k - 1) / 2).toNatClampNeg = 0 := h159
      have half1 : evM (S 6 ((k - 1) / 2).toNatClampNeg) (S 7 ((k - 1) / 2).toNatClampNeg) = true → EV p l e (rmd 1) s m args below meth c 0 0 (MQ below (QQ clX D A (ly_w lyM 14 ad ca S x) (some (.int (grM S z k v)))) args s 0 0 A) 10 D clX A s.heap (ly_w lyM 14 ad ca S x) 228 [some (.ref (ad 0)), some (.int z), some (.int k), some (.int v), some (.int (nwM S z)), some (.int ((k - 1) / 2)), some (.int (S 7 ((k - 1) / 2).toNatClampNeg)), some (.int (16 * S 6 ((k - 1) / 2).toNatClampNeg)), none, none] [.int 1] := by
        intro hev
        refine ev_istore X d_M_guard_228 (by decide) ?_
        refine ev_iload_n X d_M_guard_230 rfl ?_
        refine ev_iconst (v := 2) X d_M_guard_231 (by decide) ?_
        refine ev_irem X d_M_guard_232 (by decide) ?_
        refine ev_iconst (v := 1) X d_M_guard_233 (by decide) ?_
        refine ev_icmp_ne (tgt := 255) X d_M_guard_234 (by decide) (fun h234 => ?_) (fun h234 => ?_)
        · refine ev_iload X d_M_guard_255 rfl ?_
          refine ev_iload X d_M_guard_257 rfl ?_
          refine ev_icmp_ne (tgt := 267) X d_M_guard_259 (by decide) (fun h259 => ?_) (fun h259 => ?_)
          · refine ev_iconst (v := 0) X d_M_guard_267 (by decide) ?_
            refine ev_topi (v := if (k - 1) / 2 = nwM S z then 7 else 0) (by simp [h234, h259]) ?_
            refine ev_istore X d_M_guard_268 (by decide) ?_
            refine ev_iload X d_M_guard_270 rfl ?_
            refine ev_if_eq (tgt := 295) X d_M_guard_272 (by decide) (fun h272 => ?_) (fun h272 => ?_)
            · exact absurd h272 (by decide)
            · refine ev_iload_n X d_M_guard_275 rfl ?_
              refine ev_iconst (v := 3) X d_M_guard_276 (by decide) ?_
              refine ev_iload X d_M_guard_277 rfl ?_
              refine ev_iload X d_M_guard_279 rfl ?_
              refine ev_bipush (v := 8) X d_M_guard_281 (by decide) ?_
              refine ev_iload X d_M_guard_283 rfl ?_
              refine ev_imul X d_M_guard_285 ?_
              refine ev_iadd X d_M_guard_286 ?_
              refine ev_iconst (v := 1) X d_M_guard_287 (by decide) ?_
              refine ev_isub X d_M_guard_288 ?_
              refine ev_cS1 X m_M_110 c_M_shown (by decide) (by decide) d_M_guard_289 rfl rfl (Nat.le_of_ble_eq_true rfl) ?_
              refine ev_goto (tgt := 310) X d_M_guard_292 (by decide) ?_
              exact ev_iretL X hr hk d_M_guard_310 (by rw [gq, grE, if_neg g5]; first | (rw [if_pos h234, hev]; rfl) | (rw [if_neg h234, hev]; rfl)) (rfl)
          · refine ev_bipush (v := 7) X d_M_guard_262 (by decide) ?_
            refine ev_goto (tgt := 268) X d_M_guard_264 (by decide) ?_
            refine ev_topi (v := if (k - 1) / 2 = nwM S z then 7 else 0) (by simp [h234, h259]) ?_
            refine ev_istore X d_M_guard_268 (by decide) ?_
            refine ev_iload X d_M_guard_270 rfl ?_
            refine ev_if_eq (tgt := 295) X d_M_guard_272 (by decide) (fun h272 => ?_) (fun h272 => ?_)
            · exact absurd h272 (by decide)
            · refine ev_iload_n X d_M_guard_275 rfl ?_
              refine ev_iconst (v := 3) X d_M_guard_276 (by decide) ?_
              refine ev_iload X d_M_guard_277 rfl ?_
              refine ev_iload X d_M_guard_279 rfl ?_
              refine ev_bipush (v := 8) X d_M_guard_281 (by decide) ?_
              refine ev_iload X d_M_guard_283 rfl ?_
              refine ev_imul X d_M_guard_285 ?_
              refine ev_iadd X d_M_guard_286 ?_
              refine ev_iconst (v := 1) X d_M_guard_287 (by decide) ?_
              refine ev_isub X d_M_guard_288 ?_
              refine ev_cS1 X m_M_110 c_M_shown (by decide) (by decide) d_M_guard_289 rfl rfl (Nat.le_of_ble_eq_true rfl) ?_
              refine ev_goto (tgt := 310) X d_M_guard_292 (by decide) ?_
              exact ev_iretL X hr hk d_M_guard_310 (by rw [gq, grE, if_neg g5]; first | (rw [if_pos h234, hev]; rfl) | (rw [if_neg h234, hev]; rfl)) (rfl)
        · refine ev_iload_n X d_M_guard_237 rfl ?_
          refine ev_iconst (v := 0) X d_M_guard_238 (by decide) ?_
          refine ev_iconst (v := 0) X d_M_guard_239 (by decide) ?_
          refine ev_iload X d_M_guard_240 rfl ?_
          refine ev_if_eq (tgt := 249) X d_M_guard_242 (by decide) (fun h242 => ?_) (fun h242 => ?_)
          · exact absurd h242 (by decide)
          · refine ev_iconst (v := 0) X d_M_guard_245 (by decide) ?_
            refine ev_goto (tgt := 251) X d_M_guard_246 (by decide) ?_
            refine ev_cS1 X m_M_110 c_M_shown (by decide) (by decide) d_M_guard_251 rfl rfl (Nat.le_of_ble_eq_true rfl) ?_
            exact ev_iretL X hr hk d_M_guard_254 (by rw [gq, grE, if_neg g5]; first | (rw [if_pos h234, hev]; rfl) | (rw [if_neg h234, hev]; rfl)) (rfl)
      have half0 : evM (S 6 ((k - 1) / 2).toNatClampNeg) (S 7 ((k - 1) / 2).toNatClampNeg) = false → EV p l e (rmd 1) s m args below meth c 0 0 (MQ below (QQ clX D A (ly_w lyM 14 ad ca S x) (some (.int (grM S z k v)))) args s 0 0 A) 10 D clX A s.heap (ly_w lyM 14 ad ca S x) 228 [some (.ref (ad 0)), some (.int z), some (.int k), some (.int v), some (.int (nwM S z)), some (.int ((k - 1) / 2)), some (.int (S 7 ((k - 1) / 2).toNatClampNeg)), some (.int (16 * S 6 ((k - 1) / 2).toNatClampNeg)), none, none] [.int 0] := by
        intro hev
        refine ev_istore X d_M_guard_228 (by decide) ?_
        refine ev_iload_n X d_M_guard_230 rfl ?_
        refine ev_iconst (v := 2) X d_M_guard_231 (by decide) ?_
        refine ev_irem X d_M_guard_232 (by decide) ?_
        refine ev_iconst (v := 1) X d_M_guard_233 (by decide) ?_
        refine ev_icmp_ne (tgt := 255) X d_M_guard_234 (by decide) (fun h234 => ?_) (fun h234 => ?_)
        · refine ev_iload X d_M_guard_255 rfl ?_
          refine ev_iload X d_M_guard_257 rfl ?_
          refine ev_icmp_ne (tgt := 267) X d_M_guard_259 (by decide) (fun h259 => ?_) (fun h259 => ?_)
          · refine ev_iconst (v := 0) X d_M_guard_267 (by decide) ?_
            refine ev_topi (v := if (k - 1) / 2 = nwM S z then 7 else 0) (by simp [h234, h259]) ?_
            refine ev_istore X d_M_guard_268 (by decide) ?_
            refine ev_iload X d_M_guard_270 rfl ?_
            refine ev_if_eq (tgt := 295) X d_M_guard_272 (by decide) (fun h272 => ?_) (fun h272 => ?_)
            · refine ev_iload_n X d_M_guard_295 rfl ?_
              refine ev_iconst (v := 1) X d_M_guard_296 (by decide) ?_
              refine ev_iload X d_M_guard_297 rfl ?_
              refine ev_iload X d_M_guard_299 rfl ?_
              refine ev_bipush (v := 16) X d_M_guard_301 (by decide) ?_
              refine ev_iload X d_M_guard_303 rfl ?_
              refine ev_imul X d_M_guard_305 ?_
              refine ev_iadd X d_M_guard_306 ?_
              refine ev_cS1 X m_M_110 c_M_shown (by decide) (by decide) d_M_guard_307 rfl rfl (Nat.le_of_ble_eq_true rfl) ?_
              exact ev_iretL X hr hk d_M_guard_310 (by rw [gq, grE, if_neg g5]; first | (rw [if_pos h234, hev]; rfl) | (rw [if_neg h234, hev]; rfl)) (rfl)
            · exact absurd h272 (by decide)
          · refine ev_bipush (v := 7) X d_M_guard_262 (by decide) ?_
            refine ev_goto (tgt := 268) X d_M_guard_264 (by decide) ?_
            refine ev_topi (v := if (k - 1) / 2 = nwM S z then 7 else 0) (by simp [h234, h259]) ?_
            refine ev_istore X d_M_guard_268 (by decide) ?_
            refine ev_iload X d_M_guard_270 rfl ?_
            refine ev_if_eq (tgt := 295) X d_M_guard_272 (by decide) (fun h272 => ?_) (fun h272 => ?_)
            · refine ev_iload_n X d_M_guard_295 rfl ?_
              refine ev_iconst (v := 1) X d_M_guard_296 (by decide) ?_
              refine ev_iload X d_M_guard_297 rfl ?_
              refine ev_iload X d_M_guard_299 rfl ?_
              refine ev_bipush (v := 16) X d_M_guard_301 (by decide) ?_
              refine ev_iload X d_M_guard_303 rfl ?_
              refine ev_imul X d_M_guard_305 ?_
              refine ev_iadd X d_M_guard_306 ?_
              refine ev_cS1 X m_M_110 c_M_shown (by decide) (by decide) d_M_guard_307 rfl rfl (Nat.le_of_ble_eq_true rfl) ?_
              exact ev_iretL X hr hk d_M_guard_310 (by rw [gq, grE, if_neg g5]; first | (rw [if_pos h234, hev]; rfl) | (rw [if_neg h234, hev]; rfl)) (rfl)
            · exact absurd h272 (by decide)
        · refine ev_iload_n X d_M_guard_237 rfl ?_
          refine ev_iconst (v := 0) X d_M_guard_238 (by decide) ?_
          refine ev_iconst (v := 0) X d_M_guard_239 (by decide) ?_
          refine ev_iload X d_M_guard_240 rfl ?_
          refine ev_if_eq (tgt := 249) X d_M_guard_242 (by decide) (fun h242 => ?_) (fun h242 => ?_)
          · refine ev_iload X d_M_guard_249 rfl ?_
            refine ev_cS1 X m_M_110 c_M_shown (by decide) (by decide) d_M_guard_251 rfl rfl (Nat.le_of_ble_eq_true rfl) ?_
            exact ev_iretL X hr hk d_M_guard_254 (by rw [gq, grE, if_neg g5]; first | (rw [if_pos h234, hev]; rfl) | (rw [if_neg h234, hev]; rfl)) (rfl)
          · exact absurd h242 (by decide)
      refine ev_aload_n X d_M_guard_164 rfl ?_
      refine ev_getR X f_M_28 lo_mod rfl d_M_guard_165 ?_
      refine ev_iload X d_M_guard_168 rfl ?_
      refine ev_iald X lm_sizes rfl (inr_z hg) (inr_j (k := 4) rfl (by decide) hg) d_M_guard_170 ?_
      refine ev_istore X d_M_guard_171 (by decide) ?_
      refine ev_bipush (v := 16) X d_M_guard_173 (by decide) ?_
      refine ev_aload_n X d_M_guard_175 rfl ?_
      refine ev_getR X f_M_25 lo_mod rfl d_M_guard_176 ?_
      refine ev_iload X d_M_guard_179 rfl ?_
      refine ev_iald X lm_firsts rfl (inr_z hg) (inr_j (k := 4) rfl (by decide) hg) d_M_guard_181 ?_
      refine ev_imul X d_M_guard_182 ?_
      refine ev_istore X d_M_guard_183 (by decide) ?_
      refine ev_iload X d_M_guard_185 rfl ?_
      refine ev_iconst (v := 1) X d_M_guard_187 (by decide) ?_
      refine ev_icmp_eq (tgt := 210) X d_M_guard_188 (by decide) (fun h188 => ?_) (fun h188 => ?_)
      · refine ev_aload_n X d_M_guard_210 rfl ?_
        refine ev_getR X f_M_25 lo_mod rfl d_M_guard_211 ?_
        refine ev_iload X d_M_guard_214 rfl ?_
        refine ev_iald X lm_firsts rfl (inr_z hg) (inr_j (k := 4) rfl (by decide) hg) d_M_guard_216 ?_
        refine ev_iload X d_M_guard_217 rfl ?_
        refine ev_irem X d_M_guard_219 (by first | (rw [h188]; decide) | (rw [h194]; decide) | (rw [h200]; decide) | (rw [h207]; decide)) ?_
        refine ev_if_ne (tgt := 227) X d_M_guard_220 (by decide) (fun h220 => ?_) (fun h220 => ?_)
        · refine ev_iconst (v := 0) X d_M_guard_227 (by decide) ?_
          first | exact half1 (evM_t (by first | exact Or.inl h188 | exact Or.inr (Or.inl h194) | exact Or.inr (Or.inr (Or.inl h200)) | exact Or.inr (Or.inr (Or.inr h207))) h220) | exact half0 (evM_f1 h220) | exact half0 (evM_f2 h188 h194 h200 h207)
        · refine ev_iconst (v := 1) X d_M_guard_223 (by decide) ?_
          refine ev_goto (tgt := 228) X d_M_guard_224 (by decide) ?_
          first | exact half1 (evM_t (by first | exact Or.inl h188 | exact Or.inr (Or.inl h194) | exact Or.inr (Or.inr (Or.inl h200)) | exact Or.inr (Or.inr (Or.inr h207))) h220) | exact half0 (evM_f1 h220) | exact half0 (evM_f2 h188 h194 h200 h207)
      · refine ev_iload X d_M_guard_191 rfl ?_
        refine ev_iconst (v := 2) X d_M_guard_193 (by decide) ?_
        refine ev_icmp_eq (tgt := 210) X d_M_guard_194 (by decide) (fun h194 => ?_) (fun h194 => ?_)
        · refine ev_aload_n X d_M_guard_210 rfl ?_
          refine ev_getR X f_M_25 lo_mod rfl d_M_guard_211 ?_
          refine ev_iload X d_M_guard_214 rfl ?_
          refine ev_iald X lm_firsts rfl (inr_z hg) (inr_j (k := 4) rfl (by decide) hg) d_M_guard_216 ?_
          refine ev_iload X d_M_guard_217 rfl ?_
          refine ev_irem X d_M_guard_219 (by first | (rw [h188]; decide) | (rw [h194]; decide) | (rw [h200]; decide) | (rw [h207]; decide)) ?_
          refine ev_if_ne (tgt := 227) X d_M_guard_220 (by decide) (fun h220 => ?_) (fun h220 => ?_)
          · refine ev_iconst (v := 0) X d_M_guard_227 (by decide) ?_
            first | exact half1 (evM_t (by first | exact Or.inl h188 | exact Or.inr (Or.inl h194) | exact Or.inr (Or.inr (Or.inl h200)) | exact Or.inr (Or.inr (Or.inr h207))) h220) | exact half0 (evM_f1 h220) | exact half0 (evM_f2 h188 h194 h200 h207)
          · refine ev_iconst (v := 1) X d_M_guard_223 (by decide) ?_
            refine ev_goto (tgt := 228) X d_M_guard_224 (by decide) ?_
            first | exact half1 (evM_t (by first | exact Or.inl h188 | exact Or.inr (Or.inl h194) | exact Or.inr (Or.inr (Or.inl h200)) | exact Or.inr (Or.inr (Or.inr h207))) h220) | exact half0 (evM_f1 h220) | exact half0 (evM_f2 h188 h194 h200 h207)
        · refine ev_iload X d_M_guard_197 rfl ?_
          refine ev_iconst (v := 4) X d_M_guard_199 (by decide) ?_
          refine ev_icmp_eq (tgt := 210) X d_M_guard_200 (by decide) (fun h200 => ?_) (fun h200 => ?_)
          · refine ev_aload_n X d_M_guard_210 rfl ?_
            refine ev_getR X f_M_25 lo_mod rfl d_M_guard_211 ?_
            refine ev_iload X d_M_guard_214 rfl ?_
            refine ev_iald X lm_firsts rfl (inr_z hg) (inr_j (k := 4) rfl (by decide) hg) d_M_guard_216 ?_
            refine ev_iload X d_M_guard_217 rfl ?_
            refine ev_irem X d_M_guard_219 (by first | (rw [h188]; decide) | (rw [h194]; decide) | (rw [h200]; decide) | (rw [h207]; decide)) ?_
            refine ev_if_ne (tgt := 227) X d_M_guard_220 (by decide) (fun h220 => ?_) (fun h220 => ?_)
            · refine ev_iconst (v := 0) X d_M_guard_227 (by decide) ?_
              first | exact half1 (evM_t (by first | exact Or.inl h188 | exact Or.inr (Or.inl h194) | exact Or.inr (Or.inr (Or.inl h200)) | exact Or.inr (Or.inr (Or.inr h207))) h220) | exact half0 (evM_f1 h220) | exact half0 (evM_f2 h188 h194 h200 h207)
            · refine ev_iconst (v := 1) X d_M_guard_223 (by decide) ?_
              refine ev_goto (tgt := 228) X d_M_guard_224 (by decide) ?_
              first | exact half1 (evM_t (by first | exact Or.inl h188 | exact Or.inr (Or.inl h194) | exact Or.inr (Or.inr (Or.inl h200)) | exact Or.inr (Or.inr (Or.inr h207))) h220) | exact half0 (evM_f1 h220) | exact half0 (evM_f2 h188 h194 h200 h207)
          · refine ev_iload X d_M_guard_203 rfl ?_
            refine ev_bipush (v := 8) X d_M_guard_205 (by decide) ?_
            refine ev_icmp_ne (tgt := 227) X d_M_guard_207 (by decide) (fun h207 => ?_) (fun h207 => ?_)
            · refine ev_iconst (v := 0) X d_M_guard_227 (by decide) ?_
              first | exact half1 (evM_t (by first | exact Or.inl h188 | exact Or.inr (Or.inl h194) | exact Or.inr (Or.inr (Or.inl h200)) | exact Or.inr (Or.inr (Or.inr h207))) h220) | exact half0 (evM_f1 h220) | exact half0 (evM_f2 h188 h194 h200 h207)
            · refine ev_aload_n X d_M_guard_210 rfl ?_
              refine ev_getR X f_M_25 lo_mod rfl d_M_guard_211 ?_
              refine ev_iload X d_M_guard_214 rfl ?_
              refine ev_iald X lm_firsts rfl (inr_z hg) (inr_j (k := 4) rfl (by decide) hg) d_M_guard_216 ?_
              refine ev_iload X d_M_guard_217 rfl ?_
              refine ev_irem X d_M_guard_219 (by first | (rw [h188]; decide) | (rw [h194]; decide) | (rw [h200]; decide) | (rw [h207]; decide)) ?_
              refine ev_if_ne (tgt := 227) X d_M_guard_220 (by decide) (fun h220 => ?_) (fun h220 => ?_)
              · refine ev_iconst (v := 0) X d_M_guard_227 (by decide) ?_
                first | exact half1 (evM_t (by first | exact Or.inl h188 | exact Or.inr (Or.inl h194) | exact Or.inr (Or.inr (Or.inl h200)) | exact Or.inr (Or.inr (Or.inr h207))) h220) | exact half0 (evM_f1 h220) | exact half0 (evM_f2 h188 h194 h200 h207)
              · refine ev_iconst (v := 1) X d_M_guard_223 (by decide) ?_
                refine ev_goto (tgt := 228) X d_M_guard_224 (by decide) ?_
                first | exact half1 (evM_t (by first | exact Or.inl h188 | exact Or.inr (Or.inl h194) | exact Or.inr (Or.inr (Or.inl h200)) | exact Or.inr (Or.inr (Or.inr h207))) h220) | exact half0 (evM_f1 h220) | exact half0 (evM_f2 h188 h194 h200 h207)
    · have g5 : S 5 ((k - 1) / 2).toNatClampNeg = 0 := h159
      refine ev_iconst (v := 0) X d_M_guard_162 (by decide) ?_
      exact ev_iretL X hr hk d_M_guard_163 (by rw [gq]; simp [grE, g5]) (rfl)
  refine ev_iload_n X d_M_guard_0 rfl ?_
  refine ev_cS1 X m_M_58 c_M_processor (by decide) (by decide) d_M_guard_1 rfl rfl (Nat.le_of_ble_eq_true rfl) ?_
  refine ev_if_eqB (tgt := 26) X d_M_guard_4 (by decide) (fun h4 => ?_) (fun h4 => ?_)
  · refine ev_iconst (v := (-1)) X d_M_guard_26 (by decide) ?_
    exact ev_iretL X hr hk d_M_guard_27 (by first | (simp [grM, h4]; done) | (simp [grM, hi]; done) | (simp [grM, hj]; done)) (rfl)
  · refine ev_iload_n X d_M_guard_7 rfl ?_
    refine ev_if_lt (tgt := 26) X d_M_guard_8 (by decide) (fun h8 => ?_) (fun h8 => ?_)
    · have hi : inr k 11 = false := by simp [inr, h8]
      refine ev_iconst (v := (-1)) X d_M_guard_26 (by decide) ?_
      exact ev_iretL X hr hk d_M_guard_27 (by first | (simp [grM, h4]; done) | (simp [grM, hi]; done) | (simp [grM, hj]; done)) (rfl)
    · refine ev_iload_n X d_M_guard_11 rfl ?_
      refine ev_bipush (v := 10) X d_M_guard_12 (by decide) ?_
      refine ev_icmp_gt (tgt := 26) X d_M_guard_14 (by decide) (fun h14 => ?_) (fun h14 => ?_)
      · have hi : inr k 11 = false := inr_nle (n := 10) (by decide) rfl rfl (Int32.not_le.mpr h14)
        refine ev_iconst (v := (-1)) X d_M_guard_26 (by decide) ?_
        exact ev_iretL X hr hk d_M_guard_27 (by first | (simp [grM, h4]; done) | (simp [grM, hi]; done) | (simp [grM, hj]; done)) (rfl)
      · have hi : inr k 11 = true := inr_nlt (n := 10) (by decide) rfl rfl h8 h14
        refine ev_iload_n X d_M_guard_17 rfl ?_
        refine ev_if_lt (tgt := 26) X d_M_guard_18 (by decide) (fun h18 => ?_) (fun h18 => ?_)
        · have hj : inr v 3 = false := by simp [inr, h18]
          refine ev_iconst (v := (-1)) X d_M_guard_26 (by decide) ?_
          exact ev_iretL X hr hk d_M_guard_27 (by first | (simp [grM, h4]; done) | (simp [grM, hi]; done) | (simp [grM, hj]; done)) (rfl)
        · refine ev_iload_n X d_M_guard_21 rfl ?_
          refine ev_iconst (v := 2) X d_M_guard_22 (by decide) ?_
          refine ev_icmp_le (tgt := 28) X d_M_guard_23 (by decide) (fun h23 => ?_) (fun h23 => ?_)
          · have hj : inr v 3 = true := inr_le (n := 2) (by decide) rfl rfl h18 h23
            refine ev_aload_n X d_M_guard_28 rfl ?_
            refine ev_getR X f_M_19 lo_mod rfl d_M_guard_29 ?_
            refine ev_iload_n X d_M_guard_32 rfl ?_
            refine ev_iald X lm_runs rfl (inr_z h4) (inr_j (k := 2) rfl (by decide) h4) d_M_guard_33 ?_
            refine ev_topi (v := nwM S z) rfl ?_
            refine ev_istore X d_M_guard_34 (by decide) ?_
            refine ev_iload_n X d_M_guard_36 rfl ?_
            refine ev_if_ne (tgt := 49) X d_M_guard_37 (by decide) (fun h37 => ?_) (fun h37 => ?_)
            · refine ev_iload_n X d_M_guard_49 rfl ?_
              refine ev_bipush (v := 10) X d_M_guard_50 (by decide) ?_
              refine ev_icmp_ne (tgt := 74) X d_M_guard_52 (by decide) (fun h52 => ?_) (fun h52 => ?_)
              · refine ev_iload_n X d_M_guard_74 rfl ?_
                refine ev_bipush (v := 9) X d_M_guard_75 (by decide) ?_
                refine ev_icmp_ne (tgt := 145) X d_M_guard_77 (by decide) (fun h77 => ?_) (fun h77 => ?_)
                · exact pair (gk_in hi h37 h77 h52) (by rw [grM, if_pos (show inr z 2 = true ∧ inr k 11 = true ∧ inr v 3 = true from ⟨h4, hi, hj⟩), if_neg h37, if_neg h52, if_neg h77])
                · refine ev_iload X d_M_guard_80 rfl ?_
                  refine ev_if_ge (tgt := 89) X d_M_guard_82 (by decide) (fun h82 => ?_) (fun h82 => ?_)
                  · have hn : ¬ nwM S z < 0 := Int32.not_lt.mpr h82
                    refine ev_aload_n X d_M_guard_89 rfl ?_
                    refine ev_getR X f_M_34 lo_mod rfl d_M_guard_90 ?_
                    refine ev_iload X d_M_guard_93 rfl ?_
                    refine ev_iald X lm_shares rfl (inr_z ((hru h4).resolve_left hn)) (inr_j (k := 4) rfl (by decide) ((hru h4).resolve_left hn)) d_M_guard_95 ?_
                    refine ev_topi (v := s9M S z) (by simp [s9M, hn]; try rfl) ?_
                    refine ev_istore X d_M_guard_96 (by decide) ?_
                    refine ev_iload X d_M_guard_98 rfl ?_
                    refine ev_if_ge (tgt := 107) X d_M_guard_100 (by decide) (fun h100 => ?_) (fun h100 => ?_)
                    · have hs : ¬ s9M S z < 0 := Int32.not_lt.mpr h100
                      refine ev_iload X d_M_guard_107 rfl ?_
                      refine ev_sipush (v := 256) X d_M_guard_109 (by decide) ?_
                      refine ev_icmp_ge (tgt := 126) X d_M_guard_112 (by decide) (fun h112 => ?_) (fun h112 => ?_)
                      · refine ev_iload_n X d_M_guard_126 rfl ?_
                        refine ev_iconst (v := 3) X d_M_guard_127 (by decide) ?_
                        refine ev_iconst (v := 3) X d_M_guard_128 (by decide) ?_
                        refine ev_bipush (v := 16) X d_M_guard_129 (by decide) ?_
                        refine ev_iload X d_M_guard_131 rfl ?_
                        refine ev_sipush (v := 256) X d_M_guard_133 (by decide) ?_
                        refine ev_isub X d_M_guard_136 ?_
                        refine ev_imul X d_M_guard_137 ?_
                        refine ev_bipush (v := 7) X d_M_guard_138 (by decide) ?_
                        refine ev_iadd X d_M_guard_140 ?_
                        refine ev_cS1 X m_M_110 c_M_shown (by decide) (by decide) d_M_guard_141 rfl rfl (Nat.le_of_ble_eq_true rfl) ?_
                        exact ev_iretL X hr hk d_M_guard_144 (by rw [grM, if_pos (show inr z 2 = true ∧ inr k 11 = true ∧ inr v 3 = true from ⟨h4, hi, hj⟩), if_neg h37, if_neg h52, if_pos h77]; first | (rw [if_pos hs]; done) | (rw [if_neg hs, if_pos h112]; rfl) | (rw [if_neg hs, if_neg h112]; rfl)) (rfl)
                      · refine ev_iload_n X d_M_guard_115 rfl ?_
                        refine ev_iconst (v := 2) X d_M_guard_116 (by decide) ?_
                        refine ev_iconst (v := 3) X d_M_guard_117 (by decide) ?_
                        refine ev_iload X d_M_guard_118 rfl ?_
                        refine ev_cS1 X m_M_110 c_M_shown (by decide) (by decide) d_M_guard_120 rfl rfl (Nat.le_of_ble_eq_true rfl) ?_
                        refine ev_goto (tgt := 144) X d_M_guard_123 (by decide) ?_
                        exact ev_iretL X hr hk d_M_guard_144 (by rw [grM, if_pos (show inr z 2 = true ∧ inr k 11 = true ∧ inr v 3 = true from ⟨h4, hi, hj⟩), if_neg h37, if_neg h52, if_pos h77]; first | (rw [if_pos hs]; done) | (rw [if_neg hs, if_pos h112]; rfl) | (rw [if_neg hs, if_neg h112]; rfl)) (rfl)
                    · have hs : s9M S z < 0 := Int32.not_le.mp h100
                      refine ev_iconst (v := 0) X d_M_guard_103 (by decide) ?_
                      refine ev_goto (tgt := 144) X d_M_guard_104 (by decide) ?_
                      exact ev_iretL X hr hk d_M_guard_144 (by rw [grM, if_pos (show inr z 2 = true ∧ inr k 11 = true ∧ inr v 3 = true from ⟨h4, hi, hj⟩), if_neg h37, if_neg h52, if_pos h77]; first | (rw [if_pos hs]; done) | (rw [if_neg hs, if_pos h112]; rfl) | (rw [if_neg hs, if_neg h112]; rfl)) (rfl)
                  · have hn : nwM S z < 0 := Int32.not_le.mp h82
                    refine ev_iconst (v := (-1)) X d_M_guard_85 (by decide) ?_
                    refine ev_goto (tgt := 96) X d_M_guard_86 (by decide) ?_
                    refine ev_topi (v := s9M S z) (by simp [s9M, hn]; try rfl) ?_
                    refine ev_istore X d_M_guard_96 (by decide) ?_
                    refine ev_iload X d_M_guard_98 rfl ?_
                    refine ev_if_ge (tgt := 107) X d_M_guard_100 (by decide) (fun h100 => ?_) (fun h100 => ?_)
                    · have hs : ¬ s9M S z < 0 := Int32.not_lt.mpr h100
                      refine ev_iload X d_M_guard_107 rfl ?_
                      refine ev_sipush (v := 256) X d_M_guard_109 (by decide) ?_
                      refine ev_icmp_ge (tgt := 126) X d_M_guard_112 (by decide) (fun h112 => ?_) (fun h112 => ?_)
                      · refine ev_iload_n X d_M_guard_126 rfl ?_
                        refine ev_iconst (v := 3) X d_M_guard_127 (by decide) ?_
                        refine ev_iconst (v := 3) X d_M_guard_128 (by decide) ?_
                        refine ev_bipush (v := 16) X d_M_guard_129 (by decide) ?_
                        refine ev_iload X d_M_guard_131 rfl ?_
                        refine ev_sipush (v := 256) X d_M_guard_133 (by decide) ?_
                        refine ev_isub X d_M_guard_136 ?_
                        refine ev_imul X d_M_guard_137 ?_
                        refine ev_bipush (v := 7) X d_M_guard_138 (by decide) ?_
                        refine ev_iadd X d_M_guard_140 ?_
                        refine ev_cS1 X m_M_110 c_M_shown (by decide) (by decide) d_M_guard_141 rfl rfl (Nat.le_of_ble_eq_true rfl) ?_
                        exact ev_iretL X hr hk d_M_guard_144 (by rw [grM, if_pos (show inr z 2 = true ∧ inr k 11 = true ∧ inr v 3 = true from ⟨h4, hi, hj⟩), if_neg h37, if_neg h52, if_pos h77]; first | (rw [if_pos hs]; done) | (rw [if_neg hs, if_pos h112]; rfl) | (rw [if_neg hs, if_neg h112]; rfl)) (rfl)
                      · refine ev_iload_n X d_M_guard_115 rfl ?_
                        refine ev_iconst (v := 2) X d_M_guard_116 (by decide) ?_
                        refine ev_iconst (v := 3) X d_M_guard_117 (by decide) ?_
                        refine ev_iload X d_M_guard_118 rfl ?_
                        refine ev_cS1 X m_M_110 c_M_shown (by decide) (by decide) d_M_guard_120 rfl rfl (Nat.le_of_ble_eq_true rfl) ?_
                        refine ev_goto (tgt := 144) X d_M_guard_123 (by decide) ?_
                        exact ev_iretL X hr hk d_M_guard_144 (by rw [grM, if_pos (show inr z 2 = true ∧ inr k 11 = true ∧ inr v 3 = true from ⟨h4, hi, hj⟩), if_neg h37, if_neg h52, if_pos h77]; first | (rw [if_pos hs]; done) | (rw [if_neg hs, if_pos h112]; rfl) | (rw [if_neg hs, if_neg h112]; rfl)) (rfl)
                    · have hs : s9M S z < 0 := Int32.not_le.mp h100
                      refine ev_iconst (v := 0) X d_M_guard_103 (by decide) ?_
                      refine ev_goto (tgt := 144) X d_M_guard_104 (by decide) ?_
                      exact ev_iretL X hr hk d_M_guard_144 (by rw [grM, if_pos (show inr z 2 = true ∧ inr k 11 = true ∧ inr v 3 = true from ⟨h4, hi, hj⟩), if_neg h37, if_neg h52, if_pos h77]; first | (rw [if_pos hs]; done) | (rw [if_neg hs, if_pos h112]; rfl) | (rw [if_neg hs, if_neg h112]; rfl)) (rfl)
              · refine ev_iload_n X d_M_guard_55 rfl ?_
                refine ev_iconst (v := 3) X d_M_guard_56 (by decide) ?_
                refine ev_iload X d_M_guard_57 rfl ?_
                refine ev_if_ge (tgt := 67) X d_M_guard_59 (by decide) (fun h59 => ?_) (fun h59 => ?_)
                · have hn : ¬ nwM S z < 0 := Int32.not_lt.mpr h59
                  refine ev_iconst (v := 0) X d_M_guard_67 (by decide) ?_
                  refine ev_topi (v := if nwM S z < 0 then 7 else 0) (by simp [hn]) ?_
                  refine ev_bipush (v := 127) X d_M_guard_68 (by decide) ?_
                  refine ev_cS1 X m_M_110 c_M_shown (by decide) (by decide) d_M_guard_70 rfl rfl (Nat.le_of_ble_eq_true rfl) ?_
                  exact ev_iretL X hr hk d_M_guard_73 (by rw [grM, if_pos (show inr z 2 = true ∧ inr k 11 = true ∧ inr v 3 = true from ⟨h4, hi, hj⟩), if_neg h37, if_pos h52]; rfl) (rfl)
                · have hn : nwM S z < 0 := Int32.not_le.mp h59
                  refine ev_bipush (v := 7) X d_M_guard_62 (by decide) ?_
                  refine ev_goto (tgt := 68) X d_M_guard_64 (by decide) ?_
                  refine ev_topi (v := if nwM S z < 0 then 7 else 0) (by simp [hn]) ?_
                  refine ev_bipush (v := 127) X d_M_guard_68 (by decide) ?_
                  refine ev_cS1 X m_M_110 c_M_shown (by decide) (by decide) d_M_guard_70 rfl rfl (Nat.le_of_ble_eq_true rfl) ?_
                  exact ev_iretL X hr hk d_M_guard_73 (by rw [grM, if_pos (show inr z 2 = true ∧ inr k 11 = true ∧ inr v 3 = true from ⟨h4, hi, hj⟩), if_neg h37, if_pos h52]; rfl) (rfl)
            · refine ev_iload_n X d_M_guard_40 rfl ?_
              refine ev_iconst (v := 3) X d_M_guard_41 (by decide) ?_
              refine ev_iconst (v := 0) X d_M_guard_42 (by decide) ?_
              refine ev_bipush (v := 7) X d_M_guard_43 (by decide) ?_
              refine ev_cS1 X m_M_110 c_M_shown (by decide) (by decide) d_M_guard_45 rfl rfl (Nat.le_of_ble_eq_true rfl) ?_
              exact ev_iretL X hr hk d_M_guard_48 (by rw [grM, if_pos (show inr z 2 = true ∧ inr k 11 = true ∧ inr v 3 = true from ⟨h4, hi, hj⟩), if_pos h37]; rfl) (rfl)
          · have hj : inr v 3 = false := inr_nle (n := 2) (by decide) rfl rfl h23
            refine ev_iconst (v := (-1)) X d_M_guard_26 (by decide) ?_
            exact ev_iretL X hr hk d_M_guard_27 (by first | (simp [grM, h4]; done) | (simp [grM, hi]; done) | (simp [grM, hj]; done)) (rfl)
