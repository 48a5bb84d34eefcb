theorem w16l (a : Nat) : 16 * nI a = nI (16 * a) := by rw [show (16 : Int32) = nI 16 from rfl, pk_mul]
theorem wrM_ex {F N en sh : Int32} (h : wrM F N en sh = false) : (∃ f n, F = nI f ∧ N = nI n ∧ f + n ≤ 16 ∧ 1 ≤ n ∧ n ≤ 8) ∧ shS sh = true := by
  unfold wrM at h
  by_cases h1 : N < 1
  · simp [h1] at h
  by_cases h2 : 8 < N
  · simp [h1, h2] at h
  by_cases h3 : F < 0
  · simp [h1, h2, h3] at h
  by_cases h4 : 15 < F
  · simp [h1, h2, h3, h4] at h
  by_cases h5 : F + N ≤ 16
  · by_cases h6 : en < 16 * F
    · simp [h1, h2, h3, h4, h5, h6] at h
    by_cases h7 : 16 * (F + N) ≤ en
    · simp [h1, h2, h3, h4, h5, h6, h7] at h
    by_cases h8 : sh < -1
    · simp [h1, h2, h3, h4, h5, h6, h7, h8] at h
    by_cases h9 : sh ≤ 271
    · obtain ⟨f, hf, rfl⟩ := inr_ex (k := 16) (by decide) rfl (inr_nlt (n := 15) (p := 16) (by decide) rfl rfl h3 h4)
      have hN0 : ¬ N < 0 := fun q => h1 (by
        have := Int32.lt_iff_toInt_lt.mp q
        refine Int32.lt_iff_toInt_lt.mpr ?_
        have e0 : (0 : Int32).toInt = 0 := by decide
        have e1 : (1 : Int32).toInt = 1 := by decide
        rw [e0] at this
        rw [e1]
        omega)
      obtain ⟨n, hn, rfl⟩ := inr_ex (k := 9) (by decide) rfl (inr_nlt (n := 8) (p := 9) (by decide) rfl rfl hN0 h2)
      have n1 : 1 ≤ n := by
        by_cases q : 1 ≤ n
        · exact q
        · exact absurd (nI_lt (a := n) (b := 1) (by omega) (by decide)) h1
      rw [nI_add] at h5
      have h5' := (nI_leI (b := 16) (by omega) (by decide)).mp h5
      refine ⟨⟨f, n, rfl, rfl, h5', n1, by omega⟩, ?_⟩
      simp [shS, h8, Int32.not_lt.mpr h9]
    · simp [h1, h2, h3, h4, h5, h6, h7, h8, h9] at h
  · simp [h1, h2, h3, h4, h5] at h
theorem canP_ge {z : Int32} (h : 256 ≤ z) : canP z = z - 256 := by
  unfold canP
  rw [if_neg (Int32.not_lt.mpr h)]
theorem canP_lt {z : Int32} (h : ¬ 256 ≤ z) : canP z = z / 16 := by
  unfold canP
  rw [if_pos (Int32.not_le.mp h)]
theorem ne_m1 {z : Int32} (h : ¬ z < 0) : ¬ z = -1 := fun q => h (by rw [q]; decide)
def canM (S : St) (sh F N : Int32) : Bool := decide (sh < 0) || (decide (S 2 (canP sh).toNatClampNeg = 1) && (decide (canP sh < F) || decide (F + N ≤ canP sh)))
def lfeM (S : St) : Nat → Nat → Nat
  | e, 0 => e
  | e, n + 1 => if S 5 e = 0 then e else lfeM S (e + 1) n
theorem lfeM_le (S : St) : ∀ (n e : Nat), lfeM S e n ≤ e + n
  | 0, e => Nat.le_refl _
  | n + 1, e => by
    unfold lfeM
    split
    · omega
    · have := lfeM_le S n (e + 1)
      omega
def mkM1 (S : St) (e f n : Nat) (F N en sh : Int32) : St := up2 (up2 (up2 (up2 (up2 (fil S 2 f (f + n) (2 + nI e)) 5 e 1) 6 e F) 7 e N) 8 e en) 9 e sh
noncomputable def mkM (S : St) (e f n : Nat) (F N en sh : Int32) : St := up2 (mkM1 S e f n F N en sh) 10 e (mfold (mkM1 S e f n F N en sh 1) (16 * n) (16 * f) (mixI N (en - 16 * F)))
def wCr3 (S : St) (e : Nat) : Int32 := if e = 4 then -5 else nI e
noncomputable def tCr3 (S : St) (e f n : Nat) (F N en sh : Int32) : St := if e = 4 then S else mkM S e f n F N en sh
def wCreate (S : St) (z F N en sh : Int32) : Int32 := if bsM S z = true then -1 else if wrM F N en sh = true then -2 else if sysP S F.toNatClampNeg N.toNatClampNeg = false then -3 else if canM S sh F N = false then -4 else wCr3 S (lfeM S 0 4)
noncomputable def tCreate (S : St) (z F N en sh : Int32) : St := if bsM S z = true then S else if wrM F N en sh = true then S else if sysP S F.toNatClampNeg N.toNatClampNeg = false then S else if canM S sh F N = false then S else tCr3 S (lfeM S 0 4) F.toNatClampNeg N.toNatClampNeg F N en sh
set_option maxHeartbeats 4000000 in
set_option maxRecDepth 100000 in
theorem c_M_measure {l : Launch} {D : va_G} {ad : Nat → Nat} {ca : Nat → ClassId} {x : va_W} {S : St} {f n : Nat} {en : Int32} (hfn : f + n ≤ 16) : CtM l D ad ca x y_M_measure b_M_measure 6 (some .int) 1 [.ref (ad 0), .int (nI f), .int (nI n), .int en] S S (some (.int (mfold (S 1) (16 * n) (16 * f) (mixI (nI n) (en - 16 * nI f))))) := by
  refine ev_ent [some (.ref (ad 0)), some (.int (nI f)), some (.int (nI n)), some (.int en), none, none] rfl (by decide) (Nat.le_of_ble_eq_true rfl) rfl gTT (fun p e s m args below meth c A X hr hk => ?_)
  have loop : ∀ (r k : Nat) (u : Int32), k + r = 16 * (f + n) → mfold (S 1) (16 * n) (16 * f) (mixI (nI n) (en - 16 * nI f)) = mfold (S 1) r k u → EV p l e (rmd 1) s m args below meth c 0 0 (MQ below (QQ clX D A (ly_w lyM 14 ad ca S x) (some (.int (mfold (S 1) (16 * n) (16 * f) (mixI (nI n) (en - 16 * nI f)))))) args s 0 0 A) 6 D clX A s.heap (ly_w lyM 14 ad ca S x) 18 [some (.ref (ad 0)), some (.int (nI f)), some (.int (nI n)), some (.int en), some (.int u), some (.int (nI k))] [] := by
    intro r
    induction r with
    | zero =>
      intro k u q1 q2
      refine ev_iload X d_M_measure_18 rfl ?_
      refine ev_bipush (v := 16) X d_M_measure_20 (by decide) ?_
      refine ev_iload_n X d_M_measure_22 rfl ?_
      refine ev_iload_n X d_M_measure_23 rfl ?_
      refine ev_iadd X d_M_measure_24 ?_
      refine ev_imul X d_M_measure_25 ?_
      refine ev_icmp_ge (tgt := 49) X d_M_measure_26 (by decide) (fun h26 => ?_) (fun h26 => ?_)
      · refine ev_iload X d_M_measure_49 rfl ?_
        exact ev_iretL X hr hk d_M_measure_51 (by rw [q2, mfold_zero]) (rfl)
      · exact absurd (by rw [nI_add, w16l]; exact nI_le (by omega) (by omega)) h26
    | succ r ih =>
      intro k u q1 q2
      refine ev_iload X d_M_measure_18 rfl ?_
      refine ev_bipush (v := 16) X d_M_measure_20 (by decide) ?_
      refine ev_iload_n X d_M_measure_22 rfl ?_
      refine ev_iload_n X d_M_measure_23 rfl ?_
      refine ev_iadd X d_M_measure_24 ?_
      refine ev_imul X d_M_measure_25 ?_
      refine ev_icmp_ge (tgt := 49) X d_M_measure_26 (by decide) (fun h26 => ?_) (fun h26 => ?_)
      · exact absurd h26 (by rw [nI_add, w16l]; exact nI_ge (by omega) (by omega))
      · refine ev_iload X d_M_measure_29 rfl ?_
        refine ev_aload_n X d_M_measure_31 rfl ?_
        refine ev_getR X f_M_7 lo_mod rfl d_M_measure_32 ?_
        refine ev_iload X d_M_measure_35 rfl ?_
        refine ev_iald X lm_words rfl rfl (by omega) d_M_measure_37 ?_
        refine ev_cS1 X m_M_54 c_M_mix (by decide) (by decide) d_M_measure_38 rfl rfl (Nat.le_of_ble_eq_true rfl) ?_
        refine ev_istore X d_M_measure_41 (by decide) ?_
        refine ev_iinc (v := nI (k + 1)) X d_M_measure_43 rfl (nI_1 k) (by decide) ?_
        refine ev_goto (tgt := 18) X d_M_measure_46 (by decide) ?_
        exact ih (k + 1) _ (by omega) (by rw [q2, mfold_succ])
  refine ev_iload_n X d_M_measure_0 rfl ?_
  refine ev_iload_n X d_M_measure_1 rfl ?_
  refine ev_bipush (v := 16) X d_M_measure_2 (by decide) ?_
  refine ev_iload_n X d_M_measure_4 rfl ?_
  refine ev_imul X d_M_measure_5 ?_
  refine ev_isub X d_M_measure_6 ?_
  refine ev_cS1 X m_M_54 c_M_mix (by decide) (by decide) d_M_measure_7 rfl rfl (Nat.le_of_ble_eq_true rfl) ?_
  refine ev_istore X d_M_measure_10 (by decide) ?_
  refine ev_bipush (v := 16) X d_M_measure_12 (by decide) ?_
  refine ev_iload_n X d_M_measure_14 rfl ?_
  refine ev_imul X d_M_measure_15 ?_
  refine ev_topi (v := nI (16 * f)) (by rw [w16l]) ?_
  refine ev_istore X d_M_measure_16 (by decide) ?_
  exact loop (16 * n) (16 * f) _ (by omega) rfl
set_option maxHeartbeats 4000000 in
set_option maxRecDepth 100000 in
theorem c_M_create {l : Launch} {D : va_G} {ad : Nat → Nat} {ca : Nat → ClassId} {x : va_W} {S : St} {z F N en sh : Int32}  : CtM l D ad ca x y_M_create b_M_create 8 (some .int) 2 [.ref (ad 0), .int z, .int F, .int N, .int en, .int sh] S (tCreate S z F N en sh) (some (.int (wCreate S z F N en sh))) := by
  refine ev_ent [some (.ref (ad 0)), some (.int z), some (.int F), some (.int N), some (.int en), some (.int sh), none, none] rfl (by decide) (Nat.le_of_ble_eq_true rfl) rfl gTT (fun p e s m args below meth c A X hr hk => ?_)
  rcases Bool.eq_false_or_eq_true (wrM F N en sh) with hw | hw
  · refine ev_aload_n X d_M_create_0 rfl ?_
    refine ev_iload_n X d_M_create_1 rfl ?_
    refine ev_cV1 X m_M_66 c_M_busy lo_mod rfl rfl (by decide) (by decide) d_M_create_2 rfl rfl (Nat.le_of_ble_eq_true rfl) ?_
    refine ev_if_eqB (tgt := 10) X d_M_create_5 (by decide) (fun h5 => ?_) (fun h5 => ?_)
    · refine ev_aload_n X d_M_create_10 rfl ?_
      refine ev_iload_n X d_M_create_11 rfl ?_
      refine ev_iload_n X d_M_create_12 rfl ?_
      refine ev_iload X d_M_create_13 rfl ?_
      refine ev_iload X d_M_create_15 rfl ?_
      refine ev_cV1 X m_M_80 c_M_wrongRange lo_mod rfl rfl (by decide) (by decide) d_M_create_17 rfl rfl (Nat.le_of_ble_eq_true rfl) ?_
      refine ev_if_eqB (tgt := 26) X d_M_create_20 (by decide) (fun h20 => ?_) (fun h20 => ?_)
      · exact absurd (hw.symm.trans h20) (by decide)
      · refine ev_bipush (v := (-2)) X d_M_create_23 (by decide) ?_
        exact ev_iretL X hr hk d_M_create_25 (by simp [wCreate, h5, h20]) (by simp [tCreate, h5, h20])
    · refine ev_iconst (v := (-1)) X d_M_create_8 (by decide) ?_
      exact ev_iretL X hr hk d_M_create_9 (by simp [wCreate, h5]) (by simp [tCreate, h5])
  · obtain ⟨⟨f, n, rfl, rfl, hfn, hn1, hn8⟩, hsh⟩ := wrM_ex hw
    have ef : (nI f).toNatClampNeg = f := nI_clamp (by omega)
    have en' : (nI n).toNatClampNeg = n := nI_clamp (by omega)
    have loop3 : ∀ (e' : Nat), e' < 4 → wCreate S z (nI f) (nI n) en sh = nI e' → tCreate S z (nI f) (nI n) en sh = mkM S e' f n (nI f) (nI n) en sh → ∀ (r k : Nat), k + r = f + n → f ≤ k → EV p l e (rmd 2) s m args below meth c 0 0 (MQ below (QQ clX D A (ly_w lyM 14 ad ca (tCreate S z (nI f) (nI n) en sh) x) (some (.int (wCreate S z (nI f) (nI n) en sh)))) args s 0 0 A) 8 D clX A s.heap (ly_w lyM 14 ad ca (fil S 2 f k (2 + nI e')) x) 151 [some (.ref (ad 0)), some (.int z), some (.int (nI f)), some (.int (nI n)), some (.int en), some (.int sh), some (.int (nI e')), some (.int (nI k))] [] := by
      intro e' he4 g1 g2 r
      induction r with
      | zero =>
        intro k q1 q2
        refine ev_iload X d_M_create_151 rfl ?_
        refine ev_iload_n X d_M_create_153 rfl ?_
        refine ev_iload_n X d_M_create_154 rfl ?_
        refine ev_iadd X d_M_create_155 ?_
        refine ev_icmp_ge (tgt := 176) X d_M_create_156 (by decide) (fun h156 => ?_) (fun h156 => ?_)
        · refine ev_aload_n X d_M_create_176 rfl ?_
          refine ev_getR X f_M_22 lo_mod rfl d_M_create_177 ?_
          refine ev_iload X d_M_create_180 rfl ?_
          refine ev_iconst (v := 1) X d_M_create_182 (by decide) ?_
          refine ev_iast X lm_states rfl rfl he4 d_M_create_183 ?_
          refine ev_aload_n X d_M_create_184 rfl ?_
          refine ev_getR X f_M_25 lo_mod rfl d_M_create_185 ?_
          refine ev_iload X d_M_create_188 rfl ?_
          refine ev_iload_n X d_M_create_190 rfl ?_
          refine ev_iast X lm_firsts rfl rfl he4 d_M_create_191 ?_
          refine ev_aload_n X d_M_create_192 rfl ?_
          refine ev_getR X f_M_28 lo_mod rfl d_M_create_193 ?_
          refine ev_iload X d_M_create_196 rfl ?_
          refine ev_iload_n X d_M_create_198 rfl ?_
          refine ev_iast X lm_sizes rfl rfl he4 d_M_create_199 ?_
          refine ev_aload_n X d_M_create_200 rfl ?_
          refine ev_getR X f_M_31 lo_mod rfl d_M_create_201 ?_
          refine ev_iload X d_M_create_204 rfl ?_
          refine ev_iload X d_M_create_206 rfl ?_
          refine ev_iast X lm_entries rfl rfl he4 d_M_create_208 ?_
          refine ev_aload_n X d_M_create_209 rfl ?_
          refine ev_getR X f_M_34 lo_mod rfl d_M_create_210 ?_
          refine ev_iload X d_M_create_213 rfl ?_
          refine ev_iload X d_M_create_215 rfl ?_
          refine ev_iast X lm_shares rfl rfl he4 d_M_create_217 ?_
          refine ev_aload_n X d_M_create_218 rfl ?_
          refine ev_getR X f_M_37 lo_mod rfl d_M_create_219 ?_
          refine ev_iload X d_M_create_222 rfl ?_
          refine ev_aload_n X d_M_create_224 rfl ?_
          refine ev_iload_n X d_M_create_225 rfl ?_
          refine ev_iload_n X d_M_create_226 rfl ?_
          refine ev_iload X d_M_create_227 rfl ?_
          refine ev_cV1 X m_M_84 (c_M_measure hfn) lo_mod rfl rfl (by decide) (by decide) d_M_create_229 rfl rfl (Nat.le_of_ble_eq_true rfl) ?_
          refine ev_iast X lm_measures rfl rfl he4 d_M_create_232 ?_
          refine ev_iload X d_M_create_233 rfl ?_
          exact ev_iretL X hr hk d_M_create_235 (by rw [g1]) (by rw [g2, show k = f + n by omega]; rfl)
        · exact absurd (by rw [nI_add]; exact nI_le (by omega) (by omega)) h156
      | succ r ih =>
        intro k q1 q2
        refine ev_iload X d_M_create_151 rfl ?_
        refine ev_iload_n X d_M_create_153 rfl ?_
        refine ev_iload_n X d_M_create_154 rfl ?_
        refine ev_iadd X d_M_create_155 ?_
        refine ev_icmp_ge (tgt := 176) X d_M_create_156 (by decide) (fun h156 => ?_) (fun h156 => ?_)
        · exact absurd h156 (by rw [nI_add]; exact nI_ge (by omega) (by omega))
        · refine ev_aload_n X d_M_create_159 rfl ?_
          refine ev_getR X f_M_13 lo_mod rfl d_M_create_160 ?_
          refine ev_iload X d_M_create_163 rfl ?_
          refine ev_iconst (v := 2) X d_M_create_165 (by decide) ?_
          refine ev_iload X d_M_create_166 rfl ?_
          refine ev_iadd X d_M_create_168 ?_
          refine ev_iast X lm_owners rfl rfl (by omega) d_M_create_169 ?_
          refine ev_iinc (v := nI (k + 1)) X d_M_create_170 rfl (nI_1 k) (by decide) ?_
          refine ev_goto (tgt := 151) X d_M_create_173 (by decide) ?_
          rw [fil_up (by omega)]
          exact ih (k + 1) (by omega) (by omega)
    have loop2 : ∀ (r k : Nat), k + r = 4 → wCreate S z (nI f) (nI n) en sh = wCr3 S (lfeM S k r) → tCreate S z (nI f) (nI n) en sh = tCr3 S (lfeM S k r) f n (nI f) (nI n) en sh → EV p l e (rmd 2) s m args below meth c 0 0 (MQ below (QQ clX D A (ly_w lyM 14 ad ca (tCreate S z (nI f) (nI n) en sh) x) (some (.int (wCreate S z (nI f) (nI n) en sh)))) args s 0 0 A) 8 D clX A s.heap (ly_w lyM 14 ad ca S x) 117 [some (.ref (ad 0)), some (.int z), some (.int (nI f)), some (.int (nI n)), some (.int en), some (.int sh), some (.int (nI k)), none] [] := by
      intro r
      induction r with
      | zero =>
        intro k q1 g1 g2
        refine ev_iload X d_M_create_117 rfl ?_
        refine ev_iconst (v := 4) X d_M_create_119 (by decide) ?_
        refine ev_icmp_ge (tgt := 139) X d_M_create_120 (by decide) (fun h120 => ?_) (fun h120 => ?_)
        · refine ev_iload X d_M_create_139 rfl ?_
          refine ev_iconst (v := 4) X d_M_create_141 (by decide) ?_
          refine ev_icmp_ne (tgt := 148) X d_M_create_142 (by decide) (fun h142 => ?_) (fun h142 => ?_)
          · exact absurd (show nI k = 4 by rw [show k = 4 by omega]; rfl) h142
          · refine ev_bipush (v := (-5)) X d_M_create_145 (by decide) ?_
            exact ev_iretL X hr hk d_M_create_147 (by rw [g1, show k = 4 by omega]; rfl) (by rw [g2, show k = 4 by omega]; rfl)
        · exact absurd (nI_le (a := 4) (by omega) (by omega)) h120
      | succ r ih =>
        intro k q1 g1 g2
        refine ev_iload X d_M_create_117 rfl ?_
        refine ev_iconst (v := 4) X d_M_create_119 (by decide) ?_
        refine ev_icmp_ge (tgt := 139) X d_M_create_120 (by decide) (fun h120 => ?_) (fun h120 => ?_)
        · exact absurd h120 (nI_ge (b := 4) (by omega) (by decide))
        · refine ev_aload_n X d_M_create_123 rfl ?_
          refine ev_getR X f_M_22 lo_mod rfl d_M_create_124 ?_
          refine ev_iload X d_M_create_127 rfl ?_
          refine ev_iald X lm_states rfl rfl (show k < 4 by omega) d_M_create_129 ?_
          refine ev_if_eq (tgt := 139) X d_M_create_130 (by decide) (fun h130 => ?_) (fun h130 => ?_)
          · refine ev_iload X d_M_create_139 rfl ?_
            refine ev_iconst (v := 4) X d_M_create_141 (by decide) ?_
            refine ev_icmp_ne (tgt := 148) X d_M_create_142 (by decide) (fun h142 => ?_) (fun h142 => ?_)
            · refine ev_iload_n X d_M_create_148 rfl ?_
              refine ev_istore X d_M_create_149 (by decide) ?_
              refine ev_of (w1 := ly_w lyM 14 ad ca (fil S 2 f f (2 + nI k)) x) (by rw [fil_nil]) rfl rfl rfl ?_
              exact loop3 k (by omega) (by rw [g1]; simp [lfeM, h130, wCr3]; omega) (by rw [g2]; simp [lfeM, h130, tCr3]; omega) n f rfl (by omega)
            · exact absurd h142 (fun q => by have := (nI_eq (b := 4) (show k < 2 ^ 31 by omega) (by decide)).mp q; omega)
          · refine ev_iinc (v := nI (k + 1)) X d_M_create_133 rfl (nI_1 k) (by decide) ?_
            refine ev_goto (tgt := 117) X d_M_create_136 (by decide) ?_
            exact ih (k + 1) (by omega) (by rw [g1]; simp [lfeM, h130]) (by rw [g2]; simp [lfeM, h130])
    have loop1 : ∀ (r k : Nat), k + r = f + n → wCreate S z (nI f) (nI n) en sh = (if sysP S k r = false then -3 else if canM S sh (nI f) (nI n) = false then -4 else wCr3 S (lfeM S 0 4)) → tCreate S z (nI f) (nI n) en sh = (if sysP S k r = false then S else if canM S sh (nI f) (nI n) = false then S else tCr3 S (lfeM S 0 4) f n (nI f) (nI n) en sh) → EV p l e (rmd 2) s m args below meth c 0 0 (MQ below (QQ clX D A (ly_w lyM 14 ad ca (tCreate S z (nI f) (nI n) en sh) x) (some (.int (wCreate S z (nI f) (nI n) en sh)))) args s 0 0 A) 8 D clX A s.heap (ly_w lyM 14 ad ca S x) 29 [some (.ref (ad 0)), some (.int z), some (.int (nI f)), some (.int (nI n)), some (.int en), some (.int sh), some (.int (nI k)), none] [] := by
      intro r
      induction r with
      | zero =>
        intro k q1 g1 g2
        refine ev_iload X d_M_create_29 rfl ?_
        refine ev_iload_n X d_M_create_31 rfl ?_
        refine ev_iload_n X d_M_create_32 rfl ?_
        refine ev_iadd X d_M_create_33 ?_
        refine ev_icmp_ge (tgt := 57) X d_M_create_34 (by decide) (fun h34 => ?_) (fun h34 => ?_)
        · refine ev_iload X d_M_create_57 rfl ?_
          refine ev_if_lt (tgt := 114) X d_M_create_59 (by decide) (fun h59 => ?_) (fun h59 => ?_)
          · refine ev_iconst (v := 0) X d_M_create_114 (by decide) ?_
            refine ev_istore X d_M_create_115 (by decide) ?_
            exact loop2 4 0 rfl (by rw [g1]; simp [sysP, canM, h34, h59]) (by rw [g2]; simp [sysP, canM, h34, h59])
          · refine ev_iload X d_M_create_62 rfl ?_
            refine ev_sipush (v := 256) X d_M_create_64 (by decide) ?_
            refine ev_icmp_ge (tgt := 78) X d_M_create_67 (by decide) (fun h67 => ?_) (fun h67 => ?_)
            · refine ev_iload X d_M_create_78 rfl ?_
              refine ev_sipush (v := 256) X d_M_create_80 (by decide) ?_
              refine ev_isub X d_M_create_83 ?_
              have hcp : canP sh = _ := (by first | exact canP_ge h67 | exact canP_lt h67)
              refine ev_topi (v := canP sh) hcp.symm ?_
              refine ev_istore X d_M_create_84 (by decide) ?_
              refine ev_aload_n X d_M_create_86 rfl ?_
              refine ev_getR X f_M_13 lo_mod rfl d_M_create_87 ?_
              refine ev_iload X d_M_create_90 rfl ?_
              refine ev_iald X lm_owners rfl (inr_z (canP_in hsh (ne_m1 h59))) (inr_j (k := 16) rfl (by decide) (canP_in hsh (ne_m1 h59))) d_M_create_92 ?_
              refine ev_iconst (v := 1) X d_M_create_93 (by decide) ?_
              refine ev_icmp_ne (tgt := 111) X d_M_create_94 (by decide) (fun h94 => ?_) (fun h94 => ?_)
              · refine ev_bipush (v := (-4)) X d_M_create_111 (by decide) ?_
                exact ev_iretL X hr hk d_M_create_113 (by rw [g1]; simp [sysP, canM, h34, h59, h67, h94]) (by rw [g2]; simp [sysP, canM, h34, h59, h67, h94])
              · refine ev_iload X d_M_create_97 rfl ?_
                refine ev_iload_n X d_M_create_99 rfl ?_
                refine ev_icmp_lt (tgt := 114) X d_M_create_100 (by decide) (fun h100 => ?_) (fun h100 => ?_)
                · refine ev_iconst (v := 0) X d_M_create_114 (by decide) ?_
                  refine ev_istore X d_M_create_115 (by decide) ?_
                  exact loop2 4 0 rfl (by rw [g1]; simp [sysP, canM, h34, h59, h67, h94, h100]) (by rw [g2]; simp [sysP, canM, h34, h59, h67, h94, h100])
                · refine ev_iload X d_M_create_103 rfl ?_
                  refine ev_iload_n X d_M_create_105 rfl ?_
                  refine ev_iload_n X d_M_create_106 rfl ?_
                  refine ev_iadd X d_M_create_107 ?_
                  refine ev_icmp_ge (tgt := 114) X d_M_create_108 (by decide) (fun h108 => ?_) (fun h108 => ?_)
                  · refine ev_iconst (v := 0) X d_M_create_114 (by decide) ?_
                    refine ev_istore X d_M_create_115 (by decide) ?_
                    exact loop2 4 0 rfl (by rw [g1]; simp [sysP, canM, h34, h59, h67, h94, h100, h108]) (by rw [g2]; simp [sysP, canM, h34, h59, h67, h94, h100, h108])
                  · refine ev_bipush (v := (-4)) X d_M_create_111 (by decide) ?_
                    exact ev_iretL X hr hk d_M_create_113 (by rw [g1]; simp [sysP, canM, h34, h59, h67, h94, h100, h108]) (by rw [g2]; simp [sysP, canM, h34, h59, h67, h94, h100, h108])
            · refine ev_iload X d_M_create_70 rfl ?_
              refine ev_bipush (v := 16) X d_M_create_72 (by decide) ?_
              refine ev_idiv X d_M_create_74 (by decide) ?_
              refine ev_goto (tgt := 84) X d_M_create_75 (by decide) ?_
              have hcp : canP sh = _ := (by first | exact canP_ge h67 | exact canP_lt h67)
              refine ev_topi (v := canP sh) hcp.symm ?_
              refine ev_istore X d_M_create_84 (by decide) ?_
              refine ev_aload_n X d_M_create_86 rfl ?_
              refine ev_getR X f_M_13 lo_mod rfl d_M_create_87 ?_
              refine ev_iload X d_M_create_90 rfl ?_
              refine ev_iald X lm_owners rfl (inr_z (canP_in hsh (ne_m1 h59))) (inr_j (k := 16) rfl (by decide) (canP_in hsh (ne_m1 h59))) d_M_create_92 ?_
              refine ev_iconst (v := 1) X d_M_create_93 (by decide) ?_
              refine ev_icmp_ne (tgt := 111) X d_M_create_94 (by decide) (fun h94 => ?_) (fun h94 => ?_)
              · refine ev_bipush (v := (-4)) X d_M_create_111 (by decide) ?_
                exact ev_iretL X hr hk d_M_create_113 (by rw [g1]; simp [sysP, canM, h34, h59, h67, h94]) (by rw [g2]; simp [sysP, canM, h34, h59, h67, h94])
              · refine ev_iload X d_M_create_97 rfl ?_
                refine ev_iload_n X d_M_create_99 rfl ?_
                refine ev_icmp_lt (tgt := 114) X d_M_create_100 (by decide) (fun h100 => ?_) (fun h100 => ?_)
                · refine ev_iconst (v := 0) X d_M_create_114 (by decide) ?_
                  refine ev_istore X d_M_create_115 (by decide) ?_
                  exact loop2 4 0 rfl (by rw [g1]; simp [sysP, canM, h34, h59, h67, h94, h100]) (by rw [g2]; simp [sysP, canM, h34, h59, h67, h94, h100])
                · refine ev_iload X d_M_create_103 rfl ?_
                  refine ev_iload_n X d_M_create_105 rfl ?_
                  refine ev_iload_n X d_M_create_106 rfl ?_
                  refine ev_iadd X d_M_create_107 ?_
                  refine ev_icmp_ge (tgt := 114) X d_M_create_108 (by decide) (fun h108 => ?_) (fun h108 => ?_)
                  · refine ev_iconst (v := 0) X d_M_create_114 (by decide) ?_
                    refine ev_istore X d_M_create_115 (by decide) ?_
                    exact loop2 4 0 rfl (by rw [g1]; simp [sysP, canM, h34, h59, h67, h94, h100, h108]) (by rw [g2]; simp [sysP, canM, h34, h59, h67, h94, h100, h108])
                  · refine ev_bipush (v := (-4)) X d_M_create_111 (by decide) ?_
                    exact ev_iretL X hr hk d_M_create_113 (by rw [g1]; simp [sysP, canM, h34, h59, h67, h94, h100, h108]) (by rw [g2]; simp [sysP, canM, h34, h59, h67, h94, h100, h108])
        · exact absurd (by rw [nI_add]; exact nI_le (by omega) (by omega)) h34
      | succ r ih =>
        intro k q1 g1 g2
        refine ev_iload X d_M_create_29 rfl ?_
        refine ev_iload_n X d_M_create_31 rfl ?_
        refine ev_iload_n X d_M_create_32 rfl ?_
        refine ev_iadd X d_M_create_33 ?_
        refine ev_icmp_ge (tgt := 57) X d_M_create_34 (by decide) (fun h34 => ?_) (fun h34 => ?_)
        · exact absurd h34 (by rw [nI_add]; exact nI_ge (by omega) (by omega))
        · refine ev_aload_n X d_M_create_37 rfl ?_
          refine ev_getR X f_M_13 lo_mod rfl d_M_create_38 ?_
          refine ev_iload X d_M_create_41 rfl ?_
          refine ev_iald X lm_owners rfl rfl (by omega) d_M_create_43 ?_
          refine ev_iconst (v := 1) X d_M_create_44 (by decide) ?_
          refine ev_icmp_eq (tgt := 51) X d_M_create_45 (by decide) (fun h45 => ?_) (fun h45 => ?_)
          · refine ev_iinc (v := nI (k + 1)) X d_M_create_51 rfl (nI_1 k) (by decide) ?_
            refine ev_goto (tgt := 29) X d_M_create_54 (by decide) ?_
            exact ih (k + 1) (by omega) (by rw [g1]; simp [sysP, h45]) (by rw [g2]; simp [sysP, h45])
          · refine ev_bipush (v := (-3)) X d_M_create_48 (by decide) ?_
            exact ev_iretL X hr hk d_M_create_50 (by rw [g1]; simp [sysP, h45]) (by rw [g2]; simp [sysP, h45])
    refine ev_aload_n X d_M_create_0 rfl ?_
    refine ev_iload_n X d_M_create_1 rfl ?_
    refine ev_cV1 X m_M_66 c_M_busy lo_mod rfl rfl (by decide) (by decide) d_M_create_2 rfl rfl (Nat.le_of_ble_eq_true rfl) ?_
    refine ev_if_eqB (tgt := 10) X d_M_create_5 (by decide) (fun h5 => ?_) (fun h5 => ?_)
    · refine ev_aload_n X d_M_create_10 rfl ?_
      refine ev_iload_n X d_M_create_11 rfl ?_
      refine ev_iload_n X d_M_create_12 rfl ?_
      refine ev_iload X d_M_create_13 rfl ?_
      refine ev_iload X d_M_create_15 rfl ?_
      refine ev_cV1 X m_M_80 c_M_wrongRange lo_mod rfl rfl (by decide) (by decide) d_M_create_17 rfl rfl (Nat.le_of_ble_eq_true rfl) ?_
      refine ev_if_eqB (tgt := 26) X d_M_create_20 (by decide) (fun h20 => ?_) (fun h20 => ?_)
      · refine ev_iload_n X d_M_create_26 rfl ?_
        refine ev_istore X d_M_create_27 (by decide) ?_
        exact loop1 n f rfl (by simp [wCreate, h5, hw, ef, en']) (by simp [tCreate, h5, hw, ef, en'])
      · exact absurd (h20.symm.trans hw) (by decide)
    · refine ev_iconst (v := (-1)) X d_M_create_8 (by decide) ?_
      exact ev_iretL X hr hk d_M_create_9 (by simp [wCreate, h5]) (by simp [tCreate, h5])
