set_option maxHeartbeats 4000000 in
set_option maxRecDepth 100000 in
theorem c_M_once {l : Launch} {D : va_G} {ad : Nat → Nat} {ca : Nat → ClassId} {x : va_W} {S : St} {q : Int32} (hq : inr q 2 = true) (he : inr (S 4 q.toNatClampNeg) 4 = true) : CtM l D ad ca x y_M_once b_M_once 10 none 3 [.ref (ad 0), .int q] S (onM S q) none := by
  refine ev_ent [some (.ref (ad 0)), some (.int q), none, none, none, none, none, none, none, none] rfl (by decide) (Nat.le_of_ble_eq_true rfl) rfl gTT (fun p e s m args below meth c A X hr hk => ?_)
  refine ev_aload_n X d_M_once_0 rfl ?_
  refine ev_getR X f_M_19 lo_mod rfl d_M_once_1 ?_
  refine ev_iload_n X d_M_once_4 rfl ?_
  refine ev_iald X lm_runs rfl (inr_z hq) (inr_j (k := 2) rfl (by decide) hq) d_M_once_5 ?_
  refine ev_istore_n X d_M_once_6 (by decide) ?_
  refine ev_aload_n X d_M_once_7 rfl ?_
  refine ev_getR X f_M_43 lo_mod rfl d_M_once_8 ?_
  refine ev_iload_n X d_M_once_11 rfl ?_
  refine ev_iald X lm_counters rfl (inr_z he) (inr_j (k := 4) rfl (by decide) he) d_M_once_12 ?_
  refine ev_istore_n X d_M_once_13 (by decide) ?_
  refine ev_aload_n X d_M_once_14 rfl ?_
  refine ev_iload_n X d_M_once_15 rfl ?_
  refine ev_iload_n X d_M_once_16 rfl ?_
  refine ev_iconst (v := 4) X d_M_once_17 (by decide) ?_
  refine ev_cV1 X m_M_71 (c_M_allowed hq (Or.inr he)) lo_mod rfl rfl (by decide) (by decide) d_M_once_18 rfl rfl (Nat.le_of_ble_eq_true rfl) ?_
  refine ev_if_neB (tgt := 32) X d_M_once_21 (by decide) (fun h21 => ?_) (fun h21 => ?_)
  · refine ev_aload_n X d_M_once_32 rfl ?_
    refine ev_getR X f_M_7 lo_mod rfl d_M_once_33 ?_
    refine ev_iload_n X d_M_once_36 rfl ?_
    refine ev_iald X lm_words rfl (inr_z (alM_in h21)) (inr_j (k := 256) rfl (by decide) (alM_in h21)) d_M_once_37 ?_
    refine ev_istore X d_M_once_38 (by decide) ?_
    refine ev_iload X d_M_once_40 rfl ?_
    refine ev_bipush (v := 15) X d_M_once_42 (by decide) ?_
    refine ev_iand X d_M_once_44 ?_
    refine ev_topi (v := fO (S 1 (S 12 (S 4 q.toNatClampNeg).toNatClampNeg).toNatClampNeg)) rfl ?_
    refine ev_istore X d_M_once_45 (by decide) ?_
    refine ev_bipush (v := 8) X d_M_once_47 (by decide) ?_
    refine ev_iload_n X d_M_once_49 rfl ?_
    refine ev_imul X d_M_once_50 ?_
    refine ev_iload X d_M_once_51 rfl ?_
    refine ev_iconst (v := 4) X d_M_once_53 (by decide) ?_
    refine ev_ishr X d_M_once_54 ?_
    refine ev_bipush (v := 7) X d_M_once_55 (by decide) ?_
    refine ev_iand X d_M_once_57 ?_
    refine ev_iadd X d_M_once_58 ?_
    refine ev_topi (v := nI (ixA S q (S 1 (S 12 (S 4 q.toNatClampNeg).toNatClampNeg).toNatClampNeg))) (k32_in he (fA_in _)).1 ?_
    refine ev_istore X d_M_once_59 (by decide) ?_
    refine ev_bipush (v := 8) X d_M_once_61 (by decide) ?_
    refine ev_iload_n X d_M_once_63 rfl ?_
    refine ev_imul X d_M_once_64 ?_
    refine ev_iload X d_M_once_65 rfl ?_
    refine ev_bipush (v := 8) X d_M_once_67 (by decide) ?_
    refine ev_ishr X d_M_once_69 ?_
    refine ev_bipush (v := 7) X d_M_once_70 (by decide) ?_
    refine ev_iand X d_M_once_72 ?_
    refine ev_iadd X d_M_once_73 ?_
    refine ev_topi (v := nI (ixB S q (S 1 (S 12 (S 4 q.toNatClampNeg).toNatClampNeg).toNatClampNeg))) (k32_in he (fB_in _)).1 ?_
    refine ev_istore X d_M_once_74 (by decide) ?_
    refine ev_iload X d_M_once_76 rfl ?_
    refine ev_bipush (v := 16) X d_M_once_78 (by decide) ?_
    refine ev_ishr X d_M_once_80 ?_
    refine ev_topi (v := fI (S 1 (S 12 (S 4 q.toNatClampNeg).toNatClampNeg).toNatClampNeg)) rfl ?_
    refine ev_istore X d_M_once_81 (by decide) ?_
    refine ev_aload_n X d_M_once_83 rfl ?_
    refine ev_getR X f_M_46 lo_mod rfl d_M_once_84 ?_
    refine ev_iload X d_M_once_87 rfl ?_
    refine ev_iald X lm_r rfl rfl (k32_in he (fB_in _)).2 d_M_once_89 ?_
    refine ev_iload X d_M_once_90 rfl ?_
    refine ev_iadd X d_M_once_92 ?_
    refine ev_topi (v := atM S q (S 1 (S 12 (S 4 q.toNatClampNeg).toNatClampNeg).toNatClampNeg)) rfl ?_
    refine ev_istore X d_M_once_93 (by decide) ?_
    refine ev_iload X d_M_once_95 rfl ?_
    refine ev_if_ne (tgt := 116) X d_M_once_97 (by decide) (fun h97 => ?_) (fun h97 => ?_)
    · refine ev_iload X d_M_once_116 rfl ?_
      refine ev_bipush (v := 10) X d_M_once_118 (by decide) ?_
      refine ev_icmp_le (tgt := 133) X d_M_once_120 (by decide) (fun h120 => ?_) (fun h120 => ?_)
      · refine ev_iload X d_M_once_133 rfl ?_
        refine ev_iconst (v := 4) X d_M_once_135 (by decide) ?_
        refine ev_icmp_ne (tgt := 160) X d_M_once_136 (by decide) (fun h136 => ?_) (fun h136 => ?_)
        · refine ev_iload X d_M_once_160 rfl ?_
          refine ev_iconst (v := 5) X d_M_once_162 (by decide) ?_
          refine ev_icmp_ne (tgt := 187) X d_M_once_163 (by decide) (fun h163 => ?_) (fun h163 => ?_)
          · refine ev_aload_n X d_M_once_187 rfl ?_
            refine ev_getR X f_M_43 lo_mod rfl d_M_once_188 ?_
            refine ev_iload_n X d_M_once_191 rfl ?_
            refine ev_iload X d_M_once_192 rfl ?_
            refine ev_bipush (v := 7) X d_M_once_194 (by decide) ?_
            refine ev_icmp_ne (tgt := 204) X d_M_once_196 (by decide) (fun h196 => ?_) (fun h196 => ?_)
            · refine ev_iload X d_M_once_204 rfl ?_
              refine ev_bipush (v := 6) X d_M_once_206 (by decide) ?_
              refine ev_icmp_ne (tgt := 230) X d_M_once_208 (by decide) (fun h208 => ?_) (fun h208 => ?_)
              · refine ev_iload_n X d_M_once_230 rfl ?_
                refine ev_iconst (v := 1) X d_M_once_231 (by decide) ?_
                refine ev_iadd X d_M_once_232 ?_
                refine ev_topi (v := pcM S q (S 1 (S 12 (S 4 q.toNatClampNeg).toNatClampNeg).toNatClampNeg) (S 12 (S 4 q.toNatClampNeg).toNatClampNeg)) (by simp [pcM, h21, h97, h120, h136, h163, h196, h208]) ?_
                refine ev_iast X lm_counters rfl (inr_z he) (inr_j (k := 4) rfl (by decide) he) d_M_once_233 ?_
                refine ev_aload_n X d_M_once_234 rfl ?_
                refine ev_iload_n X d_M_once_235 rfl ?_
                refine ev_iload X d_M_once_236 rfl ?_
                refine ev_iload X d_M_once_238 rfl ?_
                refine ev_iload X d_M_once_240 rfl ?_
                refine ev_iload X d_M_once_242 rfl ?_
                refine ev_iload_n X d_M_once_244 rfl ?_
                refine ev_cV0 X m_M_99 (c_M_work hq (by rw [up2_ne (by decide)]; exact he) (k32_in he (fA_in _)).2 (k32_in he (fB_in _)).2 (by first | (intro h; rcases h with h | h <;> first | exact absurd h (by assumption) | exact alM_in h147 | exact alM_in h174))) lo_mod rfl rfl (by decide) (by decide) d_M_once_245 rfl rfl (Nat.le_of_ble_eq_true rfl) ?_
                exact ev_vretL X hr hk d_M_once_248 (by simp [onM, onW, ixA, ixB, h21, h97, h120, h136, h163, h196, h208])
              · refine ev_aload_n X d_M_once_211 rfl ?_
                refine ev_getR X f_M_46 lo_mod rfl d_M_once_212 ?_
                refine ev_iload X d_M_once_215 rfl ?_
                refine ev_iald X lm_r rfl rfl (k32_in he (fA_in _)).2 d_M_once_217 ?_
                refine ev_if_ne (tgt := 230) X d_M_once_218 (by decide) (fun h218 => ?_) (fun h218 => ?_)
                · refine ev_iload_n X d_M_once_230 rfl ?_
                  refine ev_iconst (v := 1) X d_M_once_231 (by decide) ?_
                  refine ev_iadd X d_M_once_232 ?_
                  refine ev_topi (v := pcM S q (S 1 (S 12 (S 4 q.toNatClampNeg).toNatClampNeg).toNatClampNeg) (S 12 (S 4 q.toNatClampNeg).toNatClampNeg)) (by simp [pcM, h21, h97, h120, h136, h163, h196, h208, h218]) ?_
                  refine ev_iast X lm_counters rfl (inr_z he) (inr_j (k := 4) rfl (by decide) he) d_M_once_233 ?_
                  refine ev_aload_n X d_M_once_234 rfl ?_
                  refine ev_iload_n X d_M_once_235 rfl ?_
                  refine ev_iload X d_M_once_236 rfl ?_
                  refine ev_iload X d_M_once_238 rfl ?_
                  refine ev_iload X d_M_once_240 rfl ?_
                  refine ev_iload X d_M_once_242 rfl ?_
                  refine ev_iload_n X d_M_once_244 rfl ?_
                  refine ev_cV0 X m_M_99 (c_M_work hq (by rw [up2_ne (by decide)]; exact he) (k32_in he (fA_in _)).2 (k32_in he (fB_in _)).2 (by first | (intro h; rcases h with h | h <;> first | exact absurd h (by assumption) | exact alM_in h147 | exact alM_in h174))) lo_mod rfl rfl (by decide) (by decide) d_M_once_245 rfl rfl (Nat.le_of_ble_eq_true rfl) ?_
                  exact ev_vretL X hr hk d_M_once_248 (by simp [onM, onW, ixA, ixB, h21, h97, h120, h136, h163, h196, h208, h218])
                · refine ev_iload_n X d_M_once_221 rfl ?_
                  refine ev_iconst (v := 1) X d_M_once_222 (by decide) ?_
                  refine ev_iadd X d_M_once_223 ?_
                  refine ev_iload X d_M_once_224 rfl ?_
                  refine ev_iadd X d_M_once_226 ?_
                  refine ev_goto (tgt := 233) X d_M_once_227 (by decide) ?_
                  refine ev_topi (v := pcM S q (S 1 (S 12 (S 4 q.toNatClampNeg).toNatClampNeg).toNatClampNeg) (S 12 (S 4 q.toNatClampNeg).toNatClampNeg)) (by simp [pcM, h21, h97, h120, h136, h163, h196, h208, h218]) ?_
                  refine ev_iast X lm_counters rfl (inr_z he) (inr_j (k := 4) rfl (by decide) he) d_M_once_233 ?_
                  refine ev_aload_n X d_M_once_234 rfl ?_
                  refine ev_iload_n X d_M_once_235 rfl ?_
                  refine ev_iload X d_M_once_236 rfl ?_
                  refine ev_iload X d_M_once_238 rfl ?_
                  refine ev_iload X d_M_once_240 rfl ?_
                  refine ev_iload X d_M_once_242 rfl ?_
                  refine ev_iload_n X d_M_once_244 rfl ?_
                  refine ev_cV0 X m_M_99 (c_M_work hq (by rw [up2_ne (by decide)]; exact he) (k32_in he (fA_in _)).2 (k32_in he (fB_in _)).2 (by first | (intro h; rcases h with h | h <;> first | exact absurd h (by assumption) | exact alM_in h147 | exact alM_in h174))) lo_mod rfl rfl (by decide) (by decide) d_M_once_245 rfl rfl (Nat.le_of_ble_eq_true rfl) ?_
                  exact ev_vretL X hr hk d_M_once_248 (by simp [onM, onW, ixA, ixB, h21, h97, h120, h136, h163, h196, h208, h218])
            · refine ev_iload X d_M_once_199 rfl ?_
              refine ev_goto (tgt := 233) X d_M_once_201 (by decide) ?_
              refine ev_topi (v := pcM S q (S 1 (S 12 (S 4 q.toNatClampNeg).toNatClampNeg).toNatClampNeg) (S 12 (S 4 q.toNatClampNeg).toNatClampNeg)) (by simp [pcM, h21, h97, h120, h136, h163, h196]) ?_
              refine ev_iast X lm_counters rfl (inr_z he) (inr_j (k := 4) rfl (by decide) he) d_M_once_233 ?_
              refine ev_aload_n X d_M_once_234 rfl ?_
              refine ev_iload_n X d_M_once_235 rfl ?_
              refine ev_iload X d_M_once_236 rfl ?_
              refine ev_iload X d_M_once_238 rfl ?_
              refine ev_iload X d_M_once_240 rfl ?_
              refine ev_iload X d_M_once_242 rfl ?_
              refine ev_iload_n X d_M_once_244 rfl ?_
              refine ev_cV0 X m_M_99 (c_M_work hq (by rw [up2_ne (by decide)]; exact he) (k32_in he (fA_in _)).2 (k32_in he (fB_in _)).2 (by first | (intro h; rcases h with h | h <;> first | exact absurd h (by assumption) | exact alM_in h147 | exact alM_in h174))) lo_mod rfl rfl (by decide) (by decide) d_M_once_245 rfl rfl (Nat.le_of_ble_eq_true rfl) ?_
              exact ev_vretL X hr hk d_M_once_248 (by simp [onM, onW, ixA, ixB, h21, h97, h120, h136, h163, h196])
          · refine ev_aload_n X d_M_once_166 rfl ?_
            refine ev_iload_n X d_M_once_167 rfl ?_
            refine ev_iload X d_M_once_168 rfl ?_
            refine ev_iconst (v := 2) X d_M_once_170 (by decide) ?_
            refine ev_cV1 X m_M_71 (c_M_allowed hq (Or.inr he)) lo_mod rfl rfl (by decide) (by decide) d_M_once_171 rfl rfl (Nat.le_of_ble_eq_true rfl) ?_
            refine ev_if_neB (tgt := 187) X d_M_once_174 (by decide) (fun h174 => ?_) (fun h174 => ?_)
            · refine ev_aload_n X d_M_once_187 rfl ?_
              refine ev_getR X f_M_43 lo_mod rfl d_M_once_188 ?_
              refine ev_iload_n X d_M_once_191 rfl ?_
              refine ev_iload X d_M_once_192 rfl ?_
              refine ev_bipush (v := 7) X d_M_once_194 (by decide) ?_
              refine ev_icmp_ne (tgt := 204) X d_M_once_196 (by decide) (fun h196 => ?_) (fun h196 => ?_)
              · refine ev_iload X d_M_once_204 rfl ?_
                refine ev_bipush (v := 6) X d_M_once_206 (by decide) ?_
                refine ev_icmp_ne (tgt := 230) X d_M_once_208 (by decide) (fun h208 => ?_) (fun h208 => ?_)
                · refine ev_iload_n X d_M_once_230 rfl ?_
                  refine ev_iconst (v := 1) X d_M_once_231 (by decide) ?_
                  refine ev_iadd X d_M_once_232 ?_
                  refine ev_topi (v := pcM S q (S 1 (S 12 (S 4 q.toNatClampNeg).toNatClampNeg).toNatClampNeg) (S 12 (S 4 q.toNatClampNeg).toNatClampNeg)) (by simp [pcM, h21, h97, h120, h136, h163, h174, h196, h208]) ?_
                  refine ev_iast X lm_counters rfl (inr_z he) (inr_j (k := 4) rfl (by decide) he) d_M_once_233 ?_
                  refine ev_aload_n X d_M_once_234 rfl ?_
                  refine ev_iload_n X d_M_once_235 rfl ?_
                  refine ev_iload X d_M_once_236 rfl ?_
                  refine ev_iload X d_M_once_238 rfl ?_
                  refine ev_iload X d_M_once_240 rfl ?_
                  refine ev_iload X d_M_once_242 rfl ?_
                  refine ev_iload_n X d_M_once_244 rfl ?_
                  refine ev_cV0 X m_M_99 (c_M_work hq (by rw [up2_ne (by decide)]; exact he) (k32_in he (fA_in _)).2 (k32_in he (fB_in _)).2 (by first | (intro h; rcases h with h | h <;> first | exact absurd h (by assumption) | exact alM_in h147 | exact alM_in h174))) lo_mod rfl rfl (by decide) (by decide) d_M_once_245 rfl rfl (Nat.le_of_ble_eq_true rfl) ?_
                  exact ev_vretL X hr hk d_M_once_248 (by simp [onM, onW, ixA, ixB, h21, h97, h120, h136, h163, h174, h196, h208])
                · exact absurd (h163.symm.trans h208) (by decide)
              · exact absurd (h163.symm.trans h196) (by decide)
            · refine ev_aload_n X d_M_once_177 rfl ?_
              refine ev_iload_n X d_M_once_178 rfl ?_
              refine ev_iconst (v := 5) X d_M_once_179 (by decide) ?_
              refine ev_iconst (v := 3) X d_M_once_180 (by decide) ?_
              refine ev_cV0 X m_M_95 (c_M_end hq he) lo_mod rfl rfl (by decide) (by decide) d_M_once_181 rfl rfl (Nat.le_of_ble_eq_true rfl) ?_
              refine ev_goto (tgt := 248) X d_M_once_184 (by decide) ?_
              exact ev_vretL X hr hk d_M_once_248 (by simp [onM, onW, ixA, ixB, h21, h97, h120, h136, h163, h174])
        · refine ev_aload_n X d_M_once_139 rfl ?_
          refine ev_iload_n X d_M_once_140 rfl ?_
          refine ev_iload X d_M_once_141 rfl ?_
          refine ev_iconst (v := 1) X d_M_once_143 (by decide) ?_
          refine ev_cV1 X m_M_71 (c_M_allowed hq (Or.inr he)) lo_mod rfl rfl (by decide) (by decide) d_M_once_144 rfl rfl (Nat.le_of_ble_eq_true rfl) ?_
          refine ev_if_neB (tgt := 160) X d_M_once_147 (by decide) (fun h147 => ?_) (fun h147 => ?_)
          · refine ev_iload X d_M_once_160 rfl ?_
            refine ev_iconst (v := 5) X d_M_once_162 (by decide) ?_
            refine ev_icmp_ne (tgt := 187) X d_M_once_163 (by decide) (fun h163 => ?_) (fun h163 => ?_)
            · refine ev_aload_n X d_M_once_187 rfl ?_
              refine ev_getR X f_M_43 lo_mod rfl d_M_once_188 ?_
              refine ev_iload_n X d_M_once_191 rfl ?_
              refine ev_iload X d_M_once_192 rfl ?_
              refine ev_bipush (v := 7) X d_M_once_194 (by decide) ?_
              refine ev_icmp_ne (tgt := 204) X d_M_once_196 (by decide) (fun h196 => ?_) (fun h196 => ?_)
              · refine ev_iload X d_M_once_204 rfl ?_
                refine ev_bipush (v := 6) X d_M_once_206 (by decide) ?_
                refine ev_icmp_ne (tgt := 230) X d_M_once_208 (by decide) (fun h208 => ?_) (fun h208 => ?_)
                · refine ev_iload_n X d_M_once_230 rfl ?_
                  refine ev_iconst (v := 1) X d_M_once_231 (by decide) ?_
                  refine ev_iadd X d_M_once_232 ?_
                  refine ev_topi (v := pcM S q (S 1 (S 12 (S 4 q.toNatClampNeg).toNatClampNeg).toNatClampNeg) (S 12 (S 4 q.toNatClampNeg).toNatClampNeg)) (by simp [pcM, h21, h97, h120, h136, h147, h163, h196, h208]) ?_
                  refine ev_iast X lm_counters rfl (inr_z he) (inr_j (k := 4) rfl (by decide) he) d_M_once_233 ?_
                  refine ev_aload_n X d_M_once_234 rfl ?_
                  refine ev_iload_n X d_M_once_235 rfl ?_
                  refine ev_iload X d_M_once_236 rfl ?_
                  refine ev_iload X d_M_once_238 rfl ?_
                  refine ev_iload X d_M_once_240 rfl ?_
                  refine ev_iload X d_M_once_242 rfl ?_
                  refine ev_iload_n X d_M_once_244 rfl ?_
                  refine ev_cV0 X m_M_99 (c_M_work hq (by rw [up2_ne (by decide)]; exact he) (k32_in he (fA_in _)).2 (k32_in he (fB_in _)).2 (by first | (intro h; rcases h with h | h <;> first | exact absurd h (by assumption) | exact alM_in h147 | exact alM_in h174))) lo_mod rfl rfl (by decide) (by decide) d_M_once_245 rfl rfl (Nat.le_of_ble_eq_true rfl) ?_
                  exact ev_vretL X hr hk d_M_once_248 (by simp [onM, onW, ixA, ixB, h21, h97, h120, h136, h147, h163, h196, h208])
                · exact absurd (h136.symm.trans h208) (by decide)
              · exact absurd (h136.symm.trans h196) (by decide)
            · exact absurd (h136.symm.trans h163) (by decide)
          · refine ev_aload_n X d_M_once_150 rfl ?_
            refine ev_iload_n X d_M_once_151 rfl ?_
            refine ev_iconst (v := 5) X d_M_once_152 (by decide) ?_
            refine ev_iconst (v := 2) X d_M_once_153 (by decide) ?_
            refine ev_cV0 X m_M_95 (c_M_end hq he) lo_mod rfl rfl (by decide) (by decide) d_M_once_154 rfl rfl (Nat.le_of_ble_eq_true rfl) ?_
            refine ev_goto (tgt := 248) X d_M_once_157 (by decide) ?_
            exact ev_vretL X hr hk d_M_once_248 (by simp [onM, onW, ixA, ixB, h21, h97, h120, h136, h147])
      · refine ev_aload_n X d_M_once_123 rfl ?_
        refine ev_iload_n X d_M_once_124 rfl ?_
        refine ev_iconst (v := 5) X d_M_once_125 (by decide) ?_
        refine ev_iconst (v := 4) X d_M_once_126 (by decide) ?_
        refine ev_cV0 X m_M_95 (c_M_end hq he) lo_mod rfl rfl (by decide) (by decide) d_M_once_127 rfl rfl (Nat.le_of_ble_eq_true rfl) ?_
        refine ev_goto (tgt := 248) X d_M_once_130 (by decide) ?_
        exact ev_vretL X hr hk d_M_once_248 (by simp [onM, onW, ixA, ixB, h21, h97, h120])
    · refine ev_aload_n X d_M_once_100 rfl ?_
      refine ev_iload_n X d_M_once_101 rfl ?_
      refine ev_iconst (v := 4) X d_M_once_102 (by decide) ?_
      refine ev_aload_n X d_M_once_103 rfl ?_
      refine ev_getR X f_M_46 lo_mod rfl d_M_once_104 ?_
      refine ev_iload X d_M_once_107 rfl ?_
      refine ev_iald X lm_r rfl rfl (k32_in he (fA_in _)).2 d_M_once_109 ?_
      refine ev_cV0 X m_M_95 (c_M_end hq he) lo_mod rfl rfl (by decide) (by decide) d_M_once_110 rfl rfl (Nat.le_of_ble_eq_true rfl) ?_
      refine ev_goto (tgt := 248) X d_M_once_113 (by decide) ?_
      exact ev_vretL X hr hk d_M_once_248 (by simp [onM, onW, ixA, ixB, h21, h97])
  · refine ev_aload_n X d_M_once_24 rfl ?_
    refine ev_iload_n X d_M_once_25 rfl ?_
    refine ev_iconst (v := 5) X d_M_once_26 (by decide) ?_
    refine ev_iconst (v := 1) X d_M_once_27 (by decide) ?_
    refine ev_cV0 X m_M_95 (c_M_end hq he) lo_mod rfl rfl (by decide) (by decide) d_M_once_28 rfl rfl (Nat.le_of_ble_eq_true rfl) ?_
    exact ev_vretL X hr hk d_M_once_31 (by simp [onM, onW, ixA, ixB, h21])
