def ldF (S : St) (i j : Nat) (a z : Int32) : St := if alw S i z 1 = true then up2 S (j + 1) a.toNatClampNeg (S 1 z.toNatClampNeg) else sEnd S j 5 2
def stF (S : St) (i j : Nat) (a z : Int32) : St := if alw S i z 2 = true then up2 S 1 z.toNatClampNeg (S (j + 1) a.toNatClampNeg) else sEnd S j 5 3
def fA (v : Int32) : Int32 := v >>> ((4 : Int32) &&& 31) &&& 7
def fB (v : Int32) : Int32 := v >>> ((8 : Int32) &&& 31) &&& 7
def fI (v : Int32) : Int32 := v >>> ((16 : Int32) &&& 31)
def fO (v : Int32) : Int32 := v &&& 15
theorem and7_in (v : Int32) : inr (v &&& 7) 8 = true := by
  obtain ⟨j, hj, h⟩ := pk_andE v (m := 7) 3 (by decide)
  rw [h]
  exact inr_nI (k := 8) hj (by decide)
theorem fA_in (v : Int32) : inr (fA v) 8 = true := and7_in _
theorem fB_in (v : Int32) : inr (fB v) 8 = true := and7_in _
def rgA (S : St) (j : Nat) (v : Int32) : Int32 := S (j + 1) (fA v).toNatClampNeg
def rgB (S : St) (j : Nat) (v : Int32) : Int32 := S (j + 1) (fB v).toNatClampNeg
noncomputable def dwS (S : St) (i j : Nat) (v : Int32) : St :=
  if fO v = 0 then sEnd S j 4 (rgA S j v)
  else if fO v = 1 then up2 S (j + 1) (fA v).toNatClampNeg (rgB S j v + fI v)
  else if fO v = 2 then up2 S (j + 1) (fA v).toNatClampNeg (rgA S j v + rgB S j v)
  else if fO v = 3 then up2 S (j + 1) (fA v).toNatClampNeg (rgA S j v ^^^ rgB S j v)
  else if fO v = 4 then ldF S i j (fA v) (rgB S j v + fI v)
  else if fO v = 5 then stF S i j (fA v) (rgB S j v + fI v)
  else if fO v = 6 then S
  else if fO v = 7 then up2 S (j + 1) (fA v).toNatClampNeg (S j 7 + 1)
  else if fO v = 8 then up2 S (j + 1) (fA v).toNatClampNeg (prfS (S 0 0) (S j 6) (rgB S j v))
  else if fO v = 9 then up2 S (j + 1) (fA v).toNatClampNeg (secS (S 0 0) (S j 6))
  else if fO v = 10 then up2 S j 1 3
  else sEnd S j 5 4
def dwV (S : St) (j : Nat) (v : Int32) : Int32 :=
  if fO v = 6 then (if rgA S j v = 0 then S j 7 + 1 + fI v else S j 7 + 1) else if fO v = 7 then rgB S j v + fI v else S j 7 + 1
noncomputable def mkS (S : St) (i j : Nat) : St :=
  if alw S i (S j 7) 4 = true then (if dwS S i j (S 1 (S j 7).toNatClampNeg) j 1 = 5 then dwS S i j (S 1 (S j 7).toNatClampNeg) else up2 (dwS S i j (S 1 (S j 7).toNatClampNeg)) j 7 (dwV S j (S 1 (S j 7).toNatClampNeg))) else sEnd S j 5 1
set_option maxHeartbeats 4000000 in
set_option maxRecDepth 100000 in
theorem c_X_loadFor {l : Launch} {D : va_G} {ad : Nat → Nat} {ca : Nat → ClassId} {x : va_W} {S : St} {i j : Nat} {a z : Int32} (L : LyO lyX 41 i 2 (flP i)) (M : LyO lyX 41 j 3 (flE j)) (ha : inr a 8 = true) : CtX l D ad ca x y_X_loadFor b_X_loadFor 5 none 2 [.ref (ad 0), .ref (ad i), .ref (ad j), .int a, .int z] S (ldF S i j a z) none := by
  refine ev_ent [some (.ref (ad 0)), some (.ref (ad i)), some (.ref (ad j)), some (.int a), some (.int z)] rfl (by decide) (Nat.le_of_ble_eq_true rfl) rfl gTT (fun p e s m args below meth c A X hr hk => ?_)
  refine ev_aload_n X d_X_loadFor_0 rfl ?_
  refine ev_aload_n X d_X_loadFor_1 rfl ?_
  refine ev_iload X d_X_loadFor_2 rfl ?_
  refine ev_iconst (v := 1) X d_X_loadFor_4 (by decide) ?_
  refine ev_cV1 X m_X_43 (c_X_isAllowed L) lo_this rfl rfl (by decide) (by decide) d_X_loadFor_5 rfl rfl (Nat.le_of_ble_eq_true rfl) ?_
  refine ev_if_eqB (tgt := 27) X d_X_loadFor_8 (by decide) (fun h8 => ?_) (fun h8 => ?_)
  · refine ev_aload_n X d_X_loadFor_27 rfl ?_
    refine ev_iconst (v := 5) X d_X_loadFor_28 (by decide) ?_
    refine ev_iconst (v := 2) X d_X_loadFor_29 (by decide) ?_
    refine ev_cV0 X m_X_208 (c_E_endWith M) M rfl rfl (by decide) (by decide) d_X_loadFor_30 rfl rfl (Nat.le_of_ble_eq_true rfl) ?_
    exact ev_vretL X hr hk d_X_loadFor_33 (by simp [ldF, h8])
  · refine ev_aload_n X d_X_loadFor_11 rfl ?_
    refine ev_getR X f_X_216 M rfl d_X_loadFor_12 ?_
    refine ev_iload_n X d_X_loadFor_15 rfl ?_
    refine ev_aload_n X d_X_loadFor_16 rfl ?_
    refine ev_getR X f_X_13 lo_this rfl d_X_loadFor_17 ?_
    refine ev_iload X d_X_loadFor_20 rfl ?_
    refine ev_iald X li_mem rfl (inr_z (alw_in h8)) (inr_j (k := 256) rfl (by decide) (alw_in h8)) d_X_loadFor_22 ?_
    refine ev_iast X (li_er M) rfl (inr_z ha) (inr_j (k := 8) rfl (by decide) ha) d_X_loadFor_23 ?_
    refine ev_goto (tgt := 33) X d_X_loadFor_24 (by decide) ?_
    exact ev_vretL X hr hk d_X_loadFor_33 (by simp [ldF, h8])
set_option maxHeartbeats 4000000 in
set_option maxRecDepth 100000 in
theorem c_X_storeFor {l : Launch} {D : va_G} {ad : Nat → Nat} {ca : Nat → ClassId} {x : va_W} {S : St} {i j : Nat} {a z : Int32} (L : LyO lyX 41 i 2 (flP i)) (M : LyO lyX 41 j 3 (flE j)) (ha : inr a 8 = true) : CtX l D ad ca x y_X_storeFor b_X_storeFor 5 none 2 [.ref (ad 0), .ref (ad i), .ref (ad j), .int a, .int z] S (stF S i j a z) none := by
  refine ev_ent [some (.ref (ad 0)), some (.ref (ad i)), some (.ref (ad j)), some (.int a), some (.int z)] rfl (by decide) (Nat.le_of_ble_eq_true rfl) rfl gTT (fun p e s m args below meth c A X hr hk => ?_)
  refine ev_aload_n X d_X_storeFor_0 rfl ?_
  refine ev_aload_n X d_X_storeFor_1 rfl ?_
  refine ev_iload X d_X_storeFor_2 rfl ?_
  refine ev_iconst (v := 2) X d_X_storeFor_4 (by decide) ?_
  refine ev_cV1 X m_X_43 (c_X_isAllowed L) lo_this rfl rfl (by decide) (by decide) d_X_storeFor_5 rfl rfl (Nat.le_of_ble_eq_true rfl) ?_
  refine ev_if_eqB (tgt := 27) X d_X_storeFor_8 (by decide) (fun h8 => ?_) (fun h8 => ?_)
  · refine ev_aload_n X d_X_storeFor_27 rfl ?_
    refine ev_iconst (v := 5) X d_X_storeFor_28 (by decide) ?_
    refine ev_iconst (v := 3) X d_X_storeFor_29 (by decide) ?_
    refine ev_cV0 X m_X_208 (c_E_endWith M) M rfl rfl (by decide) (by decide) d_X_storeFor_30 rfl rfl (Nat.le_of_ble_eq_true rfl) ?_
    exact ev_vretL X hr hk d_X_storeFor_33 (by simp [stF, h8])
  · refine ev_aload_n X d_X_storeFor_11 rfl ?_
    refine ev_getR X f_X_13 lo_this rfl d_X_storeFor_12 ?_
    refine ev_iload X d_X_storeFor_15 rfl ?_
    refine ev_aload_n X d_X_storeFor_17 rfl ?_
    refine ev_getR X f_X_216 M rfl d_X_storeFor_18 ?_
    refine ev_iload_n X d_X_storeFor_21 rfl ?_
    refine ev_iald X (li_er M) rfl (inr_z ha) (inr_j (k := 8) rfl (by decide) ha) d_X_storeFor_22 ?_
    refine ev_iast X li_mem rfl (inr_z (alw_in h8)) (inr_j (k := 256) rfl (by decide) (alw_in h8)) d_X_storeFor_23 ?_
    refine ev_goto (tgt := 33) X d_X_storeFor_24 (by decide) ?_
    exact ev_vretL X hr hk d_X_storeFor_33 (by simp [stF, h8])
theorem sw_out10 {z : Int32} (h0 : ¬ z = 0) (h1 : ¬ z = 1) (h2 : ¬ z = 2) (h3 : ¬ z = 3) (h4 : ¬ z = 4) (h5 : ¬ z = 5) (h6 : ¬ z = 6) (h7 : ¬ z = 7) (h8 : ¬ z = 8) (h9 : ¬ z = 9) (h10 : ¬ z = 10) : z.toInt < 0 ∨ 10 < z.toInt := by
  have a0 := lv_neT h0 (a := 0) (by decide)
  have a1 := lv_neT h1 (a := 1) (by decide)
  have a2 := lv_neT h2 (a := 2) (by decide)
  have a3 := lv_neT h3 (a := 3) (by decide)
  have a4 := lv_neT h4 (a := 4) (by decide)
  have a5 := lv_neT h5 (a := 5) (by decide)
  have a6 := lv_neT h6 (a := 6) (by decide)
  have a7 := lv_neT h7 (a := 7) (by decide)
  have a8 := lv_neT h8 (a := 8) (by decide)
  have a9 := lv_neT h9 (a := 9) (by decide)
  have a10 := lv_neT h10 (a := 10) (by decide)
  omega
set_option maxHeartbeats 4000000 in
set_option maxRecDepth 100000 in
theorem c_X_doWord {l : Launch} {D : va_G} {ad : Nat → Nat} {ca : Nat → ClassId} {x : va_W} {S : St} {i j : Nat} {v : Int32} (L : LyO lyX 41 i 2 (flP i)) (M : LyO lyX 41 j 3 (flE j)) : CtX l D ad ca x y_X_doWord b_X_doWord 10 (some .int) 3 [.ref (ad 0), .ref (ad i), .ref (ad j), .int v] S (dwS S i j v) (some (.int (dwV S j v))) := by
  refine ev_ent [some (.ref (ad 0)), some (.ref (ad i)), some (.ref (ad j)), some (.int v), none, none, none, none, none, none] rfl (by decide) (Nat.le_of_ble_eq_true rfl) rfl gTT (fun p e s m args below meth c A X hr hk => ?_)
  refine ev_aload_n X d_X_doWord_0 rfl ?_
  refine ev_getR X f_X_216 M rfl d_X_doWord_1 ?_
  refine ev_astore X d_X_doWord_4 (by decide) ?_
  refine ev_iload_n X d_X_doWord_6 rfl ?_
  refine ev_iconst (v := 4) X d_X_doWord_7 (by decide) ?_
  refine ev_ishr X d_X_doWord_8 ?_
  refine ev_bipush (v := 7) X d_X_doWord_9 (by decide) ?_
  refine ev_iand X d_X_doWord_11 ?_
  refine ev_topi (v := fA v) rfl ?_
  refine ev_istore X d_X_doWord_12 (by decide) ?_
  refine ev_iload_n X d_X_doWord_14 rfl ?_
  refine ev_bipush (v := 8) X d_X_doWord_15 (by decide) ?_
  refine ev_ishr X d_X_doWord_17 ?_
  refine ev_bipush (v := 7) X d_X_doWord_18 (by decide) ?_
  refine ev_iand X d_X_doWord_20 ?_
  refine ev_topi (v := fB v) rfl ?_
  refine ev_istore X d_X_doWord_21 (by decide) ?_
  refine ev_iload_n X d_X_doWord_23 rfl ?_
  refine ev_bipush (v := 16) X d_X_doWord_24 (by decide) ?_
  refine ev_ishr X d_X_doWord_26 ?_
  refine ev_topi (v := fI v) rfl ?_
  refine ev_istore X d_X_doWord_27 (by decide) ?_
  refine ev_aload_n X d_X_doWord_29 rfl ?_
  refine ev_getI X f_X_205 M rfl d_X_doWord_30 ?_
  refine ev_iconst (v := 1) X d_X_doWord_33 (by decide) ?_
  refine ev_iadd X d_X_doWord_34 ?_
  refine ev_istore X d_X_doWord_35 (by decide) ?_
  refine ev_iload_n X d_X_doWord_37 rfl ?_
  refine ev_bipush (v := 15) X d_X_doWord_38 (by decide) ?_
  refine ev_iand X d_X_doWord_40 ?_
  refine ev_topi (v := fO v) rfl ?_
  by_cases q0 : fO v = 0
  · rw [q0]
    refine ev_tableIn (tgt := 100) X d_X_doWord_41 (by decide) (by decide) rfl (by decide) ?_
    refine ev_aload_n X d_X_doWord_100 rfl ?_
    refine ev_iconst (v := 4) X d_X_doWord_101 (by decide) ?_
    refine ev_aload X d_X_doWord_102 rfl ?_
    refine ev_iload X d_X_doWord_104 rfl ?_
    refine ev_iald X (li_er M) rfl (inr_z (fA_in v)) (inr_j (k := 8) rfl (by decide) (fA_in v)) d_X_doWord_106 ?_
    refine ev_cV0 X m_X_208 (c_E_endWith M) M rfl rfl (by decide) (by decide) d_X_doWord_107 rfl rfl (Nat.le_of_ble_eq_true rfl) ?_
    refine ev_iload X d_X_doWord_110 rfl ?_
    exact ev_iretL X hr hk d_X_doWord_112 (by simp [dwV, rgA, rgB, q0]) (by simp [dwS, rgA, rgB, q0])
  · by_cases q1 : fO v = 1
    · rw [q1]
      refine ev_tableIn (tgt := 113) X d_X_doWord_41 (by decide) (by decide) rfl (by decide) ?_
      refine ev_aload X d_X_doWord_113 rfl ?_
      refine ev_iload X d_X_doWord_115 rfl ?_
      refine ev_aload X d_X_doWord_117 rfl ?_
      refine ev_iload X d_X_doWord_119 rfl ?_
      refine ev_iald X (li_er M) rfl (inr_z (fB_in v)) (inr_j (k := 8) rfl (by decide) (fB_in v)) d_X_doWord_121 ?_
      refine ev_iload X d_X_doWord_122 rfl ?_
      refine ev_iadd X d_X_doWord_124 ?_
      refine ev_iast X (li_er M) rfl (inr_z (fA_in v)) (inr_j (k := 8) rfl (by decide) (fA_in v)) d_X_doWord_125 ?_
      refine ev_iload X d_X_doWord_126 rfl ?_
      exact ev_iretL X hr hk d_X_doWord_128 (by simp [dwV, rgA, rgB, q0, q1]) (by simp [dwS, rgA, rgB, q0, q1])
    · by_cases q2 : fO v = 2
      · rw [q2]
        refine ev_tableIn (tgt := 129) X d_X_doWord_41 (by decide) (by decide) rfl (by decide) ?_
        refine ev_aload X d_X_doWord_129 rfl ?_
        refine ev_iload X d_X_doWord_131 rfl ?_
        refine ev_aload X d_X_doWord_133 rfl ?_
        refine ev_iload X d_X_doWord_135 rfl ?_
        refine ev_iald X (li_er M) rfl (inr_z (fA_in v)) (inr_j (k := 8) rfl (by decide) (fA_in v)) d_X_doWord_137 ?_
        refine ev_aload X d_X_doWord_138 rfl ?_
        refine ev_iload X d_X_doWord_140 rfl ?_
        refine ev_iald X (li_er M) rfl (inr_z (fB_in v)) (inr_j (k := 8) rfl (by decide) (fB_in v)) d_X_doWord_142 ?_
        refine ev_iadd X d_X_doWord_143 ?_
        refine ev_iast X (li_er M) rfl (inr_z (fA_in v)) (inr_j (k := 8) rfl (by decide) (fA_in v)) d_X_doWord_144 ?_
        refine ev_iload X d_X_doWord_145 rfl ?_
        exact ev_iretL X hr hk d_X_doWord_147 (by simp [dwV, rgA, rgB, q0, q1, q2]) (by simp [dwS, rgA, rgB, q0, q1, q2])
      · by_cases q3 : fO v = 3
        · rw [q3]
          refine ev_tableIn (tgt := 148) X d_X_doWord_41 (by decide) (by decide) rfl (by decide) ?_
          refine ev_aload X d_X_doWord_148 rfl ?_
          refine ev_iload X d_X_doWord_150 rfl ?_
          refine ev_aload X d_X_doWord_152 rfl ?_
          refine ev_iload X d_X_doWord_154 rfl ?_
          refine ev_iald X (li_er M) rfl (inr_z (fA_in v)) (inr_j (k := 8) rfl (by decide) (fA_in v)) d_X_doWord_156 ?_
          refine ev_aload X d_X_doWord_157 rfl ?_
          refine ev_iload X d_X_doWord_159 rfl ?_
          refine ev_iald X (li_er M) rfl (inr_z (fB_in v)) (inr_j (k := 8) rfl (by decide) (fB_in v)) d_X_doWord_161 ?_
          refine ev_ixor X d_X_doWord_162 ?_
          refine ev_iast X (li_er M) rfl (inr_z (fA_in v)) (inr_j (k := 8) rfl (by decide) (fA_in v)) d_X_doWord_163 ?_
          refine ev_iload X d_X_doWord_164 rfl ?_
          exact ev_iretL X hr hk d_X_doWord_166 (by simp [dwV, rgA, rgB, q0, q1, q2, q3]) (by simp [dwS, rgA, rgB, q0, q1, q2, q3])
        · by_cases q4 : fO v = 4
          · rw [q4]
            refine ev_tableIn (tgt := 167) X d_X_doWord_41 (by decide) (by decide) rfl (by decide) ?_
            refine ev_aload_n X d_X_doWord_167 rfl ?_
            refine ev_aload_n X d_X_doWord_168 rfl ?_
            refine ev_aload_n X d_X_doWord_169 rfl ?_
            refine ev_iload X d_X_doWord_170 rfl ?_
            refine ev_aload X d_X_doWord_172 rfl ?_
            refine ev_iload X d_X_doWord_174 rfl ?_
            refine ev_iald X (li_er M) rfl (inr_z (fB_in v)) (inr_j (k := 8) rfl (by decide) (fB_in v)) d_X_doWord_176 ?_
            refine ev_iload X d_X_doWord_177 rfl ?_
            refine ev_iadd X d_X_doWord_179 ?_
            refine ev_cV0 X m_X_217 (c_X_loadFor L M (fA_in v)) lo_this rfl rfl (by decide) (by decide) d_X_doWord_180 rfl rfl (Nat.le_of_ble_eq_true rfl) ?_
            refine ev_iload X d_X_doWord_183 rfl ?_
            exact ev_iretL X hr hk d_X_doWord_185 (by simp [dwV, rgA, rgB, q0, q1, q2, q3, q4]) (by simp [dwS, rgA, rgB, q0, q1, q2, q3, q4])
          · by_cases q5 : fO v = 5
            · rw [q5]
              refine ev_tableIn (tgt := 186) X d_X_doWord_41 (by decide) (by decide) rfl (by decide) ?_
              refine ev_aload_n X d_X_doWord_186 rfl ?_
              refine ev_aload_n X d_X_doWord_187 rfl ?_
              refine ev_aload_n X d_X_doWord_188 rfl ?_
              refine ev_iload X d_X_doWord_189 rfl ?_
              refine ev_aload X d_X_doWord_191 rfl ?_
              refine ev_iload X d_X_doWord_193 rfl ?_
              refine ev_iald X (li_er M) rfl (inr_z (fB_in v)) (inr_j (k := 8) rfl (by decide) (fB_in v)) d_X_doWord_195 ?_
              refine ev_iload X d_X_doWord_196 rfl ?_
              refine ev_iadd X d_X_doWord_198 ?_
              refine ev_cV0 X m_X_221 (c_X_storeFor L M (fA_in v)) lo_this rfl rfl (by decide) (by decide) d_X_doWord_199 rfl rfl (Nat.le_of_ble_eq_true rfl) ?_
              refine ev_iload X d_X_doWord_202 rfl ?_
              exact ev_iretL X hr hk d_X_doWord_204 (by simp [dwV, rgA, rgB, q0, q1, q2, q3, q4, q5]) (by simp [dwS, rgA, rgB, q0, q1, q2, q3, q4, q5])
            · by_cases q6 : fO v = 6
              · rw [q6]
                refine ev_tableIn (tgt := 205) X d_X_doWord_41 (by decide) (by decide) rfl (by decide) ?_
                refine ev_aload X d_X_doWord_205 rfl ?_
                refine ev_iload X d_X_doWord_207 rfl ?_
                refine ev_iald X (li_er M) rfl (inr_z (fA_in v)) (inr_j (k := 8) rfl (by decide) (fA_in v)) d_X_doWord_209 ?_
                refine ev_if_ne (tgt := 221) X d_X_doWord_210 (by decide) (fun h210 => ?_) (fun h210 => ?_)
                · refine ev_iload X d_X_doWord_221 rfl ?_
                  exact ev_iretL X hr hk d_X_doWord_223 (by simp [dwV, rgA, rgB, q0, q1, q2, q3, q4, q5, q6, h210]) (by simp [dwS, rgA, rgB, q0, q1, q2, q3, q4, q5, q6])
                · refine ev_iload X d_X_doWord_213 rfl ?_
                  refine ev_iload X d_X_doWord_215 rfl ?_
                  refine ev_iadd X d_X_doWord_217 ?_
                  refine ev_goto (tgt := 223) X d_X_doWord_218 (by decide) ?_
                  exact ev_iretL X hr hk d_X_doWord_223 (by simp [dwV, rgA, rgB, q0, q1, q2, q3, q4, q5, q6, h210]) (by simp [dwS, rgA, rgB, q0, q1, q2, q3, q4, q5, q6])
              · by_cases q7 : fO v = 7
                · rw [q7]
                  refine ev_tableIn (tgt := 224) X d_X_doWord_41 (by decide) (by decide) rfl (by decide) ?_
                  refine ev_aload X d_X_doWord_224 rfl ?_
                  refine ev_iload X d_X_doWord_226 rfl ?_
                  refine ev_iald X (li_er M) rfl (inr_z (fB_in v)) (inr_j (k := 8) rfl (by decide) (fB_in v)) d_X_doWord_228 ?_
                  refine ev_iload X d_X_doWord_229 rfl ?_
                  refine ev_iadd X d_X_doWord_231 ?_
                  refine ev_istore X d_X_doWord_232 (by decide) ?_
                  refine ev_aload X d_X_doWord_234 rfl ?_
                  refine ev_iload X d_X_doWord_236 rfl ?_
                  refine ev_iload X d_X_doWord_238 rfl ?_
                  refine ev_iast X (li_er M) rfl (inr_z (fA_in v)) (inr_j (k := 8) rfl (by decide) (fA_in v)) d_X_doWord_240 ?_
                  refine ev_iload X d_X_doWord_241 rfl ?_
                  exact ev_iretL X hr hk d_X_doWord_243 (by simp [dwV, rgA, rgB, q0, q1, q2, q3, q4, q5, q6, q7]) (by simp [dwS, rgA, rgB, q0, q1, q2, q3, q4, q5, q6, q7])
                · by_cases q8 : fO v = 8
                  · rw [q8]
                    refine ev_tableIn (tgt := 244) X d_X_doWord_41 (by decide) (by decide) rfl (by decide) ?_
                    refine ev_aload X d_X_doWord_244 rfl ?_
                    refine ev_iload X d_X_doWord_246 rfl ?_
                    refine ev_aload_n X d_X_doWord_248 rfl ?_
                    refine ev_aload_n X d_X_doWord_249 rfl ?_
                    refine ev_getI X f_X_120 M rfl d_X_doWord_250 ?_
                    refine ev_aload X d_X_doWord_253 rfl ?_
                    refine ev_iload X d_X_doWord_255 rfl ?_
                    refine ev_iald X (li_er M) rfl (inr_z (fB_in v)) (inr_j (k := 8) rfl (by decide) (fB_in v)) d_X_doWord_257 ?_
                    refine ev_cV1 X m_X_123 c_X_proofOf lo_this rfl rfl (by decide) (by decide) d_X_doWord_258 rfl rfl (Nat.le_of_ble_eq_true rfl) ?_
                    refine ev_iast X (li_er M) rfl (inr_z (fA_in v)) (inr_j (k := 8) rfl (by decide) (fA_in v)) d_X_doWord_261 ?_
                    refine ev_iload X d_X_doWord_262 rfl ?_
                    exact ev_iretL X hr hk d_X_doWord_264 (by simp [dwV, rgA, rgB, q0, q1, q2, q3, q4, q5, q6, q7, q8]) (by simp [dwS, rgA, rgB, q0, q1, q2, q3, q4, q5, q6, q7, q8])
                  · by_cases q9 : fO v = 9
                    · rw [q9]
                      refine ev_tableIn (tgt := 265) X d_X_doWord_41 (by decide) (by decide) rfl (by decide) ?_
                      refine ev_aload X d_X_doWord_265 rfl ?_
                      refine ev_iload X d_X_doWord_267 rfl ?_
                      refine ev_aload_n X d_X_doWord_269 rfl ?_
                      refine ev_aload_n X d_X_doWord_270 rfl ?_
                      refine ev_getI X f_X_120 M rfl d_X_doWord_271 ?_
                      refine ev_cV1 X m_X_224 c_X_secretOf lo_this rfl rfl (by decide) (by decide) d_X_doWord_274 rfl rfl (Nat.le_of_ble_eq_true rfl) ?_
                      refine ev_iast X (li_er M) rfl (inr_z (fA_in v)) (inr_j (k := 8) rfl (by decide) (fA_in v)) d_X_doWord_277 ?_
                      refine ev_iload X d_X_doWord_278 rfl ?_
                      exact ev_iretL X hr hk d_X_doWord_280 (by simp [dwV, rgA, rgB, q0, q1, q2, q3, q4, q5, q6, q7, q8, q9]) (by simp [dwS, rgA, rgB, q0, q1, q2, q3, q4, q5, q6, q7, q8, q9])
                    · by_cases q10 : fO v = 10
                      · rw [q10]
                        refine ev_tableIn (tgt := 281) X d_X_doWord_41 (by decide) (by decide) rfl (by decide) ?_
                        refine ev_aload_n X d_X_doWord_281 rfl ?_
                        refine ev_iconst (v := 3) X d_X_doWord_282 (by decide) ?_
                        refine ev_putI X f_X_86 M rfl d_X_doWord_283 ?_
                        refine ev_iload X d_X_doWord_286 rfl ?_
                        exact ev_iretL X hr hk d_X_doWord_288 (by simp [dwV, rgA, rgB, q0, q1, q2, q3, q4, q5, q6, q7, q8, q9, q10]) (by simp [dwS, rgA, rgB, q0, q1, q2, q3, q4, q5, q6, q7, q8, q9, q10])
                      · refine ev_tableOut (tgt := 289) X d_X_doWord_41 (sw_out10 q0 q1 q2 q3 q4 q5 q6 q7 q8 q9 q10) (by decide) ?_
                        refine ev_aload_n X d_X_doWord_289 rfl ?_
                        refine ev_iconst (v := 5) X d_X_doWord_290 (by decide) ?_
                        refine ev_iconst (v := 4) X d_X_doWord_291 (by decide) ?_
                        refine ev_cV0 X m_X_208 (c_E_endWith M) M rfl rfl (by decide) (by decide) d_X_doWord_292 rfl rfl (Nat.le_of_ble_eq_true rfl) ?_
                        refine ev_iload X d_X_doWord_295 rfl ?_
                        exact ev_iretL X hr hk d_X_doWord_297 (by simp [dwV, q0, q1, q2, q3, q4, q5, q6, q7, q8, q9, q10]) (by simp [dwS, q0, q1, q2, q3, q4, q5, q6, q7, q8, q9, q10])
set_option maxHeartbeats 4000000 in
set_option maxRecDepth 100000 in
theorem c_X_makeStep {l : Launch} {D : va_G} {ad : Nat → Nat} {ca : Nat → ClassId} {x : va_W} {S : St} {i j : Nat} (L : LyO lyX 41 i 2 (flP i)) (M : LyO lyX 41 j 3 (flE j)) : CtX l D ad ca x y_X_makeStep b_X_makeStep 5 none 4 [.ref (ad 0), .ref (ad i), .ref (ad j)] S (mkS S i j) none := by
  refine ev_ent [some (.ref (ad 0)), some (.ref (ad i)), some (.ref (ad j)), none, none] rfl (by decide) (Nat.le_of_ble_eq_true rfl) rfl gTT (fun p e s m args below meth c A X hr hk => ?_)
  refine ev_aload_n X d_X_makeStep_0 rfl ?_
  refine ev_getI X f_X_205 M rfl d_X_makeStep_1 ?_
  refine ev_istore_n X d_X_makeStep_4 (by decide) ?_
  refine ev_aload_n X d_X_makeStep_5 rfl ?_
  refine ev_aload_n X d_X_makeStep_6 rfl ?_
  refine ev_iload_n X d_X_makeStep_7 rfl ?_
  refine ev_iconst (v := 4) X d_X_makeStep_8 (by decide) ?_
  refine ev_cV1 X m_X_43 (c_X_isAllowed L) lo_this rfl rfl (by decide) (by decide) d_X_makeStep_9 rfl rfl (Nat.le_of_ble_eq_true rfl) ?_
  refine ev_if_neB (tgt := 22) X d_X_makeStep_12 (by decide) (fun h12 => ?_) (fun h12 => ?_)
  · refine ev_aload_n X d_X_makeStep_22 rfl ?_
    refine ev_aload_n X d_X_makeStep_23 rfl ?_
    refine ev_aload_n X d_X_makeStep_24 rfl ?_
    refine ev_aload_n X d_X_makeStep_25 rfl ?_
    refine ev_getR X f_X_13 lo_this rfl d_X_makeStep_26 ?_
    refine ev_iload_n X d_X_makeStep_29 rfl ?_
    refine ev_iald X li_mem rfl (inr_z (alw_in h12)) (inr_j (k := 256) rfl (by decide) (alw_in h12)) d_X_makeStep_30 ?_
    refine ev_cV1 X m_X_212 (c_X_doWord L M) lo_this rfl rfl (by decide) (by decide) d_X_makeStep_31 rfl rfl (Nat.le_of_ble_eq_true rfl) ?_
    refine ev_istore X d_X_makeStep_34 (by decide) ?_
    refine ev_aload_n X d_X_makeStep_36 rfl ?_
    refine ev_getI X f_X_86 M rfl d_X_makeStep_37 ?_
    refine ev_iconst (v := 5) X d_X_makeStep_40 (by decide) ?_
    refine ev_icmp_eq (tgt := 50) X d_X_makeStep_41 (by decide) (fun h41 => ?_) (fun h41 => ?_)
    · exact ev_vretL X hr hk d_X_makeStep_50 (by simp [mkS, h12, h41])
    · refine ev_aload_n X d_X_makeStep_44 rfl ?_
      refine ev_iload X d_X_makeStep_45 rfl ?_
      refine ev_putI X f_X_205 M rfl d_X_makeStep_47 ?_
      exact ev_vretL X hr hk d_X_makeStep_50 (by simp [mkS, h12, h41])
  · refine ev_aload_n X d_X_makeStep_15 rfl ?_
    refine ev_iconst (v := 5) X d_X_makeStep_16 (by decide) ?_
    refine ev_iconst (v := 1) X d_X_makeStep_17 (by decide) ?_
    refine ev_cV0 X m_X_208 (c_E_endWith M) M rfl rfl (by decide) (by decide) d_X_makeStep_18 rfl rfl (Nat.le_of_ble_eq_true rfl) ?_
    exact ev_vretL X hr hk d_X_makeStep_21 (by simp [mkS, h12])
