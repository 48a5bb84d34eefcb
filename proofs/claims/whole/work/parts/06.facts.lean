set_option maxRecDepth 20000 in
theorem m_L_15 : MkI TT R_L 15 y_X_init b_X_init 3 1 := ⟨⟨tt_of 8 (by decide +kernel) (by decide +kernel), tt_of 9 (by decide +kernel) (by decide +kernel), tt_of 1 (by decide +kernel) (by decide +kernel), tt_of 10 rfl rfl⟩, rfl, by decide, by decide, by decide +kernel⟩
set_option maxRecDepth 20000 in
theorem m_X_26 : MkI TT R_X 26 y_E_init b_E_init 1 0 := ⟨⟨tt_of 17 (by decide +kernel) (by decide +kernel), tt_of 18 (by decide +kernel) (by decide +kernel), tt_of 2 (by decide +kernel) (by decide +kernel), tt_of 19 rfl rfl⟩, rfl, by decide, by decide, by decide +kernel⟩
set_option maxRecDepth 20000 in
theorem f_E_9 : Fk clX TT R_E 9 3 0 true (.array .int) := ⟨R_E, F_E, 9, t_E, rfl, u_E, by decide, tt_of 21 (by decide +kernel) (by decide +kernel), rfl, by decide +kernel, t_E_ok, n_E⟩
set_option maxRecDepth 20000 in
theorem f_X_216 : Fk clX TT R_X 216 3 0 true (.array .int) := ⟨R_E, F_E, 9, t_E, rfl, u_E, by decide, tt_of 22 (by decide +kernel) (by decide +kernel), rfl, by decide +kernel, t_E_ok, n_E⟩
set_option maxRecDepth 20000 in
theorem f_E_15 : Fk clX TT R_E 15 3 1 false (.int) := ⟨R_E, F_E, 9, t_E, rfl, u_E, by decide, tt_of 23 (by decide +kernel) (by decide +kernel), rfl, by decide +kernel, t_E_ok, n_E⟩
set_option maxRecDepth 20000 in
theorem f_X_86 : Fk clX TT R_X 86 3 1 false (.int) := ⟨R_E, F_E, 9, t_E, rfl, u_E, by decide, tt_of 24 (by decide +kernel) (by decide +kernel), rfl, by decide +kernel, t_E_ok, n_E⟩
set_option maxRecDepth 20000 in
theorem f_E_22 : Fk clX TT R_E 22 3 2 false (.int) := ⟨R_E, F_E, 9, t_E, rfl, u_E, by decide, tt_of 25 (by decide +kernel) (by decide +kernel), rfl, by decide +kernel, t_E_ok, n_E⟩
set_option maxRecDepth 20000 in
theorem f_X_148 : Fk clX TT R_X 148 3 2 false (.int) := ⟨R_E, F_E, 9, t_E, rfl, u_E, by decide, tt_of 26 (by decide +kernel) (by decide +kernel), rfl, by decide +kernel, t_E_ok, n_E⟩
set_option maxRecDepth 20000 in
theorem f_E_25 : Fk clX TT R_E 25 3 3 false (.int) := ⟨R_E, F_E, 9, t_E, rfl, u_E, by decide, tt_of 27 (by decide +kernel) (by decide +kernel), rfl, by decide +kernel, t_E_ok, n_E⟩
set_option maxRecDepth 20000 in
theorem f_X_151 : Fk clX TT R_X 151 3 3 false (.int) := ⟨R_E, F_E, 9, t_E, rfl, u_E, by decide, tt_of 28 (by decide +kernel) (by decide +kernel), rfl, by decide +kernel, t_E_ok, n_E⟩
set_option maxRecDepth 20000 in
theorem f_E_28 : Fk clX TT R_E 28 3 4 false (.int) := ⟨R_E, F_E, 9, t_E, rfl, u_E, by decide, tt_of 29 (by decide +kernel) (by decide +kernel), rfl, by decide +kernel, t_E_ok, n_E⟩
set_option maxRecDepth 20000 in
theorem f_X_154 : Fk clX TT R_X 154 3 4 false (.int) := ⟨R_E, F_E, 9, t_E, rfl, u_E, by decide, tt_of 30 (by decide +kernel) (by decide +kernel), rfl, by decide +kernel, t_E_ok, n_E⟩
set_option maxRecDepth 20000 in
theorem f_E_19 : Fk clX TT R_E 19 3 5 false (.int) := ⟨R_E, F_E, 9, t_E, rfl, u_E, by decide, tt_of 31 (by decide +kernel) (by decide +kernel), rfl, by decide +kernel, t_E_ok, n_E⟩
set_option maxRecDepth 20000 in
theorem f_X_157 : Fk clX TT R_X 157 3 5 false (.int) := ⟨R_E, F_E, 9, t_E, rfl, u_E, by decide, tt_of 32 (by decide +kernel) (by decide +kernel), rfl, by decide +kernel, t_E_ok, n_E⟩
set_option maxRecDepth 20000 in
theorem f_X_120 : Fk clX TT R_X 120 3 6 false (.int) := ⟨R_E, F_E, 9, t_E, rfl, u_E, by decide, tt_of 33 (by decide +kernel) (by decide +kernel), rfl, by decide +kernel, t_E_ok, n_E⟩
set_option maxRecDepth 20000 in
theorem f_E_31 : Fk clX TT R_E 31 3 7 false (.int) := ⟨R_E, F_E, 9, t_E, rfl, u_E, by decide, tt_of 34 (by decide +kernel) (by decide +kernel), rfl, by decide +kernel, t_E_ok, n_E⟩
set_option maxRecDepth 20000 in
theorem f_X_205 : Fk clX TT R_X 205 3 7 false (.int) := ⟨R_E, F_E, 9, t_E, rfl, u_E, by decide, tt_of 35 (by decide +kernel) (by decide +kernel), rfl, by decide +kernel, t_E_ok, n_E⟩
set_option maxRecDepth 20000 in
theorem f_E_34 : Fk clX TT R_E 34 3 8 false (.int) := ⟨R_E, F_E, 9, t_E, rfl, u_E, by decide, tt_of 36 (by decide +kernel) (by decide +kernel), rfl, by decide +kernel, t_E_ok, n_E⟩
set_option maxRecDepth 20000 in
theorem f_X_117 : Fk clX TT R_X 117 3 8 false (.int) := ⟨R_E, F_E, 9, t_E, rfl, u_E, by decide, tt_of 37 (by decide +kernel) (by decide +kernel), rfl, by decide +kernel, t_E_ok, n_E⟩
set_option maxRecDepth 20000 in
theorem m_X_33 : MkI TT R_X 33 y_P_init b_P_init 2 0 := ⟨⟨tt_of 61 (by decide +kernel) (by decide +kernel), tt_of 62 (by decide +kernel) (by decide +kernel), tt_of 3 (by decide +kernel) (by decide +kernel), tt_of 63 rfl rfl⟩, rfl, by decide, by decide, by decide +kernel⟩
set_option maxRecDepth 20000 in
theorem m_P_21 : MkI TT R_P 21 y_G_init b_G_init 1 0 := ⟨⟨tt_of 68 (by decide +kernel) (by decide +kernel), tt_of 69 (by decide +kernel) (by decide +kernel), tt_of 4 (by decide +kernel) (by decide +kernel), tt_of 70 rfl rfl⟩, rfl, by decide, by decide, by decide +kernel⟩
set_option maxRecDepth 20000 in
theorem f_G_9 : Fk clX TT R_G 9 1 0 false (.int) := ⟨R_G, F_G, 3, t_G, rfl, u_G, by decide, tt_of 72 (by decide +kernel) (by decide +kernel), rfl, by decide +kernel, t_G_ok, n_G⟩
set_option maxRecDepth 20000 in
theorem f_X_137 : Fk clX TT R_X 137 1 0 false (.int) := ⟨R_G, F_G, 3, t_G, rfl, u_G, by decide, tt_of 73 (by decide +kernel) (by decide +kernel), rfl, by decide +kernel, t_G_ok, n_G⟩
set_option maxRecDepth 20000 in
theorem f_G_15 : Fk clX TT R_G 15 1 1 false (.int) := ⟨R_G, F_G, 3, t_G, rfl, u_G, by decide, tt_of 74 (by decide +kernel) (by decide +kernel), rfl, by decide +kernel, t_G_ok, n_G⟩
set_option maxRecDepth 20000 in
theorem f_X_142 : Fk clX TT R_X 142 1 1 false (.int) := ⟨R_G, F_G, 3, t_G, rfl, u_G, by decide, tt_of 75 (by decide +kernel) (by decide +kernel), rfl, by decide +kernel, t_G_ok, n_G⟩
set_option maxRecDepth 20000 in
theorem f_G_18 : Fk clX TT R_G 18 1 2 false (.int) := ⟨R_G, F_G, 3, t_G, rfl, u_G, by decide, tt_of 76 (by decide +kernel) (by decide +kernel), rfl, by decide +kernel, t_G_ok, n_G⟩
set_option maxRecDepth 20000 in
theorem f_X_145 : Fk clX TT R_X 145 1 2 false (.int) := ⟨R_G, F_G, 3, t_G, rfl, u_G, by decide, tt_of 77 (by decide +kernel) (by decide +kernel), rfl, by decide +kernel, t_G_ok, n_G⟩
set_option maxRecDepth 20000 in
theorem f_P_9 : Fk clX TT R_P 9 2 0 true (.array .int) := ⟨R_P, F_P, 3, t_P, rfl, u_P, by decide, tt_of 85 (by decide +kernel) (by decide +kernel), rfl, by decide +kernel, t_P_ok, n_P⟩
set_option maxRecDepth 20000 in
theorem f_X_55 : Fk clX TT R_X 55 2 0 true (.array .int) := ⟨R_P, F_P, 3, t_P, rfl, u_P, by decide, tt_of 86 (by decide +kernel) (by decide +kernel), rfl, by decide +kernel, t_P_ok, n_P⟩
set_option maxRecDepth 20000 in
theorem f_P_17 : Fk clX TT R_P 17 2 1 true (.array (.object "EnclaveGuards$Guard")) := ⟨R_P, F_P, 3, t_P, rfl, u_P, by decide, tt_of 87 (by decide +kernel) (by decide +kernel), rfl, by decide +kernel, t_P_ok, n_P⟩
set_option maxRecDepth 20000 in
theorem f_X_133 : Fk clX TT R_X 133 2 1 true (.array (.object "EnclaveGuards$Guard")) := ⟨R_P, F_P, 3, t_P, rfl, u_P, by decide, tt_of 88 (by decide +kernel) (by decide +kernel), rfl, by decide +kernel, t_P_ok, n_P⟩
set_option maxRecDepth 20000 in
theorem f_P_22 : Fk clX TT R_P 22 2 2 false (.int) := ⟨R_P, F_P, 3, t_P, rfl, u_P, by decide, tt_of 89 (by decide +kernel) (by decide +kernel), rfl, by decide +kernel, t_P_ok, n_P⟩
set_option maxRecDepth 20000 in
theorem f_X_93 : Fk clX TT R_X 93 2 2 false (.int) := ⟨R_P, F_P, 3, t_P, rfl, u_P, by decide, tt_of 90 (by decide +kernel) (by decide +kernel), rfl, by decide +kernel, t_P_ok, n_P⟩
set_option maxRecDepth 20000 in
theorem m_X_34 : MkV TT R_X 34 y_X_setAllGuards R_X b_X_setAllGuards 2 none 0 := ⟨⟨tt_of 98 (by decide +kernel) (by decide +kernel), tt_of 100 (by decide +kernel) (by decide +kernel), ts_of (q := (y_X_setAllGuards, 6)) 0 (by decide +kernel) (by decide +kernel), tt_of 1 (by decide +kernel) (by decide +kernel), tt_of 101 rfl rfl⟩, rfl, by decide, by decide, by decide +kernel⟩
set_option maxRecDepth 20000 in
theorem m_X_96 : MkV TT R_X 96 y_X_setGuards R_X b_X_setGuards 4 none 1 := ⟨⟨tt_of 102 (by decide +kernel) (by decide +kernel), tt_of 104 (by decide +kernel) (by decide +kernel), ts_of (q := (y_X_setGuards, 6)) 1 (by decide +kernel) (by decide +kernel), tt_of 1 (by decide +kernel) (by decide +kernel), tt_of 105 rfl rfl⟩, rfl, by decide, by decide, by decide +kernel⟩
set_option maxRecDepth 20000 in
theorem m_X_184 : MkV TT R_X 184 y_G_setBlock R_G b_G_setBlock 4 none 3 := ⟨⟨tt_of 106 (by decide +kernel) (by decide +kernel), tt_of 107 (by decide +kernel) (by decide +kernel), tt_of 108 (by decide +kernel) (by decide +kernel), tt_of 4 (by decide +kernel) (by decide +kernel), tt_of 109 rfl rfl⟩, rfl, by decide, by decide, by decide +kernel⟩
set_option maxRecDepth 20000 in
theorem m_G_21 : MkV TT R_G 21 y_G_setTo R_G b_G_setTo 4 none 3 := ⟨⟨tt_of 110 (by decide +kernel) (by decide +kernel), tt_of 111 (by decide +kernel) (by decide +kernel), tt_of 112 (by decide +kernel) (by decide +kernel), tt_of 4 (by decide +kernel) (by decide +kernel), tt_of 113 rfl rfl⟩, rfl, by decide, by decide, by decide +kernel⟩
set_option maxRecDepth 20000 in
theorem m_X_188 : MkS TT R_X 188 y_X_setEnclaveGuards b_X_setEnclaveGuards 4 none 4 := ⟨⟨tt_of 114 (by decide +kernel) (by decide +kernel), tt_of 115 (by decide +kernel) (by decide +kernel), tt_of 1 (by decide +kernel) (by decide +kernel), tt_of 116 rfl rfl⟩, rfl, by decide, by decide, by decide +kernel⟩
set_option maxRecDepth 20000 in
theorem m_X_195 : MkV TT R_X 195 y_G_setOff R_G b_G_setOff 2 none 1 := ⟨⟨tt_of 117 (by decide +kernel) (by decide +kernel), tt_of 118 (by decide +kernel) (by decide +kernel), tt_of 119 (by decide +kernel) (by decide +kernel), tt_of 4 (by decide +kernel) (by decide +kernel), tt_of 120 rfl rfl⟩, rfl, by decide, by decide, by decide +kernel⟩
set_option maxRecDepth 20000 in
theorem m_X_198 : MkV TT R_X 198 y_E_isBlock R_E b_E_isBlock 2 (some .boolean) 0 := ⟨⟨tt_of 121 (by decide +kernel) (by decide +kernel), tt_of 122 (by decide +kernel) (by decide +kernel), tt_of 123 (by decide +kernel) (by decide +kernel), tt_of 2 (by decide +kernel) (by decide +kernel), tt_of 124 rfl rfl⟩, rfl, by decide, by decide, by decide +kernel⟩
set_option maxRecDepth 20000 in
theorem m_X_171 : MkV TT R_X 171 y_E_firstWord R_E b_E_firstWord 1 (some .int) 0 := ⟨⟨tt_of 125 (by decide +kernel) (by decide +kernel), tt_of 126 (by decide +kernel) (by decide +kernel), tt_of 127 (by decide +kernel) (by decide +kernel), tt_of 2 (by decide +kernel) (by decide +kernel), tt_of 128 rfl rfl⟩, rfl, by decide, by decide, by decide +kernel⟩
set_option maxRecDepth 20000 in
theorem m_X_168 : MkV TT R_X 168 y_E_endWord R_E b_E_endWord 1 (some .int) 0 := ⟨⟨tt_of 129 (by decide +kernel) (by decide +kernel), tt_of 130 (by decide +kernel) (by decide +kernel), tt_of 131 (by decide +kernel) (by decide +kernel), tt_of 2 (by decide +kernel) (by decide +kernel), tt_of 132 rfl rfl⟩, rfl, by decide, by decide, by decide +kernel⟩
set_option maxRecDepth 20000 in
theorem m_X_202 : MkV TT R_X 202 y_G_setTo R_G b_G_setTo 4 none 3 := ⟨⟨tt_of 133 (by decide +kernel) (by decide +kernel), tt_of 111 (by decide +kernel) (by decide +kernel), tt_of 112 (by decide +kernel) (by decide +kernel), tt_of 4 (by decide +kernel) (by decide +kernel), tt_of 113 rfl rfl⟩, rfl, by decide, by decide, by decide +kernel⟩
set_option maxRecDepth 20000 in
theorem m_X_192 : MkV TT R_X 192 y_X_setSharedGuard R_X b_X_setSharedGuard 4 none 1 := ⟨⟨tt_of 134 (by decide +kernel) (by decide +kernel), tt_of 136 (by decide +kernel) (by decide +kernel), ts_of (q := (y_X_setSharedGuard, 6)) 2 (by decide +kernel) (by decide +kernel), tt_of 1 (by decide +kernel) (by decide +kernel), tt_of 137 rfl rfl⟩, rfl, by decide, by decide, by decide +kernel⟩
set_option maxRecDepth 20000 in
theorem f_X_7 : Fk clX TT R_X 7 0 0 true (.int) := ⟨R_X, F_X, 6, t_X, rfl, u_X, by decide, tt_of 138 (by decide +kernel) (by decide +kernel), rfl, by decide +kernel, t_X_ok, n_X⟩
set_option maxRecDepth 20000 in
theorem f_X_13 : Fk clX TT R_X 13 0 1 true (.array .int) := ⟨R_X, F_X, 6, t_X, rfl, u_X, by decide, tt_of 139 (by decide +kernel) (by decide +kernel), rfl, by decide +kernel, t_X_ok, n_X⟩
set_option maxRecDepth 20000 in
theorem f_X_17 : Fk clX TT R_X 17 0 2 true (.array .int) := ⟨R_X, F_X, 6, t_X, rfl, u_X, by decide, tt_of 140 (by decide +kernel) (by decide +kernel), rfl, by decide +kernel, t_X_ok, n_X⟩
set_option maxRecDepth 20000 in
theorem f_X_29 : Fk clX TT R_X 29 0 3 true (.array (.object "EnclaveGuards$Processor")) := ⟨R_X, F_X, 6, t_X, rfl, u_X, by decide, tt_of 141 (by decide +kernel) (by decide +kernel), rfl, by decide +kernel, t_X_ok, n_X⟩
set_option maxRecDepth 20000 in
theorem f_X_22 : Fk clX TT R_X 22 0 4 true (.array (.object "EnclaveGuards$Enclave")) := ⟨R_X, F_X, 6, t_X, rfl, u_X, by decide, tt_of 142 (by decide +kernel) (by decide +kernel), rfl, by decide +kernel, t_X_ok, n_X⟩
set_option maxRecDepth 20000 in
theorem f_X_47 : Fk clX TT R_X 47 0 5 false (.int) := ⟨R_X, F_X, 6, t_X, rfl, u_X, by decide, tt_of 143 (by decide +kernel) (by decide +kernel), rfl, by decide +kernel, t_X_ok, n_X⟩
set_option maxRecDepth 20000 in
theorem m_L_21 : MkV TT R_L 21 y_X_load R_X b_X_load 3 (some .long) 2 := ⟨⟨tt_of 157 (by decide +kernel) (by decide +kernel), tt_of 158 (by decide +kernel) (by decide +kernel), tt_of 159 (by decide +kernel) (by decide +kernel), tt_of 1 (by decide +kernel) (by decide +kernel), tt_of 160 rfl rfl⟩, rfl, by decide, by decide, by decide +kernel⟩
set_option maxRecDepth 20000 in
theorem m_X_37 : MkV TT R_X 37 y_X_isBusy R_X b_X_isBusy 2 (some .boolean) 1 := ⟨⟨tt_of 161 (by decide +kernel) (by decide +kernel), tt_of 163 (by decide +kernel) (by decide +kernel), ts_of (q := (y_X_isBusy, 6)) 3 (by decide +kernel) (by decide +kernel), tt_of 1 (by decide +kernel) (by decide +kernel), tt_of 164 rfl rfl⟩, rfl, by decide, by decide, by decide +kernel⟩
set_option maxRecDepth 20000 in
theorem m_X_127 : MkS TT R_X 127 y_X_isProcessor b_X_isProcessor 1 (some .boolean) 1 := ⟨⟨tt_of 165 (by decide +kernel) (by decide +kernel), tt_of 166 (by decide +kernel) (by decide +kernel), tt_of 1 (by decide +kernel) (by decide +kernel), tt_of 167 rfl rfl⟩, rfl, by decide, by decide, by decide +kernel⟩
set_option maxRecDepth 20000 in
theorem k_X_41 : Cond.constantLong R_X 41 1099511627776 ∈ TT := tt_of 168 (by decide +kernel) (by decide +kernel)
set_option maxRecDepth 20000 in
theorem m_X_43 : MkV TT R_X 43 y_X_isAllowed R_X b_X_isAllowed 6 (some .boolean) 3 := ⟨⟨tt_of 169 (by decide +kernel) (by decide +kernel), tt_of 171 (by decide +kernel) (by decide +kernel), ts_of (q := (y_X_isAllowed, 6)) 4 (by decide +kernel) (by decide +kernel), tt_of 1 (by decide +kernel) (by decide +kernel), tt_of 172 rfl rfl⟩, rfl, by decide, by decide, by decide +kernel⟩
set_option maxRecDepth 20000 in
theorem m_X_178 : MkS TT R_X 178 y_X_isAddress b_X_isAddress 1 (some .boolean) 1 := ⟨⟨tt_of 173 (by decide +kernel) (by decide +kernel), tt_of 174 (by decide +kernel) (by decide +kernel), tt_of 1 (by decide +kernel) (by decide +kernel), tt_of 175 rfl rfl⟩, rfl, by decide, by decide, by decide +kernel⟩
set_option maxRecDepth 20000 in
theorem m_X_181 : MkV TT R_X 181 y_G_matches R_G b_G_matches 4 (some .boolean) 2 := ⟨⟨tt_of 176 (by decide +kernel) (by decide +kernel), tt_of 177 (by decide +kernel) (by decide +kernel), tt_of 178 (by decide +kernel) (by decide +kernel), tt_of 4 (by decide +kernel) (by decide +kernel), tt_of 179 rfl rfl⟩, rfl, by decide, by decide, by decide +kernel⟩
set_option maxRecDepth 20000 in
theorem k_X_50 : Cond.constantLong R_X 50 1099511627777 ∈ TT := tt_of 180 (by decide +kernel) (by decide +kernel)
set_option maxRecDepth 20000 in
theorem m_L_26 : MkV TT R_L 26 y_X_store R_X b_X_store 4 (some .int) 3 := ⟨⟨tt_of 181 (by decide +kernel) (by decide +kernel), tt_of 182 (by decide +kernel) (by decide +kernel), tt_of 183 (by decide +kernel) (by decide +kernel), tt_of 1 (by decide +kernel) (by decide +kernel), tt_of 184 rfl rfl⟩, rfl, by decide, by decide, by decide +kernel⟩
set_option maxRecDepth 20000 in
theorem m_L_31 : MkV TT R_L 31 y_X_denied R_X b_X_denied 1 (some .int) 0 := ⟨⟨tt_of 185 (by decide +kernel) (by decide +kernel), tt_of 186 (by decide +kernel) (by decide +kernel), tt_of 187 (by decide +kernel) (by decide +kernel), tt_of 1 (by decide +kernel) (by decide +kernel), tt_of 188 rfl rfl⟩, rfl, by decide, by decide, by decide +kernel⟩
set_option maxRecDepth 20000 in
theorem m_L_36 : MkV TT R_L 36 y_X_give R_X b_X_give 4 (some .boolean) 3 := ⟨⟨tt_of 189 (by decide +kernel) (by decide +kernel), tt_of 190 (by decide +kernel) (by decide +kernel), tt_of 191 (by decide +kernel) (by decide +kernel), tt_of 1 (by decide +kernel) (by decide +kernel), tt_of 192 rfl rfl⟩, rfl, by decide, by decide, by decide +kernel⟩
set_option maxRecDepth 20000 in
theorem m_X_52 : MkS TT R_X 52 y_X_isRegister b_X_isRegister 1 (some .boolean) 1 := ⟨⟨tt_of 193 (by decide +kernel) (by decide +kernel), tt_of 194 (by decide +kernel) (by decide +kernel), tt_of 1 (by decide +kernel) (by decide +kernel), tt_of 195 rfl rfl⟩, rfl, by decide, by decide, by decide +kernel⟩
set_option maxRecDepth 20000 in
theorem m_L_41 : MkV TT R_L 41 y_X_register R_X b_X_register 3 (some .long) 2 := ⟨⟨tt_of 196 (by decide +kernel) (by decide +kernel), tt_of 197 (by decide +kernel) (by decide +kernel), tt_of 198 (by decide +kernel) (by decide +kernel), tt_of 1 (by decide +kernel) (by decide +kernel), tt_of 199 rfl rfl⟩, rfl, by decide, by decide, by decide +kernel⟩
set_option maxRecDepth 20000 in
theorem m_L_45 : MkV TT R_L 45 y_X_create R_X b_X_create 7 (some .int) 5 := ⟨⟨tt_of 200 (by decide +kernel) (by decide +kernel), tt_of 201 (by decide +kernel) (by decide +kernel), tt_of 202 (by decide +kernel) (by decide +kernel), tt_of 1 (by decide +kernel) (by decide +kernel), tt_of 203 rfl rfl⟩, rfl, by decide, by decide, by decide +kernel⟩
set_option maxRecDepth 20000 in
theorem m_X_58 : MkS TT R_X 58 y_X_arePages b_X_arePages 2 (some .boolean) 2 := ⟨⟨tt_of 204 (by decide +kernel) (by decide +kernel), tt_of 205 (by decide +kernel) (by decide +kernel), tt_of 1 (by decide +kernel) (by decide +kernel), tt_of 206 rfl rfl⟩, rfl, by decide, by decide, by decide +kernel⟩
set_option maxRecDepth 20000 in
theorem m_X_130 : MkS TT R_X 130 y_X_isPage b_X_isPage 1 (some .boolean) 1 := ⟨⟨tt_of 207 (by decide +kernel) (by decide +kernel), tt_of 208 (by decide +kernel) (by decide +kernel), tt_of 1 (by decide +kernel) (by decide +kernel), tt_of 209 rfl rfl⟩, rfl, by decide, by decide, by decide +kernel⟩
set_option maxRecDepth 20000 in
theorem m_X_62 : MkS TT R_X 62 y_X_isOnPages b_X_isOnPages 3 (some .boolean) 3 := ⟨⟨tt_of 210 (by decide +kernel) (by decide +kernel), tt_of 211 (by decide +kernel) (by decide +kernel), tt_of 1 (by decide +kernel) (by decide +kernel), tt_of 212 rfl rfl⟩, rfl, by decide, by decide, by decide +kernel⟩
set_option maxRecDepth 20000 in
theorem m_X_66 : MkS TT R_X 66 y_X_isShared b_X_isShared 1 (some .boolean) 1 := ⟨⟨tt_of 213 (by decide +kernel) (by decide +kernel), tt_of 214 (by decide +kernel) (by decide +kernel), tt_of 1 (by decide +kernel) (by decide +kernel), tt_of 215 rfl rfl⟩, rfl, by decide, by decide, by decide +kernel⟩
set_option maxRecDepth 20000 in
theorem m_X_69 : MkV TT R_X 69 y_X_areSystemPages R_X b_X_areSystemPages 4 (some .boolean) 2 := ⟨⟨tt_of 216 (by decide +kernel) (by decide +kernel), tt_of 218 (by decide +kernel) (by decide +kernel), ts_of (q := (y_X_areSystemPages, 6)) 5 (by decide +kernel) (by decide +kernel), tt_of 1 (by decide +kernel) (by decide +kernel), tt_of 219 rfl rfl⟩, rfl, by decide, by decide, by decide +kernel⟩
set_option maxRecDepth 20000 in
theorem m_X_72 : MkV TT R_X 72 y_X_canShare R_X b_X_canShare 6 (some .boolean) 3 := ⟨⟨tt_of 220 (by decide +kernel) (by decide +kernel), tt_of 222 (by decide +kernel) (by decide +kernel), ts_of (q := (y_X_canShare, 6)) 6 (by decide +kernel) (by decide +kernel), tt_of 1 (by decide +kernel) (by decide +kernel), tt_of 223 rfl rfl⟩, rfl, by decide, by decide, by decide +kernel⟩
set_option maxRecDepth 20000 in
theorem m_X_75 : MkV TT R_X 75 y_X_leastFreeEnclave R_X b_X_leastFreeEnclave 2 (some .int) 0 := ⟨⟨tt_of 224 (by decide +kernel) (by decide +kernel), tt_of 226 (by decide +kernel) (by decide +kernel), ts_of (q := (y_X_leastFreeEnclave, 6)) 7 (by decide +kernel) (by decide +kernel), tt_of 1 (by decide +kernel) (by decide +kernel), tt_of 227 rfl rfl⟩, rfl, by decide, by decide, by decide +kernel⟩
set_option maxRecDepth 20000 in
theorem m_X_79 : MkV TT R_X 79 y_X_makeEnclave R_X b_X_makeEnclave 7 none 5 := ⟨⟨tt_of 228 (by decide +kernel) (by decide +kernel), tt_of 230 (by decide +kernel) (by decide +kernel), ts_of (q := (y_X_makeEnclave, 6)) 8 (by decide +kernel) (by decide +kernel), tt_of 1 (by decide +kernel) (by decide +kernel), tt_of 231 rfl rfl⟩, rfl, by decide, by decide, by decide +kernel⟩
set_option maxRecDepth 20000 in
theorem m_X_160 : MkV TT R_X 160 y_X_measure R_X b_X_measure 5 (some .int) 1 := ⟨⟨tt_of 232 (by decide +kernel) (by decide +kernel), tt_of 234 (by decide +kernel) (by decide +kernel), ts_of (q := (y_X_measure, 6)) 9 (by decide +kernel) (by decide +kernel), tt_of 1 (by decide +kernel) (by decide +kernel), tt_of 235 rfl rfl⟩, rfl, by decide, by decide, by decide +kernel⟩
set_option maxRecDepth 20000 in
theorem m_X_174 : MkS TT R_X 174 y_X_mix b_X_mix 3 (some .int) 2 := ⟨⟨tt_of 236 (by decide +kernel) (by decide +kernel), tt_of 237 (by decide +kernel) (by decide +kernel), tt_of 1 (by decide +kernel) (by decide +kernel), tt_of 238 rfl rfl⟩, rfl, by decide, by decide, by decide +kernel⟩
set_option maxRecDepth 20000 in
theorem k_X_177 : Cond.constant R_X 177 668265263 ∈ TT := tt_of 239 (by decide +kernel) (by decide +kernel)
set_option maxRecDepth 20000 in
theorem m_X_164 : MkV TT R_X 164 y_X_setOwner R_X b_X_setOwner 5 none 2 := ⟨⟨tt_of 240 (by decide +kernel) (by decide +kernel), tt_of 242 (by decide +kernel) (by decide +kernel), ts_of (q := (y_X_setOwner, 6)) 10 (by decide +kernel) (by decide +kernel), tt_of 1 (by decide +kernel) (by decide +kernel), tt_of 243 rfl rfl⟩, rfl, by decide, by decide, by decide +kernel⟩
set_option maxRecDepth 20000 in
theorem m_L_50 : MkV TT R_L 50 y_X_run R_X b_X_run 5 (some .int) 3 := ⟨⟨tt_of 244 (by decide +kernel) (by decide +kernel), tt_of 245 (by decide +kernel) (by decide +kernel), tt_of 246 (by decide +kernel) (by decide +kernel), tt_of 1 (by decide +kernel) (by decide +kernel), tt_of 247 rfl rfl⟩, rfl, by decide, by decide, by decide +kernel⟩
set_option maxRecDepth 20000 in
theorem m_X_83 : MkV TT R_X 83 y_X_isThere R_X b_X_isThere 2 (some .boolean) 1 := ⟨⟨tt_of 248 (by decide +kernel) (by decide +kernel), tt_of 250 (by decide +kernel) (by decide +kernel), ts_of (q := (y_X_isThere, 6)) 11 (by decide +kernel) (by decide +kernel), tt_of 1 (by decide +kernel) (by decide +kernel), tt_of 251 rfl rfl⟩, rfl, by decide, by decide, by decide +kernel⟩
set_option maxRecDepth 20000 in
theorem m_X_114 : MkS TT R_X 114 y_X_isEnclaveNumber b_X_isEnclaveNumber 1 (some .boolean) 1 := ⟨⟨tt_of 252 (by decide +kernel) (by decide +kernel), tt_of 253 (by decide +kernel) (by decide +kernel), tt_of 1 (by decide +kernel) (by decide +kernel), tt_of 254 rfl rfl⟩, rfl, by decide, by decide, by decide +kernel⟩
set_option maxRecDepth 20000 in
theorem m_X_89 : MkV TT R_X 89 y_E_startWith R_E b_E_startWith 3 none 1 := ⟨⟨tt_of 255 (by decide +kernel) (by decide +kernel), tt_of 256 (by decide +kernel) (by decide +kernel), tt_of 257 (by decide +kernel) (by decide +kernel), tt_of 2 (by decide +kernel) (by decide +kernel), tt_of 258 rfl rfl⟩, rfl, by decide, by decide, by decide +kernel⟩
set_option maxRecDepth 20000 in
theorem m_L_54 : MkV TT R_L 54 y_X_step R_X b_X_step 6 (some .int) 2 := ⟨⟨tt_of 259 (by decide +kernel) (by decide +kernel), tt_of 260 (by decide +kernel) (by decide +kernel), tt_of 261 (by decide +kernel) (by decide +kernel), tt_of 1 (by decide +kernel) (by decide +kernel), tt_of 262 rfl rfl⟩, rfl, by decide, by decide, by decide +kernel⟩
set_option maxRecDepth 20000 in
theorem m_X_100 : MkV TT R_X 100 y_X_runsEnclave R_X b_X_runsEnclave 2 (some .boolean) 1 := ⟨⟨tt_of 263 (by decide +kernel) (by decide +kernel), tt_of 265 (by decide +kernel) (by decide +kernel), ts_of (q := (y_X_runsEnclave, 6)) 12 (by decide +kernel) (by decide +kernel), tt_of 1 (by decide +kernel) (by decide +kernel), tt_of 266 rfl rfl⟩, rfl, by decide, by decide, by decide +kernel⟩
set_option maxRecDepth 20000 in
theorem m_X_103 : MkV TT R_X 103 y_X_makeStep R_X b_X_makeStep 5 none 2 := ⟨⟨tt_of 267 (by decide +kernel) (by decide +kernel), tt_of 269 (by decide +kernel) (by decide +kernel), ts_of (q := (y_X_makeStep, 6)) 13 (by decide +kernel) (by decide +kernel), tt_of 1 (by decide +kernel) (by decide +kernel), tt_of 270 rfl rfl⟩, rfl, by decide, by decide, by decide +kernel⟩
set_option maxRecDepth 20000 in
theorem m_X_208 : MkV TT R_X 208 y_E_endWith R_E b_E_endWith 3 none 2 := ⟨⟨tt_of 271 (by decide +kernel) (by decide +kernel), tt_of 272 (by decide +kernel) (by decide +kernel), tt_of 273 (by decide +kernel) (by decide +kernel), tt_of 2 (by decide +kernel) (by decide +kernel), tt_of 274 rfl rfl⟩, rfl, by decide, by decide, by decide +kernel⟩
set_option maxRecDepth 20000 in
theorem m_X_212 : MkV TT R_X 212 y_X_doWord R_X b_X_doWord 10 (some .int) 3 := ⟨⟨tt_of 275 (by decide +kernel) (by decide +kernel), tt_of 277 (by decide +kernel) (by decide +kernel), ts_of (q := (y_X_doWord, 6)) 14 (by decide +kernel) (by decide +kernel), tt_of 1 (by decide +kernel) (by decide +kernel), tt_of 278 rfl rfl⟩, rfl, by decide, by decide, by decide +kernel⟩
set_option maxRecDepth 20000 in
theorem m_X_217 : MkV TT R_X 217 y_X_loadFor R_X b_X_loadFor 5 none 4 := ⟨⟨tt_of 279 (by decide +kernel) (by decide +kernel), tt_of 281 (by decide +kernel) (by decide +kernel), ts_of (q := (y_X_loadFor, 6)) 15 (by decide +kernel) (by decide +kernel), tt_of 1 (by decide +kernel) (by decide +kernel), tt_of 282 rfl rfl⟩, rfl, by decide, by decide, by decide +kernel⟩
set_option maxRecDepth 20000 in
theorem m_X_221 : MkV TT R_X 221 y_X_storeFor R_X b_X_storeFor 5 none 4 := ⟨⟨tt_of 283 (by decide +kernel) (by decide +kernel), tt_of 285 (by decide +kernel) (by decide +kernel), ts_of (q := (y_X_storeFor, 6)) 16 (by decide +kernel) (by decide +kernel), tt_of 1 (by decide +kernel) (by decide +kernel), tt_of 286 rfl rfl⟩, rfl, by decide, by decide, by decide +kernel⟩
set_option maxRecDepth 20000 in
theorem m_X_123 : MkV TT R_X 123 y_X_proofOf R_X b_X_proofOf 3 (some .int) 2 := ⟨⟨tt_of 287 (by decide +kernel) (by decide +kernel), tt_of 289 (by decide +kernel) (by decide +kernel), ts_of (q := (y_X_proofOf, 6)) 17 (by decide +kernel) (by decide +kernel), tt_of 1 (by decide +kernel) (by decide +kernel), tt_of 290 rfl rfl⟩, rfl, by decide, by decide, by decide +kernel⟩
set_option maxRecDepth 20000 in
theorem m_X_224 : MkV TT R_X 224 y_X_secretOf R_X b_X_secretOf 2 (some .int) 1 := ⟨⟨tt_of 291 (by decide +kernel) (by decide +kernel), tt_of 293 (by decide +kernel) (by decide +kernel), ts_of (q := (y_X_secretOf, 6)) 18 (by decide +kernel) (by decide +kernel), tt_of 1 (by decide +kernel) (by decide +kernel), tt_of 294 rfl rfl⟩, rfl, by decide, by decide, by decide +kernel⟩
set_option maxRecDepth 20000 in
theorem m_X_107 : MkV TT R_X 107 y_X_runSystem R_X b_X_runSystem 2 none 1 := ⟨⟨tt_of 295 (by decide +kernel) (by decide +kernel), tt_of 297 (by decide +kernel) (by decide +kernel), ts_of (q := (y_X_runSystem, 6)) 19 (by decide +kernel) (by decide +kernel), tt_of 1 (by decide +kernel) (by decide +kernel), tt_of 298 rfl rfl⟩, rfl, by decide, by decide, by decide +kernel⟩
set_option maxRecDepth 20000 in
theorem m_L_59 : MkV TT R_L 59 y_X_interrupt R_X b_X_interrupt 4 (some .int) 1 := ⟨⟨tt_of 299 (by decide +kernel) (by decide +kernel), tt_of 300 (by decide +kernel) (by decide +kernel), tt_of 301 (by decide +kernel) (by decide +kernel), tt_of 1 (by decide +kernel) (by decide +kernel), tt_of 302 rfl rfl⟩, rfl, by decide, by decide, by decide +kernel⟩
set_option maxRecDepth 20000 in
theorem m_L_64 : MkV TT R_L 64 y_X_destroy R_X b_X_destroy 3 (some .int) 2 := ⟨⟨tt_of 303 (by decide +kernel) (by decide +kernel), tt_of 304 (by decide +kernel) (by decide +kernel), tt_of 305 (by decide +kernel) (by decide +kernel), tt_of 1 (by decide +kernel) (by decide +kernel), tt_of 306 rfl rfl⟩, rfl, by decide, by decide, by decide +kernel⟩
set_option maxRecDepth 20000 in
theorem m_X_110 : MkV TT R_X 110 y_X_removeEnclave R_X b_X_removeEnclave 4 none 1 := ⟨⟨tt_of 307 (by decide +kernel) (by decide +kernel), tt_of 309 (by decide +kernel) (by decide +kernel), ts_of (q := (y_X_removeEnclave, 6)) 20 (by decide +kernel) (by decide +kernel), tt_of 1 (by decide +kernel) (by decide +kernel), tt_of 310 rfl rfl⟩, rfl, by decide, by decide, by decide +kernel⟩
set_option maxRecDepth 20000 in
theorem m_L_68 : MkV TT R_L 68 y_X_state R_X b_X_state 2 (some .int) 1 := ⟨⟨tt_of 311 (by decide +kernel) (by decide +kernel), tt_of 312 (by decide +kernel) (by decide +kernel), tt_of 313 (by decide +kernel) (by decide +kernel), tt_of 1 (by decide +kernel) (by decide +kernel), tt_of 314 rfl rfl⟩, rfl, by decide, by decide, by decide +kernel⟩
set_option maxRecDepth 20000 in
theorem m_L_72 : MkV TT R_L 72 y_X_released R_X b_X_released 4 (some .long) 1 := ⟨⟨tt_of 315 (by decide +kernel) (by decide +kernel), tt_of 316 (by decide +kernel) (by decide +kernel), tt_of 317 (by decide +kernel) (by decide +kernel), tt_of 1 (by decide +kernel) (by decide +kernel), tt_of 318 rfl rfl⟩, rfl, by decide, by decide, by decide +kernel⟩
set_option maxRecDepth 20000 in
theorem m_L_77 : MkV TT R_L 77 y_X_measurement R_X b_X_measurement 2 (some .long) 1 := ⟨⟨tt_of 319 (by decide +kernel) (by decide +kernel), tt_of 320 (by decide +kernel) (by decide +kernel), tt_of 321 (by decide +kernel) (by decide +kernel), tt_of 1 (by decide +kernel) (by decide +kernel), tt_of 322 rfl rfl⟩, rfl, by decide, by decide, by decide +kernel⟩
set_option maxRecDepth 20000 in
theorem m_L_81 : MkV TT R_L 81 y_X_verify R_X b_X_verify 4 (some .boolean) 3 := ⟨⟨tt_of 323 (by decide +kernel) (by decide +kernel), tt_of 324 (by decide +kernel) (by decide +kernel), tt_of 325 (by decide +kernel) (by decide +kernel), tt_of 1 (by decide +kernel) (by decide +kernel), tt_of 326 rfl rfl⟩, rfl, by decide, by decide, by decide +kernel⟩
set_option maxRecDepth 20000 in
theorem m_L_85 : MkV TT R_L 85 y_X_running R_X b_X_running 2 (some .int) 1 := ⟨⟨tt_of 327 (by decide +kernel) (by decide +kernel), tt_of 328 (by decide +kernel) (by decide +kernel), tt_of 329 (by decide +kernel) (by decide +kernel), tt_of 1 (by decide +kernel) (by decide +kernel), tt_of 330 rfl rfl⟩, rfl, by decide, by decide, by decide +kernel⟩
set_option maxRecDepth 20000 in
theorem m_L_89 : MkV TT R_L 89 y_X_owner R_X b_X_owner 2 (some .int) 1 := ⟨⟨tt_of 331 (by decide +kernel) (by decide +kernel), tt_of 332 (by decide +kernel) (by decide +kernel), tt_of 333 (by decide +kernel) (by decide +kernel), tt_of 1 (by decide +kernel) (by decide +kernel), tt_of 334 rfl rfl⟩, rfl, by decide, by decide, by decide +kernel⟩
set_option maxRecDepth 20000 in
theorem m_L_93 : MkV TT R_L 93 y_X_guard R_X b_X_guard 5 (some .int) 3 := ⟨⟨tt_of 335 (by decide +kernel) (by decide +kernel), tt_of 336 (by decide +kernel) (by decide +kernel), tt_of 337 (by decide +kernel) (by decide +kernel), tt_of 1 (by decide +kernel) (by decide +kernel), tt_of 338 rfl rfl⟩, rfl, by decide, by decide, by decide +kernel⟩
set_option maxRecDepth 20000 in
theorem m_L_9 : MkS TT R_L 9 y_L_cell b_L_cell 2 (some .int) 2 := ⟨⟨tt_of 339 (by decide +kernel) (by decide +kernel), tt_of 340 (by decide +kernel) (by decide +kernel), tt_of 0 (by decide +kernel) (by decide +kernel), tt_of 341 rfl rfl⟩, rfl, by decide, by decide, by decide +kernel⟩
set_option maxRecDepth 20000 in
theorem m_L_20 : MkI TT R_L 20 y_M_init b_M_init 3 1 := ⟨⟨tt_of 344 (by decide +kernel) (by decide +kernel), tt_of 345 (by decide +kernel) (by decide +kernel), tt_of 5 (by decide +kernel) (by decide +kernel), tt_of 346 rfl rfl⟩, rfl, by decide, by decide, by decide +kernel⟩
set_option maxRecDepth 20000 in
theorem f_M_49 : Fk clX TT R_M 49 4 0 true (.int) := ⟨R_M, F_M, 15, t_M, rfl, u_M, by decide, tt_of 348 (by decide +kernel) (by decide +kernel), rfl, by decide +kernel, t_M_ok, n_M⟩
set_option maxRecDepth 20000 in
theorem f_M_7 : Fk clX TT R_M 7 4 1 true (.array .int) := ⟨R_M, F_M, 15, t_M, rfl, u_M, by decide, tt_of 349 (by decide +kernel) (by decide +kernel), rfl, by decide +kernel, t_M_ok, n_M⟩
set_option maxRecDepth 20000 in
theorem f_M_13 : Fk clX TT R_M 13 4 2 true (.array .int) := ⟨R_M, F_M, 15, t_M, rfl, u_M, by decide, tt_of 350 (by decide +kernel) (by decide +kernel), rfl, by decide +kernel, t_M_ok, n_M⟩
set_option maxRecDepth 20000 in
theorem f_M_16 : Fk clX TT R_M 16 4 3 true (.array .int) := ⟨R_M, F_M, 15, t_M, rfl, u_M, by decide, tt_of 351 (by decide +kernel) (by decide +kernel), rfl, by decide +kernel, t_M_ok, n_M⟩
set_option maxRecDepth 20000 in
theorem f_M_19 : Fk clX TT R_M 19 4 4 true (.array .int) := ⟨R_M, F_M, 15, t_M, rfl, u_M, by decide, tt_of 352 (by decide +kernel) (by decide +kernel), rfl, by decide +kernel, t_M_ok, n_M⟩
set_option maxRecDepth 20000 in
theorem f_M_75 : Fk clX TT R_M 75 4 5 false (.int) := ⟨R_M, F_M, 15, t_M, rfl, u_M, by decide, tt_of 353 (by decide +kernel) (by decide +kernel), rfl, by decide +kernel, t_M_ok, n_M⟩
set_option maxRecDepth 20000 in
theorem f_M_22 : Fk clX TT R_M 22 4 6 true (.array .int) := ⟨R_M, F_M, 15, t_M, rfl, u_M, by decide, tt_of 354 (by decide +kernel) (by decide +kernel), rfl, by decide +kernel, t_M_ok, n_M⟩
set_option maxRecDepth 20000 in
theorem f_M_25 : Fk clX TT R_M 25 4 7 true (.array .int) := ⟨R_M, F_M, 15, t_M, rfl, u_M, by decide, tt_of 355 (by decide +kernel) (by decide +kernel), rfl, by decide +kernel, t_M_ok, n_M⟩
set_option maxRecDepth 20000 in
theorem f_M_28 : Fk clX TT R_M 28 4 8 true (.array .int) := ⟨R_M, F_M, 15, t_M, rfl, u_M, by decide, tt_of 356 (by decide +kernel) (by decide +kernel), rfl, by decide +kernel, t_M_ok, n_M⟩
set_option maxRecDepth 20000 in
theorem f_M_31 : Fk clX TT R_M 31 4 9 true (.array .int) := ⟨R_M, F_M, 15, t_M, rfl, u_M, by decide, tt_of 357 (by decide +kernel) (by decide +kernel), rfl, by decide +kernel, t_M_ok, n_M⟩
set_option maxRecDepth 20000 in
theorem f_M_34 : Fk clX TT R_M 34 4 10 true (.array .int) := ⟨R_M, F_M, 15, t_M, rfl, u_M, by decide, tt_of 358 (by decide +kernel) (by decide +kernel), rfl, by decide +kernel, t_M_ok, n_M⟩
set_option maxRecDepth 20000 in
theorem f_M_37 : Fk clX TT R_M 37 4 11 true (.array .int) := ⟨R_M, F_M, 15, t_M, rfl, u_M, by decide, tt_of 359 (by decide +kernel) (by decide +kernel), rfl, by decide +kernel, t_M_ok, n_M⟩
set_option maxRecDepth 20000 in
theorem f_M_40 : Fk clX TT R_M 40 4 12 true (.array .int) := ⟨R_M, F_M, 15, t_M, rfl, u_M, by decide, tt_of 360 (by decide +kernel) (by decide +kernel), rfl, by decide +kernel, t_M_ok, n_M⟩
set_option maxRecDepth 20000 in
theorem f_M_43 : Fk clX TT R_M 43 4 13 true (.array .int) := ⟨R_M, F_M, 15, t_M, rfl, u_M, by decide, tt_of 361 (by decide +kernel) (by decide +kernel), rfl, by decide +kernel, t_M_ok, n_M⟩
set_option maxRecDepth 20000 in
theorem f_M_46 : Fk clX TT R_M 46 4 14 true (.array .int) := ⟨R_M, F_M, 15, t_M, rfl, u_M, by decide, tt_of 362 (by decide +kernel) (by decide +kernel), rfl, by decide +kernel, t_M_ok, n_M⟩
set_option maxRecDepth 20000 in
theorem m_L_25 : MkV TT R_L 25 y_M_load R_M b_M_load 3 (some .long) 2 := ⟨⟨tt_of 394 (by decide +kernel) (by decide +kernel), tt_of 395 (by decide +kernel) (by decide +kernel), tt_of 396 (by decide +kernel) (by decide +kernel), tt_of 5 (by decide +kernel) (by decide +kernel), tt_of 397 rfl rfl⟩, rfl, by decide, by decide, by decide +kernel⟩
set_option maxRecDepth 20000 in
theorem m_M_66 : MkV TT R_M 66 y_M_busy R_M b_M_busy 2 (some .boolean) 1 := ⟨⟨tt_of 398 (by decide +kernel) (by decide +kernel), tt_of 400 (by decide +kernel) (by decide +kernel), ts_of (q := (y_M_busy, 15)) 21 (by decide +kernel) (by decide +kernel), tt_of 5 (by decide +kernel) (by decide +kernel), tt_of 401 rfl rfl⟩, rfl, by decide, by decide, by decide +kernel⟩
set_option maxRecDepth 20000 in
theorem m_M_58 : MkS TT R_M 58 y_M_processor b_M_processor 1 (some .boolean) 1 := ⟨⟨tt_of 402 (by decide +kernel) (by decide +kernel), tt_of 403 (by decide +kernel) (by decide +kernel), tt_of 5 (by decide +kernel) (by decide +kernel), tt_of 404 rfl rfl⟩, rfl, by decide, by decide, by decide +kernel⟩
set_option maxRecDepth 20000 in
theorem k_M_69 : Cond.constantLong R_M 69 1099511627776 ∈ TT := tt_of 405 (by decide +kernel) (by decide +kernel)
set_option maxRecDepth 20000 in
theorem m_M_71 : MkV TT R_M 71 y_M_allowed R_M b_M_allowed 5 (some .boolean) 3 := ⟨⟨tt_of 406 (by decide +kernel) (by decide +kernel), tt_of 408 (by decide +kernel) (by decide +kernel), ts_of (q := (y_M_allowed, 15)) 22 (by decide +kernel) (by decide +kernel), tt_of 5 (by decide +kernel) (by decide +kernel), tt_of 409 rfl rfl⟩, rfl, by decide, by decide, by decide +kernel⟩
set_option maxRecDepth 20000 in
theorem m_M_62 : MkV TT R_M 62 y_M_isShared R_M b_M_isShared 4 (some .boolean) 2 := ⟨⟨tt_of 410 (by decide +kernel) (by decide +kernel), tt_of 412 (by decide +kernel) (by decide +kernel), ts_of (q := (y_M_isShared, 15)) 23 (by decide +kernel) (by decide +kernel), tt_of 5 (by decide +kernel) (by decide +kernel), tt_of 413 rfl rfl⟩, rfl, by decide, by decide, by decide +kernel⟩
set_option maxRecDepth 20000 in
theorem k_M_78 : Cond.constantLong R_M 78 1099511627777 ∈ TT := tt_of 414 (by decide +kernel) (by decide +kernel)
set_option maxRecDepth 20000 in
theorem m_L_30 : MkV TT R_L 30 y_M_store R_M b_M_store 4 (some .int) 3 := ⟨⟨tt_of 415 (by decide +kernel) (by decide +kernel), tt_of 416 (by decide +kernel) (by decide +kernel), tt_of 417 (by decide +kernel) (by decide +kernel), tt_of 5 (by decide +kernel) (by decide +kernel), tt_of 418 rfl rfl⟩, rfl, by decide, by decide, by decide +kernel⟩
set_option maxRecDepth 20000 in
theorem m_L_35 : MkV TT R_L 35 y_M_denied R_M b_M_denied 1 (some .int) 0 := ⟨⟨tt_of 419 (by decide +kernel) (by decide +kernel), tt_of 420 (by decide +kernel) (by decide +kernel), tt_of 421 (by decide +kernel) (by decide +kernel), tt_of 5 (by decide +kernel) (by decide +kernel), tt_of 422 rfl rfl⟩, rfl, by decide, by decide, by decide +kernel⟩
set_option maxRecDepth 20000 in
theorem m_L_40 : MkV TT R_L 40 y_M_give R_M b_M_give 4 (some .boolean) 3 := ⟨⟨tt_of 423 (by decide +kernel) (by decide +kernel), tt_of 424 (by decide +kernel) (by decide +kernel), tt_of 425 (by decide +kernel) (by decide +kernel), tt_of 5 (by decide +kernel) (by decide +kernel), tt_of 426 rfl rfl⟩, rfl, by decide, by decide, by decide +kernel⟩
set_option maxRecDepth 20000 in
theorem m_L_44 : MkV TT R_L 44 y_M_register R_M b_M_register 3 (some .long) 2 := ⟨⟨tt_of 427 (by decide +kernel) (by decide +kernel), tt_of 428 (by decide +kernel) (by decide +kernel), tt_of 429 (by decide +kernel) (by decide +kernel), tt_of 5 (by decide +kernel) (by decide +kernel), tt_of 430 rfl rfl⟩, rfl, by decide, by decide, by decide +kernel⟩
set_option maxRecDepth 20000 in
theorem m_L_49 : MkV TT R_L 49 y_M_create R_M b_M_create 8 (some .int) 5 := ⟨⟨tt_of 431 (by decide +kernel) (by decide +kernel), tt_of 432 (by decide +kernel) (by decide +kernel), tt_of 433 (by decide +kernel) (by decide +kernel), tt_of 5 (by decide +kernel) (by decide +kernel), tt_of 434 rfl rfl⟩, rfl, by decide, by decide, by decide +kernel⟩
set_option maxRecDepth 20000 in
theorem m_M_80 : MkV TT R_M 80 y_M_wrongRange R_M b_M_wrongRange 5 (some .boolean) 4 := ⟨⟨tt_of 435 (by decide +kernel) (by decide +kernel), tt_of 437 (by decide +kernel) (by decide +kernel), ts_of (q := (y_M_wrongRange, 15)) 24 (by decide +kernel) (by decide +kernel), tt_of 5 (by decide +kernel) (by decide +kernel), tt_of 438 rfl rfl⟩, rfl, by decide, by decide, by decide +kernel⟩
set_option maxRecDepth 20000 in
theorem m_M_84 : MkV TT R_M 84 y_M_measure R_M b_M_measure 6 (some .int) 3 := ⟨⟨tt_of 439 (by decide +kernel) (by decide +kernel), tt_of 441 (by decide +kernel) (by decide +kernel), ts_of (q := (y_M_measure, 15)) 25 (by decide +kernel) (by decide +kernel), tt_of 5 (by decide +kernel) (by decide +kernel), tt_of 442 rfl rfl⟩, rfl, by decide, by decide, by decide +kernel⟩
set_option maxRecDepth 20000 in
theorem m_M_54 : MkS TT R_M 54 y_M_mix b_M_mix 3 (some .int) 2 := ⟨⟨tt_of 443 (by decide +kernel) (by decide +kernel), tt_of 444 (by decide +kernel) (by decide +kernel), tt_of 5 (by decide +kernel) (by decide +kernel), tt_of 445 rfl rfl⟩, rfl, by decide, by decide, by decide +kernel⟩
set_option maxRecDepth 20000 in
theorem k_M_53 : Cond.constant R_M 53 668265263 ∈ TT := tt_of 446 (by decide +kernel) (by decide +kernel)
set_option maxRecDepth 20000 in
theorem m_L_53 : MkV TT R_L 53 y_M_run R_M b_M_run 5 (some .int) 3 := ⟨⟨tt_of 447 (by decide +kernel) (by decide +kernel), tt_of 448 (by decide +kernel) (by decide +kernel), tt_of 449 (by decide +kernel) (by decide +kernel), tt_of 5 (by decide +kernel) (by decide +kernel), tt_of 450 rfl rfl⟩, rfl, by decide, by decide, by decide +kernel⟩
set_option maxRecDepth 20000 in
theorem m_M_88 : MkV TT R_M 88 y_M_there R_M b_M_there 2 (some .boolean) 1 := ⟨⟨tt_of 451 (by decide +kernel) (by decide +kernel), tt_of 453 (by decide +kernel) (by decide +kernel), ts_of (q := (y_M_there, 15)) 26 (by decide +kernel) (by decide +kernel), tt_of 5 (by decide +kernel) (by decide +kernel), tt_of 454 rfl rfl⟩, rfl, by decide, by decide, by decide +kernel⟩
set_option maxRecDepth 20000 in
theorem m_L_58 : MkV TT R_L 58 y_M_step R_M b_M_step 4 (some .int) 2 := ⟨⟨tt_of 455 (by decide +kernel) (by decide +kernel), tt_of 456 (by decide +kernel) (by decide +kernel), tt_of 457 (by decide +kernel) (by decide +kernel), tt_of 5 (by decide +kernel) (by decide +kernel), tt_of 458 rfl rfl⟩, rfl, by decide, by decide, by decide +kernel⟩
set_option maxRecDepth 20000 in
theorem m_M_106 : MkV TT R_M 106 y_M_once R_M b_M_once 10 none 1 := ⟨⟨tt_of 459 (by decide +kernel) (by decide +kernel), tt_of 461 (by decide +kernel) (by decide +kernel), ts_of (q := (y_M_once, 15)) 27 (by decide +kernel) (by decide +kernel), tt_of 5 (by decide +kernel) (by decide +kernel), tt_of 462 rfl rfl⟩, rfl, by decide, by decide, by decide +kernel⟩
set_option maxRecDepth 20000 in
theorem m_M_95 : MkV TT R_M 95 y_M_end R_M b_M_end 4 none 3 := ⟨⟨tt_of 463 (by decide +kernel) (by decide +kernel), tt_of 465 (by decide +kernel) (by decide +kernel), ts_of (q := (y_M_end, 15)) 28 (by decide +kernel) (by decide +kernel), tt_of 5 (by decide +kernel) (by decide +kernel), tt_of 466 rfl rfl⟩, rfl, by decide, by decide, by decide +kernel⟩
set_option maxRecDepth 20000 in
theorem m_M_91 : MkV TT R_M 91 y_M_leave R_M b_M_leave 3 none 2 := ⟨⟨tt_of 467 (by decide +kernel) (by decide +kernel), tt_of 469 (by decide +kernel) (by decide +kernel), ts_of (q := (y_M_leave, 15)) 29 (by decide +kernel) (by decide +kernel), tt_of 5 (by decide +kernel) (by decide +kernel), tt_of 470 rfl rfl⟩, rfl, by decide, by decide, by decide +kernel⟩
set_option maxRecDepth 20000 in
theorem m_M_99 : MkV TT R_M 99 y_M_work R_M b_M_work 8 none 6 := ⟨⟨tt_of 471 (by decide +kernel) (by decide +kernel), tt_of 473 (by decide +kernel) (by decide +kernel), ts_of (q := (y_M_work, 15)) 30 (by decide +kernel) (by decide +kernel), tt_of 5 (by decide +kernel) (by decide +kernel), tt_of 474 rfl rfl⟩, rfl, by decide, by decide, by decide +kernel⟩
set_option maxRecDepth 20000 in
theorem m_M_103 : MkV TT R_M 103 y_M_proof R_M b_M_proof 4 (some .int) 2 := ⟨⟨tt_of 475 (by decide +kernel) (by decide +kernel), tt_of 477 (by decide +kernel) (by decide +kernel), ts_of (q := (y_M_proof, 15)) 31 (by decide +kernel) (by decide +kernel), tt_of 5 (by decide +kernel) (by decide +kernel), tt_of 478 rfl rfl⟩, rfl, by decide, by decide, by decide +kernel⟩
set_option maxRecDepth 20000 in
theorem m_L_63 : MkV TT R_L 63 y_M_interrupt R_M b_M_interrupt 3 (some .int) 1 := ⟨⟨tt_of 479 (by decide +kernel) (by decide +kernel), tt_of 480 (by decide +kernel) (by decide +kernel), tt_of 481 (by decide +kernel) (by decide +kernel), tt_of 5 (by decide +kernel) (by decide +kernel), tt_of 482 rfl rfl⟩, rfl, by decide, by decide, by decide +kernel⟩
set_option maxRecDepth 20000 in
theorem m_L_67 : MkV TT R_L 67 y_M_destroy R_M b_M_destroy 4 (some .int) 2 := ⟨⟨tt_of 483 (by decide +kernel) (by decide +kernel), tt_of 484 (by decide +kernel) (by decide +kernel), tt_of 485 (by decide +kernel) (by decide +kernel), tt_of 5 (by decide +kernel) (by decide +kernel), tt_of 486 rfl rfl⟩, rfl, by decide, by decide, by decide +kernel⟩
set_option maxRecDepth 20000 in
theorem m_L_71 : MkV TT R_L 71 y_M_state R_M b_M_state 2 (some .int) 1 := ⟨⟨tt_of 487 (by decide +kernel) (by decide +kernel), tt_of 488 (by decide +kernel) (by decide +kernel), tt_of 489 (by decide +kernel) (by decide +kernel), tt_of 5 (by decide +kernel) (by decide +kernel), tt_of 490 rfl rfl⟩, rfl, by decide, by decide, by decide +kernel⟩
set_option maxRecDepth 20000 in
theorem m_L_76 : MkV TT R_L 76 y_M_released R_M b_M_released 2 (some .long) 1 := ⟨⟨tt_of 491 (by decide +kernel) (by decide +kernel), tt_of 492 (by decide +kernel) (by decide +kernel), tt_of 493 (by decide +kernel) (by decide +kernel), tt_of 5 (by decide +kernel) (by decide +kernel), tt_of 494 rfl rfl⟩, rfl, by decide, by decide, by decide +kernel⟩
set_option maxRecDepth 20000 in
theorem m_L_80 : MkV TT R_L 80 y_M_measurement R_M b_M_measurement 2 (some .long) 1 := ⟨⟨tt_of 495 (by decide +kernel) (by decide +kernel), tt_of 496 (by decide +kernel) (by decide +kernel), tt_of 497 (by decide +kernel) (by decide +kernel), tt_of 5 (by decide +kernel) (by decide +kernel), tt_of 498 rfl rfl⟩, rfl, by decide, by decide, by decide +kernel⟩
set_option maxRecDepth 20000 in
theorem m_L_84 : MkV TT R_L 84 y_M_verify R_M b_M_verify 4 (some .boolean) 3 := ⟨⟨tt_of 499 (by decide +kernel) (by decide +kernel), tt_of 500 (by decide +kernel) (by decide +kernel), tt_of 501 (by decide +kernel) (by decide +kernel), tt_of 5 (by decide +kernel) (by decide +kernel), tt_of 502 rfl rfl⟩, rfl, by decide, by decide, by decide +kernel⟩
set_option maxRecDepth 20000 in
theorem m_L_88 : MkV TT R_L 88 y_M_running R_M b_M_running 2 (some .int) 1 := ⟨⟨tt_of 503 (by decide +kernel) (by decide +kernel), tt_of 504 (by decide +kernel) (by decide +kernel), tt_of 505 (by decide +kernel) (by decide +kernel), tt_of 5 (by decide +kernel) (by decide +kernel), tt_of 506 rfl rfl⟩, rfl, by decide, by decide, by decide +kernel⟩
set_option maxRecDepth 20000 in
theorem m_L_92 : MkV TT R_L 92 y_M_owner R_M b_M_owner 2 (some .int) 1 := ⟨⟨tt_of 507 (by decide +kernel) (by decide +kernel), tt_of 508 (by decide +kernel) (by decide +kernel), tt_of 509 (by decide +kernel) (by decide +kernel), tt_of 5 (by decide +kernel) (by decide +kernel), tt_of 510 rfl rfl⟩, rfl, by decide, by decide, by decide +kernel⟩
set_option maxRecDepth 20000 in
theorem m_L_96 : MkV TT R_L 96 y_M_guard R_M b_M_guard 10 (some .int) 3 := ⟨⟨tt_of 511 (by decide +kernel) (by decide +kernel), tt_of 512 (by decide +kernel) (by decide +kernel), tt_of 513 (by decide +kernel) (by decide +kernel), tt_of 5 (by decide +kernel) (by decide +kernel), tt_of 514 rfl rfl⟩, rfl, by decide, by decide, by decide +kernel⟩
set_option maxRecDepth 20000 in
theorem m_M_110 : MkS TT R_M 110 y_M_shown b_M_shown 4 (some .int) 4 := ⟨⟨tt_of 515 (by decide +kernel) (by decide +kernel), tt_of 516 (by decide +kernel) (by decide +kernel), tt_of 5 (by decide +kernel) (by decide +kernel), tt_of 517 rfl rfl⟩, rfl, by decide, by decide, by decide +kernel⟩
