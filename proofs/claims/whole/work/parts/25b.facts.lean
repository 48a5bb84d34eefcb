set_option maxRecDepth 20000 in
theorem oi_X : Cond.methodLink R_X 1 objectInit ∈ TT := tt_of 11 (by decide +kernel) (by decide +kernel)
set_option maxRecDepth 20000 in
theorem in_X : Cond.instantiable R_X 6 ∈ TT := tt_of 7 (by decide +kernel) (by decide +kernel)
set_option maxRecDepth 20000 in
theorem iz_X : Cond.initialized R_X ∈ TT := tt_of 1 (by decide +kernel) (by decide +kernel)
set_option maxRecDepth 20000 in
theorem oi_G : Cond.methodLink R_G 3 objectInit ∈ TT := tt_of 71 (by decide +kernel) (by decide +kernel)
set_option maxRecDepth 20000 in
theorem in_G : Cond.instantiable R_G 3 ∈ TT := tt_of 67 (by decide +kernel) (by decide +kernel)
set_option maxRecDepth 20000 in
theorem iz_G : Cond.initialized R_G ∈ TT := tt_of 4 (by decide +kernel) (by decide +kernel)
set_option maxRecDepth 20000 in
theorem oi_P : Cond.methodLink R_P 3 objectInit ∈ TT := tt_of 64 (by decide +kernel) (by decide +kernel)
set_option maxRecDepth 20000 in
theorem in_P : Cond.instantiable R_P 3 ∈ TT := tt_of 60 (by decide +kernel) (by decide +kernel)
set_option maxRecDepth 20000 in
theorem iz_P : Cond.initialized R_P ∈ TT := tt_of 3 (by decide +kernel) (by decide +kernel)
set_option maxRecDepth 20000 in
theorem oi_E : Cond.methodLink R_E 3 objectInit ∈ TT := tt_of 20 (by decide +kernel) (by decide +kernel)
set_option maxRecDepth 20000 in
theorem in_E : Cond.instantiable R_E 9 ∈ TT := tt_of 16 (by decide +kernel) (by decide +kernel)
set_option maxRecDepth 20000 in
theorem iz_E : Cond.initialized R_E ∈ TT := tt_of 2 (by decide +kernel) (by decide +kernel)
set_option maxRecDepth 20000 in
theorem oi_M : Cond.methodLink R_M 1 objectInit ∈ TT := tt_of 347 (by decide +kernel) (by decide +kernel)
set_option maxRecDepth 20000 in
theorem in_M : Cond.instantiable R_M 15 ∈ TT := tt_of 343 (by decide +kernel) (by decide +kernel)
set_option maxRecDepth 20000 in
theorem iz_M : Cond.initialized R_M ∈ TT := tt_of 5 (by decide +kernel) (by decide +kernel)
set_option maxRecDepth 20000 in
theorem oi_m : Cond.instanceMethod objectInit ∈ TT := tt_of 12 (by decide +kernel) (by decide +kernel)
set_option maxRecDepth 20000 in
theorem oi_c : Cond.code objectInit ⟨#[0xb1]⟩ 1 none ∈ TT := tt_of 13 rfl rfl
set_option maxRecDepth 20000 in
theorem ac_i : Cond.arrayClass .int ∈ TT := tt_of 57 (by decide +kernel) (by decide +kernel)
set_option maxRecDepth 20000 in
theorem cl_L_7 : Cond.classLink R_L 7 R_X ∈ TT := tt_of 6 (by decide +kernel) (by decide +kernel)
set_option maxRecDepth 20000 in
theorem cl_X_20 : Cond.classLink R_X 20 R_E ∈ TT := tt_of 14 (by decide +kernel) (by decide +kernel)
set_option maxRecDepth 20000 in
theorem cl_X_27 : Cond.classLink R_X 27 R_P ∈ TT := tt_of 58 (by decide +kernel) (by decide +kernel)
set_option maxRecDepth 20000 in
theorem cl_P_15 : Cond.classLink R_P 15 R_G ∈ TT := tt_of 65 (by decide +kernel) (by decide +kernel)
set_option maxRecDepth 20000 in
theorem cl_L_18 : Cond.classLink R_L 18 R_M ∈ TT := tt_of 342 (by decide +kernel) (by decide +kernel)
