def lwG : List Cond := lw_tbl.filter goodWord
theorem inG {w : Cond} (h : w ∈ lw_tbl) (hg : goodWord w = true) : w ∈ lwG := List.mem_filter.mpr ⟨h, hg⟩
theorem outG {w : Cond} (h : w ∈ lwG) : w ∈ lw_tbl := (List.mem_filter.mp h).1
theorem gdG {w : Cond} (h : w ∈ lwG) : goodWord w = true := (List.mem_filter.mp h).2
theorem m_in_L : Cond.initialized RL ∈ lwG := inG (List.mem_append_right _ (List.mem_of_getElem? (i := 0) (by decide +kernel))) rfl
theorem m_in_X5 : Cond.initialized RX5 ∈ lwG := inG (List.mem_append_right _ (List.mem_of_getElem? (i := 1) (by decide +kernel))) rfl
theorem m_in_X2 : Cond.initialized RX2 ∈ lwG := inG (List.mem_append_right _ (List.mem_of_getElem? (i := 2) (by decide +kernel))) rfl
theorem m_in_X3 : Cond.initialized RX3 ∈ lwG := inG (List.mem_append_right _ (List.mem_of_getElem? (i := 3) (by decide +kernel))) rfl
theorem m_in_X1 : Cond.initialized RX1 ∈ lwG := inG (List.mem_append_right _ (List.mem_of_getElem? (i := 4) (by decide +kernel))) rfl
theorem m_in_X4 : Cond.initialized RX4 ∈ lwG := inG (List.mem_append_right _ (List.mem_of_getElem? (i := 5) (by decide +kernel))) rfl
theorem m_in_X6 : Cond.initialized RX6 ∈ lwG := inG (List.mem_append_right _ (List.mem_of_getElem? (i := 6) (by decide +kernel))) rfl
theorem m_in_J6 : Cond.initialized RJ6 ∈ lwG := inG (List.mem_append_right _ (List.mem_of_getElem? (i := 7) (by decide +kernel))) rfl
theorem m_in_X0 : Cond.initialized RX0 ∈ lwG := inG (List.mem_append_right _ (List.mem_of_getElem? (i := 8) (by decide +kernel))) rfl
theorem m_in_J9 : Cond.initialized RJ9 ∈ lwG := inG (List.mem_append_right _ (List.mem_of_getElem? (i := 9) (by decide +kernel))) rfl
theorem m_in_J10 : Cond.initialized RJ10 ∈ lwG := inG (List.mem_append_right _ (List.mem_of_getElem? (i := 10) (by decide +kernel))) rfl
theorem m_cl_L_7 : Cond.classLink RL 7 RX5 ∈ lwG := inG (List.mem_append_right _ (List.mem_of_getElem? (i := 11) (by decide +kernel))) rfl
theorem m_ib_X5 : Cond.instantiable RX5 4 ∈ lwG := inG (List.mem_append_right _ (List.mem_of_getElem? (i := 12) (by decide +kernel))) rfl
theorem m_ml_L_9 : Cond.methodLink RL 9 yX5_init ∈ lwG := inG (List.mem_append_right _ (List.mem_of_getElem? (i := 13) (by decide +kernel))) rfl
theorem m_im_X5_init : Cond.instanceMethod yX5_init ∈ lwG := inG (List.mem_append_right _ (List.mem_of_getElem? (i := 14) (by decide +kernel))) rfl
set_option maxRecDepth 20000 in
theorem m_co_X5_init : Cond.code yX5_init cX5_init 1 none ∈ lwG := inG (List.mem_append_right _ (List.mem_of_getElem? (i := 15) rfl)) rfl
theorem m_ml_X5_3 : Cond.methodLink RX5 3 objectInit ∈ lwG := inG (List.mem_append_right _ (List.mem_of_getElem? (i := 16) (by decide +kernel))) rfl
theorem m_im_objectInit : Cond.instanceMethod objectInit ∈ lwG := inG (List.mem_append_right _ (List.mem_of_getElem? (i := 17) (by decide +kernel))) rfl
set_option maxRecDepth 20000 in
theorem m_co_objectInit : Cond.code objectInit ⟨#[0xb1]⟩ 1 none ∈ lwG := inG (List.mem_append_right _ (List.mem_of_getElem? (i := 18) rfl)) rfl
theorem m_cl_X5_9 : Cond.classLink RX5 9 RX2 ∈ lwG := inG (List.mem_append_right _ (List.mem_of_getElem? (i := 19) (by decide +kernel))) rfl
theorem m_ib_X2 : Cond.instantiable RX2 2 ∈ lwG := inG (List.mem_append_right _ (List.mem_of_getElem? (i := 20) (by decide +kernel))) rfl
theorem m_ml_X5_11 : Cond.methodLink RX5 11 yX2_init ∈ lwG := inG (List.mem_append_right _ (List.mem_of_getElem? (i := 21) (by decide +kernel))) rfl
theorem m_im_X2_init : Cond.instanceMethod yX2_init ∈ lwG := inG (List.mem_append_right _ (List.mem_of_getElem? (i := 22) (by decide +kernel))) rfl
set_option maxRecDepth 20000 in
theorem m_co_X2_init : Cond.code yX2_init cX2_init 1 none ∈ lwG := inG (List.mem_append_right _ (List.mem_of_getElem? (i := 23) rfl)) rfl
theorem m_ml_X2_3 : Cond.methodLink RX2 3 objectInit ∈ lwG := inG (List.mem_append_right _ (List.mem_of_getElem? (i := 24) (by decide +kernel))) rfl
theorem m_ml_X2_15 : Cond.methodLink RX2 15 yX2_become ∈ lwG := inG (List.mem_append_right _ (List.mem_of_getElem? (i := 25) (by decide +kernel))) rfl
theorem m_im_X2_become : Cond.instanceMethod yX2_become ∈ lwG := inG (List.mem_append_right _ (List.mem_of_getElem? (i := 26) (by decide +kernel))) rfl
theorem m_se_X2_become : Cond.selects yX2_become.cls yX2_become yX2_become ∈ lwG := inG (List.mem_append_right _ (List.mem_of_getElem? (i := 27) (by decide +kernel))) rfl
set_option maxRecDepth 20000 in
theorem m_co_X2_become : Cond.code yX2_become cX2_become 3 none ∈ lwG := inG (List.mem_append_right _ (List.mem_of_getElem? (i := 28) rfl)) rfl
theorem m_ml_X2_23 : Cond.methodLink RX2 23 yX2_of ∈ lwG := inG (List.mem_append_right _ (List.mem_of_getElem? (i := 29) (by decide +kernel))) rfl
theorem m_im_X2_of : Cond.instanceMethod yX2_of ∈ lwG := inG (List.mem_append_right _ (List.mem_of_getElem? (i := 30) (by decide +kernel))) rfl
theorem m_se_X2_of : Cond.selects yX2_of.cls yX2_of yX2_of ∈ lwG := inG (List.mem_append_right _ (List.mem_of_getElem? (i := 31) (by decide +kernel))) rfl
set_option maxRecDepth 20000 in
theorem m_co_X2_of : Cond.code yX2_of cX2_of 2 (some .int) ∈ lwG := inG (List.mem_append_right _ (List.mem_of_getElem? (i := 32) rfl)) rfl
theorem m_fl_X5_43 : Cond.fieldLink RX5 43 "SenderRows$Rests" "modulus" "I" ∈ lwG := inG (List.mem_append_right _ (List.mem_of_getElem? (i := 33) (by decide +kernel))) rfl
theorem m_fl_X2_19 : Cond.fieldLink RX2 19 "SenderRows$Rests" "modulus" "I" ∈ lwG := inG (List.mem_append_right _ (List.mem_of_getElem? (i := 34) (by decide +kernel))) rfl
theorem m_fl_X1_77 : Cond.fieldLink RX1 77 "SenderRows$Rests" "modulus" "I" ∈ lwG := inG (List.mem_append_right _ (List.mem_of_getElem? (i := 35) (by decide +kernel))) rfl
theorem m_fl_X3_55 : Cond.fieldLink RX3 55 "SenderRows$Rests" "modulus" "I" ∈ lwG := inG (List.mem_append_right _ (List.mem_of_getElem? (i := 36) (by decide +kernel))) rfl
theorem m_fl_X2_9 : Cond.fieldLink RX2 9 "SenderRows$Rests" "inverses" "[I" ∈ lwG := inG (List.mem_append_right _ (List.mem_of_getElem? (i := 37) (by decide +kernel))) rfl
theorem m_ac_int : Cond.arrayClass .int ∈ lwG := inG (List.mem_append_right _ (List.mem_of_getElem? (i := 43) (by decide +kernel))) rfl
theorem m_cl_X5_16 : Cond.classLink RX5 16 RX3 ∈ lwG := inG (List.mem_append_right _ (List.mem_of_getElem? (i := 44) (by decide +kernel))) rfl
theorem m_ib_X3 : Cond.instantiable RX3 9 ∈ lwG := inG (List.mem_append_right _ (List.mem_of_getElem? (i := 45) (by decide +kernel))) rfl
theorem m_ml_X5_18 : Cond.methodLink RX5 18 yX3_init ∈ lwG := inG (List.mem_append_right _ (List.mem_of_getElem? (i := 46) (by decide +kernel))) rfl
theorem m_im_X3_init : Cond.instanceMethod yX3_init ∈ lwG := inG (List.mem_append_right _ (List.mem_of_getElem? (i := 47) (by decide +kernel))) rfl
set_option maxRecDepth 20000 in
theorem m_co_X3_init : Cond.code yX3_init cX3_init 2 none ∈ lwG := inG (List.mem_append_right _ (List.mem_of_getElem? (i := 48) rfl)) rfl
theorem m_ml_X3_3 : Cond.methodLink RX3 3 objectInit ∈ lwG := inG (List.mem_append_right _ (List.mem_of_getElem? (i := 49) (by decide +kernel))) rfl
theorem m_cn_X3_9 : Cond.constant RX3 9 (65535) ∈ lwG := inG (List.mem_append_right _ (List.mem_of_getElem? (i := 50) (by decide +kernel))) rfl
theorem m_ml_X3_39 : Cond.methodLink RX3 39 yX3_clear ∈ lwG := inG (List.mem_append_right _ (List.mem_of_getElem? (i := 51) (by decide +kernel))) rfl
theorem m_im_X3_clear : Cond.instanceMethod yX3_clear ∈ lwG := inG (List.mem_append_right _ (List.mem_of_getElem? (i := 52) (by decide +kernel))) rfl
theorem m_se_X3_clear : Cond.selects yX3_clear.cls yX3_clear yX3_clear ∈ lwG := inG (List.mem_append_right _ (List.mem_of_getElem? (i := 53) (by decide +kernel))) rfl
set_option maxRecDepth 20000 in
theorem m_co_X3_clear : Cond.code yX3_clear cX3_clear 2 none ∈ lwG := inG (List.mem_append_right _ (List.mem_of_getElem? (i := 54) rfl)) rfl
theorem m_fl_X3_35 : Cond.fieldLink RX3 35 "SenderRows$Row" "rests" "LSenderRows$Rests;" ∈ lwG := inG (List.mem_append_right _ (List.mem_of_getElem? (i := 55) (by decide +kernel))) rfl
theorem m_fl_X3_10 : Cond.fieldLink RX3 10 "SenderRows$Row" "set" "I" ∈ lwG := inG (List.mem_append_right _ (List.mem_of_getElem? (i := 56) (by decide +kernel))) rfl
theorem m_fl_X5_55 : Cond.fieldLink RX5 55 "SenderRows$Row" "set" "I" ∈ lwG := inG (List.mem_append_right _ (List.mem_of_getElem? (i := 57) (by decide +kernel))) rfl
theorem m_fl_X3_42 : Cond.fieldLink RX3 42 "SenderRows$Row" "senders" "I" ∈ lwG := inG (List.mem_append_right _ (List.mem_of_getElem? (i := 58) (by decide +kernel))) rfl
theorem m_fl_X5_70 : Cond.fieldLink RX5 70 "SenderRows$Row" "senders" "I" ∈ lwG := inG (List.mem_append_right _ (List.mem_of_getElem? (i := 59) (by decide +kernel))) rfl
theorem m_fl_X3_16 : Cond.fieldLink RX3 16 "SenderRows$Row" "slants" "[I" ∈ lwG := inG (List.mem_append_right _ (List.mem_of_getElem? (i := 60) (by decide +kernel))) rfl
theorem m_fl_X3_20 : Cond.fieldLink RX3 20 "SenderRows$Row" "strengths" "[I" ∈ lwG := inG (List.mem_append_right _ (List.mem_of_getElem? (i := 61) (by decide +kernel))) rfl
theorem m_fl_X3_23 : Cond.fieldLink RX3 23 "SenderRows$Row" "gains" "[I" ∈ lwG := inG (List.mem_append_right _ (List.mem_of_getElem? (i := 62) (by decide +kernel))) rfl
theorem m_fl_X5_84 : Cond.fieldLink RX5 84 "SenderRows$Row" "gains" "[I" ∈ lwG := inG (List.mem_append_right _ (List.mem_of_getElem? (i := 63) (by decide +kernel))) rfl
theorem m_fl_X3_26 : Cond.fieldLink RX3 26 "SenderRows$Row" "byHand" "[I" ∈ lwG := inG (List.mem_append_right _ (List.mem_of_getElem? (i := 64) (by decide +kernel))) rfl
theorem m_fl_X5_88 : Cond.fieldLink RX5 88 "SenderRows$Row" "byHand" "[I" ∈ lwG := inG (List.mem_append_right _ (List.mem_of_getElem? (i := 65) (by decide +kernel))) rfl
theorem m_fl_X3_29 : Cond.fieldLink RX3 29 "SenderRows$Row" "coming" "[I" ∈ lwG := inG (List.mem_append_right _ (List.mem_of_getElem? (i := 66) (by decide +kernel))) rfl
theorem m_fl_X3_32 : Cond.fieldLink RX3 32 "SenderRows$Row" "images" "[I" ∈ lwG := inG (List.mem_append_right _ (List.mem_of_getElem? (i := 67) (by decide +kernel))) rfl
theorem m_cl_X5_25 : Cond.classLink RX5 25 RX1 ∈ lwG := inG (List.mem_append_right _ (List.mem_of_getElem? (i := 87) (by decide +kernel))) rfl
theorem m_ib_X1 : Cond.instantiable RX1 9 ∈ lwG := inG (List.mem_append_right _ (List.mem_of_getElem? (i := 88) (by decide +kernel))) rfl
theorem m_ml_X5_27 : Cond.methodLink RX5 27 yX1_init ∈ lwG := inG (List.mem_append_right _ (List.mem_of_getElem? (i := 89) (by decide +kernel))) rfl
theorem m_im_X1_init : Cond.instanceMethod yX1_init ∈ lwG := inG (List.mem_append_right _ (List.mem_of_getElem? (i := 90) (by decide +kernel))) rfl
set_option maxRecDepth 20000 in
theorem m_co_X1_init : Cond.code yX1_init cX1_init 2 none ∈ lwG := inG (List.mem_append_right _ (List.mem_of_getElem? (i := 91) rfl)) rfl
theorem m_ml_X1_3 : Cond.methodLink RX1 3 objectInit ∈ lwG := inG (List.mem_append_right _ (List.mem_of_getElem? (i := 92) (by decide +kernel))) rfl
theorem m_fl_X1_27 : Cond.fieldLink RX1 27 "SenderRows$Law" "rests" "LSenderRows$Rests;" ∈ lwG := inG (List.mem_append_right _ (List.mem_of_getElem? (i := 93) (by decide +kernel))) rfl
theorem m_fl_X1_9 : Cond.fieldLink RX1 9 "SenderRows$Law" "reads" "[I" ∈ lwG := inG (List.mem_append_right _ (List.mem_of_getElem? (i := 94) (by decide +kernel))) rfl
theorem m_fl_X1_31 : Cond.fieldLink RX1 31 "SenderRows$Law" "size" "I" ∈ lwG := inG (List.mem_append_right _ (List.mem_of_getElem? (i := 95) (by decide +kernel))) rfl
theorem m_fl_X1_44 : Cond.fieldLink RX1 44 "SenderRows$Law" "length" "I" ∈ lwG := inG (List.mem_append_right _ (List.mem_of_getElem? (i := 96) (by decide +kernel))) rfl
theorem m_fl_X5_127 : Cond.fieldLink RX5 127 "SenderRows$Law" "length" "I" ∈ lwG := inG (List.mem_append_right _ (List.mem_of_getElem? (i := 97) (by decide +kernel))) rfl
theorem m_fl_X1_15 : Cond.fieldLink RX1 15 "SenderRows$Law" "terms" "[I" ∈ lwG := inG (List.mem_append_right _ (List.mem_of_getElem? (i := 98) (by decide +kernel))) rfl
theorem m_fl_X1_18 : Cond.fieldLink RX1 18 "SenderRows$Law" "older" "[I" ∈ lwG := inG (List.mem_append_right _ (List.mem_of_getElem? (i := 99) (by decide +kernel))) rfl
theorem m_fl_X1_21 : Cond.fieldLink RX1 21 "SenderRows$Law" "spare" "[I" ∈ lwG := inG (List.mem_append_right _ (List.mem_of_getElem? (i := 100) (by decide +kernel))) rfl
theorem m_fl_X1_80 : Cond.fieldLink RX1 80 "SenderRows$Law" "slantsInAll" "I" ∈ lwG := inG (List.mem_append_right _ (List.mem_of_getElem? (i := 101) (by decide +kernel))) rfl
theorem m_fl_X5_140 : Cond.fieldLink RX5 140 "SenderRows$Law" "slantsInAll" "I" ∈ lwG := inG (List.mem_append_right _ (List.mem_of_getElem? (i := 102) (by decide +kernel))) rfl
theorem m_fl_X1_24 : Cond.fieldLink RX1 24 "SenderRows$Law" "slants" "[I" ∈ lwG := inG (List.mem_append_right _ (List.mem_of_getElem? (i := 103) (by decide +kernel))) rfl
theorem m_cl_X5_32 : Cond.classLink RX5 32 RX4 ∈ lwG := inG (List.mem_append_right _ (List.mem_of_getElem? (i := 123) (by decide +kernel))) rfl
theorem m_ib_X4 : Cond.instantiable RX4 8 ∈ lwG := inG (List.mem_append_right _ (List.mem_of_getElem? (i := 124) (by decide +kernel))) rfl
theorem m_ml_X5_34 : Cond.methodLink RX5 34 yX4_init ∈ lwG := inG (List.mem_append_right _ (List.mem_of_getElem? (i := 125) (by decide +kernel))) rfl
theorem m_im_X4_init : Cond.instanceMethod yX4_init ∈ lwG := inG (List.mem_append_right _ (List.mem_of_getElem? (i := 126) (by decide +kernel))) rfl
set_option maxRecDepth 20000 in
theorem m_co_X4_init : Cond.code yX4_init cX4_init 1 none ∈ lwG := inG (List.mem_append_right _ (List.mem_of_getElem? (i := 127) rfl)) rfl
theorem m_ml_X4_3 : Cond.methodLink RX4 3 objectInit ∈ lwG := inG (List.mem_append_right _ (List.mem_of_getElem? (i := 128) (by decide +kernel))) rfl
theorem m_fl_X4_28 : Cond.fieldLink RX4 28 "SenderRows$Stations" "size" "I" ∈ lwG := inG (List.mem_append_right _ (List.mem_of_getElem? (i := 129) (by decide +kernel))) rfl
theorem m_fl_X5_100 : Cond.fieldLink RX5 100 "SenderRows$Stations" "size" "I" ∈ lwG := inG (List.mem_append_right _ (List.mem_of_getElem? (i := 130) (by decide +kernel))) rfl
theorem m_fl_X4_9 : Cond.fieldLink RX4 9 "SenderRows$Stations" "xs" "[I" ∈ lwG := inG (List.mem_append_right _ (List.mem_of_getElem? (i := 131) (by decide +kernel))) rfl
theorem m_fl_X4_15 : Cond.fieldLink RX4 15 "SenderRows$Stations" "ys" "[I" ∈ lwG := inG (List.mem_append_right _ (List.mem_of_getElem? (i := 132) (by decide +kernel))) rfl
theorem m_fl_X4_18 : Cond.fieldLink RX4 18 "SenderRows$Stations" "us" "[I" ∈ lwG := inG (List.mem_append_right _ (List.mem_of_getElem? (i := 133) (by decide +kernel))) rfl
theorem m_fl_X4_21 : Cond.fieldLink RX4 21 "SenderRows$Stations" "vs" "[I" ∈ lwG := inG (List.mem_append_right _ (List.mem_of_getElem? (i := 134) (by decide +kernel))) rfl
theorem m_fl_X4_36 : Cond.fieldLink RX4 36 "SenderRows$Stations" "crossX" "J" ∈ lwG := inG (List.mem_append_right _ (List.mem_of_getElem? (i := 135) (by decide +kernel))) rfl
theorem m_fl_X4_39 : Cond.fieldLink RX4 39 "SenderRows$Stations" "crossY" "J" ∈ lwG := inG (List.mem_append_right _ (List.mem_of_getElem? (i := 136) (by decide +kernel))) rfl
theorem m_fl_X4_24 : Cond.fieldLink RX4 24 "SenderRows$Stations" "under" "J" ∈ lwG := inG (List.mem_append_right _ (List.mem_of_getElem? (i := 137) (by decide +kernel))) rfl
theorem m_fl_X5_12 : Cond.fieldLink RX5 12 "SenderRows" "rests" "LSenderRows$Rests;" ∈ lwG := inG (List.mem_append_right _ (List.mem_of_getElem? (i := 155) (by decide +kernel))) rfl
theorem m_fl_X5_21 : Cond.fieldLink RX5 21 "SenderRows" "row" "LSenderRows$Row;" ∈ lwG := inG (List.mem_append_right _ (List.mem_of_getElem? (i := 156) (by decide +kernel))) rfl
theorem m_fl_X5_28 : Cond.fieldLink RX5 28 "SenderRows" "found" "LSenderRows$Law;" ∈ lwG := inG (List.mem_append_right _ (List.mem_of_getElem? (i := 157) (by decide +kernel))) rfl
theorem m_fl_X5_35 : Cond.fieldLink RX5 35 "SenderRows" "stations" "LSenderRows$Stations;" ∈ lwG := inG (List.mem_append_right _ (List.mem_of_getElem? (i := 158) (by decide +kernel))) rfl
theorem m_ml_L_13 : Cond.methodLink RL 13 yX5_prime ∈ lwG := inG (List.mem_append_right _ (List.mem_of_getElem? (i := 168) (by decide +kernel))) rfl
theorem m_im_X5_prime : Cond.instanceMethod yX5_prime ∈ lwG := inG (List.mem_append_right _ (List.mem_of_getElem? (i := 169) (by decide +kernel))) rfl
theorem m_se_X5_prime : Cond.selects yX5_prime.cls yX5_prime yX5_prime ∈ lwG := inG (List.mem_append_right _ (List.mem_of_getElem? (i := 170) (by decide +kernel))) rfl
set_option maxRecDepth 20000 in
theorem m_co_X5_prime : Cond.code yX5_prime cX5_prime 3 (some .int) ∈ lwG := inG (List.mem_append_right _ (List.mem_of_getElem? (i := 171) rfl)) rfl
theorem m_ml_X5_39 : Cond.methodLink RX5 39 yX2_canBePrime ∈ lwG := inG (List.mem_append_right _ (List.mem_of_getElem? (i := 172) (by decide +kernel))) rfl
theorem m_st_X2_canBePrime : Cond.static yX2_canBePrime ∈ lwG := inG (List.mem_append_right _ (List.mem_of_getElem? (i := 173) (by decide +kernel))) rfl
set_option maxRecDepth 20000 in
theorem m_co_X2_canBePrime : Cond.code yX2_canBePrime cX2_canBePrime 2 (some .boolean) ∈ lwG := inG (List.mem_append_right _ (List.mem_of_getElem? (i := 174) rfl)) rfl
theorem m_ml_X5_47 : Cond.methodLink RX5 47 yX2_become ∈ lwG := inG (List.mem_append_right _ (List.mem_of_getElem? (i := 175) (by decide +kernel))) rfl
theorem m_ml_X5_51 : Cond.methodLink RX5 51 yX3_clear ∈ lwG := inG (List.mem_append_right _ (List.mem_of_getElem? (i := 176) (by decide +kernel))) rfl
theorem m_ml_L_18 : Cond.methodLink RL 18 yX5_hearers ∈ lwG := inG (List.mem_append_right _ (List.mem_of_getElem? (i := 177) (by decide +kernel))) rfl
theorem m_im_X5_hearers : Cond.instanceMethod yX5_hearers ∈ lwG := inG (List.mem_append_right _ (List.mem_of_getElem? (i := 178) (by decide +kernel))) rfl
theorem m_se_X5_hearers : Cond.selects yX5_hearers.cls yX5_hearers yX5_hearers ∈ lwG := inG (List.mem_append_right _ (List.mem_of_getElem? (i := 179) (by decide +kernel))) rfl
set_option maxRecDepth 20000 in
theorem m_co_X5_hearers : Cond.code yX5_hearers cX5_hearers 2 (some .int) ∈ lwG := inG (List.mem_append_right _ (List.mem_of_getElem? (i := 180) rfl)) rfl
theorem m_cn_X5_54 : Cond.constant RX5 54 (16777216) ∈ lwG := inG (List.mem_append_right _ (List.mem_of_getElem? (i := 181) (by decide +kernel))) rfl
theorem m_ml_X5_58 : Cond.methodLink RX5 58 yJ6_bitCount_0f7a4 ∈ lwG := inG (List.mem_append_right _ (List.mem_of_getElem? (i := 182) (by decide +kernel))) rfl
theorem m_st_J6_bitCount_0f7a4 : Cond.static yJ6_bitCount_0f7a4 ∈ lwG := inG (List.mem_append_right _ (List.mem_of_getElem? (i := 183) (by decide +kernel))) rfl
set_option maxRecDepth 20000 in
theorem m_co_J6_bitCount_0f7a4 : Cond.code yJ6_bitCount_0f7a4 cJ6_bitCount_0f7a4 1 (some .int) ∈ lwG := inG (List.mem_append_right _ (List.mem_of_getElem? (i := 184) rfl)) rfl
theorem m_cn_J6_265 : Cond.constant RJ6 265 (1431655765) ∈ lwG := inG (List.mem_append_right _ (List.mem_of_getElem? (i := 185) (by decide +kernel))) rfl
theorem m_cn_J6_266 : Cond.constant RJ6 266 (858993459) ∈ lwG := inG (List.mem_append_right _ (List.mem_of_getElem? (i := 186) (by decide +kernel))) rfl
theorem m_cn_J6_267 : Cond.constant RJ6 267 (252645135) ∈ lwG := inG (List.mem_append_right _ (List.mem_of_getElem? (i := 187) (by decide +kernel))) rfl
theorem m_ml_L_22 : Cond.methodLink RL 22 yX5_sender ∈ lwG := inG (List.mem_append_right _ (List.mem_of_getElem? (i := 188) (by decide +kernel))) rfl
theorem m_im_X5_sender : Cond.instanceMethod yX5_sender ∈ lwG := inG (List.mem_append_right _ (List.mem_of_getElem? (i := 189) (by decide +kernel))) rfl
theorem m_se_X5_sender : Cond.selects yX5_sender.cls yX5_sender yX5_sender ∈ lwG := inG (List.mem_append_right _ (List.mem_of_getElem? (i := 190) (by decide +kernel))) rfl
set_option maxRecDepth 20000 in
theorem m_co_X5_sender : Cond.code yX5_sender cX5_sender 3 (some .int) ∈ lwG := inG (List.mem_append_right _ (List.mem_of_getElem? (i := 191) rfl)) rfl
theorem m_ml_X5_64 : Cond.methodLink RX5 64 yX2_isFactor ∈ lwG := inG (List.mem_append_right _ (List.mem_of_getElem? (i := 192) (by decide +kernel))) rfl
theorem m_im_X2_isFactor : Cond.instanceMethod yX2_isFactor ∈ lwG := inG (List.mem_append_right _ (List.mem_of_getElem? (i := 193) (by decide +kernel))) rfl
theorem m_se_X2_isFactor : Cond.selects yX2_isFactor.cls yX2_isFactor yX2_isFactor ∈ lwG := inG (List.mem_append_right _ (List.mem_of_getElem? (i := 194) (by decide +kernel))) rfl
set_option maxRecDepth 20000 in
theorem m_co_X2_isFactor : Cond.code yX2_isFactor cX2_isFactor 2 (some .boolean) ∈ lwG := inG (List.mem_append_right _ (List.mem_of_getElem? (i := 195) rfl)) rfl
theorem m_ml_X5_67 : Cond.methodLink RX5 67 yX3_hasSlant ∈ lwG := inG (List.mem_append_right _ (List.mem_of_getElem? (i := 196) (by decide +kernel))) rfl
theorem m_im_X3_hasSlant : Cond.instanceMethod yX3_hasSlant ∈ lwG := inG (List.mem_append_right _ (List.mem_of_getElem? (i := 197) (by decide +kernel))) rfl
theorem m_se_X3_hasSlant : Cond.selects yX3_hasSlant.cls yX3_hasSlant yX3_hasSlant ∈ lwG := inG (List.mem_append_right _ (List.mem_of_getElem? (i := 198) (by decide +kernel))) rfl
set_option maxRecDepth 20000 in
theorem m_co_X3_hasSlant : Cond.code yX3_hasSlant cX3_hasSlant 3 (some .boolean) ∈ lwG := inG (List.mem_append_right _ (List.mem_of_getElem? (i := 199) rfl)) rfl
theorem m_ml_X5_73 : Cond.methodLink RX5 73 yX3_addSender ∈ lwG := inG (List.mem_append_right _ (List.mem_of_getElem? (i := 200) (by decide +kernel))) rfl
theorem m_im_X3_addSender : Cond.instanceMethod yX3_addSender ∈ lwG := inG (List.mem_append_right _ (List.mem_of_getElem? (i := 201) (by decide +kernel))) rfl
theorem m_se_X3_addSender : Cond.selects yX3_addSender.cls yX3_addSender yX3_addSender ∈ lwG := inG (List.mem_append_right _ (List.mem_of_getElem? (i := 202) (by decide +kernel))) rfl
set_option maxRecDepth 20000 in
theorem m_co_X3_addSender : Cond.code yX3_addSender cX3_addSender 4 (some .int) ∈ lwG := inG (List.mem_append_right _ (List.mem_of_getElem? (i := 203) rfl)) rfl
theorem m_ml_X3_51 : Cond.methodLink RX3 51 yX3_addWave ∈ lwG := inG (List.mem_append_right _ (List.mem_of_getElem? (i := 204) (by decide +kernel))) rfl
theorem m_im_X3_addWave : Cond.instanceMethod yX3_addWave ∈ lwG := inG (List.mem_append_right _ (List.mem_of_getElem? (i := 206) (by decide +kernel))) rfl
set_option maxRecDepth 20000 in
theorem m_co_X3_addWave : Cond.code yX3_addWave cX3_addWave 5 none ∈ lwG := inG (List.mem_append_right _ (List.mem_of_getElem? (i := 207) rfl)) rfl
theorem m_ml_X3_45 : Cond.methodLink RX3 45 yX2_of ∈ lwG := inG (List.mem_append_right _ (List.mem_of_getElem? (i := 208) (by decide +kernel))) rfl
theorem m_ml_L_27 : Cond.methodLink RL 27 yX5_drop ∈ lwG := inG (List.mem_append_right _ (List.mem_of_getElem? (i := 209) (by decide +kernel))) rfl
theorem m_im_X5_drop : Cond.instanceMethod yX5_drop ∈ lwG := inG (List.mem_append_right _ (List.mem_of_getElem? (i := 210) (by decide +kernel))) rfl
theorem m_se_X5_drop : Cond.selects yX5_drop.cls yX5_drop yX5_drop ∈ lwG := inG (List.mem_append_right _ (List.mem_of_getElem? (i := 211) (by decide +kernel))) rfl
set_option maxRecDepth 20000 in
theorem m_co_X5_drop : Cond.code yX5_drop cX5_drop 1 (some .int) ∈ lwG := inG (List.mem_append_right _ (List.mem_of_getElem? (i := 212) rfl)) rfl
theorem m_ml_X5_77 : Cond.methodLink RX5 77 yX3_dropSender ∈ lwG := inG (List.mem_append_right _ (List.mem_of_getElem? (i := 213) (by decide +kernel))) rfl
theorem m_im_X3_dropSender : Cond.instanceMethod yX3_dropSender ∈ lwG := inG (List.mem_append_right _ (List.mem_of_getElem? (i := 214) (by decide +kernel))) rfl
theorem m_se_X3_dropSender : Cond.selects yX3_dropSender.cls yX3_dropSender yX3_dropSender ∈ lwG := inG (List.mem_append_right _ (List.mem_of_getElem? (i := 215) (by decide +kernel))) rfl
set_option maxRecDepth 20000 in
theorem m_co_X3_dropSender : Cond.code yX3_dropSender cX3_dropSender 1 (some .int) ∈ lwG := inG (List.mem_append_right _ (List.mem_of_getElem? (i := 216) rfl)) rfl
theorem m_ml_L_32 : Cond.methodLink RL 32 yX5_gain ∈ lwG := inG (List.mem_append_right _ (List.mem_of_getElem? (i := 217) (by decide +kernel))) rfl
theorem m_im_X5_gain : Cond.instanceMethod yX5_gain ∈ lwG := inG (List.mem_append_right _ (List.mem_of_getElem? (i := 218) (by decide +kernel))) rfl
theorem m_se_X5_gain : Cond.selects yX5_gain.cls yX5_gain yX5_gain ∈ lwG := inG (List.mem_append_right _ (List.mem_of_getElem? (i := 219) (by decide +kernel))) rfl
set_option maxRecDepth 20000 in
theorem m_co_X5_gain : Cond.code yX5_gain cX5_gain 4 (some .int) ∈ lwG := inG (List.mem_append_right _ (List.mem_of_getElem? (i := 220) rfl)) rfl
theorem m_ml_X5_81 : Cond.methodLink RX5 81 yX5_isPlace ∈ lwG := inG (List.mem_append_right _ (List.mem_of_getElem? (i := 221) (by decide +kernel))) rfl
theorem m_st_X5_isPlace : Cond.static yX5_isPlace ∈ lwG := inG (List.mem_append_right _ (List.mem_of_getElem? (i := 222) (by decide +kernel))) rfl
set_option maxRecDepth 20000 in
theorem m_co_X5_isPlace : Cond.code yX5_isPlace cX5_isPlace 1 (some .boolean) ∈ lwG := inG (List.mem_append_right _ (List.mem_of_getElem? (i := 223) rfl)) rfl
theorem m_ml_L_36 : Cond.methodLink RL 36 yX5_read ∈ lwG := inG (List.mem_append_right _ (List.mem_of_getElem? (i := 224) (by decide +kernel))) rfl
theorem m_im_X5_read : Cond.instanceMethod yX5_read ∈ lwG := inG (List.mem_append_right _ (List.mem_of_getElem? (i := 225) (by decide +kernel))) rfl
theorem m_se_X5_read : Cond.selects yX5_read.cls yX5_read yX5_read ∈ lwG := inG (List.mem_append_right _ (List.mem_of_getElem? (i := 226) (by decide +kernel))) rfl
set_option maxRecDepth 20000 in
theorem m_co_X5_read : Cond.code yX5_read cX5_read 3 (some .int) ∈ lwG := inG (List.mem_append_right _ (List.mem_of_getElem? (i := 227) rfl)) rfl
theorem m_ml_X5_91 : Cond.methodLink RX5 91 yX3_readAt ∈ lwG := inG (List.mem_append_right _ (List.mem_of_getElem? (i := 228) (by decide +kernel))) rfl
theorem m_im_X3_readAt : Cond.instanceMethod yX3_readAt ∈ lwG := inG (List.mem_append_right _ (List.mem_of_getElem? (i := 229) (by decide +kernel))) rfl
theorem m_se_X3_readAt : Cond.selects yX3_readAt.cls yX3_readAt yX3_readAt ∈ lwG := inG (List.mem_append_right _ (List.mem_of_getElem? (i := 230) (by decide +kernel))) rfl
set_option maxRecDepth 20000 in
theorem m_co_X3_readAt : Cond.code yX3_readAt cX3_readAt 2 (some .int) ∈ lwG := inG (List.mem_append_right _ (List.mem_of_getElem? (i := 231) rfl)) rfl
theorem m_ml_L_40 : Cond.methodLink RL 40 yX5_heard ∈ lwG := inG (List.mem_append_right _ (List.mem_of_getElem? (i := 232) (by decide +kernel))) rfl
theorem m_im_X5_heard : Cond.instanceMethod yX5_heard ∈ lwG := inG (List.mem_append_right _ (List.mem_of_getElem? (i := 233) (by decide +kernel))) rfl
theorem m_se_X5_heard : Cond.selects yX5_heard.cls yX5_heard yX5_heard ∈ lwG := inG (List.mem_append_right _ (List.mem_of_getElem? (i := 234) (by decide +kernel))) rfl
set_option maxRecDepth 20000 in
theorem m_co_X5_heard : Cond.code yX5_heard cX5_heard 2 (some .int) ∈ lwG := inG (List.mem_append_right _ (List.mem_of_getElem? (i := 235) rfl)) rfl
theorem m_ml_X5_94 : Cond.methodLink RX5 94 yX3_hasHearer ∈ lwG := inG (List.mem_append_right _ (List.mem_of_getElem? (i := 236) (by decide +kernel))) rfl
theorem m_im_X3_hasHearer : Cond.instanceMethod yX3_hasHearer ∈ lwG := inG (List.mem_append_right _ (List.mem_of_getElem? (i := 237) (by decide +kernel))) rfl
theorem m_se_X3_hasHearer : Cond.selects yX3_hasHearer.cls yX3_hasHearer yX3_hasHearer ∈ lwG := inG (List.mem_append_right _ (List.mem_of_getElem? (i := 238) (by decide +kernel))) rfl
set_option maxRecDepth 20000 in
theorem m_co_X3_hasHearer : Cond.code yX3_hasHearer cX3_hasHearer 2 (some .boolean) ∈ lwG := inG (List.mem_append_right _ (List.mem_of_getElem? (i := 239) rfl)) rfl
theorem m_ml_L_44 : Cond.methodLink RL 44 yX5_count ∈ lwG := inG (List.mem_append_right _ (List.mem_of_getElem? (i := 240) (by decide +kernel))) rfl
theorem m_im_X5_count : Cond.instanceMethod yX5_count ∈ lwG := inG (List.mem_append_right _ (List.mem_of_getElem? (i := 241) (by decide +kernel))) rfl
theorem m_se_X5_count : Cond.selects yX5_count.cls yX5_count yX5_count ∈ lwG := inG (List.mem_append_right _ (List.mem_of_getElem? (i := 242) (by decide +kernel))) rfl
set_option maxRecDepth 20000 in
theorem m_co_X5_count : Cond.code yX5_count cX5_count 2 (some .int) ∈ lwG := inG (List.mem_append_right _ (List.mem_of_getElem? (i := 243) rfl)) rfl
theorem m_ml_X5_97 : Cond.methodLink RX5 97 yX3_readsByHand ∈ lwG := inG (List.mem_append_right _ (List.mem_of_getElem? (i := 244) (by decide +kernel))) rfl
theorem m_im_X3_readsByHand : Cond.instanceMethod yX3_readsByHand ∈ lwG := inG (List.mem_append_right _ (List.mem_of_getElem? (i := 245) (by decide +kernel))) rfl
theorem m_se_X3_readsByHand : Cond.selects yX3_readsByHand.cls yX3_readsByHand yX3_readsByHand ∈ lwG := inG (List.mem_append_right _ (List.mem_of_getElem? (i := 246) (by decide +kernel))) rfl
set_option maxRecDepth 20000 in
theorem m_co_X3_readsByHand : Cond.code yX3_readsByHand cX3_readsByHand 3 (some .int) ∈ lwG := inG (List.mem_append_right _ (List.mem_of_getElem? (i := 247) rfl)) rfl
theorem m_ml_X5_103 : Cond.methodLink RX5 103 yX0_reach ∈ lwG := inG (List.mem_append_right _ (List.mem_of_getElem? (i := 248) (by decide +kernel))) rfl
theorem m_st_X0_reach : Cond.static yX0_reach ∈ lwG := inG (List.mem_append_right _ (List.mem_of_getElem? (i := 249) (by decide +kernel))) rfl
set_option maxRecDepth 20000 in
theorem m_co_X0_reach : Cond.code yX0_reach cX0_reach 2 (some .int) ∈ lwG := inG (List.mem_append_right _ (List.mem_of_getElem? (i := 250) rfl)) rfl
theorem m_ml_X0_15 : Cond.methodLink RX0 15 yX0_pairs ∈ lwG := inG (List.mem_append_right _ (List.mem_of_getElem? (i := 251) (by decide +kernel))) rfl
theorem m_st_X0_pairs : Cond.static yX0_pairs ∈ lwG := inG (List.mem_append_right _ (List.mem_of_getElem? (i := 252) (by decide +kernel))) rfl
set_option maxRecDepth 20000 in
theorem m_co_X0_pairs : Cond.code yX0_pairs cX0_pairs 2 (some .int) ∈ lwG := inG (List.mem_append_right _ (List.mem_of_getElem? (i := 253) rfl)) rfl
theorem m_ml_X0_9 : Cond.methodLink RX0 9 yJ6_bitCount_0f7a4 ∈ lwG := inG (List.mem_append_right _ (List.mem_of_getElem? (i := 254) (by decide +kernel))) rfl
theorem m_ml_X5_108 : Cond.methodLink RX5 108 yX0_holes ∈ lwG := inG (List.mem_append_right _ (List.mem_of_getElem? (i := 255) (by decide +kernel))) rfl
theorem m_st_X0_holes : Cond.static yX0_holes ∈ lwG := inG (List.mem_append_right _ (List.mem_of_getElem? (i := 256) (by decide +kernel))) rfl
set_option maxRecDepth 20000 in
theorem m_co_X0_holes : Cond.code yX0_holes cX0_holes 1 (some .int) ∈ lwG := inG (List.mem_append_right _ (List.mem_of_getElem? (i := 257) rfl)) rfl
theorem m_ml_X0_21 : Cond.methodLink RX0 21 yX0_greatest ∈ lwG := inG (List.mem_append_right _ (List.mem_of_getElem? (i := 258) (by decide +kernel))) rfl
theorem m_st_X0_greatest : Cond.static yX0_greatest ∈ lwG := inG (List.mem_append_right _ (List.mem_of_getElem? (i := 259) (by decide +kernel))) rfl
set_option maxRecDepth 20000 in
theorem m_co_X0_greatest : Cond.code yX0_greatest cX0_greatest 2 (some .int) ∈ lwG := inG (List.mem_append_right _ (List.mem_of_getElem? (i := 260) rfl)) rfl
theorem m_ml_X0_24 : Cond.methodLink RX0 24 yX0_present ∈ lwG := inG (List.mem_append_right _ (List.mem_of_getElem? (i := 261) (by decide +kernel))) rfl
theorem m_st_X0_present : Cond.static yX0_present ∈ lwG := inG (List.mem_append_right _ (List.mem_of_getElem? (i := 262) (by decide +kernel))) rfl
set_option maxRecDepth 20000 in
theorem m_co_X0_present : Cond.code yX0_present cX0_present 3 (some .int) ∈ lwG := inG (List.mem_append_right _ (List.mem_of_getElem? (i := 263) rfl)) rfl
theorem m_ml_X5_111 : Cond.methodLink RX5 111 yX3_twinsInAll ∈ lwG := inG (List.mem_append_right _ (List.mem_of_getElem? (i := 264) (by decide +kernel))) rfl
theorem m_im_X3_twinsInAll : Cond.instanceMethod yX3_twinsInAll ∈ lwG := inG (List.mem_append_right _ (List.mem_of_getElem? (i := 265) (by decide +kernel))) rfl
theorem m_se_X3_twinsInAll : Cond.selects yX3_twinsInAll.cls yX3_twinsInAll yX3_twinsInAll ∈ lwG := inG (List.mem_append_right _ (List.mem_of_getElem? (i := 266) (by decide +kernel))) rfl
set_option maxRecDepth 20000 in
theorem m_co_X3_twinsInAll : Cond.code yX3_twinsInAll cX3_twinsInAll 4 (some .int) ∈ lwG := inG (List.mem_append_right _ (List.mem_of_getElem? (i := 267) rfl)) rfl
theorem m_ml_X3_68 : Cond.methodLink RX3 68 yX3_makeImages ∈ lwG := inG (List.mem_append_right _ (List.mem_of_getElem? (i := 268) (by decide +kernel))) rfl
theorem m_im_X3_makeImages : Cond.instanceMethod yX3_makeImages ∈ lwG := inG (List.mem_append_right _ (List.mem_of_getElem? (i := 270) (by decide +kernel))) rfl
set_option maxRecDepth 20000 in
theorem m_co_X3_makeImages : Cond.code yX3_makeImages cX3_makeImages 3 none ∈ lwG := inG (List.mem_append_right _ (List.mem_of_getElem? (i := 271) rfl)) rfl
theorem m_ml_X3_71 : Cond.methodLink RX3 71 yX3_spacing ∈ lwG := inG (List.mem_append_right _ (List.mem_of_getElem? (i := 272) (by decide +kernel))) rfl
theorem m_im_X3_spacing : Cond.instanceMethod yX3_spacing ∈ lwG := inG (List.mem_append_right _ (List.mem_of_getElem? (i := 274) (by decide +kernel))) rfl
set_option maxRecDepth 20000 in
theorem m_co_X3_spacing : Cond.code yX3_spacing cX3_spacing 5 (some .int) ∈ lwG := inG (List.mem_append_right _ (List.mem_of_getElem? (i := 275) rfl)) rfl
theorem m_ml_X3_58 : Cond.methodLink RX3 58 yX3_hasHearer ∈ lwG := inG (List.mem_append_right _ (List.mem_of_getElem? (i := 276) (by decide +kernel))) rfl
theorem m_st_X5_commonDivisor : Cond.static yX5_commonDivisor ∈ lwG := inG (List.mem_append_right _ (List.mem_of_getElem? (i := 278) (by decide +kernel))) rfl
set_option maxRecDepth 20000 in
theorem m_co_X5_commonDivisor : Cond.code yX5_commonDivisor cX5_commonDivisor 7 (some .long) ∈ lwG := inG (List.mem_append_right _ (List.mem_of_getElem? (i := 279) rfl)) rfl
theorem m_ml_X3_75 : Cond.methodLink RX3 75 yX2_power ∈ lwG := inG (List.mem_append_right _ (List.mem_of_getElem? (i := 280) (by decide +kernel))) rfl
theorem m_im_X2_power : Cond.instanceMethod yX2_power ∈ lwG := inG (List.mem_append_right _ (List.mem_of_getElem? (i := 281) (by decide +kernel))) rfl
theorem m_se_X2_power : Cond.selects yX2_power.cls yX2_power yX2_power ∈ lwG := inG (List.mem_append_right _ (List.mem_of_getElem? (i := 282) (by decide +kernel))) rfl
set_option maxRecDepth 20000 in
theorem m_co_X2_power : Cond.code yX2_power cX2_power 5 (some .int) ∈ lwG := inG (List.mem_append_right _ (List.mem_of_getElem? (i := 283) rfl)) rfl
theorem m_ml_X5_114 : Cond.methodLink RX5 114 yX0_greatest ∈ lwG := inG (List.mem_append_right _ (List.mem_of_getElem? (i := 284) (by decide +kernel))) rfl
theorem m_ml_X5_117 : Cond.methodLink RX5 117 yX0_present ∈ lwG := inG (List.mem_append_right _ (List.mem_of_getElem? (i := 285) (by decide +kernel))) rfl
theorem m_ml_L_48 : Cond.methodLink RL 48 yX5_order ∈ lwG := inG (List.mem_append_right _ (List.mem_of_getElem? (i := 286) (by decide +kernel))) rfl
theorem m_im_X5_order : Cond.instanceMethod yX5_order ∈ lwG := inG (List.mem_append_right _ (List.mem_of_getElem? (i := 287) (by decide +kernel))) rfl
theorem m_se_X5_order : Cond.selects yX5_order.cls yX5_order yX5_order ∈ lwG := inG (List.mem_append_right _ (List.mem_of_getElem? (i := 288) (by decide +kernel))) rfl
set_option maxRecDepth 20000 in
theorem m_co_X5_order : Cond.code yX5_order cX5_order 4 (some .int) ∈ lwG := inG (List.mem_append_right _ (List.mem_of_getElem? (i := 289) rfl)) rfl
theorem m_ml_X5_120 : Cond.methodLink RX5 120 yX5_spanRefusal ∈ lwG := inG (List.mem_append_right _ (List.mem_of_getElem? (i := 290) (by decide +kernel))) rfl
theorem m_im_X5_spanRefusal : Cond.instanceMethod yX5_spanRefusal ∈ lwG := inG (List.mem_append_right _ (List.mem_of_getElem? (i := 292) (by decide +kernel))) rfl
set_option maxRecDepth 20000 in
theorem m_co_X5_spanRefusal : Cond.code yX5_spanRefusal cX5_spanRefusal 3 (some .int) ∈ lwG := inG (List.mem_append_right _ (List.mem_of_getElem? (i := 293) rfl)) rfl
theorem m_ml_X5_152 : Cond.methodLink RX5 152 yX5_isSpan ∈ lwG := inG (List.mem_append_right _ (List.mem_of_getElem? (i := 294) (by decide +kernel))) rfl
theorem m_st_X5_isSpan : Cond.static yX5_isSpan ∈ lwG := inG (List.mem_append_right _ (List.mem_of_getElem? (i := 295) (by decide +kernel))) rfl
set_option maxRecDepth 20000 in
theorem m_co_X5_isSpan : Cond.code yX5_isSpan cX5_isSpan 2 (some .boolean) ∈ lwG := inG (List.mem_append_right _ (List.mem_of_getElem? (i := 296) rfl)) rfl
theorem m_ml_X5_156 : Cond.methodLink RX5 156 yX3_hasHearers ∈ lwG := inG (List.mem_append_right _ (List.mem_of_getElem? (i := 297) (by decide +kernel))) rfl
theorem m_im_X3_hasHearers : Cond.instanceMethod yX3_hasHearers ∈ lwG := inG (List.mem_append_right _ (List.mem_of_getElem? (i := 298) (by decide +kernel))) rfl
theorem m_se_X3_hasHearers : Cond.selects yX3_hasHearers.cls yX3_hasHearers yX3_hasHearers ∈ lwG := inG (List.mem_append_right _ (List.mem_of_getElem? (i := 299) (by decide +kernel))) rfl
set_option maxRecDepth 20000 in
theorem m_co_X3_hasHearers : Cond.code yX3_hasHearers cX3_hasHearers 4 (some .boolean) ∈ lwG := inG (List.mem_append_right _ (List.mem_of_getElem? (i := 300) rfl)) rfl
theorem m_ml_X5_123 : Cond.methodLink RX5 123 yX5_findLaw ∈ lwG := inG (List.mem_append_right _ (List.mem_of_getElem? (i := 301) (by decide +kernel))) rfl
theorem m_im_X5_findLaw : Cond.instanceMethod yX5_findLaw ∈ lwG := inG (List.mem_append_right _ (List.mem_of_getElem? (i := 303) (by decide +kernel))) rfl
set_option maxRecDepth 20000 in
theorem m_co_X5_findLaw : Cond.code yX5_findLaw cX5_findLaw 3 none ∈ lwG := inG (List.mem_append_right _ (List.mem_of_getElem? (i := 304) rfl)) rfl
theorem m_ml_X5_159 : Cond.methodLink RX5 159 yX1_take ∈ lwG := inG (List.mem_append_right _ (List.mem_of_getElem? (i := 305) (by decide +kernel))) rfl
theorem m_im_X1_take : Cond.instanceMethod yX1_take ∈ lwG := inG (List.mem_append_right _ (List.mem_of_getElem? (i := 306) (by decide +kernel))) rfl
theorem m_se_X1_take : Cond.selects yX1_take.cls yX1_take yX1_take ∈ lwG := inG (List.mem_append_right _ (List.mem_of_getElem? (i := 307) (by decide +kernel))) rfl
set_option maxRecDepth 20000 in
theorem m_co_X1_take : Cond.code yX1_take cX1_take 5 none ∈ lwG := inG (List.mem_append_right _ (List.mem_of_getElem? (i := 308) rfl)) rfl
theorem m_ml_X1_35 : Cond.methodLink RX1 35 yX3_readAt ∈ lwG := inG (List.mem_append_right _ (List.mem_of_getElem? (i := 309) (by decide +kernel))) rfl
theorem m_ml_X5_218 : Cond.methodLink RX5 218 yX1_find ∈ lwG := inG (List.mem_append_right _ (List.mem_of_getElem? (i := 310) (by decide +kernel))) rfl
theorem m_im_X1_find : Cond.instanceMethod yX1_find ∈ lwG := inG (List.mem_append_right _ (List.mem_of_getElem? (i := 311) (by decide +kernel))) rfl
theorem m_se_X1_find : Cond.selects yX1_find.cls yX1_find yX1_find ∈ lwG := inG (List.mem_append_right _ (List.mem_of_getElem? (i := 312) (by decide +kernel))) rfl
set_option maxRecDepth 20000 in
theorem m_co_X1_find : Cond.code yX1_find cX1_find 8 none ∈ lwG := inG (List.mem_append_right _ (List.mem_of_getElem? (i := 313) rfl)) rfl
theorem m_ml_X1_41 : Cond.methodLink RX1 41 yX1_start ∈ lwG := inG (List.mem_append_right _ (List.mem_of_getElem? (i := 314) (by decide +kernel))) rfl
theorem m_im_X1_start : Cond.instanceMethod yX1_start ∈ lwG := inG (List.mem_append_right _ (List.mem_of_getElem? (i := 316) (by decide +kernel))) rfl
set_option maxRecDepth 20000 in
theorem m_co_X1_start : Cond.code yX1_start cX1_start 2 none ∈ lwG := inG (List.mem_append_right _ (List.mem_of_getElem? (i := 317) rfl)) rfl
theorem m_ml_X1_47 : Cond.methodLink RX1 47 yX1_missAt ∈ lwG := inG (List.mem_append_right _ (List.mem_of_getElem? (i := 318) (by decide +kernel))) rfl
theorem m_im_X1_missAt : Cond.instanceMethod yX1_missAt ∈ lwG := inG (List.mem_append_right _ (List.mem_of_getElem? (i := 320) (by decide +kernel))) rfl
set_option maxRecDepth 20000 in
theorem m_co_X1_missAt : Cond.code yX1_missAt cX1_missAt 4 (some .int) ∈ lwG := inG (List.mem_append_right _ (List.mem_of_getElem? (i := 321) rfl)) rfl
theorem m_ml_X1_67 : Cond.methodLink RX1 67 yX2_of ∈ lwG := inG (List.mem_append_right _ (List.mem_of_getElem? (i := 322) (by decide +kernel))) rfl
theorem m_ml_X1_50 : Cond.methodLink RX1 50 yJ9_max_7cf53 ∈ lwG := inG (List.mem_append_right _ (List.mem_of_getElem? (i := 323) (by decide +kernel))) rfl
theorem m_st_J9_max_7cf53 : Cond.static yJ9_max_7cf53 ∈ lwG := inG (List.mem_append_right _ (List.mem_of_getElem? (i := 324) (by decide +kernel))) rfl
set_option maxRecDepth 20000 in
theorem m_co_J9_max_7cf53 : Cond.code yJ9_max_7cf53 cJ9_max_7cf53 2 (some .int) ∈ lwG := inG (List.mem_append_right _ (List.mem_of_getElem? (i := 325) rfl)) rfl
theorem m_ml_X1_56 : Cond.methodLink RX1 56 arraycopyName ∈ lwG := inG (List.mem_append_right _ (List.mem_of_getElem? (i := 326) (by decide +kernel))) rfl
theorem m_st_arraycopy : Cond.static arraycopyName ∈ lwG := inG (List.mem_append_right _ (List.mem_of_getElem? (i := 327) (by decide +kernel))) rfl
theorem m_na_arraycopy : Cond.native arraycopyName ∈ lwG := inG (List.mem_append_right _ (List.mem_of_getElem? (i := 328) (by decide +kernel))) rfl
theorem m_ml_X1_62 : Cond.methodLink RX1 62 yX2_inverse ∈ lwG := inG (List.mem_append_right _ (List.mem_of_getElem? (i := 329) (by decide +kernel))) rfl
theorem m_im_X2_inverse : Cond.instanceMethod yX2_inverse ∈ lwG := inG (List.mem_append_right _ (List.mem_of_getElem? (i := 330) (by decide +kernel))) rfl
theorem m_se_X2_inverse : Cond.selects yX2_inverse.cls yX2_inverse yX2_inverse ∈ lwG := inG (List.mem_append_right _ (List.mem_of_getElem? (i := 331) (by decide +kernel))) rfl
set_option maxRecDepth 20000 in
theorem m_co_X2_inverse : Cond.code yX2_inverse cX2_inverse 2 (some .int) ∈ lwG := inG (List.mem_append_right _ (List.mem_of_getElem? (i := 332) rfl)) rfl
theorem m_ml_X2_27 : Cond.methodLink RX2 27 yX2_isFactor ∈ lwG := inG (List.mem_append_right _ (List.mem_of_getElem? (i := 333) (by decide +kernel))) rfl
theorem m_ml_X1_70 : Cond.methodLink RX1 70 yX1_correct ∈ lwG := inG (List.mem_append_right _ (List.mem_of_getElem? (i := 334) (by decide +kernel))) rfl
theorem m_im_X1_correct : Cond.instanceMethod yX1_correct ∈ lwG := inG (List.mem_append_right _ (List.mem_of_getElem? (i := 336) (by decide +kernel))) rfl
set_option maxRecDepth 20000 in
theorem m_co_X1_correct : Cond.code yX1_correct cX1_correct 6 none ∈ lwG := inG (List.mem_append_right _ (List.mem_of_getElem? (i := 337) rfl)) rfl
theorem m_ml_X1_74 : Cond.methodLink RX1 74 yX1_keepSpare ∈ lwG := inG (List.mem_append_right _ (List.mem_of_getElem? (i := 338) (by decide +kernel))) rfl
theorem m_im_X1_keepSpare : Cond.instanceMethod yX1_keepSpare ∈ lwG := inG (List.mem_append_right _ (List.mem_of_getElem? (i := 340) (by decide +kernel))) rfl
set_option maxRecDepth 20000 in
theorem m_co_X1_keepSpare : Cond.code yX1_keepSpare cX1_keepSpare 2 none ∈ lwG := inG (List.mem_append_right _ (List.mem_of_getElem? (i := 341) rfl)) rfl
theorem m_ml_L_52 : Cond.methodLink RL 52 yX5_law ∈ lwG := inG (List.mem_append_right _ (List.mem_of_getElem? (i := 342) (by decide +kernel))) rfl
theorem m_im_X5_law : Cond.instanceMethod yX5_law ∈ lwG := inG (List.mem_append_right _ (List.mem_of_getElem? (i := 343) (by decide +kernel))) rfl
theorem m_se_X5_law : Cond.selects yX5_law.cls yX5_law yX5_law ∈ lwG := inG (List.mem_append_right _ (List.mem_of_getElem? (i := 344) (by decide +kernel))) rfl
set_option maxRecDepth 20000 in
theorem m_co_X5_law : Cond.code yX5_law cX5_law 5 (some .int) ∈ lwG := inG (List.mem_append_right _ (List.mem_of_getElem? (i := 345) rfl)) rfl
theorem m_ml_X5_130 : Cond.methodLink RX5 130 yX1_isOne ∈ lwG := inG (List.mem_append_right _ (List.mem_of_getElem? (i := 346) (by decide +kernel))) rfl
theorem m_im_X1_isOne : Cond.instanceMethod yX1_isOne ∈ lwG := inG (List.mem_append_right _ (List.mem_of_getElem? (i := 347) (by decide +kernel))) rfl
theorem m_se_X1_isOne : Cond.selects yX1_isOne.cls yX1_isOne yX1_isOne ∈ lwG := inG (List.mem_append_right _ (List.mem_of_getElem? (i := 348) (by decide +kernel))) rfl
set_option maxRecDepth 20000 in
theorem m_co_X1_isOne : Cond.code yX1_isOne cX1_isOne 1 (some .boolean) ∈ lwG := inG (List.mem_append_right _ (List.mem_of_getElem? (i := 349) rfl)) rfl
theorem m_ml_X5_134 : Cond.methodLink RX5 134 yX1_coefficient ∈ lwG := inG (List.mem_append_right _ (List.mem_of_getElem? (i := 350) (by decide +kernel))) rfl
theorem m_im_X1_coefficient : Cond.instanceMethod yX1_coefficient ∈ lwG := inG (List.mem_append_right _ (List.mem_of_getElem? (i := 351) (by decide +kernel))) rfl
theorem m_se_X1_coefficient : Cond.selects yX1_coefficient.cls yX1_coefficient yX1_coefficient ∈ lwG := inG (List.mem_append_right _ (List.mem_of_getElem? (i := 352) (by decide +kernel))) rfl
set_option maxRecDepth 20000 in
theorem m_co_X1_coefficient : Cond.code yX1_coefficient cX1_coefficient 2 (some .int) ∈ lwG := inG (List.mem_append_right _ (List.mem_of_getElem? (i := 353) rfl)) rfl
theorem m_ml_L_57 : Cond.methodLink RL 57 yX5_slant ∈ lwG := inG (List.mem_append_right _ (List.mem_of_getElem? (i := 354) (by decide +kernel))) rfl
theorem m_im_X5_slant : Cond.instanceMethod yX5_slant ∈ lwG := inG (List.mem_append_right _ (List.mem_of_getElem? (i := 355) (by decide +kernel))) rfl
theorem m_se_X5_slant : Cond.selects yX5_slant.cls yX5_slant yX5_slant ∈ lwG := inG (List.mem_append_right _ (List.mem_of_getElem? (i := 356) (by decide +kernel))) rfl
set_option maxRecDepth 20000 in
theorem m_co_X5_slant : Cond.code yX5_slant cX5_slant 5 (some .int) ∈ lwG := inG (List.mem_append_right _ (List.mem_of_getElem? (i := 357) rfl)) rfl
theorem m_ml_X5_137 : Cond.methodLink RX5 137 yX5_findSlants ∈ lwG := inG (List.mem_append_right _ (List.mem_of_getElem? (i := 358) (by decide +kernel))) rfl
theorem m_im_X5_findSlants : Cond.instanceMethod yX5_findSlants ∈ lwG := inG (List.mem_append_right _ (List.mem_of_getElem? (i := 360) (by decide +kernel))) rfl
set_option maxRecDepth 20000 in
theorem m_co_X5_findSlants : Cond.code yX5_findSlants cX5_findSlants 4 (some .int) ∈ lwG := inG (List.mem_append_right _ (List.mem_of_getElem? (i := 361) rfl)) rfl
theorem m_ml_X5_221 : Cond.methodLink RX5 221 yX1_findSlants ∈ lwG := inG (List.mem_append_right _ (List.mem_of_getElem? (i := 362) (by decide +kernel))) rfl
theorem m_im_X1_findSlants : Cond.instanceMethod yX1_findSlants ∈ lwG := inG (List.mem_append_right _ (List.mem_of_getElem? (i := 363) (by decide +kernel))) rfl
theorem m_se_X1_findSlants : Cond.selects yX1_findSlants.cls yX1_findSlants yX1_findSlants ∈ lwG := inG (List.mem_append_right _ (List.mem_of_getElem? (i := 364) (by decide +kernel))) rfl
set_option maxRecDepth 20000 in
theorem m_co_X1_findSlants : Cond.code yX1_findSlants cX1_findSlants 2 none ∈ lwG := inG (List.mem_append_right _ (List.mem_of_getElem? (i := 365) rfl)) rfl
theorem m_ml_X1_83 : Cond.methodLink RX1 83 yX1_hasRoot ∈ lwG := inG (List.mem_append_right _ (List.mem_of_getElem? (i := 366) (by decide +kernel))) rfl
theorem m_im_X1_hasRoot : Cond.instanceMethod yX1_hasRoot ∈ lwG := inG (List.mem_append_right _ (List.mem_of_getElem? (i := 368) (by decide +kernel))) rfl
set_option maxRecDepth 20000 in
theorem m_co_X1_hasRoot : Cond.code yX1_hasRoot cX1_hasRoot 4 (some .boolean) ∈ lwG := inG (List.mem_append_right _ (List.mem_of_getElem? (i := 369) rfl)) rfl
theorem m_ml_X5_143 : Cond.methodLink RX5 143 yX1_slantAt ∈ lwG := inG (List.mem_append_right _ (List.mem_of_getElem? (i := 370) (by decide +kernel))) rfl
theorem m_im_X1_slantAt : Cond.instanceMethod yX1_slantAt ∈ lwG := inG (List.mem_append_right _ (List.mem_of_getElem? (i := 371) (by decide +kernel))) rfl
theorem m_se_X1_slantAt : Cond.selects yX1_slantAt.cls yX1_slantAt yX1_slantAt ∈ lwG := inG (List.mem_append_right _ (List.mem_of_getElem? (i := 372) (by decide +kernel))) rfl
set_option maxRecDepth 20000 in
theorem m_co_X1_slantAt : Cond.code yX1_slantAt cX1_slantAt 2 (some .int) ∈ lwG := inG (List.mem_append_right _ (List.mem_of_getElem? (i := 373) rfl)) rfl
theorem m_ml_L_61 : Cond.methodLink RL 61 yX5_strength ∈ lwG := inG (List.mem_append_right _ (List.mem_of_getElem? (i := 374) (by decide +kernel))) rfl
theorem m_im_X5_strength : Cond.instanceMethod yX5_strength ∈ lwG := inG (List.mem_append_right _ (List.mem_of_getElem? (i := 375) (by decide +kernel))) rfl
theorem m_se_X5_strength : Cond.selects yX5_strength.cls yX5_strength yX5_strength ∈ lwG := inG (List.mem_append_right _ (List.mem_of_getElem? (i := 376) (by decide +kernel))) rfl
set_option maxRecDepth 20000 in
theorem m_co_X5_strength : Cond.code yX5_strength cX5_strength 6 (some .int) ∈ lwG := inG (List.mem_append_right _ (List.mem_of_getElem? (i := 377) rfl)) rfl
theorem m_ml_X5_146 : Cond.methodLink RX5 146 yX1_isFull ∈ lwG := inG (List.mem_append_right _ (List.mem_of_getElem? (i := 378) (by decide +kernel))) rfl
theorem m_im_X1_isFull : Cond.instanceMethod yX1_isFull ∈ lwG := inG (List.mem_append_right _ (List.mem_of_getElem? (i := 379) (by decide +kernel))) rfl
theorem m_se_X1_isFull : Cond.selects yX1_isFull.cls yX1_isFull yX1_isFull ∈ lwG := inG (List.mem_append_right _ (List.mem_of_getElem? (i := 380) (by decide +kernel))) rfl
set_option maxRecDepth 20000 in
theorem m_co_X1_isFull : Cond.code yX1_isFull cX1_isFull 1 (some .boolean) ∈ lwG := inG (List.mem_append_right _ (List.mem_of_getElem? (i := 381) rfl)) rfl
theorem m_ml_X5_149 : Cond.methodLink RX5 149 yX1_strengthOf ∈ lwG := inG (List.mem_append_right _ (List.mem_of_getElem? (i := 382) (by decide +kernel))) rfl
theorem m_im_X1_strengthOf : Cond.instanceMethod yX1_strengthOf ∈ lwG := inG (List.mem_append_right _ (List.mem_of_getElem? (i := 383) (by decide +kernel))) rfl
theorem m_se_X1_strengthOf : Cond.selects yX1_strengthOf.cls yX1_strengthOf yX1_strengthOf ∈ lwG := inG (List.mem_append_right _ (List.mem_of_getElem? (i := 384) (by decide +kernel))) rfl
set_option maxRecDepth 20000 in
theorem m_co_X1_strengthOf : Cond.code yX1_strengthOf cX1_strengthOf 7 (some .int) ∈ lwG := inG (List.mem_append_right _ (List.mem_of_getElem? (i := 385) rfl)) rfl
theorem m_ml_X1_87 : Cond.methodLink RX1 87 yX2_power ∈ lwG := inG (List.mem_append_right _ (List.mem_of_getElem? (i := 386) (by decide +kernel))) rfl
theorem m_ml_L_65 : Cond.methodLink RL 65 yX5_mended ∈ lwG := inG (List.mem_append_right _ (List.mem_of_getElem? (i := 387) (by decide +kernel))) rfl
theorem m_im_X5_mended : Cond.instanceMethod yX5_mended ∈ lwG := inG (List.mem_append_right _ (List.mem_of_getElem? (i := 388) (by decide +kernel))) rfl
theorem m_se_X5_mended : Cond.selects yX5_mended.cls yX5_mended yX5_mended ∈ lwG := inG (List.mem_append_right _ (List.mem_of_getElem? (i := 389) (by decide +kernel))) rfl
set_option maxRecDepth 20000 in
theorem m_co_X5_mended : Cond.code yX5_mended cX5_mended 5 (some .int) ∈ lwG := inG (List.mem_append_right _ (List.mem_of_getElem? (i := 390) rfl)) rfl
theorem m_ml_X5_163 : Cond.methodLink RX5 163 yX1_mend ∈ lwG := inG (List.mem_append_right _ (List.mem_of_getElem? (i := 391) (by decide +kernel))) rfl
theorem m_im_X1_mend : Cond.instanceMethod yX1_mend ∈ lwG := inG (List.mem_append_right _ (List.mem_of_getElem? (i := 392) (by decide +kernel))) rfl
theorem m_se_X1_mend : Cond.selects yX1_mend.cls yX1_mend yX1_mend ∈ lwG := inG (List.mem_append_right _ (List.mem_of_getElem? (i := 393) (by decide +kernel))) rfl
set_option maxRecDepth 20000 in
theorem m_co_X1_mend : Cond.code yX1_mend cX1_mend 7 (some .int) ∈ lwG := inG (List.mem_append_right _ (List.mem_of_getElem? (i := 394) rfl)) rfl
theorem m_ml_X1_90 : Cond.methodLink RX1 90 yX1_find ∈ lwG := inG (List.mem_append_right _ (List.mem_of_getElem? (i := 395) (by decide +kernel))) rfl
theorem m_ml_L_70 : Cond.methodLink RL 70 yX5_tune ∈ lwG := inG (List.mem_append_right _ (List.mem_of_getElem? (i := 396) (by decide +kernel))) rfl
theorem m_im_X5_tune : Cond.instanceMethod yX5_tune ∈ lwG := inG (List.mem_append_right _ (List.mem_of_getElem? (i := 397) (by decide +kernel))) rfl
theorem m_se_X5_tune : Cond.selects yX5_tune.cls yX5_tune yX5_tune ∈ lwG := inG (List.mem_append_right _ (List.mem_of_getElem? (i := 398) (by decide +kernel))) rfl
set_option maxRecDepth 20000 in
theorem m_co_X5_tune : Cond.code yX5_tune cX5_tune 2 (some .int) ∈ lwG := inG (List.mem_append_right _ (List.mem_of_getElem? (i := 399) rfl)) rfl
theorem m_ml_X5_166 : Cond.methodLink RX5 166 yX3_hasSilentHearer ∈ lwG := inG (List.mem_append_right _ (List.mem_of_getElem? (i := 400) (by decide +kernel))) rfl
theorem m_im_X3_hasSilentHearer : Cond.instanceMethod yX3_hasSilentHearer ∈ lwG := inG (List.mem_append_right _ (List.mem_of_getElem? (i := 401) (by decide +kernel))) rfl
theorem m_se_X3_hasSilentHearer : Cond.selects yX3_hasSilentHearer.cls yX3_hasSilentHearer yX3_hasSilentHearer ∈ lwG := inG (List.mem_append_right _ (List.mem_of_getElem? (i := 402) (by decide +kernel))) rfl
set_option maxRecDepth 20000 in
theorem m_co_X3_hasSilentHearer : Cond.code yX3_hasSilentHearer cX3_hasSilentHearer 2 (some .boolean) ∈ lwG := inG (List.mem_append_right _ (List.mem_of_getElem? (i := 403) rfl)) rfl
theorem m_ml_X3_62 : Cond.methodLink RX3 62 yX3_readAt ∈ lwG := inG (List.mem_append_right _ (List.mem_of_getElem? (i := 404) (by decide +kernel))) rfl
theorem m_ml_X5_169 : Cond.methodLink RX5 169 yX3_tuneTo ∈ lwG := inG (List.mem_append_right _ (List.mem_of_getElem? (i := 405) (by decide +kernel))) rfl
theorem m_im_X3_tuneTo : Cond.instanceMethod yX3_tuneTo ∈ lwG := inG (List.mem_append_right _ (List.mem_of_getElem? (i := 406) (by decide +kernel))) rfl
theorem m_se_X3_tuneTo : Cond.selects yX3_tuneTo.cls yX3_tuneTo yX3_tuneTo ∈ lwG := inG (List.mem_append_right _ (List.mem_of_getElem? (i := 407) (by decide +kernel))) rfl
set_option maxRecDepth 20000 in
theorem m_co_X3_tuneTo : Cond.code yX3_tuneTo cX3_tuneTo 6 (some .int) ∈ lwG := inG (List.mem_append_right _ (List.mem_of_getElem? (i := 408) rfl)) rfl
theorem m_ml_X3_65 : Cond.methodLink RX3 65 yX2_inverse ∈ lwG := inG (List.mem_append_right _ (List.mem_of_getElem? (i := 409) (by decide +kernel))) rfl
theorem m_ml_L_74 : Cond.methodLink RL 74 yX5_twin ∈ lwG := inG (List.mem_append_right _ (List.mem_of_getElem? (i := 410) (by decide +kernel))) rfl
theorem m_im_X5_twin : Cond.instanceMethod yX5_twin ∈ lwG := inG (List.mem_append_right _ (List.mem_of_getElem? (i := 411) (by decide +kernel))) rfl
theorem m_se_X5_twin : Cond.selects yX5_twin.cls yX5_twin yX5_twin ∈ lwG := inG (List.mem_append_right _ (List.mem_of_getElem? (i := 412) (by decide +kernel))) rfl
set_option maxRecDepth 20000 in
theorem m_co_X5_twin : Cond.code yX5_twin cX5_twin 3 (some .int) ∈ lwG := inG (List.mem_append_right _ (List.mem_of_getElem? (i := 413) rfl)) rfl
theorem m_ml_X5_172 : Cond.methodLink RX5 172 yX3_twinAt ∈ lwG := inG (List.mem_append_right _ (List.mem_of_getElem? (i := 414) (by decide +kernel))) rfl
theorem m_im_X3_twinAt : Cond.instanceMethod yX3_twinAt ∈ lwG := inG (List.mem_append_right _ (List.mem_of_getElem? (i := 415) (by decide +kernel))) rfl
theorem m_se_X3_twinAt : Cond.selects yX3_twinAt.cls yX3_twinAt yX3_twinAt ∈ lwG := inG (List.mem_append_right _ (List.mem_of_getElem? (i := 416) (by decide +kernel))) rfl
set_option maxRecDepth 20000 in
theorem m_co_X3_twinAt : Cond.code yX3_twinAt cX3_twinAt 6 (some .int) ∈ lwG := inG (List.mem_append_right _ (List.mem_of_getElem? (i := 417) rfl)) rfl
theorem m_ml_L_78 : Cond.methodLink RL 78 yX5_weight ∈ lwG := inG (List.mem_append_right _ (List.mem_of_getElem? (i := 418) (by decide +kernel))) rfl
theorem m_im_X5_weight : Cond.instanceMethod yX5_weight ∈ lwG := inG (List.mem_append_right _ (List.mem_of_getElem? (i := 419) (by decide +kernel))) rfl
theorem m_se_X5_weight : Cond.selects yX5_weight.cls yX5_weight yX5_weight ∈ lwG := inG (List.mem_append_right _ (List.mem_of_getElem? (i := 420) (by decide +kernel))) rfl
set_option maxRecDepth 20000 in
theorem m_co_X5_weight : Cond.code yX5_weight cX5_weight 2 (some .int) ∈ lwG := inG (List.mem_append_right _ (List.mem_of_getElem? (i := 421) rfl)) rfl
theorem m_ml_X5_175 : Cond.methodLink RX5 175 yX0_pairs ∈ lwG := inG (List.mem_append_right _ (List.mem_of_getElem? (i := 422) (by decide +kernel))) rfl
theorem m_ml_L_82 : Cond.methodLink RL 82 yX5_best ∈ lwG := inG (List.mem_append_right _ (List.mem_of_getElem? (i := 423) (by decide +kernel))) rfl
theorem m_im_X5_best : Cond.instanceMethod yX5_best ∈ lwG := inG (List.mem_append_right _ (List.mem_of_getElem? (i := 424) (by decide +kernel))) rfl
theorem m_se_X5_best : Cond.selects yX5_best.cls yX5_best yX5_best ∈ lwG := inG (List.mem_append_right _ (List.mem_of_getElem? (i := 425) (by decide +kernel))) rfl
set_option maxRecDepth 20000 in
theorem m_co_X5_best : Cond.code yX5_best cX5_best 3 (some .int) ∈ lwG := inG (List.mem_append_right _ (List.mem_of_getElem? (i := 426) rfl)) rfl
theorem m_ml_X5_178 : Cond.methodLink RX5 178 yX0_bestPlace ∈ lwG := inG (List.mem_append_right _ (List.mem_of_getElem? (i := 427) (by decide +kernel))) rfl
theorem m_st_X0_bestPlace : Cond.static yX0_bestPlace ∈ lwG := inG (List.mem_append_right _ (List.mem_of_getElem? (i := 428) (by decide +kernel))) rfl
set_option maxRecDepth 20000 in
theorem m_co_X0_bestPlace : Cond.code yX0_bestPlace cX0_bestPlace 5 (some .int) ∈ lwG := inG (List.mem_append_right _ (List.mem_of_getElem? (i := 429) rfl)) rfl
theorem m_ml_X0_27 : Cond.methodLink RX0 27 yX0_reach ∈ lwG := inG (List.mem_append_right _ (List.mem_of_getElem? (i := 430) (by decide +kernel))) rfl
theorem m_ml_L_86 : Cond.methodLink RL 86 yX5_station ∈ lwG := inG (List.mem_append_right _ (List.mem_of_getElem? (i := 431) (by decide +kernel))) rfl
theorem m_im_X5_station : Cond.instanceMethod yX5_station ∈ lwG := inG (List.mem_append_right _ (List.mem_of_getElem? (i := 432) (by decide +kernel))) rfl
theorem m_se_X5_station : Cond.selects yX5_station.cls yX5_station yX5_station ∈ lwG := inG (List.mem_append_right _ (List.mem_of_getElem? (i := 433) (by decide +kernel))) rfl
set_option maxRecDepth 20000 in
theorem m_co_X5_station : Cond.code yX5_station cX5_station 5 (some .int) ∈ lwG := inG (List.mem_append_right _ (List.mem_of_getElem? (i := 434) rfl)) rfl
theorem m_ml_X5_181 : Cond.methodLink RX5 181 yX5_isNear ∈ lwG := inG (List.mem_append_right _ (List.mem_of_getElem? (i := 435) (by decide +kernel))) rfl
theorem m_st_X5_isNear : Cond.static yX5_isNear ∈ lwG := inG (List.mem_append_right _ (List.mem_of_getElem? (i := 436) (by decide +kernel))) rfl
set_option maxRecDepth 20000 in
theorem m_co_X5_isNear : Cond.code yX5_isNear cX5_isNear 1 (some .boolean) ∈ lwG := inG (List.mem_append_right _ (List.mem_of_getElem? (i := 437) rfl)) rfl
theorem m_ml_X5_184 : Cond.methodLink RX5 184 yX5_isWay ∈ lwG := inG (List.mem_append_right _ (List.mem_of_getElem? (i := 438) (by decide +kernel))) rfl
theorem m_st_X5_isWay : Cond.static yX5_isWay ∈ lwG := inG (List.mem_append_right _ (List.mem_of_getElem? (i := 439) (by decide +kernel))) rfl
set_option maxRecDepth 20000 in
theorem m_co_X5_isWay : Cond.code yX5_isWay cX5_isWay 2 (some .boolean) ∈ lwG := inG (List.mem_append_right _ (List.mem_of_getElem? (i := 440) rfl)) rfl
theorem m_ml_X5_187 : Cond.methodLink RX5 187 yX4_add ∈ lwG := inG (List.mem_append_right _ (List.mem_of_getElem? (i := 441) (by decide +kernel))) rfl
theorem m_im_X4_add : Cond.instanceMethod yX4_add ∈ lwG := inG (List.mem_append_right _ (List.mem_of_getElem? (i := 442) (by decide +kernel))) rfl
theorem m_se_X4_add : Cond.selects yX4_add.cls yX4_add yX4_add ∈ lwG := inG (List.mem_append_right _ (List.mem_of_getElem? (i := 443) (by decide +kernel))) rfl
set_option maxRecDepth 20000 in
theorem m_co_X4_add : Cond.code yX4_add cX4_add 6 (some .int) ∈ lwG := inG (List.mem_append_right _ (List.mem_of_getElem? (i := 444) rfl)) rfl
theorem m_ml_X4_32 : Cond.methodLink RX4 32 yX4_turn ∈ lwG := inG (List.mem_append_right _ (List.mem_of_getElem? (i := 445) (by decide +kernel))) rfl
theorem m_im_X4_turn : Cond.instanceMethod yX4_turn ∈ lwG := inG (List.mem_append_right _ (List.mem_of_getElem? (i := 446) (by decide +kernel))) rfl
theorem m_se_X4_turn : Cond.selects yX4_turn.cls yX4_turn yX4_turn ∈ lwG := inG (List.mem_append_right _ (List.mem_of_getElem? (i := 447) (by decide +kernel))) rfl
set_option maxRecDepth 20000 in
theorem m_co_X4_turn : Cond.code yX4_turn cX4_turn 4 none ∈ lwG := inG (List.mem_append_right _ (List.mem_of_getElem? (i := 448) rfl)) rfl
theorem m_ml_L_90 : Cond.methodLink RL 90 yX5_look ∈ lwG := inG (List.mem_append_right _ (List.mem_of_getElem? (i := 449) (by decide +kernel))) rfl
theorem m_im_X5_look : Cond.instanceMethod yX5_look ∈ lwG := inG (List.mem_append_right _ (List.mem_of_getElem? (i := 450) (by decide +kernel))) rfl
theorem m_se_X5_look : Cond.selects yX5_look.cls yX5_look yX5_look ∈ lwG := inG (List.mem_append_right _ (List.mem_of_getElem? (i := 451) (by decide +kernel))) rfl
set_option maxRecDepth 20000 in
theorem m_co_X5_look : Cond.code yX5_look cX5_look 4 (some .int) ∈ lwG := inG (List.mem_append_right _ (List.mem_of_getElem? (i := 452) rfl)) rfl
theorem m_ml_X5_191 : Cond.methodLink RX5 191 yX4_has ∈ lwG := inG (List.mem_append_right _ (List.mem_of_getElem? (i := 453) (by decide +kernel))) rfl
theorem m_im_X4_has : Cond.instanceMethod yX4_has ∈ lwG := inG (List.mem_append_right _ (List.mem_of_getElem? (i := 454) (by decide +kernel))) rfl
theorem m_se_X4_has : Cond.selects yX4_has.cls yX4_has yX4_has ∈ lwG := inG (List.mem_append_right _ (List.mem_of_getElem? (i := 455) (by decide +kernel))) rfl
set_option maxRecDepth 20000 in
theorem m_co_X4_has : Cond.code yX4_has cX4_has 2 (some .boolean) ∈ lwG := inG (List.mem_append_right _ (List.mem_of_getElem? (i := 456) rfl)) rfl
theorem m_ml_X5_194 : Cond.methodLink RX5 194 yX4_turn ∈ lwG := inG (List.mem_append_right _ (List.mem_of_getElem? (i := 457) (by decide +kernel))) rfl
theorem m_ml_L_94 : Cond.methodLink RL 94 yX5_crossing ∈ lwG := inG (List.mem_append_right _ (List.mem_of_getElem? (i := 458) (by decide +kernel))) rfl
theorem m_im_X5_crossing : Cond.instanceMethod yX5_crossing ∈ lwG := inG (List.mem_append_right _ (List.mem_of_getElem? (i := 459) (by decide +kernel))) rfl
theorem m_se_X5_crossing : Cond.selects yX5_crossing.cls yX5_crossing yX5_crossing ∈ lwG := inG (List.mem_append_right _ (List.mem_of_getElem? (i := 460) (by decide +kernel))) rfl
set_option maxRecDepth 20000 in
theorem m_co_X5_crossing : Cond.code yX5_crossing cX5_crossing 4 (some .long) ∈ lwG := inG (List.mem_append_right _ (List.mem_of_getElem? (i := 461) rfl)) rfl
theorem m_cn_X5_198 : Cond.constantLong RX5 198 (-1001) ∈ lwG := inG (List.mem_append_right _ (List.mem_of_getElem? (i := 462) (by decide +kernel))) rfl
theorem m_cn_X5_200 : Cond.constantLong RX5 200 (-1002) ∈ lwG := inG (List.mem_append_right _ (List.mem_of_getElem? (i := 463) (by decide +kernel))) rfl
theorem m_ml_X5_202 : Cond.methodLink RX5 202 yX4_cross ∈ lwG := inG (List.mem_append_right _ (List.mem_of_getElem? (i := 464) (by decide +kernel))) rfl
theorem m_im_X4_cross : Cond.instanceMethod yX4_cross ∈ lwG := inG (List.mem_append_right _ (List.mem_of_getElem? (i := 465) (by decide +kernel))) rfl
theorem m_se_X4_cross : Cond.selects yX4_cross.cls yX4_cross yX4_cross ∈ lwG := inG (List.mem_append_right _ (List.mem_of_getElem? (i := 466) (by decide +kernel))) rfl
set_option maxRecDepth 20000 in
theorem m_co_X4_cross : Cond.code yX4_cross cX4_cross 13 (some .boolean) ∈ lwG := inG (List.mem_append_right _ (List.mem_of_getElem? (i := 467) rfl)) rfl
theorem m_ml_X5_205 : Cond.methodLink RX5 205 yX4_partOfCross ∈ lwG := inG (List.mem_append_right _ (List.mem_of_getElem? (i := 468) (by decide +kernel))) rfl
theorem m_im_X4_partOfCross : Cond.instanceMethod yX4_partOfCross ∈ lwG := inG (List.mem_append_right _ (List.mem_of_getElem? (i := 469) (by decide +kernel))) rfl
theorem m_se_X4_partOfCross : Cond.selects yX4_partOfCross.cls yX4_partOfCross yX4_partOfCross ∈ lwG := inG (List.mem_append_right _ (List.mem_of_getElem? (i := 470) (by decide +kernel))) rfl
set_option maxRecDepth 20000 in
theorem m_co_X4_partOfCross : Cond.code yX4_partOfCross cX4_partOfCross 6 (some .long) ∈ lwG := inG (List.mem_append_right _ (List.mem_of_getElem? (i := 471) rfl)) rfl
theorem m_ml_X4_42 : Cond.methodLink RX4 42 yJ9_abs_067f4 ∈ lwG := inG (List.mem_append_right _ (List.mem_of_getElem? (i := 472) (by decide +kernel))) rfl
theorem m_st_J9_abs_067f4 : Cond.static yJ9_abs_067f4 ∈ lwG := inG (List.mem_append_right _ (List.mem_of_getElem? (i := 473) (by decide +kernel))) rfl
set_option maxRecDepth 20000 in
theorem m_co_J9_abs_067f4 : Cond.code yJ9_abs_067f4 cJ9_abs_067f4 2 (some .long) ∈ lwG := inG (List.mem_append_right _ (List.mem_of_getElem? (i := 474) rfl)) rfl
theorem m_cn_X4_52 : Cond.constantLong RX4 52 (-1003) ∈ lwG := inG (List.mem_append_right _ (List.mem_of_getElem? (i := 476) (by decide +kernel))) rfl
theorem m_cn_X5_209 : Cond.constantLong RX5 209 (-1003) ∈ lwG := inG (List.mem_append_right _ (List.mem_of_getElem? (i := 477) (by decide +kernel))) rfl
theorem m_ml_L_99 : Cond.methodLink RL 99 yX5_borne ∈ lwG := inG (List.mem_append_right _ (List.mem_of_getElem? (i := 478) (by decide +kernel))) rfl
theorem m_im_X5_borne : Cond.instanceMethod yX5_borne ∈ lwG := inG (List.mem_append_right _ (List.mem_of_getElem? (i := 479) (by decide +kernel))) rfl
theorem m_se_X5_borne : Cond.selects yX5_borne.cls yX5_borne yX5_borne ∈ lwG := inG (List.mem_append_right _ (List.mem_of_getElem? (i := 480) (by decide +kernel))) rfl
set_option maxRecDepth 20000 in
theorem m_co_X5_borne : Cond.code yX5_borne cX5_borne 4 (some .int) ∈ lwG := inG (List.mem_append_right _ (List.mem_of_getElem? (i := 481) rfl)) rfl
theorem m_ml_X5_211 : Cond.methodLink RX5 211 yX4_bearers ∈ lwG := inG (List.mem_append_right _ (List.mem_of_getElem? (i := 482) (by decide +kernel))) rfl
theorem m_im_X4_bearers : Cond.instanceMethod yX4_bearers ∈ lwG := inG (List.mem_append_right _ (List.mem_of_getElem? (i := 483) (by decide +kernel))) rfl
theorem m_se_X4_bearers : Cond.selects yX4_bearers.cls yX4_bearers yX4_bearers ∈ lwG := inG (List.mem_append_right _ (List.mem_of_getElem? (i := 484) (by decide +kernel))) rfl
set_option maxRecDepth 20000 in
theorem m_co_X4_bearers : Cond.code yX4_bearers cX4_bearers 6 (some .int) ∈ lwG := inG (List.mem_append_right _ (List.mem_of_getElem? (i := 485) rfl)) rfl
theorem m_ml_X4_54 : Cond.methodLink RX4 54 yX4_bearsOut ∈ lwG := inG (List.mem_append_right _ (List.mem_of_getElem? (i := 486) (by decide +kernel))) rfl
theorem m_im_X4_bearsOut : Cond.instanceMethod yX4_bearsOut ∈ lwG := inG (List.mem_append_right _ (List.mem_of_getElem? (i := 488) (by decide +kernel))) rfl
set_option maxRecDepth 20000 in
theorem m_co_X4_bearsOut : Cond.code yX4_bearsOut cX4_bearsOut 11 (some .boolean) ∈ lwG := inG (List.mem_append_right _ (List.mem_of_getElem? (i := 489) rfl)) rfl
theorem m_ml_L_103 : Cond.methodLink RL 103 yX5_most ∈ lwG := inG (List.mem_append_right _ (List.mem_of_getElem? (i := 490) (by decide +kernel))) rfl
theorem m_im_X5_most : Cond.instanceMethod yX5_most ∈ lwG := inG (List.mem_append_right _ (List.mem_of_getElem? (i := 491) (by decide +kernel))) rfl
theorem m_se_X5_most : Cond.selects yX5_most.cls yX5_most yX5_most ∈ lwG := inG (List.mem_append_right _ (List.mem_of_getElem? (i := 492) (by decide +kernel))) rfl
set_option maxRecDepth 20000 in
theorem m_co_X5_most : Cond.code yX5_most cX5_most 3 (some .int) ∈ lwG := inG (List.mem_append_right _ (List.mem_of_getElem? (i := 493) rfl)) rfl
theorem m_ml_X5_215 : Cond.methodLink RX5 215 yX4_mostBorne ∈ lwG := inG (List.mem_append_right _ (List.mem_of_getElem? (i := 494) (by decide +kernel))) rfl
theorem m_im_X4_mostBorne : Cond.instanceMethod yX4_mostBorne ∈ lwG := inG (List.mem_append_right _ (List.mem_of_getElem? (i := 495) (by decide +kernel))) rfl
theorem m_se_X4_mostBorne : Cond.selects yX4_mostBorne.cls yX4_mostBorne yX4_mostBorne ∈ lwG := inG (List.mem_append_right _ (List.mem_of_getElem? (i := 496) (by decide +kernel))) rfl
set_option maxRecDepth 20000 in
theorem m_co_X4_mostBorne : Cond.code yX4_mostBorne cX4_mostBorne 9 (some .int) ∈ lwG := inG (List.mem_append_right _ (List.mem_of_getElem? (i := 497) rfl)) rfl
theorem m_ml_X4_58 : Cond.methodLink RX4 58 yX4_cross ∈ lwG := inG (List.mem_append_right _ (List.mem_of_getElem? (i := 498) (by decide +kernel))) rfl
theorem m_ml_X4_61 : Cond.methodLink RX4 61 yX4_bearers ∈ lwG := inG (List.mem_append_right _ (List.mem_of_getElem? (i := 499) (by decide +kernel))) rfl
theorem m_cl_L_10 : Cond.classLink RL 10 RX6 ∈ lwG := inG (List.mem_append_right _ (List.mem_of_getElem? (i := 500) (by decide +kernel))) rfl
theorem m_ib_X6 : Cond.instantiable RX6 22 ∈ lwG := inG (List.mem_append_right _ (List.mem_of_getElem? (i := 501) (by decide +kernel))) rfl
theorem m_ml_L_12 : Cond.methodLink RL 12 yX6_init ∈ lwG := inG (List.mem_append_right _ (List.mem_of_getElem? (i := 502) (by decide +kernel))) rfl
theorem m_im_X6_init : Cond.instanceMethod yX6_init ∈ lwG := inG (List.mem_append_right _ (List.mem_of_getElem? (i := 503) (by decide +kernel))) rfl
set_option maxRecDepth 20000 in
theorem m_co_X6_init : Cond.code yX6_init cX6_init 1 none ∈ lwG := inG (List.mem_append_right _ (List.mem_of_getElem? (i := 504) rfl)) rfl
theorem m_ml_X6_1 : Cond.methodLink RX6 1 objectInit ∈ lwG := inG (List.mem_append_right _ (List.mem_of_getElem? (i := 505) (by decide +kernel))) rfl
theorem m_cn_X6_13 : Cond.constant RX6 13 (65535) ∈ lwG := inG (List.mem_append_right _ (List.mem_of_getElem? (i := 506) (by decide +kernel))) rfl
theorem m_ml_X6_55 : Cond.methodLink RX6 55 yX6_clear ∈ lwG := inG (List.mem_append_right _ (List.mem_of_getElem? (i := 507) (by decide +kernel))) rfl
theorem m_im_X6_clear : Cond.instanceMethod yX6_clear ∈ lwG := inG (List.mem_append_right _ (List.mem_of_getElem? (i := 509) (by decide +kernel))) rfl
set_option maxRecDepth 20000 in
theorem m_co_X6_clear : Cond.code yX6_clear cX6_clear 2 none ∈ lwG := inG (List.mem_append_right _ (List.mem_of_getElem? (i := 510) rfl)) rfl
theorem m_fl_X6_7 : Cond.fieldLink RX6 7 "SenderRowsModel" "p" "I" ∈ lwG := inG (List.mem_append_right _ (List.mem_of_getElem? (i := 511) (by decide +kernel))) rfl
theorem m_fl_X6_14 : Cond.fieldLink RX6 14 "SenderRowsModel" "set" "I" ∈ lwG := inG (List.mem_append_right _ (List.mem_of_getElem? (i := 512) (by decide +kernel))) rfl
theorem m_fl_X6_58 : Cond.fieldLink RX6 58 "SenderRowsModel" "senders" "I" ∈ lwG := inG (List.mem_append_right _ (List.mem_of_getElem? (i := 513) (by decide +kernel))) rfl
theorem m_fl_X6_17 : Cond.fieldLink RX6 17 "SenderRowsModel" "slants" "[I" ∈ lwG := inG (List.mem_append_right _ (List.mem_of_getElem? (i := 514) (by decide +kernel))) rfl
theorem m_fl_X6_21 : Cond.fieldLink RX6 21 "SenderRowsModel" "strengths" "[I" ∈ lwG := inG (List.mem_append_right _ (List.mem_of_getElem? (i := 515) (by decide +kernel))) rfl
theorem m_fl_X6_24 : Cond.fieldLink RX6 24 "SenderRowsModel" "gains" "[I" ∈ lwG := inG (List.mem_append_right _ (List.mem_of_getElem? (i := 516) (by decide +kernel))) rfl
theorem m_fl_X6_27 : Cond.fieldLink RX6 27 "SenderRowsModel" "hands" "[I" ∈ lwG := inG (List.mem_append_right _ (List.mem_of_getElem? (i := 517) (by decide +kernel))) rfl
theorem m_fl_X6_99 : Cond.fieldLink RX6 99 "SenderRowsModel" "stations" "I" ∈ lwG := inG (List.mem_append_right _ (List.mem_of_getElem? (i := 518) (by decide +kernel))) rfl
theorem m_fl_X6_30 : Cond.fieldLink RX6 30 "SenderRowsModel" "xs" "[J" ∈ lwG := inG (List.mem_append_right _ (List.mem_of_getElem? (i := 519) (by decide +kernel))) rfl
theorem m_fl_X6_34 : Cond.fieldLink RX6 34 "SenderRowsModel" "ys" "[J" ∈ lwG := inG (List.mem_append_right _ (List.mem_of_getElem? (i := 520) (by decide +kernel))) rfl
theorem m_fl_X6_37 : Cond.fieldLink RX6 37 "SenderRowsModel" "us" "[J" ∈ lwG := inG (List.mem_append_right _ (List.mem_of_getElem? (i := 521) (by decide +kernel))) rfl
theorem m_fl_X6_40 : Cond.fieldLink RX6 40 "SenderRowsModel" "vs" "[J" ∈ lwG := inG (List.mem_append_right _ (List.mem_of_getElem? (i := 522) (by decide +kernel))) rfl
theorem m_fl_X6_43 : Cond.fieldLink RX6 43 "SenderRowsModel" "reads" "[I" ∈ lwG := inG (List.mem_append_right _ (List.mem_of_getElem? (i := 523) (by decide +kernel))) rfl
theorem m_fl_X6_109 : Cond.fieldLink RX6 109 "SenderRowsModel" "many" "I" ∈ lwG := inG (List.mem_append_right _ (List.mem_of_getElem? (i := 524) (by decide +kernel))) rfl
theorem m_fl_X6_122 : Cond.fieldLink RX6 122 "SenderRowsModel" "order" "I" ∈ lwG := inG (List.mem_append_right _ (List.mem_of_getElem? (i := 525) (by decide +kernel))) rfl
theorem m_fl_X6_46 : Cond.fieldLink RX6 46 "SenderRowsModel" "law" "[I" ∈ lwG := inG (List.mem_append_right _ (List.mem_of_getElem? (i := 526) (by decide +kernel))) rfl
theorem m_fl_X6_49 : Cond.fieldLink RX6 49 "SenderRowsModel" "rows" "[I" ∈ lwG := inG (List.mem_append_right _ (List.mem_of_getElem? (i := 527) (by decide +kernel))) rfl
theorem m_fl_X6_52 : Cond.fieldLink RX6 52 "SenderRowsModel" "found" "[I" ∈ lwG := inG (List.mem_append_right _ (List.mem_of_getElem? (i := 528) (by decide +kernel))) rfl
theorem m_fl_X6_146 : Cond.fieldLink RX6 146 "SenderRowsModel" "foundMany" "I" ∈ lwG := inG (List.mem_append_right _ (List.mem_of_getElem? (i := 529) (by decide +kernel))) rfl
theorem m_fl_X6_167 : Cond.fieldLink RX6 167 "SenderRowsModel" "placeX" "J" ∈ lwG := inG (List.mem_append_right _ (List.mem_of_getElem? (i := 530) (by decide +kernel))) rfl
theorem m_fl_X6_171 : Cond.fieldLink RX6 171 "SenderRowsModel" "placeY" "J" ∈ lwG := inG (List.mem_append_right _ (List.mem_of_getElem? (i := 531) (by decide +kernel))) rfl
theorem m_fl_X6_174 : Cond.fieldLink RX6 174 "SenderRowsModel" "below" "J" ∈ lwG := inG (List.mem_append_right _ (List.mem_of_getElem? (i := 532) (by decide +kernel))) rfl
theorem m_ac_long : Cond.arrayClass .long ∈ lwG := inG (List.mem_append_right _ (List.mem_of_getElem? (i := 578) (by decide +kernel))) rfl
theorem m_ml_L_17 : Cond.methodLink RL 17 yX6_prime ∈ lwG := inG (List.mem_append_right _ (List.mem_of_getElem? (i := 579) (by decide +kernel))) rfl
theorem m_im_X6_prime : Cond.instanceMethod yX6_prime ∈ lwG := inG (List.mem_append_right _ (List.mem_of_getElem? (i := 580) (by decide +kernel))) rfl
theorem m_se_X6_prime : Cond.selects yX6_prime.cls yX6_prime yX6_prime ∈ lwG := inG (List.mem_append_right _ (List.mem_of_getElem? (i := 581) (by decide +kernel))) rfl
set_option maxRecDepth 20000 in
theorem m_co_X6_prime : Cond.code yX6_prime cX6_prime 3 (some .int) ∈ lwG := inG (List.mem_append_right _ (List.mem_of_getElem? (i := 582) rfl)) rfl
theorem m_cn_X6_61 : Cond.constantLong RX6 61 (5) ∈ lwG := inG (List.mem_append_right _ (List.mem_of_getElem? (i := 583) (by decide +kernel))) rfl
theorem m_cn_X6_63 : Cond.constantLong RX6 63 (97) ∈ lwG := inG (List.mem_append_right _ (List.mem_of_getElem? (i := 584) (by decide +kernel))) rfl
theorem m_ml_X6_65 : Cond.methodLink RX6 65 yX6_in ∈ lwG := inG (List.mem_append_right _ (List.mem_of_getElem? (i := 585) (by decide +kernel))) rfl
theorem m_st_X6_in : Cond.static yX6_in ∈ lwG := inG (List.mem_append_right _ (List.mem_of_getElem? (i := 586) (by decide +kernel))) rfl
set_option maxRecDepth 20000 in
theorem m_co_X6_in : Cond.code yX6_in cX6_in 6 (some .boolean) ∈ lwG := inG (List.mem_append_right _ (List.mem_of_getElem? (i := 587) rfl)) rfl
theorem m_ml_X6_69 : Cond.methodLink RX6 69 yX6_isPrime ∈ lwG := inG (List.mem_append_right _ (List.mem_of_getElem? (i := 588) (by decide +kernel))) rfl
theorem m_st_X6_isPrime : Cond.static yX6_isPrime ∈ lwG := inG (List.mem_append_right _ (List.mem_of_getElem? (i := 589) (by decide +kernel))) rfl
set_option maxRecDepth 20000 in
theorem m_co_X6_isPrime : Cond.code yX6_isPrime cX6_isPrime 3 (some .boolean) ∈ lwG := inG (List.mem_append_right _ (List.mem_of_getElem? (i := 590) rfl)) rfl
theorem m_ml_L_21 : Cond.methodLink RL 21 yX6_hearers ∈ lwG := inG (List.mem_append_right _ (List.mem_of_getElem? (i := 591) (by decide +kernel))) rfl
theorem m_im_X6_hearers : Cond.instanceMethod yX6_hearers ∈ lwG := inG (List.mem_append_right _ (List.mem_of_getElem? (i := 592) (by decide +kernel))) rfl
theorem m_se_X6_hearers : Cond.selects yX6_hearers.cls yX6_hearers yX6_hearers ∈ lwG := inG (List.mem_append_right _ (List.mem_of_getElem? (i := 593) (by decide +kernel))) rfl
set_option maxRecDepth 20000 in
theorem m_co_X6_hearers : Cond.code yX6_hearers cX6_hearers 2 (some .int) ∈ lwG := inG (List.mem_append_right _ (List.mem_of_getElem? (i := 594) rfl)) rfl
theorem m_cn_X6_73 : Cond.constantLong RX6 73 (16777215) ∈ lwG := inG (List.mem_append_right _ (List.mem_of_getElem? (i := 595) (by decide +kernel))) rfl
theorem m_ml_X6_75 : Cond.methodLink RX6 75 yX6_bits ∈ lwG := inG (List.mem_append_right _ (List.mem_of_getElem? (i := 596) (by decide +kernel))) rfl
theorem m_st_X6_bits : Cond.static yX6_bits ∈ lwG := inG (List.mem_append_right _ (List.mem_of_getElem? (i := 597) (by decide +kernel))) rfl
set_option maxRecDepth 20000 in
theorem m_co_X6_bits : Cond.code yX6_bits cX6_bits 3 (some .int) ∈ lwG := inG (List.mem_append_right _ (List.mem_of_getElem? (i := 598) rfl)) rfl
theorem m_ml_L_26 : Cond.methodLink RL 26 yX6_sender ∈ lwG := inG (List.mem_append_right _ (List.mem_of_getElem? (i := 599) (by decide +kernel))) rfl
theorem m_im_X6_sender : Cond.instanceMethod yX6_sender ∈ lwG := inG (List.mem_append_right _ (List.mem_of_getElem? (i := 600) (by decide +kernel))) rfl
theorem m_se_X6_sender : Cond.selects yX6_sender.cls yX6_sender yX6_sender ∈ lwG := inG (List.mem_append_right _ (List.mem_of_getElem? (i := 601) (by decide +kernel))) rfl
set_option maxRecDepth 20000 in
theorem m_co_X6_sender : Cond.code yX6_sender cX6_sender 4 (some .int) ∈ lwG := inG (List.mem_append_right _ (List.mem_of_getElem? (i := 602) rfl)) rfl
theorem m_ml_L_31 : Cond.methodLink RL 31 yX6_drop ∈ lwG := inG (List.mem_append_right _ (List.mem_of_getElem? (i := 603) (by decide +kernel))) rfl
theorem m_im_X6_drop : Cond.instanceMethod yX6_drop ∈ lwG := inG (List.mem_append_right _ (List.mem_of_getElem? (i := 604) (by decide +kernel))) rfl
theorem m_se_X6_drop : Cond.selects yX6_drop.cls yX6_drop yX6_drop ∈ lwG := inG (List.mem_append_right _ (List.mem_of_getElem? (i := 605) (by decide +kernel))) rfl
set_option maxRecDepth 20000 in
theorem m_co_X6_drop : Cond.code yX6_drop cX6_drop 1 (some .int) ∈ lwG := inG (List.mem_append_right _ (List.mem_of_getElem? (i := 606) rfl)) rfl
theorem m_ml_L_35 : Cond.methodLink RL 35 yX6_gain ∈ lwG := inG (List.mem_append_right _ (List.mem_of_getElem? (i := 607) (by decide +kernel))) rfl
theorem m_im_X6_gain : Cond.instanceMethod yX6_gain ∈ lwG := inG (List.mem_append_right _ (List.mem_of_getElem? (i := 608) (by decide +kernel))) rfl
theorem m_se_X6_gain : Cond.selects yX6_gain.cls yX6_gain yX6_gain ∈ lwG := inG (List.mem_append_right _ (List.mem_of_getElem? (i := 609) (by decide +kernel))) rfl
set_option maxRecDepth 20000 in
theorem m_co_X6_gain : Cond.code yX6_gain cX6_gain 4 (some .int) ∈ lwG := inG (List.mem_append_right _ (List.mem_of_getElem? (i := 610) rfl)) rfl
theorem m_ml_X6_81 : Cond.methodLink RX6 81 yX6_isPlace ∈ lwG := inG (List.mem_append_right _ (List.mem_of_getElem? (i := 611) (by decide +kernel))) rfl
theorem m_st_X6_isPlace : Cond.static yX6_isPlace ∈ lwG := inG (List.mem_append_right _ (List.mem_of_getElem? (i := 612) (by decide +kernel))) rfl
set_option maxRecDepth 20000 in
theorem m_co_X6_isPlace : Cond.code yX6_isPlace cX6_isPlace 1 (some .boolean) ∈ lwG := inG (List.mem_append_right _ (List.mem_of_getElem? (i := 613) rfl)) rfl
theorem m_cn_X6_79 : Cond.constantLong RX6 79 (23) ∈ lwG := inG (List.mem_append_right _ (List.mem_of_getElem? (i := 614) (by decide +kernel))) rfl
theorem m_ml_L_39 : Cond.methodLink RL 39 yX6_read ∈ lwG := inG (List.mem_append_right _ (List.mem_of_getElem? (i := 615) (by decide +kernel))) rfl
theorem m_im_X6_read : Cond.instanceMethod yX6_read ∈ lwG := inG (List.mem_append_right _ (List.mem_of_getElem? (i := 616) (by decide +kernel))) rfl
theorem m_se_X6_read : Cond.selects yX6_read.cls yX6_read yX6_read ∈ lwG := inG (List.mem_append_right _ (List.mem_of_getElem? (i := 617) (by decide +kernel))) rfl
set_option maxRecDepth 20000 in
theorem m_co_X6_read : Cond.code yX6_read cX6_read 3 (some .int) ∈ lwG := inG (List.mem_append_right _ (List.mem_of_getElem? (i := 618) rfl)) rfl
theorem m_cn_X6_88 : Cond.constantLong RX6 88 (-1) ∈ lwG := inG (List.mem_append_right _ (List.mem_of_getElem? (i := 619) (by decide +kernel))) rfl
theorem m_ml_X6_90 : Cond.methodLink RX6 90 yX6_heardAt ∈ lwG := inG (List.mem_append_right _ (List.mem_of_getElem? (i := 620) (by decide +kernel))) rfl
theorem m_im_X6_heardAt : Cond.instanceMethod yX6_heardAt ∈ lwG := inG (List.mem_append_right _ (List.mem_of_getElem? (i := 622) (by decide +kernel))) rfl
set_option maxRecDepth 20000 in
theorem m_co_X6_heardAt : Cond.code yX6_heardAt cX6_heardAt 4 (some .int) ∈ lwG := inG (List.mem_append_right _ (List.mem_of_getElem? (i := 623) rfl)) rfl
theorem m_ml_X6_84 : Cond.methodLink RX6 84 yX6_power ∈ lwG := inG (List.mem_append_right _ (List.mem_of_getElem? (i := 624) (by decide +kernel))) rfl
theorem m_im_X6_power : Cond.instanceMethod yX6_power ∈ lwG := inG (List.mem_append_right _ (List.mem_of_getElem? (i := 626) (by decide +kernel))) rfl
set_option maxRecDepth 20000 in
theorem m_co_X6_power : Cond.code yX6_power cX6_power 5 (some .int) ∈ lwG := inG (List.mem_append_right _ (List.mem_of_getElem? (i := 627) rfl)) rfl
theorem m_ml_L_43 : Cond.methodLink RL 43 yX6_heard ∈ lwG := inG (List.mem_append_right _ (List.mem_of_getElem? (i := 628) (by decide +kernel))) rfl
theorem m_im_X6_heard : Cond.instanceMethod yX6_heard ∈ lwG := inG (List.mem_append_right _ (List.mem_of_getElem? (i := 629) (by decide +kernel))) rfl
theorem m_se_X6_heard : Cond.selects yX6_heard.cls yX6_heard yX6_heard ∈ lwG := inG (List.mem_append_right _ (List.mem_of_getElem? (i := 630) (by decide +kernel))) rfl
set_option maxRecDepth 20000 in
theorem m_co_X6_heard : Cond.code yX6_heard cX6_heard 2 (some .int) ∈ lwG := inG (List.mem_append_right _ (List.mem_of_getElem? (i := 631) rfl)) rfl
theorem m_ml_X6_93 : Cond.methodLink RX6 93 yX6_isHearer ∈ lwG := inG (List.mem_append_right _ (List.mem_of_getElem? (i := 632) (by decide +kernel))) rfl
theorem m_im_X6_isHearer : Cond.instanceMethod yX6_isHearer ∈ lwG := inG (List.mem_append_right _ (List.mem_of_getElem? (i := 634) (by decide +kernel))) rfl
set_option maxRecDepth 20000 in
theorem m_co_X6_isHearer : Cond.code yX6_isHearer cX6_isHearer 2 (some .boolean) ∈ lwG := inG (List.mem_append_right _ (List.mem_of_getElem? (i := 635) rfl)) rfl
theorem m_ml_L_47 : Cond.methodLink RL 47 yX6_count ∈ lwG := inG (List.mem_append_right _ (List.mem_of_getElem? (i := 636) (by decide +kernel))) rfl
theorem m_im_X6_count : Cond.instanceMethod yX6_count ∈ lwG := inG (List.mem_append_right _ (List.mem_of_getElem? (i := 637) (by decide +kernel))) rfl
theorem m_se_X6_count : Cond.selects yX6_count.cls yX6_count yX6_count ∈ lwG := inG (List.mem_append_right _ (List.mem_of_getElem? (i := 638) (by decide +kernel))) rfl
set_option maxRecDepth 20000 in
theorem m_co_X6_count : Cond.code yX6_count cX6_count 6 (some .int) ∈ lwG := inG (List.mem_append_right _ (List.mem_of_getElem? (i := 639) rfl)) rfl
theorem m_ml_X6_96 : Cond.methodLink RX6 96 yX6_weightOf ∈ lwG := inG (List.mem_append_right _ (List.mem_of_getElem? (i := 640) (by decide +kernel))) rfl
theorem m_im_X6_weightOf : Cond.instanceMethod yX6_weightOf ∈ lwG := inG (List.mem_append_right _ (List.mem_of_getElem? (i := 642) (by decide +kernel))) rfl
set_option maxRecDepth 20000 in
theorem m_co_X6_weightOf : Cond.code yX6_weightOf cX6_weightOf 2 (some .int) ∈ lwG := inG (List.mem_append_right _ (List.mem_of_getElem? (i := 643) rfl)) rfl
theorem m_ml_X6_102 : Cond.methodLink RX6 102 yX6_reach ∈ lwG := inG (List.mem_append_right _ (List.mem_of_getElem? (i := 644) (by decide +kernel))) rfl
theorem m_im_X6_reach : Cond.instanceMethod yX6_reach ∈ lwG := inG (List.mem_append_right _ (List.mem_of_getElem? (i := 646) (by decide +kernel))) rfl
set_option maxRecDepth 20000 in
theorem m_co_X6_reach : Cond.code yX6_reach cX6_reach 2 (some .int) ∈ lwG := inG (List.mem_append_right _ (List.mem_of_getElem? (i := 647) rfl)) rfl
theorem m_ml_X6_106 : Cond.methodLink RX6 106 yX6_findTwin ∈ lwG := inG (List.mem_append_right _ (List.mem_of_getElem? (i := 648) (by decide +kernel))) rfl
theorem m_im_X6_findTwin : Cond.instanceMethod yX6_findTwin ∈ lwG := inG (List.mem_append_right _ (List.mem_of_getElem? (i := 650) (by decide +kernel))) rfl
set_option maxRecDepth 20000 in
theorem m_co_X6_findTwin : Cond.code yX6_findTwin cX6_findTwin 6 (some .int) ∈ lwG := inG (List.mem_append_right _ (List.mem_of_getElem? (i := 651) rfl)) rfl
theorem m_ml_X6_157 : Cond.methodLink RX6 157 yX6_areTwins ∈ lwG := inG (List.mem_append_right _ (List.mem_of_getElem? (i := 652) (by decide +kernel))) rfl
theorem m_im_X6_areTwins : Cond.instanceMethod yX6_areTwins ∈ lwG := inG (List.mem_append_right _ (List.mem_of_getElem? (i := 654) (by decide +kernel))) rfl
set_option maxRecDepth 20000 in
theorem m_co_X6_areTwins : Cond.code yX6_areTwins cX6_areTwins 6 (some .boolean) ∈ lwG := inG (List.mem_append_right _ (List.mem_of_getElem? (i := 655) rfl)) rfl
theorem m_ml_L_51 : Cond.methodLink RL 51 yX6_order ∈ lwG := inG (List.mem_append_right _ (List.mem_of_getElem? (i := 656) (by decide +kernel))) rfl
theorem m_im_X6_order : Cond.instanceMethod yX6_order ∈ lwG := inG (List.mem_append_right _ (List.mem_of_getElem? (i := 657) (by decide +kernel))) rfl
theorem m_se_X6_order : Cond.selects yX6_order.cls yX6_order yX6_order ∈ lwG := inG (List.mem_append_right _ (List.mem_of_getElem? (i := 658) (by decide +kernel))) rfl
set_option maxRecDepth 20000 in
theorem m_co_X6_order : Cond.code yX6_order cX6_order 3 (some .int) ∈ lwG := inG (List.mem_append_right _ (List.mem_of_getElem? (i := 659) rfl)) rfl
theorem m_ml_X6_128 : Cond.methodLink RX6 128 yX6_isSpan ∈ lwG := inG (List.mem_append_right _ (List.mem_of_getElem? (i := 660) (by decide +kernel))) rfl
theorem m_st_X6_isSpan : Cond.static yX6_isSpan ∈ lwG := inG (List.mem_append_right _ (List.mem_of_getElem? (i := 661) (by decide +kernel))) rfl
set_option maxRecDepth 20000 in
theorem m_co_X6_isSpan : Cond.code yX6_isSpan cX6_isSpan 2 (some .boolean) ∈ lwG := inG (List.mem_append_right _ (List.mem_of_getElem? (i := 662) rfl)) rfl
theorem m_ml_X6_132 : Cond.methodLink RX6 132 yX6_areHearers ∈ lwG := inG (List.mem_append_right _ (List.mem_of_getElem? (i := 663) (by decide +kernel))) rfl
theorem m_im_X6_areHearers : Cond.instanceMethod yX6_areHearers ∈ lwG := inG (List.mem_append_right _ (List.mem_of_getElem? (i := 665) (by decide +kernel))) rfl
set_option maxRecDepth 20000 in
theorem m_co_X6_areHearers : Cond.code yX6_areHearers cX6_areHearers 5 (some .boolean) ∈ lwG := inG (List.mem_append_right _ (List.mem_of_getElem? (i := 666) rfl)) rfl
theorem m_ml_X6_135 : Cond.methodLink RX6 135 yX6_take ∈ lwG := inG (List.mem_append_right _ (List.mem_of_getElem? (i := 667) (by decide +kernel))) rfl
theorem m_im_X6_take : Cond.instanceMethod yX6_take ∈ lwG := inG (List.mem_append_right _ (List.mem_of_getElem? (i := 669) (by decide +kernel))) rfl
set_option maxRecDepth 20000 in
theorem m_co_X6_take : Cond.code yX6_take cX6_take 4 none ∈ lwG := inG (List.mem_append_right _ (List.mem_of_getElem? (i := 670) rfl)) rfl
theorem m_ml_X6_139 : Cond.methodLink RX6 139 yX6_findLaw ∈ lwG := inG (List.mem_append_right _ (List.mem_of_getElem? (i := 671) (by decide +kernel))) rfl
theorem m_im_X6_findLaw : Cond.instanceMethod yX6_findLaw ∈ lwG := inG (List.mem_append_right _ (List.mem_of_getElem? (i := 673) (by decide +kernel))) rfl
set_option maxRecDepth 20000 in
theorem m_co_X6_findLaw : Cond.code yX6_findLaw cX6_findLaw 1 none ∈ lwG := inG (List.mem_append_right _ (List.mem_of_getElem? (i := 674) rfl)) rfl
theorem m_ml_X6_125 : Cond.methodLink RX6 125 yX6_fits ∈ lwG := inG (List.mem_append_right _ (List.mem_of_getElem? (i := 675) (by decide +kernel))) rfl
theorem m_im_X6_fits : Cond.instanceMethod yX6_fits ∈ lwG := inG (List.mem_append_right _ (List.mem_of_getElem? (i := 677) (by decide +kernel))) rfl
set_option maxRecDepth 20000 in
theorem m_co_X6_fits : Cond.code yX6_fits cX6_fits 7 (some .boolean) ∈ lwG := inG (List.mem_append_right _ (List.mem_of_getElem? (i := 678) rfl)) rfl
theorem m_ml_X6_112 : Cond.methodLink RX6 112 yX6_step ∈ lwG := inG (List.mem_append_right _ (List.mem_of_getElem? (i := 679) (by decide +kernel))) rfl
theorem m_im_X6_step : Cond.instanceMethod yX6_step ∈ lwG := inG (List.mem_append_right _ (List.mem_of_getElem? (i := 681) (by decide +kernel))) rfl
set_option maxRecDepth 20000 in
theorem m_co_X6_step : Cond.code yX6_step cX6_step 10 none ∈ lwG := inG (List.mem_append_right _ (List.mem_of_getElem? (i := 682) rfl)) rfl
theorem m_ml_X6_116 : Cond.methodLink RX6 116 yX6_over ∈ lwG := inG (List.mem_append_right _ (List.mem_of_getElem? (i := 683) (by decide +kernel))) rfl
theorem m_im_X6_over : Cond.instanceMethod yX6_over ∈ lwG := inG (List.mem_append_right _ (List.mem_of_getElem? (i := 685) (by decide +kernel))) rfl
set_option maxRecDepth 20000 in
theorem m_co_X6_over : Cond.code yX6_over cX6_over 3 (some .int) ∈ lwG := inG (List.mem_append_right _ (List.mem_of_getElem? (i := 686) rfl)) rfl
theorem m_ml_X6_119 : Cond.methodLink RX6 119 yX6_rest ∈ lwG := inG (List.mem_append_right _ (List.mem_of_getElem? (i := 687) (by decide +kernel))) rfl
theorem m_im_X6_rest : Cond.instanceMethod yX6_rest ∈ lwG := inG (List.mem_append_right _ (List.mem_of_getElem? (i := 689) (by decide +kernel))) rfl
set_option maxRecDepth 20000 in
theorem m_co_X6_rest : Cond.code yX6_rest cX6_rest 2 (some .int) ∈ lwG := inG (List.mem_append_right _ (List.mem_of_getElem? (i := 690) rfl)) rfl
theorem m_ml_L_56 : Cond.methodLink RL 56 yX6_law ∈ lwG := inG (List.mem_append_right _ (List.mem_of_getElem? (i := 691) (by decide +kernel))) rfl
theorem m_im_X6_law : Cond.instanceMethod yX6_law ∈ lwG := inG (List.mem_append_right _ (List.mem_of_getElem? (i := 692) (by decide +kernel))) rfl
theorem m_se_X6_law : Cond.selects yX6_law.cls yX6_law yX6_law ∈ lwG := inG (List.mem_append_right _ (List.mem_of_getElem? (i := 693) (by decide +kernel))) rfl
set_option maxRecDepth 20000 in
theorem m_co_X6_law : Cond.code yX6_law cX6_law 4 (some .int) ∈ lwG := inG (List.mem_append_right _ (List.mem_of_getElem? (i := 694) rfl)) rfl
theorem m_ml_X6_142 : Cond.methodLink RX6 142 yX6_isOne ∈ lwG := inG (List.mem_append_right _ (List.mem_of_getElem? (i := 695) (by decide +kernel))) rfl
theorem m_im_X6_isOne : Cond.instanceMethod yX6_isOne ∈ lwG := inG (List.mem_append_right _ (List.mem_of_getElem? (i := 697) (by decide +kernel))) rfl
set_option maxRecDepth 20000 in
theorem m_co_X6_isOne : Cond.code yX6_isOne cX6_isOne 1 (some .boolean) ∈ lwG := inG (List.mem_append_right _ (List.mem_of_getElem? (i := 698) rfl)) rfl
theorem m_ml_L_60 : Cond.methodLink RL 60 yX6_slant ∈ lwG := inG (List.mem_append_right _ (List.mem_of_getElem? (i := 699) (by decide +kernel))) rfl
theorem m_im_X6_slant : Cond.instanceMethod yX6_slant ∈ lwG := inG (List.mem_append_right _ (List.mem_of_getElem? (i := 700) (by decide +kernel))) rfl
theorem m_se_X6_slant : Cond.selects yX6_slant.cls yX6_slant yX6_slant ∈ lwG := inG (List.mem_append_right _ (List.mem_of_getElem? (i := 701) (by decide +kernel))) rfl
set_option maxRecDepth 20000 in
theorem m_co_X6_slant : Cond.code yX6_slant cX6_slant 5 (some .int) ∈ lwG := inG (List.mem_append_right _ (List.mem_of_getElem? (i := 702) rfl)) rfl
theorem m_ml_X6_152 : Cond.methodLink RX6 152 yX6_findAll ∈ lwG := inG (List.mem_append_right _ (List.mem_of_getElem? (i := 703) (by decide +kernel))) rfl
theorem m_im_X6_findAll : Cond.instanceMethod yX6_findAll ∈ lwG := inG (List.mem_append_right _ (List.mem_of_getElem? (i := 705) (by decide +kernel))) rfl
set_option maxRecDepth 20000 in
theorem m_co_X6_findAll : Cond.code yX6_findAll cX6_findAll 3 (some .int) ∈ lwG := inG (List.mem_append_right _ (List.mem_of_getElem? (i := 706) rfl)) rfl
theorem m_ml_X6_149 : Cond.methodLink RX6 149 yX6_findSlants ∈ lwG := inG (List.mem_append_right _ (List.mem_of_getElem? (i := 707) (by decide +kernel))) rfl
theorem m_im_X6_findSlants : Cond.instanceMethod yX6_findSlants ∈ lwG := inG (List.mem_append_right _ (List.mem_of_getElem? (i := 709) (by decide +kernel))) rfl
set_option maxRecDepth 20000 in
theorem m_co_X6_findSlants : Cond.code yX6_findSlants cX6_findSlants 4 none ∈ lwG := inG (List.mem_append_right _ (List.mem_of_getElem? (i := 710) rfl)) rfl
theorem m_ml_L_64 : Cond.methodLink RL 64 yX6_strength ∈ lwG := inG (List.mem_append_right _ (List.mem_of_getElem? (i := 711) (by decide +kernel))) rfl
theorem m_im_X6_strength : Cond.instanceMethod yX6_strength ∈ lwG := inG (List.mem_append_right _ (List.mem_of_getElem? (i := 712) (by decide +kernel))) rfl
theorem m_se_X6_strength : Cond.selects yX6_strength.cls yX6_strength yX6_strength ∈ lwG := inG (List.mem_append_right _ (List.mem_of_getElem? (i := 713) (by decide +kernel))) rfl
set_option maxRecDepth 20000 in
theorem m_co_X6_strength : Cond.code yX6_strength cX6_strength 7 (some .int) ∈ lwG := inG (List.mem_append_right _ (List.mem_of_getElem? (i := 714) rfl)) rfl
theorem m_ml_L_69 : Cond.methodLink RL 69 yX6_mended ∈ lwG := inG (List.mem_append_right _ (List.mem_of_getElem? (i := 715) (by decide +kernel))) rfl
theorem m_im_X6_mended : Cond.instanceMethod yX6_mended ∈ lwG := inG (List.mem_append_right _ (List.mem_of_getElem? (i := 716) (by decide +kernel))) rfl
theorem m_se_X6_mended : Cond.selects yX6_mended.cls yX6_mended yX6_mended ∈ lwG := inG (List.mem_append_right _ (List.mem_of_getElem? (i := 717) (by decide +kernel))) rfl
set_option maxRecDepth 20000 in
theorem m_co_X6_mended : Cond.code yX6_mended cX6_mended 9 (some .int) ∈ lwG := inG (List.mem_append_right _ (List.mem_of_getElem? (i := 718) rfl)) rfl
theorem m_cn_X6_155 : Cond.constantLong RX6 155 (2) ∈ lwG := inG (List.mem_append_right _ (List.mem_of_getElem? (i := 719) (by decide +kernel))) rfl
theorem m_ml_L_73 : Cond.methodLink RL 73 yX6_tune ∈ lwG := inG (List.mem_append_right _ (List.mem_of_getElem? (i := 720) (by decide +kernel))) rfl
theorem m_im_X6_tune : Cond.instanceMethod yX6_tune ∈ lwG := inG (List.mem_append_right _ (List.mem_of_getElem? (i := 721) (by decide +kernel))) rfl
theorem m_se_X6_tune : Cond.selects yX6_tune.cls yX6_tune yX6_tune ∈ lwG := inG (List.mem_append_right _ (List.mem_of_getElem? (i := 722) (by decide +kernel))) rfl
set_option maxRecDepth 20000 in
theorem m_co_X6_tune : Cond.code yX6_tune cX6_tune 5 (some .int) ∈ lwG := inG (List.mem_append_right _ (List.mem_of_getElem? (i := 723) rfl)) rfl
theorem m_ml_L_77 : Cond.methodLink RL 77 yX6_twin ∈ lwG := inG (List.mem_append_right _ (List.mem_of_getElem? (i := 724) (by decide +kernel))) rfl
theorem m_im_X6_twin : Cond.instanceMethod yX6_twin ∈ lwG := inG (List.mem_append_right _ (List.mem_of_getElem? (i := 725) (by decide +kernel))) rfl
theorem m_se_X6_twin : Cond.selects yX6_twin.cls yX6_twin yX6_twin ∈ lwG := inG (List.mem_append_right _ (List.mem_of_getElem? (i := 726) (by decide +kernel))) rfl
set_option maxRecDepth 20000 in
theorem m_co_X6_twin : Cond.code yX6_twin cX6_twin 4 (some .int) ∈ lwG := inG (List.mem_append_right _ (List.mem_of_getElem? (i := 727) rfl)) rfl
theorem m_ml_L_81 : Cond.methodLink RL 81 yX6_weight ∈ lwG := inG (List.mem_append_right _ (List.mem_of_getElem? (i := 728) (by decide +kernel))) rfl
theorem m_im_X6_weight : Cond.instanceMethod yX6_weight ∈ lwG := inG (List.mem_append_right _ (List.mem_of_getElem? (i := 729) (by decide +kernel))) rfl
theorem m_se_X6_weight : Cond.selects yX6_weight.cls yX6_weight yX6_weight ∈ lwG := inG (List.mem_append_right _ (List.mem_of_getElem? (i := 730) (by decide +kernel))) rfl
set_option maxRecDepth 20000 in
theorem m_co_X6_weight : Cond.code yX6_weight cX6_weight 2 (some .int) ∈ lwG := inG (List.mem_append_right _ (List.mem_of_getElem? (i := 731) rfl)) rfl
theorem m_ml_L_85 : Cond.methodLink RL 85 yX6_best ∈ lwG := inG (List.mem_append_right _ (List.mem_of_getElem? (i := 732) (by decide +kernel))) rfl
theorem m_im_X6_best : Cond.instanceMethod yX6_best ∈ lwG := inG (List.mem_append_right _ (List.mem_of_getElem? (i := 733) (by decide +kernel))) rfl
theorem m_se_X6_best : Cond.selects yX6_best.cls yX6_best yX6_best ∈ lwG := inG (List.mem_append_right _ (List.mem_of_getElem? (i := 734) (by decide +kernel))) rfl
set_option maxRecDepth 20000 in
theorem m_co_X6_best : Cond.code yX6_best cX6_best 6 (some .int) ∈ lwG := inG (List.mem_append_right _ (List.mem_of_getElem? (i := 735) rfl)) rfl
theorem m_ml_L_89 : Cond.methodLink RL 89 yX6_station ∈ lwG := inG (List.mem_append_right _ (List.mem_of_getElem? (i := 736) (by decide +kernel))) rfl
theorem m_im_X6_station : Cond.instanceMethod yX6_station ∈ lwG := inG (List.mem_append_right _ (List.mem_of_getElem? (i := 737) (by decide +kernel))) rfl
theorem m_se_X6_station : Cond.selects yX6_station.cls yX6_station yX6_station ∈ lwG := inG (List.mem_append_right _ (List.mem_of_getElem? (i := 738) (by decide +kernel))) rfl
set_option maxRecDepth 20000 in
theorem m_co_X6_station : Cond.code yX6_station cX6_station 5 (some .int) ∈ lwG := inG (List.mem_append_right _ (List.mem_of_getElem? (i := 739) rfl)) rfl
theorem m_cn_X6_160 : Cond.constantLong RX6 160 (-100) ∈ lwG := inG (List.mem_append_right _ (List.mem_of_getElem? (i := 740) (by decide +kernel))) rfl
theorem m_cn_X6_162 : Cond.constantLong RX6 162 (100) ∈ lwG := inG (List.mem_append_right _ (List.mem_of_getElem? (i := 741) (by decide +kernel))) rfl
theorem m_ml_L_93 : Cond.methodLink RL 93 yX6_look ∈ lwG := inG (List.mem_append_right _ (List.mem_of_getElem? (i := 742) (by decide +kernel))) rfl
theorem m_im_X6_look : Cond.instanceMethod yX6_look ∈ lwG := inG (List.mem_append_right _ (List.mem_of_getElem? (i := 743) (by decide +kernel))) rfl
theorem m_se_X6_look : Cond.selects yX6_look.cls yX6_look yX6_look ∈ lwG := inG (List.mem_append_right _ (List.mem_of_getElem? (i := 744) (by decide +kernel))) rfl
set_option maxRecDepth 20000 in
theorem m_co_X6_look : Cond.code yX6_look cX6_look 4 (some .int) ∈ lwG := inG (List.mem_append_right _ (List.mem_of_getElem? (i := 745) rfl)) rfl
theorem m_ml_X6_164 : Cond.methodLink RX6 164 yX6_isStation ∈ lwG := inG (List.mem_append_right _ (List.mem_of_getElem? (i := 746) (by decide +kernel))) rfl
theorem m_im_X6_isStation : Cond.instanceMethod yX6_isStation ∈ lwG := inG (List.mem_append_right _ (List.mem_of_getElem? (i := 748) (by decide +kernel))) rfl
set_option maxRecDepth 20000 in
theorem m_co_X6_isStation : Cond.code yX6_isStation cX6_isStation 2 (some .boolean) ∈ lwG := inG (List.mem_append_right _ (List.mem_of_getElem? (i := 749) rfl)) rfl
theorem m_ml_L_98 : Cond.methodLink RL 98 yX6_crossing ∈ lwG := inG (List.mem_append_right _ (List.mem_of_getElem? (i := 750) (by decide +kernel))) rfl
theorem m_im_X6_crossing : Cond.instanceMethod yX6_crossing ∈ lwG := inG (List.mem_append_right _ (List.mem_of_getElem? (i := 751) (by decide +kernel))) rfl
theorem m_se_X6_crossing : Cond.selects yX6_crossing.cls yX6_crossing yX6_crossing ∈ lwG := inG (List.mem_append_right _ (List.mem_of_getElem? (i := 752) (by decide +kernel))) rfl
set_option maxRecDepth 20000 in
theorem m_co_X6_crossing : Cond.code yX6_crossing cX6_crossing 8 (some .long) ∈ lwG := inG (List.mem_append_right _ (List.mem_of_getElem? (i := 753) rfl)) rfl
theorem m_cn_X6_177 : Cond.constantLong RX6 177 (-1001) ∈ lwG := inG (List.mem_append_right _ (List.mem_of_getElem? (i := 754) (by decide +kernel))) rfl
theorem m_cn_X6_179 : Cond.constantLong RX6 179 (3) ∈ lwG := inG (List.mem_append_right _ (List.mem_of_getElem? (i := 755) (by decide +kernel))) rfl
theorem m_cn_X6_181 : Cond.constantLong RX6 181 (-1002) ∈ lwG := inG (List.mem_append_right _ (List.mem_of_getElem? (i := 756) (by decide +kernel))) rfl
theorem m_ml_X6_183 : Cond.methodLink RX6 183 yX6_cross ∈ lwG := inG (List.mem_append_right _ (List.mem_of_getElem? (i := 757) (by decide +kernel))) rfl
theorem m_im_X6_cross : Cond.instanceMethod yX6_cross ∈ lwG := inG (List.mem_append_right _ (List.mem_of_getElem? (i := 759) (by decide +kernel))) rfl
set_option maxRecDepth 20000 in
theorem m_co_X6_cross : Cond.code yX6_cross cX6_cross 13 (some .boolean) ∈ lwG := inG (List.mem_append_right _ (List.mem_of_getElem? (i := 760) rfl)) rfl
theorem m_cn_X6_186 : Cond.constantLong RX6 186 (-1003) ∈ lwG := inG (List.mem_append_right _ (List.mem_of_getElem? (i := 761) (by decide +kernel))) rfl
theorem m_ml_X6_188 : Cond.methodLink RX6 188 yX6_common ∈ lwG := inG (List.mem_append_right _ (List.mem_of_getElem? (i := 762) (by decide +kernel))) rfl
theorem m_st_X6_common : Cond.static yX6_common ∈ lwG := inG (List.mem_append_right _ (List.mem_of_getElem? (i := 763) (by decide +kernel))) rfl
set_option maxRecDepth 20000 in
theorem m_co_X6_common : Cond.code yX6_common cX6_common 10 (some .long) ∈ lwG := inG (List.mem_append_right _ (List.mem_of_getElem? (i := 764) rfl)) rfl
theorem m_ml_L_102 : Cond.methodLink RL 102 yX6_borne ∈ lwG := inG (List.mem_append_right _ (List.mem_of_getElem? (i := 765) (by decide +kernel))) rfl
theorem m_im_X6_borne : Cond.instanceMethod yX6_borne ∈ lwG := inG (List.mem_append_right _ (List.mem_of_getElem? (i := 766) (by decide +kernel))) rfl
theorem m_se_X6_borne : Cond.selects yX6_borne.cls yX6_borne yX6_borne ∈ lwG := inG (List.mem_append_right _ (List.mem_of_getElem? (i := 767) (by decide +kernel))) rfl
set_option maxRecDepth 20000 in
theorem m_co_X6_borne : Cond.code yX6_borne cX6_borne 4 (some .int) ∈ lwG := inG (List.mem_append_right _ (List.mem_of_getElem? (i := 768) rfl)) rfl
theorem m_cn_X6_195 : Cond.constantLong RX6 195 (200) ∈ lwG := inG (List.mem_append_right _ (List.mem_of_getElem? (i := 769) (by decide +kernel))) rfl
theorem m_ml_X6_197 : Cond.methodLink RX6 197 yX6_bearers ∈ lwG := inG (List.mem_append_right _ (List.mem_of_getElem? (i := 770) (by decide +kernel))) rfl
theorem m_im_X6_bearers : Cond.instanceMethod yX6_bearers ∈ lwG := inG (List.mem_append_right _ (List.mem_of_getElem? (i := 772) (by decide +kernel))) rfl
set_option maxRecDepth 20000 in
theorem m_co_X6_bearers : Cond.code yX6_bearers cX6_bearers 6 (some .int) ∈ lwG := inG (List.mem_append_right _ (List.mem_of_getElem? (i := 773) rfl)) rfl
theorem m_ml_X6_192 : Cond.methodLink RX6 192 yX6_bears ∈ lwG := inG (List.mem_append_right _ (List.mem_of_getElem? (i := 774) (by decide +kernel))) rfl
theorem m_im_X6_bears : Cond.instanceMethod yX6_bears ∈ lwG := inG (List.mem_append_right _ (List.mem_of_getElem? (i := 776) (by decide +kernel))) rfl
set_option maxRecDepth 20000 in
theorem m_co_X6_bears : Cond.code yX6_bears cX6_bears 11 (some .boolean) ∈ lwG := inG (List.mem_append_right _ (List.mem_of_getElem? (i := 777) rfl)) rfl
theorem m_ml_L_106 : Cond.methodLink RL 106 yX6_most ∈ lwG := inG (List.mem_append_right _ (List.mem_of_getElem? (i := 778) (by decide +kernel))) rfl
theorem m_im_X6_most : Cond.instanceMethod yX6_most ∈ lwG := inG (List.mem_append_right _ (List.mem_of_getElem? (i := 779) (by decide +kernel))) rfl
theorem m_se_X6_most : Cond.selects yX6_most.cls yX6_most yX6_most ∈ lwG := inG (List.mem_append_right _ (List.mem_of_getElem? (i := 780) (by decide +kernel))) rfl
set_option maxRecDepth 20000 in
theorem m_co_X6_most : Cond.code yX6_most cX6_most 9 (some .int) ∈ lwG := inG (List.mem_append_right _ (List.mem_of_getElem? (i := 781) rfl)) rfl
theorem m_se_X3_addWave : Cond.selects yX3_addWave.cls yX3_addWave yX3_addWave ∈ lwG := inG (List.mem_append_left _ (List.mem_of_getElem? (i := 0) (by decide +kernel))) rfl
theorem m_se_X3_makeImages : Cond.selects yX3_makeImages.cls yX3_makeImages yX3_makeImages ∈ lwG := inG (List.mem_append_left _ (List.mem_of_getElem? (i := 1) (by decide +kernel))) rfl
theorem m_se_X3_spacing : Cond.selects yX3_spacing.cls yX3_spacing yX3_spacing ∈ lwG := inG (List.mem_append_left _ (List.mem_of_getElem? (i := 2) (by decide +kernel))) rfl
theorem m_se_X5_spanRefusal : Cond.selects yX5_spanRefusal.cls yX5_spanRefusal yX5_spanRefusal ∈ lwG := inG (List.mem_append_left _ (List.mem_of_getElem? (i := 3) (by decide +kernel))) rfl
theorem m_se_X5_findLaw : Cond.selects yX5_findLaw.cls yX5_findLaw yX5_findLaw ∈ lwG := inG (List.mem_append_left _ (List.mem_of_getElem? (i := 4) (by decide +kernel))) rfl
theorem m_se_X1_start : Cond.selects yX1_start.cls yX1_start yX1_start ∈ lwG := inG (List.mem_append_left _ (List.mem_of_getElem? (i := 5) (by decide +kernel))) rfl
theorem m_se_X1_missAt : Cond.selects yX1_missAt.cls yX1_missAt yX1_missAt ∈ lwG := inG (List.mem_append_left _ (List.mem_of_getElem? (i := 6) (by decide +kernel))) rfl
theorem m_se_X1_correct : Cond.selects yX1_correct.cls yX1_correct yX1_correct ∈ lwG := inG (List.mem_append_left _ (List.mem_of_getElem? (i := 7) (by decide +kernel))) rfl
theorem m_se_X1_keepSpare : Cond.selects yX1_keepSpare.cls yX1_keepSpare yX1_keepSpare ∈ lwG := inG (List.mem_append_left _ (List.mem_of_getElem? (i := 8) (by decide +kernel))) rfl
theorem m_se_X5_findSlants : Cond.selects yX5_findSlants.cls yX5_findSlants yX5_findSlants ∈ lwG := inG (List.mem_append_left _ (List.mem_of_getElem? (i := 9) (by decide +kernel))) rfl
theorem m_se_X1_hasRoot : Cond.selects yX1_hasRoot.cls yX1_hasRoot yX1_hasRoot ∈ lwG := inG (List.mem_append_left _ (List.mem_of_getElem? (i := 10) (by decide +kernel))) rfl
theorem m_se_X4_bearsOut : Cond.selects yX4_bearsOut.cls yX4_bearsOut yX4_bearsOut ∈ lwG := inG (List.mem_append_left _ (List.mem_of_getElem? (i := 11) (by decide +kernel))) rfl
theorem m_se_X6_clear : Cond.selects yX6_clear.cls yX6_clear yX6_clear ∈ lwG := inG (List.mem_append_left _ (List.mem_of_getElem? (i := 12) (by decide +kernel))) rfl
theorem m_se_X6_heardAt : Cond.selects yX6_heardAt.cls yX6_heardAt yX6_heardAt ∈ lwG := inG (List.mem_append_left _ (List.mem_of_getElem? (i := 13) (by decide +kernel))) rfl
theorem m_se_X6_power : Cond.selects yX6_power.cls yX6_power yX6_power ∈ lwG := inG (List.mem_append_left _ (List.mem_of_getElem? (i := 14) (by decide +kernel))) rfl
theorem m_se_X6_isHearer : Cond.selects yX6_isHearer.cls yX6_isHearer yX6_isHearer ∈ lwG := inG (List.mem_append_left _ (List.mem_of_getElem? (i := 15) (by decide +kernel))) rfl
theorem m_se_X6_weightOf : Cond.selects yX6_weightOf.cls yX6_weightOf yX6_weightOf ∈ lwG := inG (List.mem_append_left _ (List.mem_of_getElem? (i := 16) (by decide +kernel))) rfl
theorem m_se_X6_reach : Cond.selects yX6_reach.cls yX6_reach yX6_reach ∈ lwG := inG (List.mem_append_left _ (List.mem_of_getElem? (i := 17) (by decide +kernel))) rfl
theorem m_se_X6_findTwin : Cond.selects yX6_findTwin.cls yX6_findTwin yX6_findTwin ∈ lwG := inG (List.mem_append_left _ (List.mem_of_getElem? (i := 18) (by decide +kernel))) rfl
theorem m_se_X6_areTwins : Cond.selects yX6_areTwins.cls yX6_areTwins yX6_areTwins ∈ lwG := inG (List.mem_append_left _ (List.mem_of_getElem? (i := 19) (by decide +kernel))) rfl
theorem m_se_X6_areHearers : Cond.selects yX6_areHearers.cls yX6_areHearers yX6_areHearers ∈ lwG := inG (List.mem_append_left _ (List.mem_of_getElem? (i := 20) (by decide +kernel))) rfl
theorem m_se_X6_take : Cond.selects yX6_take.cls yX6_take yX6_take ∈ lwG := inG (List.mem_append_left _ (List.mem_of_getElem? (i := 21) (by decide +kernel))) rfl
theorem m_se_X6_findLaw : Cond.selects yX6_findLaw.cls yX6_findLaw yX6_findLaw ∈ lwG := inG (List.mem_append_left _ (List.mem_of_getElem? (i := 22) (by decide +kernel))) rfl
theorem m_se_X6_fits : Cond.selects yX6_fits.cls yX6_fits yX6_fits ∈ lwG := inG (List.mem_append_left _ (List.mem_of_getElem? (i := 23) (by decide +kernel))) rfl
theorem m_se_X6_step : Cond.selects yX6_step.cls yX6_step yX6_step ∈ lwG := inG (List.mem_append_left _ (List.mem_of_getElem? (i := 24) (by decide +kernel))) rfl
theorem m_se_X6_over : Cond.selects yX6_over.cls yX6_over yX6_over ∈ lwG := inG (List.mem_append_left _ (List.mem_of_getElem? (i := 25) (by decide +kernel))) rfl
theorem m_se_X6_rest : Cond.selects yX6_rest.cls yX6_rest yX6_rest ∈ lwG := inG (List.mem_append_left _ (List.mem_of_getElem? (i := 26) (by decide +kernel))) rfl
theorem m_se_X6_isOne : Cond.selects yX6_isOne.cls yX6_isOne yX6_isOne ∈ lwG := inG (List.mem_append_left _ (List.mem_of_getElem? (i := 27) (by decide +kernel))) rfl
theorem m_se_X6_findAll : Cond.selects yX6_findAll.cls yX6_findAll yX6_findAll ∈ lwG := inG (List.mem_append_left _ (List.mem_of_getElem? (i := 28) (by decide +kernel))) rfl
theorem m_se_X6_findSlants : Cond.selects yX6_findSlants.cls yX6_findSlants yX6_findSlants ∈ lwG := inG (List.mem_append_left _ (List.mem_of_getElem? (i := 29) (by decide +kernel))) rfl
theorem m_se_X6_isStation : Cond.selects yX6_isStation.cls yX6_isStation yX6_isStation ∈ lwG := inG (List.mem_append_left _ (List.mem_of_getElem? (i := 30) (by decide +kernel))) rfl
theorem m_se_X6_cross : Cond.selects yX6_cross.cls yX6_cross yX6_cross ∈ lwG := inG (List.mem_append_left _ (List.mem_of_getElem? (i := 31) (by decide +kernel))) rfl
theorem m_se_X6_bearers : Cond.selects yX6_bearers.cls yX6_bearers yX6_bearers ∈ lwG := inG (List.mem_append_left _ (List.mem_of_getElem? (i := 32) (by decide +kernel))) rfl
theorem m_se_X6_bears : Cond.selects yX6_bears.cls yX6_bears yX6_bears ∈ lwG := inG (List.mem_append_left _ (List.mem_of_getElem? (i := 33) (by decide +kernel))) rfl
theorem inX1 : ∀ w ∈ wsX10, w ∈ lwG := fun w h => inG ((by decide +kernel : ∀ w ∈ wsX10, w ∈ lw_tbl) w h) (List.all_eq_true.mp (by decide +kernel : wsX10.all goodWord = true) w h)
theorem inX2 : ∀ w ∈ wsX20, w ∈ lwG := fun w h => inG ((by decide +kernel : ∀ w ∈ wsX20, w ∈ lw_tbl) w h) (List.all_eq_true.mp (by decide +kernel : wsX20.all goodWord = true) w h)
theorem inX3 : ∀ w ∈ wsX30, w ∈ lwG := fun w h => inG ((by decide +kernel : ∀ w ∈ wsX30, w ∈ lw_tbl) w h) (List.all_eq_true.mp (by decide +kernel : wsX30.all goodWord = true) w h)
theorem inX4 : ∀ w ∈ wsX40, w ∈ lwG := fun w h => inG ((by decide +kernel : ∀ w ∈ wsX40, w ∈ lw_tbl) w h) (List.all_eq_true.mp (by decide +kernel : wsX40.all goodWord = true) w h)
theorem inX5 : ∀ w ∈ wsX50, w ∈ lwG := fun w h => inG ((by decide +kernel : ∀ w ∈ wsX50, w ∈ lw_tbl) w h) (List.all_eq_true.mp (by decide +kernel : wsX50.all goodWord = true) w h)
theorem inX6 : ∀ w ∈ wsX60, w ∈ lwG := fun w h => inG ((by decide +kernel : ∀ w ∈ wsX60, w ∈ lw_tbl) w h) (List.all_eq_true.mp (by decide +kernel : wsX60.all goodWord = true) w h)
theorem gAny {c0 : Cond} {ws : List Cond} (h : ∀ w ∈ ws, w ∈ lwG) : GoodIn (c0 :: lwG) ws := fun w hw => ⟨List.mem_cons_of_mem _ (h w hw), good_of_word (gdG (h w hw))⟩
theorem gAnyL {ws : List Cond} (h : ∀ w ∈ ws, w ∈ lwG) : GoodIn lw_tbl ws := fun w hw => ⟨outG (h w hw), good_of_word (gdG (h w hw))⟩
theorem inV {own C : String} {idx n : Nat} {y : MethodName} {cc : ByteArray} {ret : Option FieldType} (h1 : Cond.methodLink own idx y ∈ lwG) (h2 : Cond.instanceMethod y ∈ lwG) (h3 : Cond.selects C y y ∈ lwG) (h4 : Cond.initialized C ∈ lwG) (h5 : Cond.code y cc n ret ∈ lwG) : ∀ w ∈ wsV own idx C y (Cond.code y cc n ret :: lwG), w ∈ lwG := by
  intro w hw
  simp only [wsV, List.mem_append, List.mem_cons, List.not_mem_nil, or_false] at hw
  rcases hw with (rfl | rfl | rfl | rfl) | rfl | hw <;> assumption
theorem inS {own : String} {idx n : Nat} {y : MethodName} {cc : ByteArray} {ret : Option FieldType} (h1 : Cond.methodLink own idx y ∈ lwG) (h2 : Cond.static y ∈ lwG) (h4 : Cond.initialized y.cls ∈ lwG) (h5 : Cond.code y cc n ret ∈ lwG) : ∀ w ∈ va_wsS own idx y (Cond.code y cc n ret :: lwG), w ∈ lwG := by
  intro w hw
  simp only [va_wsS, List.mem_append, List.mem_cons, List.not_mem_nil, or_false] at hw
  rcases hw with (rfl | rfl | rfl) | rfl | hw <;> assumption
theorem inC {n : Nat} {y : MethodName} {cc : ByteArray} {ret : Option FieldType} (h5 : Cond.code y cc n ret ∈ lwG) : ∀ w ∈ Cond.code y cc n ret :: lwG, w ∈ lwG := by
  intro w hw
  rcases List.mem_cons.mp hw with rfl | hw <;> assumption
abbrev wwX0_pairs : List Cond := .code yX0_pairs cX0_pairs 2 (some .int) :: lwG
theorem hdX0_pairs : yX0_pairs.cls ≠ "java/lang/invoke/MethodHandle" ∧ yX0_pairs.cls ≠ "java/lang/invoke/VarHandle" ∧ (parseMethodDescriptor yX0_pairs.desc).map (fun d => d.parameters.length) = some 2 := by decide +kernel
abbrev wwX0_reach : List Cond := .code yX0_reach cX0_reach 2 (some .int) :: lwG
theorem hdX0_reach : yX0_reach.cls ≠ "java/lang/invoke/MethodHandle" ∧ yX0_reach.cls ≠ "java/lang/invoke/VarHandle" ∧ (parseMethodDescriptor yX0_reach.desc).map (fun d => d.parameters.length) = some 1 := by decide +kernel
abbrev wwX0_greatest : List Cond := .code yX0_greatest cX0_greatest 2 (some .int) :: lwG
theorem hdX0_greatest : yX0_greatest.cls ≠ "java/lang/invoke/MethodHandle" ∧ yX0_greatest.cls ≠ "java/lang/invoke/VarHandle" ∧ (parseMethodDescriptor yX0_greatest.desc).map (fun d => d.parameters.length) = some 1 := by decide +kernel
abbrev wwX0_present : List Cond := .code yX0_present cX0_present 3 (some .int) :: lwG
theorem hdX0_present : yX0_present.cls ≠ "java/lang/invoke/MethodHandle" ∧ yX0_present.cls ≠ "java/lang/invoke/VarHandle" ∧ (parseMethodDescriptor yX0_present.desc).map (fun d => d.parameters.length) = some 1 := by decide +kernel
abbrev wwX0_holes : List Cond := .code yX0_holes cX0_holes 1 (some .int) :: lwG
theorem hdX0_holes : yX0_holes.cls ≠ "java/lang/invoke/MethodHandle" ∧ yX0_holes.cls ≠ "java/lang/invoke/VarHandle" ∧ (parseMethodDescriptor yX0_holes.desc).map (fun d => d.parameters.length) = some 1 := by decide +kernel
abbrev wwX0_bestPlace : List Cond := .code yX0_bestPlace cX0_bestPlace 5 (some .int) :: lwG
theorem hdX0_bestPlace : yX0_bestPlace.cls ≠ "java/lang/invoke/MethodHandle" ∧ yX0_bestPlace.cls ≠ "java/lang/invoke/VarHandle" ∧ (parseMethodDescriptor yX0_bestPlace.desc).map (fun d => d.parameters.length) = some 1 := by decide +kernel
abbrev wwX1_init : List Cond := .code yX1_init cX1_init 2 none :: lwG
theorem hdX1_init : yX1_init.cls ≠ "java/lang/invoke/MethodHandle" ∧ yX1_init.cls ≠ "java/lang/invoke/VarHandle" ∧ (parseMethodDescriptor yX1_init.desc).map (fun d => d.parameters.length) = some 1 := by decide +kernel
abbrev wwX1_take : List Cond := .code yX1_take cX1_take 5 none :: lwG
theorem hdX1_take : yX1_take.cls = RX1 ∧ yX1_take.cls ≠ "java/lang/invoke/MethodHandle" ∧ yX1_take.cls ≠ "java/lang/invoke/VarHandle" ∧ (parseMethodDescriptor yX1_take.desc).map (fun d => d.parameters.length) = some 3 := by decide +kernel
abbrev wwX1_find : List Cond := .code yX1_find cX1_find 8 none :: lwG
theorem hdX1_find : yX1_find.cls = RX1 ∧ yX1_find.cls ≠ "java/lang/invoke/MethodHandle" ∧ yX1_find.cls ≠ "java/lang/invoke/VarHandle" ∧ (parseMethodDescriptor yX1_find.desc).map (fun d => d.parameters.length) = some 1 := by decide +kernel
abbrev wwX1_start : List Cond := .code yX1_start cX1_start 2 none :: lwG
theorem hdX1_start : yX1_start.cls = RX1 ∧ yX1_start.cls ≠ "java/lang/invoke/MethodHandle" ∧ yX1_start.cls ≠ "java/lang/invoke/VarHandle" ∧ (parseMethodDescriptor yX1_start.desc).map (fun d => d.parameters.length) = some 0 := by decide +kernel
abbrev wwX1_missAt : List Cond := .code yX1_missAt cX1_missAt 4 (some .int) :: lwG
theorem hdX1_missAt : yX1_missAt.cls = RX1 ∧ yX1_missAt.cls ≠ "java/lang/invoke/MethodHandle" ∧ yX1_missAt.cls ≠ "java/lang/invoke/VarHandle" ∧ (parseMethodDescriptor yX1_missAt.desc).map (fun d => d.parameters.length) = some 1 := by decide +kernel
abbrev wwX1_correct : List Cond := .code yX1_correct cX1_correct 6 none :: lwG
theorem hdX1_correct : yX1_correct.cls = RX1 ∧ yX1_correct.cls ≠ "java/lang/invoke/MethodHandle" ∧ yX1_correct.cls ≠ "java/lang/invoke/VarHandle" ∧ (parseMethodDescriptor yX1_correct.desc).map (fun d => d.parameters.length) = some 3 := by decide +kernel
abbrev wwX1_keepSpare : List Cond := .code yX1_keepSpare cX1_keepSpare 2 none :: lwG
theorem hdX1_keepSpare : yX1_keepSpare.cls = RX1 ∧ yX1_keepSpare.cls ≠ "java/lang/invoke/MethodHandle" ∧ yX1_keepSpare.cls ≠ "java/lang/invoke/VarHandle" ∧ (parseMethodDescriptor yX1_keepSpare.desc).map (fun d => d.parameters.length) = some 0 := by decide +kernel
abbrev wwX1_isOne : List Cond := .code yX1_isOne cX1_isOne 1 (some .boolean) :: lwG
theorem hdX1_isOne : yX1_isOne.cls = RX1 ∧ yX1_isOne.cls ≠ "java/lang/invoke/MethodHandle" ∧ yX1_isOne.cls ≠ "java/lang/invoke/VarHandle" ∧ (parseMethodDescriptor yX1_isOne.desc).map (fun d => d.parameters.length) = some 0 := by decide +kernel
abbrev wwX1_coefficient : List Cond := .code yX1_coefficient cX1_coefficient 2 (some .int) :: lwG
theorem hdX1_coefficient : yX1_coefficient.cls = RX1 ∧ yX1_coefficient.cls ≠ "java/lang/invoke/MethodHandle" ∧ yX1_coefficient.cls ≠ "java/lang/invoke/VarHandle" ∧ (parseMethodDescriptor yX1_coefficient.desc).map (fun d => d.parameters.length) = some 1 := by decide +kernel
abbrev wwX1_hasRoot : List Cond := .code yX1_hasRoot cX1_hasRoot 4 (some .boolean) :: lwG
theorem hdX1_hasRoot : yX1_hasRoot.cls = RX1 ∧ yX1_hasRoot.cls ≠ "java/lang/invoke/MethodHandle" ∧ yX1_hasRoot.cls ≠ "java/lang/invoke/VarHandle" ∧ (parseMethodDescriptor yX1_hasRoot.desc).map (fun d => d.parameters.length) = some 1 := by decide +kernel
abbrev wwX1_findSlants : List Cond := .code yX1_findSlants cX1_findSlants 2 none :: lwG
theorem hdX1_findSlants : yX1_findSlants.cls = RX1 ∧ yX1_findSlants.cls ≠ "java/lang/invoke/MethodHandle" ∧ yX1_findSlants.cls ≠ "java/lang/invoke/VarHandle" ∧ (parseMethodDescriptor yX1_findSlants.desc).map (fun d => d.parameters.length) = some 0 := by decide +kernel
abbrev wwX1_isFull : List Cond := .code yX1_isFull cX1_isFull 1 (some .boolean) :: lwG
theorem hdX1_isFull : yX1_isFull.cls = RX1 ∧ yX1_isFull.cls ≠ "java/lang/invoke/MethodHandle" ∧ yX1_isFull.cls ≠ "java/lang/invoke/VarHandle" ∧ (parseMethodDescriptor yX1_isFull.desc).map (fun d => d.parameters.length) = some 0 := by decide +kernel
abbrev wwX1_slantAt : List Cond := .code yX1_slantAt cX1_slantAt 2 (some .int) :: lwG
theorem hdX1_slantAt : yX1_slantAt.cls = RX1 ∧ yX1_slantAt.cls ≠ "java/lang/invoke/MethodHandle" ∧ yX1_slantAt.cls ≠ "java/lang/invoke/VarHandle" ∧ (parseMethodDescriptor yX1_slantAt.desc).map (fun d => d.parameters.length) = some 1 := by decide +kernel
abbrev wwX1_strengthOf : List Cond := .code yX1_strengthOf cX1_strengthOf 7 (some .int) :: lwG
theorem hdX1_strengthOf : yX1_strengthOf.cls = RX1 ∧ yX1_strengthOf.cls ≠ "java/lang/invoke/MethodHandle" ∧ yX1_strengthOf.cls ≠ "java/lang/invoke/VarHandle" ∧ (parseMethodDescriptor yX1_strengthOf.desc).map (fun d => d.parameters.length) = some 2 := by decide +kernel
abbrev wwX1_mend : List Cond := .code yX1_mend cX1_mend 7 (some .int) :: lwG
theorem hdX1_mend : yX1_mend.cls = RX1 ∧ yX1_mend.cls ≠ "java/lang/invoke/MethodHandle" ∧ yX1_mend.cls ≠ "java/lang/invoke/VarHandle" ∧ (parseMethodDescriptor yX1_mend.desc).map (fun d => d.parameters.length) = some 2 := by decide +kernel
abbrev wwX2_init : List Cond := .code yX2_init cX2_init 1 none :: lwG
theorem hdX2_init : yX2_init.cls ≠ "java/lang/invoke/MethodHandle" ∧ yX2_init.cls ≠ "java/lang/invoke/VarHandle" ∧ (parseMethodDescriptor yX2_init.desc).map (fun d => d.parameters.length) = some 0 := by decide +kernel
abbrev wwX2_canBePrime : List Cond := .code yX2_canBePrime cX2_canBePrime 2 (some .boolean) :: lwG
theorem hdX2_canBePrime : yX2_canBePrime.cls ≠ "java/lang/invoke/MethodHandle" ∧ yX2_canBePrime.cls ≠ "java/lang/invoke/VarHandle" ∧ (parseMethodDescriptor yX2_canBePrime.desc).map (fun d => d.parameters.length) = some 1 := by decide +kernel
abbrev wwX2_become : List Cond := .code yX2_become cX2_become 3 none :: lwG
theorem hdX2_become : yX2_become.cls = RX2 ∧ yX2_become.cls ≠ "java/lang/invoke/MethodHandle" ∧ yX2_become.cls ≠ "java/lang/invoke/VarHandle" ∧ (parseMethodDescriptor yX2_become.desc).map (fun d => d.parameters.length) = some 1 := by decide +kernel
abbrev wwX2_of : List Cond := .code yX2_of cX2_of 2 (some .int) :: lwG
theorem hdX2_of : yX2_of.cls = RX2 ∧ yX2_of.cls ≠ "java/lang/invoke/MethodHandle" ∧ yX2_of.cls ≠ "java/lang/invoke/VarHandle" ∧ (parseMethodDescriptor yX2_of.desc).map (fun d => d.parameters.length) = some 1 := by decide +kernel
abbrev wwX2_isFactor : List Cond := .code yX2_isFactor cX2_isFactor 2 (some .boolean) :: lwG
theorem hdX2_isFactor : yX2_isFactor.cls = RX2 ∧ yX2_isFactor.cls ≠ "java/lang/invoke/MethodHandle" ∧ yX2_isFactor.cls ≠ "java/lang/invoke/VarHandle" ∧ (parseMethodDescriptor yX2_isFactor.desc).map (fun d => d.parameters.length) = some 1 := by decide +kernel
abbrev wwX2_inverse : List Cond := .code yX2_inverse cX2_inverse 2 (some .int) :: lwG
theorem hdX2_inverse : yX2_inverse.cls = RX2 ∧ yX2_inverse.cls ≠ "java/lang/invoke/MethodHandle" ∧ yX2_inverse.cls ≠ "java/lang/invoke/VarHandle" ∧ (parseMethodDescriptor yX2_inverse.desc).map (fun d => d.parameters.length) = some 1 := by decide +kernel
abbrev wwX2_power : List Cond := .code yX2_power cX2_power 5 (some .int) :: lwG
theorem hdX2_power : yX2_power.cls = RX2 ∧ yX2_power.cls ≠ "java/lang/invoke/MethodHandle" ∧ yX2_power.cls ≠ "java/lang/invoke/VarHandle" ∧ (parseMethodDescriptor yX2_power.desc).map (fun d => d.parameters.length) = some 2 := by decide +kernel
abbrev wwX3_init : List Cond := .code yX3_init cX3_init 2 none :: lwG
theorem hdX3_init : yX3_init.cls ≠ "java/lang/invoke/MethodHandle" ∧ yX3_init.cls ≠ "java/lang/invoke/VarHandle" ∧ (parseMethodDescriptor yX3_init.desc).map (fun d => d.parameters.length) = some 1 := by decide +kernel
abbrev wwX3_clear : List Cond := .code yX3_clear cX3_clear 2 none :: lwG
theorem hdX3_clear : yX3_clear.cls = RX3 ∧ yX3_clear.cls ≠ "java/lang/invoke/MethodHandle" ∧ yX3_clear.cls ≠ "java/lang/invoke/VarHandle" ∧ (parseMethodDescriptor yX3_clear.desc).map (fun d => d.parameters.length) = some 0 := by decide +kernel
abbrev wwX3_hasHearer : List Cond := .code yX3_hasHearer cX3_hasHearer 2 (some .boolean) :: lwG
theorem hdX3_hasHearer : yX3_hasHearer.cls = RX3 ∧ yX3_hasHearer.cls ≠ "java/lang/invoke/MethodHandle" ∧ yX3_hasHearer.cls ≠ "java/lang/invoke/VarHandle" ∧ (parseMethodDescriptor yX3_hasHearer.desc).map (fun d => d.parameters.length) = some 1 := by decide +kernel
abbrev wwX3_hasHearers : List Cond := .code yX3_hasHearers cX3_hasHearers 4 (some .boolean) :: lwG
theorem hdX3_hasHearers : yX3_hasHearers.cls = RX3 ∧ yX3_hasHearers.cls ≠ "java/lang/invoke/MethodHandle" ∧ yX3_hasHearers.cls ≠ "java/lang/invoke/VarHandle" ∧ (parseMethodDescriptor yX3_hasHearers.desc).map (fun d => d.parameters.length) = some 2 := by decide +kernel
abbrev wwX3_readAt : List Cond := .code yX3_readAt cX3_readAt 2 (some .int) :: lwG
theorem hdX3_readAt : yX3_readAt.cls = RX3 ∧ yX3_readAt.cls ≠ "java/lang/invoke/MethodHandle" ∧ yX3_readAt.cls ≠ "java/lang/invoke/VarHandle" ∧ (parseMethodDescriptor yX3_readAt.desc).map (fun d => d.parameters.length) = some 1 := by decide +kernel
abbrev wwX3_readsByHand : List Cond := .code yX3_readsByHand cX3_readsByHand 3 (some .int) :: lwG
theorem hdX3_readsByHand : yX3_readsByHand.cls = RX3 ∧ yX3_readsByHand.cls ≠ "java/lang/invoke/MethodHandle" ∧ yX3_readsByHand.cls ≠ "java/lang/invoke/VarHandle" ∧ (parseMethodDescriptor yX3_readsByHand.desc).map (fun d => d.parameters.length) = some 0 := by decide +kernel
abbrev wwX3_hasSlant : List Cond := .code yX3_hasSlant cX3_hasSlant 3 (some .boolean) :: lwG
theorem hdX3_hasSlant : yX3_hasSlant.cls = RX3 ∧ yX3_hasSlant.cls ≠ "java/lang/invoke/MethodHandle" ∧ yX3_hasSlant.cls ≠ "java/lang/invoke/VarHandle" ∧ (parseMethodDescriptor yX3_hasSlant.desc).map (fun d => d.parameters.length) = some 1 := by decide +kernel
abbrev wwX3_addSender : List Cond := .code yX3_addSender cX3_addSender 4 (some .int) :: lwG
theorem hdX3_addSender : yX3_addSender.cls = RX3 ∧ yX3_addSender.cls ≠ "java/lang/invoke/MethodHandle" ∧ yX3_addSender.cls ≠ "java/lang/invoke/VarHandle" ∧ (parseMethodDescriptor yX3_addSender.desc).map (fun d => d.parameters.length) = some 2 := by decide +kernel
abbrev wwX3_dropSender : List Cond := .code yX3_dropSender cX3_dropSender 1 (some .int) :: lwG
theorem hdX3_dropSender : yX3_dropSender.cls = RX3 ∧ yX3_dropSender.cls ≠ "java/lang/invoke/MethodHandle" ∧ yX3_dropSender.cls ≠ "java/lang/invoke/VarHandle" ∧ (parseMethodDescriptor yX3_dropSender.desc).map (fun d => d.parameters.length) = some 0 := by decide +kernel
abbrev wwX3_addWave : List Cond := .code yX3_addWave cX3_addWave 5 none :: lwG
theorem hdX3_addWave : yX3_addWave.cls = RX3 ∧ yX3_addWave.cls ≠ "java/lang/invoke/MethodHandle" ∧ yX3_addWave.cls ≠ "java/lang/invoke/VarHandle" ∧ (parseMethodDescriptor yX3_addWave.desc).map (fun d => d.parameters.length) = some 2 := by decide +kernel
abbrev wwX3_hasSilentHearer : List Cond := .code yX3_hasSilentHearer cX3_hasSilentHearer 2 (some .boolean) :: lwG
theorem hdX3_hasSilentHearer : yX3_hasSilentHearer.cls = RX3 ∧ yX3_hasSilentHearer.cls ≠ "java/lang/invoke/MethodHandle" ∧ yX3_hasSilentHearer.cls ≠ "java/lang/invoke/VarHandle" ∧ (parseMethodDescriptor yX3_hasSilentHearer.desc).map (fun d => d.parameters.length) = some 0 := by decide +kernel
abbrev wwX3_tuneTo : List Cond := .code yX3_tuneTo cX3_tuneTo 6 (some .int) :: lwG
theorem hdX3_tuneTo : yX3_tuneTo.cls = RX3 ∧ yX3_tuneTo.cls ≠ "java/lang/invoke/MethodHandle" ∧ yX3_tuneTo.cls ≠ "java/lang/invoke/VarHandle" ∧ (parseMethodDescriptor yX3_tuneTo.desc).map (fun d => d.parameters.length) = some 1 := by decide +kernel
abbrev wwX3_twinsInAll : List Cond := .code yX3_twinsInAll cX3_twinsInAll 4 (some .int) :: lwG
theorem hdX3_twinsInAll : yX3_twinsInAll.cls = RX3 ∧ yX3_twinsInAll.cls ≠ "java/lang/invoke/MethodHandle" ∧ yX3_twinsInAll.cls ≠ "java/lang/invoke/VarHandle" ∧ (parseMethodDescriptor yX3_twinsInAll.desc).map (fun d => d.parameters.length) = some 0 := by decide +kernel
abbrev wwX3_twinAt : List Cond := .code yX3_twinAt cX3_twinAt 6 (some .int) :: lwG
theorem hdX3_twinAt : yX3_twinAt.cls = RX3 ∧ yX3_twinAt.cls ≠ "java/lang/invoke/MethodHandle" ∧ yX3_twinAt.cls ≠ "java/lang/invoke/VarHandle" ∧ (parseMethodDescriptor yX3_twinAt.desc).map (fun d => d.parameters.length) = some 2 := by decide +kernel
abbrev wwX3_makeImages : List Cond := .code yX3_makeImages cX3_makeImages 3 none :: lwG
theorem hdX3_makeImages : yX3_makeImages.cls = RX3 ∧ yX3_makeImages.cls ≠ "java/lang/invoke/MethodHandle" ∧ yX3_makeImages.cls ≠ "java/lang/invoke/VarHandle" ∧ (parseMethodDescriptor yX3_makeImages.desc).map (fun d => d.parameters.length) = some 0 := by decide +kernel
abbrev wwX3_spacing : List Cond := .code yX3_spacing cX3_spacing 5 (some .int) :: lwG
theorem hdX3_spacing : yX3_spacing.cls = RX3 ∧ yX3_spacing.cls ≠ "java/lang/invoke/MethodHandle" ∧ yX3_spacing.cls ≠ "java/lang/invoke/VarHandle" ∧ (parseMethodDescriptor yX3_spacing.desc).map (fun d => d.parameters.length) = some 0 := by decide +kernel
abbrev wwX4_init : List Cond := .code yX4_init cX4_init 1 none :: lwG
theorem hdX4_init : yX4_init.cls ≠ "java/lang/invoke/MethodHandle" ∧ yX4_init.cls ≠ "java/lang/invoke/VarHandle" ∧ (parseMethodDescriptor yX4_init.desc).map (fun d => d.parameters.length) = some 0 := by decide +kernel
abbrev wwX4_has : List Cond := .code yX4_has cX4_has 2 (some .boolean) :: lwG
theorem hdX4_has : yX4_has.cls = RX4 ∧ yX4_has.cls ≠ "java/lang/invoke/MethodHandle" ∧ yX4_has.cls ≠ "java/lang/invoke/VarHandle" ∧ (parseMethodDescriptor yX4_has.desc).map (fun d => d.parameters.length) = some 1 := by decide +kernel
abbrev wwX4_add : List Cond := .code yX4_add cX4_add 6 (some .int) :: lwG
theorem hdX4_add : yX4_add.cls = RX4 ∧ yX4_add.cls ≠ "java/lang/invoke/MethodHandle" ∧ yX4_add.cls ≠ "java/lang/invoke/VarHandle" ∧ (parseMethodDescriptor yX4_add.desc).map (fun d => d.parameters.length) = some 4 := by decide +kernel
abbrev wwX4_turn : List Cond := .code yX4_turn cX4_turn 4 none :: lwG
theorem hdX4_turn : yX4_turn.cls = RX4 ∧ yX4_turn.cls ≠ "java/lang/invoke/MethodHandle" ∧ yX4_turn.cls ≠ "java/lang/invoke/VarHandle" ∧ (parseMethodDescriptor yX4_turn.desc).map (fun d => d.parameters.length) = some 3 := by decide +kernel
abbrev wwX4_cross : List Cond := .code yX4_cross cX4_cross 13 (some .boolean) :: lwG
theorem hdX4_cross : yX4_cross.cls = RX4 ∧ yX4_cross.cls ≠ "java/lang/invoke/MethodHandle" ∧ yX4_cross.cls ≠ "java/lang/invoke/VarHandle" ∧ (parseMethodDescriptor yX4_cross.desc).map (fun d => d.parameters.length) = some 2 := by decide +kernel
abbrev wwX4_partOfCross : List Cond := .code yX4_partOfCross cX4_partOfCross 6 (some .long) :: lwG
theorem hdX4_partOfCross : yX4_partOfCross.cls = RX4 ∧ yX4_partOfCross.cls ≠ "java/lang/invoke/MethodHandle" ∧ yX4_partOfCross.cls ≠ "java/lang/invoke/VarHandle" ∧ (parseMethodDescriptor yX4_partOfCross.desc).map (fun d => d.parameters.length) = some 1 := by decide +kernel
abbrev wwX4_bearers : List Cond := .code yX4_bearers cX4_bearers 6 (some .int) :: lwG
theorem hdX4_bearers : yX4_bearers.cls = RX4 ∧ yX4_bearers.cls ≠ "java/lang/invoke/MethodHandle" ∧ yX4_bearers.cls ≠ "java/lang/invoke/VarHandle" ∧ (parseMethodDescriptor yX4_bearers.desc).map (fun d => d.parameters.length) = some 3 := by decide +kernel
abbrev wwX4_bearsOut : List Cond := .code yX4_bearsOut cX4_bearsOut 11 (some .boolean) :: lwG
theorem hdX4_bearsOut : yX4_bearsOut.cls = RX4 ∧ yX4_bearsOut.cls ≠ "java/lang/invoke/MethodHandle" ∧ yX4_bearsOut.cls ≠ "java/lang/invoke/VarHandle" ∧ (parseMethodDescriptor yX4_bearsOut.desc).map (fun d => d.parameters.length) = some 2 := by decide +kernel
abbrev wwX4_mostBorne : List Cond := .code yX4_mostBorne cX4_mostBorne 9 (some .int) :: lwG
theorem hdX4_mostBorne : yX4_mostBorne.cls = RX4 ∧ yX4_mostBorne.cls ≠ "java/lang/invoke/MethodHandle" ∧ yX4_mostBorne.cls ≠ "java/lang/invoke/VarHandle" ∧ (parseMethodDescriptor yX4_mostBorne.desc).map (fun d => d.parameters.length) = some 2 := by decide +kernel
abbrev wwX5_init : List Cond := .code yX5_init cX5_init 1 none :: lwG
theorem hdX5_init : yX5_init.cls ≠ "java/lang/invoke/MethodHandle" ∧ yX5_init.cls ≠ "java/lang/invoke/VarHandle" ∧ (parseMethodDescriptor yX5_init.desc).map (fun d => d.parameters.length) = some 0 := by decide +kernel
abbrev wwX5_prime : List Cond := .code yX5_prime cX5_prime 3 (some .int) :: lwG
theorem hdX5_prime : yX5_prime.cls = RX5 ∧ yX5_prime.cls ≠ "java/lang/invoke/MethodHandle" ∧ yX5_prime.cls ≠ "java/lang/invoke/VarHandle" ∧ (parseMethodDescriptor yX5_prime.desc).map (fun d => d.parameters.length) = some 1 := by decide +kernel
abbrev wwX5_hearers : List Cond := .code yX5_hearers cX5_hearers 2 (some .int) :: lwG
theorem hdX5_hearers : yX5_hearers.cls = RX5 ∧ yX5_hearers.cls ≠ "java/lang/invoke/MethodHandle" ∧ yX5_hearers.cls ≠ "java/lang/invoke/VarHandle" ∧ (parseMethodDescriptor yX5_hearers.desc).map (fun d => d.parameters.length) = some 1 := by decide +kernel
abbrev wwX5_sender : List Cond := .code yX5_sender cX5_sender 3 (some .int) :: lwG
theorem hdX5_sender : yX5_sender.cls = RX5 ∧ yX5_sender.cls ≠ "java/lang/invoke/MethodHandle" ∧ yX5_sender.cls ≠ "java/lang/invoke/VarHandle" ∧ (parseMethodDescriptor yX5_sender.desc).map (fun d => d.parameters.length) = some 2 := by decide +kernel
abbrev wwX5_drop : List Cond := .code yX5_drop cX5_drop 1 (some .int) :: lwG
theorem hdX5_drop : yX5_drop.cls = RX5 ∧ yX5_drop.cls ≠ "java/lang/invoke/MethodHandle" ∧ yX5_drop.cls ≠ "java/lang/invoke/VarHandle" ∧ (parseMethodDescriptor yX5_drop.desc).map (fun d => d.parameters.length) = some 0 := by decide +kernel
abbrev wwX5_gain : List Cond := .code yX5_gain cX5_gain 4 (some .int) :: lwG
theorem hdX5_gain : yX5_gain.cls = RX5 ∧ yX5_gain.cls ≠ "java/lang/invoke/MethodHandle" ∧ yX5_gain.cls ≠ "java/lang/invoke/VarHandle" ∧ (parseMethodDescriptor yX5_gain.desc).map (fun d => d.parameters.length) = some 2 := by decide +kernel
abbrev wwX5_read : List Cond := .code yX5_read cX5_read 3 (some .int) :: lwG
theorem hdX5_read : yX5_read.cls = RX5 ∧ yX5_read.cls ≠ "java/lang/invoke/MethodHandle" ∧ yX5_read.cls ≠ "java/lang/invoke/VarHandle" ∧ (parseMethodDescriptor yX5_read.desc).map (fun d => d.parameters.length) = some 2 := by decide +kernel
abbrev wwX5_heard : List Cond := .code yX5_heard cX5_heard 2 (some .int) :: lwG
theorem hdX5_heard : yX5_heard.cls = RX5 ∧ yX5_heard.cls ≠ "java/lang/invoke/MethodHandle" ∧ yX5_heard.cls ≠ "java/lang/invoke/VarHandle" ∧ (parseMethodDescriptor yX5_heard.desc).map (fun d => d.parameters.length) = some 1 := by decide +kernel
abbrev wwX5_count : List Cond := .code yX5_count cX5_count 2 (some .int) :: lwG
theorem hdX5_count : yX5_count.cls = RX5 ∧ yX5_count.cls ≠ "java/lang/invoke/MethodHandle" ∧ yX5_count.cls ≠ "java/lang/invoke/VarHandle" ∧ (parseMethodDescriptor yX5_count.desc).map (fun d => d.parameters.length) = some 1 := by decide +kernel
abbrev wwX5_order : List Cond := .code yX5_order cX5_order 4 (some .int) :: lwG
theorem hdX5_order : yX5_order.cls = RX5 ∧ yX5_order.cls ≠ "java/lang/invoke/MethodHandle" ∧ yX5_order.cls ≠ "java/lang/invoke/VarHandle" ∧ (parseMethodDescriptor yX5_order.desc).map (fun d => d.parameters.length) = some 2 := by decide +kernel
abbrev wwX5_law : List Cond := .code yX5_law cX5_law 5 (some .int) :: lwG
theorem hdX5_law : yX5_law.cls = RX5 ∧ yX5_law.cls ≠ "java/lang/invoke/MethodHandle" ∧ yX5_law.cls ≠ "java/lang/invoke/VarHandle" ∧ (parseMethodDescriptor yX5_law.desc).map (fun d => d.parameters.length) = some 3 := by decide +kernel
abbrev wwX5_slant : List Cond := .code yX5_slant cX5_slant 5 (some .int) :: lwG
theorem hdX5_slant : yX5_slant.cls = RX5 ∧ yX5_slant.cls ≠ "java/lang/invoke/MethodHandle" ∧ yX5_slant.cls ≠ "java/lang/invoke/VarHandle" ∧ (parseMethodDescriptor yX5_slant.desc).map (fun d => d.parameters.length) = some 3 := by decide +kernel
abbrev wwX5_strength : List Cond := .code yX5_strength cX5_strength 6 (some .int) :: lwG
theorem hdX5_strength : yX5_strength.cls = RX5 ∧ yX5_strength.cls ≠ "java/lang/invoke/MethodHandle" ∧ yX5_strength.cls ≠ "java/lang/invoke/VarHandle" ∧ (parseMethodDescriptor yX5_strength.desc).map (fun d => d.parameters.length) = some 3 := by decide +kernel
abbrev wwX5_mended : List Cond := .code yX5_mended cX5_mended 5 (some .int) :: lwG
theorem hdX5_mended : yX5_mended.cls = RX5 ∧ yX5_mended.cls ≠ "java/lang/invoke/MethodHandle" ∧ yX5_mended.cls ≠ "java/lang/invoke/VarHandle" ∧ (parseMethodDescriptor yX5_mended.desc).map (fun d => d.parameters.length) = some 4 := by decide +kernel
abbrev wwX5_tune : List Cond := .code yX5_tune cX5_tune 2 (some .int) :: lwG
theorem hdX5_tune : yX5_tune.cls = RX5 ∧ yX5_tune.cls ≠ "java/lang/invoke/MethodHandle" ∧ yX5_tune.cls ≠ "java/lang/invoke/VarHandle" ∧ (parseMethodDescriptor yX5_tune.desc).map (fun d => d.parameters.length) = some 1 := by decide +kernel
abbrev wwX5_twin : List Cond := .code yX5_twin cX5_twin 3 (some .int) :: lwG
theorem hdX5_twin : yX5_twin.cls = RX5 ∧ yX5_twin.cls ≠ "java/lang/invoke/MethodHandle" ∧ yX5_twin.cls ≠ "java/lang/invoke/VarHandle" ∧ (parseMethodDescriptor yX5_twin.desc).map (fun d => d.parameters.length) = some 2 := by decide +kernel
abbrev wwX5_weight : List Cond := .code yX5_weight cX5_weight 2 (some .int) :: lwG
theorem hdX5_weight : yX5_weight.cls = RX5 ∧ yX5_weight.cls ≠ "java/lang/invoke/MethodHandle" ∧ yX5_weight.cls ≠ "java/lang/invoke/VarHandle" ∧ (parseMethodDescriptor yX5_weight.desc).map (fun d => d.parameters.length) = some 1 := by decide +kernel
abbrev wwX5_best : List Cond := .code yX5_best cX5_best 3 (some .int) :: lwG
theorem hdX5_best : yX5_best.cls = RX5 ∧ yX5_best.cls ≠ "java/lang/invoke/MethodHandle" ∧ yX5_best.cls ≠ "java/lang/invoke/VarHandle" ∧ (parseMethodDescriptor yX5_best.desc).map (fun d => d.parameters.length) = some 1 := by decide +kernel
abbrev wwX5_station : List Cond := .code yX5_station cX5_station 5 (some .int) :: lwG
theorem hdX5_station : yX5_station.cls = RX5 ∧ yX5_station.cls ≠ "java/lang/invoke/MethodHandle" ∧ yX5_station.cls ≠ "java/lang/invoke/VarHandle" ∧ (parseMethodDescriptor yX5_station.desc).map (fun d => d.parameters.length) = some 4 := by decide +kernel
abbrev wwX5_look : List Cond := .code yX5_look cX5_look 4 (some .int) :: lwG
theorem hdX5_look : yX5_look.cls = RX5 ∧ yX5_look.cls ≠ "java/lang/invoke/MethodHandle" ∧ yX5_look.cls ≠ "java/lang/invoke/VarHandle" ∧ (parseMethodDescriptor yX5_look.desc).map (fun d => d.parameters.length) = some 3 := by decide +kernel
abbrev wwX5_crossing : List Cond := .code yX5_crossing cX5_crossing 4 (some .long) :: lwG
theorem hdX5_crossing : yX5_crossing.cls = RX5 ∧ yX5_crossing.cls ≠ "java/lang/invoke/MethodHandle" ∧ yX5_crossing.cls ≠ "java/lang/invoke/VarHandle" ∧ (parseMethodDescriptor yX5_crossing.desc).map (fun d => d.parameters.length) = some 3 := by decide +kernel
abbrev wwX5_borne : List Cond := .code yX5_borne cX5_borne 4 (some .int) :: lwG
theorem hdX5_borne : yX5_borne.cls = RX5 ∧ yX5_borne.cls ≠ "java/lang/invoke/MethodHandle" ∧ yX5_borne.cls ≠ "java/lang/invoke/VarHandle" ∧ (parseMethodDescriptor yX5_borne.desc).map (fun d => d.parameters.length) = some 3 := by decide +kernel
abbrev wwX5_most : List Cond := .code yX5_most cX5_most 3 (some .int) :: lwG
theorem hdX5_most : yX5_most.cls = RX5 ∧ yX5_most.cls ≠ "java/lang/invoke/MethodHandle" ∧ yX5_most.cls ≠ "java/lang/invoke/VarHandle" ∧ (parseMethodDescriptor yX5_most.desc).map (fun d => d.parameters.length) = some 2 := by decide +kernel
abbrev wwX5_isPlace : List Cond := .code yX5_isPlace cX5_isPlace 1 (some .boolean) :: lwG
theorem hdX5_isPlace : yX5_isPlace.cls ≠ "java/lang/invoke/MethodHandle" ∧ yX5_isPlace.cls ≠ "java/lang/invoke/VarHandle" ∧ (parseMethodDescriptor yX5_isPlace.desc).map (fun d => d.parameters.length) = some 1 := by decide +kernel
abbrev wwX5_isSpan : List Cond := .code yX5_isSpan cX5_isSpan 2 (some .boolean) :: lwG
theorem hdX5_isSpan : yX5_isSpan.cls ≠ "java/lang/invoke/MethodHandle" ∧ yX5_isSpan.cls ≠ "java/lang/invoke/VarHandle" ∧ (parseMethodDescriptor yX5_isSpan.desc).map (fun d => d.parameters.length) = some 2 := by decide +kernel
abbrev wwX5_isNear : List Cond := .code yX5_isNear cX5_isNear 1 (some .boolean) :: lwG
theorem hdX5_isNear : yX5_isNear.cls ≠ "java/lang/invoke/MethodHandle" ∧ yX5_isNear.cls ≠ "java/lang/invoke/VarHandle" ∧ (parseMethodDescriptor yX5_isNear.desc).map (fun d => d.parameters.length) = some 1 := by decide +kernel
abbrev wwX5_isWay : List Cond := .code yX5_isWay cX5_isWay 2 (some .boolean) :: lwG
theorem hdX5_isWay : yX5_isWay.cls ≠ "java/lang/invoke/MethodHandle" ∧ yX5_isWay.cls ≠ "java/lang/invoke/VarHandle" ∧ (parseMethodDescriptor yX5_isWay.desc).map (fun d => d.parameters.length) = some 2 := by decide +kernel
abbrev wwX5_spanRefusal : List Cond := .code yX5_spanRefusal cX5_spanRefusal 3 (some .int) :: lwG
theorem hdX5_spanRefusal : yX5_spanRefusal.cls = RX5 ∧ yX5_spanRefusal.cls ≠ "java/lang/invoke/MethodHandle" ∧ yX5_spanRefusal.cls ≠ "java/lang/invoke/VarHandle" ∧ (parseMethodDescriptor yX5_spanRefusal.desc).map (fun d => d.parameters.length) = some 2 := by decide +kernel
abbrev wwX5_findLaw : List Cond := .code yX5_findLaw cX5_findLaw 3 none :: lwG
theorem hdX5_findLaw : yX5_findLaw.cls = RX5 ∧ yX5_findLaw.cls ≠ "java/lang/invoke/MethodHandle" ∧ yX5_findLaw.cls ≠ "java/lang/invoke/VarHandle" ∧ (parseMethodDescriptor yX5_findLaw.desc).map (fun d => d.parameters.length) = some 2 := by decide +kernel
abbrev wwX5_findSlants : List Cond := .code yX5_findSlants cX5_findSlants 4 (some .int) :: lwG
theorem hdX5_findSlants : yX5_findSlants.cls = RX5 ∧ yX5_findSlants.cls ≠ "java/lang/invoke/MethodHandle" ∧ yX5_findSlants.cls ≠ "java/lang/invoke/VarHandle" ∧ (parseMethodDescriptor yX5_findSlants.desc).map (fun d => d.parameters.length) = some 2 := by decide +kernel
abbrev wwX5_commonDivisor : List Cond := .code yX5_commonDivisor cX5_commonDivisor 7 (some .long) :: lwG
theorem hdX5_commonDivisor : yX5_commonDivisor.cls ≠ "java/lang/invoke/MethodHandle" ∧ yX5_commonDivisor.cls ≠ "java/lang/invoke/VarHandle" ∧ (parseMethodDescriptor yX5_commonDivisor.desc).map (fun d => d.parameters.length) = some 2 := by decide +kernel
abbrev wwX6_init : List Cond := .code yX6_init cX6_init 1 none :: lwG
theorem hdX6_init : yX6_init.cls ≠ "java/lang/invoke/MethodHandle" ∧ yX6_init.cls ≠ "java/lang/invoke/VarHandle" ∧ (parseMethodDescriptor yX6_init.desc).map (fun d => d.parameters.length) = some 0 := by decide +kernel
abbrev wwX6_clear : List Cond := .code yX6_clear cX6_clear 2 none :: lwG
theorem hdX6_clear : yX6_clear.cls = RX6 ∧ yX6_clear.cls ≠ "java/lang/invoke/MethodHandle" ∧ yX6_clear.cls ≠ "java/lang/invoke/VarHandle" ∧ (parseMethodDescriptor yX6_clear.desc).map (fun d => d.parameters.length) = some 0 := by decide +kernel
abbrev wwX6_in : List Cond := .code yX6_in cX6_in 6 (some .boolean) :: lwG
theorem hdX6_in : yX6_in.cls ≠ "java/lang/invoke/MethodHandle" ∧ yX6_in.cls ≠ "java/lang/invoke/VarHandle" ∧ (parseMethodDescriptor yX6_in.desc).map (fun d => d.parameters.length) = some 3 := by decide +kernel
abbrev wwX6_isPrime : List Cond := .code yX6_isPrime cX6_isPrime 3 (some .boolean) :: lwG
theorem hdX6_isPrime : yX6_isPrime.cls ≠ "java/lang/invoke/MethodHandle" ∧ yX6_isPrime.cls ≠ "java/lang/invoke/VarHandle" ∧ (parseMethodDescriptor yX6_isPrime.desc).map (fun d => d.parameters.length) = some 1 := by decide +kernel
abbrev wwX6_rest : List Cond := .code yX6_rest cX6_rest 2 (some .int) :: lwG
theorem hdX6_rest : yX6_rest.cls = RX6 ∧ yX6_rest.cls ≠ "java/lang/invoke/MethodHandle" ∧ yX6_rest.cls ≠ "java/lang/invoke/VarHandle" ∧ (parseMethodDescriptor yX6_rest.desc).map (fun d => d.parameters.length) = some 1 := by decide +kernel
abbrev wwX6_power : List Cond := .code yX6_power cX6_power 5 (some .int) :: lwG
theorem hdX6_power : yX6_power.cls = RX6 ∧ yX6_power.cls ≠ "java/lang/invoke/MethodHandle" ∧ yX6_power.cls ≠ "java/lang/invoke/VarHandle" ∧ (parseMethodDescriptor yX6_power.desc).map (fun d => d.parameters.length) = some 2 := by decide +kernel
abbrev wwX6_over : List Cond := .code yX6_over cX6_over 3 (some .int) :: lwG
theorem hdX6_over : yX6_over.cls = RX6 ∧ yX6_over.cls ≠ "java/lang/invoke/MethodHandle" ∧ yX6_over.cls ≠ "java/lang/invoke/VarHandle" ∧ (parseMethodDescriptor yX6_over.desc).map (fun d => d.parameters.length) = some 1 := by decide +kernel
abbrev wwX6_prime : List Cond := .code yX6_prime cX6_prime 3 (some .int) :: lwG
theorem hdX6_prime : yX6_prime.cls = RX6 ∧ yX6_prime.cls ≠ "java/lang/invoke/MethodHandle" ∧ yX6_prime.cls ≠ "java/lang/invoke/VarHandle" ∧ (parseMethodDescriptor yX6_prime.desc).map (fun d => d.parameters.length) = some 1 := by decide +kernel
abbrev wwX6_bits : List Cond := .code yX6_bits cX6_bits 3 (some .int) :: lwG
theorem hdX6_bits : yX6_bits.cls ≠ "java/lang/invoke/MethodHandle" ∧ yX6_bits.cls ≠ "java/lang/invoke/VarHandle" ∧ (parseMethodDescriptor yX6_bits.desc).map (fun d => d.parameters.length) = some 1 := by decide +kernel
abbrev wwX6_hearers : List Cond := .code yX6_hearers cX6_hearers 2 (some .int) :: lwG
theorem hdX6_hearers : yX6_hearers.cls = RX6 ∧ yX6_hearers.cls ≠ "java/lang/invoke/MethodHandle" ∧ yX6_hearers.cls ≠ "java/lang/invoke/VarHandle" ∧ (parseMethodDescriptor yX6_hearers.desc).map (fun d => d.parameters.length) = some 1 := by decide +kernel
abbrev wwX6_sender : List Cond := .code yX6_sender cX6_sender 4 (some .int) :: lwG
theorem hdX6_sender : yX6_sender.cls = RX6 ∧ yX6_sender.cls ≠ "java/lang/invoke/MethodHandle" ∧ yX6_sender.cls ≠ "java/lang/invoke/VarHandle" ∧ (parseMethodDescriptor yX6_sender.desc).map (fun d => d.parameters.length) = some 2 := by decide +kernel
abbrev wwX6_drop : List Cond := .code yX6_drop cX6_drop 1 (some .int) :: lwG
theorem hdX6_drop : yX6_drop.cls = RX6 ∧ yX6_drop.cls ≠ "java/lang/invoke/MethodHandle" ∧ yX6_drop.cls ≠ "java/lang/invoke/VarHandle" ∧ (parseMethodDescriptor yX6_drop.desc).map (fun d => d.parameters.length) = some 0 := by decide +kernel
abbrev wwX6_isPlace : List Cond := .code yX6_isPlace cX6_isPlace 1 (some .boolean) :: lwG
theorem hdX6_isPlace : yX6_isPlace.cls ≠ "java/lang/invoke/MethodHandle" ∧ yX6_isPlace.cls ≠ "java/lang/invoke/VarHandle" ∧ (parseMethodDescriptor yX6_isPlace.desc).map (fun d => d.parameters.length) = some 1 := by decide +kernel
abbrev wwX6_gain : List Cond := .code yX6_gain cX6_gain 4 (some .int) :: lwG
theorem hdX6_gain : yX6_gain.cls = RX6 ∧ yX6_gain.cls ≠ "java/lang/invoke/MethodHandle" ∧ yX6_gain.cls ≠ "java/lang/invoke/VarHandle" ∧ (parseMethodDescriptor yX6_gain.desc).map (fun d => d.parameters.length) = some 2 := by decide +kernel
abbrev wwX6_heardAt : List Cond := .code yX6_heardAt cX6_heardAt 4 (some .int) :: lwG
theorem hdX6_heardAt : yX6_heardAt.cls = RX6 ∧ yX6_heardAt.cls ≠ "java/lang/invoke/MethodHandle" ∧ yX6_heardAt.cls ≠ "java/lang/invoke/VarHandle" ∧ (parseMethodDescriptor yX6_heardAt.desc).map (fun d => d.parameters.length) = some 1 := by decide +kernel
abbrev wwX6_read : List Cond := .code yX6_read cX6_read 3 (some .int) :: lwG
theorem hdX6_read : yX6_read.cls = RX6 ∧ yX6_read.cls ≠ "java/lang/invoke/MethodHandle" ∧ yX6_read.cls ≠ "java/lang/invoke/VarHandle" ∧ (parseMethodDescriptor yX6_read.desc).map (fun d => d.parameters.length) = some 2 := by decide +kernel
abbrev wwX6_isHearer : List Cond := .code yX6_isHearer cX6_isHearer 2 (some .boolean) :: lwG
theorem hdX6_isHearer : yX6_isHearer.cls = RX6 ∧ yX6_isHearer.cls ≠ "java/lang/invoke/MethodHandle" ∧ yX6_isHearer.cls ≠ "java/lang/invoke/VarHandle" ∧ (parseMethodDescriptor yX6_isHearer.desc).map (fun d => d.parameters.length) = some 1 := by decide +kernel
abbrev wwX6_heard : List Cond := .code yX6_heard cX6_heard 2 (some .int) :: lwG
theorem hdX6_heard : yX6_heard.cls = RX6 ∧ yX6_heard.cls ≠ "java/lang/invoke/MethodHandle" ∧ yX6_heard.cls ≠ "java/lang/invoke/VarHandle" ∧ (parseMethodDescriptor yX6_heard.desc).map (fun d => d.parameters.length) = some 1 := by decide +kernel
abbrev wwX6_count : List Cond := .code yX6_count cX6_count 6 (some .int) :: lwG
theorem hdX6_count : yX6_count.cls = RX6 ∧ yX6_count.cls ≠ "java/lang/invoke/MethodHandle" ∧ yX6_count.cls ≠ "java/lang/invoke/VarHandle" ∧ (parseMethodDescriptor yX6_count.desc).map (fun d => d.parameters.length) = some 1 := by decide +kernel
abbrev wwX6_isSpan : List Cond := .code yX6_isSpan cX6_isSpan 2 (some .boolean) :: lwG
theorem hdX6_isSpan : yX6_isSpan.cls ≠ "java/lang/invoke/MethodHandle" ∧ yX6_isSpan.cls ≠ "java/lang/invoke/VarHandle" ∧ (parseMethodDescriptor yX6_isSpan.desc).map (fun d => d.parameters.length) = some 2 := by decide +kernel
abbrev wwX6_areHearers : List Cond := .code yX6_areHearers cX6_areHearers 5 (some .boolean) :: lwG
theorem hdX6_areHearers : yX6_areHearers.cls = RX6 ∧ yX6_areHearers.cls ≠ "java/lang/invoke/MethodHandle" ∧ yX6_areHearers.cls ≠ "java/lang/invoke/VarHandle" ∧ (parseMethodDescriptor yX6_areHearers.desc).map (fun d => d.parameters.length) = some 2 := by decide +kernel
abbrev wwX6_take : List Cond := .code yX6_take cX6_take 4 none :: lwG
theorem hdX6_take : yX6_take.cls = RX6 ∧ yX6_take.cls ≠ "java/lang/invoke/MethodHandle" ∧ yX6_take.cls ≠ "java/lang/invoke/VarHandle" ∧ (parseMethodDescriptor yX6_take.desc).map (fun d => d.parameters.length) = some 2 := by decide +kernel
abbrev wwX6_fits : List Cond := .code yX6_fits cX6_fits 7 (some .boolean) :: lwG
theorem hdX6_fits : yX6_fits.cls = RX6 ∧ yX6_fits.cls ≠ "java/lang/invoke/MethodHandle" ∧ yX6_fits.cls ≠ "java/lang/invoke/VarHandle" ∧ (parseMethodDescriptor yX6_fits.desc).map (fun d => d.parameters.length) = some 1 := by decide +kernel
abbrev wwX6_step : List Cond := .code yX6_step cX6_step 10 none :: lwG
theorem hdX6_step : yX6_step.cls = RX6 ∧ yX6_step.cls ≠ "java/lang/invoke/MethodHandle" ∧ yX6_step.cls ≠ "java/lang/invoke/VarHandle" ∧ (parseMethodDescriptor yX6_step.desc).map (fun d => d.parameters.length) = some 5 := by decide +kernel
abbrev wwX6_findLaw : List Cond := .code yX6_findLaw cX6_findLaw 1 none :: lwG
theorem hdX6_findLaw : yX6_findLaw.cls = RX6 ∧ yX6_findLaw.cls ≠ "java/lang/invoke/MethodHandle" ∧ yX6_findLaw.cls ≠ "java/lang/invoke/VarHandle" ∧ (parseMethodDescriptor yX6_findLaw.desc).map (fun d => d.parameters.length) = some 0 := by decide +kernel
abbrev wwX6_isOne : List Cond := .code yX6_isOne cX6_isOne 1 (some .boolean) :: lwG
theorem hdX6_isOne : yX6_isOne.cls = RX6 ∧ yX6_isOne.cls ≠ "java/lang/invoke/MethodHandle" ∧ yX6_isOne.cls ≠ "java/lang/invoke/VarHandle" ∧ (parseMethodDescriptor yX6_isOne.desc).map (fun d => d.parameters.length) = some 0 := by decide +kernel
abbrev wwX6_order : List Cond := .code yX6_order cX6_order 3 (some .int) :: lwG
theorem hdX6_order : yX6_order.cls = RX6 ∧ yX6_order.cls ≠ "java/lang/invoke/MethodHandle" ∧ yX6_order.cls ≠ "java/lang/invoke/VarHandle" ∧ (parseMethodDescriptor yX6_order.desc).map (fun d => d.parameters.length) = some 2 := by decide +kernel
abbrev wwX6_law : List Cond := .code yX6_law cX6_law 4 (some .int) :: lwG
theorem hdX6_law : yX6_law.cls = RX6 ∧ yX6_law.cls ≠ "java/lang/invoke/MethodHandle" ∧ yX6_law.cls ≠ "java/lang/invoke/VarHandle" ∧ (parseMethodDescriptor yX6_law.desc).map (fun d => d.parameters.length) = some 3 := by decide +kernel
abbrev wwX6_findSlants : List Cond := .code yX6_findSlants cX6_findSlants 4 none :: lwG
theorem hdX6_findSlants : yX6_findSlants.cls = RX6 ∧ yX6_findSlants.cls ≠ "java/lang/invoke/MethodHandle" ∧ yX6_findSlants.cls ≠ "java/lang/invoke/VarHandle" ∧ (parseMethodDescriptor yX6_findSlants.desc).map (fun d => d.parameters.length) = some 0 := by decide +kernel
abbrev wwX6_findAll : List Cond := .code yX6_findAll cX6_findAll 3 (some .int) :: lwG
theorem hdX6_findAll : yX6_findAll.cls = RX6 ∧ yX6_findAll.cls ≠ "java/lang/invoke/MethodHandle" ∧ yX6_findAll.cls ≠ "java/lang/invoke/VarHandle" ∧ (parseMethodDescriptor yX6_findAll.desc).map (fun d => d.parameters.length) = some 2 := by decide +kernel
abbrev wwX6_slant : List Cond := .code yX6_slant cX6_slant 5 (some .int) :: lwG
theorem hdX6_slant : yX6_slant.cls = RX6 ∧ yX6_slant.cls ≠ "java/lang/invoke/MethodHandle" ∧ yX6_slant.cls ≠ "java/lang/invoke/VarHandle" ∧ (parseMethodDescriptor yX6_slant.desc).map (fun d => d.parameters.length) = some 3 := by decide +kernel
abbrev wwX6_strength : List Cond := .code yX6_strength cX6_strength 7 (some .int) :: lwG
theorem hdX6_strength : yX6_strength.cls = RX6 ∧ yX6_strength.cls ≠ "java/lang/invoke/MethodHandle" ∧ yX6_strength.cls ≠ "java/lang/invoke/VarHandle" ∧ (parseMethodDescriptor yX6_strength.desc).map (fun d => d.parameters.length) = some 3 := by decide +kernel
abbrev wwX6_mended : List Cond := .code yX6_mended cX6_mended 9 (some .int) :: lwG
theorem hdX6_mended : yX6_mended.cls = RX6 ∧ yX6_mended.cls ≠ "java/lang/invoke/MethodHandle" ∧ yX6_mended.cls ≠ "java/lang/invoke/VarHandle" ∧ (parseMethodDescriptor yX6_mended.desc).map (fun d => d.parameters.length) = some 4 := by decide +kernel
abbrev wwX6_tune : List Cond := .code yX6_tune cX6_tune 5 (some .int) :: lwG
theorem hdX6_tune : yX6_tune.cls = RX6 ∧ yX6_tune.cls ≠ "java/lang/invoke/MethodHandle" ∧ yX6_tune.cls ≠ "java/lang/invoke/VarHandle" ∧ (parseMethodDescriptor yX6_tune.desc).map (fun d => d.parameters.length) = some 1 := by decide +kernel
abbrev wwX6_areTwins : List Cond := .code yX6_areTwins cX6_areTwins 6 (some .boolean) :: lwG
theorem hdX6_areTwins : yX6_areTwins.cls = RX6 ∧ yX6_areTwins.cls ≠ "java/lang/invoke/MethodHandle" ∧ yX6_areTwins.cls ≠ "java/lang/invoke/VarHandle" ∧ (parseMethodDescriptor yX6_areTwins.desc).map (fun d => d.parameters.length) = some 2 := by decide +kernel
abbrev wwX6_findTwin : List Cond := .code yX6_findTwin cX6_findTwin 6 (some .int) :: lwG
theorem hdX6_findTwin : yX6_findTwin.cls = RX6 ∧ yX6_findTwin.cls ≠ "java/lang/invoke/MethodHandle" ∧ yX6_findTwin.cls ≠ "java/lang/invoke/VarHandle" ∧ (parseMethodDescriptor yX6_findTwin.desc).map (fun d => d.parameters.length) = some 2 := by decide +kernel
abbrev wwX6_twin : List Cond := .code yX6_twin cX6_twin 4 (some .int) :: lwG
theorem hdX6_twin : yX6_twin.cls = RX6 ∧ yX6_twin.cls ≠ "java/lang/invoke/MethodHandle" ∧ yX6_twin.cls ≠ "java/lang/invoke/VarHandle" ∧ (parseMethodDescriptor yX6_twin.desc).map (fun d => d.parameters.length) = some 2 := by decide +kernel
abbrev wwX6_weightOf : List Cond := .code yX6_weightOf cX6_weightOf 2 (some .int) :: lwG
theorem hdX6_weightOf : yX6_weightOf.cls = RX6 ∧ yX6_weightOf.cls ≠ "java/lang/invoke/MethodHandle" ∧ yX6_weightOf.cls ≠ "java/lang/invoke/VarHandle" ∧ (parseMethodDescriptor yX6_weightOf.desc).map (fun d => d.parameters.length) = some 1 := by decide +kernel
abbrev wwX6_weight : List Cond := .code yX6_weight cX6_weight 2 (some .int) :: lwG
theorem hdX6_weight : yX6_weight.cls = RX6 ∧ yX6_weight.cls ≠ "java/lang/invoke/MethodHandle" ∧ yX6_weight.cls ≠ "java/lang/invoke/VarHandle" ∧ (parseMethodDescriptor yX6_weight.desc).map (fun d => d.parameters.length) = some 1 := by decide +kernel
abbrev wwX6_reach : List Cond := .code yX6_reach cX6_reach 2 (some .int) :: lwG
theorem hdX6_reach : yX6_reach.cls = RX6 ∧ yX6_reach.cls ≠ "java/lang/invoke/MethodHandle" ∧ yX6_reach.cls ≠ "java/lang/invoke/VarHandle" ∧ (parseMethodDescriptor yX6_reach.desc).map (fun d => d.parameters.length) = some 0 := by decide +kernel
abbrev wwX6_best : List Cond := .code yX6_best cX6_best 6 (some .int) :: lwG
theorem hdX6_best : yX6_best.cls = RX6 ∧ yX6_best.cls ≠ "java/lang/invoke/MethodHandle" ∧ yX6_best.cls ≠ "java/lang/invoke/VarHandle" ∧ (parseMethodDescriptor yX6_best.desc).map (fun d => d.parameters.length) = some 1 := by decide +kernel
abbrev wwX6_station : List Cond := .code yX6_station cX6_station 5 (some .int) :: lwG
theorem hdX6_station : yX6_station.cls = RX6 ∧ yX6_station.cls ≠ "java/lang/invoke/MethodHandle" ∧ yX6_station.cls ≠ "java/lang/invoke/VarHandle" ∧ (parseMethodDescriptor yX6_station.desc).map (fun d => d.parameters.length) = some 4 := by decide +kernel
abbrev wwX6_isStation : List Cond := .code yX6_isStation cX6_isStation 2 (some .boolean) :: lwG
theorem hdX6_isStation : yX6_isStation.cls = RX6 ∧ yX6_isStation.cls ≠ "java/lang/invoke/MethodHandle" ∧ yX6_isStation.cls ≠ "java/lang/invoke/VarHandle" ∧ (parseMethodDescriptor yX6_isStation.desc).map (fun d => d.parameters.length) = some 1 := by decide +kernel
abbrev wwX6_look : List Cond := .code yX6_look cX6_look 4 (some .int) :: lwG
theorem hdX6_look : yX6_look.cls = RX6 ∧ yX6_look.cls ≠ "java/lang/invoke/MethodHandle" ∧ yX6_look.cls ≠ "java/lang/invoke/VarHandle" ∧ (parseMethodDescriptor yX6_look.desc).map (fun d => d.parameters.length) = some 3 := by decide +kernel
abbrev wwX6_cross : List Cond := .code yX6_cross cX6_cross 13 (some .boolean) :: lwG
theorem hdX6_cross : yX6_cross.cls = RX6 ∧ yX6_cross.cls ≠ "java/lang/invoke/MethodHandle" ∧ yX6_cross.cls ≠ "java/lang/invoke/VarHandle" ∧ (parseMethodDescriptor yX6_cross.desc).map (fun d => d.parameters.length) = some 2 := by decide +kernel
abbrev wwX6_common : List Cond := .code yX6_common cX6_common 10 (some .long) :: lwG
theorem hdX6_common : yX6_common.cls ≠ "java/lang/invoke/MethodHandle" ∧ yX6_common.cls ≠ "java/lang/invoke/VarHandle" ∧ (parseMethodDescriptor yX6_common.desc).map (fun d => d.parameters.length) = some 2 := by decide +kernel
abbrev wwX6_crossing : List Cond := .code yX6_crossing cX6_crossing 8 (some .long) :: lwG
theorem hdX6_crossing : yX6_crossing.cls = RX6 ∧ yX6_crossing.cls ≠ "java/lang/invoke/MethodHandle" ∧ yX6_crossing.cls ≠ "java/lang/invoke/VarHandle" ∧ (parseMethodDescriptor yX6_crossing.desc).map (fun d => d.parameters.length) = some 3 := by decide +kernel
abbrev wwX6_bears : List Cond := .code yX6_bears cX6_bears 11 (some .boolean) :: lwG
theorem hdX6_bears : yX6_bears.cls = RX6 ∧ yX6_bears.cls ≠ "java/lang/invoke/MethodHandle" ∧ yX6_bears.cls ≠ "java/lang/invoke/VarHandle" ∧ (parseMethodDescriptor yX6_bears.desc).map (fun d => d.parameters.length) = some 2 := by decide +kernel
abbrev wwX6_bearers : List Cond := .code yX6_bearers cX6_bearers 6 (some .int) :: lwG
theorem hdX6_bearers : yX6_bearers.cls = RX6 ∧ yX6_bearers.cls ≠ "java/lang/invoke/MethodHandle" ∧ yX6_bearers.cls ≠ "java/lang/invoke/VarHandle" ∧ (parseMethodDescriptor yX6_bearers.desc).map (fun d => d.parameters.length) = some 3 := by decide +kernel
abbrev wwX6_borne : List Cond := .code yX6_borne cX6_borne 4 (some .int) :: lwG
theorem hdX6_borne : yX6_borne.cls = RX6 ∧ yX6_borne.cls ≠ "java/lang/invoke/MethodHandle" ∧ yX6_borne.cls ≠ "java/lang/invoke/VarHandle" ∧ (parseMethodDescriptor yX6_borne.desc).map (fun d => d.parameters.length) = some 3 := by decide +kernel
abbrev wwX6_most : List Cond := .code yX6_most cX6_most 9 (some .int) :: lwG
theorem hdX6_most : yX6_most.cls = RX6 ∧ yX6_most.cls ≠ "java/lang/invoke/MethodHandle" ∧ yX6_most.cls ≠ "java/lang/invoke/VarHandle" ∧ (parseMethodDescriptor yX6_most.desc).map (fun d => d.parameters.length) = some 2 := by decide +kernel
abbrev wwJ6_bitCount_0f7a4 : List Cond := .code yJ6_bitCount_0f7a4 cJ6_bitCount_0f7a4 1 (some .int) :: lwG
theorem hdJ6_bitCount_0f7a4 : yJ6_bitCount_0f7a4.cls ≠ "java/lang/invoke/MethodHandle" ∧ yJ6_bitCount_0f7a4.cls ≠ "java/lang/invoke/VarHandle" ∧ (parseMethodDescriptor yJ6_bitCount_0f7a4.desc).map (fun d => d.parameters.length) = some 1 := by decide +kernel
abbrev wwJ9_abs_067f4 : List Cond := .code yJ9_abs_067f4 cJ9_abs_067f4 2 (some .long) :: lwG
theorem hdJ9_abs_067f4 : yJ9_abs_067f4.cls ≠ "java/lang/invoke/MethodHandle" ∧ yJ9_abs_067f4.cls ≠ "java/lang/invoke/VarHandle" ∧ (parseMethodDescriptor yJ9_abs_067f4.desc).map (fun d => d.parameters.length) = some 1 := by decide +kernel
abbrev wwJ9_max_7cf53 : List Cond := .code yJ9_max_7cf53 cJ9_max_7cf53 2 (some .int) :: lwG
theorem hdJ9_max_7cf53 : yJ9_max_7cf53.cls ≠ "java/lang/invoke/MethodHandle" ∧ yJ9_max_7cf53.cls ≠ "java/lang/invoke/VarHandle" ∧ (parseMethodDescriptor yJ9_max_7cf53.desc).map (fun d => d.parameters.length) = some 2 := by decide +kernel
