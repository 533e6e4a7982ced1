/-- the words that every contract takes: those of the tables that stay -/
def lw_g : List Cond := lw_tbl.filter goodWord
theorem lw_t1 {w : Cond} (h : w ∈ tables_1_1) : w ∈ lw_tbl := List.mem_append_right _ (show w ∈ tables_1 from List.mem_append_left _ h)
theorem lw_t2 {w : Cond} (h : w ∈ tables_1_2) : w ∈ lw_tbl := List.mem_append_right _ (show w ∈ tables_1 from List.mem_append_right _ (List.mem_append_left _ h))
theorem lw_t3 {w : Cond} (h : w ∈ tables_1_3) : w ∈ lw_tbl := List.mem_append_right _ (show w ∈ tables_1 from List.mem_append_right _ (List.mem_append_right _ (List.mem_append_left _ h)))
theorem lw_t4 {w : Cond} (h : w ∈ tables_1_4) : w ∈ lw_tbl := List.mem_append_right _ (show w ∈ tables_1 from List.mem_append_right _ (List.mem_append_right _ (List.mem_append_right _ h)))
theorem lw_in0 {w : Cond} (h : w ∈ k2_sels lw_privs) (g : goodWord w = true) : w ∈ lw_g := List.mem_filter.mpr ⟨List.mem_append_left _ h, g⟩
theorem lw_in1 {w : Cond} (h : w ∈ tables_1_1) (g : goodWord w = true) : w ∈ lw_g := List.mem_filter.mpr ⟨lw_t1 h, g⟩
theorem lw_in2 {w : Cond} (h : w ∈ tables_1_2) (g : goodWord w = true) : w ∈ lw_g := List.mem_filter.mpr ⟨lw_t2 h, g⟩
theorem lw_in3 {w : Cond} (h : w ∈ tables_1_3) (g : goodWord w = true) : w ∈ lw_g := List.mem_filter.mpr ⟨lw_t3 h, g⟩
theorem lw_in4 {w : Cond} (h : w ∈ tables_1_4) (g : goodWord w = true) : w ∈ lw_g := List.mem_filter.mpr ⟨lw_t4 h, g⟩
theorem lw_good {w : Cond} (h : w ∈ lw_g) : (w.onTables && w.keeps) = true ∨ ∃ ty, w = .arrayClass ty := good_of_word (List.mem_filter.mp h).2
theorem kw_ini_L : (Cond.initialized RL) ∈ lw_g := lw_in1 (List.mem_of_getElem? (i := 0) rfl) rfl
theorem kw_ini_X5 : (Cond.initialized RX5) ∈ lw_g := lw_in1 (List.mem_of_getElem? (i := 1) rfl) rfl
theorem kw_ini_X0 : (Cond.initialized RX0) ∈ lw_g := lw_in1 (List.mem_of_getElem? (i := 2) rfl) rfl
theorem kw_ini_X2 : (Cond.initialized RX2) ∈ lw_g := lw_in1 (List.mem_of_getElem? (i := 3) rfl) rfl
theorem kw_ini_X3 : (Cond.initialized RX3) ∈ lw_g := lw_in1 (List.mem_of_getElem? (i := 4) rfl) rfl
theorem kw_ini_X4 : (Cond.initialized RX4) ∈ lw_g := lw_in1 (List.mem_of_getElem? (i := 5) rfl) rfl
theorem kw_ini_X1 : (Cond.initialized RX1) ∈ lw_g := lw_in1 (List.mem_of_getElem? (i := 6) rfl) rfl
theorem kw_ini_X6 : (Cond.initialized RX6) ∈ lw_g := lw_in1 (List.mem_of_getElem? (i := 7) rfl) rfl
theorem kw_ini_J10 : (Cond.initialized RJ10) ∈ lw_g := lw_in1 (List.mem_of_getElem? (i := 8) rfl) rfl
theorem kw_ini_J9 : (Cond.initialized RJ9) ∈ lw_g := lw_in1 (List.mem_of_getElem? (i := 9) rfl) rfl
theorem kw_ini_Jxf58ca : (Cond.initialized RJxf58ca) ∈ lw_g := lw_in1 (List.mem_of_getElem? (i := 10) rfl) rfl
theorem kw_cl_L_7 : (Cond.classLink RL (7 : Nat) RX5) ∈ lw_g := lw_in1 (List.mem_of_getElem? (i := 11) rfl) rfl
theorem kw_inst_X5 : (Cond.instantiable RX5 (7 : Nat)) ∈ lw_g := lw_in1 (List.mem_of_getElem? (i := 12) rfl) rfl
theorem kw_ml_L_9 : (Cond.methodLink RL (9 : Nat) yX5_init) ∈ lw_g := lw_in1 (List.mem_of_getElem? (i := 13) rfl) rfl
theorem kw_im_X5_init : (Cond.instanceMethod yX5_init) ∈ lw_g := lw_in1 (List.mem_of_getElem? (i := 14) rfl) rfl
theorem kw_code_X5_init : (Cond.code yX5_init prog_1_method_1_code (1 : Nat) (Option.none : Option Jvm.ClassFile.FieldType)) ∈ lw_g := lw_in1 (List.mem_of_getElem? (i := 15) rfl) rfl
theorem kw_ml_X5_3 : (Cond.methodLink RX5 (3 : Nat) objectInit) ∈ lw_g := lw_in1 (List.mem_of_getElem? (i := 16) rfl) rfl
theorem kw_im_objectInit : (Cond.instanceMethod objectInit) ∈ lw_g := lw_in1 (List.mem_of_getElem? (i := 17) rfl) rfl
theorem kw_code_objectInit : (Cond.code objectInit object_method_1_code (1 : Nat) (Option.none : Option Jvm.ClassFile.FieldType)) ∈ lw_g := lw_in1 (List.mem_of_getElem? (i := 18) rfl) rfl
theorem kw_cl_X5_9 : (Cond.classLink RX5 (9 : Nat) RX0) ∈ lw_g := lw_in1 (List.mem_of_getElem? (i := 19) rfl) rfl
theorem kw_inst_X0 : (Cond.instantiable RX0 (9 : Nat)) ∈ lw_g := lw_in1 (List.mem_of_getElem? (i := 20) rfl) rfl
theorem kw_ml_X5_11 : (Cond.methodLink RX5 (11 : Nat) yX0_init) ∈ lw_g := lw_in1 (List.mem_of_getElem? (i := 21) rfl) rfl
theorem kw_im_X0_init : (Cond.instanceMethod yX0_init) ∈ lw_g := lw_in1 (List.mem_of_getElem? (i := 22) rfl) rfl
theorem kw_code_X0_init : (Cond.code yX0_init prog_2_method_1_code (1 : Nat) (Option.none : Option Jvm.ClassFile.FieldType)) ∈ lw_g := lw_in1 (List.mem_of_getElem? (i := 23) rfl) rfl
theorem kw_ml_X0_3 : (Cond.methodLink RX0 (3 : Nat) objectInit) ∈ lw_g := lw_in1 (List.mem_of_getElem? (i := 24) rfl) rfl
theorem kw_cl_X0_9 : (Cond.classLink RX0 (9 : Nat) RX2) ∈ lw_g := lw_in1 (List.mem_of_getElem? (i := 25) rfl) rfl
theorem kw_inst_X2 : (Cond.instantiable RX2 (5 : Nat)) ∈ lw_g := lw_in1 (List.mem_of_getElem? (i := 26) rfl) rfl
theorem kw_ml_X0_11 : (Cond.methodLink RX0 (11 : Nat) yX2_init) ∈ lw_g := lw_in1 (List.mem_of_getElem? (i := 27) rfl) rfl
theorem kw_im_X2_init : (Cond.instanceMethod yX2_init) ∈ lw_g := lw_in1 (List.mem_of_getElem? (i := 28) rfl) rfl
theorem kw_code_X2_init : (Cond.code yX2_init prog_4_method_1_code (1 : Nat) (Option.none : Option Jvm.ClassFile.FieldType)) ∈ lw_g := lw_in1 (List.mem_of_getElem? (i := 29) rfl) rfl
theorem kw_ml_X2_3 : (Cond.methodLink RX2 (3 : Nat) objectInit) ∈ lw_g := lw_in1 (List.mem_of_getElem? (i := 30) rfl) rfl
theorem kw_fl_X2_11 : (Cond.fieldLink RX2 (11 : Nat) "RomSearchBus$Devices" "roms" "[I") ∈ lw_g := lw_in1 (List.mem_of_getElem? (i := 31) rfl) rfl
theorem kw_fl_X5_79 : (Cond.fieldLink RX5 (79 : Nat) "RomSearchBus$Devices" "roms" "[I") ∈ lw_g := lw_in1 (List.mem_of_getElem? (i := 32) rfl) rfl
theorem kw_fl_X2_15 : (Cond.fieldLink RX2 (15 : Nat) "RomSearchBus$Devices" "readings" "[I") ∈ lw_g := lw_in1 (List.mem_of_getElem? (i := 33) rfl) rfl
theorem kw_fl_X2_18 : (Cond.fieldLink RX2 (18 : Nat) "RomSearchBus$Devices" "rules" "[I") ∈ lw_g := lw_in1 (List.mem_of_getElem? (i := 34) rfl) rfl
theorem kw_fl_X2_21 : (Cond.fieldLink RX2 (21 : Nat) "RomSearchBus$Devices" "limits" "[I") ∈ lw_g := lw_in1 (List.mem_of_getElem? (i := 35) rfl) rfl
theorem kw_fl_X2_24 : (Cond.fieldLink RX2 (24 : Nat) "RomSearchBus$Devices" "count" "I") ∈ lw_g := lw_in1 (List.mem_of_getElem? (i := 36) rfl) rfl
theorem kw_fl_X0_67 : (Cond.fieldLink RX0 (67 : Nat) "RomSearchBus$Devices" "count" "I") ∈ lw_g := lw_in1 (List.mem_of_getElem? (i := 37) rfl) rfl
theorem kw_fl_X5_146 : (Cond.fieldLink RX5 (146 : Nat) "RomSearchBus$Devices" "count" "I") ∈ lw_g := lw_in1 (List.mem_of_getElem? (i := 38) rfl) rfl
theorem kw_lay_X2_roms : (Cond.laysFinal "RomSearchBus$Devices" "RomSearchBus$Devices" "roms" "[I") ∈ lw_g := lw_in1 (List.mem_of_getElem? (i := 39) rfl) rfl
theorem kw_sole_X2_roms : (Cond.soleField "RomSearchBus$Devices" "roms") ∈ lw_g := lw_in1 (List.mem_of_getElem? (i := 40) rfl) rfl
theorem kw_lay_X2_readings : (Cond.laysFinal "RomSearchBus$Devices" "RomSearchBus$Devices" "readings" "[I") ∈ lw_g := lw_in1 (List.mem_of_getElem? (i := 41) rfl) rfl
theorem kw_sole_X2_readings : (Cond.soleField "RomSearchBus$Devices" "readings") ∈ lw_g := lw_in1 (List.mem_of_getElem? (i := 42) rfl) rfl
theorem kw_lay_X2_rules : (Cond.laysFinal "RomSearchBus$Devices" "RomSearchBus$Devices" "rules" "[I") ∈ lw_g := lw_in1 (List.mem_of_getElem? (i := 43) rfl) rfl
theorem kw_sole_X2_rules : (Cond.soleField "RomSearchBus$Devices" "rules") ∈ lw_g := lw_in1 (List.mem_of_getElem? (i := 44) rfl) rfl
theorem kw_lay_X2_limits : (Cond.laysFinal "RomSearchBus$Devices" "RomSearchBus$Devices" "limits" "[I") ∈ lw_g := lw_in1 (List.mem_of_getElem? (i := 45) rfl) rfl
theorem kw_sole_X2_limits : (Cond.soleField "RomSearchBus$Devices" "limits") ∈ lw_g := lw_in1 (List.mem_of_getElem? (i := 46) rfl) rfl
theorem kw_lay_X2_count : (Cond.lays "RomSearchBus$Devices" "RomSearchBus$Devices" "count" "I") ∈ lw_g := lw_in1 (List.mem_of_getElem? (i := 47) rfl) rfl
theorem kw_sole_X2_count : (Cond.soleField "RomSearchBus$Devices" "count") ∈ lw_g := lw_in1 (List.mem_of_getElem? (i := 48) rfl) rfl
theorem kw_sup_X2 : (Cond.superclass "RomSearchBus$Devices" "java/lang/Object") ∈ lw_g := lw_in1 (List.mem_of_getElem? (i := 49) rfl) rfl
theorem kw_arr_int : (Cond.arrayClass FieldType.int) ∈ lw_g := lw_in1 (List.mem_of_getElem? (i := 50) rfl) rfl
theorem kw_cl_X0_18 : (Cond.classLink RX0 (18 : Nat) RX3) ∈ lw_g := lw_in1 (List.mem_of_getElem? (i := 51) rfl) rfl
theorem kw_inst_X3 : (Cond.instantiable RX3 (2 : Nat)) ∈ lw_g := lw_in1 (List.mem_of_getElem? (i := 52) rfl) rfl
theorem kw_ml_X0_20 : (Cond.methodLink RX0 (20 : Nat) yX3_init) ∈ lw_g := lw_in1 (List.mem_of_getElem? (i := 53) rfl) rfl
theorem kw_im_X3_init : (Cond.instanceMethod yX3_init) ∈ lw_g := lw_in1 (List.mem_of_getElem? (i := 54) rfl) rfl
theorem kw_code_X3_init : (Cond.code yX3_init prog_5_method_1_code (1 : Nat) (Option.none : Option Jvm.ClassFile.FieldType)) ∈ lw_g := lw_in1 (List.mem_of_getElem? (i := 55) rfl) rfl
theorem kw_ml_X3_1 : (Cond.methodLink RX3 (1 : Nat) objectInit) ∈ lw_g := lw_in1 (List.mem_of_getElem? (i := 56) rfl) rfl
theorem kw_fl_X3_9 : (Cond.fieldLink RX3 (9 : Nat) "RomSearchBus$History" "codes" "[I") ∈ lw_g := lw_in1 (List.mem_of_getElem? (i := 57) rfl) rfl
theorem kw_fl_X5_140 : (Cond.fieldLink RX5 (140 : Nat) "RomSearchBus$History" "codes" "[I") ∈ lw_g := lw_in1 (List.mem_of_getElem? (i := 58) rfl) rfl
theorem kw_fl_X3_13 : (Cond.fieldLink RX3 (13 : Nat) "RomSearchBus$History" "count" "I") ∈ lw_g := lw_in1 (List.mem_of_getElem? (i := 59) rfl) rfl
theorem kw_lay_X3_codes : (Cond.laysFinal "RomSearchBus$History" "RomSearchBus$History" "codes" "[I") ∈ lw_g := lw_in1 (List.mem_of_getElem? (i := 60) rfl) rfl
theorem kw_sole_X3_codes : (Cond.soleField "RomSearchBus$History" "codes") ∈ lw_g := lw_in1 (List.mem_of_getElem? (i := 61) rfl) rfl
theorem kw_lay_X3_count : (Cond.lays "RomSearchBus$History" "RomSearchBus$History" "count" "I") ∈ lw_g := lw_in1 (List.mem_of_getElem? (i := 62) rfl) rfl
theorem kw_sole_X3_count : (Cond.soleField "RomSearchBus$History" "count") ∈ lw_g := lw_in1 (List.mem_of_getElem? (i := 63) rfl) rfl
theorem kw_sup_X3 : (Cond.superclass "RomSearchBus$History" "java/lang/Object") ∈ lw_g := lw_in1 (List.mem_of_getElem? (i := 64) rfl) rfl
theorem kw_fl_X0_12 : (Cond.fieldLink RX0 (12 : Nat) "RomSearchBus$BusState" "devices" "LRomSearchBus$Devices;") ∈ lw_g := lw_in1 (List.mem_of_getElem? (i := 65) rfl) rfl
theorem kw_fl_X5_48 : (Cond.fieldLink RX5 (48 : Nat) "RomSearchBus$BusState" "devices" "LRomSearchBus$Devices;") ∈ lw_g := lw_in1 (List.mem_of_getElem? (i := 66) rfl) rfl
theorem kw_fl_X0_21 : (Cond.fieldLink RX0 (21 : Nat) "RomSearchBus$BusState" "history" "LRomSearchBus$History;") ∈ lw_g := lw_in1 (List.mem_of_getElem? (i := 67) rfl) rfl
theorem kw_fl_X5_133 : (Cond.fieldLink RX5 (133 : Nat) "RomSearchBus$BusState" "history" "LRomSearchBus$History;") ∈ lw_g := lw_in1 (List.mem_of_getElem? (i := 68) rfl) rfl
theorem kw_fl_X0_25 : (Cond.fieldLink RX0 (25 : Nat) "RomSearchBus$BusState" "rom" "I") ∈ lw_g := lw_in1 (List.mem_of_getElem? (i := 69) rfl) rfl
theorem kw_fl_X5_117 : (Cond.fieldLink RX5 (117 : Nat) "RomSearchBus$BusState" "rom" "I") ∈ lw_g := lw_in1 (List.mem_of_getElem? (i := 70) rfl) rfl
theorem kw_fl_X0_29 : (Cond.fieldLink RX0 (29 : Nat) "RomSearchBus$BusState" "discrepancy" "I") ∈ lw_g := lw_in1 (List.mem_of_getElem? (i := 71) rfl) rfl
theorem kw_fl_X5_120 : (Cond.fieldLink RX5 (120 : Nat) "RomSearchBus$BusState" "discrepancy" "I") ∈ lw_g := lw_in1 (List.mem_of_getElem? (i := 72) rfl) rfl
theorem kw_fl_X0_32 : (Cond.fieldLink RX0 (32 : Nat) "RomSearchBus$BusState" "familyDiscrepancy" "I") ∈ lw_g := lw_in1 (List.mem_of_getElem? (i := 73) rfl) rfl
theorem kw_fl_X5_123 : (Cond.fieldLink RX5 (123 : Nat) "RomSearchBus$BusState" "familyDiscrepancy" "I") ∈ lw_g := lw_in1 (List.mem_of_getElem? (i := 74) rfl) rfl
theorem kw_fl_X0_35 : (Cond.fieldLink RX0 (35 : Nat) "RomSearchBus$BusState" "lastDevice" "Z") ∈ lw_g := lw_in1 (List.mem_of_getElem? (i := 75) rfl) rfl
theorem kw_fl_X5_126 : (Cond.fieldLink RX5 (126 : Nat) "RomSearchBus$BusState" "lastDevice" "Z") ∈ lw_g := lw_in1 (List.mem_of_getElem? (i := 76) rfl) rfl
theorem kw_fl_X0_39 : (Cond.fieldLink RX0 (39 : Nat) "RomSearchBus$BusState" "mode" "I") ∈ lw_g := lw_in1 (List.mem_of_getElem? (i := 77) rfl) rfl
theorem kw_fl_X0_42 : (Cond.fieldLink RX0 (42 : Nat) "RomSearchBus$BusState" "noise" "I") ∈ lw_g := lw_in1 (List.mem_of_getElem? (i := 78) rfl) rfl
theorem kw_fl_X0_45 : (Cond.fieldLink RX0 (45 : Nat) "RomSearchBus$BusState" "slots" "I") ∈ lw_g := lw_in1 (List.mem_of_getElem? (i := 79) rfl) rfl
theorem kw_fl_X5_130 : (Cond.fieldLink RX5 (130 : Nat) "RomSearchBus$BusState" "slots" "I") ∈ lw_g := lw_in1 (List.mem_of_getElem? (i := 80) rfl) rfl
theorem kw_lay_X0_devices : (Cond.laysFinal "RomSearchBus$BusState" "RomSearchBus$BusState" "devices" "LRomSearchBus$Devices;") ∈ lw_g := lw_in1 (List.mem_of_getElem? (i := 81) rfl) rfl
theorem kw_sole_X0_devices : (Cond.soleField "RomSearchBus$BusState" "devices") ∈ lw_g := lw_in1 (List.mem_of_getElem? (i := 82) rfl) rfl
theorem kw_lay_X0_history : (Cond.laysFinal "RomSearchBus$BusState" "RomSearchBus$BusState" "history" "LRomSearchBus$History;") ∈ lw_g := lw_in1 (List.mem_of_getElem? (i := 83) rfl) rfl
theorem kw_sole_X0_history : (Cond.soleField "RomSearchBus$BusState" "history") ∈ lw_g := lw_in1 (List.mem_of_getElem? (i := 84) rfl) rfl
theorem kw_lay_X0_rom : (Cond.lays "RomSearchBus$BusState" "RomSearchBus$BusState" "rom" "I") ∈ lw_g := lw_in1 (List.mem_of_getElem? (i := 85) rfl) rfl
theorem kw_sole_X0_rom : (Cond.soleField "RomSearchBus$BusState" "rom") ∈ lw_g := lw_in1 (List.mem_of_getElem? (i := 86) rfl) rfl
theorem kw_lay_X0_discrepancy : (Cond.lays "RomSearchBus$BusState" "RomSearchBus$BusState" "discrepancy" "I") ∈ lw_g := lw_in1 (List.mem_of_getElem? (i := 87) rfl) rfl
theorem kw_sole_X0_discrepancy : (Cond.soleField "RomSearchBus$BusState" "discrepancy") ∈ lw_g := lw_in1 (List.mem_of_getElem? (i := 88) rfl) rfl
theorem kw_lay_X0_familyDiscrepancy : (Cond.lays "RomSearchBus$BusState" "RomSearchBus$BusState" "familyDiscrepancy" "I") ∈ lw_g := lw_in1 (List.mem_of_getElem? (i := 89) rfl) rfl
theorem kw_sole_X0_familyDiscrepancy : (Cond.soleField "RomSearchBus$BusState" "familyDiscrepancy") ∈ lw_g := lw_in1 (List.mem_of_getElem? (i := 90) rfl) rfl
theorem kw_lay_X0_lastDevice : (Cond.lays "RomSearchBus$BusState" "RomSearchBus$BusState" "lastDevice" "Z") ∈ lw_g := lw_in1 (List.mem_of_getElem? (i := 91) rfl) rfl
theorem kw_sole_X0_lastDevice : (Cond.soleField "RomSearchBus$BusState" "lastDevice") ∈ lw_g := lw_in1 (List.mem_of_getElem? (i := 92) rfl) rfl
theorem kw_lay_X0_mode : (Cond.lays "RomSearchBus$BusState" "RomSearchBus$BusState" "mode" "I") ∈ lw_g := lw_in1 (List.mem_of_getElem? (i := 93) rfl) rfl
theorem kw_sole_X0_mode : (Cond.soleField "RomSearchBus$BusState" "mode") ∈ lw_g := lw_in1 (List.mem_of_getElem? (i := 94) rfl) rfl
theorem kw_lay_X0_noise : (Cond.lays "RomSearchBus$BusState" "RomSearchBus$BusState" "noise" "I") ∈ lw_g := lw_in1 (List.mem_of_getElem? (i := 95) rfl) rfl
theorem kw_sole_X0_noise : (Cond.soleField "RomSearchBus$BusState" "noise") ∈ lw_g := lw_in1 (List.mem_of_getElem? (i := 96) rfl) rfl
theorem kw_lay_X0_slots : (Cond.lays "RomSearchBus$BusState" "RomSearchBus$BusState" "slots" "I") ∈ lw_g := lw_in1 (List.mem_of_getElem? (i := 97) rfl) rfl
theorem kw_sole_X0_slots : (Cond.soleField "RomSearchBus$BusState" "slots") ∈ lw_g := lw_in1 (List.mem_of_getElem? (i := 98) rfl) rfl
theorem kw_sup_X0 : (Cond.superclass "RomSearchBus$BusState" "java/lang/Object") ∈ lw_g := lw_in1 (List.mem_of_getElem? (i := 99) rfl) rfl
theorem kw_cl_X5_22 : (Cond.classLink RX5 (22 : Nat) RX4) ∈ lw_g := lw_in1 (List.mem_of_getElem? (i := 100) rfl) rfl
theorem kw_inst_X4 : (Cond.instantiable RX4 (2 : Nat)) ∈ lw_g := lw_in1 (List.mem_of_getElem? (i := 101) rfl) rfl
theorem kw_ml_X5_24 : (Cond.methodLink RX5 (24 : Nat) yX4_init) ∈ lw_g := lw_in1 (List.mem_of_getElem? (i := 102) rfl) rfl
theorem kw_im_X4_init : (Cond.instanceMethod yX4_init) ∈ lw_g := lw_in1 (List.mem_of_getElem? (i := 103) rfl) rfl
theorem kw_code_X4_init : (Cond.code yX4_init prog_6_method_1_code (2 : Nat) (Option.none : Option Jvm.ClassFile.FieldType)) ∈ lw_g := lw_in1 (List.mem_of_getElem? (i := 104) rfl) rfl
theorem kw_ml_X4_1 : (Cond.methodLink RX4 (1 : Nat) objectInit) ∈ lw_g := lw_in1 (List.mem_of_getElem? (i := 105) rfl) rfl
theorem kw_cl_X4_9 : (Cond.classLink RX4 (9 : Nat) RX0) ∈ lw_g := lw_in1 (List.mem_of_getElem? (i := 106) rfl) rfl
theorem kw_over : (Cond.arrayOver (FieldType.object RX0)) ∈ lw_tbl := lw_t1 (List.mem_of_getElem? (i := 107) rfl)
theorem kw_ml_X4_15 : (Cond.methodLink RX4 (15 : Nat) yX0_init) ∈ lw_g := lw_in1 (List.mem_of_getElem? (i := 108) rfl) rfl
theorem kw_fl_X4_11 : (Cond.fieldLink RX4 (11 : Nat) "RomSearchBus$SavedStates" "states" "[LRomSearchBus$BusState;") ∈ lw_g := lw_in1 (List.mem_of_getElem? (i := 109) rfl) rfl
theorem kw_fl_X4_16 : (Cond.fieldLink RX4 (16 : Nat) "RomSearchBus$SavedStates" "count" "I") ∈ lw_g := lw_in1 (List.mem_of_getElem? (i := 110) rfl) rfl
theorem kw_fl_X5_174 : (Cond.fieldLink RX5 (174 : Nat) "RomSearchBus$SavedStates" "count" "I") ∈ lw_g := lw_in1 (List.mem_of_getElem? (i := 111) rfl) rfl
theorem kw_lay_X4_states : (Cond.laysFinal "RomSearchBus$SavedStates" "RomSearchBus$SavedStates" "states" "[LRomSearchBus$BusState;") ∈ lw_g := lw_in1 (List.mem_of_getElem? (i := 112) rfl) rfl
theorem kw_sole_X4_states : (Cond.soleField "RomSearchBus$SavedStates" "states") ∈ lw_g := lw_in1 (List.mem_of_getElem? (i := 113) rfl) rfl
theorem kw_lay_X4_count : (Cond.lays "RomSearchBus$SavedStates" "RomSearchBus$SavedStates" "count" "I") ∈ lw_g := lw_in1 (List.mem_of_getElem? (i := 114) rfl) rfl
theorem kw_sole_X4_count : (Cond.soleField "RomSearchBus$SavedStates" "count") ∈ lw_g := lw_in1 (List.mem_of_getElem? (i := 115) rfl) rfl
theorem kw_sup_X4 : (Cond.superclass "RomSearchBus$SavedStates" "java/lang/Object") ∈ lw_g := lw_in1 (List.mem_of_getElem? (i := 116) rfl) rfl
theorem kw_cl_X5_29 : (Cond.classLink RX5 (29 : Nat) RX1) ∈ lw_g := lw_in1 (List.mem_of_getElem? (i := 117) rfl) rfl
theorem kw_inst_X1 : (Cond.instantiable RX1 (6 : Nat)) ∈ lw_g := lw_in1 (List.mem_of_getElem? (i := 118) rfl) rfl
theorem kw_ml_X5_31 : (Cond.methodLink RX5 (31 : Nat) yX1_init) ∈ lw_g := lw_in1 (List.mem_of_getElem? (i := 119) rfl) rfl
theorem kw_im_X1_init : (Cond.instanceMethod yX1_init) ∈ lw_g := lw_in1 (List.mem_of_getElem? (i := 120) rfl) rfl
theorem kw_code_X1_init : (Cond.code yX1_init prog_3_method_1_code (1 : Nat) (Option.none : Option Jvm.ClassFile.FieldType)) ∈ lw_g := lw_in1 (List.mem_of_getElem? (i := 121) rfl) rfl
theorem kw_ml_X1_5 : (Cond.methodLink RX1 (5 : Nat) objectInit) ∈ lw_g := lw_in1 (List.mem_of_getElem? (i := 122) rfl) rfl
theorem kw_fl_X1_11 : (Cond.fieldLink RX1 (11 : Nat) "RomSearchBus$CommandText" "bytes" "[B") ∈ lw_g := lw_in1 (List.mem_of_getElem? (i := 123) rfl) rfl
theorem kw_fl_X1_15 : (Cond.fieldLink RX1 (15 : Nat) "RomSearchBus$CommandText" "letters" "[B") ∈ lw_g := lw_in1 (List.mem_of_getElem? (i := 124) rfl) rfl
theorem kw_fl_X1_18 : (Cond.fieldLink RX1 (18 : Nat) "RomSearchBus$CommandText" "numbers" "[I") ∈ lw_g := lw_in1 (List.mem_of_getElem? (i := 125) rfl) rfl
theorem kw_fl_X1_22 : (Cond.fieldLink RX1 (22 : Nat) "RomSearchBus$CommandText" "length" "I") ∈ lw_g := lw_in1 (List.mem_of_getElem? (i := 126) rfl) rfl
theorem kw_fl_X5_189 : (Cond.fieldLink RX5 (189 : Nat) "RomSearchBus$CommandText" "length" "I") ∈ lw_g := lw_in1 (List.mem_of_getElem? (i := 127) rfl) rfl
theorem kw_fl_X1_26 : (Cond.fieldLink RX1 (26 : Nat) "RomSearchBus$CommandText" "commands" "I") ∈ lw_g := lw_in1 (List.mem_of_getElem? (i := 128) rfl) rfl
theorem kw_fl_X5_165 : (Cond.fieldLink RX5 (165 : Nat) "RomSearchBus$CommandText" "commands" "I") ∈ lw_g := lw_in1 (List.mem_of_getElem? (i := 129) rfl) rfl
theorem kw_fl_X1_29 : (Cond.fieldLink RX1 (29 : Nat) "RomSearchBus$CommandText" "cursor" "I") ∈ lw_g := lw_in1 (List.mem_of_getElem? (i := 130) rfl) rfl
theorem kw_lay_X1_bytes : (Cond.laysFinal "RomSearchBus$CommandText" "RomSearchBus$CommandText" "bytes" "[B") ∈ lw_g := lw_in1 (List.mem_of_getElem? (i := 131) rfl) rfl
theorem kw_sole_X1_bytes : (Cond.soleField "RomSearchBus$CommandText" "bytes") ∈ lw_g := lw_in1 (List.mem_of_getElem? (i := 132) rfl) rfl
theorem kw_lay_X1_letters : (Cond.laysFinal "RomSearchBus$CommandText" "RomSearchBus$CommandText" "letters" "[B") ∈ lw_g := lw_in1 (List.mem_of_getElem? (i := 133) rfl) rfl
theorem kw_sole_X1_letters : (Cond.soleField "RomSearchBus$CommandText" "letters") ∈ lw_g := lw_in1 (List.mem_of_getElem? (i := 134) rfl) rfl
theorem kw_lay_X1_numbers : (Cond.laysFinal "RomSearchBus$CommandText" "RomSearchBus$CommandText" "numbers" "[I") ∈ lw_g := lw_in1 (List.mem_of_getElem? (i := 135) rfl) rfl
theorem kw_sole_X1_numbers : (Cond.soleField "RomSearchBus$CommandText" "numbers") ∈ lw_g := lw_in1 (List.mem_of_getElem? (i := 136) rfl) rfl
theorem kw_lay_X1_length : (Cond.lays "RomSearchBus$CommandText" "RomSearchBus$CommandText" "length" "I") ∈ lw_g := lw_in1 (List.mem_of_getElem? (i := 137) rfl) rfl
theorem kw_sole_X1_length : (Cond.soleField "RomSearchBus$CommandText" "length") ∈ lw_g := lw_in1 (List.mem_of_getElem? (i := 138) rfl) rfl
theorem kw_lay_X1_commands : (Cond.lays "RomSearchBus$CommandText" "RomSearchBus$CommandText" "commands" "I") ∈ lw_g := lw_in1 (List.mem_of_getElem? (i := 139) rfl) rfl
theorem kw_sole_X1_commands : (Cond.soleField "RomSearchBus$CommandText" "commands") ∈ lw_g := lw_in1 (List.mem_of_getElem? (i := 140) rfl) rfl
theorem kw_lay_X1_cursor : (Cond.lays "RomSearchBus$CommandText" "RomSearchBus$CommandText" "cursor" "I") ∈ lw_g := lw_in1 (List.mem_of_getElem? (i := 141) rfl) rfl
theorem kw_sole_X1_cursor : (Cond.soleField "RomSearchBus$CommandText" "cursor") ∈ lw_g := lw_in1 (List.mem_of_getElem? (i := 142) rfl) rfl
theorem kw_sup_X1 : (Cond.superclass "RomSearchBus$CommandText" "java/lang/Object") ∈ lw_g := lw_in1 (List.mem_of_getElem? (i := 143) rfl) rfl
theorem kw_arr_byte : (Cond.arrayClass FieldType.byte) ∈ lw_g := lw_in1 (List.mem_of_getElem? (i := 144) rfl) rfl
theorem kw_fl_X5_12 : (Cond.fieldLink RX5 (12 : Nat) "RomSearchBus" "state" "LRomSearchBus$BusState;") ∈ lw_g := lw_in1 (List.mem_of_getElem? (i := 145) rfl) rfl
theorem kw_fl_X5_16 : (Cond.fieldLink RX5 (16 : Nat) "RomSearchBus" "before" "LRomSearchBus$BusState;") ∈ lw_g := lw_in1 (List.mem_of_getElem? (i := 146) rfl) rfl
theorem kw_fl_X5_19 : (Cond.fieldLink RX5 (19 : Nat) "RomSearchBus" "trial" "LRomSearchBus$BusState;") ∈ lw_g := lw_in1 (List.mem_of_getElem? (i := 147) rfl) rfl
theorem kw_fl_X5_25 : (Cond.fieldLink RX5 (25 : Nat) "RomSearchBus" "saved" "LRomSearchBus$SavedStates;") ∈ lw_g := lw_in1 (List.mem_of_getElem? (i := 148) rfl) rfl
theorem kw_fl_X5_32 : (Cond.fieldLink RX5 (32 : Nat) "RomSearchBus" "text" "LRomSearchBus$CommandText;") ∈ lw_g := lw_in1 (List.mem_of_getElem? (i := 149) rfl) rfl
theorem kw_fl_X5_36 : (Cond.fieldLink RX5 (36 : Nat) "RomSearchBus" "errors" "[I") ∈ lw_g := lw_in1 (List.mem_of_getElem? (i := 150) rfl) rfl
theorem kw_fl_X5_40 : (Cond.fieldLink RX5 (40 : Nat) "RomSearchBus" "latestStop" "I") ∈ lw_g := lw_in1 (List.mem_of_getElem? (i := 151) rfl) rfl
theorem kw_lay_X5_state : (Cond.laysFinal "RomSearchBus" "RomSearchBus" "state" "LRomSearchBus$BusState;") ∈ lw_g := lw_in1 (List.mem_of_getElem? (i := 152) rfl) rfl
theorem kw_sole_X5_state : (Cond.soleField "RomSearchBus" "state") ∈ lw_g := lw_in1 (List.mem_of_getElem? (i := 153) rfl) rfl
theorem kw_lay_X5_before : (Cond.laysFinal "RomSearchBus" "RomSearchBus" "before" "LRomSearchBus$BusState;") ∈ lw_g := lw_in1 (List.mem_of_getElem? (i := 154) rfl) rfl
theorem kw_sole_X5_before : (Cond.soleField "RomSearchBus" "before") ∈ lw_g := lw_in1 (List.mem_of_getElem? (i := 155) rfl) rfl
theorem kw_lay_X5_trial : (Cond.laysFinal "RomSearchBus" "RomSearchBus" "trial" "LRomSearchBus$BusState;") ∈ lw_g := lw_in1 (List.mem_of_getElem? (i := 156) rfl) rfl
theorem kw_sole_X5_trial : (Cond.soleField "RomSearchBus" "trial") ∈ lw_g := lw_in1 (List.mem_of_getElem? (i := 157) rfl) rfl
theorem kw_lay_X5_saved : (Cond.laysFinal "RomSearchBus" "RomSearchBus" "saved" "LRomSearchBus$SavedStates;") ∈ lw_g := lw_in1 (List.mem_of_getElem? (i := 158) rfl) rfl
theorem kw_sole_X5_saved : (Cond.soleField "RomSearchBus" "saved") ∈ lw_g := lw_in1 (List.mem_of_getElem? (i := 159) rfl) rfl
theorem kw_lay_X5_text : (Cond.laysFinal "RomSearchBus" "RomSearchBus" "text" "LRomSearchBus$CommandText;") ∈ lw_g := lw_in1 (List.mem_of_getElem? (i := 160) rfl) rfl
theorem kw_sole_X5_text : (Cond.soleField "RomSearchBus" "text") ∈ lw_g := lw_in1 (List.mem_of_getElem? (i := 161) rfl) rfl
theorem kw_lay_X5_errors : (Cond.laysFinal "RomSearchBus" "RomSearchBus" "errors" "[I") ∈ lw_g := lw_in1 (List.mem_of_getElem? (i := 162) rfl) rfl
theorem kw_sole_X5_errors : (Cond.soleField "RomSearchBus" "errors") ∈ lw_g := lw_in1 (List.mem_of_getElem? (i := 163) rfl) rfl
theorem kw_lay_X5_latestStop : (Cond.lays "RomSearchBus" "RomSearchBus" "latestStop" "I") ∈ lw_g := lw_in1 (List.mem_of_getElem? (i := 164) rfl) rfl
theorem kw_sole_X5_latestStop : (Cond.soleField "RomSearchBus" "latestStop") ∈ lw_g := lw_in1 (List.mem_of_getElem? (i := 165) rfl) rfl
theorem kw_sup_X5 : (Cond.superclass "RomSearchBus" "java/lang/Object") ∈ lw_g := lw_in1 (List.mem_of_getElem? (i := 166) rfl) rfl
theorem kw_ml_L_13 : (Cond.methodLink RL (13 : Nat) yX5_addDevice) ∈ lw_g := lw_in1 (List.mem_of_getElem? (i := 167) rfl) rfl
theorem kw_im_X5_addDevice : (Cond.instanceMethod yX5_addDevice) ∈ lw_g := lw_in1 (List.mem_of_getElem? (i := 168) rfl) rfl
theorem kw_sel_X5_addDevice : (Cond.selects RX5 yX5_addDevice yX5_addDevice) ∈ lw_g := lw_in1 (List.mem_of_getElem? (i := 169) rfl) rfl
theorem kw_code_X5_addDevice : (Cond.code yX5_addDevice prog_1_method_2_code (3 : Nat) (Option.some FieldType.int)) ∈ lw_g := lw_in1 (List.mem_of_getElem? (i := 170) rfl) rfl
theorem kw_ml_X5_44 : (Cond.methodLink RX5 (44 : Nat) yX0_copyFrom) ∈ lw_g := lw_in1 (List.mem_of_getElem? (i := 171) rfl) rfl
theorem kw_im_X0_copyFrom : (Cond.instanceMethod yX0_copyFrom) ∈ lw_g := lw_in1 (List.mem_of_getElem? (i := 172) rfl) rfl
theorem kw_sel_X0_copyFrom : (Cond.selects RX0 yX0_copyFrom yX0_copyFrom) ∈ lw_g := lw_in1 (List.mem_of_getElem? (i := 173) rfl) rfl
theorem kw_code_X0_copyFrom : (Cond.code yX0_copyFrom prog_2_method_2_code (2 : Nat) (Option.none : Option Jvm.ClassFile.FieldType)) ∈ lw_g := lw_in1 (List.mem_of_getElem? (i := 174) rfl) rfl
theorem kw_ml_X0_48 : (Cond.methodLink RX0 (48 : Nat) yX2_copyFrom) ∈ lw_g := lw_in1 (List.mem_of_getElem? (i := 175) rfl) rfl
theorem kw_im_X2_copyFrom : (Cond.instanceMethod yX2_copyFrom) ∈ lw_g := lw_in1 (List.mem_of_getElem? (i := 176) rfl) rfl
theorem kw_sel_X2_copyFrom : (Cond.selects RX2 yX2_copyFrom yX2_copyFrom) ∈ lw_g := lw_in1 (List.mem_of_getElem? (i := 177) rfl) rfl
theorem kw_code_X2_copyFrom : (Cond.code yX2_copyFrom prog_4_method_2_code (2 : Nat) (Option.none : Option Jvm.ClassFile.FieldType)) ∈ lw_g := lw_in1 (List.mem_of_getElem? (i := 178) rfl) rfl
theorem kw_ml_X2_28 : (Cond.methodLink RX2 (28 : Nat) arraycopyName) ∈ lw_g := lw_in1 (List.mem_of_getElem? (i := 179) rfl) rfl
theorem kw_st_arraycopyName : (Cond.static arraycopyName) ∈ lw_g := lw_in1 (List.mem_of_getElem? (i := 180) rfl) rfl
theorem kw_nat_arraycopyName : (Cond.native arraycopyName) ∈ lw_g := lw_in1 (List.mem_of_getElem? (i := 181) rfl) rfl
theorem kw_ml_X0_52 : (Cond.methodLink RX0 (52 : Nat) yX3_copyFrom) ∈ lw_g := lw_in1 (List.mem_of_getElem? (i := 182) rfl) rfl
theorem kw_im_X3_copyFrom : (Cond.instanceMethod yX3_copyFrom) ∈ lw_g := lw_in1 (List.mem_of_getElem? (i := 183) rfl) rfl
theorem kw_sel_X3_copyFrom : (Cond.selects RX3 yX3_copyFrom yX3_copyFrom) ∈ lw_g := lw_in1 (List.mem_of_getElem? (i := 184) rfl) rfl
theorem kw_code_X3_copyFrom : (Cond.code yX3_copyFrom prog_5_method_2_code (2 : Nat) (Option.none : Option Jvm.ClassFile.FieldType)) ∈ lw_g := lw_in1 (List.mem_of_getElem? (i := 185) rfl) rfl
theorem kw_ml_X3_17 : (Cond.methodLink RX3 (17 : Nat) arraycopyName) ∈ lw_g := lw_in1 (List.mem_of_getElem? (i := 186) rfl) rfl
theorem kw_ml_X5_52 : (Cond.methodLink RX5 (52 : Nat) yX2_attach) ∈ lw_g := lw_in1 (List.mem_of_getElem? (i := 187) rfl) rfl
theorem kw_im_X2_attach : (Cond.instanceMethod yX2_attach) ∈ lw_g := lw_in1 (List.mem_of_getElem? (i := 188) rfl) rfl
theorem kw_sel_X2_attach : (Cond.selects RX2 yX2_attach yX2_attach) ∈ lw_g := lw_in1 (List.mem_of_getElem? (i := 189) rfl) rfl
theorem kw_code_X2_attach : (Cond.code yX2_attach prog_4_method_4_code (4 : Nat) (Option.some FieldType.int)) ∈ lw_g := lw_in1 (List.mem_of_getElem? (i := 190) rfl) rfl
theorem kw_nest_X2_34 : (Cond.methodLinkNest RX2 (34 : Nat) yX5_isWithin RX5) ∈ lw_tbl := lw_t1 (List.mem_of_getElem? (i := 191) rfl)
theorem kw_st_X5_isWithin : (Cond.static yX5_isWithin) ∈ lw_g := lw_in1 (List.mem_of_getElem? (i := 192) rfl) rfl
theorem kw_code_X5_isWithin : (Cond.code yX5_isWithin prog_1_method_36_code (3 : Nat) (Option.some FieldType.boolean)) ∈ lw_g := lw_in1 (List.mem_of_getElem? (i := 193) rfl) rfl
theorem kw_nest_X2_38 : (Cond.methodLinkNest RX2 (38 : Nat) yX5_romOf RX5) ∈ lw_tbl := lw_t1 (List.mem_of_getElem? (i := 194) rfl)
theorem kw_st_X5_romOf : (Cond.static yX5_romOf) ∈ lw_g := lw_in1 (List.mem_of_getElem? (i := 195) rfl) rfl
theorem kw_code_X5_romOf : (Cond.code yX5_romOf prog_1_method_39_code (3 : Nat) (Option.some FieldType.int)) ∈ lw_g := lw_in1 (List.mem_of_getElem? (i := 196) rfl) rfl
theorem kw_ml_X5_90 : (Cond.methodLink RX5 (90 : Nat) yX5_crcOf) ∈ lw_g := lw_in1 (List.mem_of_getElem? (i := 197) rfl) rfl
theorem kw_st_X5_crcOf : (Cond.static yX5_crcOf) ∈ lw_g := lw_in1 (List.mem_of_getElem? (i := 198) rfl) rfl
theorem kw_code_X5_crcOf : (Cond.code yX5_crcOf prog_1_method_38_code (4 : Nat) (Option.some FieldType.int)) ∈ lw_g := lw_in1 (List.mem_of_getElem? (i := 199) rfl) rfl
theorem kw_ml_X5_198 : (Cond.methodLink RX5 (198 : Nat) yX5_bitAt) ∈ lw_g := lw_in1 (List.mem_of_getElem? (i := 200) rfl) rfl
theorem kw_st_X5_bitAt : (Cond.static yX5_bitAt) ∈ lw_g := lw_in1 (List.mem_of_getElem? (i := 201) rfl) rfl
theorem kw_code_X5_bitAt : (Cond.code yX5_bitAt prog_1_method_37_code (2 : Nat) (Option.some FieldType.int)) ∈ lw_g := lw_in1 (List.mem_of_getElem? (i := 202) rfl) rfl
theorem kw_ml_X2_42 : (Cond.methodLink RX2 (42 : Nat) yX2_hasRom) ∈ lw_g := lw_in1 (List.mem_of_getElem? (i := 203) rfl) rfl
theorem kw_im_X2_hasRom : (Cond.instanceMethod yX2_hasRom) ∈ lw_g := lw_in1 (List.mem_of_getElem? (i := 205) rfl) rfl
theorem kw_code_X2_hasRom : (Cond.code yX2_hasRom prog_4_method_13_code (3 : Nat) (Option.some FieldType.boolean)) ∈ lw_g := lw_in1 (List.mem_of_getElem? (i := 206) rfl) rfl
theorem kw_ml_X5_58 : (Cond.methodLink RX5 (58 : Nat) yX5_settle) ∈ lw_g := lw_in1 (List.mem_of_getElem? (i := 207) rfl) rfl
theorem kw_im_X5_settle : (Cond.instanceMethod yX5_settle) ∈ lw_g := lw_in1 (List.mem_of_getElem? (i := 209) rfl) rfl
theorem kw_code_X5_settle : (Cond.code yX5_settle prog_1_method_31_code (2 : Nat) (Option.some FieldType.int)) ∈ lw_g := lw_in1 (List.mem_of_getElem? (i := 210) rfl) rfl
theorem kw_ml_X5_105 : (Cond.methodLink RX5 (105 : Nat) yX5_isErrorCode) ∈ lw_g := lw_in1 (List.mem_of_getElem? (i := 211) rfl) rfl
theorem kw_st_X5_isErrorCode : (Cond.static yX5_isErrorCode) ∈ lw_g := lw_in1 (List.mem_of_getElem? (i := 212) rfl) rfl
theorem kw_code_X5_isErrorCode : (Cond.code yX5_isErrorCode prog_1_method_35_code (1 : Nat) (Option.some FieldType.boolean)) ∈ lw_g := lw_in1 (List.mem_of_getElem? (i := 213) rfl) rfl
theorem kw_ml_X5_86 : (Cond.methodLink RX5 (86 : Nat) yX5_isWithin) ∈ lw_g := lw_in1 (List.mem_of_getElem? (i := 214) rfl) rfl
theorem kw_ml_X5_76 : (Cond.methodLink RX5 (76 : Nat) yX5_counted) ∈ lw_g := lw_in1 (List.mem_of_getElem? (i := 215) rfl) rfl
theorem kw_im_X5_counted : (Cond.instanceMethod yX5_counted) ∈ lw_g := lw_in1 (List.mem_of_getElem? (i := 217) rfl) rfl
theorem kw_code_X5_counted : (Cond.code yX5_counted prog_1_method_32_code (2 : Nat) (Option.some FieldType.int)) ∈ lw_g := lw_in1 (List.mem_of_getElem? (i := 218) rfl) rfl
theorem kw_ml_X5_102 : (Cond.methodLink RX5 (102 : Nat) yX4_push) ∈ lw_g := lw_in1 (List.mem_of_getElem? (i := 219) rfl) rfl
theorem kw_im_X4_push : (Cond.instanceMethod yX4_push) ∈ lw_g := lw_in1 (List.mem_of_getElem? (i := 220) rfl) rfl
theorem kw_sel_X4_push : (Cond.selects RX4 yX4_push yX4_push) ∈ lw_g := lw_in1 (List.mem_of_getElem? (i := 221) rfl) rfl
theorem kw_code_X4_push : (Cond.code yX4_push prog_6_method_2_code (2 : Nat) (Option.none : Option Jvm.ClassFile.FieldType)) ∈ lw_g := lw_in1 (List.mem_of_getElem? (i := 222) rfl) rfl
theorem kw_ml_X4_20 : (Cond.methodLink RX4 (20 : Nat) yX4_dropOldest) ∈ lw_g := lw_in1 (List.mem_of_getElem? (i := 223) rfl) rfl
theorem kw_im_X4_dropOldest : (Cond.instanceMethod yX4_dropOldest) ∈ lw_g := lw_in1 (List.mem_of_getElem? (i := 225) rfl) rfl
theorem kw_code_X4_dropOldest : (Cond.code yX4_dropOldest prog_6_method_4_code (3 : Nat) (Option.none : Option Jvm.ClassFile.FieldType)) ∈ lw_g := lw_in1 (List.mem_of_getElem? (i := 226) rfl) rfl
theorem kw_ml_X4_23 : (Cond.methodLink RX4 (23 : Nat) yX0_copyFrom) ∈ lw_g := lw_in1 (List.mem_of_getElem? (i := 227) rfl) rfl
theorem kw_ml_L_18 : (Cond.methodLink RL (18 : Nat) yX5_removeDevice) ∈ lw_g := lw_in1 (List.mem_of_getElem? (i := 228) rfl) rfl
theorem kw_im_X5_removeDevice : (Cond.instanceMethod yX5_removeDevice) ∈ lw_g := lw_in1 (List.mem_of_getElem? (i := 229) rfl) rfl
theorem kw_sel_X5_removeDevice : (Cond.selects RX5 yX5_removeDevice yX5_removeDevice) ∈ lw_g := lw_in1 (List.mem_of_getElem? (i := 230) rfl) rfl
theorem kw_code_X5_removeDevice : (Cond.code yX5_removeDevice prog_1_method_3_code (2 : Nat) (Option.some FieldType.int)) ∈ lw_g := lw_in1 (List.mem_of_getElem? (i := 231) rfl) rfl
theorem kw_ml_X5_62 : (Cond.methodLink RX5 (62 : Nat) yX2_detach) ∈ lw_g := lw_in1 (List.mem_of_getElem? (i := 232) rfl) rfl
theorem kw_im_X2_detach : (Cond.instanceMethod yX2_detach) ∈ lw_g := lw_in1 (List.mem_of_getElem? (i := 233) rfl) rfl
theorem kw_sel_X2_detach : (Cond.selects RX2 yX2_detach yX2_detach) ∈ lw_g := lw_in1 (List.mem_of_getElem? (i := 234) rfl) rfl
theorem kw_code_X2_detach : (Cond.code yX2_detach prog_4_method_5_code (2 : Nat) (Option.some FieldType.int)) ∈ lw_g := lw_in1 (List.mem_of_getElem? (i := 235) rfl) rfl
theorem kw_ml_X2_46 : (Cond.methodLink RX2 (46 : Nat) yX2_has) ∈ lw_g := lw_in1 (List.mem_of_getElem? (i := 236) rfl) rfl
theorem kw_im_X2_has : (Cond.instanceMethod yX2_has) ∈ lw_g := lw_in1 (List.mem_of_getElem? (i := 237) rfl) rfl
theorem kw_sel_X2_has : (Cond.selects RX2 yX2_has yX2_has) ∈ lw_g := lw_in1 (List.mem_of_getElem? (i := 238) rfl) rfl
theorem kw_code_X2_has : (Cond.code yX2_has prog_4_method_3_code (2 : Nat) (Option.some FieldType.boolean)) ∈ lw_g := lw_in1 (List.mem_of_getElem? (i := 239) rfl) rfl
theorem kw_ml_X2_49 : (Cond.methodLink RX2 (49 : Nat) yX2_closeGap) ∈ lw_g := lw_in2 (List.mem_of_getElem? (i := 0) rfl) rfl
theorem kw_im_X2_closeGap : (Cond.instanceMethod yX2_closeGap) ∈ lw_g := lw_in2 (List.mem_of_getElem? (i := 2) rfl) rfl
theorem kw_code_X2_closeGap : (Cond.code yX2_closeGap prog_4_method_14_code (4 : Nat) (Option.none : Option Jvm.ClassFile.FieldType)) ∈ lw_g := lw_in2 (List.mem_of_getElem? (i := 3) rfl) rfl
theorem kw_ml_L_23 : (Cond.methodLink RL (23 : Nat) yX5_setReading) ∈ lw_g := lw_in2 (List.mem_of_getElem? (i := 4) rfl) rfl
theorem kw_im_X5_setReading : (Cond.instanceMethod yX5_setReading) ∈ lw_g := lw_in2 (List.mem_of_getElem? (i := 5) rfl) rfl
theorem kw_sel_X5_setReading : (Cond.selects RX5 yX5_setReading yX5_setReading) ∈ lw_g := lw_in2 (List.mem_of_getElem? (i := 6) rfl) rfl
theorem kw_code_X5_setReading : (Cond.code yX5_setReading prog_1_method_4_code (3 : Nat) (Option.some FieldType.int)) ∈ lw_g := lw_in2 (List.mem_of_getElem? (i := 7) rfl) rfl
theorem kw_ml_X5_65 : (Cond.methodLink RX5 (65 : Nat) yX2_storeReading) ∈ lw_g := lw_in2 (List.mem_of_getElem? (i := 8) rfl) rfl
theorem kw_im_X2_storeReading : (Cond.instanceMethod yX2_storeReading) ∈ lw_g := lw_in2 (List.mem_of_getElem? (i := 9) rfl) rfl
theorem kw_sel_X2_storeReading : (Cond.selects RX2 yX2_storeReading yX2_storeReading) ∈ lw_g := lw_in2 (List.mem_of_getElem? (i := 10) rfl) rfl
theorem kw_code_X2_storeReading : (Cond.code yX2_storeReading prog_4_method_6_code (3 : Nat) (Option.some FieldType.int)) ∈ lw_g := lw_in2 (List.mem_of_getElem? (i := 11) rfl) rfl
theorem kw_ml_X2_53 : (Cond.methodLink RX2 (53 : Nat) yX2_isAlarmed) ∈ lw_g := lw_in2 (List.mem_of_getElem? (i := 12) rfl) rfl
theorem kw_im_X2_isAlarmed : (Cond.instanceMethod yX2_isAlarmed) ∈ lw_g := lw_in2 (List.mem_of_getElem? (i := 14) rfl) rfl
theorem kw_code_X2_isAlarmed : (Cond.code yX2_isAlarmed prog_4_method_15_code (4 : Nat) (Option.some FieldType.boolean)) ∈ lw_g := lw_in2 (List.mem_of_getElem? (i := 15) rfl) rfl
theorem kw_ml_X2_63 : (Cond.methodLink RX2 (63 : Nat) yJ9_abs_0f7a4) ∈ lw_g := lw_in2 (List.mem_of_getElem? (i := 16) rfl) rfl
theorem kw_st_J9_abs_0f7a4 : (Cond.static yJ9_abs_0f7a4) ∈ lw_g := lw_in2 (List.mem_of_getElem? (i := 17) rfl) rfl
theorem kw_code_J9_abs_0f7a4 : (Cond.code yJ9_abs_0f7a4 prog_10_method_59_code (1 : Nat) (Option.some FieldType.int)) ∈ lw_g := lw_in2 (List.mem_of_getElem? (i := 18) rfl) rfl
theorem kw_ml_L_27 : (Cond.methodLink RL (27 : Nat) yX5_setAlarm) ∈ lw_g := lw_in2 (List.mem_of_getElem? (i := 19) rfl) rfl
theorem kw_im_X5_setAlarm : (Cond.instanceMethod yX5_setAlarm) ∈ lw_g := lw_in2 (List.mem_of_getElem? (i := 20) rfl) rfl
theorem kw_sel_X5_setAlarm : (Cond.selects RX5 yX5_setAlarm yX5_setAlarm) ∈ lw_g := lw_in2 (List.mem_of_getElem? (i := 21) rfl) rfl
theorem kw_code_X5_setAlarm : (Cond.code yX5_setAlarm prog_1_method_5_code (4 : Nat) (Option.some FieldType.int)) ∈ lw_g := lw_in2 (List.mem_of_getElem? (i := 22) rfl) rfl
theorem kw_ml_X5_68 : (Cond.methodLink RX5 (68 : Nat) yX2_storeAlarm) ∈ lw_g := lw_in2 (List.mem_of_getElem? (i := 23) rfl) rfl
theorem kw_im_X2_storeAlarm : (Cond.instanceMethod yX2_storeAlarm) ∈ lw_g := lw_in2 (List.mem_of_getElem? (i := 24) rfl) rfl
theorem kw_sel_X2_storeAlarm : (Cond.selects RX2 yX2_storeAlarm yX2_storeAlarm) ∈ lw_g := lw_in2 (List.mem_of_getElem? (i := 25) rfl) rfl
theorem kw_code_X2_storeAlarm : (Cond.code yX2_storeAlarm prog_4_method_7_code (4 : Nat) (Option.some FieldType.int)) ∈ lw_g := lw_in2 (List.mem_of_getElem? (i := 26) rfl) rfl
theorem kw_ml_L_32 : (Cond.methodLink RL (32 : Nat) yX5_romCode) ∈ lw_g := lw_in2 (List.mem_of_getElem? (i := 27) rfl) rfl
theorem kw_im_X5_romCode : (Cond.instanceMethod yX5_romCode) ∈ lw_g := lw_in2 (List.mem_of_getElem? (i := 28) rfl) rfl
theorem kw_sel_X5_romCode : (Cond.selects RX5 yX5_romCode yX5_romCode) ∈ lw_g := lw_in2 (List.mem_of_getElem? (i := 29) rfl) rfl
theorem kw_code_X5_romCode : (Cond.code yX5_romCode prog_1_method_6_code (2 : Nat) (Option.some FieldType.int)) ∈ lw_g := lw_in2 (List.mem_of_getElem? (i := 30) rfl) rfl
theorem kw_ml_X5_72 : (Cond.methodLink RX5 (72 : Nat) yX2_has) ∈ lw_g := lw_in2 (List.mem_of_getElem? (i := 31) rfl) rfl
theorem kw_ml_L_36 : (Cond.methodLink RL (36 : Nat) yX5_alarmedDevices) ∈ lw_g := lw_in2 (List.mem_of_getElem? (i := 32) rfl) rfl
theorem kw_im_X5_alarmedDevices : (Cond.instanceMethod yX5_alarmedDevices) ∈ lw_g := lw_in2 (List.mem_of_getElem? (i := 33) rfl) rfl
theorem kw_sel_X5_alarmedDevices : (Cond.selects RX5 yX5_alarmedDevices yX5_alarmedDevices) ∈ lw_g := lw_in2 (List.mem_of_getElem? (i := 34) rfl) rfl
theorem kw_code_X5_alarmedDevices : (Cond.code yX5_alarmedDevices prog_1_method_7_code (1 : Nat) (Option.some FieldType.int)) ∈ lw_g := lw_in2 (List.mem_of_getElem? (i := 35) rfl) rfl
theorem kw_ml_X5_82 : (Cond.methodLink RX5 (82 : Nat) yX2_alarmedSet) ∈ lw_g := lw_in2 (List.mem_of_getElem? (i := 36) rfl) rfl
theorem kw_im_X2_alarmedSet : (Cond.instanceMethod yX2_alarmedSet) ∈ lw_g := lw_in2 (List.mem_of_getElem? (i := 37) rfl) rfl
theorem kw_sel_X2_alarmedSet : (Cond.selects RX2 yX2_alarmedSet yX2_alarmedSet) ∈ lw_g := lw_in2 (List.mem_of_getElem? (i := 38) rfl) rfl
theorem kw_code_X2_alarmedSet : (Cond.code yX2_alarmedSet prog_4_method_9_code (3 : Nat) (Option.some FieldType.int)) ∈ lw_g := lw_in2 (List.mem_of_getElem? (i := 39) rfl) rfl
theorem kw_ml_L_41 : (Cond.methodLink RL (41 : Nat) yX5_crc) ∈ lw_g := lw_in2 (List.mem_of_getElem? (i := 40) rfl) rfl
theorem kw_im_X5_crc : (Cond.instanceMethod yX5_crc) ∈ lw_g := lw_in2 (List.mem_of_getElem? (i := 41) rfl) rfl
theorem kw_sel_X5_crc : (Cond.selects RX5 yX5_crc yX5_crc) ∈ lw_g := lw_in2 (List.mem_of_getElem? (i := 42) rfl) rfl
theorem kw_code_X5_crc : (Cond.code yX5_crc prog_1_method_8_code (2 : Nat) (Option.some FieldType.int)) ∈ lw_g := lw_in2 (List.mem_of_getElem? (i := 43) rfl) rfl
theorem kw_ml_L_45 : (Cond.methodLink RL (45 : Nat) yX5_setMode) ∈ lw_g := lw_in2 (List.mem_of_getElem? (i := 44) rfl) rfl
theorem kw_im_X5_setMode : (Cond.instanceMethod yX5_setMode) ∈ lw_g := lw_in2 (List.mem_of_getElem? (i := 45) rfl) rfl
theorem kw_sel_X5_setMode : (Cond.selects RX5 yX5_setMode yX5_setMode) ∈ lw_g := lw_in2 (List.mem_of_getElem? (i := 46) rfl) rfl
theorem kw_code_X5_setMode : (Cond.code yX5_setMode prog_1_method_9_code (2 : Nat) (Option.some FieldType.int)) ∈ lw_g := lw_in2 (List.mem_of_getElem? (i := 47) rfl) rfl
theorem kw_ml_X5_93 : (Cond.methodLink RX5 (93 : Nat) yX0_switchMode) ∈ lw_g := lw_in2 (List.mem_of_getElem? (i := 48) rfl) rfl
theorem kw_im_X0_switchMode : (Cond.instanceMethod yX0_switchMode) ∈ lw_g := lw_in2 (List.mem_of_getElem? (i := 49) rfl) rfl
theorem kw_sel_X0_switchMode : (Cond.selects RX0 yX0_switchMode yX0_switchMode) ∈ lw_g := lw_in2 (List.mem_of_getElem? (i := 50) rfl) rfl
theorem kw_code_X0_switchMode : (Cond.code yX0_switchMode prog_2_method_3_code (3 : Nat) (Option.some FieldType.int)) ∈ lw_g := lw_in2 (List.mem_of_getElem? (i := 51) rfl) rfl
theorem kw_nest_X0_55 : (Cond.methodLinkNest RX0 (55 : Nat) yX5_isWithin RX5) ∈ lw_tbl := lw_t2 (List.mem_of_getElem? (i := 52) rfl)
theorem kw_ml_X0_59 : (Cond.methodLink RX0 (59 : Nat) yX0_restart) ∈ lw_g := lw_in2 (List.mem_of_getElem? (i := 53) rfl) rfl
theorem kw_im_X0_restart : (Cond.instanceMethod yX0_restart) ∈ lw_g := lw_in2 (List.mem_of_getElem? (i := 54) rfl) rfl
theorem kw_sel_X0_restart : (Cond.selects RX0 yX0_restart yX0_restart) ∈ lw_g := lw_in2 (List.mem_of_getElem? (i := 55) rfl) rfl
theorem kw_code_X0_restart : (Cond.code yX0_restart prog_2_method_4_code (2 : Nat) (Option.some FieldType.int)) ∈ lw_g := lw_in2 (List.mem_of_getElem? (i := 56) rfl) rfl
theorem kw_ml_L_49 : (Cond.methodLink RL (49 : Nat) yX5_resetSearch) ∈ lw_g := lw_in2 (List.mem_of_getElem? (i := 57) rfl) rfl
theorem kw_im_X5_resetSearch : (Cond.instanceMethod yX5_resetSearch) ∈ lw_g := lw_in2 (List.mem_of_getElem? (i := 58) rfl) rfl
theorem kw_sel_X5_resetSearch : (Cond.selects RX5 yX5_resetSearch yX5_resetSearch) ∈ lw_g := lw_in2 (List.mem_of_getElem? (i := 59) rfl) rfl
theorem kw_code_X5_resetSearch : (Cond.code yX5_resetSearch prog_1_method_10_code (1 : Nat) (Option.some FieldType.int)) ∈ lw_g := lw_in2 (List.mem_of_getElem? (i := 60) rfl) rfl
theorem kw_ml_X5_96 : (Cond.methodLink RX5 (96 : Nat) yX0_restart) ∈ lw_g := lw_in2 (List.mem_of_getElem? (i := 61) rfl) rfl
theorem kw_ml_L_53 : (Cond.methodLink RL (53 : Nat) yX5_next) ∈ lw_g := lw_in2 (List.mem_of_getElem? (i := 62) rfl) rfl
theorem kw_im_X5_next : (Cond.instanceMethod yX5_next) ∈ lw_g := lw_in2 (List.mem_of_getElem? (i := 63) rfl) rfl
theorem kw_sel_X5_next : (Cond.selects RX5 yX5_next yX5_next) ∈ lw_g := lw_in2 (List.mem_of_getElem? (i := 64) rfl) rfl
theorem kw_code_X5_next : (Cond.code yX5_next prog_1_method_11_code (2 : Nat) (Option.some FieldType.int)) ∈ lw_g := lw_in2 (List.mem_of_getElem? (i := 65) rfl) rfl
theorem kw_ml_X5_99 : (Cond.methodLink RX5 (99 : Nat) yX0_searchPass) ∈ lw_g := lw_in2 (List.mem_of_getElem? (i := 66) rfl) rfl
theorem kw_im_X0_searchPass : (Cond.instanceMethod yX0_searchPass) ∈ lw_g := lw_in2 (List.mem_of_getElem? (i := 67) rfl) rfl
theorem kw_sel_X0_searchPass : (Cond.selects RX0 yX0_searchPass yX0_searchPass) ∈ lw_g := lw_in2 (List.mem_of_getElem? (i := 68) rfl) rfl
theorem kw_code_X0_searchPass : (Cond.code yX0_searchPass prog_2_method_8_code (8 : Nat) (Option.some FieldType.int)) ∈ lw_g := lw_in2 (List.mem_of_getElem? (i := 69) rfl) rfl
theorem kw_ml_X0_63 : (Cond.methodLink RX0 (63 : Nat) yX0_fail) ∈ lw_g := lw_in2 (List.mem_of_getElem? (i := 70) rfl) rfl
theorem kw_im_X0_fail : (Cond.instanceMethod yX0_fail) ∈ lw_g := lw_in2 (List.mem_of_getElem? (i := 72) rfl) rfl
theorem kw_code_X0_fail : (Cond.code yX0_fail prog_2_method_10_code (2 : Nat) (Option.some FieldType.int)) ∈ lw_g := lw_in2 (List.mem_of_getElem? (i := 73) rfl) rfl
theorem kw_ml_X0_70 : (Cond.methodLink RX0 (70 : Nat) yX2_wholeSet) ∈ lw_g := lw_in2 (List.mem_of_getElem? (i := 74) rfl) rfl
theorem kw_im_X2_wholeSet : (Cond.instanceMethod yX2_wholeSet) ∈ lw_g := lw_in2 (List.mem_of_getElem? (i := 75) rfl) rfl
theorem kw_sel_X2_wholeSet : (Cond.selects RX2 yX2_wholeSet yX2_wholeSet) ∈ lw_g := lw_in2 (List.mem_of_getElem? (i := 76) rfl) rfl
theorem kw_code_X2_wholeSet : (Cond.code yX2_wholeSet prog_4_method_8_code (1 : Nat) (Option.some FieldType.int)) ∈ lw_g := lw_in2 (List.mem_of_getElem? (i := 77) rfl) rfl
theorem kw_ml_X0_73 : (Cond.methodLink RX0 (73 : Nat) yX2_alarmedSet) ∈ lw_g := lw_in2 (List.mem_of_getElem? (i := 78) rfl) rfl
theorem kw_ml_X0_76 : (Cond.methodLink RX0 (76 : Nat) yX2_setWithOneAt) ∈ lw_g := lw_in2 (List.mem_of_getElem? (i := 79) rfl) rfl
theorem kw_im_X2_setWithOneAt : (Cond.instanceMethod yX2_setWithOneAt) ∈ lw_g := lw_in2 (List.mem_of_getElem? (i := 80) rfl) rfl
theorem kw_sel_X2_setWithOneAt : (Cond.selects RX2 yX2_setWithOneAt yX2_setWithOneAt) ∈ lw_g := lw_in2 (List.mem_of_getElem? (i := 81) rfl) rfl
theorem kw_code_X2_setWithOneAt : (Cond.code yX2_setWithOneAt prog_4_method_10_code (4 : Nat) (Option.some FieldType.int)) ∈ lw_g := lw_in2 (List.mem_of_getElem? (i := 82) rfl) rfl
theorem kw_nest_X2_56 : (Cond.methodLinkNest RX2 (56 : Nat) yX5_bitAt RX5) ∈ lw_tbl := lw_t2 (List.mem_of_getElem? (i := 83) rfl)
theorem kw_ml_X0_79 : (Cond.methodLink RX0 (79 : Nat) yX0_readSlot) ∈ lw_g := lw_in2 (List.mem_of_getElem? (i := 84) rfl) rfl
theorem kw_im_X0_readSlot : (Cond.instanceMethod yX0_readSlot) ∈ lw_g := lw_in2 (List.mem_of_getElem? (i := 86) rfl) rfl
theorem kw_code_X0_readSlot : (Cond.code yX0_readSlot prog_2_method_11_code (3 : Nat) (Option.some FieldType.int)) ∈ lw_g := lw_in2 (List.mem_of_getElem? (i := 87) rfl) rfl
theorem kw_ml_X0_83 : (Cond.methodLink RX0 (83 : Nat) yX0_directionAt) ∈ lw_g := lw_in2 (List.mem_of_getElem? (i := 88) rfl) rfl
theorem kw_im_X0_directionAt : (Cond.instanceMethod yX0_directionAt) ∈ lw_g := lw_in2 (List.mem_of_getElem? (i := 90) rfl) rfl
theorem kw_code_X0_directionAt : (Cond.code yX0_directionAt prog_2_method_13_code (2 : Nat) (Option.some FieldType.int)) ∈ lw_g := lw_in2 (List.mem_of_getElem? (i := 91) rfl) rfl
theorem kw_nest_X0_109 : (Cond.methodLinkNest RX0 (109 : Nat) yX5_bitAt RX5) ∈ lw_tbl := lw_t2 (List.mem_of_getElem? (i := 92) rfl)
theorem kw_ml_X0_86 : (Cond.methodLink RX0 (86 : Nat) yX0_noteFamilyZero) ∈ lw_g := lw_in2 (List.mem_of_getElem? (i := 93) rfl) rfl
theorem kw_im_X0_noteFamilyZero : (Cond.instanceMethod yX0_noteFamilyZero) ∈ lw_g := lw_in2 (List.mem_of_getElem? (i := 95) rfl) rfl
theorem kw_code_X0_noteFamilyZero : (Cond.code yX0_noteFamilyZero prog_2_method_14_code (2 : Nat) (Option.none : Option Jvm.ClassFile.FieldType)) ∈ lw_g := lw_in2 (List.mem_of_getElem? (i := 96) rfl) rfl
theorem kw_ml_X0_90 : (Cond.methodLink RX0 (90 : Nat) yX0_writeSlot) ∈ lw_g := lw_in2 (List.mem_of_getElem? (i := 97) rfl) rfl
theorem kw_im_X0_writeSlot : (Cond.instanceMethod yX0_writeSlot) ∈ lw_g := lw_in2 (List.mem_of_getElem? (i := 99) rfl) rfl
theorem kw_code_X0_writeSlot : (Cond.code yX0_writeSlot prog_2_method_12_code (3 : Nat) (Option.none : Option Jvm.ClassFile.FieldType)) ∈ lw_g := lw_in2 (List.mem_of_getElem? (i := 100) rfl) rfl
theorem kw_nest_X0_94 : (Cond.methodLinkNest RX0 (94 : Nat) yX5_crcOf RX5) ∈ lw_tbl := lw_t2 (List.mem_of_getElem? (i := 101) rfl)
theorem kw_ml_X0_97 : (Cond.methodLink RX0 (97 : Nat) yX3_remember) ∈ lw_g := lw_in2 (List.mem_of_getElem? (i := 102) rfl) rfl
theorem kw_im_X3_remember : (Cond.instanceMethod yX3_remember) ∈ lw_g := lw_in2 (List.mem_of_getElem? (i := 103) rfl) rfl
theorem kw_sel_X3_remember : (Cond.selects RX3 yX3_remember yX3_remember) ∈ lw_g := lw_in2 (List.mem_of_getElem? (i := 104) rfl) rfl
theorem kw_code_X3_remember : (Cond.code yX3_remember prog_5_method_4_code (2 : Nat) (Option.none : Option Jvm.ClassFile.FieldType)) ∈ lw_g := lw_in2 (List.mem_of_getElem? (i := 105) rfl) rfl
theorem kw_ml_X3_23 : (Cond.methodLink RX3 (23 : Nat) yX3_holds) ∈ lw_g := lw_in2 (List.mem_of_getElem? (i := 106) rfl) rfl
theorem kw_im_X3_holds : (Cond.instanceMethod yX3_holds) ∈ lw_g := lw_in2 (List.mem_of_getElem? (i := 108) rfl) rfl
theorem kw_code_X3_holds : (Cond.code yX3_holds prog_5_method_6_code (3 : Nat) (Option.some FieldType.boolean)) ∈ lw_g := lw_in2 (List.mem_of_getElem? (i := 109) rfl) rfl
theorem kw_ml_X3_27 : (Cond.methodLink RX3 (27 : Nat) yX3_forgetOldest) ∈ lw_g := lw_in2 (List.mem_of_getElem? (i := 110) rfl) rfl
theorem kw_im_X3_forgetOldest : (Cond.instanceMethod yX3_forgetOldest) ∈ lw_g := lw_in2 (List.mem_of_getElem? (i := 112) rfl) rfl
theorem kw_code_X3_forgetOldest : (Cond.code yX3_forgetOldest prog_5_method_7_code (2 : Nat) (Option.none : Option Jvm.ClassFile.FieldType)) ∈ lw_g := lw_in2 (List.mem_of_getElem? (i := 113) rfl) rfl
theorem kw_ml_L_57 : (Cond.methodLink RL (57 : Nat) yX5_skipFamily) ∈ lw_g := lw_in2 (List.mem_of_getElem? (i := 114) rfl) rfl
theorem kw_im_X5_skipFamily : (Cond.instanceMethod yX5_skipFamily) ∈ lw_g := lw_in2 (List.mem_of_getElem? (i := 115) rfl) rfl
theorem kw_sel_X5_skipFamily : (Cond.selects RX5 yX5_skipFamily yX5_skipFamily) ∈ lw_g := lw_in2 (List.mem_of_getElem? (i := 116) rfl) rfl
theorem kw_code_X5_skipFamily : (Cond.code yX5_skipFamily prog_1_method_12_code (1 : Nat) (Option.some FieldType.int)) ∈ lw_g := lw_in2 (List.mem_of_getElem? (i := 117) rfl) rfl
theorem kw_ml_X5_108 : (Cond.methodLink RX5 (108 : Nat) yX0_leaveFamily) ∈ lw_g := lw_in2 (List.mem_of_getElem? (i := 118) rfl) rfl
theorem kw_im_X0_leaveFamily : (Cond.instanceMethod yX0_leaveFamily) ∈ lw_g := lw_in2 (List.mem_of_getElem? (i := 119) rfl) rfl
theorem kw_sel_X0_leaveFamily : (Cond.selects RX0 yX0_leaveFamily yX0_leaveFamily) ∈ lw_g := lw_in2 (List.mem_of_getElem? (i := 120) rfl) rfl
theorem kw_code_X0_leaveFamily : (Cond.code yX0_leaveFamily prog_2_method_5_code (1 : Nat) (Option.some FieldType.int)) ∈ lw_g := lw_in2 (List.mem_of_getElem? (i := 121) rfl) rfl
theorem kw_ml_L_61 : (Cond.methodLink RL (61 : Nat) yX5_targetFamily) ∈ lw_g := lw_in2 (List.mem_of_getElem? (i := 122) rfl) rfl
theorem kw_im_X5_targetFamily : (Cond.instanceMethod yX5_targetFamily) ∈ lw_g := lw_in2 (List.mem_of_getElem? (i := 123) rfl) rfl
theorem kw_sel_X5_targetFamily : (Cond.selects RX5 yX5_targetFamily yX5_targetFamily) ∈ lw_g := lw_in2 (List.mem_of_getElem? (i := 124) rfl) rfl
theorem kw_code_X5_targetFamily : (Cond.code yX5_targetFamily prog_1_method_13_code (2 : Nat) (Option.some FieldType.int)) ∈ lw_g := lw_in2 (List.mem_of_getElem? (i := 125) rfl) rfl
theorem kw_ml_X5_111 : (Cond.methodLink RX5 (111 : Nat) yX0_aimAtFamily) ∈ lw_g := lw_in2 (List.mem_of_getElem? (i := 126) rfl) rfl
theorem kw_im_X0_aimAtFamily : (Cond.instanceMethod yX0_aimAtFamily) ∈ lw_g := lw_in2 (List.mem_of_getElem? (i := 127) rfl) rfl
theorem kw_sel_X0_aimAtFamily : (Cond.selects RX0 yX0_aimAtFamily yX0_aimAtFamily) ∈ lw_g := lw_in2 (List.mem_of_getElem? (i := 128) rfl) rfl
theorem kw_code_X0_aimAtFamily : (Cond.code yX0_aimAtFamily prog_2_method_6_code (2 : Nat) (Option.some FieldType.int)) ∈ lw_g := lw_in2 (List.mem_of_getElem? (i := 129) rfl) rfl
theorem kw_ml_L_65 : (Cond.methodLink RL (65 : Nat) yX5_setNoise) ∈ lw_g := lw_in2 (List.mem_of_getElem? (i := 130) rfl) rfl
theorem kw_im_X5_setNoise : (Cond.instanceMethod yX5_setNoise) ∈ lw_g := lw_in2 (List.mem_of_getElem? (i := 131) rfl) rfl
theorem kw_sel_X5_setNoise : (Cond.selects RX5 yX5_setNoise yX5_setNoise) ∈ lw_g := lw_in2 (List.mem_of_getElem? (i := 132) rfl) rfl
theorem kw_code_X5_setNoise : (Cond.code yX5_setNoise prog_1_method_14_code (2 : Nat) (Option.some FieldType.int)) ∈ lw_g := lw_in2 (List.mem_of_getElem? (i := 133) rfl) rfl
theorem kw_ml_X5_114 : (Cond.methodLink RX5 (114 : Nat) yX0_disturb) ∈ lw_g := lw_in2 (List.mem_of_getElem? (i := 134) rfl) rfl
theorem kw_im_X0_disturb : (Cond.instanceMethod yX0_disturb) ∈ lw_g := lw_in2 (List.mem_of_getElem? (i := 135) rfl) rfl
theorem kw_sel_X0_disturb : (Cond.selects RX0 yX0_disturb yX0_disturb) ∈ lw_g := lw_in2 (List.mem_of_getElem? (i := 136) rfl) rfl
theorem kw_code_X0_disturb : (Cond.code yX0_disturb prog_2_method_7_code (3 : Nat) (Option.some FieldType.int)) ∈ lw_g := lw_in2 (List.mem_of_getElem? (i := 137) rfl) rfl
theorem kw_ml_L_69 : (Cond.methodLink RL (69 : Nat) yX5_countAhead) ∈ lw_g := lw_in2 (List.mem_of_getElem? (i := 138) rfl) rfl
theorem kw_im_X5_countAhead : (Cond.instanceMethod yX5_countAhead) ∈ lw_g := lw_in2 (List.mem_of_getElem? (i := 139) rfl) rfl
theorem kw_sel_X5_countAhead : (Cond.selects RX5 yX5_countAhead yX5_countAhead) ∈ lw_g := lw_in2 (List.mem_of_getElem? (i := 140) rfl) rfl
theorem kw_code_X5_countAhead : (Cond.code yX5_countAhead prog_1_method_15_code (2 : Nat) (Option.some FieldType.int)) ∈ lw_g := lw_in2 (List.mem_of_getElem? (i := 141) rfl) rfl
theorem kw_ml_L_73 : (Cond.methodLink RL (73 : Nat) yX5_currentRom) ∈ lw_g := lw_in2 (List.mem_of_getElem? (i := 142) rfl) rfl
theorem kw_im_X5_currentRom : (Cond.instanceMethod yX5_currentRom) ∈ lw_g := lw_in2 (List.mem_of_getElem? (i := 143) rfl) rfl
theorem kw_sel_X5_currentRom : (Cond.selects RX5 yX5_currentRom yX5_currentRom) ∈ lw_g := lw_in2 (List.mem_of_getElem? (i := 144) rfl) rfl
theorem kw_code_X5_currentRom : (Cond.code yX5_currentRom prog_1_method_16_code (1 : Nat) (Option.some FieldType.int)) ∈ lw_g := lw_in2 (List.mem_of_getElem? (i := 145) rfl) rfl
theorem kw_ml_L_77 : (Cond.methodLink RL (77 : Nat) yX5_lastDiscrepancy) ∈ lw_g := lw_in2 (List.mem_of_getElem? (i := 146) rfl) rfl
theorem kw_im_X5_lastDiscrepancy : (Cond.instanceMethod yX5_lastDiscrepancy) ∈ lw_g := lw_in2 (List.mem_of_getElem? (i := 147) rfl) rfl
theorem kw_sel_X5_lastDiscrepancy : (Cond.selects RX5 yX5_lastDiscrepancy yX5_lastDiscrepancy) ∈ lw_g := lw_in2 (List.mem_of_getElem? (i := 148) rfl) rfl
theorem kw_code_X5_lastDiscrepancy : (Cond.code yX5_lastDiscrepancy prog_1_method_17_code (1 : Nat) (Option.some FieldType.int)) ∈ lw_g := lw_in2 (List.mem_of_getElem? (i := 149) rfl) rfl
theorem kw_ml_L_81 : (Cond.methodLink RL (81 : Nat) yX5_lastFamilyDiscrepancy) ∈ lw_g := lw_in2 (List.mem_of_getElem? (i := 150) rfl) rfl
theorem kw_im_X5_lastFamilyDiscrepancy : (Cond.instanceMethod yX5_lastFamilyDiscrepancy) ∈ lw_g := lw_in2 (List.mem_of_getElem? (i := 151) rfl) rfl
theorem kw_sel_X5_lastFamilyDiscrepancy : (Cond.selects RX5 yX5_lastFamilyDiscrepancy yX5_lastFamilyDiscrepancy) ∈ lw_g := lw_in2 (List.mem_of_getElem? (i := 152) rfl) rfl
theorem kw_code_X5_lastFamilyDiscrepancy : (Cond.code yX5_lastFamilyDiscrepancy prog_1_method_18_code (1 : Nat) (Option.some FieldType.int)) ∈ lw_g := lw_in2 (List.mem_of_getElem? (i := 153) rfl) rfl
theorem kw_ml_L_85 : (Cond.methodLink RL (85 : Nat) yX5_isLastDevice) ∈ lw_g := lw_in2 (List.mem_of_getElem? (i := 154) rfl) rfl
theorem kw_im_X5_isLastDevice : (Cond.instanceMethod yX5_isLastDevice) ∈ lw_g := lw_in2 (List.mem_of_getElem? (i := 155) rfl) rfl
theorem kw_sel_X5_isLastDevice : (Cond.selects RX5 yX5_isLastDevice yX5_isLastDevice) ∈ lw_g := lw_in2 (List.mem_of_getElem? (i := 156) rfl) rfl
theorem kw_code_X5_isLastDevice : (Cond.code yX5_isLastDevice prog_1_method_19_code (1 : Nat) (Option.some FieldType.int)) ∈ lw_g := lw_in2 (List.mem_of_getElem? (i := 157) rfl) rfl
theorem kw_ml_L_89 : (Cond.methodLink RL (89 : Nat) yX5_slotsUsed) ∈ lw_g := lw_in2 (List.mem_of_getElem? (i := 158) rfl) rfl
theorem kw_im_X5_slotsUsed : (Cond.instanceMethod yX5_slotsUsed) ∈ lw_g := lw_in2 (List.mem_of_getElem? (i := 159) rfl) rfl
theorem kw_sel_X5_slotsUsed : (Cond.selects RX5 yX5_slotsUsed yX5_slotsUsed) ∈ lw_g := lw_in2 (List.mem_of_getElem? (i := 160) rfl) rfl
theorem kw_code_X5_slotsUsed : (Cond.code yX5_slotsUsed prog_1_method_20_code (1 : Nat) (Option.some FieldType.int)) ∈ lw_g := lw_in2 (List.mem_of_getElem? (i := 161) rfl) rfl
theorem kw_ml_L_93 : (Cond.methodLink RL (93 : Nat) yX5_found) ∈ lw_g := lw_in2 (List.mem_of_getElem? (i := 162) rfl) rfl
theorem kw_im_X5_found : (Cond.instanceMethod yX5_found) ∈ lw_g := lw_in2 (List.mem_of_getElem? (i := 163) rfl) rfl
theorem kw_sel_X5_found : (Cond.selects RX5 yX5_found yX5_found) ∈ lw_g := lw_in2 (List.mem_of_getElem? (i := 164) rfl) rfl
theorem kw_code_X5_found : (Cond.code yX5_found prog_1_method_21_code (2 : Nat) (Option.some FieldType.int)) ∈ lw_g := lw_in2 (List.mem_of_getElem? (i := 165) rfl) rfl
theorem kw_ml_X5_137 : (Cond.methodLink RX5 (137 : Nat) yX3_has) ∈ lw_g := lw_in2 (List.mem_of_getElem? (i := 166) rfl) rfl
theorem kw_im_X3_has : (Cond.instanceMethod yX3_has) ∈ lw_g := lw_in2 (List.mem_of_getElem? (i := 167) rfl) rfl
theorem kw_sel_X3_has : (Cond.selects RX3 yX3_has yX3_has) ∈ lw_g := lw_in2 (List.mem_of_getElem? (i := 168) rfl) rfl
theorem kw_code_X3_has : (Cond.code yX3_has prog_5_method_3_code (2 : Nat) (Option.some FieldType.boolean)) ∈ lw_g := lw_in2 (List.mem_of_getElem? (i := 169) rfl) rfl
theorem kw_ml_L_97 : (Cond.methodLink RL (97 : Nat) yX5_familyShareBits) ∈ lw_g := lw_in2 (List.mem_of_getElem? (i := 170) rfl) rfl
theorem kw_im_X5_familyShareBits : (Cond.instanceMethod yX5_familyShareBits) ∈ lw_g := lw_in2 (List.mem_of_getElem? (i := 171) rfl) rfl
theorem kw_sel_X5_familyShareBits : (Cond.selects RX5 yX5_familyShareBits yX5_familyShareBits) ∈ lw_g := lw_in2 (List.mem_of_getElem? (i := 172) rfl) rfl
theorem kw_code_X5_familyShareBits : (Cond.code yX5_familyShareBits prog_1_method_22_code (2 : Nat) (Option.some FieldType.int)) ∈ lw_g := lw_in2 (List.mem_of_getElem? (i := 173) rfl) rfl
theorem kw_ml_X5_143 : (Cond.methodLink RX5 (143 : Nat) yX2_membersOf) ∈ lw_g := lw_in2 (List.mem_of_getElem? (i := 174) rfl) rfl
theorem kw_im_X2_membersOf : (Cond.instanceMethod yX2_membersOf) ∈ lw_g := lw_in2 (List.mem_of_getElem? (i := 175) rfl) rfl
theorem kw_sel_X2_membersOf : (Cond.selects RX2 yX2_membersOf yX2_membersOf) ∈ lw_g := lw_in2 (List.mem_of_getElem? (i := 176) rfl) rfl
theorem kw_code_X2_membersOf : (Cond.code yX2_membersOf prog_4_method_11_code (4 : Nat) (Option.some FieldType.int)) ∈ lw_g := lw_in2 (List.mem_of_getElem? (i := 177) rfl) rfl
theorem kw_ml_X5_149 : (Cond.methodLink RX5 (149 : Nat) yX5_shareBits) ∈ lw_g := lw_in2 (List.mem_of_getElem? (i := 178) rfl) rfl
theorem kw_st_X5_shareBits : (Cond.static yX5_shareBits) ∈ lw_g := lw_in2 (List.mem_of_getElem? (i := 179) rfl) rfl
theorem kw_code_X5_shareBits : (Cond.code yX5_shareBits prog_1_method_41_code (5 : Nat) (Option.some FieldType.int)) ∈ lw_g := lw_in2 (List.mem_of_getElem? (i := 180) rfl) rfl
theorem kw_con_X5_203 : (Cond.constantFloat RX5 (203 : Nat) (1258291200 : UInt32)) ∈ lw_g := lw_in2 (List.mem_of_getElem? (i := 181) rfl) rfl
theorem kw_con_X5_204 : (Cond.constant RX5 (204 : Nat) (8388608 : Int32)) ∈ lw_g := lw_in2 (List.mem_of_getElem? (i := 182) rfl) rfl
theorem kw_ml_L_101 : (Cond.methodLink RL (101 : Nat) yX5_append) ∈ lw_g := lw_in2 (List.mem_of_getElem? (i := 183) rfl) rfl
theorem kw_im_X5_append : (Cond.instanceMethod yX5_append) ∈ lw_g := lw_in2 (List.mem_of_getElem? (i := 184) rfl) rfl
theorem kw_sel_X5_append : (Cond.selects RX5 yX5_append yX5_append) ∈ lw_g := lw_in2 (List.mem_of_getElem? (i := 185) rfl) rfl
theorem kw_code_X5_append : (Cond.code yX5_append prog_1_method_23_code (2 : Nat) (Option.some FieldType.int)) ∈ lw_g := lw_in2 (List.mem_of_getElem? (i := 186) rfl) rfl
theorem kw_ml_X5_152 : (Cond.methodLink RX5 (152 : Nat) yX1_hasRoom) ∈ lw_g := lw_in2 (List.mem_of_getElem? (i := 187) rfl) rfl
theorem kw_im_X1_hasRoom : (Cond.instanceMethod yX1_hasRoom) ∈ lw_g := lw_in2 (List.mem_of_getElem? (i := 188) rfl) rfl
theorem kw_sel_X1_hasRoom : (Cond.selects RX1 yX1_hasRoom yX1_hasRoom) ∈ lw_g := lw_in2 (List.mem_of_getElem? (i := 189) rfl) rfl
theorem kw_code_X1_hasRoom : (Cond.code yX1_hasRoom prog_3_method_2_code (1 : Nat) (Option.some FieldType.boolean)) ∈ lw_g := lw_in2 (List.mem_of_getElem? (i := 190) rfl) rfl
theorem kw_ml_X5_156 : (Cond.methodLink RX5 (156 : Nat) yX1_put) ∈ lw_g := lw_in2 (List.mem_of_getElem? (i := 191) rfl) rfl
theorem kw_im_X1_put : (Cond.instanceMethod yX1_put) ∈ lw_g := lw_in2 (List.mem_of_getElem? (i := 192) rfl) rfl
theorem kw_sel_X1_put : (Cond.selects RX1 yX1_put yX1_put) ∈ lw_g := lw_in2 (List.mem_of_getElem? (i := 193) rfl) rfl
theorem kw_code_X1_put : (Cond.code yX1_put prog_3_method_3_code (2 : Nat) (Option.some FieldType.int)) ∈ lw_g := lw_in2 (List.mem_of_getElem? (i := 194) rfl) rfl
theorem kw_ml_X1_32 : (Cond.methodLink RX1 (32 : Nat) yX1_hasRoom) ∈ lw_g := lw_in2 (List.mem_of_getElem? (i := 195) rfl) rfl
theorem kw_ml_L_105 : (Cond.methodLink RL (105 : Nat) yX5_clearText) ∈ lw_g := lw_in2 (List.mem_of_getElem? (i := 196) rfl) rfl
theorem kw_im_X5_clearText : (Cond.instanceMethod yX5_clearText) ∈ lw_g := lw_in2 (List.mem_of_getElem? (i := 197) rfl) rfl
theorem kw_sel_X5_clearText : (Cond.selects RX5 yX5_clearText yX5_clearText) ∈ lw_g := lw_in2 (List.mem_of_getElem? (i := 198) rfl) rfl
theorem kw_code_X5_clearText : (Cond.code yX5_clearText prog_1_method_24_code (1 : Nat) (Option.some FieldType.int)) ∈ lw_g := lw_in2 (List.mem_of_getElem? (i := 199) rfl) rfl
theorem kw_ml_X5_159 : (Cond.methodLink RX5 (159 : Nat) yX1_empty) ∈ lw_g := lw_in2 (List.mem_of_getElem? (i := 200) rfl) rfl
theorem kw_im_X1_empty : (Cond.instanceMethod yX1_empty) ∈ lw_g := lw_in2 (List.mem_of_getElem? (i := 201) rfl) rfl
theorem kw_sel_X1_empty : (Cond.selects RX1 yX1_empty yX1_empty) ∈ lw_g := lw_in2 (List.mem_of_getElem? (i := 202) rfl) rfl
theorem kw_code_X1_empty : (Cond.code yX1_empty prog_3_method_4_code (2 : Nat) (Option.some FieldType.int)) ∈ lw_g := lw_in2 (List.mem_of_getElem? (i := 203) rfl) rfl
theorem kw_ml_L_109 : (Cond.methodLink RL (109 : Nat) yX5_execute) ∈ lw_g := lw_in2 (List.mem_of_getElem? (i := 204) rfl) rfl
theorem kw_im_X5_execute : (Cond.instanceMethod yX5_execute) ∈ lw_g := lw_in2 (List.mem_of_getElem? (i := 205) rfl) rfl
theorem kw_sel_X5_execute : (Cond.selects RX5 yX5_execute yX5_execute) ∈ lw_g := lw_in2 (List.mem_of_getElem? (i := 206) rfl) rfl
theorem kw_code_X5_execute : (Cond.code yX5_execute prog_1_method_25_code (5 : Nat) (Option.some FieldType.int)) ∈ lw_g := lw_in2 (List.mem_of_getElem? (i := 207) rfl) rfl
theorem kw_ml_X5_162 : (Cond.methodLink RX5 (162 : Nat) yX1_parse) ∈ lw_g := lw_in2 (List.mem_of_getElem? (i := 208) rfl) rfl
theorem kw_im_X1_parse : (Cond.instanceMethod yX1_parse) ∈ lw_g := lw_in2 (List.mem_of_getElem? (i := 209) rfl) rfl
theorem kw_sel_X1_parse : (Cond.selects RX1 yX1_parse yX1_parse) ∈ lw_g := lw_in2 (List.mem_of_getElem? (i := 210) rfl) rfl
theorem kw_code_X1_parse : (Cond.code yX1_parse prog_3_method_7_code (2 : Nat) (Option.some FieldType.int)) ∈ lw_g := lw_in2 (List.mem_of_getElem? (i := 211) rfl) rfl
theorem kw_ml_X1_40 : (Cond.methodLink RX1 (40 : Nat) yX1_skipSpaces) ∈ lw_g := lw_in2 (List.mem_of_getElem? (i := 212) rfl) rfl
theorem kw_im_X1_skipSpaces : (Cond.instanceMethod yX1_skipSpaces) ∈ lw_g := lw_in2 (List.mem_of_getElem? (i := 214) rfl) rfl
theorem kw_code_X1_skipSpaces : (Cond.code yX1_skipSpaces prog_3_method_10_code (1 : Nat) (Option.none : Option Jvm.ClassFile.FieldType)) ∈ lw_g := lw_in2 (List.mem_of_getElem? (i := 215) rfl) rfl
theorem kw_ml_X1_46 : (Cond.methodLink RX1 (46 : Nat) yX1_byteAtCursor) ∈ lw_g := lw_in2 (List.mem_of_getElem? (i := 216) rfl) rfl
theorem kw_im_X1_byteAtCursor : (Cond.instanceMethod yX1_byteAtCursor) ∈ lw_g := lw_in2 (List.mem_of_getElem? (i := 218) rfl) rfl
theorem kw_code_X1_byteAtCursor : (Cond.code yX1_byteAtCursor prog_3_method_11_code (1 : Nat) (Option.some FieldType.int)) ∈ lw_g := lw_in2 (List.mem_of_getElem? (i := 219) rfl) rfl
theorem kw_ml_X1_43 : (Cond.methodLink RX1 (43 : Nat) yX1_readCommand) ∈ lw_g := lw_in2 (List.mem_of_getElem? (i := 220) rfl) rfl
theorem kw_im_X1_readCommand : (Cond.instanceMethod yX1_readCommand) ∈ lw_g := lw_in2 (List.mem_of_getElem? (i := 222) rfl) rfl
theorem kw_code_X1_readCommand : (Cond.code yX1_readCommand prog_3_method_8_code (4 : Nat) (Option.some FieldType.boolean)) ∈ lw_g := lw_in2 (List.mem_of_getElem? (i := 223) rfl) rfl
theorem kw_ml_X1_50 : (Cond.methodLink RX1 (50 : Nat) yX1_numbersNeeded) ∈ lw_g := lw_in2 (List.mem_of_getElem? (i := 224) rfl) rfl
theorem kw_st_X1_numbersNeeded : (Cond.static yX1_numbersNeeded) ∈ lw_g := lw_in2 (List.mem_of_getElem? (i := 225) rfl) rfl
theorem kw_code_X1_numbersNeeded : (Cond.code yX1_numbersNeeded prog_3_method_13_code (1 : Nat) (Option.some FieldType.int)) ∈ lw_g := lw_in2 (List.mem_of_getElem? (i := 226) rfl) rfl
theorem kw_ml_X1_54 : (Cond.methodLink RX1 (54 : Nat) yX1_mayBeNegative) ∈ lw_g := lw_in2 (List.mem_of_getElem? (i := 227) rfl) rfl
theorem kw_st_X1_mayBeNegative : (Cond.static yX1_mayBeNegative) ∈ lw_g := lw_in2 (List.mem_of_getElem? (i := 228) rfl) rfl
theorem kw_code_X1_mayBeNegative : (Cond.code yX1_mayBeNegative prog_3_method_14_code (2 : Nat) (Option.some FieldType.boolean)) ∈ lw_g := lw_in2 (List.mem_of_getElem? (i := 229) rfl) rfl
theorem kw_ml_X1_58 : (Cond.methodLink RX1 (58 : Nat) yX1_readNumber) ∈ lw_g := lw_in2 (List.mem_of_getElem? (i := 230) rfl) rfl
theorem kw_im_X1_readNumber : (Cond.instanceMethod yX1_readNumber) ∈ lw_g := lw_in2 (List.mem_of_getElem? (i := 232) rfl) rfl
theorem kw_code_X1_readNumber : (Cond.code yX1_readNumber prog_3_method_9_code (6 : Nat) (Option.some FieldType.boolean)) ∈ lw_g := lw_in2 (List.mem_of_getElem? (i := 233) rfl) rfl
theorem kw_ml_X1_62 : (Cond.methodLink RX1 (62 : Nat) yX1_isDigit) ∈ lw_g := lw_in2 (List.mem_of_getElem? (i := 234) rfl) rfl
theorem kw_st_X1_isDigit : (Cond.static yX1_isDigit) ∈ lw_g := lw_in2 (List.mem_of_getElem? (i := 235) rfl) rfl
theorem kw_code_X1_isDigit : (Cond.code yX1_isDigit prog_3_method_12_code (1 : Nat) (Option.some FieldType.boolean)) ∈ lw_g := lw_in2 (List.mem_of_getElem? (i := 236) rfl) rfl
theorem kw_ml_X5_168 : (Cond.methodLink RX5 (168 : Nat) yX5_runCommand) ∈ lw_g := lw_in2 (List.mem_of_getElem? (i := 237) rfl) rfl
theorem kw_im_X5_runCommand : (Cond.instanceMethod yX5_runCommand) ∈ lw_g := lw_in2 (List.mem_of_getElem? (i := 239) rfl) rfl
theorem kw_code_X5_runCommand : (Cond.code yX5_runCommand prog_1_method_33_code (5 : Nat) (Option.some FieldType.int)) ∈ lw_g := lw_in3 (List.mem_of_getElem? (i := 0) rfl) rfl
theorem kw_ml_X5_192 : (Cond.methodLink RX5 (192 : Nat) yX1_numberOf) ∈ lw_g := lw_in3 (List.mem_of_getElem? (i := 1) rfl) rfl
theorem kw_im_X1_numberOf : (Cond.instanceMethod yX1_numberOf) ∈ lw_g := lw_in3 (List.mem_of_getElem? (i := 2) rfl) rfl
theorem kw_sel_X1_numberOf : (Cond.selects RX1 yX1_numberOf yX1_numberOf) ∈ lw_g := lw_in3 (List.mem_of_getElem? (i := 3) rfl) rfl
theorem kw_code_X1_numberOf : (Cond.code yX1_numberOf prog_3_method_6_code (4 : Nat) (Option.some FieldType.int)) ∈ lw_g := lw_in3 (List.mem_of_getElem? (i := 4) rfl) rfl
theorem kw_nest_X1_36 : (Cond.methodLinkNest RX1 (36 : Nat) yX5_isWithin RX5) ∈ lw_tbl := lw_t3 (List.mem_of_getElem? (i := 5) rfl)
theorem kw_ml_X5_195 : (Cond.methodLink RX5 (195 : Nat) yX1_letterOf) ∈ lw_g := lw_in3 (List.mem_of_getElem? (i := 6) rfl) rfl
theorem kw_im_X1_letterOf : (Cond.instanceMethod yX1_letterOf) ∈ lw_g := lw_in3 (List.mem_of_getElem? (i := 7) rfl) rfl
theorem kw_sel_X1_letterOf : (Cond.selects RX1 yX1_letterOf yX1_letterOf) ∈ lw_g := lw_in3 (List.mem_of_getElem? (i := 8) rfl) rfl
theorem kw_code_X1_letterOf : (Cond.code yX1_letterOf prog_3_method_5_code (2 : Nat) (Option.some FieldType.int)) ∈ lw_g := lw_in3 (List.mem_of_getElem? (i := 9) rfl) rfl
theorem kw_ml_X5_171 : (Cond.methodLink RX5 (171 : Nat) yX5_stopsExecution) ∈ lw_g := lw_in3 (List.mem_of_getElem? (i := 10) rfl) rfl
theorem kw_st_X5_stopsExecution : (Cond.static yX5_stopsExecution) ∈ lw_g := lw_in3 (List.mem_of_getElem? (i := 11) rfl) rfl
theorem kw_code_X5_stopsExecution : (Cond.code yX5_stopsExecution prog_1_method_34_code (1 : Nat) (Option.some FieldType.boolean)) ∈ lw_g := lw_in3 (List.mem_of_getElem? (i := 12) rfl) rfl
theorem kw_ml_L_113 : (Cond.methodLink RL (113 : Nat) yX5_stopCause) ∈ lw_g := lw_in3 (List.mem_of_getElem? (i := 13) rfl) rfl
theorem kw_im_X5_stopCause : (Cond.instanceMethod yX5_stopCause) ∈ lw_g := lw_in3 (List.mem_of_getElem? (i := 14) rfl) rfl
theorem kw_sel_X5_stopCause : (Cond.selects RX5 yX5_stopCause yX5_stopCause) ∈ lw_g := lw_in3 (List.mem_of_getElem? (i := 15) rfl) rfl
theorem kw_code_X5_stopCause : (Cond.code yX5_stopCause prog_1_method_26_code (1 : Nat) (Option.some FieldType.int)) ∈ lw_g := lw_in3 (List.mem_of_getElem? (i := 16) rfl) rfl
theorem kw_ml_L_117 : (Cond.methodLink RL (117 : Nat) yX5_undo) ∈ lw_g := lw_in3 (List.mem_of_getElem? (i := 17) rfl) rfl
theorem kw_im_X5_undo : (Cond.instanceMethod yX5_undo) ∈ lw_g := lw_in3 (List.mem_of_getElem? (i := 18) rfl) rfl
theorem kw_sel_X5_undo : (Cond.selects RX5 yX5_undo yX5_undo) ∈ lw_g := lw_in3 (List.mem_of_getElem? (i := 19) rfl) rfl
theorem kw_code_X5_undo : (Cond.code yX5_undo prog_1_method_27_code (1 : Nat) (Option.some FieldType.int)) ∈ lw_g := lw_in3 (List.mem_of_getElem? (i := 20) rfl) rfl
theorem kw_ml_X5_175 : (Cond.methodLink RX5 (175 : Nat) yX4_popInto) ∈ lw_g := lw_in3 (List.mem_of_getElem? (i := 21) rfl) rfl
theorem kw_im_X4_popInto : (Cond.instanceMethod yX4_popInto) ∈ lw_g := lw_in3 (List.mem_of_getElem? (i := 22) rfl) rfl
theorem kw_sel_X4_popInto : (Cond.selects RX4 yX4_popInto yX4_popInto) ∈ lw_g := lw_in3 (List.mem_of_getElem? (i := 23) rfl) rfl
theorem kw_code_X4_popInto : (Cond.code yX4_popInto prog_6_method_3_code (2 : Nat) (Option.some FieldType.int)) ∈ lw_g := lw_in3 (List.mem_of_getElem? (i := 24) rfl) rfl
theorem kw_ml_L_121 : (Cond.methodLink RL (121 : Nat) yX5_errorCount) ∈ lw_g := lw_in3 (List.mem_of_getElem? (i := 25) rfl) rfl
theorem kw_im_X5_errorCount : (Cond.instanceMethod yX5_errorCount) ∈ lw_g := lw_in3 (List.mem_of_getElem? (i := 26) rfl) rfl
theorem kw_sel_X5_errorCount : (Cond.selects RX5 yX5_errorCount yX5_errorCount) ∈ lw_g := lw_in3 (List.mem_of_getElem? (i := 27) rfl) rfl
theorem kw_code_X5_errorCount : (Cond.code yX5_errorCount prog_1_method_28_code (2 : Nat) (Option.some FieldType.int)) ∈ lw_g := lw_in3 (List.mem_of_getElem? (i := 28) rfl) rfl
theorem kw_ml_L_125 : (Cond.methodLink RL (125 : Nat) yX5_deviceCount) ∈ lw_g := lw_in3 (List.mem_of_getElem? (i := 29) rfl) rfl
theorem kw_im_X5_deviceCount : (Cond.instanceMethod yX5_deviceCount) ∈ lw_g := lw_in3 (List.mem_of_getElem? (i := 30) rfl) rfl
theorem kw_sel_X5_deviceCount : (Cond.selects RX5 yX5_deviceCount yX5_deviceCount) ∈ lw_g := lw_in3 (List.mem_of_getElem? (i := 31) rfl) rfl
theorem kw_code_X5_deviceCount : (Cond.code yX5_deviceCount prog_1_method_29_code (1 : Nat) (Option.some FieldType.int)) ∈ lw_g := lw_in3 (List.mem_of_getElem? (i := 32) rfl) rfl
theorem kw_ml_L_129 : (Cond.methodLink RL (129 : Nat) yX5_digest) ∈ lw_g := lw_in3 (List.mem_of_getElem? (i := 33) rfl) rfl
theorem kw_im_X5_digest : (Cond.instanceMethod yX5_digest) ∈ lw_g := lw_in3 (List.mem_of_getElem? (i := 34) rfl) rfl
theorem kw_sel_X5_digest : (Cond.selects RX5 yX5_digest yX5_digest) ∈ lw_g := lw_in3 (List.mem_of_getElem? (i := 35) rfl) rfl
theorem kw_code_X5_digest : (Cond.code yX5_digest prog_1_method_30_code (4 : Nat) (Option.some FieldType.long)) ∈ lw_g := lw_in3 (List.mem_of_getElem? (i := 36) rfl) rfl
theorem kw_con_X5_179 : (Cond.constantLong RX5 (179 : Nat) (2633 : Int64)) ∈ lw_g := lw_in3 (List.mem_of_getElem? (i := 37) rfl) rfl
theorem kw_ml_X5_181 : (Cond.methodLink RX5 (181 : Nat) yX5_mixed) ∈ lw_g := lw_in3 (List.mem_of_getElem? (i := 38) rfl) rfl
theorem kw_st_X5_mixed : (Cond.static yX5_mixed) ∈ lw_g := lw_in3 (List.mem_of_getElem? (i := 39) rfl) rfl
theorem kw_code_X5_mixed : (Cond.code yX5_mixed prog_1_method_40_code (3 : Nat) (Option.some FieldType.long)) ∈ lw_g := lw_in3 (List.mem_of_getElem? (i := 40) rfl) rfl
theorem kw_con_X5_201 : (Cond.constantLong RX5 (201 : Nat) (31 : Int64)) ∈ lw_g := lw_in3 (List.mem_of_getElem? (i := 41) rfl) rfl
theorem kw_ml_X5_185 : (Cond.methodLink RX5 (185 : Nat) yX0_mixInto) ∈ lw_g := lw_in3 (List.mem_of_getElem? (i := 42) rfl) rfl
theorem kw_im_X0_mixInto : (Cond.instanceMethod yX0_mixInto) ∈ lw_g := lw_in3 (List.mem_of_getElem? (i := 43) rfl) rfl
theorem kw_sel_X0_mixInto : (Cond.selects RX0 yX0_mixInto yX0_mixInto) ∈ lw_g := lw_in3 (List.mem_of_getElem? (i := 44) rfl) rfl
theorem kw_code_X0_mixInto : (Cond.code yX0_mixInto prog_2_method_9_code (5 : Nat) (Option.some FieldType.long)) ∈ lw_g := lw_in3 (List.mem_of_getElem? (i := 45) rfl) rfl
theorem kw_ml_X0_100 : (Cond.methodLink RX0 (100 : Nat) yX2_mixInto) ∈ lw_g := lw_in3 (List.mem_of_getElem? (i := 46) rfl) rfl
theorem kw_im_X2_mixInto : (Cond.instanceMethod yX2_mixInto) ∈ lw_g := lw_in3 (List.mem_of_getElem? (i := 47) rfl) rfl
theorem kw_sel_X2_mixInto : (Cond.selects RX2 yX2_mixInto yX2_mixInto) ∈ lw_g := lw_in3 (List.mem_of_getElem? (i := 48) rfl) rfl
theorem kw_code_X2_mixInto : (Cond.code yX2_mixInto prog_4_method_12_code (6 : Nat) (Option.some FieldType.long)) ∈ lw_g := lw_in3 (List.mem_of_getElem? (i := 49) rfl) rfl
theorem kw_nest_X2_59 : (Cond.methodLinkNest RX2 (59 : Nat) yX5_mixed RX5) ∈ lw_tbl := lw_t3 (List.mem_of_getElem? (i := 50) rfl)
theorem kw_nest_X0_104 : (Cond.methodLinkNest RX0 (104 : Nat) yX5_mixed RX5) ∈ lw_tbl := lw_t3 (List.mem_of_getElem? (i := 51) rfl)
theorem kw_ml_X0_108 : (Cond.methodLink RX0 (108 : Nat) yX3_mixInto) ∈ lw_g := lw_in3 (List.mem_of_getElem? (i := 52) rfl) rfl
theorem kw_im_X3_mixInto : (Cond.instanceMethod yX3_mixInto) ∈ lw_g := lw_in3 (List.mem_of_getElem? (i := 53) rfl) rfl
theorem kw_sel_X3_mixInto : (Cond.selects RX3 yX3_mixInto yX3_mixInto) ∈ lw_g := lw_in3 (List.mem_of_getElem? (i := 54) rfl) rfl
theorem kw_code_X3_mixInto : (Cond.code yX3_mixInto prog_5_method_5_code (6 : Nat) (Option.some FieldType.long)) ∈ lw_g := lw_in3 (List.mem_of_getElem? (i := 55) rfl) rfl
theorem kw_nest_X3_30 : (Cond.methodLinkNest RX3 (30 : Nat) yX5_mixed RX5) ∈ lw_tbl := lw_t3 (List.mem_of_getElem? (i := 56) rfl)
theorem kw_cl_L_10 : (Cond.classLink RL (10 : Nat) RX6) ∈ lw_g := lw_in3 (List.mem_of_getElem? (i := 57) rfl) rfl
theorem kw_inst_X6 : (Cond.instantiable RX6 (14 : Nat)) ∈ lw_g := lw_in3 (List.mem_of_getElem? (i := 58) rfl) rfl
theorem kw_ml_L_12 : (Cond.methodLink RL (12 : Nat) yX6_init) ∈ lw_g := lw_in3 (List.mem_of_getElem? (i := 59) rfl) rfl
theorem kw_im_X6_init : (Cond.instanceMethod yX6_init) ∈ lw_g := lw_in3 (List.mem_of_getElem? (i := 60) rfl) rfl
theorem kw_code_X6_init : (Cond.code yX6_init prog_8_method_1_code (1 : Nat) (Option.none : Option Jvm.ClassFile.FieldType)) ∈ lw_g := lw_in3 (List.mem_of_getElem? (i := 61) rfl) rfl
theorem kw_ml_X6_1 : (Cond.methodLink RX6 (1 : Nat) objectInit) ∈ lw_g := lw_in3 (List.mem_of_getElem? (i := 62) rfl) rfl
theorem kw_fl_X6_7 : (Cond.fieldLink RX6 (7 : Nat) "RomSearchBusModel" "now" "[I") ∈ lw_g := lw_in3 (List.mem_of_getElem? (i := 63) rfl) rfl
theorem kw_fl_X6_13 : (Cond.fieldLink RX6 (13 : Nat) "RomSearchBusModel" "before" "[I") ∈ lw_g := lw_in3 (List.mem_of_getElem? (i := 64) rfl) rfl
theorem kw_fl_X6_16 : (Cond.fieldLink RX6 (16 : Nat) "RomSearchBusModel" "saved" "[I") ∈ lw_g := lw_in3 (List.mem_of_getElem? (i := 65) rfl) rfl
theorem kw_fl_X6_31 : (Cond.fieldLink RX6 (31 : Nat) "RomSearchBusModel" "savedCount" "I") ∈ lw_g := lw_in3 (List.mem_of_getElem? (i := 66) rfl) rfl
theorem kw_fl_X6_19 : (Cond.fieldLink RX6 (19 : Nat) "RomSearchBusModel" "errors" "[I") ∈ lw_g := lw_in3 (List.mem_of_getElem? (i := 67) rfl) rfl
theorem kw_fl_X6_171 : (Cond.fieldLink RX6 (171 : Nat) "RomSearchBusModel" "cause" "I") ∈ lw_g := lw_in3 (List.mem_of_getElem? (i := 68) rfl) rfl
theorem kw_fl_X6_22 : (Cond.fieldLink RX6 (22 : Nat) "RomSearchBusModel" "text" "[I") ∈ lw_g := lw_in3 (List.mem_of_getElem? (i := 69) rfl) rfl
theorem kw_fl_X6_135 : (Cond.fieldLink RX6 (135 : Nat) "RomSearchBusModel" "typed" "I") ∈ lw_g := lw_in3 (List.mem_of_getElem? (i := 70) rfl) rfl
theorem kw_fl_X6_138 : (Cond.fieldLink RX6 (138 : Nat) "RomSearchBusModel" "at" "I") ∈ lw_g := lw_in3 (List.mem_of_getElem? (i := 71) rfl) rfl
theorem kw_fl_X6_141 : (Cond.fieldLink RX6 (141 : Nat) "RomSearchBusModel" "syntaxError" "I") ∈ lw_g := lw_in3 (List.mem_of_getElem? (i := 72) rfl) rfl
theorem kw_fl_X6_158 : (Cond.fieldLink RX6 (158 : Nat) "RomSearchBusModel" "commands" "I") ∈ lw_g := lw_in3 (List.mem_of_getElem? (i := 73) rfl) rfl
theorem kw_fl_X6_25 : (Cond.fieldLink RX6 (25 : Nat) "RomSearchBusModel" "letters" "[I") ∈ lw_g := lw_in3 (List.mem_of_getElem? (i := 74) rfl) rfl
theorem kw_fl_X6_28 : (Cond.fieldLink RX6 (28 : Nat) "RomSearchBusModel" "numbers" "[I") ∈ lw_g := lw_in3 (List.mem_of_getElem? (i := 75) rfl) rfl
theorem kw_fl_X6_176 : (Cond.fieldLink RX6 (176 : Nat) "RomSearchBusModel" "h" "J") ∈ lw_g := lw_in3 (List.mem_of_getElem? (i := 76) rfl) rfl
theorem kw_lay_X6_now : (Cond.laysFinal "RomSearchBusModel" "RomSearchBusModel" "now" "[I") ∈ lw_g := lw_in3 (List.mem_of_getElem? (i := 77) rfl) rfl
theorem kw_sole_X6_now : (Cond.soleField "RomSearchBusModel" "now") ∈ lw_g := lw_in3 (List.mem_of_getElem? (i := 78) rfl) rfl
theorem kw_lay_X6_before : (Cond.laysFinal "RomSearchBusModel" "RomSearchBusModel" "before" "[I") ∈ lw_g := lw_in3 (List.mem_of_getElem? (i := 79) rfl) rfl
theorem kw_sole_X6_before : (Cond.soleField "RomSearchBusModel" "before") ∈ lw_g := lw_in3 (List.mem_of_getElem? (i := 80) rfl) rfl
theorem kw_lay_X6_saved : (Cond.laysFinal "RomSearchBusModel" "RomSearchBusModel" "saved" "[I") ∈ lw_g := lw_in3 (List.mem_of_getElem? (i := 81) rfl) rfl
theorem kw_sole_X6_saved : (Cond.soleField "RomSearchBusModel" "saved") ∈ lw_g := lw_in3 (List.mem_of_getElem? (i := 82) rfl) rfl
theorem kw_lay_X6_savedCount : (Cond.lays "RomSearchBusModel" "RomSearchBusModel" "savedCount" "I") ∈ lw_g := lw_in3 (List.mem_of_getElem? (i := 83) rfl) rfl
theorem kw_sole_X6_savedCount : (Cond.soleField "RomSearchBusModel" "savedCount") ∈ lw_g := lw_in3 (List.mem_of_getElem? (i := 84) rfl) rfl
theorem kw_lay_X6_errors : (Cond.laysFinal "RomSearchBusModel" "RomSearchBusModel" "errors" "[I") ∈ lw_g := lw_in3 (List.mem_of_getElem? (i := 85) rfl) rfl
theorem kw_sole_X6_errors : (Cond.soleField "RomSearchBusModel" "errors") ∈ lw_g := lw_in3 (List.mem_of_getElem? (i := 86) rfl) rfl
theorem kw_lay_X6_cause : (Cond.lays "RomSearchBusModel" "RomSearchBusModel" "cause" "I") ∈ lw_g := lw_in3 (List.mem_of_getElem? (i := 87) rfl) rfl
theorem kw_sole_X6_cause : (Cond.soleField "RomSearchBusModel" "cause") ∈ lw_g := lw_in3 (List.mem_of_getElem? (i := 88) rfl) rfl
theorem kw_lay_X6_text : (Cond.laysFinal "RomSearchBusModel" "RomSearchBusModel" "text" "[I") ∈ lw_g := lw_in3 (List.mem_of_getElem? (i := 89) rfl) rfl
theorem kw_sole_X6_text : (Cond.soleField "RomSearchBusModel" "text") ∈ lw_g := lw_in3 (List.mem_of_getElem? (i := 90) rfl) rfl
theorem kw_lay_X6_typed : (Cond.lays "RomSearchBusModel" "RomSearchBusModel" "typed" "I") ∈ lw_g := lw_in3 (List.mem_of_getElem? (i := 91) rfl) rfl
theorem kw_sole_X6_typed : (Cond.soleField "RomSearchBusModel" "typed") ∈ lw_g := lw_in3 (List.mem_of_getElem? (i := 92) rfl) rfl
theorem kw_lay_X6_at : (Cond.lays "RomSearchBusModel" "RomSearchBusModel" "at" "I") ∈ lw_g := lw_in3 (List.mem_of_getElem? (i := 93) rfl) rfl
theorem kw_sole_X6_at : (Cond.soleField "RomSearchBusModel" "at") ∈ lw_g := lw_in3 (List.mem_of_getElem? (i := 94) rfl) rfl
theorem kw_lay_X6_syntaxError : (Cond.lays "RomSearchBusModel" "RomSearchBusModel" "syntaxError" "I") ∈ lw_g := lw_in3 (List.mem_of_getElem? (i := 95) rfl) rfl
theorem kw_sole_X6_syntaxError : (Cond.soleField "RomSearchBusModel" "syntaxError") ∈ lw_g := lw_in3 (List.mem_of_getElem? (i := 96) rfl) rfl
theorem kw_lay_X6_commands : (Cond.lays "RomSearchBusModel" "RomSearchBusModel" "commands" "I") ∈ lw_g := lw_in3 (List.mem_of_getElem? (i := 97) rfl) rfl
theorem kw_sole_X6_commands : (Cond.soleField "RomSearchBusModel" "commands") ∈ lw_g := lw_in3 (List.mem_of_getElem? (i := 98) rfl) rfl
theorem kw_lay_X6_letters : (Cond.laysFinal "RomSearchBusModel" "RomSearchBusModel" "letters" "[I") ∈ lw_g := lw_in3 (List.mem_of_getElem? (i := 99) rfl) rfl
theorem kw_sole_X6_letters : (Cond.soleField "RomSearchBusModel" "letters") ∈ lw_g := lw_in3 (List.mem_of_getElem? (i := 100) rfl) rfl
theorem kw_lay_X6_numbers : (Cond.laysFinal "RomSearchBusModel" "RomSearchBusModel" "numbers" "[I") ∈ lw_g := lw_in3 (List.mem_of_getElem? (i := 101) rfl) rfl
theorem kw_sole_X6_numbers : (Cond.soleField "RomSearchBusModel" "numbers") ∈ lw_g := lw_in3 (List.mem_of_getElem? (i := 102) rfl) rfl
theorem kw_lay_X6_h : (Cond.lays "RomSearchBusModel" "RomSearchBusModel" "h" "J") ∈ lw_g := lw_in3 (List.mem_of_getElem? (i := 103) rfl) rfl
theorem kw_sole_X6_h : (Cond.soleField "RomSearchBusModel" "h") ∈ lw_g := lw_in3 (List.mem_of_getElem? (i := 104) rfl) rfl
theorem kw_sup_X6 : (Cond.superclass "RomSearchBusModel" "java/lang/Object") ∈ lw_g := lw_in3 (List.mem_of_getElem? (i := 105) rfl) rfl
theorem kw_ml_L_120 : (Cond.methodLink RL (120 : Nat) yX6_undo) ∈ lw_g := lw_in3 (List.mem_of_getElem? (i := 106) rfl) rfl
theorem kw_im_X6_undo : (Cond.instanceMethod yX6_undo) ∈ lw_g := lw_in3 (List.mem_of_getElem? (i := 107) rfl) rfl
theorem kw_sel_X6_undo : (Cond.selects RX6 yX6_undo yX6_undo) ∈ lw_g := lw_in3 (List.mem_of_getElem? (i := 108) rfl) rfl
theorem kw_code_X6_undo : (Cond.code yX6_undo prog_8_method_9_code (2 : Nat) (Option.some FieldType.int)) ∈ lw_g := lw_in3 (List.mem_of_getElem? (i := 109) rfl) rfl
theorem kw_ml_X6_43 : (Cond.methodLink RX6 (43 : Nat) yX6_counted) ∈ lw_g := lw_in3 (List.mem_of_getElem? (i := 110) rfl) rfl
theorem kw_im_X6_counted : (Cond.instanceMethod yX6_counted) ∈ lw_g := lw_in3 (List.mem_of_getElem? (i := 112) rfl) rfl
theorem kw_code_X6_counted : (Cond.code yX6_counted prog_8_method_3_code (2 : Nat) (Option.some FieldType.int)) ∈ lw_g := lw_in3 (List.mem_of_getElem? (i := 113) rfl) rfl
theorem kw_ml_L_44 : (Cond.methodLink RL (44 : Nat) yX6_crc) ∈ lw_g := lw_in3 (List.mem_of_getElem? (i := 114) rfl) rfl
theorem kw_im_X6_crc : (Cond.instanceMethod yX6_crc) ∈ lw_g := lw_in3 (List.mem_of_getElem? (i := 115) rfl) rfl
theorem kw_sel_X6_crc : (Cond.selects RX6 yX6_crc yX6_crc) ∈ lw_g := lw_in3 (List.mem_of_getElem? (i := 116) rfl) rfl
theorem kw_code_X6_crc : (Cond.code yX6_crc prog_8_method_11_code (2 : Nat) (Option.some FieldType.int)) ∈ lw_g := lw_in3 (List.mem_of_getElem? (i := 117) rfl) rfl
theorem kw_ml_X6_35 : (Cond.methodLink RX6 (35 : Nat) yX6_in) ∈ lw_g := lw_in3 (List.mem_of_getElem? (i := 118) rfl) rfl
theorem kw_st_X6_in : (Cond.static yX6_in) ∈ lw_g := lw_in3 (List.mem_of_getElem? (i := 119) rfl) rfl
theorem kw_code_X6_in : (Cond.code yX6_in prog_8_method_2_code (3 : Nat) (Option.some FieldType.boolean)) ∈ lw_g := lw_in3 (List.mem_of_getElem? (i := 120) rfl) rfl
theorem kw_ml_X6_50 : (Cond.methodLink RX6 (50 : Nat) yX6_crcOf) ∈ lw_g := lw_in3 (List.mem_of_getElem? (i := 121) rfl) rfl
theorem kw_st_X6_crcOf : (Cond.static yX6_crcOf) ∈ lw_g := lw_in3 (List.mem_of_getElem? (i := 122) rfl) rfl
theorem kw_code_X6_crcOf : (Cond.code yX6_crcOf prog_8_method_10_code (4 : Nat) (Option.some FieldType.int)) ∈ lw_g := lw_in3 (List.mem_of_getElem? (i := 123) rfl) rfl
theorem kw_ml_L_17 : (Cond.methodLink RL (17 : Nat) yX6_addDevice) ∈ lw_g := lw_in3 (List.mem_of_getElem? (i := 124) rfl) rfl
theorem kw_im_X6_addDevice : (Cond.instanceMethod yX6_addDevice) ∈ lw_g := lw_in3 (List.mem_of_getElem? (i := 125) rfl) rfl
theorem kw_sel_X6_addDevice : (Cond.selects RX6 yX6_addDevice yX6_addDevice) ∈ lw_g := lw_in3 (List.mem_of_getElem? (i := 126) rfl) rfl
theorem kw_code_X6_addDevice : (Cond.code yX6_addDevice prog_8_method_20_code (3 : Nat) (Option.some FieldType.int)) ∈ lw_g := lw_in3 (List.mem_of_getElem? (i := 127) rfl) rfl
theorem kw_ml_X6_66 : (Cond.methodLink RX6 (66 : Nat) yX6_remember) ∈ lw_g := lw_in3 (List.mem_of_getElem? (i := 128) rfl) rfl
theorem kw_im_X6_remember : (Cond.instanceMethod yX6_remember) ∈ lw_g := lw_in3 (List.mem_of_getElem? (i := 130) rfl) rfl
theorem kw_code_X6_remember : (Cond.code yX6_remember prog_8_method_4_code (2 : Nat) (Option.none : Option Jvm.ClassFile.FieldType)) ∈ lw_g := lw_in3 (List.mem_of_getElem? (i := 131) rfl) rfl
theorem kw_ml_X6_69 : (Cond.methodLink RX6 (69 : Nat) yX6_doAdd) ∈ lw_g := lw_in3 (List.mem_of_getElem? (i := 132) rfl) rfl
theorem kw_im_X6_doAdd : (Cond.instanceMethod yX6_doAdd) ∈ lw_g := lw_in3 (List.mem_of_getElem? (i := 134) rfl) rfl
theorem kw_code_X6_doAdd : (Cond.code yX6_doAdd prog_8_method_16_code (6 : Nat) (Option.some FieldType.int)) ∈ lw_g := lw_in3 (List.mem_of_getElem? (i := 135) rfl) rfl
theorem kw_ml_X6_53 : (Cond.methodLink RX6 (53 : Nat) yX6_of) ∈ lw_g := lw_in3 (List.mem_of_getElem? (i := 136) rfl) rfl
theorem kw_im_X6_of : (Cond.instanceMethod yX6_of) ∈ lw_g := lw_in3 (List.mem_of_getElem? (i := 138) rfl) rfl
theorem kw_code_X6_of : (Cond.code yX6_of prog_8_method_13_code (3 : Nat) (Option.some FieldType.int)) ∈ lw_g := lw_in3 (List.mem_of_getElem? (i := 139) rfl) rfl
theorem kw_ml_X6_72 : (Cond.methodLink RX6 (72 : Nat) yX6_finish) ∈ lw_g := lw_in3 (List.mem_of_getElem? (i := 140) rfl) rfl
theorem kw_im_X6_finish : (Cond.instanceMethod yX6_finish) ∈ lw_g := lw_in3 (List.mem_of_getElem? (i := 142) rfl) rfl
theorem kw_code_X6_finish : (Cond.code yX6_finish prog_8_method_8_code (2 : Nat) (Option.some FieldType.int)) ∈ lw_g := lw_in3 (List.mem_of_getElem? (i := 143) rfl) rfl
theorem kw_ml_X6_39 : (Cond.methodLink RX6 (39 : Nat) yX6_isError) ∈ lw_g := lw_in3 (List.mem_of_getElem? (i := 144) rfl) rfl
theorem kw_st_X6_isError : (Cond.static yX6_isError) ∈ lw_g := lw_in3 (List.mem_of_getElem? (i := 145) rfl) rfl
theorem kw_code_X6_isError : (Cond.code yX6_isError prog_8_method_7_code (1 : Nat) (Option.some FieldType.boolean)) ∈ lw_g := lw_in3 (List.mem_of_getElem? (i := 146) rfl) rfl
theorem kw_ml_X6_47 : (Cond.methodLink RX6 (47 : Nat) yX6_save) ∈ lw_g := lw_in3 (List.mem_of_getElem? (i := 147) rfl) rfl
theorem kw_im_X6_save : (Cond.instanceMethod yX6_save) ∈ lw_g := lw_in3 (List.mem_of_getElem? (i := 149) rfl) rfl
theorem kw_code_X6_save : (Cond.code yX6_save prog_8_method_6_code (2 : Nat) (Option.none : Option Jvm.ClassFile.FieldType)) ∈ lw_g := lw_in3 (List.mem_of_getElem? (i := 150) rfl) rfl
theorem kw_ml_L_22 : (Cond.methodLink RL (22 : Nat) yX6_removeDevice) ∈ lw_g := lw_in3 (List.mem_of_getElem? (i := 151) rfl) rfl
theorem kw_im_X6_removeDevice : (Cond.instanceMethod yX6_removeDevice) ∈ lw_g := lw_in3 (List.mem_of_getElem? (i := 152) rfl) rfl
theorem kw_sel_X6_removeDevice : (Cond.selects RX6 yX6_removeDevice yX6_removeDevice) ∈ lw_g := lw_in3 (List.mem_of_getElem? (i := 153) rfl) rfl
theorem kw_code_X6_removeDevice : (Cond.code yX6_removeDevice prog_8_method_21_code (2 : Nat) (Option.some FieldType.int)) ∈ lw_g := lw_in3 (List.mem_of_getElem? (i := 154) rfl) rfl
theorem kw_ml_X6_75 : (Cond.methodLink RX6 (75 : Nat) yX6_doRemove) ∈ lw_g := lw_in3 (List.mem_of_getElem? (i := 155) rfl) rfl
theorem kw_im_X6_doRemove : (Cond.instanceMethod yX6_doRemove) ∈ lw_g := lw_in3 (List.mem_of_getElem? (i := 157) rfl) rfl
theorem kw_code_X6_doRemove : (Cond.code yX6_doRemove prog_8_method_17_code (3 : Nat) (Option.some FieldType.int)) ∈ lw_g := lw_in3 (List.mem_of_getElem? (i := 158) rfl) rfl
theorem kw_ml_X6_60 : (Cond.methodLink RX6 (60 : Nat) yX6_isDevice) ∈ lw_g := lw_in3 (List.mem_of_getElem? (i := 159) rfl) rfl
theorem kw_im_X6_isDevice : (Cond.instanceMethod yX6_isDevice) ∈ lw_g := lw_in3 (List.mem_of_getElem? (i := 161) rfl) rfl
theorem kw_code_X6_isDevice : (Cond.code yX6_isDevice prog_8_method_12_code (2 : Nat) (Option.some FieldType.boolean)) ∈ lw_g := lw_in3 (List.mem_of_getElem? (i := 162) rfl) rfl
theorem kw_ml_L_26 : (Cond.methodLink RL (26 : Nat) yX6_setReading) ∈ lw_g := lw_in3 (List.mem_of_getElem? (i := 163) rfl) rfl
theorem kw_im_X6_setReading : (Cond.instanceMethod yX6_setReading) ∈ lw_g := lw_in3 (List.mem_of_getElem? (i := 164) rfl) rfl
theorem kw_sel_X6_setReading : (Cond.selects RX6 yX6_setReading yX6_setReading) ∈ lw_g := lw_in3 (List.mem_of_getElem? (i := 165) rfl) rfl
theorem kw_code_X6_setReading : (Cond.code yX6_setReading prog_8_method_22_code (3 : Nat) (Option.some FieldType.int)) ∈ lw_g := lw_in3 (List.mem_of_getElem? (i := 166) rfl) rfl
theorem kw_ml_X6_78 : (Cond.methodLink RX6 (78 : Nat) yX6_doReading) ∈ lw_g := lw_in3 (List.mem_of_getElem? (i := 167) rfl) rfl
theorem kw_im_X6_doReading : (Cond.instanceMethod yX6_doReading) ∈ lw_g := lw_in3 (List.mem_of_getElem? (i := 169) rfl) rfl
theorem kw_code_X6_doReading : (Cond.code yX6_doReading prog_8_method_18_code (3 : Nat) (Option.some FieldType.int)) ∈ lw_g := lw_in3 (List.mem_of_getElem? (i := 170) rfl) rfl
theorem kw_ml_X6_63 : (Cond.methodLink RX6 (63 : Nat) yX6_alarmed) ∈ lw_g := lw_in3 (List.mem_of_getElem? (i := 171) rfl) rfl
theorem kw_im_X6_alarmed : (Cond.instanceMethod yX6_alarmed) ∈ lw_g := lw_in3 (List.mem_of_getElem? (i := 173) rfl) rfl
theorem kw_code_X6_alarmed : (Cond.code yX6_alarmed prog_8_method_15_code (4 : Nat) (Option.some FieldType.int)) ∈ lw_g := lw_in3 (List.mem_of_getElem? (i := 174) rfl) rfl
theorem kw_ml_X6_57 : (Cond.methodLink RX6 (57 : Nat) yX6_magnitude) ∈ lw_g := lw_in3 (List.mem_of_getElem? (i := 175) rfl) rfl
theorem kw_st_X6_magnitude : (Cond.static yX6_magnitude) ∈ lw_g := lw_in3 (List.mem_of_getElem? (i := 176) rfl) rfl
theorem kw_code_X6_magnitude : (Cond.code yX6_magnitude prog_8_method_14_code (1 : Nat) (Option.some FieldType.int)) ∈ lw_g := lw_in3 (List.mem_of_getElem? (i := 177) rfl) rfl
theorem kw_ml_L_31 : (Cond.methodLink RL (31 : Nat) yX6_setAlarm) ∈ lw_g := lw_in3 (List.mem_of_getElem? (i := 178) rfl) rfl
theorem kw_im_X6_setAlarm : (Cond.instanceMethod yX6_setAlarm) ∈ lw_g := lw_in3 (List.mem_of_getElem? (i := 179) rfl) rfl
theorem kw_sel_X6_setAlarm : (Cond.selects RX6 yX6_setAlarm yX6_setAlarm) ∈ lw_g := lw_in3 (List.mem_of_getElem? (i := 180) rfl) rfl
theorem kw_code_X6_setAlarm : (Cond.code yX6_setAlarm prog_8_method_23_code (4 : Nat) (Option.some FieldType.int)) ∈ lw_g := lw_in3 (List.mem_of_getElem? (i := 181) rfl) rfl
theorem kw_ml_X6_81 : (Cond.methodLink RX6 (81 : Nat) yX6_doAlarm) ∈ lw_g := lw_in3 (List.mem_of_getElem? (i := 182) rfl) rfl
theorem kw_im_X6_doAlarm : (Cond.instanceMethod yX6_doAlarm) ∈ lw_g := lw_in3 (List.mem_of_getElem? (i := 184) rfl) rfl
theorem kw_code_X6_doAlarm : (Cond.code yX6_doAlarm prog_8_method_19_code (4 : Nat) (Option.some FieldType.int)) ∈ lw_g := lw_in3 (List.mem_of_getElem? (i := 185) rfl) rfl
theorem kw_ml_L_35 : (Cond.methodLink RL (35 : Nat) yX6_romCode) ∈ lw_g := lw_in3 (List.mem_of_getElem? (i := 186) rfl) rfl
theorem kw_im_X6_romCode : (Cond.instanceMethod yX6_romCode) ∈ lw_g := lw_in3 (List.mem_of_getElem? (i := 187) rfl) rfl
theorem kw_sel_X6_romCode : (Cond.selects RX6 yX6_romCode yX6_romCode) ∈ lw_g := lw_in3 (List.mem_of_getElem? (i := 188) rfl) rfl
theorem kw_code_X6_romCode : (Cond.code yX6_romCode prog_8_method_24_code (2 : Nat) (Option.some FieldType.int)) ∈ lw_g := lw_in3 (List.mem_of_getElem? (i := 189) rfl) rfl
theorem kw_ml_L_40 : (Cond.methodLink RL (40 : Nat) yX6_alarmedDevices) ∈ lw_g := lw_in3 (List.mem_of_getElem? (i := 190) rfl) rfl
theorem kw_im_X6_alarmedDevices : (Cond.instanceMethod yX6_alarmedDevices) ∈ lw_g := lw_in3 (List.mem_of_getElem? (i := 191) rfl) rfl
theorem kw_sel_X6_alarmedDevices : (Cond.selects RX6 yX6_alarmedDevices yX6_alarmedDevices) ∈ lw_g := lw_in3 (List.mem_of_getElem? (i := 192) rfl) rfl
theorem kw_code_X6_alarmedDevices : (Cond.code yX6_alarmedDevices prog_8_method_26_code (1 : Nat) (Option.some FieldType.int)) ∈ lw_g := lw_in3 (List.mem_of_getElem? (i := 193) rfl) rfl
theorem kw_ml_X6_85 : (Cond.methodLink RX6 (85 : Nat) yX6_alarms) ∈ lw_g := lw_in3 (List.mem_of_getElem? (i := 194) rfl) rfl
theorem kw_im_X6_alarms : (Cond.instanceMethod yX6_alarms) ∈ lw_g := lw_in3 (List.mem_of_getElem? (i := 196) rfl) rfl
theorem kw_code_X6_alarms : (Cond.code yX6_alarms prog_8_method_25_code (3 : Nat) (Option.some FieldType.int)) ∈ lw_g := lw_in3 (List.mem_of_getElem? (i := 197) rfl) rfl
theorem kw_ml_L_48 : (Cond.methodLink RL (48 : Nat) yX6_setMode) ∈ lw_g := lw_in3 (List.mem_of_getElem? (i := 198) rfl) rfl
theorem kw_im_X6_setMode : (Cond.instanceMethod yX6_setMode) ∈ lw_g := lw_in3 (List.mem_of_getElem? (i := 199) rfl) rfl
theorem kw_sel_X6_setMode : (Cond.selects RX6 yX6_setMode yX6_setMode) ∈ lw_g := lw_in3 (List.mem_of_getElem? (i := 200) rfl) rfl
theorem kw_code_X6_setMode : (Cond.code yX6_setMode prog_8_method_39_code (2 : Nat) (Option.some FieldType.int)) ∈ lw_g := lw_in3 (List.mem_of_getElem? (i := 201) rfl) rfl
theorem kw_ml_X6_108 : (Cond.methodLink RX6 (108 : Nat) yX6_doMode) ∈ lw_g := lw_in3 (List.mem_of_getElem? (i := 202) rfl) rfl
theorem kw_im_X6_doMode : (Cond.instanceMethod yX6_doMode) ∈ lw_g := lw_in3 (List.mem_of_getElem? (i := 204) rfl) rfl
theorem kw_code_X6_doMode : (Cond.code yX6_doMode prog_8_method_34_code (3 : Nat) (Option.some FieldType.int)) ∈ lw_g := lw_in3 (List.mem_of_getElem? (i := 205) rfl) rfl
theorem kw_ml_X6_89 : (Cond.methodLink RX6 (89 : Nat) yX6_reset) ∈ lw_g := lw_in3 (List.mem_of_getElem? (i := 206) rfl) rfl
theorem kw_im_X6_reset : (Cond.instanceMethod yX6_reset) ∈ lw_g := lw_in3 (List.mem_of_getElem? (i := 208) rfl) rfl
theorem kw_code_X6_reset : (Cond.code yX6_reset prog_8_method_27_code (1 : Nat) (Option.none : Option Jvm.ClassFile.FieldType)) ∈ lw_g := lw_in3 (List.mem_of_getElem? (i := 209) rfl) rfl
theorem kw_ml_L_52 : (Cond.methodLink RL (52 : Nat) yX6_resetSearch) ∈ lw_g := lw_in3 (List.mem_of_getElem? (i := 210) rfl) rfl
theorem kw_im_X6_resetSearch : (Cond.instanceMethod yX6_resetSearch) ∈ lw_g := lw_in3 (List.mem_of_getElem? (i := 211) rfl) rfl
theorem kw_sel_X6_resetSearch : (Cond.selects RX6 yX6_resetSearch yX6_resetSearch) ∈ lw_g := lw_in3 (List.mem_of_getElem? (i := 212) rfl) rfl
theorem kw_code_X6_resetSearch : (Cond.code yX6_resetSearch prog_8_method_40_code (1 : Nat) (Option.some FieldType.int)) ∈ lw_g := lw_in3 (List.mem_of_getElem? (i := 213) rfl) rfl
theorem kw_ml_X6_111 : (Cond.methodLink RX6 (111 : Nat) yX6_doReset) ∈ lw_g := lw_in3 (List.mem_of_getElem? (i := 214) rfl) rfl
theorem kw_im_X6_doReset : (Cond.instanceMethod yX6_doReset) ∈ lw_g := lw_in3 (List.mem_of_getElem? (i := 216) rfl) rfl
theorem kw_code_X6_doReset : (Cond.code yX6_doReset prog_8_method_35_code (2 : Nat) (Option.some FieldType.int)) ∈ lw_g := lw_in3 (List.mem_of_getElem? (i := 217) rfl) rfl
theorem kw_ml_L_56 : (Cond.methodLink RL (56 : Nat) yX6_next) ∈ lw_g := lw_in3 (List.mem_of_getElem? (i := 218) rfl) rfl
theorem kw_im_X6_next : (Cond.instanceMethod yX6_next) ∈ lw_g := lw_in3 (List.mem_of_getElem? (i := 219) rfl) rfl
theorem kw_sel_X6_next : (Cond.selects RX6 yX6_next yX6_next) ∈ lw_g := lw_in3 (List.mem_of_getElem? (i := 220) rfl) rfl
theorem kw_code_X6_next : (Cond.code yX6_next prog_8_method_41_code (2 : Nat) (Option.some FieldType.int)) ∈ lw_g := lw_in3 (List.mem_of_getElem? (i := 221) rfl) rfl
theorem kw_ml_X6_114 : (Cond.methodLink RX6 (114 : Nat) yX6_pass) ∈ lw_g := lw_in3 (List.mem_of_getElem? (i := 222) rfl) rfl
theorem kw_im_X6_pass : (Cond.instanceMethod yX6_pass) ∈ lw_g := lw_in3 (List.mem_of_getElem? (i := 224) rfl) rfl
theorem kw_code_X6_pass : (Cond.code yX6_pass prog_8_method_33_code (8 : Nat) (Option.some FieldType.int)) ∈ lw_g := lw_in3 (List.mem_of_getElem? (i := 225) rfl) rfl
theorem kw_ml_X6_92 : (Cond.methodLink RX6 (92 : Nat) yX6_fail) ∈ lw_g := lw_in3 (List.mem_of_getElem? (i := 226) rfl) rfl
theorem kw_im_X6_fail : (Cond.instanceMethod yX6_fail) ∈ lw_g := lw_in3 (List.mem_of_getElem? (i := 228) rfl) rfl
theorem kw_code_X6_fail : (Cond.code yX6_fail prog_8_method_28_code (2 : Nat) (Option.some FieldType.int)) ∈ lw_g := lw_in3 (List.mem_of_getElem? (i := 229) rfl) rfl
theorem kw_ml_X6_95 : (Cond.methodLink RX6 (95 : Nat) yX6_wiredAnd) ∈ lw_g := lw_in3 (List.mem_of_getElem? (i := 230) rfl) rfl
theorem kw_im_X6_wiredAnd : (Cond.instanceMethod yX6_wiredAnd) ∈ lw_g := lw_in3 (List.mem_of_getElem? (i := 232) rfl) rfl
theorem kw_code_X6_wiredAnd : (Cond.code yX6_wiredAnd prog_8_method_30_code (6 : Nat) (Option.some FieldType.int)) ∈ lw_g := lw_in3 (List.mem_of_getElem? (i := 233) rfl) rfl
theorem kw_ml_X6_98 : (Cond.methodLink RX6 (98 : Nat) yX6_noisy) ∈ lw_g := lw_in3 (List.mem_of_getElem? (i := 234) rfl) rfl
theorem kw_im_X6_noisy : (Cond.instanceMethod yX6_noisy) ∈ lw_g := lw_in3 (List.mem_of_getElem? (i := 236) rfl) rfl
theorem kw_code_X6_noisy : (Cond.code yX6_noisy prog_8_method_29_code (3 : Nat) (Option.some FieldType.int)) ∈ lw_g := lw_in3 (List.mem_of_getElem? (i := 237) rfl) rfl
theorem kw_ml_X6_101 : (Cond.methodLink RX6 (101 : Nat) yX6_direction) ∈ lw_g := lw_in3 (List.mem_of_getElem? (i := 238) rfl) rfl
theorem kw_im_X6_direction : (Cond.instanceMethod yX6_direction) ∈ lw_g := lw_in4 (List.mem_of_getElem? (i := 0) rfl) rfl
theorem kw_code_X6_direction : (Cond.code yX6_direction prog_8_method_31_code (4 : Nat) (Option.some FieldType.int)) ∈ lw_g := lw_in4 (List.mem_of_getElem? (i := 1) rfl) rfl
theorem kw_ml_X6_104 : (Cond.methodLink RX6 (104 : Nat) yX6_note) ∈ lw_g := lw_in4 (List.mem_of_getElem? (i := 2) rfl) rfl
theorem kw_im_X6_note : (Cond.instanceMethod yX6_note) ∈ lw_g := lw_in4 (List.mem_of_getElem? (i := 4) rfl) rfl
theorem kw_code_X6_note : (Cond.code yX6_note prog_8_method_32_code (4 : Nat) (Option.none : Option Jvm.ClassFile.FieldType)) ∈ lw_g := lw_in4 (List.mem_of_getElem? (i := 5) rfl) rfl
theorem kw_ml_L_60 : (Cond.methodLink RL (60 : Nat) yX6_skipFamily) ∈ lw_g := lw_in4 (List.mem_of_getElem? (i := 6) rfl) rfl
theorem kw_im_X6_skipFamily : (Cond.instanceMethod yX6_skipFamily) ∈ lw_g := lw_in4 (List.mem_of_getElem? (i := 7) rfl) rfl
theorem kw_sel_X6_skipFamily : (Cond.selects RX6 yX6_skipFamily yX6_skipFamily) ∈ lw_g := lw_in4 (List.mem_of_getElem? (i := 8) rfl) rfl
theorem kw_code_X6_skipFamily : (Cond.code yX6_skipFamily prog_8_method_42_code (1 : Nat) (Option.some FieldType.int)) ∈ lw_g := lw_in4 (List.mem_of_getElem? (i := 9) rfl) rfl
theorem kw_ml_X6_117 : (Cond.methodLink RX6 (117 : Nat) yX6_doSkip) ∈ lw_g := lw_in4 (List.mem_of_getElem? (i := 10) rfl) rfl
theorem kw_im_X6_doSkip : (Cond.instanceMethod yX6_doSkip) ∈ lw_g := lw_in4 (List.mem_of_getElem? (i := 12) rfl) rfl
theorem kw_code_X6_doSkip : (Cond.code yX6_doSkip prog_8_method_36_code (1 : Nat) (Option.some FieldType.int)) ∈ lw_g := lw_in4 (List.mem_of_getElem? (i := 13) rfl) rfl
theorem kw_ml_L_64 : (Cond.methodLink RL (64 : Nat) yX6_targetFamily) ∈ lw_g := lw_in4 (List.mem_of_getElem? (i := 14) rfl) rfl
theorem kw_im_X6_targetFamily : (Cond.instanceMethod yX6_targetFamily) ∈ lw_g := lw_in4 (List.mem_of_getElem? (i := 15) rfl) rfl
theorem kw_sel_X6_targetFamily : (Cond.selects RX6 yX6_targetFamily yX6_targetFamily) ∈ lw_g := lw_in4 (List.mem_of_getElem? (i := 16) rfl) rfl
theorem kw_code_X6_targetFamily : (Cond.code yX6_targetFamily prog_8_method_43_code (2 : Nat) (Option.some FieldType.int)) ∈ lw_g := lw_in4 (List.mem_of_getElem? (i := 17) rfl) rfl
theorem kw_ml_X6_120 : (Cond.methodLink RX6 (120 : Nat) yX6_doTarget) ∈ lw_g := lw_in4 (List.mem_of_getElem? (i := 18) rfl) rfl
theorem kw_im_X6_doTarget : (Cond.instanceMethod yX6_doTarget) ∈ lw_g := lw_in4 (List.mem_of_getElem? (i := 20) rfl) rfl
theorem kw_code_X6_doTarget : (Cond.code yX6_doTarget prog_8_method_37_code (2 : Nat) (Option.some FieldType.int)) ∈ lw_g := lw_in4 (List.mem_of_getElem? (i := 21) rfl) rfl
theorem kw_ml_L_68 : (Cond.methodLink RL (68 : Nat) yX6_setNoise) ∈ lw_g := lw_in4 (List.mem_of_getElem? (i := 22) rfl) rfl
theorem kw_im_X6_setNoise : (Cond.instanceMethod yX6_setNoise) ∈ lw_g := lw_in4 (List.mem_of_getElem? (i := 23) rfl) rfl
theorem kw_sel_X6_setNoise : (Cond.selects RX6 yX6_setNoise yX6_setNoise) ∈ lw_g := lw_in4 (List.mem_of_getElem? (i := 24) rfl) rfl
theorem kw_code_X6_setNoise : (Cond.code yX6_setNoise prog_8_method_44_code (2 : Nat) (Option.some FieldType.int)) ∈ lw_g := lw_in4 (List.mem_of_getElem? (i := 25) rfl) rfl
theorem kw_ml_X6_123 : (Cond.methodLink RX6 (123 : Nat) yX6_doNoise) ∈ lw_g := lw_in4 (List.mem_of_getElem? (i := 26) rfl) rfl
theorem kw_im_X6_doNoise : (Cond.instanceMethod yX6_doNoise) ∈ lw_g := lw_in4 (List.mem_of_getElem? (i := 28) rfl) rfl
theorem kw_code_X6_doNoise : (Cond.code yX6_doNoise prog_8_method_38_code (3 : Nat) (Option.some FieldType.int)) ∈ lw_g := lw_in4 (List.mem_of_getElem? (i := 29) rfl) rfl
theorem kw_ml_L_72 : (Cond.methodLink RL (72 : Nat) yX6_countAhead) ∈ lw_g := lw_in4 (List.mem_of_getElem? (i := 30) rfl) rfl
theorem kw_im_X6_countAhead : (Cond.instanceMethod yX6_countAhead) ∈ lw_g := lw_in4 (List.mem_of_getElem? (i := 31) rfl) rfl
theorem kw_sel_X6_countAhead : (Cond.selects RX6 yX6_countAhead yX6_countAhead) ∈ lw_g := lw_in4 (List.mem_of_getElem? (i := 32) rfl) rfl
theorem kw_code_X6_countAhead : (Cond.code yX6_countAhead prog_8_method_45_code (2 : Nat) (Option.some FieldType.int)) ∈ lw_g := lw_in4 (List.mem_of_getElem? (i := 33) rfl) rfl
theorem kw_ml_X6_126 : (Cond.methodLink RX6 (126 : Nat) yX6_restore) ∈ lw_g := lw_in4 (List.mem_of_getElem? (i := 34) rfl) rfl
theorem kw_im_X6_restore : (Cond.instanceMethod yX6_restore) ∈ lw_g := lw_in4 (List.mem_of_getElem? (i := 36) rfl) rfl
theorem kw_code_X6_restore : (Cond.code yX6_restore prog_8_method_5_code (2 : Nat) (Option.none : Option Jvm.ClassFile.FieldType)) ∈ lw_g := lw_in4 (List.mem_of_getElem? (i := 37) rfl) rfl
theorem kw_ml_L_76 : (Cond.methodLink RL (76 : Nat) yX6_currentRom) ∈ lw_g := lw_in4 (List.mem_of_getElem? (i := 38) rfl) rfl
theorem kw_im_X6_currentRom : (Cond.instanceMethod yX6_currentRom) ∈ lw_g := lw_in4 (List.mem_of_getElem? (i := 39) rfl) rfl
theorem kw_sel_X6_currentRom : (Cond.selects RX6 yX6_currentRom yX6_currentRom) ∈ lw_g := lw_in4 (List.mem_of_getElem? (i := 40) rfl) rfl
theorem kw_code_X6_currentRom : (Cond.code yX6_currentRom prog_8_method_46_code (1 : Nat) (Option.some FieldType.int)) ∈ lw_g := lw_in4 (List.mem_of_getElem? (i := 41) rfl) rfl
theorem kw_ml_L_80 : (Cond.methodLink RL (80 : Nat) yX6_lastDiscrepancy) ∈ lw_g := lw_in4 (List.mem_of_getElem? (i := 42) rfl) rfl
theorem kw_im_X6_lastDiscrepancy : (Cond.instanceMethod yX6_lastDiscrepancy) ∈ lw_g := lw_in4 (List.mem_of_getElem? (i := 43) rfl) rfl
theorem kw_sel_X6_lastDiscrepancy : (Cond.selects RX6 yX6_lastDiscrepancy yX6_lastDiscrepancy) ∈ lw_g := lw_in4 (List.mem_of_getElem? (i := 44) rfl) rfl
theorem kw_code_X6_lastDiscrepancy : (Cond.code yX6_lastDiscrepancy prog_8_method_47_code (1 : Nat) (Option.some FieldType.int)) ∈ lw_g := lw_in4 (List.mem_of_getElem? (i := 45) rfl) rfl
theorem kw_ml_L_84 : (Cond.methodLink RL (84 : Nat) yX6_lastFamilyDiscrepancy) ∈ lw_g := lw_in4 (List.mem_of_getElem? (i := 46) rfl) rfl
theorem kw_im_X6_lastFamilyDiscrepancy : (Cond.instanceMethod yX6_lastFamilyDiscrepancy) ∈ lw_g := lw_in4 (List.mem_of_getElem? (i := 47) rfl) rfl
theorem kw_sel_X6_lastFamilyDiscrepancy : (Cond.selects RX6 yX6_lastFamilyDiscrepancy yX6_lastFamilyDiscrepancy) ∈ lw_g := lw_in4 (List.mem_of_getElem? (i := 48) rfl) rfl
theorem kw_code_X6_lastFamilyDiscrepancy : (Cond.code yX6_lastFamilyDiscrepancy prog_8_method_48_code (1 : Nat) (Option.some FieldType.int)) ∈ lw_g := lw_in4 (List.mem_of_getElem? (i := 49) rfl) rfl
theorem kw_ml_L_88 : (Cond.methodLink RL (88 : Nat) yX6_isLastDevice) ∈ lw_g := lw_in4 (List.mem_of_getElem? (i := 50) rfl) rfl
theorem kw_im_X6_isLastDevice : (Cond.instanceMethod yX6_isLastDevice) ∈ lw_g := lw_in4 (List.mem_of_getElem? (i := 51) rfl) rfl
theorem kw_sel_X6_isLastDevice : (Cond.selects RX6 yX6_isLastDevice yX6_isLastDevice) ∈ lw_g := lw_in4 (List.mem_of_getElem? (i := 52) rfl) rfl
theorem kw_code_X6_isLastDevice : (Cond.code yX6_isLastDevice prog_8_method_49_code (1 : Nat) (Option.some FieldType.int)) ∈ lw_g := lw_in4 (List.mem_of_getElem? (i := 53) rfl) rfl
theorem kw_ml_L_92 : (Cond.methodLink RL (92 : Nat) yX6_slotsUsed) ∈ lw_g := lw_in4 (List.mem_of_getElem? (i := 54) rfl) rfl
theorem kw_im_X6_slotsUsed : (Cond.instanceMethod yX6_slotsUsed) ∈ lw_g := lw_in4 (List.mem_of_getElem? (i := 55) rfl) rfl
theorem kw_sel_X6_slotsUsed : (Cond.selects RX6 yX6_slotsUsed yX6_slotsUsed) ∈ lw_g := lw_in4 (List.mem_of_getElem? (i := 56) rfl) rfl
theorem kw_code_X6_slotsUsed : (Cond.code yX6_slotsUsed prog_8_method_50_code (1 : Nat) (Option.some FieldType.int)) ∈ lw_g := lw_in4 (List.mem_of_getElem? (i := 57) rfl) rfl
theorem kw_ml_L_96 : (Cond.methodLink RL (96 : Nat) yX6_found) ∈ lw_g := lw_in4 (List.mem_of_getElem? (i := 58) rfl) rfl
theorem kw_im_X6_found : (Cond.instanceMethod yX6_found) ∈ lw_g := lw_in4 (List.mem_of_getElem? (i := 59) rfl) rfl
theorem kw_sel_X6_found : (Cond.selects RX6 yX6_found yX6_found) ∈ lw_g := lw_in4 (List.mem_of_getElem? (i := 60) rfl) rfl
theorem kw_code_X6_found : (Cond.code yX6_found prog_8_method_51_code (2 : Nat) (Option.some FieldType.int)) ∈ lw_g := lw_in4 (List.mem_of_getElem? (i := 61) rfl) rfl
theorem kw_ml_L_100 : (Cond.methodLink RL (100 : Nat) yX6_familyShareBits) ∈ lw_g := lw_in4 (List.mem_of_getElem? (i := 62) rfl) rfl
theorem kw_im_X6_familyShareBits : (Cond.instanceMethod yX6_familyShareBits) ∈ lw_g := lw_in4 (List.mem_of_getElem? (i := 63) rfl) rfl
theorem kw_sel_X6_familyShareBits : (Cond.selects RX6 yX6_familyShareBits yX6_familyShareBits) ∈ lw_g := lw_in4 (List.mem_of_getElem? (i := 64) rfl) rfl
theorem kw_code_X6_familyShareBits : (Cond.code yX6_familyShareBits prog_8_method_52_code (4 : Nat) (Option.some FieldType.int)) ∈ lw_g := lw_in4 (List.mem_of_getElem? (i := 65) rfl) rfl
theorem kw_ml_X6_129 : (Cond.methodLink RX6 (129 : Nat) yJxf58ca_floatToIntBits_5c35a) ∈ lw_g := lw_in4 (List.mem_of_getElem? (i := 66) rfl) rfl
theorem kw_st_Jxf58ca_floatToIntBits_5c35a : (Cond.static yJxf58ca_floatToIntBits_5c35a) ∈ lw_g := lw_in4 (List.mem_of_getElem? (i := 67) rfl) rfl
theorem kw_code_Jxf58ca_floatToIntBits_5c35a : (Cond.code yJxf58ca_floatToIntBits_5c35a prog_9_method_24_code (1 : Nat) (Option.some FieldType.int)) ∈ lw_g := lw_in4 (List.mem_of_getElem? (i := 68) rfl) rfl
theorem kw_ml_Jxf58ca_59 : (Cond.methodLink RJxf58ca (59 : Nat) yJxf58ca_isNaN_12338) ∈ lw_g := lw_in4 (List.mem_of_getElem? (i := 69) rfl) rfl
theorem kw_st_Jxf58ca_isNaN_12338 : (Cond.static yJxf58ca_isNaN_12338) ∈ lw_g := lw_in4 (List.mem_of_getElem? (i := 70) rfl) rfl
theorem kw_code_Jxf58ca_isNaN_12338 : (Cond.code yJxf58ca_isNaN_12338 prog_9_method_6_code (1 : Nat) (Option.some FieldType.boolean)) ∈ lw_g := lw_in4 (List.mem_of_getElem? (i := 71) rfl) rfl
theorem kw_ml_Jxf58ca_74 : (Cond.methodLink RJxf58ca (74 : Nat) (⟨RJxf58ca, "floatToRawIntBits", "(F)I"⟩ : MethodName)) ∈ lw_g := lw_in4 (List.mem_of_getElem? (i := 72) rfl) rfl
theorem kw_st_java_lang_Float_floatToRawIntBits : (Cond.static (⟨RJxf58ca, "floatToRawIntBits", "(F)I"⟩ : MethodName)) ∈ lw_g := lw_in4 (List.mem_of_getElem? (i := 73) rfl) rfl
theorem kw_nat_java_lang_Float_floatToRawIntBits : (Cond.native (⟨RJxf58ca, "floatToRawIntBits", "(F)I"⟩ : MethodName)) ∈ lw_g := lw_in4 (List.mem_of_getElem? (i := 74) rfl) rfl
theorem kw_con_Jxf58ca_77 : (Cond.constant RJxf58ca (77 : Nat) (2143289344 : Int32)) ∈ lw_g := lw_in4 (List.mem_of_getElem? (i := 75) rfl) rfl
theorem kw_ml_L_104 : (Cond.methodLink RL (104 : Nat) yX6_append) ∈ lw_g := lw_in4 (List.mem_of_getElem? (i := 76) rfl) rfl
theorem kw_im_X6_append : (Cond.instanceMethod yX6_append) ∈ lw_g := lw_in4 (List.mem_of_getElem? (i := 77) rfl) rfl
theorem kw_sel_X6_append : (Cond.selects RX6 yX6_append yX6_append) ∈ lw_g := lw_in4 (List.mem_of_getElem? (i := 78) rfl) rfl
theorem kw_code_X6_append : (Cond.code yX6_append prog_8_method_53_code (2 : Nat) (Option.some FieldType.int)) ∈ lw_g := lw_in4 (List.mem_of_getElem? (i := 79) rfl) rfl
theorem kw_ml_L_108 : (Cond.methodLink RL (108 : Nat) yX6_clearText) ∈ lw_g := lw_in4 (List.mem_of_getElem? (i := 80) rfl) rfl
theorem kw_im_X6_clearText : (Cond.instanceMethod yX6_clearText) ∈ lw_g := lw_in4 (List.mem_of_getElem? (i := 81) rfl) rfl
theorem kw_sel_X6_clearText : (Cond.selects RX6 yX6_clearText yX6_clearText) ∈ lw_g := lw_in4 (List.mem_of_getElem? (i := 82) rfl) rfl
theorem kw_code_X6_clearText : (Cond.code yX6_clearText prog_8_method_54_code (2 : Nat) (Option.some FieldType.int)) ∈ lw_g := lw_in4 (List.mem_of_getElem? (i := 83) rfl) rfl
theorem kw_ml_L_112 : (Cond.methodLink RL (112 : Nat) yX6_execute) ∈ lw_g := lw_in4 (List.mem_of_getElem? (i := 84) rfl) rfl
theorem kw_im_X6_execute : (Cond.instanceMethod yX6_execute) ∈ lw_g := lw_in4 (List.mem_of_getElem? (i := 85) rfl) rfl
theorem kw_sel_X6_execute : (Cond.selects RX6 yX6_execute yX6_execute) ∈ lw_g := lw_in4 (List.mem_of_getElem? (i := 86) rfl) rfl
theorem kw_code_X6_execute : (Cond.code yX6_execute prog_8_method_62_code (3 : Nat) (Option.some FieldType.int)) ∈ lw_g := lw_in4 (List.mem_of_getElem? (i := 87) rfl) rfl
theorem kw_ml_X6_144 : (Cond.methodLink RX6 (144 : Nat) yX6_here) ∈ lw_g := lw_in4 (List.mem_of_getElem? (i := 88) rfl) rfl
theorem kw_im_X6_here : (Cond.instanceMethod yX6_here) ∈ lw_g := lw_in4 (List.mem_of_getElem? (i := 90) rfl) rfl
theorem kw_code_X6_here : (Cond.code yX6_here prog_8_method_55_code (1 : Nat) (Option.some FieldType.int)) ∈ lw_g := lw_in4 (List.mem_of_getElem? (i := 91) rfl) rfl
theorem kw_ml_X6_165 : (Cond.methodLink RX6 (165 : Nat) yX6_parseCommand) ∈ lw_g := lw_in4 (List.mem_of_getElem? (i := 92) rfl) rfl
theorem kw_im_X6_parseCommand : (Cond.instanceMethod yX6_parseCommand) ∈ lw_g := lw_in4 (List.mem_of_getElem? (i := 94) rfl) rfl
theorem kw_code_X6_parseCommand : (Cond.code yX6_parseCommand prog_8_method_60_code (4 : Nat) (Option.none : Option Jvm.ClassFile.FieldType)) ∈ lw_g := lw_in4 (List.mem_of_getElem? (i := 95) rfl) rfl
theorem kw_ml_X6_155 : (Cond.methodLink RX6 (155 : Nat) yX6_numbersOf) ∈ lw_g := lw_in4 (List.mem_of_getElem? (i := 96) rfl) rfl
theorem kw_st_X6_numbersOf : (Cond.static yX6_numbersOf) ∈ lw_g := lw_in4 (List.mem_of_getElem? (i := 97) rfl) rfl
theorem kw_code_X6_numbersOf : (Cond.code yX6_numbersOf prog_8_method_59_code (1 : Nat) (Option.some FieldType.int)) ∈ lw_g := lw_in4 (List.mem_of_getElem? (i := 98) rfl) rfl
theorem kw_ml_X6_151 : (Cond.methodLink RX6 (151 : Nat) yX6_require) ∈ lw_g := lw_in4 (List.mem_of_getElem? (i := 99) rfl) rfl
theorem kw_im_X6_require : (Cond.instanceMethod yX6_require) ∈ lw_g := lw_in4 (List.mem_of_getElem? (i := 101) rfl) rfl
theorem kw_code_X6_require : (Cond.code yX6_require prog_8_method_56_code (2 : Nat) (Option.none : Option Jvm.ClassFile.FieldType)) ∈ lw_g := lw_in4 (List.mem_of_getElem? (i := 102) rfl) rfl
theorem kw_ml_X6_161 : (Cond.methodLink RX6 (161 : Nat) yX6_number) ∈ lw_g := lw_in4 (List.mem_of_getElem? (i := 103) rfl) rfl
theorem kw_im_X6_number : (Cond.instanceMethod yX6_number) ∈ lw_g := lw_in4 (List.mem_of_getElem? (i := 105) rfl) rfl
theorem kw_code_X6_number : (Cond.code yX6_number prog_8_method_58_code (5 : Nat) (Option.some FieldType.int)) ∈ lw_g := lw_in4 (List.mem_of_getElem? (i := 106) rfl) rfl
theorem kw_ml_X6_147 : (Cond.methodLink RX6 (147 : Nat) yX6_isDigit) ∈ lw_g := lw_in4 (List.mem_of_getElem? (i := 107) rfl) rfl
theorem kw_im_X6_isDigit : (Cond.instanceMethod yX6_isDigit) ∈ lw_g := lw_in4 (List.mem_of_getElem? (i := 109) rfl) rfl
theorem kw_code_X6_isDigit : (Cond.code yX6_isDigit prog_8_method_57_code (1 : Nat) (Option.some FieldType.boolean)) ∈ lw_g := lw_in4 (List.mem_of_getElem? (i := 110) rfl) rfl
theorem kw_ml_X6_168 : (Cond.methodLink RX6 (168 : Nat) yX6_doCommand) ∈ lw_g := lw_in4 (List.mem_of_getElem? (i := 111) rfl) rfl
theorem kw_im_X6_doCommand : (Cond.instanceMethod yX6_doCommand) ∈ lw_g := lw_in4 (List.mem_of_getElem? (i := 113) rfl) rfl
theorem kw_code_X6_doCommand : (Cond.code yX6_doCommand prog_8_method_61_code (4 : Nat) (Option.some FieldType.int)) ∈ lw_g := lw_in4 (List.mem_of_getElem? (i := 114) rfl) rfl
theorem kw_ml_L_116 : (Cond.methodLink RL (116 : Nat) yX6_stopCause) ∈ lw_g := lw_in4 (List.mem_of_getElem? (i := 115) rfl) rfl
theorem kw_im_X6_stopCause : (Cond.instanceMethod yX6_stopCause) ∈ lw_g := lw_in4 (List.mem_of_getElem? (i := 116) rfl) rfl
theorem kw_sel_X6_stopCause : (Cond.selects RX6 yX6_stopCause yX6_stopCause) ∈ lw_g := lw_in4 (List.mem_of_getElem? (i := 117) rfl) rfl
theorem kw_code_X6_stopCause : (Cond.code yX6_stopCause prog_8_method_63_code (1 : Nat) (Option.some FieldType.int)) ∈ lw_g := lw_in4 (List.mem_of_getElem? (i := 118) rfl) rfl
theorem kw_ml_L_124 : (Cond.methodLink RL (124 : Nat) yX6_errorCount) ∈ lw_g := lw_in4 (List.mem_of_getElem? (i := 119) rfl) rfl
theorem kw_im_X6_errorCount : (Cond.instanceMethod yX6_errorCount) ∈ lw_g := lw_in4 (List.mem_of_getElem? (i := 120) rfl) rfl
theorem kw_sel_X6_errorCount : (Cond.selects RX6 yX6_errorCount yX6_errorCount) ∈ lw_g := lw_in4 (List.mem_of_getElem? (i := 121) rfl) rfl
theorem kw_code_X6_errorCount : (Cond.code yX6_errorCount prog_8_method_64_code (2 : Nat) (Option.some FieldType.int)) ∈ lw_g := lw_in4 (List.mem_of_getElem? (i := 122) rfl) rfl
theorem kw_ml_L_128 : (Cond.methodLink RL (128 : Nat) yX6_deviceCount) ∈ lw_g := lw_in4 (List.mem_of_getElem? (i := 123) rfl) rfl
theorem kw_im_X6_deviceCount : (Cond.instanceMethod yX6_deviceCount) ∈ lw_g := lw_in4 (List.mem_of_getElem? (i := 124) rfl) rfl
theorem kw_sel_X6_deviceCount : (Cond.selects RX6 yX6_deviceCount yX6_deviceCount) ∈ lw_g := lw_in4 (List.mem_of_getElem? (i := 125) rfl) rfl
theorem kw_code_X6_deviceCount : (Cond.code yX6_deviceCount prog_8_method_65_code (1 : Nat) (Option.some FieldType.int)) ∈ lw_g := lw_in4 (List.mem_of_getElem? (i := 126) rfl) rfl
theorem kw_ml_L_133 : (Cond.methodLink RL (133 : Nat) yX6_digest) ∈ lw_g := lw_in4 (List.mem_of_getElem? (i := 127) rfl) rfl
theorem kw_im_X6_digest : (Cond.instanceMethod yX6_digest) ∈ lw_g := lw_in4 (List.mem_of_getElem? (i := 128) rfl) rfl
theorem kw_sel_X6_digest : (Cond.selects RX6 yX6_digest yX6_digest) ∈ lw_g := lw_in4 (List.mem_of_getElem? (i := 129) rfl) rfl
theorem kw_code_X6_digest : (Cond.code yX6_digest prog_8_method_67_code (2 : Nat) (Option.some FieldType.long)) ∈ lw_g := lw_in4 (List.mem_of_getElem? (i := 130) rfl) rfl
theorem kw_con_X6_180 : (Cond.constantLong RX6 (180 : Nat) (2633 : Int64)) ∈ lw_g := lw_in4 (List.mem_of_getElem? (i := 131) rfl) rfl
theorem kw_ml_X6_182 : (Cond.methodLink RX6 (182 : Nat) yX6_mix) ∈ lw_g := lw_in4 (List.mem_of_getElem? (i := 132) rfl) rfl
theorem kw_im_X6_mix : (Cond.instanceMethod yX6_mix) ∈ lw_g := lw_in4 (List.mem_of_getElem? (i := 134) rfl) rfl
theorem kw_code_X6_mix : (Cond.code yX6_mix prog_8_method_66_code (2 : Nat) (Option.none : Option Jvm.ClassFile.FieldType)) ∈ lw_g := lw_in4 (List.mem_of_getElem? (i := 135) rfl) rfl
theorem kw_con_X6_174 : (Cond.constantLong RX6 (174 : Nat) (31 : Int64)) ∈ lw_g := lw_in4 (List.mem_of_getElem? (i := 136) rfl) rfl
theorem kw_sel_X2_hasRom : Cond.selects RX2 yX2_hasRom yX2_hasRom ∈ lw_g := lw_in0 (List.mem_of_getElem? (i := 0) rfl) rfl
theorem kw_sel_X5_settle : Cond.selects RX5 yX5_settle yX5_settle ∈ lw_g := lw_in0 (List.mem_of_getElem? (i := 1) rfl) rfl
theorem kw_sel_X5_counted : Cond.selects RX5 yX5_counted yX5_counted ∈ lw_g := lw_in0 (List.mem_of_getElem? (i := 2) rfl) rfl
theorem kw_sel_X4_dropOldest : Cond.selects RX4 yX4_dropOldest yX4_dropOldest ∈ lw_g := lw_in0 (List.mem_of_getElem? (i := 3) rfl) rfl
theorem kw_sel_X2_closeGap : Cond.selects RX2 yX2_closeGap yX2_closeGap ∈ lw_g := lw_in0 (List.mem_of_getElem? (i := 4) rfl) rfl
theorem kw_sel_X2_isAlarmed : Cond.selects RX2 yX2_isAlarmed yX2_isAlarmed ∈ lw_g := lw_in0 (List.mem_of_getElem? (i := 5) rfl) rfl
theorem kw_sel_X0_fail : Cond.selects RX0 yX0_fail yX0_fail ∈ lw_g := lw_in0 (List.mem_of_getElem? (i := 6) rfl) rfl
theorem kw_sel_X0_readSlot : Cond.selects RX0 yX0_readSlot yX0_readSlot ∈ lw_g := lw_in0 (List.mem_of_getElem? (i := 7) rfl) rfl
theorem kw_sel_X0_directionAt : Cond.selects RX0 yX0_directionAt yX0_directionAt ∈ lw_g := lw_in0 (List.mem_of_getElem? (i := 8) rfl) rfl
theorem kw_sel_X0_noteFamilyZero : Cond.selects RX0 yX0_noteFamilyZero yX0_noteFamilyZero ∈ lw_g := lw_in0 (List.mem_of_getElem? (i := 9) rfl) rfl
theorem kw_sel_X0_writeSlot : Cond.selects RX0 yX0_writeSlot yX0_writeSlot ∈ lw_g := lw_in0 (List.mem_of_getElem? (i := 10) rfl) rfl
theorem kw_sel_X3_holds : Cond.selects RX3 yX3_holds yX3_holds ∈ lw_g := lw_in0 (List.mem_of_getElem? (i := 11) rfl) rfl
theorem kw_sel_X3_forgetOldest : Cond.selects RX3 yX3_forgetOldest yX3_forgetOldest ∈ lw_g := lw_in0 (List.mem_of_getElem? (i := 12) rfl) rfl
theorem kw_sel_X1_skipSpaces : Cond.selects RX1 yX1_skipSpaces yX1_skipSpaces ∈ lw_g := lw_in0 (List.mem_of_getElem? (i := 13) rfl) rfl
theorem kw_sel_X1_byteAtCursor : Cond.selects RX1 yX1_byteAtCursor yX1_byteAtCursor ∈ lw_g := lw_in0 (List.mem_of_getElem? (i := 14) rfl) rfl
theorem kw_sel_X1_readCommand : Cond.selects RX1 yX1_readCommand yX1_readCommand ∈ lw_g := lw_in0 (List.mem_of_getElem? (i := 15) rfl) rfl
theorem kw_sel_X1_readNumber : Cond.selects RX1 yX1_readNumber yX1_readNumber ∈ lw_g := lw_in0 (List.mem_of_getElem? (i := 16) rfl) rfl
theorem kw_sel_X5_runCommand : Cond.selects RX5 yX5_runCommand yX5_runCommand ∈ lw_g := lw_in0 (List.mem_of_getElem? (i := 17) rfl) rfl
theorem kw_sel_X6_counted : Cond.selects RX6 yX6_counted yX6_counted ∈ lw_g := lw_in0 (List.mem_of_getElem? (i := 18) rfl) rfl
theorem kw_sel_X6_remember : Cond.selects RX6 yX6_remember yX6_remember ∈ lw_g := lw_in0 (List.mem_of_getElem? (i := 19) rfl) rfl
theorem kw_sel_X6_doAdd : Cond.selects RX6 yX6_doAdd yX6_doAdd ∈ lw_g := lw_in0 (List.mem_of_getElem? (i := 20) rfl) rfl
theorem kw_sel_X6_of : Cond.selects RX6 yX6_of yX6_of ∈ lw_g := lw_in0 (List.mem_of_getElem? (i := 21) rfl) rfl
theorem kw_sel_X6_finish : Cond.selects RX6 yX6_finish yX6_finish ∈ lw_g := lw_in0 (List.mem_of_getElem? (i := 22) rfl) rfl
theorem kw_sel_X6_save : Cond.selects RX6 yX6_save yX6_save ∈ lw_g := lw_in0 (List.mem_of_getElem? (i := 23) rfl) rfl
theorem kw_sel_X6_doRemove : Cond.selects RX6 yX6_doRemove yX6_doRemove ∈ lw_g := lw_in0 (List.mem_of_getElem? (i := 24) rfl) rfl
theorem kw_sel_X6_isDevice : Cond.selects RX6 yX6_isDevice yX6_isDevice ∈ lw_g := lw_in0 (List.mem_of_getElem? (i := 25) rfl) rfl
theorem kw_sel_X6_doReading : Cond.selects RX6 yX6_doReading yX6_doReading ∈ lw_g := lw_in0 (List.mem_of_getElem? (i := 26) rfl) rfl
theorem kw_sel_X6_alarmed : Cond.selects RX6 yX6_alarmed yX6_alarmed ∈ lw_g := lw_in0 (List.mem_of_getElem? (i := 27) rfl) rfl
theorem kw_sel_X6_doAlarm : Cond.selects RX6 yX6_doAlarm yX6_doAlarm ∈ lw_g := lw_in0 (List.mem_of_getElem? (i := 28) rfl) rfl
theorem kw_sel_X6_alarms : Cond.selects RX6 yX6_alarms yX6_alarms ∈ lw_g := lw_in0 (List.mem_of_getElem? (i := 29) rfl) rfl
theorem kw_sel_X6_doMode : Cond.selects RX6 yX6_doMode yX6_doMode ∈ lw_g := lw_in0 (List.mem_of_getElem? (i := 30) rfl) rfl
theorem kw_sel_X6_reset : Cond.selects RX6 yX6_reset yX6_reset ∈ lw_g := lw_in0 (List.mem_of_getElem? (i := 31) rfl) rfl
theorem kw_sel_X6_doReset : Cond.selects RX6 yX6_doReset yX6_doReset ∈ lw_g := lw_in0 (List.mem_of_getElem? (i := 32) rfl) rfl
theorem kw_sel_X6_pass : Cond.selects RX6 yX6_pass yX6_pass ∈ lw_g := lw_in0 (List.mem_of_getElem? (i := 33) rfl) rfl
theorem kw_sel_X6_fail : Cond.selects RX6 yX6_fail yX6_fail ∈ lw_g := lw_in0 (List.mem_of_getElem? (i := 34) rfl) rfl
theorem kw_sel_X6_wiredAnd : Cond.selects RX6 yX6_wiredAnd yX6_wiredAnd ∈ lw_g := lw_in0 (List.mem_of_getElem? (i := 35) rfl) rfl
theorem kw_sel_X6_noisy : Cond.selects RX6 yX6_noisy yX6_noisy ∈ lw_g := lw_in0 (List.mem_of_getElem? (i := 36) rfl) rfl
theorem kw_sel_X6_direction : Cond.selects RX6 yX6_direction yX6_direction ∈ lw_g := lw_in0 (List.mem_of_getElem? (i := 37) rfl) rfl
theorem kw_sel_X6_note : Cond.selects RX6 yX6_note yX6_note ∈ lw_g := lw_in0 (List.mem_of_getElem? (i := 38) rfl) rfl
theorem kw_sel_X6_doSkip : Cond.selects RX6 yX6_doSkip yX6_doSkip ∈ lw_g := lw_in0 (List.mem_of_getElem? (i := 39) rfl) rfl
theorem kw_sel_X6_doTarget : Cond.selects RX6 yX6_doTarget yX6_doTarget ∈ lw_g := lw_in0 (List.mem_of_getElem? (i := 40) rfl) rfl
theorem kw_sel_X6_doNoise : Cond.selects RX6 yX6_doNoise yX6_doNoise ∈ lw_g := lw_in0 (List.mem_of_getElem? (i := 41) rfl) rfl
theorem kw_sel_X6_restore : Cond.selects RX6 yX6_restore yX6_restore ∈ lw_g := lw_in0 (List.mem_of_getElem? (i := 42) rfl) rfl
theorem kw_sel_X6_here : Cond.selects RX6 yX6_here yX6_here ∈ lw_g := lw_in0 (List.mem_of_getElem? (i := 43) rfl) rfl
theorem kw_sel_X6_parseCommand : Cond.selects RX6 yX6_parseCommand yX6_parseCommand ∈ lw_g := lw_in0 (List.mem_of_getElem? (i := 44) rfl) rfl
theorem kw_sel_X6_require : Cond.selects RX6 yX6_require yX6_require ∈ lw_g := lw_in0 (List.mem_of_getElem? (i := 45) rfl) rfl
theorem kw_sel_X6_number : Cond.selects RX6 yX6_number yX6_number ∈ lw_g := lw_in0 (List.mem_of_getElem? (i := 46) rfl) rfl
theorem kw_sel_X6_isDigit : Cond.selects RX6 yX6_isDigit yX6_isDigit ∈ lw_g := lw_in0 (List.mem_of_getElem? (i := 47) rfl) rfl
theorem kw_sel_X6_doCommand : Cond.selects RX6 yX6_doCommand yX6_doCommand ∈ lw_g := lw_in0 (List.mem_of_getElem? (i := 48) rfl) rfl
theorem kw_sel_X6_mix : Cond.selects RX6 yX6_mix yX6_mix ∈ lw_g := lw_in0 (List.mem_of_getElem? (i := 49) rfl) rfl
theorem inX0 : ∀ w ∈ u_ws RX0 TX0 9, w ∈ lw_g := by
  intro w hw
  obtain ⟨k, hk, rfl⟩ := List.mem_map.mp hw
  have hk := List.mem_range.mp hk
  rcases (show k = 0 ∨ k = 1 ∨ k = 2 ∨ k = 3 ∨ k = 4 ∨ k = 5 ∨ k = 6 ∨ k = 7 ∨ k = 8 by omega) with rfl | rfl | rfl | rfl | rfl | rfl | rfl | rfl | rfl
  · exact kw_lay_X0_devices
  · exact kw_lay_X0_history
  · exact kw_lay_X0_rom
  · exact kw_lay_X0_discrepancy
  · exact kw_lay_X0_familyDiscrepancy
  · exact kw_lay_X0_lastDevice
  · exact kw_lay_X0_mode
  · exact kw_lay_X0_noise
  · exact kw_lay_X0_slots
theorem inX1 : ∀ w ∈ u_ws RX1 TX1 6, w ∈ lw_g := by
  intro w hw
  obtain ⟨k, hk, rfl⟩ := List.mem_map.mp hw
  have hk := List.mem_range.mp hk
  rcases (show k = 0 ∨ k = 1 ∨ k = 2 ∨ k = 3 ∨ k = 4 ∨ k = 5 by omega) with rfl | rfl | rfl | rfl | rfl | rfl
  · exact kw_lay_X1_bytes
  · exact kw_lay_X1_letters
  · exact kw_lay_X1_numbers
  · exact kw_lay_X1_length
  · exact kw_lay_X1_commands
  · exact kw_lay_X1_cursor
theorem inX2 : ∀ w ∈ u_ws RX2 TX2 5, w ∈ lw_g := by
  intro w hw
  obtain ⟨k, hk, rfl⟩ := List.mem_map.mp hw
  have hk := List.mem_range.mp hk
  rcases (show k = 0 ∨ k = 1 ∨ k = 2 ∨ k = 3 ∨ k = 4 by omega) with rfl | rfl | rfl | rfl | rfl
  · exact kw_lay_X2_roms
  · exact kw_lay_X2_readings
  · exact kw_lay_X2_rules
  · exact kw_lay_X2_limits
  · exact kw_lay_X2_count
theorem inX3 : ∀ w ∈ u_ws RX3 TX3 2, w ∈ lw_g := by
  intro w hw
  obtain ⟨k, hk, rfl⟩ := List.mem_map.mp hw
  have hk := List.mem_range.mp hk
  rcases (show k = 0 ∨ k = 1 by omega) with rfl | rfl
  · exact kw_lay_X3_codes
  · exact kw_lay_X3_count
theorem inX4 : ∀ w ∈ u_ws RX4 TX4 2, w ∈ lw_g := by
  intro w hw
  obtain ⟨k, hk, rfl⟩ := List.mem_map.mp hw
  have hk := List.mem_range.mp hk
  rcases (show k = 0 ∨ k = 1 by omega) with rfl | rfl
  · exact kw_lay_X4_states
  · exact kw_lay_X4_count
theorem inX5 : ∀ w ∈ u_ws RX5 TX5 7, w ∈ lw_g := by
  intro w hw
  obtain ⟨k, hk, rfl⟩ := List.mem_map.mp hw
  have hk := List.mem_range.mp hk
  rcases (show k = 0 ∨ k = 1 ∨ k = 2 ∨ k = 3 ∨ k = 4 ∨ k = 5 ∨ k = 6 by omega) with rfl | rfl | rfl | rfl | rfl | rfl | rfl
  · exact kw_lay_X5_state
  · exact kw_lay_X5_before
  · exact kw_lay_X5_trial
  · exact kw_lay_X5_saved
  · exact kw_lay_X5_text
  · exact kw_lay_X5_errors
  · exact kw_lay_X5_latestStop
theorem inX6 : ∀ w ∈ u_ws RX6 TX6 14, w ∈ lw_g := by
  intro w hw
  obtain ⟨k, hk, rfl⟩ := List.mem_map.mp hw
  have hk := List.mem_range.mp hk
  rcases (show k = 0 ∨ k = 1 ∨ k = 2 ∨ k = 3 ∨ k = 4 ∨ k = 5 ∨ k = 6 ∨ k = 7 ∨ k = 8 ∨ k = 9 ∨ k = 10 ∨ k = 11 ∨ k = 12 ∨ k = 13 by omega) with rfl | rfl | rfl | rfl | rfl | rfl | rfl | rfl | rfl | rfl | rfl | rfl | rfl | rfl
  · exact kw_lay_X6_now
  · exact kw_lay_X6_before
  · exact kw_lay_X6_saved
  · exact kw_lay_X6_savedCount
  · exact kw_lay_X6_errors
  · exact kw_lay_X6_cause
  · exact kw_lay_X6_text
  · exact kw_lay_X6_typed
  · exact kw_lay_X6_at
  · exact kw_lay_X6_syntaxError
  · exact kw_lay_X6_commands
  · exact kw_lay_X6_letters
  · exact kw_lay_X6_numbers
  · exact kw_lay_X6_h
