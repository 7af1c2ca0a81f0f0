set_option maxRecDepth 100000 in
theorem f_Ra_10 : r_fl "RingArm" 10 11 0 (.object "RingArm$Page") true := ⟨_, rfl, by decide, (r_in 227 rfl rfl), (by decide +kernel), rfl, rfl⟩
set_option maxRecDepth 100000 in
theorem f_Ra_19 : r_fl "RingArm" 19 11 1 (.object "RingArm$Disc") true := ⟨_, rfl, by decide, (r_in 228 rfl rfl), (by decide +kernel), rfl, rfl⟩
set_option maxRecDepth 100000 in
theorem f_Ra_28 : r_fl "RingArm" 28 11 2 (.object "RingArm$Desk") true := ⟨_, rfl, by decide, (r_in 229 rfl rfl), (by decide +kernel), rfl, rfl⟩
set_option maxRecDepth 100000 in
theorem f_Ra_35 : r_fl "RingArm" 35 11 3 (.object "RingArm$Things") true := ⟨_, rfl, by decide, (r_in 230 rfl rfl), (by decide +kernel), rfl, rfl⟩
set_option maxRecDepth 100000 in
theorem f_Ra_42 : r_fl "RingArm" 42 11 4 (.object "RingArm$Sight") true := ⟨_, rfl, by decide, (r_in 231 rfl rfl), (by decide +kernel), rfl, rfl⟩
set_option maxRecDepth 100000 in
theorem f_Ra_61 : r_fl "RingArm" 61 11 5 (.array (.object "RingArm$First")) true := ⟨_, rfl, by decide, (r_in 232 rfl rfl), (by decide +kernel), rfl, rfl⟩
set_option maxRecDepth 100000 in
theorem f_Ra_65 : r_fl "RingArm" 65 11 6 (.object "RingArm$First") false := ⟨_, rfl, by decide, (r_in 233 rfl rfl), (by decide +kernel), rfl, rfl⟩
set_option maxRecDepth 100000 in
theorem f_Ra_69 : r_fl "RingArm" 69 11 7 (.object "RingArm$Disc") true := ⟨_, rfl, by decide, (r_in 234 rfl rfl), (by decide +kernel), rfl, rfl⟩
set_option maxRecDepth 100000 in
theorem f_Ra_72 : r_fl "RingArm" 72 11 8 (.object "RingArm$Desk") true := ⟨_, rfl, by decide, (r_in 235 rfl rfl), (by decide +kernel), rfl, rfl⟩
set_option maxRecDepth 100000 in
theorem f_Ra_75 : r_fl "RingArm" 75 11 9 (.object "RingArm$Things") true := ⟨_, rfl, by decide, (r_in 236 rfl rfl), (by decide +kernel), rfl, rfl⟩
set_option maxRecDepth 100000 in
theorem f_Ra_78 : r_fl "RingArm" 78 11 10 (.object "RingArm$Sight") true := ⟨_, rfl, by decide, (r_in 237 rfl rfl), (by decide +kernel), rfl, rfl⟩
set_option maxRecDepth 100000 in
theorem f_Ra_81 : r_fl "RingArm" 81 11 11 (.object "RingArm$First") false := ⟨_, rfl, by decide, (r_in 238 rfl rfl), (by decide +kernel), rfl, rfl⟩
set_option maxRecDepth 100000 in
theorem f_Ra_84 : r_fl "RingArm" 84 11 12 .boolean false := ⟨_, rfl, by decide, (r_in 239 rfl rfl), (by decide +kernel), rfl, rfl⟩
set_option maxRecDepth 100000 in
theorem f_Ra_88 : r_fl "RingArm" 88 11 13 (.object "RingArm$Desk") true := ⟨_, rfl, by decide, (r_in 240 rfl rfl), (by decide +kernel), rfl, rfl⟩
set_option maxRecDepth 100000 in
theorem f_Ra_94 : r_fl "RingArm" 94 11 14 (.object "RingArm$Orders") true := ⟨_, rfl, by decide, (r_in 241 rfl rfl), (by decide +kernel), rfl, rfl⟩
set_option maxRecDepth 100000 in
theorem f_Ra_98 : r_fl "RingArm" 98 11 15 .int false := ⟨_, rfl, by decide, (r_in 242 rfl rfl), (by decide +kernel), rfl, rfl⟩
set_option maxRecDepth 100000 in
theorem f_Ra_102 : r_fl "RingArm" 102 11 16 .int false := ⟨_, rfl, by decide, (r_in 243 rfl rfl), (by decide +kernel), rfl, rfl⟩
set_option maxRecDepth 100000 in
theorem f_Ra_105 : r_fl "RingArm" 105 5 1 .int false := ⟨_, rfl, by decide, (r_in 33 rfl rfl), (by decide +kernel), rfl, rfl⟩
set_option maxRecDepth 100000 in
theorem f_Ra_140 : r_fl "RingArm" 140 1 3 .int false := ⟨_, rfl, by decide, (r_in 53 rfl rfl), (by decide +kernel), rfl, rfl⟩
set_option maxRecDepth 100000 in
theorem f_Ra_145 : r_fl "RingArm" 145 1 0 (.array .int) true := ⟨_, rfl, by decide, (r_in 47 rfl rfl), (by decide +kernel), rfl, rfl⟩
set_option maxRecDepth 100000 in
theorem f_Ra_153 : r_fl "RingArm" 153 1 1 (.array .int) true := ⟨_, rfl, by decide, (r_in 49 rfl rfl), (by decide +kernel), rfl, rfl⟩
set_option maxRecDepth 100000 in
theorem f_Ra_156 : r_fl "RingArm" 156 1 2 (.array .int) true := ⟨_, rfl, by decide, (r_in 51 rfl rfl), (by decide +kernel), rfl, rfl⟩
set_option maxRecDepth 100000 in
theorem f_Ra_162 : r_fl "RingArm" 162 0 6 .int false := ⟨_, rfl, by decide, (r_in 107 rfl rfl), (by decide +kernel), rfl, rfl⟩
set_option maxRecDepth 100000 in
theorem f_Ra_170 : r_fl "RingArm" 170 0 1 (.array .int) true := ⟨_, rfl, by decide, (r_in 86 rfl rfl), (by decide +kernel), rfl, rfl⟩
set_option maxRecDepth 100000 in
theorem f_Ra_173 : r_fl "RingArm" 173 0 2 (.array .int) true := ⟨_, rfl, by decide, (r_in 90 rfl rfl), (by decide +kernel), rfl, rfl⟩
set_option maxRecDepth 100000 in
theorem f_Ra_174 : r_fl "RingArm" 174 0 3 (.array .int) true := ⟨_, rfl, by decide, (r_in 92 rfl rfl), (by decide +kernel), rfl, rfl⟩
set_option maxRecDepth 100000 in
theorem f_Ra_197 : r_fl "RingArm" 197 0 4 .int false := ⟨_, rfl, by decide, (r_in 96 rfl rfl), (by decide +kernel), rfl, rfl⟩
set_option maxRecDepth 100000 in
theorem f_Ra_205 : r_fl "RingArm" 205 0 5 .int false := ⟨_, rfl, by decide, (r_in 100 rfl rfl), (by decide +kernel), rfl, rfl⟩
set_option maxRecDepth 100000 in
theorem f_Ra_216 : r_fl "RingArm" 216 1 5 .int false := ⟨_, rfl, by decide, (r_in 57 rfl rfl), (by decide +kernel), rfl, rfl⟩
set_option maxRecDepth 100000 in
theorem f_Ra_219 : r_fl "RingArm" 219 1 4 .int false := ⟨_, rfl, by decide, (r_in 55 rfl rfl), (by decide +kernel), rfl, rfl⟩
set_option maxRecDepth 100000 in
theorem f_Ra_230 : r_fl "RingArm" 230 0 8 .int false := ⟨_, rfl, by decide, (r_in 112 rfl rfl), (by decide +kernel), rfl, rfl⟩
set_option maxRecDepth 100000 in
theorem f_Ra_236 : r_fl "RingArm" 236 4 3 .int false := ⟨_, rfl, by decide, (r_in 217 rfl rfl), (by decide +kernel), rfl, rfl⟩
set_option maxRecDepth 100000 in
theorem f_Ra_239 : r_fl "RingArm" 239 4 2 .int false := ⟨_, rfl, by decide, (r_in 215 rfl rfl), (by decide +kernel), rfl, rfl⟩
set_option maxRecDepth 100000 in
theorem f_Ra_240 : r_fl "RingArm" 240 4 1 (.array .int) true := ⟨_, rfl, by decide, (r_in 213 rfl rfl), (by decide +kernel), rfl, rfl⟩
set_option maxRecDepth 100000 in
theorem f_Ra_243 : r_fl "RingArm" 243 10 0 (.array .int) true := ⟨_, rfl, by decide, (r_in 139 rfl rfl), (by decide +kernel), rfl, rfl⟩
set_option maxRecDepth 100000 in
theorem f_Ra_263 : r_fl "RingArm" 263 7 2 .int false := ⟨_, rfl, by decide, (r_in 161 rfl rfl), (by decide +kernel), rfl, rfl⟩
set_option maxRecDepth 100000 in
theorem f_Ra_285 : r_fl "RingArm" 285 0 7 .boolean false := ⟨_, rfl, by decide, (r_in 110 rfl rfl), (by decide +kernel), rfl, rfl⟩
set_option maxRecDepth 100000 in
theorem f_Ra_306 : r_fl "RingArm" 306 5 0 (.array .int) true := ⟨_, rfl, by decide, (r_in 31 rfl rfl), (by decide +kernel), rfl, rfl⟩
set_option maxRecDepth 100000 in
theorem f_Dk_9 : r_fl "RingArm$Desk" 9 0 1 (.array .int) true := ⟨_, rfl, by decide, (r_in 80 rfl rfl), (by decide +kernel), rfl, rfl⟩
set_option maxRecDepth 100000 in
theorem f_Dk_15 : r_fl "RingArm$Desk" 15 0 2 (.array .int) true := ⟨_, rfl, by decide, (r_in 87 rfl rfl), (by decide +kernel), rfl, rfl⟩
set_option maxRecDepth 100000 in
theorem f_Dk_18 : r_fl "RingArm$Desk" 18 0 3 (.array .int) true := ⟨_, rfl, by decide, (r_in 91 rfl rfl), (by decide +kernel), rfl, rfl⟩
set_option maxRecDepth 100000 in
theorem f_Dk_21 : r_fl "RingArm$Desk" 21 0 4 .int false := ⟨_, rfl, by decide, (r_in 93 rfl rfl), (by decide +kernel), rfl, rfl⟩
set_option maxRecDepth 100000 in
theorem f_Dk_25 : r_fl "RingArm$Desk" 25 0 5 .int false := ⟨_, rfl, by decide, (r_in 97 rfl rfl), (by decide +kernel), rfl, rfl⟩
set_option maxRecDepth 100000 in
theorem f_Dk_28 : r_fl "RingArm$Desk" 28 0 6 .int false := ⟨_, rfl, by decide, (r_in 101 rfl rfl), (by decide +kernel), rfl, rfl⟩
set_option maxRecDepth 100000 in
theorem f_Dk_31 : r_fl "RingArm$Desk" 31 0 7 .boolean false := ⟨_, rfl, by decide, (r_in 108 rfl rfl), (by decide +kernel), rfl, rfl⟩
set_option maxRecDepth 100000 in
theorem f_Dk_35 : r_fl "RingArm$Desk" 35 0 8 .int false := ⟨_, rfl, by decide, (r_in 111 rfl rfl), (by decide +kernel), rfl, rfl⟩
set_option maxRecDepth 100000 in
theorem f_Dk_38 : r_fl "RingArm$Desk" 38 0 0 (.object "RingArm$Disc") true := ⟨_, rfl, by decide, (r_in 77 rfl rfl), (by decide +kernel), rfl, rfl⟩
set_option maxRecDepth 100000 in
theorem f_Di_9 : r_fl "RingArm$Disc" 9 1 0 (.array .int) true := ⟨_, rfl, by decide, (r_in 46 rfl rfl), (by decide +kernel), rfl, rfl⟩
set_option maxRecDepth 100000 in
theorem f_Di_15 : r_fl "RingArm$Disc" 15 1 1 (.array .int) true := ⟨_, rfl, by decide, (r_in 48 rfl rfl), (by decide +kernel), rfl, rfl⟩
set_option maxRecDepth 100000 in
theorem f_Di_18 : r_fl "RingArm$Disc" 18 1 2 (.array .int) true := ⟨_, rfl, by decide, (r_in 50 rfl rfl), (by decide +kernel), rfl, rfl⟩
set_option maxRecDepth 100000 in
theorem f_Di_21 : r_fl "RingArm$Disc" 21 1 3 .int false := ⟨_, rfl, by decide, (r_in 52 rfl rfl), (by decide +kernel), rfl, rfl⟩
set_option maxRecDepth 100000 in
theorem f_Di_25 : r_fl "RingArm$Disc" 25 1 4 .int false := ⟨_, rfl, by decide, (r_in 54 rfl rfl), (by decide +kernel), rfl, rfl⟩
set_option maxRecDepth 100000 in
theorem f_Di_28 : r_fl "RingArm$Disc" 28 1 5 .int false := ⟨_, rfl, by decide, (r_in 56 rfl rfl), (by decide +kernel), rfl, rfl⟩
set_option maxRecDepth 100000 in
theorem f_Di_43 : r_fl "RingArm$Disc" 43 5 0 (.array .int) true := ⟨_, rfl, by decide, (r_in 30 rfl rfl), (by decide +kernel), rfl, rfl⟩
set_option maxRecDepth 100000 in
theorem f_Fi_9 : r_fl "RingArm$First" 9 0 4 .int false := ⟨_, rfl, by decide, (r_in 95 rfl rfl), (by decide +kernel), rfl, rfl⟩
set_option maxRecDepth 100000 in
theorem f_Ne_9 : r_fl "RingArm$Nearest" 9 0 1 (.array .int) true := ⟨_, rfl, by decide, (r_in 81 rfl rfl), (by decide +kernel), rfl, rfl⟩
set_option maxRecDepth 100000 in
theorem f_Ne_19 : r_fl "RingArm$Nearest" 19 0 6 .int false := ⟨_, rfl, by decide, (r_in 103 rfl rfl), (by decide +kernel), rfl, rfl⟩
set_option maxRecDepth 100000 in
theorem f_Or_9 : r_fl "RingArm$Orders" 9 4 0 (.array .int) true := ⟨_, rfl, by decide, (r_in 211 rfl rfl), (by decide +kernel), rfl, rfl⟩
set_option maxRecDepth 100000 in
theorem f_Or_15 : r_fl "RingArm$Orders" 15 4 1 (.array .int) true := ⟨_, rfl, by decide, (r_in 212 rfl rfl), (by decide +kernel), rfl, rfl⟩
set_option maxRecDepth 100000 in
theorem f_Or_18 : r_fl "RingArm$Orders" 18 4 2 .int false := ⟨_, rfl, by decide, (r_in 214 rfl rfl), (by decide +kernel), rfl, rfl⟩
set_option maxRecDepth 100000 in
theorem f_Or_22 : r_fl "RingArm$Orders" 22 4 3 .int false := ⟨_, rfl, by decide, (r_in 216 rfl rfl), (by decide +kernel), rfl, rfl⟩
set_option maxRecDepth 100000 in
theorem f_Or_25 : r_fl "RingArm$Orders" 25 0 4 .int false := ⟨_, rfl, by decide, (r_in 94 rfl rfl), (by decide +kernel), rfl, rfl⟩
set_option maxRecDepth 100000 in
theorem f_Or_35 : r_fl "RingArm$Orders" 35 0 5 .int false := ⟨_, rfl, by decide, (r_in 98 rfl rfl), (by decide +kernel), rfl, rfl⟩
set_option maxRecDepth 100000 in
theorem f_Or_38 : r_fl "RingArm$Orders" 38 0 6 .int false := ⟨_, rfl, by decide, (r_in 102 rfl rfl), (by decide +kernel), rfl, rfl⟩
set_option maxRecDepth 100000 in
theorem f_Or_53 : r_fl "RingArm$Orders" 53 0 1 (.array .int) true := ⟨_, rfl, by decide, (r_in 85 rfl rfl), (by decide +kernel), rfl, rfl⟩
set_option maxRecDepth 100000 in
theorem f_Or_64 : r_fl "RingArm$Orders" 64 0 0 (.object "RingArm$Disc") true := ⟨_, rfl, by decide, (r_in 79 rfl rfl), (by decide +kernel), rfl, rfl⟩
set_option maxRecDepth 100000 in
theorem f_Or_68 : r_fl "RingArm$Orders" 68 0 2 (.array .int) true := ⟨_, rfl, by decide, (r_in 89 rfl rfl), (by decide +kernel), rfl, rfl⟩
set_option maxRecDepth 100000 in
theorem f_Pa_9 : r_fl "RingArm$Page" 9 5 0 (.array .int) true := ⟨_, rfl, by decide, (r_in 29 rfl rfl), (by decide +kernel), rfl, rfl⟩
set_option maxRecDepth 100000 in
theorem f_Pa_15 : r_fl "RingArm$Page" 15 5 1 .int false := ⟨_, rfl, by decide, (r_in 32 rfl rfl), (by decide +kernel), rfl, rfl⟩
set_option maxRecDepth 100000 in
theorem f_Ro_9 : r_fl "RingArm$Round" 9 0 1 (.array .int) true := ⟨_, rfl, by decide, (r_in 82 rfl rfl), (by decide +kernel), rfl, rfl⟩
set_option maxRecDepth 100000 in
theorem f_Ro_19 : r_fl "RingArm$Round" 19 0 6 .int false := ⟨_, rfl, by decide, (r_in 106 rfl rfl), (by decide +kernel), rfl, rfl⟩
set_option maxRecDepth 100000 in
theorem f_Si_9 : r_fl "RingArm$Sight" 9 7 0 (.array .int) true := ⟨_, rfl, by decide, (r_in 158 rfl rfl), (by decide +kernel), rfl, rfl⟩
set_option maxRecDepth 100000 in
theorem f_Si_15 : r_fl "RingArm$Sight" 15 7 1 (.array .int) true := ⟨_, rfl, by decide, (r_in 159 rfl rfl), (by decide +kernel), rfl, rfl⟩
set_option maxRecDepth 100000 in
theorem f_Si_18 : r_fl "RingArm$Sight" 18 7 2 .int false := ⟨_, rfl, by decide, (r_in 160 rfl rfl), (by decide +kernel), rfl, rfl⟩
set_option maxRecDepth 100000 in
theorem f_So_9 : r_fl "RingArm$Soonest" 9 0 0 (.object "RingArm$Disc") true := ⟨_, rfl, by decide, (r_in 78 rfl rfl), (by decide +kernel), rfl, rfl⟩
set_option maxRecDepth 100000 in
theorem f_So_15 : r_fl "RingArm$Soonest" 15 0 5 .int false := ⟨_, rfl, by decide, (r_in 99 rfl rfl), (by decide +kernel), rfl, rfl⟩
set_option maxRecDepth 100000 in
theorem f_So_19 : r_fl "RingArm$Soonest" 19 0 6 .int false := ⟨_, rfl, by decide, (r_in 104 rfl rfl), (by decide +kernel), rfl, rfl⟩
set_option maxRecDepth 100000 in
theorem f_So_22 : r_fl "RingArm$Soonest" 22 0 1 (.array .int) true := ⟨_, rfl, by decide, (r_in 84 rfl rfl), (by decide +kernel), rfl, rfl⟩
set_option maxRecDepth 100000 in
theorem f_So_30 : r_fl "RingArm$Soonest" 30 0 2 (.array .int) true := ⟨_, rfl, by decide, (r_in 88 rfl rfl), (by decide +kernel), rfl, rfl⟩
set_option maxRecDepth 100000 in
theorem f_Sw_9 : r_fl "RingArm$Sweep" 9 0 1 (.array .int) true := ⟨_, rfl, by decide, (r_in 83 rfl rfl), (by decide +kernel), rfl, rfl⟩
set_option maxRecDepth 100000 in
theorem f_Sw_19 : r_fl "RingArm$Sweep" 19 0 6 .int false := ⟨_, rfl, by decide, (r_in 105 rfl rfl), (by decide +kernel), rfl, rfl⟩
set_option maxRecDepth 100000 in
theorem f_Sw_35 : r_fl "RingArm$Sweep" 35 0 7 .boolean false := ⟨_, rfl, by decide, (r_in 109 rfl rfl), (by decide +kernel), rfl, rfl⟩
set_option maxRecDepth 100000 in
theorem f_Th_9 : r_fl "RingArm$Things" 9 10 0 (.array .int) true := ⟨_, rfl, by decide, (r_in 138 rfl rfl), (by decide +kernel), rfl, rfl⟩
set_option maxRecDepth 100000 in
theorem f_Th_15 : r_fl "RingArm$Things" 15 10 1 (.array .int) true := ⟨_, rfl, by decide, (r_in 140 rfl rfl), (by decide +kernel), rfl, rfl⟩
set_option maxRecDepth 100000 in
theorem f_Th_18 : r_fl "RingArm$Things" 18 10 2 (.array .int) true := ⟨_, rfl, by decide, (r_in 141 rfl rfl), (by decide +kernel), rfl, rfl⟩
set_option maxRecDepth 100000 in
theorem f_Th_21 : r_fl "RingArm$Things" 21 10 3 .int false := ⟨_, rfl, by decide, (r_in 142 rfl rfl), (by decide +kernel), rfl, rfl⟩
set_option maxRecDepth 100000 in
theorem f_Mo_7 : r_fl "RingArmModel" 7 12 0 (.array .int) true := ⟨_, rfl, by decide, (r_in 751 rfl rfl), (by decide +kernel), rfl, rfl⟩
set_option maxRecDepth 100000 in
theorem f_Mo_13 : r_fl "RingArmModel" 13 12 12 (.array .int) true := ⟨_, rfl, by decide, (r_in 763 rfl rfl), (by decide +kernel), rfl, rfl⟩
set_option maxRecDepth 100000 in
theorem f_Mo_16 : r_fl "RingArmModel" 16 12 13 (.array .int) true := ⟨_, rfl, by decide, (r_in 764 rfl rfl), (by decide +kernel), rfl, rfl⟩
set_option maxRecDepth 100000 in
theorem f_Mo_19 : r_fl "RingArmModel" 19 12 14 (.array .int) true := ⟨_, rfl, by decide, (r_in 765 rfl rfl), (by decide +kernel), rfl, rfl⟩
set_option maxRecDepth 100000 in
theorem f_Mo_22 : r_fl "RingArmModel" 22 12 19 (.array .int) true := ⟨_, rfl, by decide, (r_in 770 rfl rfl), (by decide +kernel), rfl, rfl⟩
set_option maxRecDepth 100000 in
theorem f_Mo_25 : r_fl "RingArmModel" 25 12 21 (.array .int) true := ⟨_, rfl, by decide, (r_in 772 rfl rfl), (by decide +kernel), rfl, rfl⟩
set_option maxRecDepth 100000 in
theorem f_Mo_28 : r_fl "RingArmModel" 28 12 22 (.array .int) true := ⟨_, rfl, by decide, (r_in 773 rfl rfl), (by decide +kernel), rfl, rfl⟩
set_option maxRecDepth 100000 in
theorem f_Mo_31 : r_fl "RingArmModel" 31 12 23 (.array .int) true := ⟨_, rfl, by decide, (r_in 774 rfl rfl), (by decide +kernel), rfl, rfl⟩
set_option maxRecDepth 100000 in
theorem f_Mo_34 : r_fl "RingArmModel" 34 12 25 (.array .int) true := ⟨_, rfl, by decide, (r_in 776 rfl rfl), (by decide +kernel), rfl, rfl⟩
set_option maxRecDepth 100000 in
theorem f_Mo_37 : r_fl "RingArmModel" 37 12 36 (.array .int) true := ⟨_, rfl, by decide, (r_in 787 rfl rfl), (by decide +kernel), rfl, rfl⟩
set_option maxRecDepth 100000 in
theorem f_Mo_40 : r_fl "RingArmModel" 40 12 37 (.array .int) true := ⟨_, rfl, by decide, (r_in 788 rfl rfl), (by decide +kernel), rfl, rfl⟩
set_option maxRecDepth 100000 in
theorem f_Mo_43 : r_fl "RingArmModel" 43 12 38 (.array .int) true := ⟨_, rfl, by decide, (r_in 789 rfl rfl), (by decide +kernel), rfl, rfl⟩
set_option maxRecDepth 100000 in
theorem f_Mo_46 : r_fl "RingArmModel" 46 12 39 (.array .int) true := ⟨_, rfl, by decide, (r_in 790 rfl rfl), (by decide +kernel), rfl, rfl⟩
set_option maxRecDepth 100000 in
theorem f_Mo_49 : r_fl "RingArmModel" 49 12 27 .int false := ⟨_, rfl, by decide, (r_in 778 rfl rfl), (by decide +kernel), rfl, rfl⟩
set_option maxRecDepth 100000 in
theorem f_Mo_59 : r_fl "RingArmModel" 59 12 1 .int false := ⟨_, rfl, by decide, (r_in 752 rfl rfl), (by decide +kernel), rfl, rfl⟩
set_option maxRecDepth 100000 in
theorem f_Mo_66 : r_fl "RingArmModel" 66 12 2 .int false := ⟨_, rfl, by decide, (r_in 753 rfl rfl), (by decide +kernel), rfl, rfl⟩
set_option maxRecDepth 100000 in
theorem f_Mo_93 : r_fl "RingArmModel" 93 12 3 .int false := ⟨_, rfl, by decide, (r_in 754 rfl rfl), (by decide +kernel), rfl, rfl⟩
set_option maxRecDepth 100000 in
theorem f_Mo_96 : r_fl "RingArmModel" 96 12 4 .int false := ⟨_, rfl, by decide, (r_in 755 rfl rfl), (by decide +kernel), rfl, rfl⟩
set_option maxRecDepth 100000 in
theorem f_Mo_99 : r_fl "RingArmModel" 99 12 5 .int false := ⟨_, rfl, by decide, (r_in 756 rfl rfl), (by decide +kernel), rfl, rfl⟩
set_option maxRecDepth 100000 in
theorem f_Mo_102 : r_fl "RingArmModel" 102 12 6 .int false := ⟨_, rfl, by decide, (r_in 757 rfl rfl), (by decide +kernel), rfl, rfl⟩
set_option maxRecDepth 100000 in
theorem f_Mo_105 : r_fl "RingArmModel" 105 12 7 .int false := ⟨_, rfl, by decide, (r_in 758 rfl rfl), (by decide +kernel), rfl, rfl⟩
set_option maxRecDepth 100000 in
theorem f_Mo_108 : r_fl "RingArmModel" 108 12 8 .int false := ⟨_, rfl, by decide, (r_in 759 rfl rfl), (by decide +kernel), rfl, rfl⟩
set_option maxRecDepth 100000 in
theorem f_Mo_111 : r_fl "RingArmModel" 111 12 9 .int false := ⟨_, rfl, by decide, (r_in 760 rfl rfl), (by decide +kernel), rfl, rfl⟩
set_option maxRecDepth 100000 in
theorem f_Mo_114 : r_fl "RingArmModel" 114 12 10 .int false := ⟨_, rfl, by decide, (r_in 761 rfl rfl), (by decide +kernel), rfl, rfl⟩
set_option maxRecDepth 100000 in
theorem f_Mo_117 : r_fl "RingArmModel" 117 12 24 .int false := ⟨_, rfl, by decide, (r_in 775 rfl rfl), (by decide +kernel), rfl, rfl⟩
set_option maxRecDepth 100000 in
theorem f_Mo_120 : r_fl "RingArmModel" 120 12 11 .int false := ⟨_, rfl, by decide, (r_in 762 rfl rfl), (by decide +kernel), rfl, rfl⟩
set_option maxRecDepth 100000 in
theorem f_Mo_130 : r_fl "RingArmModel" 130 12 15 .int false := ⟨_, rfl, by decide, (r_in 766 rfl rfl), (by decide +kernel), rfl, rfl⟩
set_option maxRecDepth 100000 in
theorem f_Mo_133 : r_fl "RingArmModel" 133 12 16 .int false := ⟨_, rfl, by decide, (r_in 767 rfl rfl), (by decide +kernel), rfl, rfl⟩
set_option maxRecDepth 100000 in
theorem f_Mo_136 : r_fl "RingArmModel" 136 12 17 .int false := ⟨_, rfl, by decide, (r_in 768 rfl rfl), (by decide +kernel), rfl, rfl⟩
set_option maxRecDepth 100000 in
theorem f_Mo_139 : r_fl "RingArmModel" 139 12 18 .int false := ⟨_, rfl, by decide, (r_in 769 rfl rfl), (by decide +kernel), rfl, rfl⟩
set_option maxRecDepth 100000 in
theorem f_Mo_234 : r_fl "RingArmModel" 234 12 20 .int false := ⟨_, rfl, by decide, (r_in 771 rfl rfl), (by decide +kernel), rfl, rfl⟩
set_option maxRecDepth 100000 in
theorem f_Mo_278 : r_fl "RingArmModel" 278 12 26 .int false := ⟨_, rfl, by decide, (r_in 777 rfl rfl), (by decide +kernel), rfl, rfl⟩
set_option maxRecDepth 100000 in
theorem f_Mo_291 : r_fl "RingArmModel" 291 12 28 .int false := ⟨_, rfl, by decide, (r_in 779 rfl rfl), (by decide +kernel), rfl, rfl⟩
set_option maxRecDepth 100000 in
theorem f_Mo_294 : r_fl "RingArmModel" 294 12 29 .int false := ⟨_, rfl, by decide, (r_in 780 rfl rfl), (by decide +kernel), rfl, rfl⟩
set_option maxRecDepth 100000 in
theorem f_Mo_297 : r_fl "RingArmModel" 297 12 30 .int false := ⟨_, rfl, by decide, (r_in 781 rfl rfl), (by decide +kernel), rfl, rfl⟩
set_option maxRecDepth 100000 in
theorem f_Mo_300 : r_fl "RingArmModel" 300 12 31 .int false := ⟨_, rfl, by decide, (r_in 782 rfl rfl), (by decide +kernel), rfl, rfl⟩
set_option maxRecDepth 100000 in
theorem f_Mo_303 : r_fl "RingArmModel" 303 12 32 .int false := ⟨_, rfl, by decide, (r_in 783 rfl rfl), (by decide +kernel), rfl, rfl⟩
set_option maxRecDepth 100000 in
theorem f_Mo_306 : r_fl "RingArmModel" 306 12 33 .int false := ⟨_, rfl, by decide, (r_in 784 rfl rfl), (by decide +kernel), rfl, rfl⟩
set_option maxRecDepth 100000 in
theorem f_Mo_309 : r_fl "RingArmModel" 309 12 34 .int false := ⟨_, rfl, by decide, (r_in 785 rfl rfl), (by decide +kernel), rfl, rfl⟩
set_option maxRecDepth 100000 in
theorem f_Mo_312 : r_fl "RingArmModel" 312 12 35 .int false := ⟨_, rfl, by decide, (r_in 786 rfl rfl), (by decide +kernel), rfl, rfl⟩
set_option maxRecDepth 100000 in
theorem f_Mo_323 : r_fl "RingArmModel" 323 12 40 .long false := ⟨_, rfl, by decide, (r_in 791 rfl rfl), (by decide +kernel), rfl, rfl⟩
set_option maxRecDepth 100000 in
theorem k_Ra_200 : Cond.constant "RingArm" 200 (100000) ∈ r_wg := r_in 490 rfl rfl
set_option maxRecDepth 100000 in
theorem k_Ra_291 : Cond.constantLong "RingArm" 291 (1291) ∈ r_wg := r_in 720 rfl rfl
set_option maxRecDepth 100000 in
theorem k_Ra_324 : Cond.constantLong "RingArm" 324 (31) ∈ r_wg := r_in 729 rfl rfl
set_option maxRecDepth 100000 in
theorem k_Ra_332 : Cond.constantLong "RingArm" 332 (1103515245) ∈ r_wg := r_in 678 rfl rfl
set_option maxRecDepth 100000 in
theorem k_Ra_334 : Cond.constantLong "RingArm" 334 (12345) ∈ r_wg := r_in 679 rfl rfl
set_option maxRecDepth 100000 in
theorem k_Ra_336 : Cond.constantLong "RingArm" 336 (2147483647) ∈ r_wg := r_in 680 rfl rfl
set_option maxRecDepth 100000 in
theorem k_Ra_338 : Cond.constant "RingArm" 338 (65536) ∈ r_wg := r_in 684 rfl rfl
set_option maxRecDepth 100000 in
theorem k_Or_34 : Cond.constant "RingArm$Orders" 34 (2147483647) ∈ r_wg := r_in 561 rfl rfl
set_option maxRecDepth 100000 in
theorem k_Th_37 : Cond.constant "RingArm$Things" 37 (2147483647) ∈ r_wg := r_in 584 rfl rfl
set_option maxRecDepth 100000 in
theorem k_Mo_53 : Cond.constantLong "RingArmModel" 53 (126) ∈ r_wg := r_in 879 rfl rfl
set_option maxRecDepth 100000 in
theorem k_Mo_62 : Cond.constantLong "RingArmModel" 62 (97) ∈ r_wg := r_in 903 rfl rfl
set_option maxRecDepth 100000 in
theorem k_Mo_64 : Cond.constantLong "RingArmModel" 64 (120) ∈ r_wg := r_in 904 rfl rfl
set_option maxRecDepth 100000 in
theorem k_Mo_77 : Cond.constantLong "RingArmModel" 77 (48) ∈ r_wg := r_in 908 rfl rfl
set_option maxRecDepth 100000 in
theorem k_Mo_79 : Cond.constantLong "RingArmModel" 79 (57) ∈ r_wg := r_in 909 rfl rfl
set_option maxRecDepth 100000 in
theorem k_Mo_81 : Cond.constantLong "RingArmModel" 81 (49) ∈ r_wg := r_in 910 rfl rfl
set_option maxRecDepth 100000 in
theorem k_Mo_177 : Cond.constantLong "RingArmModel" 177 (3) ∈ r_wg := r_in 946 rfl rfl
set_option maxRecDepth 100000 in
theorem k_Mo_182 : Cond.constantLong "RingArmModel" 182 (4) ∈ r_wg := r_in 970 rfl rfl
set_option maxRecDepth 100000 in
theorem k_Mo_203 : Cond.constant "RingArmModel" 203 (100000) ∈ r_wg := r_in 1027 rfl rfl
set_option maxRecDepth 100000 in
theorem k_Mo_207 : Cond.constantLong "RingArmModel" 207 (99) ∈ r_wg := r_in 1036 rfl rfl
set_option maxRecDepth 100000 in
theorem k_Mo_209 : Cond.constantLong "RingArmModel" 209 (23) ∈ r_wg := r_in 1045 rfl rfl
set_option maxRecDepth 100000 in
theorem k_Mo_211 : Cond.constantLong "RingArmModel" 211 (9) ∈ r_wg := r_in 1050 rfl rfl
set_option maxRecDepth 100000 in
theorem k_Mo_216 : Cond.constant "RingArmModel" 216 (1000000) ∈ r_wg := r_in 1073 rfl rfl
set_option maxRecDepth 100000 in
theorem k_Mo_230 : Cond.constantLong "RingArmModel" 230 (10) ∈ r_wg := r_in 1063 rfl rfl
set_option maxRecDepth 100000 in
theorem k_Mo_232 : Cond.constantLong "RingArmModel" 232 (16) ∈ r_wg := r_in 1064 rfl rfl
set_option maxRecDepth 100000 in
theorem k_Mo_240 : Cond.constantLong "RingArmModel" 240 (5) ∈ r_wg := r_in 1089 rfl rfl
set_option maxRecDepth 100000 in
theorem k_Mo_248 : Cond.constantLong "RingArmModel" 248 (15) ∈ r_wg := r_in 1094 rfl rfl
set_option maxRecDepth 100000 in
theorem k_Mo_253 : Cond.constantLong "RingArmModel" 253 (2) ∈ r_wg := r_in 1111 rfl rfl
set_option maxRecDepth 100000 in
theorem k_Mo_268 : Cond.constantLong "RingArmModel" 268 (-1) ∈ r_wg := r_in 1147 rfl rfl
set_option maxRecDepth 100000 in
theorem k_Mo_276 : Cond.constantLong "RingArmModel" 276 (1103515245) ∈ r_wg := r_in 1165 rfl rfl
set_option maxRecDepth 100000 in
theorem k_Mo_281 : Cond.constantLong "RingArmModel" 281 (12345) ∈ r_wg := r_in 1166 rfl rfl
set_option maxRecDepth 100000 in
theorem k_Mo_283 : Cond.constantLong "RingArmModel" 283 (2147483647) ∈ r_wg := r_in 1167 rfl rfl
set_option maxRecDepth 100000 in
theorem k_Mo_285 : Cond.constant "RingArmModel" 285 (65536) ∈ r_wg := r_in 1168 rfl rfl
set_option maxRecDepth 100000 in
theorem k_Mo_286 : Cond.constantLong "RingArmModel" 286 (60) ∈ r_wg := r_in 1160 rfl rfl
set_option maxRecDepth 100000 in
theorem k_Mo_321 : Cond.constantLong "RingArmModel" 321 (31) ∈ r_wg := r_in 1198 rfl rfl
set_option maxRecDepth 100000 in
theorem k_Mo_331 : Cond.constantLong "RingArmModel" 331 (1291) ∈ r_wg := r_in 1193 rfl rfl
set_option maxRecDepth 100000 in
theorem l_Ra_7 : Cond.classLink "RingArm" 7 "RingArm$Page" ∈ r_wg := r_in 23 rfl rfl
set_option maxRecDepth 100000 in
theorem l_Ra_16 : Cond.classLink "RingArm" 16 "RingArm$Disc" ∈ r_wg := r_in 40 rfl rfl
set_option maxRecDepth 100000 in
theorem l_Ra_23 : Cond.classLink "RingArm" 23 "RingArm$Desk" ∈ r_wg := r_in 71 rfl rfl
set_option maxRecDepth 100000 in
theorem l_Ra_32 : Cond.classLink "RingArm" 32 "RingArm$Things" ∈ r_wg := r_in 132 rfl rfl
set_option maxRecDepth 100000 in
theorem l_Ra_39 : Cond.classLink "RingArm" 39 "RingArm$Sight" ∈ r_wg := r_in 152 rfl rfl
set_option maxRecDepth 100000 in
theorem l_Ra_46 : Cond.classLink "RingArm" 46 "RingArm$First" ∈ r_wg := r_in 169 rfl rfl
set_option maxRecDepth 100000 in
theorem l_Ra_49 : Cond.classLink "RingArm" 49 "RingArm$Nearest" ∈ r_wg := r_in 177 rfl rfl
set_option maxRecDepth 100000 in
theorem l_Ra_52 : Cond.classLink "RingArm" 52 "RingArm$Sweep" ∈ r_wg := r_in 184 rfl rfl
set_option maxRecDepth 100000 in
theorem l_Ra_55 : Cond.classLink "RingArm" 55 "RingArm$Round" ∈ r_wg := r_in 191 rfl rfl
set_option maxRecDepth 100000 in
theorem l_Ra_58 : Cond.classLink "RingArm" 58 "RingArm$Soonest" ∈ r_wg := r_in 198 rfl rfl
set_option maxRecDepth 100000 in
theorem l_Ra_91 : Cond.classLink "RingArm" 91 "RingArm$Orders" ∈ r_wg := r_in 205 rfl rfl
set_option maxRecDepth 100000 in
theorem l_Lw_7 : Cond.classLink "RingArmLaw" 7 "RingArm" ∈ r_wg := r_in 15 rfl rfl
set_option maxRecDepth 100000 in
theorem l_Lw_10 : Cond.classLink "RingArmLaw" 10 "RingArmModel" ∈ r_wg := r_in 745 rfl rfl
set_option maxRecDepth 100000 in
theorem n_Lw : Cond.initialized "RingArmLaw" ∈ r_wg := r_in 0 rfl rfl
set_option maxRecDepth 100000 in
theorem n_Ra : Cond.initialized "RingArm" ∈ r_wg := r_in 1 rfl rfl
set_option maxRecDepth 100000 in
theorem n_Pa : Cond.initialized "RingArm$Page" ∈ r_wg := r_in 2 rfl rfl
set_option maxRecDepth 100000 in
theorem n_Di : Cond.initialized "RingArm$Disc" ∈ r_wg := r_in 3 rfl rfl
set_option maxRecDepth 100000 in
theorem n_Dk : Cond.initialized "RingArm$Desk" ∈ r_wg := r_in 4 rfl rfl
set_option maxRecDepth 100000 in
theorem n_Th : Cond.initialized "RingArm$Things" ∈ r_wg := r_in 5 rfl rfl
set_option maxRecDepth 100000 in
theorem n_Si : Cond.initialized "RingArm$Sight" ∈ r_wg := r_in 6 rfl rfl
set_option maxRecDepth 100000 in
theorem n_Fi : Cond.initialized "RingArm$First" ∈ r_wg := r_in 7 rfl rfl
set_option maxRecDepth 100000 in
theorem n_Ne : Cond.initialized "RingArm$Nearest" ∈ r_wg := r_in 8 rfl rfl
set_option maxRecDepth 100000 in
theorem n_Sw : Cond.initialized "RingArm$Sweep" ∈ r_wg := r_in 9 rfl rfl
set_option maxRecDepth 100000 in
theorem n_Ro : Cond.initialized "RingArm$Round" ∈ r_wg := r_in 10 rfl rfl
set_option maxRecDepth 100000 in
theorem n_So : Cond.initialized "RingArm$Soonest" ∈ r_wg := r_in 11 rfl rfl
set_option maxRecDepth 100000 in
theorem n_Or : Cond.initialized "RingArm$Orders" ∈ r_wg := r_in 12 rfl rfl
set_option maxRecDepth 100000 in
theorem n_Mo : Cond.initialized "RingArmModel" ∈ r_wg := r_in 13 rfl rfl
set_option maxRecDepth 100000 in
theorem n_Jm : Cond.initialized "java/lang/Math" ∈ r_wg := r_in 14 rfl rfl
set_option maxRecDepth 100000 in
theorem b_Ra : Cond.instantiable "RingArm" 17 ∈ r_wg := r_in 16 rfl rfl
set_option maxRecDepth 100000 in
theorem b_Pa : Cond.instantiable "RingArm$Page" 2 ∈ r_wg := r_in 24 rfl rfl
set_option maxRecDepth 100000 in
theorem b_Di : Cond.instantiable "RingArm$Disc" 6 ∈ r_wg := r_in 41 rfl rfl
set_option maxRecDepth 100000 in
theorem b_Dk : Cond.instantiable "RingArm$Desk" 9 ∈ r_wg := r_in 72 rfl rfl
set_option maxRecDepth 100000 in
theorem b_Th : Cond.instantiable "RingArm$Things" 4 ∈ r_wg := r_in 133 rfl rfl
set_option maxRecDepth 100000 in
theorem b_Si : Cond.instantiable "RingArm$Sight" 3 ∈ r_wg := r_in 153 rfl rfl
set_option maxRecDepth 100000 in
theorem b_Fi : Cond.instantiable "RingArm$First" 0 ∈ r_wg := r_in 171 rfl rfl
set_option maxRecDepth 100000 in
theorem b_Ne : Cond.instantiable "RingArm$Nearest" 0 ∈ r_wg := r_in 178 rfl rfl
set_option maxRecDepth 100000 in
theorem b_Sw : Cond.instantiable "RingArm$Sweep" 0 ∈ r_wg := r_in 185 rfl rfl
set_option maxRecDepth 100000 in
theorem b_Ro : Cond.instantiable "RingArm$Round" 0 ∈ r_wg := r_in 192 rfl rfl
set_option maxRecDepth 100000 in
theorem b_So : Cond.instantiable "RingArm$Soonest" 0 ∈ r_wg := r_in 199 rfl rfl
set_option maxRecDepth 100000 in
theorem b_Or : Cond.instantiable "RingArm$Orders" 4 ∈ r_wg := r_in 206 rfl rfl
set_option maxRecDepth 100000 in
theorem b_Mo : Cond.instantiable "RingArmModel" 41 ∈ r_wg := r_in 746 rfl rfl
set_option maxRecDepth 100000 in
theorem w_Dk_init : r_cw m_Dk_init ∈ r_wg := r_in 75 rfl rfl
set_option maxRecDepth 100000 in
theorem a_Dk_init : Cond.instanceMethod m_Dk_init.1 ∈ r_wg := r_in 74 rfl rfl
set_option maxRecDepth 100000 in
theorem w_Dk_restart : r_cw m_Dk_restart ∈ r_wg := r_in 356 rfl rfl
set_option maxRecDepth 100000 in
theorem a_Dk_restart : Cond.instanceMethod m_Dk_restart.1 ∈ r_wg := r_in 354 rfl rfl
set_option maxRecDepth 100000 in
theorem w_Dk_copyFrom : r_cw m_Dk_copyFrom ∈ r_wg := r_in 542 rfl rfl
set_option maxRecDepth 100000 in
theorem a_Dk_copyFrom : Cond.instanceMethod m_Dk_copyFrom.1 ∈ r_wg := r_in 540 rfl rfl
set_option maxRecDepth 100000 in
theorem w_Dk_has : r_cw m_Dk_has ∈ r_wg := r_in 391 rfl rfl
set_option maxRecDepth 100000 in
theorem a_Dk_has : Cond.instanceMethod m_Dk_has.1 ∈ r_wg := r_in 389 rfl rfl
set_option maxRecDepth 100000 in
theorem w_Dk_bitsOn : r_cw m_Dk_bitsOn ∈ r_wg := r_in 378 rfl rfl
set_option maxRecDepth 100000 in
theorem a_Dk_bitsOn : Cond.instanceMethod m_Dk_bitsOn.1 ∈ r_wg := r_in 376 rfl rfl
set_option maxRecDepth 100000 in
theorem w_Dk_doneAt : r_cw m_Dk_doneAt ∈ r_wg := r_in 395 rfl rfl
set_option maxRecDepth 100000 in
theorem a_Dk_doneAt : Cond.instanceMethod m_Dk_doneAt.1 ∈ r_wg := r_in 393 rfl rfl
set_option maxRecDepth 100000 in
theorem w_Dk_append : r_cw m_Dk_append ∈ r_wg := r_in 484 rfl rfl
set_option maxRecDepth 100000 in
theorem a_Dk_append : Cond.instanceMethod m_Dk_append.1 ∈ r_wg := r_in 482 rfl rfl
set_option maxRecDepth 100000 in
theorem w_Dk_follow : r_cw m_Dk_follow ∈ r_wg := r_in 494 rfl rfl
set_option maxRecDepth 100000 in
theorem a_Dk_follow : Cond.instanceMethod m_Dk_follow.1 ∈ r_wg := r_in 492 rfl rfl
set_option maxRecDepth 100000 in
theorem w_Dk_followAll : r_cw m_Dk_followAll ∈ r_wg := r_in 549 rfl rfl
set_option maxRecDepth 100000 in
theorem a_Dk_followAll : Cond.instanceMethod m_Dk_followAll.1 ∈ r_wg := r_in 547 rfl rfl
set_option maxRecDepth 100000 in
theorem w_Dk_finish : r_cw m_Dk_finish ∈ r_wg := r_in 511 rfl rfl
set_option maxRecDepth 100000 in
theorem a_Dk_finish : Cond.instanceMethod m_Dk_finish.1 ∈ r_wg := r_in 509 rfl rfl
set_option maxRecDepth 100000 in
theorem w_Di_init : r_cw m_Di_init ∈ r_wg := r_in 44 rfl rfl
set_option maxRecDepth 100000 in
theorem a_Di_init : Cond.instanceMethod m_Di_init.1 ∈ r_wg := r_in 43 rfl rfl
set_option maxRecDepth 100000 in
theorem w_Di_readFrom : r_cw m_Di_readFrom ∈ r_wg := r_in 345 rfl rfl
set_option maxRecDepth 100000 in
theorem a_Di_readFrom : Cond.instanceMethod m_Di_readFrom.1 ∈ r_wg := r_in 343 rfl rfl
set_option maxRecDepth 100000 in
theorem w_Di_copyFrom : r_cw m_Di_copyFrom ∈ r_wg := r_in 692 rfl rfl
set_option maxRecDepth 100000 in
theorem a_Di_copyFrom : Cond.instanceMethod m_Di_copyFrom.1 ∈ r_wg := r_in 690 rfl rfl
set_option maxRecDepth 100000 in
theorem w_Di_has : r_cw m_Di_has ∈ r_wg := r_in 373 rfl rfl
set_option maxRecDepth 100000 in
theorem a_Di_has : Cond.instanceMethod m_Di_has.1 ∈ r_wg := r_in 371 rfl rfl
set_option maxRecDepth 100000 in
theorem w_Di_allPlaces : r_cw m_Di_allPlaces ∈ r_wg := r_in 714 rfl rfl
set_option maxRecDepth 100000 in
theorem a_Di_allPlaces : Cond.instanceMethod m_Di_allPlaces.1 ∈ r_wg := r_in 712 rfl rfl
set_option maxRecDepth 100000 in
theorem w_Di_travel : r_cw m_Di_travel ∈ r_wg := r_in 383 rfl rfl
set_option maxRecDepth 100000 in
theorem a_Di_travel : Cond.instanceMethod m_Di_travel.1 ∈ r_wg := r_in 381 rfl rfl
set_option maxRecDepth 100000 in
theorem w_Di_doneAt : r_cw m_Di_doneAt ∈ r_wg := r_in 399 rfl rfl
set_option maxRecDepth 100000 in
theorem a_Di_doneAt : Cond.instanceMethod m_Di_doneAt.1 ∈ r_wg := r_in 397 rfl rfl
set_option maxRecDepth 100000 in
theorem w_Di_bestGap : r_cw m_Di_bestGap ∈ r_wg := r_in 616 rfl rfl
set_option maxRecDepth 100000 in
theorem a_Di_bestGap : Cond.instanceMethod m_Di_bestGap.1 ∈ r_wg := r_in 614 rfl rfl
set_option maxRecDepth 100000 in
theorem w_Di_gapTicks : r_cw m_Di_gapTicks ∈ r_wg := r_in 623 rfl rfl
set_option maxRecDepth 100000 in
theorem a_Di_gapTicks : Cond.instanceMethod m_Di_gapTicks.1 ∈ r_wg := r_in 621 rfl rfl
set_option maxRecDepth 100000 in
theorem w_Di_haveNoDivisor : r_cw m_Di_haveNoDivisor ∈ r_wg := r_in 619 rfl rfl
set_option maxRecDepth 100000 in
theorem a_Di_haveNoDivisor : Cond.static m_Di_haveNoDivisor.1 ∈ r_wg := r_in 618 rfl rfl
set_option maxRecDepth 100000 in
theorem w_Fi_init : r_cw m_Fi_init ∈ r_wg := r_in 174 rfl rfl
set_option maxRecDepth 100000 in
theorem a_Fi_init : Cond.instanceMethod m_Fi_init.1 ∈ r_wg := r_in 173 rfl rfl
set_option maxRecDepth 100000 in
theorem w_Fi_kind : r_cw m_Fi_kind ∈ r_wg := r_in 434 rfl rfl
set_option maxRecDepth 100000 in
theorem a_Fi_kind : Cond.instanceMethod m_Fi_kind.1 ∈ r_wg := r_in 419 rfl rfl
set_option maxRecDepth 100000 in
theorem w_Fi_price : r_cw m_Fi_price ∈ r_wg := r_in 476 rfl rfl
set_option maxRecDepth 100000 in
theorem a_Fi_price : Cond.instanceMethod m_Fi_price.1 ∈ r_wg := r_in 449 rfl rfl
set_option maxRecDepth 100000 in
theorem w_Fi_turns : r_cw m_Fi_turns ∈ r_wg := r_in 507 rfl rfl
set_option maxRecDepth 100000 in
theorem a_Fi_turns : Cond.instanceMethod m_Fi_turns.1 ∈ r_wg := r_in 496 rfl rfl
set_option maxRecDepth 100000 in
theorem w_Fi_pick : r_cw m_Fi_pick ∈ r_wg := r_in 447 rfl rfl
set_option maxRecDepth 100000 in
theorem a_Fi_pick : Cond.instanceMethod m_Fi_pick.1 ∈ r_wg := r_in 440 rfl rfl
set_option maxRecDepth 100000 in
theorem w_Ne_init : r_cw m_Ne_init ∈ r_wg := r_in 181 rfl rfl
set_option maxRecDepth 100000 in
theorem a_Ne_init : Cond.instanceMethod m_Ne_init.1 ∈ r_wg := r_in 180 rfl rfl
set_option maxRecDepth 100000 in
theorem w_Ne_kind : r_cw m_Ne_kind ∈ r_wg := r_in 424 rfl rfl
set_option maxRecDepth 100000 in
theorem a_Ne_kind : Cond.instanceMethod m_Ne_kind.1 ∈ r_wg := r_in 423 rfl rfl
set_option maxRecDepth 100000 in
theorem w_Ne_price : r_cw m_Ne_price ∈ r_wg := r_in 454 rfl rfl
set_option maxRecDepth 100000 in
theorem a_Ne_price : Cond.instanceMethod m_Ne_price.1 ∈ r_wg := r_in 453 rfl rfl
set_option maxRecDepth 100000 in
theorem w_Or_init : r_cw m_Or_init ∈ r_wg := r_in 209 rfl rfl
set_option maxRecDepth 100000 in
theorem a_Or_init : Cond.instanceMethod m_Or_init.1 ∈ r_wg := r_in 208 rfl rfl
set_option maxRecDepth 100000 in
theorem w_Or_solve : r_cw m_Or_solve ∈ r_wg := r_in 559 rfl rfl
set_option maxRecDepth 100000 in
theorem a_Or_solve : Cond.instanceMethod m_Or_solve.1 ∈ r_wg := r_in 557 rfl rfl
set_option maxRecDepth 100000 in
theorem w_Or_search : r_cw m_Or_search ∈ r_wg := r_in 564 rfl rfl
set_option maxRecDepth 100000 in
theorem a_Or_search : Cond.static m_Or_search.1 ∈ r_wg := r_in 563 rfl rfl
set_option maxRecDepth 100000 in
theorem w_Pa_init : r_cw m_Pa_init ∈ r_wg := r_in 27 rfl rfl
set_option maxRecDepth 100000 in
theorem a_Pa_init : Cond.instanceMethod m_Pa_init.1 ∈ r_wg := r_in 26 rfl rfl
set_option maxRecDepth 100000 in
theorem w_Pa_append : r_cw m_Pa_append ∈ r_wg := r_in 286 rfl rfl
set_option maxRecDepth 100000 in
theorem a_Pa_append : Cond.instanceMethod m_Pa_append.1 ∈ r_wg := r_in 284 rfl rfl
set_option maxRecDepth 100000 in
theorem w_Pa_clear : r_cw m_Pa_clear ∈ r_wg := r_in 297 rfl rfl
set_option maxRecDepth 100000 in
theorem a_Pa_clear : Cond.instanceMethod m_Pa_clear.1 ∈ r_wg := r_in 295 rfl rfl
set_option maxRecDepth 100000 in
theorem w_Pa_firstFault : r_cw m_Pa_firstFault ∈ r_wg := r_in 305 rfl rfl
set_option maxRecDepth 100000 in
theorem a_Pa_firstFault : Cond.instanceMethod m_Pa_firstFault.1 ∈ r_wg := r_in 303 rfl rfl
set_option maxRecDepth 100000 in
theorem w_Pa_isPlate : r_cw m_Pa_isPlate ∈ r_wg := r_in 328 rfl rfl
set_option maxRecDepth 100000 in
theorem a_Pa_isPlate : Cond.instanceMethod m_Pa_isPlate.1 ∈ r_wg := r_in 326 rfl rfl
set_option maxRecDepth 100000 in
theorem w_Pa_ringsEnd : r_cw m_Pa_ringsEnd ∈ r_wg := r_in 333 rfl rfl
set_option maxRecDepth 100000 in
theorem a_Pa_ringsEnd : Cond.instanceMethod m_Pa_ringsEnd.1 ∈ r_wg := r_in 331 rfl rfl
set_option maxRecDepth 100000 in
theorem w_Pa_policyKind : r_cw m_Pa_policyKind ∈ r_wg := r_in 337 rfl rfl
set_option maxRecDepth 100000 in
theorem a_Pa_policyKind : Cond.instanceMethod m_Pa_policyKind.1 ∈ r_wg := r_in 335 rfl rfl
set_option maxRecDepth 100000 in
theorem w_Pa_fitsRings : r_cw m_Pa_fitsRings ∈ r_wg := r_in 311 rfl rfl
set_option maxRecDepth 100000 in
theorem a_Pa_fitsRings : Cond.static m_Pa_fitsRings.1 ∈ r_wg := r_in 310 rfl rfl
set_option maxRecDepth 100000 in
theorem w_Pa_fitsTail : r_cw m_Pa_fitsTail ∈ r_wg := r_in 317 rfl rfl
set_option maxRecDepth 100000 in
theorem a_Pa_fitsTail : Cond.static m_Pa_fitsTail.1 ∈ r_wg := r_in 316 rfl rfl
set_option maxRecDepth 100000 in
theorem w_Pa_placesOf : r_cw m_Pa_placesOf ∈ r_wg := r_in 314 rfl rfl
set_option maxRecDepth 100000 in
theorem a_Pa_placesOf : Cond.static m_Pa_placesOf.1 ∈ r_wg := r_in 313 rfl rfl
set_option maxRecDepth 100000 in
theorem w_Pa_kindOf : r_cw m_Pa_kindOf ∈ r_wg := r_in 320 rfl rfl
set_option maxRecDepth 100000 in
theorem a_Pa_kindOf : Cond.static m_Pa_kindOf.1 ∈ r_wg := r_in 319 rfl rfl
set_option maxRecDepth 100000 in
theorem w_Ro_init : r_cw m_Ro_init ∈ r_wg := r_in 195 rfl rfl
set_option maxRecDepth 100000 in
theorem a_Ro_init : Cond.instanceMethod m_Ro_init.1 ∈ r_wg := r_in 194 rfl rfl
set_option maxRecDepth 100000 in
theorem w_Ro_kind : r_cw m_Ro_kind ∈ r_wg := r_in 427 rfl rfl
set_option maxRecDepth 100000 in
theorem a_Ro_kind : Cond.instanceMethod m_Ro_kind.1 ∈ r_wg := r_in 426 rfl rfl
set_option maxRecDepth 100000 in
theorem w_Ro_price : r_cw m_Ro_price ∈ r_wg := r_in 461 rfl rfl
set_option maxRecDepth 100000 in
theorem a_Ro_price : Cond.instanceMethod m_Ro_price.1 ∈ r_wg := r_in 460 rfl rfl
set_option maxRecDepth 100000 in
theorem w_Ro_turns : r_cw m_Ro_turns ∈ r_wg := r_in 502 rfl rfl
set_option maxRecDepth 100000 in
theorem a_Ro_turns : Cond.instanceMethod m_Ro_turns.1 ∈ r_wg := r_in 501 rfl rfl
set_option maxRecDepth 100000 in
theorem w_Si_init : r_cw m_Si_init ∈ r_wg := r_in 156 rfl rfl
set_option maxRecDepth 100000 in
theorem a_Si_init : Cond.instanceMethod m_Si_init.1 ∈ r_wg := r_in 155 rfl rfl
set_option maxRecDepth 100000 in
theorem w_Si_append : r_cw m_Si_append ∈ r_wg := r_in 632 rfl rfl
set_option maxRecDepth 100000 in
theorem a_Si_append : Cond.instanceMethod m_Si_append.1 ∈ r_wg := r_in 630 rfl rfl
set_option maxRecDepth 100000 in
theorem w_Si_clear : r_cw m_Si_clear ∈ r_wg := r_in 365 rfl rfl
set_option maxRecDepth 100000 in
theorem a_Si_clear : Cond.instanceMethod m_Si_clear.1 ∈ r_wg := r_in 363 rfl rfl
set_option maxRecDepth 100000 in
theorem w_Si_copyFrom : r_cw m_Si_copyFrom ∈ r_wg := r_in 701 rfl rfl
set_option maxRecDepth 100000 in
theorem a_Si_copyFrom : Cond.instanceMethod m_Si_copyFrom.1 ∈ r_wg := r_in 699 rfl rfl
set_option maxRecDepth 100000 in
theorem w_Si_fitting : r_cw m_Si_fitting ∈ r_wg := r_in 645 rfl rfl
set_option maxRecDepth 100000 in
theorem a_Si_fitting : Cond.instanceMethod m_Si_fitting.1 ∈ r_wg := r_in 643 rfl rfl
set_option maxRecDepth 100000 in
theorem w_Si_isSo : r_cw m_Si_isSo ∈ r_wg := r_in 649 rfl rfl
set_option maxRecDepth 100000 in
theorem a_Si_isSo : Cond.instanceMethod m_Si_isSo.1 ∈ r_wg := r_in 648 rfl rfl
set_option maxRecDepth 100000 in
theorem w_So_init : r_cw m_So_init ∈ r_wg := r_in 202 rfl rfl
set_option maxRecDepth 100000 in
theorem a_So_init : Cond.instanceMethod m_So_init.1 ∈ r_wg := r_in 201 rfl rfl
set_option maxRecDepth 100000 in
theorem w_So_kind : r_cw m_So_kind ∈ r_wg := r_in 430 rfl rfl
set_option maxRecDepth 100000 in
theorem a_So_kind : Cond.instanceMethod m_So_kind.1 ∈ r_wg := r_in 429 rfl rfl
set_option maxRecDepth 100000 in
theorem w_So_price : r_cw m_So_price ∈ r_wg := r_in 465 rfl rfl
set_option maxRecDepth 100000 in
theorem a_So_price : Cond.instanceMethod m_So_price.1 ∈ r_wg := r_in 464 rfl rfl
set_option maxRecDepth 100000 in
theorem w_Sw_init : r_cw m_Sw_init ∈ r_wg := r_in 188 rfl rfl
set_option maxRecDepth 100000 in
theorem a_Sw_init : Cond.instanceMethod m_Sw_init.1 ∈ r_wg := r_in 187 rfl rfl
set_option maxRecDepth 100000 in
theorem w_Sw_kind : r_cw m_Sw_kind ∈ r_wg := r_in 433 rfl rfl
set_option maxRecDepth 100000 in
theorem a_Sw_kind : Cond.instanceMethod m_Sw_kind.1 ∈ r_wg := r_in 432 rfl rfl
set_option maxRecDepth 100000 in
theorem w_Sw_price : r_cw m_Sw_price ∈ r_wg := r_in 470 rfl rfl
set_option maxRecDepth 100000 in
theorem a_Sw_price : Cond.instanceMethod m_Sw_price.1 ∈ r_wg := r_in 469 rfl rfl
set_option maxRecDepth 100000 in
theorem w_Sw_turns : r_cw m_Sw_turns ∈ r_wg := r_in 506 rfl rfl
set_option maxRecDepth 100000 in
theorem a_Sw_turns : Cond.instanceMethod m_Sw_turns.1 ∈ r_wg := r_in 505 rfl rfl
set_option maxRecDepth 100000 in
theorem w_Sw_isAhead : r_cw m_Sw_isAhead ∈ r_wg := r_in 475 rfl rfl
set_option maxRecDepth 100000 in
theorem a_Sw_isAhead : Cond.static m_Sw_isAhead.1 ∈ r_wg := r_in 474 rfl rfl
set_option maxRecDepth 100000 in
theorem w_Th_init : r_cw m_Th_init ∈ r_wg := r_in 136 rfl rfl
set_option maxRecDepth 100000 in
theorem a_Th_init : Cond.instanceMethod m_Th_init.1 ∈ r_wg := r_in 135 rfl rfl
set_option maxRecDepth 100000 in
theorem w_Th_clear : r_cw m_Th_clear ∈ r_wg := r_in 360 rfl rfl
set_option maxRecDepth 100000 in
theorem a_Th_clear : Cond.instanceMethod m_Th_clear.1 ∈ r_wg := r_in 358 rfl rfl
set_option maxRecDepth 100000 in
theorem w_Th_copyFrom : r_cw m_Th_copyFrom ∈ r_wg := r_in 697 rfl rfl
set_option maxRecDepth 100000 in
theorem a_Th_copyFrom : Cond.instanceMethod m_Th_copyFrom.1 ∈ r_wg := r_in 695 rfl rfl
set_option maxRecDepth 100000 in
theorem w_Th_howMany : r_cw m_Th_howMany ∈ r_wg := r_in 588 rfl rfl
set_option maxRecDepth 100000 in
theorem a_Th_howMany : Cond.instanceMethod m_Th_howMany.1 ∈ r_wg := r_in 586 rfl rfl
set_option maxRecDepth 100000 in
theorem w_Th_solve : r_cw m_Th_solve ∈ r_wg := r_in 583 rfl rfl
set_option maxRecDepth 100000 in
theorem a_Th_solve : Cond.instanceMethod m_Th_solve.1 ∈ r_wg := r_in 581 rfl rfl
set_option maxRecDepth 100000 in
theorem w_Th_told : r_cw m_Th_told ∈ r_wg := r_in 603 rfl rfl
set_option maxRecDepth 100000 in
theorem a_Th_told : Cond.instanceMethod m_Th_told.1 ∈ r_wg := r_in 601 rfl rfl
set_option maxRecDepth 100000 in
theorem w_Th_search : r_cw m_Th_search ∈ r_wg := r_in 592 rfl rfl
set_option maxRecDepth 100000 in
theorem a_Th_search : Cond.static m_Th_search.1 ∈ r_wg := r_in 591 rfl rfl
set_option maxRecDepth 100000 in
theorem w_Th_share : r_cw m_Th_share ∈ r_wg := r_in 598 rfl rfl
set_option maxRecDepth 100000 in
theorem a_Th_share : Cond.instanceMethod m_Th_share.1 ∈ r_wg := r_in 597 rfl rfl
set_option maxRecDepth 100000 in
theorem w_Ra_init : r_cw m_Ra_init ∈ r_wg := r_in 19 rfl rfl
set_option maxRecDepth 100000 in
theorem a_Ra_init : Cond.instanceMethod m_Ra_init.1 ∈ r_wg := r_in 18 rfl rfl
set_option maxRecDepth 100000 in
theorem w_Ra_letter : r_cw m_Ra_letter ∈ r_wg := r_in 282 rfl rfl
set_option maxRecDepth 100000 in
theorem a_Ra_letter : Cond.instanceMethod m_Ra_letter.1 ∈ r_wg := r_in 280 rfl rfl
set_option maxRecDepth 100000 in
theorem w_Ra_blank : r_cw m_Ra_blank ∈ r_wg := r_in 293 rfl rfl
set_option maxRecDepth 100000 in
theorem a_Ra_blank : Cond.instanceMethod m_Ra_blank.1 ∈ r_wg := r_in 291 rfl rfl
set_option maxRecDepth 100000 in
theorem w_Ra_fault : r_cw m_Ra_fault ∈ r_wg := r_in 301 rfl rfl
set_option maxRecDepth 100000 in
theorem a_Ra_fault : Cond.instanceMethod m_Ra_fault.1 ∈ r_wg := r_in 299 rfl rfl
set_option maxRecDepth 100000 in
theorem w_Ra_plate : r_cw m_Ra_plate ∈ r_wg := r_in 324 rfl rfl
set_option maxRecDepth 100000 in
theorem a_Ra_plate : Cond.instanceMethod m_Ra_plate.1 ∈ r_wg := r_in 322 rfl rfl
set_option maxRecDepth 100000 in
theorem w_Ra_ring : r_cw m_Ra_ring ∈ r_wg := r_in 369 rfl rfl
set_option maxRecDepth 100000 in
theorem a_Ra_ring : Cond.instanceMethod m_Ra_ring.1 ∈ r_wg := r_in 367 rfl rfl
set_option maxRecDepth 100000 in
theorem w_Ra_asked : r_cw m_Ra_asked ∈ r_wg := r_in 387 rfl rfl
set_option maxRecDepth 100000 in
theorem a_Ra_asked : Cond.instanceMethod m_Ra_asked.1 ∈ r_wg := r_in 385 rfl rfl
set_option maxRecDepth 100000 in
theorem w_Ra_as : r_cw m_Ra_as ∈ r_wg := r_in 407 rfl rfl
set_option maxRecDepth 100000 in
theorem a_Ra_as : Cond.instanceMethod m_Ra_as.1 ∈ r_wg := r_in 405 rfl rfl
set_option maxRecDepth 100000 in
theorem w_Ra_next : r_cw m_Ra_next ∈ r_wg := r_in 438 rfl rfl
set_option maxRecDepth 100000 in
theorem a_Ra_next : Cond.instanceMethod m_Ra_next.1 ∈ r_wg := r_in 436 rfl rfl
set_option maxRecDepth 100000 in
theorem w_Ra_ask : r_cw m_Ra_ask ∈ r_wg := r_in 480 rfl rfl
set_option maxRecDepth 100000 in
theorem a_Ra_ask : Cond.instanceMethod m_Ra_ask.1 ∈ r_wg := r_in 478 rfl rfl
set_option maxRecDepth 100000 in
theorem w_Ra_serve : r_cw m_Ra_serve ∈ r_wg := r_in 489 rfl rfl
set_option maxRecDepth 100000 in
theorem a_Ra_serve : Cond.instanceMethod m_Ra_serve.1 ∈ r_wg := r_in 487 rfl rfl
set_option maxRecDepth 100000 in
theorem w_Ra_read : r_cw m_Ra_read ∈ r_wg := r_in 516 rfl rfl
set_option maxRecDepth 100000 in
theorem a_Ra_read : Cond.instanceMethod m_Ra_read.1 ∈ r_wg := r_in 514 rfl rfl
set_option maxRecDepth 100000 in
theorem w_Ra_pass : r_cw m_Ra_pass ∈ r_wg := r_in 521 rfl rfl
set_option maxRecDepth 100000 in
theorem a_Ra_pass : Cond.instanceMethod m_Ra_pass.1 ∈ r_wg := r_in 519 rfl rfl
set_option maxRecDepth 100000 in
theorem w_Ra_choose : r_cw m_Ra_choose ∈ r_wg := r_in 525 rfl rfl
set_option maxRecDepth 100000 in
theorem a_Ra_choose : Cond.instanceMethod m_Ra_choose.1 ∈ r_wg := r_in 523 rfl rfl
set_option maxRecDepth 100000 in
theorem w_Ra_skew : r_cw m_Ra_skew ∈ r_wg := r_in 529 rfl rfl
set_option maxRecDepth 100000 in
theorem a_Ra_skew : Cond.instanceMethod m_Ra_skew.1 ∈ r_wg := r_in 527 rfl rfl
set_option maxRecDepth 100000 in
theorem w_Ra_gear : r_cw m_Ra_gear ∈ r_wg := r_in 534 rfl rfl
set_option maxRecDepth 100000 in
theorem a_Ra_gear : Cond.instanceMethod m_Ra_gear.1 ∈ r_wg := r_in 532 rfl rfl
set_option maxRecDepth 100000 in
theorem w_Ra_run : r_cw m_Ra_run ∈ r_wg := r_in 538 rfl rfl
set_option maxRecDepth 100000 in
theorem a_Ra_run : Cond.instanceMethod m_Ra_run.1 ∈ r_wg := r_in 536 rfl rfl
set_option maxRecDepth 100000 in
theorem w_Ra_least : r_cw m_Ra_least ∈ r_wg := r_in 555 rfl rfl
set_option maxRecDepth 100000 in
theorem a_Ra_least : Cond.instanceMethod m_Ra_least.1 ∈ r_wg := r_in 553 rfl rfl
set_option maxRecDepth 100000 in
theorem w_Ra_weigh : r_cw m_Ra_weigh ∈ r_wg := r_in 575 rfl rfl
set_option maxRecDepth 100000 in
theorem a_Ra_weigh : Cond.instanceMethod m_Ra_weigh.1 ∈ r_wg := r_in 573 rfl rfl
set_option maxRecDepth 100000 in
theorem w_Ra_lay : r_cw m_Ra_lay ∈ r_wg := r_in 579 rfl rfl
set_option maxRecDepth 100000 in
theorem a_Ra_lay : Cond.instanceMethod m_Ra_lay.1 ∈ r_wg := r_in 577 rfl rfl
set_option maxRecDepth 100000 in
theorem w_Ra_behind : r_cw m_Ra_behind ∈ r_wg := r_in 607 rfl rfl
set_option maxRecDepth 100000 in
theorem a_Ra_behind : Cond.instanceMethod m_Ra_behind.1 ∈ r_wg := r_in 605 rfl rfl
set_option maxRecDepth 100000 in
theorem w_Ra_apart : r_cw m_Ra_apart ∈ r_wg := r_in 612 rfl rfl
set_option maxRecDepth 100000 in
theorem a_Ra_apart : Cond.instanceMethod m_Ra_apart.1 ∈ r_wg := r_in 610 rfl rfl
set_option maxRecDepth 100000 in
theorem w_Ra_see : r_cw m_Ra_see ∈ r_wg := r_in 628 rfl rfl
set_option maxRecDepth 100000 in
theorem a_Ra_see : Cond.instanceMethod m_Ra_see.1 ∈ r_wg := r_in 626 rfl rfl
set_option maxRecDepth 100000 in
theorem w_Ra_forget : r_cw m_Ra_forget ∈ r_wg := r_in 637 rfl rfl
set_option maxRecDepth 100000 in
theorem a_Ra_forget : Cond.instanceMethod m_Ra_forget.1 ∈ r_wg := r_in 635 rfl rfl
set_option maxRecDepth 100000 in
theorem w_Ra_steps : r_cw m_Ra_steps ∈ r_wg := r_in 641 rfl rfl
set_option maxRecDepth 100000 in
theorem a_Ra_steps : Cond.instanceMethod m_Ra_steps.1 ∈ r_wg := r_in 639 rfl rfl
set_option maxRecDepth 100000 in
theorem w_Ra_trial : r_cw m_Ra_trial ∈ r_wg := r_in 655 rfl rfl
set_option maxRecDepth 100000 in
theorem a_Ra_trial : Cond.instanceMethod m_Ra_trial.1 ∈ r_wg := r_in 653 rfl rfl
set_option maxRecDepth 100000 in
theorem w_Ra_days : r_cw m_Ra_days ∈ r_wg := r_in 670 rfl rfl
set_option maxRecDepth 100000 in
theorem a_Ra_days : Cond.instanceMethod m_Ra_days.1 ∈ r_wg := r_in 668 rfl rfl
set_option maxRecDepth 100000 in
theorem w_Ra_image : r_cw m_Ra_image ∈ r_wg := r_in 688 rfl rfl
set_option maxRecDepth 100000 in
theorem a_Ra_image : Cond.instanceMethod m_Ra_image.1 ∈ r_wg := r_in 686 rfl rfl
set_option maxRecDepth 100000 in
theorem w_Ra_restore : r_cw m_Ra_restore ∈ r_wg := r_in 706 rfl rfl
set_option maxRecDepth 100000 in
theorem a_Ra_restore : Cond.instanceMethod m_Ra_restore.1 ∈ r_wg := r_in 704 rfl rfl
set_option maxRecDepth 100000 in
theorem w_Ra_count : r_cw m_Ra_count ∈ r_wg := r_in 710 rfl rfl
set_option maxRecDepth 100000 in
theorem a_Ra_count : Cond.instanceMethod m_Ra_count.1 ∈ r_wg := r_in 708 rfl rfl
set_option maxRecDepth 100000 in
theorem w_Ra_digest : r_cw m_Ra_digest ∈ r_wg := r_in 719 rfl rfl
set_option maxRecDepth 100000 in
theorem a_Ra_digest : Cond.instanceMethod m_Ra_digest.1 ∈ r_wg := r_in 717 rfl rfl
set_option maxRecDepth 100000 in
theorem w_Ra_mixRings : r_cw m_Ra_mixRings ∈ r_wg := r_in 724 rfl rfl
set_option maxRecDepth 100000 in
theorem a_Ra_mixRings : Cond.instanceMethod m_Ra_mixRings.1 ∈ r_wg := r_in 723 rfl rfl
set_option maxRecDepth 100000 in
theorem w_Ra_mixAsked : r_cw m_Ra_mixAsked ∈ r_wg := r_in 733 rfl rfl
set_option maxRecDepth 100000 in
theorem a_Ra_mixAsked : Cond.instanceMethod m_Ra_mixAsked.1 ∈ r_wg := r_in 732 rfl rfl
set_option maxRecDepth 100000 in
theorem w_Ra_mixChoices : r_cw m_Ra_mixChoices ∈ r_wg := r_in 738 rfl rfl
set_option maxRecDepth 100000 in
theorem a_Ra_mixChoices : Cond.instanceMethod m_Ra_mixChoices.1 ∈ r_wg := r_in 737 rfl rfl
set_option maxRecDepth 100000 in
theorem w_Ra_mixBests : r_cw m_Ra_mixBests ∈ r_wg := r_in 742 rfl rfl
set_option maxRecDepth 100000 in
theorem a_Ra_mixBests : Cond.instanceMethod m_Ra_mixBests.1 ∈ r_wg := r_in 741 rfl rfl
set_option maxRecDepth 100000 in
theorem w_Ra_mix : r_cw m_Ra_mix ∈ r_wg := r_in 728 rfl rfl
set_option maxRecDepth 100000 in
theorem a_Ra_mix : Cond.static m_Ra_mix.1 ∈ r_wg := r_in 727 rfl rfl
set_option maxRecDepth 100000 in
theorem w_Ra_hasPlate : r_cw m_Ra_hasPlate ∈ r_wg := r_in 414 rfl rfl
set_option maxRecDepth 100000 in
theorem a_Ra_hasPlate : Cond.instanceMethod m_Ra_hasPlate.1 ∈ r_wg := r_in 413 rfl rfl
set_option maxRecDepth 100000 in
theorem w_Ra_isKind : r_cw m_Ra_isKind ∈ r_wg := r_in 410 rfl rfl
set_option maxRecDepth 100000 in
theorem a_Ra_isKind : Cond.static m_Ra_isKind.1 ∈ r_wg := r_in 409 rfl rfl
set_option maxRecDepth 100000 in
theorem w_Ra_policyOf : r_cw m_Ra_policyOf ∈ r_wg := r_in 341 rfl rfl
set_option maxRecDepth 100000 in
theorem a_Ra_policyOf : Cond.instanceMethod m_Ra_policyOf.1 ∈ r_wg := r_in 340 rfl rfl
set_option maxRecDepth 100000 in
theorem w_Ra_isOf : r_cw m_Ra_isOf ∈ r_wg := r_in 417 rfl rfl
set_option maxRecDepth 100000 in
theorem a_Ra_isOf : Cond.static m_Ra_isOf.1 ∈ r_wg := r_in 416 rfl rfl
set_option maxRecDepth 100000 in
theorem w_Ra_playDays : r_cw m_Ra_playDays ∈ r_wg := r_in 674 rfl rfl
set_option maxRecDepth 100000 in
theorem a_Ra_playDays : Cond.instanceMethod m_Ra_playDays.1 ∈ r_wg := r_in 673 rfl rfl
set_option maxRecDepth 100000 in
theorem w_Ra_nextSeed : r_cw m_Ra_nextSeed ∈ r_wg := r_in 677 rfl rfl
set_option maxRecDepth 100000 in
theorem a_Ra_nextSeed : Cond.static m_Ra_nextSeed.1 ∈ r_wg := r_in 676 rfl rfl
set_option maxRecDepth 100000 in
theorem w_Ra_drawn : r_cw m_Ra_drawn ∈ r_wg := r_in 683 rfl rfl
set_option maxRecDepth 100000 in
theorem a_Ra_drawn : Cond.static m_Ra_drawn.1 ∈ r_wg := r_in 682 rfl rfl
set_option maxRecDepth 100000 in
theorem w_Ra_bestTry : r_cw m_Ra_bestTry ∈ r_wg := r_in 658 rfl rfl
set_option maxRecDepth 100000 in
theorem a_Ra_bestTry : Cond.static m_Ra_bestTry.1 ∈ r_wg := r_in 657 rfl rfl
set_option maxRecDepth 100000 in
theorem w_Ra_worstLeft : r_cw m_Ra_worstLeft ∈ r_wg := r_in 661 rfl rfl
set_option maxRecDepth 100000 in
theorem a_Ra_worstLeft : Cond.static m_Ra_worstLeft.1 ∈ r_wg := r_in 660 rfl rfl
set_option maxRecDepth 100000 in
theorem w_Ra_hasBit : r_cw m_Ra_hasBit ∈ r_wg := r_in 568 rfl rfl
set_option maxRecDepth 100000 in
theorem a_Ra_hasBit : Cond.static m_Ra_hasBit.1 ∈ r_wg := r_in 567 rfl rfl
set_option maxRecDepth 100000 in
theorem w_Ra_at : r_cw m_Ra_at ∈ r_wg := r_in 308 rfl rfl
set_option maxRecDepth 100000 in
theorem a_Ra_at : Cond.static m_Ra_at.1 ∈ r_wg := r_in 307 rfl rfl
set_option maxRecDepth 100000 in
theorem w_Ra_put : r_cw m_Ra_put ∈ r_wg := r_in 289 rfl rfl
set_option maxRecDepth 100000 in
theorem a_Ra_put : Cond.static m_Ra_put.1 ∈ r_wg := r_in 288 rfl rfl
set_option maxRecDepth 100000 in
theorem w_Ra_copyRow : r_cw m_Ra_copyRow ∈ r_wg := r_in 545 rfl rfl
set_option maxRecDepth 100000 in
theorem a_Ra_copyRow : Cond.static m_Ra_copyRow.1 ∈ r_wg := r_in 544 rfl rfl
set_option maxRecDepth 100000 in
theorem w_Mo_init : r_cw m_Mo_init ∈ r_wg := r_in 749 rfl rfl
set_option maxRecDepth 100000 in
theorem a_Mo_init : Cond.instanceMethod m_Mo_init.1 ∈ r_wg := r_in 748 rfl rfl
set_option maxRecDepth 100000 in
theorem w_Mo_in : r_cw m_Mo_in ∈ r_wg := r_in 882 rfl rfl
set_option maxRecDepth 100000 in
theorem a_Mo_in : Cond.static m_Mo_in.1 ∈ r_wg := r_in 881 rfl rfl
set_option maxRecDepth 100000 in
theorem w_Mo_copy : r_cw m_Mo_copy ∈ r_wg := r_in 957 rfl rfl
set_option maxRecDepth 100000 in
theorem a_Mo_copy : Cond.static m_Mo_copy.1 ∈ r_wg := r_in 956 rfl rfl
set_option maxRecDepth 100000 in
theorem w_Mo_letter : r_cw m_Mo_letter ∈ r_wg := r_in 878 rfl rfl
set_option maxRecDepth 100000 in
theorem a_Mo_letter : Cond.instanceMethod m_Mo_letter.1 ∈ r_wg := r_in 876 rfl rfl
set_option maxRecDepth 100000 in
theorem w_Mo_blank : r_cw m_Mo_blank ∈ r_wg := r_in 886 rfl rfl
set_option maxRecDepth 100000 in
theorem a_Mo_blank : Cond.instanceMethod m_Mo_blank.1 ∈ r_wg := r_in 884 rfl rfl
set_option maxRecDepth 100000 in
theorem w_Mo_placesBy : r_cw m_Mo_placesBy ∈ r_wg := r_in 907 rfl rfl
set_option maxRecDepth 100000 in
theorem a_Mo_placesBy : Cond.static m_Mo_placesBy.1 ∈ r_wg := r_in 906 rfl rfl
set_option maxRecDepth 100000 in
theorem w_Mo_kindBy : r_cw m_Mo_kindBy ∈ r_wg := r_in 913 rfl rfl
set_option maxRecDepth 100000 in
theorem a_Mo_kindBy : Cond.static m_Mo_kindBy.1 ∈ r_wg := r_in 912 rfl rfl
set_option maxRecDepth 100000 in
theorem w_Mo_isRingLetter : r_cw m_Mo_isRingLetter ∈ r_wg := r_in 902 rfl rfl
set_option maxRecDepth 100000 in
theorem a_Mo_isRingLetter : Cond.instanceMethod m_Mo_isRingLetter.1 ∈ r_wg := r_in 901 rfl rfl
set_option maxRecDepth 100000 in
theorem w_Mo_isGood : r_cw m_Mo_isGood ∈ r_wg := r_in 898 rfl rfl
set_option maxRecDepth 100000 in
theorem a_Mo_isGood : Cond.instanceMethod m_Mo_isGood.1 ∈ r_wg := r_in 897 rfl rfl
set_option maxRecDepth 100000 in
theorem w_Mo_faultOf : r_cw m_Mo_faultOf ∈ r_wg := r_in 894 rfl rfl
set_option maxRecDepth 100000 in
theorem a_Mo_faultOf : Cond.instanceMethod m_Mo_faultOf.1 ∈ r_wg := r_in 893 rfl rfl
set_option maxRecDepth 100000 in
theorem w_Mo_fault : r_cw m_Mo_fault ∈ r_wg := r_in 890 rfl rfl
set_option maxRecDepth 100000 in
theorem a_Mo_fault : Cond.instanceMethod m_Mo_fault.1 ∈ r_wg := r_in 888 rfl rfl
set_option maxRecDepth 100000 in
theorem w_Mo_plate : r_cw m_Mo_plate ∈ r_wg := r_in 917 rfl rfl
set_option maxRecDepth 100000 in
theorem a_Mo_plate : Cond.instanceMethod m_Mo_plate.1 ∈ r_wg := r_in 915 rfl rfl
set_option maxRecDepth 100000 in
theorem w_Mo_lacks : r_cw m_Mo_lacks ∈ r_wg := r_in 974 rfl rfl
set_option maxRecDepth 100000 in
theorem a_Mo_lacks : Cond.instanceMethod m_Mo_lacks.1 ∈ r_wg := r_in 973 rfl rfl
set_option maxRecDepth 100000 in
theorem w_Mo_isRing : r_cw m_Mo_isRing ∈ r_wg := r_in 925 rfl rfl
set_option maxRecDepth 100000 in
theorem a_Mo_isRing : Cond.instanceMethod m_Mo_isRing.1 ∈ r_wg := r_in 924 rfl rfl
set_option maxRecDepth 100000 in
theorem w_Mo_travel : r_cw m_Mo_travel ∈ r_wg := r_in 941 rfl rfl
set_option maxRecDepth 100000 in
theorem a_Mo_travel : Cond.instanceMethod m_Mo_travel.1 ∈ r_wg := r_in 940 rfl rfl
set_option maxRecDepth 100000 in
theorem w_Mo_lasts : r_cw m_Mo_lasts ∈ r_wg := r_in 933 rfl rfl
set_option maxRecDepth 100000 in
theorem a_Mo_lasts : Cond.instanceMethod m_Mo_lasts.1 ∈ r_wg := r_in 932 rfl rfl
set_option maxRecDepth 100000 in
theorem w_Mo_doneBy : r_cw m_Mo_doneBy ∈ r_wg := r_in 965 rfl rfl
set_option maxRecDepth 100000 in
theorem a_Mo_doneBy : Cond.instanceMethod m_Mo_doneBy.1 ∈ r_wg := r_in 964 rfl rfl
set_option maxRecDepth 100000 in
theorem w_Mo_begin : r_cw m_Mo_begin ∈ r_wg := r_in 954 rfl rfl
set_option maxRecDepth 100000 in
theorem a_Mo_begin : Cond.instanceMethod m_Mo_begin.1 ∈ r_wg := r_in 953 rfl rfl
set_option maxRecDepth 100000 in
theorem w_Mo_keep : r_cw m_Mo_keep ∈ r_wg := r_in 1014 rfl rfl
set_option maxRecDepth 100000 in
theorem a_Mo_keep : Cond.instanceMethod m_Mo_keep.1 ∈ r_wg := r_in 1013 rfl rfl
set_option maxRecDepth 100000 in
theorem w_Mo_doneThen : r_cw m_Mo_doneThen ∈ r_wg := r_in 961 rfl rfl
set_option maxRecDepth 100000 in
theorem a_Mo_doneThen : Cond.instanceMethod m_Mo_doneThen.1 ∈ r_wg := r_in 960 rfl rfl
set_option maxRecDepth 100000 in
theorem w_Mo_awayThen : r_cw m_Mo_awayThen ∈ r_wg := r_in 994 rfl rfl
set_option maxRecDepth 100000 in
theorem a_Mo_awayThen : Cond.instanceMethod m_Mo_awayThen.1 ∈ r_wg := r_in 993 rfl rfl
set_option maxRecDepth 100000 in
theorem w_Mo_nearestThen : r_cw m_Mo_nearestThen ∈ r_wg := r_in 990 rfl rfl
set_option maxRecDepth 100000 in
theorem a_Mo_nearestThen : Cond.instanceMethod m_Mo_nearestThen.1 ∈ r_wg := r_in 989 rfl rfl
set_option maxRecDepth 100000 in
theorem w_Mo_soonestThen : r_cw m_Mo_soonestThen ∈ r_wg := r_in 1002 rfl rfl
set_option maxRecDepth 100000 in
theorem a_Mo_soonestThen : Cond.instanceMethod m_Mo_soonestThen.1 ∈ r_wg := r_in 1001 rfl rfl
set_option maxRecDepth 100000 in
theorem w_Mo_outermostThen : r_cw m_Mo_outermostThen ∈ r_wg := r_in 998 rfl rfl
set_option maxRecDepth 100000 in
theorem a_Mo_outermostThen : Cond.instanceMethod m_Mo_outermostThen.1 ∈ r_wg := r_in 997 rfl rfl
set_option maxRecDepth 100000 in
theorem w_Mo_nextThen : r_cw m_Mo_nextThen ∈ r_wg := r_in 986 rfl rfl
set_option maxRecDepth 100000 in
theorem a_Mo_nextThen : Cond.instanceMethod m_Mo_nextThen.1 ∈ r_wg := r_in 985 rfl rfl
set_option maxRecDepth 100000 in
theorem w_Mo_goTo : r_cw m_Mo_goTo ∈ r_wg := r_in 1026 rfl rfl
set_option maxRecDepth 100000 in
theorem a_Mo_goTo : Cond.instanceMethod m_Mo_goTo.1 ∈ r_wg := r_in 1025 rfl rfl
set_option maxRecDepth 100000 in
theorem w_Mo_askThen : r_cw m_Mo_askThen ∈ r_wg := r_in 1010 rfl rfl
set_option maxRecDepth 100000 in
theorem a_Mo_askThen : Cond.instanceMethod m_Mo_askThen.1 ∈ r_wg := r_in 1009 rfl rfl
set_option maxRecDepth 100000 in
theorem w_Mo_askedOn : r_cw m_Mo_askedOn ∈ r_wg := r_in 937 rfl rfl
set_option maxRecDepth 100000 in
theorem a_Mo_askedOn : Cond.instanceMethod m_Mo_askedOn.1 ∈ r_wg := r_in 936 rfl rfl
set_option maxRecDepth 100000 in
theorem w_Mo_tellRing : r_cw m_Mo_tellRing ∈ r_wg := r_in 929 rfl rfl
set_option maxRecDepth 100000 in
theorem a_Mo_tellRing : Cond.instanceMethod m_Mo_tellRing.1 ∈ r_wg := r_in 928 rfl rfl
set_option maxRecDepth 100000 in
theorem w_Mo_ring : r_cw m_Mo_ring ∈ r_wg := r_in 921 rfl rfl
set_option maxRecDepth 100000 in
theorem a_Mo_ring : Cond.instanceMethod m_Mo_ring.1 ∈ r_wg := r_in 919 rfl rfl
set_option maxRecDepth 100000 in
theorem w_Mo_tellAsked : r_cw m_Mo_tellAsked ∈ r_wg := r_in 950 rfl rfl
set_option maxRecDepth 100000 in
theorem a_Mo_tellAsked : Cond.instanceMethod m_Mo_tellAsked.1 ∈ r_wg := r_in 949 rfl rfl
set_option maxRecDepth 100000 in
theorem w_Mo_asked : r_cw m_Mo_asked ∈ r_wg := r_in 945 rfl rfl
set_option maxRecDepth 100000 in
theorem a_Mo_asked : Cond.instanceMethod m_Mo_asked.1 ∈ r_wg := r_in 943 rfl rfl
set_option maxRecDepth 100000 in
theorem w_Mo_as : r_cw m_Mo_as ∈ r_wg := r_in 969 rfl rfl
set_option maxRecDepth 100000 in
theorem a_Mo_as : Cond.instanceMethod m_Mo_as.1 ∈ r_wg := r_in 967 rfl rfl
set_option maxRecDepth 100000 in
theorem w_Mo_nextOf : r_cw m_Mo_nextOf ∈ r_wg := r_in 982 rfl rfl
set_option maxRecDepth 100000 in
theorem a_Mo_nextOf : Cond.instanceMethod m_Mo_nextOf.1 ∈ r_wg := r_in 981 rfl rfl
set_option maxRecDepth 100000 in
theorem w_Mo_next : r_cw m_Mo_next ∈ r_wg := r_in 978 rfl rfl
set_option maxRecDepth 100000 in
theorem a_Mo_next : Cond.instanceMethod m_Mo_next.1 ∈ r_wg := r_in 976 rfl rfl
set_option maxRecDepth 100000 in
theorem w_Mo_ask : r_cw m_Mo_ask ∈ r_wg := r_in 1006 rfl rfl
set_option maxRecDepth 100000 in
theorem a_Mo_ask : Cond.instanceMethod m_Mo_ask.1 ∈ r_wg := r_in 1004 rfl rfl
set_option maxRecDepth 100000 in
theorem w_Mo_doneNow : r_cw m_Mo_doneNow ∈ r_wg := r_in 1022 rfl rfl
set_option maxRecDepth 100000 in
theorem a_Mo_doneNow : Cond.instanceMethod m_Mo_doneNow.1 ∈ r_wg := r_in 1021 rfl rfl
set_option maxRecDepth 100000 in
theorem w_Mo_serve : r_cw m_Mo_serve ∈ r_wg := r_in 1018 rfl rfl
set_option maxRecDepth 100000 in
theorem a_Mo_serve : Cond.instanceMethod m_Mo_serve.1 ∈ r_wg := r_in 1016 rfl rfl
set_option maxRecDepth 100000 in
theorem w_Mo_read : r_cw m_Mo_read ∈ r_wg := r_in 1031 rfl rfl
set_option maxRecDepth 100000 in
theorem a_Mo_read : Cond.instanceMethod m_Mo_read.1 ∈ r_wg := r_in 1029 rfl rfl
set_option maxRecDepth 100000 in
theorem w_Mo_pass : r_cw m_Mo_pass ∈ r_wg := r_in 1035 rfl rfl
set_option maxRecDepth 100000 in
theorem a_Mo_pass : Cond.instanceMethod m_Mo_pass.1 ∈ r_wg := r_in 1033 rfl rfl
set_option maxRecDepth 100000 in
theorem w_Mo_choose : r_cw m_Mo_choose ∈ r_wg := r_in 1040 rfl rfl
set_option maxRecDepth 100000 in
theorem a_Mo_choose : Cond.instanceMethod m_Mo_choose.1 ∈ r_wg := r_in 1038 rfl rfl
set_option maxRecDepth 100000 in
theorem w_Mo_skew : r_cw m_Mo_skew ∈ r_wg := r_in 1044 rfl rfl
set_option maxRecDepth 100000 in
theorem a_Mo_skew : Cond.instanceMethod m_Mo_skew.1 ∈ r_wg := r_in 1042 rfl rfl
set_option maxRecDepth 100000 in
theorem w_Mo_gear : r_cw m_Mo_gear ∈ r_wg := r_in 1049 rfl rfl
set_option maxRecDepth 100000 in
theorem a_Mo_gear : Cond.instanceMethod m_Mo_gear.1 ∈ r_wg := r_in 1047 rfl rfl
set_option maxRecDepth 100000 in
theorem w_Mo_runOf : r_cw m_Mo_runOf ∈ r_wg := r_in 1058 rfl rfl
set_option maxRecDepth 100000 in
theorem a_Mo_runOf : Cond.instanceMethod m_Mo_runOf.1 ∈ r_wg := r_in 1057 rfl rfl
set_option maxRecDepth 100000 in
theorem w_Mo_run : r_cw m_Mo_run ∈ r_wg := r_in 1054 rfl rfl
set_option maxRecDepth 100000 in
theorem a_Mo_run : Cond.instanceMethod m_Mo_run.1 ∈ r_wg := r_in 1052 rfl rfl
set_option maxRecDepth 100000 in
theorem w_Mo_laySoonest : r_cw m_Mo_laySoonest ∈ r_wg := r_in 1072 rfl rfl
set_option maxRecDepth 100000 in
theorem a_Mo_laySoonest : Cond.instanceMethod m_Mo_laySoonest.1 ∈ r_wg := r_in 1071 rfl rfl
set_option maxRecDepth 100000 in
theorem w_Mo_factorial : r_cw m_Mo_factorial ∈ r_wg := r_in 1080 rfl rfl
set_option maxRecDepth 100000 in
theorem a_Mo_factorial : Cond.static m_Mo_factorial.1 ∈ r_wg := r_in 1079 rfl rfl
set_option maxRecDepth 100000 in
theorem w_Mo_layTried : r_cw m_Mo_layTried ∈ r_wg := r_in 1077 rfl rfl
set_option maxRecDepth 100000 in
theorem a_Mo_layTried : Cond.instanceMethod m_Mo_layTried.1 ∈ r_wg := r_in 1076 rfl rfl
set_option maxRecDepth 100000 in
theorem w_Mo_endOfTried : r_cw m_Mo_endOfTried ∈ r_wg := r_in 1084 rfl rfl
set_option maxRecDepth 100000 in
theorem a_Mo_endOfTried : Cond.instanceMethod m_Mo_endOfTried.1 ∈ r_wg := r_in 1083 rfl rfl
set_option maxRecDepth 100000 in
theorem w_Mo_leastOf : r_cw m_Mo_leastOf ∈ r_wg := r_in 1068 rfl rfl
set_option maxRecDepth 100000 in
theorem a_Mo_leastOf : Cond.instanceMethod m_Mo_leastOf.1 ∈ r_wg := r_in 1067 rfl rfl
set_option maxRecDepth 100000 in
theorem w_Mo_least : r_cw m_Mo_least ∈ r_wg := r_in 1062 rfl rfl
set_option maxRecDepth 100000 in
theorem a_Mo_least : Cond.instanceMethod m_Mo_least.1 ∈ r_wg := r_in 1060 rfl rfl
set_option maxRecDepth 100000 in
theorem w_Mo_things : r_cw m_Mo_things ∈ r_wg := r_in 1102 rfl rfl
set_option maxRecDepth 100000 in
theorem a_Mo_things : Cond.instanceMethod m_Mo_things.1 ∈ r_wg := r_in 1101 rfl rfl
set_option maxRecDepth 100000 in
theorem w_Mo_weigh : r_cw m_Mo_weigh ∈ r_wg := r_in 1088 rfl rfl
set_option maxRecDepth 100000 in
theorem a_Mo_weigh : Cond.instanceMethod m_Mo_weigh.1 ∈ r_wg := r_in 1086 rfl rfl
set_option maxRecDepth 100000 in
theorem w_Mo_priceOfTried : r_cw m_Mo_priceOfTried ∈ r_wg := r_in 1106 rfl rfl
set_option maxRecDepth 100000 in
theorem a_Mo_priceOfTried : Cond.instanceMethod m_Mo_priceOfTried.1 ∈ r_wg := r_in 1105 rfl rfl
set_option maxRecDepth 100000 in
theorem w_Mo_layOf : r_cw m_Mo_layOf ∈ r_wg := r_in 1098 rfl rfl
set_option maxRecDepth 100000 in
theorem a_Mo_layOf : Cond.instanceMethod m_Mo_layOf.1 ∈ r_wg := r_in 1097 rfl rfl
set_option maxRecDepth 100000 in
theorem w_Mo_lay : r_cw m_Mo_lay ∈ r_wg := r_in 1093 rfl rfl
set_option maxRecDepth 100000 in
theorem a_Mo_lay : Cond.instanceMethod m_Mo_lay.1 ∈ r_wg := r_in 1091 rfl rfl
set_option maxRecDepth 100000 in
theorem w_Mo_behindOf : r_cw m_Mo_behindOf ∈ r_wg := r_in 1115 rfl rfl
set_option maxRecDepth 100000 in
theorem a_Mo_behindOf : Cond.instanceMethod m_Mo_behindOf.1 ∈ r_wg := r_in 1114 rfl rfl
set_option maxRecDepth 100000 in
theorem w_Mo_behind : r_cw m_Mo_behind ∈ r_wg := r_in 1110 rfl rfl
set_option maxRecDepth 100000 in
theorem a_Mo_behind : Cond.instanceMethod m_Mo_behind.1 ∈ r_wg := r_in 1108 rfl rfl
set_option maxRecDepth 100000 in
theorem w_Mo_common : r_cw m_Mo_common ∈ r_wg := r_in 1130 rfl rfl
set_option maxRecDepth 100000 in
theorem a_Mo_common : Cond.static m_Mo_common.1 ∈ r_wg := r_in 1129 rfl rfl
set_option maxRecDepth 100000 in
theorem w_Mo_allBy : r_cw m_Mo_allBy ∈ r_wg := r_in 1127 rfl rfl
set_option maxRecDepth 100000 in
theorem a_Mo_allBy : Cond.instanceMethod m_Mo_allBy.1 ∈ r_wg := r_in 1126 rfl rfl
set_option maxRecDepth 100000 in
theorem w_Mo_apartOf : r_cw m_Mo_apartOf ∈ r_wg := r_in 1123 rfl rfl
set_option maxRecDepth 100000 in
theorem a_Mo_apartOf : Cond.instanceMethod m_Mo_apartOf.1 ∈ r_wg := r_in 1122 rfl rfl
set_option maxRecDepth 100000 in
theorem w_Mo_apart : r_cw m_Mo_apart ∈ r_wg := r_in 1119 rfl rfl
set_option maxRecDepth 100000 in
theorem a_Mo_apart : Cond.instanceMethod m_Mo_apart.1 ∈ r_wg := r_in 1117 rfl rfl
set_option maxRecDepth 100000 in
theorem w_Mo_see : r_cw m_Mo_see ∈ r_wg := r_in 1134 rfl rfl
set_option maxRecDepth 100000 in
theorem a_Mo_see : Cond.instanceMethod m_Mo_see.1 ∈ r_wg := r_in 1132 rfl rfl
set_option maxRecDepth 100000 in
theorem w_Mo_forget : r_cw m_Mo_forget ∈ r_wg := r_in 1138 rfl rfl
set_option maxRecDepth 100000 in
theorem a_Mo_forget : Cond.instanceMethod m_Mo_forget.1 ∈ r_wg := r_in 1136 rfl rfl
set_option maxRecDepth 100000 in
theorem w_Mo_stepsOf : r_cw m_Mo_stepsOf ∈ r_wg := r_in 1146 rfl rfl
set_option maxRecDepth 100000 in
theorem a_Mo_stepsOf : Cond.instanceMethod m_Mo_stepsOf.1 ∈ r_wg := r_in 1145 rfl rfl
set_option maxRecDepth 100000 in
theorem w_Mo_steps : r_cw m_Mo_steps ∈ r_wg := r_in 1142 rfl rfl
set_option maxRecDepth 100000 in
theorem a_Mo_steps : Cond.instanceMethod m_Mo_steps.1 ∈ r_wg := r_in 1140 rfl rfl
set_option maxRecDepth 100000 in
theorem w_Mo_trialOf : r_cw m_Mo_trialOf ∈ r_wg := r_in 1155 rfl rfl
set_option maxRecDepth 100000 in
theorem a_Mo_trialOf : Cond.instanceMethod m_Mo_trialOf.1 ∈ r_wg := r_in 1154 rfl rfl
set_option maxRecDepth 100000 in
theorem w_Mo_trial : r_cw m_Mo_trial ∈ r_wg := r_in 1151 rfl rfl
set_option maxRecDepth 100000 in
theorem a_Mo_trial : Cond.instanceMethod m_Mo_trial.1 ∈ r_wg := r_in 1149 rfl rfl
set_option maxRecDepth 100000 in
theorem w_Mo_draw : r_cw m_Mo_draw ∈ r_wg := r_in 1164 rfl rfl
set_option maxRecDepth 100000 in
theorem a_Mo_draw : Cond.instanceMethod m_Mo_draw.1 ∈ r_wg := r_in 1163 rfl rfl
set_option maxRecDepth 100000 in
theorem w_Mo_days : r_cw m_Mo_days ∈ r_wg := r_in 1159 rfl rfl
set_option maxRecDepth 100000 in
theorem a_Mo_days : Cond.instanceMethod m_Mo_days.1 ∈ r_wg := r_in 1157 rfl rfl
set_option maxRecDepth 100000 in
theorem w_Mo_image : r_cw m_Mo_image ∈ r_wg := r_in 1172 rfl rfl
set_option maxRecDepth 100000 in
theorem a_Mo_image : Cond.instanceMethod m_Mo_image.1 ∈ r_wg := r_in 1170 rfl rfl
set_option maxRecDepth 100000 in
theorem w_Mo_restore : r_cw m_Mo_restore ∈ r_wg := r_in 1176 rfl rfl
set_option maxRecDepth 100000 in
theorem a_Mo_restore : Cond.instanceMethod m_Mo_restore.1 ∈ r_wg := r_in 1174 rfl rfl
set_option maxRecDepth 100000 in
theorem w_Mo_placesAll : r_cw m_Mo_placesAll ∈ r_wg := r_in 1188 rfl rfl
set_option maxRecDepth 100000 in
theorem a_Mo_placesAll : Cond.instanceMethod m_Mo_placesAll.1 ∈ r_wg := r_in 1187 rfl rfl
set_option maxRecDepth 100000 in
theorem w_Mo_countOf : r_cw m_Mo_countOf ∈ r_wg := r_in 1184 rfl rfl
set_option maxRecDepth 100000 in
theorem a_Mo_countOf : Cond.instanceMethod m_Mo_countOf.1 ∈ r_wg := r_in 1183 rfl rfl
set_option maxRecDepth 100000 in
theorem w_Mo_count : r_cw m_Mo_count ∈ r_wg := r_in 1180 rfl rfl
set_option maxRecDepth 100000 in
theorem a_Mo_count : Cond.instanceMethod m_Mo_count.1 ∈ r_wg := r_in 1178 rfl rfl
set_option maxRecDepth 100000 in
theorem w_Mo_say : r_cw m_Mo_say ∈ r_wg := r_in 1197 rfl rfl
set_option maxRecDepth 100000 in
theorem a_Mo_say : Cond.instanceMethod m_Mo_say.1 ∈ r_wg := r_in 1196 rfl rfl
set_option maxRecDepth 100000 in
theorem w_Mo_sayPlate : r_cw m_Mo_sayPlate ∈ r_wg := r_in 1202 rfl rfl
set_option maxRecDepth 100000 in
theorem a_Mo_sayPlate : Cond.instanceMethod m_Mo_sayPlate.1 ∈ r_wg := r_in 1201 rfl rfl
set_option maxRecDepth 100000 in
theorem w_Mo_digest : r_cw m_Mo_digest ∈ r_wg := r_in 1192 rfl rfl
set_option maxRecDepth 100000 in
theorem a_Mo_digest : Cond.instanceMethod m_Mo_digest.1 ∈ r_wg := r_in 1190 rfl rfl
set_option maxRecDepth 100000 in
theorem w_Jm_floorMod : r_cw m_Jm_floorMod ∈ r_wg := r_in 403 rfl rfl
set_option maxRecDepth 100000 in
theorem a_Jm_floorMod : Cond.static m_Jm_floorMod.1 ∈ r_wg := r_in 402 rfl rfl
set_option maxRecDepth 100000 in
theorem w_Jm_abs : r_cw m_Jm_abs ∈ r_wg := r_in 458 rfl rfl
set_option maxRecDepth 100000 in
theorem a_Jm_abs : Cond.static m_Jm_abs.1 ∈ r_wg := r_in 457 rfl rfl
set_option maxRecDepth 100000 in
theorem w_Jm_max : r_cw m_Jm_max ∈ r_wg := r_in 666 rfl rfl
set_option maxRecDepth 100000 in
theorem a_Jm_max : Cond.static m_Jm_max.1 ∈ r_wg := r_in 665 rfl rfl
set_option maxRecDepth 100000 in
theorem w_Jm_min : r_cw m_Jm_min ∈ r_wg := r_in 349 rfl rfl
set_option maxRecDepth 100000 in
theorem a_Jm_min : Cond.static m_Jm_min.1 ∈ r_wg := r_in 348 rfl rfl
