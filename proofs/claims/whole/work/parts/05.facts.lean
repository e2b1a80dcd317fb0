theorem OI_R_3 : zOi R_R 3 := ⟨(zm 20 (by decide +kernel)), (zm 13 (by decide +kernel)), zm 14 (by decide +kernel)⟩
theorem F_R_9 : zFd R_R 9 iR 0 (.array .char) true true := ⟨R_R, T_R, 2, t_R, rfl, by decide, (zm 21 (by decide +kernel)), u_R_in, t_R_ok, n_R, rfl, rfl, fun _ => rfl⟩
theorem F_R_15 : zFd R_R 15 iR 1 (.int) false true := ⟨R_R, T_R, 2, t_R, rfl, by decide, (zm 23 (by decide +kernel)), u_R_in, t_R_ok, n_R, rfl, rfl, fun _ => rfl⟩
theorem K_R_19 : zCF R_R 19 y_R_hasPosition b_R_hasPosition 2 (some .boolean) 1 := ⟨(zm 132 (by decide +kernel)), (zm 2 (by decide +kernel)), zm 135 (by decide +kernel), ⟨by decide +kernel, by decide +kernel⟩, by decide +kernel⟩
theorem KI_R_19 : Cond.instanceMethod y_R_hasPosition ∈ zAll := (zm 133 (by decide +kernel))
theorem KS_R_19 : Cond.selects y_R_hasPosition.cls y_R_hasPosition y_R_hasPosition ∈ zAll := (zm 134 (by decide +kernel))
theorem AC_R_23 : zAc R_R 23 := ⟨(zm 148 (by decide +kernel)), (zm 138 (by decide +kernel)), (zm 137 (by decide +kernel)), (zm 6 (by decide +kernel))⟩
theorem OI_M_3 : zOi R_M 3 := ⟨(zm 36 (by decide +kernel)), (zm 13 (by decide +kernel)), zm 14 (by decide +kernel)⟩
theorem F_M_9 : zFd R_M 9 iM 0 (.array .int) true true := ⟨R_M, T_M, 2, t_M, rfl, by decide, (zm 37 (by decide +kernel)), u_M_in, t_M_ok, n_M, rfl, rfl, fun _ => rfl⟩
theorem F_M_15 : zFd R_M 15 iM 1 (.array .boolean) true true := ⟨R_M, T_M, 2, t_M, rfl, by decide, (zm 39 (by decide +kernel)), u_M_in, t_M_ok, n_M, rfl, rfl, fun _ => rfl⟩
theorem OI_V_1 : zOi R_V 1 := ⟨(zm 54 (by decide +kernel)), (zm 13 (by decide +kernel)), zm 14 (by decide +kernel)⟩
theorem F_V_7 : zFd R_V 7 iV 0 (.int) true true := ⟨R_V, T_V, 7, t_V, rfl, by decide, (zm 55 (by decide +kernel)), u_V_in, t_V_ok, n_V, rfl, rfl, fun _ => rfl⟩
theorem F_V_13 : zFd R_V 13 iV 1 (.object "BranchingText$Version") true true := ⟨R_V, T_V, 7, t_V, rfl, by decide, (zm 57 (by decide +kernel)), u_V_in, t_V_ok, n_V, rfl, rfl, fun _ => rfl⟩
theorem F_V_17 : zFd R_V 17 iV 2 (.boolean) true true := ⟨R_V, T_V, 7, t_V, rfl, by decide, (zm 59 (by decide +kernel)), u_V_in, t_V_ok, n_V, rfl, rfl, fun _ => rfl⟩
theorem F_V_21 : zFd R_V 21 iV 3 (.int) true true := ⟨R_V, T_V, 7, t_V, rfl, by decide, (zm 61 (by decide +kernel)), u_V_in, t_V_ok, n_V, rfl, rfl, fun _ => rfl⟩
theorem F_V_24 : zFd R_V 24 iV 4 (.array .char) true true := ⟨R_V, T_V, 7, t_V, rfl, by decide, (zm 63 (by decide +kernel)), u_V_in, t_V_ok, n_V, rfl, rfl, fun _ => rfl⟩
theorem F_V_28 : zFd R_V 28 iV 5 (.int) false true := ⟨R_V, T_V, 7, t_V, rfl, by decide, (zm 65 (by decide +kernel)), u_V_in, t_V_ok, n_V, rfl, rfl, fun _ => rfl⟩
theorem F_V_31 : zFd R_V 31 iV 6 (.object "BranchingText$Version") false true := ⟨R_V, T_V, 7, t_V, rfl, by decide, (zm 67 (by decide +kernel)), u_V_in, t_V_ok, n_V, rfl, rfl, fun _ => rfl⟩
theorem OI_B_1 : zOi R_B 1 := ⟨(zm 12 (by decide +kernel)), (zm 13 (by decide +kernel)), zm 14 (by decide +kernel)⟩
theorem NW_B_7 : zNw R_B 7 iR 2 [.null, .int 0] := ⟨R_R, T_R, t_R, rfl, (zm 15 (by decide +kernel)), (zm 16 (by decide +kernel)), (zm 2 (by decide +kernel)), u_R_in, t_R_ok, by decide +kernel⟩
theorem K_B_11 : zCF R_B 11 y_R_init b_R_init 2 none 1 := ⟨(zm 17 (by decide +kernel)), (zm 2 (by decide +kernel)), zm 19 (by decide +kernel), ⟨by decide +kernel, by decide +kernel⟩, by decide +kernel⟩
theorem KI_B_11 : Cond.instanceMethod y_R_init ∈ zAll := (zm 18 (by decide +kernel))
theorem F_B_14 : zFd R_B 14 iB 0 (.object "BranchingText$Row") true true := ⟨R_B, T_B, 8, t_B, rfl, by decide, (zm 84 (by decide +kernel)), u_B_in, t_B_ok, n_B, rfl, rfl, fun _ => rfl⟩
theorem F_B_18 : zFd R_B 18 iB 1 (.object "BranchingText$Row") true true := ⟨R_B, T_B, 8, t_B, rfl, by decide, (zm 85 (by decide +kernel)), u_B_in, t_B_ok, n_B, rfl, rfl, fun _ => rfl⟩
theorem NW_B_21 : zNw R_B 21 iM 2 [.null, .null] := ⟨R_M, T_M, t_M, rfl, (zm 31 (by decide +kernel)), (zm 32 (by decide +kernel)), (zm 3 (by decide +kernel)), u_M_in, t_M_ok, by decide +kernel⟩
theorem K_B_23 : zCF R_B 23 y_M_init b_M_init 2 none 0 := ⟨(zm 33 (by decide +kernel)), (zm 3 (by decide +kernel)), zm 35 (by decide +kernel), ⟨by decide +kernel, by decide +kernel⟩, by decide +kernel⟩
theorem KI_B_23 : Cond.instanceMethod y_M_init ∈ zAll := (zm 34 (by decide +kernel))
theorem F_B_24 : zFd R_B 24 iB 2 (.object "BranchingText$Marks") true true := ⟨R_B, T_B, 8, t_B, rfl, by decide, (zm 86 (by decide +kernel)), u_B_in, t_B_ok, n_B, rfl, rfl, fun _ => rfl⟩
theorem AN_B_28 : Cond.classLink R_B 28 "BranchingText$Version" ∈ zAll := (zm 48 (by decide +kernel))
theorem F_B_30 : zFd R_B 30 iB 3 (.array (.object "BranchingText$Version")) true true := ⟨R_B, T_B, 8, t_B, rfl, by decide, (zm 87 (by decide +kernel)), u_B_in, t_B_ok, n_B, rfl, rfl, fun _ => rfl⟩
theorem F_B_34 : zFd R_B 34 iB 4 (.array (.object "BranchingText$Version")) true true := ⟨R_B, T_B, 8, t_B, rfl, by decide, (zm 88 (by decide +kernel)), u_B_in, t_B_ok, n_B, rfl, rfl, fun _ => rfl⟩
theorem NW_B_28 : zNw R_B 28 iV 7 [.int 0, .null, .int 0, .int 0, .null, .int 0, .null] := ⟨R_V, T_V, t_V, rfl, (zm 48 (by decide +kernel)), (zm 50 (by decide +kernel)), (zm 4 (by decide +kernel)), u_V_in, t_V_ok, by decide +kernel⟩
theorem K_B_37 : zCF R_B 37 y_V_init b_V_init 6 none 5 := ⟨(zm 51 (by decide +kernel)), (zm 4 (by decide +kernel)), zm 53 (by decide +kernel), ⟨by decide +kernel, by decide +kernel⟩, by decide +kernel⟩
theorem KI_B_37 : Cond.instanceMethod y_V_init ∈ zAll := (zm 52 (by decide +kernel))
theorem F_B_40 : zFd R_B 40 iB 7 (.object "BranchingText$Version") false true := ⟨R_B, T_B, 8, t_B, rfl, by decide, (zm 91 (by decide +kernel)), u_B_in, t_B_ok, n_B, rfl, rfl, fun _ => rfl⟩
theorem F_B_44 : zFd R_B 44 iB 5 (.int) false true := ⟨R_B, T_B, 8, t_B, rfl, by decide, (zm 89 (by decide +kernel)), u_B_in, t_B_ok, n_B, rfl, rfl, fun _ => rfl⟩
theorem F_B_48 : zFd R_B 48 iB 6 (.int) false true := ⟨R_B, T_B, 8, t_B, rfl, by decide, (zm 90 (by decide +kernel)), u_B_in, t_B_ok, n_B, rfl, rfl, fun _ => rfl⟩
theorem K_B_51 : zCF R_B 51 y_B_isCharacter b_B_isCharacter 1 (some .boolean) 1 := ⟨(zm 113 (by decide +kernel)), (zm 1 (by decide +kernel)), zm 115 (by decide +kernel), ⟨by decide +kernel, by decide +kernel⟩, by decide +kernel⟩
theorem KS_B_51 : Cond.static y_B_isCharacter ∈ zAll := (zm 114 (by decide +kernel))
theorem F_B_55 : zFd R_B 55 iR 1 (.int) false false := ⟨R_R, T_R, 2, t_R, rfl, by decide, (zm 24 (by decide +kernel)), u_R_in, t_R_ok, n_R, rfl, rfl, fun h => by cases h⟩
theorem F_B_58 : zFd R_B 58 iR 0 (.array .char) true false := ⟨R_R, T_R, 2, t_R, rfl, by decide, (zm 22 (by decide +kernel)), u_R_in, t_R_ok, n_R, rfl, rfl, fun h => by cases h⟩
theorem K_B_62 : zCF R_B 62 y_R_hasStretch b_R_hasStretch 3 (some .boolean) 2 := ⟨(zm 128 (by decide +kernel)), (zm 2 (by decide +kernel)), zm 131 (by decide +kernel), ⟨by decide +kernel, by decide +kernel⟩, by decide +kernel⟩
theorem KI_B_62 : Cond.instanceMethod y_R_hasStretch ∈ zAll := (zm 129 (by decide +kernel))
theorem KS_B_62 : Cond.selects y_R_hasStretch.cls y_R_hasStretch y_R_hasStretch ∈ zAll := (zm 130 (by decide +kernel))
theorem AC_B_66 : zAc R_B 66 := ⟨(zm 136 (by decide +kernel)), (zm 138 (by decide +kernel)), (zm 137 (by decide +kernel)), (zm 6 (by decide +kernel))⟩
theorem K_B_72 : zCF R_B 72 y_R_hasPosition b_R_hasPosition 2 (some .boolean) 1 := ⟨(zm 143 (by decide +kernel)), (zm 2 (by decide +kernel)), zm 135 (by decide +kernel), ⟨by decide +kernel, by decide +kernel⟩, by decide +kernel⟩
theorem KI_B_72 : Cond.instanceMethod y_R_hasPosition ∈ zAll := (zm 133 (by decide +kernel))
theorem KS_B_72 : Cond.selects y_R_hasPosition.cls y_R_hasPosition y_R_hasPosition ∈ zAll := (zm 134 (by decide +kernel))
theorem K_B_76 : zCF R_B 76 y_R_pieceOf b_R_pieceOf 4 (some (.array .char)) 2 := ⟨(zm 144 (by decide +kernel)), (zm 2 (by decide +kernel)), zm 147 (by decide +kernel), ⟨by decide +kernel, by decide +kernel⟩, by decide +kernel⟩
theorem KI_B_76 : Cond.instanceMethod y_R_pieceOf ∈ zAll := (zm 145 (by decide +kernel))
theorem KS_B_76 : Cond.selects y_R_pieceOf.cls y_R_pieceOf y_R_pieceOf ∈ zAll := (zm 146 (by decide +kernel))
theorem K_B_80 : zCF R_B 80 y_B_makeChild b_B_makeChild 5 (some .int) 3 := ⟨(zm 149 (by decide +kernel)), (zm 1 (by decide +kernel)), zm 152 (by decide +kernel), ⟨by decide +kernel, by decide +kernel⟩, by decide +kernel⟩
theorem KI_B_80 : Cond.instanceMethod y_B_makeChild ∈ zAll := (zm 151 (by decide +kernel))
theorem KS_B_80 : Cond.selects y_B_makeChild.cls y_B_makeChild y_B_makeChild ∈ zAll := zms 0 (by decide +kernel)
theorem F_B_84 : zFd R_B 84 iV 1 (.object "BranchingText$Version") true false := ⟨R_V, T_V, 7, t_V, rfl, by decide, (zm 58 (by decide +kernel)), u_V_in, t_V_ok, n_V, rfl, rfl, fun h => by cases h⟩
theorem K_B_87 : zCF R_B 87 y_B_stepBackTo b_B_stepBackTo 2 none 1 := ⟨(zm 189 (by decide +kernel)), (zm 1 (by decide +kernel)), zm 192 (by decide +kernel), ⟨by decide +kernel, by decide +kernel⟩, by decide +kernel⟩
theorem KI_B_87 : Cond.instanceMethod y_B_stepBackTo ∈ zAll := (zm 191 (by decide +kernel))
theorem KS_B_87 : Cond.selects y_B_stepBackTo.cls y_B_stepBackTo y_B_stepBackTo ∈ zAll := zms 4 (by decide +kernel)
theorem F_B_91 : zFd R_B 91 iV 0 (.int) true false := ⟨R_V, T_V, 7, t_V, rfl, by decide, (zm 56 (by decide +kernel)), u_V_in, t_V_ok, n_V, rfl, rfl, fun h => by cases h⟩
theorem F_B_94 : zFd R_B 94 iV 6 (.object "BranchingText$Version") false false := ⟨R_V, T_V, 7, t_V, rfl, by decide, (zm 68 (by decide +kernel)), u_V_in, t_V_ok, n_V, rfl, rfl, fun h => by cases h⟩
theorem K_B_97 : zCF R_B 97 y_B_stepOnTo b_B_stepOnTo 2 none 1 := ⟨(zm 153 (by decide +kernel)), (zm 1 (by decide +kernel)), zm 156 (by decide +kernel), ⟨by decide +kernel, by decide +kernel⟩, by decide +kernel⟩
theorem KI_B_97 : Cond.instanceMethod y_B_stepOnTo ∈ zAll := (zm 155 (by decide +kernel))
theorem KS_B_97 : Cond.selects y_B_stepOnTo.cls y_B_stepOnTo y_B_stepOnTo ∈ zAll := zms 1 (by decide +kernel)
theorem K_B_100 : zCF R_B 100 y_B_numbered b_B_numbered 2 (some (.object "BranchingText$Version")) 1 := ⟨(zm 201 (by decide +kernel)), (zm 1 (by decide +kernel)), zm 204 (by decide +kernel), ⟨by decide +kernel, by decide +kernel⟩, by decide +kernel⟩
theorem KI_B_100 : Cond.instanceMethod y_B_numbered ∈ zAll := (zm 203 (by decide +kernel))
theorem KS_B_100 : Cond.selects y_B_numbered.cls y_B_numbered y_B_numbered ∈ zAll := zms 5 (by decide +kernel)
theorem K_B_104 : zCF R_B 104 y_B_stepAlongWay b_B_stepAlongWay 4 none 1 := ⟨(zm 205 (by decide +kernel)), (zm 1 (by decide +kernel)), zm 208 (by decide +kernel), ⟨by decide +kernel, by decide +kernel⟩, by decide +kernel⟩
theorem KI_B_104 : Cond.instanceMethod y_B_stepAlongWay ∈ zAll := (zm 207 (by decide +kernel))
theorem KS_B_104 : Cond.selects y_B_stepAlongWay.cls y_B_stepAlongWay y_B_stepAlongWay ∈ zAll := zms 6 (by decide +kernel)
theorem F_B_107 : zFd R_B 107 iV 5 (.int) false false := ⟨R_V, T_V, 7, t_V, rfl, by decide, (zm 66 (by decide +kernel)), u_V_in, t_V_ok, n_V, rfl, rfl, fun h => by cases h⟩
theorem K_B_110 : zCF R_B 110 y_R_newlinesBefore b_R_newlinesBefore 4 (some .int) 1 := ⟨(zm 237 (by decide +kernel)), (zm 2 (by decide +kernel)), zm 240 (by decide +kernel), ⟨by decide +kernel, by decide +kernel⟩, by decide +kernel⟩
theorem KI_B_110 : Cond.instanceMethod y_R_newlinesBefore ∈ zAll := (zm 238 (by decide +kernel))
theorem KS_B_110 : Cond.selects y_R_newlinesBefore.cls y_R_newlinesBefore y_R_newlinesBefore ∈ zAll := (zm 239 (by decide +kernel))
theorem K_B_114 : zCF R_B 114 y_R_behindNewline b_R_behindNewline 4 (some .int) 1 := ⟨(zm 245 (by decide +kernel)), (zm 2 (by decide +kernel)), zm 248 (by decide +kernel), ⟨by decide +kernel, by decide +kernel⟩, by decide +kernel⟩
theorem KI_B_114 : Cond.instanceMethod y_R_behindNewline ∈ zAll := (zm 246 (by decide +kernel))
theorem KS_B_114 : Cond.selects y_R_behindNewline.cls y_R_behindNewline y_R_behindNewline ∈ zAll := (zm 247 (by decide +kernel))
theorem K_B_117 : zCF R_B 117 y_R_readsAt b_R_readsAt 4 (some .boolean) 2 := ⟨(zm 257 (by decide +kernel)), (zm 2 (by decide +kernel)), zm 260 (by decide +kernel), ⟨by decide +kernel, by decide +kernel⟩, by decide +kernel⟩
theorem KI_B_117 : Cond.instanceMethod y_R_readsAt ∈ zAll := (zm 258 (by decide +kernel))
theorem KS_B_117 : Cond.selects y_R_readsAt.cls y_R_readsAt y_R_readsAt ∈ zAll := (zm 259 (by decide +kernel))
theorem K_B_121 : zCF R_B 121 y_B_isMark b_B_isMark 1 (some .boolean) 1 := ⟨(zm 265 (by decide +kernel)), (zm 1 (by decide +kernel)), zm 267 (by decide +kernel), ⟨by decide +kernel, by decide +kernel⟩, by decide +kernel⟩
theorem KS_B_121 : Cond.static y_B_isMark ∈ zAll := (zm 266 (by decide +kernel))
theorem F_B_124 : zFd R_B 124 iM 0 (.array .int) true false := ⟨R_M, T_M, 2, t_M, rfl, by decide, (zm 38 (by decide +kernel)), u_M_in, t_M_ok, n_M, rfl, rfl, fun h => by cases h⟩
theorem F_B_128 : zFd R_B 128 iM 1 (.array .boolean) true false := ⟨R_M, T_M, 2, t_M, rfl, by decide, (zm 40 (by decide +kernel)), u_M_in, t_M_ok, n_M, rfl, rfl, fun h => by cases h⟩
theorem K_B_132 : zCF R_B 132 y_M_firstFrom b_M_firstFrom 4 (some .int) 1 := ⟨(zm 280 (by decide +kernel)), (zm 3 (by decide +kernel)), zm 283 (by decide +kernel), ⟨by decide +kernel, by decide +kernel⟩, by decide +kernel⟩
theorem KI_B_132 : Cond.instanceMethod y_M_firstFrom ∈ zAll := (zm 281 (by decide +kernel))
theorem KS_B_132 : Cond.selects y_M_firstFrom.cls y_M_firstFrom y_M_firstFrom ∈ zAll := (zm 282 (by decide +kernel))
theorem F_B_135 : zFd R_B 135 iV 2 (.boolean) true false := ⟨R_V, T_V, 7, t_V, rfl, by decide, (zm 60 (by decide +kernel)), u_V_in, t_V_ok, n_V, rfl, rfl, fun h => by cases h⟩
theorem F_B_139 : zFd R_B 139 iV 3 (.int) true false := ⟨R_V, T_V, 7, t_V, rfl, by decide, (zm 62 (by decide +kernel)), u_V_in, t_V_ok, n_V, rfl, rfl, fun h => by cases h⟩
theorem F_B_142 : zFd R_B 142 iV 4 (.array .char) true false := ⟨R_V, T_V, 7, t_V, rfl, by decide, (zm 64 (by decide +kernel)), u_V_in, t_V_ok, n_V, rfl, rfl, fun h => by cases h⟩
theorem K_B_145 : zCF R_B 145 y_B_takeOut b_B_takeOut 3 none 2 := ⟨(zm 169 (by decide +kernel)), (zm 1 (by decide +kernel)), zm 172 (by decide +kernel), ⟨by decide +kernel, by decide +kernel⟩, by decide +kernel⟩
theorem KI_B_145 : Cond.instanceMethod y_B_takeOut ∈ zAll := (zm 171 (by decide +kernel))
theorem KS_B_145 : Cond.selects y_B_takeOut.cls y_B_takeOut y_B_takeOut ∈ zAll := zms 3 (by decide +kernel)
theorem K_B_149 : zCF R_B 149 y_B_putIn b_B_putIn 3 none 2 := ⟨(zm 157 (by decide +kernel)), (zm 1 (by decide +kernel)), zm 160 (by decide +kernel), ⟨by decide +kernel, by decide +kernel⟩, by decide +kernel⟩
theorem KI_B_149 : Cond.instanceMethod y_B_putIn ∈ zAll := (zm 159 (by decide +kernel))
theorem KS_B_149 : Cond.selects y_B_putIn.cls y_B_putIn y_B_putIn ∈ zAll := zms 2 (by decide +kernel)
theorem K_B_153 : zCF R_B 153 y_R_open b_R_open 3 none 2 := ⟨(zm 161 (by decide +kernel)), (zm 2 (by decide +kernel)), zm 164 (by decide +kernel), ⟨by decide +kernel, by decide +kernel⟩, by decide +kernel⟩
theorem KI_B_153 : Cond.instanceMethod y_R_open ∈ zAll := (zm 162 (by decide +kernel))
theorem KS_B_153 : Cond.selects y_R_open.cls y_R_open y_R_open ∈ zAll := (zm 163 (by decide +kernel))
theorem K_B_156 : zCF R_B 156 y_M_moveForComing b_M_moveForComing 4 none 2 := ⟨(zm 165 (by decide +kernel)), (zm 3 (by decide +kernel)), zm 168 (by decide +kernel), ⟨by decide +kernel, by decide +kernel⟩, by decide +kernel⟩
theorem KI_B_156 : Cond.instanceMethod y_M_moveForComing ∈ zAll := (zm 166 (by decide +kernel))
theorem KS_B_156 : Cond.selects y_M_moveForComing.cls y_M_moveForComing y_M_moveForComing ∈ zAll := (zm 167 (by decide +kernel))
theorem K_B_159 : zCF R_B 159 y_R_close b_R_close 4 none 2 := ⟨(zm 173 (by decide +kernel)), (zm 2 (by decide +kernel)), zm 176 (by decide +kernel), ⟨by decide +kernel, by decide +kernel⟩, by decide +kernel⟩
theorem KI_B_159 : Cond.instanceMethod y_R_close ∈ zAll := (zm 174 (by decide +kernel))
theorem KS_B_159 : Cond.selects y_R_close.cls y_R_close y_R_close ∈ zAll := (zm 175 (by decide +kernel))
theorem K_B_162 : zCF R_B 162 y_M_moveForGoing b_M_moveForGoing 4 none 2 := ⟨(zm 177 (by decide +kernel)), (zm 3 (by decide +kernel)), zm 180 (by decide +kernel), ⟨by decide +kernel, by decide +kernel⟩, by decide +kernel⟩
theorem KI_B_162 : Cond.instanceMethod y_M_moveForGoing ∈ zAll := (zm 178 (by decide +kernel))
theorem KS_B_162 : Cond.selects y_M_moveForGoing.cls y_M_moveForGoing y_M_moveForGoing ∈ zAll := (zm 179 (by decide +kernel))
theorem OI_O_1 : zOi R_O 1 := ⟨(zm 289 (by decide +kernel)), (zm 13 (by decide +kernel)), zm 14 (by decide +kernel)⟩
theorem F_O_7 : zFd R_O 7 iO 0 (.int) false true := ⟨R_O, T_O, 17, t_O, rfl, by decide, (zm 290 (by decide +kernel)), u_O_in, t_O_ok, n_O, rfl, rfl, fun _ => rfl⟩
theorem F_O_13 : zFd R_O 13 iO 1 (.array .int) false true := ⟨R_O, T_O, 17, t_O, rfl, by decide, (zm 291 (by decide +kernel)), u_O_in, t_O_ok, n_O, rfl, rfl, fun _ => rfl⟩
theorem F_O_17 : zFd R_O 17 iO 2 (.array .boolean) false true := ⟨R_O, T_O, 17, t_O, rfl, by decide, (zm 292 (by decide +kernel)), u_O_in, t_O_ok, n_O, rfl, rfl, fun _ => rfl⟩
theorem F_O_21 : zFd R_O 21 iO 3 (.array .int) false true := ⟨R_O, T_O, 17, t_O, rfl, by decide, (zm 293 (by decide +kernel)), u_O_in, t_O_ok, n_O, rfl, rfl, fun _ => rfl⟩
theorem F_O_24 : zFd R_O 24 iO 4 (.array .int) false true := ⟨R_O, T_O, 17, t_O, rfl, by decide, (zm 294 (by decide +kernel)), u_O_in, t_O_ok, n_O, rfl, rfl, fun _ => rfl⟩
theorem F_O_27 : zFd R_O 27 iO 5 (.array .int) false true := ⟨R_O, T_O, 17, t_O, rfl, by decide, (zm 295 (by decide +kernel)), u_O_in, t_O_ok, n_O, rfl, rfl, fun _ => rfl⟩
theorem F_O_30 : zFd R_O 30 iO 7 (.array .char) false true := ⟨R_O, T_O, 17, t_O, rfl, by decide, (zm 297 (by decide +kernel)), u_O_in, t_O_ok, n_O, rfl, rfl, fun _ => rfl⟩
theorem F_O_34 : zFd R_O 34 iO 10 (.array .char) false true := ⟨R_O, T_O, 17, t_O, rfl, by decide, (zm 300 (by decide +kernel)), u_O_in, t_O_ok, n_O, rfl, rfl, fun _ => rfl⟩
theorem F_O_37 : zFd R_O 37 iO 11 (.array .int) false true := ⟨R_O, T_O, 17, t_O, rfl, by decide, (zm 301 (by decide +kernel)), u_O_in, t_O_ok, n_O, rfl, rfl, fun _ => rfl⟩
theorem F_O_40 : zFd R_O 40 iO 13 (.array .char) false true := ⟨R_O, T_O, 17, t_O, rfl, by decide, (zm 303 (by decide +kernel)), u_O_in, t_O_ok, n_O, rfl, rfl, fun _ => rfl⟩
theorem F_O_43 : zFd R_O 43 iO 14 (.array .boolean) false true := ⟨R_O, T_O, 17, t_O, rfl, by decide, (zm 304 (by decide +kernel)), u_O_in, t_O_ok, n_O, rfl, rfl, fun _ => rfl⟩
theorem F_O_46 : zFd R_O 46 iO 15 (.array .int) false true := ⟨R_O, T_O, 17, t_O, rfl, by decide, (zm 305 (by decide +kernel)), u_O_in, t_O_ok, n_O, rfl, rfl, fun _ => rfl⟩
theorem F_O_49 : zFd R_O 49 iO 16 (.array .boolean) false true := ⟨R_O, T_O, 17, t_O, rfl, by decide, (zm 306 (by decide +kernel)), u_O_in, t_O_ok, n_O, rfl, rfl, fun _ => rfl⟩
theorem F_O_52 : zFd R_O 52 iO 12 (.int) false true := ⟨R_O, T_O, 17, t_O, rfl, by decide, (zm 302 (by decide +kernel)), u_O_in, t_O_ok, n_O, rfl, rfl, fun _ => rfl⟩
theorem F_O_55 : zFd R_O 55 iO 9 (.int) false true := ⟨R_O, T_O, 17, t_O, rfl, by decide, (zm 299 (by decide +kernel)), u_O_in, t_O_ok, n_O, rfl, rfl, fun _ => rfl⟩
theorem K_O_58 : zCF R_O 58 y_O_isStretch b_O_isStretch 3 (some .boolean) 2 := ⟨(zm 358 (by decide +kernel)), (zm 5 (by decide +kernel)), zm 361 (by decide +kernel), ⟨by decide +kernel, by decide +kernel⟩, by decide +kernel⟩
theorem KI_O_58 : Cond.instanceMethod y_O_isStretch ∈ zAll := (zm 360 (by decide +kernel))
theorem KS_O_58 : Cond.selects y_O_isStretch.cls y_O_isStretch y_O_isStretch ∈ zAll := zms 7 (by decide +kernel)
theorem F_O_62 : zFd R_O 62 iO 8 (.int) false true := ⟨R_O, T_O, 17, t_O, rfl, by decide, (zm 298 (by decide +kernel)), u_O_in, t_O_ok, n_O, rfl, rfl, fun _ => rfl⟩
theorem K_O_65 : zCF R_O 65 y_O_bring b_O_bring 3 none 1 := ⟨(zm 382 (by decide +kernel)), (zm 5 (by decide +kernel)), zm 385 (by decide +kernel), ⟨by decide +kernel, by decide +kernel⟩, by decide +kernel⟩
theorem KI_O_65 : Cond.instanceMethod y_O_bring ∈ zAll := (zm 384 (by decide +kernel))
theorem KS_O_65 : Cond.selects y_O_bring.cls y_O_bring y_O_bring ∈ zAll := zms 12 (by decide +kernel)
theorem K_O_69 : zCF R_O 69 y_O_take b_O_take 3 none 1 := ⟨(zm 386 (by decide +kernel)), (zm 5 (by decide +kernel)), zm 389 (by decide +kernel), ⟨by decide +kernel, by decide +kernel⟩, by decide +kernel⟩
theorem KI_O_69 : Cond.instanceMethod y_O_take ∈ zAll := (zm 388 (by decide +kernel))
theorem KS_O_69 : Cond.selects y_O_take.cls y_O_take y_O_take ∈ zAll := zms 13 (by decide +kernel)
theorem K_O_72 : zCF R_O 72 y_O_moveMarks b_O_moveMarks 6 none 3 := ⟨(zm 374 (by decide +kernel)), (zm 5 (by decide +kernel)), zm 377 (by decide +kernel), ⟨by decide +kernel, by decide +kernel⟩, by decide +kernel⟩
theorem KI_O_72 : Cond.instanceMethod y_O_moveMarks ∈ zAll := (zm 376 (by decide +kernel))
theorem KS_O_72 : Cond.selects y_O_moveMarks.cls y_O_moveMarks y_O_moveMarks ∈ zAll := zms 10 (by decide +kernel)
theorem K_O_76 : zCF R_O 76 y_O_make b_O_make 3 none 0 := ⟨(zm 378 (by decide +kernel)), (zm 5 (by decide +kernel)), zm 381 (by decide +kernel), ⟨by decide +kernel, by decide +kernel⟩, by decide +kernel⟩
theorem KI_O_76 : Cond.instanceMethod y_O_make ∈ zAll := (zm 380 (by decide +kernel))
theorem KS_O_76 : Cond.selects y_O_make.cls y_O_make y_O_make ∈ zAll := zms 11 (by decide +kernel)
theorem K_O_79 : zCF R_O 79 y_O_isPosition b_O_isPosition 2 (some .boolean) 1 := ⟨(zm 366 (by decide +kernel)), (zm 5 (by decide +kernel)), zm 369 (by decide +kernel), ⟨by decide +kernel, by decide +kernel⟩, by decide +kernel⟩
theorem KI_O_79 : Cond.instanceMethod y_O_isPosition ∈ zAll := (zm 368 (by decide +kernel))
theorem KS_O_79 : Cond.selects y_O_isPosition.cls y_O_isPosition y_O_isPosition ∈ zAll := zms 8 (by decide +kernel)
theorem F_O_83 : zFd R_O 83 iO 6 (.int) false true := ⟨R_O, T_O, 17, t_O, rfl, by decide, (zm 296 (by decide +kernel)), u_O_in, t_O_ok, n_O, rfl, rfl, fun _ => rfl⟩
theorem K_O_86 : zCF R_O 86 y_O_edit b_O_edit 5 (some .int) 3 := ⟨(zm 370 (by decide +kernel)), (zm 5 (by decide +kernel)), zm 373 (by decide +kernel), ⟨by decide +kernel, by decide +kernel⟩, by decide +kernel⟩
theorem KI_O_86 : Cond.instanceMethod y_O_edit ∈ zAll := (zm 372 (by decide +kernel))
theorem KS_O_86 : Cond.selects y_O_edit.cls y_O_edit y_O_edit ∈ zAll := zms 9 (by decide +kernel)
theorem K_O_90 : zCF R_O 90 y_O_stepBack b_O_stepBack 1 none 0 := ⟨(zm 398 (by decide +kernel)), (zm 5 (by decide +kernel)), zm 401 (by decide +kernel), ⟨by decide +kernel, by decide +kernel⟩, by decide +kernel⟩
theorem KI_O_90 : Cond.instanceMethod y_O_stepBack ∈ zAll := (zm 400 (by decide +kernel))
theorem KS_O_90 : Cond.selects y_O_stepBack.cls y_O_stepBack y_O_stepBack ∈ zAll := zms 14 (by decide +kernel)
theorem K_O_93 : zCF R_O 93 y_O_stepOn b_O_stepOn 2 none 1 := ⟨(zm 406 (by decide +kernel)), (zm 5 (by decide +kernel)), zm 409 (by decide +kernel), ⟨by decide +kernel, by decide +kernel⟩, by decide +kernel⟩
theorem KI_O_93 : Cond.instanceMethod y_O_stepOn ∈ zAll := (zm 408 (by decide +kernel))
theorem KS_O_93 : Cond.selects y_O_stepOn.cls y_O_stepOn y_O_stepOn ∈ zAll := zms 15 (by decide +kernel)
theorem K_O_96 : zCF R_O 96 y_O_leads b_O_leads 4 (some .boolean) 2 := ⟨(zm 414 (by decide +kernel)), (zm 5 (by decide +kernel)), zm 417 (by decide +kernel), ⟨by decide +kernel, by decide +kernel⟩, by decide +kernel⟩
theorem KI_O_96 : Cond.instanceMethod y_O_leads ∈ zAll := (zm 416 (by decide +kernel))
theorem KS_O_96 : Cond.selects y_O_leads.cls y_O_leads y_O_leads ∈ zAll := zms 16 (by decide +kernel)
theorem K_O_99 : zCF R_O 99 y_O_next b_O_next 3 (some .int) 1 := ⟨(zm 418 (by decide +kernel)), (zm 5 (by decide +kernel)), zm 421 (by decide +kernel), ⟨by decide +kernel, by decide +kernel⟩, by decide +kernel⟩
theorem KI_O_99 : Cond.instanceMethod y_O_next ∈ zAll := (zm 420 (by decide +kernel))
theorem KS_O_99 : Cond.selects y_O_next.cls y_O_next y_O_next ∈ zAll := zms 17 (by decide +kernel)
theorem K_O_103 : zCF R_O 103 y_O_lineOf b_O_lineOf 4 (some .int) 1 := ⟨(zm 450 (by decide +kernel)), (zm 5 (by decide +kernel)), zm 453 (by decide +kernel), ⟨by decide +kernel, by decide +kernel⟩, by decide +kernel⟩
theorem KI_O_103 : Cond.instanceMethod y_O_lineOf ∈ zAll := (zm 451 (by decide +kernel))
theorem KS_O_103 : Cond.selects y_O_lineOf.cls y_O_lineOf y_O_lineOf ∈ zAll := (zm 452 (by decide +kernel))
theorem K_O_106 : zCF R_O 106 y_O_isScratch b_O_isScratch 3 (some .boolean) 1 := ⟨(zm 463 (by decide +kernel)), (zm 5 (by decide +kernel)), zm 466 (by decide +kernel), ⟨by decide +kernel, by decide +kernel⟩, by decide +kernel⟩
theorem KI_O_106 : Cond.instanceMethod y_O_isScratch ∈ zAll := (zm 465 (by decide +kernel))
theorem KS_O_106 : Cond.selects y_O_isScratch.cls y_O_isScratch y_O_isScratch ∈ zAll := zms 18 (by decide +kernel)
theorem W_arrC : Cond.arrayClass .char ∈ zAll := (zm 30 (by decide +kernel))
theorem W_arrI : Cond.arrayClass .int ∈ zAll := (zm 46 (by decide +kernel))
theorem W_arrZ : Cond.arrayClass .boolean ∈ zAll := (zm 47 (by decide +kernel))
