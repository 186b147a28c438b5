theorem dX0_coilVoltage_21 : decode cX0_coilVoltage 21 = .ok (.bipush 100, 2) := by decide +kernel
theorem dX0_coilVoltage_23 : decode cX0_coilVoltage 23 = .ok (.if_icmp .le 7, 3) := by decide +kernel
theorem dX0_coilVoltage_26 : decode cX0_coilVoltage 26 = .ok (.sipush (-1001), 3) := by decide +kernel
theorem dX0_coilVoltage_29 : decode cX0_coilVoltage 29 = .ok (.ireturn, 1) := by decide +kernel
theorem dX0_coilVoltage_30 : decode cX0_coilVoltage 30 = .ok (.aload_n 0, 1) := by decide +kernel
theorem dX0_coilVoltage_31 : decode cX0_coilVoltage 31 = .ok (.aload_n 0, 1) := by decide +kernel
theorem dX0_coilVoltage_32 : decode cX0_coilVoltage 32 = .ok (.iload_n 1, 1) := by decide +kernel
theorem dX0_coilVoltage_33 : decode cX0_coilVoltage 33 = .ok (.invokevirtual 75, 3) := by decide +kernel
theorem dX0_coilVoltage_36 : decode cX0_coilVoltage 36 = .ok (.iload_n 2, 1) := by decide +kernel
theorem dX0_coilVoltage_37 : decode cX0_coilVoltage 37 = .ok (.invokevirtual 103, 3) := by decide +kernel
theorem dX0_coilVoltage_40 : decode cX0_coilVoltage 40 = .ok (.aload_n 0, 1) := by decide +kernel
theorem dX0_coilVoltage_41 : decode cX0_coilVoltage 41 = .ok (.aload_n 0, 1) := by decide +kernel
theorem dX0_coilVoltage_42 : decode cX0_coilVoltage 42 = .ok (.iload_n 1, 1) := by decide +kernel
theorem dX0_coilVoltage_43 : decode cX0_coilVoltage 43 = .ok (.invokevirtual 85, 3) := by decide +kernel
theorem dX0_coilVoltage_46 : decode cX0_coilVoltage 46 = .ok (.iload_n 2, 1) := by decide +kernel
theorem dX0_coilVoltage_47 : decode cX0_coilVoltage 47 = .ok (.invokevirtual 103, 3) := by decide +kernel
theorem dX0_coilVoltage_50 : decode cX0_coilVoltage 50 = .ok (.isub, 1) := by decide +kernel
theorem dX0_coilVoltage_51 : decode cX0_coilVoltage 51 = .ok (.ireturn, 1) := by decide +kernel
set_option maxRecDepth 20000 in
theorem ggX0_sideVoltage_X0_wrap : GoodIn wsX0_sideVoltage wsX0_wrap := goodIn_r _ [6] (by decide +kernel) (by decide +kernel)
set_option maxRecDepth 20000 in
theorem gX0_sideVoltage_X0_wrap : GoodIn wsX0_sideVoltage (va_wsS RX0 71 yX0_wrap wsX0_wrap) := goodIn_app (goodIn_of _ (by decide +kernel)) ggX0_sideVoltage_X0_wrap
theorem dX0_sideVoltage_0 : decode cX0_sideVoltage 0 = .ok (.aload_n 0, 1) := by decide +kernel
theorem dX0_sideVoltage_1 : decode cX0_sideVoltage 1 = .ok (.getfield 49, 3) := by decide +kernel
theorem dX0_sideVoltage_4 : decode cX0_sideVoltage 4 = .ok (.ifCond .le 26, 3) := by decide +kernel
theorem dX0_sideVoltage_7 : decode cX0_sideVoltage 7 = .ok (.iload_n 1, 1) := by decide +kernel
theorem dX0_sideVoltage_8 : decode cX0_sideVoltage 8 = .ok (.iload_n 2, 1) := by decide +kernel
theorem dX0_sideVoltage_9 : decode cX0_sideVoltage 9 = .ok (.iadd, 1) := by decide +kernel
theorem dX0_sideVoltage_10 : decode cX0_sideVoltage 10 = .ok (.aload_n 0, 1) := by decide +kernel
theorem dX0_sideVoltage_11 : decode cX0_sideVoltage 11 = .ok (.getfield 49, 3) := by decide +kernel
theorem dX0_sideVoltage_14 : decode cX0_sideVoltage 14 = .ok (.invokestatic 71, 3) := by decide +kernel
theorem dX0_sideVoltage_17 : decode cX0_sideVoltage 17 = .ok (.aload_n 0, 1) := by decide +kernel
theorem dX0_sideVoltage_18 : decode cX0_sideVoltage 18 = .ok (.getfield 46, 3) := by decide +kernel
theorem dX0_sideVoltage_21 : decode cX0_sideVoltage 21 = .ok (.imul, 1) := by decide +kernel
theorem dX0_sideVoltage_22 : decode cX0_sideVoltage 22 = .ok (.aload_n 0, 1) := by decide +kernel
theorem dX0_sideVoltage_23 : decode cX0_sideVoltage 23 = .ok (.getfield 49, 3) := by decide +kernel
theorem dX0_sideVoltage_26 : decode cX0_sideVoltage 26 = .ok (.idiv, 1) := by decide +kernel
theorem dX0_sideVoltage_27 : decode cX0_sideVoltage 27 = .ok (.goto 4, 3) := by decide +kernel
theorem dX0_sideVoltage_30 : decode cX0_sideVoltage 30 = .ok (.iconst 0, 1) := by decide +kernel
theorem dX0_sideVoltage_31 : decode cX0_sideVoltage 31 = .ok (.istore_n 3, 1) := by decide +kernel
theorem dX0_sideVoltage_32 : decode cX0_sideVoltage 32 = .ok (.iload_n 3, 1) := by decide +kernel
theorem dX0_sideVoltage_33 : decode cX0_sideVoltage 33 = .ok (.iconst 2, 1) := by decide +kernel
theorem dX0_sideVoltage_34 : decode cX0_sideVoltage 34 = .ok (.irem, 1) := by decide +kernel
theorem dX0_sideVoltage_35 : decode cX0_sideVoltage 35 = .ok (.ifCond .ne 7, 3) := by decide +kernel
theorem dX0_sideVoltage_38 : decode cX0_sideVoltage 38 = .ok (.iconst 1, 1) := by decide +kernel
theorem dX0_sideVoltage_39 : decode cX0_sideVoltage 39 = .ok (.goto 4, 3) := by decide +kernel
theorem dX0_sideVoltage_42 : decode cX0_sideVoltage 42 = .ok (.iconst (-1), 1) := by decide +kernel
theorem dX0_sideVoltage_43 : decode cX0_sideVoltage 43 = .ok (.ireturn, 1) := by decide +kernel
theorem dX0_wrap_0 : decode cX0_wrap 0 = .ok (.iload_n 1, 1) := by decide +kernel
theorem dX0_wrap_1 : decode cX0_wrap 1 = .ok (.ifCond .gt 5, 3) := by decide +kernel
theorem dX0_wrap_4 : decode cX0_wrap 4 = .ok (.iconst 0, 1) := by decide +kernel
theorem dX0_wrap_5 : decode cX0_wrap 5 = .ok (.ireturn, 1) := by decide +kernel
theorem dX0_wrap_6 : decode cX0_wrap 6 = .ok (.iload_n 0, 1) := by decide +kernel
theorem dX0_wrap_7 : decode cX0_wrap 7 = .ok (.iload_n 1, 1) := by decide +kernel
theorem dX0_wrap_8 : decode cX0_wrap 8 = .ok (.irem, 1) := by decide +kernel
theorem dX0_wrap_9 : decode cX0_wrap 9 = .ok (.istore_n 2, 1) := by decide +kernel
theorem dX0_wrap_10 : decode cX0_wrap 10 = .ok (.iload_n 2, 1) := by decide +kernel
theorem dX0_wrap_11 : decode cX0_wrap 11 = .ok (.ifCond .ge 9, 3) := by decide +kernel
theorem dX0_wrap_14 : decode cX0_wrap 14 = .ok (.iload_n 2, 1) := by decide +kernel
theorem dX0_wrap_15 : decode cX0_wrap 15 = .ok (.iload_n 1, 1) := by decide +kernel
theorem dX0_wrap_16 : decode cX0_wrap 16 = .ok (.iadd, 1) := by decide +kernel
theorem dX0_wrap_17 : decode cX0_wrap 17 = .ok (.goto 4, 3) := by decide +kernel
theorem dX0_wrap_20 : decode cX0_wrap 20 = .ok (.iload_n 2, 1) := by decide +kernel
theorem dX0_wrap_21 : decode cX0_wrap 21 = .ok (.ireturn, 1) := by decide +kernel
theorem dL_cell_0 : decode cL_cell 0 = .ok (.iload_n 1, 1) := by decide +kernel
theorem dL_cell_1 : decode cL_cell 1 = .ok (.aload_n 0, 1) := by decide +kernel
theorem dL_cell_2 : decode cL_cell 2 = .ok (.arraylength, 1) := by decide +kernel
theorem dL_cell_3 : decode cL_cell 3 = .ok (.if_icmp .ge 9, 3) := by decide +kernel
theorem dL_cell_6 : decode cL_cell 6 = .ok (.aload_n 0, 1) := by decide +kernel
theorem dL_cell_7 : decode cL_cell 7 = .ok (.iload_n 1, 1) := by decide +kernel
theorem dL_cell_8 : decode cL_cell 8 = .ok (.iaload, 1) := by decide +kernel
theorem dL_cell_9 : decode cL_cell 9 = .ok (.goto 11, 3) := by decide +kernel
theorem dL_cell_12 : decode cL_cell 12 = .ok (.sipush 7919, 3) := by decide +kernel
theorem dL_cell_15 : decode cL_cell 15 = .ok (.iload_n 1, 1) := by decide +kernel
theorem dL_cell_16 : decode cL_cell 16 = .ok (.imul, 1) := by decide +kernel
theorem dL_cell_17 : decode cL_cell 17 = .ok (.bipush 13, 2) := by decide +kernel
theorem dL_cell_19 : decode cL_cell 19 = .ok (.iadd, 1) := by decide +kernel
theorem dL_cell_20 : decode cL_cell 20 = .ok (.ldc 7, 2) := by decide +kernel
theorem dL_cell_22 : decode cL_cell 22 = .ok (.iand, 1) := by decide +kernel
theorem dL_cell_23 : decode cL_cell 23 = .ok (.ireturn, 1) := by decide +kernel
theorem dL_isOpen_0 : decode cL_isOpen 0 = .ok (.aload_n 0, 1) := by decide +kernel
theorem dL_isOpen_1 : decode cL_isOpen 1 = .ok (.iload_n 1, 1) := by decide +kernel
theorem dL_isOpen_2 : decode cL_isOpen 2 = .ok (.bipush 24, 2) := by decide +kernel
theorem dL_isOpen_4 : decode cL_isOpen 4 = .ok (.idiv, 1) := by decide +kernel
theorem dL_isOpen_5 : decode cL_isOpen 5 = .ok (.iaload, 1) := by decide +kernel
theorem dL_isOpen_6 : decode cL_isOpen 6 = .ok (.iload_n 1, 1) := by decide +kernel
theorem dL_isOpen_7 : decode cL_isOpen 7 = .ok (.bipush 24, 2) := by decide +kernel
theorem dL_isOpen_9 : decode cL_isOpen 9 = .ok (.irem, 1) := by decide +kernel
theorem dL_isOpen_10 : decode cL_isOpen 10 = .ok (.ishr, 1) := by decide +kernel
theorem dL_isOpen_11 : decode cL_isOpen 11 = .ok (.iconst 1, 1) := by decide +kernel
theorem dL_isOpen_12 : decode cL_isOpen 12 = .ok (.iand, 1) := by decide +kernel
theorem dL_isOpen_13 : decode cL_isOpen 13 = .ok (.iconst 1, 1) := by decide +kernel
theorem dL_isOpen_14 : decode cL_isOpen 14 = .ok (.if_icmp .ne 7, 3) := by decide +kernel
theorem dL_isOpen_17 : decode cL_isOpen 17 = .ok (.iconst 1, 1) := by decide +kernel
theorem dL_isOpen_18 : decode cL_isOpen 18 = .ok (.goto 4, 3) := by decide +kernel
theorem dL_isOpen_21 : decode cL_isOpen 21 = .ok (.iconst 0, 1) := by decide +kernel
theorem dL_isOpen_22 : decode cL_isOpen 22 = .ok (.ireturn, 1) := by decide +kernel
theorem dL_mod_0 : decode cL_mod 0 = .ok (.iload_n 0, 1) := by decide +kernel
theorem dL_mod_1 : decode cL_mod 1 = .ok (.iload_n 1, 1) := by decide +kernel
theorem dL_mod_2 : decode cL_mod 2 = .ok (.irem, 1) := by decide +kernel
theorem dL_mod_3 : decode cL_mod 3 = .ok (.iload_n 1, 1) := by decide +kernel
theorem dL_mod_4 : decode cL_mod 4 = .ok (.iadd, 1) := by decide +kernel
theorem dL_mod_5 : decode cL_mod 5 = .ok (.iload_n 1, 1) := by decide +kernel
theorem dL_mod_6 : decode cL_mod 6 = .ok (.irem, 1) := by decide +kernel
theorem dL_mod_7 : decode cL_mod 7 = .ok (.ireturn, 1) := by decide +kernel
theorem dL_slotPitch_0 : decode cL_slotPitch 0 = .ok (.aload_n 0, 1) := by decide +kernel
theorem dL_slotPitch_1 : decode cL_slotPitch 1 = .ok (.iconst 1, 1) := by decide +kernel
theorem dL_slotPitch_2 : decode cL_slotPitch 2 = .ok (.iaload, 1) := by decide +kernel
theorem dL_slotPitch_3 : decode cL_slotPitch 3 = .ok (.aload_n 0, 1) := by decide +kernel
theorem dL_slotPitch_4 : decode cL_slotPitch 4 = .ok (.iconst 0, 1) := by decide +kernel
theorem dL_slotPitch_5 : decode cL_slotPitch 5 = .ok (.iaload, 1) := by decide +kernel
theorem dL_slotPitch_6 : decode cL_slotPitch 6 = .ok (.idiv, 1) := by decide +kernel
theorem dL_slotPitch_7 : decode cL_slotPitch 7 = .ok (.aload_n 0, 1) := by decide +kernel
theorem dL_slotPitch_8 : decode cL_slotPitch 8 = .ok (.bipush 8, 2) := by decide +kernel
theorem dL_slotPitch_10 : decode cL_slotPitch 10 = .ok (.iaload, 1) := by decide +kernel
theorem dL_slotPitch_11 : decode cL_slotPitch 11 = .ok (.isub, 1) := by decide +kernel
theorem dL_slotPitch_12 : decode cL_slotPitch 12 = .ok (.istore_n 1, 1) := by decide +kernel
theorem dL_slotPitch_13 : decode cL_slotPitch 13 = .ok (.iload_n 1, 1) := by decide +kernel
theorem dL_slotPitch_14 : decode cL_slotPitch 14 = .ok (.iconst 1, 1) := by decide +kernel
theorem dL_slotPitch_15 : decode cL_slotPitch 15 = .ok (.if_icmp .ge 7, 3) := by decide +kernel
theorem dL_slotPitch_18 : decode cL_slotPitch 18 = .ok (.iconst 1, 1) := by decide +kernel
theorem dL_slotPitch_19 : decode cL_slotPitch 19 = .ok (.goto 4, 3) := by decide +kernel
theorem dL_slotPitch_22 : decode cL_slotPitch 22 = .ok (.iload_n 1, 1) := by decide +kernel
theorem dL_slotPitch_23 : decode cL_slotPitch 23 = .ok (.ireturn, 1) := by decide +kernel
set_option maxRecDepth 20000 in
theorem ggL_lower_L_slotPitch : GoodIn wsL_lower wsL_slotPitch := goodIn_r _ [4] (by decide +kernel) (by decide +kernel)
set_option maxRecDepth 20000 in
theorem gL_lower_L_slotPitch : GoodIn wsL_lower (va_wsS RL 8 yL_slotPitch wsL_slotPitch) := goodIn_app (goodIn_of _ (by decide +kernel)) ggL_lower_L_slotPitch
theorem dL_lower_0 : decode cL_lower 0 = .ok (.iload_n 1, 1) := by decide +kernel
theorem dL_lower_1 : decode cL_lower 1 = .ok (.aload_n 0, 1) := by decide +kernel
theorem dL_lower_2 : decode cL_lower 2 = .ok (.iconst 2, 1) := by decide +kernel
theorem dL_lower_3 : decode cL_lower 3 = .ok (.iaload, 1) := by decide +kernel
theorem dL_lower_4 : decode cL_lower 4 = .ok (.idiv, 1) := by decide +kernel
theorem dL_lower_5 : decode cL_lower 5 = .ok (.aload_n 0, 1) := by decide +kernel
theorem dL_lower_6 : decode cL_lower 6 = .ok (.invokestatic 8, 3) := by decide +kernel
theorem dL_lower_9 : decode cL_lower 9 = .ok (.iadd, 1) := by decide +kernel
theorem dL_lower_10 : decode cL_lower 10 = .ok (.aload_n 0, 1) := by decide +kernel
theorem dL_lower_11 : decode cL_lower 11 = .ok (.iconst 1, 1) := by decide +kernel
theorem dL_lower_12 : decode cL_lower 12 = .ok (.iaload, 1) := by decide +kernel
theorem dL_lower_13 : decode cL_lower 13 = .ok (.irem, 1) := by decide +kernel
theorem dL_lower_14 : decode cL_lower 14 = .ok (.ireturn, 1) := by decide +kernel
theorem dL_side_0 : decode cL_side 0 = .ok (.iload_n 1, 1) := by decide +kernel
theorem dL_side_1 : decode cL_side 1 = .ok (.iload_n 2, 1) := by decide +kernel
theorem dL_side_2 : decode cL_side 2 = .ok (.iadd, 1) := by decide +kernel
theorem dL_side_3 : decode cL_side 3 = .ok (.aload_n 0, 1) := by decide +kernel
theorem dL_side_4 : decode cL_side 4 = .ok (.iconst 1, 1) := by decide +kernel
theorem dL_side_5 : decode cL_side 5 = .ok (.iaload, 1) := by decide +kernel
theorem dL_side_6 : decode cL_side 6 = .ok (.irem, 1) := by decide +kernel
theorem dL_side_7 : decode cL_side 7 = .ok (.aload_n 0, 1) := by decide +kernel
theorem dL_side_8 : decode cL_side 8 = .ok (.iconst 0, 1) := by decide +kernel
theorem dL_side_9 : decode cL_side 9 = .ok (.iaload, 1) := by decide +kernel
theorem dL_side_10 : decode cL_side 10 = .ok (.imul, 1) := by decide +kernel
theorem dL_side_11 : decode cL_side 11 = .ok (.aload_n 0, 1) := by decide +kernel
theorem dL_side_12 : decode cL_side 12 = .ok (.iconst 1, 1) := by decide +kernel
theorem dL_side_13 : decode cL_side 13 = .ok (.iaload, 1) := by decide +kernel
theorem dL_side_14 : decode cL_side 14 = .ok (.idiv, 1) := by decide +kernel
theorem dL_side_15 : decode cL_side 15 = .ok (.istore_n 3, 1) := by decide +kernel
theorem dL_side_16 : decode cL_side 16 = .ok (.iload_n 3, 1) := by decide +kernel
theorem dL_side_17 : decode cL_side 17 = .ok (.iconst 2, 1) := by decide +kernel
theorem dL_side_18 : decode cL_side 18 = .ok (.irem, 1) := by decide +kernel
theorem dL_side_19 : decode cL_side 19 = .ok (.ifCond .ne 7, 3) := by decide +kernel
theorem dL_side_22 : decode cL_side 22 = .ok (.iconst 1, 1) := by decide +kernel
theorem dL_side_23 : decode cL_side 23 = .ok (.goto 4, 3) := by decide +kernel
theorem dL_side_26 : decode cL_side 26 = .ok (.iconst (-1), 1) := by decide +kernel
theorem dL_side_27 : decode cL_side 27 = .ok (.ireturn, 1) := by decide +kernel
set_option maxRecDepth 20000 in
theorem ggL_voltage_L_side : GoodIn wsL_voltage wsL_side := goodIn_r _ [4] (by decide +kernel) (by decide +kernel)
set_option maxRecDepth 20000 in
theorem gL_voltage_L_side : GoodIn wsL_voltage (va_wsS RL 14 yL_side wsL_side) := goodIn_app (goodIn_of _ (by decide +kernel)) ggL_voltage_L_side
set_option maxRecDepth 20000 in
theorem ggL_voltage_L_lower : GoodIn wsL_voltage wsL_lower := goodIn_r _ [7, 8, 9, 3, 10] (by decide +kernel) (by decide +kernel)
set_option maxRecDepth 20000 in
theorem gL_voltage_L_lower : GoodIn wsL_voltage (va_wsS RL 18 yL_lower wsL_lower) := goodIn_app (goodIn_of _ (by decide +kernel)) ggL_voltage_L_lower
theorem dL_voltage_0 : decode cL_voltage 0 = .ok (.aload_n 0, 1) := by decide +kernel
theorem dL_voltage_1 : decode cL_voltage 1 = .ok (.iload_n 1, 1) := by decide +kernel
theorem dL_voltage_2 : decode cL_voltage 2 = .ok (.aload_n 0, 1) := by decide +kernel
theorem dL_voltage_3 : decode cL_voltage 3 = .ok (.iconst 2, 1) := by decide +kernel
theorem dL_voltage_4 : decode cL_voltage 4 = .ok (.iaload, 1) := by decide +kernel
theorem dL_voltage_5 : decode cL_voltage 5 = .ok (.idiv, 1) := by decide +kernel
theorem dL_voltage_6 : decode cL_voltage 6 = .ok (.iload_n 2, 1) := by decide +kernel
theorem dL_voltage_7 : decode cL_voltage 7 = .ok (.invokestatic 14, 3) := by decide +kernel
theorem dL_voltage_10 : decode cL_voltage 10 = .ok (.aload_n 0, 1) := by decide +kernel
theorem dL_voltage_11 : decode cL_voltage 11 = .ok (.aload_n 0, 1) := by decide +kernel
theorem dL_voltage_12 : decode cL_voltage 12 = .ok (.iload_n 1, 1) := by decide +kernel
theorem dL_voltage_13 : decode cL_voltage 13 = .ok (.invokestatic 18, 3) := by decide +kernel
theorem dL_voltage_16 : decode cL_voltage 16 = .ok (.iload_n 2, 1) := by decide +kernel
theorem dL_voltage_17 : decode cL_voltage 17 = .ok (.invokestatic 14, 3) := by decide +kernel
theorem dL_voltage_20 : decode cL_voltage 20 = .ok (.isub, 1) := by decide +kernel
theorem dL_voltage_21 : decode cL_voltage 21 = .ok (.ireturn, 1) := by decide +kernel
set_option maxRecDepth 20000 in
theorem ggL_armature_X0_setArmature : GoodIn wsL_armature wsX0_setArmature := goodIn_r _ [5, 6, 7, 8, 9, 4, 10, 11, 12, 13, 14, 15, 16, 17, 18, 19, 20, 21, 22, 23, 24, 25, 26, 27, 28, 29, 30, 31, 32, 33, 34, 35, 36, 37, 38, 39, 40, 41, 42, 43] (by decide +kernel) (by decide +kernel)
set_option maxRecDepth 20000 in
theorem gL_armature_X0_setArmature : GoodIn wsL_armature (wsV RL 36 RX0 yX0_setArmature wsX0_setArmature) := goodIn_app (goodIn_of _ (by decide +kernel)) ggL_armature_X0_setArmature
theorem dL_armature_0 : decode cL_armature 0 = .ok (.aload_n 2, 1) := by decide +kernel
theorem dL_armature_1 : decode cL_armature 1 = .ok (.iconst 0, 1) := by decide +kernel
theorem dL_armature_2 : decode cL_armature 2 = .ok (.iconst 2, 1) := by decide +kernel
theorem dL_armature_3 : decode cL_armature 3 = .ok (.iconst 2, 1) := by decide +kernel
theorem dL_armature_4 : decode cL_armature 4 = .ok (.iload_n 1, 1) := by decide +kernel
theorem dL_armature_5 : decode cL_armature 5 = .ok (.iconst 4, 1) := by decide +kernel
theorem dL_armature_6 : decode cL_armature 6 = .ok (.irem, 1) := by decide +kernel
theorem dL_armature_7 : decode cL_armature 7 = .ok (.imul, 1) := by decide +kernel
theorem dL_armature_8 : decode cL_armature 8 = .ok (.iadd, 1) := by decide +kernel
theorem dL_armature_9 : decode cL_armature 9 = .ok (.iastore, 1) := by decide +kernel
theorem dL_armature_10 : decode cL_armature 10 = .ok (.aload_n 2, 1) := by decide +kernel
theorem dL_armature_11 : decode cL_armature 11 = .ok (.iconst 1, 1) := by decide +kernel
theorem dL_armature_12 : decode cL_armature 12 = .ok (.aload_n 2, 1) := by decide +kernel
theorem dL_armature_13 : decode cL_armature 13 = .ok (.iconst 0, 1) := by decide +kernel
theorem dL_armature_14 : decode cL_armature 14 = .ok (.iaload, 1) := by decide +kernel
theorem dL_armature_15 : decode cL_armature 15 = .ok (.iload_n 1, 1) := by decide +kernel
theorem dL_armature_16 : decode cL_armature 16 = .ok (.iconst 4, 1) := by decide +kernel
theorem dL_armature_17 : decode cL_armature 17 = .ok (.idiv, 1) := by decide +kernel
theorem dL_armature_18 : decode cL_armature 18 = .ok (.bipush 25, 2) := by decide +kernel
theorem dL_armature_20 : decode cL_armature 20 = .ok (.aload_n 2, 1) := by decide +kernel
theorem dL_armature_21 : decode cL_armature 21 = .ok (.iconst 0, 1) := by decide +kernel
theorem dL_armature_22 : decode cL_armature 22 = .ok (.iaload, 1) := by decide +kernel
theorem dL_armature_23 : decode cL_armature 23 = .ok (.isub, 1) := by decide +kernel
theorem dL_armature_24 : decode cL_armature 24 = .ok (.irem, 1) := by decide +kernel
theorem dL_armature_25 : decode cL_armature 25 = .ok (.iadd, 1) := by decide +kernel
theorem dL_armature_26 : decode cL_armature 26 = .ok (.iastore, 1) := by decide +kernel
theorem dL_armature_27 : decode cL_armature 27 = .ok (.aload_n 2, 1) := by decide +kernel
theorem dL_armature_28 : decode cL_armature 28 = .ok (.iconst 2, 1) := by decide +kernel
theorem dL_armature_29 : decode cL_armature 29 = .ok (.iconst 1, 1) := by decide +kernel
theorem dL_armature_30 : decode cL_armature 30 = .ok (.iload_n 1, 1) := by decide +kernel
theorem dL_armature_31 : decode cL_armature 31 = .ok (.sipush 128, 3) := by decide +kernel
theorem dL_armature_34 : decode cL_armature 34 = .ok (.idiv, 1) := by decide +kernel
theorem dL_armature_35 : decode cL_armature 35 = .ok (.iconst 3, 1) := by decide +kernel
theorem dL_armature_36 : decode cL_armature 36 = .ok (.irem, 1) := by decide +kernel
theorem dL_armature_37 : decode cL_armature 37 = .ok (.iadd, 1) := by decide +kernel
theorem dL_armature_38 : decode cL_armature 38 = .ok (.iastore, 1) := by decide +kernel
theorem dL_armature_39 : decode cL_armature 39 = .ok (.aload_n 2, 1) := by decide +kernel
theorem dL_armature_40 : decode cL_armature 40 = .ok (.iconst 3, 1) := by decide +kernel
theorem dL_armature_41 : decode cL_armature 41 = .ok (.aload_n 2, 1) := by decide +kernel
theorem dL_armature_42 : decode cL_armature 42 = .ok (.iconst 1, 1) := by decide +kernel
theorem dL_armature_43 : decode cL_armature 43 = .ok (.iaload, 1) := by decide +kernel
theorem dL_armature_44 : decode cL_armature 44 = .ok (.aload_n 2, 1) := by decide +kernel
theorem dL_armature_45 : decode cL_armature 45 = .ok (.iconst 2, 1) := by decide +kernel
theorem dL_armature_46 : decode cL_armature 46 = .ok (.iaload, 1) := by decide +kernel
theorem dL_armature_47 : decode cL_armature 47 = .ok (.imul, 1) := by decide +kernel
theorem dL_armature_48 : decode cL_armature 48 = .ok (.iastore, 1) := by decide +kernel
theorem dL_armature_49 : decode cL_armature 49 = .ok (.aload_n 2, 1) := by decide +kernel
theorem dL_armature_50 : decode cL_armature 50 = .ok (.iconst 4, 1) := by decide +kernel
theorem dL_armature_51 : decode cL_armature 51 = .ok (.iconst 0, 1) := by decide +kernel
theorem dL_armature_52 : decode cL_armature 52 = .ok (.iastore, 1) := by decide +kernel
theorem dL_armature_53 : decode cL_armature 53 = .ok (.aload_n 2, 1) := by decide +kernel
theorem dL_armature_54 : decode cL_armature 54 = .ok (.iconst 5, 1) := by decide +kernel
theorem dL_armature_55 : decode cL_armature 55 = .ok (.iconst 1, 1) := by decide +kernel
theorem dL_armature_56 : decode cL_armature 56 = .ok (.iastore, 1) := by decide +kernel
theorem dL_armature_57 : decode cL_armature 57 = .ok (.aload_n 2, 1) := by decide +kernel
theorem dL_armature_58 : decode cL_armature 58 = .ok (.bipush 6, 2) := by decide +kernel
theorem dL_armature_60 : decode cL_armature 60 = .ok (.iconst 1, 1) := by decide +kernel
theorem dL_armature_61 : decode cL_armature 61 = .ok (.iastore, 1) := by decide +kernel
theorem dL_armature_62 : decode cL_armature 62 = .ok (.aload_n 2, 1) := by decide +kernel
theorem dL_armature_63 : decode cL_armature 63 = .ok (.bipush 7, 2) := by decide +kernel
theorem dL_armature_65 : decode cL_armature 65 = .ok (.iconst 1, 1) := by decide +kernel
theorem dL_armature_66 : decode cL_armature 66 = .ok (.iastore, 1) := by decide +kernel
theorem dL_armature_67 : decode cL_armature 67 = .ok (.aload_n 2, 1) := by decide +kernel
theorem dL_armature_68 : decode cL_armature 68 = .ok (.bipush 8, 2) := by decide +kernel
theorem dL_armature_70 : decode cL_armature 70 = .ok (.iconst 0, 1) := by decide +kernel
theorem dL_armature_71 : decode cL_armature 71 = .ok (.iastore, 1) := by decide +kernel
theorem dL_armature_72 : decode cL_armature 72 = .ok (.iconst 0, 1) := by decide +kernel
theorem dL_armature_73 : decode cL_armature 73 = .ok (.istore 4, 2) := by decide +kernel
theorem dL_armature_75 : decode cL_armature 75 = .ok (.iload 4, 2) := by decide +kernel
theorem dL_armature_77 : decode cL_armature 77 = .ok (.iconst 3, 1) := by decide +kernel
theorem dL_armature_78 : decode cL_armature 78 = .ok (.if_icmp .ge 14, 3) := by decide +kernel
theorem dL_armature_81 : decode cL_armature 81 = .ok (.aload_n 3, 1) := by decide +kernel
theorem dL_armature_82 : decode cL_armature 82 = .ok (.iload 4, 2) := by decide +kernel
theorem dL_armature_84 : decode cL_armature 84 = .ok (.iconst 0, 1) := by decide +kernel
theorem dL_armature_85 : decode cL_armature 85 = .ok (.iastore, 1) := by decide +kernel
theorem dL_armature_86 : decode cL_armature 86 = .ok (.iinc 4 1, 3) := by decide +kernel
theorem dL_armature_89 : decode cL_armature 89 = .ok (.goto (-14), 3) := by decide +kernel
theorem dL_armature_92 : decode cL_armature 92 = .ok (.aload_n 0, 1) := by decide +kernel
theorem dL_armature_93 : decode cL_armature 93 = .ok (.iconst 3, 1) := by decide +kernel
theorem dL_armature_94 : decode cL_armature 94 = .ok (.bipush 12, 2) := by decide +kernel
theorem dL_armature_96 : decode cL_armature 96 = .ok (.iconst 1, 1) := by decide +kernel
theorem dL_armature_97 : decode cL_armature 97 = .ok (.invokevirtual 36, 3) := by decide +kernel
theorem dL_armature_100 : decode cL_armature 100 = .ok (.sipush (-1001), 3) := by decide +kernel
theorem dL_armature_103 : decode cL_armature 103 = .ok (.if_icmp .ne 110, 3) := by decide +kernel
theorem dL_armature_106 : decode cL_armature 106 = .ok (.aload_n 0, 1) := by decide +kernel
theorem dL_armature_107 : decode cL_armature 107 = .ok (.bipush 10, 2) := by decide +kernel
theorem dL_armature_109 : decode cL_armature 109 = .ok (.bipush 12, 2) := by decide +kernel
theorem dL_armature_111 : decode cL_armature 111 = .ok (.iconst 1, 1) := by decide +kernel
theorem dL_armature_112 : decode cL_armature 112 = .ok (.invokevirtual 36, 3) := by decide +kernel
theorem dL_armature_115 : decode cL_armature 115 = .ok (.sipush (-1001), 3) := by decide +kernel
theorem dL_armature_118 : decode cL_armature 118 = .ok (.if_icmp .ne 95, 3) := by decide +kernel
theorem dL_armature_121 : decode cL_armature 121 = .ok (.aload_n 0, 1) := by decide +kernel
theorem dL_armature_122 : decode cL_armature 122 = .ok (.aload_n 2, 1) := by decide +kernel
theorem dL_armature_123 : decode cL_armature 123 = .ok (.iconst 0, 1) := by decide +kernel
theorem dL_armature_124 : decode cL_armature 124 = .ok (.iaload, 1) := by decide +kernel
theorem dL_armature_125 : decode cL_armature 125 = .ok (.aload_n 2, 1) := by decide +kernel
theorem dL_armature_126 : decode cL_armature 126 = .ok (.iconst 0, 1) := by decide +kernel
theorem dL_armature_127 : decode cL_armature 127 = .ok (.iaload, 1) := by decide +kernel
theorem dL_armature_128 : decode cL_armature 128 = .ok (.iconst 1, 1) := by decide +kernel
theorem dL_armature_129 : decode cL_armature 129 = .ok (.isub, 1) := by decide +kernel
theorem dL_armature_130 : decode cL_armature 130 = .ok (.iconst 1, 1) := by decide +kernel
theorem dL_armature_131 : decode cL_armature 131 = .ok (.invokevirtual 36, 3) := by decide +kernel
theorem dL_armature_134 : decode cL_armature 134 = .ok (.sipush (-1001), 3) := by decide +kernel
theorem dL_armature_137 : decode cL_armature 137 = .ok (.if_icmp .ne 76, 3) := by decide +kernel
theorem dL_armature_140 : decode cL_armature 140 = .ok (.aload_n 0, 1) := by decide +kernel
theorem dL_armature_141 : decode cL_armature 141 = .ok (.aload_n 2, 1) := by decide +kernel
theorem dL_armature_142 : decode cL_armature 142 = .ok (.iconst 0, 1) := by decide +kernel
theorem dL_armature_143 : decode cL_armature 143 = .ok (.iaload, 1) := by decide +kernel
theorem dL_armature_144 : decode cL_armature 144 = .ok (.bipush 25, 2) := by decide +kernel
theorem dL_armature_146 : decode cL_armature 146 = .ok (.iconst 1, 1) := by decide +kernel
theorem dL_armature_147 : decode cL_armature 147 = .ok (.invokevirtual 36, 3) := by decide +kernel
theorem dL_armature_150 : decode cL_armature 150 = .ok (.sipush (-1001), 3) := by decide +kernel
theorem dL_armature_153 : decode cL_armature 153 = .ok (.if_icmp .ne 60, 3) := by decide +kernel
theorem dL_armature_156 : decode cL_armature 156 = .ok (.aload_n 0, 1) := by decide +kernel
theorem dL_armature_157 : decode cL_armature 157 = .ok (.aload_n 2, 1) := by decide +kernel
theorem dL_armature_158 : decode cL_armature 158 = .ok (.iconst 0, 1) := by decide +kernel
theorem dL_armature_159 : decode cL_armature 159 = .ok (.iaload, 1) := by decide +kernel
theorem dL_armature_160 : decode cL_armature 160 = .ok (.aload_n 2, 1) := by decide +kernel
theorem dL_armature_161 : decode cL_armature 161 = .ok (.iconst 1, 1) := by decide +kernel
theorem dL_armature_162 : decode cL_armature 162 = .ok (.iaload, 1) := by decide +kernel
theorem dL_armature_163 : decode cL_armature 163 = .ok (.iconst 0, 1) := by decide +kernel
theorem dL_armature_164 : decode cL_armature 164 = .ok (.invokevirtual 36, 3) := by decide +kernel
theorem dL_armature_167 : decode cL_armature 167 = .ok (.sipush (-1001), 3) := by decide +kernel
theorem dL_armature_170 : decode cL_armature 170 = .ok (.if_icmp .ne 43, 3) := by decide +kernel
theorem dL_armature_173 : decode cL_armature 173 = .ok (.aload_n 0, 1) := by decide +kernel
theorem dL_armature_174 : decode cL_armature 174 = .ok (.aload_n 2, 1) := by decide +kernel
theorem dL_armature_175 : decode cL_armature 175 = .ok (.iconst 0, 1) := by decide +kernel
theorem dL_armature_176 : decode cL_armature 176 = .ok (.iaload, 1) := by decide +kernel
theorem dL_armature_177 : decode cL_armature 177 = .ok (.aload_n 2, 1) := by decide +kernel
theorem dL_armature_178 : decode cL_armature 178 = .ok (.iconst 1, 1) := by decide +kernel
theorem dL_armature_179 : decode cL_armature 179 = .ok (.iaload, 1) := by decide +kernel
theorem dL_armature_180 : decode cL_armature 180 = .ok (.iconst 4, 1) := by decide +kernel
theorem dL_armature_181 : decode cL_armature 181 = .ok (.invokevirtual 36, 3) := by decide +kernel
theorem dL_armature_184 : decode cL_armature 184 = .ok (.sipush (-1001), 3) := by decide +kernel
theorem dL_armature_187 : decode cL_armature 187 = .ok (.if_icmp .ne 26, 3) := by decide +kernel
theorem dL_armature_190 : decode cL_armature 190 = .ok (.aload_n 0, 1) := by decide +kernel
theorem dL_armature_191 : decode cL_armature 191 = .ok (.aload_n 2, 1) := by decide +kernel
theorem dL_armature_192 : decode cL_armature 192 = .ok (.iconst 0, 1) := by decide +kernel
theorem dL_armature_193 : decode cL_armature 193 = .ok (.iaload, 1) := by decide +kernel
theorem dL_armature_194 : decode cL_armature 194 = .ok (.aload_n 2, 1) := by decide +kernel
theorem dL_armature_195 : decode cL_armature 195 = .ok (.iconst 1, 1) := by decide +kernel
theorem dL_armature_196 : decode cL_armature 196 = .ok (.iaload, 1) := by decide +kernel
theorem dL_armature_197 : decode cL_armature 197 = .ok (.aload_n 2, 1) := by decide +kernel
theorem dL_armature_198 : decode cL_armature 198 = .ok (.iconst 2, 1) := by decide +kernel
theorem dL_armature_199 : decode cL_armature 199 = .ok (.iaload, 1) := by decide +kernel
theorem dL_armature_200 : decode cL_armature 200 = .ok (.invokevirtual 36, 3) := by decide +kernel
theorem dL_armature_203 : decode cL_armature 203 = .ok (.aload_n 2, 1) := by decide +kernel
theorem dL_armature_204 : decode cL_armature 204 = .ok (.iconst 3, 1) := by decide +kernel
theorem dL_armature_205 : decode cL_armature 205 = .ok (.iaload, 1) := by decide +kernel
theorem dL_armature_206 : decode cL_armature 206 = .ok (.if_icmp .ne 7, 3) := by decide +kernel
theorem dL_armature_209 : decode cL_armature 209 = .ok (.iconst 1, 1) := by decide +kernel
theorem dL_armature_210 : decode cL_armature 210 = .ok (.goto 4, 3) := by decide +kernel
theorem dL_armature_213 : decode cL_armature 213 = .ok (.iconst 0, 1) := by decide +kernel
theorem dL_armature_214 : decode cL_armature 214 = .ok (.ireturn, 1) := by decide +kernel
set_option maxRecDepth 20000 in
theorem ggL_winding_X0_setWinding : GoodIn wsL_winding wsX0_setWinding := goodIn_r _ [5, 6, 7, 8, 9, 4, 10, 11, 12, 13, 14, 15, 16, 17, 18, 19, 20, 21, 22, 23, 24, 25, 26, 27, 28, 29, 30, 31, 32, 33, 34] (by decide +kernel) (by decide +kernel)
set_option maxRecDepth 20000 in
theorem gL_winding_X0_setWinding : GoodIn wsL_winding (wsV RL 42 RX0 yX0_setWinding wsX0_setWinding) := goodIn_app (goodIn_of _ (by decide +kernel)) ggL_winding_X0_setWinding
theorem dL_winding_0 : decode cL_winding 0 = .ok (.iload_n 1, 1) := by decide +kernel
theorem dL_winding_1 : decode cL_winding 1 = .ok (.iconst 2, 1) := by decide +kernel
theorem dL_winding_2 : decode cL_winding 2 = .ok (.irem, 1) := by decide +kernel
theorem dL_winding_3 : decode cL_winding 3 = .ok (.istore_n 3, 1) := by decide +kernel
theorem dL_winding_4 : decode cL_winding 4 = .ok (.iconst 1, 1) := by decide +kernel
theorem dL_winding_5 : decode cL_winding 5 = .ok (.iload_n 1, 1) := by decide +kernel
theorem dL_winding_6 : decode cL_winding 6 = .ok (.iconst 2, 1) := by decide +kernel
theorem dL_winding_7 : decode cL_winding 7 = .ok (.idiv, 1) := by decide +kernel
theorem dL_winding_8 : decode cL_winding 8 = .ok (.iconst 3, 1) := by decide +kernel
theorem dL_winding_9 : decode cL_winding 9 = .ok (.irem, 1) := by decide +kernel
theorem dL_winding_10 : decode cL_winding 10 = .ok (.iadd, 1) := by decide +kernel
theorem dL_winding_11 : decode cL_winding 11 = .ok (.istore 4, 2) := by decide +kernel
theorem dL_winding_13 : decode cL_winding 13 = .ok (.iload_n 1, 1) := by decide +kernel
theorem dL_winding_14 : decode cL_winding 14 = .ok (.bipush 8, 2) := by decide +kernel
theorem dL_winding_16 : decode cL_winding 16 = .ok (.idiv, 1) := by decide +kernel
theorem dL_winding_17 : decode cL_winding 17 = .ok (.iconst 2, 1) := by decide +kernel
theorem dL_winding_18 : decode cL_winding 18 = .ok (.irem, 1) := by decide +kernel
theorem dL_winding_19 : decode cL_winding 19 = .ok (.istore 5, 2) := by decide +kernel
theorem dL_winding_21 : decode cL_winding 21 = .ok (.iload 5, 2) := by decide +kernel
theorem dL_winding_23 : decode cL_winding 23 = .ok (.iconst 1, 1) := by decide +kernel
theorem dL_winding_24 : decode cL_winding 24 = .ok (.if_icmp .ne 8, 3) := by decide +kernel
theorem dL_winding_27 : decode cL_winding 27 = .ok (.iload 4, 2) := by decide +kernel
theorem dL_winding_29 : decode cL_winding 29 = .ok (.goto 6, 3) := by decide +kernel
theorem dL_winding_32 : decode cL_winding 32 = .ok (.iload 4, 2) := by decide +kernel
theorem dL_winding_34 : decode cL_winding 34 = .ok (.ineg, 1) := by decide +kernel
theorem dL_winding_35 : decode cL_winding 35 = .ok (.istore 6, 2) := by decide +kernel
theorem dL_winding_37 : decode cL_winding 37 = .ok (.aload_n 2, 1) := by decide +kernel
theorem dL_winding_38 : decode cL_winding 38 = .ok (.iconst 3, 1) := by decide +kernel
theorem dL_winding_39 : decode cL_winding 39 = .ok (.iaload, 1) := by decide +kernel
theorem dL_winding_40 : decode cL_winding 40 = .ok (.iload 6, 2) := by decide +kernel
theorem dL_winding_42 : decode cL_winding 42 = .ok (.iadd, 1) := by decide +kernel
theorem dL_winding_43 : decode cL_winding 43 = .ok (.istore 7, 2) := by decide +kernel
theorem dL_winding_45 : decode cL_winding 45 = .ok (.aload_n 0, 1) := by decide +kernel
theorem dL_winding_46 : decode cL_winding 46 = .ok (.iconst 2, 1) := by decide +kernel
theorem dL_winding_47 : decode cL_winding 47 = .ok (.iload 4, 2) := by decide +kernel
theorem dL_winding_49 : decode cL_winding 49 = .ok (.iconst 1, 1) := by decide +kernel
theorem dL_winding_50 : decode cL_winding 50 = .ok (.invokevirtual 42, 3) := by decide +kernel
theorem dL_winding_53 : decode cL_winding 53 = .ok (.sipush (-1001), 3) := by decide +kernel
theorem dL_winding_56 : decode cL_winding 56 = .ok (.if_icmp .ne 42, 3) := by decide +kernel
theorem dL_winding_59 : decode cL_winding 59 = .ok (.aload_n 0, 1) := by decide +kernel
theorem dL_winding_60 : decode cL_winding 60 = .ok (.iconst (-1), 1) := by decide +kernel
theorem dL_winding_61 : decode cL_winding 61 = .ok (.iconst 1, 1) := by decide +kernel
theorem dL_winding_62 : decode cL_winding 62 = .ok (.iconst 1, 1) := by decide +kernel
theorem dL_winding_63 : decode cL_winding 63 = .ok (.invokevirtual 42, 3) := by decide +kernel
theorem dL_winding_66 : decode cL_winding 66 = .ok (.sipush (-1001), 3) := by decide +kernel
theorem dL_winding_69 : decode cL_winding 69 = .ok (.if_icmp .ne 29, 3) := by decide +kernel
theorem dL_winding_72 : decode cL_winding 72 = .ok (.aload_n 0, 1) := by decide +kernel
theorem dL_winding_73 : decode cL_winding 73 = .ok (.iload_n 3, 1) := by decide +kernel
theorem dL_winding_74 : decode cL_winding 74 = .ok (.iconst 0, 1) := by decide +kernel
theorem dL_winding_75 : decode cL_winding 75 = .ok (.iconst 1, 1) := by decide +kernel
theorem dL_winding_76 : decode cL_winding 76 = .ok (.invokevirtual 42, 3) := by decide +kernel
theorem dL_winding_79 : decode cL_winding 79 = .ok (.sipush (-1001), 3) := by decide +kernel
theorem dL_winding_82 : decode cL_winding 82 = .ok (.if_icmp .ne 16, 3) := by decide +kernel
theorem dL_winding_85 : decode cL_winding 85 = .ok (.aload_n 0, 1) := by decide +kernel
theorem dL_winding_86 : decode cL_winding 86 = .ok (.iload_n 3, 1) := by decide +kernel
theorem dL_winding_87 : decode cL_winding 87 = .ok (.iconst 4, 1) := by decide +kernel
theorem dL_winding_88 : decode cL_winding 88 = .ok (.iconst 0, 1) := by decide +kernel
theorem dL_winding_89 : decode cL_winding 89 = .ok (.invokevirtual 42, 3) := by decide +kernel
theorem dL_winding_92 : decode cL_winding 92 = .ok (.sipush (-1001), 3) := by decide +kernel
theorem dL_winding_95 : decode cL_winding 95 = .ok (.if_icmp .eq 5, 3) := by decide +kernel
theorem dL_winding_98 : decode cL_winding 98 = .ok (.iconst 0, 1) := by decide +kernel
theorem dL_winding_99 : decode cL_winding 99 = .ok (.ireturn, 1) := by decide +kernel
theorem dL_winding_100 : decode cL_winding 100 = .ok (.iload_n 3, 1) := by decide +kernel
theorem dL_winding_101 : decode cL_winding 101 = .ok (.iconst 1, 1) := by decide +kernel
theorem dL_winding_102 : decode cL_winding 102 = .ok (.if_icmp .ne 44, 3) := by decide +kernel
theorem dL_winding_105 : decode cL_winding 105 = .ok (.iload 7, 2) := by decide +kernel
theorem dL_winding_107 : decode cL_winding 107 = .ok (.aload_n 2, 1) := by decide +kernel
theorem dL_winding_108 : decode cL_winding 108 = .ok (.iconst 0, 1) := by decide +kernel
theorem dL_winding_109 : decode cL_winding 109 = .ok (.iaload, 1) := by decide +kernel
theorem dL_winding_110 : decode cL_winding 110 = .ok (.iconst 2, 1) := by decide +kernel
theorem dL_winding_111 : decode cL_winding 111 = .ok (.idiv, 1) := by decide +kernel
theorem dL_winding_112 : decode cL_winding 112 = .ok (.irem, 1) := by decide +kernel
theorem dL_winding_113 : decode cL_winding 113 = .ok (.ifCond .eq 33, 3) := by decide +kernel
theorem dL_winding_116 : decode cL_winding 116 = .ok (.aload_n 0, 1) := by decide +kernel
theorem dL_winding_117 : decode cL_winding 117 = .ok (.iload_n 3, 1) := by decide +kernel
theorem dL_winding_118 : decode cL_winding 118 = .ok (.iload 4, 2) := by decide +kernel
theorem dL_winding_120 : decode cL_winding 120 = .ok (.iload 5, 2) := by decide +kernel
theorem dL_winding_122 : decode cL_winding 122 = .ok (.iconst 1, 1) := by decide +kernel
theorem dL_winding_123 : decode cL_winding 123 = .ok (.if_icmp .ne 7, 3) := by decide +kernel
theorem dL_winding_126 : decode cL_winding 126 = .ok (.iconst 1, 1) := by decide +kernel
theorem dL_winding_127 : decode cL_winding 127 = .ok (.goto 4, 3) := by decide +kernel
theorem dL_winding_130 : decode cL_winding 130 = .ok (.iconst 0, 1) := by decide +kernel
theorem dL_winding_131 : decode cL_winding 131 = .ok (.invokevirtual 42, 3) := by decide +kernel
theorem dL_winding_134 : decode cL_winding 134 = .ok (.sipush (-1003), 3) := by decide +kernel
theorem dL_winding_137 : decode cL_winding 137 = .ok (.if_icmp .ne 7, 3) := by decide +kernel
theorem dL_winding_140 : decode cL_winding 140 = .ok (.iconst 1, 1) := by decide +kernel
theorem dL_winding_141 : decode cL_winding 141 = .ok (.goto 4, 3) := by decide +kernel
theorem dL_winding_144 : decode cL_winding 144 = .ok (.iconst 0, 1) := by decide +kernel
theorem dL_winding_145 : decode cL_winding 145 = .ok (.ireturn, 1) := by decide +kernel
theorem dL_winding_146 : decode cL_winding 146 = .ok (.aload_n 2, 1) := by decide +kernel
theorem dL_winding_147 : decode cL_winding 147 = .ok (.iconst 4, 1) := by decide +kernel
theorem dL_winding_148 : decode cL_winding 148 = .ok (.iload_n 3, 1) := by decide +kernel
theorem dL_winding_149 : decode cL_winding 149 = .ok (.iastore, 1) := by decide +kernel
theorem dL_winding_150 : decode cL_winding 150 = .ok (.aload_n 2, 1) := by decide +kernel
theorem dL_winding_151 : decode cL_winding 151 = .ok (.iconst 5, 1) := by decide +kernel
theorem dL_winding_152 : decode cL_winding 152 = .ok (.iload 4, 2) := by decide +kernel
theorem dL_winding_154 : decode cL_winding 154 = .ok (.iastore, 1) := by decide +kernel
theorem dL_winding_155 : decode cL_winding 155 = .ok (.aload_n 2, 1) := by decide +kernel
theorem dL_winding_156 : decode cL_winding 156 = .ok (.bipush 6, 2) := by decide +kernel
theorem dL_winding_158 : decode cL_winding 158 = .ok (.iload 5, 2) := by decide +kernel
theorem dL_winding_160 : decode cL_winding 160 = .ok (.iastore, 1) := by decide +kernel
theorem dL_winding_161 : decode cL_winding 161 = .ok (.aload_n 2, 1) := by decide +kernel
theorem dL_winding_162 : decode cL_winding 162 = .ok (.bipush 7, 2) := by decide +kernel
theorem dL_winding_164 : decode cL_winding 164 = .ok (.iload_n 3, 1) := by decide +kernel
theorem dL_winding_165 : decode cL_winding 165 = .ok (.ifCond .ne 8, 3) := by decide +kernel
theorem dL_winding_168 : decode cL_winding 168 = .ok (.iload 6, 2) := by decide +kernel
theorem dL_winding_170 : decode cL_winding 170 = .ok (.goto 11, 3) := by decide +kernel
theorem dL_winding_173 : decode cL_winding 173 = .ok (.iload 7, 2) := by decide +kernel
theorem dL_winding_175 : decode cL_winding 175 = .ok (.aload_n 2, 1) := by decide +kernel
theorem dL_winding_176 : decode cL_winding 176 = .ok (.iconst 0, 1) := by decide +kernel
theorem dL_winding_177 : decode cL_winding 177 = .ok (.iaload, 1) := by decide +kernel
theorem dL_winding_178 : decode cL_winding 178 = .ok (.iconst 2, 1) := by decide +kernel
theorem dL_winding_179 : decode cL_winding 179 = .ok (.idiv, 1) := by decide +kernel
theorem dL_winding_180 : decode cL_winding 180 = .ok (.idiv, 1) := by decide +kernel
theorem dL_winding_181 : decode cL_winding 181 = .ok (.iastore, 1) := by decide +kernel
theorem dL_winding_182 : decode cL_winding 182 = .ok (.aload_n 0, 1) := by decide +kernel
theorem dL_winding_183 : decode cL_winding 183 = .ok (.iload_n 3, 1) := by decide +kernel
theorem dL_winding_184 : decode cL_winding 184 = .ok (.iload 4, 2) := by decide +kernel
theorem dL_winding_186 : decode cL_winding 186 = .ok (.iload 5, 2) := by decide +kernel
theorem dL_winding_188 : decode cL_winding 188 = .ok (.iconst 1, 1) := by decide +kernel
theorem dL_winding_189 : decode cL_winding 189 = .ok (.if_icmp .ne 7, 3) := by decide +kernel
theorem dL_winding_192 : decode cL_winding 192 = .ok (.iconst 1, 1) := by decide +kernel
theorem dL_winding_193 : decode cL_winding 193 = .ok (.goto 4, 3) := by decide +kernel
theorem dL_winding_196 : decode cL_winding 196 = .ok (.iconst 0, 1) := by decide +kernel
theorem dL_winding_197 : decode cL_winding 197 = .ok (.invokevirtual 42, 3) := by decide +kernel
theorem dL_winding_200 : decode cL_winding 200 = .ok (.aload_n 2, 1) := by decide +kernel
theorem dL_winding_201 : decode cL_winding 201 = .ok (.bipush 7, 2) := by decide +kernel
theorem dL_winding_203 : decode cL_winding 203 = .ok (.iaload, 1) := by decide +kernel
theorem dL_winding_204 : decode cL_winding 204 = .ok (.if_icmp .ne 7, 3) := by decide +kernel
theorem dL_winding_207 : decode cL_winding 207 = .ok (.iconst 1, 1) := by decide +kernel
theorem dL_winding_208 : decode cL_winding 208 = .ok (.goto 4, 3) := by decide +kernel
theorem dL_winding_211 : decode cL_winding 211 = .ok (.iconst 0, 1) := by decide +kernel
theorem dL_winding_212 : decode cL_winding 212 = .ok (.ireturn, 1) := by decide +kernel
set_option maxRecDepth 20000 in
theorem ggL_changes_L_armature : GoodIn wsL_changes wsL_armature := goodIn_r _ [4, 5, 6, 7, 8, 9, 10, 11, 12, 13, 14, 15, 16, 17, 18, 19, 20, 21, 22, 23, 24, 25, 26, 27, 28, 29, 30, 31, 32, 33, 34, 35, 36, 71, 72, 73, 74, 75, 76, 77, 78, 79, 80, 81] (by decide +kernel) (by decide +kernel)
set_option maxRecDepth 20000 in
theorem gL_changes_L_armature : GoodIn wsL_changes (va_wsS RL 46 yL_armature wsL_armature) := goodIn_app (goodIn_of _ (by decide +kernel)) ggL_changes_L_armature
set_option maxRecDepth 20000 in
theorem ggL_changes_L_winding : GoodIn wsL_changes wsL_winding := goodIn_r _ [39, 40, 41, 42, 8, 43, 36, 44, 45, 46, 47, 15, 10, 48, 49, 50, 51, 29, 30, 31, 32, 33, 34, 35, 71, 72, 73, 74, 75, 76, 77, 78, 79, 80, 81] (by decide +kernel) (by decide +kernel)
set_option maxRecDepth 20000 in
theorem gL_changes_L_winding : GoodIn wsL_changes (va_wsS RL 50 yL_winding wsL_winding) := goodIn_app (goodIn_of _ (by decide +kernel)) ggL_changes_L_winding
set_option maxRecDepth 20000 in
theorem ggL_changes_X0_setChording : GoodIn wsL_changes wsX0_setChording := goodIn_r _ [55, 18, 71, 72, 73, 74, 75, 76, 77, 78, 79, 80, 81] (by decide +kernel) (by decide +kernel)
set_option maxRecDepth 20000 in
theorem gL_changes_X0_setChording : GoodIn wsL_changes (wsV RL 54 RX0 yX0_setChording wsX0_setChording) := goodIn_app (goodIn_of _ (by decide +kernel)) ggL_changes_X0_setChording
set_option maxRecDepth 20000 in
theorem ggL_changes_L_isOpen : GoodIn wsL_changes wsL_isOpen := goodIn_r _ [58] (by decide +kernel) (by decide +kernel)
set_option maxRecDepth 20000 in
theorem gL_changes_L_isOpen : GoodIn wsL_changes (va_wsS RL 25 yL_isOpen wsL_isOpen) := goodIn_app (goodIn_of _ (by decide +kernel)) ggL_changes_L_isOpen
set_option maxRecDepth 20000 in
theorem ggL_changes_X0_setOpen : GoodIn wsL_changes wsX0_setOpen := goodIn_r _ [62, 10, 19, 63, 64, 65, 8, 66, 67, 68, 69, 70, 71, 72, 73, 74, 75, 76, 77, 78, 79, 80, 81] (by decide +kernel) (by decide +kernel)
set_option maxRecDepth 20000 in
theorem gL_changes_X0_setOpen : GoodIn wsL_changes (wsV RL 58 RX0 yX0_setOpen wsX0_setOpen) := goodIn_app (goodIn_of _ (by decide +kernel)) ggL_changes_X0_setOpen
theorem dL_changes_0 : decode cL_changes 0 = .ok (.iload_n 1, 1) := by decide +kernel
theorem dL_changes_1 : decode cL_changes 1 = .ok (.bipush 8, 2) := by decide +kernel
theorem dL_changes_3 : decode cL_changes 3 = .ok (.irem, 1) := by decide +kernel
theorem dL_changes_4 : decode cL_changes 4 = .ok (.istore 5, 2) := by decide +kernel
theorem dL_changes_6 : decode cL_changes 6 = .ok (.iload 5, 2) := by decide +kernel
theorem dL_changes_8 : decode cL_changes 8 = .ok (.ifCond .ne 12, 3) := by decide +kernel
theorem dL_changes_11 : decode cL_changes 11 = .ok (.aload_n 0, 1) := by decide +kernel
theorem dL_changes_12 : decode cL_changes 12 = .ok (.iload_n 2, 1) := by decide +kernel
theorem dL_changes_13 : decode cL_changes 13 = .ok (.aload_n 3, 1) := by decide +kernel
theorem dL_changes_14 : decode cL_changes 14 = .ok (.aload 4, 2) := by decide +kernel
theorem dL_changes_16 : decode cL_changes 16 = .ok (.invokestatic 46, 3) := by decide +kernel
theorem dL_changes_19 : decode cL_changes 19 = .ok (.ireturn, 1) := by decide +kernel
theorem dL_changes_20 : decode cL_changes 20 = .ok (.iload 5, 2) := by decide +kernel
theorem dL_changes_22 : decode cL_changes 22 = .ok (.iconst 4, 1) := by decide +kernel
theorem dL_changes_23 : decode cL_changes 23 = .ok (.if_icmp .ge 10, 3) := by decide +kernel
theorem dL_changes_26 : decode cL_changes 26 = .ok (.aload_n 0, 1) := by decide +kernel
theorem dL_changes_27 : decode cL_changes 27 = .ok (.iload_n 2, 1) := by decide +kernel
theorem dL_changes_28 : decode cL_changes 28 = .ok (.aload_n 3, 1) := by decide +kernel
theorem dL_changes_29 : decode cL_changes 29 = .ok (.invokestatic 50, 3) := by decide +kernel
theorem dL_changes_32 : decode cL_changes 32 = .ok (.ireturn, 1) := by decide +kernel
theorem dL_changes_33 : decode cL_changes 33 = .ok (.iload 5, 2) := by decide +kernel
theorem dL_changes_35 : decode cL_changes 35 = .ok (.iconst 4, 1) := by decide +kernel
theorem dL_changes_36 : decode cL_changes 36 = .ok (.if_icmp .ne 59, 3) := by decide +kernel
theorem dL_changes_39 : decode cL_changes 39 = .ok (.aload_n 3, 1) := by decide +kernel
theorem dL_changes_40 : decode cL_changes 40 = .ok (.bipush 8, 2) := by decide +kernel
theorem dL_changes_42 : decode cL_changes 42 = .ok (.iaload, 1) := by decide +kernel
theorem dL_changes_43 : decode cL_changes 43 = .ok (.istore 6, 2) := by decide +kernel
theorem dL_changes_45 : decode cL_changes 45 = .ok (.aload_n 3, 1) := by decide +kernel
theorem dL_changes_46 : decode cL_changes 46 = .ok (.bipush 8, 2) := by decide +kernel
theorem dL_changes_48 : decode cL_changes 48 = .ok (.iload_n 2, 1) := by decide +kernel
theorem dL_changes_49 : decode cL_changes 49 = .ok (.bipush 6, 2) := by decide +kernel
theorem dL_changes_51 : decode cL_changes 51 = .ok (.irem, 1) := by decide +kernel
theorem dL_changes_52 : decode cL_changes 52 = .ok (.iastore, 1) := by decide +kernel
theorem dL_changes_53 : decode cL_changes 53 = .ok (.aload_n 0, 1) := by decide +kernel
theorem dL_changes_54 : decode cL_changes 54 = .ok (.iconst (-1), 1) := by decide +kernel
theorem dL_changes_55 : decode cL_changes 55 = .ok (.invokevirtual 54, 3) := by decide +kernel
theorem dL_changes_58 : decode cL_changes 58 = .ok (.sipush (-1001), 3) := by decide +kernel
theorem dL_changes_61 : decode cL_changes 61 = .ok (.if_icmp .ne 32, 3) := by decide +kernel
theorem dL_changes_64 : decode cL_changes 64 = .ok (.aload_n 0, 1) := by decide +kernel
theorem dL_changes_65 : decode cL_changes 65 = .ok (.bipush 6, 2) := by decide +kernel
theorem dL_changes_67 : decode cL_changes 67 = .ok (.invokevirtual 54, 3) := by decide +kernel
theorem dL_changes_70 : decode cL_changes 70 = .ok (.sipush (-1001), 3) := by decide +kernel
theorem dL_changes_73 : decode cL_changes 73 = .ok (.if_icmp .ne 20, 3) := by decide +kernel
theorem dL_changes_76 : decode cL_changes 76 = .ok (.aload_n 0, 1) := by decide +kernel
theorem dL_changes_77 : decode cL_changes 77 = .ok (.aload_n 3, 1) := by decide +kernel
theorem dL_changes_78 : decode cL_changes 78 = .ok (.bipush 8, 2) := by decide +kernel
theorem dL_changes_80 : decode cL_changes 80 = .ok (.iaload, 1) := by decide +kernel
theorem dL_changes_81 : decode cL_changes 81 = .ok (.invokevirtual 54, 3) := by decide +kernel
theorem dL_changes_84 : decode cL_changes 84 = .ok (.iload 6, 2) := by decide +kernel
theorem dL_changes_86 : decode cL_changes 86 = .ok (.if_icmp .ne 7, 3) := by decide +kernel
theorem dL_changes_89 : decode cL_changes 89 = .ok (.iconst 1, 1) := by decide +kernel
theorem dL_changes_90 : decode cL_changes 90 = .ok (.goto 4, 3) := by decide +kernel
theorem dL_changes_93 : decode cL_changes 93 = .ok (.iconst 0, 1) := by decide +kernel
theorem dL_changes_94 : decode cL_changes 94 = .ok (.ireturn, 1) := by decide +kernel
theorem dL_changes_95 : decode cL_changes 95 = .ok (.iload_n 2, 1) := by decide +kernel
theorem dL_changes_96 : decode cL_changes 96 = .ok (.aload_n 3, 1) := by decide +kernel
theorem dL_changes_97 : decode cL_changes 97 = .ok (.iconst 3, 1) := by decide +kernel
theorem dL_changes_98 : decode cL_changes 98 = .ok (.iaload, 1) := by decide +kernel
theorem dL_changes_99 : decode cL_changes 99 = .ok (.irem, 1) := by decide +kernel
theorem dL_changes_100 : decode cL_changes 100 = .ok (.istore 6, 2) := by decide +kernel
theorem dL_changes_102 : decode cL_changes 102 = .ok (.aload 4, 2) := by decide +kernel
theorem dL_changes_104 : decode cL_changes 104 = .ok (.iload 6, 2) := by decide +kernel
theorem dL_changes_106 : decode cL_changes 106 = .ok (.invokestatic 25, 3) := by decide +kernel
theorem dL_changes_109 : decode cL_changes 109 = .ok (.ifCond .eq 7, 3) := by decide +kernel
theorem dL_changes_112 : decode cL_changes 112 = .ok (.iconst 1, 1) := by decide +kernel
theorem dL_changes_113 : decode cL_changes 113 = .ok (.goto 4, 3) := by decide +kernel
theorem dL_changes_116 : decode cL_changes 116 = .ok (.iconst 0, 1) := by decide +kernel
theorem dL_changes_117 : decode cL_changes 117 = .ok (.istore 7, 2) := by decide +kernel
theorem dL_changes_119 : decode cL_changes 119 = .ok (.iload_n 2, 1) := by decide +kernel
theorem dL_changes_120 : decode cL_changes 120 = .ok (.sipush 128, 3) := by decide +kernel
theorem dL_changes_123 : decode cL_changes 123 = .ok (.idiv, 1) := by decide +kernel
theorem dL_changes_124 : decode cL_changes 124 = .ok (.iconst 3, 1) := by decide +kernel
theorem dL_changes_125 : decode cL_changes 125 = .ok (.irem, 1) := by decide +kernel
theorem dL_changes_126 : decode cL_changes 126 = .ok (.ifCond .le 7, 3) := by decide +kernel
theorem dL_changes_129 : decode cL_changes 129 = .ok (.iconst 1, 1) := by decide +kernel
theorem dL_changes_130 : decode cL_changes 130 = .ok (.goto 4, 3) := by decide +kernel
theorem dL_changes_133 : decode cL_changes 133 = .ok (.iconst 0, 1) := by decide +kernel
theorem dL_changes_134 : decode cL_changes 134 = .ok (.istore 8, 2) := by decide +kernel
theorem dL_changes_136 : decode cL_changes 136 = .ok (.aload 4, 2) := by decide +kernel
theorem dL_changes_138 : decode cL_changes 138 = .ok (.iload 6, 2) := by decide +kernel
theorem dL_changes_140 : decode cL_changes 140 = .ok (.bipush 24, 2) := by decide +kernel
theorem dL_changes_142 : decode cL_changes 142 = .ok (.idiv, 1) := by decide +kernel
theorem dL_changes_143 : decode cL_changes 143 = .ok (.iload 8, 2) := by decide +kernel
theorem dL_changes_145 : decode cL_changes 145 = .ok (.ifCond .eq 22, 3) := by decide +kernel
theorem dL_changes_148 : decode cL_changes 148 = .ok (.aload 4, 2) := by decide +kernel
theorem dL_changes_150 : decode cL_changes 150 = .ok (.iload 6, 2) := by decide +kernel
theorem dL_changes_152 : decode cL_changes 152 = .ok (.bipush 24, 2) := by decide +kernel
theorem dL_changes_154 : decode cL_changes 154 = .ok (.idiv, 1) := by decide +kernel
theorem dL_changes_155 : decode cL_changes 155 = .ok (.iaload, 1) := by decide +kernel
theorem dL_changes_156 : decode cL_changes 156 = .ok (.iconst 1, 1) := by decide +kernel
theorem dL_changes_157 : decode cL_changes 157 = .ok (.iload 6, 2) := by decide +kernel
theorem dL_changes_159 : decode cL_changes 159 = .ok (.bipush 24, 2) := by decide +kernel
theorem dL_changes_161 : decode cL_changes 161 = .ok (.irem, 1) := by decide +kernel
theorem dL_changes_162 : decode cL_changes 162 = .ok (.ishl, 1) := by decide +kernel
theorem dL_changes_163 : decode cL_changes 163 = .ok (.ior, 1) := by decide +kernel
theorem dL_changes_164 : decode cL_changes 164 = .ok (.goto 21, 3) := by decide +kernel
theorem dL_changes_167 : decode cL_changes 167 = .ok (.aload 4, 2) := by decide +kernel
theorem dL_changes_169 : decode cL_changes 169 = .ok (.iload 6, 2) := by decide +kernel
theorem dL_changes_171 : decode cL_changes 171 = .ok (.bipush 24, 2) := by decide +kernel
theorem dL_changes_173 : decode cL_changes 173 = .ok (.idiv, 1) := by decide +kernel
theorem dL_changes_174 : decode cL_changes 174 = .ok (.iaload, 1) := by decide +kernel
theorem dL_changes_175 : decode cL_changes 175 = .ok (.iconst 1, 1) := by decide +kernel
theorem dL_changes_176 : decode cL_changes 176 = .ok (.iload 6, 2) := by decide +kernel
theorem dL_changes_178 : decode cL_changes 178 = .ok (.bipush 24, 2) := by decide +kernel
theorem dL_changes_180 : decode cL_changes 180 = .ok (.irem, 1) := by decide +kernel
theorem dL_changes_181 : decode cL_changes 181 = .ok (.ishl, 1) := by decide +kernel
theorem dL_changes_182 : decode cL_changes 182 = .ok (.iconst (-1), 1) := by decide +kernel
theorem dL_changes_183 : decode cL_changes 183 = .ok (.ixor, 1) := by decide +kernel
theorem dL_changes_184 : decode cL_changes 184 = .ok (.iand, 1) := by decide +kernel
theorem dL_changes_185 : decode cL_changes 185 = .ok (.iastore, 1) := by decide +kernel
theorem dL_changes_186 : decode cL_changes 186 = .ok (.aload_n 0, 1) := by decide +kernel
theorem dL_changes_187 : decode cL_changes 187 = .ok (.aload_n 3, 1) := by decide +kernel
theorem dL_changes_188 : decode cL_changes 188 = .ok (.iconst 3, 1) := by decide +kernel
theorem dL_changes_189 : decode cL_changes 189 = .ok (.iaload, 1) := by decide +kernel
theorem dL_changes_190 : decode cL_changes 190 = .ok (.iload 8, 2) := by decide +kernel
theorem dL_changes_192 : decode cL_changes 192 = .ok (.invokevirtual 58, 3) := by decide +kernel
theorem dL_changes_195 : decode cL_changes 195 = .ok (.sipush (-1002), 3) := by decide +kernel
theorem dL_changes_198 : decode cL_changes 198 = .ok (.if_icmp .ne 33, 3) := by decide +kernel
theorem dL_changes_201 : decode cL_changes 201 = .ok (.aload_n 0, 1) := by decide +kernel
theorem dL_changes_202 : decode cL_changes 202 = .ok (.iconst (-1), 1) := by decide +kernel
theorem dL_changes_203 : decode cL_changes 203 = .ok (.iload 8, 2) := by decide +kernel
theorem dL_changes_205 : decode cL_changes 205 = .ok (.invokevirtual 58, 3) := by decide +kernel
theorem dL_changes_208 : decode cL_changes 208 = .ok (.sipush (-1002), 3) := by decide +kernel
theorem dL_changes_211 : decode cL_changes 211 = .ok (.if_icmp .ne 20, 3) := by decide +kernel
theorem dL_changes_214 : decode cL_changes 214 = .ok (.aload_n 0, 1) := by decide +kernel
theorem dL_changes_215 : decode cL_changes 215 = .ok (.iload 6, 2) := by decide +kernel
theorem dL_changes_217 : decode cL_changes 217 = .ok (.iload 8, 2) := by decide +kernel
theorem dL_changes_219 : decode cL_changes 219 = .ok (.invokevirtual 58, 3) := by decide +kernel
theorem dL_changes_222 : decode cL_changes 222 = .ok (.iload 7, 2) := by decide +kernel
theorem dL_changes_224 : decode cL_changes 224 = .ok (.if_icmp .ne 7, 3) := by decide +kernel
theorem dL_changes_227 : decode cL_changes 227 = .ok (.iconst 1, 1) := by decide +kernel
theorem dL_changes_228 : decode cL_changes 228 = .ok (.goto 4, 3) := by decide +kernel
theorem dL_changes_231 : decode cL_changes 231 = .ok (.iconst 0, 1) := by decide +kernel
theorem dL_changes_232 : decode cL_changes 232 = .ok (.ireturn, 1) := by decide +kernel
theorem dL_begin_0 : decode cL_begin 0 = .ok (.aload_n 0, 1) := by decide +kernel
theorem dL_begin_1 : decode cL_begin 1 = .ok (.iconst 0, 1) := by decide +kernel
theorem dL_begin_2 : decode cL_begin 2 = .ok (.iconst 4, 1) := by decide +kernel
theorem dL_begin_3 : decode cL_begin 3 = .ok (.iastore, 1) := by decide +kernel
theorem dL_begin_4 : decode cL_begin 4 = .ok (.aload_n 0, 1) := by decide +kernel
theorem dL_begin_5 : decode cL_begin 5 = .ok (.iconst 1, 1) := by decide +kernel
theorem dL_begin_6 : decode cL_begin 6 = .ok (.bipush 12, 2) := by decide +kernel
theorem dL_begin_8 : decode cL_begin 8 = .ok (.iastore, 1) := by decide +kernel
theorem dL_begin_9 : decode cL_begin 9 = .ok (.aload_n 0, 1) := by decide +kernel
theorem dL_begin_10 : decode cL_begin 10 = .ok (.iconst 2, 1) := by decide +kernel
theorem dL_begin_11 : decode cL_begin 11 = .ok (.iconst 1, 1) := by decide +kernel
theorem dL_begin_12 : decode cL_begin 12 = .ok (.iastore, 1) := by decide +kernel
theorem dL_begin_13 : decode cL_begin 13 = .ok (.aload_n 0, 1) := by decide +kernel
theorem dL_begin_14 : decode cL_begin 14 = .ok (.iconst 3, 1) := by decide +kernel
theorem dL_begin_15 : decode cL_begin 15 = .ok (.bipush 12, 2) := by decide +kernel
theorem dL_begin_17 : decode cL_begin 17 = .ok (.iastore, 1) := by decide +kernel
theorem dL_begin_18 : decode cL_begin 18 = .ok (.aload_n 0, 1) := by decide +kernel
theorem dL_begin_19 : decode cL_begin 19 = .ok (.iconst 5, 1) := by decide +kernel
theorem dL_begin_20 : decode cL_begin 20 = .ok (.iconst 1, 1) := by decide +kernel
theorem dL_begin_21 : decode cL_begin 21 = .ok (.iastore, 1) := by decide +kernel
theorem dL_begin_22 : decode cL_begin 22 = .ok (.aload_n 0, 1) := by decide +kernel
theorem dL_begin_23 : decode cL_begin 23 = .ok (.bipush 6, 2) := by decide +kernel
theorem dL_begin_25 : decode cL_begin 25 = .ok (.iconst 1, 1) := by decide +kernel
theorem dL_begin_26 : decode cL_begin 26 = .ok (.iastore, 1) := by decide +kernel
theorem dL_begin_27 : decode cL_begin 27 = .ok (.aload_n 0, 1) := by decide +kernel
theorem dL_begin_28 : decode cL_begin 28 = .ok (.bipush 7, 2) := by decide +kernel
theorem dL_begin_30 : decode cL_begin 30 = .ok (.iconst 1, 1) := by decide +kernel
theorem dL_begin_31 : decode cL_begin 31 = .ok (.iastore, 1) := by decide +kernel
theorem dL_begin_32 : decode cL_begin 32 = .ok (.return_, 1) := by decide +kernel
theorem dL_gcd_0 : decode cL_gcd 0 = .ok (.iconst 1, 1) := by decide +kernel
theorem dL_gcd_1 : decode cL_gcd 1 = .ok (.istore_n 2, 1) := by decide +kernel
theorem dL_gcd_2 : decode cL_gcd 2 = .ok (.iconst 2, 1) := by decide +kernel
theorem dL_gcd_3 : decode cL_gcd 3 = .ok (.istore_n 3, 1) := by decide +kernel
theorem dL_gcd_4 : decode cL_gcd 4 = .ok (.iload_n 3, 1) := by decide +kernel
theorem dL_gcd_5 : decode cL_gcd 5 = .ok (.iload_n 1, 1) := by decide +kernel
theorem dL_gcd_6 : decode cL_gcd 6 = .ok (.if_icmp .gt 27, 3) := by decide +kernel
theorem dL_gcd_9 : decode cL_gcd 9 = .ok (.iload_n 0, 1) := by decide +kernel
theorem dL_gcd_10 : decode cL_gcd 10 = .ok (.iload_n 3, 1) := by decide +kernel
theorem dL_gcd_11 : decode cL_gcd 11 = .ok (.irem, 1) := by decide +kernel
theorem dL_gcd_12 : decode cL_gcd 12 = .ok (.ifCond .ne 13, 3) := by decide +kernel
theorem dL_gcd_15 : decode cL_gcd 15 = .ok (.iload_n 1, 1) := by decide +kernel
theorem dL_gcd_16 : decode cL_gcd 16 = .ok (.iload_n 3, 1) := by decide +kernel
theorem dL_gcd_17 : decode cL_gcd 17 = .ok (.irem, 1) := by decide +kernel
theorem dL_gcd_18 : decode cL_gcd 18 = .ok (.ifCond .ne 7, 3) := by decide +kernel
theorem dL_gcd_21 : decode cL_gcd 21 = .ok (.iload_n 3, 1) := by decide +kernel
theorem dL_gcd_22 : decode cL_gcd 22 = .ok (.goto 4, 3) := by decide +kernel
theorem dL_gcd_25 : decode cL_gcd 25 = .ok (.iload_n 2, 1) := by decide +kernel
theorem dL_gcd_26 : decode cL_gcd 26 = .ok (.istore_n 2, 1) := by decide +kernel
theorem dL_gcd_27 : decode cL_gcd 27 = .ok (.iinc 3 1, 3) := by decide +kernel
theorem dL_gcd_30 : decode cL_gcd 30 = .ok (.goto (-26), 3) := by decide +kernel
theorem dL_gcd_33 : decode cL_gcd 33 = .ok (.iload_n 2, 1) := by decide +kernel
theorem dL_gcd_34 : decode cL_gcd 34 = .ok (.ireturn, 1) := by decide +kernel
set_option maxRecDepth 20000 in
theorem ggL_circuits_L_mod : GoodIn wsL_circuits wsL_mod := goodIn_r _ [4] (by decide +kernel) (by decide +kernel)
set_option maxRecDepth 20000 in
theorem gL_circuits_L_mod : GoodIn wsL_circuits (va_wsS RL 29 yL_mod wsL_mod) := goodIn_app (goodIn_of _ (by decide +kernel)) ggL_circuits_L_mod
set_option maxRecDepth 20000 in
theorem ggL_circuits_L_gcd : GoodIn wsL_circuits wsL_gcd := goodIn_r _ [7] (by decide +kernel) (by decide +kernel)
set_option maxRecDepth 20000 in
theorem gL_circuits_L_gcd : GoodIn wsL_circuits (va_wsS RL 62 yL_gcd wsL_gcd) := goodIn_app (goodIn_of _ (by decide +kernel)) ggL_circuits_L_gcd
set_option maxRecDepth 20000 in
theorem ggL_circuits_X0_coilAt : GoodIn wsL_circuits wsX0_coilAt := goodIn_r _ [12, 13, 14, 15, 16, 17, 11, 18, 19, 20, 21, 22, 23, 24, 25, 51, 52, 53, 54, 55, 56, 57, 58, 59, 60, 61] (by decide +kernel) (by decide +kernel)
