set_option maxRecDepth 20000 in
theorem wsL_law_in : ∀ w ∈ wsL_law, w ∈ lw_tbl := fun w h => (goodIn_p wsL_law [16, 19, 23, 27, 31, 35, 122, 74, 125, 128, 131, 135, 139, 143, 146, 150, 154, 107, 159, 163, 119, 166, 170, 174, 178, 183, 186, 189, 193, 198, 202, 206, 210, 213, 216, 78, 81, 85, 88, 92, 96, 100, 104, 111, 115] rfl (by decide +kernel) w h).1
theorem inlX0 : ∀ w ∈ wsX00, w ∈ wsL_law := fun _ h => List.mem_append_left _ (List.mem_append_right _ h)
theorem inX0 : ∀ w ∈ wsX00, w ∈ lw_tbl := fun w h => wsL_law_in w (inlX0 w h)
theorem inX1 : ∀ w ∈ wsX10, w ∈ lw_tbl := by decide +kernel
set_option maxRecDepth 20000 in
theorem ggX0_init_X0_layArmature : GoodIn wsX0_init wsX0_layArmature := goodIn_r _ [12, 13, 14, 15, 16, 17, 5, 18, 19, 20, 11, 21, 7, 22, 23, 24, 25, 26, 27, 28, 29, 30, 31, 32, 33, 34, 35, 36, 37, 38, 39, 40, 41, 42, 43, 44] (by decide +kernel) (by decide +kernel)
set_option maxRecDepth 20000 in
theorem gX0_init_X0_layArmature : GoodIn wsX0_init (wsV RX0 17 RX0 yX0_layArmature wsX0_layArmature) := goodIn_app (goodIn_of _ (by decide +kernel)) ggX0_init_X0_layArmature
theorem dX0_init_0 : decode cX0_init 0 = .ok (.aload_n 0, 1) := by decide +kernel
theorem dX0_init_1 : decode cX0_init 1 = .ok (.invokespecial 3, 3) := by decide +kernel
theorem dX0_init_4 : decode cX0_init 4 = .ok (.aload_n 0, 1) := by decide +kernel
theorem dX0_init_5 : decode cX0_init 5 = .ok (.bipush 72, 2) := by decide +kernel
theorem dX0_init_7 : decode cX0_init 7 = .ok (.newarray .boolean, 2) := by decide +kernel
theorem dX0_init_9 : decode cX0_init 9 = .ok (.putfield 9, 3) := by decide +kernel
theorem dX0_init_12 : decode cX0_init 12 = .ok (.aload_n 0, 1) := by decide +kernel
theorem dX0_init_13 : decode cX0_init 13 = .ok (.bipush 72, 2) := by decide +kernel
theorem dX0_init_15 : decode cX0_init 15 = .ok (.newarray .int, 2) := by decide +kernel
theorem dX0_init_17 : decode cX0_init 17 = .ok (.putfield 13, 3) := by decide +kernel
theorem dX0_init_20 : decode cX0_init 20 = .ok (.aload_n 0, 1) := by decide +kernel
theorem dX0_init_21 : decode cX0_init 21 = .ok (.iconst 4, 1) := by decide +kernel
theorem dX0_init_22 : decode cX0_init 22 = .ok (.bipush 12, 2) := by decide +kernel
theorem dX0_init_24 : decode cX0_init 24 = .ok (.iconst 1, 1) := by decide +kernel
theorem dX0_init_25 : decode cX0_init 25 = .ok (.invokevirtual 17, 3) := by decide +kernel
theorem dX0_init_28 : decode cX0_init 28 = .ok (.return_, 1) := by decide +kernel
set_option maxRecDepth 20000 in
theorem ggX0_setArmature_X0_layArmature : GoodIn wsX0_setArmature wsX0_layArmature := goodIn_r _ [6, 7, 8, 9, 1, 10, 11, 12, 13, 14, 5, 15, 16, 17, 18, 19, 20, 21, 22, 23, 24, 25, 26, 27, 28, 29, 30, 31, 32, 33, 34, 35, 36, 37, 38, 39] (by decide +kernel) (by decide +kernel)
set_option maxRecDepth 20000 in
theorem gX0_setArmature_X0_layArmature : GoodIn wsX0_setArmature (wsV RX0 17 RX0 yX0_layArmature wsX0_layArmature) := goodIn_app (goodIn_of _ (by decide +kernel)) ggX0_setArmature_X0_layArmature
theorem dX0_setArmature_0 : decode cX0_setArmature 0 = .ok (.iload_n 1, 1) := by decide +kernel
theorem dX0_setArmature_1 : decode cX0_setArmature 1 = .ok (.iconst 2, 1) := by decide +kernel
theorem dX0_setArmature_2 : decode cX0_setArmature 2 = .ok (.if_icmp .lt 15, 3) := by decide +kernel
theorem dX0_setArmature_5 : decode cX0_setArmature 5 = .ok (.iload_n 1, 1) := by decide +kernel
theorem dX0_setArmature_6 : decode cX0_setArmature 6 = .ok (.bipush 8, 2) := by decide +kernel
theorem dX0_setArmature_8 : decode cX0_setArmature 8 = .ok (.if_icmp .gt 9, 3) := by decide +kernel
theorem dX0_setArmature_11 : decode cX0_setArmature 11 = .ok (.iload_n 1, 1) := by decide +kernel
theorem dX0_setArmature_12 : decode cX0_setArmature 12 = .ok (.iconst 2, 1) := by decide +kernel
theorem dX0_setArmature_13 : decode cX0_setArmature 13 = .ok (.irem, 1) := by decide +kernel
theorem dX0_setArmature_14 : decode cX0_setArmature 14 = .ok (.ifCond .eq 7, 3) := by decide +kernel
theorem dX0_setArmature_17 : decode cX0_setArmature 17 = .ok (.sipush (-1001), 3) := by decide +kernel
theorem dX0_setArmature_20 : decode cX0_setArmature 20 = .ok (.ireturn, 1) := by decide +kernel
theorem dX0_setArmature_21 : decode cX0_setArmature 21 = .ok (.iload_n 2, 1) := by decide +kernel
theorem dX0_setArmature_22 : decode cX0_setArmature 22 = .ok (.iload_n 1, 1) := by decide +kernel
theorem dX0_setArmature_23 : decode cX0_setArmature 23 = .ok (.if_icmp .lt 9, 3) := by decide +kernel
theorem dX0_setArmature_26 : decode cX0_setArmature 26 = .ok (.iload_n 2, 1) := by decide +kernel
theorem dX0_setArmature_27 : decode cX0_setArmature 27 = .ok (.bipush 24, 2) := by decide +kernel
theorem dX0_setArmature_29 : decode cX0_setArmature 29 = .ok (.if_icmp .le 7, 3) := by decide +kernel
theorem dX0_setArmature_32 : decode cX0_setArmature 32 = .ok (.sipush (-1001), 3) := by decide +kernel
theorem dX0_setArmature_35 : decode cX0_setArmature 35 = .ok (.ireturn, 1) := by decide +kernel
theorem dX0_setArmature_36 : decode cX0_setArmature 36 = .ok (.iload_n 3, 1) := by decide +kernel
theorem dX0_setArmature_37 : decode cX0_setArmature 37 = .ok (.iconst 1, 1) := by decide +kernel
theorem dX0_setArmature_38 : decode cX0_setArmature 38 = .ok (.if_icmp .lt 8, 3) := by decide +kernel
theorem dX0_setArmature_41 : decode cX0_setArmature 41 = .ok (.iload_n 3, 1) := by decide +kernel
theorem dX0_setArmature_42 : decode cX0_setArmature 42 = .ok (.iconst 3, 1) := by decide +kernel
theorem dX0_setArmature_43 : decode cX0_setArmature 43 = .ok (.if_icmp .le 7, 3) := by decide +kernel
theorem dX0_setArmature_46 : decode cX0_setArmature 46 = .ok (.sipush (-1001), 3) := by decide +kernel
theorem dX0_setArmature_49 : decode cX0_setArmature 49 = .ok (.ireturn, 1) := by decide +kernel
theorem dX0_setArmature_50 : decode cX0_setArmature 50 = .ok (.aload_n 0, 1) := by decide +kernel
theorem dX0_setArmature_51 : decode cX0_setArmature 51 = .ok (.iload_n 1, 1) := by decide +kernel
theorem dX0_setArmature_52 : decode cX0_setArmature 52 = .ok (.iload_n 2, 1) := by decide +kernel
theorem dX0_setArmature_53 : decode cX0_setArmature 53 = .ok (.iload_n 3, 1) := by decide +kernel
theorem dX0_setArmature_54 : decode cX0_setArmature 54 = .ok (.invokevirtual 17, 3) := by decide +kernel
theorem dX0_setArmature_57 : decode cX0_setArmature 57 = .ok (.aload_n 0, 1) := by decide +kernel
theorem dX0_setArmature_58 : decode cX0_setArmature 58 = .ok (.getfield 21, 3) := by decide +kernel
theorem dX0_setArmature_61 : decode cX0_setArmature 61 = .ok (.ireturn, 1) := by decide +kernel
set_option maxRecDepth 20000 in
theorem ggX0_setWinding_X0_isWavePossible : GoodIn wsX0_setWinding wsX0_isWavePossible := goodIn_r _ [6, 7, 8, 9, 10, 11, 5, 12, 20, 21, 22, 23, 24, 25, 26, 27, 28, 29, 30] (by decide +kernel) (by decide +kernel)
set_option maxRecDepth 20000 in
theorem gX0_setWinding_X0_isWavePossible : GoodIn wsX0_setWinding (wsV RX0 25 RX0 yX0_isWavePossible wsX0_isWavePossible) := goodIn_app (goodIn_of _ (by decide +kernel)) ggX0_setWinding_X0_isWavePossible
set_option maxRecDepth 20000 in
theorem ggX0_setWinding_X0_wavePitch : GoodIn wsX0_setWinding wsX0_wavePitch := goodIn_r _ [12, 7, 8, 20, 21, 22, 23, 24, 25, 26, 27, 28, 29, 30] (by decide +kernel) (by decide +kernel)
set_option maxRecDepth 20000 in
theorem gX0_setWinding_X0_wavePitch : GoodIn wsX0_setWinding (wsV RX0 29 RX0 yX0_wavePitch wsX0_wavePitch) := goodIn_app (goodIn_of _ (by decide +kernel)) ggX0_setWinding_X0_wavePitch
set_option maxRecDepth 20000 in
theorem ggX0_setWinding_X0_layWinding : GoodIn wsX0_setWinding wsX0_layWinding := goodIn_r _ [16, 17, 18, 19, 1, 20, 21, 22, 23, 24, 25, 26, 27, 28, 29, 30] (by decide +kernel) (by decide +kernel)
set_option maxRecDepth 20000 in
theorem gX0_setWinding_X0_layWinding : GoodIn wsX0_setWinding (wsV RX0 33 RX0 yX0_layWinding wsX0_layWinding) := goodIn_app (goodIn_of _ (by decide +kernel)) ggX0_setWinding_X0_layWinding
theorem dX0_setWinding_0 : decode cX0_setWinding 0 = .ok (.iload_n 1, 1) := by decide +kernel
theorem dX0_setWinding_1 : decode cX0_setWinding 1 = .ok (.ifCond .eq 12, 3) := by decide +kernel
theorem dX0_setWinding_4 : decode cX0_setWinding 4 = .ok (.iload_n 1, 1) := by decide +kernel
theorem dX0_setWinding_5 : decode cX0_setWinding 5 = .ok (.iconst 1, 1) := by decide +kernel
theorem dX0_setWinding_6 : decode cX0_setWinding 6 = .ok (.if_icmp .eq 7, 3) := by decide +kernel
theorem dX0_setWinding_9 : decode cX0_setWinding 9 = .ok (.sipush (-1001), 3) := by decide +kernel
theorem dX0_setWinding_12 : decode cX0_setWinding 12 = .ok (.ireturn, 1) := by decide +kernel
theorem dX0_setWinding_13 : decode cX0_setWinding 13 = .ok (.iload_n 2, 1) := by decide +kernel
theorem dX0_setWinding_14 : decode cX0_setWinding 14 = .ok (.iconst 1, 1) := by decide +kernel
theorem dX0_setWinding_15 : decode cX0_setWinding 15 = .ok (.if_icmp .lt 8, 3) := by decide +kernel
theorem dX0_setWinding_18 : decode cX0_setWinding 18 = .ok (.iload_n 2, 1) := by decide +kernel
theorem dX0_setWinding_19 : decode cX0_setWinding 19 = .ok (.iconst 3, 1) := by decide +kernel
theorem dX0_setWinding_20 : decode cX0_setWinding 20 = .ok (.if_icmp .le 7, 3) := by decide +kernel
theorem dX0_setWinding_23 : decode cX0_setWinding 23 = .ok (.sipush (-1001), 3) := by decide +kernel
theorem dX0_setWinding_26 : decode cX0_setWinding 26 = .ok (.ireturn, 1) := by decide +kernel
theorem dX0_setWinding_27 : decode cX0_setWinding 27 = .ok (.iload_n 3, 1) := by decide +kernel
theorem dX0_setWinding_28 : decode cX0_setWinding 28 = .ok (.ifCond .eq 7, 3) := by decide +kernel
theorem dX0_setWinding_31 : decode cX0_setWinding 31 = .ok (.iload_n 2, 1) := by decide +kernel
theorem dX0_setWinding_32 : decode cX0_setWinding 32 = .ok (.goto 5, 3) := by decide +kernel
theorem dX0_setWinding_35 : decode cX0_setWinding 35 = .ok (.iload_n 2, 1) := by decide +kernel
theorem dX0_setWinding_36 : decode cX0_setWinding 36 = .ok (.ineg, 1) := by decide +kernel
theorem dX0_setWinding_37 : decode cX0_setWinding 37 = .ok (.istore 4, 2) := by decide +kernel
theorem dX0_setWinding_39 : decode cX0_setWinding 39 = .ok (.iload_n 1, 1) := by decide +kernel
theorem dX0_setWinding_40 : decode cX0_setWinding 40 = .ok (.iconst 1, 1) := by decide +kernel
theorem dX0_setWinding_41 : decode cX0_setWinding 41 = .ok (.if_icmp .ne 16, 3) := by decide +kernel
theorem dX0_setWinding_44 : decode cX0_setWinding 44 = .ok (.aload_n 0, 1) := by decide +kernel
theorem dX0_setWinding_45 : decode cX0_setWinding 45 = .ok (.iload 4, 2) := by decide +kernel
theorem dX0_setWinding_47 : decode cX0_setWinding 47 = .ok (.invokevirtual 25, 3) := by decide +kernel
theorem dX0_setWinding_50 : decode cX0_setWinding 50 = .ok (.ifCond .ne 7, 3) := by decide +kernel
theorem dX0_setWinding_53 : decode cX0_setWinding 53 = .ok (.sipush (-1003), 3) := by decide +kernel
theorem dX0_setWinding_56 : decode cX0_setWinding 56 = .ok (.ireturn, 1) := by decide +kernel
theorem dX0_setWinding_57 : decode cX0_setWinding 57 = .ok (.aload_n 0, 1) := by decide +kernel
theorem dX0_setWinding_58 : decode cX0_setWinding 58 = .ok (.iload_n 1, 1) := by decide +kernel
theorem dX0_setWinding_59 : decode cX0_setWinding 59 = .ok (.iload_n 2, 1) := by decide +kernel
theorem dX0_setWinding_60 : decode cX0_setWinding 60 = .ok (.iload_n 3, 1) := by decide +kernel
theorem dX0_setWinding_61 : decode cX0_setWinding 61 = .ok (.iload_n 1, 1) := by decide +kernel
theorem dX0_setWinding_62 : decode cX0_setWinding 62 = .ok (.iconst 1, 1) := by decide +kernel
theorem dX0_setWinding_63 : decode cX0_setWinding 63 = .ok (.if_icmp .ne 12, 3) := by decide +kernel
theorem dX0_setWinding_66 : decode cX0_setWinding 66 = .ok (.aload_n 0, 1) := by decide +kernel
theorem dX0_setWinding_67 : decode cX0_setWinding 67 = .ok (.iload 4, 2) := by decide +kernel
theorem dX0_setWinding_69 : decode cX0_setWinding 69 = .ok (.invokevirtual 29, 3) := by decide +kernel
theorem dX0_setWinding_72 : decode cX0_setWinding 72 = .ok (.goto 5, 3) := by decide +kernel
theorem dX0_setWinding_75 : decode cX0_setWinding 75 = .ok (.iload 4, 2) := by decide +kernel
theorem dX0_setWinding_77 : decode cX0_setWinding 77 = .ok (.invokevirtual 33, 3) := by decide +kernel
theorem dX0_setWinding_80 : decode cX0_setWinding 80 = .ok (.aload_n 0, 1) := by decide +kernel
theorem dX0_setWinding_81 : decode cX0_setWinding 81 = .ok (.getfield 37, 3) := by decide +kernel
theorem dX0_setWinding_84 : decode cX0_setWinding 84 = .ok (.ireturn, 1) := by decide +kernel
theorem dX0_setChording_0 : decode cX0_setChording 0 = .ok (.iload_n 1, 1) := by decide +kernel
theorem dX0_setChording_1 : decode cX0_setChording 1 = .ok (.ifCond .lt 8, 3) := by decide +kernel
theorem dX0_setChording_4 : decode cX0_setChording 4 = .ok (.iload_n 1, 1) := by decide +kernel
theorem dX0_setChording_5 : decode cX0_setChording 5 = .ok (.iconst 5, 1) := by decide +kernel
theorem dX0_setChording_6 : decode cX0_setChording 6 = .ok (.if_icmp .le 7, 3) := by decide +kernel
theorem dX0_setChording_9 : decode cX0_setChording 9 = .ok (.sipush (-1001), 3) := by decide +kernel
theorem dX0_setChording_12 : decode cX0_setChording 12 = .ok (.ireturn, 1) := by decide +kernel
theorem dX0_setChording_13 : decode cX0_setChording 13 = .ok (.aload_n 0, 1) := by decide +kernel
theorem dX0_setChording_14 : decode cX0_setChording 14 = .ok (.getfield 40, 3) := by decide +kernel
theorem dX0_setChording_17 : decode cX0_setChording 17 = .ok (.istore_n 2, 1) := by decide +kernel
theorem dX0_setChording_18 : decode cX0_setChording 18 = .ok (.aload_n 0, 1) := by decide +kernel
theorem dX0_setChording_19 : decode cX0_setChording 19 = .ok (.iload_n 1, 1) := by decide +kernel
theorem dX0_setChording_20 : decode cX0_setChording 20 = .ok (.putfield 40, 3) := by decide +kernel
theorem dX0_setChording_23 : decode cX0_setChording 23 = .ok (.iload_n 2, 1) := by decide +kernel
theorem dX0_setChording_24 : decode cX0_setChording 24 = .ok (.ireturn, 1) := by decide +kernel
set_option maxRecDepth 20000 in
theorem ggX0_setOpen_X0_openMark : GoodIn wsX0_setOpen wsX0_openMark := goodIn_r _ [7, 8, 9, 10, 6, 11, 2, 12, 13, 14, 15, 16, 17, 18, 19, 20, 21, 22] (by decide +kernel) (by decide +kernel)
set_option maxRecDepth 20000 in
theorem gX0_setOpen_X0_openMark : GoodIn wsX0_setOpen (wsV RX0 43 RX0 yX0_openMark wsX0_openMark) := goodIn_app (goodIn_of _ (by decide +kernel)) ggX0_setOpen_X0_openMark
theorem dX0_setOpen_0 : decode cX0_setOpen 0 = .ok (.iload_n 1, 1) := by decide +kernel
theorem dX0_setOpen_1 : decode cX0_setOpen 1 = .ok (.ifCond .lt 20, 3) := by decide +kernel
theorem dX0_setOpen_4 : decode cX0_setOpen 4 = .ok (.iload_n 1, 1) := by decide +kernel
theorem dX0_setOpen_5 : decode cX0_setOpen 5 = .ok (.aload_n 0, 1) := by decide +kernel
theorem dX0_setOpen_6 : decode cX0_setOpen 6 = .ok (.getfield 21, 3) := by decide +kernel
theorem dX0_setOpen_9 : decode cX0_setOpen 9 = .ok (.if_icmp .ge 12, 3) := by decide +kernel
theorem dX0_setOpen_12 : decode cX0_setOpen 12 = .ok (.iload_n 1, 1) := by decide +kernel
theorem dX0_setOpen_13 : decode cX0_setOpen 13 = .ok (.aload_n 0, 1) := by decide +kernel
theorem dX0_setOpen_14 : decode cX0_setOpen 14 = .ok (.getfield 9, 3) := by decide +kernel
theorem dX0_setOpen_17 : decode cX0_setOpen 17 = .ok (.arraylength, 1) := by decide +kernel
theorem dX0_setOpen_18 : decode cX0_setOpen 18 = .ok (.if_icmp .lt 7, 3) := by decide +kernel
theorem dX0_setOpen_21 : decode cX0_setOpen 21 = .ok (.sipush (-1002), 3) := by decide +kernel
theorem dX0_setOpen_24 : decode cX0_setOpen 24 = .ok (.ireturn, 1) := by decide +kernel
theorem dX0_setOpen_25 : decode cX0_setOpen 25 = .ok (.aload_n 0, 1) := by decide +kernel
theorem dX0_setOpen_26 : decode cX0_setOpen 26 = .ok (.iload_n 1, 1) := by decide +kernel
theorem dX0_setOpen_27 : decode cX0_setOpen 27 = .ok (.invokevirtual 43, 3) := by decide +kernel
theorem dX0_setOpen_30 : decode cX0_setOpen 30 = .ok (.istore_n 3, 1) := by decide +kernel
theorem dX0_setOpen_31 : decode cX0_setOpen 31 = .ok (.aload_n 0, 1) := by decide +kernel
theorem dX0_setOpen_32 : decode cX0_setOpen 32 = .ok (.getfield 9, 3) := by decide +kernel
theorem dX0_setOpen_35 : decode cX0_setOpen 35 = .ok (.iload_n 1, 1) := by decide +kernel
theorem dX0_setOpen_36 : decode cX0_setOpen 36 = .ok (.iload_n 2, 1) := by decide +kernel
theorem dX0_setOpen_37 : decode cX0_setOpen 37 = .ok (.bastore, 1) := by decide +kernel
theorem dX0_setOpen_38 : decode cX0_setOpen 38 = .ok (.iload_n 3, 1) := by decide +kernel
theorem dX0_setOpen_39 : decode cX0_setOpen 39 = .ok (.ireturn, 1) := by decide +kernel
set_option maxRecDepth 20000 in
theorem ggX0_layArmature_X0_placeBrushes : GoodIn wsX0_layArmature wsX0_placeBrushes := goodIn_r _ [11, 12, 1, 13, 14, 15, 10, 16, 4, 25, 26, 27, 28, 29, 30, 31, 32, 33, 34, 35] (by decide +kernel) (by decide +kernel)
set_option maxRecDepth 20000 in
theorem gX0_layArmature_X0_placeBrushes : GoodIn wsX0_layArmature (wsV RX0 55 RX0 yX0_placeBrushes wsX0_placeBrushes) := goodIn_app (goodIn_of _ (by decide +kernel)) ggX0_layArmature_X0_placeBrushes
set_option maxRecDepth 20000 in
theorem ggX0_layArmature_X0_layWinding : GoodIn wsX0_layArmature wsX0_layWinding := goodIn_r _ [20, 21, 22, 23, 24, 25, 26, 27, 28, 29, 30, 31, 32, 33, 34, 35] (by decide +kernel) (by decide +kernel)
set_option maxRecDepth 20000 in
theorem gX0_layArmature_X0_layWinding : GoodIn wsX0_layArmature (wsV RX0 33 RX0 yX0_layWinding wsX0_layWinding) := goodIn_app (goodIn_of _ (by decide +kernel)) ggX0_layArmature_X0_layWinding
theorem dX0_layArmature_0 : decode cX0_layArmature 0 = .ok (.aload_n 0, 1) := by decide +kernel
theorem dX0_layArmature_1 : decode cX0_layArmature 1 = .ok (.iload_n 1, 1) := by decide +kernel
theorem dX0_layArmature_2 : decode cX0_layArmature 2 = .ok (.putfield 46, 3) := by decide +kernel
theorem dX0_layArmature_5 : decode cX0_layArmature 5 = .ok (.aload_n 0, 1) := by decide +kernel
theorem dX0_layArmature_6 : decode cX0_layArmature 6 = .ok (.iload_n 2, 1) := by decide +kernel
theorem dX0_layArmature_7 : decode cX0_layArmature 7 = .ok (.putfield 49, 3) := by decide +kernel
theorem dX0_layArmature_10 : decode cX0_layArmature 10 = .ok (.aload_n 0, 1) := by decide +kernel
theorem dX0_layArmature_11 : decode cX0_layArmature 11 = .ok (.iload_n 3, 1) := by decide +kernel
theorem dX0_layArmature_12 : decode cX0_layArmature 12 = .ok (.putfield 52, 3) := by decide +kernel
theorem dX0_layArmature_15 : decode cX0_layArmature 15 = .ok (.aload_n 0, 1) := by decide +kernel
theorem dX0_layArmature_16 : decode cX0_layArmature 16 = .ok (.iload_n 2, 1) := by decide +kernel
theorem dX0_layArmature_17 : decode cX0_layArmature 17 = .ok (.iload_n 3, 1) := by decide +kernel
theorem dX0_layArmature_18 : decode cX0_layArmature 18 = .ok (.imul, 1) := by decide +kernel
theorem dX0_layArmature_19 : decode cX0_layArmature 19 = .ok (.putfield 21, 3) := by decide +kernel
theorem dX0_layArmature_22 : decode cX0_layArmature 22 = .ok (.aload_n 0, 1) := by decide +kernel
theorem dX0_layArmature_23 : decode cX0_layArmature 23 = .ok (.iconst 0, 1) := by decide +kernel
theorem dX0_layArmature_24 : decode cX0_layArmature 24 = .ok (.putfield 40, 3) := by decide +kernel
theorem dX0_layArmature_27 : decode cX0_layArmature 27 = .ok (.iconst 0, 1) := by decide +kernel
theorem dX0_layArmature_28 : decode cX0_layArmature 28 = .ok (.istore 4, 2) := by decide +kernel
theorem dX0_layArmature_30 : decode cX0_layArmature 30 = .ok (.iload 4, 2) := by decide +kernel
theorem dX0_layArmature_32 : decode cX0_layArmature 32 = .ok (.aload_n 0, 1) := by decide +kernel
theorem dX0_layArmature_33 : decode cX0_layArmature 33 = .ok (.getfield 9, 3) := by decide +kernel
theorem dX0_layArmature_36 : decode cX0_layArmature 36 = .ok (.arraylength, 1) := by decide +kernel
theorem dX0_layArmature_37 : decode cX0_layArmature 37 = .ok (.if_icmp .ge 17, 3) := by decide +kernel
theorem dX0_layArmature_40 : decode cX0_layArmature 40 = .ok (.aload_n 0, 1) := by decide +kernel
theorem dX0_layArmature_41 : decode cX0_layArmature 41 = .ok (.getfield 9, 3) := by decide +kernel
theorem dX0_layArmature_44 : decode cX0_layArmature 44 = .ok (.iload 4, 2) := by decide +kernel
theorem dX0_layArmature_46 : decode cX0_layArmature 46 = .ok (.iconst 0, 1) := by decide +kernel
theorem dX0_layArmature_47 : decode cX0_layArmature 47 = .ok (.bastore, 1) := by decide +kernel
theorem dX0_layArmature_48 : decode cX0_layArmature 48 = .ok (.iinc 4 1, 3) := by decide +kernel
theorem dX0_layArmature_51 : decode cX0_layArmature 51 = .ok (.goto (-21), 3) := by decide +kernel
theorem dX0_layArmature_54 : decode cX0_layArmature 54 = .ok (.aload_n 0, 1) := by decide +kernel
theorem dX0_layArmature_55 : decode cX0_layArmature 55 = .ok (.invokevirtual 55, 3) := by decide +kernel
theorem dX0_layArmature_58 : decode cX0_layArmature 58 = .ok (.aload_n 0, 1) := by decide +kernel
theorem dX0_layArmature_59 : decode cX0_layArmature 59 = .ok (.iconst 0, 1) := by decide +kernel
theorem dX0_layArmature_60 : decode cX0_layArmature 60 = .ok (.iconst 1, 1) := by decide +kernel
theorem dX0_layArmature_61 : decode cX0_layArmature 61 = .ok (.iconst 1, 1) := by decide +kernel
theorem dX0_layArmature_62 : decode cX0_layArmature 62 = .ok (.iconst 1, 1) := by decide +kernel
theorem dX0_layArmature_63 : decode cX0_layArmature 63 = .ok (.invokevirtual 33, 3) := by decide +kernel
theorem dX0_layArmature_66 : decode cX0_layArmature 66 = .ok (.return_, 1) := by decide +kernel
theorem dX0_layWinding_0 : decode cX0_layWinding 0 = .ok (.aload_n 0, 1) := by decide +kernel
theorem dX0_layWinding_1 : decode cX0_layWinding 1 = .ok (.iload_n 1, 1) := by decide +kernel
theorem dX0_layWinding_2 : decode cX0_layWinding 2 = .ok (.putfield 58, 3) := by decide +kernel
theorem dX0_layWinding_5 : decode cX0_layWinding 5 = .ok (.aload_n 0, 1) := by decide +kernel
theorem dX0_layWinding_6 : decode cX0_layWinding 6 = .ok (.iload_n 2, 1) := by decide +kernel
theorem dX0_layWinding_7 : decode cX0_layWinding 7 = .ok (.putfield 61, 3) := by decide +kernel
theorem dX0_layWinding_10 : decode cX0_layWinding 10 = .ok (.aload_n 0, 1) := by decide +kernel
theorem dX0_layWinding_11 : decode cX0_layWinding 11 = .ok (.iload_n 3, 1) := by decide +kernel
theorem dX0_layWinding_12 : decode cX0_layWinding 12 = .ok (.putfield 64, 3) := by decide +kernel
theorem dX0_layWinding_15 : decode cX0_layWinding 15 = .ok (.aload_n 0, 1) := by decide +kernel
theorem dX0_layWinding_16 : decode cX0_layWinding 16 = .ok (.iload 4, 2) := by decide +kernel
theorem dX0_layWinding_18 : decode cX0_layWinding 18 = .ok (.putfield 37, 3) := by decide +kernel
theorem dX0_layWinding_21 : decode cX0_layWinding 21 = .ok (.return_, 1) := by decide +kernel
set_option maxRecDepth 20000 in
theorem ggX0_placeBrushes_X0_brushBar : GoodIn wsX0_placeBrushes wsX0_brushBar := goodIn_r _ [7, 2, 8, 9, 10, 11, 12, 13, 14, 15, 16, 17, 18, 19] (by decide +kernel) (by decide +kernel)
set_option maxRecDepth 20000 in
theorem gX0_placeBrushes_X0_brushBar : GoodIn wsX0_placeBrushes (wsV RX0 68 RX0 yX0_brushBar wsX0_brushBar) := goodIn_app (goodIn_of _ (by decide +kernel)) ggX0_placeBrushes_X0_brushBar
theorem dX0_placeBrushes_0 : decode cX0_placeBrushes 0 = .ok (.iconst 0, 1) := by decide +kernel
theorem dX0_placeBrushes_1 : decode cX0_placeBrushes 1 = .ok (.istore_n 1, 1) := by decide +kernel
theorem dX0_placeBrushes_2 : decode cX0_placeBrushes 2 = .ok (.iload_n 1, 1) := by decide +kernel
theorem dX0_placeBrushes_3 : decode cX0_placeBrushes 3 = .ok (.aload_n 0, 1) := by decide +kernel
theorem dX0_placeBrushes_4 : decode cX0_placeBrushes 4 = .ok (.getfield 13, 3) := by decide +kernel
theorem dX0_placeBrushes_7 : decode cX0_placeBrushes 7 = .ok (.arraylength, 1) := by decide +kernel
theorem dX0_placeBrushes_8 : decode cX0_placeBrushes 8 = .ok (.if_icmp .ge 18, 3) := by decide +kernel
theorem dX0_placeBrushes_11 : decode cX0_placeBrushes 11 = .ok (.aload_n 0, 1) := by decide +kernel
theorem dX0_placeBrushes_12 : decode cX0_placeBrushes 12 = .ok (.getfield 13, 3) := by decide +kernel
theorem dX0_placeBrushes_15 : decode cX0_placeBrushes 15 = .ok (.iload_n 1, 1) := by decide +kernel
theorem dX0_placeBrushes_16 : decode cX0_placeBrushes 16 = .ok (.sipush (-1004), 3) := by decide +kernel
theorem dX0_placeBrushes_19 : decode cX0_placeBrushes 19 = .ok (.iastore, 1) := by decide +kernel
theorem dX0_placeBrushes_20 : decode cX0_placeBrushes 20 = .ok (.iinc 1 1, 3) := by decide +kernel
theorem dX0_placeBrushes_23 : decode cX0_placeBrushes 23 = .ok (.goto (-21), 3) := by decide +kernel
theorem dX0_placeBrushes_26 : decode cX0_placeBrushes 26 = .ok (.aload_n 0, 1) := by decide +kernel
theorem dX0_placeBrushes_27 : decode cX0_placeBrushes 27 = .ok (.getfield 46, 3) := by decide +kernel
theorem dX0_placeBrushes_30 : decode cX0_placeBrushes 30 = .ok (.iconst 1, 1) := by decide +kernel
theorem dX0_placeBrushes_31 : decode cX0_placeBrushes 31 = .ok (.isub, 1) := by decide +kernel
theorem dX0_placeBrushes_32 : decode cX0_placeBrushes 32 = .ok (.istore_n 1, 1) := by decide +kernel
theorem dX0_placeBrushes_33 : decode cX0_placeBrushes 33 = .ok (.iload_n 1, 1) := by decide +kernel
theorem dX0_placeBrushes_34 : decode cX0_placeBrushes 34 = .ok (.ifCond .lt 35, 3) := by decide +kernel
theorem dX0_placeBrushes_37 : decode cX0_placeBrushes 37 = .ok (.aload_n 0, 1) := by decide +kernel
theorem dX0_placeBrushes_38 : decode cX0_placeBrushes 38 = .ok (.iload_n 1, 1) := by decide +kernel
theorem dX0_placeBrushes_39 : decode cX0_placeBrushes 39 = .ok (.invokevirtual 68, 3) := by decide +kernel
theorem dX0_placeBrushes_42 : decode cX0_placeBrushes 42 = .ok (.istore_n 2, 1) := by decide +kernel
theorem dX0_placeBrushes_43 : decode cX0_placeBrushes 43 = .ok (.iload_n 2, 1) := by decide +kernel
theorem dX0_placeBrushes_44 : decode cX0_placeBrushes 44 = .ok (.ifCond .lt 19, 3) := by decide +kernel
theorem dX0_placeBrushes_47 : decode cX0_placeBrushes 47 = .ok (.iload_n 2, 1) := by decide +kernel
theorem dX0_placeBrushes_48 : decode cX0_placeBrushes 48 = .ok (.aload_n 0, 1) := by decide +kernel
theorem dX0_placeBrushes_49 : decode cX0_placeBrushes 49 = .ok (.getfield 13, 3) := by decide +kernel
theorem dX0_placeBrushes_52 : decode cX0_placeBrushes 52 = .ok (.arraylength, 1) := by decide +kernel
theorem dX0_placeBrushes_53 : decode cX0_placeBrushes 53 = .ok (.if_icmp .ge 10, 3) := by decide +kernel
theorem dX0_placeBrushes_56 : decode cX0_placeBrushes 56 = .ok (.aload_n 0, 1) := by decide +kernel
theorem dX0_placeBrushes_57 : decode cX0_placeBrushes 57 = .ok (.getfield 13, 3) := by decide +kernel
theorem dX0_placeBrushes_60 : decode cX0_placeBrushes 60 = .ok (.iload_n 2, 1) := by decide +kernel
theorem dX0_placeBrushes_61 : decode cX0_placeBrushes 61 = .ok (.iload_n 1, 1) := by decide +kernel
theorem dX0_placeBrushes_62 : decode cX0_placeBrushes 62 = .ok (.iastore, 1) := by decide +kernel
theorem dX0_placeBrushes_63 : decode cX0_placeBrushes 63 = .ok (.iinc 1 (-1), 3) := by decide +kernel
theorem dX0_placeBrushes_66 : decode cX0_placeBrushes 66 = .ok (.goto (-33), 3) := by decide +kernel
theorem dX0_placeBrushes_69 : decode cX0_placeBrushes 69 = .ok (.return_, 1) := by decide +kernel
theorem dX0_wavePitch_0 : decode cX0_wavePitch 0 = .ok (.aload_n 0, 1) := by decide +kernel
theorem dX0_wavePitch_1 : decode cX0_wavePitch 1 = .ok (.getfield 46, 3) := by decide +kernel
theorem dX0_wavePitch_4 : decode cX0_wavePitch 4 = .ok (.iconst 2, 1) := by decide +kernel
theorem dX0_wavePitch_5 : decode cX0_wavePitch 5 = .ok (.idiv, 1) := by decide +kernel
theorem dX0_wavePitch_6 : decode cX0_wavePitch 6 = .ok (.istore_n 2, 1) := by decide +kernel
theorem dX0_wavePitch_7 : decode cX0_wavePitch 7 = .ok (.iload_n 2, 1) := by decide +kernel
theorem dX0_wavePitch_8 : decode cX0_wavePitch 8 = .ok (.ifCond .le 14, 3) := by decide +kernel
theorem dX0_wavePitch_11 : decode cX0_wavePitch 11 = .ok (.aload_n 0, 1) := by decide +kernel
theorem dX0_wavePitch_12 : decode cX0_wavePitch 12 = .ok (.getfield 21, 3) := by decide +kernel
theorem dX0_wavePitch_15 : decode cX0_wavePitch 15 = .ok (.iload_n 1, 1) := by decide +kernel
theorem dX0_wavePitch_16 : decode cX0_wavePitch 16 = .ok (.iadd, 1) := by decide +kernel
theorem dX0_wavePitch_17 : decode cX0_wavePitch 17 = .ok (.iload_n 2, 1) := by decide +kernel
theorem dX0_wavePitch_18 : decode cX0_wavePitch 18 = .ok (.idiv, 1) := by decide +kernel
theorem dX0_wavePitch_19 : decode cX0_wavePitch 19 = .ok (.goto 4, 3) := by decide +kernel
theorem dX0_wavePitch_22 : decode cX0_wavePitch 22 = .ok (.iconst 0, 1) := by decide +kernel
theorem dX0_wavePitch_23 : decode cX0_wavePitch 23 = .ok (.ireturn, 1) := by decide +kernel
set_option maxRecDepth 20000 in
theorem ggX0_isWavePossible_X0_wavePitch : GoodIn wsX0_isWavePossible wsX0_wavePitch := goodIn_r _ [7, 1, 2, 8, 9, 10, 11, 12, 13, 14, 15, 16, 17, 18] (by decide +kernel) (by decide +kernel)
set_option maxRecDepth 20000 in
theorem gX0_isWavePossible_X0_wavePitch : GoodIn wsX0_isWavePossible (wsV RX0 29 RX0 yX0_wavePitch wsX0_wavePitch) := goodIn_app (goodIn_of _ (by decide +kernel)) ggX0_isWavePossible_X0_wavePitch
theorem dX0_isWavePossible_0 : decode cX0_isWavePossible 0 = .ok (.aload_n 0, 1) := by decide +kernel
theorem dX0_isWavePossible_1 : decode cX0_isWavePossible 1 = .ok (.iload_n 1, 1) := by decide +kernel
theorem dX0_isWavePossible_2 : decode cX0_isWavePossible 2 = .ok (.invokevirtual 29, 3) := by decide +kernel
theorem dX0_isWavePossible_5 : decode cX0_isWavePossible 5 = .ok (.aload_n 0, 1) := by decide +kernel
theorem dX0_isWavePossible_6 : decode cX0_isWavePossible 6 = .ok (.getfield 46, 3) := by decide +kernel
theorem dX0_isWavePossible_9 : decode cX0_isWavePossible 9 = .ok (.iconst 2, 1) := by decide +kernel
theorem dX0_isWavePossible_10 : decode cX0_isWavePossible 10 = .ok (.idiv, 1) := by decide +kernel
theorem dX0_isWavePossible_11 : decode cX0_isWavePossible 11 = .ok (.imul, 1) := by decide +kernel
theorem dX0_isWavePossible_12 : decode cX0_isWavePossible 12 = .ok (.aload_n 0, 1) := by decide +kernel
theorem dX0_isWavePossible_13 : decode cX0_isWavePossible 13 = .ok (.getfield 21, 3) := by decide +kernel
theorem dX0_isWavePossible_16 : decode cX0_isWavePossible 16 = .ok (.iload_n 1, 1) := by decide +kernel
theorem dX0_isWavePossible_17 : decode cX0_isWavePossible 17 = .ok (.iadd, 1) := by decide +kernel
theorem dX0_isWavePossible_18 : decode cX0_isWavePossible 18 = .ok (.if_icmp .ne 7, 3) := by decide +kernel
theorem dX0_isWavePossible_21 : decode cX0_isWavePossible 21 = .ok (.iconst 1, 1) := by decide +kernel
theorem dX0_isWavePossible_22 : decode cX0_isWavePossible 22 = .ok (.goto 4, 3) := by decide +kernel
theorem dX0_isWavePossible_25 : decode cX0_isWavePossible 25 = .ok (.iconst 0, 1) := by decide +kernel
theorem dX0_isWavePossible_26 : decode cX0_isWavePossible 26 = .ok (.ireturn, 1) := by decide +kernel
theorem dX0_coilCount_0 : decode cX0_coilCount 0 = .ok (.aload_n 0, 1) := by decide +kernel
theorem dX0_coilCount_1 : decode cX0_coilCount 1 = .ok (.getfield 21, 3) := by decide +kernel
theorem dX0_coilCount_4 : decode cX0_coilCount 4 = .ok (.ireturn, 1) := by decide +kernel
theorem dX0_slotPitch_0 : decode cX0_slotPitch 0 = .ok (.aload_n 0, 1) := by decide +kernel
theorem dX0_slotPitch_1 : decode cX0_slotPitch 1 = .ok (.getfield 46, 3) := by decide +kernel
theorem dX0_slotPitch_4 : decode cX0_slotPitch 4 = .ok (.ifCond .le 15, 3) := by decide +kernel
theorem dX0_slotPitch_7 : decode cX0_slotPitch 7 = .ok (.aload_n 0, 1) := by decide +kernel
theorem dX0_slotPitch_8 : decode cX0_slotPitch 8 = .ok (.getfield 49, 3) := by decide +kernel
theorem dX0_slotPitch_11 : decode cX0_slotPitch 11 = .ok (.aload_n 0, 1) := by decide +kernel
theorem dX0_slotPitch_12 : decode cX0_slotPitch 12 = .ok (.getfield 46, 3) := by decide +kernel
theorem dX0_slotPitch_15 : decode cX0_slotPitch 15 = .ok (.idiv, 1) := by decide +kernel
theorem dX0_slotPitch_16 : decode cX0_slotPitch 16 = .ok (.goto 4, 3) := by decide +kernel
theorem dX0_slotPitch_19 : decode cX0_slotPitch 19 = .ok (.iconst 0, 1) := by decide +kernel
theorem dX0_slotPitch_20 : decode cX0_slotPitch 20 = .ok (.istore_n 1, 1) := by decide +kernel
theorem dX0_slotPitch_21 : decode cX0_slotPitch 21 = .ok (.iload_n 1, 1) := by decide +kernel
theorem dX0_slotPitch_22 : decode cX0_slotPitch 22 = .ok (.aload_n 0, 1) := by decide +kernel
theorem dX0_slotPitch_23 : decode cX0_slotPitch 23 = .ok (.getfield 40, 3) := by decide +kernel
theorem dX0_slotPitch_26 : decode cX0_slotPitch 26 = .ok (.isub, 1) := by decide +kernel
theorem dX0_slotPitch_27 : decode cX0_slotPitch 27 = .ok (.istore_n 2, 1) := by decide +kernel
theorem dX0_slotPitch_28 : decode cX0_slotPitch 28 = .ok (.iload_n 2, 1) := by decide +kernel
theorem dX0_slotPitch_29 : decode cX0_slotPitch 29 = .ok (.iconst 1, 1) := by decide +kernel
theorem dX0_slotPitch_30 : decode cX0_slotPitch 30 = .ok (.if_icmp .ge 7, 3) := by decide +kernel
theorem dX0_slotPitch_33 : decode cX0_slotPitch 33 = .ok (.iconst 1, 1) := by decide +kernel
theorem dX0_slotPitch_34 : decode cX0_slotPitch 34 = .ok (.goto 4, 3) := by decide +kernel
theorem dX0_slotPitch_37 : decode cX0_slotPitch 37 = .ok (.iload_n 2, 1) := by decide +kernel
theorem dX0_slotPitch_38 : decode cX0_slotPitch 38 = .ok (.ireturn, 1) := by decide +kernel
set_option maxRecDepth 20000 in
theorem ggX0_endBar_X0_wrap : GoodIn wsX0_endBar wsX0_wrap := goodIn_r _ [6] (by decide +kernel) (by decide +kernel)
set_option maxRecDepth 20000 in
theorem gX0_endBar_X0_wrap : GoodIn wsX0_endBar (va_wsS RX0 71 yX0_wrap wsX0_wrap) := goodIn_app (goodIn_of _ (by decide +kernel)) ggX0_endBar_X0_wrap
theorem dX0_endBar_0 : decode cX0_endBar 0 = .ok (.iload_n 1, 1) := by decide +kernel
theorem dX0_endBar_1 : decode cX0_endBar 1 = .ok (.ifCond .lt 11, 3) := by decide +kernel
theorem dX0_endBar_4 : decode cX0_endBar 4 = .ok (.iload_n 1, 1) := by decide +kernel
theorem dX0_endBar_5 : decode cX0_endBar 5 = .ok (.aload_n 0, 1) := by decide +kernel
theorem dX0_endBar_6 : decode cX0_endBar 6 = .ok (.getfield 21, 3) := by decide +kernel
theorem dX0_endBar_9 : decode cX0_endBar 9 = .ok (.if_icmp .lt 7, 3) := by decide +kernel
theorem dX0_endBar_12 : decode cX0_endBar 12 = .ok (.sipush (-1002), 3) := by decide +kernel
theorem dX0_endBar_15 : decode cX0_endBar 15 = .ok (.ireturn, 1) := by decide +kernel
theorem dX0_endBar_16 : decode cX0_endBar 16 = .ok (.iload_n 1, 1) := by decide +kernel
theorem dX0_endBar_17 : decode cX0_endBar 17 = .ok (.aload_n 0, 1) := by decide +kernel
theorem dX0_endBar_18 : decode cX0_endBar 18 = .ok (.getfield 37, 3) := by decide +kernel
theorem dX0_endBar_21 : decode cX0_endBar 21 = .ok (.iadd, 1) := by decide +kernel
theorem dX0_endBar_22 : decode cX0_endBar 22 = .ok (.aload_n 0, 1) := by decide +kernel
theorem dX0_endBar_23 : decode cX0_endBar 23 = .ok (.getfield 21, 3) := by decide +kernel
theorem dX0_endBar_26 : decode cX0_endBar 26 = .ok (.invokestatic 71, 3) := by decide +kernel
theorem dX0_endBar_29 : decode cX0_endBar 29 = .ok (.ireturn, 1) := by decide +kernel
set_option maxRecDepth 20000 in
theorem ggX0_coilEndingAt_X0_wrap : GoodIn wsX0_coilEndingAt wsX0_wrap := goodIn_r _ [6] (by decide +kernel) (by decide +kernel)
set_option maxRecDepth 20000 in
theorem gX0_coilEndingAt_X0_wrap : GoodIn wsX0_coilEndingAt (va_wsS RX0 71 yX0_wrap wsX0_wrap) := goodIn_app (goodIn_of _ (by decide +kernel)) ggX0_coilEndingAt_X0_wrap
theorem dX0_coilEndingAt_0 : decode cX0_coilEndingAt 0 = .ok (.iload_n 1, 1) := by decide +kernel
theorem dX0_coilEndingAt_1 : decode cX0_coilEndingAt 1 = .ok (.ifCond .lt 11, 3) := by decide +kernel
theorem dX0_coilEndingAt_4 : decode cX0_coilEndingAt 4 = .ok (.iload_n 1, 1) := by decide +kernel
theorem dX0_coilEndingAt_5 : decode cX0_coilEndingAt 5 = .ok (.aload_n 0, 1) := by decide +kernel
theorem dX0_coilEndingAt_6 : decode cX0_coilEndingAt 6 = .ok (.getfield 21, 3) := by decide +kernel
theorem dX0_coilEndingAt_9 : decode cX0_coilEndingAt 9 = .ok (.if_icmp .lt 7, 3) := by decide +kernel
theorem dX0_coilEndingAt_12 : decode cX0_coilEndingAt 12 = .ok (.sipush (-1002), 3) := by decide +kernel
theorem dX0_coilEndingAt_15 : decode cX0_coilEndingAt 15 = .ok (.ireturn, 1) := by decide +kernel
theorem dX0_coilEndingAt_16 : decode cX0_coilEndingAt 16 = .ok (.iload_n 1, 1) := by decide +kernel
theorem dX0_coilEndingAt_17 : decode cX0_coilEndingAt 17 = .ok (.aload_n 0, 1) := by decide +kernel
theorem dX0_coilEndingAt_18 : decode cX0_coilEndingAt 18 = .ok (.getfield 37, 3) := by decide +kernel
theorem dX0_coilEndingAt_21 : decode cX0_coilEndingAt 21 = .ok (.isub, 1) := by decide +kernel
theorem dX0_coilEndingAt_22 : decode cX0_coilEndingAt 22 = .ok (.aload_n 0, 1) := by decide +kernel
theorem dX0_coilEndingAt_23 : decode cX0_coilEndingAt 23 = .ok (.getfield 21, 3) := by decide +kernel
theorem dX0_coilEndingAt_26 : decode cX0_coilEndingAt 26 = .ok (.invokestatic 71, 3) := by decide +kernel
theorem dX0_coilEndingAt_29 : decode cX0_coilEndingAt 29 = .ok (.ireturn, 1) := by decide +kernel
theorem dX0_upperSlot_0 : decode cX0_upperSlot 0 = .ok (.iload_n 1, 1) := by decide +kernel
theorem dX0_upperSlot_1 : decode cX0_upperSlot 1 = .ok (.ifCond .lt 18, 3) := by decide +kernel
theorem dX0_upperSlot_4 : decode cX0_upperSlot 4 = .ok (.iload_n 1, 1) := by decide +kernel
theorem dX0_upperSlot_5 : decode cX0_upperSlot 5 = .ok (.aload_n 0, 1) := by decide +kernel
theorem dX0_upperSlot_6 : decode cX0_upperSlot 6 = .ok (.getfield 21, 3) := by decide +kernel
theorem dX0_upperSlot_9 : decode cX0_upperSlot 9 = .ok (.if_icmp .ge 10, 3) := by decide +kernel
theorem dX0_upperSlot_12 : decode cX0_upperSlot 12 = .ok (.aload_n 0, 1) := by decide +kernel
theorem dX0_upperSlot_13 : decode cX0_upperSlot 13 = .ok (.getfield 52, 3) := by decide +kernel
theorem dX0_upperSlot_16 : decode cX0_upperSlot 16 = .ok (.ifCond .gt 7, 3) := by decide +kernel
theorem dX0_upperSlot_19 : decode cX0_upperSlot 19 = .ok (.sipush (-1002), 3) := by decide +kernel
theorem dX0_upperSlot_22 : decode cX0_upperSlot 22 = .ok (.ireturn, 1) := by decide +kernel
theorem dX0_upperSlot_23 : decode cX0_upperSlot 23 = .ok (.iload_n 1, 1) := by decide +kernel
theorem dX0_upperSlot_24 : decode cX0_upperSlot 24 = .ok (.aload_n 0, 1) := by decide +kernel
theorem dX0_upperSlot_25 : decode cX0_upperSlot 25 = .ok (.getfield 52, 3) := by decide +kernel
theorem dX0_upperSlot_28 : decode cX0_upperSlot 28 = .ok (.idiv, 1) := by decide +kernel
theorem dX0_upperSlot_29 : decode cX0_upperSlot 29 = .ok (.ireturn, 1) := by decide +kernel
set_option maxRecDepth 20000 in
theorem ggX0_lowerSlot_X0_upperSlot : GoodIn wsX0_lowerSlot wsX0_upperSlot := goodIn_r _ [7, 1, 8, 18, 19, 20, 21, 22, 23, 24, 25, 26, 27, 28] (by decide +kernel) (by decide +kernel)
set_option maxRecDepth 20000 in
theorem gX0_lowerSlot_X0_upperSlot : GoodIn wsX0_lowerSlot (wsV RX0 75 RX0 yX0_upperSlot wsX0_upperSlot) := goodIn_app (goodIn_of _ (by decide +kernel)) ggX0_lowerSlot_X0_upperSlot
set_option maxRecDepth 20000 in
theorem ggX0_lowerSlot_X0_slotPitch : GoodIn wsX0_lowerSlot wsX0_slotPitch := goodIn_r _ [12, 13, 2, 14, 18, 19, 20, 21, 22, 23, 24, 25, 26, 27, 28] (by decide +kernel) (by decide +kernel)
set_option maxRecDepth 20000 in
theorem gX0_lowerSlot_X0_slotPitch : GoodIn wsX0_lowerSlot (wsV RX0 78 RX0 yX0_slotPitch wsX0_slotPitch) := goodIn_app (goodIn_of _ (by decide +kernel)) ggX0_lowerSlot_X0_slotPitch
set_option maxRecDepth 20000 in
theorem ggX0_lowerSlot_X0_wrap : GoodIn wsX0_lowerSlot wsX0_wrap := goodIn_r _ [17] (by decide +kernel) (by decide +kernel)
set_option maxRecDepth 20000 in
theorem gX0_lowerSlot_X0_wrap : GoodIn wsX0_lowerSlot (va_wsS RX0 71 yX0_wrap wsX0_wrap) := goodIn_app (goodIn_of _ (by decide +kernel)) ggX0_lowerSlot_X0_wrap
theorem dX0_lowerSlot_0 : decode cX0_lowerSlot 0 = .ok (.iload_n 1, 1) := by decide +kernel
theorem dX0_lowerSlot_1 : decode cX0_lowerSlot 1 = .ok (.ifCond .lt 11, 3) := by decide +kernel
theorem dX0_lowerSlot_4 : decode cX0_lowerSlot 4 = .ok (.iload_n 1, 1) := by decide +kernel
theorem dX0_lowerSlot_5 : decode cX0_lowerSlot 5 = .ok (.aload_n 0, 1) := by decide +kernel
theorem dX0_lowerSlot_6 : decode cX0_lowerSlot 6 = .ok (.getfield 21, 3) := by decide +kernel
theorem dX0_lowerSlot_9 : decode cX0_lowerSlot 9 = .ok (.if_icmp .lt 7, 3) := by decide +kernel
theorem dX0_lowerSlot_12 : decode cX0_lowerSlot 12 = .ok (.sipush (-1002), 3) := by decide +kernel
theorem dX0_lowerSlot_15 : decode cX0_lowerSlot 15 = .ok (.ireturn, 1) := by decide +kernel
theorem dX0_lowerSlot_16 : decode cX0_lowerSlot 16 = .ok (.aload_n 0, 1) := by decide +kernel
theorem dX0_lowerSlot_17 : decode cX0_lowerSlot 17 = .ok (.iload_n 1, 1) := by decide +kernel
theorem dX0_lowerSlot_18 : decode cX0_lowerSlot 18 = .ok (.invokevirtual 75, 3) := by decide +kernel
theorem dX0_lowerSlot_21 : decode cX0_lowerSlot 21 = .ok (.aload_n 0, 1) := by decide +kernel
theorem dX0_lowerSlot_22 : decode cX0_lowerSlot 22 = .ok (.invokevirtual 78, 3) := by decide +kernel
theorem dX0_lowerSlot_25 : decode cX0_lowerSlot 25 = .ok (.iadd, 1) := by decide +kernel
theorem dX0_lowerSlot_26 : decode cX0_lowerSlot 26 = .ok (.aload_n 0, 1) := by decide +kernel
theorem dX0_lowerSlot_27 : decode cX0_lowerSlot 27 = .ok (.getfield 49, 3) := by decide +kernel
theorem dX0_lowerSlot_30 : decode cX0_lowerSlot 30 = .ok (.invokestatic 71, 3) := by decide +kernel
theorem dX0_lowerSlot_33 : decode cX0_lowerSlot 33 = .ok (.ireturn, 1) := by decide +kernel
set_option maxRecDepth 20000 in
theorem ggX0_openCoilsIn_X0_isOpen : GoodIn wsX0_openCoilsIn wsX0_isOpen := goodIn_r _ [7, 8, 27, 28, 29, 30, 31, 32, 33, 34, 35, 36, 37] (by decide +kernel) (by decide +kernel)
set_option maxRecDepth 20000 in
theorem gX0_openCoilsIn_X0_isOpen : GoodIn wsX0_openCoilsIn (wsV RX0 82 RX0 yX0_isOpen wsX0_isOpen) := goodIn_app (goodIn_of _ (by decide +kernel)) ggX0_openCoilsIn_X0_isOpen
set_option maxRecDepth 20000 in
theorem ggX0_openCoilsIn_X0_upperSlot : GoodIn wsX0_openCoilsIn wsX0_upperSlot := goodIn_r _ [12, 2, 13, 27, 28, 29, 30, 31, 32, 33, 34, 35, 36, 37] (by decide +kernel) (by decide +kernel)
set_option maxRecDepth 20000 in
theorem gX0_openCoilsIn_X0_upperSlot : GoodIn wsX0_openCoilsIn (wsV RX0 75 RX0 yX0_upperSlot wsX0_upperSlot) := goodIn_app (goodIn_of _ (by decide +kernel)) ggX0_openCoilsIn_X0_upperSlot
set_option maxRecDepth 20000 in
theorem ggX0_openCoilsIn_X0_lowerSlot : GoodIn wsX0_openCoilsIn wsX0_lowerSlot := goodIn_r _ [17, 2, 1, 9, 10, 11, 6, 12, 13, 18, 19, 20, 21, 22, 23, 24, 25, 26, 27, 28, 29, 30, 31, 32, 33, 34, 35, 36, 37] (by decide +kernel) (by decide +kernel)
set_option maxRecDepth 20000 in
theorem gX0_openCoilsIn_X0_lowerSlot : GoodIn wsX0_openCoilsIn (wsV RX0 85 RX0 yX0_lowerSlot wsX0_lowerSlot) := goodIn_app (goodIn_of _ (by decide +kernel)) ggX0_openCoilsIn_X0_lowerSlot
theorem dX0_openCoilsIn_0 : decode cX0_openCoilsIn 0 = .ok (.iload_n 1, 1) := by decide +kernel
theorem dX0_openCoilsIn_1 : decode cX0_openCoilsIn 1 = .ok (.ifCond .lt 11, 3) := by decide +kernel
theorem dX0_openCoilsIn_4 : decode cX0_openCoilsIn 4 = .ok (.iload_n 1, 1) := by decide +kernel
theorem dX0_openCoilsIn_5 : decode cX0_openCoilsIn 5 = .ok (.aload_n 0, 1) := by decide +kernel
theorem dX0_openCoilsIn_6 : decode cX0_openCoilsIn 6 = .ok (.getfield 49, 3) := by decide +kernel
theorem dX0_openCoilsIn_9 : decode cX0_openCoilsIn 9 = .ok (.if_icmp .lt 7, 3) := by decide +kernel
theorem dX0_openCoilsIn_12 : decode cX0_openCoilsIn 12 = .ok (.sipush (-1002), 3) := by decide +kernel
theorem dX0_openCoilsIn_15 : decode cX0_openCoilsIn 15 = .ok (.ireturn, 1) := by decide +kernel
theorem dX0_openCoilsIn_16 : decode cX0_openCoilsIn 16 = .ok (.iconst 0, 1) := by decide +kernel
theorem dX0_openCoilsIn_17 : decode cX0_openCoilsIn 17 = .ok (.istore_n 2, 1) := by decide +kernel
theorem dX0_openCoilsIn_18 : decode cX0_openCoilsIn 18 = .ok (.iconst 0, 1) := by decide +kernel
theorem dX0_openCoilsIn_19 : decode cX0_openCoilsIn 19 = .ok (.istore_n 3, 1) := by decide +kernel
theorem dX0_openCoilsIn_20 : decode cX0_openCoilsIn 20 = .ok (.iload_n 3, 1) := by decide +kernel
theorem dX0_openCoilsIn_21 : decode cX0_openCoilsIn 21 = .ok (.aload_n 0, 1) := by decide +kernel
theorem dX0_openCoilsIn_22 : decode cX0_openCoilsIn 22 = .ok (.getfield 21, 3) := by decide +kernel
theorem dX0_openCoilsIn_25 : decode cX0_openCoilsIn 25 = .ok (.if_icmp .ge 38, 3) := by decide +kernel
theorem dX0_openCoilsIn_28 : decode cX0_openCoilsIn 28 = .ok (.aload_n 0, 1) := by decide +kernel
theorem dX0_openCoilsIn_29 : decode cX0_openCoilsIn 29 = .ok (.iload_n 3, 1) := by decide +kernel
theorem dX0_openCoilsIn_30 : decode cX0_openCoilsIn 30 = .ok (.invokevirtual 82, 3) := by decide +kernel
theorem dX0_openCoilsIn_33 : decode cX0_openCoilsIn 33 = .ok (.ifCond .eq 24, 3) := by decide +kernel
theorem dX0_openCoilsIn_36 : decode cX0_openCoilsIn 36 = .ok (.aload_n 0, 1) := by decide +kernel
theorem dX0_openCoilsIn_37 : decode cX0_openCoilsIn 37 = .ok (.iload_n 3, 1) := by decide +kernel
theorem dX0_openCoilsIn_38 : decode cX0_openCoilsIn 38 = .ok (.invokevirtual 75, 3) := by decide +kernel
theorem dX0_openCoilsIn_41 : decode cX0_openCoilsIn 41 = .ok (.iload_n 1, 1) := by decide +kernel
theorem dX0_openCoilsIn_42 : decode cX0_openCoilsIn 42 = .ok (.if_icmp .eq 12, 3) := by decide +kernel
theorem dX0_openCoilsIn_45 : decode cX0_openCoilsIn 45 = .ok (.aload_n 0, 1) := by decide +kernel
theorem dX0_openCoilsIn_46 : decode cX0_openCoilsIn 46 = .ok (.iload_n 3, 1) := by decide +kernel
theorem dX0_openCoilsIn_47 : decode cX0_openCoilsIn 47 = .ok (.invokevirtual 85, 3) := by decide +kernel
theorem dX0_openCoilsIn_50 : decode cX0_openCoilsIn 50 = .ok (.iload_n 1, 1) := by decide +kernel
theorem dX0_openCoilsIn_51 : decode cX0_openCoilsIn 51 = .ok (.if_icmp .ne 6, 3) := by decide +kernel
theorem dX0_openCoilsIn_54 : decode cX0_openCoilsIn 54 = .ok (.iinc 2 1, 3) := by decide +kernel
theorem dX0_openCoilsIn_57 : decode cX0_openCoilsIn 57 = .ok (.iinc 3 1, 3) := by decide +kernel
theorem dX0_openCoilsIn_60 : decode cX0_openCoilsIn 60 = .ok (.goto (-40), 3) := by decide +kernel
theorem dX0_openCoilsIn_63 : decode cX0_openCoilsIn 63 = .ok (.iload_n 2, 1) := by decide +kernel
theorem dX0_openCoilsIn_64 : decode cX0_openCoilsIn 64 = .ok (.ireturn, 1) := by decide +kernel
theorem dX0_isOpen_0 : decode cX0_isOpen 0 = .ok (.iload_n 1, 1) := by decide +kernel
theorem dX0_isOpen_1 : decode cX0_isOpen 1 = .ok (.ifCond .lt 25, 3) := by decide +kernel
theorem dX0_isOpen_4 : decode cX0_isOpen 4 = .ok (.iload_n 1, 1) := by decide +kernel
theorem dX0_isOpen_5 : decode cX0_isOpen 5 = .ok (.aload_n 0, 1) := by decide +kernel
theorem dX0_isOpen_6 : decode cX0_isOpen 6 = .ok (.getfield 9, 3) := by decide +kernel
theorem dX0_isOpen_9 : decode cX0_isOpen 9 = .ok (.arraylength, 1) := by decide +kernel
theorem dX0_isOpen_10 : decode cX0_isOpen 10 = .ok (.if_icmp .ge 16, 3) := by decide +kernel
theorem dX0_isOpen_13 : decode cX0_isOpen 13 = .ok (.aload_n 0, 1) := by decide +kernel
theorem dX0_isOpen_14 : decode cX0_isOpen 14 = .ok (.getfield 9, 3) := by decide +kernel
theorem dX0_isOpen_17 : decode cX0_isOpen 17 = .ok (.iload_n 1, 1) := by decide +kernel
theorem dX0_isOpen_18 : decode cX0_isOpen 18 = .ok (.baload, 1) := by decide +kernel
theorem dX0_isOpen_19 : decode cX0_isOpen 19 = .ok (.ifCond .eq 7, 3) := by decide +kernel
theorem dX0_isOpen_22 : decode cX0_isOpen 22 = .ok (.iconst 1, 1) := by decide +kernel
theorem dX0_isOpen_23 : decode cX0_isOpen 23 = .ok (.goto 4, 3) := by decide +kernel
theorem dX0_isOpen_26 : decode cX0_isOpen 26 = .ok (.iconst 0, 1) := by decide +kernel
theorem dX0_isOpen_27 : decode cX0_isOpen 27 = .ok (.ireturn, 1) := by decide +kernel
set_option maxRecDepth 20000 in
theorem ggX0_openMark_X0_isOpen : GoodIn wsX0_openMark wsX0_isOpen := goodIn_r _ [5, 6, 7, 8, 9, 10, 11, 12, 13, 14, 15, 16, 17] (by decide +kernel) (by decide +kernel)
set_option maxRecDepth 20000 in
theorem gX0_openMark_X0_isOpen : GoodIn wsX0_openMark (wsV RX0 82 RX0 yX0_isOpen wsX0_isOpen) := goodIn_app (goodIn_of _ (by decide +kernel)) ggX0_openMark_X0_isOpen
theorem dX0_openMark_0 : decode cX0_openMark 0 = .ok (.aload_n 0, 1) := by decide +kernel
theorem dX0_openMark_1 : decode cX0_openMark 1 = .ok (.iload_n 1, 1) := by decide +kernel
theorem dX0_openMark_2 : decode cX0_openMark 2 = .ok (.invokevirtual 82, 3) := by decide +kernel
theorem dX0_openMark_5 : decode cX0_openMark 5 = .ok (.ifCond .eq 7, 3) := by decide +kernel
theorem dX0_openMark_8 : decode cX0_openMark 8 = .ok (.iconst 1, 1) := by decide +kernel
theorem dX0_openMark_9 : decode cX0_openMark 9 = .ok (.goto 4, 3) := by decide +kernel
theorem dX0_openMark_12 : decode cX0_openMark 12 = .ok (.iconst 0, 1) := by decide +kernel
theorem dX0_openMark_13 : decode cX0_openMark 13 = .ok (.ireturn, 1) := by decide +kernel
set_option maxRecDepth 20000 in
theorem ggX0_circuitCount_X0_circuitLength : GoodIn wsX0_circuitCount wsX0_circuitLength := goodIn_r _ [6, 1, 7, 8, 9, 5, 10, 11, 12, 13, 14, 15, 16, 17, 18, 19, 20, 21] (by decide +kernel) (by decide +kernel)
set_option maxRecDepth 20000 in
theorem gX0_circuitCount_X0_circuitLength : GoodIn wsX0_circuitCount (wsV RX0 88 RX0 yX0_circuitLength wsX0_circuitLength) := goodIn_app (goodIn_of _ (by decide +kernel)) ggX0_circuitCount_X0_circuitLength
theorem dX0_circuitCount_0 : decode cX0_circuitCount 0 = .ok (.aload_n 0, 1) := by decide +kernel
theorem dX0_circuitCount_1 : decode cX0_circuitCount 1 = .ok (.invokevirtual 88, 3) := by decide +kernel
theorem dX0_circuitCount_4 : decode cX0_circuitCount 4 = .ok (.istore_n 1, 1) := by decide +kernel
theorem dX0_circuitCount_5 : decode cX0_circuitCount 5 = .ok (.iload_n 1, 1) := by decide +kernel
theorem dX0_circuitCount_6 : decode cX0_circuitCount 6 = .ok (.ifCond .le 12, 3) := by decide +kernel
theorem dX0_circuitCount_9 : decode cX0_circuitCount 9 = .ok (.aload_n 0, 1) := by decide +kernel
theorem dX0_circuitCount_10 : decode cX0_circuitCount 10 = .ok (.getfield 21, 3) := by decide +kernel
theorem dX0_circuitCount_13 : decode cX0_circuitCount 13 = .ok (.iload_n 1, 1) := by decide +kernel
theorem dX0_circuitCount_14 : decode cX0_circuitCount 14 = .ok (.idiv, 1) := by decide +kernel
theorem dX0_circuitCount_15 : decode cX0_circuitCount 15 = .ok (.goto 4, 3) := by decide +kernel
theorem dX0_circuitCount_18 : decode cX0_circuitCount 18 = .ok (.iconst 0, 1) := by decide +kernel
theorem dX0_circuitCount_19 : decode cX0_circuitCount 19 = .ok (.ireturn, 1) := by decide +kernel
set_option maxRecDepth 20000 in
theorem ggX0_circuitOf_X0_circuitCount : GoodIn wsX0_circuitOf wsX0_circuitCount := goodIn_r _ [6, 1, 7, 8, 9, 5, 10, 11, 12, 13, 14, 15, 16, 17, 18, 19, 20, 21, 22, 23, 24, 25] (by decide +kernel) (by decide +kernel)
set_option maxRecDepth 20000 in
theorem gX0_circuitOf_X0_circuitCount : GoodIn wsX0_circuitOf (wsV RX0 91 RX0 yX0_circuitCount wsX0_circuitCount) := goodIn_app (goodIn_of _ (by decide +kernel)) ggX0_circuitOf_X0_circuitCount
set_option maxRecDepth 20000 in
theorem ggX0_circuitOf_X0_wrap : GoodIn wsX0_circuitOf wsX0_wrap := goodIn_r _ [14] (by decide +kernel) (by decide +kernel)
set_option maxRecDepth 20000 in
theorem gX0_circuitOf_X0_wrap : GoodIn wsX0_circuitOf (va_wsS RX0 71 yX0_wrap wsX0_wrap) := goodIn_app (goodIn_of _ (by decide +kernel)) ggX0_circuitOf_X0_wrap
theorem dX0_circuitOf_0 : decode cX0_circuitOf 0 = .ok (.iload_n 1, 1) := by decide +kernel
theorem dX0_circuitOf_1 : decode cX0_circuitOf 1 = .ok (.ifCond .lt 11, 3) := by decide +kernel
theorem dX0_circuitOf_4 : decode cX0_circuitOf 4 = .ok (.iload_n 1, 1) := by decide +kernel
theorem dX0_circuitOf_5 : decode cX0_circuitOf 5 = .ok (.aload_n 0, 1) := by decide +kernel
theorem dX0_circuitOf_6 : decode cX0_circuitOf 6 = .ok (.getfield 21, 3) := by decide +kernel
theorem dX0_circuitOf_9 : decode cX0_circuitOf 9 = .ok (.if_icmp .lt 7, 3) := by decide +kernel
theorem dX0_circuitOf_12 : decode cX0_circuitOf 12 = .ok (.sipush (-1002), 3) := by decide +kernel
theorem dX0_circuitOf_15 : decode cX0_circuitOf 15 = .ok (.ireturn, 1) := by decide +kernel
theorem dX0_circuitOf_16 : decode cX0_circuitOf 16 = .ok (.iload_n 1, 1) := by decide +kernel
theorem dX0_circuitOf_17 : decode cX0_circuitOf 17 = .ok (.aload_n 0, 1) := by decide +kernel
theorem dX0_circuitOf_18 : decode cX0_circuitOf 18 = .ok (.invokevirtual 91, 3) := by decide +kernel
theorem dX0_circuitOf_21 : decode cX0_circuitOf 21 = .ok (.invokestatic 71, 3) := by decide +kernel
theorem dX0_circuitOf_24 : decode cX0_circuitOf 24 = .ok (.ireturn, 1) := by decide +kernel
set_option maxRecDepth 20000 in
theorem ggX0_coilAt_X0_circuitCount : GoodIn wsX0_coilAt wsX0_circuitCount := goodIn_r _ [7, 2, 8, 9, 10, 6, 11, 1, 12, 13, 14, 15, 16, 17, 18, 19, 20, 21, 22, 23, 24, 25] (by decide +kernel) (by decide +kernel)
set_option maxRecDepth 20000 in
theorem gX0_coilAt_X0_circuitCount : GoodIn wsX0_coilAt (wsV RX0 91 RX0 yX0_circuitCount wsX0_circuitCount) := goodIn_app (goodIn_of _ (by decide +kernel)) ggX0_coilAt_X0_circuitCount
set_option maxRecDepth 20000 in
theorem ggX0_coilAt_X0_circuitLength : GoodIn wsX0_coilAt wsX0_circuitLength := goodIn_r _ [11, 2, 1, 12, 13, 6, 14, 15, 16, 17, 18, 19, 20, 21, 22, 23, 24, 25] (by decide +kernel) (by decide +kernel)
set_option maxRecDepth 20000 in
theorem gX0_coilAt_X0_circuitLength : GoodIn wsX0_coilAt (wsV RX0 88 RX0 yX0_circuitLength wsX0_circuitLength) := goodIn_app (goodIn_of _ (by decide +kernel)) ggX0_coilAt_X0_circuitLength
set_option maxRecDepth 20000 in
theorem ggX0_coilAt_X0_wrap : GoodIn wsX0_coilAt wsX0_wrap := goodIn_r _ [14] (by decide +kernel) (by decide +kernel)
set_option maxRecDepth 20000 in
theorem gX0_coilAt_X0_wrap : GoodIn wsX0_coilAt (va_wsS RX0 71 yX0_wrap wsX0_wrap) := goodIn_app (goodIn_of _ (by decide +kernel)) ggX0_coilAt_X0_wrap
theorem dX0_coilAt_0 : decode cX0_coilAt 0 = .ok (.iload_n 1, 1) := by decide +kernel
theorem dX0_coilAt_1 : decode cX0_coilAt 1 = .ok (.ifCond .lt 11, 3) := by decide +kernel
theorem dX0_coilAt_4 : decode cX0_coilAt 4 = .ok (.iload_n 1, 1) := by decide +kernel
theorem dX0_coilAt_5 : decode cX0_coilAt 5 = .ok (.aload_n 0, 1) := by decide +kernel
theorem dX0_coilAt_6 : decode cX0_coilAt 6 = .ok (.invokevirtual 91, 3) := by decide +kernel
theorem dX0_coilAt_9 : decode cX0_coilAt 9 = .ok (.if_icmp .lt 7, 3) := by decide +kernel
theorem dX0_coilAt_12 : decode cX0_coilAt 12 = .ok (.sipush (-1002), 3) := by decide +kernel
theorem dX0_coilAt_15 : decode cX0_coilAt 15 = .ok (.ireturn, 1) := by decide +kernel
theorem dX0_coilAt_16 : decode cX0_coilAt 16 = .ok (.iload_n 2, 1) := by decide +kernel
theorem dX0_coilAt_17 : decode cX0_coilAt 17 = .ok (.ifCond .lt 11, 3) := by decide +kernel
theorem dX0_coilAt_20 : decode cX0_coilAt 20 = .ok (.iload_n 2, 1) := by decide +kernel
theorem dX0_coilAt_21 : decode cX0_coilAt 21 = .ok (.aload_n 0, 1) := by decide +kernel
theorem dX0_coilAt_22 : decode cX0_coilAt 22 = .ok (.invokevirtual 88, 3) := by decide +kernel
theorem dX0_coilAt_25 : decode cX0_coilAt 25 = .ok (.if_icmp .lt 7, 3) := by decide +kernel
theorem dX0_coilAt_28 : decode cX0_coilAt 28 = .ok (.sipush (-1004), 3) := by decide +kernel
theorem dX0_coilAt_31 : decode cX0_coilAt 31 = .ok (.ireturn, 1) := by decide +kernel
theorem dX0_coilAt_32 : decode cX0_coilAt 32 = .ok (.iload_n 1, 1) := by decide +kernel
theorem dX0_coilAt_33 : decode cX0_coilAt 33 = .ok (.iload_n 2, 1) := by decide +kernel
theorem dX0_coilAt_34 : decode cX0_coilAt 34 = .ok (.aload_n 0, 1) := by decide +kernel
theorem dX0_coilAt_35 : decode cX0_coilAt 35 = .ok (.getfield 37, 3) := by decide +kernel
theorem dX0_coilAt_38 : decode cX0_coilAt 38 = .ok (.imul, 1) := by decide +kernel
theorem dX0_coilAt_39 : decode cX0_coilAt 39 = .ok (.iadd, 1) := by decide +kernel
theorem dX0_coilAt_40 : decode cX0_coilAt 40 = .ok (.aload_n 0, 1) := by decide +kernel
theorem dX0_coilAt_41 : decode cX0_coilAt 41 = .ok (.getfield 21, 3) := by decide +kernel
theorem dX0_coilAt_44 : decode cX0_coilAt 44 = .ok (.invokestatic 71, 3) := by decide +kernel
theorem dX0_coilAt_47 : decode cX0_coilAt 47 = .ok (.ireturn, 1) := by decide +kernel
set_option maxRecDepth 20000 in
theorem ggX0_closedCircuits_X0_circuitCount : GoodIn wsX0_closedCircuits wsX0_circuitCount := goodIn_r _ [5, 6, 7, 8, 9, 4, 10, 11, 12, 13, 14, 24, 25, 26, 27, 28, 29, 30, 31, 32, 33, 34] (by decide +kernel) (by decide +kernel)
set_option maxRecDepth 20000 in
theorem gX0_closedCircuits_X0_circuitCount : GoodIn wsX0_closedCircuits (wsV RX0 91 RX0 yX0_circuitCount wsX0_circuitCount) := goodIn_app (goodIn_of _ (by decide +kernel)) ggX0_closedCircuits_X0_circuitCount
set_option maxRecDepth 20000 in
theorem ggX0_closedCircuits_X0_isClosed : GoodIn wsX0_closedCircuits wsX0_isClosed := goodIn_r _ [18, 11, 6, 7, 8, 9, 4, 10, 12, 13, 14, 19, 20, 21, 22, 23, 24, 25, 26, 27, 28, 29, 30, 31, 32, 33, 34] (by decide +kernel) (by decide +kernel)
set_option maxRecDepth 20000 in
theorem gX0_closedCircuits_X0_isClosed : GoodIn wsX0_closedCircuits (wsV RX0 94 RX0 yX0_isClosed wsX0_isClosed) := goodIn_app (goodIn_of _ (by decide +kernel)) ggX0_closedCircuits_X0_isClosed
theorem dX0_closedCircuits_0 : decode cX0_closedCircuits 0 = .ok (.aload_n 0, 1) := by decide +kernel
theorem dX0_closedCircuits_1 : decode cX0_closedCircuits 1 = .ok (.invokevirtual 91, 3) := by decide +kernel
theorem dX0_closedCircuits_4 : decode cX0_closedCircuits 4 = .ok (.istore_n 1, 1) := by decide +kernel
theorem dX0_closedCircuits_5 : decode cX0_closedCircuits 5 = .ok (.iconst 0, 1) := by decide +kernel
theorem dX0_closedCircuits_6 : decode cX0_closedCircuits 6 = .ok (.istore_n 2, 1) := by decide +kernel
theorem dX0_closedCircuits_7 : decode cX0_closedCircuits 7 = .ok (.iconst 0, 1) := by decide +kernel
theorem dX0_closedCircuits_8 : decode cX0_closedCircuits 8 = .ok (.istore_n 3, 1) := by decide +kernel
theorem dX0_closedCircuits_9 : decode cX0_closedCircuits 9 = .ok (.iload_n 3, 1) := by decide +kernel
theorem dX0_closedCircuits_10 : decode cX0_closedCircuits 10 = .ok (.iload_n 1, 1) := by decide +kernel
theorem dX0_closedCircuits_11 : decode cX0_closedCircuits 11 = .ok (.if_icmp .ge 20, 3) := by decide +kernel
theorem dX0_closedCircuits_14 : decode cX0_closedCircuits 14 = .ok (.aload_n 0, 1) := by decide +kernel
theorem dX0_closedCircuits_15 : decode cX0_closedCircuits 15 = .ok (.iload_n 3, 1) := by decide +kernel
theorem dX0_closedCircuits_16 : decode cX0_closedCircuits 16 = .ok (.invokevirtual 94, 3) := by decide +kernel
theorem dX0_closedCircuits_19 : decode cX0_closedCircuits 19 = .ok (.ifCond .eq 6, 3) := by decide +kernel
theorem dX0_closedCircuits_22 : decode cX0_closedCircuits 22 = .ok (.iinc 2 1, 3) := by decide +kernel
theorem dX0_closedCircuits_25 : decode cX0_closedCircuits 25 = .ok (.iinc 3 1, 3) := by decide +kernel
theorem dX0_closedCircuits_28 : decode cX0_closedCircuits 28 = .ok (.goto (-19), 3) := by decide +kernel
theorem dX0_closedCircuits_31 : decode cX0_closedCircuits 31 = .ok (.iload_n 2, 1) := by decide +kernel
theorem dX0_closedCircuits_32 : decode cX0_closedCircuits 32 = .ok (.ireturn, 1) := by decide +kernel
set_option maxRecDepth 20000 in
theorem ggX0_circuitLength_X0_wrap : GoodIn wsX0_circuitLength wsX0_wrap := goodIn_r _ [6] (by decide +kernel) (by decide +kernel)
set_option maxRecDepth 20000 in
theorem gX0_circuitLength_X0_wrap : GoodIn wsX0_circuitLength (va_wsS RX0 71 yX0_wrap wsX0_wrap) := goodIn_app (goodIn_of _ (by decide +kernel)) ggX0_circuitLength_X0_wrap
theorem dX0_circuitLength_0 : decode cX0_circuitLength 0 = .ok (.iconst 1, 1) := by decide +kernel
theorem dX0_circuitLength_1 : decode cX0_circuitLength 1 = .ok (.istore_n 1, 1) := by decide +kernel
theorem dX0_circuitLength_2 : decode cX0_circuitLength 2 = .ok (.iload_n 1, 1) := by decide +kernel
theorem dX0_circuitLength_3 : decode cX0_circuitLength 3 = .ok (.aload_n 0, 1) := by decide +kernel
theorem dX0_circuitLength_4 : decode cX0_circuitLength 4 = .ok (.getfield 21, 3) := by decide +kernel
theorem dX0_circuitLength_7 : decode cX0_circuitLength 7 = .ok (.if_icmp .ge 25, 3) := by decide +kernel
theorem dX0_circuitLength_10 : decode cX0_circuitLength 10 = .ok (.iload_n 1, 1) := by decide +kernel
theorem dX0_circuitLength_11 : decode cX0_circuitLength 11 = .ok (.aload_n 0, 1) := by decide +kernel
theorem dX0_circuitLength_12 : decode cX0_circuitLength 12 = .ok (.getfield 37, 3) := by decide +kernel
theorem dX0_circuitLength_15 : decode cX0_circuitLength 15 = .ok (.imul, 1) := by decide +kernel
theorem dX0_circuitLength_16 : decode cX0_circuitLength 16 = .ok (.aload_n 0, 1) := by decide +kernel
theorem dX0_circuitLength_17 : decode cX0_circuitLength 17 = .ok (.getfield 21, 3) := by decide +kernel
theorem dX0_circuitLength_20 : decode cX0_circuitLength 20 = .ok (.invokestatic 71, 3) := by decide +kernel
theorem dX0_circuitLength_23 : decode cX0_circuitLength 23 = .ok (.ifCond .eq 9, 3) := by decide +kernel
theorem dX0_circuitLength_26 : decode cX0_circuitLength 26 = .ok (.iinc 1 1, 3) := by decide +kernel
theorem dX0_circuitLength_29 : decode cX0_circuitLength 29 = .ok (.goto (-27), 3) := by decide +kernel
theorem dX0_circuitLength_32 : decode cX0_circuitLength 32 = .ok (.iload_n 1, 1) := by decide +kernel
theorem dX0_circuitLength_33 : decode cX0_circuitLength 33 = .ok (.ireturn, 1) := by decide +kernel
set_option maxRecDepth 20000 in
theorem ggX0_isClosed_X0_circuitLength : GoodIn wsX0_isClosed wsX0_circuitLength := goodIn_r _ [7, 2, 1, 8, 9, 6, 10, 16, 17, 18, 19, 20, 21, 22, 23, 24, 25, 26] (by decide +kernel) (by decide +kernel)
set_option maxRecDepth 20000 in
theorem gX0_isClosed_X0_circuitLength : GoodIn wsX0_isClosed (wsV RX0 88 RX0 yX0_circuitLength wsX0_circuitLength) := goodIn_app (goodIn_of _ (by decide +kernel)) ggX0_isClosed_X0_circuitLength
set_option maxRecDepth 20000 in
theorem ggX0_isClosed_X0_wrap : GoodIn wsX0_isClosed wsX0_wrap := goodIn_r _ [10] (by decide +kernel) (by decide +kernel)
set_option maxRecDepth 20000 in
theorem gX0_isClosed_X0_wrap : GoodIn wsX0_isClosed (va_wsS RX0 71 yX0_wrap wsX0_wrap) := goodIn_app (goodIn_of _ (by decide +kernel)) ggX0_isClosed_X0_wrap
set_option maxRecDepth 20000 in
theorem ggX0_isClosed_X0_isOpen : GoodIn wsX0_isClosed wsX0_isOpen := goodIn_r _ [14, 15, 16, 17, 18, 19, 20, 21, 22, 23, 24, 25, 26] (by decide +kernel) (by decide +kernel)
set_option maxRecDepth 20000 in
theorem gX0_isClosed_X0_isOpen : GoodIn wsX0_isClosed (wsV RX0 82 RX0 yX0_isOpen wsX0_isOpen) := goodIn_app (goodIn_of _ (by decide +kernel)) ggX0_isClosed_X0_isOpen
theorem dX0_isClosed_0 : decode cX0_isClosed 0 = .ok (.aload_n 0, 1) := by decide +kernel
theorem dX0_isClosed_1 : decode cX0_isClosed 1 = .ok (.invokevirtual 88, 3) := by decide +kernel
theorem dX0_isClosed_4 : decode cX0_isClosed 4 = .ok (.istore_n 2, 1) := by decide +kernel
theorem dX0_isClosed_5 : decode cX0_isClosed 5 = .ok (.iconst 0, 1) := by decide +kernel
theorem dX0_isClosed_6 : decode cX0_isClosed 6 = .ok (.istore_n 3, 1) := by decide +kernel
theorem dX0_isClosed_7 : decode cX0_isClosed 7 = .ok (.iload_n 3, 1) := by decide +kernel
theorem dX0_isClosed_8 : decode cX0_isClosed 8 = .ok (.iload_n 2, 1) := by decide +kernel
theorem dX0_isClosed_9 : decode cX0_isClosed 9 = .ok (.if_icmp .ge 33, 3) := by decide +kernel
theorem dX0_isClosed_12 : decode cX0_isClosed 12 = .ok (.aload_n 0, 1) := by decide +kernel
theorem dX0_isClosed_13 : decode cX0_isClosed 13 = .ok (.iload_n 1, 1) := by decide +kernel
theorem dX0_isClosed_14 : decode cX0_isClosed 14 = .ok (.iload_n 3, 1) := by decide +kernel
theorem dX0_isClosed_15 : decode cX0_isClosed 15 = .ok (.aload_n 0, 1) := by decide +kernel
theorem dX0_isClosed_16 : decode cX0_isClosed 16 = .ok (.getfield 37, 3) := by decide +kernel
theorem dX0_isClosed_19 : decode cX0_isClosed 19 = .ok (.imul, 1) := by decide +kernel
theorem dX0_isClosed_20 : decode cX0_isClosed 20 = .ok (.iadd, 1) := by decide +kernel
theorem dX0_isClosed_21 : decode cX0_isClosed 21 = .ok (.aload_n 0, 1) := by decide +kernel
theorem dX0_isClosed_22 : decode cX0_isClosed 22 = .ok (.getfield 21, 3) := by decide +kernel
theorem dX0_isClosed_25 : decode cX0_isClosed 25 = .ok (.invokestatic 71, 3) := by decide +kernel
theorem dX0_isClosed_28 : decode cX0_isClosed 28 = .ok (.invokevirtual 82, 3) := by decide +kernel
theorem dX0_isClosed_31 : decode cX0_isClosed 31 = .ok (.ifCond .eq 5, 3) := by decide +kernel
theorem dX0_isClosed_34 : decode cX0_isClosed 34 = .ok (.iconst 0, 1) := by decide +kernel
theorem dX0_isClosed_35 : decode cX0_isClosed 35 = .ok (.ireturn, 1) := by decide +kernel
theorem dX0_isClosed_36 : decode cX0_isClosed 36 = .ok (.iinc 3 1, 3) := by decide +kernel
theorem dX0_isClosed_39 : decode cX0_isClosed 39 = .ok (.goto (-32), 3) := by decide +kernel
theorem dX0_isClosed_42 : decode cX0_isClosed 42 = .ok (.iconst 1, 1) := by decide +kernel
theorem dX0_isClosed_43 : decode cX0_isClosed 43 = .ok (.ireturn, 1) := by decide +kernel
theorem dX0_brushBar_0 : decode cX0_brushBar 0 = .ok (.iload_n 1, 1) := by decide +kernel
theorem dX0_brushBar_1 : decode cX0_brushBar 1 = .ok (.ifCond .lt 18, 3) := by decide +kernel
theorem dX0_brushBar_4 : decode cX0_brushBar 4 = .ok (.iload_n 1, 1) := by decide +kernel
theorem dX0_brushBar_5 : decode cX0_brushBar 5 = .ok (.aload_n 0, 1) := by decide +kernel
theorem dX0_brushBar_6 : decode cX0_brushBar 6 = .ok (.getfield 46, 3) := by decide +kernel
theorem dX0_brushBar_9 : decode cX0_brushBar 9 = .ok (.if_icmp .ge 10, 3) := by decide +kernel
theorem dX0_brushBar_12 : decode cX0_brushBar 12 = .ok (.aload_n 0, 1) := by decide +kernel
theorem dX0_brushBar_13 : decode cX0_brushBar 13 = .ok (.getfield 46, 3) := by decide +kernel
theorem dX0_brushBar_16 : decode cX0_brushBar 16 = .ok (.ifCond .gt 7, 3) := by decide +kernel
theorem dX0_brushBar_19 : decode cX0_brushBar 19 = .ok (.sipush (-1002), 3) := by decide +kernel
theorem dX0_brushBar_22 : decode cX0_brushBar 22 = .ok (.ireturn, 1) := by decide +kernel
theorem dX0_brushBar_23 : decode cX0_brushBar 23 = .ok (.iload_n 1, 1) := by decide +kernel
theorem dX0_brushBar_24 : decode cX0_brushBar 24 = .ok (.aload_n 0, 1) := by decide +kernel
theorem dX0_brushBar_25 : decode cX0_brushBar 25 = .ok (.getfield 21, 3) := by decide +kernel
theorem dX0_brushBar_28 : decode cX0_brushBar 28 = .ok (.imul, 1) := by decide +kernel
theorem dX0_brushBar_29 : decode cX0_brushBar 29 = .ok (.aload_n 0, 1) := by decide +kernel
theorem dX0_brushBar_30 : decode cX0_brushBar 30 = .ok (.getfield 46, 3) := by decide +kernel
theorem dX0_brushBar_33 : decode cX0_brushBar 33 = .ok (.idiv, 1) := by decide +kernel
theorem dX0_brushBar_34 : decode cX0_brushBar 34 = .ok (.ireturn, 1) := by decide +kernel
set_option maxRecDepth 20000 in
theorem ggX0_coilVoltage_X0_upperSlot : GoodIn wsX0_coilVoltage wsX0_upperSlot := goodIn_r _ [6, 1, 7, 26, 27, 28, 29, 30, 31, 32, 33, 34, 35, 36] (by decide +kernel) (by decide +kernel)
set_option maxRecDepth 20000 in
theorem gX0_coilVoltage_X0_upperSlot : GoodIn wsX0_coilVoltage (wsV RX0 75 RX0 yX0_upperSlot wsX0_upperSlot) := goodIn_app (goodIn_of _ (by decide +kernel)) ggX0_coilVoltage_X0_upperSlot
set_option maxRecDepth 20000 in
theorem ggX0_coilVoltage_X0_sideVoltage : GoodIn wsX0_coilVoltage wsX0_sideVoltage := goodIn_r _ [11, 12, 13, 14, 15, 5, 16, 26, 27, 28, 29, 30, 31, 32, 33, 34, 35, 36] (by decide +kernel) (by decide +kernel)
set_option maxRecDepth 20000 in
theorem gX0_coilVoltage_X0_sideVoltage : GoodIn wsX0_coilVoltage (wsV RX0 103 RX0 yX0_sideVoltage wsX0_sideVoltage) := goodIn_app (goodIn_of _ (by decide +kernel)) ggX0_coilVoltage_X0_sideVoltage
set_option maxRecDepth 20000 in
theorem ggX0_coilVoltage_X0_lowerSlot : GoodIn wsX0_coilVoltage wsX0_lowerSlot := goodIn_r _ [20, 1, 12, 2, 3, 4, 5, 6, 7, 21, 22, 23, 24, 13, 25, 14, 15, 16, 26, 27, 28, 29, 30, 31, 32, 33, 34, 35, 36] (by decide +kernel) (by decide +kernel)
set_option maxRecDepth 20000 in
theorem gX0_coilVoltage_X0_lowerSlot : GoodIn wsX0_coilVoltage (wsV RX0 85 RX0 yX0_lowerSlot wsX0_lowerSlot) := goodIn_app (goodIn_of _ (by decide +kernel)) ggX0_coilVoltage_X0_lowerSlot
theorem dX0_coilVoltage_0 : decode cX0_coilVoltage 0 = .ok (.iload_n 1, 1) := by decide +kernel
theorem dX0_coilVoltage_1 : decode cX0_coilVoltage 1 = .ok (.ifCond .lt 11, 3) := by decide +kernel
theorem dX0_coilVoltage_4 : decode cX0_coilVoltage 4 = .ok (.iload_n 1, 1) := by decide +kernel
theorem dX0_coilVoltage_5 : decode cX0_coilVoltage 5 = .ok (.aload_n 0, 1) := by decide +kernel
theorem dX0_coilVoltage_6 : decode cX0_coilVoltage 6 = .ok (.getfield 21, 3) := by decide +kernel
theorem dX0_coilVoltage_9 : decode cX0_coilVoltage 9 = .ok (.if_icmp .lt 7, 3) := by decide +kernel
theorem dX0_coilVoltage_12 : decode cX0_coilVoltage 12 = .ok (.sipush (-1002), 3) := by decide +kernel
theorem dX0_coilVoltage_15 : decode cX0_coilVoltage 15 = .ok (.ireturn, 1) := by decide +kernel
theorem dX0_coilVoltage_16 : decode cX0_coilVoltage 16 = .ok (.iload_n 2, 1) := by decide +kernel
theorem dX0_coilVoltage_17 : decode cX0_coilVoltage 17 = .ok (.ifCond .lt 9, 3) := by decide +kernel
theorem dX0_coilVoltage_20 : decode cX0_coilVoltage 20 = .ok (.iload_n 2, 1) := by decide +kernel
