theorem z_sub {ws big : List Cond} (ps : List Nat) (h : ws = ps.filterMap (fun i => big[i]?)) : ∀ w ∈ ws, w ∈ big := by
  intro w hw
  rw [h] at hw
  obtain ⟨i, -, hi⟩ := List.mem_filterMap.mp hw
  exact List.mem_of_getElem? hi
theorem zd_0 : zdec zm_0 = true := by decide +kernel
theorem zl_0 : ∀ w ∈ zlinks zm_0, w ∈ lw_tbl := z_sub [88, 91, 369, 93, 95, 370, 155, 370, 147, 157, 371, 196, 371, 370, 147, 198, 372, 236, 373, 238, 371, 372, 240, 374, 279, 281, 375, 301, 303, 376, 322, 377, 322, 378, 379, 91, 324, 380, 322, 325, 381, 382, 369, 91, 324, 373, 236, 327, 377, 322, 325, 378, 322, 325] (by decide +kernel)
theorem zd_1 : zdec zm_1 = true := by decide +kernel
theorem zl_1 : ∀ w ∈ zlinks zm_1, w ∈ lw_tbl := z_sub [416, 416, 369, 419] (by decide +kernel)
theorem zd_2 : zdec zm_2 = true := by decide +kernel
theorem zl_2 : ∀ w ∈ zlinks zm_2, w ∈ lw_tbl := z_sub [416, 369, 171, 416, 369, 433] (by decide +kernel)
theorem zd_3 : zdec zm_3 = true := by decide +kernel
theorem zl_3 : ∀ w ∈ zlinks zm_3, w ∈ lw_tbl := z_sub [416, 416, 441, 369, 445] (by decide +kernel)
theorem zd_4 : zdec zm_4 = true := by decide +kernel
theorem zl_4 : ∀ w ∈ zlinks zm_4, w ∈ lw_tbl := z_sub [416, 441, 369, 456] (by decide +kernel)
theorem zd_5 : zdec zm_5 = true := by decide +kernel
theorem zl_5 : ∀ w ∈ zlinks zm_5, w ∈ lw_tbl := z_sub [416, 369, 171] (by decide +kernel)
theorem zd_6 : zdec zm_6 = true := by decide +kernel
theorem zl_6 : ∀ w ∈ zlinks zm_6, w ∈ lw_tbl := z_sub [370, 472, 370, 149, 370, 481] (by decide +kernel)
theorem zd_7 : zdec zm_7 = true := by decide +kernel
theorem zl_7 : ∀ w ∈ zlinks zm_7, w ∈ lw_tbl := z_sub [370, 149, 416, 370, 147, 126] (by decide +kernel)
theorem zd_8 : zdec zm_8 = true := by decide +kernel
theorem zl_8 : ∀ w ∈ zlinks zm_8, w ∈ lw_tbl := z_sub [416, 370, 503, 370, 147, 126, 369, 171, 416, 416, 371, 369, 507] (by decide +kernel)
theorem zd_9 : zdec zm_9 = true := by decide +kernel
theorem zl_9 : ∀ w ∈ zlinks zm_9, w ∈ lw_tbl := z_sub [416, 375, 369, 553, 369, 171] (by decide +kernel)
theorem zd_10 : zdec zm_10 = true := by decide +kernel
theorem zl_10 : ∀ w ∈ zlinks zm_10, w ∈ lw_tbl := z_sub [416, 416, 376, 369, 369, 595] (by decide +kernel)
theorem zd_11 : zdec zm_11 = true := by decide +kernel
theorem zl_11 : ∀ w ∈ zlinks zm_11, w ∈ lw_tbl := z_sub [370, 503, 372, 226, 372, 622] (by decide +kernel)
theorem zd_12 : zdec zm_12 = true := by decide +kernel
theorem zl_12 : ∀ w ∈ zlinks zm_12, w ∈ lw_tbl := z_sub [416, 380, 369, 630, 372, 380, 631, 369, 380, 630] (by decide +kernel)
theorem zd_13 : zdec zm_13 = true := by decide +kernel
theorem zl_13 : ∀ w ∈ zlinks zm_13, w ∈ lw_tbl := z_sub [416, 416, 653, 370, 503, 382, 373, 382, 657, 382, 382, 382] (by decide +kernel)
theorem zd_14 : zdec zm_14 = true := by decide +kernel
theorem zl_14 : ∀ w ∈ zlinks zm_14, w ∈ lw_tbl := z_sub [382, 416, 416, 370, 665, 503, 373, 345, 373, 668] (by decide +kernel)
theorem zd_15 : zdec zm_15 = true := by decide +kernel
theorem zl_15 : ∀ w ∈ zlinks zm_15, w ∈ lw_tbl := z_sub [382, 416, 416, 374, 373, 369, 676, 374, 269, 374, 381, 269, 381, 381, 728, 381, 259] (by decide +kernel)
theorem zd_16 : zdec zm_16 = true := by decide +kernel
theorem zl_16 : ∀ w ∈ zlinks zm_16, w ∈ lw_tbl := z_sub [381, 741] (by decide +kernel)
theorem zd_17 : zdec zm_17 = true := by decide +kernel
theorem zl_17 : ∀ w ∈ zlinks zm_17, w ∈ lw_tbl := z_sub [416, 416, 380, 369, 630, 375, 380, 553, 377, 380, 749, 377, 728, 755, 377, 259] (by decide +kernel)
theorem zd_18 : zdec zm_18 = true := by decide +kernel
theorem zl_18 : ∀ w ∈ zlinks zm_18, w ∈ lw_tbl := z_sub [755, 379, 767, 768, 772, 776, 755] (by decide +kernel)
theorem zd_19 : zdec zm_19 = true := by decide +kernel
theorem zl_19 : ∀ w ∈ zlinks zm_19, w ∈ lw_tbl := z_sub [416, 378, 259] (by decide +kernel)
theorem zd_20 : zdec zm_20 = true := by decide +kernel
theorem zl_20 : ∀ w ∈ zlinks zm_20, w ∈ lw_tbl := z_sub [416, 378, 741] (by decide +kernel)
theorem zd_21 : zdec zm_21 = true := by decide +kernel
theorem zl_21 : ∀ w ∈ zlinks zm_21, w ∈ lw_tbl := z_sub [416, 370, 503, 378, 259, 371, 256, 507, 259, 371, 256, 507, 796] (by decide +kernel)
theorem zd_22 : zdec zm_22 = true := by decide +kernel
theorem zl_22 : ∀ w ∈ zlinks zm_22, w ∈ lw_tbl := z_sub [] (by decide +kernel)
theorem zd_23 : zdec zm_23 = true := by decide +kernel
theorem zl_23 : ∀ w ∈ zlinks zm_23, w ∈ lw_tbl := z_sub [] (by decide +kernel)
theorem zd_24 : zdec zm_24 = true := by decide +kernel
theorem zl_24 : ∀ w ∈ zlinks zm_24, w ∈ lw_tbl := z_sub [] (by decide +kernel)
theorem zd_25 : zdec zm_25 = true := by decide +kernel
theorem zl_25 : ∀ w ∈ zlinks zm_25, w ∈ lw_tbl := z_sub [416, 369, 171, 416, 416] (by decide +kernel)
theorem zd_26 : zdec zm_26 = true := by decide +kernel
theorem zl_26 : ∀ w ∈ zlinks zm_26, w ∈ lw_tbl := z_sub [259, 416, 416, 369, 256, 630] (by decide +kernel)
theorem zd_27 : zdec zm_27 = true := by decide +kernel
theorem zl_27 : ∀ w ∈ zlinks zm_27, w ∈ lw_tbl := z_sub [378, 377, 759] (by decide +kernel)
theorem zd_28 : zdec zm_28 = true := by decide +kernel
theorem zl_28 : ∀ w ∈ zlinks zm_28, w ∈ lw_tbl := z_sub [379, 378, 259] (by decide +kernel)
theorem zd_29 : zdec zm_29 = true := by decide +kernel
theorem zl_29 : ∀ w ∈ zlinks zm_29, w ∈ lw_tbl := z_sub [378, 256, 379, 379, 382, 373, 332, 374, 676, 378, 334, 780] (by decide +kernel)
theorem zd_30 : zdec zm_30 = true := by decide +kernel
theorem zl_30 : ∀ w ∈ zlinks zm_30, w ∈ lw_tbl := z_sub [374, 269, 259, 375, 256, 553, 256, 749] (by decide +kernel)
theorem zd_31 : zdec zm_31 = true := by decide +kernel
theorem zl_31 : ∀ w ∈ zlinks zm_31, w ∈ lw_tbl := z_sub [378, 728, 378, 259] (by decide +kernel)
theorem zd_32 : zdec zm_32 = true := by decide +kernel
theorem zl_32 : ∀ w ∈ zlinks zm_32, w ∈ lw_tbl := z_sub [802, 803, 805, 806, 807, 808, 809, 810, 811, 812, 814, 815, 816, 818, 819, 820, 821, 822, 823, 824, 826, 827, 828, 830, 831, 832, 833, 834, 835, 836, 837, 838, 839, 840] (by decide +kernel)
theorem zd_33 : zdec zm_33 = true := by decide +kernel
theorem zl_33 : ∀ w ∈ zlinks zm_33, w ∈ lw_tbl := z_sub [] (by decide +kernel)
theorem zd_34 : zdec zm_34 = true := by decide +kernel
theorem zl_34 : ∀ w ∈ zlinks zm_34, w ∈ lw_tbl := z_sub [1029, 1029] (by decide +kernel)
theorem zd_35 : zdec zm_35 = true := by decide +kernel
theorem zl_35 : ∀ w ∈ zlinks zm_35, w ∈ lw_tbl := z_sub [1029, 1029] (by decide +kernel)
theorem zd_36 : zdec zm_36 = true := by decide +kernel
theorem zl_36 : ∀ w ∈ zlinks zm_36, w ∈ lw_tbl := z_sub [] (by decide +kernel)
theorem zd_37 : zdec zm_37 = true := by decide +kernel
theorem zl_37 : ∀ w ∈ zlinks zm_37, w ∈ lw_tbl := z_sub [] (by decide +kernel)
theorem zd_38 : zdec zm_38 = true := by decide +kernel
theorem zl_38 : ∀ w ∈ zlinks zm_38, w ∈ lw_tbl := z_sub [803] (by decide +kernel)
theorem zd_39 : zdec zm_39 = true := by decide +kernel
theorem zl_39 : ∀ w ∈ zlinks zm_39, w ∈ lw_tbl := z_sub [803] (by decide +kernel)
theorem zd_40 : zdec zm_40 = true := by decide +kernel
theorem zl_40 : ∀ w ∈ zlinks zm_40, w ∈ lw_tbl := z_sub [945] (by decide +kernel)
theorem zd_41 : zdec zm_41 = true := by decide +kernel
theorem zl_41 : ∀ w ∈ zlinks zm_41, w ∈ lw_tbl := z_sub [] (by decide +kernel)
theorem zd_42 : zdec zm_42 = true := by decide +kernel
theorem zl_42 : ∀ w ∈ zlinks zm_42, w ∈ lw_tbl := z_sub [945] (by decide +kernel)
theorem zd_43 : zdec zm_43 = true := by decide +kernel
theorem zl_43 : ∀ w ∈ zlinks zm_43, w ∈ lw_tbl := z_sub [968, 957, 945] (by decide +kernel)
theorem zd_44 : zdec zm_44 = true := by decide +kernel
theorem zl_44 : ∀ w ∈ zlinks zm_44, w ∈ lw_tbl := z_sub [945, 929] (by decide +kernel)
theorem zd_45 : zdec zm_45 = true := by decide +kernel
theorem zl_45 : ∀ w ∈ zlinks zm_45, w ∈ lw_tbl := z_sub [941, 941, 941, 945, 945, 945, 945] (by decide +kernel)
