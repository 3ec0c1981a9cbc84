theorem dX10_init_0 : decode cX10_init 0 = .ok (.aload_n 0, 1) := o42 hcX10_init rfl
theorem dX10_init_1 : decode cX10_init 1 = .ok (.invokespecial 3, 3) := o183 hcX10_init rfl
theorem dX10_init_4 : decode cX10_init 4 = .ok (.aload_n 0, 1) := o42 hcX10_init rfl
theorem dX10_init_5 : decode cX10_init 5 = .ok (.new 9, 3) := o187 hcX10_init rfl
theorem dX10_init_8 : decode cX10_init 8 = .ok (.dup, 1) := o89 hcX10_init rfl
theorem dX10_init_9 : decode cX10_init 9 = .ok (.invokespecial 11, 3) := o183 hcX10_init rfl
theorem dX10_init_12 : decode cX10_init 12 = .ok (.putfield 12, 3) := o181 hcX10_init rfl
theorem dX10_init_15 : decode cX10_init 15 = .ok (.aload_n 0, 1) := o42 hcX10_init rfl
theorem dX10_init_16 : decode cX10_init 16 = .ok (.new 18, 3) := o187 hcX10_init rfl
theorem dX10_init_19 : decode cX10_init 19 = .ok (.dup, 1) := o89 hcX10_init rfl
theorem dX10_init_20 : decode cX10_init 20 = .ok (.invokespecial 20, 3) := o183 hcX10_init rfl
theorem dX10_init_23 : decode cX10_init 23 = .ok (.putfield 21, 3) := o181 hcX10_init rfl
theorem dX10_init_26 : decode cX10_init 26 = .ok (.aload_n 0, 1) := o42 hcX10_init rfl
theorem dX10_init_27 : decode cX10_init 27 = .ok (.new 25, 3) := o187 hcX10_init rfl
theorem dX10_init_30 : decode cX10_init 30 = .ok (.dup, 1) := o89 hcX10_init rfl
theorem dX10_init_31 : decode cX10_init 31 = .ok (.invokespecial 27, 3) := o183 hcX10_init rfl
theorem dX10_init_34 : decode cX10_init 34 = .ok (.putfield 28, 3) := o181 hcX10_init rfl
theorem dX10_init_37 : decode cX10_init 37 = .ok (.aload_n 0, 1) := o42 hcX10_init rfl
theorem dX10_init_38 : decode cX10_init 38 = .ok (.new 32, 3) := o187 hcX10_init rfl
theorem dX10_init_41 : decode cX10_init 41 = .ok (.dup, 1) := o89 hcX10_init rfl
theorem dX10_init_42 : decode cX10_init 42 = .ok (.invokespecial 34, 3) := o183 hcX10_init rfl
theorem dX10_init_45 : decode cX10_init 45 = .ok (.putfield 35, 3) := o181 hcX10_init rfl
theorem dX10_init_48 : decode cX10_init 48 = .ok (.new 9, 3) := o187 hcX10_init rfl
theorem dX10_init_51 : decode cX10_init 51 = .ok (.dup, 1) := o89 hcX10_init rfl
theorem dX10_init_52 : decode cX10_init 52 = .ok (.invokespecial 11, 3) := o183 hcX10_init rfl
theorem dX10_init_55 : decode cX10_init 55 = .ok (.astore_n 1, 1) := o76 hcX10_init rfl
theorem dX10_init_56 : decode cX10_init 56 = .ok (.new 39, 3) := o187 hcX10_init rfl
theorem dX10_init_59 : decode cX10_init 59 = .ok (.dup, 1) := o89 hcX10_init rfl
theorem dX10_init_60 : decode cX10_init 60 = .ok (.invokespecial 41, 3) := o183 hcX10_init rfl
theorem dX10_init_63 : decode cX10_init 63 = .ok (.astore_n 2, 1) := o77 hcX10_init rfl
theorem dX10_init_64 : decode cX10_init 64 = .ok (.aload_n 0, 1) := o42 hcX10_init rfl
theorem dX10_init_65 : decode cX10_init 65 = .ok (.aload_n 1, 1) := o43 hcX10_init rfl
theorem dX10_init_66 : decode cX10_init 66 = .ok (.putfield 42, 3) := o181 hcX10_init rfl
theorem dX10_init_69 : decode cX10_init 69 = .ok (.aload_n 0, 1) := o42 hcX10_init rfl
theorem dX10_init_70 : decode cX10_init 70 = .ok (.aload_n 2, 1) := o44 hcX10_init rfl
theorem dX10_init_71 : decode cX10_init 71 = .ok (.putfield 45, 3) := o181 hcX10_init rfl
theorem dX10_init_74 : decode cX10_init 74 = .ok (.aload_n 0, 1) := o42 hcX10_init rfl
theorem dX10_init_75 : decode cX10_init 75 = .ok (.new 49, 3) := o187 hcX10_init rfl
theorem dX10_init_78 : decode cX10_init 78 = .ok (.dup, 1) := o89 hcX10_init rfl
theorem dX10_init_79 : decode cX10_init 79 = .ok (.aload_n 1, 1) := o43 hcX10_init rfl
theorem dX10_init_80 : decode cX10_init 80 = .ok (.aload_n 2, 1) := o44 hcX10_init rfl
theorem dX10_init_81 : decode cX10_init 81 = .ok (.invokespecial 51, 3) := o183 hcX10_init rfl
theorem dX10_init_84 : decode cX10_init 84 = .ok (.putfield 54, 3) := o181 hcX10_init rfl
theorem dX10_init_87 : decode cX10_init 87 = .ok (.return_, 1) := o177 hcX10_init rfl
theorem dX10_house_0 : decode cX10_house 0 = .ok (.iload_n 1, 1) := o27 hcX10_house rfl
theorem dX10_house_1 : decode cX10_house 1 = .ok (.bipush 6, 2) := o16 hcX10_house (a := 6) rfl rfl
theorem dX10_house_3 : decode cX10_house 3 = .ok (.invokestatic 58, 3) := o184 hcX10_house rfl
theorem dX10_house_6 : decode cX10_house 6 = .ok (.ifCond .ne 5, 3) := o154 hcX10_house (a := 5) rfl rfl
theorem dX10_house_9 : decode cX10_house 9 = .ok (.iconst (-1), 1) := o2 hcX10_house rfl
theorem dX10_house_10 : decode cX10_house 10 = .ok (.ireturn, 1) := o172 hcX10_house rfl
theorem dX10_house_11 : decode cX10_house 11 = .ok (.iload_n 2, 1) := o28 hcX10_house rfl
theorem dX10_house_12 : decode cX10_house 12 = .ok (.bipush 9, 2) := o16 hcX10_house (a := 9) rfl rfl
theorem dX10_house_14 : decode cX10_house 14 = .ok (.invokestatic 58, 3) := o184 hcX10_house rfl
theorem dX10_house_17 : decode cX10_house 17 = .ok (.ifCond .eq 12, 3) := o153 hcX10_house (a := 12) rfl rfl
theorem dX10_house_20 : decode cX10_house 20 = .ok (.iload_n 3, 1) := o29 hcX10_house rfl
theorem dX10_house_21 : decode cX10_house 21 = .ok (.bipush 99, 2) := o16 hcX10_house (a := 99) rfl rfl
theorem dX10_house_23 : decode cX10_house 23 = .ok (.invokestatic 58, 3) := o184 hcX10_house rfl
theorem dX10_house_26 : decode cX10_house 26 = .ok (.ifCond .ne 6, 3) := o154 hcX10_house (a := 6) rfl rfl
theorem dX10_house_29 : decode cX10_house 29 = .ok (.bipush (-2), 2) := o16 hcX10_house (a := 254) rfl rfl
theorem dX10_house_31 : decode cX10_house 31 = .ok (.ireturn, 1) := o172 hcX10_house rfl
theorem dX10_house_32 : decode cX10_house 32 = .ok (.aload_n 0, 1) := o42 hcX10_house rfl
theorem dX10_house_33 : decode cX10_house 33 = .ok (.getfield 42, 3) := o180 hcX10_house rfl
theorem dX10_house_36 : decode cX10_house 36 = .ok (.iload_n 1, 1) := o27 hcX10_house rfl
theorem dX10_house_37 : decode cX10_house 37 = .ok (.iload_n 2, 1) := o28 hcX10_house rfl
theorem dX10_house_38 : decode cX10_house 38 = .ok (.iload_n 3, 1) := o29 hcX10_house rfl
theorem dX10_house_39 : decode cX10_house 39 = .ok (.invokevirtual 62, 3) := o182 hcX10_house rfl
theorem dX10_house_42 : decode cX10_house 42 = .ok (.ireturn, 1) := o172 hcX10_house rfl
theorem dX10_folk_0 : decode cX10_folk 0 = .ok (.aload_n 0, 1) := o42 hcX10_folk rfl
theorem dX10_folk_1 : decode cX10_folk 1 = .ok (.getfield 42, 3) := o180 hcX10_folk rfl
theorem dX10_folk_4 : decode cX10_folk 4 = .ok (.iload_n 1, 1) := o27 hcX10_folk rfl
theorem dX10_folk_5 : decode cX10_folk 5 = .ok (.invokevirtual 66, 3) := o182 hcX10_folk rfl
theorem dX10_folk_8 : decode cX10_folk 8 = .ok (.ifCond .ne 5, 3) := o154 hcX10_folk (a := 5) rfl rfl
theorem dX10_folk_11 : decode cX10_folk 11 = .ok (.iconst (-1), 1) := o2 hcX10_folk rfl
theorem dX10_folk_12 : decode cX10_folk 12 = .ok (.ireturn, 1) := o172 hcX10_folk rfl
theorem dX10_folk_13 : decode cX10_folk 13 = .ok (.iload_n 2, 1) := o28 hcX10_folk rfl
theorem dX10_folk_14 : decode cX10_folk 14 = .ok (.bipush 9, 2) := o16 hcX10_folk (a := 9) rfl rfl
theorem dX10_folk_16 : decode cX10_folk 16 = .ok (.invokestatic 58, 3) := o184 hcX10_folk rfl
theorem dX10_folk_19 : decode cX10_folk 19 = .ok (.ifCond .eq 14, 3) := o153 hcX10_folk (a := 14) rfl rfl
theorem dX10_folk_22 : decode cX10_folk 22 = .ok (.iload_n 3, 1) := o29 hcX10_folk rfl
theorem dX10_folk_23 : decode cX10_folk 23 = .ok (.iconst 1, 1) := o4 hcX10_folk rfl
theorem dX10_folk_24 : decode cX10_folk 24 = .ok (.if_icmp .lt 9, 3) := o161 hcX10_folk (a := 9) rfl rfl
theorem dX10_folk_27 : decode cX10_folk 27 = .ok (.iload_n 3, 1) := o29 hcX10_folk rfl
theorem dX10_folk_28 : decode cX10_folk 28 = .ok (.bipush 9, 2) := o16 hcX10_folk (a := 9) rfl rfl
theorem dX10_folk_30 : decode cX10_folk 30 = .ok (.if_icmp .le 6, 3) := o164 hcX10_folk (a := 6) rfl rfl
theorem dX10_folk_33 : decode cX10_folk 33 = .ok (.bipush (-2), 2) := o16 hcX10_folk (a := 254) rfl rfl
theorem dX10_folk_35 : decode cX10_folk 35 = .ok (.ireturn, 1) := o172 hcX10_folk rfl
theorem dX10_folk_36 : decode cX10_folk 36 = .ok (.aload_n 0, 1) := o42 hcX10_folk rfl
theorem dX10_folk_37 : decode cX10_folk 37 = .ok (.getfield 42, 3) := o180 hcX10_folk rfl
theorem dX10_folk_40 : decode cX10_folk 40 = .ok (.iload_n 1, 1) := o27 hcX10_folk rfl
theorem dX10_folk_41 : decode cX10_folk 41 = .ok (.iload_n 2, 1) := o28 hcX10_folk rfl
theorem dX10_folk_42 : decode cX10_folk 42 = .ok (.iload_n 3, 1) := o29 hcX10_folk rfl
theorem dX10_folk_43 : decode cX10_folk 43 = .ok (.invokevirtual 70, 3) := o182 hcX10_folk rfl
theorem dX10_folk_46 : decode cX10_folk 46 = .ok (.ireturn, 1) := o172 hcX10_folk rfl
theorem dX10_of_0 : decode cX10_of 0 = .ok (.aload_n 0, 1) := o42 hcX10_of rfl
theorem dX10_of_1 : decode cX10_of 1 = .ok (.getfield 42, 3) := o180 hcX10_of rfl
theorem dX10_of_4 : decode cX10_of 4 = .ok (.iload_n 1, 1) := o27 hcX10_of rfl
theorem dX10_of_5 : decode cX10_of 5 = .ok (.invokevirtual 66, 3) := o182 hcX10_of rfl
theorem dX10_of_8 : decode cX10_of 8 = .ok (.ifCond .ne 5, 3) := o154 hcX10_of (a := 5) rfl rfl
theorem dX10_of_11 : decode cX10_of 11 = .ok (.iconst (-1), 1) := o2 hcX10_of rfl
theorem dX10_of_12 : decode cX10_of 12 = .ok (.ireturn, 1) := o172 hcX10_of rfl
theorem dX10_of_13 : decode cX10_of 13 = .ok (.iload_n 2, 1) := o28 hcX10_of rfl
theorem dX10_of_14 : decode cX10_of 14 = .ok (.tableswitch 70 0 3 #[30, 40, 50, 60], 30) := by decide +kernel
theorem dX10_of_44 : decode cX10_of 44 = .ok (.aload_n 0, 1) := o42 hcX10_of rfl
theorem dX10_of_45 : decode cX10_of 45 = .ok (.getfield 42, 3) := o180 hcX10_of rfl
theorem dX10_of_48 : decode cX10_of 48 = .ok (.getfield 73, 3) := o180 hcX10_of rfl
theorem dX10_of_51 : decode cX10_of 51 = .ok (.iload_n 1, 1) := o27 hcX10_of rfl
theorem dX10_of_52 : decode cX10_of 52 = .ok (.iaload, 1) := o46 hcX10_of rfl
theorem dX10_of_53 : decode cX10_of 53 = .ok (.ireturn, 1) := o172 hcX10_of rfl
theorem dX10_of_54 : decode cX10_of 54 = .ok (.aload_n 0, 1) := o42 hcX10_of rfl
theorem dX10_of_55 : decode cX10_of 55 = .ok (.getfield 42, 3) := o180 hcX10_of rfl
theorem dX10_of_58 : decode cX10_of 58 = .ok (.getfield 77, 3) := o180 hcX10_of rfl
theorem dX10_of_61 : decode cX10_of 61 = .ok (.iload_n 1, 1) := o27 hcX10_of rfl
theorem dX10_of_62 : decode cX10_of 62 = .ok (.iaload, 1) := o46 hcX10_of rfl
theorem dX10_of_63 : decode cX10_of 63 = .ok (.ireturn, 1) := o172 hcX10_of rfl
theorem dX10_of_64 : decode cX10_of 64 = .ok (.aload_n 0, 1) := o42 hcX10_of rfl
theorem dX10_of_65 : decode cX10_of 65 = .ok (.getfield 42, 3) := o180 hcX10_of rfl
theorem dX10_of_68 : decode cX10_of 68 = .ok (.getfield 80, 3) := o180 hcX10_of rfl
theorem dX10_of_71 : decode cX10_of 71 = .ok (.iload_n 1, 1) := o27 hcX10_of rfl
theorem dX10_of_72 : decode cX10_of 72 = .ok (.iaload, 1) := o46 hcX10_of rfl
theorem dX10_of_73 : decode cX10_of 73 = .ok (.ireturn, 1) := o172 hcX10_of rfl
theorem dX10_of_74 : decode cX10_of 74 = .ok (.aload_n 0, 1) := o42 hcX10_of rfl
theorem dX10_of_75 : decode cX10_of 75 = .ok (.getfield 42, 3) := o180 hcX10_of rfl
theorem dX10_of_78 : decode cX10_of 78 = .ok (.getfield 83, 3) := o180 hcX10_of rfl
theorem dX10_of_81 : decode cX10_of 81 = .ok (.iload_n 1, 1) := o27 hcX10_of rfl
theorem dX10_of_82 : decode cX10_of 82 = .ok (.iaload, 1) := o46 hcX10_of rfl
theorem dX10_of_83 : decode cX10_of 83 = .ok (.ireturn, 1) := o172 hcX10_of rfl
theorem dX10_of_84 : decode cX10_of 84 = .ok (.aload_n 0, 1) := o42 hcX10_of rfl
theorem dX10_of_85 : decode cX10_of 85 = .ok (.iload_n 1, 1) := o27 hcX10_of rfl
theorem dX10_of_86 : decode cX10_of 86 = .ok (.iload_n 2, 1) := o28 hcX10_of rfl
theorem dX10_of_87 : decode cX10_of 87 = .ok (.invokevirtual 86, 3) := o182 hcX10_of rfl
theorem dX10_of_90 : decode cX10_of 90 = .ok (.ireturn, 1) := o172 hcX10_of rfl
theorem dX10_who_0 : decode cX10_who 0 = .ok (.aload_n 0, 1) := o42 hcX10_who rfl
theorem dX10_who_1 : decode cX10_who 1 = .ok (.getfield 42, 3) := o180 hcX10_who rfl
theorem dX10_who_4 : decode cX10_who 4 = .ok (.iload_n 1, 1) := o27 hcX10_who rfl
theorem dX10_who_5 : decode cX10_who 5 = .ok (.invokevirtual 90, 3) := o182 hcX10_who rfl
theorem dX10_who_8 : decode cX10_who 8 = .ok (.ifCond .ne 5, 3) := o154 hcX10_who (a := 5) rfl rfl
theorem dX10_who_11 : decode cX10_who 11 = .ok (.iconst (-1), 1) := o2 hcX10_who rfl
theorem dX10_who_12 : decode cX10_who 12 = .ok (.ireturn, 1) := o172 hcX10_who rfl
theorem dX10_who_13 : decode cX10_who 13 = .ok (.iload_n 2, 1) := o28 hcX10_who rfl
theorem dX10_who_14 : decode cX10_who 14 = .ok (.tableswitch 56 0 2 #[26, 36, 46], 26) := by decide +kernel
theorem dX10_who_40 : decode cX10_who 40 = .ok (.aload_n 0, 1) := o42 hcX10_who rfl
theorem dX10_who_41 : decode cX10_who 41 = .ok (.getfield 42, 3) := o180 hcX10_who rfl
theorem dX10_who_44 : decode cX10_who 44 = .ok (.getfield 93, 3) := o180 hcX10_who rfl
theorem dX10_who_47 : decode cX10_who 47 = .ok (.iload_n 1, 1) := o27 hcX10_who rfl
theorem dX10_who_48 : decode cX10_who 48 = .ok (.iaload, 1) := o46 hcX10_who rfl
theorem dX10_who_49 : decode cX10_who 49 = .ok (.ireturn, 1) := o172 hcX10_who rfl
theorem dX10_who_50 : decode cX10_who 50 = .ok (.aload_n 0, 1) := o42 hcX10_who rfl
theorem dX10_who_51 : decode cX10_who 51 = .ok (.getfield 42, 3) := o180 hcX10_who rfl
theorem dX10_who_54 : decode cX10_who 54 = .ok (.getfield 96, 3) := o180 hcX10_who rfl
theorem dX10_who_57 : decode cX10_who 57 = .ok (.iload_n 1, 1) := o27 hcX10_who rfl
theorem dX10_who_58 : decode cX10_who 58 = .ok (.iaload, 1) := o46 hcX10_who rfl
theorem dX10_who_59 : decode cX10_who 59 = .ok (.ireturn, 1) := o172 hcX10_who rfl
theorem dX10_who_60 : decode cX10_who 60 = .ok (.aload_n 0, 1) := o42 hcX10_who rfl
theorem dX10_who_61 : decode cX10_who 61 = .ok (.getfield 42, 3) := o180 hcX10_who rfl
theorem dX10_who_64 : decode cX10_who 64 = .ok (.getfield 99, 3) := o180 hcX10_who rfl
theorem dX10_who_67 : decode cX10_who 67 = .ok (.iload_n 1, 1) := o27 hcX10_who rfl
theorem dX10_who_68 : decode cX10_who 68 = .ok (.iaload, 1) := o46 hcX10_who rfl
theorem dX10_who_69 : decode cX10_who 69 = .ok (.ireturn, 1) := o172 hcX10_who rfl
theorem dX10_who_70 : decode cX10_who 70 = .ok (.iconst (-1), 1) := o2 hcX10_who rfl
theorem dX10_who_71 : decode cX10_who 71 = .ok (.ireturn, 1) := o172 hcX10_who rfl
theorem dX10_strew_0 : decode cX10_strew 0 = .ok (.aload_n 0, 1) := o42 hcX10_strew rfl
theorem dX10_strew_1 : decode cX10_strew 1 = .ok (.getfield 42, 3) := o180 hcX10_strew rfl
theorem dX10_strew_4 : decode cX10_strew 4 = .ok (.iload_n 1, 1) := o27 hcX10_strew rfl
theorem dX10_strew_5 : decode cX10_strew 5 = .ok (.invokevirtual 66, 3) := o182 hcX10_strew rfl
theorem dX10_strew_8 : decode cX10_strew 8 = .ok (.ifCond .ne 5, 3) := o154 hcX10_strew (a := 5) rfl rfl
theorem dX10_strew_11 : decode cX10_strew 11 = .ok (.iconst (-1), 1) := o2 hcX10_strew rfl
theorem dX10_strew_12 : decode cX10_strew 12 = .ok (.ireturn, 1) := o172 hcX10_strew rfl
theorem dX10_strew_13 : decode cX10_strew 13 = .ok (.iload_n 2, 1) := o28 hcX10_strew rfl
theorem dX10_strew_14 : decode cX10_strew 14 = .ok (.bipush 99, 2) := o16 hcX10_strew (a := 99) rfl rfl
theorem dX10_strew_16 : decode cX10_strew 16 = .ok (.invokestatic 58, 3) := o184 hcX10_strew rfl
theorem dX10_strew_19 : decode cX10_strew 19 = .ok (.ifCond .ne 6, 3) := o154 hcX10_strew (a := 6) rfl rfl
theorem dX10_strew_22 : decode cX10_strew 22 = .ok (.bipush (-2), 2) := o16 hcX10_strew (a := 254) rfl rfl
theorem dX10_strew_24 : decode cX10_strew 24 = .ok (.ireturn, 1) := o172 hcX10_strew rfl
theorem dX10_strew_25 : decode cX10_strew 25 = .ok (.aload_n 0, 1) := o42 hcX10_strew rfl
theorem dX10_strew_26 : decode cX10_strew 26 = .ok (.getfield 42, 3) := o180 hcX10_strew rfl
theorem dX10_strew_29 : decode cX10_strew 29 = .ok (.getfield 80, 3) := o180 hcX10_strew rfl
theorem dX10_strew_32 : decode cX10_strew 32 = .ok (.iload_n 1, 1) := o27 hcX10_strew rfl
theorem dX10_strew_33 : decode cX10_strew 33 = .ok (.iaload, 1) := o46 hcX10_strew rfl
theorem dX10_strew_34 : decode cX10_strew 34 = .ok (.istore_n 3, 1) := o62 hcX10_strew rfl
theorem dX10_strew_35 : decode cX10_strew 35 = .ok (.aload_n 0, 1) := o42 hcX10_strew rfl
theorem dX10_strew_36 : decode cX10_strew 36 = .ok (.getfield 42, 3) := o180 hcX10_strew rfl
theorem dX10_strew_39 : decode cX10_strew 39 = .ok (.getfield 80, 3) := o180 hcX10_strew rfl
theorem dX10_strew_42 : decode cX10_strew 42 = .ok (.iload_n 1, 1) := o27 hcX10_strew rfl
theorem dX10_strew_43 : decode cX10_strew 43 = .ok (.iload_n 2, 1) := o28 hcX10_strew rfl
theorem dX10_strew_44 : decode cX10_strew 44 = .ok (.iastore, 1) := o79 hcX10_strew rfl
theorem dX10_strew_45 : decode cX10_strew 45 = .ok (.iload_n 3, 1) := o29 hcX10_strew rfl
theorem dX10_strew_46 : decode cX10_strew 46 = .ok (.ireturn, 1) := o172 hcX10_strew rfl
theorem dX10_ask_0 : decode cX10_ask 0 = .ok (.aload_n 0, 1) := o42 hcX10_ask rfl
theorem dX10_ask_1 : decode cX10_ask 1 = .ok (.getfield 42, 3) := o180 hcX10_ask rfl
theorem dX10_ask_4 : decode cX10_ask 4 = .ok (.iload_n 1, 1) := o27 hcX10_ask rfl
theorem dX10_ask_5 : decode cX10_ask 5 = .ok (.invokevirtual 66, 3) := o182 hcX10_ask rfl
theorem dX10_ask_8 : decode cX10_ask 8 = .ok (.ifCond .eq 14, 3) := o153 hcX10_ask (a := 14) rfl rfl
theorem dX10_ask_11 : decode cX10_ask 11 = .ok (.aload_n 0, 1) := o42 hcX10_ask rfl
theorem dX10_ask_12 : decode cX10_ask 12 = .ok (.getfield 42, 3) := o180 hcX10_ask rfl
theorem dX10_ask_15 : decode cX10_ask 15 = .ok (.iload_n 2, 1) := o28 hcX10_ask rfl
theorem dX10_ask_16 : decode cX10_ask 16 = .ok (.invokevirtual 90, 3) := o182 hcX10_ask rfl
theorem dX10_ask_19 : decode cX10_ask 19 = .ok (.ifCond .ne 5, 3) := o154 hcX10_ask (a := 5) rfl rfl
theorem dX10_ask_22 : decode cX10_ask 22 = .ok (.iconst (-1), 1) := o2 hcX10_ask rfl
theorem dX10_ask_23 : decode cX10_ask 23 = .ok (.ireturn, 1) := o172 hcX10_ask rfl
theorem dX10_ask_24 : decode cX10_ask 24 = .ok (.aload_n 0, 1) := o42 hcX10_ask rfl
theorem dX10_ask_25 : decode cX10_ask 25 = .ok (.getfield 42, 3) := o180 hcX10_ask rfl
theorem dX10_ask_28 : decode cX10_ask 28 = .ok (.getfield 83, 3) := o180 hcX10_ask rfl
theorem dX10_ask_31 : decode cX10_ask 31 = .ok (.iload_n 1, 1) := o27 hcX10_ask rfl
theorem dX10_ask_32 : decode cX10_ask 32 = .ok (.iaload, 1) := o46 hcX10_ask rfl
theorem dX10_ask_33 : decode cX10_ask 33 = .ok (.iload_n 2, 1) := o28 hcX10_ask rfl
theorem dX10_ask_34 : decode cX10_ask 34 = .ok (.invokestatic 102, 3) := o184 hcX10_ask rfl
theorem dX10_ask_37 : decode cX10_ask 37 = .ok (.istore 4, 2) := o54 hcX10_ask rfl
theorem dX10_ask_39 : decode cX10_ask 39 = .ok (.aload_n 0, 1) := o42 hcX10_ask rfl
theorem dX10_ask_40 : decode cX10_ask 40 = .ok (.getfield 42, 3) := o180 hcX10_ask rfl
theorem dX10_ask_43 : decode cX10_ask 43 = .ok (.getfield 83, 3) := o180 hcX10_ask rfl
theorem dX10_ask_46 : decode cX10_ask 46 = .ok (.iload_n 1, 1) := o27 hcX10_ask rfl
theorem dX10_ask_47 : decode cX10_ask 47 = .ok (.aload_n 0, 1) := o42 hcX10_ask rfl
theorem dX10_ask_48 : decode cX10_ask 48 = .ok (.getfield 42, 3) := o180 hcX10_ask rfl
theorem dX10_ask_51 : decode cX10_ask 51 = .ok (.getfield 83, 3) := o180 hcX10_ask rfl
theorem dX10_ask_54 : decode cX10_ask 54 = .ok (.iload_n 1, 1) := o27 hcX10_ask rfl
theorem dX10_ask_55 : decode cX10_ask 55 = .ok (.iaload, 1) := o46 hcX10_ask rfl
theorem dX10_ask_56 : decode cX10_ask 56 = .ok (.iload_n 2, 1) := o28 hcX10_ask rfl
theorem dX10_ask_57 : decode cX10_ask 57 = .ok (.iload_n 3, 1) := o29 hcX10_ask rfl
theorem dX10_ask_58 : decode cX10_ask 58 = .ok (.invokestatic 105, 3) := o184 hcX10_ask rfl
theorem dX10_ask_61 : decode cX10_ask 61 = .ok (.iastore, 1) := o79 hcX10_ask rfl
theorem dX10_ask_62 : decode cX10_ask 62 = .ok (.iload 4, 2) := o21 hcX10_ask rfl
theorem dX10_ask_64 : decode cX10_ask 64 = .ok (.ireturn, 1) := o172 hcX10_ask rfl
theorem dX10_sack_0 : decode cX10_sack 0 = .ok (.aload_n 0, 1) := o42 hcX10_sack rfl
theorem dX10_sack_1 : decode cX10_sack 1 = .ok (.getfield 42, 3) := o180 hcX10_sack rfl
theorem dX10_sack_4 : decode cX10_sack 4 = .ok (.iload_n 1, 1) := o27 hcX10_sack rfl
theorem dX10_sack_5 : decode cX10_sack 5 = .ok (.invokevirtual 90, 3) := o182 hcX10_sack rfl
theorem dX10_sack_8 : decode cX10_sack 8 = .ok (.ifCond .eq 14, 3) := o153 hcX10_sack (a := 14) rfl rfl
theorem dX10_sack_11 : decode cX10_sack 11 = .ok (.aload_n 0, 1) := o42 hcX10_sack rfl
theorem dX10_sack_12 : decode cX10_sack 12 = .ok (.getfield 42, 3) := o180 hcX10_sack rfl
theorem dX10_sack_15 : decode cX10_sack 15 = .ok (.iload_n 2, 1) := o28 hcX10_sack rfl
theorem dX10_sack_16 : decode cX10_sack 16 = .ok (.invokevirtual 66, 3) := o182 hcX10_sack rfl
theorem dX10_sack_19 : decode cX10_sack 19 = .ok (.ifCond .ne 5, 3) := o154 hcX10_sack (a := 5) rfl rfl
theorem dX10_sack_22 : decode cX10_sack 22 = .ok (.iconst (-1), 1) := o2 hcX10_sack rfl
theorem dX10_sack_23 : decode cX10_sack 23 = .ok (.ireturn, 1) := o172 hcX10_sack rfl
theorem dX10_sack_24 : decode cX10_sack 24 = .ok (.aload_n 0, 1) := o42 hcX10_sack rfl
theorem dX10_sack_25 : decode cX10_sack 25 = .ok (.getfield 42, 3) := o180 hcX10_sack rfl
theorem dX10_sack_28 : decode cX10_sack 28 = .ok (.getfield 93, 3) := o180 hcX10_sack rfl
theorem dX10_sack_31 : decode cX10_sack 31 = .ok (.iload_n 1, 1) := o27 hcX10_sack rfl
theorem dX10_sack_32 : decode cX10_sack 32 = .ok (.iaload, 1) := o46 hcX10_sack rfl
theorem dX10_sack_33 : decode cX10_sack 33 = .ok (.istore_n 3, 1) := o62 hcX10_sack rfl
theorem dX10_sack_34 : decode cX10_sack 34 = .ok (.aload_n 0, 1) := o42 hcX10_sack rfl
theorem dX10_sack_35 : decode cX10_sack 35 = .ok (.getfield 42, 3) := o180 hcX10_sack rfl
theorem dX10_sack_38 : decode cX10_sack 38 = .ok (.getfield 93, 3) := o180 hcX10_sack rfl
theorem dX10_sack_41 : decode cX10_sack 41 = .ok (.iload_n 1, 1) := o27 hcX10_sack rfl
theorem dX10_sack_42 : decode cX10_sack 42 = .ok (.iload_n 2, 1) := o28 hcX10_sack rfl
theorem dX10_sack_43 : decode cX10_sack 43 = .ok (.iastore, 1) := o79 hcX10_sack rfl
theorem dX10_sack_44 : decode cX10_sack 44 = .ok (.iload_n 3, 1) := o29 hcX10_sack rfl
theorem dX10_sack_45 : decode cX10_sack 45 = .ok (.ireturn, 1) := o172 hcX10_sack rfl
theorem dX10_sell_0 : decode cX10_sell 0 = .ok (.aload_n 0, 1) := o42 hcX10_sell rfl
theorem dX10_sell_1 : decode cX10_sell 1 = .ok (.getfield 42, 3) := o180 hcX10_sell rfl
theorem dX10_sell_4 : decode cX10_sell 4 = .ok (.iload_n 1, 1) := o27 hcX10_sell rfl
theorem dX10_sell_5 : decode cX10_sell 5 = .ok (.invokevirtual 66, 3) := o182 hcX10_sell rfl
theorem dX10_sell_8 : decode cX10_sell 8 = .ok (.ifCond .eq 12, 3) := o153 hcX10_sell (a := 12) rfl rfl
theorem dX10_sell_11 : decode cX10_sell 11 = .ok (.iload_n 2, 1) := o28 hcX10_sell rfl
theorem dX10_sell_12 : decode cX10_sell 12 = .ok (.bipush 6, 2) := o16 hcX10_sell (a := 6) rfl rfl
theorem dX10_sell_14 : decode cX10_sell 14 = .ok (.invokestatic 58, 3) := o184 hcX10_sell rfl
theorem dX10_sell_17 : decode cX10_sell 17 = .ok (.ifCond .ne 5, 3) := o154 hcX10_sell (a := 5) rfl rfl
theorem dX10_sell_20 : decode cX10_sell 20 = .ok (.iconst (-1), 1) := o2 hcX10_sell rfl
theorem dX10_sell_21 : decode cX10_sell 21 = .ok (.ireturn, 1) := o172 hcX10_sell rfl
theorem dX10_sell_22 : decode cX10_sell 22 = .ok (.iload_n 3, 1) := o29 hcX10_sell rfl
theorem dX10_sell_23 : decode cX10_sell 23 = .ok (.bipush 9, 2) := o16 hcX10_sell (a := 9) rfl rfl
theorem dX10_sell_25 : decode cX10_sell 25 = .ok (.invokestatic 58, 3) := o184 hcX10_sell rfl
theorem dX10_sell_28 : decode cX10_sell 28 = .ok (.ifCond .ne 6, 3) := o154 hcX10_sell (a := 6) rfl rfl
theorem dX10_sell_31 : decode cX10_sell 31 = .ok (.bipush (-2), 2) := o16 hcX10_sell (a := 254) rfl rfl
theorem dX10_sell_33 : decode cX10_sell 33 = .ok (.ireturn, 1) := o172 hcX10_sell rfl
theorem dX10_sell_34 : decode cX10_sell 34 = .ok (.aload_n 0, 1) := o42 hcX10_sell rfl
theorem dX10_sell_35 : decode cX10_sell 35 = .ok (.getfield 42, 3) := o180 hcX10_sell rfl
theorem dX10_sell_38 : decode cX10_sell 38 = .ok (.getfield 73, 3) := o180 hcX10_sell rfl
theorem dX10_sell_41 : decode cX10_sell 41 = .ok (.iload_n 1, 1) := o27 hcX10_sell rfl
theorem dX10_sell_42 : decode cX10_sell 42 = .ok (.iaload, 1) := o46 hcX10_sell rfl
theorem dX10_sell_43 : decode cX10_sell 43 = .ok (.istore 4, 2) := o54 hcX10_sell rfl
theorem dX10_sell_45 : decode cX10_sell 45 = .ok (.aload_n 0, 1) := o42 hcX10_sell rfl
theorem dX10_sell_46 : decode cX10_sell 46 = .ok (.getfield 42, 3) := o180 hcX10_sell rfl
theorem dX10_sell_49 : decode cX10_sell 49 = .ok (.iload_n 1, 1) := o27 hcX10_sell rfl
theorem dX10_sell_50 : decode cX10_sell 50 = .ok (.iload_n 2, 1) := o28 hcX10_sell rfl
theorem dX10_sell_51 : decode cX10_sell 51 = .ok (.iload_n 3, 1) := o29 hcX10_sell rfl
theorem dX10_sell_52 : decode cX10_sell 52 = .ok (.invokevirtual 109, 3) := o182 hcX10_sell rfl
theorem dX10_sell_55 : decode cX10_sell 55 = .ok (.iload 4, 2) := o21 hcX10_sell rfl
theorem dX10_sell_57 : decode cX10_sell 57 = .ok (.ireturn, 1) := o172 hcX10_sell rfl
theorem dX10_row_0 : decode cX10_row 0 = .ok (.aload_n 0, 1) := o42 hcX10_row rfl
theorem dX10_row_1 : decode cX10_row 1 = .ok (.getfield 42, 3) := o180 hcX10_row rfl
theorem dX10_row_4 : decode cX10_row 4 = .ok (.iload_n 1, 1) := o27 hcX10_row rfl
theorem dX10_row_5 : decode cX10_row 5 = .ok (.invokevirtual 66, 3) := o182 hcX10_row rfl
theorem dX10_row_8 : decode cX10_row 8 = .ok (.ifCond .eq 11, 3) := o153 hcX10_row (a := 11) rfl rfl
theorem dX10_row_11 : decode cX10_row 11 = .ok (.iload_n 2, 1) := o28 hcX10_row rfl
theorem dX10_row_12 : decode cX10_row 12 = .ok (.iconst 3, 1) := o6 hcX10_row rfl
theorem dX10_row_13 : decode cX10_row 13 = .ok (.invokestatic 58, 3) := o184 hcX10_row rfl
theorem dX10_row_16 : decode cX10_row 16 = .ok (.ifCond .ne 5, 3) := o154 hcX10_row (a := 5) rfl rfl
theorem dX10_row_19 : decode cX10_row 19 = .ok (.iconst (-1), 1) := o2 hcX10_row rfl
theorem dX10_row_20 : decode cX10_row 20 = .ok (.ireturn, 1) := o172 hcX10_row rfl
theorem dX10_row_21 : decode cX10_row 21 = .ok (.iload_n 3, 1) := o29 hcX10_row rfl
theorem dX10_row_22 : decode cX10_row 22 = .ok (.iconst 1, 1) := o4 hcX10_row rfl
theorem dX10_row_23 : decode cX10_row 23 = .ok (.invokestatic 58, 3) := o184 hcX10_row rfl
theorem dX10_row_26 : decode cX10_row 26 = .ok (.ifCond .ne 6, 3) := o154 hcX10_row (a := 6) rfl rfl
theorem dX10_row_29 : decode cX10_row 29 = .ok (.bipush (-2), 2) := o16 hcX10_row (a := 254) rfl rfl
theorem dX10_row_31 : decode cX10_row 31 = .ok (.ireturn, 1) := o172 hcX10_row rfl
theorem dX10_row_32 : decode cX10_row 32 = .ok (.aload_n 0, 1) := o42 hcX10_row rfl
theorem dX10_row_33 : decode cX10_row 33 = .ok (.getfield 42, 3) := o180 hcX10_row rfl
theorem dX10_row_36 : decode cX10_row 36 = .ok (.getfield 73, 3) := o180 hcX10_row rfl
theorem dX10_row_39 : decode cX10_row 39 = .ok (.iload_n 1, 1) := o27 hcX10_row rfl
theorem dX10_row_40 : decode cX10_row 40 = .ok (.iaload, 1) := o46 hcX10_row rfl
theorem dX10_row_41 : decode cX10_row 41 = .ok (.bipush 6, 2) := o16 hcX10_row (a := 6) rfl rfl
theorem dX10_row_43 : decode cX10_row 43 = .ok (.if_icmp .eq 6, 3) := o159 hcX10_row (a := 6) rfl rfl
theorem dX10_row_46 : decode cX10_row 46 = .ok (.bipush (-3), 2) := o16 hcX10_row (a := 253) rfl rfl
theorem dX10_row_48 : decode cX10_row 48 = .ok (.ireturn, 1) := o172 hcX10_row rfl
theorem dX10_row_49 : decode cX10_row 49 = .ok (.aload_n 0, 1) := o42 hcX10_row rfl
theorem dX10_row_50 : decode cX10_row 50 = .ok (.getfield 42, 3) := o180 hcX10_row rfl
theorem dX10_row_53 : decode cX10_row 53 = .ok (.getfield 113, 3) := o180 hcX10_row rfl
theorem dX10_row_56 : decode cX10_row 56 = .ok (.iload_n 1, 1) := o27 hcX10_row rfl
theorem dX10_row_57 : decode cX10_row 57 = .ok (.iaload, 1) := o46 hcX10_row rfl
theorem dX10_row_58 : decode cX10_row 58 = .ok (.iload_n 2, 1) := o28 hcX10_row rfl
theorem dX10_row_59 : decode cX10_row 59 = .ok (.invokestatic 102, 3) := o184 hcX10_row rfl
theorem dX10_row_62 : decode cX10_row 62 = .ok (.istore 4, 2) := o54 hcX10_row rfl
theorem dX10_row_64 : decode cX10_row 64 = .ok (.aload_n 0, 1) := o42 hcX10_row rfl
theorem dX10_row_65 : decode cX10_row 65 = .ok (.getfield 42, 3) := o180 hcX10_row rfl
theorem dX10_row_68 : decode cX10_row 68 = .ok (.getfield 113, 3) := o180 hcX10_row rfl
theorem dX10_row_71 : decode cX10_row 71 = .ok (.iload_n 1, 1) := o27 hcX10_row rfl
theorem dX10_row_72 : decode cX10_row 72 = .ok (.aload_n 0, 1) := o42 hcX10_row rfl
theorem dX10_row_73 : decode cX10_row 73 = .ok (.getfield 42, 3) := o180 hcX10_row rfl
theorem dX10_row_76 : decode cX10_row 76 = .ok (.getfield 113, 3) := o180 hcX10_row rfl
theorem dX10_row_79 : decode cX10_row 79 = .ok (.iload_n 1, 1) := o27 hcX10_row rfl
theorem dX10_row_80 : decode cX10_row 80 = .ok (.iaload, 1) := o46 hcX10_row rfl
theorem dX10_row_81 : decode cX10_row 81 = .ok (.iload_n 2, 1) := o28 hcX10_row rfl
theorem dX10_row_82 : decode cX10_row 82 = .ok (.iload_n 3, 1) := o29 hcX10_row rfl
theorem dX10_row_83 : decode cX10_row 83 = .ok (.iconst 1, 1) := o4 hcX10_row rfl
theorem dX10_row_84 : decode cX10_row 84 = .ok (.if_icmp .ne 7, 3) := o160 hcX10_row (a := 7) rfl rfl
theorem dX10_row_87 : decode cX10_row 87 = .ok (.iconst 1, 1) := o4 hcX10_row rfl
theorem dX10_row_88 : decode cX10_row 88 = .ok (.goto 4, 3) := o167 hcX10_row (a := 4) rfl rfl
theorem dX10_row_91 : decode cX10_row 91 = .ok (.iconst 0, 1) := o3 hcX10_row rfl
theorem dX10_row_92 : decode cX10_row 92 = .ok (.invokestatic 105, 3) := o184 hcX10_row rfl
theorem dX10_row_95 : decode cX10_row 95 = .ok (.iastore, 1) := o79 hcX10_row rfl
theorem dX10_row_96 : decode cX10_row 96 = .ok (.iload 4, 2) := o21 hcX10_row rfl
theorem dX10_row_98 : decode cX10_row 98 = .ok (.ireturn, 1) := o172 hcX10_row rfl
theorem dX10_feed_0 : decode cX10_feed 0 = .ok (.iload_n 1, 1) := o27 hcX10_feed rfl
theorem dX10_feed_1 : decode cX10_feed 1 = .ok (.bipush 127, 2) := o16 hcX10_feed (a := 127) rfl rfl
theorem dX10_feed_3 : decode cX10_feed 3 = .ok (.invokestatic 58, 3) := o184 hcX10_feed rfl
theorem dX10_feed_6 : decode cX10_feed 6 = .ok (.ifCond .ne 6, 3) := o154 hcX10_feed (a := 6) rfl rfl
theorem dX10_feed_9 : decode cX10_feed 9 = .ok (.bipush (-2), 2) := o16 hcX10_feed (a := 254) rfl rfl
theorem dX10_feed_11 : decode cX10_feed 11 = .ok (.ireturn, 1) := o172 hcX10_feed rfl
theorem dX10_feed_12 : decode cX10_feed 12 = .ok (.aload_n 0, 1) := o42 hcX10_feed rfl
theorem dX10_feed_13 : decode cX10_feed 13 = .ok (.getfield 21, 3) := o180 hcX10_feed rfl
theorem dX10_feed_16 : decode cX10_feed 16 = .ok (.iload_n 1, 1) := o27 hcX10_feed rfl
theorem dX10_feed_17 : decode cX10_feed 17 = .ok (.invokevirtual 116, 3) := o182 hcX10_feed rfl
theorem dX10_feed_20 : decode cX10_feed 20 = .ok (.ireturn, 1) := o172 hcX10_feed rfl
theorem dX10_town_0 : decode cX10_town 0 = .ok (.aload_n 0, 1) := o42 hcX10_town rfl
theorem dX10_town_1 : decode cX10_town 1 = .ok (.getfield 45, 3) := o180 hcX10_town rfl
theorem dX10_town_4 : decode cX10_town 4 = .ok (.getfield 120, 3) := o180 hcX10_town rfl
theorem dX10_town_7 : decode cX10_town 7 = .ok (.bipush 6, 2) := o16 hcX10_town (a := 6) rfl rfl
theorem dX10_town_9 : decode cX10_town 9 = .ok (.if_icmp .lt 6, 3) := o161 hcX10_town (a := 6) rfl rfl
theorem dX10_town_12 : decode cX10_town 12 = .ok (.bipush (-4), 2) := o16 hcX10_town (a := 252) rfl rfl
theorem dX10_town_14 : decode cX10_town 14 = .ok (.ireturn, 1) := o172 hcX10_town rfl
theorem dX10_town_15 : decode cX10_town 15 = .ok (.aload_n 0, 1) := o42 hcX10_town rfl
theorem dX10_town_16 : decode cX10_town 16 = .ok (.getfield 21, 3) := o180 hcX10_town rfl
theorem dX10_town_19 : decode cX10_town 19 = .ok (.aload_n 0, 1) := o42 hcX10_town rfl
theorem dX10_town_20 : decode cX10_town 20 = .ok (.getfield 45, 3) := o180 hcX10_town rfl
theorem dX10_town_23 : decode cX10_town 23 = .ok (.getfield 124, 3) := o180 hcX10_town rfl
theorem dX10_town_26 : decode cX10_town 26 = .ok (.aload_n 0, 1) := o42 hcX10_town rfl
theorem dX10_town_27 : decode cX10_town 27 = .ok (.getfield 45, 3) := o180 hcX10_town rfl
theorem dX10_town_30 : decode cX10_town 30 = .ok (.getfield 120, 3) := o180 hcX10_town rfl
theorem dX10_town_33 : decode cX10_town 33 = .ok (.aaload, 1) := o50 hcX10_town rfl
theorem dX10_town_34 : decode cX10_town 34 = .ok (.invokevirtual 128, 3) := o182 hcX10_town rfl
theorem dX10_town_37 : decode cX10_town 37 = .ok (.aload_n 0, 1) := o42 hcX10_town rfl
theorem dX10_town_38 : decode cX10_town 38 = .ok (.getfield 21, 3) := o180 hcX10_town rfl
theorem dX10_town_41 : decode cX10_town 41 = .ok (.iconst 0, 1) := o3 hcX10_town rfl
theorem dX10_town_42 : decode cX10_town 42 = .ok (.putfield 132, 3) := o181 hcX10_town rfl
theorem dX10_town_45 : decode cX10_town 45 = .ok (.aload_n 0, 1) := o42 hcX10_town rfl
theorem dX10_town_46 : decode cX10_town 46 = .ok (.getfield 21, 3) := o180 hcX10_town rfl
theorem dX10_town_49 : decode cX10_town 49 = .ok (.getfield 135, 3) := o180 hcX10_town rfl
theorem dX10_town_52 : decode cX10_town 52 = .ok (.iconst (-1), 1) := o2 hcX10_town rfl
theorem dX10_town_53 : decode cX10_town 53 = .ok (.if_icmp .eq 14, 3) := o159 hcX10_town (a := 14) rfl rfl
theorem dX10_town_56 : decode cX10_town 56 = .ok (.bipush (-10), 2) := o16 hcX10_town (a := 246) rfl rfl
theorem dX10_town_58 : decode cX10_town 58 = .ok (.aload_n 0, 1) := o42 hcX10_town rfl
theorem dX10_town_59 : decode cX10_town 59 = .ok (.getfield 21, 3) := o180 hcX10_town rfl
theorem dX10_town_62 : decode cX10_town 62 = .ok (.getfield 135, 3) := o180 hcX10_town rfl
theorem dX10_town_65 : decode cX10_town 65 = .ok (.isub, 1) := o100 hcX10_town rfl
theorem dX10_town_66 : decode cX10_town 66 = .ok (.ireturn, 1) := o172 hcX10_town rfl
theorem dX10_town_67 : decode cX10_town 67 = .ok (.aload_n 0, 1) := o42 hcX10_town rfl
theorem dX10_town_68 : decode cX10_town 68 = .ok (.getfield 42, 3) := o180 hcX10_town rfl
theorem dX10_town_71 : decode cX10_town 71 = .ok (.aload_n 0, 1) := o42 hcX10_town rfl
theorem dX10_town_72 : decode cX10_town 72 = .ok (.getfield 45, 3) := o180 hcX10_town rfl
theorem dX10_town_75 : decode cX10_town 75 = .ok (.aload_n 0, 1) := o42 hcX10_town rfl
theorem dX10_town_76 : decode cX10_town 76 = .ok (.getfield 21, 3) := o180 hcX10_town rfl
theorem dX10_town_79 : decode cX10_town 79 = .ok (.getfield 138, 3) := o180 hcX10_town rfl
theorem dX10_town_82 : decode cX10_town 82 = .ok (.aload_n 0, 1) := o42 hcX10_town rfl
theorem dX10_town_83 : decode cX10_town 83 = .ok (.getfield 21, 3) := o180 hcX10_town rfl
theorem dX10_town_86 : decode cX10_town 86 = .ok (.getfield 141, 3) := o180 hcX10_town rfl
theorem dX10_town_89 : decode cX10_town 89 = .ok (.invokevirtual 144, 3) := o182 hcX10_town rfl
theorem dX10_town_92 : decode cX10_town 92 = .ok (.putfield 146, 3) := o181 hcX10_town rfl
theorem dX10_town_95 : decode cX10_town 95 = .ok (.aload_n 0, 1) := o42 hcX10_town rfl
theorem dX10_town_96 : decode cX10_town 96 = .ok (.getfield 42, 3) := o180 hcX10_town rfl
theorem dX10_town_99 : decode cX10_town 99 = .ok (.getfield 146, 3) := o180 hcX10_town rfl
theorem dX10_town_102 : decode cX10_town 102 = .ok (.ireturn, 1) := o172 hcX10_town rfl
theorem dX10_dawn_0 : decode cX10_dawn 0 = .ok (.aload_n 0, 1) := o42 hcX10_dawn rfl
theorem dX10_dawn_1 : decode cX10_dawn 1 = .ok (.getfield 45, 3) := o180 hcX10_dawn rfl
theorem dX10_dawn_4 : decode cX10_dawn 4 = .ok (.aload_n 0, 1) := o42 hcX10_dawn rfl
theorem dX10_dawn_5 : decode cX10_dawn 5 = .ok (.getfield 42, 3) := o180 hcX10_dawn rfl
theorem dX10_dawn_8 : decode cX10_dawn 8 = .ok (.getfield 146, 3) := o180 hcX10_dawn rfl
theorem dX10_dawn_11 : decode cX10_dawn 11 = .ok (.invokevirtual 149, 3) := o182 hcX10_dawn rfl
theorem dX10_dawn_14 : decode cX10_dawn 14 = .ok (.ireturn, 1) := o172 hcX10_dawn rfl
theorem dX10_visit_0 : decode cX10_visit 0 = .ok (.aload_n 0, 1) := o42 hcX10_visit rfl
theorem dX10_visit_1 : decode cX10_visit 1 = .ok (.getfield 42, 3) := o180 hcX10_visit rfl
theorem dX10_visit_4 : decode cX10_visit 4 = .ok (.iload_n 1, 1) := o27 hcX10_visit rfl
theorem dX10_visit_5 : decode cX10_visit 5 = .ok (.invokevirtual 90, 3) := o182 hcX10_visit rfl
theorem dX10_visit_8 : decode cX10_visit 8 = .ok (.ifCond .eq 14, 3) := o153 hcX10_visit (a := 14) rfl rfl
theorem dX10_visit_11 : decode cX10_visit 11 = .ok (.aload_n 0, 1) := o42 hcX10_visit rfl
theorem dX10_visit_12 : decode cX10_visit 12 = .ok (.getfield 42, 3) := o180 hcX10_visit rfl
theorem dX10_visit_15 : decode cX10_visit 15 = .ok (.iload_n 2, 1) := o28 hcX10_visit rfl
theorem dX10_visit_16 : decode cX10_visit 16 = .ok (.invokevirtual 66, 3) := o182 hcX10_visit rfl
theorem dX10_visit_19 : decode cX10_visit 19 = .ok (.ifCond .ne 5, 3) := o154 hcX10_visit (a := 5) rfl rfl
theorem dX10_visit_22 : decode cX10_visit 22 = .ok (.iconst (-1), 1) := o2 hcX10_visit rfl
theorem dX10_visit_23 : decode cX10_visit 23 = .ok (.ireturn, 1) := o172 hcX10_visit rfl
theorem dX10_visit_24 : decode cX10_visit 24 = .ok (.aload_n 0, 1) := o42 hcX10_visit rfl
theorem dX10_visit_25 : decode cX10_visit 25 = .ok (.getfield 54, 3) := o180 hcX10_visit rfl
theorem dX10_visit_28 : decode cX10_visit 28 = .ok (.iload_n 1, 1) := o27 hcX10_visit rfl
theorem dX10_visit_29 : decode cX10_visit 29 = .ok (.iload_n 2, 1) := o28 hcX10_visit rfl
theorem dX10_visit_30 : decode cX10_visit 30 = .ok (.aload_n 0, 1) := o42 hcX10_visit rfl
theorem dX10_visit_31 : decode cX10_visit 31 = .ok (.getfield 42, 3) := o180 hcX10_visit rfl
theorem dX10_visit_34 : decode cX10_visit 34 = .ok (.getfield 80, 3) := o180 hcX10_visit rfl
theorem dX10_visit_37 : decode cX10_visit 37 = .ok (.iload_n 2, 1) := o28 hcX10_visit rfl
theorem dX10_visit_38 : decode cX10_visit 38 = .ok (.iaload, 1) := o46 hcX10_visit rfl
theorem dX10_visit_39 : decode cX10_visit 39 = .ok (.invokevirtual 152, 3) := o182 hcX10_visit rfl
theorem dX10_visit_42 : decode cX10_visit 42 = .ok (.istore 4, 2) := o54 hcX10_visit rfl
theorem dX10_visit_44 : decode cX10_visit 44 = .ok (.iload_n 3, 1) := o29 hcX10_visit rfl
theorem dX10_visit_45 : decode cX10_visit 45 = .ok (.tableswitch 60 0 2 #[27, 38, 49], 27) := by decide +kernel
theorem dX10_visit_72 : decode cX10_visit 72 = .ok (.aload_n 0, 1) := o42 hcX10_visit rfl
theorem dX10_visit_73 : decode cX10_visit 73 = .ok (.getfield 54, 3) := o180 hcX10_visit rfl
theorem dX10_visit_76 : decode cX10_visit 76 = .ok (.getfield 156, 3) := o180 hcX10_visit rfl
theorem dX10_visit_79 : decode cX10_visit 79 = .ok (.getfield 160, 3) := o180 hcX10_visit rfl
theorem dX10_visit_82 : decode cX10_visit 82 = .ok (.ireturn, 1) := o172 hcX10_visit rfl
theorem dX10_visit_83 : decode cX10_visit 83 = .ok (.iload 4, 2) := o21 hcX10_visit rfl
theorem dX10_visit_85 : decode cX10_visit 85 = .ok (.ifCond .eq 7, 3) := o153 hcX10_visit (a := 7) rfl rfl
theorem dX10_visit_88 : decode cX10_visit 88 = .ok (.iconst 1, 1) := o4 hcX10_visit rfl
theorem dX10_visit_89 : decode cX10_visit 89 = .ok (.goto 4, 3) := o167 hcX10_visit (a := 4) rfl rfl
theorem dX10_visit_92 : decode cX10_visit 92 = .ok (.iconst 0, 1) := o3 hcX10_visit rfl
theorem dX10_visit_93 : decode cX10_visit 93 = .ok (.ireturn, 1) := o172 hcX10_visit rfl
theorem dX10_visit_94 : decode cX10_visit 94 = .ok (.aload_n 0, 1) := o42 hcX10_visit rfl
theorem dX10_visit_95 : decode cX10_visit 95 = .ok (.getfield 54, 3) := o180 hcX10_visit rfl
theorem dX10_visit_98 : decode cX10_visit 98 = .ok (.getfield 156, 3) := o180 hcX10_visit rfl
theorem dX10_visit_101 : decode cX10_visit 101 = .ok (.getfield 165, 3) := o180 hcX10_visit rfl
theorem dX10_visit_104 : decode cX10_visit 104 = .ok (.ireturn, 1) := o172 hcX10_visit rfl
theorem dX10_visit_105 : decode cX10_visit 105 = .ok (.iconst (-1), 1) := o2 hcX10_visit rfl
theorem dX10_visit_106 : decode cX10_visit 106 = .ok (.ireturn, 1) := o172 hcX10_visit rfl
theorem dX10_way_0 : decode cX10_way 0 = .ok (.iload_n 1, 1) := o27 hcX10_way rfl
theorem dX10_way_1 : decode cX10_way 1 = .ok (.iconst (-1), 1) := o2 hcX10_way rfl
theorem dX10_way_2 : decode cX10_way 2 = .ok (.if_icmp .ne 14, 3) := o160 hcX10_way (a := 14) rfl rfl
theorem dX10_way_5 : decode cX10_way 5 = .ok (.aload_n 0, 1) := o42 hcX10_way rfl
theorem dX10_way_6 : decode cX10_way 6 = .ok (.getfield 42, 3) := o180 hcX10_way rfl
theorem dX10_way_9 : decode cX10_way 9 = .ok (.getfield 168, 3) := o180 hcX10_way rfl
theorem dX10_way_12 : decode cX10_way 12 = .ok (.invokevirtual 172, 3) := o182 hcX10_way rfl
theorem dX10_way_15 : decode cX10_way 15 = .ok (.ireturn, 1) := o172 hcX10_way rfl
theorem dX10_way_16 : decode cX10_way 16 = .ok (.aload_n 0, 1) := o42 hcX10_way rfl
theorem dX10_way_17 : decode cX10_way 17 = .ok (.getfield 42, 3) := o180 hcX10_way rfl
theorem dX10_way_20 : decode cX10_way 20 = .ok (.iload_n 1, 1) := o27 hcX10_way rfl
theorem dX10_way_21 : decode cX10_way 21 = .ok (.invokevirtual 66, 3) := o182 hcX10_way rfl
theorem dX10_way_24 : decode cX10_way 24 = .ok (.ifCond .ne 5, 3) := o154 hcX10_way (a := 5) rfl rfl
theorem dX10_way_27 : decode cX10_way 27 = .ok (.iconst (-1), 1) := o2 hcX10_way rfl
theorem dX10_way_28 : decode cX10_way 28 = .ok (.ireturn, 1) := o172 hcX10_way rfl
theorem dX10_way_29 : decode cX10_way 29 = .ok (.aload_n 0, 1) := o42 hcX10_way rfl
theorem dX10_way_30 : decode cX10_way 30 = .ok (.getfield 42, 3) := o180 hcX10_way rfl
theorem dX10_way_33 : decode cX10_way 33 = .ok (.getfield 168, 3) := o180 hcX10_way rfl
theorem dX10_way_36 : decode cX10_way 36 = .ok (.iload_n 1, 1) := o27 hcX10_way rfl
theorem dX10_way_37 : decode cX10_way 37 = .ok (.iconst 0, 1) := o3 hcX10_way rfl
theorem dX10_way_38 : decode cX10_way 38 = .ok (.invokevirtual 178, 3) := o182 hcX10_way rfl
theorem dX10_way_41 : decode cX10_way 41 = .ok (.ireturn, 1) := o172 hcX10_way rfl
theorem dX10_goes_0 : decode cX10_goes 0 = .ok (.aload_n 0, 1) := o42 hcX10_goes rfl
theorem dX10_goes_1 : decode cX10_goes 1 = .ok (.getfield 42, 3) := o180 hcX10_goes rfl
theorem dX10_goes_4 : decode cX10_goes 4 = .ok (.iload_n 1, 1) := o27 hcX10_goes rfl
theorem dX10_goes_5 : decode cX10_goes 5 = .ok (.invokevirtual 90, 3) := o182 hcX10_goes rfl
theorem dX10_goes_8 : decode cX10_goes 8 = .ok (.ifCond .ne 5, 3) := o154 hcX10_goes (a := 5) rfl rfl
theorem dX10_goes_11 : decode cX10_goes 11 = .ok (.iconst (-1), 1) := o2 hcX10_goes rfl
theorem dX10_goes_12 : decode cX10_goes 12 = .ok (.ireturn, 1) := o172 hcX10_goes rfl
theorem dX10_goes_13 : decode cX10_goes 13 = .ok (.aload_n 0, 1) := o42 hcX10_goes rfl
theorem dX10_goes_14 : decode cX10_goes 14 = .ok (.getfield 54, 3) := o180 hcX10_goes rfl
theorem dX10_goes_17 : decode cX10_goes 17 = .ok (.iload_n 1, 1) := o27 hcX10_goes rfl
theorem dX10_goes_18 : decode cX10_goes 18 = .ok (.invokevirtual 179, 3) := o182 hcX10_goes rfl
theorem dX10_goes_21 : decode cX10_goes 21 = .ok (.istore_n 3, 1) := o62 hcX10_goes rfl
theorem dX10_goes_22 : decode cX10_goes 22 = .ok (.iload_n 2, 1) := o28 hcX10_goes rfl
theorem dX10_goes_23 : decode cX10_goes 23 = .ok (.tableswitch 64 0 3 #[29, 40, 51, 62], 29) := by decide +kernel
theorem dX10_goes_52 : decode cX10_goes 52 = .ok (.aload_n 0, 1) := o42 hcX10_goes rfl
theorem dX10_goes_53 : decode cX10_goes 53 = .ok (.getfield 54, 3) := o180 hcX10_goes rfl
theorem dX10_goes_56 : decode cX10_goes 56 = .ok (.getfield 156, 3) := o180 hcX10_goes rfl
theorem dX10_goes_59 : decode cX10_goes 59 = .ok (.getfield 160, 3) := o180 hcX10_goes rfl
theorem dX10_goes_62 : decode cX10_goes 62 = .ok (.ireturn, 1) := o172 hcX10_goes rfl
theorem dX10_goes_63 : decode cX10_goes 63 = .ok (.aload_n 0, 1) := o42 hcX10_goes rfl
theorem dX10_goes_64 : decode cX10_goes 64 = .ok (.getfield 54, 3) := o180 hcX10_goes rfl
theorem dX10_goes_67 : decode cX10_goes 67 = .ok (.getfield 156, 3) := o180 hcX10_goes rfl
theorem dX10_goes_70 : decode cX10_goes 70 = .ok (.getfield 165, 3) := o180 hcX10_goes rfl
theorem dX10_goes_73 : decode cX10_goes 73 = .ok (.ireturn, 1) := o172 hcX10_goes rfl
theorem dX10_goes_74 : decode cX10_goes 74 = .ok (.aload_n 0, 1) := o42 hcX10_goes rfl
theorem dX10_goes_75 : decode cX10_goes 75 = .ok (.getfield 54, 3) := o180 hcX10_goes rfl
theorem dX10_goes_78 : decode cX10_goes 78 = .ok (.getfield 156, 3) := o180 hcX10_goes rfl
theorem dX10_goes_81 : decode cX10_goes 81 = .ok (.getfield 182, 3) := o180 hcX10_goes rfl
theorem dX10_goes_84 : decode cX10_goes 84 = .ok (.ireturn, 1) := o172 hcX10_goes rfl
theorem dX10_goes_85 : decode cX10_goes 85 = .ok (.iload_n 3, 1) := o29 hcX10_goes rfl
theorem dX10_goes_86 : decode cX10_goes 86 = .ok (.ireturn, 1) := o172 hcX10_goes rfl
theorem dX10_goes_87 : decode cX10_goes 87 = .ok (.iconst (-1), 1) := o2 hcX10_goes rfl
theorem dX10_goes_88 : decode cX10_goes 88 = .ok (.ireturn, 1) := o172 hcX10_goes rfl
theorem dX10_round_0 : decode cX10_round 0 = .ok (.iload_n 3, 1) := o29 hcX10_round rfl
theorem dX10_round_1 : decode cX10_round 1 = .ok (.bipush 10, 2) := o16 hcX10_round (a := 10) rfl rfl
theorem dX10_round_3 : decode cX10_round 3 = .ok (.isub, 1) := o100 hcX10_round rfl
theorem dX10_round_4 : decode cX10_round 4 = .ok (.istore 4, 2) := o54 hcX10_round rfl
theorem dX10_round_6 : decode cX10_round 6 = .ok (.iload 4, 2) := o21 hcX10_round rfl
theorem dX10_round_8 : decode cX10_round 8 = .ok (.iconst 4, 1) := o7 hcX10_round rfl
theorem dX10_round_9 : decode cX10_round 9 = .ok (.invokestatic 58, 3) := o184 hcX10_round rfl
theorem dX10_round_12 : decode cX10_round 12 = .ok (.istore 5, 2) := o54 hcX10_round rfl
theorem dX10_round_14 : decode cX10_round 14 = .ok (.aload_n 0, 1) := o42 hcX10_round rfl
theorem dX10_round_15 : decode cX10_round 15 = .ok (.getfield 42, 3) := o180 hcX10_round rfl
theorem dX10_round_18 : decode cX10_round 18 = .ok (.iload_n 1, 1) := o27 hcX10_round rfl
theorem dX10_round_19 : decode cX10_round 19 = .ok (.invokevirtual 90, 3) := o182 hcX10_round rfl
theorem dX10_round_22 : decode cX10_round 22 = .ok (.ifCond .eq 16, 3) := o153 hcX10_round (a := 16) rfl rfl
theorem dX10_round_25 : decode cX10_round 25 = .ok (.iload_n 3, 1) := o29 hcX10_round rfl
theorem dX10_round_26 : decode cX10_round 26 = .ok (.iconst 1, 1) := o4 hcX10_round rfl
theorem dX10_round_27 : decode cX10_round 27 = .ok (.invokestatic 58, 3) := o184 hcX10_round rfl
theorem dX10_round_30 : decode cX10_round 30 = .ok (.ifCond .ne 10, 3) := o154 hcX10_round (a := 10) rfl rfl
theorem dX10_round_33 : decode cX10_round 33 = .ok (.iload 5, 2) := o21 hcX10_round rfl
theorem dX10_round_35 : decode cX10_round 35 = .ok (.ifCond .ne 5, 3) := o154 hcX10_round (a := 5) rfl rfl
theorem dX10_round_38 : decode cX10_round 38 = .ok (.iconst (-1), 1) := o2 hcX10_round rfl
theorem dX10_round_39 : decode cX10_round 39 = .ok (.ireturn, 1) := o172 hcX10_round rfl
theorem dX10_round_40 : decode cX10_round 40 = .ok (.iload_n 2, 1) := o28 hcX10_round rfl
theorem dX10_round_41 : decode cX10_round 41 = .ok (.iconst 1, 1) := o4 hcX10_round rfl
theorem dX10_round_42 : decode cX10_round 42 = .ok (.aload_n 0, 1) := o42 hcX10_round rfl
theorem dX10_round_43 : decode cX10_round 43 = .ok (.getfield 42, 3) := o180 hcX10_round rfl
theorem dX10_round_46 : decode cX10_round 46 = .ok (.getfield 185, 3) := o180 hcX10_round rfl
theorem dX10_round_49 : decode cX10_round 49 = .ok (.ishl, 1) := o120 hcX10_round rfl
theorem dX10_round_50 : decode cX10_round 50 = .ok (.iconst 1, 1) := o4 hcX10_round rfl
theorem dX10_round_51 : decode cX10_round 51 = .ok (.isub, 1) := o100 hcX10_round rfl
theorem dX10_round_52 : decode cX10_round 52 = .ok (.invokestatic 58, 3) := o184 hcX10_round rfl
theorem dX10_round_55 : decode cX10_round 55 = .ok (.ifCond .eq 11, 3) := o153 hcX10_round (a := 11) rfl rfl
theorem dX10_round_58 : decode cX10_round 58 = .ok (.iload_n 2, 1) := o28 hcX10_round rfl
theorem dX10_round_59 : decode cX10_round 59 = .ok (.invokestatic 188, 3) := o184 hcX10_round rfl
theorem dX10_round_62 : decode cX10_round 62 = .ok (.iconst 5, 1) := o8 hcX10_round rfl
theorem dX10_round_63 : decode cX10_round 63 = .ok (.if_icmp .le 6, 3) := o164 hcX10_round (a := 6) rfl rfl
theorem dX10_round_66 : decode cX10_round 66 = .ok (.bipush (-2), 2) := o16 hcX10_round (a := 254) rfl rfl
theorem dX10_round_68 : decode cX10_round 68 = .ok (.ireturn, 1) := o172 hcX10_round rfl
theorem dX10_round_69 : decode cX10_round 69 = .ok (.aload_n 0, 1) := o42 hcX10_round rfl
theorem dX10_round_70 : decode cX10_round 70 = .ok (.getfield 54, 3) := o180 hcX10_round rfl
theorem dX10_round_73 : decode cX10_round 73 = .ok (.iload_n 1, 1) := o27 hcX10_round rfl
theorem dX10_round_74 : decode cX10_round 74 = .ok (.iload_n 2, 1) := o28 hcX10_round rfl
theorem dX10_round_75 : decode cX10_round 75 = .ok (.invokevirtual 193, 3) := o182 hcX10_round rfl
theorem dX10_round_78 : decode cX10_round 78 = .ok (.astore 6, 2) := o58 hcX10_round rfl
theorem dX10_round_80 : decode cX10_round 80 = .ok (.iload 5, 2) := o21 hcX10_round rfl
theorem dX10_round_82 : decode cX10_round 82 = .ok (.ifCond .eq 27, 3) := o153 hcX10_round (a := 27) rfl rfl
theorem dX10_round_85 : decode cX10_round 85 = .ok (.iload 4, 2) := o21 hcX10_round rfl
theorem dX10_round_87 : decode cX10_round 87 = .ok (.aload 6, 2) := o25 hcX10_round rfl
theorem dX10_round_89 : decode cX10_round 89 = .ok (.getfield 197, 3) := o180 hcX10_round rfl
theorem dX10_round_92 : decode cX10_round 92 = .ok (.if_icmp .ge 14, 3) := o162 hcX10_round (a := 14) rfl rfl
theorem dX10_round_95 : decode cX10_round 95 = .ok (.aload 6, 2) := o25 hcX10_round rfl
theorem dX10_round_97 : decode cX10_round 97 = .ok (.getfield 200, 3) := o180 hcX10_round rfl
theorem dX10_round_100 : decode cX10_round 100 = .ok (.iload 4, 2) := o21 hcX10_round rfl
theorem dX10_round_102 : decode cX10_round 102 = .ok (.iaload, 1) := o46 hcX10_round rfl
theorem dX10_round_103 : decode cX10_round 103 = .ok (.goto 5, 3) := o167 hcX10_round (a := 5) rfl rfl
theorem dX10_round_106 : decode cX10_round 106 = .ok (.bipush (-5), 2) := o16 hcX10_round (a := 251) rfl rfl
theorem dX10_round_108 : decode cX10_round 108 = .ok (.ireturn, 1) := o172 hcX10_round rfl
theorem dX10_round_109 : decode cX10_round 109 = .ok (.iload_n 3, 1) := o29 hcX10_round rfl
theorem dX10_round_110 : decode cX10_round 110 = .ok (.ifCond .ne 11, 3) := o154 hcX10_round (a := 11) rfl rfl
theorem dX10_round_113 : decode cX10_round 113 = .ok (.aload 6, 2) := o25 hcX10_round rfl
theorem dX10_round_115 : decode cX10_round 115 = .ok (.getfield 203, 3) := o180 hcX10_round rfl
theorem dX10_round_118 : decode cX10_round 118 = .ok (.goto 8, 3) := o167 hcX10_round (a := 8) rfl rfl
theorem dX10_round_121 : decode cX10_round 121 = .ok (.aload 6, 2) := o25 hcX10_round rfl
theorem dX10_round_123 : decode cX10_round 123 = .ok (.getfield 206, 3) := o180 hcX10_round rfl
theorem dX10_round_126 : decode cX10_round 126 = .ok (.ireturn, 1) := o172 hcX10_round rfl
theorem dX10_keep_0 : decode cX10_keep 0 = .ok (.aload_n 0, 1) := o42 hcX10_keep rfl
theorem dX10_keep_1 : decode cX10_keep 1 = .ok (.getfield 42, 3) := o180 hcX10_keep rfl
theorem dX10_keep_4 : decode cX10_keep 4 = .ok (.iload_n 1, 1) := o27 hcX10_keep rfl
theorem dX10_keep_5 : decode cX10_keep 5 = .ok (.invokevirtual 66, 3) := o182 hcX10_keep rfl
theorem dX10_keep_8 : decode cX10_keep 8 = .ok (.ifCond .eq 14, 3) := o153 hcX10_keep (a := 14) rfl rfl
theorem dX10_keep_11 : decode cX10_keep 11 = .ok (.aload_n 0, 1) := o42 hcX10_keep rfl
theorem dX10_keep_12 : decode cX10_keep 12 = .ok (.getfield 42, 3) := o180 hcX10_keep rfl
theorem dX10_keep_15 : decode cX10_keep 15 = .ok (.iload_n 2, 1) := o28 hcX10_keep rfl
theorem dX10_keep_16 : decode cX10_keep 16 = .ok (.invokevirtual 90, 3) := o182 hcX10_keep rfl
theorem dX10_keep_19 : decode cX10_keep 19 = .ok (.ifCond .ne 5, 3) := o154 hcX10_keep (a := 5) rfl rfl
theorem dX10_keep_22 : decode cX10_keep 22 = .ok (.iconst (-1), 1) := o2 hcX10_keep rfl
theorem dX10_keep_23 : decode cX10_keep 23 = .ok (.ireturn, 1) := o172 hcX10_keep rfl
theorem dX10_keep_24 : decode cX10_keep 24 = .ok (.aload_n 0, 1) := o42 hcX10_keep rfl
theorem dX10_keep_25 : decode cX10_keep 25 = .ok (.getfield 54, 3) := o180 hcX10_keep rfl
theorem dX10_keep_28 : decode cX10_keep 28 = .ok (.iload_n 2, 1) := o28 hcX10_keep rfl
theorem dX10_keep_29 : decode cX10_keep 29 = .ok (.iload_n 1, 1) := o27 hcX10_keep rfl
theorem dX10_keep_30 : decode cX10_keep 30 = .ok (.invokevirtual 207, 3) := o182 hcX10_keep rfl
theorem dX10_keep_33 : decode cX10_keep 33 = .ok (.ireturn, 1) := o172 hcX10_keep rfl
theorem dX10_more_0 : decode cX10_more 0 = .ok (.iload_n 2, 1) := o28 hcX10_more rfl
theorem dX10_more_1 : decode cX10_more 1 = .ok (.iconst 1, 1) := o4 hcX10_more rfl
theorem dX10_more_2 : decode cX10_more 2 = .ok (.invokestatic 58, 3) := o184 hcX10_more rfl
theorem dX10_more_5 : decode cX10_more 5 = .ok (.ifCond .ne 5, 3) := o154 hcX10_more (a := 5) rfl rfl
theorem dX10_more_8 : decode cX10_more 8 = .ok (.iconst (-1), 1) := o2 hcX10_more rfl
theorem dX10_more_9 : decode cX10_more 9 = .ok (.ireturn, 1) := o172 hcX10_more rfl
theorem dX10_more_10 : decode cX10_more 10 = .ok (.iload_n 1, 1) := o27 hcX10_more rfl
theorem dX10_more_11 : decode cX10_more 11 = .ok (.bipush 99, 2) := o16 hcX10_more (a := 99) rfl rfl
theorem dX10_more_13 : decode cX10_more 13 = .ok (.invokestatic 58, 3) := o184 hcX10_more rfl
theorem dX10_more_16 : decode cX10_more 16 = .ok (.ifCond .ne 6, 3) := o154 hcX10_more (a := 6) rfl rfl
theorem dX10_more_19 : decode cX10_more 19 = .ok (.bipush (-2), 2) := o16 hcX10_more (a := 254) rfl rfl
theorem dX10_more_21 : decode cX10_more 21 = .ok (.ireturn, 1) := o172 hcX10_more rfl
theorem dX10_more_22 : decode cX10_more 22 = .ok (.aload_n 0, 1) := o42 hcX10_more rfl
theorem dX10_more_23 : decode cX10_more 23 = .ok (.getfield 54, 3) := o180 hcX10_more rfl
theorem dX10_more_26 : decode cX10_more 26 = .ok (.iload_n 1, 1) := o27 hcX10_more rfl
theorem dX10_more_27 : decode cX10_more 27 = .ok (.invokevirtual 210, 3) := o182 hcX10_more rfl
theorem dX10_more_30 : decode cX10_more 30 = .ok (.istore_n 3, 1) := o62 hcX10_more rfl
theorem dX10_more_31 : decode cX10_more 31 = .ok (.iload_n 3, 1) := o29 hcX10_more rfl
theorem dX10_more_32 : decode cX10_more 32 = .ok (.bipush (-5), 2) := o16 hcX10_more (a := 251) rfl rfl
theorem dX10_more_34 : decode cX10_more 34 = .ok (.if_icmp .eq 7, 3) := o159 hcX10_more (a := 7) rfl rfl
theorem dX10_more_37 : decode cX10_more 37 = .ok (.iload_n 2, 1) := o28 hcX10_more rfl
theorem dX10_more_38 : decode cX10_more 38 = .ok (.ifCond .ne 5, 3) := o154 hcX10_more (a := 5) rfl rfl
theorem dX10_more_41 : decode cX10_more 41 = .ok (.iload_n 3, 1) := o29 hcX10_more rfl
theorem dX10_more_42 : decode cX10_more 42 = .ok (.ireturn, 1) := o172 hcX10_more rfl
theorem dX10_more_43 : decode cX10_more 43 = .ok (.aload_n 0, 1) := o42 hcX10_more rfl
theorem dX10_more_44 : decode cX10_more 44 = .ok (.getfield 54, 3) := o180 hcX10_more rfl
theorem dX10_more_47 : decode cX10_more 47 = .ok (.iload_n 3, 1) := o29 hcX10_more rfl
theorem dX10_more_48 : decode cX10_more 48 = .ok (.iload_n 1, 1) := o27 hcX10_more rfl
theorem dX10_more_49 : decode cX10_more 49 = .ok (.invokevirtual 213, 3) := o182 hcX10_more rfl
theorem dX10_more_52 : decode cX10_more 52 = .ok (.ireturn, 1) := o172 hcX10_more rfl
theorem dX10_share_0 : decode cX10_share 0 = .ok (.aload_n 0, 1) := o42 hcX10_share rfl
theorem dX10_share_1 : decode cX10_share 1 = .ok (.getfield 42, 3) := o180 hcX10_share rfl
theorem dX10_share_4 : decode cX10_share 4 = .ok (.iload_n 1, 1) := o27 hcX10_share rfl
theorem dX10_share_5 : decode cX10_share 5 = .ok (.invokevirtual 90, 3) := o182 hcX10_share rfl
theorem dX10_share_8 : decode cX10_share 8 = .ok (.ifCond .eq 34, 3) := o153 hcX10_share (a := 34) rfl rfl
theorem dX10_share_11 : decode cX10_share 11 = .ok (.aload_n 0, 1) := o42 hcX10_share rfl
theorem dX10_share_12 : decode cX10_share 12 = .ok (.getfield 42, 3) := o180 hcX10_share rfl
theorem dX10_share_15 : decode cX10_share 15 = .ok (.iload_n 2, 1) := o28 hcX10_share rfl
theorem dX10_share_16 : decode cX10_share 16 = .ok (.invokevirtual 90, 3) := o182 hcX10_share rfl
theorem dX10_share_19 : decode cX10_share 19 = .ok (.ifCond .eq 23, 3) := o153 hcX10_share (a := 23) rfl rfl
theorem dX10_share_22 : decode cX10_share 22 = .ok (.aload_n 0, 1) := o42 hcX10_share rfl
theorem dX10_share_23 : decode cX10_share 23 = .ok (.getfield 42, 3) := o180 hcX10_share rfl
theorem dX10_share_26 : decode cX10_share 26 = .ok (.iload_n 3, 1) := o29 hcX10_share rfl
theorem dX10_share_27 : decode cX10_share 27 = .ok (.invokevirtual 66, 3) := o182 hcX10_share rfl
theorem dX10_share_30 : decode cX10_share 30 = .ok (.ifCond .eq 12, 3) := o153 hcX10_share (a := 12) rfl rfl
theorem dX10_share_33 : decode cX10_share 33 = .ok (.iload 4, 2) := o21 hcX10_share rfl
theorem dX10_share_35 : decode cX10_share 35 = .ok (.iconst 1, 1) := o4 hcX10_share rfl
theorem dX10_share_36 : decode cX10_share 36 = .ok (.invokestatic 58, 3) := o184 hcX10_share rfl
theorem dX10_share_39 : decode cX10_share 39 = .ok (.ifCond .ne 5, 3) := o154 hcX10_share (a := 5) rfl rfl
theorem dX10_share_42 : decode cX10_share 42 = .ok (.iconst (-1), 1) := o2 hcX10_share rfl
theorem dX10_share_43 : decode cX10_share 43 = .ok (.ireturn, 1) := o172 hcX10_share rfl
theorem dX10_share_44 : decode cX10_share 44 = .ok (.iload_n 1, 1) := o27 hcX10_share rfl
theorem dX10_share_45 : decode cX10_share 45 = .ok (.iload_n 2, 1) := o28 hcX10_share rfl
theorem dX10_share_46 : decode cX10_share 46 = .ok (.if_icmp .ne 6, 3) := o160 hcX10_share (a := 6) rfl rfl
theorem dX10_share_49 : decode cX10_share 49 = .ok (.bipush (-2), 2) := o16 hcX10_share (a := 254) rfl rfl
theorem dX10_share_51 : decode cX10_share 51 = .ok (.ireturn, 1) := o172 hcX10_share rfl
theorem dX10_share_52 : decode cX10_share 52 = .ok (.aload_n 0, 1) := o42 hcX10_share rfl
theorem dX10_share_53 : decode cX10_share 53 = .ok (.getfield 54, 3) := o180 hcX10_share rfl
theorem dX10_share_56 : decode cX10_share 56 = .ok (.iload_n 1, 1) := o27 hcX10_share rfl
theorem dX10_share_57 : decode cX10_share 57 = .ok (.iload_n 2, 1) := o28 hcX10_share rfl
theorem dX10_share_58 : decode cX10_share 58 = .ok (.iload_n 3, 1) := o29 hcX10_share rfl
theorem dX10_share_59 : decode cX10_share 59 = .ok (.invokevirtual 216, 3) := o182 hcX10_share rfl
theorem dX10_share_62 : decode cX10_share 62 = .ok (.istore 5, 2) := o54 hcX10_share rfl
theorem dX10_share_64 : decode cX10_share 64 = .ok (.iload 4, 2) := o21 hcX10_share rfl
theorem dX10_share_66 : decode cX10_share 66 = .ok (.ifCond .ne 6, 3) := o154 hcX10_share (a := 6) rfl rfl
theorem dX10_share_69 : decode cX10_share 69 = .ok (.iload 5, 2) := o21 hcX10_share rfl
theorem dX10_share_71 : decode cX10_share 71 = .ok (.ireturn, 1) := o172 hcX10_share rfl
theorem dX10_share_72 : decode cX10_share 72 = .ok (.aload_n 0, 1) := o42 hcX10_share rfl
theorem dX10_share_73 : decode cX10_share 73 = .ok (.getfield 54, 3) := o180 hcX10_share rfl
theorem dX10_share_76 : decode cX10_share 76 = .ok (.getfield 156, 3) := o180 hcX10_share rfl
theorem dX10_share_79 : decode cX10_share 79 = .ok (.iload_n 1, 1) := o27 hcX10_share rfl
theorem dX10_share_80 : decode cX10_share 80 = .ok (.iload_n 3, 1) := o29 hcX10_share rfl
theorem dX10_share_81 : decode cX10_share 81 = .ok (.iload 5, 2) := o21 hcX10_share rfl
theorem dX10_share_83 : decode cX10_share 83 = .ok (.invokevirtual 219, 3) := o182 hcX10_share rfl
theorem dX10_share_86 : decode cX10_share 86 = .ok (.istore 6, 2) := o54 hcX10_share rfl
theorem dX10_share_88 : decode cX10_share 88 = .ok (.aload_n 0, 1) := o42 hcX10_share rfl
theorem dX10_share_89 : decode cX10_share 89 = .ok (.getfield 54, 3) := o180 hcX10_share rfl
theorem dX10_share_92 : decode cX10_share 92 = .ok (.getfield 156, 3) := o180 hcX10_share rfl
theorem dX10_share_95 : decode cX10_share 95 = .ok (.iload_n 2, 1) := o28 hcX10_share rfl
theorem dX10_share_96 : decode cX10_share 96 = .ok (.iload_n 3, 1) := o29 hcX10_share rfl
theorem dX10_share_97 : decode cX10_share 97 = .ok (.iload 5, 2) := o21 hcX10_share rfl
theorem dX10_share_99 : decode cX10_share 99 = .ok (.invokevirtual 219, 3) := o182 hcX10_share rfl
theorem dX10_share_102 : decode cX10_share 102 = .ok (.istore 7, 2) := o54 hcX10_share rfl
theorem dX10_share_104 : decode cX10_share 104 = .ok (.iload 6, 2) := o21 hcX10_share rfl
theorem dX10_share_106 : decode cX10_share 106 = .ok (.ifCond .eq 7, 3) := o153 hcX10_share (a := 7) rfl rfl
theorem dX10_share_109 : decode cX10_share 109 = .ok (.iconst 1, 1) := o4 hcX10_share rfl
theorem dX10_share_110 : decode cX10_share 110 = .ok (.goto 4, 3) := o167 hcX10_share (a := 4) rfl rfl
theorem dX10_share_113 : decode cX10_share 113 = .ok (.iconst 0, 1) := o3 hcX10_share rfl
theorem dX10_share_114 : decode cX10_share 114 = .ok (.iload 7, 2) := o21 hcX10_share rfl
theorem dX10_share_116 : decode cX10_share 116 = .ok (.ifCond .eq 7, 3) := o153 hcX10_share (a := 7) rfl rfl
theorem dX10_share_119 : decode cX10_share 119 = .ok (.iconst 2, 1) := o5 hcX10_share rfl
theorem dX10_share_120 : decode cX10_share 120 = .ok (.goto 4, 3) := o167 hcX10_share (a := 4) rfl rfl
theorem dX10_share_123 : decode cX10_share 123 = .ok (.iconst 0, 1) := o3 hcX10_share rfl
theorem dX10_share_124 : decode cX10_share 124 = .ok (.iadd, 1) := o96 hcX10_share rfl
theorem dX10_share_125 : decode cX10_share 125 = .ok (.ireturn, 1) := o172 hcX10_share rfl
theorem dX10_watch_0 : decode cX10_watch 0 = .ok (.iload_n 1, 1) := o27 hcX10_watch rfl
theorem dX10_watch_1 : decode cX10_watch 1 = .ok (.iconst (-1), 1) := o2 hcX10_watch rfl
theorem dX10_watch_2 : decode cX10_watch 2 = .ok (.if_icmp .ne 14, 3) := o160 hcX10_watch (a := 14) rfl rfl
theorem dX10_watch_5 : decode cX10_watch 5 = .ok (.aload_n 0, 1) := o42 hcX10_watch rfl
theorem dX10_watch_6 : decode cX10_watch 6 = .ok (.getfield 42, 3) := o180 hcX10_watch rfl
theorem dX10_watch_9 : decode cX10_watch 9 = .ok (.getfield 222, 3) := o180 hcX10_watch rfl
theorem dX10_watch_12 : decode cX10_watch 12 = .ok (.invokevirtual 172, 3) := o182 hcX10_watch rfl
theorem dX10_watch_15 : decode cX10_watch 15 = .ok (.ireturn, 1) := o172 hcX10_watch rfl
theorem dX10_watch_16 : decode cX10_watch 16 = .ok (.aload_n 0, 1) := o42 hcX10_watch rfl
theorem dX10_watch_17 : decode cX10_watch 17 = .ok (.getfield 42, 3) := o180 hcX10_watch rfl
theorem dX10_watch_20 : decode cX10_watch 20 = .ok (.iload_n 1, 1) := o27 hcX10_watch rfl
theorem dX10_watch_21 : decode cX10_watch 21 = .ok (.invokevirtual 66, 3) := o182 hcX10_watch rfl
theorem dX10_watch_24 : decode cX10_watch 24 = .ok (.ifCond .ne 5, 3) := o154 hcX10_watch (a := 5) rfl rfl
theorem dX10_watch_27 : decode cX10_watch 27 = .ok (.iconst (-1), 1) := o2 hcX10_watch rfl
theorem dX10_watch_28 : decode cX10_watch 28 = .ok (.ireturn, 1) := o172 hcX10_watch rfl
theorem dX10_watch_29 : decode cX10_watch 29 = .ok (.aload_n 0, 1) := o42 hcX10_watch rfl
theorem dX10_watch_30 : decode cX10_watch 30 = .ok (.getfield 42, 3) := o180 hcX10_watch rfl
theorem dX10_watch_33 : decode cX10_watch 33 = .ok (.getfield 222, 3) := o180 hcX10_watch rfl
theorem dX10_watch_36 : decode cX10_watch 36 = .ok (.iload_n 1, 1) := o27 hcX10_watch rfl
theorem dX10_watch_37 : decode cX10_watch 37 = .ok (.iload_n 2, 1) := o28 hcX10_watch rfl
theorem dX10_watch_38 : decode cX10_watch 38 = .ok (.ifCond .eq 7, 3) := o153 hcX10_watch (a := 7) rfl rfl
theorem dX10_watch_41 : decode cX10_watch 41 = .ok (.iconst 1, 1) := o4 hcX10_watch rfl
theorem dX10_watch_42 : decode cX10_watch 42 = .ok (.goto 4, 3) := o167 hcX10_watch (a := 4) rfl rfl
theorem dX10_watch_45 : decode cX10_watch 45 = .ok (.iconst 0, 1) := o3 hcX10_watch rfl
theorem dX10_watch_46 : decode cX10_watch 46 = .ok (.invokevirtual 178, 3) := o182 hcX10_watch rfl
theorem dX10_watch_49 : decode cX10_watch 49 = .ok (.ireturn, 1) := o172 hcX10_watch rfl
theorem dX10_suspects_0 : decode cX10_suspects 0 = .ok (.aload_n 0, 1) := o42 hcX10_suspects rfl
theorem dX10_suspects_1 : decode cX10_suspects 1 = .ok (.getfield 54, 3) := o180 hcX10_suspects rfl
theorem dX10_suspects_4 : decode cX10_suspects 4 = .ok (.invokevirtual 225, 3) := o182 hcX10_suspects rfl
theorem dX10_suspects_7 : decode cX10_suspects 7 = .ok (.ireturn, 1) := o172 hcX10_suspects rfl
theorem dX10_next_0 : decode cX10_next 0 = .ok (.aload_n 0, 1) := o42 hcX10_next rfl
theorem dX10_next_1 : decode cX10_next 1 = .ok (.getfield 54, 3) := o180 hcX10_next rfl
theorem dX10_next_4 : decode cX10_next 4 = .ok (.invokevirtual 228, 3) := o182 hcX10_next rfl
theorem dX10_next_7 : decode cX10_next 7 = .ok (.ireturn, 1) := o172 hcX10_next rfl
theorem dX10_when_0 : decode cX10_when 0 = .ok (.aload_n 0, 1) := o42 hcX10_when rfl
theorem dX10_when_1 : decode cX10_when 1 = .ok (.getfield 42, 3) := o180 hcX10_when rfl
theorem dX10_when_4 : decode cX10_when 4 = .ok (.iload_n 1, 1) := o27 hcX10_when rfl
theorem dX10_when_5 : decode cX10_when 5 = .ok (.invokevirtual 90, 3) := o182 hcX10_when rfl
theorem dX10_when_8 : decode cX10_when 8 = .ok (.ifCond .eq 14, 3) := o153 hcX10_when (a := 14) rfl rfl
theorem dX10_when_11 : decode cX10_when 11 = .ok (.aload_n 0, 1) := o42 hcX10_when rfl
theorem dX10_when_12 : decode cX10_when 12 = .ok (.getfield 42, 3) := o180 hcX10_when rfl
theorem dX10_when_15 : decode cX10_when 15 = .ok (.iload_n 2, 1) := o28 hcX10_when rfl
theorem dX10_when_16 : decode cX10_when 16 = .ok (.invokevirtual 66, 3) := o182 hcX10_when rfl
theorem dX10_when_19 : decode cX10_when 19 = .ok (.ifCond .ne 5, 3) := o154 hcX10_when (a := 5) rfl rfl
theorem dX10_when_22 : decode cX10_when 22 = .ok (.iconst (-1), 1) := o2 hcX10_when rfl
theorem dX10_when_23 : decode cX10_when 23 = .ok (.ireturn, 1) := o172 hcX10_when rfl
theorem dX10_when_24 : decode cX10_when 24 = .ok (.aload_n 0, 1) := o42 hcX10_when rfl
theorem dX10_when_25 : decode cX10_when 25 = .ok (.getfield 54, 3) := o180 hcX10_when rfl
theorem dX10_when_28 : decode cX10_when 28 = .ok (.iload_n 1, 1) := o27 hcX10_when rfl
theorem dX10_when_29 : decode cX10_when 29 = .ok (.iload_n 2, 1) := o28 hcX10_when rfl
theorem dX10_when_30 : decode cX10_when 30 = .ok (.invokevirtual 231, 3) := o182 hcX10_when rfl
theorem dX10_when_33 : decode cX10_when 33 = .ok (.ireturn, 1) := o172 hcX10_when rfl
theorem dX10_odds_0 : decode cX10_odds 0 = .ok (.aload_n 0, 1) := o42 hcX10_odds rfl
theorem dX10_odds_1 : decode cX10_odds 1 = .ok (.getfield 42, 3) := o180 hcX10_odds rfl
theorem dX10_odds_4 : decode cX10_odds 4 = .ok (.iload_n 1, 1) := o27 hcX10_odds rfl
theorem dX10_odds_5 : decode cX10_odds 5 = .ok (.invokevirtual 90, 3) := o182 hcX10_odds rfl
theorem dX10_odds_8 : decode cX10_odds 8 = .ok (.ifCond .eq 22, 3) := o153 hcX10_odds (a := 22) rfl rfl
theorem dX10_odds_11 : decode cX10_odds 11 = .ok (.aload_n 0, 1) := o42 hcX10_odds rfl
theorem dX10_odds_12 : decode cX10_odds 12 = .ok (.getfield 42, 3) := o180 hcX10_odds rfl
theorem dX10_odds_15 : decode cX10_odds 15 = .ok (.iload_n 2, 1) := o28 hcX10_odds rfl
theorem dX10_odds_16 : decode cX10_odds 16 = .ok (.invokevirtual 66, 3) := o182 hcX10_odds rfl
theorem dX10_odds_19 : decode cX10_odds 19 = .ok (.ifCond .eq 11, 3) := o153 hcX10_odds (a := 11) rfl rfl
theorem dX10_odds_22 : decode cX10_odds 22 = .ok (.iload_n 3, 1) := o29 hcX10_odds rfl
theorem dX10_odds_23 : decode cX10_odds 23 = .ok (.iconst 1, 1) := o4 hcX10_odds rfl
theorem dX10_odds_24 : decode cX10_odds 24 = .ok (.invokestatic 58, 3) := o184 hcX10_odds rfl
theorem dX10_odds_27 : decode cX10_odds 27 = .ok (.ifCond .ne 7, 3) := o154 hcX10_odds (a := 7) rfl rfl
theorem dX10_odds_30 : decode cX10_odds 30 = .ok (.ldc2_w 234, 3) := o20 hcX10_odds rfl
theorem dX10_odds_33 : decode cX10_odds 33 = .ok (.lreturn, 1) := o173 hcX10_odds rfl
theorem dX10_odds_34 : decode cX10_odds 34 = .ok (.aload_n 0, 1) := o42 hcX10_odds rfl
theorem dX10_odds_35 : decode cX10_odds 35 = .ok (.getfield 54, 3) := o180 hcX10_odds rfl
theorem dX10_odds_38 : decode cX10_odds 38 = .ok (.iload_n 1, 1) := o27 hcX10_odds rfl
theorem dX10_odds_39 : decode cX10_odds 39 = .ok (.iload_n 2, 1) := o28 hcX10_odds rfl
theorem dX10_odds_40 : decode cX10_odds 40 = .ok (.invokevirtual 236, 3) := o182 hcX10_odds rfl
theorem dX10_odds_43 : decode cX10_odds 43 = .ok (.i2l, 1) := o133 hcX10_odds rfl
theorem dX10_odds_44 : decode cX10_odds 44 = .ok (.ldc2_w 239, 3) := o20 hcX10_odds rfl
theorem dX10_odds_47 : decode cX10_odds 47 = .ok (.iload_n 3, 1) := o29 hcX10_odds rfl
theorem dX10_odds_48 : decode cX10_odds 48 = .ok (.invokestatic 241, 3) := o184 hcX10_odds rfl
theorem dX10_odds_51 : decode cX10_odds 51 = .ok (.lreturn, 1) := o173 hcX10_odds rfl
theorem dX10_mean_0 : decode cX10_mean 0 = .ok (.aload_n 0, 1) := o42 hcX10_mean rfl
theorem dX10_mean_1 : decode cX10_mean 1 = .ok (.getfield 42, 3) := o180 hcX10_mean rfl
theorem dX10_mean_4 : decode cX10_mean 4 = .ok (.iload_n 1, 1) := o27 hcX10_mean rfl
theorem dX10_mean_5 : decode cX10_mean 5 = .ok (.invokevirtual 66, 3) := o182 hcX10_mean rfl
theorem dX10_mean_8 : decode cX10_mean 8 = .ok (.ifCond .eq 21, 3) := o153 hcX10_mean (a := 21) rfl rfl
theorem dX10_mean_11 : decode cX10_mean 11 = .ok (.iload_n 2, 1) := o28 hcX10_mean rfl
theorem dX10_mean_12 : decode cX10_mean 12 = .ok (.iconst 1, 1) := o4 hcX10_mean rfl
theorem dX10_mean_13 : decode cX10_mean 13 = .ok (.invokestatic 58, 3) := o184 hcX10_mean rfl
theorem dX10_mean_16 : decode cX10_mean 16 = .ok (.ifCond .eq 13, 3) := o153 hcX10_mean (a := 13) rfl rfl
theorem dX10_mean_19 : decode cX10_mean 19 = .ok (.aload_n 0, 1) := o42 hcX10_mean rfl
theorem dX10_mean_20 : decode cX10_mean 20 = .ok (.getfield 42, 3) := o180 hcX10_mean rfl
theorem dX10_mean_23 : decode cX10_mean 23 = .ok (.getfield 245, 3) := o180 hcX10_mean rfl
theorem dX10_mean_26 : decode cX10_mean 26 = .ok (.ifCond .ne 7, 3) := o154 hcX10_mean (a := 7) rfl rfl
theorem dX10_mean_29 : decode cX10_mean 29 = .ok (.ldc2_w 234, 3) := o20 hcX10_mean rfl
theorem dX10_mean_32 : decode cX10_mean 32 = .ok (.lreturn, 1) := o173 hcX10_mean rfl
theorem dX10_mean_33 : decode cX10_mean 33 = .ok (.aload_n 0, 1) := o42 hcX10_mean rfl
theorem dX10_mean_34 : decode cX10_mean 34 = .ok (.getfield 54, 3) := o180 hcX10_mean rfl
theorem dX10_mean_37 : decode cX10_mean 37 = .ok (.iload_n 1, 1) := o27 hcX10_mean rfl
theorem dX10_mean_38 : decode cX10_mean 38 = .ok (.invokevirtual 248, 3) := o182 hcX10_mean rfl
theorem dX10_mean_41 : decode cX10_mean 41 = .ok (.i2l, 1) := o133 hcX10_mean rfl
theorem dX10_mean_42 : decode cX10_mean 42 = .ok (.aload_n 0, 1) := o42 hcX10_mean rfl
theorem dX10_mean_43 : decode cX10_mean 43 = .ok (.getfield 42, 3) := o180 hcX10_mean rfl
theorem dX10_mean_46 : decode cX10_mean 46 = .ok (.getfield 245, 3) := o180 hcX10_mean rfl
theorem dX10_mean_49 : decode cX10_mean 49 = .ok (.i2l, 1) := o133 hcX10_mean rfl
theorem dX10_mean_50 : decode cX10_mean 50 = .ok (.iload_n 2, 1) := o28 hcX10_mean rfl
theorem dX10_mean_51 : decode cX10_mean 51 = .ok (.invokestatic 241, 3) := o184 hcX10_mean rfl
theorem dX10_mean_54 : decode cX10_mean 54 = .ok (.lreturn, 1) := o173 hcX10_mean rfl
theorem dX10_book_0 : decode cX10_book 0 = .ok (.iload_n 1, 1) := o27 hcX10_book rfl
theorem dX10_book_1 : decode cX10_book 1 = .ok (.iconst (-1), 1) := o2 hcX10_book rfl
theorem dX10_book_2 : decode cX10_book 2 = .ok (.if_icmp .ne 14, 3) := o160 hcX10_book (a := 14) rfl rfl
theorem dX10_book_5 : decode cX10_book 5 = .ok (.aload_n 0, 1) := o42 hcX10_book rfl
theorem dX10_book_6 : decode cX10_book 6 = .ok (.getfield 42, 3) := o180 hcX10_book rfl
theorem dX10_book_9 : decode cX10_book 9 = .ok (.getfield 251, 3) := o180 hcX10_book rfl
theorem dX10_book_12 : decode cX10_book 12 = .ok (.invokevirtual 172, 3) := o182 hcX10_book rfl
theorem dX10_book_15 : decode cX10_book 15 = .ok (.ireturn, 1) := o172 hcX10_book rfl
theorem dX10_book_16 : decode cX10_book 16 = .ok (.aload_n 0, 1) := o42 hcX10_book rfl
theorem dX10_book_17 : decode cX10_book 17 = .ok (.getfield 42, 3) := o180 hcX10_book rfl
theorem dX10_book_20 : decode cX10_book 20 = .ok (.iload_n 1, 1) := o27 hcX10_book rfl
theorem dX10_book_21 : decode cX10_book 21 = .ok (.invokevirtual 90, 3) := o182 hcX10_book rfl
theorem dX10_book_24 : decode cX10_book 24 = .ok (.ifCond .eq 14, 3) := o153 hcX10_book (a := 14) rfl rfl
theorem dX10_book_27 : decode cX10_book 27 = .ok (.aload_n 0, 1) := o42 hcX10_book rfl
theorem dX10_book_28 : decode cX10_book 28 = .ok (.getfield 42, 3) := o180 hcX10_book rfl
theorem dX10_book_31 : decode cX10_book 31 = .ok (.iload_n 2, 1) := o28 hcX10_book rfl
theorem dX10_book_32 : decode cX10_book 32 = .ok (.invokevirtual 66, 3) := o182 hcX10_book rfl
theorem dX10_book_35 : decode cX10_book 35 = .ok (.ifCond .ne 5, 3) := o154 hcX10_book (a := 5) rfl rfl
theorem dX10_book_38 : decode cX10_book 38 = .ok (.iconst (-1), 1) := o2 hcX10_book rfl
theorem dX10_book_39 : decode cX10_book 39 = .ok (.ireturn, 1) := o172 hcX10_book rfl
theorem dX10_book_40 : decode cX10_book 40 = .ok (.aload_n 0, 1) := o42 hcX10_book rfl
theorem dX10_book_41 : decode cX10_book 41 = .ok (.getfield 42, 3) := o180 hcX10_book rfl
theorem dX10_book_44 : decode cX10_book 44 = .ok (.getfield 251, 3) := o180 hcX10_book rfl
theorem dX10_book_47 : decode cX10_book 47 = .ok (.iload_n 1, 1) := o27 hcX10_book rfl
theorem dX10_book_48 : decode cX10_book 48 = .ok (.iload_n 2, 1) := o28 hcX10_book rfl
theorem dX10_book_49 : decode cX10_book 49 = .ok (.invokevirtual 178, 3) := o182 hcX10_book rfl
theorem dX10_book_52 : decode cX10_book 52 = .ok (.ireturn, 1) := o172 hcX10_book rfl
theorem dX10_looked_0 : decode cX10_looked 0 = .ok (.aload_n 0, 1) := o42 hcX10_looked rfl
theorem dX10_looked_1 : decode cX10_looked 1 = .ok (.getfield 54, 3) := o180 hcX10_looked rfl
theorem dX10_looked_4 : decode cX10_looked 4 = .ok (.invokevirtual 254, 3) := o182 hcX10_looked rfl
theorem dX10_looked_7 : decode cX10_looked 7 = .ok (.ireturn, 1) := o172 hcX10_looked rfl
theorem dX10_judge_0 : decode cX10_judge 0 = .ok (.iload_n 1, 1) := o27 hcX10_judge rfl
theorem dX10_judge_1 : decode cX10_judge 1 = .ok (.iconst 5, 1) := o8 hcX10_judge rfl
theorem dX10_judge_2 : decode cX10_judge 2 = .ok (.invokestatic 58, 3) := o184 hcX10_judge rfl
theorem dX10_judge_5 : decode cX10_judge 5 = .ok (.ifCond .ne 5, 3) := o154 hcX10_judge (a := 5) rfl rfl
theorem dX10_judge_8 : decode cX10_judge 8 = .ok (.iconst (-1), 1) := o2 hcX10_judge rfl
theorem dX10_judge_9 : decode cX10_judge 9 = .ok (.ireturn, 1) := o172 hcX10_judge rfl
theorem dX10_judge_10 : decode cX10_judge 10 = .ok (.aload_n 0, 1) := o42 hcX10_judge rfl
theorem dX10_judge_11 : decode cX10_judge 11 = .ok (.getfield 35, 3) := o180 hcX10_judge rfl
theorem dX10_judge_14 : decode cX10_judge 14 = .ok (.getfield 257, 3) := o180 hcX10_judge rfl
theorem dX10_judge_17 : decode cX10_judge 17 = .ok (.iload_n 1, 1) := o27 hcX10_judge rfl
theorem dX10_judge_18 : decode cX10_judge 18 = .ok (.iaload, 1) := o46 hcX10_judge rfl
theorem dX10_judge_19 : decode cX10_judge 19 = .ok (.iconst (-1), 1) := o2 hcX10_judge rfl
theorem dX10_judge_20 : decode cX10_judge 20 = .ok (.if_icmp .eq 18, 3) := o159 hcX10_judge (a := 18) rfl rfl
theorem dX10_judge_23 : decode cX10_judge 23 = .ok (.aload_n 0, 1) := o42 hcX10_judge rfl
theorem dX10_judge_24 : decode cX10_judge 24 = .ok (.getfield 35, 3) := o180 hcX10_judge rfl
theorem dX10_judge_27 : decode cX10_judge 27 = .ok (.getfield 257, 3) := o180 hcX10_judge rfl
theorem dX10_judge_30 : decode cX10_judge 30 = .ok (.iload_n 1, 1) := o27 hcX10_judge rfl
theorem dX10_judge_31 : decode cX10_judge 31 = .ok (.iaload, 1) := o46 hcX10_judge rfl
theorem dX10_judge_32 : decode cX10_judge 32 = .ok (.ifCond .eq 6, 3) := o153 hcX10_judge (a := 6) rfl rfl
theorem dX10_judge_35 : decode cX10_judge 35 = .ok (.bipush (-12), 2) := o16 hcX10_judge (a := 244) rfl rfl
theorem dX10_judge_37 : decode cX10_judge 37 = .ok (.ireturn, 1) := o172 hcX10_judge rfl
theorem dX10_judge_38 : decode cX10_judge 38 = .ok (.aload_n 0, 1) := o42 hcX10_judge rfl
theorem dX10_judge_39 : decode cX10_judge 39 = .ok (.getfield 42, 3) := o180 hcX10_judge rfl
theorem dX10_judge_42 : decode cX10_judge 42 = .ok (.getfield 185, 3) := o180 hcX10_judge rfl
theorem dX10_judge_45 : decode cX10_judge 45 = .ok (.ifCond .ne 6, 3) := o154 hcX10_judge (a := 6) rfl rfl
theorem dX10_judge_48 : decode cX10_judge 48 = .ok (.bipush (-5), 2) := o16 hcX10_judge (a := 251) rfl rfl
theorem dX10_judge_50 : decode cX10_judge 50 = .ok (.ireturn, 1) := o172 hcX10_judge rfl
theorem dX10_judge_51 : decode cX10_judge 51 = .ok (.iload_n 2, 1) := o28 hcX10_judge rfl
theorem dX10_judge_52 : decode cX10_judge 52 = .ok (.ifCond .ge 6, 3) := o156 hcX10_judge (a := 6) rfl rfl
theorem dX10_judge_55 : decode cX10_judge 55 = .ok (.bipush 100, 2) := o16 hcX10_judge (a := 100) rfl rfl
theorem dX10_judge_57 : decode cX10_judge 57 = .ok (.ireturn, 1) := o172 hcX10_judge rfl
theorem dX10_judge_58 : decode cX10_judge 58 = .ok (.iconst 0, 1) := o3 hcX10_judge rfl
theorem dX10_judge_59 : decode cX10_judge 59 = .ok (.istore_n 3, 1) := o62 hcX10_judge rfl
theorem dX10_judge_60 : decode cX10_judge 60 = .ok (.iload_n 3, 1) := o29 hcX10_judge rfl
theorem dX10_judge_61 : decode cX10_judge 61 = .ok (.aload_n 0, 1) := o42 hcX10_judge rfl
theorem dX10_judge_62 : decode cX10_judge 62 = .ok (.getfield 42, 3) := o180 hcX10_judge rfl
theorem dX10_judge_65 : decode cX10_judge 65 = .ok (.getfield 185, 3) := o180 hcX10_judge rfl
theorem dX10_judge_68 : decode cX10_judge 68 = .ok (.if_icmp .ge 58, 3) := o162 hcX10_judge (a := 58) rfl rfl
theorem dX10_judge_71 : decode cX10_judge 71 = .ok (.iload_n 2, 1) := o28 hcX10_judge rfl
theorem dX10_judge_72 : decode cX10_judge 72 = .ok (.aload_n 0, 1) := o42 hcX10_judge rfl
theorem dX10_judge_73 : decode cX10_judge 73 = .ok (.getfield 35, 3) := o180 hcX10_judge rfl
theorem dX10_judge_76 : decode cX10_judge 76 = .ok (.getfield 260, 3) := o180 hcX10_judge rfl
theorem dX10_judge_79 : decode cX10_judge 79 = .ok (.iload_n 1, 1) := o27 hcX10_judge rfl
theorem dX10_judge_80 : decode cX10_judge 80 = .ok (.iaload, 1) := o46 hcX10_judge rfl
theorem dX10_judge_81 : decode cX10_judge 81 = .ok (.iload_n 3, 1) := o29 hcX10_judge rfl
theorem dX10_judge_82 : decode cX10_judge 82 = .ok (.isub, 1) := o100 hcX10_judge rfl
theorem dX10_judge_83 : decode cX10_judge 83 = .ok (.if_icmp .lt 8, 3) := o161 hcX10_judge (a := 8) rfl rfl
theorem dX10_judge_86 : decode cX10_judge 86 = .ok (.bipush 100, 2) := o16 hcX10_judge (a := 100) rfl rfl
theorem dX10_judge_88 : decode cX10_judge 88 = .ok (.iload_n 3, 1) := o29 hcX10_judge rfl
theorem dX10_judge_89 : decode cX10_judge 89 = .ok (.iadd, 1) := o96 hcX10_judge rfl
theorem dX10_judge_90 : decode cX10_judge 90 = .ok (.ireturn, 1) := o172 hcX10_judge rfl
theorem dX10_judge_91 : decode cX10_judge 91 = .ok (.aload_n 0, 1) := o42 hcX10_judge rfl
theorem dX10_judge_92 : decode cX10_judge 92 = .ok (.getfield 35, 3) := o180 hcX10_judge rfl
theorem dX10_judge_95 : decode cX10_judge 95 = .ok (.getfield 263, 3) := o180 hcX10_judge rfl
theorem dX10_judge_98 : decode cX10_judge 98 = .ok (.iload_n 1, 1) := o27 hcX10_judge rfl
theorem dX10_judge_99 : decode cX10_judge 99 = .ok (.aaload, 1) := o50 hcX10_judge rfl
theorem dX10_judge_100 : decode cX10_judge 100 = .ok (.iload_n 2, 1) := o28 hcX10_judge rfl
theorem dX10_judge_101 : decode cX10_judge 101 = .ok (.iload_n 3, 1) := o29 hcX10_judge rfl
theorem dX10_judge_102 : decode cX10_judge 102 = .ok (.iadd, 1) := o96 hcX10_judge rfl
theorem dX10_judge_103 : decode cX10_judge 103 = .ok (.laload, 1) := o47 hcX10_judge rfl
theorem dX10_judge_104 : decode cX10_judge 104 = .ok (.aload_n 0, 1) := o42 hcX10_judge rfl
theorem dX10_judge_105 : decode cX10_judge 105 = .ok (.getfield 42, 3) := o180 hcX10_judge rfl
theorem dX10_judge_108 : decode cX10_judge 108 = .ok (.getfield 80, 3) := o180 hcX10_judge rfl
theorem dX10_judge_111 : decode cX10_judge 111 = .ok (.iload_n 3, 1) := o29 hcX10_judge rfl
theorem dX10_judge_112 : decode cX10_judge 112 = .ok (.iaload, 1) := o46 hcX10_judge rfl
theorem dX10_judge_113 : decode cX10_judge 113 = .ok (.i2l, 1) := o133 hcX10_judge rfl
theorem dX10_judge_114 : decode cX10_judge 114 = .ok (.lcmp, 1) := o148 hcX10_judge rfl
theorem dX10_judge_115 : decode cX10_judge 115 = .ok (.ifCond .eq 5, 3) := o153 hcX10_judge (a := 5) rfl rfl
theorem dX10_judge_118 : decode cX10_judge 118 = .ok (.iload_n 3, 1) := o29 hcX10_judge rfl
theorem dX10_judge_119 : decode cX10_judge 119 = .ok (.ireturn, 1) := o172 hcX10_judge rfl
theorem dX10_judge_120 : decode cX10_judge 120 = .ok (.iinc 3 1, 3) := o132 hcX10_judge (b := 1) rfl rfl
theorem dX10_judge_123 : decode cX10_judge 123 = .ok (.goto (-63), 3) := o167 hcX10_judge (a := 65473) rfl rfl
theorem dX10_judge_126 : decode cX10_judge 126 = .ok (.bipush (-5), 2) := o16 hcX10_judge (a := 251) rfl rfl
theorem dX10_judge_128 : decode cX10_judge 128 = .ok (.ireturn, 1) := o172 hcX10_judge rfl
theorem dX10_image_0 : decode cX10_image 0 = .ok (.aload_n 0, 1) := o42 hcX10_image rfl
theorem dX10_image_1 : decode cX10_image 1 = .ok (.getfield 12, 3) := o180 hcX10_image rfl
theorem dX10_image_4 : decode cX10_image 4 = .ok (.aload_n 0, 1) := o42 hcX10_image rfl
theorem dX10_image_5 : decode cX10_image 5 = .ok (.getfield 42, 3) := o180 hcX10_image rfl
theorem dX10_image_8 : decode cX10_image 8 = .ok (.invokevirtual 267, 3) := o182 hcX10_image rfl
theorem dX10_image_11 : decode cX10_image 11 = .ok (.aload_n 0, 1) := o42 hcX10_image rfl
theorem dX10_image_12 : decode cX10_image 12 = .ok (.iconst 1, 1) := o4 hcX10_image rfl
theorem dX10_image_13 : decode cX10_image 13 = .ok (.putfield 271, 3) := o181 hcX10_image rfl
theorem dX10_image_16 : decode cX10_image 16 = .ok (.aload_n 0, 1) := o42 hcX10_image rfl
theorem dX10_image_17 : decode cX10_image 17 = .ok (.getfield 42, 3) := o180 hcX10_image rfl
theorem dX10_image_20 : decode cX10_image 20 = .ok (.getfield 185, 3) := o180 hcX10_image rfl
theorem dX10_image_23 : decode cX10_image 23 = .ok (.ireturn, 1) := o172 hcX10_image rfl
theorem dX10_undo_0 : decode cX10_undo 0 = .ok (.aload_n 0, 1) := o42 hcX10_undo rfl
theorem dX10_undo_1 : decode cX10_undo 1 = .ok (.getfield 271, 3) := o180 hcX10_undo rfl
theorem dX10_undo_4 : decode cX10_undo 4 = .ok (.ifCond .ne 6, 3) := o154 hcX10_undo (a := 6) rfl rfl
theorem dX10_undo_7 : decode cX10_undo 7 = .ok (.bipush (-3), 2) := o16 hcX10_undo (a := 253) rfl rfl
theorem dX10_undo_9 : decode cX10_undo 9 = .ok (.ireturn, 1) := o172 hcX10_undo rfl
theorem dX10_undo_10 : decode cX10_undo 10 = .ok (.aload_n 0, 1) := o42 hcX10_undo rfl
theorem dX10_undo_11 : decode cX10_undo 11 = .ok (.getfield 42, 3) := o180 hcX10_undo rfl
theorem dX10_undo_14 : decode cX10_undo 14 = .ok (.aload_n 0, 1) := o42 hcX10_undo rfl
theorem dX10_undo_15 : decode cX10_undo 15 = .ok (.getfield 12, 3) := o180 hcX10_undo rfl
theorem dX10_undo_18 : decode cX10_undo 18 = .ok (.invokevirtual 267, 3) := o182 hcX10_undo rfl
theorem dX10_undo_21 : decode cX10_undo 21 = .ok (.aload_n 0, 1) := o42 hcX10_undo rfl
theorem dX10_undo_22 : decode cX10_undo 22 = .ok (.getfield 42, 3) := o180 hcX10_undo rfl
theorem dX10_undo_25 : decode cX10_undo 25 = .ok (.getfield 185, 3) := o180 hcX10_undo rfl
theorem dX10_undo_28 : decode cX10_undo 28 = .ok (.ireturn, 1) := o172 hcX10_undo rfl
theorem dX10_act_0 : decode cX10_act 0 = .ok (.aload_n 0, 1) := o42 hcX10_act rfl
theorem dX10_act_1 : decode cX10_act 1 = .ok (.getfield 28, 3) := o180 hcX10_act rfl
theorem dX10_act_4 : decode cX10_act 4 = .ok (.invokevirtual 275, 3) := o182 hcX10_act rfl
theorem dX10_act_7 : decode cX10_act 7 = .ok (.aload_n 0, 1) := o42 hcX10_act rfl
theorem dX10_act_8 : decode cX10_act 8 = .ok (.getfield 42, 3) := o180 hcX10_act rfl
theorem dX10_act_11 : decode cX10_act 11 = .ok (.iload_n 1, 1) := o27 hcX10_act rfl
theorem dX10_act_12 : decode cX10_act 12 = .ok (.invokevirtual 66, 3) := o182 hcX10_act rfl
theorem dX10_act_15 : decode cX10_act 15 = .ok (.ifCond .eq 11, 3) := o153 hcX10_act (a := 11) rfl rfl
theorem dX10_act_18 : decode cX10_act 18 = .ok (.iload_n 2, 1) := o28 hcX10_act rfl
theorem dX10_act_19 : decode cX10_act 19 = .ok (.iconst 2, 1) := o5 hcX10_act rfl
theorem dX10_act_20 : decode cX10_act 20 = .ok (.invokestatic 58, 3) := o184 hcX10_act rfl
theorem dX10_act_23 : decode cX10_act 23 = .ok (.ifCond .ne 5, 3) := o154 hcX10_act (a := 5) rfl rfl
theorem dX10_act_26 : decode cX10_act 26 = .ok (.iconst 0, 1) := o3 hcX10_act rfl
theorem dX10_act_27 : decode cX10_act 27 = .ok (.ireturn, 1) := o172 hcX10_act rfl
theorem dX10_act_28 : decode cX10_act 28 = .ok (.aload_n 0, 1) := o42 hcX10_act rfl
theorem dX10_act_29 : decode cX10_act 29 = .ok (.getfield 28, 3) := o180 hcX10_act rfl
theorem dX10_act_32 : decode cX10_act 32 = .ok (.aload_n 0, 1) := o42 hcX10_act rfl
theorem dX10_act_33 : decode cX10_act 33 = .ok (.getfield 42, 3) := o180 hcX10_act rfl
theorem dX10_act_36 : decode cX10_act 36 = .ok (.iload_n 1, 1) := o27 hcX10_act rfl
theorem dX10_act_37 : decode cX10_act 37 = .ok (.iload_n 2, 1) := o28 hcX10_act rfl
theorem dX10_act_38 : decode cX10_act 38 = .ok (.iload_n 3, 1) := o29 hcX10_act rfl
theorem dX10_act_39 : decode cX10_act 39 = .ok (.invokevirtual 278, 3) := o182 hcX10_act rfl
theorem dX10_act_42 : decode cX10_act 42 = .ok (.ireturn, 1) := o172 hcX10_act rfl
theorem dX10_trace_0 : decode cX10_trace 0 = .ok (.aload_n 0, 1) := o42 hcX10_trace rfl
theorem dX10_trace_1 : decode cX10_trace 1 = .ok (.getfield 28, 3) := o180 hcX10_trace rfl
theorem dX10_trace_4 : decode cX10_trace 4 = .ok (.iload_n 1, 1) := o27 hcX10_trace rfl
theorem dX10_trace_5 : decode cX10_trace 5 = .ok (.invokevirtual 282, 3) := o182 hcX10_trace rfl
theorem dX10_trace_8 : decode cX10_trace 8 = .ok (.ireturn, 1) := o172 hcX10_trace rfl
theorem dX10_taken_0 : decode cX10_taken 0 = .ok (.iload_n 2, 1) := o28 hcX10_taken rfl
theorem dX10_taken_1 : decode cX10_taken 1 = .ok (.bipush 6, 2) := o16 hcX10_taken (a := 6) rfl rfl
theorem dX10_taken_3 : decode cX10_taken 3 = .ok (.invokestatic 58, 3) := o184 hcX10_taken rfl
theorem dX10_taken_6 : decode cX10_taken 6 = .ok (.ifCond .ne 6, 3) := o154 hcX10_taken (a := 6) rfl rfl
theorem dX10_taken_9 : decode cX10_taken 9 = .ok (.bipush (-2), 2) := o16 hcX10_taken (a := 254) rfl rfl
theorem dX10_taken_11 : decode cX10_taken 11 = .ok (.ireturn, 1) := o172 hcX10_taken rfl
theorem dX10_taken_12 : decode cX10_taken 12 = .ok (.aload_n 0, 1) := o42 hcX10_taken rfl
theorem dX10_taken_13 : decode cX10_taken 13 = .ok (.getfield 42, 3) := o180 hcX10_taken rfl
theorem dX10_taken_16 : decode cX10_taken 16 = .ok (.iload_n 1, 1) := o27 hcX10_taken rfl
theorem dX10_taken_17 : decode cX10_taken 17 = .ok (.invokevirtual 66, 3) := o182 hcX10_taken rfl
theorem dX10_taken_20 : decode cX10_taken 20 = .ok (.ifCond .ne 6, 3) := o154 hcX10_taken (a := 6) rfl rfl
theorem dX10_taken_23 : decode cX10_taken 23 = .ok (.bipush (-11), 2) := o16 hcX10_taken (a := 245) rfl rfl
theorem dX10_taken_25 : decode cX10_taken 25 = .ok (.ireturn, 1) := o172 hcX10_taken rfl
theorem dX10_taken_26 : decode cX10_taken 26 = .ok (.aload_n 0, 1) := o42 hcX10_taken rfl
theorem dX10_taken_27 : decode cX10_taken 27 = .ok (.getfield 42, 3) := o180 hcX10_taken rfl
theorem dX10_taken_30 : decode cX10_taken 30 = .ok (.getfield 73, 3) := o180 hcX10_taken rfl
theorem dX10_taken_33 : decode cX10_taken 33 = .ok (.iload_n 1, 1) := o27 hcX10_taken rfl
theorem dX10_taken_34 : decode cX10_taken 34 = .ok (.iaload, 1) := o46 hcX10_taken rfl
theorem dX10_taken_35 : decode cX10_taken 35 = .ok (.istore_n 3, 1) := o62 hcX10_taken rfl
theorem dX10_taken_36 : decode cX10_taken 36 = .ok (.iload_n 3, 1) := o29 hcX10_taken rfl
theorem dX10_taken_37 : decode cX10_taken 37 = .ok (.iload_n 2, 1) := o28 hcX10_taken rfl
theorem dX10_taken_38 : decode cX10_taken 38 = .ok (.invokestatic 285, 3) := o184 hcX10_taken rfl
theorem dX10_taken_41 : decode cX10_taken 41 = .ok (.ifCond .eq 7, 3) := o153 hcX10_taken (a := 7) rfl rfl
theorem dX10_taken_44 : decode cX10_taken 44 = .ok (.iload_n 3, 1) := o29 hcX10_taken rfl
theorem dX10_taken_45 : decode cX10_taken 45 = .ok (.goto 5, 3) := o167 hcX10_taken (a := 5) rfl rfl
theorem dX10_taken_48 : decode cX10_taken 48 = .ok (.bipush (-12), 2) := o16 hcX10_taken (a := 244) rfl rfl
theorem dX10_taken_50 : decode cX10_taken 50 = .ok (.ireturn, 1) := o172 hcX10_taken rfl
theorem dX10_count_0 : decode cX10_count 0 = .ok (.iload_n 1, 1) := o27 hcX10_count rfl
theorem dX10_count_1 : decode cX10_count 1 = .ok (.tableswitch 120 0 7 #[47, 55, 63, 71, 82, 93, 104, 112], 47) := by decide +kernel
theorem dX10_count_48 : decode cX10_count 48 = .ok (.aload_n 0, 1) := o42 hcX10_count rfl
theorem dX10_count_49 : decode cX10_count 49 = .ok (.getfield 42, 3) := o180 hcX10_count rfl
theorem dX10_count_52 : decode cX10_count 52 = .ok (.getfield 185, 3) := o180 hcX10_count rfl
theorem dX10_count_55 : decode cX10_count 55 = .ok (.ireturn, 1) := o172 hcX10_count rfl
theorem dX10_count_56 : decode cX10_count 56 = .ok (.aload_n 0, 1) := o42 hcX10_count rfl
theorem dX10_count_57 : decode cX10_count 57 = .ok (.getfield 42, 3) := o180 hcX10_count rfl
theorem dX10_count_60 : decode cX10_count 60 = .ok (.getfield 245, 3) := o180 hcX10_count rfl
theorem dX10_count_63 : decode cX10_count 63 = .ok (.ireturn, 1) := o172 hcX10_count rfl
theorem dX10_count_64 : decode cX10_count 64 = .ok (.aload_n 0, 1) := o42 hcX10_count rfl
theorem dX10_count_65 : decode cX10_count 65 = .ok (.getfield 45, 3) := o180 hcX10_count rfl
theorem dX10_count_68 : decode cX10_count 68 = .ok (.getfield 120, 3) := o180 hcX10_count rfl
theorem dX10_count_71 : decode cX10_count 71 = .ok (.ireturn, 1) := o172 hcX10_count rfl
theorem dX10_count_72 : decode cX10_count 72 = .ok (.aload_n 0, 1) := o42 hcX10_count rfl
theorem dX10_count_73 : decode cX10_count 73 = .ok (.getfield 42, 3) := o180 hcX10_count rfl
theorem dX10_count_76 : decode cX10_count 76 = .ok (.getfield 168, 3) := o180 hcX10_count rfl
theorem dX10_count_79 : decode cX10_count 79 = .ok (.getfield 288, 3) := o180 hcX10_count rfl
theorem dX10_count_82 : decode cX10_count 82 = .ok (.ireturn, 1) := o172 hcX10_count rfl
theorem dX10_count_83 : decode cX10_count 83 = .ok (.aload_n 0, 1) := o42 hcX10_count rfl
theorem dX10_count_84 : decode cX10_count 84 = .ok (.getfield 42, 3) := o180 hcX10_count rfl
theorem dX10_count_87 : decode cX10_count 87 = .ok (.getfield 222, 3) := o180 hcX10_count rfl
theorem dX10_count_90 : decode cX10_count 90 = .ok (.getfield 288, 3) := o180 hcX10_count rfl
theorem dX10_count_93 : decode cX10_count 93 = .ok (.ireturn, 1) := o172 hcX10_count rfl
theorem dX10_count_94 : decode cX10_count 94 = .ok (.aload_n 0, 1) := o42 hcX10_count rfl
theorem dX10_count_95 : decode cX10_count 95 = .ok (.getfield 42, 3) := o180 hcX10_count rfl
theorem dX10_count_98 : decode cX10_count 98 = .ok (.getfield 251, 3) := o180 hcX10_count rfl
theorem dX10_count_101 : decode cX10_count 101 = .ok (.getfield 288, 3) := o180 hcX10_count rfl
theorem dX10_count_104 : decode cX10_count 104 = .ok (.ireturn, 1) := o172 hcX10_count rfl
theorem dX10_count_105 : decode cX10_count 105 = .ok (.aload_n 0, 1) := o42 hcX10_count rfl
theorem dX10_count_106 : decode cX10_count 106 = .ok (.getfield 21, 3) := o180 hcX10_count rfl
theorem dX10_count_109 : decode cX10_count 109 = .ok (.getfield 132, 3) := o180 hcX10_count rfl
theorem dX10_count_112 : decode cX10_count 112 = .ok (.ireturn, 1) := o172 hcX10_count rfl
theorem dX10_count_113 : decode cX10_count 113 = .ok (.aload_n 0, 1) := o42 hcX10_count rfl
theorem dX10_count_114 : decode cX10_count 114 = .ok (.getfield 28, 3) := o180 hcX10_count rfl
theorem dX10_count_117 : decode cX10_count 117 = .ok (.getfield 289, 3) := o180 hcX10_count rfl
theorem dX10_count_120 : decode cX10_count 120 = .ok (.ireturn, 1) := o172 hcX10_count rfl
theorem dX10_count_121 : decode cX10_count 121 = .ok (.bipush (-2), 2) := o16 hcX10_count (a := 254) rfl rfl
theorem dX10_count_123 : decode cX10_count 123 = .ok (.ireturn, 1) := o172 hcX10_count rfl
theorem dX10_tape_0 : decode cX10_tape 0 = .ok (.iload_n 1, 1) := o27 hcX10_tape rfl
theorem dX10_tape_1 : decode cX10_tape 1 = .ok (.iconst 5, 1) := o8 hcX10_tape rfl
theorem dX10_tape_2 : decode cX10_tape 2 = .ok (.invokestatic 58, 3) := o184 hcX10_tape rfl
theorem dX10_tape_5 : decode cX10_tape 5 = .ok (.ifCond .ne 5, 3) := o154 hcX10_tape (a := 5) rfl rfl
theorem dX10_tape_8 : decode cX10_tape 8 = .ok (.iconst (-1), 1) := o2 hcX10_tape rfl
theorem dX10_tape_9 : decode cX10_tape 9 = .ok (.ireturn, 1) := o172 hcX10_tape rfl
theorem dX10_tape_10 : decode cX10_tape 10 = .ok (.iload_n 2, 1) := o28 hcX10_tape rfl
theorem dX10_tape_11 : decode cX10_tape 11 = .ok (.iconst (-1), 1) := o2 hcX10_tape rfl
theorem dX10_tape_12 : decode cX10_tape 12 = .ok (.if_icmp .ne 14, 3) := o160 hcX10_tape (a := 14) rfl rfl
theorem dX10_tape_15 : decode cX10_tape 15 = .ok (.aload_n 0, 1) := o42 hcX10_tape rfl
theorem dX10_tape_16 : decode cX10_tape 16 = .ok (.getfield 35, 3) := o180 hcX10_tape rfl
theorem dX10_tape_19 : decode cX10_tape 19 = .ok (.iload_n 1, 1) := o27 hcX10_tape rfl
theorem dX10_tape_20 : decode cX10_tape 20 = .ok (.iconst (-1), 1) := o2 hcX10_tape rfl
theorem dX10_tape_21 : decode cX10_tape 21 = .ok (.iconst 0, 1) := o3 hcX10_tape rfl
theorem dX10_tape_22 : decode cX10_tape 22 = .ok (.invokevirtual 292, 3) := o182 hcX10_tape rfl
theorem dX10_tape_25 : decode cX10_tape 25 = .ok (.ireturn, 1) := o172 hcX10_tape rfl
theorem dX10_tape_26 : decode cX10_tape 26 = .ok (.iload_n 2, 1) := o28 hcX10_tape rfl
theorem dX10_tape_27 : decode cX10_tape 27 = .ok (.iconst 4, 1) := o7 hcX10_tape rfl
theorem dX10_tape_28 : decode cX10_tape 28 = .ok (.invokestatic 58, 3) := o184 hcX10_tape rfl
theorem dX10_tape_31 : decode cX10_tape 31 = .ok (.ifCond .eq 9, 3) := o153 hcX10_tape (a := 9) rfl rfl
theorem dX10_tape_34 : decode cX10_tape 34 = .ok (.iload_n 3, 1) := o29 hcX10_tape rfl
theorem dX10_tape_35 : decode cX10_tape 35 = .ok (.bipush 60, 2) := o16 hcX10_tape (a := 60) rfl rfl
theorem dX10_tape_37 : decode cX10_tape 37 = .ok (.if_icmp .le 6, 3) := o164 hcX10_tape (a := 6) rfl rfl
theorem dX10_tape_40 : decode cX10_tape 40 = .ok (.bipush (-2), 2) := o16 hcX10_tape (a := 254) rfl rfl
theorem dX10_tape_42 : decode cX10_tape 42 = .ok (.ireturn, 1) := o172 hcX10_tape rfl
theorem dX10_tape_43 : decode cX10_tape 43 = .ok (.iload_n 3, 1) := o29 hcX10_tape rfl
theorem dX10_tape_44 : decode cX10_tape 44 = .ok (.ifCond .ge 6, 3) := o156 hcX10_tape (a := 6) rfl rfl
theorem dX10_tape_47 : decode cX10_tape 47 = .ok (.bipush (-14), 2) := o16 hcX10_tape (a := 242) rfl rfl
theorem dX10_tape_49 : decode cX10_tape 49 = .ok (.ireturn, 1) := o172 hcX10_tape rfl
theorem dX10_tape_50 : decode cX10_tape 50 = .ok (.aload_n 0, 1) := o42 hcX10_tape rfl
theorem dX10_tape_51 : decode cX10_tape 51 = .ok (.getfield 35, 3) := o180 hcX10_tape rfl
theorem dX10_tape_54 : decode cX10_tape 54 = .ok (.iload_n 1, 1) := o27 hcX10_tape rfl
theorem dX10_tape_55 : decode cX10_tape 55 = .ok (.iload_n 2, 1) := o28 hcX10_tape rfl
theorem dX10_tape_56 : decode cX10_tape 56 = .ok (.iload_n 3, 1) := o29 hcX10_tape rfl
theorem dX10_tape_57 : decode cX10_tape 57 = .ok (.invokevirtual 292, 3) := o182 hcX10_tape rfl
theorem dX10_tape_60 : decode cX10_tape 60 = .ok (.ireturn, 1) := o172 hcX10_tape rfl
theorem dX10_item_0 : decode cX10_item 0 = .ok (.iload_n 1, 1) := o27 hcX10_item rfl
theorem dX10_item_1 : decode cX10_item 1 = .ok (.iconst 5, 1) := o8 hcX10_item rfl
theorem dX10_item_2 : decode cX10_item 2 = .ok (.invokestatic 58, 3) := o184 hcX10_item rfl
theorem dX10_item_5 : decode cX10_item 5 = .ok (.ifCond .ne 5, 3) := o154 hcX10_item (a := 5) rfl rfl
theorem dX10_item_8 : decode cX10_item 8 = .ok (.iconst (-1), 1) := o2 hcX10_item rfl
theorem dX10_item_9 : decode cX10_item 9 = .ok (.ireturn, 1) := o172 hcX10_item rfl
theorem dX10_item_10 : decode cX10_item 10 = .ok (.aload_n 0, 1) := o42 hcX10_item rfl
theorem dX10_item_11 : decode cX10_item 11 = .ok (.getfield 35, 3) := o180 hcX10_item rfl
theorem dX10_item_14 : decode cX10_item 14 = .ok (.getfield 257, 3) := o180 hcX10_item rfl
theorem dX10_item_17 : decode cX10_item 17 = .ok (.iload_n 1, 1) := o27 hcX10_item rfl
theorem dX10_item_18 : decode cX10_item 18 = .ok (.iaload, 1) := o46 hcX10_item rfl
theorem dX10_item_19 : decode cX10_item 19 = .ok (.iconst (-1), 1) := o2 hcX10_item rfl
theorem dX10_item_20 : decode cX10_item 20 = .ok (.if_icmp .ne 6, 3) := o160 hcX10_item (a := 6) rfl rfl
theorem dX10_item_23 : decode cX10_item 23 = .ok (.bipush (-11), 2) := o16 hcX10_item (a := 245) rfl rfl
theorem dX10_item_25 : decode cX10_item 25 = .ok (.ireturn, 1) := o172 hcX10_item rfl
theorem dX10_item_26 : decode cX10_item 26 = .ok (.iload_n 2, 1) := o28 hcX10_item rfl
theorem dX10_item_27 : decode cX10_item 27 = .ok (.aload_n 0, 1) := o42 hcX10_item rfl
theorem dX10_item_28 : decode cX10_item 28 = .ok (.getfield 35, 3) := o180 hcX10_item rfl
theorem dX10_item_31 : decode cX10_item 31 = .ok (.getfield 260, 3) := o180 hcX10_item rfl
theorem dX10_item_34 : decode cX10_item 34 = .ok (.iload_n 1, 1) := o27 hcX10_item rfl
theorem dX10_item_35 : decode cX10_item 35 = .ok (.iaload, 1) := o46 hcX10_item rfl
theorem dX10_item_36 : decode cX10_item 36 = .ok (.iconst 1, 1) := o4 hcX10_item rfl
theorem dX10_item_37 : decode cX10_item 37 = .ok (.isub, 1) := o100 hcX10_item rfl
theorem dX10_item_38 : decode cX10_item 38 = .ok (.invokestatic 58, 3) := o184 hcX10_item rfl
theorem dX10_item_41 : decode cX10_item 41 = .ok (.ifCond .ne 6, 3) := o154 hcX10_item (a := 6) rfl rfl
theorem dX10_item_44 : decode cX10_item 44 = .ok (.bipush (-13), 2) := o16 hcX10_item (a := 243) rfl rfl
theorem dX10_item_46 : decode cX10_item 46 = .ok (.ireturn, 1) := o172 hcX10_item rfl
theorem dX10_item_47 : decode cX10_item 47 = .ok (.aload_n 0, 1) := o42 hcX10_item rfl
theorem dX10_item_48 : decode cX10_item 48 = .ok (.getfield 35, 3) := o180 hcX10_item rfl
theorem dX10_item_51 : decode cX10_item 51 = .ok (.getfield 263, 3) := o180 hcX10_item rfl
theorem dX10_item_54 : decode cX10_item 54 = .ok (.iload_n 1, 1) := o27 hcX10_item rfl
theorem dX10_item_55 : decode cX10_item 55 = .ok (.aaload, 1) := o50 hcX10_item rfl
theorem dX10_item_56 : decode cX10_item 56 = .ok (.iload_n 2, 1) := o28 hcX10_item rfl
theorem dX10_item_57 : decode cX10_item 57 = .ok (.aload_n 0, 1) := o42 hcX10_item rfl
theorem dX10_item_58 : decode cX10_item 58 = .ok (.getfield 35, 3) := o180 hcX10_item rfl
theorem dX10_item_61 : decode cX10_item 61 = .ok (.getfield 257, 3) := o180 hcX10_item rfl
theorem dX10_item_64 : decode cX10_item 64 = .ok (.iload_n 1, 1) := o27 hcX10_item rfl
theorem dX10_item_65 : decode cX10_item 65 = .ok (.iaload, 1) := o46 hcX10_item rfl
theorem dX10_item_66 : decode cX10_item 66 = .ok (.lload_n 3, 1) := o33 hcX10_item rfl
theorem dX10_item_67 : decode cX10_item 67 = .ok (.invokestatic 295, 3) := o184 hcX10_item rfl
theorem dX10_item_70 : decode cX10_item 70 = .ok (.lastore, 1) := o80 hcX10_item rfl
theorem dX10_item_71 : decode cX10_item 71 = .ok (.iconst 1, 1) := o4 hcX10_item rfl
theorem dX10_item_72 : decode cX10_item 72 = .ok (.ireturn, 1) := o172 hcX10_item rfl
theorem dX10_read_0 : decode cX10_read 0 = .ok (.iload_n 1, 1) := o27 hcX10_read rfl
theorem dX10_read_1 : decode cX10_read 1 = .ok (.iconst 5, 1) := o8 hcX10_read rfl
theorem dX10_read_2 : decode cX10_read 2 = .ok (.invokestatic 58, 3) := o184 hcX10_read rfl
theorem dX10_read_5 : decode cX10_read 5 = .ok (.ifCond .eq 21, 3) := o153 hcX10_read (a := 21) rfl rfl
theorem dX10_read_8 : decode cX10_read 8 = .ok (.iload_n 2, 1) := o28 hcX10_read rfl
theorem dX10_read_9 : decode cX10_read 9 = .ok (.aload_n 0, 1) := o42 hcX10_read rfl
theorem dX10_read_10 : decode cX10_read 10 = .ok (.getfield 35, 3) := o180 hcX10_read rfl
theorem dX10_read_13 : decode cX10_read 13 = .ok (.getfield 260, 3) := o180 hcX10_read rfl
theorem dX10_read_16 : decode cX10_read 16 = .ok (.iload_n 1, 1) := o27 hcX10_read rfl
theorem dX10_read_17 : decode cX10_read 17 = .ok (.iaload, 1) := o46 hcX10_read rfl
theorem dX10_read_18 : decode cX10_read 18 = .ok (.iconst 1, 1) := o4 hcX10_read rfl
theorem dX10_read_19 : decode cX10_read 19 = .ok (.isub, 1) := o100 hcX10_read rfl
theorem dX10_read_20 : decode cX10_read 20 = .ok (.invokestatic 58, 3) := o184 hcX10_read rfl
theorem dX10_read_23 : decode cX10_read 23 = .ok (.ifCond .ne 7, 3) := o154 hcX10_read (a := 7) rfl rfl
theorem dX10_read_26 : decode cX10_read 26 = .ok (.ldc2_w 234, 3) := o20 hcX10_read rfl
theorem dX10_read_29 : decode cX10_read 29 = .ok (.lreturn, 1) := o173 hcX10_read rfl
theorem dX10_read_30 : decode cX10_read 30 = .ok (.aload_n 0, 1) := o42 hcX10_read rfl
theorem dX10_read_31 : decode cX10_read 31 = .ok (.getfield 35, 3) := o180 hcX10_read rfl
theorem dX10_read_34 : decode cX10_read 34 = .ok (.getfield 263, 3) := o180 hcX10_read rfl
theorem dX10_read_37 : decode cX10_read 37 = .ok (.iload_n 1, 1) := o27 hcX10_read rfl
theorem dX10_read_38 : decode cX10_read 38 = .ok (.aaload, 1) := o50 hcX10_read rfl
theorem dX10_read_39 : decode cX10_read 39 = .ok (.iload_n 2, 1) := o28 hcX10_read rfl
theorem dX10_read_40 : decode cX10_read 40 = .ok (.laload, 1) := o47 hcX10_read rfl
theorem dX10_read_41 : decode cX10_read 41 = .ok (.lreturn, 1) := o173 hcX10_read rfl
theorem dX10_shift_0 : decode cX10_shift 0 = .ok (.iload_n 1, 1) := o27 hcX10_shift rfl
theorem dX10_shift_1 : decode cX10_shift 1 = .ok (.iconst 5, 1) := o8 hcX10_shift rfl
theorem dX10_shift_2 : decode cX10_shift 2 = .ok (.invokestatic 58, 3) := o184 hcX10_shift rfl
theorem dX10_shift_5 : decode cX10_shift 5 = .ok (.ifCond .eq 11, 3) := o153 hcX10_shift (a := 11) rfl rfl
theorem dX10_shift_8 : decode cX10_shift 8 = .ok (.iload_n 3, 1) := o29 hcX10_shift rfl
theorem dX10_shift_9 : decode cX10_shift 9 = .ok (.iconst 5, 1) := o8 hcX10_shift rfl
theorem dX10_shift_10 : decode cX10_shift 10 = .ok (.invokestatic 58, 3) := o184 hcX10_shift rfl
theorem dX10_shift_13 : decode cX10_shift 13 = .ok (.ifCond .ne 5, 3) := o154 hcX10_shift (a := 5) rfl rfl
theorem dX10_shift_16 : decode cX10_shift 16 = .ok (.iconst (-1), 1) := o2 hcX10_shift rfl
theorem dX10_shift_17 : decode cX10_shift 17 = .ok (.ireturn, 1) := o172 hcX10_shift rfl
theorem dX10_shift_18 : decode cX10_shift 18 = .ok (.aload_n 0, 1) := o42 hcX10_shift rfl
theorem dX10_shift_19 : decode cX10_shift 19 = .ok (.getfield 35, 3) := o180 hcX10_shift rfl
theorem dX10_shift_22 : decode cX10_shift 22 = .ok (.getfield 257, 3) := o180 hcX10_shift rfl
theorem dX10_shift_25 : decode cX10_shift 25 = .ok (.iload_n 1, 1) := o27 hcX10_shift rfl
theorem dX10_shift_26 : decode cX10_shift 26 = .ok (.iaload, 1) := o46 hcX10_shift rfl
theorem dX10_shift_27 : decode cX10_shift 27 = .ok (.iconst (-1), 1) := o2 hcX10_shift rfl
theorem dX10_shift_28 : decode cX10_shift 28 = .ok (.if_icmp .eq 16, 3) := o159 hcX10_shift (a := 16) rfl rfl
theorem dX10_shift_31 : decode cX10_shift 31 = .ok (.aload_n 0, 1) := o42 hcX10_shift rfl
theorem dX10_shift_32 : decode cX10_shift 32 = .ok (.getfield 35, 3) := o180 hcX10_shift rfl
theorem dX10_shift_35 : decode cX10_shift 35 = .ok (.getfield 257, 3) := o180 hcX10_shift rfl
theorem dX10_shift_38 : decode cX10_shift 38 = .ok (.iload_n 3, 1) := o29 hcX10_shift rfl
theorem dX10_shift_39 : decode cX10_shift 39 = .ok (.iaload, 1) := o46 hcX10_shift rfl
theorem dX10_shift_40 : decode cX10_shift 40 = .ok (.iconst (-1), 1) := o2 hcX10_shift rfl
theorem dX10_shift_41 : decode cX10_shift 41 = .ok (.if_icmp .ne 6, 3) := o160 hcX10_shift (a := 6) rfl rfl
theorem dX10_shift_44 : decode cX10_shift 44 = .ok (.bipush (-11), 2) := o16 hcX10_shift (a := 245) rfl rfl
theorem dX10_shift_46 : decode cX10_shift 46 = .ok (.ireturn, 1) := o172 hcX10_shift rfl
theorem dX10_shift_47 : decode cX10_shift 47 = .ok (.aload_n 0, 1) := o42 hcX10_shift rfl
theorem dX10_shift_48 : decode cX10_shift 48 = .ok (.getfield 35, 3) := o180 hcX10_shift rfl
theorem dX10_shift_51 : decode cX10_shift 51 = .ok (.getfield 257, 3) := o180 hcX10_shift rfl
theorem dX10_shift_54 : decode cX10_shift 54 = .ok (.iload_n 1, 1) := o27 hcX10_shift rfl
theorem dX10_shift_55 : decode cX10_shift 55 = .ok (.iaload, 1) := o46 hcX10_shift rfl
theorem dX10_shift_56 : decode cX10_shift 56 = .ok (.aload_n 0, 1) := o42 hcX10_shift rfl
theorem dX10_shift_57 : decode cX10_shift 57 = .ok (.getfield 35, 3) := o180 hcX10_shift rfl
theorem dX10_shift_60 : decode cX10_shift 60 = .ok (.getfield 257, 3) := o180 hcX10_shift rfl
theorem dX10_shift_63 : decode cX10_shift 63 = .ok (.iload_n 3, 1) := o29 hcX10_shift rfl
theorem dX10_shift_64 : decode cX10_shift 64 = .ok (.iaload, 1) := o46 hcX10_shift rfl
theorem dX10_shift_65 : decode cX10_shift 65 = .ok (.if_icmp .eq 6, 3) := o159 hcX10_shift (a := 6) rfl rfl
theorem dX10_shift_68 : decode cX10_shift 68 = .ok (.bipush (-12), 2) := o16 hcX10_shift (a := 244) rfl rfl
theorem dX10_shift_70 : decode cX10_shift 70 = .ok (.ireturn, 1) := o172 hcX10_shift rfl
theorem dX10_shift_71 : decode cX10_shift 71 = .ok (.iload 5, 2) := o21 hcX10_shift rfl
theorem dX10_shift_73 : decode cX10_shift 73 = .ok (.ifCond .lt 42, 3) := o155 hcX10_shift (a := 42) rfl rfl
theorem dX10_shift_76 : decode cX10_shift 76 = .ok (.iload_n 2, 1) := o28 hcX10_shift rfl
theorem dX10_shift_77 : decode cX10_shift 77 = .ok (.aload_n 0, 1) := o42 hcX10_shift rfl
theorem dX10_shift_78 : decode cX10_shift 78 = .ok (.getfield 35, 3) := o180 hcX10_shift rfl
theorem dX10_shift_81 : decode cX10_shift 81 = .ok (.getfield 260, 3) := o180 hcX10_shift rfl
theorem dX10_shift_84 : decode cX10_shift 84 = .ok (.iload_n 1, 1) := o27 hcX10_shift rfl
theorem dX10_shift_85 : decode cX10_shift 85 = .ok (.iaload, 1) := o46 hcX10_shift rfl
theorem dX10_shift_86 : decode cX10_shift 86 = .ok (.iload 5, 2) := o21 hcX10_shift rfl
theorem dX10_shift_88 : decode cX10_shift 88 = .ok (.isub, 1) := o100 hcX10_shift rfl
theorem dX10_shift_89 : decode cX10_shift 89 = .ok (.invokestatic 58, 3) := o184 hcX10_shift rfl
theorem dX10_shift_92 : decode cX10_shift 92 = .ok (.ifCond .eq 23, 3) := o153 hcX10_shift (a := 23) rfl rfl
theorem dX10_shift_95 : decode cX10_shift 95 = .ok (.iload 4, 2) := o21 hcX10_shift rfl
theorem dX10_shift_97 : decode cX10_shift 97 = .ok (.aload_n 0, 1) := o42 hcX10_shift rfl
theorem dX10_shift_98 : decode cX10_shift 98 = .ok (.getfield 35, 3) := o180 hcX10_shift rfl
theorem dX10_shift_101 : decode cX10_shift 101 = .ok (.getfield 260, 3) := o180 hcX10_shift rfl
theorem dX10_shift_104 : decode cX10_shift 104 = .ok (.iload_n 3, 1) := o29 hcX10_shift rfl
theorem dX10_shift_105 : decode cX10_shift 105 = .ok (.iaload, 1) := o46 hcX10_shift rfl
theorem dX10_shift_106 : decode cX10_shift 106 = .ok (.iload 5, 2) := o21 hcX10_shift rfl
theorem dX10_shift_108 : decode cX10_shift 108 = .ok (.isub, 1) := o100 hcX10_shift rfl
theorem dX10_shift_109 : decode cX10_shift 109 = .ok (.invokestatic 58, 3) := o184 hcX10_shift rfl
theorem dX10_shift_112 : decode cX10_shift 112 = .ok (.ifCond .ne 6, 3) := o154 hcX10_shift (a := 6) rfl rfl
theorem dX10_shift_115 : decode cX10_shift 115 = .ok (.bipush (-13), 2) := o16 hcX10_shift (a := 243) rfl rfl
theorem dX10_shift_117 : decode cX10_shift 117 = .ok (.ireturn, 1) := o172 hcX10_shift rfl
theorem dX10_shift_118 : decode cX10_shift 118 = .ok (.aload_n 0, 1) := o42 hcX10_shift rfl
theorem dX10_shift_119 : decode cX10_shift 119 = .ok (.getfield 35, 3) := o180 hcX10_shift rfl
theorem dX10_shift_122 : decode cX10_shift 122 = .ok (.getfield 263, 3) := o180 hcX10_shift rfl
theorem dX10_shift_125 : decode cX10_shift 125 = .ok (.iload_n 1, 1) := o27 hcX10_shift rfl
theorem dX10_shift_126 : decode cX10_shift 126 = .ok (.aaload, 1) := o50 hcX10_shift rfl
theorem dX10_shift_127 : decode cX10_shift 127 = .ok (.iload_n 2, 1) := o28 hcX10_shift rfl
theorem dX10_shift_128 : decode cX10_shift 128 = .ok (.aload_n 0, 1) := o42 hcX10_shift rfl
theorem dX10_shift_129 : decode cX10_shift 129 = .ok (.getfield 35, 3) := o180 hcX10_shift rfl
theorem dX10_shift_132 : decode cX10_shift 132 = .ok (.getfield 263, 3) := o180 hcX10_shift rfl
theorem dX10_shift_135 : decode cX10_shift 135 = .ok (.iload_n 3, 1) := o29 hcX10_shift rfl
theorem dX10_shift_136 : decode cX10_shift 136 = .ok (.aaload, 1) := o50 hcX10_shift rfl
theorem dX10_shift_137 : decode cX10_shift 137 = .ok (.iload 4, 2) := o21 hcX10_shift rfl
theorem dX10_shift_139 : decode cX10_shift 139 = .ok (.iload 5, 2) := o21 hcX10_shift rfl
theorem dX10_shift_141 : decode cX10_shift 141 = .ok (.invokestatic 299, 3) := o184 hcX10_shift rfl
theorem dX10_shift_144 : decode cX10_shift 144 = .ok (.iload 5, 2) := o21 hcX10_shift rfl
theorem dX10_shift_146 : decode cX10_shift 146 = .ok (.ireturn, 1) := o172 hcX10_shift rfl
theorem dX10_paceAt_0 : decode cX10_paceAt 0 = .ok (.iload_n 2, 1) := o28 hcX10_paceAt rfl
theorem dX10_paceAt_1 : decode cX10_paceAt 1 = .ok (.bipush 10, 2) := o16 hcX10_paceAt (a := 10) rfl rfl
theorem dX10_paceAt_3 : decode cX10_paceAt 3 = .ok (.if_icmp .lt 50, 3) := o161 hcX10_paceAt (a := 50) rfl rfl
theorem dX10_paceAt_6 : decode cX10_paceAt 6 = .ok (.aload_n 0, 1) := o42 hcX10_paceAt rfl
theorem dX10_paceAt_7 : decode cX10_paceAt 7 = .ok (.getfield 42, 3) := o180 hcX10_paceAt rfl
theorem dX10_paceAt_10 : decode cX10_paceAt 10 = .ok (.iload_n 2, 1) := o28 hcX10_paceAt rfl
theorem dX10_paceAt_11 : decode cX10_paceAt 11 = .ok (.bipush 10, 2) := o16 hcX10_paceAt (a := 10) rfl rfl
theorem dX10_paceAt_13 : decode cX10_paceAt 13 = .ok (.isub, 1) := o100 hcX10_paceAt rfl
theorem dX10_paceAt_14 : decode cX10_paceAt 14 = .ok (.invokevirtual 90, 3) := o182 hcX10_paceAt rfl
theorem dX10_paceAt_17 : decode cX10_paceAt 17 = .ok (.ifCond .eq 36, 3) := o153 hcX10_paceAt (a := 36) rfl rfl
theorem dX10_paceAt_20 : decode cX10_paceAt 20 = .ok (.aload_n 0, 1) := o42 hcX10_paceAt rfl
theorem dX10_paceAt_21 : decode cX10_paceAt 21 = .ok (.getfield 45, 3) := o180 hcX10_paceAt rfl
theorem dX10_paceAt_24 : decode cX10_paceAt 24 = .ok (.aload_n 0, 1) := o42 hcX10_paceAt rfl
theorem dX10_paceAt_25 : decode cX10_paceAt 25 = .ok (.getfield 42, 3) := o180 hcX10_paceAt rfl
theorem dX10_paceAt_28 : decode cX10_paceAt 28 = .ok (.iload_n 2, 1) := o28 hcX10_paceAt rfl
theorem dX10_paceAt_29 : decode cX10_paceAt 29 = .ok (.bipush 10, 2) := o16 hcX10_paceAt (a := 10) rfl rfl
theorem dX10_paceAt_31 : decode cX10_paceAt 31 = .ok (.isub, 1) := o100 hcX10_paceAt rfl
theorem dX10_paceAt_32 : decode cX10_paceAt 32 = .ok (.iload_n 1, 1) := o27 hcX10_paceAt rfl
theorem dX10_paceAt_33 : decode cX10_paceAt 33 = .ok (.aload_n 0, 1) := o42 hcX10_paceAt rfl
theorem dX10_paceAt_34 : decode cX10_paceAt 34 = .ok (.getfield 42, 3) := o180 hcX10_paceAt rfl
theorem dX10_paceAt_37 : decode cX10_paceAt 37 = .ok (.getfield 80, 3) := o180 hcX10_paceAt rfl
theorem dX10_paceAt_40 : decode cX10_paceAt 40 = .ok (.iload_n 1, 1) := o27 hcX10_paceAt rfl
theorem dX10_paceAt_41 : decode cX10_paceAt 41 = .ok (.iaload, 1) := o46 hcX10_paceAt rfl
theorem dX10_paceAt_42 : decode cX10_paceAt 42 = .ok (.invokevirtual 305, 3) := o182 hcX10_paceAt rfl
theorem dX10_paceAt_45 : decode cX10_paceAt 45 = .ok (.aload_n 0, 1) := o42 hcX10_paceAt rfl
theorem dX10_paceAt_46 : decode cX10_paceAt 46 = .ok (.getfield 45, 3) := o180 hcX10_paceAt rfl
theorem dX10_paceAt_49 : decode cX10_paceAt 49 = .ok (.getfield 309, 3) := o180 hcX10_paceAt rfl
theorem dX10_paceAt_52 : decode cX10_paceAt 52 = .ok (.ireturn, 1) := o172 hcX10_paceAt rfl
theorem dX10_paceAt_53 : decode cX10_paceAt 53 = .ok (.iload_n 2, 1) := o28 hcX10_paceAt rfl
theorem dX10_paceAt_54 : decode cX10_paceAt 54 = .ok (.bipush 20, 2) := o16 hcX10_paceAt (a := 20) rfl rfl
theorem dX10_paceAt_56 : decode cX10_paceAt 56 = .ok (.if_icmp .lt 50, 3) := o161 hcX10_paceAt (a := 50) rfl rfl
theorem dX10_paceAt_59 : decode cX10_paceAt 59 = .ok (.aload_n 0, 1) := o42 hcX10_paceAt rfl
theorem dX10_paceAt_60 : decode cX10_paceAt 60 = .ok (.getfield 42, 3) := o180 hcX10_paceAt rfl
theorem dX10_paceAt_63 : decode cX10_paceAt 63 = .ok (.iload_n 2, 1) := o28 hcX10_paceAt rfl
theorem dX10_paceAt_64 : decode cX10_paceAt 64 = .ok (.bipush 20, 2) := o16 hcX10_paceAt (a := 20) rfl rfl
theorem dX10_paceAt_66 : decode cX10_paceAt 66 = .ok (.isub, 1) := o100 hcX10_paceAt rfl
theorem dX10_paceAt_67 : decode cX10_paceAt 67 = .ok (.invokevirtual 90, 3) := o182 hcX10_paceAt rfl
theorem dX10_paceAt_70 : decode cX10_paceAt 70 = .ok (.ifCond .eq 36, 3) := o153 hcX10_paceAt (a := 36) rfl rfl
theorem dX10_paceAt_73 : decode cX10_paceAt 73 = .ok (.aload_n 0, 1) := o42 hcX10_paceAt rfl
theorem dX10_paceAt_74 : decode cX10_paceAt 74 = .ok (.getfield 45, 3) := o180 hcX10_paceAt rfl
theorem dX10_paceAt_77 : decode cX10_paceAt 77 = .ok (.aload_n 0, 1) := o42 hcX10_paceAt rfl
theorem dX10_paceAt_78 : decode cX10_paceAt 78 = .ok (.getfield 42, 3) := o180 hcX10_paceAt rfl
theorem dX10_paceAt_81 : decode cX10_paceAt 81 = .ok (.iload_n 2, 1) := o28 hcX10_paceAt rfl
theorem dX10_paceAt_82 : decode cX10_paceAt 82 = .ok (.bipush 20, 2) := o16 hcX10_paceAt (a := 20) rfl rfl
theorem dX10_paceAt_84 : decode cX10_paceAt 84 = .ok (.isub, 1) := o100 hcX10_paceAt rfl
theorem dX10_paceAt_85 : decode cX10_paceAt 85 = .ok (.iload_n 1, 1) := o27 hcX10_paceAt rfl
theorem dX10_paceAt_86 : decode cX10_paceAt 86 = .ok (.aload_n 0, 1) := o42 hcX10_paceAt rfl
theorem dX10_paceAt_87 : decode cX10_paceAt 87 = .ok (.getfield 42, 3) := o180 hcX10_paceAt rfl
theorem dX10_paceAt_90 : decode cX10_paceAt 90 = .ok (.getfield 80, 3) := o180 hcX10_paceAt rfl
theorem dX10_paceAt_93 : decode cX10_paceAt 93 = .ok (.iload_n 1, 1) := o27 hcX10_paceAt rfl
theorem dX10_paceAt_94 : decode cX10_paceAt 94 = .ok (.iaload, 1) := o46 hcX10_paceAt rfl
theorem dX10_paceAt_95 : decode cX10_paceAt 95 = .ok (.invokevirtual 305, 3) := o182 hcX10_paceAt rfl
theorem dX10_paceAt_98 : decode cX10_paceAt 98 = .ok (.aload_n 0, 1) := o42 hcX10_paceAt rfl
theorem dX10_paceAt_99 : decode cX10_paceAt 99 = .ok (.getfield 45, 3) := o180 hcX10_paceAt rfl
theorem dX10_paceAt_102 : decode cX10_paceAt 102 = .ok (.getfield 312, 3) := o180 hcX10_paceAt rfl
theorem dX10_paceAt_105 : decode cX10_paceAt 105 = .ok (.ireturn, 1) := o172 hcX10_paceAt rfl
theorem dX10_paceAt_106 : decode cX10_paceAt 106 = .ok (.iconst (-1), 1) := o2 hcX10_paceAt rfl
theorem dX10_paceAt_107 : decode cX10_paceAt 107 = .ok (.ireturn, 1) := o172 hcX10_paceAt rfl
theorem dX10_isUpTo_0 : decode cX10_isUpTo 0 = .ok (.iload_n 0, 1) := o26 hcX10_isUpTo rfl
theorem dX10_isUpTo_1 : decode cX10_isUpTo 1 = .ok (.ifCond .lt 12, 3) := o155 hcX10_isUpTo (a := 12) rfl rfl
theorem dX10_isUpTo_4 : decode cX10_isUpTo 4 = .ok (.iload_n 0, 1) := o26 hcX10_isUpTo rfl
theorem dX10_isUpTo_5 : decode cX10_isUpTo 5 = .ok (.iload_n 1, 1) := o27 hcX10_isUpTo rfl
theorem dX10_isUpTo_6 : decode cX10_isUpTo 6 = .ok (.if_icmp .gt 7, 3) := o163 hcX10_isUpTo (a := 7) rfl rfl
theorem dX10_isUpTo_9 : decode cX10_isUpTo 9 = .ok (.iconst 1, 1) := o4 hcX10_isUpTo rfl
theorem dX10_isUpTo_10 : decode cX10_isUpTo 10 = .ok (.goto 4, 3) := o167 hcX10_isUpTo (a := 4) rfl rfl
theorem dX10_isUpTo_13 : decode cX10_isUpTo 13 = .ok (.iconst 0, 1) := o3 hcX10_isUpTo rfl
theorem dX10_isUpTo_14 : decode cX10_isUpTo 14 = .ok (.ireturn, 1) := o172 hcX10_isUpTo rfl
theorem dX10_bit_0 : decode cX10_bit 0 = .ok (.iload_n 0, 1) := o26 hcX10_bit rfl
theorem dX10_bit_1 : decode cX10_bit 1 = .ok (.iload_n 1, 1) := o27 hcX10_bit rfl
theorem dX10_bit_2 : decode cX10_bit 2 = .ok (.ishr, 1) := o122 hcX10_bit rfl
theorem dX10_bit_3 : decode cX10_bit 3 = .ok (.iconst 1, 1) := o4 hcX10_bit rfl
theorem dX10_bit_4 : decode cX10_bit 4 = .ok (.iand, 1) := o126 hcX10_bit rfl
theorem dX10_bit_5 : decode cX10_bit 5 = .ok (.ireturn, 1) := o172 hcX10_bit rfl
theorem dX10_withBit_0 : decode cX10_withBit 0 = .ok (.iload_n 2, 1) := o28 hcX10_withBit rfl
theorem dX10_withBit_1 : decode cX10_withBit 1 = .ok (.ifCond .eq 11, 3) := o153 hcX10_withBit (a := 11) rfl rfl
theorem dX10_withBit_4 : decode cX10_withBit 4 = .ok (.iload_n 0, 1) := o26 hcX10_withBit rfl
theorem dX10_withBit_5 : decode cX10_withBit 5 = .ok (.iconst 1, 1) := o4 hcX10_withBit rfl
theorem dX10_withBit_6 : decode cX10_withBit 6 = .ok (.iload_n 1, 1) := o27 hcX10_withBit rfl
theorem dX10_withBit_7 : decode cX10_withBit 7 = .ok (.ishl, 1) := o120 hcX10_withBit rfl
theorem dX10_withBit_8 : decode cX10_withBit 8 = .ok (.ior, 1) := o128 hcX10_withBit rfl
theorem dX10_withBit_9 : decode cX10_withBit 9 = .ok (.goto 10, 3) := o167 hcX10_withBit (a := 10) rfl rfl
theorem dX10_withBit_12 : decode cX10_withBit 12 = .ok (.iload_n 0, 1) := o26 hcX10_withBit rfl
theorem dX10_withBit_13 : decode cX10_withBit 13 = .ok (.iconst 1, 1) := o4 hcX10_withBit rfl
theorem dX10_withBit_14 : decode cX10_withBit 14 = .ok (.iload_n 1, 1) := o27 hcX10_withBit rfl
theorem dX10_withBit_15 : decode cX10_withBit 15 = .ok (.ishl, 1) := o120 hcX10_withBit rfl
theorem dX10_withBit_16 : decode cX10_withBit 16 = .ok (.iconst (-1), 1) := o2 hcX10_withBit rfl
theorem dX10_withBit_17 : decode cX10_withBit 17 = .ok (.ixor, 1) := o130 hcX10_withBit rfl
theorem dX10_withBit_18 : decode cX10_withBit 18 = .ok (.iand, 1) := o126 hcX10_withBit rfl
theorem dX10_withBit_19 : decode cX10_withBit 19 = .ok (.ireturn, 1) := o172 hcX10_withBit rfl
theorem dX10_isUnder_0 : decode cX10_isUnder 0 = .ok (.iload_n 0, 1) := o26 hcX10_isUnder rfl
theorem dX10_isUnder_1 : decode cX10_isUnder 1 = .ok (.istore_n 2, 1) := o61 hcX10_isUnder rfl
theorem dX10_isUnder_2 : decode cX10_isUnder 2 = .ok (.iconst 0, 1) := o3 hcX10_isUnder rfl
theorem dX10_isUnder_3 : decode cX10_isUnder 3 = .ok (.istore_n 3, 1) := o62 hcX10_isUnder rfl
theorem dX10_isUnder_4 : decode cX10_isUnder 4 = .ok (.iload_n 3, 1) := o29 hcX10_isUnder rfl
theorem dX10_isUnder_5 : decode cX10_isUnder 5 = .ok (.bipush 6, 2) := o16 hcX10_isUnder (a := 6) rfl rfl
theorem dX10_isUnder_7 : decode cX10_isUnder 7 = .ok (.if_icmp .gt 31, 3) := o163 hcX10_isUnder (a := 31) rfl rfl
theorem dX10_isUnder_10 : decode cX10_isUnder 10 = .ok (.iload_n 2, 1) := o28 hcX10_isUnder rfl
theorem dX10_isUnder_11 : decode cX10_isUnder 11 = .ok (.bipush 6, 2) := o16 hcX10_isUnder (a := 6) rfl rfl
theorem dX10_isUnder_13 : decode cX10_isUnder 13 = .ok (.invokestatic 58, 3) := o184 hcX10_isUnder rfl
theorem dX10_isUnder_16 : decode cX10_isUnder 16 = .ok (.ifCond .eq 22, 3) := o153 hcX10_isUnder (a := 22) rfl rfl
theorem dX10_isUnder_19 : decode cX10_isUnder 19 = .ok (.iload_n 2, 1) := o28 hcX10_isUnder rfl
theorem dX10_isUnder_20 : decode cX10_isUnder 20 = .ok (.iload_n 1, 1) := o27 hcX10_isUnder rfl
theorem dX10_isUnder_21 : decode cX10_isUnder 21 = .ok (.if_icmp .ne 5, 3) := o160 hcX10_isUnder (a := 5) rfl rfl
theorem dX10_isUnder_24 : decode cX10_isUnder 24 = .ok (.iconst 1, 1) := o4 hcX10_isUnder rfl
theorem dX10_isUnder_25 : decode cX10_isUnder 25 = .ok (.ireturn, 1) := o172 hcX10_isUnder rfl
theorem dX10_isUnder_26 : decode cX10_isUnder 26 = .ok (.getstatic 315, 3) := o178 hcX10_isUnder rfl
theorem dX10_isUnder_29 : decode cX10_isUnder 29 = .ok (.iload_n 2, 1) := o28 hcX10_isUnder rfl
theorem dX10_isUnder_30 : decode cX10_isUnder 30 = .ok (.iaload, 1) := o46 hcX10_isUnder rfl
theorem dX10_isUnder_31 : decode cX10_isUnder 31 = .ok (.istore_n 2, 1) := o61 hcX10_isUnder rfl
theorem dX10_isUnder_32 : decode cX10_isUnder 32 = .ok (.iinc 3 1, 3) := o132 hcX10_isUnder (b := 1) rfl rfl
theorem dX10_isUnder_35 : decode cX10_isUnder 35 = .ok (.goto (-31), 3) := o167 hcX10_isUnder (a := 65505) rfl rfl
theorem dX10_isUnder_38 : decode cX10_isUnder 38 = .ok (.iconst 0, 1) := o3 hcX10_isUnder rfl
theorem dX10_isUnder_39 : decode cX10_isUnder 39 = .ok (.ireturn, 1) := o172 hcX10_isUnder rfl
theorem dX10_roundedUp_0 : decode cX10_roundedUp 0 = .ok (.iload_n 1, 1) := o27 hcX10_roundedUp rfl
theorem dX10_roundedUp_1 : decode cX10_roundedUp 1 = .ok (.ifCond .le 13, 3) := o158 hcX10_roundedUp (a := 13) rfl rfl
theorem dX10_roundedUp_4 : decode cX10_roundedUp 4 = .ok (.iload_n 0, 1) := o26 hcX10_roundedUp rfl
theorem dX10_roundedUp_5 : decode cX10_roundedUp 5 = .ok (.iload_n 1, 1) := o27 hcX10_roundedUp rfl
theorem dX10_roundedUp_6 : decode cX10_roundedUp 6 = .ok (.iadd, 1) := o96 hcX10_roundedUp rfl
theorem dX10_roundedUp_7 : decode cX10_roundedUp 7 = .ok (.iconst 1, 1) := o4 hcX10_roundedUp rfl
theorem dX10_roundedUp_8 : decode cX10_roundedUp 8 = .ok (.isub, 1) := o100 hcX10_roundedUp rfl
theorem dX10_roundedUp_9 : decode cX10_roundedUp 9 = .ok (.iload_n 1, 1) := o27 hcX10_roundedUp rfl
theorem dX10_roundedUp_10 : decode cX10_roundedUp 10 = .ok (.idiv, 1) := o108 hcX10_roundedUp rfl
theorem dX10_roundedUp_11 : decode cX10_roundedUp 11 = .ok (.goto 4, 3) := o167 hcX10_roundedUp (a := 4) rfl rfl
theorem dX10_roundedUp_14 : decode cX10_roundedUp 14 = .ok (.iconst 0, 1) := o3 hcX10_roundedUp rfl
theorem dX10_roundedUp_15 : decode cX10_roundedUp 15 = .ok (.ireturn, 1) := o172 hcX10_roundedUp rfl
theorem dX10_sideOfFraction_0 : decode cX10_sideOfFraction 0 = .ok (.lload_n 0, 1) := o30 hcX10_sideOfFraction rfl
theorem dX10_sideOfFraction_1 : decode cX10_sideOfFraction 1 = .ok (.lstore 5, 2) := o55 hcX10_sideOfFraction rfl
theorem dX10_sideOfFraction_3 : decode cX10_sideOfFraction 3 = .ok (.lload_n 2, 1) := o32 hcX10_sideOfFraction rfl
theorem dX10_sideOfFraction_4 : decode cX10_sideOfFraction 4 = .ok (.lstore 7, 2) := o55 hcX10_sideOfFraction rfl
theorem dX10_sideOfFraction_6 : decode cX10_sideOfFraction 6 = .ok (.iconst 0, 1) := o3 hcX10_sideOfFraction rfl
theorem dX10_sideOfFraction_7 : decode cX10_sideOfFraction 7 = .ok (.istore 9, 2) := o54 hcX10_sideOfFraction rfl
theorem dX10_sideOfFraction_9 : decode cX10_sideOfFraction 9 = .ok (.iload 9, 2) := o21 hcX10_sideOfFraction rfl
theorem dX10_sideOfFraction_11 : decode cX10_sideOfFraction 11 = .ok (.bipush 100, 2) := o16 hcX10_sideOfFraction (a := 100) rfl rfl
theorem dX10_sideOfFraction_13 : decode cX10_sideOfFraction 13 = .ok (.if_icmp .ge 31, 3) := o162 hcX10_sideOfFraction (a := 31) rfl rfl
theorem dX10_sideOfFraction_16 : decode cX10_sideOfFraction 16 = .ok (.lload 7, 2) := o22 hcX10_sideOfFraction rfl
theorem dX10_sideOfFraction_18 : decode cX10_sideOfFraction 18 = .ok (.lconst 0, 1) := o9 hcX10_sideOfFraction rfl
theorem dX10_sideOfFraction_19 : decode cX10_sideOfFraction 19 = .ok (.lcmp, 1) := o148 hcX10_sideOfFraction rfl
theorem dX10_sideOfFraction_20 : decode cX10_sideOfFraction 20 = .ok (.ifCond .eq 24, 3) := o153 hcX10_sideOfFraction (a := 24) rfl rfl
theorem dX10_sideOfFraction_23 : decode cX10_sideOfFraction 23 = .ok (.lload 5, 2) := o22 hcX10_sideOfFraction rfl
theorem dX10_sideOfFraction_25 : decode cX10_sideOfFraction 25 = .ok (.lload 7, 2) := o22 hcX10_sideOfFraction rfl
theorem dX10_sideOfFraction_27 : decode cX10_sideOfFraction 27 = .ok (.lrem, 1) := o113 hcX10_sideOfFraction rfl
theorem dX10_sideOfFraction_28 : decode cX10_sideOfFraction 28 = .ok (.lstore 10, 2) := o55 hcX10_sideOfFraction rfl
theorem dX10_sideOfFraction_30 : decode cX10_sideOfFraction 30 = .ok (.lload 7, 2) := o22 hcX10_sideOfFraction rfl
theorem dX10_sideOfFraction_32 : decode cX10_sideOfFraction 32 = .ok (.lstore 5, 2) := o55 hcX10_sideOfFraction rfl
theorem dX10_sideOfFraction_34 : decode cX10_sideOfFraction 34 = .ok (.lload 10, 2) := o22 hcX10_sideOfFraction rfl
theorem dX10_sideOfFraction_36 : decode cX10_sideOfFraction 36 = .ok (.lstore 7, 2) := o55 hcX10_sideOfFraction rfl
theorem dX10_sideOfFraction_38 : decode cX10_sideOfFraction 38 = .ok (.iinc 9 1, 3) := o132 hcX10_sideOfFraction (b := 1) rfl rfl
theorem dX10_sideOfFraction_41 : decode cX10_sideOfFraction 41 = .ok (.goto (-32), 3) := o167 hcX10_sideOfFraction (a := 65504) rfl rfl
theorem dX10_sideOfFraction_44 : decode cX10_sideOfFraction 44 = .ok (.iload 4, 2) := o21 hcX10_sideOfFraction rfl
theorem dX10_sideOfFraction_46 : decode cX10_sideOfFraction 46 = .ok (.ifCond .ne 7, 3) := o154 hcX10_sideOfFraction (a := 7) rfl rfl
theorem dX10_sideOfFraction_49 : decode cX10_sideOfFraction 49 = .ok (.lload_n 0, 1) := o30 hcX10_sideOfFraction rfl
theorem dX10_sideOfFraction_50 : decode cX10_sideOfFraction 50 = .ok (.goto 4, 3) := o167 hcX10_sideOfFraction (a := 4) rfl rfl
theorem dX10_sideOfFraction_53 : decode cX10_sideOfFraction 53 = .ok (.lload_n 2, 1) := o32 hcX10_sideOfFraction rfl
theorem dX10_sideOfFraction_54 : decode cX10_sideOfFraction 54 = .ok (.lstore 9, 2) := o55 hcX10_sideOfFraction rfl
theorem dX10_sideOfFraction_56 : decode cX10_sideOfFraction 56 = .ok (.lload 5, 2) := o22 hcX10_sideOfFraction rfl
theorem dX10_sideOfFraction_58 : decode cX10_sideOfFraction 58 = .ok (.lconst 0, 1) := o9 hcX10_sideOfFraction rfl
theorem dX10_sideOfFraction_59 : decode cX10_sideOfFraction 59 = .ok (.lcmp, 1) := o148 hcX10_sideOfFraction rfl
theorem dX10_sideOfFraction_60 : decode cX10_sideOfFraction 60 = .ok (.ifCond .le 11, 3) := o158 hcX10_sideOfFraction (a := 11) rfl rfl
theorem dX10_sideOfFraction_63 : decode cX10_sideOfFraction 63 = .ok (.lload 9, 2) := o22 hcX10_sideOfFraction rfl
theorem dX10_sideOfFraction_65 : decode cX10_sideOfFraction 65 = .ok (.lload 5, 2) := o22 hcX10_sideOfFraction rfl
theorem dX10_sideOfFraction_67 : decode cX10_sideOfFraction 67 = .ok (.ldiv, 1) := o109 hcX10_sideOfFraction rfl
theorem dX10_sideOfFraction_68 : decode cX10_sideOfFraction 68 = .ok (.goto 5, 3) := o167 hcX10_sideOfFraction (a := 5) rfl rfl
theorem dX10_sideOfFraction_71 : decode cX10_sideOfFraction 71 = .ok (.lload 9, 2) := o22 hcX10_sideOfFraction rfl
theorem dX10_sideOfFraction_73 : decode cX10_sideOfFraction 73 = .ok (.lreturn, 1) := o173 hcX10_sideOfFraction rfl
