set_option maxRecDepth 20000 in
theorem dX6_init_0 : decode cX6_init 0 = .ok (.aload_n 0, 1) := by decide +kernel
set_option maxRecDepth 20000 in
theorem dX6_init_1 : decode cX6_init 1 = .ok (.invokespecial 1, 3) := by decide +kernel
set_option maxRecDepth 20000 in
theorem dX6_init_4 : decode cX6_init 4 = .ok (.aload_n 0, 1) := by decide +kernel
set_option maxRecDepth 20000 in
theorem dX6_init_5 : decode cX6_init 5 = .ok (.new 7, 3) := by decide +kernel
set_option maxRecDepth 20000 in
theorem dX6_init_8 : decode cX6_init 8 = .ok (.dup, 1) := by decide +kernel
set_option maxRecDepth 20000 in
theorem dX6_init_9 : decode cX6_init 9 = .ok (.invokespecial 9, 3) := by decide +kernel
set_option maxRecDepth 20000 in
theorem dX6_init_12 : decode cX6_init 12 = .ok (.putfield 10, 3) := by decide +kernel
set_option maxRecDepth 20000 in
theorem dX6_init_15 : decode cX6_init 15 = .ok (.aload_n 0, 1) := by decide +kernel
set_option maxRecDepth 20000 in
theorem dX6_init_16 : decode cX6_init 16 = .ok (.new 16, 3) := by decide +kernel
set_option maxRecDepth 20000 in
theorem dX6_init_19 : decode cX6_init 19 = .ok (.dup, 1) := by decide +kernel
set_option maxRecDepth 20000 in
theorem dX6_init_20 : decode cX6_init 20 = .ok (.invokespecial 18, 3) := by decide +kernel
set_option maxRecDepth 20000 in
theorem dX6_init_23 : decode cX6_init 23 = .ok (.putfield 19, 3) := by decide +kernel
set_option maxRecDepth 20000 in
theorem dX6_init_26 : decode cX6_init 26 = .ok (.aload_n 0, 1) := by decide +kernel
set_option maxRecDepth 20000 in
theorem dX6_init_27 : decode cX6_init 27 = .ok (.new 23, 3) := by decide +kernel
set_option maxRecDepth 20000 in
theorem dX6_init_30 : decode cX6_init 30 = .ok (.dup, 1) := by decide +kernel
set_option maxRecDepth 20000 in
theorem dX6_init_31 : decode cX6_init 31 = .ok (.invokespecial 25, 3) := by decide +kernel
set_option maxRecDepth 20000 in
theorem dX6_init_34 : decode cX6_init 34 = .ok (.putfield 26, 3) := by decide +kernel
set_option maxRecDepth 20000 in
theorem dX6_init_37 : decode cX6_init 37 = .ok (.aload_n 0, 1) := by decide +kernel
set_option maxRecDepth 20000 in
theorem dX6_init_38 : decode cX6_init 38 = .ok (.new 30, 3) := by decide +kernel
set_option maxRecDepth 20000 in
theorem dX6_init_41 : decode cX6_init 41 = .ok (.dup, 1) := by decide +kernel
set_option maxRecDepth 20000 in
theorem dX6_init_42 : decode cX6_init 42 = .ok (.invokespecial 32, 3) := by decide +kernel
set_option maxRecDepth 20000 in
theorem dX6_init_45 : decode cX6_init 45 = .ok (.putfield 33, 3) := by decide +kernel
set_option maxRecDepth 20000 in
theorem dX6_init_48 : decode cX6_init 48 = .ok (.aload_n 0, 1) := by decide +kernel
set_option maxRecDepth 20000 in
theorem dX6_init_49 : decode cX6_init 49 = .ok (.new 37, 3) := by decide +kernel
set_option maxRecDepth 20000 in
theorem dX6_init_52 : decode cX6_init 52 = .ok (.dup, 1) := by decide +kernel
set_option maxRecDepth 20000 in
theorem dX6_init_53 : decode cX6_init 53 = .ok (.iconst 2, 1) := by decide +kernel
set_option maxRecDepth 20000 in
theorem dX6_init_54 : decode cX6_init 54 = .ok (.invokespecial 39, 3) := by decide +kernel
set_option maxRecDepth 20000 in
theorem dX6_init_57 : decode cX6_init 57 = .ok (.putfield 42, 3) := by decide +kernel
set_option maxRecDepth 20000 in
theorem dX6_init_60 : decode cX6_init 60 = .ok (.aload_n 0, 1) := by decide +kernel
set_option maxRecDepth 20000 in
theorem dX6_init_61 : decode cX6_init 61 = .ok (.iconst 4, 1) := by decide +kernel
set_option maxRecDepth 20000 in
theorem dX6_init_62 : decode cX6_init 62 = .ok (.newarray .int, 2) := by decide +kernel
set_option maxRecDepth 20000 in
theorem dX6_init_64 : decode cX6_init 64 = .ok (.putfield 46, 3) := by decide +kernel
set_option maxRecDepth 20000 in
theorem dX6_init_67 : decode cX6_init 67 = .ok (.aload_n 0, 1) := by decide +kernel
set_option maxRecDepth 20000 in
theorem dX6_init_68 : decode cX6_init 68 = .ok (.getfield 26, 3) := by decide +kernel
set_option maxRecDepth 20000 in
theorem dX6_init_71 : decode cX6_init 71 = .ok (.invokevirtual 50, 3) := by decide +kernel
set_option maxRecDepth 20000 in
theorem dX6_init_74 : decode cX6_init 74 = .ok (.return_, 1) := by decide +kernel
set_option maxRecDepth 20000 in
theorem dX6_type_0 : decode cX6_type 0 = .ok (.iload_n 1, 1) := by decide +kernel
set_option maxRecDepth 20000 in
theorem dX6_type_1 : decode cX6_type 1 = .ok (.ifCond .lt 10, 3) := by decide +kernel
set_option maxRecDepth 20000 in
theorem dX6_type_4 : decode cX6_type 4 = .ok (.iload_n 1, 1) := by decide +kernel
set_option maxRecDepth 20000 in
theorem dX6_type_5 : decode cX6_type 5 = .ok (.sipush 255, 3) := by decide +kernel
set_option maxRecDepth 20000 in
theorem dX6_type_8 : decode cX6_type 8 = .ok (.if_icmp .le 5, 3) := by decide +kernel
set_option maxRecDepth 20000 in
theorem dX6_type_11 : decode cX6_type 11 = .ok (.iconst (-1), 1) := by decide +kernel
set_option maxRecDepth 20000 in
theorem dX6_type_12 : decode cX6_type 12 = .ok (.ireturn, 1) := by decide +kernel
set_option maxRecDepth 20000 in
theorem dX6_type_13 : decode cX6_type 13 = .ok (.aload_n 0, 1) := by decide +kernel
set_option maxRecDepth 20000 in
theorem dX6_type_14 : decode cX6_type 14 = .ok (.getfield 10, 3) := by decide +kernel
set_option maxRecDepth 20000 in
theorem dX6_type_17 : decode cX6_type 17 = .ok (.getfield 53, 3) := by decide +kernel
set_option maxRecDepth 20000 in
theorem dX6_type_20 : decode cX6_type 20 = .ok (.sipush 150, 3) := by decide +kernel
set_option maxRecDepth 20000 in
theorem dX6_type_23 : decode cX6_type 23 = .ok (.if_icmp .lt 6, 3) := by decide +kernel
set_option maxRecDepth 20000 in
theorem dX6_type_26 : decode cX6_type 26 = .ok (.bipush (-3), 2) := by decide +kernel
set_option maxRecDepth 20000 in
theorem dX6_type_28 : decode cX6_type 28 = .ok (.ireturn, 1) := by decide +kernel
set_option maxRecDepth 20000 in
theorem dX6_type_29 : decode cX6_type 29 = .ok (.aload_n 0, 1) := by decide +kernel
set_option maxRecDepth 20000 in
theorem dX6_type_30 : decode cX6_type 30 = .ok (.getfield 10, 3) := by decide +kernel
set_option maxRecDepth 20000 in
theorem dX6_type_33 : decode cX6_type 33 = .ok (.iload_n 1, 1) := by decide +kernel
set_option maxRecDepth 20000 in
theorem dX6_type_34 : decode cX6_type 34 = .ok (.invokevirtual 57, 3) := by decide +kernel
set_option maxRecDepth 20000 in
theorem dX6_type_37 : decode cX6_type 37 = .ok (.aload_n 0, 1) := by decide +kernel
set_option maxRecDepth 20000 in
theorem dX6_type_38 : decode cX6_type 38 = .ok (.getfield 10, 3) := by decide +kernel
set_option maxRecDepth 20000 in
theorem dX6_type_41 : decode cX6_type 41 = .ok (.getfield 53, 3) := by decide +kernel
set_option maxRecDepth 20000 in
theorem dX6_type_44 : decode cX6_type 44 = .ok (.ireturn, 1) := by decide +kernel
set_option maxRecDepth 20000 in
theorem dX6_clear_0 : decode cX6_clear 0 = .ok (.aload_n 0, 1) := by decide +kernel
set_option maxRecDepth 20000 in
theorem dX6_clear_1 : decode cX6_clear 1 = .ok (.getfield 10, 3) := by decide +kernel
set_option maxRecDepth 20000 in
theorem dX6_clear_4 : decode cX6_clear 4 = .ok (.getfield 53, 3) := by decide +kernel
set_option maxRecDepth 20000 in
theorem dX6_clear_7 : decode cX6_clear 7 = .ok (.istore_n 1, 1) := by decide +kernel
set_option maxRecDepth 20000 in
theorem dX6_clear_8 : decode cX6_clear 8 = .ok (.aload_n 0, 1) := by decide +kernel
set_option maxRecDepth 20000 in
theorem dX6_clear_9 : decode cX6_clear 9 = .ok (.getfield 10, 3) := by decide +kernel
set_option maxRecDepth 20000 in
theorem dX6_clear_12 : decode cX6_clear 12 = .ok (.iconst 0, 1) := by decide +kernel
set_option maxRecDepth 20000 in
theorem dX6_clear_13 : decode cX6_clear 13 = .ok (.putfield 53, 3) := by decide +kernel
set_option maxRecDepth 20000 in
theorem dX6_clear_16 : decode cX6_clear 16 = .ok (.iload_n 1, 1) := by decide +kernel
set_option maxRecDepth 20000 in
theorem dX6_clear_17 : decode cX6_clear 17 = .ok (.ireturn, 1) := by decide +kernel
set_option maxRecDepth 20000 in
theorem dX6_suburb_0 : decode cX6_suburb 0 = .ok (.aload_n 0, 1) := by decide +kernel
set_option maxRecDepth 20000 in
theorem dX6_suburb_1 : decode cX6_suburb 1 = .ok (.getfield 10, 3) := by decide +kernel
set_option maxRecDepth 20000 in
theorem dX6_suburb_4 : decode cX6_suburb 4 = .ok (.invokevirtual 60, 3) := by decide +kernel
set_option maxRecDepth 20000 in
theorem dX6_suburb_7 : decode cX6_suburb 7 = .ok (.istore_n 1, 1) := by decide +kernel
set_option maxRecDepth 20000 in
theorem dX6_suburb_8 : decode cX6_suburb 8 = .ok (.iload_n 1, 1) := by decide +kernel
set_option maxRecDepth 20000 in
theorem dX6_suburb_9 : decode cX6_suburb 9 = .ok (.ifCond .ge 5, 3) := by decide +kernel
set_option maxRecDepth 20000 in
theorem dX6_suburb_12 : decode cX6_suburb 12 = .ok (.iload_n 1, 1) := by decide +kernel
set_option maxRecDepth 20000 in
theorem dX6_suburb_13 : decode cX6_suburb 13 = .ok (.ireturn, 1) := by decide +kernel
set_option maxRecDepth 20000 in
theorem dX6_suburb_14 : decode cX6_suburb 14 = .ok (.aload_n 0, 1) := by decide +kernel
set_option maxRecDepth 20000 in
theorem dX6_suburb_15 : decode cX6_suburb 15 = .ok (.getfield 19, 3) := by decide +kernel
set_option maxRecDepth 20000 in
theorem dX6_suburb_18 : decode cX6_suburb 18 = .ok (.aload_n 0, 1) := by decide +kernel
set_option maxRecDepth 20000 in
theorem dX6_suburb_19 : decode cX6_suburb 19 = .ok (.getfield 10, 3) := by decide +kernel
set_option maxRecDepth 20000 in
theorem dX6_suburb_22 : decode cX6_suburb 22 = .ok (.getfield 64, 3) := by decide +kernel
set_option maxRecDepth 20000 in
theorem dX6_suburb_25 : decode cX6_suburb 25 = .ok (.invokevirtual 67, 3) := by decide +kernel
set_option maxRecDepth 20000 in
theorem dX6_suburb_28 : decode cX6_suburb 28 = .ok (.aload_n 0, 1) := by decide +kernel
set_option maxRecDepth 20000 in
theorem dX6_suburb_29 : decode cX6_suburb 29 = .ok (.getfield 10, 3) := by decide +kernel
set_option maxRecDepth 20000 in
theorem dX6_suburb_32 : decode cX6_suburb 32 = .ok (.iconst 0, 1) := by decide +kernel
set_option maxRecDepth 20000 in
theorem dX6_suburb_33 : decode cX6_suburb 33 = .ok (.putfield 53, 3) := by decide +kernel
set_option maxRecDepth 20000 in
theorem dX6_suburb_36 : decode cX6_suburb 36 = .ok (.aload_n 0, 1) := by decide +kernel
set_option maxRecDepth 20000 in
theorem dX6_suburb_37 : decode cX6_suburb 37 = .ok (.getfield 26, 3) := by decide +kernel
set_option maxRecDepth 20000 in
theorem dX6_suburb_40 : decode cX6_suburb 40 = .ok (.invokevirtual 50, 3) := by decide +kernel
set_option maxRecDepth 20000 in
theorem dX6_suburb_43 : decode cX6_suburb 43 = .ok (.aload_n 0, 1) := by decide +kernel
set_option maxRecDepth 20000 in
theorem dX6_suburb_44 : decode cX6_suburb 44 = .ok (.getfield 33, 3) := by decide +kernel
set_option maxRecDepth 20000 in
theorem dX6_suburb_47 : decode cX6_suburb 47 = .ok (.invokevirtual 71, 3) := by decide +kernel
set_option maxRecDepth 20000 in
theorem dX6_suburb_50 : decode cX6_suburb 50 = .ok (.aload_n 0, 1) := by decide +kernel
set_option maxRecDepth 20000 in
theorem dX6_suburb_51 : decode cX6_suburb 51 = .ok (.iconst 0, 1) := by decide +kernel
set_option maxRecDepth 20000 in
theorem dX6_suburb_52 : decode cX6_suburb 52 = .ok (.putfield 74, 3) := by decide +kernel
set_option maxRecDepth 20000 in
theorem dX6_suburb_55 : decode cX6_suburb 55 = .ok (.iload_n 1, 1) := by decide +kernel
set_option maxRecDepth 20000 in
theorem dX6_suburb_56 : decode cX6_suburb 56 = .ok (.ireturn, 1) := by decide +kernel
set_option maxRecDepth 20000 in
theorem dX6_word_0 : decode cX6_word 0 = .ok (.aload_n 0, 1) := by decide +kernel
set_option maxRecDepth 20000 in
theorem dX6_word_1 : decode cX6_word 1 = .ok (.getfield 19, 3) := by decide +kernel
set_option maxRecDepth 20000 in
theorem dX6_word_4 : decode cX6_word 4 = .ok (.iload_n 1, 1) := by decide +kernel
set_option maxRecDepth 20000 in
theorem dX6_word_5 : decode cX6_word 5 = .ok (.invokevirtual 77, 3) := by decide +kernel
set_option maxRecDepth 20000 in
theorem dX6_word_8 : decode cX6_word 8 = .ok (.ifCond .ne 5, 3) := by decide +kernel
set_option maxRecDepth 20000 in
theorem dX6_word_11 : decode cX6_word 11 = .ok (.iconst (-1), 1) := by decide +kernel
set_option maxRecDepth 20000 in
theorem dX6_word_12 : decode cX6_word 12 = .ok (.ireturn, 1) := by decide +kernel
set_option maxRecDepth 20000 in
theorem dX6_word_13 : decode cX6_word 13 = .ok (.iload_n 2, 1) := by decide +kernel
set_option maxRecDepth 20000 in
theorem dX6_word_14 : decode cX6_word 14 = .ok (.tableswitch 60 0 3 #[30, 39, 48, 54], 30) := by decide +kernel
set_option maxRecDepth 20000 in
theorem dX6_word_44 : decode cX6_word 44 = .ok (.aload_n 0, 1) := by decide +kernel
set_option maxRecDepth 20000 in
theorem dX6_word_45 : decode cX6_word 45 = .ok (.getfield 19, 3) := by decide +kernel
set_option maxRecDepth 20000 in
theorem dX6_word_48 : decode cX6_word 48 = .ok (.iload_n 1, 1) := by decide +kernel
set_option maxRecDepth 20000 in
theorem dX6_word_49 : decode cX6_word 49 = .ok (.invokevirtual 81, 3) := by decide +kernel
set_option maxRecDepth 20000 in
theorem dX6_word_52 : decode cX6_word 52 = .ok (.ireturn, 1) := by decide +kernel
set_option maxRecDepth 20000 in
theorem dX6_word_53 : decode cX6_word 53 = .ok (.aload_n 0, 1) := by decide +kernel
set_option maxRecDepth 20000 in
theorem dX6_word_54 : decode cX6_word 54 = .ok (.getfield 19, 3) := by decide +kernel
set_option maxRecDepth 20000 in
theorem dX6_word_57 : decode cX6_word 57 = .ok (.iload_n 1, 1) := by decide +kernel
set_option maxRecDepth 20000 in
theorem dX6_word_58 : decode cX6_word 58 = .ok (.invokevirtual 85, 3) := by decide +kernel
set_option maxRecDepth 20000 in
theorem dX6_word_61 : decode cX6_word 61 = .ok (.ireturn, 1) := by decide +kernel
set_option maxRecDepth 20000 in
theorem dX6_word_62 : decode cX6_word 62 = .ok (.aload_n 0, 1) := by decide +kernel
set_option maxRecDepth 20000 in
theorem dX6_word_63 : decode cX6_word 63 = .ok (.iload_n 1, 1) := by decide +kernel
set_option maxRecDepth 20000 in
theorem dX6_word_64 : decode cX6_word 64 = .ok (.invokevirtual 88, 3) := by decide +kernel
set_option maxRecDepth 20000 in
theorem dX6_word_67 : decode cX6_word 67 = .ok (.ireturn, 1) := by decide +kernel
set_option maxRecDepth 20000 in
theorem dX6_word_68 : decode cX6_word 68 = .ok (.aload_n 0, 1) := by decide +kernel
set_option maxRecDepth 20000 in
theorem dX6_word_69 : decode cX6_word 69 = .ok (.iload_n 1, 1) := by decide +kernel
set_option maxRecDepth 20000 in
theorem dX6_word_70 : decode cX6_word 70 = .ok (.invokevirtual 91, 3) := by decide +kernel
set_option maxRecDepth 20000 in
theorem dX6_word_73 : decode cX6_word 73 = .ok (.ireturn, 1) := by decide +kernel
set_option maxRecDepth 20000 in
theorem dX6_word_74 : decode cX6_word 74 = .ok (.iconst (-1), 1) := by decide +kernel
set_option maxRecDepth 20000 in
theorem dX6_word_75 : decode cX6_word 75 = .ok (.ireturn, 1) := by decide +kernel
set_option maxRecDepth 20000 in
theorem dX6_letter_0 : decode cX6_letter 0 = .ok (.aload_n 0, 1) := by decide +kernel
set_option maxRecDepth 20000 in
theorem dX6_letter_1 : decode cX6_letter 1 = .ok (.getfield 19, 3) := by decide +kernel
set_option maxRecDepth 20000 in
theorem dX6_letter_4 : decode cX6_letter 4 = .ok (.iload_n 1, 1) := by decide +kernel
set_option maxRecDepth 20000 in
theorem dX6_letter_5 : decode cX6_letter 5 = .ok (.invokevirtual 77, 3) := by decide +kernel
set_option maxRecDepth 20000 in
theorem dX6_letter_8 : decode cX6_letter 8 = .ok (.ifCond .eq 19, 3) := by decide +kernel
set_option maxRecDepth 20000 in
theorem dX6_letter_11 : decode cX6_letter 11 = .ok (.iload_n 2, 1) := by decide +kernel
set_option maxRecDepth 20000 in
theorem dX6_letter_12 : decode cX6_letter 12 = .ok (.ifCond .lt 15, 3) := by decide +kernel
set_option maxRecDepth 20000 in
theorem dX6_letter_15 : decode cX6_letter 15 = .ok (.iload_n 2, 1) := by decide +kernel
set_option maxRecDepth 20000 in
theorem dX6_letter_16 : decode cX6_letter 16 = .ok (.aload_n 0, 1) := by decide +kernel
set_option maxRecDepth 20000 in
theorem dX6_letter_17 : decode cX6_letter 17 = .ok (.getfield 19, 3) := by decide +kernel
set_option maxRecDepth 20000 in
theorem dX6_letter_20 : decode cX6_letter 20 = .ok (.iload_n 1, 1) := by decide +kernel
set_option maxRecDepth 20000 in
theorem dX6_letter_21 : decode cX6_letter 21 = .ok (.invokevirtual 81, 3) := by decide +kernel
set_option maxRecDepth 20000 in
theorem dX6_letter_24 : decode cX6_letter 24 = .ok (.if_icmp .lt 5, 3) := by decide +kernel
set_option maxRecDepth 20000 in
theorem dX6_letter_27 : decode cX6_letter 27 = .ok (.iconst (-1), 1) := by decide +kernel
set_option maxRecDepth 20000 in
theorem dX6_letter_28 : decode cX6_letter 28 = .ok (.ireturn, 1) := by decide +kernel
set_option maxRecDepth 20000 in
theorem dX6_letter_29 : decode cX6_letter 29 = .ok (.aload_n 0, 1) := by decide +kernel
set_option maxRecDepth 20000 in
theorem dX6_letter_30 : decode cX6_letter 30 = .ok (.getfield 19, 3) := by decide +kernel
set_option maxRecDepth 20000 in
theorem dX6_letter_33 : decode cX6_letter 33 = .ok (.iload_n 1, 1) := by decide +kernel
set_option maxRecDepth 20000 in
theorem dX6_letter_34 : decode cX6_letter 34 = .ok (.iload_n 2, 1) := by decide +kernel
set_option maxRecDepth 20000 in
theorem dX6_letter_35 : decode cX6_letter 35 = .ok (.invokevirtual 94, 3) := by decide +kernel
set_option maxRecDepth 20000 in
theorem dX6_letter_38 : decode cX6_letter 38 = .ok (.ireturn, 1) := by decide +kernel
set_option maxRecDepth 20000 in
theorem dX6_drive_0 : decode cX6_drive 0 = .ok (.aload_n 0, 1) := by decide +kernel
set_option maxRecDepth 20000 in
theorem dX6_drive_1 : decode cX6_drive 1 = .ok (.getfield 19, 3) := by decide +kernel
set_option maxRecDepth 20000 in
theorem dX6_drive_4 : decode cX6_drive 4 = .ok (.iload_n 1, 1) := by decide +kernel
set_option maxRecDepth 20000 in
theorem dX6_drive_5 : decode cX6_drive 5 = .ok (.invokevirtual 98, 3) := by decide +kernel
set_option maxRecDepth 20000 in
theorem dX6_drive_8 : decode cX6_drive 8 = .ok (.ifCond .ne 5, 3) := by decide +kernel
set_option maxRecDepth 20000 in
theorem dX6_drive_11 : decode cX6_drive 11 = .ok (.iconst (-1), 1) := by decide +kernel
set_option maxRecDepth 20000 in
theorem dX6_drive_12 : decode cX6_drive 12 = .ok (.ireturn, 1) := by decide +kernel
set_option maxRecDepth 20000 in
theorem dX6_drive_13 : decode cX6_drive 13 = .ok (.iload_n 2, 1) := by decide +kernel
set_option maxRecDepth 20000 in
theorem dX6_drive_14 : decode cX6_drive 14 = .ok (.tableswitch 80 0 5 #[38, 47, 56, 62, 68, 74], 38) := by decide +kernel
set_option maxRecDepth 20000 in
theorem dX6_drive_52 : decode cX6_drive 52 = .ok (.aload_n 0, 1) := by decide +kernel
set_option maxRecDepth 20000 in
theorem dX6_drive_53 : decode cX6_drive 53 = .ok (.getfield 19, 3) := by decide +kernel
set_option maxRecDepth 20000 in
theorem dX6_drive_56 : decode cX6_drive 56 = .ok (.iload_n 1, 1) := by decide +kernel
set_option maxRecDepth 20000 in
theorem dX6_drive_57 : decode cX6_drive 57 = .ok (.invokevirtual 101, 3) := by decide +kernel
set_option maxRecDepth 20000 in
theorem dX6_drive_60 : decode cX6_drive 60 = .ok (.ireturn, 1) := by decide +kernel
set_option maxRecDepth 20000 in
theorem dX6_drive_61 : decode cX6_drive 61 = .ok (.aload_n 0, 1) := by decide +kernel
set_option maxRecDepth 20000 in
theorem dX6_drive_62 : decode cX6_drive 62 = .ok (.getfield 26, 3) := by decide +kernel
set_option maxRecDepth 20000 in
theorem dX6_drive_65 : decode cX6_drive 65 = .ok (.iload_n 1, 1) := by decide +kernel
set_option maxRecDepth 20000 in
theorem dX6_drive_66 : decode cX6_drive 66 = .ok (.invokevirtual 104, 3) := by decide +kernel
set_option maxRecDepth 20000 in
theorem dX6_drive_69 : decode cX6_drive 69 = .ok (.ireturn, 1) := by decide +kernel
set_option maxRecDepth 20000 in
theorem dX6_drive_70 : decode cX6_drive 70 = .ok (.aload_n 0, 1) := by decide +kernel
set_option maxRecDepth 20000 in
theorem dX6_drive_71 : decode cX6_drive 71 = .ok (.iload_n 1, 1) := by decide +kernel
set_option maxRecDepth 20000 in
theorem dX6_drive_72 : decode cX6_drive 72 = .ok (.invokevirtual 107, 3) := by decide +kernel
set_option maxRecDepth 20000 in
theorem dX6_drive_75 : decode cX6_drive 75 = .ok (.ireturn, 1) := by decide +kernel
set_option maxRecDepth 20000 in
theorem dX6_drive_76 : decode cX6_drive 76 = .ok (.aload_n 0, 1) := by decide +kernel
set_option maxRecDepth 20000 in
theorem dX6_drive_77 : decode cX6_drive 77 = .ok (.iload_n 1, 1) := by decide +kernel
set_option maxRecDepth 20000 in
theorem dX6_drive_78 : decode cX6_drive 78 = .ok (.invokevirtual 110, 3) := by decide +kernel
set_option maxRecDepth 20000 in
theorem dX6_drive_81 : decode cX6_drive 81 = .ok (.ireturn, 1) := by decide +kernel
set_option maxRecDepth 20000 in
theorem dX6_drive_82 : decode cX6_drive 82 = .ok (.aload_n 0, 1) := by decide +kernel
set_option maxRecDepth 20000 in
theorem dX6_drive_83 : decode cX6_drive 83 = .ok (.iload_n 1, 1) := by decide +kernel
set_option maxRecDepth 20000 in
theorem dX6_drive_84 : decode cX6_drive 84 = .ok (.invokevirtual 113, 3) := by decide +kernel
set_option maxRecDepth 20000 in
theorem dX6_drive_87 : decode cX6_drive 87 = .ok (.ireturn, 1) := by decide +kernel
set_option maxRecDepth 20000 in
theorem dX6_drive_88 : decode cX6_drive 88 = .ok (.aload_n 0, 1) := by decide +kernel
set_option maxRecDepth 20000 in
theorem dX6_drive_89 : decode cX6_drive 89 = .ok (.iload_n 1, 1) := by decide +kernel
set_option maxRecDepth 20000 in
theorem dX6_drive_90 : decode cX6_drive 90 = .ok (.invokevirtual 116, 3) := by decide +kernel
set_option maxRecDepth 20000 in
theorem dX6_drive_93 : decode cX6_drive 93 = .ok (.ireturn, 1) := by decide +kernel
set_option maxRecDepth 20000 in
theorem dX6_drive_94 : decode cX6_drive 94 = .ok (.iconst (-1), 1) := by decide +kernel
set_option maxRecDepth 20000 in
theorem dX6_drive_95 : decode cX6_drive 95 = .ok (.ireturn, 1) := by decide +kernel
set_option maxRecDepth 20000 in
theorem dX6_cell_0 : decode cX6_cell 0 = .ok (.aload_n 0, 1) := by decide +kernel
set_option maxRecDepth 20000 in
theorem dX6_cell_1 : decode cX6_cell 1 = .ok (.getfield 19, 3) := by decide +kernel
set_option maxRecDepth 20000 in
theorem dX6_cell_4 : decode cX6_cell 4 = .ok (.iload_n 1, 1) := by decide +kernel
set_option maxRecDepth 20000 in
theorem dX6_cell_5 : decode cX6_cell 5 = .ok (.iload_n 2, 1) := by decide +kernel
set_option maxRecDepth 20000 in
theorem dX6_cell_6 : decode cX6_cell 6 = .ok (.invokevirtual 119, 3) := by decide +kernel
set_option maxRecDepth 20000 in
theorem dX6_cell_9 : decode cX6_cell 9 = .ok (.ifCond .ne 5, 3) := by decide +kernel
set_option maxRecDepth 20000 in
theorem dX6_cell_12 : decode cX6_cell 12 = .ok (.iconst (-1), 1) := by decide +kernel
set_option maxRecDepth 20000 in
theorem dX6_cell_13 : decode cX6_cell 13 = .ok (.ireturn, 1) := by decide +kernel
set_option maxRecDepth 20000 in
theorem dX6_cell_14 : decode cX6_cell 14 = .ok (.aload_n 0, 1) := by decide +kernel
set_option maxRecDepth 20000 in
theorem dX6_cell_15 : decode cX6_cell 15 = .ok (.getfield 26, 3) := by decide +kernel
set_option maxRecDepth 20000 in
theorem dX6_cell_18 : decode cX6_cell 18 = .ok (.iload_n 1, 1) := by decide +kernel
set_option maxRecDepth 20000 in
theorem dX6_cell_19 : decode cX6_cell 19 = .ok (.iload_n 2, 1) := by decide +kernel
set_option maxRecDepth 20000 in
theorem dX6_cell_20 : decode cX6_cell 20 = .ok (.invokevirtual 123, 3) := by decide +kernel
set_option maxRecDepth 20000 in
theorem dX6_cell_23 : decode cX6_cell 23 = .ok (.ifCond .eq 8, 3) := by decide +kernel
set_option maxRecDepth 20000 in
theorem dX6_cell_26 : decode cX6_cell 26 = .ok (.bipush (-9), 2) := by decide +kernel
set_option maxRecDepth 20000 in
theorem dX6_cell_28 : decode cX6_cell 28 = .ok (.goto 12, 3) := by decide +kernel
set_option maxRecDepth 20000 in
theorem dX6_cell_31 : decode cX6_cell 31 = .ok (.aload_n 0, 1) := by decide +kernel
set_option maxRecDepth 20000 in
theorem dX6_cell_32 : decode cX6_cell 32 = .ok (.getfield 26, 3) := by decide +kernel
set_option maxRecDepth 20000 in
theorem dX6_cell_35 : decode cX6_cell 35 = .ok (.iload_n 1, 1) := by decide +kernel
set_option maxRecDepth 20000 in
theorem dX6_cell_36 : decode cX6_cell 36 = .ok (.iload_n 2, 1) := by decide +kernel
set_option maxRecDepth 20000 in
theorem dX6_cell_37 : decode cX6_cell 37 = .ok (.invokevirtual 126, 3) := by decide +kernel
set_option maxRecDepth 20000 in
theorem dX6_cell_40 : decode cX6_cell 40 = .ok (.ireturn, 1) := by decide +kernel
set_option maxRecDepth 20000 in
theorem dX6_goer_0 : decode cX6_goer 0 = .ok (.aload_n 0, 1) := by decide +kernel
set_option maxRecDepth 20000 in
theorem dX6_goer_1 : decode cX6_goer 1 = .ok (.getfield 19, 3) := by decide +kernel
set_option maxRecDepth 20000 in
theorem dX6_goer_4 : decode cX6_goer 4 = .ok (.iload_n 1, 1) := by decide +kernel
set_option maxRecDepth 20000 in
theorem dX6_goer_5 : decode cX6_goer 5 = .ok (.invokevirtual 127, 3) := by decide +kernel
set_option maxRecDepth 20000 in
theorem dX6_goer_8 : decode cX6_goer 8 = .ok (.ifCond .eq 12, 3) := by decide +kernel
set_option maxRecDepth 20000 in
theorem dX6_goer_11 : decode cX6_goer 11 = .ok (.iload_n 2, 1) := by decide +kernel
set_option maxRecDepth 20000 in
theorem dX6_goer_12 : decode cX6_goer 12 = .ok (.ifCond .lt 8, 3) := by decide +kernel
set_option maxRecDepth 20000 in
theorem dX6_goer_15 : decode cX6_goer 15 = .ok (.iload_n 2, 1) := by decide +kernel
set_option maxRecDepth 20000 in
theorem dX6_goer_16 : decode cX6_goer 16 = .ok (.iconst 4, 1) := by decide +kernel
set_option maxRecDepth 20000 in
theorem dX6_goer_17 : decode cX6_goer 17 = .ok (.if_icmp .lt 5, 3) := by decide +kernel
set_option maxRecDepth 20000 in
theorem dX6_goer_20 : decode cX6_goer 20 = .ok (.iconst (-1), 1) := by decide +kernel
set_option maxRecDepth 20000 in
theorem dX6_goer_21 : decode cX6_goer 21 = .ok (.ireturn, 1) := by decide +kernel
set_option maxRecDepth 20000 in
theorem dX6_goer_22 : decode cX6_goer 22 = .ok (.aload_n 0, 1) := by decide +kernel
set_option maxRecDepth 20000 in
theorem dX6_goer_23 : decode cX6_goer 23 = .ok (.getfield 19, 3) := by decide +kernel
set_option maxRecDepth 20000 in
theorem dX6_goer_26 : decode cX6_goer 26 = .ok (.iload_n 1, 1) := by decide +kernel
set_option maxRecDepth 20000 in
theorem dX6_goer_27 : decode cX6_goer 27 = .ok (.iload_n 2, 1) := by decide +kernel
set_option maxRecDepth 20000 in
theorem dX6_goer_28 : decode cX6_goer 28 = .ok (.invokevirtual 130, 3) := by decide +kernel
set_option maxRecDepth 20000 in
theorem dX6_goer_31 : decode cX6_goer 31 = .ok (.ireturn, 1) := by decide +kernel
set_option maxRecDepth 20000 in
theorem dX6_rakes_0 : decode cX6_rakes 0 = .ok (.aload_n 0, 1) := by decide +kernel
set_option maxRecDepth 20000 in
theorem dX6_rakes_1 : decode cX6_rakes 1 = .ok (.getfield 19, 3) := by decide +kernel
set_option maxRecDepth 20000 in
theorem dX6_rakes_4 : decode cX6_rakes 4 = .ok (.iload_n 1, 1) := by decide +kernel
set_option maxRecDepth 20000 in
theorem dX6_rakes_5 : decode cX6_rakes 5 = .ok (.invokevirtual 98, 3) := by decide +kernel
set_option maxRecDepth 20000 in
theorem dX6_rakes_8 : decode cX6_rakes 8 = .ok (.ifCond .eq 14, 3) := by decide +kernel
set_option maxRecDepth 20000 in
theorem dX6_rakes_11 : decode cX6_rakes 11 = .ok (.aload_n 0, 1) := by decide +kernel
set_option maxRecDepth 20000 in
theorem dX6_rakes_12 : decode cX6_rakes 12 = .ok (.getfield 19, 3) := by decide +kernel
set_option maxRecDepth 20000 in
theorem dX6_rakes_15 : decode cX6_rakes 15 = .ok (.iload_n 2, 1) := by decide +kernel
set_option maxRecDepth 20000 in
theorem dX6_rakes_16 : decode cX6_rakes 16 = .ok (.invokevirtual 77, 3) := by decide +kernel
set_option maxRecDepth 20000 in
theorem dX6_rakes_19 : decode cX6_rakes 19 = .ok (.ifCond .ne 5, 3) := by decide +kernel
set_option maxRecDepth 20000 in
theorem dX6_rakes_22 : decode cX6_rakes 22 = .ok (.iconst (-1), 1) := by decide +kernel
set_option maxRecDepth 20000 in
theorem dX6_rakes_23 : decode cX6_rakes 23 = .ok (.ireturn, 1) := by decide +kernel
set_option maxRecDepth 20000 in
theorem dX6_rakes_24 : decode cX6_rakes 24 = .ok (.aload_n 0, 1) := by decide +kernel
set_option maxRecDepth 20000 in
theorem dX6_rakes_25 : decode cX6_rakes 25 = .ok (.getfield 19, 3) := by decide +kernel
set_option maxRecDepth 20000 in
theorem dX6_rakes_28 : decode cX6_rakes 28 = .ok (.iload_n 1, 1) := by decide +kernel
set_option maxRecDepth 20000 in
theorem dX6_rakes_29 : decode cX6_rakes 29 = .ok (.invokevirtual 101, 3) := by decide +kernel
set_option maxRecDepth 20000 in
theorem dX6_rakes_32 : decode cX6_rakes 32 = .ok (.aload_n 0, 1) := by decide +kernel
set_option maxRecDepth 20000 in
theorem dX6_rakes_33 : decode cX6_rakes 33 = .ok (.getfield 19, 3) := by decide +kernel
set_option maxRecDepth 20000 in
theorem dX6_rakes_36 : decode cX6_rakes 36 = .ok (.iload_n 2, 1) := by decide +kernel
set_option maxRecDepth 20000 in
theorem dX6_rakes_37 : decode cX6_rakes 37 = .ok (.invokevirtual 81, 3) := by decide +kernel
set_option maxRecDepth 20000 in
theorem dX6_rakes_40 : decode cX6_rakes 40 = .ok (.isub, 1) := by decide +kernel
set_option maxRecDepth 20000 in
theorem dX6_rakes_41 : decode cX6_rakes 41 = .ok (.istore_n 3, 1) := by decide +kernel
set_option maxRecDepth 20000 in
theorem dX6_rakes_42 : decode cX6_rakes 42 = .ok (.iload_n 3, 1) := by decide +kernel
set_option maxRecDepth 20000 in
theorem dX6_rakes_43 : decode cX6_rakes 43 = .ok (.ifCond .ge 6, 3) := by decide +kernel
set_option maxRecDepth 20000 in
theorem dX6_rakes_46 : decode cX6_rakes 46 = .ok (.bipush (-2), 2) := by decide +kernel
set_option maxRecDepth 20000 in
theorem dX6_rakes_48 : decode cX6_rakes 48 = .ok (.ireturn, 1) := by decide +kernel
set_option maxRecDepth 20000 in
theorem dX6_rakes_49 : decode cX6_rakes 49 = .ok (.aload_n 0, 1) := by decide +kernel
set_option maxRecDepth 20000 in
theorem dX6_rakes_50 : decode cX6_rakes 50 = .ok (.getfield 33, 3) := by decide +kernel
set_option maxRecDepth 20000 in
theorem dX6_rakes_53 : decode cX6_rakes 53 = .ok (.aload_n 0, 1) := by decide +kernel
set_option maxRecDepth 20000 in
theorem dX6_rakes_54 : decode cX6_rakes 54 = .ok (.getfield 26, 3) := by decide +kernel
set_option maxRecDepth 20000 in
theorem dX6_rakes_57 : decode cX6_rakes 57 = .ok (.invokevirtual 133, 3) := by decide +kernel
set_option maxRecDepth 20000 in
theorem dX6_rakes_60 : decode cX6_rakes 60 = .ok (.iconst 0, 1) := by decide +kernel
set_option maxRecDepth 20000 in
theorem dX6_rakes_61 : decode cX6_rakes 61 = .ok (.istore 4, 2) := by decide +kernel
set_option maxRecDepth 20000 in
theorem dX6_rakes_63 : decode cX6_rakes 63 = .ok (.iload 4, 2) := by decide +kernel
set_option maxRecDepth 20000 in
theorem dX6_rakes_65 : decode cX6_rakes 65 = .ok (.bipush 8, 2) := by decide +kernel
set_option maxRecDepth 20000 in
theorem dX6_rakes_67 : decode cX6_rakes 67 = .ok (.if_icmp .ge 29, 3) := by decide +kernel
set_option maxRecDepth 20000 in
theorem dX6_rakes_70 : decode cX6_rakes 70 = .ok (.aload_n 0, 1) := by decide +kernel
set_option maxRecDepth 20000 in
theorem dX6_rakes_71 : decode cX6_rakes 71 = .ok (.getfield 26, 3) := by decide +kernel
set_option maxRecDepth 20000 in
theorem dX6_rakes_74 : decode cX6_rakes 74 = .ok (.iload_n 1, 1) := by decide +kernel
set_option maxRecDepth 20000 in
theorem dX6_rakes_75 : decode cX6_rakes 75 = .ok (.iload 4, 2) := by decide +kernel
set_option maxRecDepth 20000 in
theorem dX6_rakes_77 : decode cX6_rakes 77 = .ok (.aload_n 0, 1) := by decide +kernel
set_option maxRecDepth 20000 in
theorem dX6_rakes_78 : decode cX6_rakes 78 = .ok (.getfield 19, 3) := by decide +kernel
set_option maxRecDepth 20000 in
theorem dX6_rakes_81 : decode cX6_rakes 81 = .ok (.iload_n 2, 1) := by decide +kernel
set_option maxRecDepth 20000 in
theorem dX6_rakes_82 : decode cX6_rakes 82 = .ok (.iload 4, 2) := by decide +kernel
set_option maxRecDepth 20000 in
theorem dX6_rakes_84 : decode cX6_rakes 84 = .ok (.invokevirtual 94, 3) := by decide +kernel
set_option maxRecDepth 20000 in
theorem dX6_rakes_87 : decode cX6_rakes 87 = .ok (.invokevirtual 137, 3) := by decide +kernel
set_option maxRecDepth 20000 in
theorem dX6_rakes_90 : decode cX6_rakes 90 = .ok (.iinc 4 1, 3) := by decide +kernel
set_option maxRecDepth 20000 in
theorem dX6_rakes_93 : decode cX6_rakes 93 = .ok (.goto (-30), 3) := by decide +kernel
set_option maxRecDepth 20000 in
theorem dX6_rakes_96 : decode cX6_rakes 96 = .ok (.aload_n 0, 1) := by decide +kernel
set_option maxRecDepth 20000 in
theorem dX6_rakes_97 : decode cX6_rakes 97 = .ok (.getfield 26, 3) := by decide +kernel
set_option maxRecDepth 20000 in
theorem dX6_rakes_100 : decode cX6_rakes 100 = .ok (.iload_n 1, 1) := by decide +kernel
set_option maxRecDepth 20000 in
theorem dX6_rakes_101 : decode cX6_rakes 101 = .ok (.iconst 0, 1) := by decide +kernel
set_option maxRecDepth 20000 in
theorem dX6_rakes_102 : decode cX6_rakes 102 = .ok (.invokevirtual 141, 3) := by decide +kernel
set_option maxRecDepth 20000 in
theorem dX6_rakes_105 : decode cX6_rakes 105 = .ok (.iload_n 3, 1) := by decide +kernel
set_option maxRecDepth 20000 in
theorem dX6_rakes_106 : decode cX6_rakes 106 = .ok (.ireturn, 1) := by decide +kernel
set_option maxRecDepth 20000 in
theorem dX6_treads_0 : decode cX6_treads 0 = .ok (.aload_n 0, 1) := by decide +kernel
set_option maxRecDepth 20000 in
theorem dX6_treads_1 : decode cX6_treads 1 = .ok (.getfield 19, 3) := by decide +kernel
set_option maxRecDepth 20000 in
theorem dX6_treads_4 : decode cX6_treads 4 = .ok (.iload_n 1, 1) := by decide +kernel
set_option maxRecDepth 20000 in
theorem dX6_treads_5 : decode cX6_treads 5 = .ok (.invokevirtual 98, 3) := by decide +kernel
set_option maxRecDepth 20000 in
theorem dX6_treads_8 : decode cX6_treads 8 = .ok (.ifCond .eq 20, 3) := by decide +kernel
set_option maxRecDepth 20000 in
theorem dX6_treads_11 : decode cX6_treads 11 = .ok (.iload_n 2, 1) := by decide +kernel
set_option maxRecDepth 20000 in
theorem dX6_treads_12 : decode cX6_treads 12 = .ok (.ifCond .lt 16, 3) := by decide +kernel
set_option maxRecDepth 20000 in
theorem dX6_treads_15 : decode cX6_treads 15 = .ok (.iload_n 2, 1) := by decide +kernel
set_option maxRecDepth 20000 in
theorem dX6_treads_16 : decode cX6_treads 16 = .ok (.bipush 7, 2) := by decide +kernel
set_option maxRecDepth 20000 in
theorem dX6_treads_18 : decode cX6_treads 18 = .ok (.if_icmp .gt 10, 3) := by decide +kernel
set_option maxRecDepth 20000 in
theorem dX6_treads_21 : decode cX6_treads 21 = .ok (.iload_n 3, 1) := by decide +kernel
set_option maxRecDepth 20000 in
theorem dX6_treads_22 : decode cX6_treads 22 = .ok (.invokestatic 145, 3) := by decide +kernel
set_option maxRecDepth 20000 in
theorem dX6_treads_25 : decode cX6_treads 25 = .ok (.ifCond .ne 5, 3) := by decide +kernel
set_option maxRecDepth 20000 in
theorem dX6_treads_28 : decode cX6_treads 28 = .ok (.iconst (-1), 1) := by decide +kernel
set_option maxRecDepth 20000 in
theorem dX6_treads_29 : decode cX6_treads 29 = .ok (.ireturn, 1) := by decide +kernel
set_option maxRecDepth 20000 in
theorem dX6_treads_30 : decode cX6_treads 30 = .ok (.aload_n 0, 1) := by decide +kernel
set_option maxRecDepth 20000 in
theorem dX6_treads_31 : decode cX6_treads 31 = .ok (.getfield 33, 3) := by decide +kernel
set_option maxRecDepth 20000 in
theorem dX6_treads_34 : decode cX6_treads 34 = .ok (.aload_n 0, 1) := by decide +kernel
set_option maxRecDepth 20000 in
theorem dX6_treads_35 : decode cX6_treads 35 = .ok (.getfield 26, 3) := by decide +kernel
set_option maxRecDepth 20000 in
theorem dX6_treads_38 : decode cX6_treads 38 = .ok (.invokevirtual 133, 3) := by decide +kernel
set_option maxRecDepth 20000 in
theorem dX6_treads_41 : decode cX6_treads 41 = .ok (.aload_n 0, 1) := by decide +kernel
set_option maxRecDepth 20000 in
theorem dX6_treads_42 : decode cX6_treads 42 = .ok (.getfield 26, 3) := by decide +kernel
set_option maxRecDepth 20000 in
theorem dX6_treads_45 : decode cX6_treads 45 = .ok (.iload_n 1, 1) := by decide +kernel
set_option maxRecDepth 20000 in
theorem dX6_treads_46 : decode cX6_treads 46 = .ok (.aload_n 0, 1) := by decide +kernel
set_option maxRecDepth 20000 in
theorem dX6_treads_47 : decode cX6_treads 47 = .ok (.iload_n 1, 1) := by decide +kernel
set_option maxRecDepth 20000 in
theorem dX6_treads_48 : decode cX6_treads 48 = .ok (.iload_n 2, 1) := by decide +kernel
set_option maxRecDepth 20000 in
theorem dX6_treads_49 : decode cX6_treads 49 = .ok (.iload_n 3, 1) := by decide +kernel
set_option maxRecDepth 20000 in
theorem dX6_treads_50 : decode cX6_treads 50 = .ok (.invokevirtual 148, 3) := by decide +kernel
set_option maxRecDepth 20000 in
theorem dX6_treads_53 : decode cX6_treads 53 = .ok (.invokevirtual 152, 3) := by decide +kernel
set_option maxRecDepth 20000 in
theorem dX6_treads_56 : decode cX6_treads 56 = .ok (.ireturn, 1) := by decide +kernel
set_option maxRecDepth 20000 in
theorem dX6_cat_0 : decode cX6_cat 0 = .ok (.aload_n 0, 1) := by decide +kernel
set_option maxRecDepth 20000 in
theorem dX6_cat_1 : decode cX6_cat 1 = .ok (.getfield 19, 3) := by decide +kernel
set_option maxRecDepth 20000 in
theorem dX6_cat_4 : decode cX6_cat 4 = .ok (.iload_n 1, 1) := by decide +kernel
set_option maxRecDepth 20000 in
theorem dX6_cat_5 : decode cX6_cat 5 = .ok (.iload_n 2, 1) := by decide +kernel
set_option maxRecDepth 20000 in
theorem dX6_cat_6 : decode cX6_cat 6 = .ok (.invokevirtual 119, 3) := by decide +kernel
set_option maxRecDepth 20000 in
theorem dX6_cat_9 : decode cX6_cat 9 = .ok (.ifCond .ne 5, 3) := by decide +kernel
set_option maxRecDepth 20000 in
theorem dX6_cat_12 : decode cX6_cat 12 = .ok (.iconst (-1), 1) := by decide +kernel
set_option maxRecDepth 20000 in
theorem dX6_cat_13 : decode cX6_cat 13 = .ok (.ireturn, 1) := by decide +kernel
set_option maxRecDepth 20000 in
theorem dX6_cat_14 : decode cX6_cat 14 = .ok (.aload_n 0, 1) := by decide +kernel
set_option maxRecDepth 20000 in
theorem dX6_cat_15 : decode cX6_cat 15 = .ok (.getfield 26, 3) := by decide +kernel
set_option maxRecDepth 20000 in
theorem dX6_cat_18 : decode cX6_cat 18 = .ok (.iload_n 1, 1) := by decide +kernel
set_option maxRecDepth 20000 in
theorem dX6_cat_19 : decode cX6_cat 19 = .ok (.iload_n 2, 1) := by decide +kernel
set_option maxRecDepth 20000 in
theorem dX6_cat_20 : decode cX6_cat 20 = .ok (.invokevirtual 123, 3) := by decide +kernel
set_option maxRecDepth 20000 in
theorem dX6_cat_23 : decode cX6_cat 23 = .ok (.ifCond .eq 6, 3) := by decide +kernel
set_option maxRecDepth 20000 in
theorem dX6_cat_26 : decode cX6_cat 26 = .ok (.bipush (-2), 2) := by decide +kernel
set_option maxRecDepth 20000 in
theorem dX6_cat_28 : decode cX6_cat 28 = .ok (.ireturn, 1) := by decide +kernel
set_option maxRecDepth 20000 in
theorem dX6_cat_29 : decode cX6_cat 29 = .ok (.aload_n 0, 1) := by decide +kernel
set_option maxRecDepth 20000 in
theorem dX6_cat_30 : decode cX6_cat 30 = .ok (.getfield 33, 3) := by decide +kernel
set_option maxRecDepth 20000 in
theorem dX6_cat_33 : decode cX6_cat 33 = .ok (.aload_n 0, 1) := by decide +kernel
set_option maxRecDepth 20000 in
theorem dX6_cat_34 : decode cX6_cat 34 = .ok (.getfield 26, 3) := by decide +kernel
set_option maxRecDepth 20000 in
theorem dX6_cat_37 : decode cX6_cat 37 = .ok (.invokevirtual 133, 3) := by decide +kernel
set_option maxRecDepth 20000 in
theorem dX6_cat_40 : decode cX6_cat 40 = .ok (.aload_n 0, 1) := by decide +kernel
set_option maxRecDepth 20000 in
theorem dX6_cat_41 : decode cX6_cat 41 = .ok (.getfield 26, 3) := by decide +kernel
set_option maxRecDepth 20000 in
theorem dX6_cat_44 : decode cX6_cat 44 = .ok (.iload_n 1, 1) := by decide +kernel
set_option maxRecDepth 20000 in
theorem dX6_cat_45 : decode cX6_cat 45 = .ok (.iconst 1, 1) := by decide +kernel
set_option maxRecDepth 20000 in
theorem dX6_cat_46 : decode cX6_cat 46 = .ok (.iload_n 2, 1) := by decide +kernel
set_option maxRecDepth 20000 in
theorem dX6_cat_47 : decode cX6_cat 47 = .ok (.ishl, 1) := by decide +kernel
set_option maxRecDepth 20000 in
theorem dX6_cat_48 : decode cX6_cat 48 = .ok (.invokevirtual 152, 3) := by decide +kernel
set_option maxRecDepth 20000 in
theorem dX6_cat_51 : decode cX6_cat 51 = .ok (.pop, 1) := by decide +kernel
set_option maxRecDepth 20000 in
theorem dX6_cat_52 : decode cX6_cat 52 = .ok (.aload_n 0, 1) := by decide +kernel
set_option maxRecDepth 20000 in
theorem dX6_cat_53 : decode cX6_cat 53 = .ok (.getfield 26, 3) := by decide +kernel
set_option maxRecDepth 20000 in
theorem dX6_cat_56 : decode cX6_cat 56 = .ok (.iload_n 1, 1) := by decide +kernel
set_option maxRecDepth 20000 in
theorem dX6_cat_57 : decode cX6_cat 57 = .ok (.invokevirtual 104, 3) := by decide +kernel
set_option maxRecDepth 20000 in
theorem dX6_cat_60 : decode cX6_cat 60 = .ok (.invokestatic 155, 3) := by decide +kernel
set_option maxRecDepth 20000 in
theorem dX6_cat_63 : decode cX6_cat 63 = .ok (.ireturn, 1) := by decide +kernel
set_option maxRecDepth 20000 in
theorem dX6_rains_0 : decode cX6_rains 0 = .ok (.aload_n 0, 1) := by decide +kernel
set_option maxRecDepth 20000 in
theorem dX6_rains_1 : decode cX6_rains 1 = .ok (.getfield 33, 3) := by decide +kernel
set_option maxRecDepth 20000 in
theorem dX6_rains_4 : decode cX6_rains 4 = .ok (.aload_n 0, 1) := by decide +kernel
set_option maxRecDepth 20000 in
theorem dX6_rains_5 : decode cX6_rains 5 = .ok (.getfield 26, 3) := by decide +kernel
set_option maxRecDepth 20000 in
theorem dX6_rains_8 : decode cX6_rains 8 = .ok (.invokevirtual 133, 3) := by decide +kernel
set_option maxRecDepth 20000 in
theorem dX6_rains_11 : decode cX6_rains 11 = .ok (.aload_n 0, 1) := by decide +kernel
set_option maxRecDepth 20000 in
theorem dX6_rains_12 : decode cX6_rains 12 = .ok (.getfield 26, 3) := by decide +kernel
set_option maxRecDepth 20000 in
theorem dX6_rains_15 : decode cX6_rains 15 = .ok (.invokevirtual 160, 3) := by decide +kernel
set_option maxRecDepth 20000 in
theorem dX6_rains_18 : decode cX6_rains 18 = .ok (.ireturn, 1) := by decide +kernel
set_option maxRecDepth 20000 in
theorem dX6_hour_0 : decode cX6_hour 0 = .ok (.aload_n 0, 1) := by decide +kernel
set_option maxRecDepth 20000 in
theorem dX6_hour_1 : decode cX6_hour 1 = .ok (.getfield 26, 3) := by decide +kernel
set_option maxRecDepth 20000 in
theorem dX6_hour_4 : decode cX6_hour 4 = .ok (.getfield 163, 3) := by decide +kernel
set_option maxRecDepth 20000 in
theorem dX6_hour_7 : decode cX6_hour 7 = .ok (.bipush 24, 2) := by decide +kernel
set_option maxRecDepth 20000 in
theorem dX6_hour_9 : decode cX6_hour 9 = .ok (.if_icmp .lt 6, 3) := by decide +kernel
set_option maxRecDepth 20000 in
theorem dX6_hour_12 : decode cX6_hour 12 = .ok (.bipush (-2), 2) := by decide +kernel
set_option maxRecDepth 20000 in
theorem dX6_hour_14 : decode cX6_hour 14 = .ok (.ireturn, 1) := by decide +kernel
set_option maxRecDepth 20000 in
theorem dX6_hour_15 : decode cX6_hour 15 = .ok (.aload_n 0, 1) := by decide +kernel
set_option maxRecDepth 20000 in
theorem dX6_hour_16 : decode cX6_hour 16 = .ok (.getfield 33, 3) := by decide +kernel
set_option maxRecDepth 20000 in
theorem dX6_hour_19 : decode cX6_hour 19 = .ok (.aload_n 0, 1) := by decide +kernel
set_option maxRecDepth 20000 in
theorem dX6_hour_20 : decode cX6_hour 20 = .ok (.getfield 26, 3) := by decide +kernel
set_option maxRecDepth 20000 in
theorem dX6_hour_23 : decode cX6_hour 23 = .ok (.invokevirtual 133, 3) := by decide +kernel
set_option maxRecDepth 20000 in
theorem dX6_hour_26 : decode cX6_hour 26 = .ok (.aload_n 0, 1) := by decide +kernel
set_option maxRecDepth 20000 in
theorem dX6_hour_27 : decode cX6_hour 27 = .ok (.getfield 26, 3) := by decide +kernel
set_option maxRecDepth 20000 in
theorem dX6_hour_30 : decode cX6_hour 30 = .ok (.dup, 1) := by decide +kernel
set_option maxRecDepth 20000 in
theorem dX6_hour_31 : decode cX6_hour 31 = .ok (.getfield 163, 3) := by decide +kernel
set_option maxRecDepth 20000 in
theorem dX6_hour_34 : decode cX6_hour 34 = .ok (.iconst 1, 1) := by decide +kernel
set_option maxRecDepth 20000 in
theorem dX6_hour_35 : decode cX6_hour 35 = .ok (.iadd, 1) := by decide +kernel
set_option maxRecDepth 20000 in
theorem dX6_hour_36 : decode cX6_hour 36 = .ok (.putfield 163, 3) := by decide +kernel
set_option maxRecDepth 20000 in
theorem dX6_hour_39 : decode cX6_hour 39 = .ok (.iconst 0, 1) := by decide +kernel
set_option maxRecDepth 20000 in
theorem dX6_hour_40 : decode cX6_hour 40 = .ok (.istore_n 1, 1) := by decide +kernel
set_option maxRecDepth 20000 in
theorem dX6_hour_41 : decode cX6_hour 41 = .ok (.iconst 0, 1) := by decide +kernel
set_option maxRecDepth 20000 in
theorem dX6_hour_42 : decode cX6_hour 42 = .ok (.istore_n 2, 1) := by decide +kernel
set_option maxRecDepth 20000 in
theorem dX6_hour_43 : decode cX6_hour 43 = .ok (.iload_n 2, 1) := by decide +kernel
set_option maxRecDepth 20000 in
theorem dX6_hour_44 : decode cX6_hour 44 = .ok (.aload_n 0, 1) := by decide +kernel
set_option maxRecDepth 20000 in
theorem dX6_hour_45 : decode cX6_hour 45 = .ok (.getfield 19, 3) := by decide +kernel
set_option maxRecDepth 20000 in
theorem dX6_hour_48 : decode cX6_hour 48 = .ok (.getfield 166, 3) := by decide +kernel
set_option maxRecDepth 20000 in
theorem dX6_hour_51 : decode cX6_hour 51 = .ok (.if_icmp .ge 53, 3) := by decide +kernel
set_option maxRecDepth 20000 in
theorem dX6_hour_54 : decode cX6_hour 54 = .ok (.aload_n 0, 1) := by decide +kernel
set_option maxRecDepth 20000 in
theorem dX6_hour_55 : decode cX6_hour 55 = .ok (.getfield 19, 3) := by decide +kernel
set_option maxRecDepth 20000 in
theorem dX6_hour_58 : decode cX6_hour 58 = .ok (.iload_n 2, 1) := by decide +kernel
set_option maxRecDepth 20000 in
theorem dX6_hour_59 : decode cX6_hour 59 = .ok (.iconst 0, 1) := by decide +kernel
set_option maxRecDepth 20000 in
theorem dX6_hour_60 : decode cX6_hour 60 = .ok (.invokevirtual 130, 3) := by decide +kernel
set_option maxRecDepth 20000 in
theorem dX6_hour_63 : decode cX6_hour 63 = .ok (.aload_n 0, 1) := by decide +kernel
set_option maxRecDepth 20000 in
theorem dX6_hour_64 : decode cX6_hour 64 = .ok (.getfield 26, 3) := by decide +kernel
set_option maxRecDepth 20000 in
theorem dX6_hour_67 : decode cX6_hour 67 = .ok (.getfield 163, 3) := by decide +kernel
set_option maxRecDepth 20000 in
theorem dX6_hour_70 : decode cX6_hour 70 = .ok (.if_icmp .ne 28, 3) := by decide +kernel
set_option maxRecDepth 20000 in
theorem dX6_hour_73 : decode cX6_hour 73 = .ok (.aload_n 0, 1) := by decide +kernel
set_option maxRecDepth 20000 in
theorem dX6_hour_74 : decode cX6_hour 74 = .ok (.getfield 26, 3) := by decide +kernel
set_option maxRecDepth 20000 in
theorem dX6_hour_77 : decode cX6_hour 77 = .ok (.aload_n 0, 1) := by decide +kernel
set_option maxRecDepth 20000 in
theorem dX6_hour_78 : decode cX6_hour 78 = .ok (.getfield 19, 3) := by decide +kernel
set_option maxRecDepth 20000 in
theorem dX6_hour_81 : decode cX6_hour 81 = .ok (.iload_n 2, 1) := by decide +kernel
set_option maxRecDepth 20000 in
theorem dX6_hour_82 : decode cX6_hour 82 = .ok (.iconst 1, 1) := by decide +kernel
set_option maxRecDepth 20000 in
theorem dX6_hour_83 : decode cX6_hour 83 = .ok (.invokevirtual 130, 3) := by decide +kernel
set_option maxRecDepth 20000 in
theorem dX6_hour_86 : decode cX6_hour 86 = .ok (.aload_n 0, 1) := by decide +kernel
set_option maxRecDepth 20000 in
theorem dX6_hour_87 : decode cX6_hour 87 = .ok (.iload_n 2, 1) := by decide +kernel
set_option maxRecDepth 20000 in
theorem dX6_hour_88 : decode cX6_hour 88 = .ok (.invokevirtual 169, 3) := by decide +kernel
set_option maxRecDepth 20000 in
theorem dX6_hour_91 : decode cX6_hour 91 = .ok (.invokevirtual 152, 3) := by decide +kernel
set_option maxRecDepth 20000 in
theorem dX6_hour_94 : decode cX6_hour 94 = .ok (.pop, 1) := by decide +kernel
set_option maxRecDepth 20000 in
theorem dX6_hour_95 : decode cX6_hour 95 = .ok (.iinc 1 1, 3) := by decide +kernel
set_option maxRecDepth 20000 in
theorem dX6_hour_98 : decode cX6_hour 98 = .ok (.iinc 2 1, 3) := by decide +kernel
set_option maxRecDepth 20000 in
theorem dX6_hour_101 : decode cX6_hour 101 = .ok (.goto (-58), 3) := by decide +kernel
set_option maxRecDepth 20000 in
theorem dX6_hour_104 : decode cX6_hour 104 = .ok (.iload_n 1, 1) := by decide +kernel
set_option maxRecDepth 20000 in
theorem dX6_hour_105 : decode cX6_hour 105 = .ok (.ireturn, 1) := by decide +kernel
set_option maxRecDepth 20000 in
theorem dX6_undo_0 : decode cX6_undo 0 = .ok (.aload_n 0, 1) := by decide +kernel
set_option maxRecDepth 20000 in
theorem dX6_undo_1 : decode cX6_undo 1 = .ok (.getfield 33, 3) := by decide +kernel
set_option maxRecDepth 20000 in
theorem dX6_undo_4 : decode cX6_undo 4 = .ok (.getfield 172, 3) := by decide +kernel
set_option maxRecDepth 20000 in
theorem dX6_undo_7 : decode cX6_undo 7 = .ok (.ifCond .gt 6, 3) := by decide +kernel
set_option maxRecDepth 20000 in
theorem dX6_undo_10 : decode cX6_undo 10 = .ok (.bipush (-2), 2) := by decide +kernel
set_option maxRecDepth 20000 in
theorem dX6_undo_12 : decode cX6_undo 12 = .ok (.ireturn, 1) := by decide +kernel
set_option maxRecDepth 20000 in
theorem dX6_undo_13 : decode cX6_undo 13 = .ok (.aload_n 0, 1) := by decide +kernel
set_option maxRecDepth 20000 in
theorem dX6_undo_14 : decode cX6_undo 14 = .ok (.getfield 33, 3) := by decide +kernel
set_option maxRecDepth 20000 in
theorem dX6_undo_17 : decode cX6_undo 17 = .ok (.aload_n 0, 1) := by decide +kernel
set_option maxRecDepth 20000 in
theorem dX6_undo_18 : decode cX6_undo 18 = .ok (.getfield 26, 3) := by decide +kernel
set_option maxRecDepth 20000 in
theorem dX6_undo_21 : decode cX6_undo 21 = .ok (.invokevirtual 175, 3) := by decide +kernel
set_option maxRecDepth 20000 in
theorem dX6_undo_24 : decode cX6_undo 24 = .ok (.aload_n 0, 1) := by decide +kernel
set_option maxRecDepth 20000 in
theorem dX6_undo_25 : decode cX6_undo 25 = .ok (.getfield 33, 3) := by decide +kernel
set_option maxRecDepth 20000 in
theorem dX6_undo_28 : decode cX6_undo 28 = .ok (.getfield 172, 3) := by decide +kernel
set_option maxRecDepth 20000 in
theorem dX6_undo_31 : decode cX6_undo 31 = .ok (.ireturn, 1) := by decide +kernel
set_option maxRecDepth 20000 in
theorem dX6_likely_0 : decode cX6_likely 0 = .ok (.aload_n 0, 1) := by decide +kernel
set_option maxRecDepth 20000 in
theorem dX6_likely_1 : decode cX6_likely 1 = .ok (.getfield 19, 3) := by decide +kernel
set_option maxRecDepth 20000 in
theorem dX6_likely_4 : decode cX6_likely 4 = .ok (.iload_n 1, 1) := by decide +kernel
set_option maxRecDepth 20000 in
theorem dX6_likely_5 : decode cX6_likely 5 = .ok (.invokevirtual 98, 3) := by decide +kernel
set_option maxRecDepth 20000 in
theorem dX6_likely_8 : decode cX6_likely 8 = .ok (.ifCond .eq 23, 3) := by decide +kernel
set_option maxRecDepth 20000 in
theorem dX6_likely_11 : decode cX6_likely 11 = .ok (.aload_n 0, 1) := by decide +kernel
set_option maxRecDepth 20000 in
theorem dX6_likely_12 : decode cX6_likely 12 = .ok (.getfield 19, 3) := by decide +kernel
set_option maxRecDepth 20000 in
theorem dX6_likely_15 : decode cX6_likely 15 = .ok (.iload_n 2, 1) := by decide +kernel
set_option maxRecDepth 20000 in
theorem dX6_likely_16 : decode cX6_likely 16 = .ok (.invokevirtual 77, 3) := by decide +kernel
set_option maxRecDepth 20000 in
theorem dX6_likely_19 : decode cX6_likely 19 = .ok (.ifCond .eq 12, 3) := by decide +kernel
set_option maxRecDepth 20000 in
theorem dX6_likely_22 : decode cX6_likely 22 = .ok (.iload_n 3, 1) := by decide +kernel
set_option maxRecDepth 20000 in
theorem dX6_likely_23 : decode cX6_likely 23 = .ok (.ifCond .lt 8, 3) := by decide +kernel
set_option maxRecDepth 20000 in
theorem dX6_likely_26 : decode cX6_likely 26 = .ok (.iload_n 3, 1) := by decide +kernel
set_option maxRecDepth 20000 in
theorem dX6_likely_27 : decode cX6_likely 27 = .ok (.iconst 1, 1) := by decide +kernel
set_option maxRecDepth 20000 in
theorem dX6_likely_28 : decode cX6_likely 28 = .ok (.if_icmp .le 5, 3) := by decide +kernel
set_option maxRecDepth 20000 in
theorem dX6_likely_31 : decode cX6_likely 31 = .ok (.iconst (-1), 1) := by decide +kernel
set_option maxRecDepth 20000 in
theorem dX6_likely_32 : decode cX6_likely 32 = .ok (.ireturn, 1) := by decide +kernel
set_option maxRecDepth 20000 in
theorem dX6_likely_33 : decode cX6_likely 33 = .ok (.aload_n 0, 1) := by decide +kernel
set_option maxRecDepth 20000 in
theorem dX6_likely_34 : decode cX6_likely 34 = .ok (.iload_n 1, 1) := by decide +kernel
set_option maxRecDepth 20000 in
theorem dX6_likely_35 : decode cX6_likely 35 = .ok (.invokevirtual 107, 3) := by decide +kernel
set_option maxRecDepth 20000 in
theorem dX6_likely_38 : decode cX6_likely 38 = .ok (.istore 4, 2) := by decide +kernel
set_option maxRecDepth 20000 in
theorem dX6_likely_40 : decode cX6_likely 40 = .ok (.iload 4, 2) := by decide +kernel
set_option maxRecDepth 20000 in
theorem dX6_likely_42 : decode cX6_likely 42 = .ok (.iconst 1, 1) := by decide +kernel
set_option maxRecDepth 20000 in
theorem dX6_likely_43 : decode cX6_likely 43 = .ok (.iload_n 2, 1) := by decide +kernel
set_option maxRecDepth 20000 in
theorem dX6_likely_44 : decode cX6_likely 44 = .ok (.ishl, 1) := by decide +kernel
set_option maxRecDepth 20000 in
theorem dX6_likely_45 : decode cX6_likely 45 = .ok (.iand, 1) := by decide +kernel
set_option maxRecDepth 20000 in
theorem dX6_likely_46 : decode cX6_likely 46 = .ok (.ifCond .eq 7, 3) := by decide +kernel
set_option maxRecDepth 20000 in
theorem dX6_likely_49 : decode cX6_likely 49 = .ok (.iconst 1, 1) := by decide +kernel
set_option maxRecDepth 20000 in
theorem dX6_likely_50 : decode cX6_likely 50 = .ok (.goto 4, 3) := by decide +kernel
set_option maxRecDepth 20000 in
theorem dX6_likely_53 : decode cX6_likely 53 = .ok (.iconst 0, 1) := by decide +kernel
set_option maxRecDepth 20000 in
theorem dX6_likely_54 : decode cX6_likely 54 = .ok (.istore 5, 2) := by decide +kernel
set_option maxRecDepth 20000 in
theorem dX6_likely_56 : decode cX6_likely 56 = .ok (.iload 5, 2) := by decide +kernel
set_option maxRecDepth 20000 in
theorem dX6_likely_58 : decode cX6_likely 58 = .ok (.ifCond .eq 14, 3) := by decide +kernel
set_option maxRecDepth 20000 in
theorem dX6_likely_61 : decode cX6_likely 61 = .ok (.aload_n 0, 1) := by decide +kernel
set_option maxRecDepth 20000 in
theorem dX6_likely_62 : decode cX6_likely 62 = .ok (.getfield 19, 3) := by decide +kernel
set_option maxRecDepth 20000 in
theorem dX6_likely_65 : decode cX6_likely 65 = .ok (.iload_n 2, 1) := by decide +kernel
set_option maxRecDepth 20000 in
theorem dX6_likely_66 : decode cX6_likely 66 = .ok (.invokevirtual 85, 3) := by decide +kernel
set_option maxRecDepth 20000 in
theorem dX6_likely_69 : decode cX6_likely 69 = .ok (.goto 4, 3) := by decide +kernel
set_option maxRecDepth 20000 in
theorem dX6_likely_72 : decode cX6_likely 72 = .ok (.iconst 0, 1) := by decide +kernel
set_option maxRecDepth 20000 in
theorem dX6_likely_73 : decode cX6_likely 73 = .ok (.istore 6, 2) := by decide +kernel
set_option maxRecDepth 20000 in
theorem dX6_likely_75 : decode cX6_likely 75 = .ok (.iload 5, 2) := by decide +kernel
set_option maxRecDepth 20000 in
theorem dX6_likely_77 : decode cX6_likely 77 = .ok (.ifCond .eq 15, 3) := by decide +kernel
set_option maxRecDepth 20000 in
theorem dX6_likely_80 : decode cX6_likely 80 = .ok (.aload_n 0, 1) := by decide +kernel
set_option maxRecDepth 20000 in
theorem dX6_likely_81 : decode cX6_likely 81 = .ok (.getfield 19, 3) := by decide +kernel
set_option maxRecDepth 20000 in
theorem dX6_likely_84 : decode cX6_likely 84 = .ok (.iload 4, 2) := by decide +kernel
set_option maxRecDepth 20000 in
theorem dX6_likely_86 : decode cX6_likely 86 = .ok (.invokevirtual 178, 3) := by decide +kernel
set_option maxRecDepth 20000 in
theorem dX6_likely_89 : decode cX6_likely 89 = .ok (.goto 4, 3) := by decide +kernel
set_option maxRecDepth 20000 in
theorem dX6_likely_92 : decode cX6_likely 92 = .ok (.iconst 1, 1) := by decide +kernel
set_option maxRecDepth 20000 in
theorem dX6_likely_93 : decode cX6_likely 93 = .ok (.istore 7, 2) := by decide +kernel
set_option maxRecDepth 20000 in
theorem dX6_likely_95 : decode cX6_likely 95 = .ok (.iload_n 3, 1) := by decide +kernel
set_option maxRecDepth 20000 in
theorem dX6_likely_96 : decode cX6_likely 96 = .ok (.ifCond .ne 8, 3) := by decide +kernel
set_option maxRecDepth 20000 in
theorem dX6_likely_99 : decode cX6_likely 99 = .ok (.iload 6, 2) := by decide +kernel
set_option maxRecDepth 20000 in
theorem dX6_likely_101 : decode cX6_likely 101 = .ok (.goto 5, 3) := by decide +kernel
set_option maxRecDepth 20000 in
theorem dX6_likely_104 : decode cX6_likely 104 = .ok (.iload 7, 2) := by decide +kernel
set_option maxRecDepth 20000 in
theorem dX6_likely_106 : decode cX6_likely 106 = .ok (.iload 6, 2) := by decide +kernel
set_option maxRecDepth 20000 in
theorem dX6_likely_108 : decode cX6_likely 108 = .ok (.iload 7, 2) := by decide +kernel
set_option maxRecDepth 20000 in
theorem dX6_likely_110 : decode cX6_likely 110 = .ok (.invokestatic 181, 3) := by decide +kernel
set_option maxRecDepth 20000 in
theorem dX6_likely_113 : decode cX6_likely 113 = .ok (.invokestatic 184, 3) := by decide +kernel
set_option maxRecDepth 20000 in
theorem dX6_likely_116 : decode cX6_likely 116 = .ok (.ireturn, 1) := by decide +kernel
set_option maxRecDepth 20000 in
theorem dX6_spoil_0 : decode cX6_spoil 0 = .ok (.aload_n 0, 1) := by decide +kernel
set_option maxRecDepth 20000 in
theorem dX6_spoil_1 : decode cX6_spoil 1 = .ok (.getfield 19, 3) := by decide +kernel
set_option maxRecDepth 20000 in
theorem dX6_spoil_4 : decode cX6_spoil 4 = .ok (.iload_n 1, 1) := by decide +kernel
set_option maxRecDepth 20000 in
theorem dX6_spoil_5 : decode cX6_spoil 5 = .ok (.invokevirtual 98, 3) := by decide +kernel
set_option maxRecDepth 20000 in
theorem dX6_spoil_8 : decode cX6_spoil 8 = .ok (.ifCond .eq 19, 3) := by decide +kernel
set_option maxRecDepth 20000 in
theorem dX6_spoil_11 : decode cX6_spoil 11 = .ok (.iload_n 2, 1) := by decide +kernel
set_option maxRecDepth 20000 in
theorem dX6_spoil_12 : decode cX6_spoil 12 = .ok (.invokestatic 145, 3) := by decide +kernel
set_option maxRecDepth 20000 in
theorem dX6_spoil_15 : decode cX6_spoil 15 = .ok (.ifCond .eq 12, 3) := by decide +kernel
set_option maxRecDepth 20000 in
theorem dX6_spoil_18 : decode cX6_spoil 18 = .ok (.iload_n 3, 1) := by decide +kernel
set_option maxRecDepth 20000 in
theorem dX6_spoil_19 : decode cX6_spoil 19 = .ok (.ifCond .lt 8, 3) := by decide +kernel
set_option maxRecDepth 20000 in
theorem dX6_spoil_22 : decode cX6_spoil 22 = .ok (.iload_n 3, 1) := by decide +kernel
set_option maxRecDepth 20000 in
theorem dX6_spoil_23 : decode cX6_spoil 23 = .ok (.iconst 1, 1) := by decide +kernel
set_option maxRecDepth 20000 in
theorem dX6_spoil_24 : decode cX6_spoil 24 = .ok (.if_icmp .le 5, 3) := by decide +kernel
set_option maxRecDepth 20000 in
theorem dX6_spoil_27 : decode cX6_spoil 27 = .ok (.iconst (-1), 1) := by decide +kernel
set_option maxRecDepth 20000 in
theorem dX6_spoil_28 : decode cX6_spoil 28 = .ok (.ireturn, 1) := by decide +kernel
set_option maxRecDepth 20000 in
theorem dX6_spoil_29 : decode cX6_spoil 29 = .ok (.aload_n 0, 1) := by decide +kernel
set_option maxRecDepth 20000 in
theorem dX6_spoil_30 : decode cX6_spoil 30 = .ok (.iload_n 1, 1) := by decide +kernel
set_option maxRecDepth 20000 in
theorem dX6_spoil_31 : decode cX6_spoil 31 = .ok (.invokevirtual 187, 3) := by decide +kernel
set_option maxRecDepth 20000 in
theorem dX6_spoil_34 : decode cX6_spoil 34 = .ok (.istore 4, 2) := by decide +kernel
set_option maxRecDepth 20000 in
theorem dX6_spoil_36 : decode cX6_spoil 36 = .ok (.iconst 0, 1) := by decide +kernel
set_option maxRecDepth 20000 in
theorem dX6_spoil_37 : decode cX6_spoil 37 = .ok (.istore 5, 2) := by decide +kernel
set_option maxRecDepth 20000 in
theorem dX6_spoil_39 : decode cX6_spoil 39 = .ok (.bipush 9, 2) := by decide +kernel
set_option maxRecDepth 20000 in
theorem dX6_spoil_41 : decode cX6_spoil 41 = .ok (.istore 6, 2) := by decide +kernel
set_option maxRecDepth 20000 in
theorem dX6_spoil_43 : decode cX6_spoil 43 = .ok (.iconst 0, 1) := by decide +kernel
set_option maxRecDepth 20000 in
theorem dX6_spoil_44 : decode cX6_spoil 44 = .ok (.istore 7, 2) := by decide +kernel
set_option maxRecDepth 20000 in
theorem dX6_spoil_46 : decode cX6_spoil 46 = .ok (.iload 7, 2) := by decide +kernel
set_option maxRecDepth 20000 in
theorem dX6_spoil_48 : decode cX6_spoil 48 = .ok (.iload_n 2, 1) := by decide +kernel
set_option maxRecDepth 20000 in
theorem dX6_spoil_49 : decode cX6_spoil 49 = .ok (.if_icmp .ge 40, 3) := by decide +kernel
set_option maxRecDepth 20000 in
theorem dX6_spoil_52 : decode cX6_spoil 52 = .ok (.iload 4, 2) := by decide +kernel
set_option maxRecDepth 20000 in
theorem dX6_spoil_54 : decode cX6_spoil 54 = .ok (.aload_n 0, 1) := by decide +kernel
set_option maxRecDepth 20000 in
theorem dX6_spoil_55 : decode cX6_spoil 55 = .ok (.iload_n 1, 1) := by decide +kernel
set_option maxRecDepth 20000 in
theorem dX6_spoil_56 : decode cX6_spoil 56 = .ok (.iload 7, 2) := by decide +kernel
set_option maxRecDepth 20000 in
theorem dX6_spoil_58 : decode cX6_spoil 58 = .ok (.iload_n 2, 1) := by decide +kernel
set_option maxRecDepth 20000 in
theorem dX6_spoil_59 : decode cX6_spoil 59 = .ok (.invokevirtual 148, 3) := by decide +kernel
set_option maxRecDepth 20000 in
theorem dX6_spoil_62 : decode cX6_spoil 62 = .ok (.iand, 1) := by decide +kernel
set_option maxRecDepth 20000 in
theorem dX6_spoil_63 : decode cX6_spoil 63 = .ok (.invokestatic 155, 3) := by decide +kernel
set_option maxRecDepth 20000 in
theorem dX6_spoil_66 : decode cX6_spoil 66 = .ok (.istore 8, 2) := by decide +kernel
set_option maxRecDepth 20000 in
theorem dX6_spoil_68 : decode cX6_spoil 68 = .ok (.iload 8, 2) := by decide +kernel
set_option maxRecDepth 20000 in
theorem dX6_spoil_70 : decode cX6_spoil 70 = .ok (.iload 6, 2) := by decide +kernel
set_option maxRecDepth 20000 in
theorem dX6_spoil_72 : decode cX6_spoil 72 = .ok (.if_icmp .ge 11, 3) := by decide +kernel
set_option maxRecDepth 20000 in
theorem dX6_spoil_75 : decode cX6_spoil 75 = .ok (.iload 7, 2) := by decide +kernel
set_option maxRecDepth 20000 in
theorem dX6_spoil_77 : decode cX6_spoil 77 = .ok (.istore 5, 2) := by decide +kernel
set_option maxRecDepth 20000 in
theorem dX6_spoil_79 : decode cX6_spoil 79 = .ok (.iload 8, 2) := by decide +kernel
set_option maxRecDepth 20000 in
theorem dX6_spoil_81 : decode cX6_spoil 81 = .ok (.istore 6, 2) := by decide +kernel
set_option maxRecDepth 20000 in
theorem dX6_spoil_83 : decode cX6_spoil 83 = .ok (.iinc 7 1, 3) := by decide +kernel
set_option maxRecDepth 20000 in
theorem dX6_spoil_86 : decode cX6_spoil 86 = .ok (.goto (-40), 3) := by decide +kernel
set_option maxRecDepth 20000 in
theorem dX6_spoil_89 : decode cX6_spoil 89 = .ok (.iload_n 3, 1) := by decide +kernel
set_option maxRecDepth 20000 in
theorem dX6_spoil_90 : decode cX6_spoil 90 = .ok (.ifCond .ne 8, 3) := by decide +kernel
set_option maxRecDepth 20000 in
theorem dX6_spoil_93 : decode cX6_spoil 93 = .ok (.iload 5, 2) := by decide +kernel
set_option maxRecDepth 20000 in
theorem dX6_spoil_95 : decode cX6_spoil 95 = .ok (.goto 5, 3) := by decide +kernel
set_option maxRecDepth 20000 in
theorem dX6_spoil_98 : decode cX6_spoil 98 = .ok (.iload 6, 2) := by decide +kernel
set_option maxRecDepth 20000 in
theorem dX6_spoil_100 : decode cX6_spoil 100 = .ok (.ireturn, 1) := by decide +kernel
set_option maxRecDepth 20000 in
theorem dX6_round_0 : decode cX6_round 0 = .ok (.iload_n 1, 1) := by decide +kernel
set_option maxRecDepth 20000 in
theorem dX6_round_1 : decode cX6_round 1 = .ok (.iconst (-1), 1) := by decide +kernel
set_option maxRecDepth 20000 in
theorem dX6_round_2 : decode cX6_round 2 = .ok (.if_icmp .lt 8, 3) := by decide +kernel
set_option maxRecDepth 20000 in
theorem dX6_round_5 : decode cX6_round 5 = .ok (.iload_n 1, 1) := by decide +kernel
set_option maxRecDepth 20000 in
theorem dX6_round_6 : decode cX6_round 6 = .ok (.iconst 4, 1) := by decide +kernel
set_option maxRecDepth 20000 in
theorem dX6_round_7 : decode cX6_round 7 = .ok (.if_icmp .lt 5, 3) := by decide +kernel
set_option maxRecDepth 20000 in
theorem dX6_round_10 : decode cX6_round 10 = .ok (.iconst (-1), 1) := by decide +kernel
set_option maxRecDepth 20000 in
theorem dX6_round_11 : decode cX6_round 11 = .ok (.ireturn, 1) := by decide +kernel
set_option maxRecDepth 20000 in
theorem dX6_round_12 : decode cX6_round 12 = .ok (.iconst 0, 1) := by decide +kernel
set_option maxRecDepth 20000 in
theorem dX6_round_13 : decode cX6_round 13 = .ok (.istore_n 2, 1) := by decide +kernel
set_option maxRecDepth 20000 in
theorem dX6_round_14 : decode cX6_round 14 = .ok (.iload_n 2, 1) := by decide +kernel
set_option maxRecDepth 20000 in
theorem dX6_round_15 : decode cX6_round 15 = .ok (.iconst 4, 1) := by decide +kernel
set_option maxRecDepth 20000 in
theorem dX6_round_16 : decode cX6_round 16 = .ok (.if_icmp .ge 22, 3) := by decide +kernel
set_option maxRecDepth 20000 in
theorem dX6_round_19 : decode cX6_round 19 = .ok (.aload_n 0, 1) := by decide +kernel
set_option maxRecDepth 20000 in
theorem dX6_round_20 : decode cX6_round 20 = .ok (.getfield 46, 3) := by decide +kernel
set_option maxRecDepth 20000 in
theorem dX6_round_23 : decode cX6_round 23 = .ok (.iload_n 2, 1) := by decide +kernel
set_option maxRecDepth 20000 in
theorem dX6_round_24 : decode cX6_round 24 = .ok (.aload_n 0, 1) := by decide +kernel
set_option maxRecDepth 20000 in
theorem dX6_round_25 : decode cX6_round 25 = .ok (.iload_n 2, 1) := by decide +kernel
set_option maxRecDepth 20000 in
theorem dX6_round_26 : decode cX6_round 26 = .ok (.invokevirtual 190, 3) := by decide +kernel
set_option maxRecDepth 20000 in
theorem dX6_round_29 : decode cX6_round 29 = .ok (.invokestatic 193, 3) := by decide +kernel
set_option maxRecDepth 20000 in
theorem dX6_round_32 : decode cX6_round 32 = .ok (.iinc 2 1, 3) := by decide +kernel
set_option maxRecDepth 20000 in
theorem dX6_round_35 : decode cX6_round 35 = .ok (.goto (-21), 3) := by decide +kernel
set_option maxRecDepth 20000 in
theorem dX6_round_38 : decode cX6_round 38 = .ok (.aload_n 0, 1) := by decide +kernel
set_option maxRecDepth 20000 in
theorem dX6_round_39 : decode cX6_round 39 = .ok (.getfield 46, 3) := by decide +kernel
set_option maxRecDepth 20000 in
theorem dX6_round_42 : decode cX6_round 42 = .ok (.iconst 0, 1) := by decide +kernel
set_option maxRecDepth 20000 in
theorem dX6_round_43 : decode cX6_round 43 = .ok (.iconst 0, 1) := by decide +kernel
set_option maxRecDepth 20000 in
theorem dX6_round_44 : decode cX6_round 44 = .ok (.aload_n 0, 1) := by decide +kernel
set_option maxRecDepth 20000 in
theorem dX6_round_45 : decode cX6_round 45 = .ok (.getfield 26, 3) := by decide +kernel
set_option maxRecDepth 20000 in
theorem dX6_round_48 : decode cX6_round 48 = .ok (.getfield 163, 3) := by decide +kernel
set_option maxRecDepth 20000 in
theorem dX6_round_51 : decode cX6_round 51 = .ok (.invokestatic 199, 3) := by decide +kernel
set_option maxRecDepth 20000 in
theorem dX6_round_54 : decode cX6_round 54 = .ok (.istore_n 2, 1) := by decide +kernel
set_option maxRecDepth 20000 in
theorem dX6_round_55 : decode cX6_round 55 = .ok (.iload_n 2, 1) := by decide +kernel
set_option maxRecDepth 20000 in
theorem dX6_round_56 : decode cX6_round 56 = .ok (.invokestatic 203, 3) := by decide +kernel
set_option maxRecDepth 20000 in
theorem dX6_round_59 : decode cX6_round 59 = .ok (.istore_n 3, 1) := by decide +kernel
set_option maxRecDepth 20000 in
theorem dX6_round_60 : decode cX6_round 60 = .ok (.iload_n 1, 1) := by decide +kernel
set_option maxRecDepth 20000 in
theorem dX6_round_61 : decode cX6_round 61 = .ok (.ifCond .ge 5, 3) := by decide +kernel
set_option maxRecDepth 20000 in
theorem dX6_round_64 : decode cX6_round 64 = .ok (.iload_n 3, 1) := by decide +kernel
set_option maxRecDepth 20000 in
theorem dX6_round_65 : decode cX6_round 65 = .ok (.ireturn, 1) := by decide +kernel
set_option maxRecDepth 20000 in
theorem dX6_round_66 : decode cX6_round 66 = .ok (.iload_n 1, 1) := by decide +kernel
set_option maxRecDepth 20000 in
theorem dX6_round_67 : decode cX6_round 67 = .ok (.iload_n 3, 1) := by decide +kernel
set_option maxRecDepth 20000 in
theorem dX6_round_68 : decode cX6_round 68 = .ok (.if_icmp .ge 18, 3) := by decide +kernel
set_option maxRecDepth 20000 in
theorem dX6_round_71 : decode cX6_round 71 = .ok (.iload_n 2, 1) := by decide +kernel
set_option maxRecDepth 20000 in
theorem dX6_round_72 : decode cX6_round 72 = .ok (.iconst 3, 1) := by decide +kernel
set_option maxRecDepth 20000 in
theorem dX6_round_73 : decode cX6_round 73 = .ok (.iload_n 3, 1) := by decide +kernel
set_option maxRecDepth 20000 in
theorem dX6_round_74 : decode cX6_round 74 = .ok (.iconst 1, 1) := by decide +kernel
set_option maxRecDepth 20000 in
theorem dX6_round_75 : decode cX6_round 75 = .ok (.isub, 1) := by decide +kernel
set_option maxRecDepth 20000 in
theorem dX6_round_76 : decode cX6_round 76 = .ok (.iload_n 1, 1) := by decide +kernel
set_option maxRecDepth 20000 in
theorem dX6_round_77 : decode cX6_round 77 = .ok (.isub, 1) := by decide +kernel
set_option maxRecDepth 20000 in
theorem dX6_round_78 : decode cX6_round 78 = .ok (.imul, 1) := by decide +kernel
set_option maxRecDepth 20000 in
theorem dX6_round_79 : decode cX6_round 79 = .ok (.ishr, 1) := by decide +kernel
set_option maxRecDepth 20000 in
theorem dX6_round_80 : decode cX6_round 80 = .ok (.invokestatic 206, 3) := by decide +kernel
set_option maxRecDepth 20000 in
theorem dX6_round_83 : decode cX6_round 83 = .ok (.goto 5, 3) := by decide +kernel
set_option maxRecDepth 20000 in
theorem dX6_round_86 : decode cX6_round 86 = .ok (.bipush (-9), 2) := by decide +kernel
set_option maxRecDepth 20000 in
theorem dX6_round_88 : decode cX6_round 88 = .ok (.ireturn, 1) := by decide +kernel
set_option maxRecDepth 20000 in
theorem dX6_odds_0 : decode cX6_odds 0 = .ok (.aload_n 0, 1) := by decide +kernel
set_option maxRecDepth 20000 in
theorem dX6_odds_1 : decode cX6_odds 1 = .ok (.getfield 19, 3) := by decide +kernel
set_option maxRecDepth 20000 in
theorem dX6_odds_4 : decode cX6_odds 4 = .ok (.iload_n 1, 1) := by decide +kernel
set_option maxRecDepth 20000 in
theorem dX6_odds_5 : decode cX6_odds 5 = .ok (.invokevirtual 98, 3) := by decide +kernel
set_option maxRecDepth 20000 in
theorem dX6_odds_8 : decode cX6_odds 8 = .ok (.ifCond .eq 22, 3) := by decide +kernel
set_option maxRecDepth 20000 in
theorem dX6_odds_11 : decode cX6_odds 11 = .ok (.iload_n 2, 1) := by decide +kernel
set_option maxRecDepth 20000 in
theorem dX6_odds_12 : decode cX6_odds 12 = .ok (.ifCond .lt 18, 3) := by decide +kernel
set_option maxRecDepth 20000 in
theorem dX6_odds_15 : decode cX6_odds 15 = .ok (.iload_n 2, 1) := by decide +kernel
set_option maxRecDepth 20000 in
theorem dX6_odds_16 : decode cX6_odds 16 = .ok (.bipush 10, 2) := by decide +kernel
set_option maxRecDepth 20000 in
theorem dX6_odds_18 : decode cX6_odds 18 = .ok (.if_icmp .gt 12, 3) := by decide +kernel
set_option maxRecDepth 20000 in
theorem dX6_odds_21 : decode cX6_odds 21 = .ok (.iload_n 3, 1) := by decide +kernel
set_option maxRecDepth 20000 in
theorem dX6_odds_22 : decode cX6_odds 22 = .ok (.ifCond .lt 8, 3) := by decide +kernel
set_option maxRecDepth 20000 in
theorem dX6_odds_25 : decode cX6_odds 25 = .ok (.iload_n 3, 1) := by decide +kernel
set_option maxRecDepth 20000 in
theorem dX6_odds_26 : decode cX6_odds 26 = .ok (.iconst 1, 1) := by decide +kernel
set_option maxRecDepth 20000 in
theorem dX6_odds_27 : decode cX6_odds 27 = .ok (.if_icmp .le 5, 3) := by decide +kernel
set_option maxRecDepth 20000 in
theorem dX6_odds_30 : decode cX6_odds 30 = .ok (.iconst (-1), 1) := by decide +kernel
set_option maxRecDepth 20000 in
theorem dX6_odds_31 : decode cX6_odds 31 = .ok (.ireturn, 1) := by decide +kernel
set_option maxRecDepth 20000 in
theorem dX6_odds_32 : decode cX6_odds 32 = .ok (.bipush 10, 2) := by decide +kernel
set_option maxRecDepth 20000 in
theorem dX6_odds_34 : decode cX6_odds 34 = .ok (.iload_n 2, 1) := by decide +kernel
set_option maxRecDepth 20000 in
theorem dX6_odds_35 : decode cX6_odds 35 = .ok (.isub, 1) := by decide +kernel
set_option maxRecDepth 20000 in
theorem dX6_odds_36 : decode cX6_odds 36 = .ok (.istore 4, 2) := by decide +kernel
set_option maxRecDepth 20000 in
theorem dX6_odds_38 : decode cX6_odds 38 = .ok (.iload_n 3, 1) := by decide +kernel
set_option maxRecDepth 20000 in
theorem dX6_odds_39 : decode cX6_odds 39 = .ok (.ifCond .ne 8, 3) := by decide +kernel
set_option maxRecDepth 20000 in
theorem dX6_odds_42 : decode cX6_odds 42 = .ok (.iload 4, 2) := by decide +kernel
set_option maxRecDepth 20000 in
theorem dX6_odds_44 : decode cX6_odds 44 = .ok (.goto 5, 3) := by decide +kernel
set_option maxRecDepth 20000 in
theorem dX6_odds_47 : decode cX6_odds 47 = .ok (.bipush 10, 2) := by decide +kernel
set_option maxRecDepth 20000 in
theorem dX6_odds_49 : decode cX6_odds 49 = .ok (.iload 4, 2) := by decide +kernel
set_option maxRecDepth 20000 in
theorem dX6_odds_51 : decode cX6_odds 51 = .ok (.bipush 10, 2) := by decide +kernel
set_option maxRecDepth 20000 in
theorem dX6_odds_53 : decode cX6_odds 53 = .ok (.invokestatic 181, 3) := by decide +kernel
set_option maxRecDepth 20000 in
theorem dX6_odds_56 : decode cX6_odds 56 = .ok (.invokestatic 184, 3) := by decide +kernel
set_option maxRecDepth 20000 in
theorem dX6_odds_59 : decode cX6_odds 59 = .ok (.istore 5, 2) := by decide +kernel
set_option maxRecDepth 20000 in
theorem dX6_odds_61 : decode cX6_odds 61 = .ok (.iconst 1, 1) := by decide +kernel
set_option maxRecDepth 20000 in
theorem dX6_odds_62 : decode cX6_odds 62 = .ok (.istore 6, 2) := by decide +kernel
set_option maxRecDepth 20000 in
theorem dX6_odds_64 : decode cX6_odds 64 = .ok (.iconst 0, 1) := by decide +kernel
set_option maxRecDepth 20000 in
theorem dX6_odds_65 : decode cX6_odds 65 = .ok (.istore 7, 2) := by decide +kernel
set_option maxRecDepth 20000 in
theorem dX6_odds_67 : decode cX6_odds 67 = .ok (.iload 7, 2) := by decide +kernel
set_option maxRecDepth 20000 in
theorem dX6_odds_69 : decode cX6_odds 69 = .ok (.aload_n 0, 1) := by decide +kernel
set_option maxRecDepth 20000 in
theorem dX6_odds_70 : decode cX6_odds 70 = .ok (.getfield 19, 3) := by decide +kernel
set_option maxRecDepth 20000 in
theorem dX6_odds_73 : decode cX6_odds 73 = .ok (.getfield 166, 3) := by decide +kernel
set_option maxRecDepth 20000 in
theorem dX6_odds_76 : decode cX6_odds 76 = .ok (.if_icmp .ge 26, 3) := by decide +kernel
set_option maxRecDepth 20000 in
theorem dX6_odds_79 : decode cX6_odds 79 = .ok (.aload_n 0, 1) := by decide +kernel
set_option maxRecDepth 20000 in
theorem dX6_odds_80 : decode cX6_odds 80 = .ok (.iload 7, 2) := by decide +kernel
set_option maxRecDepth 20000 in
theorem dX6_odds_82 : decode cX6_odds 82 = .ok (.iload_n 1, 1) := by decide +kernel
set_option maxRecDepth 20000 in
theorem dX6_odds_83 : decode cX6_odds 83 = .ok (.invokevirtual 209, 3) := by decide +kernel
set_option maxRecDepth 20000 in
theorem dX6_odds_86 : decode cX6_odds 86 = .ok (.ifCond .eq 10, 3) := by decide +kernel
set_option maxRecDepth 20000 in
theorem dX6_odds_89 : decode cX6_odds 89 = .ok (.iload 6, 2) := by decide +kernel
set_option maxRecDepth 20000 in
theorem dX6_odds_91 : decode cX6_odds 91 = .ok (.iload 5, 2) := by decide +kernel
set_option maxRecDepth 20000 in
theorem dX6_odds_93 : decode cX6_odds 93 = .ok (.imul, 1) := by decide +kernel
set_option maxRecDepth 20000 in
theorem dX6_odds_94 : decode cX6_odds 94 = .ok (.istore 6, 2) := by decide +kernel
set_option maxRecDepth 20000 in
theorem dX6_odds_96 : decode cX6_odds 96 = .ok (.iinc 7 1, 3) := by decide +kernel
set_option maxRecDepth 20000 in
theorem dX6_odds_99 : decode cX6_odds 99 = .ok (.goto (-32), 3) := by decide +kernel
set_option maxRecDepth 20000 in
theorem dX6_odds_102 : decode cX6_odds 102 = .ok (.iload 6, 2) := by decide +kernel
set_option maxRecDepth 20000 in
theorem dX6_odds_104 : decode cX6_odds 104 = .ok (.ireturn, 1) := by decide +kernel
set_option maxRecDepth 20000 in
theorem dX6_rate_0 : decode cX6_rate 0 = .ok (.aload_n 0, 1) := by decide +kernel
set_option maxRecDepth 20000 in
theorem dX6_rate_1 : decode cX6_rate 1 = .ok (.getfield 19, 3) := by decide +kernel
set_option maxRecDepth 20000 in
theorem dX6_rate_4 : decode cX6_rate 4 = .ok (.iload_n 2, 1) := by decide +kernel
set_option maxRecDepth 20000 in
theorem dX6_rate_5 : decode cX6_rate 5 = .ok (.invokevirtual 77, 3) := by decide +kernel
set_option maxRecDepth 20000 in
theorem dX6_rate_8 : decode cX6_rate 8 = .ok (.ifCond .ne 6, 3) := by decide +kernel
set_option maxRecDepth 20000 in
theorem dX6_rate_11 : decode cX6_rate 11 = .ok (.ldc 212, 2) := by decide +kernel
set_option maxRecDepth 20000 in
theorem dX6_rate_13 : decode cX6_rate 13 = .ok (.ireturn, 1) := by decide +kernel
set_option maxRecDepth 20000 in
theorem dX6_rate_14 : decode cX6_rate 14 = .ok (.iload_n 1, 1) := by decide +kernel
set_option maxRecDepth 20000 in
theorem dX6_rate_15 : decode cX6_rate 15 = .ok (.tableswitch 73 0 5 #[37, 43, 49, 55, 61, 67], 37) := by decide +kernel
set_option maxRecDepth 20000 in
theorem dX6_rate_52 : decode cX6_rate 52 = .ok (.aload_n 0, 1) := by decide +kernel
set_option maxRecDepth 20000 in
theorem dX6_rate_53 : decode cX6_rate 53 = .ok (.iload_n 2, 1) := by decide +kernel
set_option maxRecDepth 20000 in
theorem dX6_rate_54 : decode cX6_rate 54 = .ok (.invokevirtual 213, 3) := by decide +kernel
set_option maxRecDepth 20000 in
theorem dX6_rate_57 : decode cX6_rate 57 = .ok (.ireturn, 1) := by decide +kernel
set_option maxRecDepth 20000 in
theorem dX6_rate_58 : decode cX6_rate 58 = .ok (.aload_n 0, 1) := by decide +kernel
set_option maxRecDepth 20000 in
theorem dX6_rate_59 : decode cX6_rate 59 = .ok (.iload_n 2, 1) := by decide +kernel
set_option maxRecDepth 20000 in
theorem dX6_rate_60 : decode cX6_rate 60 = .ok (.invokevirtual 216, 3) := by decide +kernel
set_option maxRecDepth 20000 in
theorem dX6_rate_63 : decode cX6_rate 63 = .ok (.ireturn, 1) := by decide +kernel
set_option maxRecDepth 20000 in
theorem dX6_rate_64 : decode cX6_rate 64 = .ok (.aload_n 0, 1) := by decide +kernel
set_option maxRecDepth 20000 in
theorem dX6_rate_65 : decode cX6_rate 65 = .ok (.iload_n 2, 1) := by decide +kernel
set_option maxRecDepth 20000 in
theorem dX6_rate_66 : decode cX6_rate 66 = .ok (.invokevirtual 219, 3) := by decide +kernel
set_option maxRecDepth 20000 in
theorem dX6_rate_69 : decode cX6_rate 69 = .ok (.ireturn, 1) := by decide +kernel
set_option maxRecDepth 20000 in
theorem dX6_rate_70 : decode cX6_rate 70 = .ok (.aload_n 0, 1) := by decide +kernel
set_option maxRecDepth 20000 in
theorem dX6_rate_71 : decode cX6_rate 71 = .ok (.iload_n 2, 1) := by decide +kernel
set_option maxRecDepth 20000 in
theorem dX6_rate_72 : decode cX6_rate 72 = .ok (.invokevirtual 222, 3) := by decide +kernel
set_option maxRecDepth 20000 in
theorem dX6_rate_75 : decode cX6_rate 75 = .ok (.ireturn, 1) := by decide +kernel
set_option maxRecDepth 20000 in
theorem dX6_rate_76 : decode cX6_rate 76 = .ok (.aload_n 0, 1) := by decide +kernel
set_option maxRecDepth 20000 in
theorem dX6_rate_77 : decode cX6_rate 77 = .ok (.iload_n 2, 1) := by decide +kernel
set_option maxRecDepth 20000 in
theorem dX6_rate_78 : decode cX6_rate 78 = .ok (.invokevirtual 225, 3) := by decide +kernel
set_option maxRecDepth 20000 in
theorem dX6_rate_81 : decode cX6_rate 81 = .ok (.ireturn, 1) := by decide +kernel
set_option maxRecDepth 20000 in
theorem dX6_rate_82 : decode cX6_rate 82 = .ok (.aload_n 0, 1) := by decide +kernel
set_option maxRecDepth 20000 in
theorem dX6_rate_83 : decode cX6_rate 83 = .ok (.iload_n 2, 1) := by decide +kernel
set_option maxRecDepth 20000 in
theorem dX6_rate_84 : decode cX6_rate 84 = .ok (.invokevirtual 228, 3) := by decide +kernel
set_option maxRecDepth 20000 in
theorem dX6_rate_87 : decode cX6_rate 87 = .ok (.ireturn, 1) := by decide +kernel
set_option maxRecDepth 20000 in
theorem dX6_rate_88 : decode cX6_rate 88 = .ok (.ldc 212, 2) := by decide +kernel
set_option maxRecDepth 20000 in
theorem dX6_rate_90 : decode cX6_rate 90 = .ok (.ireturn, 1) := by decide +kernel
set_option maxRecDepth 20000 in
theorem dX6_keep_0 : decode cX6_keep 0 = .ok (.iload_n 1, 1) := by decide +kernel
set_option maxRecDepth 20000 in
theorem dX6_keep_1 : decode cX6_keep 1 = .ok (.ifCond .lt 8, 3) := by decide +kernel
set_option maxRecDepth 20000 in
theorem dX6_keep_4 : decode cX6_keep 4 = .ok (.iload_n 1, 1) := by decide +kernel
set_option maxRecDepth 20000 in
theorem dX6_keep_5 : decode cX6_keep 5 = .ok (.iconst 2, 1) := by decide +kernel
set_option maxRecDepth 20000 in
theorem dX6_keep_6 : decode cX6_keep 6 = .ok (.if_icmp .lt 5, 3) := by decide +kernel
set_option maxRecDepth 20000 in
theorem dX6_keep_9 : decode cX6_keep 9 = .ok (.iconst (-1), 1) := by decide +kernel
set_option maxRecDepth 20000 in
theorem dX6_keep_10 : decode cX6_keep 10 = .ok (.ireturn, 1) := by decide +kernel
set_option maxRecDepth 20000 in
theorem dX6_keep_11 : decode cX6_keep 11 = .ok (.aload_n 0, 1) := by decide +kernel
set_option maxRecDepth 20000 in
theorem dX6_keep_12 : decode cX6_keep 12 = .ok (.getfield 42, 3) := by decide +kernel
set_option maxRecDepth 20000 in
theorem dX6_keep_15 : decode cX6_keep 15 = .ok (.iload_n 1, 1) := by decide +kernel
set_option maxRecDepth 20000 in
theorem dX6_keep_16 : decode cX6_keep 16 = .ok (.aload_n 0, 1) := by decide +kernel
set_option maxRecDepth 20000 in
theorem dX6_keep_17 : decode cX6_keep 17 = .ok (.getfield 26, 3) := by decide +kernel
set_option maxRecDepth 20000 in
theorem dX6_keep_20 : decode cX6_keep 20 = .ok (.invokevirtual 231, 3) := by decide +kernel
set_option maxRecDepth 20000 in
theorem dX6_keep_23 : decode cX6_keep 23 = .ok (.aload_n 0, 1) := by decide +kernel
set_option maxRecDepth 20000 in
theorem dX6_keep_24 : decode cX6_keep 24 = .ok (.dup, 1) := by decide +kernel
set_option maxRecDepth 20000 in
theorem dX6_keep_25 : decode cX6_keep 25 = .ok (.getfield 74, 3) := by decide +kernel
set_option maxRecDepth 20000 in
theorem dX6_keep_28 : decode cX6_keep 28 = .ok (.iconst 1, 1) := by decide +kernel
set_option maxRecDepth 20000 in
theorem dX6_keep_29 : decode cX6_keep 29 = .ok (.iload_n 1, 1) := by decide +kernel
set_option maxRecDepth 20000 in
theorem dX6_keep_30 : decode cX6_keep 30 = .ok (.ishl, 1) := by decide +kernel
set_option maxRecDepth 20000 in
theorem dX6_keep_31 : decode cX6_keep 31 = .ok (.ior, 1) := by decide +kernel
set_option maxRecDepth 20000 in
theorem dX6_keep_32 : decode cX6_keep 32 = .ok (.putfield 74, 3) := by decide +kernel
set_option maxRecDepth 20000 in
theorem dX6_keep_35 : decode cX6_keep 35 = .ok (.aload_n 0, 1) := by decide +kernel
set_option maxRecDepth 20000 in
theorem dX6_keep_36 : decode cX6_keep 36 = .ok (.getfield 26, 3) := by decide +kernel
set_option maxRecDepth 20000 in
theorem dX6_keep_39 : decode cX6_keep 39 = .ok (.getfield 163, 3) := by decide +kernel
set_option maxRecDepth 20000 in
theorem dX6_keep_42 : decode cX6_keep 42 = .ok (.ireturn, 1) := by decide +kernel
set_option maxRecDepth 20000 in
theorem dX6_back_0 : decode cX6_back 0 = .ok (.iload_n 1, 1) := by decide +kernel
set_option maxRecDepth 20000 in
theorem dX6_back_1 : decode cX6_back 1 = .ok (.ifCond .lt 8, 3) := by decide +kernel
set_option maxRecDepth 20000 in
theorem dX6_back_4 : decode cX6_back 4 = .ok (.iload_n 1, 1) := by decide +kernel
set_option maxRecDepth 20000 in
theorem dX6_back_5 : decode cX6_back 5 = .ok (.iconst 2, 1) := by decide +kernel
set_option maxRecDepth 20000 in
theorem dX6_back_6 : decode cX6_back 6 = .ok (.if_icmp .lt 5, 3) := by decide +kernel
set_option maxRecDepth 20000 in
theorem dX6_back_9 : decode cX6_back 9 = .ok (.iconst (-1), 1) := by decide +kernel
set_option maxRecDepth 20000 in
theorem dX6_back_10 : decode cX6_back 10 = .ok (.ireturn, 1) := by decide +kernel
set_option maxRecDepth 20000 in
theorem dX6_back_11 : decode cX6_back 11 = .ok (.aload_n 0, 1) := by decide +kernel
set_option maxRecDepth 20000 in
theorem dX6_back_12 : decode cX6_back 12 = .ok (.getfield 74, 3) := by decide +kernel
set_option maxRecDepth 20000 in
theorem dX6_back_15 : decode cX6_back 15 = .ok (.iconst 1, 1) := by decide +kernel
set_option maxRecDepth 20000 in
theorem dX6_back_16 : decode cX6_back 16 = .ok (.iload_n 1, 1) := by decide +kernel
set_option maxRecDepth 20000 in
theorem dX6_back_17 : decode cX6_back 17 = .ok (.ishl, 1) := by decide +kernel
set_option maxRecDepth 20000 in
theorem dX6_back_18 : decode cX6_back 18 = .ok (.iand, 1) := by decide +kernel
set_option maxRecDepth 20000 in
theorem dX6_back_19 : decode cX6_back 19 = .ok (.ifCond .ne 6, 3) := by decide +kernel
set_option maxRecDepth 20000 in
theorem dX6_back_22 : decode cX6_back 22 = .ok (.bipush (-2), 2) := by decide +kernel
set_option maxRecDepth 20000 in
theorem dX6_back_24 : decode cX6_back 24 = .ok (.ireturn, 1) := by decide +kernel
set_option maxRecDepth 20000 in
theorem dX6_back_25 : decode cX6_back 25 = .ok (.aload_n 0, 1) := by decide +kernel
set_option maxRecDepth 20000 in
theorem dX6_back_26 : decode cX6_back 26 = .ok (.getfield 42, 3) := by decide +kernel
set_option maxRecDepth 20000 in
theorem dX6_back_29 : decode cX6_back 29 = .ok (.iload_n 1, 1) := by decide +kernel
set_option maxRecDepth 20000 in
theorem dX6_back_30 : decode cX6_back 30 = .ok (.aload_n 0, 1) := by decide +kernel
set_option maxRecDepth 20000 in
theorem dX6_back_31 : decode cX6_back 31 = .ok (.getfield 26, 3) := by decide +kernel
set_option maxRecDepth 20000 in
theorem dX6_back_34 : decode cX6_back 34 = .ok (.invokevirtual 235, 3) := by decide +kernel
set_option maxRecDepth 20000 in
theorem dX6_back_37 : decode cX6_back 37 = .ok (.aload_n 0, 1) := by decide +kernel
set_option maxRecDepth 20000 in
theorem dX6_back_38 : decode cX6_back 38 = .ok (.getfield 33, 3) := by decide +kernel
set_option maxRecDepth 20000 in
theorem dX6_back_41 : decode cX6_back 41 = .ok (.invokevirtual 71, 3) := by decide +kernel
set_option maxRecDepth 20000 in
theorem dX6_back_44 : decode cX6_back 44 = .ok (.aload_n 0, 1) := by decide +kernel
set_option maxRecDepth 20000 in
theorem dX6_back_45 : decode cX6_back 45 = .ok (.getfield 26, 3) := by decide +kernel
set_option maxRecDepth 20000 in
theorem dX6_back_48 : decode cX6_back 48 = .ok (.getfield 163, 3) := by decide +kernel
set_option maxRecDepth 20000 in
theorem dX6_back_51 : decode cX6_back 51 = .ok (.ireturn, 1) := by decide +kernel
set_option maxRecDepth 20000 in
theorem dX6_count_0 : decode cX6_count 0 = .ok (.iload_n 1, 1) := by decide +kernel
set_option maxRecDepth 20000 in
theorem dX6_count_1 : decode cX6_count 1 = .ok (.tableswitch 87 0 5 #[39, 47, 55, 63, 71, 79], 39) := by decide +kernel
set_option maxRecDepth 20000 in
theorem dX6_count_40 : decode cX6_count 40 = .ok (.aload_n 0, 1) := by decide +kernel
set_option maxRecDepth 20000 in
theorem dX6_count_41 : decode cX6_count 41 = .ok (.getfield 19, 3) := by decide +kernel
set_option maxRecDepth 20000 in
theorem dX6_count_44 : decode cX6_count 44 = .ok (.getfield 238, 3) := by decide +kernel
set_option maxRecDepth 20000 in
theorem dX6_count_47 : decode cX6_count 47 = .ok (.ireturn, 1) := by decide +kernel
set_option maxRecDepth 20000 in
theorem dX6_count_48 : decode cX6_count 48 = .ok (.aload_n 0, 1) := by decide +kernel
set_option maxRecDepth 20000 in
theorem dX6_count_49 : decode cX6_count 49 = .ok (.getfield 19, 3) := by decide +kernel
set_option maxRecDepth 20000 in
theorem dX6_count_52 : decode cX6_count 52 = .ok (.getfield 241, 3) := by decide +kernel
set_option maxRecDepth 20000 in
theorem dX6_count_55 : decode cX6_count 55 = .ok (.ireturn, 1) := by decide +kernel
set_option maxRecDepth 20000 in
theorem dX6_count_56 : decode cX6_count 56 = .ok (.aload_n 0, 1) := by decide +kernel
set_option maxRecDepth 20000 in
theorem dX6_count_57 : decode cX6_count 57 = .ok (.getfield 19, 3) := by decide +kernel
set_option maxRecDepth 20000 in
theorem dX6_count_60 : decode cX6_count 60 = .ok (.getfield 166, 3) := by decide +kernel
set_option maxRecDepth 20000 in
theorem dX6_count_63 : decode cX6_count 63 = .ok (.ireturn, 1) := by decide +kernel
set_option maxRecDepth 20000 in
theorem dX6_count_64 : decode cX6_count 64 = .ok (.aload_n 0, 1) := by decide +kernel
set_option maxRecDepth 20000 in
theorem dX6_count_65 : decode cX6_count 65 = .ok (.getfield 26, 3) := by decide +kernel
set_option maxRecDepth 20000 in
theorem dX6_count_68 : decode cX6_count 68 = .ok (.getfield 163, 3) := by decide +kernel
set_option maxRecDepth 20000 in
theorem dX6_count_71 : decode cX6_count 71 = .ok (.ireturn, 1) := by decide +kernel
set_option maxRecDepth 20000 in
theorem dX6_count_72 : decode cX6_count 72 = .ok (.aload_n 0, 1) := by decide +kernel
set_option maxRecDepth 20000 in
theorem dX6_count_73 : decode cX6_count 73 = .ok (.getfield 33, 3) := by decide +kernel
set_option maxRecDepth 20000 in
theorem dX6_count_76 : decode cX6_count 76 = .ok (.getfield 172, 3) := by decide +kernel
set_option maxRecDepth 20000 in
theorem dX6_count_79 : decode cX6_count 79 = .ok (.ireturn, 1) := by decide +kernel
set_option maxRecDepth 20000 in
theorem dX6_count_80 : decode cX6_count 80 = .ok (.aload_n 0, 1) := by decide +kernel
set_option maxRecDepth 20000 in
theorem dX6_count_81 : decode cX6_count 81 = .ok (.getfield 10, 3) := by decide +kernel
set_option maxRecDepth 20000 in
theorem dX6_count_84 : decode cX6_count 84 = .ok (.getfield 53, 3) := by decide +kernel
set_option maxRecDepth 20000 in
theorem dX6_count_87 : decode cX6_count 87 = .ok (.ireturn, 1) := by decide +kernel
set_option maxRecDepth 20000 in
theorem dX6_count_88 : decode cX6_count 88 = .ok (.iconst (-1), 1) := by decide +kernel
set_option maxRecDepth 20000 in
theorem dX6_count_89 : decode cX6_count 89 = .ok (.ireturn, 1) := by decide +kernel
set_option maxRecDepth 20000 in
theorem dX6_trace_0 : decode cX6_trace 0 = .ok (.aload_n 0, 1) := by decide +kernel
set_option maxRecDepth 20000 in
theorem dX6_trace_1 : decode cX6_trace 1 = .ok (.getfield 244, 3) := by decide +kernel
set_option maxRecDepth 20000 in
theorem dX6_trace_4 : decode cX6_trace 4 = .ok (.lreturn, 1) := by decide +kernel
set_option maxRecDepth 20000 in
theorem dX6_isStride_0 : decode cX6_isStride 0 = .ok (.iload_n 0, 1) := by decide +kernel
set_option maxRecDepth 20000 in
theorem dX6_isStride_1 : decode cX6_isStride 1 = .ok (.iconst 1, 1) := by decide +kernel
set_option maxRecDepth 20000 in
theorem dX6_isStride_2 : decode cX6_isStride 2 = .ok (.if_icmp .lt 12, 3) := by decide +kernel
set_option maxRecDepth 20000 in
theorem dX6_isStride_5 : decode cX6_isStride 5 = .ok (.iload_n 0, 1) := by decide +kernel
set_option maxRecDepth 20000 in
theorem dX6_isStride_6 : decode cX6_isStride 6 = .ok (.iconst 4, 1) := by decide +kernel
set_option maxRecDepth 20000 in
theorem dX6_isStride_7 : decode cX6_isStride 7 = .ok (.if_icmp .gt 7, 3) := by decide +kernel
set_option maxRecDepth 20000 in
theorem dX6_isStride_10 : decode cX6_isStride 10 = .ok (.iconst 1, 1) := by decide +kernel
set_option maxRecDepth 20000 in
theorem dX6_isStride_11 : decode cX6_isStride 11 = .ok (.goto 4, 3) := by decide +kernel
set_option maxRecDepth 20000 in
theorem dX6_isStride_14 : decode cX6_isStride 14 = .ok (.iconst 0, 1) := by decide +kernel
set_option maxRecDepth 20000 in
theorem dX6_isStride_15 : decode cX6_isStride 15 = .ok (.ireturn, 1) := by decide +kernel
set_option maxRecDepth 20000 in
theorem dX6_trackOn_0 : decode cX6_trackOn 0 = .ok (.iconst 0, 1) := by decide +kernel
set_option maxRecDepth 20000 in
theorem dX6_trackOn_1 : decode cX6_trackOn 1 = .ok (.istore 4, 2) := by decide +kernel
set_option maxRecDepth 20000 in
theorem dX6_trackOn_3 : decode cX6_trackOn 3 = .ok (.aload_n 0, 1) := by decide +kernel
set_option maxRecDepth 20000 in
theorem dX6_trackOn_4 : decode cX6_trackOn 4 = .ok (.getfield 19, 3) := by decide +kernel
set_option maxRecDepth 20000 in
theorem dX6_trackOn_7 : decode cX6_trackOn 7 = .ok (.iload_n 1, 1) := by decide +kernel
set_option maxRecDepth 20000 in
theorem dX6_trackOn_8 : decode cX6_trackOn 8 = .ok (.invokevirtual 101, 3) := by decide +kernel
set_option maxRecDepth 20000 in
theorem dX6_trackOn_11 : decode cX6_trackOn 11 = .ok (.istore 5, 2) := by decide +kernel
set_option maxRecDepth 20000 in
theorem dX6_trackOn_13 : decode cX6_trackOn 13 = .ok (.iload_n 2, 1) := by decide +kernel
set_option maxRecDepth 20000 in
theorem dX6_trackOn_14 : decode cX6_trackOn 14 = .ok (.ifCond .lt 36, 3) := by decide +kernel
set_option maxRecDepth 20000 in
theorem dX6_trackOn_17 : decode cX6_trackOn 17 = .ok (.iload_n 3, 1) := by decide +kernel
set_option maxRecDepth 20000 in
theorem dX6_trackOn_18 : decode cX6_trackOn 18 = .ok (.iconst 1, 1) := by decide +kernel
set_option maxRecDepth 20000 in
theorem dX6_trackOn_19 : decode cX6_trackOn 19 = .ok (.if_icmp .lt 31, 3) := by decide +kernel
set_option maxRecDepth 20000 in
theorem dX6_trackOn_22 : decode cX6_trackOn 22 = .ok (.iload_n 2, 1) := by decide +kernel
set_option maxRecDepth 20000 in
theorem dX6_trackOn_23 : decode cX6_trackOn 23 = .ok (.istore 6, 2) := by decide +kernel
set_option maxRecDepth 20000 in
theorem dX6_trackOn_25 : decode cX6_trackOn 25 = .ok (.iload 6, 2) := by decide +kernel
set_option maxRecDepth 20000 in
theorem dX6_trackOn_27 : decode cX6_trackOn 27 = .ok (.iload 5, 2) := by decide +kernel
set_option maxRecDepth 20000 in
theorem dX6_trackOn_29 : decode cX6_trackOn 29 = .ok (.if_icmp .ge 21, 3) := by decide +kernel
set_option maxRecDepth 20000 in
theorem dX6_trackOn_32 : decode cX6_trackOn 32 = .ok (.iload 4, 2) := by decide +kernel
set_option maxRecDepth 20000 in
theorem dX6_trackOn_34 : decode cX6_trackOn 34 = .ok (.iconst 1, 1) := by decide +kernel
set_option maxRecDepth 20000 in
theorem dX6_trackOn_35 : decode cX6_trackOn 35 = .ok (.iload 6, 2) := by decide +kernel
set_option maxRecDepth 20000 in
theorem dX6_trackOn_37 : decode cX6_trackOn 37 = .ok (.ishl, 1) := by decide +kernel
set_option maxRecDepth 20000 in
theorem dX6_trackOn_38 : decode cX6_trackOn 38 = .ok (.ior, 1) := by decide +kernel
set_option maxRecDepth 20000 in
theorem dX6_trackOn_39 : decode cX6_trackOn 39 = .ok (.istore 4, 2) := by decide +kernel
set_option maxRecDepth 20000 in
theorem dX6_trackOn_41 : decode cX6_trackOn 41 = .ok (.iload 6, 2) := by decide +kernel
set_option maxRecDepth 20000 in
theorem dX6_trackOn_43 : decode cX6_trackOn 43 = .ok (.iload_n 3, 1) := by decide +kernel
set_option maxRecDepth 20000 in
theorem dX6_trackOn_44 : decode cX6_trackOn 44 = .ok (.iadd, 1) := by decide +kernel
set_option maxRecDepth 20000 in
theorem dX6_trackOn_45 : decode cX6_trackOn 45 = .ok (.istore 6, 2) := by decide +kernel
set_option maxRecDepth 20000 in
theorem dX6_trackOn_47 : decode cX6_trackOn 47 = .ok (.goto (-22), 3) := by decide +kernel
set_option maxRecDepth 20000 in
theorem dX6_trackOn_50 : decode cX6_trackOn 50 = .ok (.iload 4, 2) := by decide +kernel
set_option maxRecDepth 20000 in
theorem dX6_trackOn_52 : decode cX6_trackOn 52 = .ok (.ireturn, 1) := by decide +kernel
set_option maxRecDepth 20000 in
theorem dX6_trackOfGoer_0 : decode cX6_trackOfGoer 0 = .ok (.aload_n 0, 1) := by decide +kernel
set_option maxRecDepth 20000 in
theorem dX6_trackOfGoer_1 : decode cX6_trackOfGoer 1 = .ok (.getfield 19, 3) := by decide +kernel
set_option maxRecDepth 20000 in
theorem dX6_trackOfGoer_4 : decode cX6_trackOfGoer 4 = .ok (.iload_n 1, 1) := by decide +kernel
set_option maxRecDepth 20000 in
theorem dX6_trackOfGoer_5 : decode cX6_trackOfGoer 5 = .ok (.iconst 1, 1) := by decide +kernel
set_option maxRecDepth 20000 in
theorem dX6_trackOfGoer_6 : decode cX6_trackOfGoer 6 = .ok (.invokevirtual 130, 3) := by decide +kernel
set_option maxRecDepth 20000 in
theorem dX6_trackOfGoer_9 : decode cX6_trackOfGoer 9 = .ok (.istore_n 2, 1) := by decide +kernel
set_option maxRecDepth 20000 in
theorem dX6_trackOfGoer_10 : decode cX6_trackOfGoer 10 = .ok (.aload_n 0, 1) := by decide +kernel
set_option maxRecDepth 20000 in
theorem dX6_trackOfGoer_11 : decode cX6_trackOfGoer 11 = .ok (.iload_n 2, 1) := by decide +kernel
set_option maxRecDepth 20000 in
theorem dX6_trackOfGoer_12 : decode cX6_trackOfGoer 12 = .ok (.aload_n 0, 1) := by decide +kernel
set_option maxRecDepth 20000 in
theorem dX6_trackOfGoer_13 : decode cX6_trackOfGoer 13 = .ok (.getfield 19, 3) := by decide +kernel
set_option maxRecDepth 20000 in
theorem dX6_trackOfGoer_16 : decode cX6_trackOfGoer 16 = .ok (.iload_n 1, 1) := by decide +kernel
set_option maxRecDepth 20000 in
theorem dX6_trackOfGoer_17 : decode cX6_trackOfGoer 17 = .ok (.iconst 2, 1) := by decide +kernel
set_option maxRecDepth 20000 in
theorem dX6_trackOfGoer_18 : decode cX6_trackOfGoer 18 = .ok (.invokevirtual 130, 3) := by decide +kernel
set_option maxRecDepth 20000 in
theorem dX6_trackOfGoer_21 : decode cX6_trackOfGoer 21 = .ok (.aload_n 0, 1) := by decide +kernel
set_option maxRecDepth 20000 in
theorem dX6_trackOfGoer_22 : decode cX6_trackOfGoer 22 = .ok (.getfield 19, 3) := by decide +kernel
set_option maxRecDepth 20000 in
theorem dX6_trackOfGoer_25 : decode cX6_trackOfGoer 25 = .ok (.iload_n 1, 1) := by decide +kernel
set_option maxRecDepth 20000 in
theorem dX6_trackOfGoer_26 : decode cX6_trackOfGoer 26 = .ok (.iconst 3, 1) := by decide +kernel
set_option maxRecDepth 20000 in
theorem dX6_trackOfGoer_27 : decode cX6_trackOfGoer 27 = .ok (.invokevirtual 130, 3) := by decide +kernel
set_option maxRecDepth 20000 in
theorem dX6_trackOfGoer_30 : decode cX6_trackOfGoer 30 = .ok (.invokevirtual 148, 3) := by decide +kernel
set_option maxRecDepth 20000 in
theorem dX6_trackOfGoer_33 : decode cX6_trackOfGoer 33 = .ok (.ireturn, 1) := by decide +kernel
set_option maxRecDepth 20000 in
theorem dX6_isTrackOf_0 : decode cX6_isTrackOf 0 = .ok (.aload_n 0, 1) := by decide +kernel
set_option maxRecDepth 20000 in
theorem dX6_isTrackOf_1 : decode cX6_isTrackOf 1 = .ok (.iload_n 1, 1) := by decide +kernel
set_option maxRecDepth 20000 in
theorem dX6_isTrackOf_2 : decode cX6_isTrackOf 2 = .ok (.iload_n 2, 1) := by decide +kernel
set_option maxRecDepth 20000 in
theorem dX6_isTrackOf_3 : decode cX6_isTrackOf 3 = .ok (.iload_n 3, 1) := by decide +kernel
set_option maxRecDepth 20000 in
theorem dX6_isTrackOf_4 : decode cX6_isTrackOf 4 = .ok (.invokevirtual 148, 3) := by decide +kernel
set_option maxRecDepth 20000 in
theorem dX6_isTrackOf_7 : decode cX6_isTrackOf 7 = .ok (.aload_n 0, 1) := by decide +kernel
set_option maxRecDepth 20000 in
theorem dX6_isTrackOf_8 : decode cX6_isTrackOf 8 = .ok (.getfield 26, 3) := by decide +kernel
set_option maxRecDepth 20000 in
theorem dX6_isTrackOf_11 : decode cX6_isTrackOf 11 = .ok (.iload_n 1, 1) := by decide +kernel
set_option maxRecDepth 20000 in
theorem dX6_isTrackOf_12 : decode cX6_isTrackOf 12 = .ok (.invokevirtual 104, 3) := by decide +kernel
set_option maxRecDepth 20000 in
theorem dX6_isTrackOf_15 : decode cX6_isTrackOf 15 = .ok (.if_icmp .ne 7, 3) := by decide +kernel
set_option maxRecDepth 20000 in
theorem dX6_isTrackOf_18 : decode cX6_isTrackOf 18 = .ok (.iconst 1, 1) := by decide +kernel
set_option maxRecDepth 20000 in
theorem dX6_isTrackOf_19 : decode cX6_isTrackOf 19 = .ok (.goto 4, 3) := by decide +kernel
set_option maxRecDepth 20000 in
theorem dX6_isTrackOf_22 : decode cX6_isTrackOf 22 = .ok (.iconst 0, 1) := by decide +kernel
set_option maxRecDepth 20000 in
theorem dX6_isTrackOf_23 : decode cX6_isTrackOf 23 = .ok (.ireturn, 1) := by decide +kernel
set_option maxRecDepth 20000 in
theorem dX6_tracksOf_0 : decode cX6_tracksOf 0 = .ok (.iconst 0, 1) := by decide +kernel
set_option maxRecDepth 20000 in
theorem dX6_tracksOf_1 : decode cX6_tracksOf 1 = .ok (.istore_n 2, 1) := by decide +kernel
set_option maxRecDepth 20000 in
theorem dX6_tracksOf_2 : decode cX6_tracksOf 2 = .ok (.iconst 0, 1) := by decide +kernel
set_option maxRecDepth 20000 in
theorem dX6_tracksOf_3 : decode cX6_tracksOf 3 = .ok (.istore_n 3, 1) := by decide +kernel
set_option maxRecDepth 20000 in
theorem dX6_tracksOf_4 : decode cX6_tracksOf 4 = .ok (.iload_n 3, 1) := by decide +kernel
set_option maxRecDepth 20000 in
theorem dX6_tracksOf_5 : decode cX6_tracksOf 5 = .ok (.bipush 7, 2) := by decide +kernel
set_option maxRecDepth 20000 in
theorem dX6_tracksOf_7 : decode cX6_tracksOf 7 = .ok (.if_icmp .gt 38, 3) := by decide +kernel
set_option maxRecDepth 20000 in
theorem dX6_tracksOf_10 : decode cX6_tracksOf 10 = .ok (.iconst 1, 1) := by decide +kernel
set_option maxRecDepth 20000 in
theorem dX6_tracksOf_11 : decode cX6_tracksOf 11 = .ok (.istore 4, 2) := by decide +kernel
set_option maxRecDepth 20000 in
theorem dX6_tracksOf_13 : decode cX6_tracksOf 13 = .ok (.iload 4, 2) := by decide +kernel
set_option maxRecDepth 20000 in
theorem dX6_tracksOf_15 : decode cX6_tracksOf 15 = .ok (.iconst 4, 1) := by decide +kernel
set_option maxRecDepth 20000 in
theorem dX6_tracksOf_16 : decode cX6_tracksOf 16 = .ok (.if_icmp .gt 23, 3) := by decide +kernel
set_option maxRecDepth 20000 in
theorem dX6_tracksOf_19 : decode cX6_tracksOf 19 = .ok (.aload_n 0, 1) := by decide +kernel
set_option maxRecDepth 20000 in
theorem dX6_tracksOf_20 : decode cX6_tracksOf 20 = .ok (.iload_n 1, 1) := by decide +kernel
set_option maxRecDepth 20000 in
theorem dX6_tracksOf_21 : decode cX6_tracksOf 21 = .ok (.iload_n 3, 1) := by decide +kernel
set_option maxRecDepth 20000 in
theorem dX6_tracksOf_22 : decode cX6_tracksOf 22 = .ok (.iload 4, 2) := by decide +kernel
set_option maxRecDepth 20000 in
theorem dX6_tracksOf_24 : decode cX6_tracksOf 24 = .ok (.invokevirtual 248, 3) := by decide +kernel
set_option maxRecDepth 20000 in
theorem dX6_tracksOf_27 : decode cX6_tracksOf 27 = .ok (.ifCond .eq 6, 3) := by decide +kernel
set_option maxRecDepth 20000 in
theorem dX6_tracksOf_30 : decode cX6_tracksOf 30 = .ok (.iinc 2 1, 3) := by decide +kernel
set_option maxRecDepth 20000 in
theorem dX6_tracksOf_33 : decode cX6_tracksOf 33 = .ok (.iinc 4 1, 3) := by decide +kernel
set_option maxRecDepth 20000 in
theorem dX6_tracksOf_36 : decode cX6_tracksOf 36 = .ok (.goto (-23), 3) := by decide +kernel
set_option maxRecDepth 20000 in
theorem dX6_tracksOf_39 : decode cX6_tracksOf 39 = .ok (.iinc 3 1, 3) := by decide +kernel
set_option maxRecDepth 20000 in
theorem dX6_tracksOf_42 : decode cX6_tracksOf 42 = .ok (.goto (-38), 3) := by decide +kernel
set_option maxRecDepth 20000 in
theorem dX6_tracksOf_45 : decode cX6_tracksOf 45 = .ok (.iload_n 2, 1) := by decide +kernel
set_option maxRecDepth 20000 in
theorem dX6_tracksOf_46 : decode cX6_tracksOf 46 = .ok (.ireturn, 1) := by decide +kernel
set_option maxRecDepth 20000 in
theorem dX6_firstTrackOf_0 : decode cX6_firstTrackOf 0 = .ok (.iconst 0, 1) := by decide +kernel
set_option maxRecDepth 20000 in
theorem dX6_firstTrackOf_1 : decode cX6_firstTrackOf 1 = .ok (.istore_n 2, 1) := by decide +kernel
set_option maxRecDepth 20000 in
theorem dX6_firstTrackOf_2 : decode cX6_firstTrackOf 2 = .ok (.iload_n 2, 1) := by decide +kernel
set_option maxRecDepth 20000 in
theorem dX6_firstTrackOf_3 : decode cX6_firstTrackOf 3 = .ok (.bipush 7, 2) := by decide +kernel
set_option maxRecDepth 20000 in
theorem dX6_firstTrackOf_5 : decode cX6_firstTrackOf 5 = .ok (.if_icmp .gt 39, 3) := by decide +kernel
set_option maxRecDepth 20000 in
theorem dX6_firstTrackOf_8 : decode cX6_firstTrackOf 8 = .ok (.iconst 1, 1) := by decide +kernel
set_option maxRecDepth 20000 in
theorem dX6_firstTrackOf_9 : decode cX6_firstTrackOf 9 = .ok (.istore_n 3, 1) := by decide +kernel
set_option maxRecDepth 20000 in
theorem dX6_firstTrackOf_10 : decode cX6_firstTrackOf 10 = .ok (.iload_n 3, 1) := by decide +kernel
set_option maxRecDepth 20000 in
theorem dX6_firstTrackOf_11 : decode cX6_firstTrackOf 11 = .ok (.iconst 4, 1) := by decide +kernel
set_option maxRecDepth 20000 in
theorem dX6_firstTrackOf_12 : decode cX6_firstTrackOf 12 = .ok (.if_icmp .gt 26, 3) := by decide +kernel
set_option maxRecDepth 20000 in
theorem dX6_firstTrackOf_15 : decode cX6_firstTrackOf 15 = .ok (.aload_n 0, 1) := by decide +kernel
set_option maxRecDepth 20000 in
theorem dX6_firstTrackOf_16 : decode cX6_firstTrackOf 16 = .ok (.iload_n 1, 1) := by decide +kernel
set_option maxRecDepth 20000 in
theorem dX6_firstTrackOf_17 : decode cX6_firstTrackOf 17 = .ok (.iload_n 2, 1) := by decide +kernel
set_option maxRecDepth 20000 in
theorem dX6_firstTrackOf_18 : decode cX6_firstTrackOf 18 = .ok (.iload_n 3, 1) := by decide +kernel
set_option maxRecDepth 20000 in
theorem dX6_firstTrackOf_19 : decode cX6_firstTrackOf 19 = .ok (.invokevirtual 248, 3) := by decide +kernel
set_option maxRecDepth 20000 in
theorem dX6_firstTrackOf_22 : decode cX6_firstTrackOf 22 = .ok (.ifCond .eq 10, 3) := by decide +kernel
set_option maxRecDepth 20000 in
theorem dX6_firstTrackOf_25 : decode cX6_firstTrackOf 25 = .ok (.bipush 10, 2) := by decide +kernel
set_option maxRecDepth 20000 in
theorem dX6_firstTrackOf_27 : decode cX6_firstTrackOf 27 = .ok (.iload_n 2, 1) := by decide +kernel
set_option maxRecDepth 20000 in
theorem dX6_firstTrackOf_28 : decode cX6_firstTrackOf 28 = .ok (.imul, 1) := by decide +kernel
set_option maxRecDepth 20000 in
theorem dX6_firstTrackOf_29 : decode cX6_firstTrackOf 29 = .ok (.iload_n 3, 1) := by decide +kernel
set_option maxRecDepth 20000 in
theorem dX6_firstTrackOf_30 : decode cX6_firstTrackOf 30 = .ok (.iadd, 1) := by decide +kernel
set_option maxRecDepth 20000 in
theorem dX6_firstTrackOf_31 : decode cX6_firstTrackOf 31 = .ok (.ireturn, 1) := by decide +kernel
set_option maxRecDepth 20000 in
theorem dX6_firstTrackOf_32 : decode cX6_firstTrackOf 32 = .ok (.iinc 3 1, 3) := by decide +kernel
set_option maxRecDepth 20000 in
theorem dX6_firstTrackOf_35 : decode cX6_firstTrackOf 35 = .ok (.goto (-25), 3) := by decide +kernel
set_option maxRecDepth 20000 in
theorem dX6_firstTrackOf_38 : decode cX6_firstTrackOf 38 = .ok (.iinc 2 1, 3) := by decide +kernel
set_option maxRecDepth 20000 in
theorem dX6_firstTrackOf_41 : decode cX6_firstTrackOf 41 = .ok (.goto (-39), 3) := by decide +kernel
set_option maxRecDepth 20000 in
theorem dX6_firstTrackOf_44 : decode cX6_firstTrackOf 44 = .ok (.bipush (-9), 2) := by decide +kernel
set_option maxRecDepth 20000 in
theorem dX6_firstTrackOf_46 : decode cX6_firstTrackOf 46 = .ok (.ireturn, 1) := by decide +kernel
set_option maxRecDepth 20000 in
theorem dX6_readableOn_0 : decode cX6_readableOn 0 = .ok (.iconst 0, 1) := by decide +kernel
set_option maxRecDepth 20000 in
theorem dX6_readableOn_1 : decode cX6_readableOn 1 = .ok (.istore_n 2, 1) := by decide +kernel
set_option maxRecDepth 20000 in
theorem dX6_readableOn_2 : decode cX6_readableOn 2 = .ok (.aload_n 0, 1) := by decide +kernel
set_option maxRecDepth 20000 in
theorem dX6_readableOn_3 : decode cX6_readableOn 3 = .ok (.getfield 19, 3) := by decide +kernel
set_option maxRecDepth 20000 in
theorem dX6_readableOn_6 : decode cX6_readableOn 6 = .ok (.iload_n 1, 1) := by decide +kernel
set_option maxRecDepth 20000 in
theorem dX6_readableOn_7 : decode cX6_readableOn 7 = .ok (.invokevirtual 101, 3) := by decide +kernel
set_option maxRecDepth 20000 in
theorem dX6_readableOn_10 : decode cX6_readableOn 10 = .ok (.istore_n 3, 1) := by decide +kernel
set_option maxRecDepth 20000 in
theorem dX6_readableOn_11 : decode cX6_readableOn 11 = .ok (.iconst 0, 1) := by decide +kernel
set_option maxRecDepth 20000 in
theorem dX6_readableOn_12 : decode cX6_readableOn 12 = .ok (.istore 4, 2) := by decide +kernel
set_option maxRecDepth 20000 in
theorem dX6_readableOn_14 : decode cX6_readableOn 14 = .ok (.iload 4, 2) := by decide +kernel
set_option maxRecDepth 20000 in
theorem dX6_readableOn_16 : decode cX6_readableOn 16 = .ok (.iload_n 3, 1) := by decide +kernel
set_option maxRecDepth 20000 in
theorem dX6_readableOn_17 : decode cX6_readableOn 17 = .ok (.if_icmp .ge 44, 3) := by decide +kernel
set_option maxRecDepth 20000 in
theorem dX6_readableOn_20 : decode cX6_readableOn 20 = .ok (.aload_n 0, 1) := by decide +kernel
set_option maxRecDepth 20000 in
theorem dX6_readableOn_21 : decode cX6_readableOn 21 = .ok (.getfield 26, 3) := by decide +kernel
set_option maxRecDepth 20000 in
theorem dX6_readableOn_24 : decode cX6_readableOn 24 = .ok (.iload_n 1, 1) := by decide +kernel
set_option maxRecDepth 20000 in
theorem dX6_readableOn_25 : decode cX6_readableOn 25 = .ok (.iload 4, 2) := by decide +kernel
set_option maxRecDepth 20000 in
theorem dX6_readableOn_27 : decode cX6_readableOn 27 = .ok (.invokevirtual 123, 3) := by decide +kernel
set_option maxRecDepth 20000 in
theorem dX6_readableOn_30 : decode cX6_readableOn 30 = .ok (.ifCond .ne 25, 3) := by decide +kernel
set_option maxRecDepth 20000 in
theorem dX6_readableOn_33 : decode cX6_readableOn 33 = .ok (.aload_n 0, 1) := by decide +kernel
set_option maxRecDepth 20000 in
theorem dX6_readableOn_34 : decode cX6_readableOn 34 = .ok (.getfield 26, 3) := by decide +kernel
set_option maxRecDepth 20000 in
theorem dX6_readableOn_37 : decode cX6_readableOn 37 = .ok (.iload_n 1, 1) := by decide +kernel
set_option maxRecDepth 20000 in
theorem dX6_readableOn_38 : decode cX6_readableOn 38 = .ok (.iload 4, 2) := by decide +kernel
set_option maxRecDepth 20000 in
theorem dX6_readableOn_40 : decode cX6_readableOn 40 = .ok (.invokevirtual 126, 3) := by decide +kernel
set_option maxRecDepth 20000 in
theorem dX6_readableOn_43 : decode cX6_readableOn 43 = .ok (.bipush 8, 2) := by decide +kernel
set_option maxRecDepth 20000 in
theorem dX6_readableOn_45 : decode cX6_readableOn 45 = .ok (.if_icmp .eq 10, 3) := by decide +kernel
set_option maxRecDepth 20000 in
theorem dX6_readableOn_48 : decode cX6_readableOn 48 = .ok (.iload_n 2, 1) := by decide +kernel
set_option maxRecDepth 20000 in
theorem dX6_readableOn_49 : decode cX6_readableOn 49 = .ok (.iconst 1, 1) := by decide +kernel
set_option maxRecDepth 20000 in
theorem dX6_readableOn_50 : decode cX6_readableOn 50 = .ok (.iload 4, 2) := by decide +kernel
set_option maxRecDepth 20000 in
theorem dX6_readableOn_52 : decode cX6_readableOn 52 = .ok (.ishl, 1) := by decide +kernel
set_option maxRecDepth 20000 in
theorem dX6_readableOn_53 : decode cX6_readableOn 53 = .ok (.ior, 1) := by decide +kernel
set_option maxRecDepth 20000 in
theorem dX6_readableOn_54 : decode cX6_readableOn 54 = .ok (.istore_n 2, 1) := by decide +kernel
set_option maxRecDepth 20000 in
theorem dX6_readableOn_55 : decode cX6_readableOn 55 = .ok (.iinc 4 1, 3) := by decide +kernel
set_option maxRecDepth 20000 in
theorem dX6_readableOn_58 : decode cX6_readableOn 58 = .ok (.goto (-44), 3) := by decide +kernel
set_option maxRecDepth 20000 in
theorem dX6_readableOn_61 : decode cX6_readableOn 61 = .ok (.iload_n 2, 1) := by decide +kernel
set_option maxRecDepth 20000 in
theorem dX6_readableOn_62 : decode cX6_readableOn 62 = .ok (.ireturn, 1) := by decide +kernel
set_option maxRecDepth 20000 in
theorem dX6_fitsOf_0 : decode cX6_fitsOf 0 = .ok (.iconst 0, 1) := by decide +kernel
set_option maxRecDepth 20000 in
theorem dX6_fitsOf_1 : decode cX6_fitsOf 1 = .ok (.istore_n 2, 1) := by decide +kernel
set_option maxRecDepth 20000 in
theorem dX6_fitsOf_2 : decode cX6_fitsOf 2 = .ok (.iconst 0, 1) := by decide +kernel
set_option maxRecDepth 20000 in
theorem dX6_fitsOf_3 : decode cX6_fitsOf 3 = .ok (.istore_n 3, 1) := by decide +kernel
set_option maxRecDepth 20000 in
theorem dX6_fitsOf_4 : decode cX6_fitsOf 4 = .ok (.iload_n 3, 1) := by decide +kernel
set_option maxRecDepth 20000 in
theorem dX6_fitsOf_5 : decode cX6_fitsOf 5 = .ok (.aload_n 0, 1) := by decide +kernel
set_option maxRecDepth 20000 in
theorem dX6_fitsOf_6 : decode cX6_fitsOf 6 = .ok (.getfield 19, 3) := by decide +kernel
set_option maxRecDepth 20000 in
theorem dX6_fitsOf_9 : decode cX6_fitsOf 9 = .ok (.getfield 238, 3) := by decide +kernel
set_option maxRecDepth 20000 in
theorem dX6_fitsOf_12 : decode cX6_fitsOf 12 = .ok (.if_icmp .ge 24, 3) := by decide +kernel
set_option maxRecDepth 20000 in
theorem dX6_fitsOf_15 : decode cX6_fitsOf 15 = .ok (.aload_n 0, 1) := by decide +kernel
set_option maxRecDepth 20000 in
theorem dX6_fitsOf_16 : decode cX6_fitsOf 16 = .ok (.iload_n 1, 1) := by decide +kernel
set_option maxRecDepth 20000 in
theorem dX6_fitsOf_17 : decode cX6_fitsOf 17 = .ok (.iload_n 3, 1) := by decide +kernel
set_option maxRecDepth 20000 in
theorem dX6_fitsOf_18 : decode cX6_fitsOf 18 = .ok (.invokevirtual 252, 3) := by decide +kernel
set_option maxRecDepth 20000 in
theorem dX6_fitsOf_21 : decode cX6_fitsOf 21 = .ok (.ifCond .eq 9, 3) := by decide +kernel
set_option maxRecDepth 20000 in
theorem dX6_fitsOf_24 : decode cX6_fitsOf 24 = .ok (.iload_n 2, 1) := by decide +kernel
set_option maxRecDepth 20000 in
theorem dX6_fitsOf_25 : decode cX6_fitsOf 25 = .ok (.iconst 1, 1) := by decide +kernel
set_option maxRecDepth 20000 in
theorem dX6_fitsOf_26 : decode cX6_fitsOf 26 = .ok (.iload_n 3, 1) := by decide +kernel
set_option maxRecDepth 20000 in
theorem dX6_fitsOf_27 : decode cX6_fitsOf 27 = .ok (.ishl, 1) := by decide +kernel
set_option maxRecDepth 20000 in
theorem dX6_fitsOf_28 : decode cX6_fitsOf 28 = .ok (.ior, 1) := by decide +kernel
set_option maxRecDepth 20000 in
theorem dX6_fitsOf_29 : decode cX6_fitsOf 29 = .ok (.istore_n 2, 1) := by decide +kernel
set_option maxRecDepth 20000 in
theorem dX6_fitsOf_30 : decode cX6_fitsOf 30 = .ok (.iinc 3 1, 3) := by decide +kernel
set_option maxRecDepth 20000 in
theorem dX6_fitsOf_33 : decode cX6_fitsOf 33 = .ok (.goto (-29), 3) := by decide +kernel
set_option maxRecDepth 20000 in
theorem dX6_fitsOf_36 : decode cX6_fitsOf 36 = .ok (.iload_n 2, 1) := by decide +kernel
set_option maxRecDepth 20000 in
theorem dX6_fitsOf_37 : decode cX6_fitsOf 37 = .ok (.ireturn, 1) := by decide +kernel
set_option maxRecDepth 20000 in
theorem dX6_canHaveBeen_0 : decode cX6_canHaveBeen 0 = .ok (.aload_n 0, 1) := by decide +kernel
set_option maxRecDepth 20000 in
theorem dX6_canHaveBeen_1 : decode cX6_canHaveBeen 1 = .ok (.getfield 19, 3) := by decide +kernel
set_option maxRecDepth 20000 in
theorem dX6_canHaveBeen_4 : decode cX6_canHaveBeen 4 = .ok (.iload_n 1, 1) := by decide +kernel
set_option maxRecDepth 20000 in
theorem dX6_canHaveBeen_5 : decode cX6_canHaveBeen 5 = .ok (.invokevirtual 101, 3) := by decide +kernel
set_option maxRecDepth 20000 in
theorem dX6_canHaveBeen_8 : decode cX6_canHaveBeen 8 = .ok (.istore_n 3, 1) := by decide +kernel
set_option maxRecDepth 20000 in
theorem dX6_canHaveBeen_9 : decode cX6_canHaveBeen 9 = .ok (.aload_n 0, 1) := by decide +kernel
set_option maxRecDepth 20000 in
theorem dX6_canHaveBeen_10 : decode cX6_canHaveBeen 10 = .ok (.getfield 19, 3) := by decide +kernel
set_option maxRecDepth 20000 in
theorem dX6_canHaveBeen_13 : decode cX6_canHaveBeen 13 = .ok (.iload_n 2, 1) := by decide +kernel
set_option maxRecDepth 20000 in
theorem dX6_canHaveBeen_14 : decode cX6_canHaveBeen 14 = .ok (.invokevirtual 81, 3) := by decide +kernel
set_option maxRecDepth 20000 in
theorem dX6_canHaveBeen_17 : decode cX6_canHaveBeen 17 = .ok (.iload_n 3, 1) := by decide +kernel
set_option maxRecDepth 20000 in
theorem dX6_canHaveBeen_18 : decode cX6_canHaveBeen 18 = .ok (.if_icmp .le 5, 3) := by decide +kernel
set_option maxRecDepth 20000 in
theorem dX6_canHaveBeen_21 : decode cX6_canHaveBeen 21 = .ok (.iconst 0, 1) := by decide +kernel
set_option maxRecDepth 20000 in
theorem dX6_canHaveBeen_22 : decode cX6_canHaveBeen 22 = .ok (.ireturn, 1) := by decide +kernel
set_option maxRecDepth 20000 in
theorem dX6_canHaveBeen_23 : decode cX6_canHaveBeen 23 = .ok (.iconst 0, 1) := by decide +kernel
set_option maxRecDepth 20000 in
theorem dX6_canHaveBeen_24 : decode cX6_canHaveBeen 24 = .ok (.istore 4, 2) := by decide +kernel
set_option maxRecDepth 20000 in
theorem dX6_canHaveBeen_26 : decode cX6_canHaveBeen 26 = .ok (.iload 4, 2) := by decide +kernel
set_option maxRecDepth 20000 in
theorem dX6_canHaveBeen_28 : decode cX6_canHaveBeen 28 = .ok (.iload_n 3, 1) := by decide +kernel
set_option maxRecDepth 20000 in
theorem dX6_canHaveBeen_29 : decode cX6_canHaveBeen 29 = .ok (.if_icmp .ge 47, 3) := by decide +kernel
set_option maxRecDepth 20000 in
theorem dX6_canHaveBeen_32 : decode cX6_canHaveBeen 32 = .ok (.aload_n 0, 1) := by decide +kernel
set_option maxRecDepth 20000 in
theorem dX6_canHaveBeen_33 : decode cX6_canHaveBeen 33 = .ok (.getfield 26, 3) := by decide +kernel
set_option maxRecDepth 20000 in
theorem dX6_canHaveBeen_36 : decode cX6_canHaveBeen 36 = .ok (.iload_n 1, 1) := by decide +kernel
set_option maxRecDepth 20000 in
theorem dX6_canHaveBeen_37 : decode cX6_canHaveBeen 37 = .ok (.iload 4, 2) := by decide +kernel
set_option maxRecDepth 20000 in
theorem dX6_canHaveBeen_39 : decode cX6_canHaveBeen 39 = .ok (.invokevirtual 123, 3) := by decide +kernel
set_option maxRecDepth 20000 in
theorem dX6_canHaveBeen_42 : decode cX6_canHaveBeen 42 = .ok (.ifCond .ne 28, 3) := by decide +kernel
set_option maxRecDepth 20000 in
theorem dX6_canHaveBeen_45 : decode cX6_canHaveBeen 45 = .ok (.aload_n 0, 1) := by decide +kernel
set_option maxRecDepth 20000 in
theorem dX6_canHaveBeen_46 : decode cX6_canHaveBeen 46 = .ok (.getfield 26, 3) := by decide +kernel
set_option maxRecDepth 20000 in
theorem dX6_canHaveBeen_49 : decode cX6_canHaveBeen 49 = .ok (.iload_n 1, 1) := by decide +kernel
set_option maxRecDepth 20000 in
theorem dX6_canHaveBeen_50 : decode cX6_canHaveBeen 50 = .ok (.iload 4, 2) := by decide +kernel
set_option maxRecDepth 20000 in
theorem dX6_canHaveBeen_52 : decode cX6_canHaveBeen 52 = .ok (.invokevirtual 126, 3) := by decide +kernel
set_option maxRecDepth 20000 in
theorem dX6_canHaveBeen_55 : decode cX6_canHaveBeen 55 = .ok (.aload_n 0, 1) := by decide +kernel
set_option maxRecDepth 20000 in
theorem dX6_canHaveBeen_56 : decode cX6_canHaveBeen 56 = .ok (.getfield 19, 3) := by decide +kernel
set_option maxRecDepth 20000 in
theorem dX6_canHaveBeen_59 : decode cX6_canHaveBeen 59 = .ok (.iload_n 2, 1) := by decide +kernel
set_option maxRecDepth 20000 in
theorem dX6_canHaveBeen_60 : decode cX6_canHaveBeen 60 = .ok (.iload 4, 2) := by decide +kernel
set_option maxRecDepth 20000 in
theorem dX6_canHaveBeen_62 : decode cX6_canHaveBeen 62 = .ok (.invokevirtual 94, 3) := by decide +kernel
set_option maxRecDepth 20000 in
theorem dX6_canHaveBeen_65 : decode cX6_canHaveBeen 65 = .ok (.if_icmp .eq 5, 3) := by decide +kernel
set_option maxRecDepth 20000 in
theorem dX6_canHaveBeen_68 : decode cX6_canHaveBeen 68 = .ok (.iconst 0, 1) := by decide +kernel
set_option maxRecDepth 20000 in
theorem dX6_canHaveBeen_69 : decode cX6_canHaveBeen 69 = .ok (.ireturn, 1) := by decide +kernel
set_option maxRecDepth 20000 in
theorem dX6_canHaveBeen_70 : decode cX6_canHaveBeen 70 = .ok (.iinc 4 1, 3) := by decide +kernel
set_option maxRecDepth 20000 in
theorem dX6_canHaveBeen_73 : decode cX6_canHaveBeen 73 = .ok (.goto (-47), 3) := by decide +kernel
set_option maxRecDepth 20000 in
theorem dX6_canHaveBeen_76 : decode cX6_canHaveBeen 76 = .ok (.iconst 1, 1) := by decide +kernel
set_option maxRecDepth 20000 in
theorem dX6_canHaveBeen_77 : decode cX6_canHaveBeen 77 = .ok (.ireturn, 1) := by decide +kernel
set_option maxRecDepth 20000 in
theorem dX6_lookOn_0 : decode cX6_lookOn 0 = .ok (.aload_n 0, 1) := by decide +kernel
set_option maxRecDepth 20000 in
theorem dX6_lookOn_1 : decode cX6_lookOn 1 = .ok (.iload_n 1, 1) := by decide +kernel
set_option maxRecDepth 20000 in
theorem dX6_lookOn_2 : decode cX6_lookOn 2 = .ok (.invokevirtual 107, 3) := by decide +kernel
set_option maxRecDepth 20000 in
theorem dX6_lookOn_5 : decode cX6_lookOn 5 = .ok (.istore_n 2, 1) := by decide +kernel
set_option maxRecDepth 20000 in
theorem dX6_lookOn_6 : decode cX6_lookOn 6 = .ok (.iload_n 2, 1) := by decide +kernel
set_option maxRecDepth 20000 in
theorem dX6_lookOn_7 : decode cX6_lookOn 7 = .ok (.invokestatic 155, 3) := by decide +kernel
set_option maxRecDepth 20000 in
theorem dX6_lookOn_10 : decode cX6_lookOn 10 = .ok (.iconst 2, 1) := by decide +kernel
set_option maxRecDepth 20000 in
theorem dX6_lookOn_11 : decode cX6_lookOn 11 = .ok (.if_icmp .ge 6, 3) := by decide +kernel
set_option maxRecDepth 20000 in
theorem dX6_lookOn_14 : decode cX6_lookOn 14 = .ok (.bipush (-9), 2) := by decide +kernel
set_option maxRecDepth 20000 in
theorem dX6_lookOn_16 : decode cX6_lookOn 16 = .ok (.ireturn, 1) := by decide +kernel
set_option maxRecDepth 20000 in
theorem dX6_lookOn_17 : decode cX6_lookOn 17 = .ok (.bipush (-9), 2) := by decide +kernel
set_option maxRecDepth 20000 in
theorem dX6_lookOn_19 : decode cX6_lookOn 19 = .ok (.istore_n 3, 1) := by decide +kernel
set_option maxRecDepth 20000 in
theorem dX6_lookOn_20 : decode cX6_lookOn 20 = .ok (.bipush 55, 2) := by decide +kernel
set_option maxRecDepth 20000 in
theorem dX6_lookOn_22 : decode cX6_lookOn 22 = .ok (.istore 4, 2) := by decide +kernel
set_option maxRecDepth 20000 in
theorem dX6_lookOn_24 : decode cX6_lookOn 24 = .ok (.aload_n 0, 1) := by decide +kernel
set_option maxRecDepth 20000 in
theorem dX6_lookOn_25 : decode cX6_lookOn 25 = .ok (.getfield 19, 3) := by decide +kernel
set_option maxRecDepth 20000 in
theorem dX6_lookOn_28 : decode cX6_lookOn 28 = .ok (.iload_n 1, 1) := by decide +kernel
set_option maxRecDepth 20000 in
theorem dX6_lookOn_29 : decode cX6_lookOn 29 = .ok (.invokevirtual 101, 3) := by decide +kernel
set_option maxRecDepth 20000 in
theorem dX6_lookOn_32 : decode cX6_lookOn 32 = .ok (.istore 5, 2) := by decide +kernel
set_option maxRecDepth 20000 in
theorem dX6_lookOn_34 : decode cX6_lookOn 34 = .ok (.iconst 0, 1) := by decide +kernel
set_option maxRecDepth 20000 in
theorem dX6_lookOn_35 : decode cX6_lookOn 35 = .ok (.istore 6, 2) := by decide +kernel
set_option maxRecDepth 20000 in
theorem dX6_lookOn_37 : decode cX6_lookOn 37 = .ok (.iload 6, 2) := by decide +kernel
set_option maxRecDepth 20000 in
theorem dX6_lookOn_39 : decode cX6_lookOn 39 = .ok (.iload 5, 2) := by decide +kernel
set_option maxRecDepth 20000 in
theorem dX6_lookOn_41 : decode cX6_lookOn 41 = .ok (.if_icmp .ge 50, 3) := by decide +kernel
set_option maxRecDepth 20000 in
theorem dX6_lookOn_44 : decode cX6_lookOn 44 = .ok (.aload_n 0, 1) := by decide +kernel
set_option maxRecDepth 20000 in
theorem dX6_lookOn_45 : decode cX6_lookOn 45 = .ok (.getfield 26, 3) := by decide +kernel
set_option maxRecDepth 20000 in
theorem dX6_lookOn_48 : decode cX6_lookOn 48 = .ok (.iload_n 1, 1) := by decide +kernel
set_option maxRecDepth 20000 in
theorem dX6_lookOn_49 : decode cX6_lookOn 49 = .ok (.iload 6, 2) := by decide +kernel
set_option maxRecDepth 20000 in
theorem dX6_lookOn_51 : decode cX6_lookOn 51 = .ok (.invokevirtual 123, 3) := by decide +kernel
set_option maxRecDepth 20000 in
theorem dX6_lookOn_54 : decode cX6_lookOn 54 = .ok (.ifCond .eq 13, 3) := by decide +kernel
set_option maxRecDepth 20000 in
theorem dX6_lookOn_57 : decode cX6_lookOn 57 = .ok (.aload_n 0, 1) := by decide +kernel
set_option maxRecDepth 20000 in
theorem dX6_lookOn_58 : decode cX6_lookOn 58 = .ok (.iload 6, 2) := by decide +kernel
set_option maxRecDepth 20000 in
theorem dX6_lookOn_60 : decode cX6_lookOn 60 = .ok (.iload_n 2, 1) := by decide +kernel
set_option maxRecDepth 20000 in
theorem dX6_lookOn_61 : decode cX6_lookOn 61 = .ok (.invokevirtual 255, 3) := by decide +kernel
set_option maxRecDepth 20000 in
theorem dX6_lookOn_64 : decode cX6_lookOn 64 = .ok (.goto 5, 3) := by decide +kernel
set_option maxRecDepth 20000 in
theorem dX6_lookOn_67 : decode cX6_lookOn 67 = .ok (.iload 4, 2) := by decide +kernel
set_option maxRecDepth 20000 in
theorem dX6_lookOn_69 : decode cX6_lookOn 69 = .ok (.istore 7, 2) := by decide +kernel
set_option maxRecDepth 20000 in
theorem dX6_lookOn_71 : decode cX6_lookOn 71 = .ok (.iload 7, 2) := by decide +kernel
set_option maxRecDepth 20000 in
theorem dX6_lookOn_73 : decode cX6_lookOn 73 = .ok (.iload 4, 2) := by decide +kernel
set_option maxRecDepth 20000 in
theorem dX6_lookOn_75 : decode cX6_lookOn 75 = .ok (.if_icmp .ge 10, 3) := by decide +kernel
set_option maxRecDepth 20000 in
theorem dX6_lookOn_78 : decode cX6_lookOn 78 = .ok (.iload 6, 2) := by decide +kernel
set_option maxRecDepth 20000 in
theorem dX6_lookOn_80 : decode cX6_lookOn 80 = .ok (.istore_n 3, 1) := by decide +kernel
set_option maxRecDepth 20000 in
theorem dX6_lookOn_81 : decode cX6_lookOn 81 = .ok (.iload 7, 2) := by decide +kernel
set_option maxRecDepth 20000 in
theorem dX6_lookOn_83 : decode cX6_lookOn 83 = .ok (.istore 4, 2) := by decide +kernel
set_option maxRecDepth 20000 in
theorem dX6_lookOn_85 : decode cX6_lookOn 85 = .ok (.iinc 6 1, 3) := by decide +kernel
set_option maxRecDepth 20000 in
theorem dX6_lookOn_88 : decode cX6_lookOn 88 = .ok (.goto (-51), 3) := by decide +kernel
set_option maxRecDepth 20000 in
theorem dX6_lookOn_91 : decode cX6_lookOn 91 = .ok (.iload_n 3, 1) := by decide +kernel
set_option maxRecDepth 20000 in
theorem dX6_lookOn_92 : decode cX6_lookOn 92 = .ok (.ireturn, 1) := by decide +kernel
set_option maxRecDepth 20000 in
theorem dX6_heaviestAlikeAt_0 : decode cX6_heaviestAlikeAt 0 = .ok (.iconst 0, 1) := by decide +kernel
set_option maxRecDepth 20000 in
theorem dX6_heaviestAlikeAt_1 : decode cX6_heaviestAlikeAt 1 = .ok (.istore_n 3, 1) := by decide +kernel
set_option maxRecDepth 20000 in
theorem dX6_heaviestAlikeAt_2 : decode cX6_heaviestAlikeAt 2 = .ok (.iconst 0, 1) := by decide +kernel
set_option maxRecDepth 20000 in
theorem dX6_heaviestAlikeAt_3 : decode cX6_heaviestAlikeAt 3 = .ok (.istore 4, 2) := by decide +kernel
set_option maxRecDepth 20000 in
theorem dX6_heaviestAlikeAt_5 : decode cX6_heaviestAlikeAt 5 = .ok (.iload 4, 2) := by decide +kernel
set_option maxRecDepth 20000 in
theorem dX6_heaviestAlikeAt_7 : decode cX6_heaviestAlikeAt 7 = .ok (.bipush 8, 2) := by decide +kernel
set_option maxRecDepth 20000 in
theorem dX6_heaviestAlikeAt_9 : decode cX6_heaviestAlikeAt 9 = .ok (.if_icmp .gt 33, 3) := by decide +kernel
set_option maxRecDepth 20000 in
theorem dX6_heaviestAlikeAt_12 : decode cX6_heaviestAlikeAt 12 = .ok (.iload_n 3, 1) := by decide +kernel
set_option maxRecDepth 20000 in
theorem dX6_heaviestAlikeAt_13 : decode cX6_heaviestAlikeAt 13 = .ok (.aload_n 0, 1) := by decide +kernel
set_option maxRecDepth 20000 in
theorem dX6_heaviestAlikeAt_14 : decode cX6_heaviestAlikeAt 14 = .ok (.getfield 19, 3) := by decide +kernel
set_option maxRecDepth 20000 in
theorem dX6_heaviestAlikeAt_17 : decode cX6_heaviestAlikeAt 17 = .ok (.iload_n 2, 1) := by decide +kernel
set_option maxRecDepth 20000 in
theorem dX6_heaviestAlikeAt_18 : decode cX6_heaviestAlikeAt 18 = .ok (.aload_n 0, 1) := by decide +kernel
set_option maxRecDepth 20000 in
theorem dX6_heaviestAlikeAt_19 : decode cX6_heaviestAlikeAt 19 = .ok (.getfield 19, 3) := by decide +kernel
set_option maxRecDepth 20000 in
theorem dX6_heaviestAlikeAt_22 : decode cX6_heaviestAlikeAt 22 = .ok (.iload_n 1, 1) := by decide +kernel
set_option maxRecDepth 20000 in
theorem dX6_heaviestAlikeAt_23 : decode cX6_heaviestAlikeAt 23 = .ok (.iload 4, 2) := by decide +kernel
set_option maxRecDepth 20000 in
theorem dX6_heaviestAlikeAt_25 : decode cX6_heaviestAlikeAt 25 = .ok (.invokevirtual 258, 3) := by decide +kernel
set_option maxRecDepth 20000 in
theorem dX6_heaviestAlikeAt_28 : decode cX6_heaviestAlikeAt 28 = .ok (.iand, 1) := by decide +kernel
set_option maxRecDepth 20000 in
theorem dX6_heaviestAlikeAt_29 : decode cX6_heaviestAlikeAt 29 = .ok (.invokevirtual 178, 3) := by decide +kernel
set_option maxRecDepth 20000 in
theorem dX6_heaviestAlikeAt_32 : decode cX6_heaviestAlikeAt 32 = .ok (.invokestatic 261, 3) := by decide +kernel
set_option maxRecDepth 20000 in
theorem dX6_heaviestAlikeAt_35 : decode cX6_heaviestAlikeAt 35 = .ok (.istore_n 3, 1) := by decide +kernel
set_option maxRecDepth 20000 in
theorem dX6_heaviestAlikeAt_36 : decode cX6_heaviestAlikeAt 36 = .ok (.iinc 4 1, 3) := by decide +kernel
set_option maxRecDepth 20000 in
theorem dX6_heaviestAlikeAt_39 : decode cX6_heaviestAlikeAt 39 = .ok (.goto (-34), 3) := by decide +kernel
set_option maxRecDepth 20000 in
theorem dX6_heaviestAlikeAt_42 : decode cX6_heaviestAlikeAt 42 = .ok (.iload_n 3, 1) := by decide +kernel
set_option maxRecDepth 20000 in
theorem dX6_heaviestAlikeAt_43 : decode cX6_heaviestAlikeAt 43 = .ok (.ireturn, 1) := by decide +kernel
set_option maxRecDepth 20000 in
theorem dX6_differing_0 : decode cX6_differing 0 = .ok (.iconst 0, 1) := by decide +kernel
set_option maxRecDepth 20000 in
theorem dX6_differing_1 : decode cX6_differing 1 = .ok (.istore_n 3, 1) := by decide +kernel
set_option maxRecDepth 20000 in
theorem dX6_differing_2 : decode cX6_differing 2 = .ok (.iconst 0, 1) := by decide +kernel
set_option maxRecDepth 20000 in
theorem dX6_differing_3 : decode cX6_differing 3 = .ok (.istore 4, 2) := by decide +kernel
set_option maxRecDepth 20000 in
theorem dX6_differing_5 : decode cX6_differing 5 = .ok (.iload 4, 2) := by decide +kernel
set_option maxRecDepth 20000 in
theorem dX6_differing_7 : decode cX6_differing 7 = .ok (.bipush 6, 2) := by decide +kernel
set_option maxRecDepth 20000 in
theorem dX6_differing_9 : decode cX6_differing 9 = .ok (.if_icmp .ge 35, 3) := by decide +kernel
set_option maxRecDepth 20000 in
theorem dX6_differing_12 : decode cX6_differing 12 = .ok (.aload_n 0, 1) := by decide +kernel
set_option maxRecDepth 20000 in
theorem dX6_differing_13 : decode cX6_differing 13 = .ok (.getfield 19, 3) := by decide +kernel
set_option maxRecDepth 20000 in
theorem dX6_differing_16 : decode cX6_differing 16 = .ok (.iload_n 1, 1) := by decide +kernel
set_option maxRecDepth 20000 in
theorem dX6_differing_17 : decode cX6_differing 17 = .ok (.iload 4, 2) := by decide +kernel
set_option maxRecDepth 20000 in
theorem dX6_differing_19 : decode cX6_differing 19 = .ok (.invokevirtual 94, 3) := by decide +kernel
set_option maxRecDepth 20000 in
theorem dX6_differing_22 : decode cX6_differing 22 = .ok (.aload_n 0, 1) := by decide +kernel
set_option maxRecDepth 20000 in
theorem dX6_differing_23 : decode cX6_differing 23 = .ok (.getfield 19, 3) := by decide +kernel
set_option maxRecDepth 20000 in
theorem dX6_differing_26 : decode cX6_differing 26 = .ok (.iload_n 2, 1) := by decide +kernel
set_option maxRecDepth 20000 in
theorem dX6_differing_27 : decode cX6_differing 27 = .ok (.iload 4, 2) := by decide +kernel
set_option maxRecDepth 20000 in
theorem dX6_differing_29 : decode cX6_differing 29 = .ok (.invokevirtual 94, 3) := by decide +kernel
set_option maxRecDepth 20000 in
theorem dX6_differing_32 : decode cX6_differing 32 = .ok (.if_icmp .eq 6, 3) := by decide +kernel
set_option maxRecDepth 20000 in
theorem dX6_differing_35 : decode cX6_differing 35 = .ok (.iinc 3 1, 3) := by decide +kernel
set_option maxRecDepth 20000 in
theorem dX6_differing_38 : decode cX6_differing 38 = .ok (.iinc 4 1, 3) := by decide +kernel
set_option maxRecDepth 20000 in
theorem dX6_differing_41 : decode cX6_differing 41 = .ok (.goto (-36), 3) := by decide +kernel
set_option maxRecDepth 20000 in
theorem dX6_differing_44 : decode cX6_differing 44 = .ok (.iload_n 3, 1) := by decide +kernel
set_option maxRecDepth 20000 in
theorem dX6_differing_45 : decode cX6_differing 45 = .ok (.ireturn, 1) := by decide +kernel
set_option maxRecDepth 20000 in
theorem dX6_nearestTo_0 : decode cX6_nearestTo 0 = .ok (.bipush (-9), 2) := by decide +kernel
set_option maxRecDepth 20000 in
theorem dX6_nearestTo_2 : decode cX6_nearestTo 2 = .ok (.istore_n 2, 1) := by decide +kernel
set_option maxRecDepth 20000 in
theorem dX6_nearestTo_3 : decode cX6_nearestTo 3 = .ok (.bipush 7, 2) := by decide +kernel
set_option maxRecDepth 20000 in
theorem dX6_nearestTo_5 : decode cX6_nearestTo 5 = .ok (.istore_n 3, 1) := by decide +kernel
set_option maxRecDepth 20000 in
theorem dX6_nearestTo_6 : decode cX6_nearestTo 6 = .ok (.iconst 0, 1) := by decide +kernel
set_option maxRecDepth 20000 in
theorem dX6_nearestTo_7 : decode cX6_nearestTo 7 = .ok (.istore 4, 2) := by decide +kernel
set_option maxRecDepth 20000 in
theorem dX6_nearestTo_9 : decode cX6_nearestTo 9 = .ok (.iload 4, 2) := by decide +kernel
set_option maxRecDepth 20000 in
theorem dX6_nearestTo_11 : decode cX6_nearestTo 11 = .ok (.aload_n 0, 1) := by decide +kernel
set_option maxRecDepth 20000 in
theorem dX6_nearestTo_12 : decode cX6_nearestTo 12 = .ok (.getfield 19, 3) := by decide +kernel
set_option maxRecDepth 20000 in
theorem dX6_nearestTo_15 : decode cX6_nearestTo 15 = .ok (.getfield 238, 3) := by decide +kernel
set_option maxRecDepth 20000 in
theorem dX6_nearestTo_18 : decode cX6_nearestTo 18 = .ok (.if_icmp .ge 40, 3) := by decide +kernel
set_option maxRecDepth 20000 in
theorem dX6_nearestTo_21 : decode cX6_nearestTo 21 = .ok (.iload 4, 2) := by decide +kernel
set_option maxRecDepth 20000 in
theorem dX6_nearestTo_23 : decode cX6_nearestTo 23 = .ok (.iload_n 1, 1) := by decide +kernel
set_option maxRecDepth 20000 in
theorem dX6_nearestTo_24 : decode cX6_nearestTo 24 = .ok (.if_icmp .ne 7, 3) := by decide +kernel
set_option maxRecDepth 20000 in
theorem dX6_nearestTo_27 : decode cX6_nearestTo 27 = .ok (.iload_n 3, 1) := by decide +kernel
set_option maxRecDepth 20000 in
theorem dX6_nearestTo_28 : decode cX6_nearestTo 28 = .ok (.goto 10, 3) := by decide +kernel
set_option maxRecDepth 20000 in
theorem dX6_nearestTo_31 : decode cX6_nearestTo 31 = .ok (.aload_n 0, 1) := by decide +kernel
set_option maxRecDepth 20000 in
theorem dX6_nearestTo_32 : decode cX6_nearestTo 32 = .ok (.iload_n 1, 1) := by decide +kernel
set_option maxRecDepth 20000 in
theorem dX6_nearestTo_33 : decode cX6_nearestTo 33 = .ok (.iload 4, 2) := by decide +kernel
set_option maxRecDepth 20000 in
theorem dX6_nearestTo_35 : decode cX6_nearestTo 35 = .ok (.invokevirtual 266, 3) := by decide +kernel
set_option maxRecDepth 20000 in
theorem dX6_nearestTo_38 : decode cX6_nearestTo 38 = .ok (.istore 5, 2) := by decide +kernel
set_option maxRecDepth 20000 in
theorem dX6_nearestTo_40 : decode cX6_nearestTo 40 = .ok (.iload 5, 2) := by decide +kernel
set_option maxRecDepth 20000 in
theorem dX6_nearestTo_42 : decode cX6_nearestTo 42 = .ok (.iload_n 3, 1) := by decide +kernel
set_option maxRecDepth 20000 in
theorem dX6_nearestTo_43 : decode cX6_nearestTo 43 = .ok (.if_icmp .ge 9, 3) := by decide +kernel
set_option maxRecDepth 20000 in
theorem dX6_nearestTo_46 : decode cX6_nearestTo 46 = .ok (.iload 4, 2) := by decide +kernel
set_option maxRecDepth 20000 in
theorem dX6_nearestTo_48 : decode cX6_nearestTo 48 = .ok (.istore_n 2, 1) := by decide +kernel
set_option maxRecDepth 20000 in
theorem dX6_nearestTo_49 : decode cX6_nearestTo 49 = .ok (.iload 5, 2) := by decide +kernel
set_option maxRecDepth 20000 in
theorem dX6_nearestTo_51 : decode cX6_nearestTo 51 = .ok (.istore_n 3, 1) := by decide +kernel
set_option maxRecDepth 20000 in
theorem dX6_nearestTo_52 : decode cX6_nearestTo 52 = .ok (.iinc 4 1, 3) := by decide +kernel
set_option maxRecDepth 20000 in
theorem dX6_nearestTo_55 : decode cX6_nearestTo 55 = .ok (.goto (-46), 3) := by decide +kernel
set_option maxRecDepth 20000 in
theorem dX6_nearestTo_58 : decode cX6_nearestTo 58 = .ok (.iload_n 2, 1) := by decide +kernel
set_option maxRecDepth 20000 in
theorem dX6_nearestTo_59 : decode cX6_nearestTo 59 = .ok (.ireturn, 1) := by decide +kernel
set_option maxRecDepth 20000 in
theorem dX6_doubtOf_0 : decode cX6_doubtOf 0 = .ok (.aload_n 0, 1) := by decide +kernel
set_option maxRecDepth 20000 in
theorem dX6_doubtOf_1 : decode cX6_doubtOf 1 = .ok (.iload_n 1, 1) := by decide +kernel
set_option maxRecDepth 20000 in
theorem dX6_doubtOf_2 : decode cX6_doubtOf 2 = .ok (.invokevirtual 91, 3) := by decide +kernel
set_option maxRecDepth 20000 in
theorem dX6_doubtOf_5 : decode cX6_doubtOf 5 = .ok (.istore_n 2, 1) := by decide +kernel
set_option maxRecDepth 20000 in
theorem dX6_doubtOf_6 : decode cX6_doubtOf 6 = .ok (.iload_n 2, 1) := by decide +kernel
set_option maxRecDepth 20000 in
theorem dX6_doubtOf_7 : decode cX6_doubtOf 7 = .ok (.bipush (-9), 2) := by decide +kernel
set_option maxRecDepth 20000 in
theorem dX6_doubtOf_9 : decode cX6_doubtOf 9 = .ok (.if_icmp .ne 8, 3) := by decide +kernel
set_option maxRecDepth 20000 in
theorem dX6_doubtOf_12 : decode cX6_doubtOf 12 = .ok (.bipush (-9), 2) := by decide +kernel
set_option maxRecDepth 20000 in
theorem dX6_doubtOf_14 : decode cX6_doubtOf 14 = .ok (.goto 9, 3) := by decide +kernel
set_option maxRecDepth 20000 in
theorem dX6_doubtOf_17 : decode cX6_doubtOf 17 = .ok (.aload_n 0, 1) := by decide +kernel
set_option maxRecDepth 20000 in
theorem dX6_doubtOf_18 : decode cX6_doubtOf 18 = .ok (.iload_n 1, 1) := by decide +kernel
set_option maxRecDepth 20000 in
theorem dX6_doubtOf_19 : decode cX6_doubtOf 19 = .ok (.iload_n 2, 1) := by decide +kernel
set_option maxRecDepth 20000 in
theorem dX6_doubtOf_20 : decode cX6_doubtOf 20 = .ok (.invokevirtual 266, 3) := by decide +kernel
set_option maxRecDepth 20000 in
theorem dX6_doubtOf_23 : decode cX6_doubtOf 23 = .ok (.ireturn, 1) := by decide +kernel
set_option maxRecDepth 20000 in
theorem dX6_commonPart_0 : decode cX6_commonPart 0 = .ok (.iload_n 0, 1) := by decide +kernel
set_option maxRecDepth 20000 in
theorem dX6_commonPart_1 : decode cX6_commonPart 1 = .ok (.iload_n 1, 1) := by decide +kernel
set_option maxRecDepth 20000 in
theorem dX6_commonPart_2 : decode cX6_commonPart 2 = .ok (.invokestatic 261, 3) := by decide +kernel
set_option maxRecDepth 20000 in
theorem dX6_commonPart_5 : decode cX6_commonPart 5 = .ok (.istore_n 2, 1) := by decide +kernel
set_option maxRecDepth 20000 in
theorem dX6_commonPart_6 : decode cX6_commonPart 6 = .ok (.iload_n 2, 1) := by decide +kernel
set_option maxRecDepth 20000 in
theorem dX6_commonPart_7 : decode cX6_commonPart 7 = .ok (.iconst 1, 1) := by decide +kernel
set_option maxRecDepth 20000 in
theorem dX6_commonPart_8 : decode cX6_commonPart 8 = .ok (.if_icmp .le 23, 3) := by decide +kernel
set_option maxRecDepth 20000 in
theorem dX6_commonPart_11 : decode cX6_commonPart 11 = .ok (.iload_n 0, 1) := by decide +kernel
set_option maxRecDepth 20000 in
theorem dX6_commonPart_12 : decode cX6_commonPart 12 = .ok (.iload_n 2, 1) := by decide +kernel
set_option maxRecDepth 20000 in
theorem dX6_commonPart_13 : decode cX6_commonPart 13 = .ok (.irem, 1) := by decide +kernel
set_option maxRecDepth 20000 in
theorem dX6_commonPart_14 : decode cX6_commonPart 14 = .ok (.ifCond .ne 11, 3) := by decide +kernel
set_option maxRecDepth 20000 in
theorem dX6_commonPart_17 : decode cX6_commonPart 17 = .ok (.iload_n 1, 1) := by decide +kernel
set_option maxRecDepth 20000 in
theorem dX6_commonPart_18 : decode cX6_commonPart 18 = .ok (.iload_n 2, 1) := by decide +kernel
set_option maxRecDepth 20000 in
theorem dX6_commonPart_19 : decode cX6_commonPart 19 = .ok (.irem, 1) := by decide +kernel
set_option maxRecDepth 20000 in
theorem dX6_commonPart_20 : decode cX6_commonPart 20 = .ok (.ifCond .ne 5, 3) := by decide +kernel
set_option maxRecDepth 20000 in
theorem dX6_commonPart_23 : decode cX6_commonPart 23 = .ok (.iload_n 2, 1) := by decide +kernel
set_option maxRecDepth 20000 in
theorem dX6_commonPart_24 : decode cX6_commonPart 24 = .ok (.ireturn, 1) := by decide +kernel
set_option maxRecDepth 20000 in
theorem dX6_commonPart_25 : decode cX6_commonPart 25 = .ok (.iinc 2 (-1), 3) := by decide +kernel
set_option maxRecDepth 20000 in
theorem dX6_commonPart_28 : decode cX6_commonPart 28 = .ok (.goto (-22), 3) := by decide +kernel
set_option maxRecDepth 20000 in
theorem dX6_commonPart_31 : decode cX6_commonPart 31 = .ok (.iconst 1, 1) := by decide +kernel
set_option maxRecDepth 20000 in
theorem dX6_commonPart_32 : decode cX6_commonPart 32 = .ok (.ireturn, 1) := by decide +kernel
set_option maxRecDepth 20000 in
theorem dX6_inLeastTerms_0 : decode cX6_inLeastTerms 0 = .ok (.iload_n 1, 1) := by decide +kernel
set_option maxRecDepth 20000 in
theorem dX6_inLeastTerms_1 : decode cX6_inLeastTerms 1 = .ok (.iconst 1, 1) := by decide +kernel
set_option maxRecDepth 20000 in
theorem dX6_inLeastTerms_2 : decode cX6_inLeastTerms 2 = .ok (.if_icmp .le 9, 3) := by decide +kernel
set_option maxRecDepth 20000 in
theorem dX6_inLeastTerms_5 : decode cX6_inLeastTerms 5 = .ok (.iload_n 0, 1) := by decide +kernel
set_option maxRecDepth 20000 in
theorem dX6_inLeastTerms_6 : decode cX6_inLeastTerms 6 = .ok (.iload_n 1, 1) := by decide +kernel
set_option maxRecDepth 20000 in
theorem dX6_inLeastTerms_7 : decode cX6_inLeastTerms 7 = .ok (.idiv, 1) := by decide +kernel
set_option maxRecDepth 20000 in
theorem dX6_inLeastTerms_8 : decode cX6_inLeastTerms 8 = .ok (.goto 4, 3) := by decide +kernel
set_option maxRecDepth 20000 in
theorem dX6_inLeastTerms_11 : decode cX6_inLeastTerms 11 = .ok (.iload_n 0, 1) := by decide +kernel
set_option maxRecDepth 20000 in
theorem dX6_inLeastTerms_12 : decode cX6_inLeastTerms 12 = .ok (.ireturn, 1) := by decide +kernel
set_option maxRecDepth 20000 in
theorem dX6_canSpoil_0 : decode cX6_canSpoil 0 = .ok (.aload_n 0, 1) := by decide +kernel
set_option maxRecDepth 20000 in
theorem dX6_canSpoil_1 : decode cX6_canSpoil 1 = .ok (.getfield 19, 3) := by decide +kernel
set_option maxRecDepth 20000 in
theorem dX6_canSpoil_4 : decode cX6_canSpoil 4 = .ok (.iload_n 1, 1) := by decide +kernel
set_option maxRecDepth 20000 in
theorem dX6_canSpoil_5 : decode cX6_canSpoil 5 = .ok (.iconst 1, 1) := by decide +kernel
set_option maxRecDepth 20000 in
theorem dX6_canSpoil_6 : decode cX6_canSpoil 6 = .ok (.invokevirtual 130, 3) := by decide +kernel
set_option maxRecDepth 20000 in
theorem dX6_canSpoil_9 : decode cX6_canSpoil 9 = .ok (.iload_n 2, 1) := by decide +kernel
set_option maxRecDepth 20000 in
theorem dX6_canSpoil_10 : decode cX6_canSpoil 10 = .ok (.if_icmp .ne 40, 3) := by decide +kernel
set_option maxRecDepth 20000 in
theorem dX6_canSpoil_13 : decode cX6_canSpoil 13 = .ok (.aload_n 0, 1) := by decide +kernel
set_option maxRecDepth 20000 in
theorem dX6_canSpoil_14 : decode cX6_canSpoil 14 = .ok (.getfield 19, 3) := by decide +kernel
set_option maxRecDepth 20000 in
theorem dX6_canSpoil_17 : decode cX6_canSpoil 17 = .ok (.iload_n 1, 1) := by decide +kernel
set_option maxRecDepth 20000 in
theorem dX6_canSpoil_18 : decode cX6_canSpoil 18 = .ok (.iconst 0, 1) := by decide +kernel
set_option maxRecDepth 20000 in
theorem dX6_canSpoil_19 : decode cX6_canSpoil 19 = .ok (.invokevirtual 130, 3) := by decide +kernel
set_option maxRecDepth 20000 in
theorem dX6_canSpoil_22 : decode cX6_canSpoil 22 = .ok (.aload_n 0, 1) := by decide +kernel
set_option maxRecDepth 20000 in
theorem dX6_canSpoil_23 : decode cX6_canSpoil 23 = .ok (.getfield 26, 3) := by decide +kernel
set_option maxRecDepth 20000 in
theorem dX6_canSpoil_26 : decode cX6_canSpoil 26 = .ok (.getfield 163, 3) := by decide +kernel
set_option maxRecDepth 20000 in
theorem dX6_canSpoil_29 : decode cX6_canSpoil 29 = .ok (.if_icmp .le 21, 3) := by decide +kernel
set_option maxRecDepth 20000 in
theorem dX6_canSpoil_32 : decode cX6_canSpoil 32 = .ok (.aload_n 0, 1) := by decide +kernel
set_option maxRecDepth 20000 in
theorem dX6_canSpoil_33 : decode cX6_canSpoil 33 = .ok (.iload_n 2, 1) := by decide +kernel
set_option maxRecDepth 20000 in
theorem dX6_canSpoil_34 : decode cX6_canSpoil 34 = .ok (.invokevirtual 187, 3) := by decide +kernel
set_option maxRecDepth 20000 in
theorem dX6_canSpoil_37 : decode cX6_canSpoil 37 = .ok (.aload_n 0, 1) := by decide +kernel
set_option maxRecDepth 20000 in
theorem dX6_canSpoil_38 : decode cX6_canSpoil 38 = .ok (.iload_n 1, 1) := by decide +kernel
set_option maxRecDepth 20000 in
theorem dX6_canSpoil_39 : decode cX6_canSpoil 39 = .ok (.invokevirtual 169, 3) := by decide +kernel
set_option maxRecDepth 20000 in
theorem dX6_canSpoil_42 : decode cX6_canSpoil 42 = .ok (.iand, 1) := by decide +kernel
set_option maxRecDepth 20000 in
theorem dX6_canSpoil_43 : decode cX6_canSpoil 43 = .ok (.ifCond .eq 7, 3) := by decide +kernel
set_option maxRecDepth 20000 in
theorem dX6_canSpoil_46 : decode cX6_canSpoil 46 = .ok (.iconst 1, 1) := by decide +kernel
set_option maxRecDepth 20000 in
theorem dX6_canSpoil_47 : decode cX6_canSpoil 47 = .ok (.goto 4, 3) := by decide +kernel
set_option maxRecDepth 20000 in
theorem dX6_canSpoil_50 : decode cX6_canSpoil 50 = .ok (.iconst 0, 1) := by decide +kernel
set_option maxRecDepth 20000 in
theorem dX6_canSpoil_51 : decode cX6_canSpoil 51 = .ok (.ireturn, 1) := by decide +kernel
set_option maxRecDepth 20000 in
theorem dX6_readIn_0 : decode cX6_readIn 0 = .ok (.iconst 0, 1) := by decide +kernel
set_option maxRecDepth 20000 in
theorem dX6_readIn_1 : decode cX6_readIn 1 = .ok (.istore_n 1, 1) := by decide +kernel
set_option maxRecDepth 20000 in
theorem dX6_readIn_2 : decode cX6_readIn 2 = .ok (.iconst 0, 1) := by decide +kernel
set_option maxRecDepth 20000 in
theorem dX6_readIn_3 : decode cX6_readIn 3 = .ok (.istore_n 2, 1) := by decide +kernel
set_option maxRecDepth 20000 in
theorem dX6_readIn_4 : decode cX6_readIn 4 = .ok (.iload_n 2, 1) := by decide +kernel
set_option maxRecDepth 20000 in
theorem dX6_readIn_5 : decode cX6_readIn 5 = .ok (.iconst 4, 1) := by decide +kernel
set_option maxRecDepth 20000 in
theorem dX6_readIn_6 : decode cX6_readIn 6 = .ok (.if_icmp .ge 20, 3) := by decide +kernel
set_option maxRecDepth 20000 in
theorem dX6_readIn_9 : decode cX6_readIn 9 = .ok (.iload_n 0, 1) := by decide +kernel
set_option maxRecDepth 20000 in
theorem dX6_readIn_10 : decode cX6_readIn 10 = .ok (.iconst 3, 1) := by decide +kernel
set_option maxRecDepth 20000 in
theorem dX6_readIn_11 : decode cX6_readIn 11 = .ok (.iload_n 2, 1) := by decide +kernel
set_option maxRecDepth 20000 in
theorem dX6_readIn_12 : decode cX6_readIn 12 = .ok (.imul, 1) := by decide +kernel
set_option maxRecDepth 20000 in
theorem dX6_readIn_13 : decode cX6_readIn 13 = .ok (.ishr, 1) := by decide +kernel
set_option maxRecDepth 20000 in
theorem dX6_readIn_14 : decode cX6_readIn 14 = .ok (.ifCond .eq 6, 3) := by decide +kernel
set_option maxRecDepth 20000 in
theorem dX6_readIn_17 : decode cX6_readIn 17 = .ok (.iinc 1 1, 3) := by decide +kernel
set_option maxRecDepth 20000 in
theorem dX6_readIn_20 : decode cX6_readIn 20 = .ok (.iinc 2 1, 3) := by decide +kernel
set_option maxRecDepth 20000 in
theorem dX6_readIn_23 : decode cX6_readIn 23 = .ok (.goto (-19), 3) := by decide +kernel
set_option maxRecDepth 20000 in
theorem dX6_readIn_26 : decode cX6_readIn 26 = .ok (.iload_n 1, 1) := by decide +kernel
set_option maxRecDepth 20000 in
theorem dX6_readIn_27 : decode cX6_readIn 27 = .ok (.ireturn, 1) := by decide +kernel
set_option maxRecDepth 20000 in
theorem dX6_lastReadOf_0 : decode cX6_lastReadOf 0 = .ok (.iload_n 0, 1) := by decide +kernel
set_option maxRecDepth 20000 in
theorem dX6_lastReadOf_1 : decode cX6_lastReadOf 1 = .ok (.bipush 7, 2) := by decide +kernel
set_option maxRecDepth 20000 in
theorem dX6_lastReadOf_3 : decode cX6_lastReadOf 3 = .ok (.iand, 1) := by decide +kernel
set_option maxRecDepth 20000 in
theorem dX6_lastReadOf_4 : decode cX6_lastReadOf 4 = .ok (.iconst 1, 1) := by decide +kernel
set_option maxRecDepth 20000 in
theorem dX6_lastReadOf_5 : decode cX6_lastReadOf 5 = .ok (.isub, 1) := by decide +kernel
set_option maxRecDepth 20000 in
theorem dX6_lastReadOf_6 : decode cX6_lastReadOf 6 = .ok (.ireturn, 1) := by decide +kernel
set_option maxRecDepth 20000 in
theorem dX6_isReadIn_0 : decode cX6_isReadIn 0 = .ok (.iconst 0, 1) := by decide +kernel
set_option maxRecDepth 20000 in
theorem dX6_isReadIn_1 : decode cX6_isReadIn 1 = .ok (.istore_n 2, 1) := by decide +kernel
set_option maxRecDepth 20000 in
theorem dX6_isReadIn_2 : decode cX6_isReadIn 2 = .ok (.iload_n 2, 1) := by decide +kernel
set_option maxRecDepth 20000 in
theorem dX6_isReadIn_3 : decode cX6_isReadIn 3 = .ok (.iconst 4, 1) := by decide +kernel
set_option maxRecDepth 20000 in
theorem dX6_isReadIn_4 : decode cX6_isReadIn 4 = .ok (.if_icmp .ge 23, 3) := by decide +kernel
set_option maxRecDepth 20000 in
theorem dX6_isReadIn_7 : decode cX6_isReadIn 7 = .ok (.iload_n 0, 1) := by decide +kernel
set_option maxRecDepth 20000 in
theorem dX6_isReadIn_8 : decode cX6_isReadIn 8 = .ok (.iconst 3, 1) := by decide +kernel
set_option maxRecDepth 20000 in
theorem dX6_isReadIn_9 : decode cX6_isReadIn 9 = .ok (.iload_n 2, 1) := by decide +kernel
set_option maxRecDepth 20000 in
theorem dX6_isReadIn_10 : decode cX6_isReadIn 10 = .ok (.imul, 1) := by decide +kernel
set_option maxRecDepth 20000 in
theorem dX6_isReadIn_11 : decode cX6_isReadIn 11 = .ok (.ishr, 1) := by decide +kernel
set_option maxRecDepth 20000 in
theorem dX6_isReadIn_12 : decode cX6_isReadIn 12 = .ok (.invokestatic 206, 3) := by decide +kernel
set_option maxRecDepth 20000 in
theorem dX6_isReadIn_15 : decode cX6_isReadIn 15 = .ok (.iload_n 1, 1) := by decide +kernel
set_option maxRecDepth 20000 in
theorem dX6_isReadIn_16 : decode cX6_isReadIn 16 = .ok (.if_icmp .ne 5, 3) := by decide +kernel
set_option maxRecDepth 20000 in
theorem dX6_isReadIn_19 : decode cX6_isReadIn 19 = .ok (.iconst 1, 1) := by decide +kernel
set_option maxRecDepth 20000 in
theorem dX6_isReadIn_20 : decode cX6_isReadIn 20 = .ok (.ireturn, 1) := by decide +kernel
set_option maxRecDepth 20000 in
theorem dX6_isReadIn_21 : decode cX6_isReadIn 21 = .ok (.iinc 2 1, 3) := by decide +kernel
set_option maxRecDepth 20000 in
theorem dX6_isReadIn_24 : decode cX6_isReadIn 24 = .ok (.goto (-22), 3) := by decide +kernel
set_option maxRecDepth 20000 in
theorem dX6_isReadIn_27 : decode cX6_isReadIn 27 = .ok (.iconst 0, 1) := by decide +kernel
set_option maxRecDepth 20000 in
theorem dX6_isReadIn_28 : decode cX6_isReadIn 28 = .ok (.ireturn, 1) := by decide +kernel
set_option maxRecDepth 20000 in
theorem dX6_bestOrder_0 : decode cX6_bestOrder 0 = .ok (.iload_n 1, 1) := by decide +kernel
set_option maxRecDepth 20000 in
theorem dX6_bestOrder_1 : decode cX6_bestOrder 1 = .ok (.istore 4, 2) := by decide +kernel
set_option maxRecDepth 20000 in
theorem dX6_bestOrder_3 : decode cX6_bestOrder 3 = .ok (.iload_n 2, 1) := by decide +kernel
set_option maxRecDepth 20000 in
theorem dX6_bestOrder_4 : decode cX6_bestOrder 4 = .ok (.iconst 4, 1) := by decide +kernel
set_option maxRecDepth 20000 in
theorem dX6_bestOrder_5 : decode cX6_bestOrder 5 = .ok (.if_icmp .lt 6, 3) := by decide +kernel
set_option maxRecDepth 20000 in
theorem dX6_bestOrder_8 : decode cX6_bestOrder 8 = .ok (.iload 4, 2) := by decide +kernel
set_option maxRecDepth 20000 in
theorem dX6_bestOrder_10 : decode cX6_bestOrder 10 = .ok (.ireturn, 1) := by decide +kernel
set_option maxRecDepth 20000 in
theorem dX6_bestOrder_11 : decode cX6_bestOrder 11 = .ok (.iconst 0, 1) := by decide +kernel
set_option maxRecDepth 20000 in
theorem dX6_bestOrder_12 : decode cX6_bestOrder 12 = .ok (.istore 5, 2) := by decide +kernel
set_option maxRecDepth 20000 in
theorem dX6_bestOrder_14 : decode cX6_bestOrder 14 = .ok (.iload 5, 2) := by decide +kernel
set_option maxRecDepth 20000 in
theorem dX6_bestOrder_16 : decode cX6_bestOrder 16 = .ok (.iconst 4, 1) := by decide +kernel
set_option maxRecDepth 20000 in
theorem dX6_bestOrder_17 : decode cX6_bestOrder 17 = .ok (.if_icmp .ge 99, 3) := by decide +kernel
set_option maxRecDepth 20000 in
theorem dX6_bestOrder_20 : decode cX6_bestOrder 20 = .ok (.iload_n 2, 1) := by decide +kernel
set_option maxRecDepth 20000 in
theorem dX6_bestOrder_21 : decode cX6_bestOrder 21 = .ok (.ifCond .ne 7, 3) := by decide +kernel
set_option maxRecDepth 20000 in
theorem dX6_bestOrder_24 : decode cX6_bestOrder 24 = .ok (.iconst 0, 1) := by decide +kernel
set_option maxRecDepth 20000 in
theorem dX6_bestOrder_25 : decode cX6_bestOrder 25 = .ok (.goto 13, 3) := by decide +kernel
set_option maxRecDepth 20000 in
theorem dX6_bestOrder_28 : decode cX6_bestOrder 28 = .ok (.iload 5, 2) := by decide +kernel
set_option maxRecDepth 20000 in
theorem dX6_bestOrder_30 : decode cX6_bestOrder 30 = .ok (.iload_n 1, 1) := by decide +kernel
set_option maxRecDepth 20000 in
theorem dX6_bestOrder_31 : decode cX6_bestOrder 31 = .ok (.invokestatic 206, 3) := by decide +kernel
set_option maxRecDepth 20000 in
theorem dX6_bestOrder_34 : decode cX6_bestOrder 34 = .ok (.isub, 1) := by decide +kernel
set_option maxRecDepth 20000 in
theorem dX6_bestOrder_35 : decode cX6_bestOrder 35 = .ok (.invokestatic 269, 3) := by decide +kernel
set_option maxRecDepth 20000 in
theorem dX6_bestOrder_38 : decode cX6_bestOrder 38 = .ok (.istore 6, 2) := by decide +kernel
set_option maxRecDepth 20000 in
theorem dX6_bestOrder_40 : decode cX6_bestOrder 40 = .ok (.iload_n 3, 1) := by decide +kernel
set_option maxRecDepth 20000 in
theorem dX6_bestOrder_41 : decode cX6_bestOrder 41 = .ok (.iload 6, 2) := by decide +kernel
set_option maxRecDepth 20000 in
theorem dX6_bestOrder_43 : decode cX6_bestOrder 43 = .ok (.iadd, 1) := by decide +kernel
set_option maxRecDepth 20000 in
theorem dX6_bestOrder_44 : decode cX6_bestOrder 44 = .ok (.iconst 1, 1) := by decide +kernel
set_option maxRecDepth 20000 in
theorem dX6_bestOrder_45 : decode cX6_bestOrder 45 = .ok (.iadd, 1) := by decide +kernel
set_option maxRecDepth 20000 in
theorem dX6_bestOrder_46 : decode cX6_bestOrder 46 = .ok (.istore 7, 2) := by decide +kernel
set_option maxRecDepth 20000 in
theorem dX6_bestOrder_48 : decode cX6_bestOrder 48 = .ok (.iload_n 1, 1) := by decide +kernel
set_option maxRecDepth 20000 in
theorem dX6_bestOrder_49 : decode cX6_bestOrder 49 = .ok (.iload 5, 2) := by decide +kernel
set_option maxRecDepth 20000 in
theorem dX6_bestOrder_51 : decode cX6_bestOrder 51 = .ok (.invokestatic 272, 3) := by decide +kernel
set_option maxRecDepth 20000 in
theorem dX6_bestOrder_54 : decode cX6_bestOrder 54 = .ok (.ifCond .ne 56, 3) := by decide +kernel
set_option maxRecDepth 20000 in
theorem dX6_bestOrder_57 : decode cX6_bestOrder 57 = .ok (.iload 7, 2) := by decide +kernel
set_option maxRecDepth 20000 in
theorem dX6_bestOrder_59 : decode cX6_bestOrder 59 = .ok (.aload_n 0, 1) := by decide +kernel
set_option maxRecDepth 20000 in
theorem dX6_bestOrder_60 : decode cX6_bestOrder 60 = .ok (.iload 5, 2) := by decide +kernel
set_option maxRecDepth 20000 in
theorem dX6_bestOrder_62 : decode cX6_bestOrder 62 = .ok (.invokestatic 275, 3) := by decide +kernel
set_option maxRecDepth 20000 in
theorem dX6_bestOrder_65 : decode cX6_bestOrder 65 = .ok (.if_icmp .gt 45, 3) := by decide +kernel
set_option maxRecDepth 20000 in
theorem dX6_bestOrder_68 : decode cX6_bestOrder 68 = .ok (.aload_n 0, 1) := by decide +kernel
set_option maxRecDepth 20000 in
theorem dX6_bestOrder_69 : decode cX6_bestOrder 69 = .ok (.iload_n 1, 1) := by decide +kernel
set_option maxRecDepth 20000 in
theorem dX6_bestOrder_70 : decode cX6_bestOrder 70 = .ok (.bipush 8, 2) := by decide +kernel
set_option maxRecDepth 20000 in
theorem dX6_bestOrder_72 : decode cX6_bestOrder 72 = .ok (.imul, 1) := by decide +kernel
set_option maxRecDepth 20000 in
theorem dX6_bestOrder_73 : decode cX6_bestOrder 73 = .ok (.iload 5, 2) := by decide +kernel
set_option maxRecDepth 20000 in
theorem dX6_bestOrder_75 : decode cX6_bestOrder 75 = .ok (.iadd, 1) := by decide +kernel
set_option maxRecDepth 20000 in
theorem dX6_bestOrder_76 : decode cX6_bestOrder 76 = .ok (.iconst 1, 1) := by decide +kernel
set_option maxRecDepth 20000 in
theorem dX6_bestOrder_77 : decode cX6_bestOrder 77 = .ok (.iadd, 1) := by decide +kernel
set_option maxRecDepth 20000 in
theorem dX6_bestOrder_78 : decode cX6_bestOrder 78 = .ok (.iload_n 2, 1) := by decide +kernel
set_option maxRecDepth 20000 in
theorem dX6_bestOrder_79 : decode cX6_bestOrder 79 = .ok (.iconst 1, 1) := by decide +kernel
set_option maxRecDepth 20000 in
theorem dX6_bestOrder_80 : decode cX6_bestOrder 80 = .ok (.iadd, 1) := by decide +kernel
set_option maxRecDepth 20000 in
theorem dX6_bestOrder_81 : decode cX6_bestOrder 81 = .ok (.iload 7, 2) := by decide +kernel
set_option maxRecDepth 20000 in
theorem dX6_bestOrder_83 : decode cX6_bestOrder 83 = .ok (.invokestatic 199, 3) := by decide +kernel
set_option maxRecDepth 20000 in
theorem dX6_bestOrder_86 : decode cX6_bestOrder 86 = .ok (.istore 8, 2) := by decide +kernel
set_option maxRecDepth 20000 in
theorem dX6_bestOrder_88 : decode cX6_bestOrder 88 = .ok (.iload 8, 2) := by decide +kernel
set_option maxRecDepth 20000 in
theorem dX6_bestOrder_90 : decode cX6_bestOrder 90 = .ok (.invokestatic 203, 3) := by decide +kernel
set_option maxRecDepth 20000 in
theorem dX6_bestOrder_93 : decode cX6_bestOrder 93 = .ok (.iload 4, 2) := by decide +kernel
set_option maxRecDepth 20000 in
theorem dX6_bestOrder_95 : decode cX6_bestOrder 95 = .ok (.invokestatic 203, 3) := by decide +kernel
set_option maxRecDepth 20000 in
theorem dX6_bestOrder_98 : decode cX6_bestOrder 98 = .ok (.if_icmp .le 8, 3) := by decide +kernel
set_option maxRecDepth 20000 in
theorem dX6_bestOrder_101 : decode cX6_bestOrder 101 = .ok (.iload 8, 2) := by decide +kernel
set_option maxRecDepth 20000 in
theorem dX6_bestOrder_103 : decode cX6_bestOrder 103 = .ok (.goto 5, 3) := by decide +kernel
set_option maxRecDepth 20000 in
theorem dX6_bestOrder_106 : decode cX6_bestOrder 106 = .ok (.iload 4, 2) := by decide +kernel
set_option maxRecDepth 20000 in
theorem dX6_bestOrder_108 : decode cX6_bestOrder 108 = .ok (.istore 4, 2) := by decide +kernel
set_option maxRecDepth 20000 in
theorem dX6_bestOrder_110 : decode cX6_bestOrder 110 = .ok (.iinc 5 1, 3) := by decide +kernel
set_option maxRecDepth 20000 in
theorem dX6_bestOrder_113 : decode cX6_bestOrder 113 = .ok (.goto (-99), 3) := by decide +kernel
set_option maxRecDepth 20000 in
theorem dX6_bestOrder_116 : decode cX6_bestOrder 116 = .ok (.iload 4, 2) := by decide +kernel
set_option maxRecDepth 20000 in
theorem dX6_bestOrder_118 : decode cX6_bestOrder 118 = .ok (.ireturn, 1) := by decide +kernel
set_option maxRecDepth 20000 in
theorem dX6_latestEndOf_0 : decode cX6_latestEndOf 0 = .ok (.aload_n 0, 1) := by decide +kernel
set_option maxRecDepth 20000 in
theorem dX6_latestEndOf_1 : decode cX6_latestEndOf 1 = .ok (.getfield 19, 3) := by decide +kernel
set_option maxRecDepth 20000 in
theorem dX6_latestEndOf_4 : decode cX6_latestEndOf 4 = .ok (.iload_n 1, 1) := by decide +kernel
set_option maxRecDepth 20000 in
theorem dX6_latestEndOf_5 : decode cX6_latestEndOf 5 = .ok (.invokevirtual 98, 3) := by decide +kernel
set_option maxRecDepth 20000 in
theorem dX6_latestEndOf_8 : decode cX6_latestEndOf 8 = .ok (.ifCond .eq 17, 3) := by decide +kernel
set_option maxRecDepth 20000 in
theorem dX6_latestEndOf_11 : decode cX6_latestEndOf 11 = .ok (.aload_n 0, 1) := by decide +kernel
set_option maxRecDepth 20000 in
theorem dX6_latestEndOf_12 : decode cX6_latestEndOf 12 = .ok (.iload_n 1, 1) := by decide +kernel
set_option maxRecDepth 20000 in
theorem dX6_latestEndOf_13 : decode cX6_latestEndOf 13 = .ok (.invokevirtual 187, 3) := by decide +kernel
set_option maxRecDepth 20000 in
theorem dX6_latestEndOf_16 : decode cX6_latestEndOf 16 = .ok (.ifCond .eq 9, 3) := by decide +kernel
set_option maxRecDepth 20000 in
theorem dX6_latestEndOf_19 : decode cX6_latestEndOf 19 = .ok (.sipush 1000, 3) := by decide +kernel
set_option maxRecDepth 20000 in
theorem dX6_latestEndOf_22 : decode cX6_latestEndOf 22 = .ok (.goto 4, 3) := by decide +kernel
set_option maxRecDepth 20000 in
theorem dX6_latestEndOf_25 : decode cX6_latestEndOf 25 = .ok (.iconst (-1), 1) := by decide +kernel
set_option maxRecDepth 20000 in
theorem dX6_latestEndOf_26 : decode cX6_latestEndOf 26 = .ok (.istore_n 2, 1) := by decide +kernel
set_option maxRecDepth 20000 in
theorem dX6_latestEndOf_27 : decode cX6_latestEndOf 27 = .ok (.iconst 0, 1) := by decide +kernel
set_option maxRecDepth 20000 in
theorem dX6_latestEndOf_28 : decode cX6_latestEndOf 28 = .ok (.istore_n 3, 1) := by decide +kernel
set_option maxRecDepth 20000 in
theorem dX6_latestEndOf_29 : decode cX6_latestEndOf 29 = .ok (.iload_n 3, 1) := by decide +kernel
set_option maxRecDepth 20000 in
theorem dX6_latestEndOf_30 : decode cX6_latestEndOf 30 = .ok (.aload_n 0, 1) := by decide +kernel
set_option maxRecDepth 20000 in
theorem dX6_latestEndOf_31 : decode cX6_latestEndOf 31 = .ok (.getfield 19, 3) := by decide +kernel
set_option maxRecDepth 20000 in
theorem dX6_latestEndOf_34 : decode cX6_latestEndOf 34 = .ok (.getfield 166, 3) := by decide +kernel
set_option maxRecDepth 20000 in
theorem dX6_latestEndOf_37 : decode cX6_latestEndOf 37 = .ok (.if_icmp .ge 54, 3) := by decide +kernel
set_option maxRecDepth 20000 in
theorem dX6_latestEndOf_40 : decode cX6_latestEndOf 40 = .ok (.aload_n 0, 1) := by decide +kernel
set_option maxRecDepth 20000 in
theorem dX6_latestEndOf_41 : decode cX6_latestEndOf 41 = .ok (.getfield 19, 3) := by decide +kernel
set_option maxRecDepth 20000 in
theorem dX6_latestEndOf_44 : decode cX6_latestEndOf 44 = .ok (.iload_n 3, 1) := by decide +kernel
set_option maxRecDepth 20000 in
theorem dX6_latestEndOf_45 : decode cX6_latestEndOf 45 = .ok (.iconst 0, 1) := by decide +kernel
set_option maxRecDepth 20000 in
theorem dX6_latestEndOf_46 : decode cX6_latestEndOf 46 = .ok (.invokevirtual 130, 3) := by decide +kernel
set_option maxRecDepth 20000 in
theorem dX6_latestEndOf_49 : decode cX6_latestEndOf 49 = .ok (.istore 4, 2) := by decide +kernel
set_option maxRecDepth 20000 in
theorem dX6_latestEndOf_51 : decode cX6_latestEndOf 51 = .ok (.aload_n 0, 1) := by decide +kernel
set_option maxRecDepth 20000 in
theorem dX6_latestEndOf_52 : decode cX6_latestEndOf 52 = .ok (.getfield 19, 3) := by decide +kernel
set_option maxRecDepth 20000 in
theorem dX6_latestEndOf_55 : decode cX6_latestEndOf 55 = .ok (.iload_n 3, 1) := by decide +kernel
set_option maxRecDepth 20000 in
theorem dX6_latestEndOf_56 : decode cX6_latestEndOf 56 = .ok (.iconst 1, 1) := by decide +kernel
set_option maxRecDepth 20000 in
theorem dX6_latestEndOf_57 : decode cX6_latestEndOf 57 = .ok (.invokevirtual 130, 3) := by decide +kernel
set_option maxRecDepth 20000 in
theorem dX6_latestEndOf_60 : decode cX6_latestEndOf 60 = .ok (.iload_n 1, 1) := by decide +kernel
set_option maxRecDepth 20000 in
theorem dX6_latestEndOf_61 : decode cX6_latestEndOf 61 = .ok (.if_icmp .ne 24, 3) := by decide +kernel
set_option maxRecDepth 20000 in
theorem dX6_latestEndOf_64 : decode cX6_latestEndOf 64 = .ok (.iload 4, 2) := by decide +kernel
set_option maxRecDepth 20000 in
theorem dX6_latestEndOf_66 : decode cX6_latestEndOf 66 = .ok (.aload_n 0, 1) := by decide +kernel
set_option maxRecDepth 20000 in
theorem dX6_latestEndOf_67 : decode cX6_latestEndOf 67 = .ok (.getfield 26, 3) := by decide +kernel
set_option maxRecDepth 20000 in
theorem dX6_latestEndOf_70 : decode cX6_latestEndOf 70 = .ok (.getfield 163, 3) := by decide +kernel
set_option maxRecDepth 20000 in
theorem dX6_latestEndOf_73 : decode cX6_latestEndOf 73 = .ok (.if_icmp .lt 12, 3) := by decide +kernel
set_option maxRecDepth 20000 in
theorem dX6_latestEndOf_76 : decode cX6_latestEndOf 76 = .ok (.iload_n 2, 1) := by decide +kernel
set_option maxRecDepth 20000 in
theorem dX6_latestEndOf_77 : decode cX6_latestEndOf 77 = .ok (.iload 4, 2) := by decide +kernel
set_option maxRecDepth 20000 in
theorem dX6_latestEndOf_79 : decode cX6_latestEndOf 79 = .ok (.iconst 1, 1) := by decide +kernel
set_option maxRecDepth 20000 in
theorem dX6_latestEndOf_80 : decode cX6_latestEndOf 80 = .ok (.isub, 1) := by decide +kernel
set_option maxRecDepth 20000 in
theorem dX6_latestEndOf_81 : decode cX6_latestEndOf 81 = .ok (.invokestatic 279, 3) := by decide +kernel
set_option maxRecDepth 20000 in
theorem dX6_latestEndOf_84 : decode cX6_latestEndOf 84 = .ok (.istore_n 2, 1) := by decide +kernel
set_option maxRecDepth 20000 in
theorem dX6_latestEndOf_85 : decode cX6_latestEndOf 85 = .ok (.iinc 3 1, 3) := by decide +kernel
set_option maxRecDepth 20000 in
theorem dX6_latestEndOf_88 : decode cX6_latestEndOf 88 = .ok (.goto (-59), 3) := by decide +kernel
set_option maxRecDepth 20000 in
theorem dX6_latestEndOf_91 : decode cX6_latestEndOf 91 = .ok (.iload_n 2, 1) := by decide +kernel
set_option maxRecDepth 20000 in
theorem dX6_latestEndOf_92 : decode cX6_latestEndOf 92 = .ok (.ireturn, 1) := by decide +kernel
set_option maxRecDepth 20000 in
theorem dX6_askWord_0 : decode cX6_askWord 0 = .ok (.aload_n 0, 1) := by decide +kernel
set_option maxRecDepth 20000 in
theorem dX6_askWord_1 : decode cX6_askWord 1 = .ok (.dup, 1) := by decide +kernel
set_option maxRecDepth 20000 in
theorem dX6_askWord_2 : decode cX6_askWord 2 = .ok (.getfield 244, 3) := by decide +kernel
set_option maxRecDepth 20000 in
theorem dX6_askWord_5 : decode cX6_askWord 5 = .ok (.lconst 1, 1) := by decide +kernel
set_option maxRecDepth 20000 in
theorem dX6_askWord_6 : decode cX6_askWord 6 = .ok (.ladd, 1) := by decide +kernel
set_option maxRecDepth 20000 in
theorem dX6_askWord_7 : decode cX6_askWord 7 = .ok (.putfield 244, 3) := by decide +kernel
set_option maxRecDepth 20000 in
theorem dX6_askWord_10 : decode cX6_askWord 10 = .ok (.aload_n 0, 1) := by decide +kernel
set_option maxRecDepth 20000 in
theorem dX6_askWord_11 : decode cX6_askWord 11 = .ok (.getfield 19, 3) := by decide +kernel
set_option maxRecDepth 20000 in
theorem dX6_askWord_14 : decode cX6_askWord 14 = .ok (.iload_n 1, 1) := by decide +kernel
set_option maxRecDepth 20000 in
theorem dX6_askWord_15 : decode cX6_askWord 15 = .ok (.invokevirtual 81, 3) := by decide +kernel
set_option maxRecDepth 20000 in
theorem dX6_askWord_18 : decode cX6_askWord 18 = .ok (.ireturn, 1) := by decide +kernel
set_option maxRecDepth 20000 in
theorem dX6_askLetter_0 : decode cX6_askLetter 0 = .ok (.aload_n 0, 1) := by decide +kernel
set_option maxRecDepth 20000 in
theorem dX6_askLetter_1 : decode cX6_askLetter 1 = .ok (.dup, 1) := by decide +kernel
set_option maxRecDepth 20000 in
theorem dX6_askLetter_2 : decode cX6_askLetter 2 = .ok (.getfield 244, 3) := by decide +kernel
set_option maxRecDepth 20000 in
theorem dX6_askLetter_5 : decode cX6_askLetter 5 = .ok (.ldc2_w 282, 3) := by decide +kernel
set_option maxRecDepth 20000 in
theorem dX6_askLetter_8 : decode cX6_askLetter 8 = .ok (.ladd, 1) := by decide +kernel
set_option maxRecDepth 20000 in
theorem dX6_askLetter_9 : decode cX6_askLetter 9 = .ok (.putfield 244, 3) := by decide +kernel
set_option maxRecDepth 20000 in
theorem dX6_askLetter_12 : decode cX6_askLetter 12 = .ok (.aload_n 0, 1) := by decide +kernel
set_option maxRecDepth 20000 in
theorem dX6_askLetter_13 : decode cX6_askLetter 13 = .ok (.iload_n 1, 1) := by decide +kernel
set_option maxRecDepth 20000 in
theorem dX6_askLetter_14 : decode cX6_askLetter 14 = .ok (.invokevirtual 213, 3) := by decide +kernel
set_option maxRecDepth 20000 in
theorem dX6_askLetter_17 : decode cX6_askLetter 17 = .ok (.aload_n 0, 1) := by decide +kernel
set_option maxRecDepth 20000 in
theorem dX6_askLetter_18 : decode cX6_askLetter 18 = .ok (.getfield 19, 3) := by decide +kernel
set_option maxRecDepth 20000 in
theorem dX6_askLetter_21 : decode cX6_askLetter 21 = .ok (.iload_n 1, 1) := by decide +kernel
set_option maxRecDepth 20000 in
theorem dX6_askLetter_22 : decode cX6_askLetter 22 = .ok (.invokevirtual 85, 3) := by decide +kernel
set_option maxRecDepth 20000 in
theorem dX6_askLetter_25 : decode cX6_askLetter 25 = .ok (.iadd, 1) := by decide +kernel
set_option maxRecDepth 20000 in
theorem dX6_askLetter_26 : decode cX6_askLetter 26 = .ok (.ireturn, 1) := by decide +kernel
set_option maxRecDepth 20000 in
theorem dX6_askBill_0 : decode cX6_askBill 0 = .ok (.aload_n 0, 1) := by decide +kernel
set_option maxRecDepth 20000 in
theorem dX6_askBill_1 : decode cX6_askBill 1 = .ok (.dup, 1) := by decide +kernel
set_option maxRecDepth 20000 in
theorem dX6_askBill_2 : decode cX6_askBill 2 = .ok (.getfield 244, 3) := by decide +kernel
set_option maxRecDepth 20000 in
theorem dX6_askBill_5 : decode cX6_askBill 5 = .ok (.ldc2_w 284, 3) := by decide +kernel
set_option maxRecDepth 20000 in
theorem dX6_askBill_8 : decode cX6_askBill 8 = .ok (.ladd, 1) := by decide +kernel
set_option maxRecDepth 20000 in
theorem dX6_askBill_9 : decode cX6_askBill 9 = .ok (.putfield 244, 3) := by decide +kernel
set_option maxRecDepth 20000 in
theorem dX6_askBill_12 : decode cX6_askBill 12 = .ok (.aload_n 0, 1) := by decide +kernel
set_option maxRecDepth 20000 in
theorem dX6_askBill_13 : decode cX6_askBill 13 = .ok (.iload_n 1, 1) := by decide +kernel
set_option maxRecDepth 20000 in
theorem dX6_askBill_14 : decode cX6_askBill 14 = .ok (.invokevirtual 213, 3) := by decide +kernel
set_option maxRecDepth 20000 in
theorem dX6_askBill_17 : decode cX6_askBill 17 = .ok (.aload_n 0, 1) := by decide +kernel
set_option maxRecDepth 20000 in
theorem dX6_askBill_18 : decode cX6_askBill 18 = .ok (.getfield 19, 3) := by decide +kernel
set_option maxRecDepth 20000 in
theorem dX6_askBill_21 : decode cX6_askBill 21 = .ok (.iload_n 1, 1) := by decide +kernel
set_option maxRecDepth 20000 in
theorem dX6_askBill_22 : decode cX6_askBill 22 = .ok (.invokevirtual 286, 3) := by decide +kernel
set_option maxRecDepth 20000 in
theorem dX6_askBill_25 : decode cX6_askBill 25 = .ok (.isub, 1) := by decide +kernel
set_option maxRecDepth 20000 in
theorem dX6_askBill_26 : decode cX6_askBill 26 = .ok (.ireturn, 1) := by decide +kernel
set_option maxRecDepth 20000 in
theorem dX6_askVow_0 : decode cX6_askVow 0 = .ok (.aload_n 0, 1) := by decide +kernel
set_option maxRecDepth 20000 in
theorem dX6_askVow_1 : decode cX6_askVow 1 = .ok (.dup, 1) := by decide +kernel
set_option maxRecDepth 20000 in
theorem dX6_askVow_2 : decode cX6_askVow 2 = .ok (.getfield 244, 3) := by decide +kernel
set_option maxRecDepth 20000 in
theorem dX6_askVow_5 : decode cX6_askVow 5 = .ok (.ldc2_w 289, 3) := by decide +kernel
set_option maxRecDepth 20000 in
theorem dX6_askVow_8 : decode cX6_askVow 8 = .ok (.ladd, 1) := by decide +kernel
set_option maxRecDepth 20000 in
theorem dX6_askVow_9 : decode cX6_askVow 9 = .ok (.putfield 244, 3) := by decide +kernel
set_option maxRecDepth 20000 in
theorem dX6_askVow_12 : decode cX6_askVow 12 = .ok (.iconst 2, 1) := by decide +kernel
set_option maxRecDepth 20000 in
theorem dX6_askVow_13 : decode cX6_askVow 13 = .ok (.aload_n 0, 1) := by decide +kernel
set_option maxRecDepth 20000 in
theorem dX6_askVow_14 : decode cX6_askVow 14 = .ok (.iload_n 1, 1) := by decide +kernel
set_option maxRecDepth 20000 in
theorem dX6_askVow_15 : decode cX6_askVow 15 = .ok (.invokevirtual 216, 3) := by decide +kernel
set_option maxRecDepth 20000 in
theorem dX6_askVow_18 : decode cX6_askVow 18 = .ok (.imul, 1) := by decide +kernel
set_option maxRecDepth 20000 in
theorem dX6_askVow_19 : decode cX6_askVow 19 = .ok (.ireturn, 1) := by decide +kernel
set_option maxRecDepth 20000 in
theorem dX6_askWrit_0 : decode cX6_askWrit 0 = .ok (.aload_n 0, 1) := by decide +kernel
set_option maxRecDepth 20000 in
theorem dX6_askWrit_1 : decode cX6_askWrit 1 = .ok (.dup, 1) := by decide +kernel
set_option maxRecDepth 20000 in
theorem dX6_askWrit_2 : decode cX6_askWrit 2 = .ok (.getfield 244, 3) := by decide +kernel
set_option maxRecDepth 20000 in
theorem dX6_askWrit_5 : decode cX6_askWrit 5 = .ok (.ldc2_w 291, 3) := by decide +kernel
set_option maxRecDepth 20000 in
theorem dX6_askWrit_8 : decode cX6_askWrit 8 = .ok (.ladd, 1) := by decide +kernel
set_option maxRecDepth 20000 in
theorem dX6_askWrit_9 : decode cX6_askWrit 9 = .ok (.putfield 244, 3) := by decide +kernel
set_option maxRecDepth 20000 in
theorem dX6_askWrit_12 : decode cX6_askWrit 12 = .ok (.aload_n 0, 1) := by decide +kernel
set_option maxRecDepth 20000 in
theorem dX6_askWrit_13 : decode cX6_askWrit 13 = .ok (.iload_n 1, 1) := by decide +kernel
set_option maxRecDepth 20000 in
theorem dX6_askWrit_14 : decode cX6_askWrit 14 = .ok (.invokevirtual 219, 3) := by decide +kernel
set_option maxRecDepth 20000 in
theorem dX6_askWrit_17 : decode cX6_askWrit 17 = .ok (.iload_n 1, 1) := by decide +kernel
set_option maxRecDepth 20000 in
theorem dX6_askWrit_18 : decode cX6_askWrit 18 = .ok (.iadd, 1) := by decide +kernel
set_option maxRecDepth 20000 in
theorem dX6_askWrit_19 : decode cX6_askWrit 19 = .ok (.ireturn, 1) := by decide +kernel
set_option maxRecDepth 20000 in
theorem dX6_askWill_0 : decode cX6_askWill 0 = .ok (.aload_n 0, 1) := by decide +kernel
set_option maxRecDepth 20000 in
theorem dX6_askWill_1 : decode cX6_askWill 1 = .ok (.dup, 1) := by decide +kernel
set_option maxRecDepth 20000 in
theorem dX6_askWill_2 : decode cX6_askWill 2 = .ok (.getfield 244, 3) := by decide +kernel
set_option maxRecDepth 20000 in
theorem dX6_askWill_5 : decode cX6_askWill 5 = .ok (.ldc2_w 293, 3) := by decide +kernel
set_option maxRecDepth 20000 in
theorem dX6_askWill_8 : decode cX6_askWill 8 = .ok (.ladd, 1) := by decide +kernel
set_option maxRecDepth 20000 in
theorem dX6_askWill_9 : decode cX6_askWill 9 = .ok (.putfield 244, 3) := by decide +kernel
set_option maxRecDepth 20000 in
theorem dX6_askWill_12 : decode cX6_askWill 12 = .ok (.aload_n 0, 1) := by decide +kernel
set_option maxRecDepth 20000 in
theorem dX6_askWill_13 : decode cX6_askWill 13 = .ok (.iload_n 1, 1) := by decide +kernel
set_option maxRecDepth 20000 in
theorem dX6_askWill_14 : decode cX6_askWill 14 = .ok (.invokevirtual 213, 3) := by decide +kernel
set_option maxRecDepth 20000 in
theorem dX6_askWill_17 : decode cX6_askWill 17 = .ok (.aload_n 0, 1) := by decide +kernel
set_option maxRecDepth 20000 in
theorem dX6_askWill_18 : decode cX6_askWill 18 = .ok (.getfield 26, 3) := by decide +kernel
set_option maxRecDepth 20000 in
theorem dX6_askWill_21 : decode cX6_askWill 21 = .ok (.getfield 163, 3) := by decide +kernel
set_option maxRecDepth 20000 in
theorem dX6_askWill_24 : decode cX6_askWill 24 = .ok (.iadd, 1) := by decide +kernel
set_option maxRecDepth 20000 in
theorem dX6_askWill_25 : decode cX6_askWill 25 = .ok (.ireturn, 1) := by decide +kernel
set_option maxRecDepth 20000 in
theorem dX6_isVowel_0 : decode cX6_isVowel 0 = .ok (.iload_n 0, 1) := by decide +kernel
set_option maxRecDepth 20000 in
theorem dX6_isVowel_1 : decode cX6_isVowel 1 = .ok (.ifCond .eq 8, 3) := by decide +kernel
set_option maxRecDepth 20000 in
theorem dX6_isVowel_4 : decode cX6_isVowel 4 = .ok (.iload_n 0, 1) := by decide +kernel
set_option maxRecDepth 20000 in
theorem dX6_isVowel_5 : decode cX6_isVowel 5 = .ok (.iconst 4, 1) := by decide +kernel
set_option maxRecDepth 20000 in
theorem dX6_isVowel_6 : decode cX6_isVowel 6 = .ok (.if_icmp .ne 7, 3) := by decide +kernel
set_option maxRecDepth 20000 in
theorem dX6_isVowel_9 : decode cX6_isVowel 9 = .ok (.iconst 1, 1) := by decide +kernel
set_option maxRecDepth 20000 in
theorem dX6_isVowel_10 : decode cX6_isVowel 10 = .ok (.goto 4, 3) := by decide +kernel
set_option maxRecDepth 20000 in
theorem dX6_isVowel_13 : decode cX6_isVowel 13 = .ok (.iconst 0, 1) := by decide +kernel
set_option maxRecDepth 20000 in
theorem dX6_isVowel_14 : decode cX6_isVowel 14 = .ok (.ireturn, 1) := by decide +kernel
