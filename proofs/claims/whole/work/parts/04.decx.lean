theorem dX0_init_0 : decode cX0_init 0 = .ok (.aload_n 0, 1) := by decide +kernel
theorem dX0_init_1 : decode cX0_init 1 = .ok (.invokespecial 3, 3) := by decide +kernel
theorem dX0_init_4 : decode cX0_init 4 = .ok (.aload_n 0, 1) := by decide +kernel
theorem dX0_init_5 : decode cX0_init 5 = .ok (.iconst 0, 1) := by decide +kernel
theorem dX0_init_6 : decode cX0_init 6 = .ok (.putfield 9, 3) := by decide +kernel
theorem dX0_init_9 : decode cX0_init 9 = .ok (.return_, 1) := by decide +kernel
theorem dX0_asksOf_0 : decode cX0_asksOf 0 = .ok (.iload_n 1, 1) := by decide +kernel
theorem dX0_asksOf_1 : decode cX0_asksOf 1 = .ok (.tableswitch 57 0 3 #[31, 38, 45, 51], 31) := by decide +kernel
theorem dX0_asksOf_32 : decode cX0_asksOf 32 = .ok (.aload_n 0, 1) := by decide +kernel
theorem dX0_asksOf_33 : decode cX0_asksOf 33 = .ok (.iload_n 2, 1) := by decide +kernel
theorem dX0_asksOf_34 : decode cX0_asksOf 34 = .ok (.iload_n 3, 1) := by decide +kernel
theorem dX0_asksOf_35 : decode cX0_asksOf 35 = .ok (.invokevirtual 15, 3) := by decide +kernel
theorem dX0_asksOf_38 : decode cX0_asksOf 38 = .ok (.ireturn, 1) := by decide +kernel
theorem dX0_asksOf_39 : decode cX0_asksOf 39 = .ok (.aload_n 0, 1) := by decide +kernel
theorem dX0_asksOf_40 : decode cX0_asksOf 40 = .ok (.iload_n 2, 1) := by decide +kernel
theorem dX0_asksOf_41 : decode cX0_asksOf 41 = .ok (.iload_n 3, 1) := by decide +kernel
theorem dX0_asksOf_42 : decode cX0_asksOf 42 = .ok (.invokevirtual 19, 3) := by decide +kernel
theorem dX0_asksOf_45 : decode cX0_asksOf 45 = .ok (.ireturn, 1) := by decide +kernel
theorem dX0_asksOf_46 : decode cX0_asksOf 46 = .ok (.aload_n 0, 1) := by decide +kernel
theorem dX0_asksOf_47 : decode cX0_asksOf 47 = .ok (.iload_n 2, 1) := by decide +kernel
theorem dX0_asksOf_48 : decode cX0_asksOf 48 = .ok (.invokevirtual 22, 3) := by decide +kernel
theorem dX0_asksOf_51 : decode cX0_asksOf 51 = .ok (.ireturn, 1) := by decide +kernel
theorem dX0_asksOf_52 : decode cX0_asksOf 52 = .ok (.aload_n 0, 1) := by decide +kernel
theorem dX0_asksOf_53 : decode cX0_asksOf 53 = .ok (.iload_n 2, 1) := by decide +kernel
theorem dX0_asksOf_54 : decode cX0_asksOf 54 = .ok (.invokevirtual 26, 3) := by decide +kernel
theorem dX0_asksOf_57 : decode cX0_asksOf 57 = .ok (.ireturn, 1) := by decide +kernel
theorem dX0_asksOf_58 : decode cX0_asksOf 58 = .ok (.iconst 0, 1) := by decide +kernel
theorem dX0_asksOf_59 : decode cX0_asksOf 59 = .ok (.ireturn, 1) := by decide +kernel
theorem dX0_holdsOf_0 : decode cX0_holdsOf 0 = .ok (.iload_n 1, 1) := by decide +kernel
theorem dX0_holdsOf_1 : decode cX0_holdsOf 1 = .ok (.tableswitch 48 0 3 #[31, 31, 37, 42], 31) := by decide +kernel
theorem dX0_holdsOf_32 : decode cX0_holdsOf 32 = .ok (.aload_n 0, 1) := by decide +kernel
theorem dX0_holdsOf_33 : decode cX0_holdsOf 33 = .ok (.iload_n 2, 1) := by decide +kernel
theorem dX0_holdsOf_34 : decode cX0_holdsOf 34 = .ok (.invokevirtual 29, 3) := by decide +kernel
theorem dX0_holdsOf_37 : decode cX0_holdsOf 37 = .ok (.ireturn, 1) := by decide +kernel
theorem dX0_holdsOf_38 : decode cX0_holdsOf 38 = .ok (.aload_n 0, 1) := by decide +kernel
theorem dX0_holdsOf_39 : decode cX0_holdsOf 39 = .ok (.invokevirtual 32, 3) := by decide +kernel
theorem dX0_holdsOf_42 : decode cX0_holdsOf 42 = .ok (.ireturn, 1) := by decide +kernel
theorem dX0_holdsOf_43 : decode cX0_holdsOf 43 = .ok (.aload_n 0, 1) := by decide +kernel
theorem dX0_holdsOf_44 : decode cX0_holdsOf 44 = .ok (.iload_n 2, 1) := by decide +kernel
theorem dX0_holdsOf_45 : decode cX0_holdsOf 45 = .ok (.invokevirtual 36, 3) := by decide +kernel
theorem dX0_holdsOf_48 : decode cX0_holdsOf 48 = .ok (.ireturn, 1) := by decide +kernel
theorem dX0_holdsOf_49 : decode cX0_holdsOf 49 = .ok (.aload_n 0, 1) := by decide +kernel
theorem dX0_holdsOf_50 : decode cX0_holdsOf 50 = .ok (.invokevirtual 39, 3) := by decide +kernel
theorem dX0_holdsOf_53 : decode cX0_holdsOf 53 = .ok (.ireturn, 1) := by decide +kernel
theorem dX0_asksAsCar_0 : decode cX0_asksAsCar 0 = .ok (.aload_n 0, 1) := by decide +kernel
theorem dX0_asksAsCar_1 : decode cX0_asksAsCar 1 = .ok (.dup, 1) := by decide +kernel
theorem dX0_asksAsCar_2 : decode cX0_asksAsCar 2 = .ok (.getfield 9, 3) := by decide +kernel
theorem dX0_asksAsCar_5 : decode cX0_asksAsCar 5 = .ok (.iconst 1, 1) := by decide +kernel
theorem dX0_asksAsCar_6 : decode cX0_asksAsCar 6 = .ok (.iadd, 1) := by decide +kernel
theorem dX0_asksAsCar_7 : decode cX0_asksAsCar 7 = .ok (.putfield 9, 3) := by decide +kernel
theorem dX0_asksAsCar_10 : decode cX0_asksAsCar 10 = .ok (.iload_n 1, 1) := by decide +kernel
theorem dX0_asksAsCar_11 : decode cX0_asksAsCar 11 = .ok (.ifCond .gt 10, 3) := by decide +kernel
theorem dX0_asksAsCar_14 : decode cX0_asksAsCar 14 = .ok (.iload_n 2, 1) := by decide +kernel
theorem dX0_asksAsCar_15 : decode cX0_asksAsCar 15 = .ok (.sipush 5000, 3) := by decide +kernel
theorem dX0_asksAsCar_18 : decode cX0_asksAsCar 18 = .ok (.if_icmp .lt 7, 3) := by decide +kernel
theorem dX0_asksAsCar_21 : decode cX0_asksAsCar 21 = .ok (.iconst 1, 1) := by decide +kernel
theorem dX0_asksAsCar_22 : decode cX0_asksAsCar 22 = .ok (.goto 4, 3) := by decide +kernel
theorem dX0_asksAsCar_25 : decode cX0_asksAsCar 25 = .ok (.iconst 0, 1) := by decide +kernel
theorem dX0_asksAsCar_26 : decode cX0_asksAsCar 26 = .ok (.ireturn, 1) := by decide +kernel
theorem dX0_asksAsTurn_0 : decode cX0_asksAsTurn 0 = .ok (.aload_n 0, 1) := by decide +kernel
theorem dX0_asksAsTurn_1 : decode cX0_asksAsTurn 1 = .ok (.dup, 1) := by decide +kernel
theorem dX0_asksAsTurn_2 : decode cX0_asksAsTurn 2 = .ok (.getfield 9, 3) := by decide +kernel
theorem dX0_asksAsTurn_5 : decode cX0_asksAsTurn 5 = .ok (.bipush 10, 2) := by decide +kernel
theorem dX0_asksAsTurn_7 : decode cX0_asksAsTurn 7 = .ok (.iadd, 1) := by decide +kernel
theorem dX0_asksAsTurn_8 : decode cX0_asksAsTurn 8 = .ok (.putfield 9, 3) := by decide +kernel
theorem dX0_asksAsTurn_11 : decode cX0_asksAsTurn 11 = .ok (.iload_n 2, 1) := by decide +kernel
theorem dX0_asksAsTurn_12 : decode cX0_asksAsTurn 12 = .ok (.sipush 2000, 3) := by decide +kernel
theorem dX0_asksAsTurn_15 : decode cX0_asksAsTurn 15 = .ok (.if_icmp .ge 12, 3) := by decide +kernel
theorem dX0_asksAsTurn_18 : decode cX0_asksAsTurn 18 = .ok (.aload_n 0, 1) := by decide +kernel
theorem dX0_asksAsTurn_19 : decode cX0_asksAsTurn 19 = .ok (.iload_n 1, 1) := by decide +kernel
theorem dX0_asksAsTurn_20 : decode cX0_asksAsTurn 20 = .ok (.iload_n 2, 1) := by decide +kernel
theorem dX0_asksAsTurn_21 : decode cX0_asksAsTurn 21 = .ok (.invokevirtual 15, 3) := by decide +kernel
theorem dX0_asksAsTurn_24 : decode cX0_asksAsTurn 24 = .ok (.ifCond .eq 7, 3) := by decide +kernel
theorem dX0_asksAsTurn_27 : decode cX0_asksAsTurn 27 = .ok (.iconst 1, 1) := by decide +kernel
theorem dX0_asksAsTurn_28 : decode cX0_asksAsTurn 28 = .ok (.goto 4, 3) := by decide +kernel
theorem dX0_asksAsTurn_31 : decode cX0_asksAsTurn 31 = .ok (.iconst 0, 1) := by decide +kernel
theorem dX0_asksAsTurn_32 : decode cX0_asksAsTurn 32 = .ok (.ireturn, 1) := by decide +kernel
theorem dX0_asksAsWalk_0 : decode cX0_asksAsWalk 0 = .ok (.aload_n 0, 1) := by decide +kernel
theorem dX0_asksAsWalk_1 : decode cX0_asksAsWalk 1 = .ok (.dup, 1) := by decide +kernel
theorem dX0_asksAsWalk_2 : decode cX0_asksAsWalk 2 = .ok (.getfield 9, 3) := by decide +kernel
theorem dX0_asksAsWalk_5 : decode cX0_asksAsWalk 5 = .ok (.bipush 100, 2) := by decide +kernel
theorem dX0_asksAsWalk_7 : decode cX0_asksAsWalk 7 = .ok (.iadd, 1) := by decide +kernel
theorem dX0_asksAsWalk_8 : decode cX0_asksAsWalk 8 = .ok (.putfield 9, 3) := by decide +kernel
theorem dX0_asksAsWalk_11 : decode cX0_asksAsWalk 11 = .ok (.iload_n 1, 1) := by decide +kernel
theorem dX0_asksAsWalk_12 : decode cX0_asksAsWalk 12 = .ok (.ifCond .le 7, 3) := by decide +kernel
theorem dX0_asksAsWalk_15 : decode cX0_asksAsWalk 15 = .ok (.iconst 1, 1) := by decide +kernel
theorem dX0_asksAsWalk_16 : decode cX0_asksAsWalk 16 = .ok (.goto 4, 3) := by decide +kernel
theorem dX0_asksAsWalk_19 : decode cX0_asksAsWalk 19 = .ok (.iconst 0, 1) := by decide +kernel
theorem dX0_asksAsWalk_20 : decode cX0_asksAsWalk 20 = .ok (.ireturn, 1) := by decide +kernel
theorem dX0_asksAsTram_0 : decode cX0_asksAsTram 0 = .ok (.aload_n 0, 1) := by decide +kernel
theorem dX0_asksAsTram_1 : decode cX0_asksAsTram 1 = .ok (.dup, 1) := by decide +kernel
theorem dX0_asksAsTram_2 : decode cX0_asksAsTram 2 = .ok (.getfield 9, 3) := by decide +kernel
theorem dX0_asksAsTram_5 : decode cX0_asksAsTram 5 = .ok (.sipush 1000, 3) := by decide +kernel
theorem dX0_asksAsTram_8 : decode cX0_asksAsTram 8 = .ok (.iadd, 1) := by decide +kernel
theorem dX0_asksAsTram_9 : decode cX0_asksAsTram 9 = .ok (.putfield 9, 3) := by decide +kernel
theorem dX0_asksAsTram_12 : decode cX0_asksAsTram 12 = .ok (.iload_n 1, 1) := by decide +kernel
theorem dX0_asksAsTram_13 : decode cX0_asksAsTram 13 = .ok (.ifCond .eq 7, 3) := by decide +kernel
theorem dX0_asksAsTram_16 : decode cX0_asksAsTram 16 = .ok (.iconst 1, 1) := by decide +kernel
theorem dX0_asksAsTram_17 : decode cX0_asksAsTram 17 = .ok (.goto 4, 3) := by decide +kernel
theorem dX0_asksAsTram_20 : decode cX0_asksAsTram 20 = .ok (.iconst 0, 1) := by decide +kernel
theorem dX0_asksAsTram_21 : decode cX0_asksAsTram 21 = .ok (.ireturn, 1) := by decide +kernel
theorem dX0_holdsAsCar_0 : decode cX0_holdsAsCar 0 = .ok (.aload_n 0, 1) := by decide +kernel
theorem dX0_holdsAsCar_1 : decode cX0_holdsAsCar 1 = .ok (.dup, 1) := by decide +kernel
theorem dX0_holdsAsCar_2 : decode cX0_holdsAsCar 2 = .ok (.getfield 9, 3) := by decide +kernel
theorem dX0_holdsAsCar_5 : decode cX0_holdsAsCar 5 = .ok (.iconst 5, 1) := by decide +kernel
theorem dX0_holdsAsCar_6 : decode cX0_holdsAsCar 6 = .ok (.iadd, 1) := by decide +kernel
theorem dX0_holdsAsCar_7 : decode cX0_holdsAsCar 7 = .ok (.putfield 9, 3) := by decide +kernel
theorem dX0_holdsAsCar_10 : decode cX0_holdsAsCar 10 = .ok (.iload_n 1, 1) := by decide +kernel
theorem dX0_holdsAsCar_11 : decode cX0_holdsAsCar 11 = .ok (.ifCond .le 7, 3) := by decide +kernel
theorem dX0_holdsAsCar_14 : decode cX0_holdsAsCar 14 = .ok (.iconst 1, 1) := by decide +kernel
theorem dX0_holdsAsCar_15 : decode cX0_holdsAsCar 15 = .ok (.goto 4, 3) := by decide +kernel
theorem dX0_holdsAsCar_18 : decode cX0_holdsAsCar 18 = .ok (.iconst 0, 1) := by decide +kernel
theorem dX0_holdsAsCar_19 : decode cX0_holdsAsCar 19 = .ok (.ireturn, 1) := by decide +kernel
theorem dX0_holdsAsWalk_0 : decode cX0_holdsAsWalk 0 = .ok (.aload_n 0, 1) := by decide +kernel
theorem dX0_holdsAsWalk_1 : decode cX0_holdsAsWalk 1 = .ok (.dup, 1) := by decide +kernel
theorem dX0_holdsAsWalk_2 : decode cX0_holdsAsWalk 2 = .ok (.getfield 9, 3) := by decide +kernel
theorem dX0_holdsAsWalk_5 : decode cX0_holdsAsWalk 5 = .ok (.bipush 50, 2) := by decide +kernel
theorem dX0_holdsAsWalk_7 : decode cX0_holdsAsWalk 7 = .ok (.iadd, 1) := by decide +kernel
theorem dX0_holdsAsWalk_8 : decode cX0_holdsAsWalk 8 = .ok (.putfield 9, 3) := by decide +kernel
theorem dX0_holdsAsWalk_11 : decode cX0_holdsAsWalk 11 = .ok (.iconst 0, 1) := by decide +kernel
theorem dX0_holdsAsWalk_12 : decode cX0_holdsAsWalk 12 = .ok (.ireturn, 1) := by decide +kernel
theorem dX0_holdsAsTram_0 : decode cX0_holdsAsTram 0 = .ok (.aload_n 0, 1) := by decide +kernel
theorem dX0_holdsAsTram_1 : decode cX0_holdsAsTram 1 = .ok (.dup, 1) := by decide +kernel
theorem dX0_holdsAsTram_2 : decode cX0_holdsAsTram 2 = .ok (.getfield 9, 3) := by decide +kernel
theorem dX0_holdsAsTram_5 : decode cX0_holdsAsTram 5 = .ok (.sipush 500, 3) := by decide +kernel
theorem dX0_holdsAsTram_8 : decode cX0_holdsAsTram 8 = .ok (.iadd, 1) := by decide +kernel
theorem dX0_holdsAsTram_9 : decode cX0_holdsAsTram 9 = .ok (.putfield 9, 3) := by decide +kernel
theorem dX0_holdsAsTram_12 : decode cX0_holdsAsTram 12 = .ok (.iload_n 1, 1) := by decide +kernel
theorem dX0_holdsAsTram_13 : decode cX0_holdsAsTram 13 = .ok (.ifCond .eq 7, 3) := by decide +kernel
theorem dX0_holdsAsTram_16 : decode cX0_holdsAsTram 16 = .ok (.iconst 1, 1) := by decide +kernel
theorem dX0_holdsAsTram_17 : decode cX0_holdsAsTram 17 = .ok (.goto 4, 3) := by decide +kernel
theorem dX0_holdsAsTram_20 : decode cX0_holdsAsTram 20 = .ok (.iconst 0, 1) := by decide +kernel
theorem dX0_holdsAsTram_21 : decode cX0_holdsAsTram 21 = .ok (.ireturn, 1) := by decide +kernel
theorem dX0_holdsAsRest_0 : decode cX0_holdsAsRest 0 = .ok (.aload_n 0, 1) := by decide +kernel
theorem dX0_holdsAsRest_1 : decode cX0_holdsAsRest 1 = .ok (.dup, 1) := by decide +kernel
theorem dX0_holdsAsRest_2 : decode cX0_holdsAsRest 2 = .ok (.getfield 9, 3) := by decide +kernel
theorem dX0_holdsAsRest_5 : decode cX0_holdsAsRest 5 = .ok (.sipush 5000, 3) := by decide +kernel
theorem dX0_holdsAsRest_8 : decode cX0_holdsAsRest 8 = .ok (.iadd, 1) := by decide +kernel
theorem dX0_holdsAsRest_9 : decode cX0_holdsAsRest 9 = .ok (.putfield 9, 3) := by decide +kernel
theorem dX0_holdsAsRest_12 : decode cX0_holdsAsRest 12 = .ok (.iconst 1, 1) := by decide +kernel
theorem dX0_holdsAsRest_13 : decode cX0_holdsAsRest 13 = .ok (.ireturn, 1) := by decide +kernel
theorem dX1_init_0 : decode cX1_init 0 = .ok (.aload_n 0, 1) := by decide +kernel
theorem dX1_init_1 : decode cX1_init 1 = .ok (.invokespecial 3, 3) := by decide +kernel
theorem dX1_init_4 : decode cX1_init 4 = .ok (.aload_n 0, 1) := by decide +kernel
theorem dX1_init_5 : decode cX1_init 5 = .ok (.sipush 200, 3) := by decide +kernel
theorem dX1_init_8 : decode cX1_init 8 = .ok (.newarray .byte, 2) := by decide +kernel
theorem dX1_init_10 : decode cX1_init 10 = .ok (.putfield 9, 3) := by decide +kernel
theorem dX1_init_13 : decode cX1_init 13 = .ok (.aload_n 0, 1) := by decide +kernel
theorem dX1_init_14 : decode cX1_init 14 = .ok (.sipush 200, 3) := by decide +kernel
theorem dX1_init_17 : decode cX1_init 17 = .ok (.newarray .short, 2) := by decide +kernel
theorem dX1_init_19 : decode cX1_init 19 = .ok (.putfield 15, 3) := by decide +kernel
theorem dX1_init_22 : decode cX1_init 22 = .ok (.aload_n 0, 1) := by decide +kernel
theorem dX1_init_23 : decode cX1_init 23 = .ok (.iconst 0, 1) := by decide +kernel
theorem dX1_init_24 : decode cX1_init 24 = .ok (.putfield 19, 3) := by decide +kernel
theorem dX1_init_27 : decode cX1_init 27 = .ok (.aload_n 0, 1) := by decide +kernel
theorem dX1_init_28 : decode cX1_init 28 = .ok (.iload_n 1, 1) := by decide +kernel
theorem dX1_init_29 : decode cX1_init 29 = .ok (.putfield 23, 3) := by decide +kernel
theorem dX1_init_32 : decode cX1_init 32 = .ok (.return_, 1) := by decide +kernel
theorem dX1_isCutOff_0 : decode cX1_isCutOff 0 = .ok (.aload_n 0, 1) := by decide +kernel
theorem dX1_isCutOff_1 : decode cX1_isCutOff 1 = .ok (.getfield 9, 3) := by decide +kernel
theorem dX1_isCutOff_4 : decode cX1_isCutOff 4 = .ok (.ifnull 10, 3) := by decide +kernel
theorem dX1_isCutOff_7 : decode cX1_isCutOff 7 = .ok (.aload_n 0, 1) := by decide +kernel
theorem dX1_isCutOff_8 : decode cX1_isCutOff 8 = .ok (.getfield 15, 3) := by decide +kernel
theorem dX1_isCutOff_11 : decode cX1_isCutOff 11 = .ok (.ifnonnull 7, 3) := by decide +kernel
theorem dX1_isCutOff_14 : decode cX1_isCutOff 14 = .ok (.iconst 1, 1) := by decide +kernel
theorem dX1_isCutOff_15 : decode cX1_isCutOff 15 = .ok (.goto 4, 3) := by decide +kernel
theorem dX1_isCutOff_18 : decode cX1_isCutOff 18 = .ok (.iconst 0, 1) := by decide +kernel
theorem dX1_isCutOff_19 : decode cX1_isCutOff 19 = .ok (.ireturn, 1) := by decide +kernel
theorem dX1_cutOff_0 : decode cX1_cutOff 0 = .ok (.aload_n 0, 1) := by decide +kernel
theorem dX1_cutOff_1 : decode cX1_cutOff 1 = .ok (.getfield 19, 3) := by decide +kernel
theorem dX1_cutOff_4 : decode cX1_cutOff 4 = .ok (.istore_n 1, 1) := by decide +kernel
theorem dX1_cutOff_5 : decode cX1_cutOff 5 = .ok (.aload_n 0, 1) := by decide +kernel
theorem dX1_cutOff_6 : decode cX1_cutOff 6 = .ok (.aconst_null, 1) := by decide +kernel
theorem dX1_cutOff_7 : decode cX1_cutOff 7 = .ok (.putfield 9, 3) := by decide +kernel
theorem dX1_cutOff_10 : decode cX1_cutOff 10 = .ok (.aload_n 0, 1) := by decide +kernel
theorem dX1_cutOff_11 : decode cX1_cutOff 11 = .ok (.aconst_null, 1) := by decide +kernel
theorem dX1_cutOff_12 : decode cX1_cutOff 12 = .ok (.putfield 15, 3) := by decide +kernel
theorem dX1_cutOff_15 : decode cX1_cutOff 15 = .ok (.aload_n 0, 1) := by decide +kernel
theorem dX1_cutOff_16 : decode cX1_cutOff 16 = .ok (.iconst 0, 1) := by decide +kernel
theorem dX1_cutOff_17 : decode cX1_cutOff 17 = .ok (.putfield 19, 3) := by decide +kernel
theorem dX1_cutOff_20 : decode cX1_cutOff 20 = .ok (.iload_n 1, 1) := by decide +kernel
theorem dX1_cutOff_21 : decode cX1_cutOff 21 = .ok (.ireturn, 1) := by decide +kernel
theorem dX1_addPlace_0 : decode cX1_addPlace 0 = .ok (.aload_n 0, 1) := by decide +kernel
theorem dX1_addPlace_1 : decode cX1_addPlace 1 = .ok (.invokevirtual 26, 3) := by decide +kernel
theorem dX1_addPlace_4 : decode cX1_addPlace 4 = .ok (.ifCond .ne 13, 3) := by decide +kernel
theorem dX1_addPlace_7 : decode cX1_addPlace 7 = .ok (.aload_n 0, 1) := by decide +kernel
theorem dX1_addPlace_8 : decode cX1_addPlace 8 = .ok (.getfield 19, 3) := by decide +kernel
theorem dX1_addPlace_11 : decode cX1_addPlace 11 = .ok (.sipush 200, 3) := by decide +kernel
theorem dX1_addPlace_14 : decode cX1_addPlace 14 = .ok (.if_icmp .lt 5, 3) := by decide +kernel
theorem dX1_addPlace_17 : decode cX1_addPlace 17 = .ok (.iconst 0, 1) := by decide +kernel
theorem dX1_addPlace_18 : decode cX1_addPlace 18 = .ok (.ireturn, 1) := by decide +kernel
theorem dX1_addPlace_19 : decode cX1_addPlace 19 = .ok (.aload_n 0, 1) := by decide +kernel
theorem dX1_addPlace_20 : decode cX1_addPlace 20 = .ok (.getfield 9, 3) := by decide +kernel
theorem dX1_addPlace_23 : decode cX1_addPlace 23 = .ok (.aload_n 0, 1) := by decide +kernel
theorem dX1_addPlace_24 : decode cX1_addPlace 24 = .ok (.getfield 19, 3) := by decide +kernel
theorem dX1_addPlace_27 : decode cX1_addPlace 27 = .ok (.iload_n 1, 1) := by decide +kernel
theorem dX1_addPlace_28 : decode cX1_addPlace 28 = .ok (.i2b, 1) := by decide +kernel
theorem dX1_addPlace_29 : decode cX1_addPlace 29 = .ok (.bastore, 1) := by decide +kernel
theorem dX1_addPlace_30 : decode cX1_addPlace 30 = .ok (.aload_n 0, 1) := by decide +kernel
theorem dX1_addPlace_31 : decode cX1_addPlace 31 = .ok (.getfield 15, 3) := by decide +kernel
theorem dX1_addPlace_34 : decode cX1_addPlace 34 = .ok (.aload_n 0, 1) := by decide +kernel
theorem dX1_addPlace_35 : decode cX1_addPlace 35 = .ok (.getfield 19, 3) := by decide +kernel
theorem dX1_addPlace_38 : decode cX1_addPlace 38 = .ok (.iload_n 2, 1) := by decide +kernel
theorem dX1_addPlace_39 : decode cX1_addPlace 39 = .ok (.i2s, 1) := by decide +kernel
theorem dX1_addPlace_40 : decode cX1_addPlace 40 = .ok (.sastore, 1) := by decide +kernel
theorem dX1_addPlace_41 : decode cX1_addPlace 41 = .ok (.aload_n 0, 1) := by decide +kernel
theorem dX1_addPlace_42 : decode cX1_addPlace 42 = .ok (.dup, 1) := by decide +kernel
theorem dX1_addPlace_43 : decode cX1_addPlace 43 = .ok (.getfield 19, 3) := by decide +kernel
theorem dX1_addPlace_46 : decode cX1_addPlace 46 = .ok (.iconst 1, 1) := by decide +kernel
theorem dX1_addPlace_47 : decode cX1_addPlace 47 = .ok (.iadd, 1) := by decide +kernel
theorem dX1_addPlace_48 : decode cX1_addPlace 48 = .ok (.putfield 19, 3) := by decide +kernel
theorem dX1_addPlace_51 : decode cX1_addPlace 51 = .ok (.iconst 1, 1) := by decide +kernel
theorem dX1_addPlace_52 : decode cX1_addPlace 52 = .ok (.ireturn, 1) := by decide +kernel
theorem dX1_reaches_0 : decode cX1_reaches 0 = .ok (.iload_n 1, 1) := by decide +kernel
theorem dX1_reaches_1 : decode cX1_reaches 1 = .ok (.ifCond .lt 15, 3) := by decide +kernel
theorem dX1_reaches_4 : decode cX1_reaches 4 = .ok (.iload_n 1, 1) := by decide +kernel
theorem dX1_reaches_5 : decode cX1_reaches 5 = .ok (.aload_n 0, 1) := by decide +kernel
theorem dX1_reaches_6 : decode cX1_reaches 6 = .ok (.getfield 19, 3) := by decide +kernel
theorem dX1_reaches_9 : decode cX1_reaches 9 = .ok (.if_icmp .ge 7, 3) := by decide +kernel
theorem dX1_reaches_12 : decode cX1_reaches 12 = .ok (.iconst 1, 1) := by decide +kernel
theorem dX1_reaches_13 : decode cX1_reaches 13 = .ok (.goto 4, 3) := by decide +kernel
theorem dX1_reaches_16 : decode cX1_reaches 16 = .ok (.iconst 0, 1) := by decide +kernel
theorem dX1_reaches_17 : decode cX1_reaches 17 = .ok (.ireturn, 1) := by decide +kernel
theorem dX1_passingsAt_0 : decode cX1_passingsAt 0 = .ok (.aload_n 0, 1) := by decide +kernel
theorem dX1_passingsAt_1 : decode cX1_passingsAt 1 = .ok (.getfield 9, 3) := by decide +kernel
theorem dX1_passingsAt_4 : decode cX1_passingsAt 4 = .ok (.ifnull 20, 3) := by decide +kernel
theorem dX1_passingsAt_7 : decode cX1_passingsAt 7 = .ok (.aload_n 0, 1) := by decide +kernel
theorem dX1_passingsAt_8 : decode cX1_passingsAt 8 = .ok (.iload_n 1, 1) := by decide +kernel
theorem dX1_passingsAt_9 : decode cX1_passingsAt 9 = .ok (.invokevirtual 30, 3) := by decide +kernel
theorem dX1_passingsAt_12 : decode cX1_passingsAt 12 = .ok (.ifCond .eq 12, 3) := by decide +kernel
theorem dX1_passingsAt_15 : decode cX1_passingsAt 15 = .ok (.aload_n 0, 1) := by decide +kernel
theorem dX1_passingsAt_16 : decode cX1_passingsAt 16 = .ok (.getfield 9, 3) := by decide +kernel
theorem dX1_passingsAt_19 : decode cX1_passingsAt 19 = .ok (.iload_n 1, 1) := by decide +kernel
theorem dX1_passingsAt_20 : decode cX1_passingsAt 20 = .ok (.baload, 1) := by decide +kernel
theorem dX1_passingsAt_21 : decode cX1_passingsAt 21 = .ok (.goto 4, 3) := by decide +kernel
theorem dX1_passingsAt_24 : decode cX1_passingsAt 24 = .ok (.iconst 0, 1) := by decide +kernel
theorem dX1_passingsAt_25 : decode cX1_passingsAt 25 = .ok (.ireturn, 1) := by decide +kernel
theorem dX1_occupiedAt_0 : decode cX1_occupiedAt 0 = .ok (.aload_n 0, 1) := by decide +kernel
theorem dX1_occupiedAt_1 : decode cX1_occupiedAt 1 = .ok (.getfield 15, 3) := by decide +kernel
theorem dX1_occupiedAt_4 : decode cX1_occupiedAt 4 = .ok (.ifnull 20, 3) := by decide +kernel
theorem dX1_occupiedAt_7 : decode cX1_occupiedAt 7 = .ok (.aload_n 0, 1) := by decide +kernel
theorem dX1_occupiedAt_8 : decode cX1_occupiedAt 8 = .ok (.iload_n 1, 1) := by decide +kernel
theorem dX1_occupiedAt_9 : decode cX1_occupiedAt 9 = .ok (.invokevirtual 30, 3) := by decide +kernel
theorem dX1_occupiedAt_12 : decode cX1_occupiedAt 12 = .ok (.ifCond .eq 12, 3) := by decide +kernel
theorem dX1_occupiedAt_15 : decode cX1_occupiedAt 15 = .ok (.aload_n 0, 1) := by decide +kernel
theorem dX1_occupiedAt_16 : decode cX1_occupiedAt 16 = .ok (.getfield 15, 3) := by decide +kernel
theorem dX1_occupiedAt_19 : decode cX1_occupiedAt 19 = .ok (.iload_n 1, 1) := by decide +kernel
theorem dX1_occupiedAt_20 : decode cX1_occupiedAt 20 = .ok (.saload, 1) := by decide +kernel
theorem dX1_occupiedAt_21 : decode cX1_occupiedAt 21 = .ok (.goto 4, 3) := by decide +kernel
theorem dX1_occupiedAt_24 : decode cX1_occupiedAt 24 = .ok (.iconst 0, 1) := by decide +kernel
theorem dX1_occupiedAt_25 : decode cX1_occupiedAt 25 = .ok (.ireturn, 1) := by decide +kernel
theorem dX2_init_0 : decode cX2_init 0 = .ok (.aload_n 0, 1) := by decide +kernel
theorem dX2_init_1 : decode cX2_init 1 = .ok (.invokespecial 3, 3) := by decide +kernel
theorem dX2_init_4 : decode cX2_init 4 = .ok (.aload_n 0, 1) := by decide +kernel
theorem dX2_init_5 : decode cX2_init 5 = .ok (.iconst 0, 1) := by decide +kernel
theorem dX2_init_6 : decode cX2_init 6 = .ok (.putfield 9, 3) := by decide +kernel
theorem dX2_init_9 : decode cX2_init 9 = .ok (.aload_n 0, 1) := by decide +kernel
theorem dX2_init_10 : decode cX2_init 10 = .ok (.iconst 0, 1) := by decide +kernel
theorem dX2_init_11 : decode cX2_init 11 = .ok (.putfield 15, 3) := by decide +kernel
theorem dX2_init_14 : decode cX2_init 14 = .ok (.aload_n 0, 1) := by decide +kernel
theorem dX2_init_15 : decode cX2_init 15 = .ok (.bipush (-5), 2) := by decide +kernel
theorem dX2_init_17 : decode cX2_init 17 = .ok (.putfield 18, 3) := by decide +kernel
theorem dX2_init_20 : decode cX2_init 20 = .ok (.aload_n 0, 1) := by decide +kernel
theorem dX2_init_21 : decode cX2_init 21 = .ok (.iconst 0, 1) := by decide +kernel
theorem dX2_init_22 : decode cX2_init 22 = .ok (.putfield 21, 3) := by decide +kernel
theorem dX2_init_25 : decode cX2_init 25 = .ok (.aload_n 0, 1) := by decide +kernel
theorem dX2_init_26 : decode cX2_init 26 = .ok (.iconst 0, 1) := by decide +kernel
theorem dX2_init_27 : decode cX2_init 27 = .ok (.putfield 24, 3) := by decide +kernel
theorem dX2_init_30 : decode cX2_init 30 = .ok (.return_, 1) := by decide +kernel
theorem dX2_meet_0 : decode cX2_meet 0 = .ok (.aload_n 0, 1) := by decide +kernel
theorem dX2_meet_1 : decode cX2_meet 1 = .ok (.dup, 1) := by decide +kernel
theorem dX2_meet_2 : decode cX2_meet 2 = .ok (.getfield 9, 3) := by decide +kernel
theorem dX2_meet_5 : decode cX2_meet 5 = .ok (.iconst 1, 1) := by decide +kernel
theorem dX2_meet_6 : decode cX2_meet 6 = .ok (.iadd, 1) := by decide +kernel
theorem dX2_meet_7 : decode cX2_meet 7 = .ok (.putfield 9, 3) := by decide +kernel
theorem dX2_meet_10 : decode cX2_meet 10 = .ok (.aload_n 0, 1) := by decide +kernel
theorem dX2_meet_11 : decode cX2_meet 11 = .ok (.iload_n 1, 1) := by decide +kernel
theorem dX2_meet_12 : decode cX2_meet 12 = .ok (.putfield 15, 3) := by decide +kernel
theorem dX2_meet_15 : decode cX2_meet 15 = .ok (.aload_n 0, 1) := by decide +kernel
theorem dX2_meet_16 : decode cX2_meet 16 = .ok (.iload_n 2, 1) := by decide +kernel
theorem dX2_meet_17 : decode cX2_meet 17 = .ok (.putfield 18, 3) := by decide +kernel
theorem dX2_meet_20 : decode cX2_meet 20 = .ok (.aload_n 0, 1) := by decide +kernel
theorem dX2_meet_21 : decode cX2_meet 21 = .ok (.iconst 1, 1) := by decide +kernel
theorem dX2_meet_22 : decode cX2_meet 22 = .ok (.putfield 21, 3) := by decide +kernel
theorem dX2_meet_25 : decode cX2_meet 25 = .ok (.aload_n 0, 1) := by decide +kernel
theorem dX2_meet_26 : decode cX2_meet 26 = .ok (.iconst 0, 1) := by decide +kernel
theorem dX2_meet_27 : decode cX2_meet 27 = .ok (.putfield 24, 3) := by decide +kernel
theorem dX2_meet_30 : decode cX2_meet 30 = .ok (.return_, 1) := by decide +kernel
theorem dX3_init_0 : decode cX3_init 0 = .ok (.aload_n 0, 1) := by decide +kernel
theorem dX3_init_1 : decode cX3_init 1 = .ok (.invokespecial 3, 3) := by decide +kernel
theorem dX3_init_4 : decode cX3_init 4 = .ok (.aload_n 0, 1) := by decide +kernel
theorem dX3_init_5 : decode cX3_init 5 = .ok (.iconst 5, 1) := by decide +kernel
theorem dX3_init_6 : decode cX3_init 6 = .ok (.newarray .int, 2) := by decide +kernel
theorem dX3_init_8 : decode cX3_init 8 = .ok (.putfield 9, 3) := by decide +kernel
theorem dX3_init_11 : decode cX3_init 11 = .ok (.aload_n 0, 1) := by decide +kernel
theorem dX3_init_12 : decode cX3_init 12 = .ok (.iconst 0, 1) := by decide +kernel
theorem dX3_init_13 : decode cX3_init 13 = .ok (.putfield 15, 3) := by decide +kernel
theorem dX3_init_16 : decode cX3_init 16 = .ok (.aload_n 0, 1) := by decide +kernel
theorem dX3_init_17 : decode cX3_init 17 = .ok (.bipush (-5), 2) := by decide +kernel
theorem dX3_init_19 : decode cX3_init 19 = .ok (.putfield 19, 3) := by decide +kernel
theorem dX3_init_22 : decode cX3_init 22 = .ok (.return_, 1) := by decide +kernel
theorem dX3_add_0 : decode cX3_add 0 = .ok (.iload_n 1, 1) := by decide +kernel
theorem dX3_add_1 : decode cX3_add 1 = .ok (.ifCond .lt 12, 3) := by decide +kernel
theorem dX3_add_4 : decode cX3_add 4 = .ok (.iload_n 1, 1) := by decide +kernel
theorem dX3_add_5 : decode cX3_add 5 = .ok (.aload_n 0, 1) := by decide +kernel
theorem dX3_add_6 : decode cX3_add 6 = .ok (.getfield 9, 3) := by decide +kernel
theorem dX3_add_9 : decode cX3_add 9 = .ok (.arraylength, 1) := by decide +kernel
theorem dX3_add_10 : decode cX3_add 10 = .ok (.if_icmp .lt 4, 3) := by decide +kernel
theorem dX3_add_13 : decode cX3_add 13 = .ok (.return_, 1) := by decide +kernel
theorem dX3_add_14 : decode cX3_add 14 = .ok (.aload_n 0, 1) := by decide +kernel
theorem dX3_add_15 : decode cX3_add 15 = .ok (.getfield 9, 3) := by decide +kernel
theorem dX3_add_18 : decode cX3_add 18 = .ok (.iload_n 1, 1) := by decide +kernel
theorem dX3_add_19 : decode cX3_add 19 = .ok (.dup2, 1) := by decide +kernel
theorem dX3_add_20 : decode cX3_add 20 = .ok (.iaload, 1) := by decide +kernel
theorem dX3_add_21 : decode cX3_add 21 = .ok (.iconst 1, 1) := by decide +kernel
theorem dX3_add_22 : decode cX3_add 22 = .ok (.iadd, 1) := by decide +kernel
theorem dX3_add_23 : decode cX3_add 23 = .ok (.iastore, 1) := by decide +kernel
theorem dX3_add_24 : decode cX3_add 24 = .ok (.aload_n 0, 1) := by decide +kernel
theorem dX3_add_25 : decode cX3_add 25 = .ok (.iload_n 1, 1) := by decide +kernel
theorem dX3_add_26 : decode cX3_add 26 = .ok (.putfield 15, 3) := by decide +kernel
theorem dX3_add_29 : decode cX3_add 29 = .ok (.aload_n 0, 1) := by decide +kernel
theorem dX3_add_30 : decode cX3_add 30 = .ok (.iload_n 2, 1) := by decide +kernel
theorem dX3_add_31 : decode cX3_add 31 = .ok (.putfield 19, 3) := by decide +kernel
theorem dX3_add_34 : decode cX3_add 34 = .ok (.return_, 1) := by decide +kernel
theorem dX3_howMany_0 : decode cX3_howMany 0 = .ok (.iload_n 1, 1) := by decide +kernel
theorem dX3_howMany_1 : decode cX3_howMany 1 = .ok (.ifCond .lt 21, 3) := by decide +kernel
theorem dX3_howMany_4 : decode cX3_howMany 4 = .ok (.iload_n 1, 1) := by decide +kernel
theorem dX3_howMany_5 : decode cX3_howMany 5 = .ok (.aload_n 0, 1) := by decide +kernel
theorem dX3_howMany_6 : decode cX3_howMany 6 = .ok (.getfield 9, 3) := by decide +kernel
theorem dX3_howMany_9 : decode cX3_howMany 9 = .ok (.arraylength, 1) := by decide +kernel
theorem dX3_howMany_10 : decode cX3_howMany 10 = .ok (.if_icmp .ge 12, 3) := by decide +kernel
theorem dX3_howMany_13 : decode cX3_howMany 13 = .ok (.aload_n 0, 1) := by decide +kernel
theorem dX3_howMany_14 : decode cX3_howMany 14 = .ok (.getfield 9, 3) := by decide +kernel
theorem dX3_howMany_17 : decode cX3_howMany 17 = .ok (.iload_n 1, 1) := by decide +kernel
theorem dX3_howMany_18 : decode cX3_howMany 18 = .ok (.iaload, 1) := by decide +kernel
theorem dX3_howMany_19 : decode cX3_howMany 19 = .ok (.goto 4, 3) := by decide +kernel
theorem dX3_howMany_22 : decode cX3_howMany 22 = .ok (.iconst 0, 1) := by decide +kernel
theorem dX3_howMany_23 : decode cX3_howMany 23 = .ok (.ireturn, 1) := by decide +kernel
theorem dX4_init_0 : decode cX4_init 0 = .ok (.aload_n 0, 1) := by decide +kernel
theorem dX4_init_1 : decode cX4_init 1 = .ok (.invokespecial 1, 3) := by decide +kernel
theorem dX4_init_4 : decode cX4_init 4 = .ok (.aload_n 0, 1) := by decide +kernel
theorem dX4_init_5 : decode cX4_init 5 = .ok (.aload_n 1, 1) := by decide +kernel
theorem dX4_init_6 : decode cX4_init 6 = .ok (.putfield 7, 3) := by decide +kernel
theorem dX4_init_9 : decode cX4_init 9 = .ok (.aload_n 0, 1) := by decide +kernel
theorem dX4_init_10 : decode cX4_init 10 = .ok (.iload_n 2, 1) := by decide +kernel
theorem dX4_init_11 : decode cX4_init 11 = .ok (.putfield 13, 3) := by decide +kernel
theorem dX4_init_14 : decode cX4_init 14 = .ok (.aload_n 0, 1) := by decide +kernel
theorem dX4_init_15 : decode cX4_init 15 = .ok (.iload_n 3, 1) := by decide +kernel
theorem dX4_init_16 : decode cX4_init 16 = .ok (.putfield 17, 3) := by decide +kernel
theorem dX4_init_19 : decode cX4_init 19 = .ok (.aload_n 0, 1) := by decide +kernel
theorem dX4_init_20 : decode cX4_init 20 = .ok (.iload 4, 2) := by decide +kernel
theorem dX4_init_22 : decode cX4_init 22 = .ok (.putfield 20, 3) := by decide +kernel
theorem dX4_init_25 : decode cX4_init 25 = .ok (.aload_n 0, 1) := by decide +kernel
theorem dX4_init_26 : decode cX4_init 26 = .ok (.iload 5, 2) := by decide +kernel
theorem dX4_init_28 : decode cX4_init 28 = .ok (.putfield 23, 3) := by decide +kernel
theorem dX4_init_31 : decode cX4_init 31 = .ok (.return_, 1) := by decide +kernel
theorem dX4_changeTable_0 : decode cX4_changeTable 0 = .ok (.aload_n 0, 1) := by decide +kernel
theorem dX4_changeTable_1 : decode cX4_changeTable 1 = .ok (.getfield 7, 3) := by decide +kernel
theorem dX4_changeTable_4 : decode cX4_changeTable 4 = .ok (.aload_n 0, 1) := by decide +kernel
theorem dX4_changeTable_5 : decode cX4_changeTable 5 = .ok (.getfield 13, 3) := by decide +kernel
theorem dX4_changeTable_8 : decode cX4_changeTable 8 = .ok (.putfield 26, 3) := by decide +kernel
theorem dX4_changeTable_11 : decode cX4_changeTable 11 = .ok (.aload_n 0, 1) := by decide +kernel
theorem dX4_changeTable_12 : decode cX4_changeTable 12 = .ok (.getfield 7, 3) := by decide +kernel
theorem dX4_changeTable_15 : decode cX4_changeTable 15 = .ok (.aload_n 0, 1) := by decide +kernel
theorem dX4_changeTable_16 : decode cX4_changeTable 16 = .ok (.getfield 17, 3) := by decide +kernel
theorem dX4_changeTable_19 : decode cX4_changeTable 19 = .ok (.putfield 29, 3) := by decide +kernel
theorem dX4_changeTable_22 : decode cX4_changeTable 22 = .ok (.aload_n 0, 1) := by decide +kernel
theorem dX4_changeTable_23 : decode cX4_changeTable 23 = .ok (.getfield 7, 3) := by decide +kernel
theorem dX4_changeTable_26 : decode cX4_changeTable 26 = .ok (.aload_n 0, 1) := by decide +kernel
theorem dX4_changeTable_27 : decode cX4_changeTable 27 = .ok (.getfield 20, 3) := by decide +kernel
theorem dX4_changeTable_30 : decode cX4_changeTable 30 = .ok (.putfield 30, 3) := by decide +kernel
theorem dX4_changeTable_33 : decode cX4_changeTable 33 = .ok (.return_, 1) := by decide +kernel
theorem dX5_init_0 : decode cX5_init 0 = .ok (.aload_n 0, 1) := by decide +kernel
theorem dX5_init_1 : decode cX5_init 1 = .ok (.invokespecial 1, 3) := by decide +kernel
theorem dX5_init_4 : decode cX5_init 4 = .ok (.aload_n 0, 1) := by decide +kernel
theorem dX5_init_5 : decode cX5_init 5 = .ok (.iconst 0, 1) := by decide +kernel
theorem dX5_init_6 : decode cX5_init 6 = .ok (.putfield 7, 3) := by decide +kernel
theorem dX5_init_9 : decode cX5_init 9 = .ok (.aload_n 0, 1) := by decide +kernel
theorem dX5_init_10 : decode cX5_init 10 = .ok (.aload_n 1, 1) := by decide +kernel
theorem dX5_init_11 : decode cX5_init 11 = .ok (.putfield 13, 3) := by decide +kernel
theorem dX5_init_14 : decode cX5_init 14 = .ok (.aload_n 0, 1) := by decide +kernel
theorem dX5_init_15 : decode cX5_init 15 = .ok (.aload_n 2, 1) := by decide +kernel
theorem dX5_init_16 : decode cX5_init 16 = .ok (.putfield 17, 3) := by decide +kernel
theorem dX5_init_19 : decode cX5_init 19 = .ok (.aload_n 0, 1) := by decide +kernel
theorem dX5_init_20 : decode cX5_init 20 = .ok (.iload_n 3, 1) := by decide +kernel
theorem dX5_init_21 : decode cX5_init 21 = .ok (.putfield 20, 3) := by decide +kernel
theorem dX5_init_24 : decode cX5_init 24 = .ok (.return_, 1) := by decide +kernel
theorem dX5_lookAt_0 : decode cX5_lookAt 0 = .ok (.aload_n 0, 1) := by decide +kernel
theorem dX5_lookAt_1 : decode cX5_lookAt 1 = .ok (.aload_n 0, 1) := by decide +kernel
theorem dX5_lookAt_2 : decode cX5_lookAt 2 = .ok (.iload_n 1, 1) := by decide +kernel
theorem dX5_lookAt_3 : decode cX5_lookAt 3 = .ok (.invokevirtual 23, 3) := by decide +kernel
theorem dX5_lookAt_6 : decode cX5_lookAt 6 = .ok (.ifCond .eq 12, 3) := by decide +kernel
theorem dX5_lookAt_9 : decode cX5_lookAt 9 = .ok (.aload_n 0, 1) := by decide +kernel
theorem dX5_lookAt_10 : decode cX5_lookAt 10 = .ok (.getfield 7, 3) := by decide +kernel
theorem dX5_lookAt_13 : decode cX5_lookAt 13 = .ok (.iconst 1, 1) := by decide +kernel
theorem dX5_lookAt_14 : decode cX5_lookAt 14 = .ok (.iadd, 1) := by decide +kernel
theorem dX5_lookAt_15 : decode cX5_lookAt 15 = .ok (.goto 4, 3) := by decide +kernel
theorem dX5_lookAt_18 : decode cX5_lookAt 18 = .ok (.iconst 0, 1) := by decide +kernel
theorem dX5_lookAt_19 : decode cX5_lookAt 19 = .ok (.putfield 7, 3) := by decide +kernel
theorem dX5_lookAt_22 : decode cX5_lookAt 22 = .ok (.return_, 1) := by decide +kernel
theorem dX5_differIn_0 : decode cX5_differIn 0 = .ok (.aload_n 0, 1) := by decide +kernel
theorem dX5_differIn_1 : decode cX5_differIn 1 = .ok (.getfield 13, 3) := by decide +kernel
theorem dX5_differIn_4 : decode cX5_differIn 4 = .ok (.iload_n 1, 1) := by decide +kernel
theorem dX5_differIn_5 : decode cX5_differIn 5 = .ok (.invokevirtual 27, 3) := by decide +kernel
theorem dX5_differIn_8 : decode cX5_differIn 8 = .ok (.ifCond .eq 14, 3) := by decide +kernel
theorem dX5_differIn_11 : decode cX5_differIn 11 = .ok (.aload_n 0, 1) := by decide +kernel
theorem dX5_differIn_12 : decode cX5_differIn 12 = .ok (.getfield 17, 3) := by decide +kernel
theorem dX5_differIn_15 : decode cX5_differIn 15 = .ok (.iload_n 1, 1) := by decide +kernel
theorem dX5_differIn_16 : decode cX5_differIn 16 = .ok (.invokevirtual 27, 3) := by decide +kernel
theorem dX5_differIn_19 : decode cX5_differIn 19 = .ok (.ifCond .ne 5, 3) := by decide +kernel
theorem dX5_differIn_22 : decode cX5_differIn 22 = .ok (.iconst 0, 1) := by decide +kernel
theorem dX5_differIn_23 : decode cX5_differIn 23 = .ok (.ireturn, 1) := by decide +kernel
theorem dX5_differIn_24 : decode cX5_differIn 24 = .ok (.aload_n 0, 1) := by decide +kernel
theorem dX5_differIn_25 : decode cX5_differIn 25 = .ok (.getfield 13, 3) := by decide +kernel
theorem dX5_differIn_28 : decode cX5_differIn 28 = .ok (.iload_n 1, 1) := by decide +kernel
theorem dX5_differIn_29 : decode cX5_differIn 29 = .ok (.invokevirtual 32, 3) := by decide +kernel
theorem dX5_differIn_32 : decode cX5_differIn 32 = .ok (.ifCond .le 7, 3) := by decide +kernel
theorem dX5_differIn_35 : decode cX5_differIn 35 = .ok (.iconst 1, 1) := by decide +kernel
theorem dX5_differIn_36 : decode cX5_differIn 36 = .ok (.goto 4, 3) := by decide +kernel
theorem dX5_differIn_39 : decode cX5_differIn 39 = .ok (.iconst 0, 1) := by decide +kernel
theorem dX5_differIn_40 : decode cX5_differIn 40 = .ok (.aload_n 0, 1) := by decide +kernel
theorem dX5_differIn_41 : decode cX5_differIn 41 = .ok (.getfield 17, 3) := by decide +kernel
theorem dX5_differIn_44 : decode cX5_differIn 44 = .ok (.iload_n 1, 1) := by decide +kernel
theorem dX5_differIn_45 : decode cX5_differIn 45 = .ok (.invokevirtual 32, 3) := by decide +kernel
theorem dX5_differIn_48 : decode cX5_differIn 48 = .ok (.ifCond .le 7, 3) := by decide +kernel
theorem dX5_differIn_51 : decode cX5_differIn 51 = .ok (.iconst 1, 1) := by decide +kernel
theorem dX5_differIn_52 : decode cX5_differIn 52 = .ok (.goto 4, 3) := by decide +kernel
theorem dX5_differIn_55 : decode cX5_differIn 55 = .ok (.iconst 0, 1) := by decide +kernel
theorem dX5_differIn_56 : decode cX5_differIn 56 = .ok (.if_icmp .eq 7, 3) := by decide +kernel
theorem dX5_differIn_59 : decode cX5_differIn 59 = .ok (.iconst 1, 1) := by decide +kernel
theorem dX5_differIn_60 : decode cX5_differIn 60 = .ok (.goto 4, 3) := by decide +kernel
theorem dX5_differIn_63 : decode cX5_differIn 63 = .ok (.iconst 0, 1) := by decide +kernel
theorem dX5_differIn_64 : decode cX5_differIn 64 = .ok (.ireturn, 1) := by decide +kernel
theorem dX5_isBroken_0 : decode cX5_isBroken 0 = .ok (.aload_n 0, 1) := by decide +kernel
theorem dX5_isBroken_1 : decode cX5_isBroken 1 = .ok (.getfield 7, 3) := by decide +kernel
theorem dX5_isBroken_4 : decode cX5_isBroken 4 = .ok (.aload_n 0, 1) := by decide +kernel
theorem dX5_isBroken_5 : decode cX5_isBroken 5 = .ok (.getfield 20, 3) := by decide +kernel
theorem dX5_isBroken_8 : decode cX5_isBroken 8 = .ok (.if_icmp .lt 7, 3) := by decide +kernel
theorem dX5_isBroken_11 : decode cX5_isBroken 11 = .ok (.iconst 1, 1) := by decide +kernel
theorem dX5_isBroken_12 : decode cX5_isBroken 12 = .ok (.goto 4, 3) := by decide +kernel
theorem dX5_isBroken_15 : decode cX5_isBroken 15 = .ok (.iconst 0, 1) := by decide +kernel
theorem dX5_isBroken_16 : decode cX5_isBroken 16 = .ok (.ireturn, 1) := by decide +kernel
theorem dX5_beginAnew_0 : decode cX5_beginAnew 0 = .ok (.aload_n 0, 1) := by decide +kernel
theorem dX5_beginAnew_1 : decode cX5_beginAnew 1 = .ok (.iconst 0, 1) := by decide +kernel
theorem dX5_beginAnew_2 : decode cX5_beginAnew 2 = .ok (.putfield 7, 3) := by decide +kernel
theorem dX5_beginAnew_5 : decode cX5_beginAnew 5 = .ok (.return_, 1) := by decide +kernel
theorem dX6_init_0 : decode cX6_init 0 = .ok (.aload_n 0, 1) := by decide +kernel
theorem dX6_init_1 : decode cX6_init 1 = .ok (.invokespecial 3, 3) := by decide +kernel
theorem dX6_init_4 : decode cX6_init 4 = .ok (.aload_n 0, 1) := by decide +kernel
theorem dX6_init_5 : decode cX6_init 5 = .ok (.bipush 8, 2) := by decide +kernel
theorem dX6_init_7 : decode cX6_init 7 = .ok (.newarray .int, 2) := by decide +kernel
theorem dX6_init_9 : decode cX6_init 9 = .ok (.putfield 9, 3) := by decide +kernel
theorem dX6_init_12 : decode cX6_init 12 = .ok (.aload_n 0, 1) := by decide +kernel
theorem dX6_init_13 : decode cX6_init 13 = .ok (.bipush 61, 2) := by decide +kernel
theorem dX6_init_15 : decode cX6_init 15 = .ok (.newarray .int, 2) := by decide +kernel
theorem dX6_init_17 : decode cX6_init 17 = .ok (.putfield 15, 3) := by decide +kernel
theorem dX6_init_20 : decode cX6_init 20 = .ok (.aload_n 0, 1) := by decide +kernel
theorem dX6_init_21 : decode cX6_init 21 = .ok (.aconst_null, 1) := by decide +kernel
theorem dX6_init_22 : decode cX6_init 22 = .ok (.putfield 18, 3) := by decide +kernel
theorem dX6_init_25 : decode cX6_init 25 = .ok (.aload_n 0, 1) := by decide +kernel
theorem dX6_init_26 : decode cX6_init 26 = .ok (.iconst 0, 1) := by decide +kernel
theorem dX6_init_27 : decode cX6_init 27 = .ok (.putfield 22, 3) := by decide +kernel
theorem dX6_init_30 : decode cX6_init 30 = .ok (.aload_n 0, 1) := by decide +kernel
theorem dX6_init_31 : decode cX6_init 31 = .ok (.iconst 0, 1) := by decide +kernel
theorem dX6_init_32 : decode cX6_init 32 = .ok (.putfield 26, 3) := by decide +kernel
theorem dX6_init_35 : decode cX6_init 35 = .ok (.aload_n 0, 1) := by decide +kernel
theorem dX6_init_36 : decode cX6_init 36 = .ok (.iconst 0, 1) := by decide +kernel
theorem dX6_init_37 : decode cX6_init 37 = .ok (.putfield 30, 3) := by decide +kernel
theorem dX6_init_40 : decode cX6_init 40 = .ok (.aload_n 0, 1) := by decide +kernel
theorem dX6_init_41 : decode cX6_init 41 = .ok (.bipush (-5), 2) := by decide +kernel
theorem dX6_init_43 : decode cX6_init 43 = .ok (.putfield 33, 3) := by decide +kernel
theorem dX6_init_46 : decode cX6_init 46 = .ok (.aload_n 0, 1) := by decide +kernel
theorem dX6_init_47 : decode cX6_init 47 = .ok (.bipush (-5), 2) := by decide +kernel
theorem dX6_init_49 : decode cX6_init 49 = .ok (.putfield 36, 3) := by decide +kernel
theorem dX6_init_52 : decode cX6_init 52 = .ok (.aload_n 0, 1) := by decide +kernel
theorem dX6_init_53 : decode cX6_init 53 = .ok (.iconst 0, 1) := by decide +kernel
theorem dX6_init_54 : decode cX6_init 54 = .ok (.putfield 39, 3) := by decide +kernel
theorem dX6_init_57 : decode cX6_init 57 = .ok (.aload_n 0, 1) := by decide +kernel
theorem dX6_init_58 : decode cX6_init 58 = .ok (.iconst 5, 1) := by decide +kernel
theorem dX6_init_59 : decode cX6_init 59 = .ok (.putfield 42, 3) := by decide +kernel
theorem dX6_init_62 : decode cX6_init 62 = .ok (.aload_n 0, 1) := by decide +kernel
theorem dX6_init_63 : decode cX6_init 63 = .ok (.bipush 20, 2) := by decide +kernel
theorem dX6_init_65 : decode cX6_init 65 = .ok (.putfield 45, 3) := by decide +kernel
theorem dX6_init_68 : decode cX6_init 68 = .ok (.aload_n 0, 1) := by decide +kernel
theorem dX6_init_69 : decode cX6_init 69 = .ok (.iconst 3, 1) := by decide +kernel
theorem dX6_init_70 : decode cX6_init 70 = .ok (.putfield 48, 3) := by decide +kernel
theorem dX6_init_73 : decode cX6_init 73 = .ok (.aload_n 0, 1) := by decide +kernel
theorem dX6_init_74 : decode cX6_init 74 = .ok (.iconst 0, 1) := by decide +kernel
theorem dX6_init_75 : decode cX6_init 75 = .ok (.putfield 51, 3) := by decide +kernel
theorem dX6_init_78 : decode cX6_init 78 = .ok (.aload_n 0, 1) := by decide +kernel
theorem dX6_init_79 : decode cX6_init 79 = .ok (.iconst 0, 1) := by decide +kernel
theorem dX6_init_80 : decode cX6_init 80 = .ok (.putfield 54, 3) := by decide +kernel
theorem dX6_init_83 : decode cX6_init 83 = .ok (.aload_n 0, 1) := by decide +kernel
theorem dX6_init_84 : decode cX6_init 84 = .ok (.iconst 0, 1) := by decide +kernel
theorem dX6_init_85 : decode cX6_init 85 = .ok (.putfield 57, 3) := by decide +kernel
theorem dX6_init_88 : decode cX6_init 88 = .ok (.aload_n 0, 1) := by decide +kernel
theorem dX6_init_89 : decode cX6_init 89 = .ok (.iconst 0, 1) := by decide +kernel
theorem dX6_init_90 : decode cX6_init 90 = .ok (.putfield 60, 3) := by decide +kernel
theorem dX6_init_93 : decode cX6_init 93 = .ok (.aload_n 0, 1) := by decide +kernel
theorem dX6_init_94 : decode cX6_init 94 = .ok (.iload_n 1, 1) := by decide +kernel
theorem dX6_init_95 : decode cX6_init 95 = .ok (.putfield 63, 3) := by decide +kernel
theorem dX6_init_98 : decode cX6_init 98 = .ok (.aload_n 0, 1) := by decide +kernel
theorem dX6_init_99 : decode cX6_init 99 = .ok (.iload_n 2, 1) := by decide +kernel
theorem dX6_init_100 : decode cX6_init 100 = .ok (.putfield 66, 3) := by decide +kernel
theorem dX6_init_103 : decode cX6_init 103 = .ok (.iconst 0, 1) := by decide +kernel
theorem dX6_init_104 : decode cX6_init 104 = .ok (.istore_n 3, 1) := by decide +kernel
theorem dX6_init_105 : decode cX6_init 105 = .ok (.iload_n 3, 1) := by decide +kernel
theorem dX6_init_106 : decode cX6_init 106 = .ok (.aload_n 0, 1) := by decide +kernel
theorem dX6_init_107 : decode cX6_init 107 = .ok (.getfield 9, 3) := by decide +kernel
theorem dX6_init_110 : decode cX6_init 110 = .ok (.arraylength, 1) := by decide +kernel
theorem dX6_init_111 : decode cX6_init 111 = .ok (.if_icmp .ge 17, 3) := by decide +kernel
theorem dX6_init_114 : decode cX6_init 114 = .ok (.aload_n 0, 1) := by decide +kernel
theorem dX6_init_115 : decode cX6_init 115 = .ok (.getfield 9, 3) := by decide +kernel
theorem dX6_init_118 : decode cX6_init 118 = .ok (.iload_n 3, 1) := by decide +kernel
theorem dX6_init_119 : decode cX6_init 119 = .ok (.bipush (-5), 2) := by decide +kernel
theorem dX6_init_121 : decode cX6_init 121 = .ok (.iastore, 1) := by decide +kernel
theorem dX6_init_122 : decode cX6_init 122 = .ok (.iinc 3 1, 3) := by decide +kernel
theorem dX6_init_125 : decode cX6_init 125 = .ok (.goto (-20), 3) := by decide +kernel
theorem dX6_init_128 : decode cX6_init 128 = .ok (.return_, 1) := by decide +kernel
theorem dX6_isAsked_0 : decode cX6_isAsked 0 = .ok (.aload_n 0, 1) := by decide +kernel
theorem dX6_isAsked_1 : decode cX6_isAsked 1 = .ok (.getfield 33, 3) := by decide +kernel
theorem dX6_isAsked_4 : decode cX6_isAsked 4 = .ok (.bipush (-5), 2) := by decide +kernel
theorem dX6_isAsked_6 : decode cX6_isAsked 6 = .ok (.if_icmp .eq 7, 3) := by decide +kernel
theorem dX6_isAsked_9 : decode cX6_isAsked 9 = .ok (.iconst 1, 1) := by decide +kernel
theorem dX6_isAsked_10 : decode cX6_isAsked 10 = .ok (.goto 4, 3) := by decide +kernel
theorem dX6_isAsked_13 : decode cX6_isAsked 13 = .ok (.iconst 0, 1) := by decide +kernel
theorem dX6_isAsked_14 : decode cX6_isAsked 14 = .ok (.ireturn, 1) := by decide +kernel
theorem dX6_isLit_0 : decode cX6_isLit 0 = .ok (.aload_n 0, 1) := by decide +kernel
theorem dX6_isLit_1 : decode cX6_isLit 1 = .ok (.getfield 26, 3) := by decide +kernel
theorem dX6_isLit_4 : decode cX6_isLit 4 = .ok (.iconst 1, 1) := by decide +kernel
theorem dX6_isLit_5 : decode cX6_isLit 5 = .ok (.if_icmp .eq 11, 3) := by decide +kernel
theorem dX6_isLit_8 : decode cX6_isLit 8 = .ok (.aload_n 0, 1) := by decide +kernel
theorem dX6_isLit_9 : decode cX6_isLit 9 = .ok (.getfield 26, 3) := by decide +kernel
theorem dX6_isLit_12 : decode cX6_isLit 12 = .ok (.iconst 2, 1) := by decide +kernel
theorem dX6_isLit_13 : decode cX6_isLit 13 = .ok (.if_icmp .ne 7, 3) := by decide +kernel
theorem dX6_isLit_16 : decode cX6_isLit 16 = .ok (.iconst 1, 1) := by decide +kernel
theorem dX6_isLit_17 : decode cX6_isLit 17 = .ok (.goto 4, 3) := by decide +kernel
theorem dX6_isLit_20 : decode cX6_isLit 20 = .ok (.iconst 0, 1) := by decide +kernel
theorem dX6_isLit_21 : decode cX6_isLit 21 = .ok (.ireturn, 1) := by decide +kernel
theorem dX6_setClearing_0 : decode cX6_setClearing 0 = .ok (.aload_n 1, 1) := by decide +kernel
theorem dX6_setClearing_1 : decode cX6_setClearing 1 = .ok (.getfield 63, 3) := by decide +kernel
theorem dX6_setClearing_4 : decode cX6_setClearing 4 = .ok (.istore_n 3, 1) := by decide +kernel
theorem dX6_setClearing_5 : decode cX6_setClearing 5 = .ok (.iload_n 3, 1) := by decide +kernel
theorem dX6_setClearing_6 : decode cX6_setClearing 6 = .ok (.ifCond .lt 19, 3) := by decide +kernel
theorem dX6_setClearing_9 : decode cX6_setClearing 9 = .ok (.iload_n 3, 1) := by decide +kernel
theorem dX6_setClearing_10 : decode cX6_setClearing 10 = .ok (.aload_n 0, 1) := by decide +kernel
theorem dX6_setClearing_11 : decode cX6_setClearing 11 = .ok (.getfield 9, 3) := by decide +kernel
theorem dX6_setClearing_14 : decode cX6_setClearing 14 = .ok (.arraylength, 1) := by decide +kernel
theorem dX6_setClearing_15 : decode cX6_setClearing 15 = .ok (.if_icmp .ge 10, 3) := by decide +kernel
theorem dX6_setClearing_18 : decode cX6_setClearing 18 = .ok (.aload_n 0, 1) := by decide +kernel
theorem dX6_setClearing_19 : decode cX6_setClearing 19 = .ok (.getfield 9, 3) := by decide +kernel
theorem dX6_setClearing_22 : decode cX6_setClearing 22 = .ok (.iload_n 3, 1) := by decide +kernel
theorem dX6_setClearing_23 : decode cX6_setClearing 23 = .ok (.iload_n 2, 1) := by decide +kernel
theorem dX6_setClearing_24 : decode cX6_setClearing 24 = .ok (.iastore, 1) := by decide +kernel
theorem dX6_setClearing_25 : decode cX6_setClearing 25 = .ok (.return_, 1) := by decide +kernel
theorem dX6_clearingTo_0 : decode cX6_clearingTo 0 = .ok (.aload_n 1, 1) := by decide +kernel
theorem dX6_clearingTo_1 : decode cX6_clearingTo 1 = .ok (.getfield 63, 3) := by decide +kernel
theorem dX6_clearingTo_4 : decode cX6_clearingTo 4 = .ok (.istore_n 2, 1) := by decide +kernel
theorem dX6_clearingTo_5 : decode cX6_clearingTo 5 = .ok (.iload_n 2, 1) := by decide +kernel
theorem dX6_clearingTo_6 : decode cX6_clearingTo 6 = .ok (.ifCond .lt 21, 3) := by decide +kernel
theorem dX6_clearingTo_9 : decode cX6_clearingTo 9 = .ok (.iload_n 2, 1) := by decide +kernel
theorem dX6_clearingTo_10 : decode cX6_clearingTo 10 = .ok (.aload_n 0, 1) := by decide +kernel
theorem dX6_clearingTo_11 : decode cX6_clearingTo 11 = .ok (.getfield 9, 3) := by decide +kernel
theorem dX6_clearingTo_14 : decode cX6_clearingTo 14 = .ok (.arraylength, 1) := by decide +kernel
theorem dX6_clearingTo_15 : decode cX6_clearingTo 15 = .ok (.if_icmp .ge 12, 3) := by decide +kernel
theorem dX6_clearingTo_18 : decode cX6_clearingTo 18 = .ok (.aload_n 0, 1) := by decide +kernel
theorem dX6_clearingTo_19 : decode cX6_clearingTo 19 = .ok (.getfield 9, 3) := by decide +kernel
theorem dX6_clearingTo_22 : decode cX6_clearingTo 22 = .ok (.iload_n 2, 1) := by decide +kernel
theorem dX6_clearingTo_23 : decode cX6_clearingTo 23 = .ok (.iaload, 1) := by decide +kernel
theorem dX6_clearingTo_24 : decode cX6_clearingTo 24 = .ok (.goto 5, 3) := by decide +kernel
theorem dX6_clearingTo_27 : decode cX6_clearingTo 27 = .ok (.bipush (-5), 2) := by decide +kernel
theorem dX6_clearingTo_29 : decode cX6_clearingTo 29 = .ok (.ireturn, 1) := by decide +kernel
theorem dX6_greatestClearing_0 : decode cX6_greatestClearing 0 = .ok (.iconst 0, 1) := by decide +kernel
theorem dX6_greatestClearing_1 : decode cX6_greatestClearing 1 = .ok (.istore_n 1, 1) := by decide +kernel
theorem dX6_greatestClearing_2 : decode cX6_greatestClearing 2 = .ok (.aload_n 0, 1) := by decide +kernel
theorem dX6_greatestClearing_3 : decode cX6_greatestClearing 3 = .ok (.getfield 9, 3) := by decide +kernel
theorem dX6_greatestClearing_6 : decode cX6_greatestClearing 6 = .ok (.astore_n 2, 1) := by decide +kernel
theorem dX6_greatestClearing_7 : decode cX6_greatestClearing 7 = .ok (.aload_n 2, 1) := by decide +kernel
theorem dX6_greatestClearing_8 : decode cX6_greatestClearing 8 = .ok (.arraylength, 1) := by decide +kernel
theorem dX6_greatestClearing_9 : decode cX6_greatestClearing 9 = .ok (.istore_n 3, 1) := by decide +kernel
theorem dX6_greatestClearing_10 : decode cX6_greatestClearing 10 = .ok (.iconst 0, 1) := by decide +kernel
theorem dX6_greatestClearing_11 : decode cX6_greatestClearing 11 = .ok (.istore 4, 2) := by decide +kernel
theorem dX6_greatestClearing_13 : decode cX6_greatestClearing 13 = .ok (.iload 4, 2) := by decide +kernel
theorem dX6_greatestClearing_15 : decode cX6_greatestClearing 15 = .ok (.iload_n 3, 1) := by decide +kernel
theorem dX6_greatestClearing_16 : decode cX6_greatestClearing 16 = .ok (.if_icmp .ge 22, 3) := by decide +kernel
theorem dX6_greatestClearing_19 : decode cX6_greatestClearing 19 = .ok (.aload_n 2, 1) := by decide +kernel
theorem dX6_greatestClearing_20 : decode cX6_greatestClearing 20 = .ok (.iload 4, 2) := by decide +kernel
theorem dX6_greatestClearing_22 : decode cX6_greatestClearing 22 = .ok (.iaload, 1) := by decide +kernel
theorem dX6_greatestClearing_23 : decode cX6_greatestClearing 23 = .ok (.istore 5, 2) := by decide +kernel
theorem dX6_greatestClearing_25 : decode cX6_greatestClearing 25 = .ok (.iload_n 1, 1) := by decide +kernel
theorem dX6_greatestClearing_26 : decode cX6_greatestClearing 26 = .ok (.iload 5, 2) := by decide +kernel
theorem dX6_greatestClearing_28 : decode cX6_greatestClearing 28 = .ok (.invokestatic 69, 3) := by decide +kernel
theorem dX6_greatestClearing_31 : decode cX6_greatestClearing 31 = .ok (.istore_n 1, 1) := by decide +kernel
theorem dX6_greatestClearing_32 : decode cX6_greatestClearing 32 = .ok (.iinc 4 1, 3) := by decide +kernel
theorem dX6_greatestClearing_35 : decode cX6_greatestClearing 35 = .ok (.goto (-22), 3) := by decide +kernel
theorem dX6_greatestClearing_38 : decode cX6_greatestClearing 38 = .ok (.iload_n 1, 1) := by decide +kernel
theorem dX6_greatestClearing_39 : decode cX6_greatestClearing 39 = .ok (.ireturn, 1) := by decide +kernel
theorem dX6_keepLight_0 : decode cX6_keepLight 0 = .ok (.aload_n 0, 1) := by decide +kernel
theorem dX6_keepLight_1 : decode cX6_keepLight 1 = .ok (.getfield 15, 3) := by decide +kernel
theorem dX6_keepLight_4 : decode cX6_keepLight 4 = .ok (.iload_n 1, 1) := by decide +kernel
theorem dX6_keepLight_5 : decode cX6_keepLight 5 = .ok (.bipush 61, 2) := by decide +kernel
theorem dX6_keepLight_7 : decode cX6_keepLight 7 = .ok (.invokestatic 75, 3) := by decide +kernel
theorem dX6_keepLight_10 : decode cX6_keepLight 10 = .ok (.aload_n 0, 1) := by decide +kernel
theorem dX6_keepLight_11 : decode cX6_keepLight 11 = .ok (.getfield 26, 3) := by decide +kernel
theorem dX6_keepLight_14 : decode cX6_keepLight 14 = .ok (.iastore, 1) := by decide +kernel
theorem dX6_keepLight_15 : decode cX6_keepLight 15 = .ok (.return_, 1) := by decide +kernel
theorem dX6_lightBehind_0 : decode cX6_lightBehind 0 = .ok (.aload_n 0, 1) := by decide +kernel
theorem dX6_lightBehind_1 : decode cX6_lightBehind 1 = .ok (.getfield 15, 3) := by decide +kernel
theorem dX6_lightBehind_4 : decode cX6_lightBehind 4 = .ok (.iload_n 1, 1) := by decide +kernel
theorem dX6_lightBehind_5 : decode cX6_lightBehind 5 = .ok (.bipush 61, 2) := by decide +kernel
theorem dX6_lightBehind_7 : decode cX6_lightBehind 7 = .ok (.invokestatic 75, 3) := by decide +kernel
theorem dX6_lightBehind_10 : decode cX6_lightBehind 10 = .ok (.iaload, 1) := by decide +kernel
theorem dX6_lightBehind_11 : decode cX6_lightBehind 11 = .ok (.ireturn, 1) := by decide +kernel
theorem dX7_init_0 : decode cX7_init 0 = .ok (.aload_n 0, 1) := by decide +kernel
theorem dX7_init_1 : decode cX7_init 1 = .ok (.invokespecial 3, 3) := by decide +kernel
theorem dX7_init_4 : decode cX7_init 4 = .ok (.aload_n 0, 1) := by decide +kernel
theorem dX7_init_5 : decode cX7_init 5 = .ok (.iconst 4, 1) := by decide +kernel
theorem dX7_init_6 : decode cX7_init 6 = .ok (.anewarray 9, 3) := by decide +kernel
theorem dX7_init_9 : decode cX7_init 9 = .ok (.putfield 11, 3) := by decide +kernel
theorem dX7_init_12 : decode cX7_init 12 = .ok (.aload_n 0, 1) := by decide +kernel
theorem dX7_init_13 : decode cX7_init 13 = .ok (.iload_n 1, 1) := by decide +kernel
theorem dX7_init_14 : decode cX7_init 14 = .ok (.putfield 17, 3) := by decide +kernel
theorem dX7_init_17 : decode cX7_init 17 = .ok (.return_, 1) := by decide +kernel
theorem dX7_putPhase_0 : decode cX7_putPhase 0 = .ok (.iload_n 1, 1) := by decide +kernel
theorem dX7_putPhase_1 : decode cX7_putPhase 1 = .ok (.ifCond .lt 19, 3) := by decide +kernel
theorem dX7_putPhase_4 : decode cX7_putPhase 4 = .ok (.iload_n 1, 1) := by decide +kernel
theorem dX7_putPhase_5 : decode cX7_putPhase 5 = .ok (.aload_n 0, 1) := by decide +kernel
theorem dX7_putPhase_6 : decode cX7_putPhase 6 = .ok (.getfield 11, 3) := by decide +kernel
theorem dX7_putPhase_9 : decode cX7_putPhase 9 = .ok (.arraylength, 1) := by decide +kernel
theorem dX7_putPhase_10 : decode cX7_putPhase 10 = .ok (.if_icmp .ge 10, 3) := by decide +kernel
theorem dX7_putPhase_13 : decode cX7_putPhase 13 = .ok (.aload_n 0, 1) := by decide +kernel
theorem dX7_putPhase_14 : decode cX7_putPhase 14 = .ok (.getfield 11, 3) := by decide +kernel
theorem dX7_putPhase_17 : decode cX7_putPhase 17 = .ok (.iload_n 1, 1) := by decide +kernel
theorem dX7_putPhase_18 : decode cX7_putPhase 18 = .ok (.aload_n 2, 1) := by decide +kernel
theorem dX7_putPhase_19 : decode cX7_putPhase 19 = .ok (.aastore, 1) := by decide +kernel
theorem dX7_putPhase_20 : decode cX7_putPhase 20 = .ok (.return_, 1) := by decide +kernel
theorem dX7_phaseIn_0 : decode cX7_phaseIn 0 = .ok (.iload_n 1, 1) := by decide +kernel
theorem dX7_phaseIn_1 : decode cX7_phaseIn 1 = .ok (.ifCond .lt 21, 3) := by decide +kernel
theorem dX7_phaseIn_4 : decode cX7_phaseIn 4 = .ok (.iload_n 1, 1) := by decide +kernel
theorem dX7_phaseIn_5 : decode cX7_phaseIn 5 = .ok (.aload_n 0, 1) := by decide +kernel
theorem dX7_phaseIn_6 : decode cX7_phaseIn 6 = .ok (.getfield 11, 3) := by decide +kernel
theorem dX7_phaseIn_9 : decode cX7_phaseIn 9 = .ok (.arraylength, 1) := by decide +kernel
theorem dX7_phaseIn_10 : decode cX7_phaseIn 10 = .ok (.if_icmp .ge 12, 3) := by decide +kernel
theorem dX7_phaseIn_13 : decode cX7_phaseIn 13 = .ok (.aload_n 0, 1) := by decide +kernel
theorem dX7_phaseIn_14 : decode cX7_phaseIn 14 = .ok (.getfield 11, 3) := by decide +kernel
theorem dX7_phaseIn_17 : decode cX7_phaseIn 17 = .ok (.iload_n 1, 1) := by decide +kernel
theorem dX7_phaseIn_18 : decode cX7_phaseIn 18 = .ok (.aaload, 1) := by decide +kernel
theorem dX7_phaseIn_19 : decode cX7_phaseIn 19 = .ok (.goto 4, 3) := by decide +kernel
theorem dX7_phaseIn_22 : decode cX7_phaseIn 22 = .ok (.aconst_null, 1) := by decide +kernel
theorem dX7_phaseIn_23 : decode cX7_phaseIn 23 = .ok (.areturn, 1) := by decide +kernel
theorem dX7_hasPhase_0 : decode cX7_hasPhase 0 = .ok (.aload_n 0, 1) := by decide +kernel
theorem dX7_hasPhase_1 : decode cX7_hasPhase 1 = .ok (.getfield 11, 3) := by decide +kernel
theorem dX7_hasPhase_4 : decode cX7_hasPhase 4 = .ok (.astore_n 2, 1) := by decide +kernel
theorem dX7_hasPhase_5 : decode cX7_hasPhase 5 = .ok (.aload_n 2, 1) := by decide +kernel
theorem dX7_hasPhase_6 : decode cX7_hasPhase 6 = .ok (.arraylength, 1) := by decide +kernel
theorem dX7_hasPhase_7 : decode cX7_hasPhase 7 = .ok (.istore_n 3, 1) := by decide +kernel
theorem dX7_hasPhase_8 : decode cX7_hasPhase 8 = .ok (.iconst 0, 1) := by decide +kernel
theorem dX7_hasPhase_9 : decode cX7_hasPhase 9 = .ok (.istore 4, 2) := by decide +kernel
theorem dX7_hasPhase_11 : decode cX7_hasPhase 11 = .ok (.iload 4, 2) := by decide +kernel
theorem dX7_hasPhase_13 : decode cX7_hasPhase 13 = .ok (.iload_n 3, 1) := by decide +kernel
theorem dX7_hasPhase_14 : decode cX7_hasPhase 14 = .ok (.if_icmp .ge 28, 3) := by decide +kernel
theorem dX7_hasPhase_17 : decode cX7_hasPhase 17 = .ok (.aload_n 2, 1) := by decide +kernel
theorem dX7_hasPhase_18 : decode cX7_hasPhase 18 = .ok (.iload 4, 2) := by decide +kernel
theorem dX7_hasPhase_20 : decode cX7_hasPhase 20 = .ok (.aaload, 1) := by decide +kernel
theorem dX7_hasPhase_21 : decode cX7_hasPhase 21 = .ok (.astore 5, 2) := by decide +kernel
theorem dX7_hasPhase_23 : decode cX7_hasPhase 23 = .ok (.aload 5, 2) := by decide +kernel
theorem dX7_hasPhase_25 : decode cX7_hasPhase 25 = .ok (.ifnull 11, 3) := by decide +kernel
theorem dX7_hasPhase_28 : decode cX7_hasPhase 28 = .ok (.aload 5, 2) := by decide +kernel
theorem dX7_hasPhase_30 : decode cX7_hasPhase 30 = .ok (.aload_n 1, 1) := by decide +kernel
theorem dX7_hasPhase_31 : decode cX7_hasPhase 31 = .ok (.if_acmp .ne 5, 3) := by decide +kernel
theorem dX7_hasPhase_34 : decode cX7_hasPhase 34 = .ok (.iconst 1, 1) := by decide +kernel
theorem dX7_hasPhase_35 : decode cX7_hasPhase 35 = .ok (.ireturn, 1) := by decide +kernel
theorem dX7_hasPhase_36 : decode cX7_hasPhase 36 = .ok (.iinc 4 1, 3) := by decide +kernel
theorem dX7_hasPhase_39 : decode cX7_hasPhase 39 = .ok (.goto (-28), 3) := by decide +kernel
theorem dX7_hasPhase_42 : decode cX7_hasPhase 42 = .ok (.iconst 0, 1) := by decide +kernel
theorem dX7_hasPhase_43 : decode cX7_hasPhase 43 = .ok (.ireturn, 1) := by decide +kernel
theorem dX7_isEmpty_0 : decode cX7_isEmpty 0 = .ok (.aload_n 0, 1) := by decide +kernel
theorem dX7_isEmpty_1 : decode cX7_isEmpty 1 = .ok (.getfield 11, 3) := by decide +kernel
theorem dX7_isEmpty_4 : decode cX7_isEmpty 4 = .ok (.astore_n 1, 1) := by decide +kernel
theorem dX7_isEmpty_5 : decode cX7_isEmpty 5 = .ok (.aload_n 1, 1) := by decide +kernel
theorem dX7_isEmpty_6 : decode cX7_isEmpty 6 = .ok (.arraylength, 1) := by decide +kernel
theorem dX7_isEmpty_7 : decode cX7_isEmpty 7 = .ok (.istore_n 2, 1) := by decide +kernel
theorem dX7_isEmpty_8 : decode cX7_isEmpty 8 = .ok (.iconst 0, 1) := by decide +kernel
theorem dX7_isEmpty_9 : decode cX7_isEmpty 9 = .ok (.istore_n 3, 1) := by decide +kernel
theorem dX7_isEmpty_10 : decode cX7_isEmpty 10 = .ok (.iload_n 3, 1) := by decide +kernel
theorem dX7_isEmpty_11 : decode cX7_isEmpty 11 = .ok (.iload_n 2, 1) := by decide +kernel
theorem dX7_isEmpty_12 : decode cX7_isEmpty 12 = .ok (.if_icmp .ge 21, 3) := by decide +kernel
theorem dX7_isEmpty_15 : decode cX7_isEmpty 15 = .ok (.aload_n 1, 1) := by decide +kernel
theorem dX7_isEmpty_16 : decode cX7_isEmpty 16 = .ok (.iload_n 3, 1) := by decide +kernel
theorem dX7_isEmpty_17 : decode cX7_isEmpty 17 = .ok (.aaload, 1) := by decide +kernel
theorem dX7_isEmpty_18 : decode cX7_isEmpty 18 = .ok (.astore 4, 2) := by decide +kernel
theorem dX7_isEmpty_20 : decode cX7_isEmpty 20 = .ok (.aload 4, 2) := by decide +kernel
theorem dX7_isEmpty_22 : decode cX7_isEmpty 22 = .ok (.ifnull 5, 3) := by decide +kernel
theorem dX7_isEmpty_25 : decode cX7_isEmpty 25 = .ok (.iconst 0, 1) := by decide +kernel
theorem dX7_isEmpty_26 : decode cX7_isEmpty 26 = .ok (.ireturn, 1) := by decide +kernel
theorem dX7_isEmpty_27 : decode cX7_isEmpty 27 = .ok (.iinc 3 1, 3) := by decide +kernel
theorem dX7_isEmpty_30 : decode cX7_isEmpty 30 = .ok (.goto (-20), 3) := by decide +kernel
theorem dX7_isEmpty_33 : decode cX7_isEmpty 33 = .ok (.iconst 1, 1) := by decide +kernel
theorem dX7_isEmpty_34 : decode cX7_isEmpty 34 = .ok (.ireturn, 1) := by decide +kernel
theorem dX7_hasConflict_0 : decode cX7_hasConflict 0 = .ok (.aload_n 0, 1) := by decide +kernel
theorem dX7_hasConflict_1 : decode cX7_hasConflict 1 = .ok (.getfield 11, 3) := by decide +kernel
theorem dX7_hasConflict_4 : decode cX7_hasConflict 4 = .ok (.astore_n 1, 1) := by decide +kernel
theorem dX7_hasConflict_5 : decode cX7_hasConflict 5 = .ok (.aload_n 1, 1) := by decide +kernel
theorem dX7_hasConflict_6 : decode cX7_hasConflict 6 = .ok (.arraylength, 1) := by decide +kernel
theorem dX7_hasConflict_7 : decode cX7_hasConflict 7 = .ok (.istore_n 2, 1) := by decide +kernel
theorem dX7_hasConflict_8 : decode cX7_hasConflict 8 = .ok (.iconst 0, 1) := by decide +kernel
theorem dX7_hasConflict_9 : decode cX7_hasConflict 9 = .ok (.istore_n 3, 1) := by decide +kernel
theorem dX7_hasConflict_10 : decode cX7_hasConflict 10 = .ok (.iload_n 3, 1) := by decide +kernel
theorem dX7_hasConflict_11 : decode cX7_hasConflict 11 = .ok (.iload_n 2, 1) := by decide +kernel
theorem dX7_hasConflict_12 : decode cX7_hasConflict 12 = .ok (.if_icmp .ge 72, 3) := by decide +kernel
theorem dX7_hasConflict_15 : decode cX7_hasConflict 15 = .ok (.aload_n 1, 1) := by decide +kernel
theorem dX7_hasConflict_16 : decode cX7_hasConflict 16 = .ok (.iload_n 3, 1) := by decide +kernel
theorem dX7_hasConflict_17 : decode cX7_hasConflict 17 = .ok (.aaload, 1) := by decide +kernel
theorem dX7_hasConflict_18 : decode cX7_hasConflict 18 = .ok (.astore 4, 2) := by decide +kernel
theorem dX7_hasConflict_20 : decode cX7_hasConflict 20 = .ok (.aload_n 0, 1) := by decide +kernel
theorem dX7_hasConflict_21 : decode cX7_hasConflict 21 = .ok (.getfield 11, 3) := by decide +kernel
theorem dX7_hasConflict_24 : decode cX7_hasConflict 24 = .ok (.astore 5, 2) := by decide +kernel
theorem dX7_hasConflict_26 : decode cX7_hasConflict 26 = .ok (.aload 5, 2) := by decide +kernel
theorem dX7_hasConflict_28 : decode cX7_hasConflict 28 = .ok (.arraylength, 1) := by decide +kernel
theorem dX7_hasConflict_29 : decode cX7_hasConflict 29 = .ok (.istore 6, 2) := by decide +kernel
theorem dX7_hasConflict_31 : decode cX7_hasConflict 31 = .ok (.iconst 0, 1) := by decide +kernel
theorem dX7_hasConflict_32 : decode cX7_hasConflict 32 = .ok (.istore 7, 2) := by decide +kernel
theorem dX7_hasConflict_34 : decode cX7_hasConflict 34 = .ok (.iload 7, 2) := by decide +kernel
theorem dX7_hasConflict_36 : decode cX7_hasConflict 36 = .ok (.iload 6, 2) := by decide +kernel
theorem dX7_hasConflict_38 : decode cX7_hasConflict 38 = .ok (.if_icmp .ge 40, 3) := by decide +kernel
theorem dX7_hasConflict_41 : decode cX7_hasConflict 41 = .ok (.aload 5, 2) := by decide +kernel
theorem dX7_hasConflict_43 : decode cX7_hasConflict 43 = .ok (.iload 7, 2) := by decide +kernel
theorem dX7_hasConflict_45 : decode cX7_hasConflict 45 = .ok (.aaload, 1) := by decide +kernel
theorem dX7_hasConflict_46 : decode cX7_hasConflict 46 = .ok (.astore 8, 2) := by decide +kernel
theorem dX7_hasConflict_48 : decode cX7_hasConflict 48 = .ok (.aload 4, 2) := by decide +kernel
theorem dX7_hasConflict_50 : decode cX7_hasConflict 50 = .ok (.ifnull 22, 3) := by decide +kernel
theorem dX7_hasConflict_53 : decode cX7_hasConflict 53 = .ok (.aload 8, 2) := by decide +kernel
theorem dX7_hasConflict_55 : decode cX7_hasConflict 55 = .ok (.ifnull 17, 3) := by decide +kernel
theorem dX7_hasConflict_58 : decode cX7_hasConflict 58 = .ok (.aload 4, 2) := by decide +kernel
theorem dX7_hasConflict_60 : decode cX7_hasConflict 60 = .ok (.aload 8, 2) := by decide +kernel
theorem dX7_hasConflict_62 : decode cX7_hasConflict 62 = .ok (.invokevirtual 21, 3) := by decide +kernel
theorem dX7_hasConflict_65 : decode cX7_hasConflict 65 = .ok (.bipush (-5), 2) := by decide +kernel
theorem dX7_hasConflict_67 : decode cX7_hasConflict 67 = .ok (.if_icmp .eq 5, 3) := by decide +kernel
theorem dX7_hasConflict_70 : decode cX7_hasConflict 70 = .ok (.iconst 1, 1) := by decide +kernel
theorem dX7_hasConflict_71 : decode cX7_hasConflict 71 = .ok (.ireturn, 1) := by decide +kernel
theorem dX7_hasConflict_72 : decode cX7_hasConflict 72 = .ok (.iinc 7 1, 3) := by decide +kernel
theorem dX7_hasConflict_75 : decode cX7_hasConflict 75 = .ok (.goto (-41), 3) := by decide +kernel
theorem dX7_hasConflict_78 : decode cX7_hasConflict 78 = .ok (.iinc 3 1, 3) := by decide +kernel
theorem dX7_hasConflict_81 : decode cX7_hasConflict 81 = .ok (.goto (-71), 3) := by decide +kernel
theorem dX7_hasConflict_84 : decode cX7_hasConflict 84 = .ok (.iconst 0, 1) := by decide +kernel
theorem dX7_hasConflict_85 : decode cX7_hasConflict 85 = .ok (.ireturn, 1) := by decide +kernel
theorem dX7_leastGreen_0 : decode cX7_leastGreen 0 = .ok (.iconst 0, 1) := by decide +kernel
theorem dX7_leastGreen_1 : decode cX7_leastGreen 1 = .ok (.istore_n 1, 1) := by decide +kernel
theorem dX7_leastGreen_2 : decode cX7_leastGreen 2 = .ok (.aload_n 0, 1) := by decide +kernel
theorem dX7_leastGreen_3 : decode cX7_leastGreen 3 = .ok (.getfield 11, 3) := by decide +kernel
theorem dX7_leastGreen_6 : decode cX7_leastGreen 6 = .ok (.astore_n 2, 1) := by decide +kernel
theorem dX7_leastGreen_7 : decode cX7_leastGreen 7 = .ok (.aload_n 2, 1) := by decide +kernel
theorem dX7_leastGreen_8 : decode cX7_leastGreen 8 = .ok (.arraylength, 1) := by decide +kernel
theorem dX7_leastGreen_9 : decode cX7_leastGreen 9 = .ok (.istore_n 3, 1) := by decide +kernel
theorem dX7_leastGreen_10 : decode cX7_leastGreen 10 = .ok (.iconst 0, 1) := by decide +kernel
theorem dX7_leastGreen_11 : decode cX7_leastGreen 11 = .ok (.istore 4, 2) := by decide +kernel
theorem dX7_leastGreen_13 : decode cX7_leastGreen 13 = .ok (.iload 4, 2) := by decide +kernel
theorem dX7_leastGreen_15 : decode cX7_leastGreen 15 = .ok (.iload_n 3, 1) := by decide +kernel
theorem dX7_leastGreen_16 : decode cX7_leastGreen 16 = .ok (.if_icmp .ge 30, 3) := by decide +kernel
theorem dX7_leastGreen_19 : decode cX7_leastGreen 19 = .ok (.aload_n 2, 1) := by decide +kernel
theorem dX7_leastGreen_20 : decode cX7_leastGreen 20 = .ok (.iload 4, 2) := by decide +kernel
theorem dX7_leastGreen_22 : decode cX7_leastGreen 22 = .ok (.aaload, 1) := by decide +kernel
theorem dX7_leastGreen_23 : decode cX7_leastGreen 23 = .ok (.astore 5, 2) := by decide +kernel
theorem dX7_leastGreen_25 : decode cX7_leastGreen 25 = .ok (.aload 5, 2) := by decide +kernel
theorem dX7_leastGreen_27 : decode cX7_leastGreen 27 = .ok (.ifnull 13, 3) := by decide +kernel
theorem dX7_leastGreen_30 : decode cX7_leastGreen 30 = .ok (.iload_n 1, 1) := by decide +kernel
theorem dX7_leastGreen_31 : decode cX7_leastGreen 31 = .ok (.aload 5, 2) := by decide +kernel
theorem dX7_leastGreen_33 : decode cX7_leastGreen 33 = .ok (.getfield 25, 3) := by decide +kernel
theorem dX7_leastGreen_36 : decode cX7_leastGreen 36 = .ok (.invokestatic 28, 3) := by decide +kernel
theorem dX7_leastGreen_39 : decode cX7_leastGreen 39 = .ok (.istore_n 1, 1) := by decide +kernel
theorem dX7_leastGreen_40 : decode cX7_leastGreen 40 = .ok (.iinc 4 1, 3) := by decide +kernel
theorem dX7_leastGreen_43 : decode cX7_leastGreen 43 = .ok (.goto (-30), 3) := by decide +kernel
theorem dX7_leastGreen_46 : decode cX7_leastGreen 46 = .ok (.iload_n 1, 1) := by decide +kernel
theorem dX7_leastGreen_47 : decode cX7_leastGreen 47 = .ok (.ireturn, 1) := by decide +kernel
theorem dX7_greatestGreen_0 : decode cX7_greatestGreen 0 = .ok (.bipush 120, 2) := by decide +kernel
theorem dX7_greatestGreen_2 : decode cX7_greatestGreen 2 = .ok (.istore_n 1, 1) := by decide +kernel
theorem dX7_greatestGreen_3 : decode cX7_greatestGreen 3 = .ok (.aload_n 0, 1) := by decide +kernel
theorem dX7_greatestGreen_4 : decode cX7_greatestGreen 4 = .ok (.getfield 11, 3) := by decide +kernel
theorem dX7_greatestGreen_7 : decode cX7_greatestGreen 7 = .ok (.astore_n 2, 1) := by decide +kernel
theorem dX7_greatestGreen_8 : decode cX7_greatestGreen 8 = .ok (.aload_n 2, 1) := by decide +kernel
theorem dX7_greatestGreen_9 : decode cX7_greatestGreen 9 = .ok (.arraylength, 1) := by decide +kernel
theorem dX7_greatestGreen_10 : decode cX7_greatestGreen 10 = .ok (.istore_n 3, 1) := by decide +kernel
theorem dX7_greatestGreen_11 : decode cX7_greatestGreen 11 = .ok (.iconst 0, 1) := by decide +kernel
theorem dX7_greatestGreen_12 : decode cX7_greatestGreen 12 = .ok (.istore 4, 2) := by decide +kernel
theorem dX7_greatestGreen_14 : decode cX7_greatestGreen 14 = .ok (.iload 4, 2) := by decide +kernel
theorem dX7_greatestGreen_16 : decode cX7_greatestGreen 16 = .ok (.iload_n 3, 1) := by decide +kernel
theorem dX7_greatestGreen_17 : decode cX7_greatestGreen 17 = .ok (.if_icmp .ge 30, 3) := by decide +kernel
theorem dX7_greatestGreen_20 : decode cX7_greatestGreen 20 = .ok (.aload_n 2, 1) := by decide +kernel
theorem dX7_greatestGreen_21 : decode cX7_greatestGreen 21 = .ok (.iload 4, 2) := by decide +kernel
theorem dX7_greatestGreen_23 : decode cX7_greatestGreen 23 = .ok (.aaload, 1) := by decide +kernel
theorem dX7_greatestGreen_24 : decode cX7_greatestGreen 24 = .ok (.astore 5, 2) := by decide +kernel
theorem dX7_greatestGreen_26 : decode cX7_greatestGreen 26 = .ok (.aload 5, 2) := by decide +kernel
theorem dX7_greatestGreen_28 : decode cX7_greatestGreen 28 = .ok (.ifnull 13, 3) := by decide +kernel
theorem dX7_greatestGreen_31 : decode cX7_greatestGreen 31 = .ok (.iload_n 1, 1) := by decide +kernel
theorem dX7_greatestGreen_32 : decode cX7_greatestGreen 32 = .ok (.aload 5, 2) := by decide +kernel
theorem dX7_greatestGreen_34 : decode cX7_greatestGreen 34 = .ok (.getfield 34, 3) := by decide +kernel
theorem dX7_greatestGreen_37 : decode cX7_greatestGreen 37 = .ok (.invokestatic 37, 3) := by decide +kernel
theorem dX7_greatestGreen_40 : decode cX7_greatestGreen 40 = .ok (.istore_n 1, 1) := by decide +kernel
theorem dX7_greatestGreen_41 : decode cX7_greatestGreen 41 = .ok (.iinc 4 1, 3) := by decide +kernel
theorem dX7_greatestGreen_44 : decode cX7_greatestGreen 44 = .ok (.goto (-30), 3) := by decide +kernel
theorem dX7_greatestGreen_47 : decode cX7_greatestGreen 47 = .ok (.iload_n 1, 1) := by decide +kernel
theorem dX7_greatestGreen_48 : decode cX7_greatestGreen 48 = .ok (.aload_n 0, 1) := by decide +kernel
theorem dX7_greatestGreen_49 : decode cX7_greatestGreen 49 = .ok (.invokevirtual 40, 3) := by decide +kernel
theorem dX7_greatestGreen_52 : decode cX7_greatestGreen 52 = .ok (.invokestatic 28, 3) := by decide +kernel
theorem dX7_greatestGreen_55 : decode cX7_greatestGreen 55 = .ok (.ireturn, 1) := by decide +kernel
theorem dX7_isHeld_0 : decode cX7_isHeld 0 = .ok (.aload_n 0, 1) := by decide +kernel
theorem dX7_isHeld_1 : decode cX7_isHeld 1 = .ok (.getfield 11, 3) := by decide +kernel
theorem dX7_isHeld_4 : decode cX7_isHeld 4 = .ok (.astore_n 1, 1) := by decide +kernel
theorem dX7_isHeld_5 : decode cX7_isHeld 5 = .ok (.aload_n 1, 1) := by decide +kernel
theorem dX7_isHeld_6 : decode cX7_isHeld 6 = .ok (.arraylength, 1) := by decide +kernel
theorem dX7_isHeld_7 : decode cX7_isHeld 7 = .ok (.istore_n 2, 1) := by decide +kernel
theorem dX7_isHeld_8 : decode cX7_isHeld 8 = .ok (.iconst 0, 1) := by decide +kernel
theorem dX7_isHeld_9 : decode cX7_isHeld 9 = .ok (.istore_n 3, 1) := by decide +kernel
theorem dX7_isHeld_10 : decode cX7_isHeld 10 = .ok (.iload_n 3, 1) := by decide +kernel
theorem dX7_isHeld_11 : decode cX7_isHeld 11 = .ok (.iload_n 2, 1) := by decide +kernel
theorem dX7_isHeld_12 : decode cX7_isHeld 12 = .ok (.if_icmp .ge 29, 3) := by decide +kernel
theorem dX7_isHeld_15 : decode cX7_isHeld 15 = .ok (.aload_n 1, 1) := by decide +kernel
theorem dX7_isHeld_16 : decode cX7_isHeld 16 = .ok (.iload_n 3, 1) := by decide +kernel
theorem dX7_isHeld_17 : decode cX7_isHeld 17 = .ok (.aaload, 1) := by decide +kernel
theorem dX7_isHeld_18 : decode cX7_isHeld 18 = .ok (.astore 4, 2) := by decide +kernel
theorem dX7_isHeld_20 : decode cX7_isHeld 20 = .ok (.aload 4, 2) := by decide +kernel
theorem dX7_isHeld_22 : decode cX7_isHeld 22 = .ok (.ifnull 13, 3) := by decide +kernel
theorem dX7_isHeld_25 : decode cX7_isHeld 25 = .ok (.aload 4, 2) := by decide +kernel
theorem dX7_isHeld_27 : decode cX7_isHeld 27 = .ok (.getfield 44, 3) := by decide +kernel
theorem dX7_isHeld_30 : decode cX7_isHeld 30 = .ok (.ifCond .eq 5, 3) := by decide +kernel
theorem dX7_isHeld_33 : decode cX7_isHeld 33 = .ok (.iconst 1, 1) := by decide +kernel
theorem dX7_isHeld_34 : decode cX7_isHeld 34 = .ok (.ireturn, 1) := by decide +kernel
theorem dX7_isHeld_35 : decode cX7_isHeld 35 = .ok (.iinc 3 1, 3) := by decide +kernel
theorem dX7_isHeld_38 : decode cX7_isHeld 38 = .ok (.goto (-28), 3) := by decide +kernel
theorem dX7_isHeld_41 : decode cX7_isHeld 41 = .ok (.iconst 0, 1) := by decide +kernel
theorem dX7_isHeld_42 : decode cX7_isHeld 42 = .ok (.ireturn, 1) := by decide +kernel
theorem dX7_firstAsked_0 : decode cX7_firstAsked 0 = .ok (.bipush (-5), 2) := by decide +kernel
theorem dX7_firstAsked_2 : decode cX7_firstAsked 2 = .ok (.istore_n 1, 1) := by decide +kernel
theorem dX7_firstAsked_3 : decode cX7_firstAsked 3 = .ok (.aload_n 0, 1) := by decide +kernel
theorem dX7_firstAsked_4 : decode cX7_firstAsked 4 = .ok (.getfield 11, 3) := by decide +kernel
theorem dX7_firstAsked_7 : decode cX7_firstAsked 7 = .ok (.astore_n 2, 1) := by decide +kernel
theorem dX7_firstAsked_8 : decode cX7_firstAsked 8 = .ok (.aload_n 2, 1) := by decide +kernel
theorem dX7_firstAsked_9 : decode cX7_firstAsked 9 = .ok (.arraylength, 1) := by decide +kernel
theorem dX7_firstAsked_10 : decode cX7_firstAsked 10 = .ok (.istore_n 3, 1) := by decide +kernel
theorem dX7_firstAsked_11 : decode cX7_firstAsked 11 = .ok (.iconst 0, 1) := by decide +kernel
theorem dX7_firstAsked_12 : decode cX7_firstAsked 12 = .ok (.istore 4, 2) := by decide +kernel
theorem dX7_firstAsked_14 : decode cX7_firstAsked 14 = .ok (.iload 4, 2) := by decide +kernel
theorem dX7_firstAsked_16 : decode cX7_firstAsked 16 = .ok (.iload_n 3, 1) := by decide +kernel
theorem dX7_firstAsked_17 : decode cX7_firstAsked 17 = .ok (.if_icmp .ge 52, 3) := by decide +kernel
theorem dX7_firstAsked_20 : decode cX7_firstAsked 20 = .ok (.aload_n 2, 1) := by decide +kernel
theorem dX7_firstAsked_21 : decode cX7_firstAsked 21 = .ok (.iload 4, 2) := by decide +kernel
theorem dX7_firstAsked_23 : decode cX7_firstAsked 23 = .ok (.aaload, 1) := by decide +kernel
theorem dX7_firstAsked_24 : decode cX7_firstAsked 24 = .ok (.astore 5, 2) := by decide +kernel
theorem dX7_firstAsked_26 : decode cX7_firstAsked 26 = .ok (.aload 5, 2) := by decide +kernel
theorem dX7_firstAsked_28 : decode cX7_firstAsked 28 = .ok (.ifnull 35, 3) := by decide +kernel
theorem dX7_firstAsked_31 : decode cX7_firstAsked 31 = .ok (.aload 5, 2) := by decide +kernel
theorem dX7_firstAsked_33 : decode cX7_firstAsked 33 = .ok (.invokevirtual 48, 3) := by decide +kernel
theorem dX7_firstAsked_36 : decode cX7_firstAsked 36 = .ok (.ifCond .ne 6, 3) := by decide +kernel
theorem dX7_firstAsked_39 : decode cX7_firstAsked 39 = .ok (.goto 24, 3) := by decide +kernel
theorem dX7_firstAsked_42 : decode cX7_firstAsked 42 = .ok (.iload_n 1, 1) := by decide +kernel
theorem dX7_firstAsked_43 : decode cX7_firstAsked 43 = .ok (.bipush (-5), 2) := by decide +kernel
theorem dX7_firstAsked_45 : decode cX7_firstAsked 45 = .ok (.if_icmp .eq 12, 3) := by decide +kernel
theorem dX7_firstAsked_48 : decode cX7_firstAsked 48 = .ok (.aload 5, 2) := by decide +kernel
theorem dX7_firstAsked_50 : decode cX7_firstAsked 50 = .ok (.getfield 52, 3) := by decide +kernel
theorem dX7_firstAsked_53 : decode cX7_firstAsked 53 = .ok (.iload_n 1, 1) := by decide +kernel
theorem dX7_firstAsked_54 : decode cX7_firstAsked 54 = .ok (.if_icmp .ge 9, 3) := by decide +kernel
theorem dX7_firstAsked_57 : decode cX7_firstAsked 57 = .ok (.aload 5, 2) := by decide +kernel
theorem dX7_firstAsked_59 : decode cX7_firstAsked 59 = .ok (.getfield 52, 3) := by decide +kernel
theorem dX7_firstAsked_62 : decode cX7_firstAsked 62 = .ok (.istore_n 1, 1) := by decide +kernel
theorem dX7_firstAsked_63 : decode cX7_firstAsked 63 = .ok (.iinc 4 1, 3) := by decide +kernel
theorem dX7_firstAsked_66 : decode cX7_firstAsked 66 = .ok (.goto (-52), 3) := by decide +kernel
theorem dX7_firstAsked_69 : decode cX7_firstAsked 69 = .ok (.iload_n 1, 1) := by decide +kernel
theorem dX7_firstAsked_70 : decode cX7_firstAsked 70 = .ok (.ireturn, 1) := by decide +kernel
theorem dX7_mayBeGreen_0 : decode cX7_mayBeGreen 0 = .ok (.aload_n 0, 1) := by decide +kernel
theorem dX7_mayBeGreen_1 : decode cX7_mayBeGreen 1 = .ok (.getfield 11, 3) := by decide +kernel
theorem dX7_mayBeGreen_4 : decode cX7_mayBeGreen 4 = .ok (.astore_n 2, 1) := by decide +kernel
theorem dX7_mayBeGreen_5 : decode cX7_mayBeGreen 5 = .ok (.aload_n 2, 1) := by decide +kernel
theorem dX7_mayBeGreen_6 : decode cX7_mayBeGreen 6 = .ok (.arraylength, 1) := by decide +kernel
theorem dX7_mayBeGreen_7 : decode cX7_mayBeGreen 7 = .ok (.istore_n 3, 1) := by decide +kernel
theorem dX7_mayBeGreen_8 : decode cX7_mayBeGreen 8 = .ok (.iconst 0, 1) := by decide +kernel
theorem dX7_mayBeGreen_9 : decode cX7_mayBeGreen 9 = .ok (.istore 4, 2) := by decide +kernel
theorem dX7_mayBeGreen_11 : decode cX7_mayBeGreen 11 = .ok (.iload 4, 2) := by decide +kernel
theorem dX7_mayBeGreen_13 : decode cX7_mayBeGreen 13 = .ok (.iload_n 3, 1) := by decide +kernel
theorem dX7_mayBeGreen_14 : decode cX7_mayBeGreen 14 = .ok (.if_icmp .ge 39, 3) := by decide +kernel
theorem dX7_mayBeGreen_17 : decode cX7_mayBeGreen 17 = .ok (.aload_n 2, 1) := by decide +kernel
theorem dX7_mayBeGreen_18 : decode cX7_mayBeGreen 18 = .ok (.iload 4, 2) := by decide +kernel
theorem dX7_mayBeGreen_20 : decode cX7_mayBeGreen 20 = .ok (.aaload, 1) := by decide +kernel
theorem dX7_mayBeGreen_21 : decode cX7_mayBeGreen 21 = .ok (.astore 5, 2) := by decide +kernel
theorem dX7_mayBeGreen_23 : decode cX7_mayBeGreen 23 = .ok (.aload 5, 2) := by decide +kernel
theorem dX7_mayBeGreen_25 : decode cX7_mayBeGreen 25 = .ok (.ifnull 22, 3) := by decide +kernel
theorem dX7_mayBeGreen_28 : decode cX7_mayBeGreen 28 = .ok (.aload 5, 2) := by decide +kernel
theorem dX7_mayBeGreen_30 : decode cX7_mayBeGreen 30 = .ok (.getfield 55, 3) := by decide +kernel
theorem dX7_mayBeGreen_33 : decode cX7_mayBeGreen 33 = .ok (.ifCond .ne 12, 3) := by decide +kernel
theorem dX7_mayBeGreen_36 : decode cX7_mayBeGreen 36 = .ok (.aload 5, 2) := by decide +kernel
theorem dX7_mayBeGreen_38 : decode cX7_mayBeGreen 38 = .ok (.getfield 58, 3) := by decide +kernel
theorem dX7_mayBeGreen_41 : decode cX7_mayBeGreen 41 = .ok (.iload_n 1, 1) := by decide +kernel
theorem dX7_mayBeGreen_42 : decode cX7_mayBeGreen 42 = .ok (.if_icmp .le 5, 3) := by decide +kernel
theorem dX7_mayBeGreen_45 : decode cX7_mayBeGreen 45 = .ok (.iconst 0, 1) := by decide +kernel
theorem dX7_mayBeGreen_46 : decode cX7_mayBeGreen 46 = .ok (.ireturn, 1) := by decide +kernel
theorem dX7_mayBeGreen_47 : decode cX7_mayBeGreen 47 = .ok (.iinc 4 1, 3) := by decide +kernel
theorem dX7_mayBeGreen_50 : decode cX7_mayBeGreen 50 = .ok (.goto (-39), 3) := by decide +kernel
theorem dX7_mayBeGreen_53 : decode cX7_mayBeGreen 53 = .ok (.iconst 1, 1) := by decide +kernel
theorem dX7_mayBeGreen_54 : decode cX7_mayBeGreen 54 = .ok (.ireturn, 1) := by decide +kernel
theorem dX8_init_0 : decode cX8_init 0 = .ok (.aload_n 0, 1) := by decide +kernel
theorem dX8_init_1 : decode cX8_init 1 = .ok (.invokespecial 1, 3) := by decide +kernel
theorem dX8_init_4 : decode cX8_init 4 = .ok (.aload_n 0, 1) := by decide +kernel
theorem dX8_init_5 : decode cX8_init 5 = .ok (.new 7, 3) := by decide +kernel
theorem dX8_init_8 : decode cX8_init 8 = .ok (.dup, 1) := by decide +kernel
theorem dX8_init_9 : decode cX8_init 9 = .ok (.invokespecial 9, 3) := by decide +kernel
theorem dX8_init_12 : decode cX8_init 12 = .ok (.putfield 10, 3) := by decide +kernel
theorem dX8_init_15 : decode cX8_init 15 = .ok (.aload_n 0, 1) := by decide +kernel
theorem dX8_init_16 : decode cX8_init 16 = .ok (.new 7, 3) := by decide +kernel
theorem dX8_init_19 : decode cX8_init 19 = .ok (.dup, 1) := by decide +kernel
theorem dX8_init_20 : decode cX8_init 20 = .ok (.invokespecial 9, 3) := by decide +kernel
theorem dX8_init_23 : decode cX8_init 23 = .ok (.putfield 16, 3) := by decide +kernel
theorem dX8_init_26 : decode cX8_init 26 = .ok (.aload_n 0, 1) := by decide +kernel
theorem dX8_init_27 : decode cX8_init 27 = .ok (.new 7, 3) := by decide +kernel
theorem dX8_init_30 : decode cX8_init 30 = .ok (.dup, 1) := by decide +kernel
theorem dX8_init_31 : decode cX8_init 31 = .ok (.invokespecial 9, 3) := by decide +kernel
theorem dX8_init_34 : decode cX8_init 34 = .ok (.putfield 19, 3) := by decide +kernel
theorem dX8_init_37 : decode cX8_init 37 = .ok (.aload_n 0, 1) := by decide +kernel
theorem dX8_init_38 : decode cX8_init 38 = .ok (.new 7, 3) := by decide +kernel
theorem dX8_init_41 : decode cX8_init 41 = .ok (.dup, 1) := by decide +kernel
theorem dX8_init_42 : decode cX8_init 42 = .ok (.invokespecial 9, 3) := by decide +kernel
theorem dX8_init_45 : decode cX8_init 45 = .ok (.putfield 22, 3) := by decide +kernel
theorem dX8_init_48 : decode cX8_init 48 = .ok (.aload_n 0, 1) := by decide +kernel
theorem dX8_init_49 : decode cX8_init 49 = .ok (.new 7, 3) := by decide +kernel
theorem dX8_init_52 : decode cX8_init 52 = .ok (.dup, 1) := by decide +kernel
theorem dX8_init_53 : decode cX8_init 53 = .ok (.invokespecial 9, 3) := by decide +kernel
theorem dX8_init_56 : decode cX8_init 56 = .ok (.putfield 25, 3) := by decide +kernel
theorem dX8_init_59 : decode cX8_init 59 = .ok (.aload_n 0, 1) := by decide +kernel
theorem dX8_init_60 : decode cX8_init 60 = .ok (.new 28, 3) := by decide +kernel
theorem dX8_init_63 : decode cX8_init 63 = .ok (.dup, 1) := by decide +kernel
theorem dX8_init_64 : decode cX8_init 64 = .ok (.invokespecial 30, 3) := by decide +kernel
theorem dX8_init_67 : decode cX8_init 67 = .ok (.putfield 31, 3) := by decide +kernel
theorem dX8_init_70 : decode cX8_init 70 = .ok (.aload_n 0, 1) := by decide +kernel
theorem dX8_init_71 : decode cX8_init 71 = .ok (.new 35, 3) := by decide +kernel
theorem dX8_init_74 : decode cX8_init 74 = .ok (.dup, 1) := by decide +kernel
theorem dX8_init_75 : decode cX8_init 75 = .ok (.invokespecial 37, 3) := by decide +kernel
theorem dX8_init_78 : decode cX8_init 78 = .ok (.putfield 38, 3) := by decide +kernel
theorem dX8_init_81 : decode cX8_init 81 = .ok (.aload_n 0, 1) := by decide +kernel
theorem dX8_init_82 : decode cX8_init 82 = .ok (.new 42, 3) := by decide +kernel
theorem dX8_init_85 : decode cX8_init 85 = .ok (.dup, 1) := by decide +kernel
theorem dX8_init_86 : decode cX8_init 86 = .ok (.invokespecial 44, 3) := by decide +kernel
theorem dX8_init_89 : decode cX8_init 89 = .ok (.putfield 45, 3) := by decide +kernel
theorem dX8_init_92 : decode cX8_init 92 = .ok (.aload_n 0, 1) := by decide +kernel
theorem dX8_init_93 : decode cX8_init 93 = .ok (.iconst 0, 1) := by decide +kernel
theorem dX8_init_94 : decode cX8_init 94 = .ok (.putfield 49, 3) := by decide +kernel
theorem dX8_init_97 : decode cX8_init 97 = .ok (.aload_n 0, 1) := by decide +kernel
theorem dX8_init_98 : decode cX8_init 98 = .ok (.iconst 0, 1) := by decide +kernel
theorem dX8_init_99 : decode cX8_init 99 = .ok (.putfield 53, 3) := by decide +kernel
theorem dX8_init_102 : decode cX8_init 102 = .ok (.aload_n 0, 1) := by decide +kernel
theorem dX8_init_103 : decode cX8_init 103 = .ok (.aconst_null, 1) := by decide +kernel
theorem dX8_init_104 : decode cX8_init 104 = .ok (.putfield 56, 3) := by decide +kernel
theorem dX8_init_107 : decode cX8_init 107 = .ok (.aload_n 0, 1) := by decide +kernel
theorem dX8_init_108 : decode cX8_init 108 = .ok (.iconst 0, 1) := by decide +kernel
theorem dX8_init_109 : decode cX8_init 109 = .ok (.putfield 60, 3) := by decide +kernel
theorem dX8_init_112 : decode cX8_init 112 = .ok (.aload_n 0, 1) := by decide +kernel
theorem dX8_init_113 : decode cX8_init 113 = .ok (.iconst 0, 1) := by decide +kernel
theorem dX8_init_114 : decode cX8_init 114 = .ok (.putfield 63, 3) := by decide +kernel
theorem dX8_init_117 : decode cX8_init 117 = .ok (.aload_n 0, 1) := by decide +kernel
theorem dX8_init_118 : decode cX8_init 118 = .ok (.iconst 0, 1) := by decide +kernel
theorem dX8_init_119 : decode cX8_init 119 = .ok (.putfield 66, 3) := by decide +kernel
theorem dX8_init_122 : decode cX8_init 122 = .ok (.aload_n 0, 1) := by decide +kernel
theorem dX8_init_123 : decode cX8_init 123 = .ok (.aconst_null, 1) := by decide +kernel
theorem dX8_init_124 : decode cX8_init 124 = .ok (.putfield 69, 3) := by decide +kernel
theorem dX8_init_127 : decode cX8_init 127 = .ok (.aload_n 0, 1) := by decide +kernel
theorem dX8_init_128 : decode cX8_init 128 = .ok (.iconst (-1), 1) := by decide +kernel
theorem dX8_init_129 : decode cX8_init 129 = .ok (.putfield 72, 3) := by decide +kernel
theorem dX8_init_132 : decode cX8_init 132 = .ok (.return_, 1) := by decide +kernel
theorem dX8_phase_0 : decode cX8_phase 0 = .ok (.iload_n 1, 1) := by decide +kernel
theorem dX8_phase_1 : decode cX8_phase 1 = .ok (.ifCond .lt 8, 3) := by decide +kernel
theorem dX8_phase_4 : decode cX8_phase 4 = .ok (.iload_n 1, 1) := by decide +kernel
theorem dX8_phase_5 : decode cX8_phase 5 = .ok (.iconst 4, 1) := by decide +kernel
theorem dX8_phase_6 : decode cX8_phase 6 = .ok (.if_icmp .le 5, 3) := by decide +kernel
theorem dX8_phase_9 : decode cX8_phase 9 = .ok (.iconst (-1), 1) := by decide +kernel
theorem dX8_phase_10 : decode cX8_phase 10 = .ok (.ireturn, 1) := by decide +kernel
theorem dX8_phase_11 : decode cX8_phase 11 = .ok (.aload_n 0, 1) := by decide +kernel
theorem dX8_phase_12 : decode cX8_phase 12 = .ok (.getfield 49, 3) := by decide +kernel
theorem dX8_phase_15 : decode cX8_phase 15 = .ok (.ifCond .le 6, 3) := by decide +kernel
theorem dX8_phase_18 : decode cX8_phase 18 = .ok (.bipush (-3), 2) := by decide +kernel
theorem dX8_phase_20 : decode cX8_phase 20 = .ok (.ireturn, 1) := by decide +kernel
theorem dX8_phase_21 : decode cX8_phase 21 = .ok (.aload_n 0, 1) := by decide +kernel
theorem dX8_phase_22 : decode cX8_phase 22 = .ok (.getfield 10, 3) := by decide +kernel
theorem dX8_phase_25 : decode cX8_phase 25 = .ok (.invokevirtual 75, 3) := by decide +kernel
theorem dX8_phase_28 : decode cX8_phase 28 = .ok (.bipush 8, 2) := by decide +kernel
theorem dX8_phase_30 : decode cX8_phase 30 = .ok (.if_icmp .lt 6, 3) := by decide +kernel
theorem dX8_phase_33 : decode cX8_phase 33 = .ok (.bipush (-2), 2) := by decide +kernel
theorem dX8_phase_35 : decode cX8_phase 35 = .ok (.ireturn, 1) := by decide +kernel
theorem dX8_phase_36 : decode cX8_phase 36 = .ok (.new 79, 3) := by decide +kernel
theorem dX8_phase_39 : decode cX8_phase 39 = .ok (.dup, 1) := by decide +kernel
theorem dX8_phase_40 : decode cX8_phase 40 = .ok (.aload_n 0, 1) := by decide +kernel
theorem dX8_phase_41 : decode cX8_phase 41 = .ok (.getfield 10, 3) := by decide +kernel
theorem dX8_phase_44 : decode cX8_phase 44 = .ok (.invokevirtual 75, 3) := by decide +kernel
theorem dX8_phase_47 : decode cX8_phase 47 = .ok (.iload_n 1, 1) := by decide +kernel
theorem dX8_phase_48 : decode cX8_phase 48 = .ok (.invokespecial 81, 3) := by decide +kernel
theorem dX8_phase_51 : decode cX8_phase 51 = .ok (.astore_n 2, 1) := by decide +kernel
theorem dX8_phase_52 : decode cX8_phase 52 = .ok (.aload_n 0, 1) := by decide +kernel
theorem dX8_phase_53 : decode cX8_phase 53 = .ok (.getfield 10, 3) := by decide +kernel
theorem dX8_phase_56 : decode cX8_phase 56 = .ok (.aload_n 2, 1) := by decide +kernel
theorem dX8_phase_57 : decode cX8_phase 57 = .ok (.invokevirtual 84, 3) := by decide +kernel
theorem dX8_phase_60 : decode cX8_phase 60 = .ok (.pop, 1) := by decide +kernel
theorem dX8_phase_61 : decode cX8_phase 61 = .ok (.aload_n 2, 1) := by decide +kernel
theorem dX8_phase_62 : decode cX8_phase 62 = .ok (.getfield 88, 3) := by decide +kernel
theorem dX8_phase_65 : decode cX8_phase 65 = .ok (.ireturn, 1) := by decide +kernel
theorem dX8_conflict_0 : decode cX8_conflict 0 = .ok (.aload_n 0, 1) := by decide +kernel
theorem dX8_conflict_1 : decode cX8_conflict 1 = .ok (.iload_n 1, 1) := by decide +kernel
theorem dX8_conflict_2 : decode cX8_conflict 2 = .ok (.invokevirtual 91, 3) := by decide +kernel
theorem dX8_conflict_5 : decode cX8_conflict 5 = .ok (.astore 5, 2) := by decide +kernel
theorem dX8_conflict_7 : decode cX8_conflict 7 = .ok (.aload_n 0, 1) := by decide +kernel
theorem dX8_conflict_8 : decode cX8_conflict 8 = .ok (.iload_n 2, 1) := by decide +kernel
theorem dX8_conflict_9 : decode cX8_conflict 9 = .ok (.invokevirtual 91, 3) := by decide +kernel
theorem dX8_conflict_12 : decode cX8_conflict 12 = .ok (.astore 6, 2) := by decide +kernel
theorem dX8_conflict_14 : decode cX8_conflict 14 = .ok (.aload 5, 2) := by decide +kernel
theorem dX8_conflict_16 : decode cX8_conflict 16 = .ok (.ifnull 15, 3) := by decide +kernel
theorem dX8_conflict_19 : decode cX8_conflict 19 = .ok (.aload 6, 2) := by decide +kernel
theorem dX8_conflict_21 : decode cX8_conflict 21 = .ok (.ifnull 10, 3) := by decide +kernel
theorem dX8_conflict_24 : decode cX8_conflict 24 = .ok (.aload 5, 2) := by decide +kernel
theorem dX8_conflict_26 : decode cX8_conflict 26 = .ok (.aload 6, 2) := by decide +kernel
theorem dX8_conflict_28 : decode cX8_conflict 28 = .ok (.if_acmp .ne 5, 3) := by decide +kernel
theorem dX8_conflict_31 : decode cX8_conflict 31 = .ok (.iconst (-1), 1) := by decide +kernel
theorem dX8_conflict_32 : decode cX8_conflict 32 = .ok (.ireturn, 1) := by decide +kernel
theorem dX8_conflict_33 : decode cX8_conflict 33 = .ok (.iload_n 3, 1) := by decide +kernel
theorem dX8_conflict_34 : decode cX8_conflict 34 = .ok (.iconst 0, 1) := by decide +kernel
theorem dX8_conflict_35 : decode cX8_conflict 35 = .ok (.bipush 20, 2) := by decide +kernel
theorem dX8_conflict_37 : decode cX8_conflict 37 = .ok (.invokestatic 95, 3) := by decide +kernel
theorem dX8_conflict_40 : decode cX8_conflict 40 = .ok (.ifCond .eq 14, 3) := by decide +kernel
theorem dX8_conflict_43 : decode cX8_conflict 43 = .ok (.iload 4, 2) := by decide +kernel
theorem dX8_conflict_45 : decode cX8_conflict 45 = .ok (.iconst 0, 1) := by decide +kernel
theorem dX8_conflict_46 : decode cX8_conflict 46 = .ok (.bipush 20, 2) := by decide +kernel
theorem dX8_conflict_48 : decode cX8_conflict 48 = .ok (.invokestatic 95, 3) := by decide +kernel
theorem dX8_conflict_51 : decode cX8_conflict 51 = .ok (.ifCond .ne 5, 3) := by decide +kernel
theorem dX8_conflict_54 : decode cX8_conflict 54 = .ok (.iconst (-1), 1) := by decide +kernel
theorem dX8_conflict_55 : decode cX8_conflict 55 = .ok (.ireturn, 1) := by decide +kernel
theorem dX8_conflict_56 : decode cX8_conflict 56 = .ok (.aload_n 0, 1) := by decide +kernel
theorem dX8_conflict_57 : decode cX8_conflict 57 = .ok (.getfield 49, 3) := by decide +kernel
theorem dX8_conflict_60 : decode cX8_conflict 60 = .ok (.ifCond .le 6, 3) := by decide +kernel
theorem dX8_conflict_63 : decode cX8_conflict 63 = .ok (.bipush (-3), 2) := by decide +kernel
theorem dX8_conflict_65 : decode cX8_conflict 65 = .ok (.ireturn, 1) := by decide +kernel
theorem dX8_conflict_66 : decode cX8_conflict 66 = .ok (.iconst 0, 1) := by decide +kernel
theorem dX8_conflict_67 : decode cX8_conflict 67 = .ok (.istore 7, 2) := by decide +kernel
theorem dX8_conflict_69 : decode cX8_conflict 69 = .ok (.iload 7, 2) := by decide +kernel
theorem dX8_conflict_71 : decode cX8_conflict 71 = .ok (.aload_n 0, 1) := by decide +kernel
theorem dX8_conflict_72 : decode cX8_conflict 72 = .ok (.getfield 16, 3) := by decide +kernel
theorem dX8_conflict_75 : decode cX8_conflict 75 = .ok (.invokevirtual 75, 3) := by decide +kernel
theorem dX8_conflict_78 : decode cX8_conflict 78 = .ok (.if_icmp .ge 46, 3) := by decide +kernel
theorem dX8_conflict_81 : decode cX8_conflict 81 = .ok (.aload_n 0, 1) := by decide +kernel
theorem dX8_conflict_82 : decode cX8_conflict 82 = .ok (.getfield 16, 3) := by decide +kernel
theorem dX8_conflict_85 : decode cX8_conflict 85 = .ok (.iload 7, 2) := by decide +kernel
theorem dX8_conflict_87 : decode cX8_conflict 87 = .ok (.invokevirtual 99, 3) := by decide +kernel
theorem dX8_conflict_90 : decode cX8_conflict 90 = .ok (.checkcast 103, 3) := by decide +kernel
theorem dX8_conflict_93 : decode cX8_conflict 93 = .ok (.astore 8, 2) := by decide +kernel
theorem dX8_conflict_95 : decode cX8_conflict 95 = .ok (.aload 8, 2) := by decide +kernel
theorem dX8_conflict_97 : decode cX8_conflict 97 = .ok (.aload 5, 2) := by decide +kernel
theorem dX8_conflict_99 : decode cX8_conflict 99 = .ok (.invokevirtual 105, 3) := by decide +kernel
theorem dX8_conflict_102 : decode cX8_conflict 102 = .ok (.ifCond .eq 16, 3) := by decide +kernel
theorem dX8_conflict_105 : decode cX8_conflict 105 = .ok (.aload 8, 2) := by decide +kernel
theorem dX8_conflict_107 : decode cX8_conflict 107 = .ok (.aload 6, 2) := by decide +kernel
theorem dX8_conflict_109 : decode cX8_conflict 109 = .ok (.invokevirtual 105, 3) := by decide +kernel
theorem dX8_conflict_112 : decode cX8_conflict 112 = .ok (.ifCond .eq 6, 3) := by decide +kernel
theorem dX8_conflict_115 : decode cX8_conflict 115 = .ok (.bipush (-4), 2) := by decide +kernel
theorem dX8_conflict_117 : decode cX8_conflict 117 = .ok (.ireturn, 1) := by decide +kernel
theorem dX8_conflict_118 : decode cX8_conflict 118 = .ok (.iinc 7 1, 3) := by decide +kernel
theorem dX8_conflict_121 : decode cX8_conflict 121 = .ok (.goto (-52), 3) := by decide +kernel
theorem dX8_conflict_124 : decode cX8_conflict 124 = .ok (.aload 5, 2) := by decide +kernel
theorem dX8_conflict_126 : decode cX8_conflict 126 = .ok (.aload 6, 2) := by decide +kernel
theorem dX8_conflict_128 : decode cX8_conflict 128 = .ok (.iload_n 3, 1) := by decide +kernel
theorem dX8_conflict_129 : decode cX8_conflict 129 = .ok (.invokevirtual 109, 3) := by decide +kernel
theorem dX8_conflict_132 : decode cX8_conflict 132 = .ok (.aload 6, 2) := by decide +kernel
theorem dX8_conflict_134 : decode cX8_conflict 134 = .ok (.aload 5, 2) := by decide +kernel
theorem dX8_conflict_136 : decode cX8_conflict 136 = .ok (.iload 4, 2) := by decide +kernel
theorem dX8_conflict_138 : decode cX8_conflict 138 = .ok (.invokevirtual 109, 3) := by decide +kernel
theorem dX8_conflict_141 : decode cX8_conflict 141 = .ok (.iconst 1, 1) := by decide +kernel
theorem dX8_conflict_142 : decode cX8_conflict 142 = .ok (.ireturn, 1) := by decide +kernel
theorem dX8_stage_0 : decode cX8_stage 0 = .ok (.iconst 4, 1) := by decide +kernel
theorem dX8_stage_1 : decode cX8_stage 1 = .ok (.newarray .int, 2) := by decide +kernel
theorem dX8_stage_3 : decode cX8_stage 3 = .ok (.dup, 1) := by decide +kernel
theorem dX8_stage_4 : decode cX8_stage 4 = .ok (.iconst 0, 1) := by decide +kernel
theorem dX8_stage_5 : decode cX8_stage 5 = .ok (.iload_n 1, 1) := by decide +kernel
theorem dX8_stage_6 : decode cX8_stage 6 = .ok (.iastore, 1) := by decide +kernel
theorem dX8_stage_7 : decode cX8_stage 7 = .ok (.dup, 1) := by decide +kernel
theorem dX8_stage_8 : decode cX8_stage 8 = .ok (.iconst 1, 1) := by decide +kernel
theorem dX8_stage_9 : decode cX8_stage 9 = .ok (.iload_n 2, 1) := by decide +kernel
theorem dX8_stage_10 : decode cX8_stage 10 = .ok (.iastore, 1) := by decide +kernel
theorem dX8_stage_11 : decode cX8_stage 11 = .ok (.dup, 1) := by decide +kernel
theorem dX8_stage_12 : decode cX8_stage 12 = .ok (.iconst 2, 1) := by decide +kernel
theorem dX8_stage_13 : decode cX8_stage 13 = .ok (.iload_n 3, 1) := by decide +kernel
theorem dX8_stage_14 : decode cX8_stage 14 = .ok (.iastore, 1) := by decide +kernel
theorem dX8_stage_15 : decode cX8_stage 15 = .ok (.dup, 1) := by decide +kernel
theorem dX8_stage_16 : decode cX8_stage 16 = .ok (.iconst 3, 1) := by decide +kernel
theorem dX8_stage_17 : decode cX8_stage 17 = .ok (.iload 4, 2) := by decide +kernel
theorem dX8_stage_19 : decode cX8_stage 19 = .ok (.iastore, 1) := by decide +kernel
theorem dX8_stage_20 : decode cX8_stage 20 = .ok (.astore 5, 2) := by decide +kernel
theorem dX8_stage_22 : decode cX8_stage 22 = .ok (.new 103, 3) := by decide +kernel
theorem dX8_stage_25 : decode cX8_stage 25 = .ok (.dup, 1) := by decide +kernel
theorem dX8_stage_26 : decode cX8_stage 26 = .ok (.aload_n 0, 1) := by decide +kernel
theorem dX8_stage_27 : decode cX8_stage 27 = .ok (.getfield 16, 3) := by decide +kernel
theorem dX8_stage_30 : decode cX8_stage 30 = .ok (.invokevirtual 75, 3) := by decide +kernel
theorem dX8_stage_33 : decode cX8_stage 33 = .ok (.invokespecial 113, 3) := by decide +kernel
theorem dX8_stage_36 : decode cX8_stage 36 = .ok (.astore 6, 2) := by decide +kernel
theorem dX8_stage_38 : decode cX8_stage 38 = .ok (.iconst 0, 1) := by decide +kernel
theorem dX8_stage_39 : decode cX8_stage 39 = .ok (.istore 7, 2) := by decide +kernel
theorem dX8_stage_41 : decode cX8_stage 41 = .ok (.iload 7, 2) := by decide +kernel
theorem dX8_stage_43 : decode cX8_stage 43 = .ok (.aload 5, 2) := by decide +kernel
theorem dX8_stage_45 : decode cX8_stage 45 = .ok (.arraylength, 1) := by decide +kernel
theorem dX8_stage_46 : decode cX8_stage 46 = .ok (.if_icmp .ge 59, 3) := by decide +kernel
theorem dX8_stage_49 : decode cX8_stage 49 = .ok (.aload 5, 2) := by decide +kernel
theorem dX8_stage_51 : decode cX8_stage 51 = .ok (.iload 7, 2) := by decide +kernel
theorem dX8_stage_53 : decode cX8_stage 53 = .ok (.iaload, 1) := by decide +kernel
theorem dX8_stage_54 : decode cX8_stage 54 = .ok (.bipush (-5), 2) := by decide +kernel
theorem dX8_stage_56 : decode cX8_stage 56 = .ok (.if_icmp .ne 6, 3) := by decide +kernel
theorem dX8_stage_59 : decode cX8_stage 59 = .ok (.goto 40, 3) := by decide +kernel
theorem dX8_stage_62 : decode cX8_stage 62 = .ok (.aload_n 0, 1) := by decide +kernel
theorem dX8_stage_63 : decode cX8_stage 63 = .ok (.aload 5, 2) := by decide +kernel
theorem dX8_stage_65 : decode cX8_stage 65 = .ok (.iload 7, 2) := by decide +kernel
theorem dX8_stage_67 : decode cX8_stage 67 = .ok (.iaload, 1) := by decide +kernel
theorem dX8_stage_68 : decode cX8_stage 68 = .ok (.invokevirtual 91, 3) := by decide +kernel
theorem dX8_stage_71 : decode cX8_stage 71 = .ok (.astore 8, 2) := by decide +kernel
theorem dX8_stage_73 : decode cX8_stage 73 = .ok (.aload 8, 2) := by decide +kernel
theorem dX8_stage_75 : decode cX8_stage 75 = .ok (.ifnull 13, 3) := by decide +kernel
theorem dX8_stage_78 : decode cX8_stage 78 = .ok (.aload 6, 2) := by decide +kernel
theorem dX8_stage_80 : decode cX8_stage 80 = .ok (.aload 8, 2) := by decide +kernel
theorem dX8_stage_82 : decode cX8_stage 82 = .ok (.invokevirtual 105, 3) := by decide +kernel
theorem dX8_stage_85 : decode cX8_stage 85 = .ok (.ifCond .eq 5, 3) := by decide +kernel
theorem dX8_stage_88 : decode cX8_stage 88 = .ok (.iconst (-1), 1) := by decide +kernel
theorem dX8_stage_89 : decode cX8_stage 89 = .ok (.ireturn, 1) := by decide +kernel
theorem dX8_stage_90 : decode cX8_stage 90 = .ok (.aload 6, 2) := by decide +kernel
theorem dX8_stage_92 : decode cX8_stage 92 = .ok (.iload 7, 2) := by decide +kernel
theorem dX8_stage_94 : decode cX8_stage 94 = .ok (.aload 8, 2) := by decide +kernel
theorem dX8_stage_96 : decode cX8_stage 96 = .ok (.invokevirtual 116, 3) := by decide +kernel
theorem dX8_stage_99 : decode cX8_stage 99 = .ok (.iinc 7 1, 3) := by decide +kernel
theorem dX8_stage_102 : decode cX8_stage 102 = .ok (.goto (-61), 3) := by decide +kernel
theorem dX8_stage_105 : decode cX8_stage 105 = .ok (.aload 6, 2) := by decide +kernel
theorem dX8_stage_107 : decode cX8_stage 107 = .ok (.invokevirtual 120, 3) := by decide +kernel
theorem dX8_stage_110 : decode cX8_stage 110 = .ok (.ifCond .eq 5, 3) := by decide +kernel
theorem dX8_stage_113 : decode cX8_stage 113 = .ok (.iconst (-1), 1) := by decide +kernel
theorem dX8_stage_114 : decode cX8_stage 114 = .ok (.ireturn, 1) := by decide +kernel
theorem dX8_stage_115 : decode cX8_stage 115 = .ok (.aload_n 0, 1) := by decide +kernel
theorem dX8_stage_116 : decode cX8_stage 116 = .ok (.getfield 49, 3) := by decide +kernel
theorem dX8_stage_119 : decode cX8_stage 119 = .ok (.ifCond .le 6, 3) := by decide +kernel
theorem dX8_stage_122 : decode cX8_stage 122 = .ok (.bipush (-3), 2) := by decide +kernel
theorem dX8_stage_124 : decode cX8_stage 124 = .ok (.ireturn, 1) := by decide +kernel
theorem dX8_stage_125 : decode cX8_stage 125 = .ok (.aload 6, 2) := by decide +kernel
theorem dX8_stage_127 : decode cX8_stage 127 = .ok (.invokevirtual 124, 3) := by decide +kernel
theorem dX8_stage_130 : decode cX8_stage 130 = .ok (.ifCond .eq 6, 3) := by decide +kernel
theorem dX8_stage_133 : decode cX8_stage 133 = .ok (.bipush (-4), 2) := by decide +kernel
theorem dX8_stage_135 : decode cX8_stage 135 = .ok (.ireturn, 1) := by decide +kernel
theorem dX8_stage_136 : decode cX8_stage 136 = .ok (.aload_n 0, 1) := by decide +kernel
theorem dX8_stage_137 : decode cX8_stage 137 = .ok (.getfield 16, 3) := by decide +kernel
theorem dX8_stage_140 : decode cX8_stage 140 = .ok (.invokevirtual 75, 3) := by decide +kernel
theorem dX8_stage_143 : decode cX8_stage 143 = .ok (.bipush 6, 2) := by decide +kernel
theorem dX8_stage_145 : decode cX8_stage 145 = .ok (.if_icmp .lt 6, 3) := by decide +kernel
theorem dX8_stage_148 : decode cX8_stage 148 = .ok (.bipush (-2), 2) := by decide +kernel
theorem dX8_stage_150 : decode cX8_stage 150 = .ok (.ireturn, 1) := by decide +kernel
theorem dX8_stage_151 : decode cX8_stage 151 = .ok (.aload_n 0, 1) := by decide +kernel
theorem dX8_stage_152 : decode cX8_stage 152 = .ok (.getfield 16, 3) := by decide +kernel
theorem dX8_stage_155 : decode cX8_stage 155 = .ok (.aload 6, 2) := by decide +kernel
theorem dX8_stage_157 : decode cX8_stage 157 = .ok (.invokevirtual 84, 3) := by decide +kernel
theorem dX8_stage_160 : decode cX8_stage 160 = .ok (.pop, 1) := by decide +kernel
theorem dX8_stage_161 : decode cX8_stage 161 = .ok (.aload 6, 2) := by decide +kernel
theorem dX8_stage_163 : decode cX8_stage 163 = .ok (.getfield 127, 3) := by decide +kernel
theorem dX8_stage_166 : decode cX8_stage 166 = .ok (.ireturn, 1) := by decide +kernel
theorem dX8_detector_0 : decode cX8_detector 0 = .ok (.aload_n 0, 1) := by decide +kernel
theorem dX8_detector_1 : decode cX8_detector 1 = .ok (.iload_n 1, 1) := by decide +kernel
theorem dX8_detector_2 : decode cX8_detector 2 = .ok (.invokevirtual 91, 3) := by decide +kernel
theorem dX8_detector_5 : decode cX8_detector 5 = .ok (.astore_n 2, 1) := by decide +kernel
theorem dX8_detector_6 : decode cX8_detector 6 = .ok (.aload_n 2, 1) := by decide +kernel
theorem dX8_detector_7 : decode cX8_detector 7 = .ok (.ifnonnull 5, 3) := by decide +kernel
theorem dX8_detector_10 : decode cX8_detector 10 = .ok (.iconst (-1), 1) := by decide +kernel
theorem dX8_detector_11 : decode cX8_detector 11 = .ok (.ireturn, 1) := by decide +kernel
theorem dX8_detector_12 : decode cX8_detector 12 = .ok (.aload_n 0, 1) := by decide +kernel
theorem dX8_detector_13 : decode cX8_detector 13 = .ok (.getfield 19, 3) := by decide +kernel
theorem dX8_detector_16 : decode cX8_detector 16 = .ok (.invokevirtual 75, 3) := by decide +kernel
theorem dX8_detector_19 : decode cX8_detector 19 = .ok (.bipush 12, 2) := by decide +kernel
theorem dX8_detector_21 : decode cX8_detector 21 = .ok (.if_icmp .lt 6, 3) := by decide +kernel
theorem dX8_detector_24 : decode cX8_detector 24 = .ok (.bipush (-2), 2) := by decide +kernel
theorem dX8_detector_26 : decode cX8_detector 26 = .ok (.ireturn, 1) := by decide +kernel
theorem dX8_detector_27 : decode cX8_detector 27 = .ok (.new 128, 3) := by decide +kernel
theorem dX8_detector_30 : decode cX8_detector 30 = .ok (.dup, 1) := by decide +kernel
theorem dX8_detector_31 : decode cX8_detector 31 = .ok (.aload_n 0, 1) := by decide +kernel
theorem dX8_detector_32 : decode cX8_detector 32 = .ok (.getfield 19, 3) := by decide +kernel
theorem dX8_detector_35 : decode cX8_detector 35 = .ok (.invokevirtual 75, 3) := by decide +kernel
theorem dX8_detector_38 : decode cX8_detector 38 = .ok (.invokespecial 130, 3) := by decide +kernel
theorem dX8_detector_41 : decode cX8_detector 41 = .ok (.astore_n 3, 1) := by decide +kernel
theorem dX8_detector_42 : decode cX8_detector 42 = .ok (.aload_n 0, 1) := by decide +kernel
theorem dX8_detector_43 : decode cX8_detector 43 = .ok (.getfield 19, 3) := by decide +kernel
theorem dX8_detector_46 : decode cX8_detector 46 = .ok (.aload_n 3, 1) := by decide +kernel
theorem dX8_detector_47 : decode cX8_detector 47 = .ok (.invokevirtual 84, 3) := by decide +kernel
theorem dX8_detector_50 : decode cX8_detector 50 = .ok (.pop, 1) := by decide +kernel
theorem dX8_detector_51 : decode cX8_detector 51 = .ok (.aload_n 2, 1) := by decide +kernel
theorem dX8_detector_52 : decode cX8_detector 52 = .ok (.aload_n 3, 1) := by decide +kernel
theorem dX8_detector_53 : decode cX8_detector 53 = .ok (.putfield 131, 3) := by decide +kernel
theorem dX8_detector_56 : decode cX8_detector 56 = .ok (.aload_n 3, 1) := by decide +kernel
theorem dX8_detector_57 : decode cX8_detector 57 = .ok (.getfield 135, 3) := by decide +kernel
theorem dX8_detector_60 : decode cX8_detector 60 = .ok (.ireturn, 1) := by decide +kernel
theorem dX8_cut_0 : decode cX8_cut 0 = .ok (.aload_n 0, 1) := by decide +kernel
theorem dX8_cut_1 : decode cX8_cut 1 = .ok (.iload_n 1, 1) := by decide +kernel
theorem dX8_cut_2 : decode cX8_cut 2 = .ok (.invokevirtual 136, 3) := by decide +kernel
theorem dX8_cut_5 : decode cX8_cut 5 = .ok (.astore_n 2, 1) := by decide +kernel
theorem dX8_cut_6 : decode cX8_cut 6 = .ok (.aload_n 2, 1) := by decide +kernel
theorem dX8_cut_7 : decode cX8_cut 7 = .ok (.ifnonnull 5, 3) := by decide +kernel
theorem dX8_cut_10 : decode cX8_cut 10 = .ok (.iconst (-1), 1) := by decide +kernel
theorem dX8_cut_11 : decode cX8_cut 11 = .ok (.ireturn, 1) := by decide +kernel
theorem dX8_cut_12 : decode cX8_cut 12 = .ok (.aload_n 2, 1) := by decide +kernel
theorem dX8_cut_13 : decode cX8_cut 13 = .ok (.invokevirtual 140, 3) := by decide +kernel
theorem dX8_cut_16 : decode cX8_cut 16 = .ok (.ifCond .eq 6, 3) := by decide +kernel
theorem dX8_cut_19 : decode cX8_cut 19 = .ok (.bipush (-3), 2) := by decide +kernel
theorem dX8_cut_21 : decode cX8_cut 21 = .ok (.ireturn, 1) := by decide +kernel
theorem dX8_cut_22 : decode cX8_cut 22 = .ok (.aload_n 2, 1) := by decide +kernel
theorem dX8_cut_23 : decode cX8_cut 23 = .ok (.invokevirtual 143, 3) := by decide +kernel
theorem dX8_cut_26 : decode cX8_cut 26 = .ok (.ireturn, 1) := by decide +kernel
theorem dX8_passing_0 : decode cX8_passing 0 = .ok (.aload_n 0, 1) := by decide +kernel
theorem dX8_passing_1 : decode cX8_passing 1 = .ok (.iload_n 1, 1) := by decide +kernel
theorem dX8_passing_2 : decode cX8_passing 2 = .ok (.invokevirtual 136, 3) := by decide +kernel
theorem dX8_passing_5 : decode cX8_passing 5 = .ok (.astore 4, 2) := by decide +kernel
theorem dX8_passing_7 : decode cX8_passing 7 = .ok (.aload 4, 2) := by decide +kernel
theorem dX8_passing_9 : decode cX8_passing 9 = .ok (.ifnonnull 5, 3) := by decide +kernel
theorem dX8_passing_12 : decode cX8_passing 12 = .ok (.iconst (-1), 1) := by decide +kernel
theorem dX8_passing_13 : decode cX8_passing 13 = .ok (.ireturn, 1) := by decide +kernel
theorem dX8_passing_14 : decode cX8_passing 14 = .ok (.iload_n 2, 1) := by decide +kernel
theorem dX8_passing_15 : decode cX8_passing 15 = .ok (.bipush (-128), 2) := by decide +kernel
theorem dX8_passing_17 : decode cX8_passing 17 = .ok (.bipush 127, 2) := by decide +kernel
theorem dX8_passing_19 : decode cX8_passing 19 = .ok (.invokestatic 95, 3) := by decide +kernel
theorem dX8_passing_22 : decode cX8_passing 22 = .ok (.ifCond .ne 5, 3) := by decide +kernel
theorem dX8_passing_25 : decode cX8_passing 25 = .ok (.iconst (-1), 1) := by decide +kernel
theorem dX8_passing_26 : decode cX8_passing 26 = .ok (.ireturn, 1) := by decide +kernel
theorem dX8_passing_27 : decode cX8_passing 27 = .ok (.iload_n 3, 1) := by decide +kernel
theorem dX8_passing_28 : decode cX8_passing 28 = .ok (.iconst 0, 1) := by decide +kernel
theorem dX8_passing_29 : decode cX8_passing 29 = .ok (.sipush 10000, 3) := by decide +kernel
theorem dX8_passing_32 : decode cX8_passing 32 = .ok (.invokestatic 95, 3) := by decide +kernel
theorem dX8_passing_35 : decode cX8_passing 35 = .ok (.ifCond .ne 5, 3) := by decide +kernel
theorem dX8_passing_38 : decode cX8_passing 38 = .ok (.iconst (-1), 1) := by decide +kernel
theorem dX8_passing_39 : decode cX8_passing 39 = .ok (.ireturn, 1) := by decide +kernel
theorem dX8_passing_40 : decode cX8_passing 40 = .ok (.aload 4, 2) := by decide +kernel
theorem dX8_passing_42 : decode cX8_passing 42 = .ok (.invokevirtual 140, 3) := by decide +kernel
theorem dX8_passing_45 : decode cX8_passing 45 = .ok (.ifCond .eq 6, 3) := by decide +kernel
theorem dX8_passing_48 : decode cX8_passing 48 = .ok (.bipush (-3), 2) := by decide +kernel
theorem dX8_passing_50 : decode cX8_passing 50 = .ok (.ireturn, 1) := by decide +kernel
theorem dX8_passing_51 : decode cX8_passing 51 = .ok (.aload 4, 2) := by decide +kernel
theorem dX8_passing_53 : decode cX8_passing 53 = .ok (.iload_n 2, 1) := by decide +kernel
theorem dX8_passing_54 : decode cX8_passing 54 = .ok (.iload_n 3, 1) := by decide +kernel
theorem dX8_passing_55 : decode cX8_passing 55 = .ok (.invokevirtual 146, 3) := by decide +kernel
theorem dX8_passing_58 : decode cX8_passing 58 = .ok (.ifCond .eq 11, 3) := by decide +kernel
theorem dX8_passing_61 : decode cX8_passing 61 = .ok (.aload 4, 2) := by decide +kernel
theorem dX8_passing_63 : decode cX8_passing 63 = .ok (.getfield 150, 3) := by decide +kernel
theorem dX8_passing_66 : decode cX8_passing 66 = .ok (.goto 5, 3) := by decide +kernel
theorem dX8_passing_69 : decode cX8_passing 69 = .ok (.bipush (-2), 2) := by decide +kernel
theorem dX8_passing_71 : decode cX8_passing 71 = .ok (.ireturn, 1) := by decide +kernel
theorem dX8_table_0 : decode cX8_table 0 = .ok (.aload_n 0, 1) := by decide +kernel
theorem dX8_table_1 : decode cX8_table 1 = .ok (.iload_n 1, 1) := by decide +kernel
theorem dX8_table_2 : decode cX8_table 2 = .ok (.invokevirtual 91, 3) := by decide +kernel
theorem dX8_table_5 : decode cX8_table 5 = .ok (.astore 6, 2) := by decide +kernel
theorem dX8_table_7 : decode cX8_table 7 = .ok (.aload 6, 2) := by decide +kernel
theorem dX8_table_9 : decode cX8_table 9 = .ok (.ifnull 12, 3) := by decide +kernel
theorem dX8_table_12 : decode cX8_table 12 = .ok (.iload 5, 2) := by decide +kernel
theorem dX8_table_14 : decode cX8_table 14 = .ok (.aload_n 0, 1) := by decide +kernel
theorem dX8_table_15 : decode cX8_table 15 = .ok (.getfield 49, 3) := by decide +kernel
theorem dX8_table_18 : decode cX8_table 18 = .ok (.if_icmp .ge 5, 3) := by decide +kernel
theorem dX8_table_21 : decode cX8_table 21 = .ok (.iconst (-1), 1) := by decide +kernel
theorem dX8_table_22 : decode cX8_table 22 = .ok (.ireturn, 1) := by decide +kernel
theorem dX8_table_23 : decode cX8_table 23 = .ok (.iload_n 2, 1) := by decide +kernel
theorem dX8_table_24 : decode cX8_table 24 = .ok (.iconst 1, 1) := by decide +kernel
theorem dX8_table_25 : decode cX8_table 25 = .ok (.bipush 60, 2) := by decide +kernel
theorem dX8_table_27 : decode cX8_table 27 = .ok (.invokestatic 95, 3) := by decide +kernel
theorem dX8_table_30 : decode cX8_table 30 = .ok (.ifCond .ne 5, 3) := by decide +kernel
theorem dX8_table_33 : decode cX8_table 33 = .ok (.iconst (-1), 1) := by decide +kernel
theorem dX8_table_34 : decode cX8_table 34 = .ok (.ireturn, 1) := by decide +kernel
theorem dX8_table_35 : decode cX8_table 35 = .ok (.iload_n 3, 1) := by decide +kernel
theorem dX8_table_36 : decode cX8_table 36 = .ok (.iload_n 2, 1) := by decide +kernel
theorem dX8_table_37 : decode cX8_table 37 = .ok (.bipush 120, 2) := by decide +kernel
theorem dX8_table_39 : decode cX8_table 39 = .ok (.invokestatic 95, 3) := by decide +kernel
theorem dX8_table_42 : decode cX8_table 42 = .ok (.ifCond .ne 5, 3) := by decide +kernel
theorem dX8_table_45 : decode cX8_table 45 = .ok (.iconst (-1), 1) := by decide +kernel
theorem dX8_table_46 : decode cX8_table 46 = .ok (.ireturn, 1) := by decide +kernel
theorem dX8_table_47 : decode cX8_table 47 = .ok (.iload 4, 2) := by decide +kernel
theorem dX8_table_49 : decode cX8_table 49 = .ok (.iconst 0, 1) := by decide +kernel
theorem dX8_table_50 : decode cX8_table 50 = .ok (.bipush 9, 2) := by decide +kernel
theorem dX8_table_52 : decode cX8_table 52 = .ok (.invokestatic 95, 3) := by decide +kernel
theorem dX8_table_55 : decode cX8_table 55 = .ok (.ifCond .ne 5, 3) := by decide +kernel
theorem dX8_table_58 : decode cX8_table 58 = .ok (.iconst (-1), 1) := by decide +kernel
theorem dX8_table_59 : decode cX8_table 59 = .ok (.ireturn, 1) := by decide +kernel
theorem dX8_table_60 : decode cX8_table 60 = .ok (.aload_n 0, 1) := by decide +kernel
theorem dX8_table_61 : decode cX8_table 61 = .ok (.getfield 22, 3) := by decide +kernel
theorem dX8_table_64 : decode cX8_table 64 = .ok (.invokevirtual 75, 3) := by decide +kernel
theorem dX8_table_67 : decode cX8_table 67 = .ok (.bipush 16, 2) := by decide +kernel
theorem dX8_table_69 : decode cX8_table 69 = .ok (.if_icmp .lt 6, 3) := by decide +kernel
theorem dX8_table_72 : decode cX8_table 72 = .ok (.bipush (-2), 2) := by decide +kernel
theorem dX8_table_74 : decode cX8_table 74 = .ok (.ireturn, 1) := by decide +kernel
theorem dX8_table_75 : decode cX8_table 75 = .ok (.aload_n 0, 1) := by decide +kernel
theorem dX8_table_76 : decode cX8_table 76 = .ok (.getfield 22, 3) := by decide +kernel
theorem dX8_table_79 : decode cX8_table 79 = .ok (.new 152, 3) := by decide +kernel
theorem dX8_table_82 : decode cX8_table 82 = .ok (.dup, 1) := by decide +kernel
theorem dX8_table_83 : decode cX8_table 83 = .ok (.aload 6, 2) := by decide +kernel
theorem dX8_table_85 : decode cX8_table 85 = .ok (.iload_n 2, 1) := by decide +kernel
theorem dX8_table_86 : decode cX8_table 86 = .ok (.iload_n 3, 1) := by decide +kernel
theorem dX8_table_87 : decode cX8_table 87 = .ok (.iload 4, 2) := by decide +kernel
theorem dX8_table_89 : decode cX8_table 89 = .ok (.iload 5, 2) := by decide +kernel
theorem dX8_table_91 : decode cX8_table 91 = .ok (.invokespecial 154, 3) := by decide +kernel
theorem dX8_table_94 : decode cX8_table 94 = .ok (.invokevirtual 84, 3) := by decide +kernel
theorem dX8_table_97 : decode cX8_table 97 = .ok (.pop, 1) := by decide +kernel
theorem dX8_table_98 : decode cX8_table 98 = .ok (.aload_n 0, 1) := by decide +kernel
theorem dX8_table_99 : decode cX8_table 99 = .ok (.getfield 22, 3) := by decide +kernel
theorem dX8_table_102 : decode cX8_table 102 = .ok (.invokevirtual 75, 3) := by decide +kernel
theorem dX8_table_105 : decode cX8_table 105 = .ok (.ireturn, 1) := by decide +kernel
theorem dX8_lamp_0 : decode cX8_lamp 0 = .ok (.aload_n 0, 1) := by decide +kernel
theorem dX8_lamp_1 : decode cX8_lamp 1 = .ok (.iload_n 1, 1) := by decide +kernel
theorem dX8_lamp_2 : decode cX8_lamp 2 = .ok (.invokevirtual 91, 3) := by decide +kernel
theorem dX8_lamp_5 : decode cX8_lamp 5 = .ok (.astore_n 3, 1) := by decide +kernel
theorem dX8_lamp_6 : decode cX8_lamp 6 = .ok (.aload_n 3, 1) := by decide +kernel
theorem dX8_lamp_7 : decode cX8_lamp 7 = .ok (.ifnonnull 5, 3) := by decide +kernel
theorem dX8_lamp_10 : decode cX8_lamp 10 = .ok (.iconst (-1), 1) := by decide +kernel
theorem dX8_lamp_11 : decode cX8_lamp 11 = .ok (.ireturn, 1) := by decide +kernel
theorem dX8_lamp_12 : decode cX8_lamp 12 = .ok (.aload_n 3, 1) := by decide +kernel
theorem dX8_lamp_13 : decode cX8_lamp 13 = .ok (.getfield 157, 3) := by decide +kernel
theorem dX8_lamp_16 : decode cX8_lamp 16 = .ok (.ifCond .eq 7, 3) := by decide +kernel
theorem dX8_lamp_19 : decode cX8_lamp 19 = .ok (.iconst 1, 1) := by decide +kernel
theorem dX8_lamp_20 : decode cX8_lamp 20 = .ok (.goto 4, 3) := by decide +kernel
theorem dX8_lamp_23 : decode cX8_lamp 23 = .ok (.iconst 0, 1) := by decide +kernel
theorem dX8_lamp_24 : decode cX8_lamp 24 = .ok (.istore 4, 2) := by decide +kernel
theorem dX8_lamp_26 : decode cX8_lamp 26 = .ok (.aload_n 3, 1) := by decide +kernel
theorem dX8_lamp_27 : decode cX8_lamp 27 = .ok (.iload_n 2, 1) := by decide +kernel
theorem dX8_lamp_28 : decode cX8_lamp 28 = .ok (.putfield 157, 3) := by decide +kernel
theorem dX8_lamp_31 : decode cX8_lamp 31 = .ok (.iload 4, 2) := by decide +kernel
theorem dX8_lamp_33 : decode cX8_lamp 33 = .ok (.ireturn, 1) := by decide +kernel
theorem dX8_pair_0 : decode cX8_pair 0 = .ok (.aload_n 0, 1) := by decide +kernel
theorem dX8_pair_1 : decode cX8_pair 1 = .ok (.iload_n 1, 1) := by decide +kernel
theorem dX8_pair_2 : decode cX8_pair 2 = .ok (.invokevirtual 136, 3) := by decide +kernel
theorem dX8_pair_5 : decode cX8_pair 5 = .ok (.astore 4, 2) := by decide +kernel
theorem dX8_pair_7 : decode cX8_pair 7 = .ok (.aload_n 0, 1) := by decide +kernel
theorem dX8_pair_8 : decode cX8_pair 8 = .ok (.iload_n 2, 1) := by decide +kernel
theorem dX8_pair_9 : decode cX8_pair 9 = .ok (.invokevirtual 136, 3) := by decide +kernel
theorem dX8_pair_12 : decode cX8_pair 12 = .ok (.astore 5, 2) := by decide +kernel
theorem dX8_pair_14 : decode cX8_pair 14 = .ok (.aload 4, 2) := by decide +kernel
theorem dX8_pair_16 : decode cX8_pair 16 = .ok (.ifnull 15, 3) := by decide +kernel
theorem dX8_pair_19 : decode cX8_pair 19 = .ok (.aload 5, 2) := by decide +kernel
theorem dX8_pair_21 : decode cX8_pair 21 = .ok (.ifnull 10, 3) := by decide +kernel
theorem dX8_pair_24 : decode cX8_pair 24 = .ok (.aload 4, 2) := by decide +kernel
theorem dX8_pair_26 : decode cX8_pair 26 = .ok (.aload 5, 2) := by decide +kernel
theorem dX8_pair_28 : decode cX8_pair 28 = .ok (.if_acmp .ne 5, 3) := by decide +kernel
theorem dX8_pair_31 : decode cX8_pair 31 = .ok (.iconst (-1), 1) := by decide +kernel
theorem dX8_pair_32 : decode cX8_pair 32 = .ok (.ireturn, 1) := by decide +kernel
theorem dX8_pair_33 : decode cX8_pair 33 = .ok (.iload_n 3, 1) := by decide +kernel
theorem dX8_pair_34 : decode cX8_pair 34 = .ok (.iconst 1, 1) := by decide +kernel
theorem dX8_pair_35 : decode cX8_pair 35 = .ok (.bipush 60, 2) := by decide +kernel
theorem dX8_pair_37 : decode cX8_pair 37 = .ok (.invokestatic 95, 3) := by decide +kernel
theorem dX8_pair_40 : decode cX8_pair 40 = .ok (.ifCond .ne 5, 3) := by decide +kernel
theorem dX8_pair_43 : decode cX8_pair 43 = .ok (.iconst (-1), 1) := by decide +kernel
theorem dX8_pair_44 : decode cX8_pair 44 = .ok (.ireturn, 1) := by decide +kernel
theorem dX8_pair_45 : decode cX8_pair 45 = .ok (.aload_n 0, 1) := by decide +kernel
theorem dX8_pair_46 : decode cX8_pair 46 = .ok (.getfield 25, 3) := by decide +kernel
theorem dX8_pair_49 : decode cX8_pair 49 = .ok (.invokevirtual 75, 3) := by decide +kernel
theorem dX8_pair_52 : decode cX8_pair 52 = .ok (.bipush 6, 2) := by decide +kernel
theorem dX8_pair_54 : decode cX8_pair 54 = .ok (.if_icmp .lt 6, 3) := by decide +kernel
theorem dX8_pair_57 : decode cX8_pair 57 = .ok (.bipush (-2), 2) := by decide +kernel
theorem dX8_pair_59 : decode cX8_pair 59 = .ok (.ireturn, 1) := by decide +kernel
theorem dX8_pair_60 : decode cX8_pair 60 = .ok (.aload_n 0, 1) := by decide +kernel
theorem dX8_pair_61 : decode cX8_pair 61 = .ok (.getfield 25, 3) := by decide +kernel
theorem dX8_pair_64 : decode cX8_pair 64 = .ok (.new 161, 3) := by decide +kernel
theorem dX8_pair_67 : decode cX8_pair 67 = .ok (.dup, 1) := by decide +kernel
theorem dX8_pair_68 : decode cX8_pair 68 = .ok (.aload 4, 2) := by decide +kernel
theorem dX8_pair_70 : decode cX8_pair 70 = .ok (.aload 5, 2) := by decide +kernel
theorem dX8_pair_72 : decode cX8_pair 72 = .ok (.iload_n 3, 1) := by decide +kernel
theorem dX8_pair_73 : decode cX8_pair 73 = .ok (.invokespecial 163, 3) := by decide +kernel
theorem dX8_pair_76 : decode cX8_pair 76 = .ok (.invokevirtual 84, 3) := by decide +kernel
theorem dX8_pair_79 : decode cX8_pair 79 = .ok (.pop, 1) := by decide +kernel
theorem dX8_pair_80 : decode cX8_pair 80 = .ok (.aload_n 0, 1) := by decide +kernel
theorem dX8_pair_81 : decode cX8_pair 81 = .ok (.getfield 25, 3) := by decide +kernel
theorem dX8_pair_84 : decode cX8_pair 84 = .ok (.invokevirtual 75, 3) := by decide +kernel
theorem dX8_pair_87 : decode cX8_pair 87 = .ok (.iconst 1, 1) := by decide +kernel
theorem dX8_pair_88 : decode cX8_pair 88 = .ok (.isub, 1) := by decide +kernel
theorem dX8_pair_89 : decode cX8_pair 89 = .ok (.ireturn, 1) := by decide +kernel
theorem dX8_ask_0 : decode cX8_ask 0 = .ok (.aload_n 0, 1) := by decide +kernel
theorem dX8_ask_1 : decode cX8_ask 1 = .ok (.iload_n 1, 1) := by decide +kernel
theorem dX8_ask_2 : decode cX8_ask 2 = .ok (.invokevirtual 91, 3) := by decide +kernel
theorem dX8_ask_5 : decode cX8_ask 5 = .ok (.astore_n 2, 1) := by decide +kernel
theorem dX8_ask_6 : decode cX8_ask 6 = .ok (.aload_n 2, 1) := by decide +kernel
theorem dX8_ask_7 : decode cX8_ask 7 = .ok (.ifnonnull 5, 3) := by decide +kernel
theorem dX8_ask_10 : decode cX8_ask 10 = .ok (.iconst (-1), 1) := by decide +kernel
theorem dX8_ask_11 : decode cX8_ask 11 = .ok (.ireturn, 1) := by decide +kernel
theorem dX8_ask_12 : decode cX8_ask 12 = .ok (.aload_n 2, 1) := by decide +kernel
theorem dX8_ask_13 : decode cX8_ask 13 = .ok (.invokevirtual 166, 3) := by decide +kernel
theorem dX8_ask_16 : decode cX8_ask 16 = .ok (.ifCond .ne 11, 3) := by decide +kernel
theorem dX8_ask_19 : decode cX8_ask 19 = .ok (.aload_n 2, 1) := by decide +kernel
theorem dX8_ask_20 : decode cX8_ask 20 = .ok (.getfield 169, 3) := by decide +kernel
theorem dX8_ask_23 : decode cX8_ask 23 = .ok (.iconst 1, 1) := by decide +kernel
theorem dX8_ask_24 : decode cX8_ask 24 = .ok (.if_icmp .ne 5, 3) := by decide +kernel
theorem dX8_ask_27 : decode cX8_ask 27 = .ok (.iconst 0, 1) := by decide +kernel
theorem dX8_ask_28 : decode cX8_ask 28 = .ok (.ireturn, 1) := by decide +kernel
theorem dX8_ask_29 : decode cX8_ask 29 = .ok (.aload_n 2, 1) := by decide +kernel
theorem dX8_ask_30 : decode cX8_ask 30 = .ok (.aload_n 0, 1) := by decide +kernel
theorem dX8_ask_31 : decode cX8_ask 31 = .ok (.getfield 49, 3) := by decide +kernel
theorem dX8_ask_34 : decode cX8_ask 34 = .ok (.putfield 172, 3) := by decide +kernel
theorem dX8_ask_37 : decode cX8_ask 37 = .ok (.iconst 1, 1) := by decide +kernel
theorem dX8_ask_38 : decode cX8_ask 38 = .ok (.ireturn, 1) := by decide +kernel
theorem dX8_hurry_0 : decode cX8_hurry 0 = .ok (.aload_n 0, 1) := by decide +kernel
theorem dX8_hurry_1 : decode cX8_hurry 1 = .ok (.iload_n 1, 1) := by decide +kernel
theorem dX8_hurry_2 : decode cX8_hurry 2 = .ok (.invokevirtual 175, 3) := by decide +kernel
theorem dX8_hurry_5 : decode cX8_hurry 5 = .ok (.astore_n 2, 1) := by decide +kernel
theorem dX8_hurry_6 : decode cX8_hurry 6 = .ok (.aload_n 2, 1) := by decide +kernel
theorem dX8_hurry_7 : decode cX8_hurry 7 = .ok (.ifnonnull 5, 3) := by decide +kernel
theorem dX8_hurry_10 : decode cX8_hurry 10 = .ok (.iconst (-1), 1) := by decide +kernel
theorem dX8_hurry_11 : decode cX8_hurry 11 = .ok (.ireturn, 1) := by decide +kernel
theorem dX8_hurry_12 : decode cX8_hurry 12 = .ok (.aload_n 0, 1) := by decide +kernel
theorem dX8_hurry_13 : decode cX8_hurry 13 = .ok (.getfield 38, 3) := by decide +kernel
theorem dX8_hurry_16 : decode cX8_hurry 16 = .ok (.getfield 179, 3) := by decide +kernel
theorem dX8_hurry_19 : decode cX8_hurry 19 = .ok (.ifCond .eq 6, 3) := by decide +kernel
theorem dX8_hurry_22 : decode cX8_hurry 22 = .ok (.bipush (-3), 2) := by decide +kernel
theorem dX8_hurry_24 : decode cX8_hurry 24 = .ok (.ireturn, 1) := by decide +kernel
theorem dX8_hurry_25 : decode cX8_hurry 25 = .ok (.aload_n 2, 1) := by decide +kernel
theorem dX8_hurry_26 : decode cX8_hurry 26 = .ok (.aload_n 0, 1) := by decide +kernel
theorem dX8_hurry_27 : decode cX8_hurry 27 = .ok (.getfield 56, 3) := by decide +kernel
theorem dX8_hurry_30 : decode cX8_hurry 30 = .ok (.if_acmp .ne 5, 3) := by decide +kernel
theorem dX8_hurry_33 : decode cX8_hurry 33 = .ok (.iconst 0, 1) := by decide +kernel
theorem dX8_hurry_34 : decode cX8_hurry 34 = .ok (.ireturn, 1) := by decide +kernel
theorem dX8_hurry_35 : decode cX8_hurry 35 = .ok (.aload_n 0, 1) := by decide +kernel
theorem dX8_hurry_36 : decode cX8_hurry 36 = .ok (.aload_n 2, 1) := by decide +kernel
theorem dX8_hurry_37 : decode cX8_hurry 37 = .ok (.putfield 69, 3) := by decide +kernel
theorem dX8_hurry_40 : decode cX8_hurry 40 = .ok (.iconst 1, 1) := by decide +kernel
theorem dX8_hurry_41 : decode cX8_hurry 41 = .ok (.ireturn, 1) := by decide +kernel
theorem dX8_second_0 : decode cX8_second 0 = .ok (.iload_n 1, 1) := by decide +kernel
theorem dX8_second_1 : decode cX8_second 1 = .ok (.iconst 0, 1) := by decide +kernel
theorem dX8_second_2 : decode cX8_second 2 = .ok (.iconst 4, 1) := by decide +kernel
theorem dX8_second_3 : decode cX8_second 3 = .ok (.invokestatic 95, 3) := by decide +kernel
theorem dX8_second_6 : decode cX8_second 6 = .ok (.ifCond .ne 5, 3) := by decide +kernel
theorem dX8_second_9 : decode cX8_second 9 = .ok (.iconst (-1), 1) := by decide +kernel
theorem dX8_second_10 : decode cX8_second 10 = .ok (.ireturn, 1) := by decide +kernel
theorem dX8_second_11 : decode cX8_second 11 = .ok (.aload_n 0, 1) := by decide +kernel
theorem dX8_second_12 : decode cX8_second 12 = .ok (.getfield 38, 3) := by decide +kernel
theorem dX8_second_15 : decode cX8_second 15 = .ok (.getfield 182, 3) := by decide +kernel
theorem dX8_second_18 : decode cX8_second 18 = .ok (.istore_n 2, 1) := by decide +kernel
theorem dX8_second_19 : decode cX8_second 19 = .ok (.iconst 0, 1) := by decide +kernel
theorem dX8_second_20 : decode cX8_second 20 = .ok (.istore_n 3, 1) := by decide +kernel
theorem dX8_second_21 : decode cX8_second 21 = .ok (.iload_n 3, 1) := by decide +kernel
theorem dX8_second_22 : decode cX8_second 22 = .ok (.iload_n 1, 1) := by decide +kernel
theorem dX8_second_23 : decode cX8_second 23 = .ok (.if_icmp .ge 75, 3) := by decide +kernel
theorem dX8_second_26 : decode cX8_second 26 = .ok (.aload_n 0, 1) := by decide +kernel
theorem dX8_second_27 : decode cX8_second 27 = .ok (.getfield 38, 3) := by decide +kernel
theorem dX8_second_30 : decode cX8_second 30 = .ok (.getfield 182, 3) := by decide +kernel
theorem dX8_second_33 : decode cX8_second 33 = .ok (.iload_n 2, 1) := by decide +kernel
theorem dX8_second_34 : decode cX8_second 34 = .ok (.if_icmp .ne 64, 3) := by decide +kernel
theorem dX8_second_37 : decode cX8_second 37 = .ok (.aload_n 0, 1) := by decide +kernel
theorem dX8_second_38 : decode cX8_second 38 = .ok (.aload_n 0, 1) := by decide +kernel
theorem dX8_second_39 : decode cX8_second 39 = .ok (.getfield 49, 3) := by decide +kernel
theorem dX8_second_42 : decode cX8_second 42 = .ok (.invokevirtual 185, 3) := by decide +kernel
theorem dX8_second_45 : decode cX8_second 45 = .ok (.aload_n 0, 1) := by decide +kernel
theorem dX8_second_46 : decode cX8_second 46 = .ok (.getfield 38, 3) := by decide +kernel
theorem dX8_second_49 : decode cX8_second 49 = .ok (.getfield 179, 3) := by decide +kernel
theorem dX8_second_52 : decode cX8_second 52 = .ok (.ifCond .ne 14, 3) := by decide +kernel
theorem dX8_second_55 : decode cX8_second 55 = .ok (.aload_n 0, 1) := by decide +kernel
theorem dX8_second_56 : decode cX8_second 56 = .ok (.aload_n 0, 1) := by decide +kernel
theorem dX8_second_57 : decode cX8_second 57 = .ok (.getfield 49, 3) := by decide +kernel
theorem dX8_second_60 : decode cX8_second 60 = .ok (.invokevirtual 188, 3) := by decide +kernel
theorem dX8_second_63 : decode cX8_second 63 = .ok (.goto 11, 3) := by decide +kernel
theorem dX8_second_66 : decode cX8_second 66 = .ok (.aload_n 0, 1) := by decide +kernel
theorem dX8_second_67 : decode cX8_second 67 = .ok (.aload_n 0, 1) := by decide +kernel
theorem dX8_second_68 : decode cX8_second 68 = .ok (.getfield 49, 3) := by decide +kernel
theorem dX8_second_71 : decode cX8_second 71 = .ok (.invokevirtual 191, 3) := by decide +kernel
theorem dX8_second_74 : decode cX8_second 74 = .ok (.aload_n 0, 1) := by decide +kernel
theorem dX8_second_75 : decode cX8_second 75 = .ok (.aload_n 0, 1) := by decide +kernel
theorem dX8_second_76 : decode cX8_second 76 = .ok (.getfield 49, 3) := by decide +kernel
theorem dX8_second_79 : decode cX8_second 79 = .ok (.invokevirtual 194, 3) := by decide +kernel
theorem dX8_second_82 : decode cX8_second 82 = .ok (.aload_n 0, 1) := by decide +kernel
theorem dX8_second_83 : decode cX8_second 83 = .ok (.dup, 1) := by decide +kernel
theorem dX8_second_84 : decode cX8_second 84 = .ok (.getfield 49, 3) := by decide +kernel
theorem dX8_second_87 : decode cX8_second 87 = .ok (.iconst 1, 1) := by decide +kernel
theorem dX8_second_88 : decode cX8_second 88 = .ok (.iadd, 1) := by decide +kernel
theorem dX8_second_89 : decode cX8_second 89 = .ok (.putfield 49, 3) := by decide +kernel
theorem dX8_second_92 : decode cX8_second 92 = .ok (.iinc 3 1, 3) := by decide +kernel
theorem dX8_second_95 : decode cX8_second 95 = .ok (.goto (-74), 3) := by decide +kernel
theorem dX8_second_98 : decode cX8_second 98 = .ok (.iload_n 3, 1) := by decide +kernel
theorem dX8_second_99 : decode cX8_second 99 = .ok (.ireturn, 1) := by decide +kernel
theorem dX8_alarm_0 : decode cX8_alarm 0 = .ok (.aload_n 0, 1) := by decide +kernel
theorem dX8_alarm_1 : decode cX8_alarm 1 = .ok (.getfield 38, 3) := by decide +kernel
theorem dX8_alarm_4 : decode cX8_alarm 4 = .ok (.getfield 179, 3) := by decide +kernel
theorem dX8_alarm_7 : decode cX8_alarm 7 = .ok (.ifCond .eq 6, 3) := by decide +kernel
theorem dX8_alarm_10 : decode cX8_alarm 10 = .ok (.bipush (-3), 2) := by decide +kernel
theorem dX8_alarm_12 : decode cX8_alarm 12 = .ok (.ireturn, 1) := by decide +kernel
theorem dX8_alarm_13 : decode cX8_alarm 13 = .ok (.aload_n 0, 1) := by decide +kernel
theorem dX8_alarm_14 : decode cX8_alarm 14 = .ok (.getfield 38, 3) := by decide +kernel
theorem dX8_alarm_17 : decode cX8_alarm 17 = .ok (.iconst 1, 1) := by decide +kernel
theorem dX8_alarm_18 : decode cX8_alarm 18 = .ok (.putfield 197, 3) := by decide +kernel
theorem dX8_alarm_21 : decode cX8_alarm 21 = .ok (.iconst 1, 1) := by decide +kernel
theorem dX8_alarm_22 : decode cX8_alarm 22 = .ok (.ireturn, 1) := by decide +kernel
theorem dX8_restore_0 : decode cX8_restore 0 = .ok (.aload_n 0, 1) := by decide +kernel
theorem dX8_restore_1 : decode cX8_restore 1 = .ok (.getfield 38, 3) := by decide +kernel
theorem dX8_restore_4 : decode cX8_restore 4 = .ok (.getfield 179, 3) := by decide +kernel
theorem dX8_restore_7 : decode cX8_restore 7 = .ok (.ifCond .ne 6, 3) := by decide +kernel
theorem dX8_restore_10 : decode cX8_restore 10 = .ok (.bipush (-3), 2) := by decide +kernel
theorem dX8_restore_12 : decode cX8_restore 12 = .ok (.ireturn, 1) := by decide +kernel
theorem dX8_restore_13 : decode cX8_restore 13 = .ok (.aload_n 0, 1) := by decide +kernel
theorem dX8_restore_14 : decode cX8_restore 14 = .ok (.getfield 38, 3) := by decide +kernel
theorem dX8_restore_17 : decode cX8_restore 17 = .ok (.iconst 0, 1) := by decide +kernel
theorem dX8_restore_18 : decode cX8_restore 18 = .ok (.putfield 179, 3) := by decide +kernel
theorem dX8_restore_21 : decode cX8_restore 21 = .ok (.aload_n 0, 1) := by decide +kernel
theorem dX8_restore_22 : decode cX8_restore 22 = .ok (.iconst 0, 1) := by decide +kernel
theorem dX8_restore_23 : decode cX8_restore 23 = .ok (.invokevirtual 200, 3) := by decide +kernel
theorem dX8_restore_26 : decode cX8_restore 26 = .ok (.iconst 1, 1) := by decide +kernel
theorem dX8_restore_27 : decode cX8_restore 27 = .ok (.ireturn, 1) := by decide +kernel
theorem dX8_light_0 : decode cX8_light 0 = .ok (.aload_n 0, 1) := by decide +kernel
theorem dX8_light_1 : decode cX8_light 1 = .ok (.iload_n 1, 1) := by decide +kernel
theorem dX8_light_2 : decode cX8_light 2 = .ok (.invokevirtual 91, 3) := by decide +kernel
theorem dX8_light_5 : decode cX8_light 5 = .ok (.astore_n 2, 1) := by decide +kernel
theorem dX8_light_6 : decode cX8_light 6 = .ok (.aload_n 2, 1) := by decide +kernel
theorem dX8_light_7 : decode cX8_light 7 = .ok (.ifnonnull 7, 3) := by decide +kernel
theorem dX8_light_10 : decode cX8_light 10 = .ok (.iconst (-1), 1) := by decide +kernel
theorem dX8_light_11 : decode cX8_light 11 = .ok (.goto 7, 3) := by decide +kernel
theorem dX8_light_14 : decode cX8_light 14 = .ok (.aload_n 2, 1) := by decide +kernel
theorem dX8_light_15 : decode cX8_light 15 = .ok (.getfield 169, 3) := by decide +kernel
theorem dX8_light_18 : decode cX8_light 18 = .ok (.ireturn, 1) := by decide +kernel
theorem dX8_was_0 : decode cX8_was 0 = .ok (.aload_n 0, 1) := by decide +kernel
theorem dX8_was_1 : decode cX8_was 1 = .ok (.iload_n 1, 1) := by decide +kernel
theorem dX8_was_2 : decode cX8_was 2 = .ok (.invokevirtual 91, 3) := by decide +kernel
theorem dX8_was_5 : decode cX8_was 5 = .ok (.astore_n 3, 1) := by decide +kernel
theorem dX8_was_6 : decode cX8_was 6 = .ok (.aload_n 3, 1) := by decide +kernel
theorem dX8_was_7 : decode cX8_was 7 = .ok (.ifnull 13, 3) := by decide +kernel
theorem dX8_was_10 : decode cX8_was 10 = .ok (.iload_n 2, 1) := by decide +kernel
theorem dX8_was_11 : decode cX8_was 11 = .ok (.iconst 0, 1) := by decide +kernel
theorem dX8_was_12 : decode cX8_was 12 = .ok (.bipush 60, 2) := by decide +kernel
theorem dX8_was_14 : decode cX8_was 14 = .ok (.invokestatic 95, 3) := by decide +kernel
theorem dX8_was_17 : decode cX8_was 17 = .ok (.ifCond .ne 5, 3) := by decide +kernel
theorem dX8_was_20 : decode cX8_was 20 = .ok (.iconst (-1), 1) := by decide +kernel
theorem dX8_was_21 : decode cX8_was 21 = .ok (.ireturn, 1) := by decide +kernel
theorem dX8_was_22 : decode cX8_was 22 = .ok (.iload_n 2, 1) := by decide +kernel
theorem dX8_was_23 : decode cX8_was 23 = .ok (.aload_n 0, 1) := by decide +kernel
theorem dX8_was_24 : decode cX8_was 24 = .ok (.getfield 49, 3) := by decide +kernel
theorem dX8_was_27 : decode cX8_was 27 = .ok (.if_icmp .ge 18, 3) := by decide +kernel
theorem dX8_was_30 : decode cX8_was 30 = .ok (.aload_n 3, 1) := by decide +kernel
theorem dX8_was_31 : decode cX8_was 31 = .ok (.aload_n 0, 1) := by decide +kernel
theorem dX8_was_32 : decode cX8_was 32 = .ok (.getfield 49, 3) := by decide +kernel
theorem dX8_was_35 : decode cX8_was 35 = .ok (.iconst 1, 1) := by decide +kernel
theorem dX8_was_36 : decode cX8_was 36 = .ok (.isub, 1) := by decide +kernel
theorem dX8_was_37 : decode cX8_was 37 = .ok (.iload_n 2, 1) := by decide +kernel
theorem dX8_was_38 : decode cX8_was 38 = .ok (.isub, 1) := by decide +kernel
theorem dX8_was_39 : decode cX8_was 39 = .ok (.invokevirtual 203, 3) := by decide +kernel
theorem dX8_was_42 : decode cX8_was 42 = .ok (.goto 5, 3) := by decide +kernel
theorem dX8_was_45 : decode cX8_was 45 = .ok (.bipush (-5), 2) := by decide +kernel
theorem dX8_was_47 : decode cX8_was 47 = .ok (.ireturn, 1) := by decide +kernel
theorem dX8_stageOf_0 : decode cX8_stageOf 0 = .ok (.iload_n 1, 1) := by decide +kernel
theorem dX8_stageOf_1 : decode cX8_stageOf 1 = .ok (.tableswitch 77 0 3 #[31, 39, 47, 55], 31) := by decide +kernel
theorem dX8_stageOf_32 : decode cX8_stageOf 32 = .ok (.aload_n 0, 1) := by decide +kernel
theorem dX8_stageOf_33 : decode cX8_stageOf 33 = .ok (.getfield 56, 3) := by decide +kernel
theorem dX8_stageOf_36 : decode cX8_stageOf 36 = .ok (.invokestatic 207, 3) := by decide +kernel
theorem dX8_stageOf_39 : decode cX8_stageOf 39 = .ok (.ireturn, 1) := by decide +kernel
theorem dX8_stageOf_40 : decode cX8_stageOf 40 = .ok (.aload_n 0, 1) := by decide +kernel
theorem dX8_stageOf_41 : decode cX8_stageOf 41 = .ok (.invokevirtual 211, 3) := by decide +kernel
theorem dX8_stageOf_44 : decode cX8_stageOf 44 = .ok (.invokestatic 207, 3) := by decide +kernel
theorem dX8_stageOf_47 : decode cX8_stageOf 47 = .ok (.ireturn, 1) := by decide +kernel
theorem dX8_stageOf_48 : decode cX8_stageOf 48 = .ok (.aload_n 0, 1) := by decide +kernel
theorem dX8_stageOf_49 : decode cX8_stageOf 49 = .ok (.getfield 69, 3) := by decide +kernel
theorem dX8_stageOf_52 : decode cX8_stageOf 52 = .ok (.invokestatic 207, 3) := by decide +kernel
theorem dX8_stageOf_55 : decode cX8_stageOf 55 = .ok (.ireturn, 1) := by decide +kernel
theorem dX8_stageOf_56 : decode cX8_stageOf 56 = .ok (.aload_n 0, 1) := by decide +kernel
theorem dX8_stageOf_57 : decode cX8_stageOf 57 = .ok (.getfield 56, 3) := by decide +kernel
theorem dX8_stageOf_60 : decode cX8_stageOf 60 = .ok (.ifnonnull 8, 3) := by decide +kernel
theorem dX8_stageOf_63 : decode cX8_stageOf 63 = .ok (.bipush (-5), 2) := by decide +kernel
theorem dX8_stageOf_65 : decode cX8_stageOf 65 = .ok (.goto 12, 3) := by decide +kernel
theorem dX8_stageOf_68 : decode cX8_stageOf 68 = .ok (.aload_n 0, 1) := by decide +kernel
theorem dX8_stageOf_69 : decode cX8_stageOf 69 = .ok (.getfield 49, 3) := by decide +kernel
theorem dX8_stageOf_72 : decode cX8_stageOf 72 = .ok (.aload_n 0, 1) := by decide +kernel
theorem dX8_stageOf_73 : decode cX8_stageOf 73 = .ok (.getfield 60, 3) := by decide +kernel
theorem dX8_stageOf_76 : decode cX8_stageOf 76 = .ok (.isub, 1) := by decide +kernel
theorem dX8_stageOf_77 : decode cX8_stageOf 77 = .ok (.ireturn, 1) := by decide +kernel
theorem dX8_stageOf_78 : decode cX8_stageOf 78 = .ok (.iconst (-1), 1) := by decide +kernel
theorem dX8_stageOf_79 : decode cX8_stageOf 79 = .ok (.ireturn, 1) := by decide +kernel
theorem dX8_place_0 : decode cX8_place 0 = .ok (.aload_n 0, 1) := by decide +kernel
theorem dX8_place_1 : decode cX8_place 1 = .ok (.iload_n 1, 1) := by decide +kernel
theorem dX8_place_2 : decode cX8_place 2 = .ok (.invokevirtual 175, 3) := by decide +kernel
theorem dX8_place_5 : decode cX8_place 5 = .ok (.astore_n 3, 1) := by decide +kernel
theorem dX8_place_6 : decode cX8_place 6 = .ok (.aload_n 3, 1) := by decide +kernel
theorem dX8_place_7 : decode cX8_place 7 = .ok (.ifnull 12, 3) := by decide +kernel
theorem dX8_place_10 : decode cX8_place 10 = .ok (.iload_n 2, 1) := by decide +kernel
theorem dX8_place_11 : decode cX8_place 11 = .ok (.iconst 0, 1) := by decide +kernel
theorem dX8_place_12 : decode cX8_place 12 = .ok (.iconst 3, 1) := by decide +kernel
theorem dX8_place_13 : decode cX8_place 13 = .ok (.invokestatic 95, 3) := by decide +kernel
theorem dX8_place_16 : decode cX8_place 16 = .ok (.ifCond .ne 5, 3) := by decide +kernel
theorem dX8_place_19 : decode cX8_place 19 = .ok (.iconst (-1), 1) := by decide +kernel
theorem dX8_place_20 : decode cX8_place 20 = .ok (.ireturn, 1) := by decide +kernel
theorem dX8_place_21 : decode cX8_place 21 = .ok (.aload_n 3, 1) := by decide +kernel
theorem dX8_place_22 : decode cX8_place 22 = .ok (.iload_n 2, 1) := by decide +kernel
theorem dX8_place_23 : decode cX8_place 23 = .ok (.invokevirtual 215, 3) := by decide +kernel
theorem dX8_place_26 : decode cX8_place 26 = .ok (.astore 4, 2) := by decide +kernel
theorem dX8_place_28 : decode cX8_place 28 = .ok (.aload 4, 2) := by decide +kernel
theorem dX8_place_30 : decode cX8_place 30 = .ok (.ifnull 9, 3) := by decide +kernel
theorem dX8_place_33 : decode cX8_place 33 = .ok (.aload 4, 2) := by decide +kernel
theorem dX8_place_35 : decode cX8_place 35 = .ok (.getfield 88, 3) := by decide +kernel
theorem dX8_place_38 : decode cX8_place 38 = .ok (.ireturn, 1) := by decide +kernel
theorem dX8_place_39 : decode cX8_place 39 = .ok (.aload_n 0, 1) := by decide +kernel
theorem dX8_place_40 : decode cX8_place 40 = .ok (.getfield 31, 3) := by decide +kernel
theorem dX8_place_43 : decode cX8_place 43 = .ok (.iconst 4, 1) := by decide +kernel
theorem dX8_place_44 : decode cX8_place 44 = .ok (.bipush (-5), 2) := by decide +kernel
theorem dX8_place_46 : decode cX8_place 46 = .ok (.invokevirtual 218, 3) := by decide +kernel
theorem dX8_place_49 : decode cX8_place 49 = .ok (.bipush (-5), 2) := by decide +kernel
theorem dX8_place_51 : decode cX8_place 51 = .ok (.ireturn, 1) := by decide +kernel
theorem dX8_told_0 : decode cX8_told 0 = .ok (.aload_n 0, 1) := by decide +kernel
theorem dX8_told_1 : decode cX8_told 1 = .ok (.iload_n 1, 1) := by decide +kernel
theorem dX8_told_2 : decode cX8_told 2 = .ok (.invokevirtual 91, 3) := by decide +kernel
theorem dX8_told_5 : decode cX8_told 5 = .ok (.astore_n 3, 1) := by decide +kernel
theorem dX8_told_6 : decode cX8_told 6 = .ok (.aload_n 3, 1) := by decide +kernel
theorem dX8_told_7 : decode cX8_told 7 = .ok (.ifnonnull 5, 3) := by decide +kernel
theorem dX8_told_10 : decode cX8_told 10 = .ok (.iconst (-1), 1) := by decide +kernel
theorem dX8_told_11 : decode cX8_told 11 = .ok (.ireturn, 1) := by decide +kernel
theorem dX8_told_12 : decode cX8_told 12 = .ok (.iload_n 2, 1) := by decide +kernel
theorem dX8_told_13 : decode cX8_told 13 = .ok (.tableswitch 138 0 11 #[63, 68, 88, 93, 98, 103, 108, 113, 118, 123, 128, 133], 63) := by decide +kernel
theorem dX8_told_76 : decode cX8_told 76 = .ok (.aload_n 3, 1) := by decide +kernel
theorem dX8_told_77 : decode cX8_told 77 = .ok (.getfield 220, 3) := by decide +kernel
theorem dX8_told_80 : decode cX8_told 80 = .ok (.ireturn, 1) := by decide +kernel
theorem dX8_told_81 : decode cX8_told 81 = .ok (.aload_n 3, 1) := by decide +kernel
theorem dX8_told_82 : decode cX8_told 82 = .ok (.getfield 131, 3) := by decide +kernel
theorem dX8_told_85 : decode cX8_told 85 = .ok (.ifnonnull 8, 3) := by decide +kernel
theorem dX8_told_88 : decode cX8_told 88 = .ok (.bipush (-5), 2) := by decide +kernel
theorem dX8_told_90 : decode cX8_told 90 = .ok (.goto 10, 3) := by decide +kernel
theorem dX8_told_93 : decode cX8_told 93 = .ok (.aload_n 3, 1) := by decide +kernel
theorem dX8_told_94 : decode cX8_told 94 = .ok (.getfield 131, 3) := by decide +kernel
theorem dX8_told_97 : decode cX8_told 97 = .ok (.getfield 135, 3) := by decide +kernel
theorem dX8_told_100 : decode cX8_told 100 = .ok (.ireturn, 1) := by decide +kernel
theorem dX8_told_101 : decode cX8_told 101 = .ok (.aload_n 3, 1) := by decide +kernel
theorem dX8_told_102 : decode cX8_told 102 = .ok (.getfield 223, 3) := by decide +kernel
theorem dX8_told_105 : decode cX8_told 105 = .ok (.ireturn, 1) := by decide +kernel
theorem dX8_told_106 : decode cX8_told 106 = .ok (.aload_n 3, 1) := by decide +kernel
theorem dX8_told_107 : decode cX8_told 107 = .ok (.getfield 226, 3) := by decide +kernel
theorem dX8_told_110 : decode cX8_told 110 = .ok (.ireturn, 1) := by decide +kernel
theorem dX8_told_111 : decode cX8_told 111 = .ok (.aload_n 3, 1) := by decide +kernel
theorem dX8_told_112 : decode cX8_told 112 = .ok (.getfield 229, 3) := by decide +kernel
theorem dX8_told_115 : decode cX8_told 115 = .ok (.ireturn, 1) := by decide +kernel
theorem dX8_told_116 : decode cX8_told 116 = .ok (.aload_n 3, 1) := by decide +kernel
theorem dX8_told_117 : decode cX8_told 117 = .ok (.getfield 232, 3) := by decide +kernel
theorem dX8_told_120 : decode cX8_told 120 = .ok (.ireturn, 1) := by decide +kernel
theorem dX8_told_121 : decode cX8_told 121 = .ok (.aload_n 3, 1) := by decide +kernel
theorem dX8_told_122 : decode cX8_told 122 = .ok (.getfield 235, 3) := by decide +kernel
theorem dX8_told_125 : decode cX8_told 125 = .ok (.ireturn, 1) := by decide +kernel
theorem dX8_told_126 : decode cX8_told 126 = .ok (.aload_n 3, 1) := by decide +kernel
theorem dX8_told_127 : decode cX8_told 127 = .ok (.getfield 238, 3) := by decide +kernel
theorem dX8_told_130 : decode cX8_told 130 = .ok (.ireturn, 1) := by decide +kernel
theorem dX8_told_131 : decode cX8_told 131 = .ok (.aload_n 3, 1) := by decide +kernel
theorem dX8_told_132 : decode cX8_told 132 = .ok (.getfield 172, 3) := by decide +kernel
theorem dX8_told_135 : decode cX8_told 135 = .ok (.ireturn, 1) := by decide +kernel
theorem dX8_told_136 : decode cX8_told 136 = .ok (.aload_n 3, 1) := by decide +kernel
theorem dX8_told_137 : decode cX8_told 137 = .ok (.getfield 241, 3) := by decide +kernel
theorem dX8_told_140 : decode cX8_told 140 = .ok (.ireturn, 1) := by decide +kernel
theorem dX8_told_141 : decode cX8_told 141 = .ok (.aload_n 3, 1) := by decide +kernel
theorem dX8_told_142 : decode cX8_told 142 = .ok (.getfield 244, 3) := by decide +kernel
theorem dX8_told_145 : decode cX8_told 145 = .ok (.ireturn, 1) := by decide +kernel
theorem dX8_told_146 : decode cX8_told 146 = .ok (.aload_n 3, 1) := by decide +kernel
theorem dX8_told_147 : decode cX8_told 147 = .ok (.getfield 247, 3) := by decide +kernel
theorem dX8_told_150 : decode cX8_told 150 = .ok (.ireturn, 1) := by decide +kernel
theorem dX8_told_151 : decode cX8_told 151 = .ok (.iconst (-1), 1) := by decide +kernel
theorem dX8_told_152 : decode cX8_told 152 = .ok (.ireturn, 1) := by decide +kernel
theorem dX8_length_0 : decode cX8_length 0 = .ok (.aload_n 0, 1) := by decide +kernel
theorem dX8_length_1 : decode cX8_length 1 = .ok (.iload_n 1, 1) := by decide +kernel
theorem dX8_length_2 : decode cX8_length 2 = .ok (.invokevirtual 136, 3) := by decide +kernel
theorem dX8_length_5 : decode cX8_length 5 = .ok (.astore_n 2, 1) := by decide +kernel
theorem dX8_length_6 : decode cX8_length 6 = .ok (.aload_n 2, 1) := by decide +kernel
theorem dX8_length_7 : decode cX8_length 7 = .ok (.ifnonnull 5, 3) := by decide +kernel
theorem dX8_length_10 : decode cX8_length 10 = .ok (.iconst (-1), 1) := by decide +kernel
theorem dX8_length_11 : decode cX8_length 11 = .ok (.ireturn, 1) := by decide +kernel
theorem dX8_length_12 : decode cX8_length 12 = .ok (.aload_n 2, 1) := by decide +kernel
theorem dX8_length_13 : decode cX8_length 13 = .ok (.invokevirtual 140, 3) := by decide +kernel
theorem dX8_length_16 : decode cX8_length 16 = .ok (.ifCond .eq 8, 3) := by decide +kernel
theorem dX8_length_19 : decode cX8_length 19 = .ok (.bipush (-5), 2) := by decide +kernel
theorem dX8_length_21 : decode cX8_length 21 = .ok (.goto 7, 3) := by decide +kernel
theorem dX8_length_24 : decode cX8_length 24 = .ok (.aload_n 2, 1) := by decide +kernel
theorem dX8_length_25 : decode cX8_length 25 = .ok (.getfield 150, 3) := by decide +kernel
theorem dX8_length_28 : decode cX8_length 28 = .ok (.ireturn, 1) := by decide +kernel
theorem dX8_bound_0 : decode cX8_bound 0 = .ok (.iconst 0, 1) := by decide +kernel
theorem dX8_bound_1 : decode cX8_bound 1 = .ok (.istore_n 1, 1) := by decide +kernel
theorem dX8_bound_2 : decode cX8_bound 2 = .ok (.iconst 0, 1) := by decide +kernel
theorem dX8_bound_3 : decode cX8_bound 3 = .ok (.istore_n 2, 1) := by decide +kernel
theorem dX8_bound_4 : decode cX8_bound 4 = .ok (.iload_n 2, 1) := by decide +kernel
theorem dX8_bound_5 : decode cX8_bound 5 = .ok (.aload_n 0, 1) := by decide +kernel
theorem dX8_bound_6 : decode cX8_bound 6 = .ok (.getfield 16, 3) := by decide +kernel
theorem dX8_bound_9 : decode cX8_bound 9 = .ok (.invokevirtual 75, 3) := by decide +kernel
theorem dX8_bound_12 : decode cX8_bound 12 = .ok (.if_icmp .ge 26, 3) := by decide +kernel
theorem dX8_bound_15 : decode cX8_bound 15 = .ok (.iload_n 1, 1) := by decide +kernel
theorem dX8_bound_16 : decode cX8_bound 16 = .ok (.aload_n 0, 1) := by decide +kernel
theorem dX8_bound_17 : decode cX8_bound 17 = .ok (.getfield 16, 3) := by decide +kernel
theorem dX8_bound_20 : decode cX8_bound 20 = .ok (.iload_n 2, 1) := by decide +kernel
theorem dX8_bound_21 : decode cX8_bound 21 = .ok (.invokevirtual 99, 3) := by decide +kernel
theorem dX8_bound_24 : decode cX8_bound 24 = .ok (.checkcast 103, 3) := by decide +kernel
theorem dX8_bound_27 : decode cX8_bound 27 = .ok (.invokevirtual 250, 3) := by decide +kernel
theorem dX8_bound_30 : decode cX8_bound 30 = .ok (.iadd, 1) := by decide +kernel
theorem dX8_bound_31 : decode cX8_bound 31 = .ok (.istore_n 1, 1) := by decide +kernel
theorem dX8_bound_32 : decode cX8_bound 32 = .ok (.iinc 2 1, 3) := by decide +kernel
theorem dX8_bound_35 : decode cX8_bound 35 = .ok (.goto (-31), 3) := by decide +kernel
theorem dX8_bound_38 : decode cX8_bound 38 = .ok (.iconst 0, 1) := by decide +kernel
theorem dX8_bound_39 : decode cX8_bound 39 = .ok (.istore_n 2, 1) := by decide +kernel
theorem dX8_bound_40 : decode cX8_bound 40 = .ok (.iconst 0, 1) := by decide +kernel
theorem dX8_bound_41 : decode cX8_bound 41 = .ok (.istore_n 3, 1) := by decide +kernel
theorem dX8_bound_42 : decode cX8_bound 42 = .ok (.iconst 0, 1) := by decide +kernel
theorem dX8_bound_43 : decode cX8_bound 43 = .ok (.istore 4, 2) := by decide +kernel
theorem dX8_bound_45 : decode cX8_bound 45 = .ok (.iload 4, 2) := by decide +kernel
theorem dX8_bound_47 : decode cX8_bound 47 = .ok (.aload_n 0, 1) := by decide +kernel
theorem dX8_bound_48 : decode cX8_bound 48 = .ok (.getfield 10, 3) := by decide +kernel
theorem dX8_bound_51 : decode cX8_bound 51 = .ok (.invokevirtual 75, 3) := by decide +kernel
theorem dX8_bound_54 : decode cX8_bound 54 = .ok (.if_icmp .ge 49, 3) := by decide +kernel
theorem dX8_bound_57 : decode cX8_bound 57 = .ok (.iload_n 2, 1) := by decide +kernel
theorem dX8_bound_58 : decode cX8_bound 58 = .ok (.aload_n 0, 1) := by decide +kernel
theorem dX8_bound_59 : decode cX8_bound 59 = .ok (.getfield 10, 3) := by decide +kernel
theorem dX8_bound_62 : decode cX8_bound 62 = .ok (.iload 4, 2) := by decide +kernel
theorem dX8_bound_64 : decode cX8_bound 64 = .ok (.invokevirtual 99, 3) := by decide +kernel
theorem dX8_bound_67 : decode cX8_bound 67 = .ok (.checkcast 79, 3) := by decide +kernel
theorem dX8_bound_70 : decode cX8_bound 70 = .ok (.getfield 247, 3) := by decide +kernel
theorem dX8_bound_73 : decode cX8_bound 73 = .ok (.invokestatic 253, 3) := by decide +kernel
theorem dX8_bound_76 : decode cX8_bound 76 = .ok (.istore_n 2, 1) := by decide +kernel
theorem dX8_bound_77 : decode cX8_bound 77 = .ok (.iload_n 3, 1) := by decide +kernel
theorem dX8_bound_78 : decode cX8_bound 78 = .ok (.aload_n 0, 1) := by decide +kernel
theorem dX8_bound_79 : decode cX8_bound 79 = .ok (.getfield 10, 3) := by decide +kernel
theorem dX8_bound_82 : decode cX8_bound 82 = .ok (.iload 4, 2) := by decide +kernel
theorem dX8_bound_84 : decode cX8_bound 84 = .ok (.invokevirtual 99, 3) := by decide +kernel
theorem dX8_bound_87 : decode cX8_bound 87 = .ok (.checkcast 79, 3) := by decide +kernel
theorem dX8_bound_90 : decode cX8_bound 90 = .ok (.invokevirtual 259, 3) := by decide +kernel
theorem dX8_bound_93 : decode cX8_bound 93 = .ok (.invokestatic 253, 3) := by decide +kernel
theorem dX8_bound_96 : decode cX8_bound 96 = .ok (.istore_n 3, 1) := by decide +kernel
theorem dX8_bound_97 : decode cX8_bound 97 = .ok (.iinc 4 1, 3) := by decide +kernel
theorem dX8_bound_100 : decode cX8_bound 100 = .ok (.goto (-55), 3) := by decide +kernel
theorem dX8_bound_103 : decode cX8_bound 103 = .ok (.iload_n 1, 1) := by decide +kernel
theorem dX8_bound_104 : decode cX8_bound 104 = .ok (.aload_n 0, 1) := by decide +kernel
theorem dX8_bound_105 : decode cX8_bound 105 = .ok (.getfield 16, 3) := by decide +kernel
theorem dX8_bound_108 : decode cX8_bound 108 = .ok (.invokevirtual 75, 3) := by decide +kernel
theorem dX8_bound_111 : decode cX8_bound 111 = .ok (.iload_n 2, 1) := by decide +kernel
theorem dX8_bound_112 : decode cX8_bound 112 = .ok (.iload_n 3, 1) := by decide +kernel
theorem dX8_bound_113 : decode cX8_bound 113 = .ok (.iadd, 1) := by decide +kernel
theorem dX8_bound_114 : decode cX8_bound 114 = .ok (.imul, 1) := by decide +kernel
theorem dX8_bound_115 : decode cX8_bound 115 = .ok (.iadd, 1) := by decide +kernel
theorem dX8_bound_116 : decode cX8_bound 116 = .ok (.ireturn, 1) := by decide +kernel
theorem dX8_count_0 : decode cX8_count 0 = .ok (.iload_n 1, 1) := by decide +kernel
theorem dX8_count_1 : decode cX8_count 1 = .ok (.tableswitch 130 0 11 #[63, 68, 68, 68, 68, 77, 85, 93, 101, 109, 117, 125], 63) := by decide +kernel
theorem dX8_count_64 : decode cX8_count 64 = .ok (.aload_n 0, 1) := by decide +kernel
theorem dX8_count_65 : decode cX8_count 65 = .ok (.getfield 49, 3) := by decide +kernel
theorem dX8_count_68 : decode cX8_count 68 = .ok (.ireturn, 1) := by decide +kernel
theorem dX8_count_69 : decode cX8_count 69 = .ok (.aload_n 0, 1) := by decide +kernel
theorem dX8_count_70 : decode cX8_count 70 = .ok (.getfield 31, 3) := by decide +kernel
theorem dX8_count_73 : decode cX8_count 73 = .ok (.iload_n 1, 1) := by decide +kernel
theorem dX8_count_74 : decode cX8_count 74 = .ok (.invokevirtual 262, 3) := by decide +kernel
theorem dX8_count_77 : decode cX8_count 77 = .ok (.ireturn, 1) := by decide +kernel
theorem dX8_count_78 : decode cX8_count 78 = .ok (.aload_n 0, 1) := by decide +kernel
theorem dX8_count_79 : decode cX8_count 79 = .ok (.getfield 38, 3) := by decide +kernel
theorem dX8_count_82 : decode cX8_count 82 = .ok (.getfield 182, 3) := by decide +kernel
theorem dX8_count_85 : decode cX8_count 85 = .ok (.ireturn, 1) := by decide +kernel
theorem dX8_count_86 : decode cX8_count 86 = .ok (.aload_n 0, 1) := by decide +kernel
theorem dX8_count_87 : decode cX8_count 87 = .ok (.getfield 10, 3) := by decide +kernel
theorem dX8_count_90 : decode cX8_count 90 = .ok (.invokevirtual 75, 3) := by decide +kernel
theorem dX8_count_93 : decode cX8_count 93 = .ok (.ireturn, 1) := by decide +kernel
theorem dX8_count_94 : decode cX8_count 94 = .ok (.aload_n 0, 1) := by decide +kernel
theorem dX8_count_95 : decode cX8_count 95 = .ok (.getfield 16, 3) := by decide +kernel
theorem dX8_count_98 : decode cX8_count 98 = .ok (.invokevirtual 75, 3) := by decide +kernel
theorem dX8_count_101 : decode cX8_count 101 = .ok (.ireturn, 1) := by decide +kernel
theorem dX8_count_102 : decode cX8_count 102 = .ok (.aload_n 0, 1) := by decide +kernel
theorem dX8_count_103 : decode cX8_count 103 = .ok (.getfield 19, 3) := by decide +kernel
theorem dX8_count_106 : decode cX8_count 106 = .ok (.invokevirtual 75, 3) := by decide +kernel
theorem dX8_count_109 : decode cX8_count 109 = .ok (.ireturn, 1) := by decide +kernel
theorem dX8_count_110 : decode cX8_count 110 = .ok (.aload_n 0, 1) := by decide +kernel
theorem dX8_count_111 : decode cX8_count 111 = .ok (.getfield 22, 3) := by decide +kernel
theorem dX8_count_114 : decode cX8_count 114 = .ok (.invokevirtual 75, 3) := by decide +kernel
theorem dX8_count_117 : decode cX8_count 117 = .ok (.ireturn, 1) := by decide +kernel
theorem dX8_count_118 : decode cX8_count 118 = .ok (.aload_n 0, 1) := by decide +kernel
theorem dX8_count_119 : decode cX8_count 119 = .ok (.getfield 25, 3) := by decide +kernel
theorem dX8_count_122 : decode cX8_count 122 = .ok (.invokevirtual 75, 3) := by decide +kernel
theorem dX8_count_125 : decode cX8_count 125 = .ok (.ireturn, 1) := by decide +kernel
theorem dX8_count_126 : decode cX8_count 126 = .ok (.aload_n 0, 1) := by decide +kernel
theorem dX8_count_127 : decode cX8_count 127 = .ok (.getfield 53, 3) := by decide +kernel
theorem dX8_count_130 : decode cX8_count 130 = .ok (.ireturn, 1) := by decide +kernel
theorem dX8_count_131 : decode cX8_count 131 = .ok (.iconst (-1), 1) := by decide +kernel
theorem dX8_count_132 : decode cX8_count 132 = .ok (.ireturn, 1) := by decide +kernel
theorem dX8_finding_0 : decode cX8_finding 0 = .ok (.iload_n 1, 1) := by decide +kernel
theorem dX8_finding_1 : decode cX8_finding 1 = .ok (.lookupswitch 43 #[(0, 27), (1, 35)], 27) := by decide +kernel
theorem dX8_finding_28 : decode cX8_finding 28 = .ok (.aload_n 0, 1) := by decide +kernel
theorem dX8_finding_29 : decode cX8_finding 29 = .ok (.getfield 31, 3) := by decide +kernel
theorem dX8_finding_32 : decode cX8_finding 32 = .ok (.getfield 265, 3) := by decide +kernel
theorem dX8_finding_35 : decode cX8_finding 35 = .ok (.ireturn, 1) := by decide +kernel
theorem dX8_finding_36 : decode cX8_finding 36 = .ok (.aload_n 0, 1) := by decide +kernel
theorem dX8_finding_37 : decode cX8_finding 37 = .ok (.getfield 31, 3) := by decide +kernel
theorem dX8_finding_40 : decode cX8_finding 40 = .ok (.getfield 268, 3) := by decide +kernel
theorem dX8_finding_43 : decode cX8_finding 43 = .ok (.ireturn, 1) := by decide +kernel
theorem dX8_finding_44 : decode cX8_finding 44 = .ok (.iconst (-1), 1) := by decide +kernel
theorem dX8_finding_45 : decode cX8_finding 45 = .ok (.ireturn, 1) := by decide +kernel
theorem dX8_fault_0 : decode cX8_fault 0 = .ok (.iload_n 1, 1) := by decide +kernel
theorem dX8_fault_1 : decode cX8_fault 1 = .ok (.tableswitch 63 0 3 #[31, 39, 47, 55], 31) := by decide +kernel
theorem dX8_fault_32 : decode cX8_fault 32 = .ok (.aload_n 0, 1) := by decide +kernel
theorem dX8_fault_33 : decode cX8_fault 33 = .ok (.getfield 38, 3) := by decide +kernel
theorem dX8_fault_36 : decode cX8_fault 36 = .ok (.getfield 271, 3) := by decide +kernel
theorem dX8_fault_39 : decode cX8_fault 39 = .ok (.ireturn, 1) := by decide +kernel
theorem dX8_fault_40 : decode cX8_fault 40 = .ok (.aload_n 0, 1) := by decide +kernel
theorem dX8_fault_41 : decode cX8_fault 41 = .ok (.getfield 38, 3) := by decide +kernel
theorem dX8_fault_44 : decode cX8_fault 44 = .ok (.getfield 272, 3) := by decide +kernel
theorem dX8_fault_47 : decode cX8_fault 47 = .ok (.ireturn, 1) := by decide +kernel
theorem dX8_fault_48 : decode cX8_fault 48 = .ok (.aload_n 0, 1) := by decide +kernel
theorem dX8_fault_49 : decode cX8_fault 49 = .ok (.getfield 38, 3) := by decide +kernel
theorem dX8_fault_52 : decode cX8_fault 52 = .ok (.getfield 182, 3) := by decide +kernel
theorem dX8_fault_55 : decode cX8_fault 55 = .ok (.ireturn, 1) := by decide +kernel
theorem dX8_fault_56 : decode cX8_fault 56 = .ok (.aload_n 0, 1) := by decide +kernel
theorem dX8_fault_57 : decode cX8_fault 57 = .ok (.getfield 38, 3) := by decide +kernel
theorem dX8_fault_60 : decode cX8_fault 60 = .ok (.getfield 179, 3) := by decide +kernel
theorem dX8_fault_63 : decode cX8_fault 63 = .ok (.ireturn, 1) := by decide +kernel
theorem dX8_fault_64 : decode cX8_fault 64 = .ok (.iconst (-1), 1) := by decide +kernel
theorem dX8_fault_65 : decode cX8_fault 65 = .ok (.ireturn, 1) := by decide +kernel
theorem dX8_trace_0 : decode cX8_trace 0 = .ok (.aload_n 0, 1) := by decide +kernel
theorem dX8_trace_1 : decode cX8_trace 1 = .ok (.getfield 45, 3) := by decide +kernel
theorem dX8_trace_4 : decode cX8_trace 4 = .ok (.getfield 275, 3) := by decide +kernel
theorem dX8_trace_7 : decode cX8_trace 7 = .ok (.ireturn, 1) := by decide +kernel
theorem dX8_isWithin_0 : decode cX8_isWithin 0 = .ok (.iload_n 0, 1) := by decide +kernel
theorem dX8_isWithin_1 : decode cX8_isWithin 1 = .ok (.iload_n 1, 1) := by decide +kernel
theorem dX8_isWithin_2 : decode cX8_isWithin 2 = .ok (.if_icmp .lt 12, 3) := by decide +kernel
theorem dX8_isWithin_5 : decode cX8_isWithin 5 = .ok (.iload_n 0, 1) := by decide +kernel
theorem dX8_isWithin_6 : decode cX8_isWithin 6 = .ok (.iload_n 2, 1) := by decide +kernel
theorem dX8_isWithin_7 : decode cX8_isWithin 7 = .ok (.if_icmp .gt 7, 3) := by decide +kernel
theorem dX8_isWithin_10 : decode cX8_isWithin 10 = .ok (.iconst 1, 1) := by decide +kernel
theorem dX8_isWithin_11 : decode cX8_isWithin 11 = .ok (.goto 4, 3) := by decide +kernel
theorem dX8_isWithin_14 : decode cX8_isWithin 14 = .ok (.iconst 0, 1) := by decide +kernel
theorem dX8_isWithin_15 : decode cX8_isWithin 15 = .ok (.ireturn, 1) := by decide +kernel
theorem dX8_phaseAt_0 : decode cX8_phaseAt 0 = .ok (.iload_n 1, 1) := by decide +kernel
theorem dX8_phaseAt_1 : decode cX8_phaseAt 1 = .ok (.ifCond .lt 28, 3) := by decide +kernel
theorem dX8_phaseAt_4 : decode cX8_phaseAt 4 = .ok (.iload_n 1, 1) := by decide +kernel
theorem dX8_phaseAt_5 : decode cX8_phaseAt 5 = .ok (.aload_n 0, 1) := by decide +kernel
theorem dX8_phaseAt_6 : decode cX8_phaseAt 6 = .ok (.getfield 10, 3) := by decide +kernel
theorem dX8_phaseAt_9 : decode cX8_phaseAt 9 = .ok (.invokevirtual 75, 3) := by decide +kernel
theorem dX8_phaseAt_12 : decode cX8_phaseAt 12 = .ok (.if_icmp .ge 17, 3) := by decide +kernel
theorem dX8_phaseAt_15 : decode cX8_phaseAt 15 = .ok (.aload_n 0, 1) := by decide +kernel
theorem dX8_phaseAt_16 : decode cX8_phaseAt 16 = .ok (.getfield 10, 3) := by decide +kernel
theorem dX8_phaseAt_19 : decode cX8_phaseAt 19 = .ok (.iload_n 1, 1) := by decide +kernel
theorem dX8_phaseAt_20 : decode cX8_phaseAt 20 = .ok (.invokevirtual 99, 3) := by decide +kernel
theorem dX8_phaseAt_23 : decode cX8_phaseAt 23 = .ok (.checkcast 79, 3) := by decide +kernel
theorem dX8_phaseAt_26 : decode cX8_phaseAt 26 = .ok (.goto 4, 3) := by decide +kernel
theorem dX8_phaseAt_29 : decode cX8_phaseAt 29 = .ok (.aconst_null, 1) := by decide +kernel
theorem dX8_phaseAt_30 : decode cX8_phaseAt 30 = .ok (.areturn, 1) := by decide +kernel
theorem dX8_stageAt_0 : decode cX8_stageAt 0 = .ok (.iload_n 1, 1) := by decide +kernel
theorem dX8_stageAt_1 : decode cX8_stageAt 1 = .ok (.ifCond .lt 28, 3) := by decide +kernel
theorem dX8_stageAt_4 : decode cX8_stageAt 4 = .ok (.iload_n 1, 1) := by decide +kernel
theorem dX8_stageAt_5 : decode cX8_stageAt 5 = .ok (.aload_n 0, 1) := by decide +kernel
theorem dX8_stageAt_6 : decode cX8_stageAt 6 = .ok (.getfield 16, 3) := by decide +kernel
theorem dX8_stageAt_9 : decode cX8_stageAt 9 = .ok (.invokevirtual 75, 3) := by decide +kernel
theorem dX8_stageAt_12 : decode cX8_stageAt 12 = .ok (.if_icmp .ge 17, 3) := by decide +kernel
theorem dX8_stageAt_15 : decode cX8_stageAt 15 = .ok (.aload_n 0, 1) := by decide +kernel
theorem dX8_stageAt_16 : decode cX8_stageAt 16 = .ok (.getfield 16, 3) := by decide +kernel
theorem dX8_stageAt_19 : decode cX8_stageAt 19 = .ok (.iload_n 1, 1) := by decide +kernel
theorem dX8_stageAt_20 : decode cX8_stageAt 20 = .ok (.invokevirtual 99, 3) := by decide +kernel
theorem dX8_stageAt_23 : decode cX8_stageAt 23 = .ok (.checkcast 103, 3) := by decide +kernel
theorem dX8_stageAt_26 : decode cX8_stageAt 26 = .ok (.goto 4, 3) := by decide +kernel
theorem dX8_stageAt_29 : decode cX8_stageAt 29 = .ok (.aconst_null, 1) := by decide +kernel
theorem dX8_stageAt_30 : decode cX8_stageAt 30 = .ok (.areturn, 1) := by decide +kernel
theorem dX8_detectorAt_0 : decode cX8_detectorAt 0 = .ok (.iload_n 1, 1) := by decide +kernel
theorem dX8_detectorAt_1 : decode cX8_detectorAt 1 = .ok (.ifCond .lt 28, 3) := by decide +kernel
theorem dX8_detectorAt_4 : decode cX8_detectorAt 4 = .ok (.iload_n 1, 1) := by decide +kernel
theorem dX8_detectorAt_5 : decode cX8_detectorAt 5 = .ok (.aload_n 0, 1) := by decide +kernel
theorem dX8_detectorAt_6 : decode cX8_detectorAt 6 = .ok (.getfield 19, 3) := by decide +kernel
theorem dX8_detectorAt_9 : decode cX8_detectorAt 9 = .ok (.invokevirtual 75, 3) := by decide +kernel
theorem dX8_detectorAt_12 : decode cX8_detectorAt 12 = .ok (.if_icmp .ge 17, 3) := by decide +kernel
theorem dX8_detectorAt_15 : decode cX8_detectorAt 15 = .ok (.aload_n 0, 1) := by decide +kernel
theorem dX8_detectorAt_16 : decode cX8_detectorAt 16 = .ok (.getfield 19, 3) := by decide +kernel
theorem dX8_detectorAt_19 : decode cX8_detectorAt 19 = .ok (.iload_n 1, 1) := by decide +kernel
theorem dX8_detectorAt_20 : decode cX8_detectorAt 20 = .ok (.invokevirtual 99, 3) := by decide +kernel
theorem dX8_detectorAt_23 : decode cX8_detectorAt 23 = .ok (.checkcast 128, 3) := by decide +kernel
theorem dX8_detectorAt_26 : decode cX8_detectorAt 26 = .ok (.goto 4, 3) := by decide +kernel
theorem dX8_detectorAt_29 : decode cX8_detectorAt 29 = .ok (.aconst_null, 1) := by decide +kernel
theorem dX8_detectorAt_30 : decode cX8_detectorAt 30 = .ok (.areturn, 1) := by decide +kernel
theorem dX8_numberOf_0 : decode cX8_numberOf 0 = .ok (.aload_n 0, 1) := by decide +kernel
theorem dX8_numberOf_1 : decode cX8_numberOf 1 = .ok (.ifnonnull 8, 3) := by decide +kernel
theorem dX8_numberOf_4 : decode cX8_numberOf 4 = .ok (.bipush (-5), 2) := by decide +kernel
theorem dX8_numberOf_6 : decode cX8_numberOf 6 = .ok (.goto 7, 3) := by decide +kernel
theorem dX8_numberOf_9 : decode cX8_numberOf 9 = .ok (.aload_n 0, 1) := by decide +kernel
theorem dX8_numberOf_10 : decode cX8_numberOf 10 = .ok (.getfield 127, 3) := by decide +kernel
theorem dX8_numberOf_13 : decode cX8_numberOf 13 = .ok (.ireturn, 1) := by decide +kernel
theorem dX8_doOrders_0 : decode cX8_doOrders 0 = .ok (.iconst 0, 1) := by decide +kernel
theorem dX8_doOrders_1 : decode cX8_doOrders 1 = .ok (.istore_n 2, 1) := by decide +kernel
theorem dX8_doOrders_2 : decode cX8_doOrders 2 = .ok (.iload_n 2, 1) := by decide +kernel
theorem dX8_doOrders_3 : decode cX8_doOrders 3 = .ok (.aload_n 0, 1) := by decide +kernel
theorem dX8_doOrders_4 : decode cX8_doOrders 4 = .ok (.getfield 22, 3) := by decide +kernel
theorem dX8_doOrders_7 : decode cX8_doOrders 7 = .ok (.invokevirtual 75, 3) := by decide +kernel
theorem dX8_doOrders_10 : decode cX8_doOrders 10 = .ok (.if_icmp .ge 41, 3) := by decide +kernel
theorem dX8_doOrders_13 : decode cX8_doOrders 13 = .ok (.aload_n 0, 1) := by decide +kernel
theorem dX8_doOrders_14 : decode cX8_doOrders 14 = .ok (.getfield 22, 3) := by decide +kernel
theorem dX8_doOrders_17 : decode cX8_doOrders 17 = .ok (.iload_n 2, 1) := by decide +kernel
theorem dX8_doOrders_18 : decode cX8_doOrders 18 = .ok (.invokevirtual 99, 3) := by decide +kernel
theorem dX8_doOrders_21 : decode cX8_doOrders 21 = .ok (.checkcast 152, 3) := by decide +kernel
theorem dX8_doOrders_24 : decode cX8_doOrders 24 = .ok (.getfield 278, 3) := by decide +kernel
theorem dX8_doOrders_27 : decode cX8_doOrders 27 = .ok (.iload_n 1, 1) := by decide +kernel
theorem dX8_doOrders_28 : decode cX8_doOrders 28 = .ok (.if_icmp .ne 17, 3) := by decide +kernel
theorem dX8_doOrders_31 : decode cX8_doOrders 31 = .ok (.aload_n 0, 1) := by decide +kernel
theorem dX8_doOrders_32 : decode cX8_doOrders 32 = .ok (.getfield 22, 3) := by decide +kernel
theorem dX8_doOrders_35 : decode cX8_doOrders 35 = .ok (.iload_n 2, 1) := by decide +kernel
theorem dX8_doOrders_36 : decode cX8_doOrders 36 = .ok (.invokevirtual 99, 3) := by decide +kernel
theorem dX8_doOrders_39 : decode cX8_doOrders 39 = .ok (.checkcast 152, 3) := by decide +kernel
theorem dX8_doOrders_42 : decode cX8_doOrders 42 = .ok (.invokevirtual 281, 3) := by decide +kernel
theorem dX8_doOrders_45 : decode cX8_doOrders 45 = .ok (.iinc 2 1, 3) := by decide +kernel
theorem dX8_doOrders_48 : decode cX8_doOrders 48 = .ok (.goto (-46), 3) := by decide +kernel
theorem dX8_doOrders_51 : decode cX8_doOrders 51 = .ok (.aload_n 0, 1) := by decide +kernel
theorem dX8_doOrders_52 : decode cX8_doOrders 52 = .ok (.getfield 22, 3) := by decide +kernel
theorem dX8_doOrders_55 : decode cX8_doOrders 55 = .ok (.invokevirtual 75, 3) := by decide +kernel
theorem dX8_doOrders_58 : decode cX8_doOrders 58 = .ok (.iconst 1, 1) := by decide +kernel
theorem dX8_doOrders_59 : decode cX8_doOrders 59 = .ok (.isub, 1) := by decide +kernel
theorem dX8_doOrders_60 : decode cX8_doOrders 60 = .ok (.istore_n 2, 1) := by decide +kernel
theorem dX8_doOrders_61 : decode cX8_doOrders 61 = .ok (.iload_n 2, 1) := by decide +kernel
theorem dX8_doOrders_62 : decode cX8_doOrders 62 = .ok (.ifCond .lt 36, 3) := by decide +kernel
theorem dX8_doOrders_65 : decode cX8_doOrders 65 = .ok (.aload_n 0, 1) := by decide +kernel
theorem dX8_doOrders_66 : decode cX8_doOrders 66 = .ok (.getfield 22, 3) := by decide +kernel
theorem dX8_doOrders_69 : decode cX8_doOrders 69 = .ok (.iload_n 2, 1) := by decide +kernel
theorem dX8_doOrders_70 : decode cX8_doOrders 70 = .ok (.invokevirtual 99, 3) := by decide +kernel
theorem dX8_doOrders_73 : decode cX8_doOrders 73 = .ok (.checkcast 152, 3) := by decide +kernel
theorem dX8_doOrders_76 : decode cX8_doOrders 76 = .ok (.getfield 278, 3) := by decide +kernel
theorem dX8_doOrders_79 : decode cX8_doOrders 79 = .ok (.iload_n 1, 1) := by decide +kernel
theorem dX8_doOrders_80 : decode cX8_doOrders 80 = .ok (.if_icmp .ne 12, 3) := by decide +kernel
theorem dX8_doOrders_83 : decode cX8_doOrders 83 = .ok (.aload_n 0, 1) := by decide +kernel
theorem dX8_doOrders_84 : decode cX8_doOrders 84 = .ok (.getfield 22, 3) := by decide +kernel
theorem dX8_doOrders_87 : decode cX8_doOrders 87 = .ok (.iload_n 2, 1) := by decide +kernel
theorem dX8_doOrders_88 : decode cX8_doOrders 88 = .ok (.invokevirtual 284, 3) := by decide +kernel
theorem dX8_doOrders_91 : decode cX8_doOrders 91 = .ok (.pop, 1) := by decide +kernel
theorem dX8_doOrders_92 : decode cX8_doOrders 92 = .ok (.iinc 2 (-1), 3) := by decide +kernel
theorem dX8_doOrders_95 : decode cX8_doOrders 95 = .ok (.goto (-34), 3) := by decide +kernel
theorem dX8_doOrders_98 : decode cX8_doOrders 98 = .ok (.return_, 1) := by decide +kernel
theorem dX8_runLights_0 : decode cX8_runLights 0 = .ok (.aload_n 0, 1) := by decide +kernel
theorem dX8_runLights_1 : decode cX8_runLights 1 = .ok (.iload_n 1, 1) := by decide +kernel
theorem dX8_runLights_2 : decode cX8_runLights 2 = .ok (.invokevirtual 287, 3) := by decide +kernel
theorem dX8_runLights_5 : decode cX8_runLights 5 = .ok (.aload_n 0, 1) := by decide +kernel
theorem dX8_runLights_6 : decode cX8_runLights 6 = .ok (.iload_n 1, 1) := by decide +kernel
theorem dX8_runLights_7 : decode cX8_runLights 7 = .ok (.invokevirtual 290, 3) := by decide +kernel
theorem dX8_runLights_10 : decode cX8_runLights 10 = .ok (.aload_n 0, 1) := by decide +kernel
theorem dX8_runLights_11 : decode cX8_runLights 11 = .ok (.invokevirtual 293, 3) := by decide +kernel
theorem dX8_runLights_14 : decode cX8_runLights 14 = .ok (.istore_n 2, 1) := by decide +kernel
theorem dX8_runLights_15 : decode cX8_runLights 15 = .ok (.iload_n 2, 1) := by decide +kernel
theorem dX8_runLights_16 : decode cX8_runLights 16 = .ok (.ifCond .eq 10, 3) := by decide +kernel
theorem dX8_runLights_19 : decode cX8_runLights 19 = .ok (.aload_n 0, 1) := by decide +kernel
theorem dX8_runLights_20 : decode cX8_runLights 20 = .ok (.iload_n 2, 1) := by decide +kernel
theorem dX8_runLights_21 : decode cX8_runLights 21 = .ok (.iload_n 1, 1) := by decide +kernel
theorem dX8_runLights_22 : decode cX8_runLights 22 = .ok (.invokevirtual 296, 3) := by decide +kernel
theorem dX8_runLights_25 : decode cX8_runLights 25 = .ok (.return_, 1) := by decide +kernel
theorem dX8_runLights_26 : decode cX8_runLights 26 = .ok (.aload_n 0, 1) := by decide +kernel
theorem dX8_runLights_27 : decode cX8_runLights 27 = .ok (.getfield 56, 3) := by decide +kernel
theorem dX8_runLights_30 : decode cX8_runLights 30 = .ok (.ifnull 24, 3) := by decide +kernel
theorem dX8_runLights_33 : decode cX8_runLights 33 = .ok (.aload_n 0, 1) := by decide +kernel
theorem dX8_runLights_34 : decode cX8_runLights 34 = .ok (.aload_n 0, 1) := by decide +kernel
theorem dX8_runLights_35 : decode cX8_runLights 35 = .ok (.getfield 56, 3) := by decide +kernel
theorem dX8_runLights_38 : decode cX8_runLights 38 = .ok (.iload_n 1, 1) := by decide +kernel
theorem dX8_runLights_39 : decode cX8_runLights 39 = .ok (.invokevirtual 299, 3) := by decide +kernel
theorem dX8_runLights_42 : decode cX8_runLights 42 = .ok (.ifCond .eq 12, 3) := by decide +kernel
theorem dX8_runLights_45 : decode cX8_runLights 45 = .ok (.aload_n 0, 1) := by decide +kernel
theorem dX8_runLights_46 : decode cX8_runLights 46 = .ok (.aload_n 0, 1) := by decide +kernel
theorem dX8_runLights_47 : decode cX8_runLights 47 = .ok (.getfield 56, 3) := by decide +kernel
theorem dX8_runLights_50 : decode cX8_runLights 50 = .ok (.iload_n 1, 1) := by decide +kernel
theorem dX8_runLights_51 : decode cX8_runLights 51 = .ok (.invokevirtual 303, 3) := by decide +kernel
theorem dX8_runLights_54 : decode cX8_runLights 54 = .ok (.aload_n 0, 1) := by decide +kernel
theorem dX8_runLights_55 : decode cX8_runLights 55 = .ok (.iload_n 1, 1) := by decide +kernel
theorem dX8_runLights_56 : decode cX8_runLights 56 = .ok (.invokevirtual 307, 3) := by decide +kernel
theorem dX8_runLights_59 : decode cX8_runLights 59 = .ok (.aload_n 0, 1) := by decide +kernel
theorem dX8_runLights_60 : decode cX8_runLights 60 = .ok (.getfield 56, 3) := by decide +kernel
theorem dX8_runLights_63 : decode cX8_runLights 63 = .ok (.ifnonnull 10, 3) := by decide +kernel
theorem dX8_runLights_66 : decode cX8_runLights 66 = .ok (.aload_n 0, 1) := by decide +kernel
theorem dX8_runLights_67 : decode cX8_runLights 67 = .ok (.invokevirtual 211, 3) := by decide +kernel
theorem dX8_runLights_70 : decode cX8_runLights 70 = .ok (.goto 4, 3) := by decide +kernel
theorem dX8_runLights_73 : decode cX8_runLights 73 = .ok (.aconst_null, 1) := by decide +kernel
theorem dX8_runLights_74 : decode cX8_runLights 74 = .ok (.astore_n 3, 1) := by decide +kernel
theorem dX8_runLights_75 : decode cX8_runLights 75 = .ok (.aload_n 3, 1) := by decide +kernel
theorem dX8_runLights_76 : decode cX8_runLights 76 = .ok (.ifnull 17, 3) := by decide +kernel
theorem dX8_runLights_79 : decode cX8_runLights 79 = .ok (.aload_n 3, 1) := by decide +kernel
theorem dX8_runLights_80 : decode cX8_runLights 80 = .ok (.iload_n 1, 1) := by decide +kernel
theorem dX8_runLights_81 : decode cX8_runLights 81 = .ok (.invokevirtual 310, 3) := by decide +kernel
theorem dX8_runLights_84 : decode cX8_runLights 84 = .ok (.ifCond .eq 9, 3) := by decide +kernel
theorem dX8_runLights_87 : decode cX8_runLights 87 = .ok (.aload_n 0, 1) := by decide +kernel
theorem dX8_runLights_88 : decode cX8_runLights 88 = .ok (.aload_n 3, 1) := by decide +kernel
theorem dX8_runLights_89 : decode cX8_runLights 89 = .ok (.iload_n 1, 1) := by decide +kernel
theorem dX8_runLights_90 : decode cX8_runLights 90 = .ok (.invokevirtual 314, 3) := by decide +kernel
theorem dX8_runLights_93 : decode cX8_runLights 93 = .ok (.return_, 1) := by decide +kernel
theorem dX8_keepLights_0 : decode cX8_keepLights 0 = .ok (.iconst 0, 1) := by decide +kernel
theorem dX8_keepLights_1 : decode cX8_keepLights 1 = .ok (.istore_n 2, 1) := by decide +kernel
theorem dX8_keepLights_2 : decode cX8_keepLights 2 = .ok (.iload_n 2, 1) := by decide +kernel
theorem dX8_keepLights_3 : decode cX8_keepLights 3 = .ok (.aload_n 0, 1) := by decide +kernel
theorem dX8_keepLights_4 : decode cX8_keepLights 4 = .ok (.getfield 10, 3) := by decide +kernel
theorem dX8_keepLights_7 : decode cX8_keepLights 7 = .ok (.invokevirtual 75, 3) := by decide +kernel
theorem dX8_keepLights_10 : decode cX8_keepLights 10 = .ok (.if_icmp .ge 24, 3) := by decide +kernel
theorem dX8_keepLights_13 : decode cX8_keepLights 13 = .ok (.aload_n 0, 1) := by decide +kernel
theorem dX8_keepLights_14 : decode cX8_keepLights 14 = .ok (.getfield 10, 3) := by decide +kernel
theorem dX8_keepLights_17 : decode cX8_keepLights 17 = .ok (.iload_n 2, 1) := by decide +kernel
theorem dX8_keepLights_18 : decode cX8_keepLights 18 = .ok (.invokevirtual 99, 3) := by decide +kernel
theorem dX8_keepLights_21 : decode cX8_keepLights 21 = .ok (.checkcast 79, 3) := by decide +kernel
theorem dX8_keepLights_24 : decode cX8_keepLights 24 = .ok (.iload_n 1, 1) := by decide +kernel
theorem dX8_keepLights_25 : decode cX8_keepLights 25 = .ok (.invokevirtual 317, 3) := by decide +kernel
theorem dX8_keepLights_28 : decode cX8_keepLights 28 = .ok (.iinc 2 1, 3) := by decide +kernel
theorem dX8_keepLights_31 : decode cX8_keepLights 31 = .ok (.goto (-29), 3) := by decide +kernel
theorem dX8_keepLights_34 : decode cX8_keepLights 34 = .ok (.return_, 1) := by decide +kernel
theorem dX8_readPhases_0 : decode cX8_readPhases 0 = .ok (.iconst 0, 1) := by decide +kernel
theorem dX8_readPhases_1 : decode cX8_readPhases 1 = .ok (.istore_n 2, 1) := by decide +kernel
theorem dX8_readPhases_2 : decode cX8_readPhases 2 = .ok (.iload_n 2, 1) := by decide +kernel
theorem dX8_readPhases_3 : decode cX8_readPhases 3 = .ok (.aload_n 0, 1) := by decide +kernel
theorem dX8_readPhases_4 : decode cX8_readPhases 4 = .ok (.getfield 10, 3) := by decide +kernel
theorem dX8_readPhases_7 : decode cX8_readPhases 7 = .ok (.invokevirtual 75, 3) := by decide +kernel
theorem dX8_readPhases_10 : decode cX8_readPhases 10 = .ok (.if_icmp .ge 71, 3) := by decide +kernel
theorem dX8_readPhases_13 : decode cX8_readPhases 13 = .ok (.aload_n 0, 1) := by decide +kernel
theorem dX8_readPhases_14 : decode cX8_readPhases 14 = .ok (.getfield 10, 3) := by decide +kernel
theorem dX8_readPhases_17 : decode cX8_readPhases 17 = .ok (.iload_n 2, 1) := by decide +kernel
theorem dX8_readPhases_18 : decode cX8_readPhases 18 = .ok (.invokevirtual 99, 3) := by decide +kernel
theorem dX8_readPhases_21 : decode cX8_readPhases 21 = .ok (.checkcast 79, 3) := by decide +kernel
theorem dX8_readPhases_24 : decode cX8_readPhases 24 = .ok (.astore_n 3, 1) := by decide +kernel
theorem dX8_readPhases_25 : decode cX8_readPhases 25 = .ok (.aload_n 3, 1) := by decide +kernel
theorem dX8_readPhases_26 : decode cX8_readPhases 26 = .ok (.getfield 169, 3) := by decide +kernel
theorem dX8_readPhases_29 : decode cX8_readPhases 29 = .ok (.iconst 1, 1) := by decide +kernel
theorem dX8_readPhases_30 : decode cX8_readPhases 30 = .ok (.if_icmp .ne 16, 3) := by decide +kernel
theorem dX8_readPhases_33 : decode cX8_readPhases 33 = .ok (.aload_n 3, 1) := by decide +kernel
theorem dX8_readPhases_34 : decode cX8_readPhases 34 = .ok (.aload_n 0, 1) := by decide +kernel
theorem dX8_readPhases_35 : decode cX8_readPhases 35 = .ok (.aload_n 3, 1) := by decide +kernel
theorem dX8_readPhases_36 : decode cX8_readPhases 36 = .ok (.iload_n 1, 1) := by decide +kernel
theorem dX8_readPhases_37 : decode cX8_readPhases 37 = .ok (.invokevirtual 320, 3) := by decide +kernel
theorem dX8_readPhases_40 : decode cX8_readPhases 40 = .ok (.putfield 324, 3) := by decide +kernel
theorem dX8_readPhases_43 : decode cX8_readPhases 43 = .ok (.goto 32, 3) := by decide +kernel
theorem dX8_readPhases_46 : decode cX8_readPhases 46 = .ok (.aload_n 3, 1) := by decide +kernel
theorem dX8_readPhases_47 : decode cX8_readPhases 47 = .ok (.getfield 220, 3) := by decide +kernel
theorem dX8_readPhases_50 : decode cX8_readPhases 50 = .ok (.iconst 4, 1) := by decide +kernel
theorem dX8_readPhases_51 : decode cX8_readPhases 51 = .ok (.if_icmp .eq 24, 3) := by decide +kernel
theorem dX8_readPhases_54 : decode cX8_readPhases 54 = .ok (.aload_n 3, 1) := by decide +kernel
theorem dX8_readPhases_55 : decode cX8_readPhases 55 = .ok (.invokevirtual 166, 3) := by decide +kernel
theorem dX8_readPhases_58 : decode cX8_readPhases 58 = .ok (.ifCond .ne 17, 3) := by decide +kernel
theorem dX8_readPhases_61 : decode cX8_readPhases 61 = .ok (.aload_n 0, 1) := by decide +kernel
theorem dX8_readPhases_62 : decode cX8_readPhases 62 = .ok (.aload_n 3, 1) := by decide +kernel
theorem dX8_readPhases_63 : decode cX8_readPhases 63 = .ok (.iload_n 1, 1) := by decide +kernel
theorem dX8_readPhases_64 : decode cX8_readPhases 64 = .ok (.invokevirtual 327, 3) := by decide +kernel
theorem dX8_readPhases_67 : decode cX8_readPhases 67 = .ok (.ifCond .eq 8, 3) := by decide +kernel
theorem dX8_readPhases_70 : decode cX8_readPhases 70 = .ok (.aload_n 3, 1) := by decide +kernel
theorem dX8_readPhases_71 : decode cX8_readPhases 71 = .ok (.iload_n 1, 1) := by decide +kernel
theorem dX8_readPhases_72 : decode cX8_readPhases 72 = .ok (.putfield 172, 3) := by decide +kernel
theorem dX8_readPhases_75 : decode cX8_readPhases 75 = .ok (.iinc 2 1, 3) := by decide +kernel
theorem dX8_readPhases_78 : decode cX8_readPhases 78 = .ok (.goto (-76), 3) := by decide +kernel
theorem dX8_readPhases_81 : decode cX8_readPhases 81 = .ok (.return_, 1) := by decide +kernel
theorem dX8_holdsIn_0 : decode cX8_holdsIn 0 = .ok (.aload_n 1, 1) := by decide +kernel
theorem dX8_holdsIn_1 : decode cX8_holdsIn 1 = .ok (.getfield 220, 3) := by decide +kernel
theorem dX8_holdsIn_4 : decode cX8_holdsIn 4 = .ok (.iconst 4, 1) := by decide +kernel
theorem dX8_holdsIn_5 : decode cX8_holdsIn 5 = .ok (.if_icmp .ne 13, 3) := by decide +kernel
theorem dX8_holdsIn_8 : decode cX8_holdsIn 8 = .ok (.aload_n 0, 1) := by decide +kernel
theorem dX8_holdsIn_9 : decode cX8_holdsIn 9 = .ok (.getfield 45, 3) := by decide +kernel
theorem dX8_holdsIn_12 : decode cX8_holdsIn 12 = .ok (.iconst 4, 1) := by decide +kernel
theorem dX8_holdsIn_13 : decode cX8_holdsIn 13 = .ok (.iconst 0, 1) := by decide +kernel
theorem dX8_holdsIn_14 : decode cX8_holdsIn 14 = .ok (.invokevirtual 330, 3) := by decide +kernel
theorem dX8_holdsIn_17 : decode cX8_holdsIn 17 = .ok (.ireturn, 1) := by decide +kernel
theorem dX8_holdsIn_18 : decode cX8_holdsIn 18 = .ok (.aload_n 0, 1) := by decide +kernel
theorem dX8_holdsIn_19 : decode cX8_holdsIn 19 = .ok (.aload_n 1, 1) := by decide +kernel
theorem dX8_holdsIn_20 : decode cX8_holdsIn 20 = .ok (.iload_n 2, 1) := by decide +kernel
theorem dX8_holdsIn_21 : decode cX8_holdsIn 21 = .ok (.invokevirtual 333, 3) := by decide +kernel
theorem dX8_holdsIn_24 : decode cX8_holdsIn 24 = .ok (.astore_n 3, 1) := by decide +kernel
theorem dX8_holdsIn_25 : decode cX8_holdsIn 25 = .ok (.aload_n 3, 1) := by decide +kernel
theorem dX8_holdsIn_26 : decode cX8_holdsIn 26 = .ok (.ifnull 22, 3) := by decide +kernel
theorem dX8_holdsIn_29 : decode cX8_holdsIn 29 = .ok (.aload_n 0, 1) := by decide +kernel
theorem dX8_holdsIn_30 : decode cX8_holdsIn 30 = .ok (.getfield 45, 3) := by decide +kernel
theorem dX8_holdsIn_33 : decode cX8_holdsIn 33 = .ok (.aload_n 1, 1) := by decide +kernel
theorem dX8_holdsIn_34 : decode cX8_holdsIn 34 = .ok (.getfield 220, 3) := by decide +kernel
theorem dX8_holdsIn_37 : decode cX8_holdsIn 37 = .ok (.aload_n 3, 1) := by decide +kernel
theorem dX8_holdsIn_38 : decode cX8_holdsIn 38 = .ok (.iload_n 2, 1) := by decide +kernel
theorem dX8_holdsIn_39 : decode cX8_holdsIn 39 = .ok (.invokevirtual 337, 3) := by decide +kernel
theorem dX8_holdsIn_42 : decode cX8_holdsIn 42 = .ok (.invokevirtual 330, 3) := by decide +kernel
theorem dX8_holdsIn_45 : decode cX8_holdsIn 45 = .ok (.ifCond .eq 7, 3) := by decide +kernel
theorem dX8_holdsIn_48 : decode cX8_holdsIn 48 = .ok (.iconst 1, 1) := by decide +kernel
theorem dX8_holdsIn_49 : decode cX8_holdsIn 49 = .ok (.goto 4, 3) := by decide +kernel
theorem dX8_holdsIn_52 : decode cX8_holdsIn 52 = .ok (.iconst 0, 1) := by decide +kernel
theorem dX8_holdsIn_53 : decode cX8_holdsIn 53 = .ok (.ireturn, 1) := by decide +kernel
theorem dX8_asksIn_0 : decode cX8_asksIn 0 = .ok (.aload_n 0, 1) := by decide +kernel
theorem dX8_asksIn_1 : decode cX8_asksIn 1 = .ok (.aload_n 1, 1) := by decide +kernel
theorem dX8_asksIn_2 : decode cX8_asksIn 2 = .ok (.iload_n 2, 1) := by decide +kernel
theorem dX8_asksIn_3 : decode cX8_asksIn 3 = .ok (.invokevirtual 333, 3) := by decide +kernel
theorem dX8_asksIn_6 : decode cX8_asksIn 6 = .ok (.astore_n 3, 1) := by decide +kernel
theorem dX8_asksIn_7 : decode cX8_asksIn 7 = .ok (.aload_n 3, 1) := by decide +kernel
theorem dX8_asksIn_8 : decode cX8_asksIn 8 = .ok (.ifnull 27, 3) := by decide +kernel
theorem dX8_asksIn_11 : decode cX8_asksIn 11 = .ok (.aload_n 0, 1) := by decide +kernel
theorem dX8_asksIn_12 : decode cX8_asksIn 12 = .ok (.getfield 45, 3) := by decide +kernel
theorem dX8_asksIn_15 : decode cX8_asksIn 15 = .ok (.aload_n 1, 1) := by decide +kernel
theorem dX8_asksIn_16 : decode cX8_asksIn 16 = .ok (.getfield 220, 3) := by decide +kernel
theorem dX8_asksIn_19 : decode cX8_asksIn 19 = .ok (.aload_n 3, 1) := by decide +kernel
theorem dX8_asksIn_20 : decode cX8_asksIn 20 = .ok (.iload_n 2, 1) := by decide +kernel
theorem dX8_asksIn_21 : decode cX8_asksIn 21 = .ok (.invokevirtual 337, 3) := by decide +kernel
theorem dX8_asksIn_24 : decode cX8_asksIn 24 = .ok (.aload_n 3, 1) := by decide +kernel
theorem dX8_asksIn_25 : decode cX8_asksIn 25 = .ok (.iload_n 2, 1) := by decide +kernel
theorem dX8_asksIn_26 : decode cX8_asksIn 26 = .ok (.invokevirtual 340, 3) := by decide +kernel
theorem dX8_asksIn_29 : decode cX8_asksIn 29 = .ok (.invokevirtual 343, 3) := by decide +kernel
theorem dX8_asksIn_32 : decode cX8_asksIn 32 = .ok (.ifCond .eq 7, 3) := by decide +kernel
theorem dX8_asksIn_35 : decode cX8_asksIn 35 = .ok (.iconst 1, 1) := by decide +kernel
theorem dX8_asksIn_36 : decode cX8_asksIn 36 = .ok (.goto 4, 3) := by decide +kernel
theorem dX8_asksIn_39 : decode cX8_asksIn 39 = .ok (.iconst 0, 1) := by decide +kernel
theorem dX8_asksIn_40 : decode cX8_asksIn 40 = .ok (.ireturn, 1) := by decide +kernel
theorem dX8_rowsUntil_0 : decode cX8_rowsUntil 0 = .ok (.aload_n 1, 1) := by decide +kernel
theorem dX8_rowsUntil_1 : decode cX8_rowsUntil 1 = .ok (.getfield 131, 3) := by decide +kernel
theorem dX8_rowsUntil_4 : decode cX8_rowsUntil 4 = .ok (.astore_n 3, 1) := by decide +kernel
theorem dX8_rowsUntil_5 : decode cX8_rowsUntil 5 = .ok (.aload_n 3, 1) := by decide +kernel
theorem dX8_rowsUntil_6 : decode cX8_rowsUntil 6 = .ok (.ifnull 10, 3) := by decide +kernel
theorem dX8_rowsUntil_9 : decode cX8_rowsUntil 9 = .ok (.aload_n 3, 1) := by decide +kernel
theorem dX8_rowsUntil_10 : decode cX8_rowsUntil 10 = .ok (.invokevirtual 140, 3) := by decide +kernel
theorem dX8_rowsUntil_13 : decode cX8_rowsUntil 13 = .ok (.ifCond .eq 17, 3) := by decide +kernel
theorem dX8_rowsUntil_16 : decode cX8_rowsUntil 16 = .ok (.aload_n 0, 1) := by decide +kernel
theorem dX8_rowsUntil_17 : decode cX8_rowsUntil 17 = .ok (.getfield 31, 3) := by decide +kernel
theorem dX8_rowsUntil_20 : decode cX8_rowsUntil 20 = .ok (.iconst 1, 1) := by decide +kernel
theorem dX8_rowsUntil_21 : decode cX8_rowsUntil 21 = .ok (.aload_n 1, 1) := by decide +kernel
theorem dX8_rowsUntil_22 : decode cX8_rowsUntil 22 = .ok (.getfield 88, 3) := by decide +kernel
theorem dX8_rowsUntil_25 : decode cX8_rowsUntil 25 = .ok (.invokevirtual 218, 3) := by decide +kernel
theorem dX8_rowsUntil_28 : decode cX8_rowsUntil 28 = .ok (.aconst_null, 1) := by decide +kernel
theorem dX8_rowsUntil_29 : decode cX8_rowsUntil 29 = .ok (.areturn, 1) := by decide +kernel
theorem dX8_rowsUntil_30 : decode cX8_rowsUntil 30 = .ok (.aload_n 3, 1) := by decide +kernel
theorem dX8_rowsUntil_31 : decode cX8_rowsUntil 31 = .ok (.iload_n 2, 1) := by decide +kernel
theorem dX8_rowsUntil_32 : decode cX8_rowsUntil 32 = .ok (.invokevirtual 346, 3) := by decide +kernel
theorem dX8_rowsUntil_35 : decode cX8_rowsUntil 35 = .ok (.ifCond .ne 17, 3) := by decide +kernel
theorem dX8_rowsUntil_38 : decode cX8_rowsUntil 38 = .ok (.aload_n 0, 1) := by decide +kernel
theorem dX8_rowsUntil_39 : decode cX8_rowsUntil 39 = .ok (.getfield 31, 3) := by decide +kernel
theorem dX8_rowsUntil_42 : decode cX8_rowsUntil 42 = .ok (.iconst 2, 1) := by decide +kernel
theorem dX8_rowsUntil_43 : decode cX8_rowsUntil 43 = .ok (.aload_n 1, 1) := by decide +kernel
theorem dX8_rowsUntil_44 : decode cX8_rowsUntil 44 = .ok (.getfield 88, 3) := by decide +kernel
theorem dX8_rowsUntil_47 : decode cX8_rowsUntil 47 = .ok (.invokevirtual 218, 3) := by decide +kernel
theorem dX8_rowsUntil_50 : decode cX8_rowsUntil 50 = .ok (.aconst_null, 1) := by decide +kernel
theorem dX8_rowsUntil_51 : decode cX8_rowsUntil 51 = .ok (.areturn, 1) := by decide +kernel
theorem dX8_rowsUntil_52 : decode cX8_rowsUntil 52 = .ok (.aload_n 3, 1) := by decide +kernel
theorem dX8_rowsUntil_53 : decode cX8_rowsUntil 53 = .ok (.areturn, 1) := by decide +kernel
theorem dX8_endsIn_0 : decode cX8_endsIn 0 = .ok (.iload_n 2, 1) := by decide +kernel
theorem dX8_endsIn_1 : decode cX8_endsIn 1 = .ok (.aload_n 0, 1) := by decide +kernel
theorem dX8_endsIn_2 : decode cX8_endsIn 2 = .ok (.getfield 60, 3) := by decide +kernel
theorem dX8_endsIn_5 : decode cX8_endsIn 5 = .ok (.isub, 1) := by decide +kernel
theorem dX8_endsIn_6 : decode cX8_endsIn 6 = .ok (.istore_n 3, 1) := by decide +kernel
theorem dX8_endsIn_7 : decode cX8_endsIn 7 = .ok (.aload_n 0, 1) := by decide +kernel
theorem dX8_endsIn_8 : decode cX8_endsIn 8 = .ok (.invokevirtual 211, 3) := by decide +kernel
theorem dX8_endsIn_11 : decode cX8_endsIn 11 = .ok (.ifnull 11, 3) := by decide +kernel
theorem dX8_endsIn_14 : decode cX8_endsIn 14 = .ok (.iload_n 3, 1) := by decide +kernel
theorem dX8_endsIn_15 : decode cX8_endsIn 15 = .ok (.aload_n 0, 1) := by decide +kernel
theorem dX8_endsIn_16 : decode cX8_endsIn 16 = .ok (.getfield 63, 3) := by decide +kernel
theorem dX8_endsIn_19 : decode cX8_endsIn 19 = .ok (.if_icmp .ge 5, 3) := by decide +kernel
theorem dX8_endsIn_22 : decode cX8_endsIn 22 = .ok (.iconst 0, 1) := by decide +kernel
theorem dX8_endsIn_23 : decode cX8_endsIn 23 = .ok (.ireturn, 1) := by decide +kernel
theorem dX8_endsIn_24 : decode cX8_endsIn 24 = .ok (.iload_n 3, 1) := by decide +kernel
theorem dX8_endsIn_25 : decode cX8_endsIn 25 = .ok (.aload_n 0, 1) := by decide +kernel
theorem dX8_endsIn_26 : decode cX8_endsIn 26 = .ok (.getfield 66, 3) := by decide +kernel
theorem dX8_endsIn_29 : decode cX8_endsIn 29 = .ok (.if_icmp .ge 17, 3) := by decide +kernel
theorem dX8_endsIn_32 : decode cX8_endsIn 32 = .ok (.aload_n 0, 1) := by decide +kernel
theorem dX8_endsIn_33 : decode cX8_endsIn 33 = .ok (.getfield 69, 3) := by decide +kernel
theorem dX8_endsIn_36 : decode cX8_endsIn 36 = .ok (.ifnonnull 10, 3) := by decide +kernel
theorem dX8_endsIn_39 : decode cX8_endsIn 39 = .ok (.aload_n 1, 1) := by decide +kernel
theorem dX8_endsIn_40 : decode cX8_endsIn 40 = .ok (.invokevirtual 349, 3) := by decide +kernel
theorem dX8_endsIn_43 : decode cX8_endsIn 43 = .ok (.ifCond .ne 7, 3) := by decide +kernel
theorem dX8_endsIn_46 : decode cX8_endsIn 46 = .ok (.iconst 1, 1) := by decide +kernel
theorem dX8_endsIn_47 : decode cX8_endsIn 47 = .ok (.goto 4, 3) := by decide +kernel
theorem dX8_endsIn_50 : decode cX8_endsIn 50 = .ok (.iconst 0, 1) := by decide +kernel
theorem dX8_endsIn_51 : decode cX8_endsIn 51 = .ok (.ireturn, 1) := by decide +kernel
theorem dX8_endStage_0 : decode cX8_endStage 0 = .ok (.aload_n 1, 1) := by decide +kernel
theorem dX8_endStage_1 : decode cX8_endStage 1 = .ok (.getfield 352, 3) := by decide +kernel
theorem dX8_endStage_4 : decode cX8_endStage 4 = .ok (.astore_n 3, 1) := by decide +kernel
theorem dX8_endStage_5 : decode cX8_endStage 5 = .ok (.aload_n 3, 1) := by decide +kernel
theorem dX8_endStage_6 : decode cX8_endStage 6 = .ok (.arraylength, 1) := by decide +kernel
theorem dX8_endStage_7 : decode cX8_endStage 7 = .ok (.istore 4, 2) := by decide +kernel
theorem dX8_endStage_9 : decode cX8_endStage 9 = .ok (.iconst 0, 1) := by decide +kernel
theorem dX8_endStage_10 : decode cX8_endStage 10 = .ok (.istore 5, 2) := by decide +kernel
theorem dX8_endStage_12 : decode cX8_endStage 12 = .ok (.iload 5, 2) := by decide +kernel
theorem dX8_endStage_14 : decode cX8_endStage 14 = .ok (.iload 4, 2) := by decide +kernel
theorem dX8_endStage_16 : decode cX8_endStage 16 = .ok (.if_icmp .ge 56, 3) := by decide +kernel
theorem dX8_endStage_19 : decode cX8_endStage 19 = .ok (.aload_n 3, 1) := by decide +kernel
theorem dX8_endStage_20 : decode cX8_endStage 20 = .ok (.iload 5, 2) := by decide +kernel
theorem dX8_endStage_22 : decode cX8_endStage 22 = .ok (.aaload, 1) := by decide +kernel
theorem dX8_endStage_23 : decode cX8_endStage 23 = .ok (.astore 6, 2) := by decide +kernel
theorem dX8_endStage_25 : decode cX8_endStage 25 = .ok (.aload 6, 2) := by decide +kernel
theorem dX8_endStage_27 : decode cX8_endStage 27 = .ok (.ifnonnull 6, 3) := by decide +kernel
theorem dX8_endStage_30 : decode cX8_endStage 30 = .ok (.goto 36, 3) := by decide +kernel
theorem dX8_endStage_33 : decode cX8_endStage 33 = .ok (.aload_n 0, 1) := by decide +kernel
theorem dX8_endStage_34 : decode cX8_endStage 34 = .ok (.aload 6, 2) := by decide +kernel
theorem dX8_endStage_36 : decode cX8_endStage 36 = .ok (.aload 6, 2) := by decide +kernel
theorem dX8_endStage_38 : decode cX8_endStage 38 = .ok (.getfield 247, 3) := by decide +kernel
theorem dX8_endStage_41 : decode cX8_endStage 41 = .ok (.ifCond .ne 7, 3) := by decide +kernel
theorem dX8_endStage_44 : decode cX8_endStage 44 = .ok (.iconst 0, 1) := by decide +kernel
theorem dX8_endStage_45 : decode cX8_endStage 45 = .ok (.goto 4, 3) := by decide +kernel
theorem dX8_endStage_48 : decode cX8_endStage 48 = .ok (.iconst 2, 1) := by decide +kernel
theorem dX8_endStage_49 : decode cX8_endStage 49 = .ok (.iload_n 2, 1) := by decide +kernel
theorem dX8_endStage_50 : decode cX8_endStage 50 = .ok (.invokevirtual 356, 3) := by decide +kernel
theorem dX8_endStage_53 : decode cX8_endStage 53 = .ok (.aload_n 0, 1) := by decide +kernel
theorem dX8_endStage_54 : decode cX8_endStage 54 = .ok (.aload 6, 2) := by decide +kernel
theorem dX8_endStage_56 : decode cX8_endStage 56 = .ok (.iload_n 2, 1) := by decide +kernel
theorem dX8_endStage_57 : decode cX8_endStage 57 = .ok (.aload 6, 2) := by decide +kernel
theorem dX8_endStage_59 : decode cX8_endStage 59 = .ok (.getfield 247, 3) := by decide +kernel
theorem dX8_endStage_62 : decode cX8_endStage 62 = .ok (.iadd, 1) := by decide +kernel
theorem dX8_endStage_63 : decode cX8_endStage 63 = .ok (.invokevirtual 360, 3) := by decide +kernel
theorem dX8_endStage_66 : decode cX8_endStage 66 = .ok (.iinc 5 1, 3) := by decide +kernel
theorem dX8_endStage_69 : decode cX8_endStage 69 = .ok (.goto (-57), 3) := by decide +kernel
theorem dX8_endStage_72 : decode cX8_endStage 72 = .ok (.aload_n 0, 1) := by decide +kernel
theorem dX8_endStage_73 : decode cX8_endStage 73 = .ok (.aconst_null, 1) := by decide +kernel
theorem dX8_endStage_74 : decode cX8_endStage 74 = .ok (.putfield 56, 3) := by decide +kernel
theorem dX8_endStage_77 : decode cX8_endStage 77 = .ok (.return_, 1) := by decide +kernel
theorem dX8_setEnd_0 : decode cX8_setEnd 0 = .ok (.aload_n 1, 1) := by decide +kernel
theorem dX8_setEnd_1 : decode cX8_setEnd 1 = .ok (.iload_n 2, 1) := by decide +kernel
theorem dX8_setEnd_2 : decode cX8_setEnd 2 = .ok (.putfield 235, 3) := by decide +kernel
theorem dX8_setEnd_5 : decode cX8_setEnd 5 = .ok (.iconst 0, 1) := by decide +kernel
theorem dX8_setEnd_6 : decode cX8_setEnd 6 = .ok (.istore_n 3, 1) := by decide +kernel
theorem dX8_setEnd_7 : decode cX8_setEnd 7 = .ok (.iload_n 3, 1) := by decide +kernel
theorem dX8_setEnd_8 : decode cX8_setEnd 8 = .ok (.aload_n 0, 1) := by decide +kernel
theorem dX8_setEnd_9 : decode cX8_setEnd 9 = .ok (.getfield 10, 3) := by decide +kernel
theorem dX8_setEnd_12 : decode cX8_setEnd 12 = .ok (.invokevirtual 75, 3) := by decide +kernel
theorem dX8_setEnd_15 : decode cX8_setEnd 15 = .ok (.if_icmp .ge 54, 3) := by decide +kernel
theorem dX8_setEnd_18 : decode cX8_setEnd 18 = .ok (.aload_n 0, 1) := by decide +kernel
theorem dX8_setEnd_19 : decode cX8_setEnd 19 = .ok (.getfield 10, 3) := by decide +kernel
theorem dX8_setEnd_22 : decode cX8_setEnd 22 = .ok (.iload_n 3, 1) := by decide +kernel
theorem dX8_setEnd_23 : decode cX8_setEnd 23 = .ok (.invokevirtual 99, 3) := by decide +kernel
theorem dX8_setEnd_26 : decode cX8_setEnd 26 = .ok (.checkcast 79, 3) := by decide +kernel
theorem dX8_setEnd_29 : decode cX8_setEnd 29 = .ok (.astore 4, 2) := by decide +kernel
theorem dX8_setEnd_31 : decode cX8_setEnd 31 = .ok (.aload_n 1, 1) := by decide +kernel
theorem dX8_setEnd_32 : decode cX8_setEnd 32 = .ok (.aload 4, 2) := by decide +kernel
theorem dX8_setEnd_34 : decode cX8_setEnd 34 = .ok (.invokevirtual 363, 3) := by decide +kernel
theorem dX8_setEnd_37 : decode cX8_setEnd 37 = .ok (.istore 5, 2) := by decide +kernel
theorem dX8_setEnd_39 : decode cX8_setEnd 39 = .ok (.iload 5, 2) := by decide +kernel
theorem dX8_setEnd_41 : decode cX8_setEnd 41 = .ok (.bipush (-5), 2) := by decide +kernel
theorem dX8_setEnd_43 : decode cX8_setEnd 43 = .ok (.if_icmp .eq 20, 3) := by decide +kernel
theorem dX8_setEnd_46 : decode cX8_setEnd 46 = .ok (.aload 4, 2) := by decide +kernel
theorem dX8_setEnd_48 : decode cX8_setEnd 48 = .ok (.aload 4, 2) := by decide +kernel
theorem dX8_setEnd_50 : decode cX8_setEnd 50 = .ok (.getfield 238, 3) := by decide +kernel
theorem dX8_setEnd_53 : decode cX8_setEnd 53 = .ok (.iload_n 2, 1) := by decide +kernel
theorem dX8_setEnd_54 : decode cX8_setEnd 54 = .ok (.iload 5, 2) := by decide +kernel
theorem dX8_setEnd_56 : decode cX8_setEnd 56 = .ok (.iadd, 1) := by decide +kernel
theorem dX8_setEnd_57 : decode cX8_setEnd 57 = .ok (.invokestatic 253, 3) := by decide +kernel
theorem dX8_setEnd_60 : decode cX8_setEnd 60 = .ok (.putfield 238, 3) := by decide +kernel
theorem dX8_setEnd_63 : decode cX8_setEnd 63 = .ok (.iinc 3 1, 3) := by decide +kernel
theorem dX8_setEnd_66 : decode cX8_setEnd 66 = .ok (.goto (-59), 3) := by decide +kernel
theorem dX8_setEnd_69 : decode cX8_setEnd 69 = .ok (.return_, 1) := by decide +kernel
theorem dX8_endAmbers_0 : decode cX8_endAmbers 0 = .ok (.iconst 0, 1) := by decide +kernel
theorem dX8_endAmbers_1 : decode cX8_endAmbers 1 = .ok (.istore_n 2, 1) := by decide +kernel
theorem dX8_endAmbers_2 : decode cX8_endAmbers 2 = .ok (.iload_n 2, 1) := by decide +kernel
theorem dX8_endAmbers_3 : decode cX8_endAmbers 3 = .ok (.aload_n 0, 1) := by decide +kernel
theorem dX8_endAmbers_4 : decode cX8_endAmbers 4 = .ok (.getfield 10, 3) := by decide +kernel
theorem dX8_endAmbers_7 : decode cX8_endAmbers 7 = .ok (.invokevirtual 75, 3) := by decide +kernel
theorem dX8_endAmbers_10 : decode cX8_endAmbers 10 = .ok (.if_icmp .ge 44, 3) := by decide +kernel
theorem dX8_endAmbers_13 : decode cX8_endAmbers 13 = .ok (.aload_n 0, 1) := by decide +kernel
theorem dX8_endAmbers_14 : decode cX8_endAmbers 14 = .ok (.getfield 10, 3) := by decide +kernel
theorem dX8_endAmbers_17 : decode cX8_endAmbers 17 = .ok (.iload_n 2, 1) := by decide +kernel
theorem dX8_endAmbers_18 : decode cX8_endAmbers 18 = .ok (.invokevirtual 99, 3) := by decide +kernel
theorem dX8_endAmbers_21 : decode cX8_endAmbers 21 = .ok (.checkcast 79, 3) := by decide +kernel
theorem dX8_endAmbers_24 : decode cX8_endAmbers 24 = .ok (.astore_n 3, 1) := by decide +kernel
theorem dX8_endAmbers_25 : decode cX8_endAmbers 25 = .ok (.aload_n 3, 1) := by decide +kernel
theorem dX8_endAmbers_26 : decode cX8_endAmbers 26 = .ok (.getfield 169, 3) := by decide +kernel
theorem dX8_endAmbers_29 : decode cX8_endAmbers 29 = .ok (.iconst 2, 1) := by decide +kernel
theorem dX8_endAmbers_30 : decode cX8_endAmbers 30 = .ok (.if_icmp .ne 18, 3) := by decide +kernel
theorem dX8_endAmbers_33 : decode cX8_endAmbers 33 = .ok (.aload_n 3, 1) := by decide +kernel
theorem dX8_endAmbers_34 : decode cX8_endAmbers 34 = .ok (.getfield 235, 3) := by decide +kernel
theorem dX8_endAmbers_37 : decode cX8_endAmbers 37 = .ok (.iload_n 1, 1) := by decide +kernel
theorem dX8_endAmbers_38 : decode cX8_endAmbers 38 = .ok (.if_icmp .gt 10, 3) := by decide +kernel
theorem dX8_endAmbers_41 : decode cX8_endAmbers 41 = .ok (.aload_n 0, 1) := by decide +kernel
theorem dX8_endAmbers_42 : decode cX8_endAmbers 42 = .ok (.aload_n 3, 1) := by decide +kernel
theorem dX8_endAmbers_43 : decode cX8_endAmbers 43 = .ok (.iconst 0, 1) := by decide +kernel
theorem dX8_endAmbers_44 : decode cX8_endAmbers 44 = .ok (.iload_n 1, 1) := by decide +kernel
theorem dX8_endAmbers_45 : decode cX8_endAmbers 45 = .ok (.invokevirtual 356, 3) := by decide +kernel
theorem dX8_endAmbers_48 : decode cX8_endAmbers 48 = .ok (.iinc 2 1, 3) := by decide +kernel
theorem dX8_endAmbers_51 : decode cX8_endAmbers 51 = .ok (.goto (-49), 3) := by decide +kernel
theorem dX8_endAmbers_54 : decode cX8_endAmbers 54 = .ok (.return_, 1) := by decide +kernel
theorem dX8_beginStage_0 : decode cX8_beginStage 0 = .ok (.aload_n 0, 1) := by decide +kernel
theorem dX8_beginStage_1 : decode cX8_beginStage 1 = .ok (.aload_n 1, 1) := by decide +kernel
theorem dX8_beginStage_2 : decode cX8_beginStage 2 = .ok (.putfield 56, 3) := by decide +kernel
theorem dX8_beginStage_5 : decode cX8_beginStage 5 = .ok (.aload_n 0, 1) := by decide +kernel
theorem dX8_beginStage_6 : decode cX8_beginStage 6 = .ok (.iload_n 2, 1) := by decide +kernel
theorem dX8_beginStage_7 : decode cX8_beginStage 7 = .ok (.putfield 60, 3) := by decide +kernel
theorem dX8_beginStage_10 : decode cX8_beginStage 10 = .ok (.aload_n 0, 1) := by decide +kernel
theorem dX8_beginStage_11 : decode cX8_beginStage 11 = .ok (.aload_n 1, 1) := by decide +kernel
theorem dX8_beginStage_12 : decode cX8_beginStage 12 = .ok (.invokevirtual 367, 3) := by decide +kernel
theorem dX8_beginStage_15 : decode cX8_beginStage 15 = .ok (.putfield 63, 3) := by decide +kernel
theorem dX8_beginStage_18 : decode cX8_beginStage 18 = .ok (.aload_n 0, 1) := by decide +kernel
theorem dX8_beginStage_19 : decode cX8_beginStage 19 = .ok (.aload_n 1, 1) := by decide +kernel
theorem dX8_beginStage_20 : decode cX8_beginStage 20 = .ok (.invokevirtual 250, 3) := by decide +kernel
theorem dX8_beginStage_23 : decode cX8_beginStage 23 = .ok (.putfield 66, 3) := by decide +kernel
theorem dX8_beginStage_26 : decode cX8_beginStage 26 = .ok (.aload_n 0, 1) := by decide +kernel
theorem dX8_beginStage_27 : decode cX8_beginStage 27 = .ok (.aload_n 1, 1) := by decide +kernel
theorem dX8_beginStage_28 : decode cX8_beginStage 28 = .ok (.getfield 127, 3) := by decide +kernel
theorem dX8_beginStage_31 : decode cX8_beginStage 31 = .ok (.putfield 72, 3) := by decide +kernel
theorem dX8_beginStage_34 : decode cX8_beginStage 34 = .ok (.aload_n 0, 1) := by decide +kernel
theorem dX8_beginStage_35 : decode cX8_beginStage 35 = .ok (.getfield 69, 3) := by decide +kernel
theorem dX8_beginStage_38 : decode cX8_beginStage 38 = .ok (.aload_n 1, 1) := by decide +kernel
theorem dX8_beginStage_39 : decode cX8_beginStage 39 = .ok (.if_acmp .ne 8, 3) := by decide +kernel
theorem dX8_beginStage_42 : decode cX8_beginStage 42 = .ok (.aload_n 0, 1) := by decide +kernel
theorem dX8_beginStage_43 : decode cX8_beginStage 43 = .ok (.aconst_null, 1) := by decide +kernel
theorem dX8_beginStage_44 : decode cX8_beginStage 44 = .ok (.putfield 69, 3) := by decide +kernel
theorem dX8_beginStage_47 : decode cX8_beginStage 47 = .ok (.aload_n 1, 1) := by decide +kernel
theorem dX8_beginStage_48 : decode cX8_beginStage 48 = .ok (.getfield 352, 3) := by decide +kernel
theorem dX8_beginStage_51 : decode cX8_beginStage 51 = .ok (.astore_n 3, 1) := by decide +kernel
theorem dX8_beginStage_52 : decode cX8_beginStage 52 = .ok (.aload_n 3, 1) := by decide +kernel
theorem dX8_beginStage_53 : decode cX8_beginStage 53 = .ok (.arraylength, 1) := by decide +kernel
theorem dX8_beginStage_54 : decode cX8_beginStage 54 = .ok (.istore 4, 2) := by decide +kernel
theorem dX8_beginStage_56 : decode cX8_beginStage 56 = .ok (.iconst 0, 1) := by decide +kernel
theorem dX8_beginStage_57 : decode cX8_beginStage 57 = .ok (.istore 5, 2) := by decide +kernel
theorem dX8_beginStage_59 : decode cX8_beginStage 59 = .ok (.iload 5, 2) := by decide +kernel
theorem dX8_beginStage_61 : decode cX8_beginStage 61 = .ok (.iload 4, 2) := by decide +kernel
theorem dX8_beginStage_63 : decode cX8_beginStage 63 = .ok (.if_icmp .ge 49, 3) := by decide +kernel
theorem dX8_beginStage_66 : decode cX8_beginStage 66 = .ok (.aload_n 3, 1) := by decide +kernel
theorem dX8_beginStage_67 : decode cX8_beginStage 67 = .ok (.iload 5, 2) := by decide +kernel
theorem dX8_beginStage_69 : decode cX8_beginStage 69 = .ok (.aaload, 1) := by decide +kernel
theorem dX8_beginStage_70 : decode cX8_beginStage 70 = .ok (.astore 6, 2) := by decide +kernel
theorem dX8_beginStage_72 : decode cX8_beginStage 72 = .ok (.aload 6, 2) := by decide +kernel
theorem dX8_beginStage_74 : decode cX8_beginStage 74 = .ok (.ifnonnull 6, 3) := by decide +kernel
theorem dX8_beginStage_77 : decode cX8_beginStage 77 = .ok (.goto 29, 3) := by decide +kernel
theorem dX8_beginStage_80 : decode cX8_beginStage 80 = .ok (.aload_n 0, 1) := by decide +kernel
theorem dX8_beginStage_81 : decode cX8_beginStage 81 = .ok (.aload 6, 2) := by decide +kernel
theorem dX8_beginStage_83 : decode cX8_beginStage 83 = .ok (.iconst 1, 1) := by decide +kernel
theorem dX8_beginStage_84 : decode cX8_beginStage 84 = .ok (.iload_n 2, 1) := by decide +kernel
theorem dX8_beginStage_85 : decode cX8_beginStage 85 = .ok (.invokevirtual 356, 3) := by decide +kernel
theorem dX8_beginStage_88 : decode cX8_beginStage 88 = .ok (.aload 6, 2) := by decide +kernel
theorem dX8_beginStage_90 : decode cX8_beginStage 90 = .ok (.dup, 1) := by decide +kernel
theorem dX8_beginStage_91 : decode cX8_beginStage 91 = .ok (.getfield 232, 3) := by decide +kernel
theorem dX8_beginStage_94 : decode cX8_beginStage 94 = .ok (.iconst 1, 1) := by decide +kernel
theorem dX8_beginStage_95 : decode cX8_beginStage 95 = .ok (.iadd, 1) := by decide +kernel
theorem dX8_beginStage_96 : decode cX8_beginStage 96 = .ok (.putfield 232, 3) := by decide +kernel
theorem dX8_beginStage_99 : decode cX8_beginStage 99 = .ok (.aload 6, 2) := by decide +kernel
theorem dX8_beginStage_101 : decode cX8_beginStage 101 = .ok (.bipush (-5), 2) := by decide +kernel
theorem dX8_beginStage_103 : decode cX8_beginStage 103 = .ok (.putfield 172, 3) := by decide +kernel
theorem dX8_beginStage_106 : decode cX8_beginStage 106 = .ok (.iinc 5 1, 3) := by decide +kernel
theorem dX8_beginStage_109 : decode cX8_beginStage 109 = .ok (.goto (-50), 3) := by decide +kernel
theorem dX8_beginStage_112 : decode cX8_beginStage 112 = .ok (.return_, 1) := by decide +kernel
theorem dX8_nextStage_0 : decode cX8_nextStage 0 = .ok (.aload_n 0, 1) := by decide +kernel
theorem dX8_nextStage_1 : decode cX8_nextStage 1 = .ok (.getfield 69, 3) := by decide +kernel
theorem dX8_nextStage_4 : decode cX8_nextStage 4 = .ok (.ifnull 8, 3) := by decide +kernel
theorem dX8_nextStage_7 : decode cX8_nextStage 7 = .ok (.aload_n 0, 1) := by decide +kernel
theorem dX8_nextStage_8 : decode cX8_nextStage 8 = .ok (.getfield 69, 3) := by decide +kernel
theorem dX8_nextStage_11 : decode cX8_nextStage 11 = .ok (.areturn, 1) := by decide +kernel
theorem dX8_nextStage_12 : decode cX8_nextStage 12 = .ok (.aload_n 0, 1) := by decide +kernel
theorem dX8_nextStage_13 : decode cX8_nextStage 13 = .ok (.getfield 16, 3) := by decide +kernel
theorem dX8_nextStage_16 : decode cX8_nextStage 16 = .ok (.invokevirtual 75, 3) := by decide +kernel
theorem dX8_nextStage_19 : decode cX8_nextStage 19 = .ok (.istore_n 1, 1) := by decide +kernel
theorem dX8_nextStage_20 : decode cX8_nextStage 20 = .ok (.aconst_null, 1) := by decide +kernel
theorem dX8_nextStage_21 : decode cX8_nextStage 21 = .ok (.astore_n 2, 1) := by decide +kernel
theorem dX8_nextStage_22 : decode cX8_nextStage 22 = .ok (.bipush (-5), 2) := by decide +kernel
theorem dX8_nextStage_24 : decode cX8_nextStage 24 = .ok (.istore_n 3, 1) := by decide +kernel
theorem dX8_nextStage_25 : decode cX8_nextStage 25 = .ok (.iconst 1, 1) := by decide +kernel
theorem dX8_nextStage_26 : decode cX8_nextStage 26 = .ok (.istore 4, 2) := by decide +kernel
theorem dX8_nextStage_28 : decode cX8_nextStage 28 = .ok (.iload 4, 2) := by decide +kernel
theorem dX8_nextStage_30 : decode cX8_nextStage 30 = .ok (.iload_n 1, 1) := by decide +kernel
theorem dX8_nextStage_31 : decode cX8_nextStage 31 = .ok (.if_icmp .gt 74, 3) := by decide +kernel
theorem dX8_nextStage_34 : decode cX8_nextStage 34 = .ok (.aload_n 0, 1) := by decide +kernel
theorem dX8_nextStage_35 : decode cX8_nextStage 35 = .ok (.getfield 16, 3) := by decide +kernel
theorem dX8_nextStage_38 : decode cX8_nextStage 38 = .ok (.aload_n 0, 1) := by decide +kernel
theorem dX8_nextStage_39 : decode cX8_nextStage 39 = .ok (.getfield 72, 3) := by decide +kernel
theorem dX8_nextStage_42 : decode cX8_nextStage 42 = .ok (.iload 4, 2) := by decide +kernel
theorem dX8_nextStage_44 : decode cX8_nextStage 44 = .ok (.iadd, 1) := by decide +kernel
theorem dX8_nextStage_45 : decode cX8_nextStage 45 = .ok (.iload_n 1, 1) := by decide +kernel
theorem dX8_nextStage_46 : decode cX8_nextStage 46 = .ok (.invokestatic 370, 3) := by decide +kernel
theorem dX8_nextStage_49 : decode cX8_nextStage 49 = .ok (.invokevirtual 99, 3) := by decide +kernel
theorem dX8_nextStage_52 : decode cX8_nextStage 52 = .ok (.checkcast 103, 3) := by decide +kernel
theorem dX8_nextStage_55 : decode cX8_nextStage 55 = .ok (.astore 5, 2) := by decide +kernel
theorem dX8_nextStage_57 : decode cX8_nextStage 57 = .ok (.aload 5, 2) := by decide +kernel
theorem dX8_nextStage_59 : decode cX8_nextStage 59 = .ok (.invokevirtual 373, 3) := by decide +kernel
theorem dX8_nextStage_62 : decode cX8_nextStage 62 = .ok (.istore 6, 2) := by decide +kernel
theorem dX8_nextStage_64 : decode cX8_nextStage 64 = .ok (.aload 5, 2) := by decide +kernel
theorem dX8_nextStage_66 : decode cX8_nextStage 66 = .ok (.aload_n 0, 1) := by decide +kernel
theorem dX8_nextStage_67 : decode cX8_nextStage 67 = .ok (.getfield 56, 3) := by decide +kernel
theorem dX8_nextStage_70 : decode cX8_nextStage 70 = .ok (.if_acmp .eq 29, 3) := by decide +kernel
theorem dX8_nextStage_73 : decode cX8_nextStage 73 = .ok (.iload 6, 2) := by decide +kernel
theorem dX8_nextStage_75 : decode cX8_nextStage 75 = .ok (.bipush (-5), 2) := by decide +kernel
theorem dX8_nextStage_77 : decode cX8_nextStage 77 = .ok (.if_icmp .ne 6, 3) := by decide +kernel
theorem dX8_nextStage_80 : decode cX8_nextStage 80 = .ok (.goto 19, 3) := by decide +kernel
theorem dX8_nextStage_83 : decode cX8_nextStage 83 = .ok (.aload_n 2, 1) := by decide +kernel
theorem dX8_nextStage_84 : decode cX8_nextStage 84 = .ok (.ifnull 9, 3) := by decide +kernel
theorem dX8_nextStage_87 : decode cX8_nextStage 87 = .ok (.iload 6, 2) := by decide +kernel
theorem dX8_nextStage_89 : decode cX8_nextStage 89 = .ok (.iload_n 3, 1) := by decide +kernel
theorem dX8_nextStage_90 : decode cX8_nextStage 90 = .ok (.if_icmp .ge 9, 3) := by decide +kernel
theorem dX8_nextStage_93 : decode cX8_nextStage 93 = .ok (.aload 5, 2) := by decide +kernel
theorem dX8_nextStage_95 : decode cX8_nextStage 95 = .ok (.astore_n 2, 1) := by decide +kernel
theorem dX8_nextStage_96 : decode cX8_nextStage 96 = .ok (.iload 6, 2) := by decide +kernel
theorem dX8_nextStage_98 : decode cX8_nextStage 98 = .ok (.istore_n 3, 1) := by decide +kernel
theorem dX8_nextStage_99 : decode cX8_nextStage 99 = .ok (.iinc 4 1, 3) := by decide +kernel
theorem dX8_nextStage_102 : decode cX8_nextStage 102 = .ok (.goto (-74), 3) := by decide +kernel
theorem dX8_nextStage_105 : decode cX8_nextStage 105 = .ok (.aload_n 2, 1) := by decide +kernel
theorem dX8_nextStage_106 : decode cX8_nextStage 106 = .ok (.areturn, 1) := by decide +kernel
theorem dX8_changeLight_0 : decode cX8_changeLight 0 = .ok (.aload_n 1, 1) := by decide +kernel
theorem dX8_changeLight_1 : decode cX8_changeLight 1 = .ok (.dup, 1) := by decide +kernel
theorem dX8_changeLight_2 : decode cX8_changeLight 2 = .ok (.getfield 223, 3) := by decide +kernel
theorem dX8_changeLight_5 : decode cX8_changeLight 5 = .ok (.iconst 1, 1) := by decide +kernel
theorem dX8_changeLight_6 : decode cX8_changeLight 6 = .ok (.iadd, 1) := by decide +kernel
theorem dX8_changeLight_7 : decode cX8_changeLight 7 = .ok (.putfield 223, 3) := by decide +kernel
theorem dX8_changeLight_10 : decode cX8_changeLight 10 = .ok (.aload_n 1, 1) := by decide +kernel
theorem dX8_changeLight_11 : decode cX8_changeLight 11 = .ok (.getfield 169, 3) := by decide +kernel
theorem dX8_changeLight_14 : decode cX8_changeLight 14 = .ok (.iconst 1, 1) := by decide +kernel
theorem dX8_changeLight_15 : decode cX8_changeLight 15 = .ok (.if_icmp .ne 13, 3) := by decide +kernel
theorem dX8_changeLight_18 : decode cX8_changeLight 18 = .ok (.aload_n 1, 1) := by decide +kernel
theorem dX8_changeLight_19 : decode cX8_changeLight 19 = .ok (.aload_n 0, 1) := by decide +kernel
theorem dX8_changeLight_20 : decode cX8_changeLight 20 = .ok (.aload_n 1, 1) := by decide +kernel
theorem dX8_changeLight_21 : decode cX8_changeLight 21 = .ok (.iload_n 3, 1) := by decide +kernel
theorem dX8_changeLight_22 : decode cX8_changeLight 22 = .ok (.invokevirtual 376, 3) := by decide +kernel
theorem dX8_changeLight_25 : decode cX8_changeLight 25 = .ok (.putfield 229, 3) := by decide +kernel
theorem dX8_changeLight_28 : decode cX8_changeLight 28 = .ok (.aload_n 1, 1) := by decide +kernel
theorem dX8_changeLight_29 : decode cX8_changeLight 29 = .ok (.iload_n 2, 1) := by decide +kernel
theorem dX8_changeLight_30 : decode cX8_changeLight 30 = .ok (.putfield 169, 3) := by decide +kernel
theorem dX8_changeLight_33 : decode cX8_changeLight 33 = .ok (.aload_n 0, 1) := by decide +kernel
theorem dX8_changeLight_34 : decode cX8_changeLight 34 = .ok (.dup, 1) := by decide +kernel
theorem dX8_changeLight_35 : decode cX8_changeLight 35 = .ok (.getfield 53, 3) := by decide +kernel
theorem dX8_changeLight_38 : decode cX8_changeLight 38 = .ok (.iconst 1, 1) := by decide +kernel
theorem dX8_changeLight_39 : decode cX8_changeLight 39 = .ok (.iadd, 1) := by decide +kernel
theorem dX8_changeLight_40 : decode cX8_changeLight 40 = .ok (.putfield 53, 3) := by decide +kernel
theorem dX8_changeLight_43 : decode cX8_changeLight 43 = .ok (.aload_n 1, 1) := by decide +kernel
theorem dX8_changeLight_44 : decode cX8_changeLight 44 = .ok (.dup, 1) := by decide +kernel
theorem dX8_changeLight_45 : decode cX8_changeLight 45 = .ok (.getfield 226, 3) := by decide +kernel
theorem dX8_changeLight_48 : decode cX8_changeLight 48 = .ok (.iconst 1, 1) := by decide +kernel
theorem dX8_changeLight_49 : decode cX8_changeLight 49 = .ok (.iadd, 1) := by decide +kernel
theorem dX8_changeLight_50 : decode cX8_changeLight 50 = .ok (.putfield 226, 3) := by decide +kernel
theorem dX8_changeLight_53 : decode cX8_changeLight 53 = .ok (.return_, 1) := by decide +kernel
theorem dX8_changeAllLights_0 : decode cX8_changeAllLights 0 = .ok (.iconst 0, 1) := by decide +kernel
theorem dX8_changeAllLights_1 : decode cX8_changeAllLights 1 = .ok (.istore_n 2, 1) := by decide +kernel
theorem dX8_changeAllLights_2 : decode cX8_changeAllLights 2 = .ok (.iload_n 2, 1) := by decide +kernel
theorem dX8_changeAllLights_3 : decode cX8_changeAllLights 3 = .ok (.aload_n 0, 1) := by decide +kernel
theorem dX8_changeAllLights_4 : decode cX8_changeAllLights 4 = .ok (.getfield 10, 3) := by decide +kernel
theorem dX8_changeAllLights_7 : decode cX8_changeAllLights 7 = .ok (.invokevirtual 75, 3) := by decide +kernel
theorem dX8_changeAllLights_10 : decode cX8_changeAllLights 10 = .ok (.if_icmp .ge 29, 3) := by decide +kernel
theorem dX8_changeAllLights_13 : decode cX8_changeAllLights 13 = .ok (.aload_n 0, 1) := by decide +kernel
theorem dX8_changeAllLights_14 : decode cX8_changeAllLights 14 = .ok (.aload_n 0, 1) := by decide +kernel
theorem dX8_changeAllLights_15 : decode cX8_changeAllLights 15 = .ok (.getfield 10, 3) := by decide +kernel
theorem dX8_changeAllLights_18 : decode cX8_changeAllLights 18 = .ok (.iload_n 2, 1) := by decide +kernel
theorem dX8_changeAllLights_19 : decode cX8_changeAllLights 19 = .ok (.invokevirtual 99, 3) := by decide +kernel
theorem dX8_changeAllLights_22 : decode cX8_changeAllLights 22 = .ok (.checkcast 79, 3) := by decide +kernel
theorem dX8_changeAllLights_25 : decode cX8_changeAllLights 25 = .ok (.iload_n 1, 1) := by decide +kernel
theorem dX8_changeAllLights_26 : decode cX8_changeAllLights 26 = .ok (.aload_n 0, 1) := by decide +kernel
theorem dX8_changeAllLights_27 : decode cX8_changeAllLights 27 = .ok (.getfield 49, 3) := by decide +kernel
theorem dX8_changeAllLights_30 : decode cX8_changeAllLights 30 = .ok (.invokevirtual 356, 3) := by decide +kernel
theorem dX8_changeAllLights_33 : decode cX8_changeAllLights 33 = .ok (.iinc 2 1, 3) := by decide +kernel
theorem dX8_changeAllLights_36 : decode cX8_changeAllLights 36 = .ok (.goto (-34), 3) := by decide +kernel
theorem dX8_changeAllLights_39 : decode cX8_changeAllLights 39 = .ok (.return_, 1) := by decide +kernel
theorem dX8_gapOf_0 : decode cX8_gapOf 0 = .ok (.aload_n 1, 1) := by decide +kernel
theorem dX8_gapOf_1 : decode cX8_gapOf 1 = .ok (.getfield 220, 3) := by decide +kernel
theorem dX8_gapOf_4 : decode cX8_gapOf 4 = .ok (.iconst 4, 1) := by decide +kernel
theorem dX8_gapOf_5 : decode cX8_gapOf 5 = .ok (.if_icmp .ne 5, 3) := by decide +kernel
theorem dX8_gapOf_8 : decode cX8_gapOf 8 = .ok (.iconst 0, 1) := by decide +kernel
theorem dX8_gapOf_9 : decode cX8_gapOf 9 = .ok (.ireturn, 1) := by decide +kernel
theorem dX8_gapOf_10 : decode cX8_gapOf 10 = .ok (.aload_n 0, 1) := by decide +kernel
theorem dX8_gapOf_11 : decode cX8_gapOf 11 = .ok (.aload_n 1, 1) := by decide +kernel
theorem dX8_gapOf_12 : decode cX8_gapOf 12 = .ok (.iload_n 2, 1) := by decide +kernel
theorem dX8_gapOf_13 : decode cX8_gapOf 13 = .ok (.iconst 1, 1) := by decide +kernel
theorem dX8_gapOf_14 : decode cX8_gapOf 14 = .ok (.isub, 1) := by decide +kernel
theorem dX8_gapOf_15 : decode cX8_gapOf 15 = .ok (.invokevirtual 333, 3) := by decide +kernel
theorem dX8_gapOf_18 : decode cX8_gapOf 18 = .ok (.astore_n 3, 1) := by decide +kernel
theorem dX8_gapOf_19 : decode cX8_gapOf 19 = .ok (.aload_n 3, 1) := by decide +kernel
theorem dX8_gapOf_20 : decode cX8_gapOf 20 = .ok (.ifnonnull 5, 3) := by decide +kernel
theorem dX8_gapOf_23 : decode cX8_gapOf 23 = .ok (.iconst 0, 1) := by decide +kernel
theorem dX8_gapOf_24 : decode cX8_gapOf 24 = .ok (.ireturn, 1) := by decide +kernel
theorem dX8_gapOf_25 : decode cX8_gapOf 25 = .ok (.iconst 0, 1) := by decide +kernel
theorem dX8_gapOf_26 : decode cX8_gapOf 26 = .ok (.istore 4, 2) := by decide +kernel
theorem dX8_gapOf_28 : decode cX8_gapOf 28 = .ok (.aload_n 0, 1) := by decide +kernel
theorem dX8_gapOf_29 : decode cX8_gapOf 29 = .ok (.getfield 60, 3) := by decide +kernel
theorem dX8_gapOf_32 : decode cX8_gapOf 32 = .ok (.istore 5, 2) := by decide +kernel
theorem dX8_gapOf_34 : decode cX8_gapOf 34 = .ok (.iload 5, 2) := by decide +kernel
theorem dX8_gapOf_36 : decode cX8_gapOf 36 = .ok (.iload_n 2, 1) := by decide +kernel
theorem dX8_gapOf_37 : decode cX8_gapOf 37 = .ok (.if_icmp .ge 20, 3) := by decide +kernel
theorem dX8_gapOf_40 : decode cX8_gapOf 40 = .ok (.iload 4, 2) := by decide +kernel
theorem dX8_gapOf_42 : decode cX8_gapOf 42 = .ok (.aload_n 3, 1) := by decide +kernel
theorem dX8_gapOf_43 : decode cX8_gapOf 43 = .ok (.iload 5, 2) := by decide +kernel
theorem dX8_gapOf_45 : decode cX8_gapOf 45 = .ok (.invokevirtual 337, 3) := by decide +kernel
theorem dX8_gapOf_48 : decode cX8_gapOf 48 = .ok (.iadd, 1) := by decide +kernel
theorem dX8_gapOf_49 : decode cX8_gapOf 49 = .ok (.istore 4, 2) := by decide +kernel
theorem dX8_gapOf_51 : decode cX8_gapOf 51 = .ok (.iinc 5 1, 3) := by decide +kernel
theorem dX8_gapOf_54 : decode cX8_gapOf 54 = .ok (.goto (-20), 3) := by decide +kernel
theorem dX8_gapOf_57 : decode cX8_gapOf 57 = .ok (.iload 4, 2) := by decide +kernel
theorem dX8_gapOf_59 : decode cX8_gapOf 59 = .ok (.ifCond .ne 17, 3) := by decide +kernel
theorem dX8_gapOf_62 : decode cX8_gapOf 62 = .ok (.aload_n 0, 1) := by decide +kernel
theorem dX8_gapOf_63 : decode cX8_gapOf 63 = .ok (.getfield 31, 3) := by decide +kernel
theorem dX8_gapOf_66 : decode cX8_gapOf 66 = .ok (.iconst 3, 1) := by decide +kernel
theorem dX8_gapOf_67 : decode cX8_gapOf 67 = .ok (.aload_n 1, 1) := by decide +kernel
theorem dX8_gapOf_68 : decode cX8_gapOf 68 = .ok (.getfield 88, 3) := by decide +kernel
theorem dX8_gapOf_71 : decode cX8_gapOf 71 = .ok (.invokevirtual 218, 3) := by decide +kernel
theorem dX8_gapOf_74 : decode cX8_gapOf 74 = .ok (.iconst 0, 1) := by decide +kernel
theorem dX8_gapOf_75 : decode cX8_gapOf 75 = .ok (.ireturn, 1) := by decide +kernel
theorem dX8_gapOf_76 : decode cX8_gapOf 76 = .ok (.iload_n 2, 1) := by decide +kernel
theorem dX8_gapOf_77 : decode cX8_gapOf 77 = .ok (.aload_n 0, 1) := by decide +kernel
theorem dX8_gapOf_78 : decode cX8_gapOf 78 = .ok (.getfield 60, 3) := by decide +kernel
theorem dX8_gapOf_81 : decode cX8_gapOf 81 = .ok (.isub, 1) := by decide +kernel
theorem dX8_gapOf_82 : decode cX8_gapOf 82 = .ok (.iload 4, 2) := by decide +kernel
theorem dX8_gapOf_84 : decode cX8_gapOf 84 = .ok (.idiv, 1) := by decide +kernel
theorem dX8_gapOf_85 : decode cX8_gapOf 85 = .ok (.ireturn, 1) := by decide +kernel
theorem dX8_lookAtPairs_0 : decode cX8_lookAtPairs 0 = .ok (.iconst 0, 1) := by decide +kernel
theorem dX8_lookAtPairs_1 : decode cX8_lookAtPairs 1 = .ok (.istore_n 2, 1) := by decide +kernel
theorem dX8_lookAtPairs_2 : decode cX8_lookAtPairs 2 = .ok (.iload_n 2, 1) := by decide +kernel
theorem dX8_lookAtPairs_3 : decode cX8_lookAtPairs 3 = .ok (.aload_n 0, 1) := by decide +kernel
theorem dX8_lookAtPairs_4 : decode cX8_lookAtPairs 4 = .ok (.getfield 25, 3) := by decide +kernel
theorem dX8_lookAtPairs_7 : decode cX8_lookAtPairs 7 = .ok (.invokevirtual 75, 3) := by decide +kernel
theorem dX8_lookAtPairs_10 : decode cX8_lookAtPairs 10 = .ok (.if_icmp .ge 24, 3) := by decide +kernel
theorem dX8_lookAtPairs_13 : decode cX8_lookAtPairs 13 = .ok (.aload_n 0, 1) := by decide +kernel
theorem dX8_lookAtPairs_14 : decode cX8_lookAtPairs 14 = .ok (.getfield 25, 3) := by decide +kernel
theorem dX8_lookAtPairs_17 : decode cX8_lookAtPairs 17 = .ok (.iload_n 2, 1) := by decide +kernel
theorem dX8_lookAtPairs_18 : decode cX8_lookAtPairs 18 = .ok (.invokevirtual 99, 3) := by decide +kernel
theorem dX8_lookAtPairs_21 : decode cX8_lookAtPairs 21 = .ok (.checkcast 161, 3) := by decide +kernel
theorem dX8_lookAtPairs_24 : decode cX8_lookAtPairs 24 = .ok (.iload_n 1, 1) := by decide +kernel
theorem dX8_lookAtPairs_25 : decode cX8_lookAtPairs 25 = .ok (.invokevirtual 380, 3) := by decide +kernel
theorem dX8_lookAtPairs_28 : decode cX8_lookAtPairs 28 = .ok (.iinc 2 1, 3) := by decide +kernel
theorem dX8_lookAtPairs_31 : decode cX8_lookAtPairs 31 = .ok (.goto (-29), 3) := by decide +kernel
theorem dX8_lookAtPairs_34 : decode cX8_lookAtPairs 34 = .ok (.return_, 1) := by decide +kernel
theorem dX8_faultToMeet_0 : decode cX8_faultToMeet 0 = .ok (.iconst 0, 1) := by decide +kernel
theorem dX8_faultToMeet_1 : decode cX8_faultToMeet 1 = .ok (.istore_n 1, 1) := by decide +kernel
theorem dX8_faultToMeet_2 : decode cX8_faultToMeet 2 = .ok (.iload_n 1, 1) := by decide +kernel
theorem dX8_faultToMeet_3 : decode cX8_faultToMeet 3 = .ok (.aload_n 0, 1) := by decide +kernel
theorem dX8_faultToMeet_4 : decode cX8_faultToMeet 4 = .ok (.getfield 10, 3) := by decide +kernel
theorem dX8_faultToMeet_7 : decode cX8_faultToMeet 7 = .ok (.invokevirtual 75, 3) := by decide +kernel
theorem dX8_faultToMeet_10 : decode cX8_faultToMeet 10 = .ok (.if_icmp .ge 37, 3) := by decide +kernel
theorem dX8_faultToMeet_13 : decode cX8_faultToMeet 13 = .ok (.aload_n 0, 1) := by decide +kernel
theorem dX8_faultToMeet_14 : decode cX8_faultToMeet 14 = .ok (.getfield 10, 3) := by decide +kernel
theorem dX8_faultToMeet_17 : decode cX8_faultToMeet 17 = .ok (.iload_n 1, 1) := by decide +kernel
theorem dX8_faultToMeet_18 : decode cX8_faultToMeet 18 = .ok (.invokevirtual 99, 3) := by decide +kernel
theorem dX8_faultToMeet_21 : decode cX8_faultToMeet 21 = .ok (.checkcast 79, 3) := by decide +kernel
theorem dX8_faultToMeet_24 : decode cX8_faultToMeet 24 = .ok (.astore_n 2, 1) := by decide +kernel
theorem dX8_faultToMeet_25 : decode cX8_faultToMeet 25 = .ok (.aload_n 2, 1) := by decide +kernel
theorem dX8_faultToMeet_26 : decode cX8_faultToMeet 26 = .ok (.getfield 157, 3) := by decide +kernel
theorem dX8_faultToMeet_29 : decode cX8_faultToMeet 29 = .ok (.ifCond .eq 12, 3) := by decide +kernel
theorem dX8_faultToMeet_32 : decode cX8_faultToMeet 32 = .ok (.aload_n 2, 1) := by decide +kernel
theorem dX8_faultToMeet_33 : decode cX8_faultToMeet 33 = .ok (.invokevirtual 383, 3) := by decide +kernel
theorem dX8_faultToMeet_36 : decode cX8_faultToMeet 36 = .ok (.ifCond .eq 5, 3) := by decide +kernel
theorem dX8_faultToMeet_39 : decode cX8_faultToMeet 39 = .ok (.iconst 1, 1) := by decide +kernel
theorem dX8_faultToMeet_40 : decode cX8_faultToMeet 40 = .ok (.ireturn, 1) := by decide +kernel
theorem dX8_faultToMeet_41 : decode cX8_faultToMeet 41 = .ok (.iinc 1 1, 3) := by decide +kernel
theorem dX8_faultToMeet_44 : decode cX8_faultToMeet 44 = .ok (.goto (-42), 3) := by decide +kernel
theorem dX8_faultToMeet_47 : decode cX8_faultToMeet 47 = .ok (.iconst 0, 1) := by decide +kernel
theorem dX8_faultToMeet_48 : decode cX8_faultToMeet 48 = .ok (.istore_n 1, 1) := by decide +kernel
theorem dX8_faultToMeet_49 : decode cX8_faultToMeet 49 = .ok (.iload_n 1, 1) := by decide +kernel
theorem dX8_faultToMeet_50 : decode cX8_faultToMeet 50 = .ok (.aload_n 0, 1) := by decide +kernel
theorem dX8_faultToMeet_51 : decode cX8_faultToMeet 51 = .ok (.getfield 25, 3) := by decide +kernel
theorem dX8_faultToMeet_54 : decode cX8_faultToMeet 54 = .ok (.invokevirtual 75, 3) := by decide +kernel
theorem dX8_faultToMeet_57 : decode cX8_faultToMeet 57 = .ok (.if_icmp .ge 28, 3) := by decide +kernel
theorem dX8_faultToMeet_60 : decode cX8_faultToMeet 60 = .ok (.aload_n 0, 1) := by decide +kernel
theorem dX8_faultToMeet_61 : decode cX8_faultToMeet 61 = .ok (.getfield 25, 3) := by decide +kernel
theorem dX8_faultToMeet_64 : decode cX8_faultToMeet 64 = .ok (.iload_n 1, 1) := by decide +kernel
theorem dX8_faultToMeet_65 : decode cX8_faultToMeet 65 = .ok (.invokevirtual 99, 3) := by decide +kernel
theorem dX8_faultToMeet_68 : decode cX8_faultToMeet 68 = .ok (.checkcast 161, 3) := by decide +kernel
theorem dX8_faultToMeet_71 : decode cX8_faultToMeet 71 = .ok (.invokevirtual 386, 3) := by decide +kernel
theorem dX8_faultToMeet_74 : decode cX8_faultToMeet 74 = .ok (.ifCond .eq 5, 3) := by decide +kernel
theorem dX8_faultToMeet_77 : decode cX8_faultToMeet 77 = .ok (.iconst 2, 1) := by decide +kernel
theorem dX8_faultToMeet_78 : decode cX8_faultToMeet 78 = .ok (.ireturn, 1) := by decide +kernel
theorem dX8_faultToMeet_79 : decode cX8_faultToMeet 79 = .ok (.iinc 1 1, 3) := by decide +kernel
theorem dX8_faultToMeet_82 : decode cX8_faultToMeet 82 = .ok (.goto (-33), 3) := by decide +kernel
theorem dX8_faultToMeet_85 : decode cX8_faultToMeet 85 = .ok (.aload_n 0, 1) := by decide +kernel
theorem dX8_faultToMeet_86 : decode cX8_faultToMeet 86 = .ok (.getfield 38, 3) := by decide +kernel
theorem dX8_faultToMeet_89 : decode cX8_faultToMeet 89 = .ok (.getfield 197, 3) := by decide +kernel
theorem dX8_faultToMeet_92 : decode cX8_faultToMeet 92 = .ok (.ifCond .eq 7, 3) := by decide +kernel
theorem dX8_faultToMeet_95 : decode cX8_faultToMeet 95 = .ok (.iconst 3, 1) := by decide +kernel
theorem dX8_faultToMeet_96 : decode cX8_faultToMeet 96 = .ok (.goto 4, 3) := by decide +kernel
theorem dX8_faultToMeet_99 : decode cX8_faultToMeet 99 = .ok (.iconst 0, 1) := by decide +kernel
theorem dX8_faultToMeet_100 : decode cX8_faultToMeet 100 = .ok (.ireturn, 1) := by decide +kernel
theorem dX8_meetFault_0 : decode cX8_meetFault 0 = .ok (.aload_n 0, 1) := by decide +kernel
theorem dX8_meetFault_1 : decode cX8_meetFault 1 = .ok (.getfield 38, 3) := by decide +kernel
theorem dX8_meetFault_4 : decode cX8_meetFault 4 = .ok (.iload_n 1, 1) := by decide +kernel
theorem dX8_meetFault_5 : decode cX8_meetFault 5 = .ok (.iload_n 2, 1) := by decide +kernel
theorem dX8_meetFault_6 : decode cX8_meetFault 6 = .ok (.invokevirtual 389, 3) := by decide +kernel
theorem dX8_meetFault_9 : decode cX8_meetFault 9 = .ok (.iconst 0, 1) := by decide +kernel
theorem dX8_meetFault_10 : decode cX8_meetFault 10 = .ok (.istore_n 3, 1) := by decide +kernel
theorem dX8_meetFault_11 : decode cX8_meetFault 11 = .ok (.iload_n 3, 1) := by decide +kernel
theorem dX8_meetFault_12 : decode cX8_meetFault 12 = .ok (.aload_n 0, 1) := by decide +kernel
theorem dX8_meetFault_13 : decode cX8_meetFault 13 = .ok (.getfield 10, 3) := by decide +kernel
theorem dX8_meetFault_16 : decode cX8_meetFault 16 = .ok (.invokevirtual 75, 3) := by decide +kernel
theorem dX8_meetFault_19 : decode cX8_meetFault 19 = .ok (.if_icmp .ge 48, 3) := by decide +kernel
theorem dX8_meetFault_22 : decode cX8_meetFault 22 = .ok (.aload_n 0, 1) := by decide +kernel
theorem dX8_meetFault_23 : decode cX8_meetFault 23 = .ok (.getfield 10, 3) := by decide +kernel
theorem dX8_meetFault_26 : decode cX8_meetFault 26 = .ok (.iload_n 3, 1) := by decide +kernel
theorem dX8_meetFault_27 : decode cX8_meetFault 27 = .ok (.invokevirtual 99, 3) := by decide +kernel
theorem dX8_meetFault_30 : decode cX8_meetFault 30 = .ok (.checkcast 79, 3) := by decide +kernel
theorem dX8_meetFault_33 : decode cX8_meetFault 33 = .ok (.astore 4, 2) := by decide +kernel
theorem dX8_meetFault_35 : decode cX8_meetFault 35 = .ok (.aload 4, 2) := by decide +kernel
theorem dX8_meetFault_37 : decode cX8_meetFault 37 = .ok (.invokevirtual 383, 3) := by decide +kernel
theorem dX8_meetFault_40 : decode cX8_meetFault 40 = .ok (.ifCond .ne 6, 3) := by decide +kernel
theorem dX8_meetFault_43 : decode cX8_meetFault 43 = .ok (.goto 18, 3) := by decide +kernel
theorem dX8_meetFault_46 : decode cX8_meetFault 46 = .ok (.aload_n 0, 1) := by decide +kernel
theorem dX8_meetFault_47 : decode cX8_meetFault 47 = .ok (.aload 4, 2) := by decide +kernel
theorem dX8_meetFault_49 : decode cX8_meetFault 49 = .ok (.iconst 0, 1) := by decide +kernel
theorem dX8_meetFault_50 : decode cX8_meetFault 50 = .ok (.iload_n 2, 1) := by decide +kernel
theorem dX8_meetFault_51 : decode cX8_meetFault 51 = .ok (.invokevirtual 356, 3) := by decide +kernel
theorem dX8_meetFault_54 : decode cX8_meetFault 54 = .ok (.aload_n 0, 1) := by decide +kernel
theorem dX8_meetFault_55 : decode cX8_meetFault 55 = .ok (.aload 4, 2) := by decide +kernel
theorem dX8_meetFault_57 : decode cX8_meetFault 57 = .ok (.iload_n 2, 1) := by decide +kernel
theorem dX8_meetFault_58 : decode cX8_meetFault 58 = .ok (.invokevirtual 360, 3) := by decide +kernel
theorem dX8_meetFault_61 : decode cX8_meetFault 61 = .ok (.iinc 3 1, 3) := by decide +kernel
theorem dX8_meetFault_64 : decode cX8_meetFault 64 = .ok (.goto (-53), 3) := by decide +kernel
theorem dX8_meetFault_67 : decode cX8_meetFault 67 = .ok (.aload_n 0, 1) := by decide +kernel
theorem dX8_meetFault_68 : decode cX8_meetFault 68 = .ok (.aconst_null, 1) := by decide +kernel
theorem dX8_meetFault_69 : decode cX8_meetFault 69 = .ok (.putfield 56, 3) := by decide +kernel
theorem dX8_meetFault_72 : decode cX8_meetFault 72 = .ok (.aload_n 0, 1) := by decide +kernel
theorem dX8_meetFault_73 : decode cX8_meetFault 73 = .ok (.aconst_null, 1) := by decide +kernel
theorem dX8_meetFault_74 : decode cX8_meetFault 74 = .ok (.putfield 69, 3) := by decide +kernel
theorem dX8_meetFault_77 : decode cX8_meetFault 77 = .ok (.iconst 0, 1) := by decide +kernel
theorem dX8_meetFault_78 : decode cX8_meetFault 78 = .ok (.istore_n 3, 1) := by decide +kernel
theorem dX8_meetFault_79 : decode cX8_meetFault 79 = .ok (.iload_n 3, 1) := by decide +kernel
theorem dX8_meetFault_80 : decode cX8_meetFault 80 = .ok (.aload_n 0, 1) := by decide +kernel
theorem dX8_meetFault_81 : decode cX8_meetFault 81 = .ok (.getfield 25, 3) := by decide +kernel
theorem dX8_meetFault_84 : decode cX8_meetFault 84 = .ok (.invokevirtual 75, 3) := by decide +kernel
theorem dX8_meetFault_87 : decode cX8_meetFault 87 = .ok (.if_icmp .ge 23, 3) := by decide +kernel
theorem dX8_meetFault_90 : decode cX8_meetFault 90 = .ok (.aload_n 0, 1) := by decide +kernel
theorem dX8_meetFault_91 : decode cX8_meetFault 91 = .ok (.getfield 25, 3) := by decide +kernel
theorem dX8_meetFault_94 : decode cX8_meetFault 94 = .ok (.iload_n 3, 1) := by decide +kernel
theorem dX8_meetFault_95 : decode cX8_meetFault 95 = .ok (.invokevirtual 99, 3) := by decide +kernel
theorem dX8_meetFault_98 : decode cX8_meetFault 98 = .ok (.checkcast 161, 3) := by decide +kernel
theorem dX8_meetFault_101 : decode cX8_meetFault 101 = .ok (.invokevirtual 392, 3) := by decide +kernel
theorem dX8_meetFault_104 : decode cX8_meetFault 104 = .ok (.iinc 3 1, 3) := by decide +kernel
theorem dX8_meetFault_107 : decode cX8_meetFault 107 = .ok (.goto (-28), 3) := by decide +kernel
theorem dX8_meetFault_110 : decode cX8_meetFault 110 = .ok (.return_, 1) := by decide +kernel
theorem dX8_flashIfDue_0 : decode cX8_flashIfDue 0 = .ok (.aload_n 0, 1) := by decide +kernel
theorem dX8_flashIfDue_1 : decode cX8_flashIfDue 1 = .ok (.getfield 38, 3) := by decide +kernel
theorem dX8_flashIfDue_4 : decode cX8_flashIfDue 4 = .ok (.getfield 179, 3) := by decide +kernel
theorem dX8_flashIfDue_7 : decode cX8_flashIfDue 7 = .ok (.iconst 1, 1) := by decide +kernel
theorem dX8_flashIfDue_8 : decode cX8_flashIfDue 8 = .ok (.if_icmp .ne 16, 3) := by decide +kernel
theorem dX8_flashIfDue_11 : decode cX8_flashIfDue 11 = .ok (.iload_n 1, 1) := by decide +kernel
theorem dX8_flashIfDue_12 : decode cX8_flashIfDue 12 = .ok (.aload_n 0, 1) := by decide +kernel
theorem dX8_flashIfDue_13 : decode cX8_flashIfDue 13 = .ok (.getfield 38, 3) := by decide +kernel
theorem dX8_flashIfDue_16 : decode cX8_flashIfDue 16 = .ok (.getfield 272, 3) := by decide +kernel
theorem dX8_flashIfDue_19 : decode cX8_flashIfDue 19 = .ok (.isub, 1) := by decide +kernel
theorem dX8_flashIfDue_20 : decode cX8_flashIfDue 20 = .ok (.iconst 3, 1) := by decide +kernel
theorem dX8_flashIfDue_21 : decode cX8_flashIfDue 21 = .ok (.if_icmp .ge 4, 3) := by decide +kernel
theorem dX8_flashIfDue_24 : decode cX8_flashIfDue 24 = .ok (.return_, 1) := by decide +kernel
theorem dX8_flashIfDue_25 : decode cX8_flashIfDue 25 = .ok (.aload_n 0, 1) := by decide +kernel
theorem dX8_flashIfDue_26 : decode cX8_flashIfDue 26 = .ok (.iconst 3, 1) := by decide +kernel
theorem dX8_flashIfDue_27 : decode cX8_flashIfDue 27 = .ok (.invokevirtual 200, 3) := by decide +kernel
theorem dX8_flashIfDue_30 : decode cX8_flashIfDue 30 = .ok (.aload_n 0, 1) := by decide +kernel
theorem dX8_flashIfDue_31 : decode cX8_flashIfDue 31 = .ok (.getfield 38, 3) := by decide +kernel
theorem dX8_flashIfDue_34 : decode cX8_flashIfDue 34 = .ok (.iconst 2, 1) := by decide +kernel
theorem dX8_flashIfDue_35 : decode cX8_flashIfDue 35 = .ok (.putfield 179, 3) := by decide +kernel
theorem dX8_flashIfDue_38 : decode cX8_flashIfDue 38 = .ok (.return_, 1) := by decide +kernel
