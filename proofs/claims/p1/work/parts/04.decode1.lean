theorem dX8_key_0 : decode cX8_key 0 = .ok (.iload_n 1, 1) := by decide +kernel
theorem dX8_key_1 : decode cX8_key 1 = .ok (.invokestatic 118, 3) := by decide +kernel
theorem dX8_key_4 : decode cX8_key 4 = .ok (.ifCond .eq 15, 3) := by decide +kernel
theorem dX8_key_19 : decode cX8_key 19 = .ok (.iconst (-1), 1) := by decide +kernel
theorem dX8_key_20 : decode cX8_key 20 = .ok (.ireturn, 1) := by decide +kernel
theorem dX8_key_7 : decode cX8_key 7 = .ok (.aload_n 0, 1) := by decide +kernel
theorem dX8_key_8 : decode cX8_key 8 = .ok (.getfield 9, 3) := by decide +kernel
theorem dX8_key_11 : decode cX8_key 11 = .ok (.bipush 19, 2) := by decide +kernel
theorem dX8_key_13 : decode cX8_key 13 = .ok (.iaload, 1) := by decide +kernel
theorem dX8_key_14 : decode cX8_key 14 = .ok (.bipush 16, 2) := by decide +kernel
theorem dX8_key_16 : decode cX8_key 16 = .ok (.if_icmp .lt 5, 3) := by decide +kernel
theorem dX8_key_21 : decode cX8_key 21 = .ok (.aload_n 0, 1) := by decide +kernel
theorem dX8_key_22 : decode cX8_key 22 = .ok (.getfield 21, 3) := by decide +kernel
theorem dX8_key_25 : decode cX8_key 25 = .ok (.iload_n 1, 1) := by decide +kernel
theorem dX8_key_26 : decode cX8_key 26 = .ok (.invokevirtual 124, 3) := by decide +kernel
theorem dX8_key_29 : decode cX8_key 29 = .ok (.aload_n 0, 1) := by decide +kernel
theorem dX8_key_30 : decode cX8_key 30 = .ok (.getfield 28, 3) := by decide +kernel
theorem dX8_key_33 : decode cX8_key 33 = .ok (.invokevirtual 121, 3) := by decide +kernel
theorem dX8_key_36 : decode cX8_key 36 = .ok (.aload_n 0, 1) := by decide +kernel
theorem dX8_key_37 : decode cX8_key 37 = .ok (.getfield 9, 3) := by decide +kernel
theorem dX8_key_40 : decode cX8_key 40 = .ok (.bipush 19, 2) := by decide +kernel
theorem dX8_key_42 : decode cX8_key 42 = .ok (.iaload, 1) := by decide +kernel
theorem dX8_key_43 : decode cX8_key 43 = .ok (.ireturn, 1) := by decide +kernel
theorem dX6_find_0 : decode cX6_find 0 = .ok (.iconst 0, 1) := by decide +kernel
theorem dX6_find_1 : decode cX6_find 1 = .ok (.istore_n 2, 1) := by decide +kernel
theorem dX6_find_2 : decode cX6_find 2 = .ok (.iload_n 2, 1) := by decide +kernel
theorem dX6_find_3 : decode cX6_find 3 = .ok (.aload_n 0, 1) := by decide +kernel
theorem dX6_find_4 : decode cX6_find 4 = .ok (.getfield 19, 3) := by decide +kernel
theorem dX6_find_7 : decode cX6_find 7 = .ok (.if_icmp .ge 21, 3) := by decide +kernel
theorem dX6_find_28 : decode cX6_find 28 = .ok (.iconst (-1), 1) := by decide +kernel
theorem dX6_find_29 : decode cX6_find 29 = .ok (.ireturn, 1) := by decide +kernel
theorem dX6_set_0 : decode cX6_set 0 = .ok (.aload_n 0, 1) := by decide +kernel
theorem dX6_set_1 : decode cX6_set 1 = .ok (.iload_n 1, 1) := by decide +kernel
theorem dX6_set_2 : decode cX6_set 2 = .ok (.invokevirtual 15, 3) := by decide +kernel
theorem dX6_set_5 : decode cX6_set 5 = .ok (.iconst (-1), 1) := by decide +kernel
theorem dX6_set_6 : decode cX6_set 6 = .ok (.if_icmp .eq 8, 3) := by decide +kernel
theorem dX6_set_14 : decode cX6_set 14 = .ok (.aload_n 0, 1) := by decide +kernel
theorem dX6_set_15 : decode cX6_set 15 = .ok (.getfield 19, 3) := by decide +kernel
theorem dX6_set_18 : decode cX6_set 18 = .ok (.bipush 16, 2) := by decide +kernel
theorem dX6_set_20 : decode cX6_set 20 = .ok (.if_icmp .lt 5, 3) := by decide +kernel
theorem dX6_set_25 : decode cX6_set 25 = .ok (.aload_n 0, 1) := by decide +kernel
theorem dX6_set_26 : decode cX6_set 26 = .ok (.getfield 11, 3) := by decide +kernel
theorem dX6_set_29 : decode cX6_set 29 = .ok (.aload_n 0, 1) := by decide +kernel
theorem dX6_set_30 : decode cX6_set 30 = .ok (.getfield 19, 3) := by decide +kernel
theorem dX6_set_33 : decode cX6_set 33 = .ok (.iload_n 1, 1) := by decide +kernel
theorem dX6_set_34 : decode cX6_set 34 = .ok (.iastore, 1) := by decide +kernel
theorem dX6_set_35 : decode cX6_set 35 = .ok (.aload_n 0, 1) := by decide +kernel
theorem dX6_set_36 : decode cX6_set 36 = .ok (.dup, 1) := by decide +kernel
theorem dX6_set_37 : decode cX6_set 37 = .ok (.getfield 19, 3) := by decide +kernel
theorem dX6_set_40 : decode cX6_set 40 = .ok (.iconst 1, 1) := by decide +kernel
theorem dX6_set_41 : decode cX6_set 41 = .ok (.iadd, 1) := by decide +kernel
theorem dX6_set_42 : decode cX6_set 42 = .ok (.putfield 19, 3) := by decide +kernel
theorem dX6_set_45 : decode cX6_set 45 = .ok (.aload_n 0, 1) := by decide +kernel
theorem dX6_set_46 : decode cX6_set 46 = .ok (.getfield 19, 3) := by decide +kernel
theorem dX6_set_49 : decode cX6_set 49 = .ok (.ireturn, 1) := by decide +kernel
theorem dX6_lift_0 : decode cX6_lift 0 = .ok (.aload_n 0, 1) := by decide +kernel
theorem dX6_lift_1 : decode cX6_lift 1 = .ok (.iload_n 1, 1) := by decide +kernel
theorem dX6_lift_2 : decode cX6_lift 2 = .ok (.invokevirtual 15, 3) := by decide +kernel
theorem dX6_lift_5 : decode cX6_lift 5 = .ok (.istore_n 2, 1) := by decide +kernel
theorem dX6_lift_6 : decode cX6_lift 6 = .ok (.iload_n 2, 1) := by decide +kernel
theorem dX6_lift_7 : decode cX6_lift 7 = .ok (.iconst (-1), 1) := by decide +kernel
theorem dX6_lift_8 : decode cX6_lift 8 = .ok (.if_icmp .eq 28, 3) := by decide +kernel
theorem dX6_lift_36 : decode cX6_lift 36 = .ok (.aload_n 0, 1) := by decide +kernel
theorem dX6_lift_37 : decode cX6_lift 37 = .ok (.getfield 19, 3) := by decide +kernel
theorem dX6_lift_40 : decode cX6_lift 40 = .ok (.ireturn, 1) := by decide +kernel
theorem dX8_stop_0 : decode cX8_stop 0 = .ok (.iload_n 1, 1) := by decide +kernel
theorem dX8_stop_1 : decode cX8_stop 1 = .ok (.invokestatic 115, 3) := by decide +kernel
theorem dX8_stop_4 : decode cX8_stop 4 = .ok (.ifCond .ne 5, 3) := by decide +kernel
theorem dX8_stop_9 : decode cX8_stop 9 = .ok (.iload_n 2, 1) := by decide +kernel
theorem dX8_stop_10 : decode cX8_stop 10 = .ok (.ifCond .eq 14, 3) := by decide +kernel
theorem dX8_stop_24 : decode cX8_stop 24 = .ok (.aload_n 0, 1) := by decide +kernel
theorem dX8_stop_25 : decode cX8_stop 25 = .ok (.getfield 44, 3) := by decide +kernel
theorem dX8_stop_28 : decode cX8_stop 28 = .ok (.iload_n 1, 1) := by decide +kernel
theorem dX8_stop_29 : decode cX8_stop 29 = .ok (.invokevirtual 134, 3) := by decide +kernel
theorem dX8_stop_32 : decode cX8_stop 32 = .ok (.ireturn, 1) := by decide +kernel
theorem dX8_stop_13 : decode cX8_stop 13 = .ok (.aload_n 0, 1) := by decide +kernel
theorem dX8_stop_14 : decode cX8_stop 14 = .ok (.getfield 44, 3) := by decide +kernel
theorem dX8_stop_17 : decode cX8_stop 17 = .ok (.iload_n 1, 1) := by decide +kernel
theorem dX8_stop_18 : decode cX8_stop 18 = .ok (.invokevirtual 130, 3) := by decide +kernel
theorem dX8_stop_21 : decode cX8_stop 21 = .ok (.goto 11, 3) := by decide +kernel
theorem dX8_stop_7 : decode cX8_stop 7 = .ok (.iconst (-1), 1) := by decide +kernel
theorem dX8_stop_8 : decode cX8_stop 8 = .ok (.ireturn, 1) := by decide +kernel
theorem dX8_fault_0 : decode cX8_fault 0 = .ok (.iload_n 1, 1) := by decide +kernel
theorem dX8_fault_1 : decode cX8_fault 1 = .ok (.lookupswitch 43 #[(0, 27), (1, 35)], 27) := by decide +kernel
theorem dX8_fault_28 : decode cX8_fault 28 = .ok (.aload_n 0, 1) := by decide +kernel
theorem dX8_fault_29 : decode cX8_fault 29 = .ok (.getfield 60, 3) := by decide +kernel
theorem dX8_fault_32 : decode cX8_fault 32 = .ok (.getfield 99, 3) := by decide +kernel
theorem dX8_fault_35 : decode cX8_fault 35 = .ok (.ireturn, 1) := by decide +kernel
theorem dX8_fault_36 : decode cX8_fault 36 = .ok (.aload_n 0, 1) := by decide +kernel
theorem dX8_fault_37 : decode cX8_fault 37 = .ok (.getfield 60, 3) := by decide +kernel
theorem dX8_fault_40 : decode cX8_fault 40 = .ok (.getfield 102, 3) := by decide +kernel
theorem dX8_fault_43 : decode cX8_fault 43 = .ok (.ireturn, 1) := by decide +kernel
theorem dX8_fault_44 : decode cX8_fault 44 = .ok (.iconst (-1), 1) := by decide +kernel
theorem dX8_fault_45 : decode cX8_fault 45 = .ok (.ireturn, 1) := by decide +kernel
theorem dX2_tell_0 : decode cX2_tell 0 = .ok (.iload_n 1, 1) := by decide +kernel
theorem dX2_tell_1 : decode cX2_tell 1 = .ok (.ifCond .lt 11, 3) := by decide +kernel
theorem dX2_tell_12 : decode cX2_tell 12 = .ok (.iconst 0, 1) := by decide +kernel
theorem dX2_tell_13 : decode cX2_tell 13 = .ok (.ireturn, 1) := by decide +kernel
theorem dX2_tell_4 : decode cX2_tell 4 = .ok (.iload_n 1, 1) := by decide +kernel
theorem dX2_tell_5 : decode cX2_tell 5 = .ok (.aload_n 0, 1) := by decide +kernel
theorem dX2_tell_6 : decode cX2_tell 6 = .ok (.getfield 24, 3) := by decide +kernel
theorem dX2_tell_9 : decode cX2_tell 9 = .ok (.if_icmp .lt 5, 3) := by decide +kernel
theorem dX8_name_0 : decode cX8_name 0 = .ok (.aload_n 0, 1) := by decide +kernel
theorem dX8_name_1 : decode cX8_name 1 = .ok (.getfield 60, 3) := by decide +kernel
theorem dX8_name_4 : decode cX8_name 4 = .ok (.getfield 105, 3) := by decide +kernel
theorem dX8_name_7 : decode cX8_name 7 = .ok (.iload_n 1, 1) := by decide +kernel
theorem dX8_name_8 : decode cX8_name 8 = .ok (.iload_n 2, 1) := by decide +kernel
theorem dX8_name_9 : decode cX8_name 9 = .ok (.invokevirtual 109, 3) := by decide +kernel
theorem dX8_name_12 : decode cX8_name 12 = .ok (.ireturn, 1) := by decide +kernel
theorem dX8_about_0 : decode cX8_about 0 = .ok (.iload_n 1, 1) := by decide +kernel
theorem dX8_about_1 : decode cX8_about 1 = .ok (.iconst 3, 1) := by decide +kernel
theorem dX8_about_2 : decode cX8_about 2 = .ok (.if_icmp .lt 21, 3) := by decide +kernel
theorem dX8_about_23 : decode cX8_about 23 = .ok (.iload_n 1, 1) := by decide +kernel
theorem dX8_about_24 : decode cX8_about 24 = .ok (.tableswitch 111 0 10 #[60, 68, 76, 111, 111, 111, 111, 111, 84, 95, 103], 60) := by decide +kernel
theorem dX8_about_84 : decode cX8_about 84 = .ok (.aload_n 0, 1) := by decide +kernel
theorem dX8_about_85 : decode cX8_about 85 = .ok (.getfield 37, 3) := by decide +kernel
theorem dX8_about_88 : decode cX8_about 88 = .ok (.getfield 158, 3) := by decide +kernel
theorem dX8_about_91 : decode cX8_about 91 = .ok (.ireturn, 1) := by decide +kernel
theorem dX8_about_92 : decode cX8_about 92 = .ok (.aload_n 0, 1) := by decide +kernel
theorem dX8_about_93 : decode cX8_about 93 = .ok (.getfield 37, 3) := by decide +kernel
theorem dX8_about_96 : decode cX8_about 96 = .ok (.getfield 161, 3) := by decide +kernel
theorem dX8_about_99 : decode cX8_about 99 = .ok (.ireturn, 1) := by decide +kernel
theorem dX8_about_100 : decode cX8_about 100 = .ok (.aload_n 0, 1) := by decide +kernel
theorem dX8_about_101 : decode cX8_about 101 = .ok (.getfield 28, 3) := by decide +kernel
theorem dX8_about_104 : decode cX8_about 104 = .ok (.getfield 141, 3) := by decide +kernel
theorem dX8_about_107 : decode cX8_about 107 = .ok (.ireturn, 1) := by decide +kernel
theorem dX8_about_135 : decode cX8_about 135 = .ok (.iconst 0, 1) := by decide +kernel
theorem dX8_about_136 : decode cX8_about 136 = .ok (.ireturn, 1) := by decide +kernel
theorem dX8_about_108 : decode cX8_about 108 = .ok (.aload_n 0, 1) := by decide +kernel
theorem dX8_about_109 : decode cX8_about 109 = .ok (.getfield 60, 3) := by decide +kernel
theorem dX8_about_112 : decode cX8_about 112 = .ok (.getfield 105, 3) := by decide +kernel
theorem dX8_about_115 : decode cX8_about 115 = .ok (.getfield 164, 3) := by decide +kernel
theorem dX8_about_118 : decode cX8_about 118 = .ok (.ireturn, 1) := by decide +kernel
theorem dX8_about_119 : decode cX8_about 119 = .ok (.aload_n 0, 1) := by decide +kernel
theorem dX8_about_120 : decode cX8_about 120 = .ok (.getfield 44, 3) := by decide +kernel
theorem dX8_about_123 : decode cX8_about 123 = .ok (.getfield 167, 3) := by decide +kernel
theorem dX8_about_126 : decode cX8_about 126 = .ok (.ireturn, 1) := by decide +kernel
theorem dX8_about_127 : decode cX8_about 127 = .ok (.aload_n 0, 1) := by decide +kernel
theorem dX8_about_128 : decode cX8_about 128 = .ok (.getfield 51, 3) := by decide +kernel
theorem dX8_about_131 : decode cX8_about 131 = .ok (.getfield 82, 3) := by decide +kernel
theorem dX8_about_134 : decode cX8_about 134 = .ok (.ireturn, 1) := by decide +kernel
theorem dX8_about_5 : decode cX8_about 5 = .ok (.iload_n 1, 1) := by decide +kernel
theorem dX8_about_6 : decode cX8_about 6 = .ok (.bipush 7, 2) := by decide +kernel
theorem dX8_about_8 : decode cX8_about 8 = .ok (.if_icmp .gt 15, 3) := by decide +kernel
theorem dX8_about_11 : decode cX8_about 11 = .ok (.aload_n 0, 1) := by decide +kernel
theorem dX8_about_12 : decode cX8_about 12 = .ok (.getfield 9, 3) := by decide +kernel
theorem dX8_about_15 : decode cX8_about 15 = .ok (.bipush 28, 2) := by decide +kernel
theorem dX8_about_17 : decode cX8_about 17 = .ok (.iload_n 1, 1) := by decide +kernel
theorem dX8_about_18 : decode cX8_about 18 = .ok (.iadd, 1) := by decide +kernel
theorem dX8_about_19 : decode cX8_about 19 = .ok (.iconst 3, 1) := by decide +kernel
theorem dX8_about_20 : decode cX8_about 20 = .ok (.isub, 1) := by decide +kernel
theorem dX8_about_21 : decode cX8_about 21 = .ok (.iaload, 1) := by decide +kernel
theorem dX8_about_22 : decode cX8_about 22 = .ok (.ireturn, 1) := by decide +kernel
theorem dX8_codes_0 : decode cX8_codes 0 = .ok (.iload_n 1, 1) := by decide +kernel
theorem dX8_codes_1 : decode cX8_codes 1 = .ok (.ifCond .lt 22, 3) := by decide +kernel
theorem dX8_codes_23 : decode cX8_codes 23 = .ok (.iconst 0, 1) := by decide +kernel
theorem dX8_codes_24 : decode cX8_codes 24 = .ok (.ireturn, 1) := by decide +kernel
theorem dX8_codes_4 : decode cX8_codes 4 = .ok (.iload_n 1, 1) := by decide +kernel
theorem dX8_codes_5 : decode cX8_codes 5 = .ok (.sipush 256, 3) := by decide +kernel
theorem dX8_codes_8 : decode cX8_codes 8 = .ok (.if_icmp .gt 15, 3) := by decide +kernel
theorem dX8_codes_11 : decode cX8_codes 11 = .ok (.aload_n 0, 1) := by decide +kernel
theorem dX8_codes_12 : decode cX8_codes 12 = .ok (.getfield 37, 3) := by decide +kernel
theorem dX8_codes_15 : decode cX8_codes 15 = .ok (.getfield 144, 3) := by decide +kernel
theorem dX8_codes_18 : decode cX8_codes 18 = .ok (.iload_n 1, 1) := by decide +kernel
theorem dX8_codes_19 : decode cX8_codes 19 = .ok (.iaload, 1) := by decide +kernel
theorem dX8_codes_20 : decode cX8_codes 20 = .ok (.goto 4, 3) := by decide +kernel
theorem dX8_ring_0 : decode cX8_ring 0 = .ok (.iload_n 1, 1) := by decide +kernel
theorem dX8_ring_1 : decode cX8_ring 1 = .ok (.ifCond .lt 23, 3) := by decide +kernel
theorem dX8_ring_24 : decode cX8_ring 24 = .ok (.iconst (-1), 1) := by decide +kernel
theorem dX8_ring_25 : decode cX8_ring 25 = .ok (.ireturn, 1) := by decide +kernel
theorem dX8_ring_4 : decode cX8_ring 4 = .ok (.iload_n 1, 1) := by decide +kernel
theorem dX8_ring_5 : decode cX8_ring 5 = .ok (.aload_n 0, 1) := by decide +kernel
theorem dX8_ring_6 : decode cX8_ring 6 = .ok (.getfield 9, 3) := by decide +kernel
theorem dX8_ring_9 : decode cX8_ring 9 = .ok (.bipush 31, 2) := by decide +kernel
theorem dX8_ring_11 : decode cX8_ring 11 = .ok (.iaload, 1) := by decide +kernel
theorem dX8_ring_12 : decode cX8_ring 12 = .ok (.if_icmp .ge 12, 3) := by decide +kernel
theorem dX8_strip_0 : decode cX8_strip 0 = .ok (.iload_n 1, 1) := by decide +kernel
theorem dX8_strip_1 : decode cX8_strip 1 = .ok (.ifCond .lt 26, 3) := by decide +kernel
theorem dX8_strip_27 : decode cX8_strip 27 = .ok (.iconst (-1), 1) := by decide +kernel
theorem dX8_strip_28 : decode cX8_strip 28 = .ok (.ireturn, 1) := by decide +kernel
theorem dX8_strip_4 : decode cX8_strip 4 = .ok (.iload_n 1, 1) := by decide +kernel
theorem dX8_strip_5 : decode cX8_strip 5 = .ok (.aload_n 0, 1) := by decide +kernel
theorem dX8_strip_6 : decode cX8_strip 6 = .ok (.getfield 9, 3) := by decide +kernel
theorem dX8_strip_9 : decode cX8_strip 9 = .ok (.bipush 32, 2) := by decide +kernel
theorem dX8_strip_11 : decode cX8_strip 11 = .ok (.iaload, 1) := by decide +kernel
theorem dX8_strip_12 : decode cX8_strip 12 = .ok (.if_icmp .ge 15, 3) := by decide +kernel
theorem dX8_out_0 : decode cX8_out 0 = .ok (.iload_n 1, 1) := by decide +kernel
theorem dX8_out_1 : decode cX8_out 1 = .ok (.ifCond .lt 26, 3) := by decide +kernel
theorem dX8_out_27 : decode cX8_out 27 = .ok (.iconst (-1), 1) := by decide +kernel
theorem dX8_out_28 : decode cX8_out 28 = .ok (.ireturn, 1) := by decide +kernel
theorem dX8_out_4 : decode cX8_out 4 = .ok (.iload_n 1, 1) := by decide +kernel
theorem dX8_out_5 : decode cX8_out 5 = .ok (.aload_n 0, 1) := by decide +kernel
theorem dX8_out_6 : decode cX8_out 6 = .ok (.getfield 67, 3) := by decide +kernel
theorem dX8_out_9 : decode cX8_out 9 = .ok (.getfield 177, 3) := by decide +kernel
theorem dX8_out_12 : decode cX8_out 12 = .ok (.if_icmp .ge 15, 3) := by decide +kernel
theorem dX8_back_0 : decode cX8_back 0 = .ok (.iload_n 1, 1) := by decide +kernel
theorem dX8_back_1 : decode cX8_back 1 = .ok (.iconst 1, 1) := by decide +kernel
theorem dX8_back_2 : decode cX8_back 2 = .ok (.if_icmp .lt 14, 3) := by decide +kernel
theorem dX8_back_16 : decode cX8_back 16 = .ok (.iconst (-1), 1) := by decide +kernel
theorem dX8_back_17 : decode cX8_back 17 = .ok (.ireturn, 1) := by decide +kernel
theorem dX8_back_5 : decode cX8_back 5 = .ok (.iload_n 1, 1) := by decide +kernel
theorem dX8_back_6 : decode cX8_back 6 = .ok (.aload_n 0, 1) := by decide +kernel
theorem dX8_back_7 : decode cX8_back 7 = .ok (.getfield 28, 3) := by decide +kernel
theorem dX8_back_10 : decode cX8_back 10 = .ok (.getfield 141, 3) := by decide +kernel
theorem dX8_back_13 : decode cX8_back 13 = .ok (.if_icmp .le 5, 3) := by decide +kernel
theorem dX7_hasRoom_0 : decode cX7_hasRoom 0 = .ok (.aload_n 0, 1) := by decide +kernel
theorem dX7_hasRoom_1 : decode cX7_hasRoom 1 = .ok (.getfield 15, 3) := by decide +kernel
theorem dX7_hasRoom_4 : decode cX7_hasRoom 4 = .ok (.iload_n 1, 1) := by decide +kernel
theorem dX7_hasRoom_5 : decode cX7_hasRoom 5 = .ok (.iadd, 1) := by decide +kernel
theorem dX7_hasRoom_6 : decode cX7_hasRoom 6 = .ok (.sipush 6000, 3) := by decide +kernel
theorem dX7_hasRoom_9 : decode cX7_hasRoom 9 = .ok (.if_icmp .gt 7, 3) := by decide +kernel
theorem dX7_hasRoom_12 : decode cX7_hasRoom 12 = .ok (.iconst 1, 1) := by decide +kernel
theorem dX7_hasRoom_13 : decode cX7_hasRoom 13 = .ok (.goto 4, 3) := by decide +kernel
theorem dX7_hasRoom_17 : decode cX7_hasRoom 17 = .ok (.ireturn, 1) := by decide +kernel
theorem dX7_add_0 : decode cX7_add 0 = .ok (.bipush 24, 2) := by decide +kernel
theorem dX7_add_2 : decode cX7_add 2 = .ok (.istore_n 2, 1) := by decide +kernel
theorem dX7_add_3 : decode cX7_add 3 = .ok (.iload_n 2, 1) := by decide +kernel
theorem dX7_add_4 : decode cX7_add 4 = .ok (.ifCond .lt 45, 3) := by decide +kernel
theorem dX7_add_7 : decode cX7_add 7 = .ok (.aload_n 0, 1) := by decide +kernel
theorem dX7_add_8 : decode cX7_add 8 = .ok (.getfield 15, 3) := by decide +kernel
theorem dX7_add_11 : decode cX7_add 11 = .ok (.sipush 6000, 3) := by decide +kernel
theorem dX7_add_14 : decode cX7_add 14 = .ok (.if_icmp .ge 35, 3) := by decide +kernel
theorem dX7_add_17 : decode cX7_add 17 = .ok (.aload_n 0, 1) := by decide +kernel
theorem dX7_add_18 : decode cX7_add 18 = .ok (.getfield 11, 3) := by decide +kernel
theorem dX7_add_21 : decode cX7_add 21 = .ok (.aload_n 0, 1) := by decide +kernel
theorem dX7_add_22 : decode cX7_add 22 = .ok (.getfield 15, 3) := by decide +kernel
theorem dX7_add_25 : decode cX7_add 25 = .ok (.iload_n 1, 1) := by decide +kernel
theorem dX7_add_26 : decode cX7_add 26 = .ok (.iload_n 2, 1) := by decide +kernel
theorem dX7_add_27 : decode cX7_add 27 = .ok (.ishr, 1) := by decide +kernel
theorem dX7_add_28 : decode cX7_add 28 = .ok (.sipush 255, 3) := by decide +kernel
theorem dX7_add_31 : decode cX7_add 31 = .ok (.iand, 1) := by decide +kernel
theorem dX7_add_32 : decode cX7_add 32 = .ok (.iastore, 1) := by decide +kernel
theorem dX7_add_33 : decode cX7_add 33 = .ok (.aload_n 0, 1) := by decide +kernel
theorem dX7_add_34 : decode cX7_add 34 = .ok (.dup, 1) := by decide +kernel
theorem dX7_add_35 : decode cX7_add 35 = .ok (.getfield 15, 3) := by decide +kernel
theorem dX7_add_38 : decode cX7_add 38 = .ok (.iconst 1, 1) := by decide +kernel
theorem dX7_add_39 : decode cX7_add 39 = .ok (.iadd, 1) := by decide +kernel
theorem dX7_add_40 : decode cX7_add 40 = .ok (.putfield 15, 3) := by decide +kernel
theorem dX7_add_43 : decode cX7_add 43 = .ok (.iinc 2 (-8), 3) := by decide +kernel
theorem dX7_add_46 : decode cX7_add 46 = .ok (.goto (-43), 3) := by decide +kernel
theorem dX7_add_49 : decode cX7_add 49 = .ok (.return_, 1) := by decide +kernel
theorem dX8_feed_0 : decode cX8_feed 0 = .ok (.aload_n 0, 1) := by decide +kernel
theorem dX8_feed_1 : decode cX8_feed 1 = .ok (.getfield 51, 3) := by decide +kernel
theorem dX8_feed_4 : decode cX8_feed 4 = .ok (.bipush 20, 2) := by decide +kernel
theorem dX8_feed_6 : decode cX8_feed 6 = .ok (.invokevirtual 74, 3) := by decide +kernel
theorem dX8_feed_9 : decode cX8_feed 9 = .ok (.ifCond .ne 5, 3) := by decide +kernel
theorem dX8_feed_14 : decode cX8_feed 14 = .ok (.aload_n 0, 1) := by decide +kernel
theorem dX8_feed_15 : decode cX8_feed 15 = .ok (.getfield 51, 3) := by decide +kernel
theorem dX8_feed_18 : decode cX8_feed 18 = .ok (.iload_n 1, 1) := by decide +kernel
theorem dX8_feed_19 : decode cX8_feed 19 = .ok (.invokevirtual 78, 3) := by decide +kernel
theorem dX8_feed_22 : decode cX8_feed 22 = .ok (.aload_n 0, 1) := by decide +kernel
theorem dX8_feed_23 : decode cX8_feed 23 = .ok (.getfield 51, 3) := by decide +kernel
theorem dX8_feed_26 : decode cX8_feed 26 = .ok (.iload_n 2, 1) := by decide +kernel
theorem dX8_feed_27 : decode cX8_feed 27 = .ok (.invokevirtual 78, 3) := by decide +kernel
theorem dX8_feed_30 : decode cX8_feed 30 = .ok (.aload_n 0, 1) := by decide +kernel
theorem dX8_feed_31 : decode cX8_feed 31 = .ok (.getfield 51, 3) := by decide +kernel
theorem dX8_feed_34 : decode cX8_feed 34 = .ok (.iload_n 3, 1) := by decide +kernel
theorem dX8_feed_35 : decode cX8_feed 35 = .ok (.invokevirtual 78, 3) := by decide +kernel
theorem dX8_feed_38 : decode cX8_feed 38 = .ok (.aload_n 0, 1) := by decide +kernel
theorem dX8_feed_39 : decode cX8_feed 39 = .ok (.getfield 51, 3) := by decide +kernel
theorem dX8_feed_42 : decode cX8_feed 42 = .ok (.iload 4, 2) := by decide +kernel
theorem dX8_feed_44 : decode cX8_feed 44 = .ok (.invokevirtual 78, 3) := by decide +kernel
theorem dX8_feed_47 : decode cX8_feed 47 = .ok (.aload_n 0, 1) := by decide +kernel
theorem dX8_feed_48 : decode cX8_feed 48 = .ok (.getfield 51, 3) := by decide +kernel
theorem dX8_feed_51 : decode cX8_feed 51 = .ok (.iload 5, 2) := by decide +kernel
theorem dX8_feed_53 : decode cX8_feed 53 = .ok (.invokevirtual 78, 3) := by decide +kernel
theorem dX8_feed_56 : decode cX8_feed 56 = .ok (.aload_n 0, 1) := by decide +kernel
theorem dX8_feed_57 : decode cX8_feed 57 = .ok (.getfield 51, 3) := by decide +kernel
theorem dX8_feed_60 : decode cX8_feed 60 = .ok (.getfield 82, 3) := by decide +kernel
theorem dX8_feed_63 : decode cX8_feed 63 = .ok (.ireturn, 1) := by decide +kernel
theorem dX1_pinsOfRow_0 : decode cX1_pinsOfRow 0 = .ok (.aload_n 0, 1) := by decide +kernel
theorem dX1_pinsOfRow_1 : decode cX1_pinsOfRow 1 = .ok (.getfield 9, 3) := by decide +kernel
theorem dX1_pinsOfRow_4 : decode cX1_pinsOfRow 4 = .ok (.aload_n 0, 1) := by decide +kernel
theorem dX1_pinsOfRow_5 : decode cX1_pinsOfRow 5 = .ok (.getfield 24, 3) := by decide +kernel
theorem dX1_pinsOfRow_8 : decode cX1_pinsOfRow 8 = .ok (.bipush 14, 2) := by decide +kernel
theorem dX1_pinsOfRow_10 : decode cX1_pinsOfRow 10 = .ok (.iaload, 1) := by decide +kernel
theorem dX1_pinsOfRow_11 : decode cX1_pinsOfRow 11 = .ok (.bipush 64, 2) := by decide +kernel
theorem dX1_pinsOfRow_13 : decode cX1_pinsOfRow 13 = .ok (.irem, 1) := by decide +kernel
theorem dX1_pinsOfRow_14 : decode cX1_pinsOfRow 14 = .ok (.iaload, 1) := by decide +kernel
theorem dX1_pinsOfRow_15 : decode cX1_pinsOfRow 15 = .ok (.ireturn, 1) := by decide +kernel
theorem dX1_keyAt_0 : decode cX1_keyAt 0 = .ok (.iload_n 1, 1) := by decide +kernel
theorem dX1_keyAt_1 : decode cX1_keyAt 1 = .ok (.aload_n 0, 1) := by decide +kernel
theorem dX1_keyAt_2 : decode cX1_keyAt 2 = .ok (.getfield 24, 3) := by decide +kernel
theorem dX1_keyAt_5 : decode cX1_keyAt 5 = .ok (.bipush 19, 2) := by decide +kernel
theorem dX1_keyAt_7 : decode cX1_keyAt 7 = .ok (.iaload, 1) := by decide +kernel
theorem dX1_keyAt_8 : decode cX1_keyAt 8 = .ok (.if_icmp .ge 23, 3) := by decide +kernel
theorem dX1_keyAt_31 : decode cX1_keyAt 31 = .ok (.iconst 0, 1) := by decide +kernel
theorem dX1_keyAt_32 : decode cX1_keyAt 32 = .ok (.ireturn, 1) := by decide +kernel
theorem dX8_device_0 : decode cX8_device 0 = .ok (.iload_n 1, 1) := by decide +kernel
theorem dX8_device_1 : decode cX8_device 1 = .ok (.ifCond .lt 19, 3) := by decide +kernel
theorem dX8_device_20 : decode cX8_device 20 = .ok (.iload_n 1, 1) := by decide +kernel
theorem dX8_device_21 : decode cX8_device 21 = .ok (.bipush 20, 2) := by decide +kernel
theorem dX8_device_23 : decode cX8_device 23 = .ok (.if_icmp .ne 11, 3) := by decide +kernel
theorem dX8_device_34 : decode cX8_device 34 = .ok (.iload_n 1, 1) := by decide +kernel
theorem dX8_device_35 : decode cX8_device 35 = .ok (.bipush 21, 2) := by decide +kernel
theorem dX8_device_37 : decode cX8_device 37 = .ok (.if_icmp .lt 23, 3) := by decide +kernel
theorem dX8_device_60 : decode cX8_device 60 = .ok (.iconst 0, 1) := by decide +kernel
theorem dX8_device_61 : decode cX8_device 61 = .ok (.ireturn, 1) := by decide +kernel
theorem dX8_device_40 : decode cX8_device 40 = .ok (.iload_n 1, 1) := by decide +kernel
theorem dX8_device_41 : decode cX8_device 41 = .ok (.bipush 37, 2) := by decide +kernel
theorem dX8_device_43 : decode cX8_device 43 = .ok (.if_icmp .ge 17, 3) := by decide +kernel
theorem dX8_device_46 : decode cX8_device 46 = .ok (.aload_n 0, 1) := by decide +kernel
theorem dX8_device_47 : decode cX8_device 47 = .ok (.getfield 21, 3) := by decide +kernel
theorem dX8_device_50 : decode cX8_device 50 = .ok (.iload_n 1, 1) := by decide +kernel
theorem dX8_device_51 : decode cX8_device 51 = .ok (.bipush 21, 2) := by decide +kernel
theorem dX8_device_53 : decode cX8_device 53 = .ok (.isub, 1) := by decide +kernel
theorem dX8_device_54 : decode cX8_device 54 = .ok (.invokevirtual 155, 3) := by decide +kernel
theorem dX8_device_57 : decode cX8_device 57 = .ok (.goto 4, 3) := by decide +kernel
theorem dX8_device_26 : decode cX8_device 26 = .ok (.aload_n 0, 1) := by decide +kernel
theorem dX8_device_27 : decode cX8_device 27 = .ok (.getfield 21, 3) := by decide +kernel
theorem dX8_device_30 : decode cX8_device 30 = .ok (.invokevirtual 151, 3) := by decide +kernel
theorem dX8_device_33 : decode cX8_device 33 = .ok (.ireturn, 1) := by decide +kernel
theorem dX8_device_4 : decode cX8_device 4 = .ok (.iload_n 1, 1) := by decide +kernel
theorem dX8_device_5 : decode cX8_device 5 = .ok (.bipush 20, 2) := by decide +kernel
theorem dX8_device_7 : decode cX8_device 7 = .ok (.if_icmp .ge 13, 3) := by decide +kernel
theorem dX8_device_10 : decode cX8_device 10 = .ok (.aload_n 0, 1) := by decide +kernel
theorem dX8_device_11 : decode cX8_device 11 = .ok (.getfield 9, 3) := by decide +kernel
theorem dX8_device_14 : decode cX8_device 14 = .ok (.bipush 8, 2) := by decide +kernel
theorem dX8_device_16 : decode cX8_device 16 = .ok (.iload_n 1, 1) := by decide +kernel
theorem dX8_device_17 : decode cX8_device 17 = .ok (.iadd, 1) := by decide +kernel
theorem dX8_device_18 : decode cX8_device 18 = .ok (.iaload, 1) := by decide +kernel
theorem dX8_device_19 : decode cX8_device 19 = .ok (.ireturn, 1) := by decide +kernel
theorem dX8_restart_0 : decode cX8_restart 0 = .ok (.aload_n 0, 1) := by decide +kernel
theorem dX8_restart_1 : decode cX8_restart 1 = .ok (.getfield 37, 3) := by decide +kernel
theorem dX8_restart_4 : decode cX8_restart 4 = .ok (.invokevirtual 71, 3) := by decide +kernel
theorem dX8_restart_7 : decode cX8_restart 7 = .ok (.return_, 1) := by decide +kernel
