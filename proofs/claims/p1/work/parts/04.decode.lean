theorem dX11_in_0 : decode cX11_in 0 = .ok (.lload_n 0, 1) := by decide +kernel
theorem dX11_in_1 : decode cX11_in 1 = .ok (.lload_n 2, 1) := by decide +kernel
theorem dX11_in_2 : decode cX11_in 2 = .ok (.lcmp, 1) := by decide +kernel
theorem dX11_in_3 : decode cX11_in 3 = .ok (.ifCond .lt 14, 3) := by decide +kernel
theorem dX11_in_17 : decode cX11_in 17 = .ok (.iconst 0, 1) := by decide +kernel
theorem dX11_in_18 : decode cX11_in 18 = .ok (.ireturn, 1) := by decide +kernel
theorem dX11_in_6 : decode cX11_in 6 = .ok (.lload_n 0, 1) := by decide +kernel
theorem dX11_in_7 : decode cX11_in 7 = .ok (.lload 4, 2) := by decide +kernel
theorem dX11_in_9 : decode cX11_in 9 = .ok (.lcmp, 1) := by decide +kernel
theorem dX11_in_10 : decode cX11_in 10 = .ok (.ifCond .gt 7, 3) := by decide +kernel
theorem dX11_in_13 : decode cX11_in 13 = .ok (.iconst 1, 1) := by decide +kernel
theorem dX11_in_14 : decode cX11_in 14 = .ok (.goto 4, 3) := by decide +kernel
theorem dX11_isCity_0 : decode cX11_isCity 0 = .ok (.aload_n 0, 1) := by decide +kernel
theorem dX11_isCity_1 : decode cX11_isCity 1 = .ok (.getfield 9, 3) := by decide +kernel
theorem dX11_isCity_4 : decode cX11_isCity 4 = .ok (.iconst 5, 1) := by decide +kernel
theorem dX11_isCity_5 : decode cX11_isCity 5 = .ok (.iaload, 1) := by decide +kernel
theorem dX11_isCity_6 : decode cX11_isCity 6 = .ok (.ifCond .le 7, 3) := by decide +kernel
theorem dX11_isCity_13 : decode cX11_isCity 13 = .ok (.iconst 0, 1) := by decide +kernel
theorem dX11_isCity_14 : decode cX11_isCity 14 = .ok (.ireturn, 1) := by decide +kernel
theorem dX11_isHouse_0 : decode cX11_isHouse 0 = .ok (.lload_n 1, 1) := by decide +kernel
theorem dX11_isHouse_1 : decode cX11_isHouse 1 = .ok (.lconst 0, 1) := by decide +kernel
theorem dX11_isHouse_2 : decode cX11_isHouse 2 = .ok (.aload_n 0, 1) := by decide +kernel
theorem dX11_isHouse_3 : decode cX11_isHouse 3 = .ok (.getfield 9, 3) := by decide +kernel
theorem dX11_isHouse_6 : decode cX11_isHouse 6 = .ok (.iconst 3, 1) := by decide +kernel
theorem dX11_isHouse_7 : decode cX11_isHouse 7 = .ok (.iaload, 1) := by decide +kernel
theorem dX11_isHouse_8 : decode cX11_isHouse 8 = .ok (.iconst 1, 1) := by decide +kernel
theorem dX11_isHouse_9 : decode cX11_isHouse 9 = .ok (.isub, 1) := by decide +kernel
theorem dX11_isHouse_10 : decode cX11_isHouse 10 = .ok (.i2l, 1) := by decide +kernel
theorem dX11_isHouse_11 : decode cX11_isHouse 11 = .ok (.invokestatic 94, 3) := by decide +kernel
theorem dX11_isHouse_14 : decode cX11_isHouse 14 = .ok (.ireturn, 1) := by decide +kernel
theorem dX11_isThing_0 : decode cX11_isThing 0 = .ok (.lload_n 1, 1) := by decide +kernel
theorem dX11_isThing_1 : decode cX11_isThing 1 = .ok (.lconst 0, 1) := by decide +kernel
theorem dX11_isThing_2 : decode cX11_isThing 2 = .ok (.aload_n 0, 1) := by decide +kernel
theorem dX11_isThing_3 : decode cX11_isThing 3 = .ok (.getfield 9, 3) := by decide +kernel
theorem dX11_isThing_6 : decode cX11_isThing 6 = .ok (.iconst 4, 1) := by decide +kernel
theorem dX11_isThing_7 : decode cX11_isThing 7 = .ok (.iaload, 1) := by decide +kernel
theorem dX11_isThing_8 : decode cX11_isThing 8 = .ok (.iconst 1, 1) := by decide +kernel
theorem dX11_isThing_9 : decode cX11_isThing 9 = .ok (.isub, 1) := by decide +kernel
theorem dX11_isThing_10 : decode cX11_isThing 10 = .ok (.i2l, 1) := by decide +kernel
theorem dX11_isThing_11 : decode cX11_isThing 11 = .ok (.invokestatic 94, 3) := by decide +kernel
theorem dX11_isThing_14 : decode cX11_isThing 14 = .ok (.ireturn, 1) := by decide +kernel
theorem dX11_house_0 : decode cX11_house 0 = .ok (.aload_n 0, 1) := by decide +kernel
theorem dX11_house_1 : decode cX11_house 1 = .ok (.iload_n 1, 1) := by decide +kernel
theorem dX11_house_2 : decode cX11_house 2 = .ok (.i2l, 1) := by decide +kernel
theorem dX11_house_3 : decode cX11_house 3 = .ok (.invokevirtual 257, 3) := by decide +kernel
theorem dX11_house_6 : decode cX11_house 6 = .ok (.ifCond .eq 15, 3) := by decide +kernel
theorem dX11_house_21 : decode cX11_house 21 = .ok (.bipush (-2), 2) := by decide +kernel
theorem dX11_house_23 : decode cX11_house 23 = .ok (.ireturn, 1) := by decide +kernel
theorem dX11_thing_0 : decode cX11_thing 0 = .ok (.aload_n 0, 1) := by decide +kernel
theorem dX11_thing_1 : decode cX11_thing 1 = .ok (.iload_n 1, 1) := by decide +kernel
theorem dX11_thing_2 : decode cX11_thing 2 = .ok (.i2l, 1) := by decide +kernel
theorem dX11_thing_3 : decode cX11_thing 3 = .ok (.invokevirtual 266, 3) := by decide +kernel
theorem dX11_thing_6 : decode cX11_thing 6 = .ok (.ifCond .eq 15, 3) := by decide +kernel
theorem dX11_thing_21 : decode cX11_thing 21 = .ok (.bipush (-2), 2) := by decide +kernel
theorem dX11_thing_23 : decode cX11_thing 23 = .ok (.ireturn, 1) := by decide +kernel
theorem dX11_value_0 : decode cX11_value 0 = .ok (.aload_n 0, 1) := by decide +kernel
theorem dX11_value_1 : decode cX11_value 1 = .ok (.iload_n 1, 1) := by decide +kernel
theorem dX11_value_2 : decode cX11_value 2 = .ok (.i2l, 1) := by decide +kernel
theorem dX11_value_3 : decode cX11_value 3 = .ok (.invokevirtual 257, 3) := by decide +kernel
theorem dX11_value_6 : decode cX11_value 6 = .ok (.ifCond .eq 21, 3) := by decide +kernel
theorem dX11_value_27 : decode cX11_value 27 = .ok (.bipush (-2), 2) := by decide +kernel
theorem dX11_value_29 : decode cX11_value 29 = .ok (.ireturn, 1) := by decide +kernel
theorem dX11_net_0 : decode cX11_net 0 = .ok (.aload_n 0, 1) := by decide +kernel
theorem dX11_net_1 : decode cX11_net 1 = .ok (.iload_n 1, 1) := by decide +kernel
theorem dX11_net_2 : decode cX11_net 2 = .ok (.i2l, 1) := by decide +kernel
theorem dX11_net_3 : decode cX11_net 3 = .ok (.invokevirtual 257, 3) := by decide +kernel
theorem dX11_net_6 : decode cX11_net 6 = .ok (.ifCond .ne 7, 3) := by decide +kernel
theorem dX11_net_9 : decode cX11_net 9 = .ok (.ldc_w 275, 3) := by decide +kernel
theorem dX11_net_12 : decode cX11_net 12 = .ok (.ireturn, 1) := by decide +kernel
theorem dX11_steal_0 : decode cX11_steal 0 = .ok (.aload_n 0, 1) := by decide +kernel
theorem dX11_steal_1 : decode cX11_steal 1 = .ok (.iload_n 1, 1) := by decide +kernel
theorem dX11_steal_2 : decode cX11_steal 2 = .ok (.i2l, 1) := by decide +kernel
theorem dX11_steal_3 : decode cX11_steal 3 = .ok (.invokevirtual 257, 3) := by decide +kernel
theorem dX11_steal_6 : decode cX11_steal 6 = .ok (.ifCond .eq 24, 3) := by decide +kernel
theorem dX11_steal_30 : decode cX11_steal 30 = .ok (.bipush (-2), 2) := by decide +kernel
theorem dX11_steal_32 : decode cX11_steal 32 = .ok (.ireturn, 1) := by decide +kernel
theorem dX11_lock_0 : decode cX11_lock 0 = .ok (.aload_n 0, 1) := by decide +kernel
theorem dX11_lock_1 : decode cX11_lock 1 = .ok (.iload_n 1, 1) := by decide +kernel
theorem dX11_lock_2 : decode cX11_lock 2 = .ok (.i2l, 1) := by decide +kernel
theorem dX11_lock_3 : decode cX11_lock 3 = .ok (.invokevirtual 257, 3) := by decide +kernel
theorem dX11_lock_6 : decode cX11_lock 6 = .ok (.ifCond .eq 13, 3) := by decide +kernel
theorem dX11_lock_19 : decode cX11_lock 19 = .ok (.bipush (-2), 2) := by decide +kernel
theorem dX11_lock_21 : decode cX11_lock 21 = .ok (.ireturn, 1) := by decide +kernel
theorem dX11_night_0 : decode cX11_night 0 = .ok (.aload_n 0, 1) := by decide +kernel
theorem dX11_night_1 : decode cX11_night 1 = .ok (.invokevirtual 295, 3) := by decide +kernel
theorem dX11_night_4 : decode cX11_night 4 = .ok (.ifCond .ne 6, 3) := by decide +kernel
theorem dX11_night_7 : decode cX11_night 7 = .ok (.bipush (-2), 2) := by decide +kernel
theorem dX11_night_9 : decode cX11_night 9 = .ok (.ireturn, 1) := by decide +kernel
theorem dX11_undo_0 : decode cX11_undo 0 = .ok (.aload_n 0, 1) := by decide +kernel
theorem dX11_undo_1 : decode cX11_undo 1 = .ok (.invokevirtual 295, 3) := by decide +kernel
theorem dX11_undo_4 : decode cX11_undo 4 = .ok (.ifCond .ne 6, 3) := by decide +kernel
theorem dX11_undo_7 : decode cX11_undo 7 = .ok (.bipush (-2), 2) := by decide +kernel
theorem dX11_undo_9 : decode cX11_undo 9 = .ok (.ireturn, 1) := by decide +kernel
theorem dX11_anew_0 : decode cX11_anew 0 = .ok (.aload_n 0, 1) := by decide +kernel
theorem dX11_anew_1 : decode cX11_anew 1 = .ok (.invokevirtual 295, 3) := by decide +kernel
theorem dX11_anew_4 : decode cX11_anew 4 = .ok (.ifCond .ne 6, 3) := by decide +kernel
theorem dX11_anew_7 : decode cX11_anew 7 = .ok (.bipush (-2), 2) := by decide +kernel
theorem dX11_anew_9 : decode cX11_anew 9 = .ok (.ireturn, 1) := by decide +kernel
theorem dX11_now_0 : decode cX11_now 0 = .ok (.aload_n 0, 1) := by decide +kernel
theorem dX11_now_1 : decode cX11_now 1 = .ok (.invokevirtual 295, 3) := by decide +kernel
theorem dX11_now_4 : decode cX11_now 4 = .ok (.ifCond .eq 15, 3) := by decide +kernel
theorem dX11_now_19 : decode cX11_now 19 = .ok (.bipush (-2), 2) := by decide +kernel
theorem dX11_now_21 : decode cX11_now 21 = .ok (.ireturn, 1) := by decide +kernel
theorem dX11_owner_0 : decode cX11_owner 0 = .ok (.aload_n 0, 1) := by decide +kernel
theorem dX11_owner_1 : decode cX11_owner 1 = .ok (.iload_n 1, 1) := by decide +kernel
theorem dX11_owner_2 : decode cX11_owner 2 = .ok (.i2l, 1) := by decide +kernel
theorem dX11_owner_3 : decode cX11_owner 3 = .ok (.invokevirtual 266, 3) := by decide +kernel
theorem dX11_owner_6 : decode cX11_owner 6 = .ok (.ifCond .ne 6, 3) := by decide +kernel
theorem dX11_owner_9 : decode cX11_owner 9 = .ok (.bipush (-2), 2) := by decide +kernel
theorem dX11_owner_11 : decode cX11_owner 11 = .ok (.ireturn, 1) := by decide +kernel
theorem dX11_chain_0 : decode cX11_chain 0 = .ok (.aload_n 0, 1) := by decide +kernel
theorem dX11_chain_1 : decode cX11_chain 1 = .ok (.iload_n 1, 1) := by decide +kernel
theorem dX11_chain_2 : decode cX11_chain 2 = .ok (.i2l, 1) := by decide +kernel
theorem dX11_chain_3 : decode cX11_chain 3 = .ok (.invokevirtual 266, 3) := by decide +kernel
theorem dX11_chain_6 : decode cX11_chain 6 = .ok (.ifCond .ne 6, 3) := by decide +kernel
theorem dX11_chain_9 : decode cX11_chain 9 = .ok (.bipush (-2), 2) := by decide +kernel
theorem dX11_chain_11 : decode cX11_chain 11 = .ok (.ireturn, 1) := by decide +kernel
theorem dX11_rings_0 : decode cX11_rings 0 = .ok (.aload_n 0, 1) := by decide +kernel
theorem dX11_rings_1 : decode cX11_rings 1 = .ok (.invokevirtual 295, 3) := by decide +kernel
theorem dX11_rings_4 : decode cX11_rings 4 = .ok (.ifCond .ne 6, 3) := by decide +kernel
theorem dX11_rings_7 : decode cX11_rings 7 = .ok (.bipush (-2), 2) := by decide +kernel
theorem dX11_rings_9 : decode cX11_rings 9 = .ok (.ireturn, 1) := by decide +kernel
theorem dX11_owns_0 : decode cX11_owns 0 = .ok (.aload_n 0, 1) := by decide +kernel
theorem dX11_owns_1 : decode cX11_owns 1 = .ok (.iload_n 1, 1) := by decide +kernel
theorem dX11_owns_2 : decode cX11_owns 2 = .ok (.i2l, 1) := by decide +kernel
theorem dX11_owns_3 : decode cX11_owns 3 = .ok (.invokevirtual 257, 3) := by decide +kernel
theorem dX11_owns_6 : decode cX11_owns 6 = .ok (.ifCond .ne 6, 3) := by decide +kernel
theorem dX11_owns_9 : decode cX11_owns 9 = .ok (.bipush (-2), 2) := by decide +kernel
theorem dX11_owns_11 : decode cX11_owns 11 = .ok (.ireturn, 1) := by decide +kernel
theorem dX11_twice_0 : decode cX11_twice 0 = .ok (.aload_n 0, 1) := by decide +kernel
theorem dX11_twice_1 : decode cX11_twice 1 = .ok (.invokevirtual 295, 3) := by decide +kernel
theorem dX11_twice_4 : decode cX11_twice 4 = .ok (.ifCond .ne 6, 3) := by decide +kernel
theorem dX11_twice_7 : decode cX11_twice 7 = .ok (.bipush (-2), 2) := by decide +kernel
theorem dX11_twice_9 : decode cX11_twice 9 = .ok (.ireturn, 1) := by decide +kernel
theorem dX11_strikes_0 : decode cX11_strikes 0 = .ok (.aload_n 0, 1) := by decide +kernel
theorem dX11_strikes_1 : decode cX11_strikes 1 = .ok (.invokevirtual 295, 3) := by decide +kernel
theorem dX11_strikes_4 : decode cX11_strikes 4 = .ok (.ifCond .eq 13, 3) := by decide +kernel
theorem dX11_strikes_17 : decode cX11_strikes 17 = .ok (.bipush (-2), 2) := by decide +kernel
theorem dX11_strikes_19 : decode cX11_strikes 19 = .ok (.ireturn, 1) := by decide +kernel
theorem dX11_struck_0 : decode cX11_struck 0 = .ok (.aload_n 0, 1) := by decide +kernel
theorem dX11_struck_1 : decode cX11_struck 1 = .ok (.invokevirtual 295, 3) := by decide +kernel
theorem dX11_struck_4 : decode cX11_struck 4 = .ok (.ifCond .eq 10, 3) := by decide +kernel
theorem dX11_struck_14 : decode cX11_struck 14 = .ok (.bipush (-2), 2) := by decide +kernel
theorem dX11_struck_16 : decode cX11_struck 16 = .ok (.ireturn, 1) := by decide +kernel
theorem dX11_trail_0 : decode cX11_trail 0 = .ok (.aload_n 0, 1) := by decide +kernel
theorem dX11_trail_1 : decode cX11_trail 1 = .ok (.iload_n 1, 1) := by decide +kernel
theorem dX11_trail_2 : decode cX11_trail 2 = .ok (.i2l, 1) := by decide +kernel
theorem dX11_trail_3 : decode cX11_trail 3 = .ok (.invokevirtual 266, 3) := by decide +kernel
theorem dX11_trail_6 : decode cX11_trail 6 = .ok (.ifCond .ne 6, 3) := by decide +kernel
theorem dX11_trail_9 : decode cX11_trail 9 = .ok (.bipush (-2), 2) := by decide +kernel
theorem dX11_trail_11 : decode cX11_trail 11 = .ok (.ireturn, 1) := by decide +kernel
theorem dX11_went_0 : decode cX11_went 0 = .ok (.aload_n 0, 1) := by decide +kernel
theorem dX11_went_1 : decode cX11_went 1 = .ok (.iload_n 1, 1) := by decide +kernel
theorem dX11_went_2 : decode cX11_went 2 = .ok (.i2l, 1) := by decide +kernel
theorem dX11_went_3 : decode cX11_went 3 = .ok (.invokevirtual 266, 3) := by decide +kernel
theorem dX11_went_6 : decode cX11_went 6 = .ok (.ifCond .ne 6, 3) := by decide +kernel
theorem dX11_went_9 : decode cX11_went 9 = .ok (.bipush (-2), 2) := by decide +kernel
theorem dX11_went_11 : decode cX11_went 11 = .ok (.ireturn, 1) := by decide +kernel
theorem dX11_lies_0 : decode cX11_lies 0 = .ok (.aload_n 0, 1) := by decide +kernel
theorem dX11_lies_1 : decode cX11_lies 1 = .ok (.iload_n 1, 1) := by decide +kernel
theorem dX11_lies_2 : decode cX11_lies 2 = .ok (.i2l, 1) := by decide +kernel
theorem dX11_lies_3 : decode cX11_lies 3 = .ok (.invokevirtual 257, 3) := by decide +kernel
theorem dX11_lies_6 : decode cX11_lies 6 = .ok (.ifCond .ne 6, 3) := by decide +kernel
theorem dX11_lies_9 : decode cX11_lies 9 = .ok (.bipush (-2), 2) := by decide +kernel
theorem dX11_lies_11 : decode cX11_lies 11 = .ok (.ireturn, 1) := by decide +kernel
theorem dX11_poorest_0 : decode cX11_poorest 0 = .ok (.aload_n 0, 1) := by decide +kernel
theorem dX11_poorest_1 : decode cX11_poorest 1 = .ok (.invokevirtual 295, 3) := by decide +kernel
theorem dX11_poorest_4 : decode cX11_poorest 4 = .ok (.ifCond .ne 6, 3) := by decide +kernel
theorem dX11_poorest_7 : decode cX11_poorest 7 = .ok (.bipush (-2), 2) := by decide +kernel
theorem dX11_poorest_9 : decode cX11_poorest 9 = .ok (.ireturn, 1) := by decide +kernel
theorem dX11_due_0 : decode cX11_due 0 = .ok (.aload_n 0, 1) := by decide +kernel
theorem dX11_due_1 : decode cX11_due 1 = .ok (.invokevirtual 295, 3) := by decide +kernel
theorem dX11_due_4 : decode cX11_due 4 = .ok (.ifCond .eq 15, 3) := by decide +kernel
theorem dX11_due_19 : decode cX11_due 19 = .ok (.bipush (-2), 2) := by decide +kernel
theorem dX11_due_21 : decode cX11_due 21 = .ok (.ireturn, 1) := by decide +kernel
theorem dX11_monday_0 : decode cX11_monday 0 = .ok (.aload_n 0, 1) := by decide +kernel
theorem dX11_monday_1 : decode cX11_monday 1 = .ok (.invokevirtual 295, 3) := by decide +kernel
theorem dX11_monday_4 : decode cX11_monday 4 = .ok (.ifCond .ne 6, 3) := by decide +kernel
theorem dX11_monday_7 : decode cX11_monday 7 = .ok (.bipush (-2), 2) := by decide +kernel
theorem dX11_monday_9 : decode cX11_monday 9 = .ok (.ireturn, 1) := by decide +kernel
theorem dX11_lacks_0 : decode cX11_lacks 0 = .ok (.aload_n 0, 1) := by decide +kernel
theorem dX11_lacks_1 : decode cX11_lacks 1 = .ok (.iload_n 1, 1) := by decide +kernel
theorem dX11_lacks_2 : decode cX11_lacks 2 = .ok (.i2l, 1) := by decide +kernel
theorem dX11_lacks_3 : decode cX11_lacks 3 = .ok (.invokevirtual 257, 3) := by decide +kernel
theorem dX11_lacks_6 : decode cX11_lacks 6 = .ok (.ifCond .ne 6, 3) := by decide +kernel
theorem dX11_lacks_9 : decode cX11_lacks 9 = .ok (.bipush (-2), 2) := by decide +kernel
theorem dX11_lacks_11 : decode cX11_lacks 11 = .ok (.ireturn, 1) := by decide +kernel
theorem dX11_needs__0 : decode cX11_needs_ 0 = .ok (.aload_n 0, 1) := by decide +kernel
theorem dX11_needs__1 : decode cX11_needs_ 1 = .ok (.iload_n 1, 1) := by decide +kernel
theorem dX11_needs__2 : decode cX11_needs_ 2 = .ok (.i2l, 1) := by decide +kernel
theorem dX11_needs__3 : decode cX11_needs_ 3 = .ok (.invokevirtual 257, 3) := by decide +kernel
theorem dX11_needs__6 : decode cX11_needs_ 6 = .ok (.ifCond .ne 6, 3) := by decide +kernel
theorem dX11_needs__9 : decode cX11_needs_ 9 = .ok (.bipush (-2), 2) := by decide +kernel
theorem dX11_needs__11 : decode cX11_needs_ 11 = .ok (.ireturn, 1) := by decide +kernel
theorem dX11_fails_0 : decode cX11_fails 0 = .ok (.aload_n 0, 1) := by decide +kernel
theorem dX11_fails_1 : decode cX11_fails 1 = .ok (.invokevirtual 295, 3) := by decide +kernel
theorem dX11_fails_4 : decode cX11_fails 4 = .ok (.ifCond .eq 18, 3) := by decide +kernel
theorem dX11_fails_22 : decode cX11_fails 22 = .ok (.bipush (-2), 2) := by decide +kernel
theorem dX11_fails_24 : decode cX11_fails 24 = .ok (.ireturn, 1) := by decide +kernel
theorem dX11_later_0 : decode cX11_later 0 = .ok (.aload_n 0, 1) := by decide +kernel
theorem dX11_later_1 : decode cX11_later 1 = .ok (.iload_n 1, 1) := by decide +kernel
theorem dX11_later_2 : decode cX11_later 2 = .ok (.i2l, 1) := by decide +kernel
theorem dX11_later_3 : decode cX11_later 3 = .ok (.invokevirtual 266, 3) := by decide +kernel
theorem dX11_later_6 : decode cX11_later 6 = .ok (.ifCond .eq 10, 3) := by decide +kernel
theorem dX11_later_16 : decode cX11_later 16 = .ok (.bipush (-2), 2) := by decide +kernel
theorem dX11_later_18 : decode cX11_later 18 = .ok (.ireturn, 1) := by decide +kernel
theorem dX11_purse_0 : decode cX11_purse 0 = .ok (.aload_n 0, 1) := by decide +kernel
theorem dX11_purse_1 : decode cX11_purse 1 = .ok (.iload_n 1, 1) := by decide +kernel
theorem dX11_purse_2 : decode cX11_purse 2 = .ok (.i2l, 1) := by decide +kernel
theorem dX11_purse_3 : decode cX11_purse 3 = .ok (.invokevirtual 257, 3) := by decide +kernel
theorem dX11_purse_6 : decode cX11_purse 6 = .ok (.ifCond .eq 10, 3) := by decide +kernel
theorem dX11_purse_16 : decode cX11_purse 16 = .ok (.bipush (-2), 2) := by decide +kernel
theorem dX11_purse_18 : decode cX11_purse 18 = .ok (.ireturn, 1) := by decide +kernel
theorem dX11_run_0 : decode cX11_run 0 = .ok (.aload_n 0, 1) := by decide +kernel
theorem dX11_run_1 : decode cX11_run 1 = .ok (.invokevirtual 295, 3) := by decide +kernel
theorem dX11_run_4 : decode cX11_run 4 = .ok (.ifCond .ne 6, 3) := by decide +kernel
theorem dX11_run_7 : decode cX11_run 7 = .ok (.bipush (-2), 2) := by decide +kernel
theorem dX11_run_9 : decode cX11_run 9 = .ok (.ireturn, 1) := by decide +kernel
theorem dX11_hit_0 : decode cX11_hit 0 = .ok (.aload_n 0, 1) := by decide +kernel
theorem dX11_hit_1 : decode cX11_hit 1 = .ok (.iload_n 1, 1) := by decide +kernel
theorem dX11_hit_2 : decode cX11_hit 2 = .ok (.i2l, 1) := by decide +kernel
theorem dX11_hit_3 : decode cX11_hit 3 = .ok (.invokevirtual 257, 3) := by decide +kernel
theorem dX11_hit_6 : decode cX11_hit 6 = .ok (.ifCond .eq 11, 3) := by decide +kernel
theorem dX11_hit_17 : decode cX11_hit 17 = .ok (.bipush (-2), 2) := by decide +kernel
theorem dX11_hit_19 : decode cX11_hit 19 = .ok (.ireturn, 1) := by decide +kernel
theorem dX11_hits_0 : decode cX11_hits 0 = .ok (.aload_n 0, 1) := by decide +kernel
theorem dX11_hits_1 : decode cX11_hits 1 = .ok (.iload_n 1, 1) := by decide +kernel
theorem dX11_hits_2 : decode cX11_hits 2 = .ok (.i2l, 1) := by decide +kernel
theorem dX11_hits_3 : decode cX11_hits 3 = .ok (.invokevirtual 257, 3) := by decide +kernel
theorem dX11_hits_6 : decode cX11_hits 6 = .ok (.ifCond .ne 6, 3) := by decide +kernel
theorem dX11_hits_9 : decode cX11_hits 9 = .ok (.bipush (-2), 2) := by decide +kernel
theorem dX11_hits_11 : decode cX11_hits 11 = .ok (.ireturn, 1) := by decide +kernel
theorem dX11_plan_0 : decode cX11_plan 0 = .ok (.aload_n 0, 1) := by decide +kernel
theorem dX11_plan_1 : decode cX11_plan 1 = .ok (.iload_n 1, 1) := by decide +kernel
theorem dX11_plan_2 : decode cX11_plan 2 = .ok (.i2l, 1) := by decide +kernel
theorem dX11_plan_3 : decode cX11_plan 3 = .ok (.invokevirtual 257, 3) := by decide +kernel
theorem dX11_plan_6 : decode cX11_plan 6 = .ok (.ifCond .eq 10, 3) := by decide +kernel
theorem dX11_plan_16 : decode cX11_plan 16 = .ok (.bipush (-2), 2) := by decide +kernel
theorem dX11_plan_18 : decode cX11_plan 18 = .ok (.ireturn, 1) := by decide +kernel
theorem dX11_plans_0 : decode cX11_plans 0 = .ok (.aload_n 0, 1) := by decide +kernel
theorem dX11_plans_1 : decode cX11_plans 1 = .ok (.iload_n 1, 1) := by decide +kernel
theorem dX11_plans_2 : decode cX11_plans 2 = .ok (.i2l, 1) := by decide +kernel
theorem dX11_plans_3 : decode cX11_plans 3 = .ok (.invokevirtual 257, 3) := by decide +kernel
theorem dX11_plans_6 : decode cX11_plans 6 = .ok (.ifCond .eq 10, 3) := by decide +kernel
theorem dX11_plans_16 : decode cX11_plans 16 = .ok (.bipush (-2), 2) := by decide +kernel
theorem dX11_plans_18 : decode cX11_plans 18 = .ok (.ireturn, 1) := by decide +kernel
theorem dX11_change_0 : decode cX11_change 0 = .ok (.aload_n 0, 1) := by decide +kernel
theorem dX11_change_1 : decode cX11_change 1 = .ok (.iload_n 1, 1) := by decide +kernel
theorem dX11_change_2 : decode cX11_change 2 = .ok (.i2l, 1) := by decide +kernel
theorem dX11_change_3 : decode cX11_change 3 = .ok (.invokevirtual 257, 3) := by decide +kernel
theorem dX11_change_6 : decode cX11_change 6 = .ok (.ifCond .eq 17, 3) := by decide +kernel
theorem dX11_change_23 : decode cX11_change 23 = .ok (.bipush (-2), 2) := by decide +kernel
theorem dX11_change_25 : decode cX11_change 25 = .ok (.ireturn, 1) := by decide +kernel
theorem dX11_deal_0 : decode cX11_deal 0 = .ok (.aload_n 0, 1) := by decide +kernel
theorem dX11_deal_1 : decode cX11_deal 1 = .ok (.invokevirtual 295, 3) := by decide +kernel
theorem dX11_deal_4 : decode cX11_deal 4 = .ok (.ifCond .eq 10, 3) := by decide +kernel
theorem dX11_deal_14 : decode cX11_deal 14 = .ok (.bipush (-2), 2) := by decide +kernel
theorem dX11_deal_16 : decode cX11_deal 16 = .ok (.ireturn, 1) := by decide +kernel
theorem dX11_deals_0 : decode cX11_deals 0 = .ok (.aload_n 0, 1) := by decide +kernel
theorem dX11_deals_1 : decode cX11_deals 1 = .ok (.iload_n 1, 1) := by decide +kernel
theorem dX11_deals_2 : decode cX11_deals 2 = .ok (.i2l, 1) := by decide +kernel
theorem dX11_deals_3 : decode cX11_deals 3 = .ok (.invokevirtual 266, 3) := by decide +kernel
theorem dX11_deals_6 : decode cX11_deals 6 = .ok (.ifCond .ne 6, 3) := by decide +kernel
theorem dX11_deals_9 : decode cX11_deals 9 = .ok (.bipush (-2), 2) := by decide +kernel
theorem dX11_deals_11 : decode cX11_deals 11 = .ok (.ireturn, 1) := by decide +kernel
theorem dX11_dear_0 : decode cX11_dear 0 = .ok (.aload_n 0, 1) := by decide +kernel
theorem dX11_dear_1 : decode cX11_dear 1 = .ok (.invokevirtual 295, 3) := by decide +kernel
theorem dX11_dear_4 : decode cX11_dear 4 = .ok (.ifCond .ne 6, 3) := by decide +kernel
theorem dX11_dear_7 : decode cX11_dear 7 = .ok (.bipush (-2), 2) := by decide +kernel
theorem dX11_dear_9 : decode cX11_dear 9 = .ok (.ireturn, 1) := by decide +kernel
theorem dX11_rate_0 : decode cX11_rate 0 = .ok (.aload_n 0, 1) := by decide +kernel
theorem dX11_rate_1 : decode cX11_rate 1 = .ok (.iload_n 1, 1) := by decide +kernel
theorem dX11_rate_2 : decode cX11_rate 2 = .ok (.i2l, 1) := by decide +kernel
theorem dX11_rate_3 : decode cX11_rate 3 = .ok (.invokevirtual 266, 3) := by decide +kernel
theorem dX11_rate_6 : decode cX11_rate 6 = .ok (.ifCond .eq 31, 3) := by decide +kernel
theorem dX11_rate_37 : decode cX11_rate 37 = .ok (.bipush (-2), 2) := by decide +kernel
theorem dX11_rate_39 : decode cX11_rate 39 = .ok (.ireturn, 1) := by decide +kernel
theorem dX11_want_0 : decode cX11_want 0 = .ok (.aload_n 0, 1) := by decide +kernel
theorem dX11_want_1 : decode cX11_want 1 = .ok (.iload_n 1, 1) := by decide +kernel
theorem dX11_want_2 : decode cX11_want 2 = .ok (.i2l, 1) := by decide +kernel
theorem dX11_want_3 : decode cX11_want 3 = .ok (.invokevirtual 257, 3) := by decide +kernel
theorem dX11_want_6 : decode cX11_want 6 = .ok (.ifCond .eq 41, 3) := by decide +kernel
theorem dX11_want_47 : decode cX11_want 47 = .ok (.bipush (-2), 2) := by decide +kernel
theorem dX11_want_49 : decode cX11_want 49 = .ok (.ireturn, 1) := by decide +kernel
theorem dX10_hasCity_0 : decode cX10_hasCity 0 = .ok (.aload_n 0, 1) := by decide +kernel
theorem dX10_hasCity_1 : decode cX10_hasCity 1 = .ok (.getfield 19, 3) := by decide +kernel
theorem dX10_hasCity_4 : decode cX10_hasCity 4 = .ok (.getfield 112, 3) := by decide +kernel
theorem dX10_hasCity_7 : decode cX10_hasCity 7 = .ok (.ifCond .le 7, 3) := by decide +kernel
theorem dX10_hasCity_14 : decode cX10_hasCity 14 = .ok (.iconst 0, 1) := by decide +kernel
theorem dX10_hasCity_15 : decode cX10_hasCity 15 = .ok (.ireturn, 1) := by decide +kernel
theorem dX10_isHouse_0 : decode cX10_isHouse 0 = .ok (.iload_n 1, 1) := by decide +kernel
theorem dX10_isHouse_1 : decode cX10_isHouse 1 = .ok (.ifCond .lt 18, 3) := by decide +kernel
theorem dX10_isHouse_19 : decode cX10_isHouse 19 = .ok (.iconst 0, 1) := by decide +kernel
theorem dX10_isHouse_20 : decode cX10_isHouse 20 = .ok (.ireturn, 1) := by decide +kernel
theorem dX10_isHouse_4 : decode cX10_isHouse 4 = .ok (.iload_n 1, 1) := by decide +kernel
theorem dX10_isHouse_5 : decode cX10_isHouse 5 = .ok (.aload_n 0, 1) := by decide +kernel
theorem dX10_isHouse_6 : decode cX10_isHouse 6 = .ok (.getfield 19, 3) := by decide +kernel
theorem dX10_isHouse_9 : decode cX10_isHouse 9 = .ok (.getfield 255, 3) := by decide +kernel
theorem dX10_isHouse_12 : decode cX10_isHouse 12 = .ok (.if_icmp .ge 7, 3) := by decide +kernel
theorem dX10_isHouse_15 : decode cX10_isHouse 15 = .ok (.iconst 1, 1) := by decide +kernel
theorem dX10_isHouse_16 : decode cX10_isHouse 16 = .ok (.goto 4, 3) := by decide +kernel
