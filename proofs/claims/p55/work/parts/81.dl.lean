/-! decode rows of the law -/
theorem dL_cell_0 : decode cL_cell 0 = .ok (.iload_n 1, 1) := by decide +kernel
theorem dL_cell_1 : decode cL_cell 1 = .ok (.aload_n 0, 1) := by decide +kernel
theorem dL_cell_2 : decode cL_cell 2 = .ok (.arraylength, 1) := by decide +kernel
theorem dL_cell_3 : decode cL_cell 3 = .ok (.if_icmp .ge 9, 3) := by decide +kernel
theorem dL_cell_6 : decode cL_cell 6 = .ok (.aload_n 0, 1) := by decide +kernel
theorem dL_cell_7 : decode cL_cell 7 = .ok (.iload_n 1, 1) := by decide +kernel
theorem dL_cell_8 : decode cL_cell 8 = .ok (.iaload, 1) := by decide +kernel
theorem dL_cell_9 : decode cL_cell 9 = .ok (.goto 7, 3) := by decide +kernel
theorem dL_cell_12 : decode cL_cell 12 = .ok (.ldc 7, 2) := by decide +kernel
theorem dL_cell_14 : decode cL_cell 14 = .ok (.iload_n 1, 1) := by decide +kernel
theorem dL_cell_15 : decode cL_cell 15 = .ok (.imul, 1) := by decide +kernel
theorem dL_cell_16 : decode cL_cell 16 = .ok (.ireturn, 1) := by decide +kernel
theorem dL_addShip_0 : decode cL_addShip 0 = .ok (.aload_n 0, 1) := by decide +kernel
theorem dL_addShip_1 : decode cL_addShip 1 = .ok (.invokevirtual 8, 3) := by decide +kernel
theorem dL_addShip_4 : decode cL_addShip 4 = .ok (.ireturn, 1) := by decide +kernel
theorem dL_addShip_5 : decode cL_addShip 5 = .ok (.astore_n 1, 1) := by decide +kernel
theorem dL_addShip_6 : decode cL_addShip 6 = .ok (.iconst (-1), 1) := by decide +kernel
theorem dL_addShip_7 : decode cL_addShip 7 = .ok (.ireturn, 1) := by decide +kernel
theorem dL_addLamp_0 : decode cL_addLamp 0 = .ok (.aload_n 0, 1) := by decide +kernel
theorem dL_addLamp_1 : decode cL_addLamp 1 = .ok (.iload_n 1, 1) := by decide +kernel
theorem dL_addLamp_2 : decode cL_addLamp 2 = .ok (.invokevirtual 16, 3) := by decide +kernel
theorem dL_addLamp_5 : decode cL_addLamp 5 = .ok (.ireturn, 1) := by decide +kernel
theorem dL_addLamp_6 : decode cL_addLamp 6 = .ok (.astore_n 2, 1) := by decide +kernel
theorem dL_addLamp_7 : decode cL_addLamp 7 = .ok (.iconst (-1), 1) := by decide +kernel
theorem dL_addLamp_8 : decode cL_addLamp 8 = .ok (.ireturn, 1) := by decide +kernel
theorem dL_addLamp_9 : decode cL_addLamp 9 = .ok (.astore_n 2, 1) := by decide +kernel
theorem dL_addLamp_10 : decode cL_addLamp 10 = .ok (.bipush (-2), 2) := by decide +kernel
theorem dL_addLamp_12 : decode cL_addLamp 12 = .ok (.ireturn, 1) := by decide +kernel
theorem dL_addOil_0 : decode cL_addOil 0 = .ok (.aload_n 0, 1) := by decide +kernel
theorem dL_addOil_1 : decode cL_addOil 1 = .ok (.iload_n 1, 1) := by decide +kernel
theorem dL_addOil_2 : decode cL_addOil 2 = .ok (.invokevirtual 22, 3) := by decide +kernel
theorem dL_addOil_5 : decode cL_addOil 5 = .ok (.ireturn, 1) := by decide +kernel
theorem dL_addOil_6 : decode cL_addOil 6 = .ok (.astore_n 2, 1) := by decide +kernel
theorem dL_addOil_7 : decode cL_addOil 7 = .ok (.iconst (-1), 1) := by decide +kernel
theorem dL_addOil_8 : decode cL_addOil 8 = .ok (.ireturn, 1) := by decide +kernel
theorem dL_addOil_9 : decode cL_addOil 9 = .ok (.astore_n 2, 1) := by decide +kernel
theorem dL_addOil_10 : decode cL_addOil 10 = .ok (.bipush (-2), 2) := by decide +kernel
theorem dL_addOil_12 : decode cL_addOil 12 = .ok (.ireturn, 1) := by decide +kernel
theorem dL_lease_0 : decode cL_lease 0 = .ok (.aload_n 0, 1) := by decide +kernel
theorem dL_lease_1 : decode cL_lease 1 = .ok (.iload_n 1, 1) := by decide +kernel
theorem dL_lease_2 : decode cL_lease 2 = .ok (.iload_n 2, 1) := by decide +kernel
theorem dL_lease_3 : decode cL_lease 3 = .ok (.iload_n 3, 1) := by decide +kernel
theorem dL_lease_4 : decode cL_lease 4 = .ok (.invokevirtual 25, 3) := by decide +kernel
theorem dL_lease_7 : decode cL_lease 7 = .ok (.ireturn, 1) := by decide +kernel
theorem dL_lease_8 : decode cL_lease 8 = .ok (.astore 4, 2) := by decide +kernel
theorem dL_lease_10 : decode cL_lease 10 = .ok (.iconst (-1), 1) := by decide +kernel
theorem dL_lease_11 : decode cL_lease 11 = .ok (.ireturn, 1) := by decide +kernel
theorem dL_lease_12 : decode cL_lease 12 = .ok (.astore 4, 2) := by decide +kernel
theorem dL_lease_14 : decode cL_lease 14 = .ok (.bipush (-2), 2) := by decide +kernel
theorem dL_lease_16 : decode cL_lease 16 = .ok (.ireturn, 1) := by decide +kernel
theorem dL_lease_17 : decode cL_lease 17 = .ok (.astore 4, 2) := by decide +kernel
theorem dL_lease_19 : decode cL_lease 19 = .ok (.bipush (-3), 2) := by decide +kernel
theorem dL_lease_21 : decode cL_lease 21 = .ok (.ireturn, 1) := by decide +kernel
theorem dL_lease_22 : decode cL_lease 22 = .ok (.astore 4, 2) := by decide +kernel
theorem dL_lease_24 : decode cL_lease 24 = .ok (.bipush (-4), 2) := by decide +kernel
theorem dL_lease_26 : decode cL_lease 26 = .ok (.ireturn, 1) := by decide +kernel
theorem dL_renew_0 : decode cL_renew 0 = .ok (.aload_n 0, 1) := by decide +kernel
theorem dL_renew_1 : decode cL_renew 1 = .ok (.iload_n 1, 1) := by decide +kernel
theorem dL_renew_2 : decode cL_renew 2 = .ok (.iload_n 2, 1) := by decide +kernel
theorem dL_renew_3 : decode cL_renew 3 = .ok (.invokevirtual 33, 3) := by decide +kernel
theorem dL_renew_6 : decode cL_renew 6 = .ok (.ireturn, 1) := by decide +kernel
theorem dL_renew_7 : decode cL_renew 7 = .ok (.astore_n 3, 1) := by decide +kernel
theorem dL_renew_8 : decode cL_renew 8 = .ok (.iconst (-1), 1) := by decide +kernel
theorem dL_renew_9 : decode cL_renew 9 = .ok (.ireturn, 1) := by decide +kernel
theorem dL_renew_10 : decode cL_renew 10 = .ok (.astore_n 3, 1) := by decide +kernel
theorem dL_renew_11 : decode cL_renew 11 = .ok (.bipush (-2), 2) := by decide +kernel
theorem dL_renew_13 : decode cL_renew 13 = .ok (.ireturn, 1) := by decide +kernel
theorem dL_renew_14 : decode cL_renew 14 = .ok (.astore_n 3, 1) := by decide +kernel
theorem dL_renew_15 : decode cL_renew 15 = .ok (.bipush (-3), 2) := by decide +kernel
theorem dL_renew_17 : decode cL_renew 17 = .ok (.ireturn, 1) := by decide +kernel
theorem dL_renew_18 : decode cL_renew 18 = .ok (.astore_n 3, 1) := by decide +kernel
theorem dL_renew_19 : decode cL_renew 19 = .ok (.bipush (-4), 2) := by decide +kernel
theorem dL_renew_21 : decode cL_renew 21 = .ok (.ireturn, 1) := by decide +kernel
theorem dL_giveUp_0 : decode cL_giveUp 0 = .ok (.aload_n 0, 1) := by decide +kernel
theorem dL_giveUp_1 : decode cL_giveUp 1 = .ok (.iload_n 1, 1) := by decide +kernel
theorem dL_giveUp_2 : decode cL_giveUp 2 = .ok (.invokevirtual 39, 3) := by decide +kernel
theorem dL_giveUp_5 : decode cL_giveUp 5 = .ok (.ireturn, 1) := by decide +kernel
theorem dL_giveUp_6 : decode cL_giveUp 6 = .ok (.astore_n 2, 1) := by decide +kernel
theorem dL_giveUp_7 : decode cL_giveUp 7 = .ok (.iconst (-1), 1) := by decide +kernel
theorem dL_giveUp_8 : decode cL_giveUp 8 = .ok (.ireturn, 1) := by decide +kernel
theorem dL_giveUp_9 : decode cL_giveUp 9 = .ok (.astore_n 2, 1) := by decide +kernel
theorem dL_giveUp_10 : decode cL_giveUp 10 = .ok (.bipush (-2), 2) := by decide +kernel
theorem dL_giveUp_12 : decode cL_giveUp 12 = .ok (.ireturn, 1) := by decide +kernel
theorem dL_pass_0 : decode cL_pass 0 = .ok (.aload_n 0, 1) := by decide +kernel
theorem dL_pass_1 : decode cL_pass 1 = .ok (.iload_n 1, 1) := by decide +kernel
theorem dL_pass_2 : decode cL_pass 2 = .ok (.invokevirtual 42, 3) := by decide +kernel
theorem dL_pass_5 : decode cL_pass 5 = .ok (.ireturn, 1) := by decide +kernel
theorem dL_pass_6 : decode cL_pass 6 = .ok (.astore_n 2, 1) := by decide +kernel
theorem dL_pass_7 : decode cL_pass 7 = .ok (.iconst (-1), 1) := by decide +kernel
theorem dL_pass_8 : decode cL_pass 8 = .ok (.ireturn, 1) := by decide +kernel
theorem dL_coins_0 : decode cL_coins 0 = .ok (.aload_n 0, 1) := by decide +kernel
theorem dL_coins_1 : decode cL_coins 1 = .ok (.iload_n 1, 1) := by decide +kernel
theorem dL_coins_2 : decode cL_coins 2 = .ok (.invokevirtual 45, 3) := by decide +kernel
theorem dL_coins_5 : decode cL_coins 5 = .ok (.ireturn, 1) := by decide +kernel
theorem dL_coins_6 : decode cL_coins 6 = .ok (.astore_n 2, 1) := by decide +kernel
theorem dL_coins_7 : decode cL_coins 7 = .ok (.bipush (-11), 2) := by decide +kernel
theorem dL_coins_9 : decode cL_coins 9 = .ok (.ireturn, 1) := by decide +kernel
theorem dL_fines_0 : decode cL_fines 0 = .ok (.aload_n 0, 1) := by decide +kernel
theorem dL_fines_1 : decode cL_fines 1 = .ok (.iload_n 1, 1) := by decide +kernel
theorem dL_fines_2 : decode cL_fines 2 = .ok (.invokevirtual 48, 3) := by decide +kernel
theorem dL_fines_5 : decode cL_fines 5 = .ok (.ireturn, 1) := by decide +kernel
theorem dL_fines_6 : decode cL_fines 6 = .ok (.astore_n 2, 1) := by decide +kernel
theorem dL_fines_7 : decode cL_fines 7 = .ok (.bipush (-11), 2) := by decide +kernel
theorem dL_fines_9 : decode cL_fines 9 = .ok (.ireturn, 1) := by decide +kernel
theorem dL_dark_0 : decode cL_dark 0 = .ok (.aload_n 0, 1) := by decide +kernel
theorem dL_dark_1 : decode cL_dark 1 = .ok (.iload_n 1, 1) := by decide +kernel
theorem dL_dark_2 : decode cL_dark 2 = .ok (.invokevirtual 51, 3) := by decide +kernel
theorem dL_dark_5 : decode cL_dark 5 = .ok (.ireturn, 1) := by decide +kernel
theorem dL_dark_6 : decode cL_dark 6 = .ok (.astore_n 2, 1) := by decide +kernel
theorem dL_dark_7 : decode cL_dark 7 = .ok (.bipush (-11), 2) := by decide +kernel
theorem dL_dark_9 : decode cL_dark 9 = .ok (.ireturn, 1) := by decide +kernel
theorem dL_demand_0 : decode cL_demand 0 = .ok (.aload_n 0, 1) := by decide +kernel
theorem dL_demand_1 : decode cL_demand 1 = .ok (.iload_n 1, 1) := by decide +kernel
theorem dL_demand_2 : decode cL_demand 2 = .ok (.invokevirtual 54, 3) := by decide +kernel
theorem dL_demand_5 : decode cL_demand 5 = .ok (.ireturn, 1) := by decide +kernel
theorem dL_demand_6 : decode cL_demand 6 = .ok (.astore_n 2, 1) := by decide +kernel
theorem dL_demand_7 : decode cL_demand 7 = .ok (.bipush (-11), 2) := by decide +kernel
theorem dL_demand_9 : decode cL_demand 9 = .ok (.ireturn, 1) := by decide +kernel
theorem dL_leases_0 : decode cL_leases 0 = .ok (.aload_n 0, 1) := by decide +kernel
theorem dL_leases_1 : decode cL_leases 1 = .ok (.iload_n 1, 1) := by decide +kernel
theorem dL_leases_2 : decode cL_leases 2 = .ok (.invokevirtual 57, 3) := by decide +kernel
theorem dL_leases_5 : decode cL_leases 5 = .ok (.ireturn, 1) := by decide +kernel
theorem dL_leases_6 : decode cL_leases 6 = .ok (.astore_n 2, 1) := by decide +kernel
theorem dL_leases_7 : decode cL_leases 7 = .ok (.bipush (-11), 2) := by decide +kernel
theorem dL_leases_9 : decode cL_leases 9 = .ok (.ireturn, 1) := by decide +kernel
theorem dL_level_0 : decode cL_level 0 = .ok (.aload_n 0, 1) := by decide +kernel
theorem dL_level_1 : decode cL_level 1 = .ok (.iload_n 1, 1) := by decide +kernel
theorem dL_level_2 : decode cL_level 2 = .ok (.invokevirtual 60, 3) := by decide +kernel
theorem dL_level_5 : decode cL_level 5 = .ok (.ireturn, 1) := by decide +kernel
theorem dL_level_6 : decode cL_level 6 = .ok (.astore_n 2, 1) := by decide +kernel
theorem dL_level_7 : decode cL_level 7 = .ok (.bipush (-11), 2) := by decide +kernel
theorem dL_level_9 : decode cL_level 9 = .ok (.ireturn, 1) := by decide +kernel
theorem dL_isLeased_0 : decode cL_isLeased 0 = .ok (.aload_n 0, 1) := by decide +kernel
theorem dL_isLeased_1 : decode cL_isLeased 1 = .ok (.iload_n 1, 1) := by decide +kernel
theorem dL_isLeased_2 : decode cL_isLeased 2 = .ok (.invokevirtual 63, 3) := by decide +kernel
theorem dL_isLeased_5 : decode cL_isLeased 5 = .ok (.ifCond .eq 7, 3) := by decide +kernel
theorem dL_isLeased_8 : decode cL_isLeased 8 = .ok (.iconst 1, 1) := by decide +kernel
theorem dL_isLeased_9 : decode cL_isLeased 9 = .ok (.goto 4, 3) := by decide +kernel
theorem dL_isLeased_12 : decode cL_isLeased 12 = .ok (.iconst 0, 1) := by decide +kernel
theorem dL_isLeased_13 : decode cL_isLeased 13 = .ok (.ireturn, 1) := by decide +kernel
theorem dL_isLeased_14 : decode cL_isLeased 14 = .ok (.astore_n 2, 1) := by decide +kernel
theorem dL_isLeased_15 : decode cL_isLeased 15 = .ok (.bipush (-11), 2) := by decide +kernel
theorem dL_isLeased_17 : decode cL_isLeased 17 = .ok (.ireturn, 1) := by decide +kernel
theorem dL_lessee_0 : decode cL_lessee 0 = .ok (.aload_n 0, 1) := by decide +kernel
theorem dL_lessee_1 : decode cL_lessee 1 = .ok (.iload_n 1, 1) := by decide +kernel
theorem dL_lessee_2 : decode cL_lessee 2 = .ok (.invokevirtual 67, 3) := by decide +kernel
theorem dL_lessee_5 : decode cL_lessee 5 = .ok (.ireturn, 1) := by decide +kernel
theorem dL_lessee_6 : decode cL_lessee 6 = .ok (.astore_n 2, 1) := by decide +kernel
theorem dL_lessee_7 : decode cL_lessee 7 = .ok (.bipush (-11), 2) := by decide +kernel
theorem dL_lessee_9 : decode cL_lessee 9 = .ok (.ireturn, 1) := by decide +kernel
theorem dL_lessee_10 : decode cL_lessee 10 = .ok (.astore_n 2, 1) := by decide +kernel
theorem dL_lessee_11 : decode cL_lessee 11 = .ok (.bipush (-13), 2) := by decide +kernel
theorem dL_lessee_13 : decode cL_lessee 13 = .ok (.ireturn, 1) := by decide +kernel
theorem dL_end_0 : decode cL_end 0 = .ok (.aload_n 0, 1) := by decide +kernel
theorem dL_end_1 : decode cL_end 1 = .ok (.iload_n 1, 1) := by decide +kernel
theorem dL_end_2 : decode cL_end 2 = .ok (.invokevirtual 70, 3) := by decide +kernel
theorem dL_end_5 : decode cL_end 5 = .ok (.ireturn, 1) := by decide +kernel
theorem dL_end_6 : decode cL_end 6 = .ok (.astore_n 2, 1) := by decide +kernel
theorem dL_end_7 : decode cL_end 7 = .ok (.bipush (-11), 2) := by decide +kernel
theorem dL_end_9 : decode cL_end 9 = .ok (.ireturn, 1) := by decide +kernel
theorem dL_end_10 : decode cL_end 10 = .ok (.astore_n 2, 1) := by decide +kernel
theorem dL_end_11 : decode cL_end 11 = .ok (.bipush (-13), 2) := by decide +kernel
theorem dL_end_13 : decode cL_end 13 = .ok (.ireturn, 1) := by decide +kernel
theorem dL_bright_0 : decode cL_bright 0 = .ok (.aload_n 0, 1) := by decide +kernel
theorem dL_bright_1 : decode cL_bright 1 = .ok (.iload_n 1, 1) := by decide +kernel
theorem dL_bright_2 : decode cL_bright 2 = .ok (.invokevirtual 73, 3) := by decide +kernel
theorem dL_bright_5 : decode cL_bright 5 = .ok (.ireturn, 1) := by decide +kernel
theorem dL_bright_6 : decode cL_bright 6 = .ok (.astore_n 2, 1) := by decide +kernel
theorem dL_bright_7 : decode cL_bright 7 = .ok (.bipush (-11), 2) := by decide +kernel
theorem dL_bright_9 : decode cL_bright 9 = .ok (.ireturn, 1) := by decide +kernel
theorem dL_was_0 : decode cL_was 0 = .ok (.aload_n 0, 1) := by decide +kernel
theorem dL_was_1 : decode cL_was 1 = .ok (.iload_n 1, 1) := by decide +kernel
theorem dL_was_2 : decode cL_was 2 = .ok (.invokevirtual 76, 3) := by decide +kernel
theorem dL_was_5 : decode cL_was 5 = .ok (.ifCond .eq 7, 3) := by decide +kernel
theorem dL_was_8 : decode cL_was 8 = .ok (.iconst 1, 1) := by decide +kernel
theorem dL_was_9 : decode cL_was 9 = .ok (.goto 4, 3) := by decide +kernel
theorem dL_was_12 : decode cL_was 12 = .ok (.iconst 0, 1) := by decide +kernel
theorem dL_was_13 : decode cL_was 13 = .ok (.ireturn, 1) := by decide +kernel
theorem dL_was_14 : decode cL_was 14 = .ok (.astore_n 2, 1) := by decide +kernel
theorem dL_was_15 : decode cL_was 15 = .ok (.bipush (-11), 2) := by decide +kernel
theorem dL_was_17 : decode cL_was 17 = .ok (.ireturn, 1) := by decide +kernel
theorem dL_hoursOfOil_0 : decode cL_hoursOfOil 0 = .ok (.aload_n 0, 1) := by decide +kernel
theorem dL_hoursOfOil_1 : decode cL_hoursOfOil 1 = .ok (.invokevirtual 79, 3) := by decide +kernel
theorem dL_hoursOfOil_4 : decode cL_hoursOfOil 4 = .ok (.ireturn, 1) := by decide +kernel
theorem dL_hoursOfOil_5 : decode cL_hoursOfOil 5 = .ok (.astore_n 1, 1) := by decide +kernel
theorem dL_hoursOfOil_6 : decode cL_hoursOfOil 6 = .ok (.bipush (-13), 2) := by decide +kernel
theorem dL_hoursOfOil_8 : decode cL_hoursOfOil 8 = .ok (.ireturn, 1) := by decide +kernel
theorem dL_byEnds_0 : decode cL_byEnds 0 = .ok (.aload_n 0, 1) := by decide +kernel
theorem dL_byEnds_1 : decode cL_byEnds 1 = .ok (.invokevirtual 82, 3) := by decide +kernel
theorem dL_byEnds_4 : decode cL_byEnds 4 = .ok (.ireturn, 1) := by decide +kernel
theorem dL_byEnds_5 : decode cL_byEnds 5 = .ok (.astore_n 1, 1) := by decide +kernel
theorem dL_byEnds_6 : decode cL_byEnds 6 = .ok (.bipush (-13), 2) := by decide +kernel
theorem dL_byEnds_8 : decode cL_byEnds 8 = .ok (.ireturn, 1) := by decide +kernel
theorem dL_share_0 : decode cL_share 0 = .ok (.aload_n 0, 1) := by decide +kernel
theorem dL_share_1 : decode cL_share 1 = .ok (.iload_n 1, 1) := by decide +kernel
theorem dL_share_2 : decode cL_share 2 = .ok (.invokevirtual 85, 3) := by decide +kernel
theorem dL_share_5 : decode cL_share 5 = .ok (.ireturn, 1) := by decide +kernel
theorem dL_share_6 : decode cL_share 6 = .ok (.astore_n 2, 1) := by decide +kernel
theorem dL_share_7 : decode cL_share 7 = .ok (.bipush (-11), 2) := by decide +kernel
theorem dL_share_9 : decode cL_share 9 = .ok (.ireturn, 1) := by decide +kernel
theorem dL_byRank_0 : decode cL_byRank 0 = .ok (.aload_n 0, 1) := by decide +kernel
theorem dL_byRank_1 : decode cL_byRank 1 = .ok (.iload_n 1, 1) := by decide +kernel
theorem dL_byRank_2 : decode cL_byRank 2 = .ok (.invokevirtual 88, 3) := by decide +kernel
theorem dL_byRank_5 : decode cL_byRank 5 = .ok (.ireturn, 1) := by decide +kernel
theorem dL_byRank_6 : decode cL_byRank 6 = .ok (.astore_n 2, 1) := by decide +kernel
theorem dL_byRank_7 : decode cL_byRank 7 = .ok (.bipush (-11), 2) := by decide +kernel
theorem dL_byRank_9 : decode cL_byRank 9 = .ok (.ireturn, 1) := by decide +kernel
theorem dL_asked_0 : decode cL_asked 0 = .ok (.aload_n 0, 1) := by decide +kernel
theorem dL_asked_1 : decode cL_asked 1 = .ok (.iload_n 1, 1) := by decide +kernel
theorem dL_asked_2 : decode cL_asked 2 = .ok (.invokevirtual 91, 3) := by decide +kernel
theorem dL_asked_5 : decode cL_asked 5 = .ok (.ireturn, 1) := by decide +kernel
theorem dL_asked_6 : decode cL_asked 6 = .ok (.astore_n 2, 1) := by decide +kernel
theorem dL_asked_7 : decode cL_asked 7 = .ok (.bipush (-13), 2) := by decide +kernel
theorem dL_asked_9 : decode cL_asked 9 = .ok (.ireturn, 1) := by decide +kernel
theorem dL_askedHours_0 : decode cL_askedHours 0 = .ok (.aload_n 0, 1) := by decide +kernel
theorem dL_askedHours_1 : decode cL_askedHours 1 = .ok (.iload_n 1, 1) := by decide +kernel
theorem dL_askedHours_2 : decode cL_askedHours 2 = .ok (.invokevirtual 94, 3) := by decide +kernel
theorem dL_askedHours_5 : decode cL_askedHours 5 = .ok (.ireturn, 1) := by decide +kernel
theorem dL_askedHours_6 : decode cL_askedHours 6 = .ok (.astore_n 2, 1) := by decide +kernel
theorem dL_askedHours_7 : decode cL_askedHours 7 = .ok (.bipush (-13), 2) := by decide +kernel
theorem dL_askedHours_9 : decode cL_askedHours 9 = .ok (.ireturn, 1) := by decide +kernel
theorem dL_byFines_0 : decode cL_byFines 0 = .ok (.aload_n 0, 1) := by decide +kernel
theorem dL_byFines_1 : decode cL_byFines 1 = .ok (.iload_n 1, 1) := by decide +kernel
theorem dL_byFines_2 : decode cL_byFines 2 = .ok (.invokevirtual 97, 3) := by decide +kernel
theorem dL_byFines_5 : decode cL_byFines 5 = .ok (.ireturn, 1) := by decide +kernel
theorem dL_byFines_6 : decode cL_byFines 6 = .ok (.astore_n 2, 1) := by decide +kernel
theorem dL_byFines_7 : decode cL_byFines 7 = .ok (.bipush (-13), 2) := by decide +kernel
theorem dL_byFines_9 : decode cL_byFines 9 = .ok (.ireturn, 1) := by decide +kernel
theorem dL_byEnd_0 : decode cL_byEnd 0 = .ok (.aload_n 0, 1) := by decide +kernel
theorem dL_byEnd_1 : decode cL_byEnd 1 = .ok (.iload_n 1, 1) := by decide +kernel
theorem dL_byEnd_2 : decode cL_byEnd 2 = .ok (.invokevirtual 100, 3) := by decide +kernel
theorem dL_byEnd_5 : decode cL_byEnd 5 = .ok (.ireturn, 1) := by decide +kernel
theorem dL_byEnd_6 : decode cL_byEnd 6 = .ok (.astore_n 2, 1) := by decide +kernel
theorem dL_byEnd_7 : decode cL_byEnd 7 = .ok (.bipush (-13), 2) := by decide +kernel
theorem dL_byEnd_9 : decode cL_byEnd 9 = .ok (.ireturn, 1) := by decide +kernel
theorem dL_feed_0 : decode cL_feed 0 = .ok (.aload_n 0, 1) := by decide +kernel
theorem dL_feed_1 : decode cL_feed 1 = .ok (.iload_n 1, 1) := by decide +kernel
theorem dL_feed_2 : decode cL_feed 2 = .ok (.invokevirtual 103, 3) := by decide +kernel
theorem dL_feed_5 : decode cL_feed 5 = .ok (.ireturn, 1) := by decide +kernel
theorem dL_feed_6 : decode cL_feed 6 = .ok (.astore_n 2, 1) := by decide +kernel
theorem dL_feed_7 : decode cL_feed 7 = .ok (.bipush (-14), 2) := by decide +kernel
theorem dL_feed_9 : decode cL_feed 9 = .ok (.ireturn, 1) := by decide +kernel
theorem dL_runs_0 : decode cL_runs 0 = .ok (.aload_n 0, 1) := by decide +kernel
theorem dL_runs_1 : decode cL_runs 1 = .ok (.invokevirtual 107, 3) := by decide +kernel
theorem dL_runs_4 : decode cL_runs 4 = .ok (.ireturn, 1) := by decide +kernel
theorem dL_runs_5 : decode cL_runs 5 = .ok (.astore_n 1, 1) := by decide +kernel
theorem dL_runs_6 : decode cL_runs 6 = .ok (.iconst (-1), 1) := by decide +kernel
theorem dL_runs_7 : decode cL_runs 7 = .ok (.ireturn, 1) := by decide +kernel
theorem dL_runs_8 : decode cL_runs 8 = .ok (.astore_n 1, 1) := by decide +kernel
theorem dL_runs_9 : decode cL_runs 9 = .ok (.bipush (-2), 2) := by decide +kernel
theorem dL_runs_11 : decode cL_runs 11 = .ok (.ireturn, 1) := by decide +kernel
theorem dL_outputAt_0 : decode cL_outputAt 0 = .ok (.aload_n 0, 1) := by decide +kernel
theorem dL_outputAt_1 : decode cL_outputAt 1 = .ok (.iload_n 1, 1) := by decide +kernel
theorem dL_outputAt_2 : decode cL_outputAt 2 = .ok (.invokevirtual 120, 3) := by decide +kernel
theorem dL_outputAt_5 : decode cL_outputAt 5 = .ok (.ireturn, 1) := by decide +kernel
theorem dL_outputAt_6 : decode cL_outputAt 6 = .ok (.astore_n 2, 1) := by decide +kernel
theorem dL_outputAt_7 : decode cL_outputAt 7 = .ok (.bipush (-11), 2) := by decide +kernel
theorem dL_outputAt_9 : decode cL_outputAt 9 = .ok (.ireturn, 1) := by decide +kernel
theorem dL_undo_0 : decode cL_undo 0 = .ok (.aload_n 0, 1) := by decide +kernel
theorem dL_undo_1 : decode cL_undo 1 = .ok (.invokevirtual 124, 3) := by decide +kernel
theorem dL_undo_4 : decode cL_undo 4 = .ok (.ireturn, 1) := by decide +kernel
theorem dL_undo_5 : decode cL_undo 5 = .ok (.astore_n 1, 1) := by decide +kernel
theorem dL_undo_6 : decode cL_undo 6 = .ok (.iconst (-1), 1) := by decide +kernel
theorem dL_undo_7 : decode cL_undo 7 = .ok (.ireturn, 1) := by decide +kernel
theorem dL_run_0 : decode cL_run 0 = .ok (.iconst 0, 1) := by decide +kernel
theorem dL_run_1 : decode cL_run 1 = .ok (.istore_n 2, 1) := by decide +kernel
theorem dL_run_2 : decode cL_run 2 = .ok (.iload_n 2, 1) := by decide +kernel
theorem dL_run_3 : decode cL_run 3 = .ok (.aload_n 1, 1) := by decide +kernel
theorem dL_run_4 : decode cL_run 4 = .ok (.invokevirtual 127, 3) := by decide +kernel
theorem dL_run_7 : decode cL_run 7 = .ok (.if_icmp .ge 27, 3) := by decide +kernel
theorem dL_run_10 : decode cL_run 10 = .ok (.aload_n 0, 1) := by decide +kernel
theorem dL_run_11 : decode cL_run 11 = .ok (.aload_n 1, 1) := by decide +kernel
theorem dL_run_12 : decode cL_run 12 = .ok (.iload_n 2, 1) := by decide +kernel
theorem dL_run_13 : decode cL_run 13 = .ok (.invokevirtual 132, 3) := by decide +kernel
theorem dL_run_16 : decode cL_run 16 = .ok (.invokestatic 135, 3) := by decide +kernel
theorem dL_run_19 : decode cL_run 19 = .ok (.iload_n 2, 1) := by decide +kernel
theorem dL_run_20 : decode cL_run 20 = .ok (.iconst 1, 1) := by decide +kernel
theorem dL_run_21 : decode cL_run 21 = .ok (.iadd, 1) := by decide +kernel
theorem dL_run_22 : decode cL_run 22 = .ok (.if_icmp .eq 6, 3) := by decide +kernel
theorem dL_run_25 : decode cL_run 25 = .ok (.bipush (-9), 2) := by decide +kernel
theorem dL_run_27 : decode cL_run 27 = .ok (.ireturn, 1) := by decide +kernel
theorem dL_run_28 : decode cL_run 28 = .ok (.iinc 2 1, 3) := by decide +kernel
theorem dL_run_31 : decode cL_run 31 = .ok (.goto (-29), 3) := by decide +kernel
theorem dL_run_34 : decode cL_run 34 = .ok (.aload_n 0, 1) := by decide +kernel
theorem dL_run_35 : decode cL_run 35 = .ok (.invokestatic 140, 3) := by decide +kernel
theorem dL_run_38 : decode cL_run 38 = .ok (.ireturn, 1) := by decide +kernel
theorem dL_brightBy_0 : decode cL_brightBy 0 = .ok (.aload_n 0, 1) := by decide +kernel
theorem dL_brightBy_1 : decode cL_brightBy 1 = .ok (.invokevirtual 168, 3) := by decide +kernel
theorem dL_brightBy_4 : decode cL_brightBy 4 = .ok (.istore_n 1, 1) := by decide +kernel
theorem dL_brightBy_5 : decode cL_brightBy 5 = .ok (.iconst 0, 1) := by decide +kernel
theorem dL_brightBy_6 : decode cL_brightBy 6 = .ok (.istore_n 2, 1) := by decide +kernel
theorem dL_brightBy_7 : decode cL_brightBy 7 = .ok (.iconst 0, 1) := by decide +kernel
theorem dL_brightBy_8 : decode cL_brightBy 8 = .ok (.istore_n 3, 1) := by decide +kernel
theorem dL_brightBy_9 : decode cL_brightBy 9 = .ok (.iload_n 3, 1) := by decide +kernel
theorem dL_brightBy_10 : decode cL_brightBy 10 = .ok (.aload_n 0, 1) := by decide +kernel
theorem dL_brightBy_11 : decode cL_brightBy 11 = .ok (.invokevirtual 171, 3) := by decide +kernel
theorem dL_brightBy_14 : decode cL_brightBy 14 = .ok (.if_icmp .ge 63, 3) := by decide +kernel
theorem dL_brightBy_17 : decode cL_brightBy 17 = .ok (.aload_n 0, 1) := by decide +kernel
theorem dL_brightBy_18 : decode cL_brightBy 18 = .ok (.iload_n 3, 1) := by decide +kernel
theorem dL_brightBy_19 : decode cL_brightBy 19 = .ok (.invokevirtual 63, 3) := by decide +kernel
theorem dL_brightBy_22 : decode cL_brightBy 22 = .ok (.ifCond .eq 16, 3) := by decide +kernel
theorem dL_brightBy_25 : decode cL_brightBy 25 = .ok (.aload_n 0, 1) := by decide +kernel
theorem dL_brightBy_26 : decode cL_brightBy 26 = .ok (.iload_n 3, 1) := by decide +kernel
theorem dL_brightBy_27 : decode cL_brightBy 27 = .ok (.invokevirtual 60, 3) := by decide +kernel
theorem dL_brightBy_30 : decode cL_brightBy 30 = .ok (.iload_n 1, 1) := by decide +kernel
theorem dL_brightBy_31 : decode cL_brightBy 31 = .ok (.if_icmp .gt 7, 3) := by decide +kernel
theorem dL_brightBy_34 : decode cL_brightBy 34 = .ok (.iconst 1, 1) := by decide +kernel
theorem dL_brightBy_35 : decode cL_brightBy 35 = .ok (.goto 4, 3) := by decide +kernel
theorem dL_brightBy_38 : decode cL_brightBy 38 = .ok (.iconst 0, 1) := by decide +kernel
theorem dL_brightBy_39 : decode cL_brightBy 39 = .ok (.istore 4, 2) := by decide +kernel
theorem dL_brightBy_41 : decode cL_brightBy 41 = .ok (.iload_n 1, 1) := by decide +kernel
theorem dL_brightBy_42 : decode cL_brightBy 42 = .ok (.iload 4, 2) := by decide +kernel
theorem dL_brightBy_44 : decode cL_brightBy 44 = .ok (.ifCond .eq 11, 3) := by decide +kernel
theorem dL_brightBy_47 : decode cL_brightBy 47 = .ok (.aload_n 0, 1) := by decide +kernel
theorem dL_brightBy_48 : decode cL_brightBy 48 = .ok (.iload_n 3, 1) := by decide +kernel
theorem dL_brightBy_49 : decode cL_brightBy 49 = .ok (.invokevirtual 60, 3) := by decide +kernel
theorem dL_brightBy_52 : decode cL_brightBy 52 = .ok (.goto 4, 3) := by decide +kernel
theorem dL_brightBy_55 : decode cL_brightBy 55 = .ok (.iconst 0, 1) := by decide +kernel
theorem dL_brightBy_56 : decode cL_brightBy 56 = .ok (.isub, 1) := by decide +kernel
theorem dL_brightBy_57 : decode cL_brightBy 57 = .ok (.istore_n 1, 1) := by decide +kernel
theorem dL_brightBy_58 : decode cL_brightBy 58 = .ok (.iload_n 2, 1) := by decide +kernel
theorem dL_brightBy_59 : decode cL_brightBy 59 = .ok (.iload 4, 2) := by decide +kernel
theorem dL_brightBy_61 : decode cL_brightBy 61 = .ok (.ifCond .eq 7, 3) := by decide +kernel
theorem dL_brightBy_64 : decode cL_brightBy 64 = .ok (.iconst 1, 1) := by decide +kernel
theorem dL_brightBy_65 : decode cL_brightBy 65 = .ok (.goto 4, 3) := by decide +kernel
theorem dL_brightBy_68 : decode cL_brightBy 68 = .ok (.iconst 0, 1) := by decide +kernel
theorem dL_brightBy_69 : decode cL_brightBy 69 = .ok (.iadd, 1) := by decide +kernel
theorem dL_brightBy_70 : decode cL_brightBy 70 = .ok (.istore_n 2, 1) := by decide +kernel
theorem dL_brightBy_71 : decode cL_brightBy 71 = .ok (.iinc 3 1, 3) := by decide +kernel
theorem dL_brightBy_74 : decode cL_brightBy 74 = .ok (.goto (-65), 3) := by decide +kernel
theorem dL_brightBy_77 : decode cL_brightBy 77 = .ok (.iload_n 2, 1) := by decide +kernel
theorem dL_brightBy_78 : decode cL_brightBy 78 = .ok (.ireturn, 1) := by decide +kernel
theorem dL_law_0 : decode cL_law 0 = .ok (.aload_n 0, 1) := by decide +kernel
theorem dL_law_1 : decode cL_law 1 = .ok (.invokestatic 174, 3) := by decide +kernel
theorem dL_law_4 : decode cL_law 4 = .ok (.astore_n 1, 1) := by decide +kernel
theorem dL_law_5 : decode cL_law 5 = .ok (.aload_n 1, 1) := by decide +kernel
theorem dL_law_6 : decode cL_law 6 = .ok (.ifnull 43, 3) := by decide +kernel
theorem dL_law_9 : decode cL_law 9 = .ok (.aload_n 1, 1) := by decide +kernel
theorem dL_law_10 : decode cL_law 10 = .ok (.invokestatic 178, 3) := by decide +kernel
theorem dL_law_13 : decode cL_law 13 = .ok (.ifCond .eq 36, 3) := by decide +kernel
theorem dL_law_16 : decode cL_law 16 = .ok (.aload_n 1, 1) := by decide +kernel
theorem dL_law_17 : decode cL_law 17 = .ok (.invokestatic 182, 3) := by decide +kernel
theorem dL_law_20 : decode cL_law 20 = .ok (.ifCond .eq 29, 3) := by decide +kernel
theorem dL_law_23 : decode cL_law 23 = .ok (.aload_n 1, 1) := by decide +kernel
theorem dL_law_24 : decode cL_law 24 = .ok (.invokestatic 185, 3) := by decide +kernel
theorem dL_law_27 : decode cL_law 27 = .ok (.ifCond .eq 22, 3) := by decide +kernel
theorem dL_law_30 : decode cL_law 30 = .ok (.aload_n 1, 1) := by decide +kernel
theorem dL_law_31 : decode cL_law 31 = .ok (.invokestatic 188, 3) := by decide +kernel
theorem dL_law_34 : decode cL_law 34 = .ok (.ifCond .eq 15, 3) := by decide +kernel
theorem dL_law_37 : decode cL_law 37 = .ok (.aload_n 0, 1) := by decide +kernel
theorem dL_law_38 : decode cL_law 38 = .ok (.aload_n 1, 1) := by decide +kernel
theorem dL_law_39 : decode cL_law 39 = .ok (.invokestatic 191, 3) := by decide +kernel
theorem dL_law_42 : decode cL_law 42 = .ok (.ifCond .eq 7, 3) := by decide +kernel
theorem dL_law_45 : decode cL_law 45 = .ok (.iconst 1, 1) := by decide +kernel
theorem dL_law_46 : decode cL_law 46 = .ok (.goto 4, 3) := by decide +kernel
theorem dL_law_49 : decode cL_law 49 = .ok (.iconst 0, 1) := by decide +kernel
theorem dL_law_50 : decode cL_law 50 = .ok (.ireturn, 1) := by decide +kernel
theorem dL_areLeft_0 : decode cL_areLeft 0 = .ok (.aload_n 0, 1) := by decide +kernel
theorem dL_areLeft_1 : decode cL_areLeft 1 = .ok (.invokevirtual 198, 3) := by decide +kernel
theorem dL_areLeft_4 : decode cL_areLeft 4 = .ok (.istore_n 1, 1) := by decide +kernel
theorem dL_areLeft_5 : decode cL_areLeft 5 = .ok (.iconst 0, 1) := by decide +kernel
theorem dL_areLeft_6 : decode cL_areLeft 6 = .ok (.istore_n 2, 1) := by decide +kernel
theorem dL_areLeft_7 : decode cL_areLeft 7 = .ok (.iload_n 2, 1) := by decide +kernel
theorem dL_areLeft_8 : decode cL_areLeft 8 = .ok (.aload_n 0, 1) := by decide +kernel
theorem dL_areLeft_9 : decode cL_areLeft 9 = .ok (.invokevirtual 195, 3) := by decide +kernel
theorem dL_areLeft_12 : decode cL_areLeft 12 = .ok (.if_icmp .ge 145, 3) := by decide +kernel
theorem dL_areLeft_15 : decode cL_areLeft 15 = .ok (.iload_n 1, 1) := by decide +kernel
theorem dL_areLeft_16 : decode cL_areLeft 16 = .ok (.ifCond .le 141, 3) := by decide +kernel
theorem dL_areLeft_19 : decode cL_areLeft 19 = .ok (.aload_n 0, 1) := by decide +kernel
theorem dL_areLeft_20 : decode cL_areLeft 20 = .ok (.invokevirtual 168, 3) := by decide +kernel
theorem dL_areLeft_23 : decode cL_areLeft 23 = .ok (.aload_n 0, 1) := by decide +kernel
theorem dL_areLeft_24 : decode cL_areLeft 24 = .ok (.iload_n 2, 1) := by decide +kernel
theorem dL_areLeft_25 : decode cL_areLeft 25 = .ok (.invokevirtual 54, 3) := by decide +kernel
theorem dL_areLeft_28 : decode cL_areLeft 28 = .ok (.imul, 1) := by decide +kernel
theorem dL_areLeft_29 : decode cL_areLeft 29 = .ok (.iload_n 1, 1) := by decide +kernel
theorem dL_areLeft_30 : decode cL_areLeft 30 = .ok (.irem, 1) := by decide +kernel
theorem dL_areLeft_31 : decode cL_areLeft 31 = .ok (.istore_n 3, 1) := by decide +kernel
theorem dL_areLeft_32 : decode cL_areLeft 32 = .ok (.aload_n 0, 1) := by decide +kernel
theorem dL_areLeft_33 : decode cL_areLeft 33 = .ok (.iload_n 2, 1) := by decide +kernel
theorem dL_areLeft_34 : decode cL_areLeft 34 = .ok (.invokevirtual 85, 3) := by decide +kernel
theorem dL_areLeft_37 : decode cL_areLeft 37 = .ok (.aload_n 0, 1) := by decide +kernel
theorem dL_areLeft_38 : decode cL_areLeft 38 = .ok (.invokevirtual 168, 3) := by decide +kernel
theorem dL_areLeft_41 : decode cL_areLeft 41 = .ok (.aload_n 0, 1) := by decide +kernel
theorem dL_areLeft_42 : decode cL_areLeft 42 = .ok (.iload_n 2, 1) := by decide +kernel
theorem dL_areLeft_43 : decode cL_areLeft 43 = .ok (.invokevirtual 54, 3) := by decide +kernel
theorem dL_areLeft_46 : decode cL_areLeft 46 = .ok (.imul, 1) := by decide +kernel
theorem dL_areLeft_47 : decode cL_areLeft 47 = .ok (.iload_n 1, 1) := by decide +kernel
theorem dL_areLeft_48 : decode cL_areLeft 48 = .ok (.idiv, 1) := by decide +kernel
theorem dL_areLeft_49 : decode cL_areLeft 49 = .ok (.if_icmp .le 7, 3) := by decide +kernel
theorem dL_areLeft_52 : decode cL_areLeft 52 = .ok (.iconst 1, 1) := by decide +kernel
theorem dL_areLeft_53 : decode cL_areLeft 53 = .ok (.goto 4, 3) := by decide +kernel
theorem dL_areLeft_56 : decode cL_areLeft 56 = .ok (.iconst 0, 1) := by decide +kernel
theorem dL_areLeft_57 : decode cL_areLeft 57 = .ok (.istore 4, 2) := by decide +kernel
theorem dL_areLeft_59 : decode cL_areLeft 59 = .ok (.iconst 0, 1) := by decide +kernel
theorem dL_areLeft_60 : decode cL_areLeft 60 = .ok (.istore 5, 2) := by decide +kernel
theorem dL_areLeft_62 : decode cL_areLeft 62 = .ok (.iload 5, 2) := by decide +kernel
theorem dL_areLeft_64 : decode cL_areLeft 64 = .ok (.aload_n 0, 1) := by decide +kernel
theorem dL_areLeft_65 : decode cL_areLeft 65 = .ok (.invokevirtual 195, 3) := by decide +kernel
theorem dL_areLeft_68 : decode cL_areLeft 68 = .ok (.if_icmp .ge 83, 3) := by decide +kernel
theorem dL_areLeft_71 : decode cL_areLeft 71 = .ok (.aload_n 0, 1) := by decide +kernel
theorem dL_areLeft_72 : decode cL_areLeft 72 = .ok (.invokevirtual 168, 3) := by decide +kernel
theorem dL_areLeft_75 : decode cL_areLeft 75 = .ok (.aload_n 0, 1) := by decide +kernel
theorem dL_areLeft_76 : decode cL_areLeft 76 = .ok (.iload 5, 2) := by decide +kernel
theorem dL_areLeft_78 : decode cL_areLeft 78 = .ok (.invokevirtual 54, 3) := by decide +kernel
theorem dL_areLeft_81 : decode cL_areLeft 81 = .ok (.imul, 1) := by decide +kernel
theorem dL_areLeft_82 : decode cL_areLeft 82 = .ok (.iload_n 1, 1) := by decide +kernel
theorem dL_areLeft_83 : decode cL_areLeft 83 = .ok (.irem, 1) := by decide +kernel
theorem dL_areLeft_84 : decode cL_areLeft 84 = .ok (.istore 6, 2) := by decide +kernel
theorem dL_areLeft_86 : decode cL_areLeft 86 = .ok (.iload 6, 2) := by decide +kernel
theorem dL_areLeft_88 : decode cL_areLeft 88 = .ok (.iload_n 3, 1) := by decide +kernel
theorem dL_areLeft_89 : decode cL_areLeft 89 = .ok (.if_icmp .gt 15, 3) := by decide +kernel
theorem dL_areLeft_92 : decode cL_areLeft 92 = .ok (.iload 6, 2) := by decide +kernel
theorem dL_areLeft_94 : decode cL_areLeft 94 = .ok (.iload_n 3, 1) := by decide +kernel
theorem dL_areLeft_95 : decode cL_areLeft 95 = .ok (.if_icmp .ne 13, 3) := by decide +kernel
theorem dL_areLeft_98 : decode cL_areLeft 98 = .ok (.iload 5, 2) := by decide +kernel
theorem dL_areLeft_100 : decode cL_areLeft 100 = .ok (.iload_n 2, 1) := by decide +kernel
theorem dL_areLeft_101 : decode cL_areLeft 101 = .ok (.if_icmp .ge 7, 3) := by decide +kernel
theorem dL_areLeft_104 : decode cL_areLeft 104 = .ok (.iconst 1, 1) := by decide +kernel
theorem dL_areLeft_105 : decode cL_areLeft 105 = .ok (.goto 4, 3) := by decide +kernel
theorem dL_areLeft_108 : decode cL_areLeft 108 = .ok (.iconst 0, 1) := by decide +kernel
theorem dL_areLeft_109 : decode cL_areLeft 109 = .ok (.istore 7, 2) := by decide +kernel
theorem dL_areLeft_111 : decode cL_areLeft 111 = .ok (.iload 4, 2) := by decide +kernel
theorem dL_areLeft_113 : decode cL_areLeft 113 = .ok (.ifCond .eq 32, 3) := by decide +kernel
theorem dL_areLeft_116 : decode cL_areLeft 116 = .ok (.iload 7, 2) := by decide +kernel
theorem dL_areLeft_118 : decode cL_areLeft 118 = .ok (.ifCond .eq 27, 3) := by decide +kernel
theorem dL_areLeft_121 : decode cL_areLeft 121 = .ok (.aload_n 0, 1) := by decide +kernel
theorem dL_areLeft_122 : decode cL_areLeft 122 = .ok (.iload 5, 2) := by decide +kernel
theorem dL_areLeft_124 : decode cL_areLeft 124 = .ok (.invokevirtual 85, 3) := by decide +kernel
theorem dL_areLeft_127 : decode cL_areLeft 127 = .ok (.aload_n 0, 1) := by decide +kernel
theorem dL_areLeft_128 : decode cL_areLeft 128 = .ok (.invokevirtual 168, 3) := by decide +kernel
theorem dL_areLeft_131 : decode cL_areLeft 131 = .ok (.aload_n 0, 1) := by decide +kernel
theorem dL_areLeft_132 : decode cL_areLeft 132 = .ok (.iload 5, 2) := by decide +kernel
theorem dL_areLeft_134 : decode cL_areLeft 134 = .ok (.invokevirtual 54, 3) := by decide +kernel
theorem dL_areLeft_137 : decode cL_areLeft 137 = .ok (.imul, 1) := by decide +kernel
theorem dL_areLeft_138 : decode cL_areLeft 138 = .ok (.iload_n 1, 1) := by decide +kernel
theorem dL_areLeft_139 : decode cL_areLeft 139 = .ok (.idiv, 1) := by decide +kernel
theorem dL_areLeft_140 : decode cL_areLeft 140 = .ok (.if_icmp .ne 5, 3) := by decide +kernel
theorem dL_areLeft_143 : decode cL_areLeft 143 = .ok (.iconst 0, 1) := by decide +kernel
theorem dL_areLeft_144 : decode cL_areLeft 144 = .ok (.ireturn, 1) := by decide +kernel
theorem dL_areLeft_145 : decode cL_areLeft 145 = .ok (.iinc 5 1, 3) := by decide +kernel
theorem dL_areLeft_148 : decode cL_areLeft 148 = .ok (.goto (-86), 3) := by decide +kernel
theorem dL_areLeft_151 : decode cL_areLeft 151 = .ok (.iinc 2 1, 3) := by decide +kernel
theorem dL_areLeft_154 : decode cL_areLeft 154 = .ok (.goto (-147), 3) := by decide +kernel
theorem dL_areLeft_157 : decode cL_areLeft 157 = .ok (.iconst 1, 1) := by decide +kernel
theorem dL_areLeft_158 : decode cL_areLeft 158 = .ok (.ireturn, 1) := by decide +kernel
theorem dL_isAsked_0 : decode cL_isAsked 0 = .ok (.iconst 0, 1) := by decide +kernel
theorem dL_isAsked_1 : decode cL_isAsked 1 = .ok (.istore_n 2, 1) := by decide +kernel
theorem dL_isAsked_2 : decode cL_isAsked 2 = .ok (.iconst 0, 1) := by decide +kernel
theorem dL_isAsked_3 : decode cL_isAsked 3 = .ok (.istore_n 3, 1) := by decide +kernel
theorem dL_isAsked_4 : decode cL_isAsked 4 = .ok (.iload_n 3, 1) := by decide +kernel
theorem dL_isAsked_5 : decode cL_isAsked 5 = .ok (.aload_n 0, 1) := by decide +kernel
theorem dL_isAsked_6 : decode cL_isAsked 6 = .ok (.invokevirtual 274, 3) := by decide +kernel
theorem dL_isAsked_9 : decode cL_isAsked 9 = .ok (.if_icmp .ge 28, 3) := by decide +kernel
theorem dL_isAsked_12 : decode cL_isAsked 12 = .ok (.iload_n 2, 1) := by decide +kernel
theorem dL_isAsked_13 : decode cL_isAsked 13 = .ok (.ifCond .ne 12, 3) := by decide +kernel
theorem dL_isAsked_16 : decode cL_isAsked 16 = .ok (.aload_n 0, 1) := by decide +kernel
theorem dL_isAsked_17 : decode cL_isAsked 17 = .ok (.iload_n 3, 1) := by decide +kernel
theorem dL_isAsked_18 : decode cL_isAsked 18 = .ok (.invokevirtual 91, 3) := by decide +kernel
theorem dL_isAsked_21 : decode cL_isAsked 21 = .ok (.iload_n 1, 1) := by decide +kernel
theorem dL_isAsked_22 : decode cL_isAsked 22 = .ok (.if_icmp .ne 7, 3) := by decide +kernel
theorem dL_isAsked_25 : decode cL_isAsked 25 = .ok (.iconst 1, 1) := by decide +kernel
theorem dL_isAsked_26 : decode cL_isAsked 26 = .ok (.goto 4, 3) := by decide +kernel
theorem dL_isAsked_29 : decode cL_isAsked 29 = .ok (.iconst 0, 1) := by decide +kernel
theorem dL_isAsked_30 : decode cL_isAsked 30 = .ok (.istore_n 2, 1) := by decide +kernel
theorem dL_isAsked_31 : decode cL_isAsked 31 = .ok (.iinc 3 1, 3) := by decide +kernel
theorem dL_isAsked_34 : decode cL_isAsked 34 = .ok (.goto (-30), 3) := by decide +kernel
theorem dL_isAsked_37 : decode cL_isAsked 37 = .ok (.iload_n 2, 1) := by decide +kernel
theorem dL_isAsked_38 : decode cL_isAsked 38 = .ok (.ireturn, 1) := by decide +kernel
theorem dL_spells_0 : decode cL_spells 0 = .ok (.iload_n 1, 1) := by decide +kernel
theorem dL_spells_1 : decode cL_spells 1 = .ok (.aload_n 2, 1) := by decide +kernel
theorem dL_spells_2 : decode cL_spells 2 = .ok (.invokevirtual 127, 3) := by decide +kernel
theorem dL_spells_5 : decode cL_spells 5 = .ok (.if_icmp .ne 7, 3) := by decide +kernel
theorem dL_spells_8 : decode cL_spells 8 = .ok (.iconst 1, 1) := by decide +kernel
theorem dL_spells_9 : decode cL_spells 9 = .ok (.goto 4, 3) := by decide +kernel
theorem dL_spells_12 : decode cL_spells 12 = .ok (.iconst 0, 1) := by decide +kernel
theorem dL_spells_13 : decode cL_spells 13 = .ok (.istore_n 3, 1) := by decide +kernel
theorem dL_spells_14 : decode cL_spells 14 = .ok (.iconst 0, 1) := by decide +kernel
theorem dL_spells_15 : decode cL_spells 15 = .ok (.istore 4, 2) := by decide +kernel
theorem dL_spells_17 : decode cL_spells 17 = .ok (.iload 4, 2) := by decide +kernel
theorem dL_spells_19 : decode cL_spells 19 = .ok (.aload_n 2, 1) := by decide +kernel
theorem dL_spells_20 : decode cL_spells 20 = .ok (.invokevirtual 127, 3) := by decide +kernel
theorem dL_spells_23 : decode cL_spells 23 = .ok (.if_icmp .ge 34, 3) := by decide +kernel
theorem dL_spells_26 : decode cL_spells 26 = .ok (.iload_n 3, 1) := by decide +kernel
theorem dL_spells_27 : decode cL_spells 27 = .ok (.ifCond .eq 30, 3) := by decide +kernel
theorem dL_spells_30 : decode cL_spells 30 = .ok (.aload_n 0, 1) := by decide +kernel
theorem dL_spells_31 : decode cL_spells 31 = .ok (.iload 4, 2) := by decide +kernel
theorem dL_spells_33 : decode cL_spells 33 = .ok (.invokestatic 290, 3) := by decide +kernel
theorem dL_spells_36 : decode cL_spells 36 = .ok (.aload_n 2, 1) := by decide +kernel
theorem dL_spells_37 : decode cL_spells 37 = .ok (.iload 4, 2) := by decide +kernel
theorem dL_spells_39 : decode cL_spells 39 = .ok (.invokevirtual 132, 3) := by decide +kernel
theorem dL_spells_42 : decode cL_spells 42 = .ok (.if_icmp .ne 7, 3) := by decide +kernel
theorem dL_spells_45 : decode cL_spells 45 = .ok (.iconst 1, 1) := by decide +kernel
theorem dL_spells_46 : decode cL_spells 46 = .ok (.goto 4, 3) := by decide +kernel
theorem dL_spells_49 : decode cL_spells 49 = .ok (.iconst 0, 1) := by decide +kernel
theorem dL_spells_50 : decode cL_spells 50 = .ok (.istore_n 3, 1) := by decide +kernel
theorem dL_spells_51 : decode cL_spells 51 = .ok (.iinc 4 1, 3) := by decide +kernel
theorem dL_spells_54 : decode cL_spells 54 = .ok (.goto (-37), 3) := by decide +kernel
theorem dL_spells_57 : decode cL_spells 57 = .ok (.iload_n 3, 1) := by decide +kernel
theorem dL_spells_58 : decode cL_spells 58 = .ok (.ifCond .eq 17, 3) := by decide +kernel
theorem dL_spells_61 : decode cL_spells 61 = .ok (.aload_n 0, 1) := by decide +kernel
theorem dL_spells_62 : decode cL_spells 62 = .ok (.iload_n 1, 1) := by decide +kernel
theorem dL_spells_63 : decode cL_spells 63 = .ok (.invokestatic 290, 3) := by decide +kernel
theorem dL_spells_66 : decode cL_spells 66 = .ok (.bipush (-11), 2) := by decide +kernel
theorem dL_spells_68 : decode cL_spells 68 = .ok (.if_icmp .ne 7, 3) := by decide +kernel
theorem dL_spells_71 : decode cL_spells 71 = .ok (.iconst 1, 1) := by decide +kernel
theorem dL_spells_72 : decode cL_spells 72 = .ok (.goto 4, 3) := by decide +kernel
theorem dL_spells_75 : decode cL_spells 75 = .ok (.iconst 0, 1) := by decide +kernel
theorem dL_spells_76 : decode cL_spells 76 = .ok (.ireturn, 1) := by decide +kernel
theorem dL_texts_0 : decode cL_texts 0 = .ok (.ldc_w 293, 3) := by decide +kernel
theorem dL_texts_3 : decode cL_texts 3 = .ok (.astore_n 1, 1) := by decide +kernel
theorem dL_texts_4 : decode cL_texts 4 = .ok (.iconst 0, 1) := by decide +kernel
theorem dL_texts_5 : decode cL_texts 5 = .ok (.istore_n 2, 1) := by decide +kernel
theorem dL_texts_6 : decode cL_texts 6 = .ok (.iload_n 2, 1) := by decide +kernel
theorem dL_texts_7 : decode cL_texts 7 = .ok (.aload_n 0, 1) := by decide +kernel
theorem dL_texts_8 : decode cL_texts 8 = .ok (.invokevirtual 171, 3) := by decide +kernel
theorem dL_texts_11 : decode cL_texts 11 = .ok (.if_icmp .ge 123, 3) := by decide +kernel
theorem dL_texts_14 : decode cL_texts 14 = .ok (.new 295, 3) := by decide +kernel
theorem dL_texts_17 : decode cL_texts 17 = .ok (.dup, 1) := by decide +kernel
theorem dL_texts_18 : decode cL_texts 18 = .ok (.invokespecial 297, 3) := by decide +kernel
theorem dL_texts_21 : decode cL_texts 21 = .ok (.aload_n 1, 1) := by decide +kernel
theorem dL_texts_22 : decode cL_texts 22 = .ok (.invokevirtual 298, 3) := by decide +kernel
theorem dL_texts_25 : decode cL_texts 25 = .ok (.iload_n 2, 1) := by decide +kernel
theorem dL_texts_26 : decode cL_texts 26 = .ok (.ifCond .ne 9, 3) := by decide +kernel
theorem dL_texts_29 : decode cL_texts 29 = .ok (.ldc_w 293, 3) := by decide +kernel
theorem dL_texts_32 : decode cL_texts 32 = .ok (.goto 6, 3) := by decide +kernel
theorem dL_texts_35 : decode cL_texts 35 = .ok (.ldc_w 302, 3) := by decide +kernel
theorem dL_texts_38 : decode cL_texts 38 = .ok (.invokevirtual 298, 3) := by decide +kernel
theorem dL_texts_41 : decode cL_texts 41 = .ok (.aload_n 0, 1) := by decide +kernel
theorem dL_texts_42 : decode cL_texts 42 = .ok (.iload_n 2, 1) := by decide +kernel
theorem dL_texts_43 : decode cL_texts 43 = .ok (.invokevirtual 60, 3) := by decide +kernel
theorem dL_texts_46 : decode cL_texts 46 = .ok (.invokevirtual 304, 3) := by decide +kernel
theorem dL_texts_49 : decode cL_texts 49 = .ok (.aload_n 0, 1) := by decide +kernel
theorem dL_texts_50 : decode cL_texts 50 = .ok (.iload_n 2, 1) := by decide +kernel
theorem dL_texts_51 : decode cL_texts 51 = .ok (.invokevirtual 63, 3) := by decide +kernel
theorem dL_texts_54 : decode cL_texts 54 = .ok (.ifCond .eq 44, 3) := by decide +kernel
theorem dL_texts_57 : decode cL_texts 57 = .ok (.new 295, 3) := by decide +kernel
theorem dL_texts_60 : decode cL_texts 60 = .ok (.dup, 1) := by decide +kernel
theorem dL_texts_61 : decode cL_texts 61 = .ok (.invokespecial 297, 3) := by decide +kernel
theorem dL_texts_64 : decode cL_texts 64 = .ok (.ldc_w 307, 3) := by decide +kernel
theorem dL_texts_67 : decode cL_texts 67 = .ok (.invokevirtual 298, 3) := by decide +kernel
theorem dL_texts_70 : decode cL_texts 70 = .ok (.aload_n 0, 1) := by decide +kernel
theorem dL_texts_71 : decode cL_texts 71 = .ok (.iload_n 2, 1) := by decide +kernel
theorem dL_texts_72 : decode cL_texts 72 = .ok (.invokevirtual 67, 3) := by decide +kernel
theorem dL_texts_75 : decode cL_texts 75 = .ok (.invokevirtual 304, 3) := by decide +kernel
theorem dL_texts_78 : decode cL_texts 78 = .ok (.ldc_w 309, 3) := by decide +kernel
theorem dL_texts_81 : decode cL_texts 81 = .ok (.invokevirtual 298, 3) := by decide +kernel
theorem dL_texts_84 : decode cL_texts 84 = .ok (.aload_n 0, 1) := by decide +kernel
theorem dL_texts_85 : decode cL_texts 85 = .ok (.iload_n 2, 1) := by decide +kernel
theorem dL_texts_86 : decode cL_texts 86 = .ok (.invokevirtual 70, 3) := by decide +kernel
theorem dL_texts_89 : decode cL_texts 89 = .ok (.invokevirtual 304, 3) := by decide +kernel
theorem dL_texts_92 : decode cL_texts 92 = .ok (.invokevirtual 311, 3) := by decide +kernel
theorem dL_texts_95 : decode cL_texts 95 = .ok (.goto 6, 3) := by decide +kernel
theorem dL_texts_98 : decode cL_texts 98 = .ok (.ldc_w 293, 3) := by decide +kernel
theorem dL_texts_101 : decode cL_texts 101 = .ok (.invokevirtual 298, 3) := by decide +kernel
theorem dL_texts_104 : decode cL_texts 104 = .ok (.aload_n 0, 1) := by decide +kernel
theorem dL_texts_105 : decode cL_texts 105 = .ok (.iload_n 2, 1) := by decide +kernel
theorem dL_texts_106 : decode cL_texts 106 = .ok (.invokestatic 315, 3) := by decide +kernel
theorem dL_texts_109 : decode cL_texts 109 = .ok (.ifCond .eq 9, 3) := by decide +kernel
theorem dL_texts_112 : decode cL_texts 112 = .ok (.ldc_w 319, 3) := by decide +kernel
theorem dL_texts_115 : decode cL_texts 115 = .ok (.goto 6, 3) := by decide +kernel
theorem dL_texts_118 : decode cL_texts 118 = .ok (.ldc_w 293, 3) := by decide +kernel
theorem dL_texts_121 : decode cL_texts 121 = .ok (.invokevirtual 298, 3) := by decide +kernel
theorem dL_texts_124 : decode cL_texts 124 = .ok (.invokevirtual 311, 3) := by decide +kernel
theorem dL_texts_127 : decode cL_texts 127 = .ok (.astore_n 1, 1) := by decide +kernel
theorem dL_texts_128 : decode cL_texts 128 = .ok (.iinc 2 1, 3) := by decide +kernel
theorem dL_texts_131 : decode cL_texts 131 = .ok (.goto (-125), 3) := by decide +kernel
theorem dL_texts_134 : decode cL_texts 134 = .ok (.aload_n 0, 1) := by decide +kernel
theorem dL_texts_135 : decode cL_texts 135 = .ok (.aload_n 0, 1) := by decide +kernel
theorem dL_texts_136 : decode cL_texts 136 = .ok (.invokevirtual 321, 3) := by decide +kernel
theorem dL_texts_139 : decode cL_texts 139 = .ok (.aload_n 1, 1) := by decide +kernel
theorem dL_texts_140 : decode cL_texts 140 = .ok (.invokestatic 324, 3) := by decide +kernel
theorem dL_texts_143 : decode cL_texts 143 = .ok (.ireturn, 1) := by decide +kernel
