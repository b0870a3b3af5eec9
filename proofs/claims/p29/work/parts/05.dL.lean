theorem dL_cell_0 : decode cL_cell 0 = .ok (.iload_n 1, 1) := by decide +kernel
theorem dL_cell_1 : decode cL_cell 1 = .ok (.aload_n 0, 1) := by decide +kernel
theorem dL_cell_2 : decode cL_cell 2 = .ok (.arraylength, 1) := by decide +kernel
theorem dL_cell_3 : decode cL_cell 3 = .ok (.if_icmp .ge 9, 3) := by decide +kernel
theorem dL_cell_6 : decode cL_cell 6 = .ok (.aload_n 0, 1) := by decide +kernel
theorem dL_cell_7 : decode cL_cell 7 = .ok (.iload_n 1, 1) := by decide +kernel
theorem dL_cell_8 : decode cL_cell 8 = .ok (.iaload, 1) := by decide +kernel
theorem dL_cell_9 : decode cL_cell 9 = .ok (.goto 9, 3) := by decide +kernel
theorem dL_cell_12 : decode cL_cell 12 = .ok (.ldc 7, 2) := by decide +kernel
theorem dL_cell_14 : decode cL_cell 14 = .ok (.iload_n 1, 1) := by decide +kernel
theorem dL_cell_15 : decode cL_cell 15 = .ok (.iconst 3, 1) := by decide +kernel
theorem dL_cell_16 : decode cL_cell 16 = .ok (.iadd, 1) := by decide +kernel
theorem dL_cell_17 : decode cL_cell 17 = .ok (.imul, 1) := by decide +kernel
theorem dL_cell_18 : decode cL_cell 18 = .ok (.istore_n 2, 1) := by decide +kernel
theorem dL_cell_19 : decode cL_cell 19 = .ok (.iload_n 2, 1) := by decide +kernel
theorem dL_cell_20 : decode cL_cell 20 = .ok (.iload_n 2, 1) := by decide +kernel
theorem dL_cell_21 : decode cL_cell 21 = .ok (.bipush 15, 2) := by decide +kernel
theorem dL_cell_23 : decode cL_cell 23 = .ok (.iushr, 1) := by decide +kernel
theorem dL_cell_24 : decode cL_cell 24 = .ok (.ixor, 1) := by decide +kernel
theorem dL_cell_25 : decode cL_cell 25 = .ok (.ireturn, 1) := by decide +kernel
theorem dL_low_0 : decode cL_low 0 = .ok (.iload_n 0, 1) := by decide +kernel
theorem dL_low_1 : decode cL_low 1 = .ok (.ldc 8, 2) := by decide +kernel
theorem dL_low_3 : decode cL_low 3 = .ok (.iand, 1) := by decide +kernel
theorem dL_low_4 : decode cL_low 4 = .ok (.iload_n 1, 1) := by decide +kernel
theorem dL_low_5 : decode cL_low 5 = .ok (.irem, 1) := by decide +kernel
theorem dL_low_6 : decode cL_low 6 = .ok (.ireturn, 1) := by decide +kernel
theorem dL_patience_0 : decode cL_patience 0 = .ok (.aload_n 0, 1) := by decide +kernel
theorem dL_patience_1 : decode cL_patience 1 = .ok (.iload_n 1, 1) := by decide +kernel
theorem dL_patience_2 : decode cL_patience 2 = .ok (.iload_n 2, 1) := by decide +kernel
theorem dL_patience_3 : decode cL_patience 3 = .ok (.invokevirtual 9, 3) := by decide +kernel
theorem dL_patience_6 : decode cL_patience 6 = .ok (.ireturn, 1) := by decide +kernel
theorem dL_patience_7 : decode cL_patience 7 = .ok (.astore_n 3, 1) := by decide +kernel
theorem dL_patience_8 : decode cL_patience 8 = .ok (.ldc 17, 2) := by decide +kernel
theorem dL_patience_10 : decode cL_patience 10 = .ok (.ireturn, 1) := by decide +kernel
theorem dL_patience_11 : decode cL_patience 11 = .ok (.astore_n 3, 1) := by decide +kernel
theorem dL_patience_12 : decode cL_patience 12 = .ok (.ldc 20, 2) := by decide +kernel
theorem dL_patience_14 : decode cL_patience 14 = .ok (.ireturn, 1) := by decide +kernel
theorem dL_quota_0 : decode cL_quota 0 = .ok (.aload_n 0, 1) := by decide +kernel
theorem dL_quota_1 : decode cL_quota 1 = .ok (.iload_n 1, 1) := by decide +kernel
theorem dL_quota_2 : decode cL_quota 2 = .ok (.invokevirtual 21, 3) := by decide +kernel
theorem dL_quota_5 : decode cL_quota 5 = .ok (.ireturn, 1) := by decide +kernel
theorem dL_quota_6 : decode cL_quota 6 = .ok (.astore_n 2, 1) := by decide +kernel
theorem dL_quota_7 : decode cL_quota 7 = .ok (.ldc 20, 2) := by decide +kernel
theorem dL_quota_9 : decode cL_quota 9 = .ok (.ireturn, 1) := by decide +kernel
theorem dL_grace_0 : decode cL_grace 0 = .ok (.aload_n 0, 1) := by decide +kernel
theorem dL_grace_1 : decode cL_grace 1 = .ok (.iload_n 1, 1) := by decide +kernel
theorem dL_grace_2 : decode cL_grace 2 = .ok (.invokevirtual 25, 3) := by decide +kernel
theorem dL_grace_5 : decode cL_grace 5 = .ok (.ireturn, 1) := by decide +kernel
theorem dL_grace_6 : decode cL_grace 6 = .ok (.astore_n 2, 1) := by decide +kernel
theorem dL_grace_7 : decode cL_grace 7 = .ok (.ldc 20, 2) := by decide +kernel
theorem dL_grace_9 : decode cL_grace 9 = .ok (.ireturn, 1) := by decide +kernel
theorem dL_sends_0 : decode cL_sends 0 = .ok (.aload_n 0, 1) := by decide +kernel
theorem dL_sends_1 : decode cL_sends 1 = .ok (.iload_n 1, 1) := by decide +kernel
theorem dL_sends_2 : decode cL_sends 2 = .ok (.iload_n 2, 1) := by decide +kernel
theorem dL_sends_3 : decode cL_sends 3 = .ok (.iload_n 3, 1) := by decide +kernel
theorem dL_sends_4 : decode cL_sends 4 = .ok (.invokevirtual 28, 3) := by decide +kernel
theorem dL_sends_7 : decode cL_sends 7 = .ok (.ireturn, 1) := by decide +kernel
theorem dL_sends_8 : decode cL_sends 8 = .ok (.astore 4, 2) := by decide +kernel
theorem dL_sends_10 : decode cL_sends 10 = .ok (.ldc 20, 2) := by decide +kernel
theorem dL_sends_12 : decode cL_sends 12 = .ok (.ireturn, 1) := by decide +kernel
theorem dL_sends_13 : decode cL_sends 13 = .ok (.astore 4, 2) := by decide +kernel
theorem dL_sends_15 : decode cL_sends 15 = .ok (.ldc 34, 2) := by decide +kernel
theorem dL_sends_17 : decode cL_sends 17 = .ok (.ireturn, 1) := by decide +kernel
theorem dL_bribes_0 : decode cL_bribes 0 = .ok (.aload_n 0, 1) := by decide +kernel
theorem dL_bribes_1 : decode cL_bribes 1 = .ok (.iload_n 1, 1) := by decide +kernel
theorem dL_bribes_2 : decode cL_bribes 2 = .ok (.iload_n 2, 1) := by decide +kernel
theorem dL_bribes_3 : decode cL_bribes 3 = .ok (.iload_n 3, 1) := by decide +kernel
theorem dL_bribes_4 : decode cL_bribes 4 = .ok (.iload 4, 2) := by decide +kernel
theorem dL_bribes_6 : decode cL_bribes 6 = .ok (.invokevirtual 35, 3) := by decide +kernel
theorem dL_bribes_9 : decode cL_bribes 9 = .ok (.ireturn, 1) := by decide +kernel
theorem dL_bribes_10 : decode cL_bribes 10 = .ok (.astore 5, 2) := by decide +kernel
theorem dL_bribes_12 : decode cL_bribes 12 = .ok (.ldc 20, 2) := by decide +kernel
theorem dL_bribes_14 : decode cL_bribes 14 = .ok (.ireturn, 1) := by decide +kernel
theorem dL_bribes_15 : decode cL_bribes 15 = .ok (.astore 5, 2) := by decide +kernel
theorem dL_bribes_17 : decode cL_bribes 17 = .ok (.ldc 34, 2) := by decide +kernel
theorem dL_bribes_19 : decode cL_bribes 19 = .ok (.ireturn, 1) := by decide +kernel
theorem dL_joint_0 : decode cL_joint 0 = .ok (.aload_n 0, 1) := by decide +kernel
theorem dL_joint_1 : decode cL_joint 1 = .ok (.iload_n 1, 1) := by decide +kernel
theorem dL_joint_2 : decode cL_joint 2 = .ok (.iload_n 2, 1) := by decide +kernel
theorem dL_joint_3 : decode cL_joint 3 = .ok (.iload_n 3, 1) := by decide +kernel
theorem dL_joint_4 : decode cL_joint 4 = .ok (.iload 4, 2) := by decide +kernel
theorem dL_joint_6 : decode cL_joint 6 = .ok (.invokevirtual 39, 3) := by decide +kernel
theorem dL_joint_9 : decode cL_joint 9 = .ok (.ireturn, 1) := by decide +kernel
theorem dL_joint_10 : decode cL_joint 10 = .ok (.astore 5, 2) := by decide +kernel
theorem dL_joint_12 : decode cL_joint 12 = .ok (.ldc 20, 2) := by decide +kernel
theorem dL_joint_14 : decode cL_joint 14 = .ok (.ireturn, 1) := by decide +kernel
theorem dL_joint_15 : decode cL_joint 15 = .ok (.astore 5, 2) := by decide +kernel
theorem dL_joint_17 : decode cL_joint 17 = .ok (.ldc 34, 2) := by decide +kernel
theorem dL_joint_19 : decode cL_joint 19 = .ok (.ireturn, 1) := by decide +kernel
theorem dL_takes_0 : decode cL_takes 0 = .ok (.aload_n 0, 1) := by decide +kernel
theorem dL_takes_1 : decode cL_takes 1 = .ok (.iload_n 1, 1) := by decide +kernel
theorem dL_takes_2 : decode cL_takes 2 = .ok (.invokevirtual 42, 3) := by decide +kernel
theorem dL_takes_5 : decode cL_takes 5 = .ok (.ireturn, 1) := by decide +kernel
theorem dL_takes_6 : decode cL_takes 6 = .ok (.astore_n 2, 1) := by decide +kernel
theorem dL_takes_7 : decode cL_takes 7 = .ok (.ldc 17, 2) := by decide +kernel
theorem dL_takes_9 : decode cL_takes 9 = .ok (.ireturn, 1) := by decide +kernel
theorem dL_serves_0 : decode cL_serves 0 = .ok (.aload_n 0, 1) := by decide +kernel
theorem dL_serves_1 : decode cL_serves 1 = .ok (.invokevirtual 45, 3) := by decide +kernel
theorem dL_serves_4 : decode cL_serves 4 = .ok (.ireturn, 1) := by decide +kernel
theorem dL_serves_5 : decode cL_serves 5 = .ok (.astore_n 1, 1) := by decide +kernel
theorem dL_serves_6 : decode cL_serves 6 = .ok (.ldc 51, 2) := by decide +kernel
theorem dL_serves_8 : decode cL_serves 8 = .ok (.ireturn, 1) := by decide +kernel
theorem dL_passes_0 : decode cL_passes 0 = .ok (.aload_n 0, 1) := by decide +kernel
theorem dL_passes_1 : decode cL_passes 1 = .ok (.iload_n 1, 1) := by decide +kernel
theorem dL_passes_2 : decode cL_passes 2 = .ok (.invokevirtual 52, 3) := by decide +kernel
theorem dL_passes_5 : decode cL_passes 5 = .ok (.ireturn, 1) := by decide +kernel
theorem dL_passes_6 : decode cL_passes 6 = .ok (.astore_n 2, 1) := by decide +kernel
theorem dL_passes_7 : decode cL_passes 7 = .ok (.ldc 20, 2) := by decide +kernel
theorem dL_passes_9 : decode cL_passes 9 = .ok (.ireturn, 1) := by decide +kernel
theorem dL_passes_10 : decode cL_passes 10 = .ok (.astore_n 2, 1) := by decide +kernel
theorem dL_passes_11 : decode cL_passes 11 = .ok (.ldc 34, 2) := by decide +kernel
theorem dL_passes_13 : decode cL_passes 13 = .ok (.ireturn, 1) := by decide +kernel
theorem dL_one_0 : decode cL_one 0 = .ok (.aload_n 0, 1) := by decide +kernel
theorem dL_one_1 : decode cL_one 1 = .ok (.iload_n 1, 1) := by decide +kernel
theorem dL_one_2 : decode cL_one 2 = .ok (.iload_n 2, 1) := by decide +kernel
theorem dL_one_3 : decode cL_one 3 = .ok (.invokevirtual 55, 3) := by decide +kernel
theorem dL_one_6 : decode cL_one 6 = .ok (.ireturn, 1) := by decide +kernel
theorem dL_one_7 : decode cL_one 7 = .ok (.astore_n 3, 1) := by decide +kernel
theorem dL_one_8 : decode cL_one 8 = .ok (.ldc 17, 2) := by decide +kernel
theorem dL_one_10 : decode cL_one 10 = .ok (.ireturn, 1) := by decide +kernel
theorem dL_one_11 : decode cL_one 11 = .ok (.astore_n 3, 1) := by decide +kernel
theorem dL_one_12 : decode cL_one 12 = .ok (.ldc 20, 2) := by decide +kernel
theorem dL_one_14 : decode cL_one 14 = .ok (.ireturn, 1) := by decide +kernel
theorem dL_peek_0 : decode cL_peek 0 = .ok (.aload_n 0, 1) := by decide +kernel
theorem dL_peek_1 : decode cL_peek 1 = .ok (.iload_n 1, 1) := by decide +kernel
theorem dL_peek_2 : decode cL_peek 2 = .ok (.invokevirtual 58, 3) := by decide +kernel
theorem dL_peek_5 : decode cL_peek 5 = .ok (.ireturn, 1) := by decide +kernel
theorem dL_peek_6 : decode cL_peek 6 = .ok (.astore_n 2, 1) := by decide +kernel
theorem dL_peek_7 : decode cL_peek 7 = .ok (.ldc 17, 2) := by decide +kernel
theorem dL_peek_9 : decode cL_peek 9 = .ok (.ireturn, 1) := by decide +kernel
theorem dL_sent_0 : decode cL_sent 0 = .ok (.aload_n 0, 1) := by decide +kernel
theorem dL_sent_1 : decode cL_sent 1 = .ok (.iload_n 1, 1) := by decide +kernel
theorem dL_sent_2 : decode cL_sent 2 = .ok (.invokevirtual 61, 3) := by decide +kernel
theorem dL_sent_5 : decode cL_sent 5 = .ok (.ireturn, 1) := by decide +kernel
theorem dL_sent_6 : decode cL_sent 6 = .ok (.astore_n 2, 1) := by decide +kernel
theorem dL_sent_7 : decode cL_sent 7 = .ok (.ldc 20, 2) := by decide +kernel
theorem dL_sent_9 : decode cL_sent 9 = .ok (.ireturn, 1) := by decide +kernel
theorem dL_given_0 : decode cL_given 0 = .ok (.aload_n 0, 1) := by decide +kernel
theorem dL_given_1 : decode cL_given 1 = .ok (.iload_n 1, 1) := by decide +kernel
theorem dL_given_2 : decode cL_given 2 = .ok (.invokevirtual 64, 3) := by decide +kernel
theorem dL_given_5 : decode cL_given 5 = .ok (.ireturn, 1) := by decide +kernel
theorem dL_given_6 : decode cL_given 6 = .ok (.astore_n 2, 1) := by decide +kernel
theorem dL_given_7 : decode cL_given 7 = .ok (.ldc 20, 2) := by decide +kernel
theorem dL_given_9 : decode cL_given 9 = .ok (.ireturn, 1) := by decide +kernel
theorem dL_entry_0 : decode cL_entry 0 = .ok (.aload_n 0, 1) := by decide +kernel
theorem dL_entry_1 : decode cL_entry 1 = .ok (.iload_n 1, 1) := by decide +kernel
theorem dL_entry_2 : decode cL_entry 2 = .ok (.iload_n 2, 1) := by decide +kernel
theorem dL_entry_3 : decode cL_entry 3 = .ok (.invokevirtual 67, 3) := by decide +kernel
theorem dL_entry_6 : decode cL_entry 6 = .ok (.ireturn, 1) := by decide +kernel
theorem dL_entry_7 : decode cL_entry 7 = .ok (.astore_n 3, 1) := by decide +kernel
theorem dL_entry_8 : decode cL_entry 8 = .ok (.ldc 17, 2) := by decide +kernel
theorem dL_entry_10 : decode cL_entry 10 = .ok (.ireturn, 1) := by decide +kernel
theorem dL_entry_11 : decode cL_entry 11 = .ok (.astore_n 3, 1) := by decide +kernel
theorem dL_entry_12 : decode cL_entry 12 = .ok (.ldc 20, 2) := by decide +kernel
theorem dL_entry_14 : decode cL_entry 14 = .ok (.ireturn, 1) := by decide +kernel
theorem dL_value_0 : decode cL_value 0 = .ok (.aload_n 0, 1) := by decide +kernel
theorem dL_value_1 : decode cL_value 1 = .ok (.iload_n 1, 1) := by decide +kernel
theorem dL_value_2 : decode cL_value 2 = .ok (.invokevirtual 70, 3) := by decide +kernel
theorem dL_value_5 : decode cL_value 5 = .ok (.ireturn, 1) := by decide +kernel
theorem dL_value_6 : decode cL_value 6 = .ok (.astore_n 2, 1) := by decide +kernel
theorem dL_value_7 : decode cL_value 7 = .ok (.ldc 20, 2) := by decide +kernel
theorem dL_value_9 : decode cL_value 9 = .ok (.ireturn, 1) := by decide +kernel
theorem dL_rank_0 : decode cL_rank 0 = .ok (.aload_n 0, 1) := by decide +kernel
theorem dL_rank_1 : decode cL_rank 1 = .ok (.iload_n 1, 1) := by decide +kernel
theorem dL_rank_2 : decode cL_rank 2 = .ok (.invokevirtual 73, 3) := by decide +kernel
theorem dL_rank_5 : decode cL_rank 5 = .ok (.ireturn, 1) := by decide +kernel
theorem dL_rank_6 : decode cL_rank 6 = .ok (.astore_n 2, 1) := by decide +kernel
theorem dL_rank_7 : decode cL_rank 7 = .ok (.ldc 20, 2) := by decide +kernel
theorem dL_rank_9 : decode cL_rank 9 = .ok (.ireturn, 1) := by decide +kernel
theorem dL_later_0 : decode cL_later 0 = .ok (.aload_n 0, 1) := by decide +kernel
theorem dL_later_1 : decode cL_later 1 = .ok (.iload_n 1, 1) := by decide +kernel
theorem dL_later_2 : decode cL_later 2 = .ok (.iload_n 2, 1) := by decide +kernel
theorem dL_later_3 : decode cL_later 3 = .ok (.invokevirtual 76, 3) := by decide +kernel
theorem dL_later_6 : decode cL_later 6 = .ok (.ireturn, 1) := by decide +kernel
theorem dL_later_7 : decode cL_later 7 = .ok (.astore_n 3, 1) := by decide +kernel
theorem dL_later_8 : decode cL_later 8 = .ok (.ldc 17, 2) := by decide +kernel
theorem dL_later_10 : decode cL_later 10 = .ok (.ireturn, 1) := by decide +kernel
theorem dL_later_11 : decode cL_later 11 = .ok (.astore_n 3, 1) := by decide +kernel
theorem dL_later_12 : decode cL_later 12 = .ok (.ldc 20, 2) := by decide +kernel
theorem dL_later_14 : decode cL_later 14 = .ok (.ireturn, 1) := by decide +kernel
theorem dL_served_0 : decode cL_served 0 = .ok (.aload_n 0, 1) := by decide +kernel
theorem dL_served_1 : decode cL_served 1 = .ok (.iload_n 1, 1) := by decide +kernel
theorem dL_served_2 : decode cL_served 2 = .ok (.invokevirtual 79, 3) := by decide +kernel
theorem dL_served_5 : decode cL_served 5 = .ok (.ireturn, 1) := by decide +kernel
theorem dL_served_6 : decode cL_served 6 = .ok (.astore_n 2, 1) := by decide +kernel
theorem dL_served_7 : decode cL_served 7 = .ok (.ldc 17, 2) := by decide +kernel
theorem dL_served_9 : decode cL_served 9 = .ok (.ireturn, 1) := by decide +kernel
theorem dL_leads_0 : decode cL_leads 0 = .ok (.aload_n 0, 1) := by decide +kernel
theorem dL_leads_1 : decode cL_leads 1 = .ok (.iload_n 1, 1) := by decide +kernel
theorem dL_leads_2 : decode cL_leads 2 = .ok (.invokevirtual 82, 3) := by decide +kernel
theorem dL_leads_5 : decode cL_leads 5 = .ok (.ireturn, 1) := by decide +kernel
theorem dL_leads_6 : decode cL_leads 6 = .ok (.astore_n 2, 1) := by decide +kernel
theorem dL_leads_7 : decode cL_leads 7 = .ok (.ldc 20, 2) := by decide +kernel
theorem dL_leads_9 : decode cL_leads 9 = .ok (.ireturn, 1) := by decide +kernel
theorem dL_types_0 : decode cL_types 0 = .ok (.aload_n 0, 1) := by decide +kernel
theorem dL_types_1 : decode cL_types 1 = .ok (.iload_n 1, 1) := by decide +kernel
theorem dL_types_2 : decode cL_types 2 = .ok (.invokevirtual 85, 3) := by decide +kernel
theorem dL_types_5 : decode cL_types 5 = .ok (.ireturn, 1) := by decide +kernel
theorem dL_types_6 : decode cL_types 6 = .ok (.astore_n 2, 1) := by decide +kernel
theorem dL_types_7 : decode cL_types 7 = .ok (.ldc 20, 2) := by decide +kernel
theorem dL_types_9 : decode cL_types 9 = .ok (.ireturn, 1) := by decide +kernel
theorem dL_types_10 : decode cL_types 10 = .ok (.astore_n 2, 1) := by decide +kernel
theorem dL_types_11 : decode cL_types 11 = .ok (.ldc 34, 2) := by decide +kernel
theorem dL_types_13 : decode cL_types 13 = .ok (.ireturn, 1) := by decide +kernel
theorem dL_back_0 : decode cL_back 0 = .ok (.aload_n 0, 1) := by decide +kernel
theorem dL_back_1 : decode cL_back 1 = .ok (.invokevirtual 88, 3) := by decide +kernel
theorem dL_back_4 : decode cL_back 4 = .ok (.ireturn, 1) := by decide +kernel
theorem dL_back_5 : decode cL_back 5 = .ok (.astore_n 1, 1) := by decide +kernel
theorem dL_back_6 : decode cL_back 6 = .ok (.ldc 34, 2) := by decide +kernel
theorem dL_back_8 : decode cL_back 8 = .ok (.ireturn, 1) := by decide +kernel
theorem dL_sum_0 : decode cL_sum 0 = .ok (.ldc2_w 91, 3) := by decide +kernel
theorem dL_sum_3 : decode cL_sum 3 = .ok (.lstore_n 1, 1) := by decide +kernel
theorem dL_sum_4 : decode cL_sum 4 = .ok (.iconst 0, 1) := by decide +kernel
theorem dL_sum_5 : decode cL_sum 5 = .ok (.istore_n 3, 1) := by decide +kernel
theorem dL_sum_6 : decode cL_sum 6 = .ok (.iload_n 3, 1) := by decide +kernel
theorem dL_sum_7 : decode cL_sum 7 = .ok (.bipush 14, 2) := by decide +kernel
theorem dL_sum_9 : decode cL_sum 9 = .ok (.if_icmp .ge 22, 3) := by decide +kernel
theorem dL_sum_12 : decode cL_sum 12 = .ok (.ldc2_w 93, 3) := by decide +kernel
theorem dL_sum_15 : decode cL_sum 15 = .ok (.lload_n 1, 1) := by decide +kernel
theorem dL_sum_16 : decode cL_sum 16 = .ok (.lmul, 1) := by decide +kernel
theorem dL_sum_17 : decode cL_sum 17 = .ok (.aload_n 0, 1) := by decide +kernel
theorem dL_sum_18 : decode cL_sum 18 = .ok (.iload_n 3, 1) := by decide +kernel
theorem dL_sum_19 : decode cL_sum 19 = .ok (.invokestatic 95, 3) := by decide +kernel
theorem dL_sum_22 : decode cL_sum 22 = .ok (.i2l, 1) := by decide +kernel
theorem dL_sum_23 : decode cL_sum 23 = .ok (.ladd, 1) := by decide +kernel
theorem dL_sum_24 : decode cL_sum 24 = .ok (.lstore_n 1, 1) := by decide +kernel
theorem dL_sum_25 : decode cL_sum 25 = .ok (.iinc 3 1, 3) := by decide +kernel
theorem dL_sum_28 : decode cL_sum 28 = .ok (.goto (-22), 3) := by decide +kernel
theorem dL_sum_31 : decode cL_sum 31 = .ok (.iconst 0, 1) := by decide +kernel
theorem dL_sum_32 : decode cL_sum 32 = .ok (.istore_n 3, 1) := by decide +kernel
theorem dL_sum_33 : decode cL_sum 33 = .ok (.iload_n 3, 1) := by decide +kernel
theorem dL_sum_34 : decode cL_sum 34 = .ok (.bipush 8, 2) := by decide +kernel
theorem dL_sum_36 : decode cL_sum 36 = .ok (.if_icmp .ge 33, 3) := by decide +kernel
theorem dL_sum_39 : decode cL_sum 39 = .ok (.ldc2_w 93, 3) := by decide +kernel
theorem dL_sum_42 : decode cL_sum 42 = .ok (.ldc2_w 93, 3) := by decide +kernel
theorem dL_sum_45 : decode cL_sum 45 = .ok (.lload_n 1, 1) := by decide +kernel
theorem dL_sum_46 : decode cL_sum 46 = .ok (.lmul, 1) := by decide +kernel
theorem dL_sum_47 : decode cL_sum 47 = .ok (.aload_n 0, 1) := by decide +kernel
theorem dL_sum_48 : decode cL_sum 48 = .ok (.iload_n 3, 1) := by decide +kernel
theorem dL_sum_49 : decode cL_sum 49 = .ok (.invokestatic 100, 3) := by decide +kernel
theorem dL_sum_52 : decode cL_sum 52 = .ok (.i2l, 1) := by decide +kernel
theorem dL_sum_53 : decode cL_sum 53 = .ok (.ladd, 1) := by decide +kernel
theorem dL_sum_54 : decode cL_sum 54 = .ok (.lmul, 1) := by decide +kernel
theorem dL_sum_55 : decode cL_sum 55 = .ok (.aload_n 0, 1) := by decide +kernel
theorem dL_sum_56 : decode cL_sum 56 = .ok (.iload_n 3, 1) := by decide +kernel
theorem dL_sum_57 : decode cL_sum 57 = .ok (.invokestatic 103, 3) := by decide +kernel
theorem dL_sum_60 : decode cL_sum 60 = .ok (.i2l, 1) := by decide +kernel
theorem dL_sum_61 : decode cL_sum 61 = .ok (.ladd, 1) := by decide +kernel
theorem dL_sum_62 : decode cL_sum 62 = .ok (.lstore_n 1, 1) := by decide +kernel
theorem dL_sum_63 : decode cL_sum 63 = .ok (.iinc 3 1, 3) := by decide +kernel
theorem dL_sum_66 : decode cL_sum 66 = .ok (.goto (-33), 3) := by decide +kernel
theorem dL_sum_69 : decode cL_sum 69 = .ok (.iconst 0, 1) := by decide +kernel
theorem dL_sum_70 : decode cL_sum 70 = .ok (.istore_n 3, 1) := by decide +kernel
theorem dL_sum_71 : decode cL_sum 71 = .ok (.iload_n 3, 1) := by decide +kernel
theorem dL_sum_72 : decode cL_sum 72 = .ok (.aload_n 0, 1) := by decide +kernel
theorem dL_sum_73 : decode cL_sum 73 = .ok (.iconst 0, 1) := by decide +kernel
theorem dL_sum_74 : decode cL_sum 74 = .ok (.invokestatic 95, 3) := by decide +kernel
theorem dL_sum_77 : decode cL_sum 77 = .ok (.if_icmp .ge 74, 3) := by decide +kernel
theorem dL_sum_80 : decode cL_sum 80 = .ok (.aload_n 0, 1) := by decide +kernel
theorem dL_sum_81 : decode cL_sum 81 = .ok (.iload_n 3, 1) := by decide +kernel
theorem dL_sum_82 : decode cL_sum 82 = .ok (.invokestatic 106, 3) := by decide +kernel
theorem dL_sum_85 : decode cL_sum 85 = .ok (.istore 4, 2) := by decide +kernel
theorem dL_sum_87 : decode cL_sum 87 = .ok (.ldc2_w 93, 3) := by decide +kernel
theorem dL_sum_90 : decode cL_sum 90 = .ok (.lload_n 1, 1) := by decide +kernel
theorem dL_sum_91 : decode cL_sum 91 = .ok (.lmul, 1) := by decide +kernel
theorem dL_sum_92 : decode cL_sum 92 = .ok (.iload 4, 2) := by decide +kernel
theorem dL_sum_94 : decode cL_sum 94 = .ok (.i2l, 1) := by decide +kernel
theorem dL_sum_95 : decode cL_sum 95 = .ok (.ladd, 1) := by decide +kernel
theorem dL_sum_96 : decode cL_sum 96 = .ok (.lstore_n 1, 1) := by decide +kernel
theorem dL_sum_97 : decode cL_sum 97 = .ok (.iconst 0, 1) := by decide +kernel
theorem dL_sum_98 : decode cL_sum 98 = .ok (.istore 5, 2) := by decide +kernel
theorem dL_sum_100 : decode cL_sum 100 = .ok (.iload 5, 2) := by decide +kernel
theorem dL_sum_102 : decode cL_sum 102 = .ok (.bipush 10, 2) := by decide +kernel
theorem dL_sum_104 : decode cL_sum 104 = .ok (.if_icmp .ge 25, 3) := by decide +kernel
theorem dL_sum_107 : decode cL_sum 107 = .ok (.ldc2_w 93, 3) := by decide +kernel
theorem dL_sum_110 : decode cL_sum 110 = .ok (.lload_n 1, 1) := by decide +kernel
theorem dL_sum_111 : decode cL_sum 111 = .ok (.lmul, 1) := by decide +kernel
theorem dL_sum_112 : decode cL_sum 112 = .ok (.aload_n 0, 1) := by decide +kernel
theorem dL_sum_113 : decode cL_sum 113 = .ok (.iload 4, 2) := by decide +kernel
theorem dL_sum_115 : decode cL_sum 115 = .ok (.iload 5, 2) := by decide +kernel
theorem dL_sum_117 : decode cL_sum 117 = .ok (.invokestatic 108, 3) := by decide +kernel
theorem dL_sum_120 : decode cL_sum 120 = .ok (.i2l, 1) := by decide +kernel
theorem dL_sum_121 : decode cL_sum 121 = .ok (.ladd, 1) := by decide +kernel
theorem dL_sum_122 : decode cL_sum 122 = .ok (.lstore_n 1, 1) := by decide +kernel
theorem dL_sum_123 : decode cL_sum 123 = .ok (.iinc 5 1, 3) := by decide +kernel
theorem dL_sum_126 : decode cL_sum 126 = .ok (.goto (-26), 3) := by decide +kernel
theorem dL_sum_129 : decode cL_sum 129 = .ok (.ldc2_w 93, 3) := by decide +kernel
theorem dL_sum_132 : decode cL_sum 132 = .ok (.lload_n 1, 1) := by decide +kernel
theorem dL_sum_133 : decode cL_sum 133 = .ok (.lmul, 1) := by decide +kernel
theorem dL_sum_134 : decode cL_sum 134 = .ok (.aload_n 0, 1) := by decide +kernel
theorem dL_sum_135 : decode cL_sum 135 = .ok (.iload 4, 2) := by decide +kernel
theorem dL_sum_137 : decode cL_sum 137 = .ok (.bipush 40, 2) := by decide +kernel
theorem dL_sum_139 : decode cL_sum 139 = .ok (.invokestatic 112, 3) := by decide +kernel
theorem dL_sum_142 : decode cL_sum 142 = .ok (.i2l, 1) := by decide +kernel
theorem dL_sum_143 : decode cL_sum 143 = .ok (.ladd, 1) := by decide +kernel
theorem dL_sum_144 : decode cL_sum 144 = .ok (.lstore_n 1, 1) := by decide +kernel
theorem dL_sum_145 : decode cL_sum 145 = .ok (.iinc 3 1, 3) := by decide +kernel
theorem dL_sum_148 : decode cL_sum 148 = .ok (.goto (-77), 3) := by decide +kernel
theorem dL_sum_151 : decode cL_sum 151 = .ok (.iconst 0, 1) := by decide +kernel
theorem dL_sum_152 : decode cL_sum 152 = .ok (.istore_n 3, 1) := by decide +kernel
theorem dL_sum_153 : decode cL_sum 153 = .ok (.iload_n 3, 1) := by decide +kernel
theorem dL_sum_154 : decode cL_sum 154 = .ok (.iconst 5, 1) := by decide +kernel
theorem dL_sum_155 : decode cL_sum 155 = .ok (.aload_n 0, 1) := by decide +kernel
theorem dL_sum_156 : decode cL_sum 156 = .ok (.bipush 10, 2) := by decide +kernel
theorem dL_sum_158 : decode cL_sum 158 = .ok (.invokestatic 95, 3) := by decide +kernel
theorem dL_sum_161 : decode cL_sum 161 = .ok (.imul, 1) := by decide +kernel
theorem dL_sum_162 : decode cL_sum 162 = .ok (.if_icmp .ge 27, 3) := by decide +kernel
theorem dL_sum_165 : decode cL_sum 165 = .ok (.ldc2_w 93, 3) := by decide +kernel
theorem dL_sum_168 : decode cL_sum 168 = .ok (.lload_n 1, 1) := by decide +kernel
theorem dL_sum_169 : decode cL_sum 169 = .ok (.lmul, 1) := by decide +kernel
theorem dL_sum_170 : decode cL_sum 170 = .ok (.aload_n 0, 1) := by decide +kernel
theorem dL_sum_171 : decode cL_sum 171 = .ok (.iload_n 3, 1) := by decide +kernel
theorem dL_sum_172 : decode cL_sum 172 = .ok (.iconst 5, 1) := by decide +kernel
theorem dL_sum_173 : decode cL_sum 173 = .ok (.idiv, 1) := by decide +kernel
theorem dL_sum_174 : decode cL_sum 174 = .ok (.iload_n 3, 1) := by decide +kernel
theorem dL_sum_175 : decode cL_sum 175 = .ok (.iconst 5, 1) := by decide +kernel
theorem dL_sum_176 : decode cL_sum 176 = .ok (.irem, 1) := by decide +kernel
theorem dL_sum_177 : decode cL_sum 177 = .ok (.invokestatic 115, 3) := by decide +kernel
theorem dL_sum_180 : decode cL_sum 180 = .ok (.i2l, 1) := by decide +kernel
theorem dL_sum_181 : decode cL_sum 181 = .ok (.ladd, 1) := by decide +kernel
theorem dL_sum_182 : decode cL_sum 182 = .ok (.lstore_n 1, 1) := by decide +kernel
theorem dL_sum_183 : decode cL_sum 183 = .ok (.iinc 3 1, 3) := by decide +kernel
theorem dL_sum_186 : decode cL_sum 186 = .ok (.goto (-33), 3) := by decide +kernel
theorem dL_sum_189 : decode cL_sum 189 = .ok (.lload_n 1, 1) := by decide +kernel
theorem dL_sum_190 : decode cL_sum 190 = .ok (.lreturn, 1) := by decide +kernel
theorem dL_refused_0 : decode cL_refused 0 = .ok (.aload_n 0, 1) := by decide +kernel
theorem dL_refused_1 : decode cL_refused 1 = .ok (.invokestatic 117, 3) := by decide +kernel
theorem dL_refused_4 : decode cL_refused 4 = .ok (.lstore_n 1, 1) := by decide +kernel
theorem dL_refused_5 : decode cL_refused 5 = .ok (.aload_n 0, 1) := by decide +kernel
theorem dL_refused_6 : decode cL_refused 6 = .ok (.iconst 4, 1) := by decide +kernel
theorem dL_refused_7 : decode cL_refused 7 = .ok (.iconst 1, 1) := by decide +kernel
theorem dL_refused_8 : decode cL_refused 8 = .ok (.invokestatic 121, 3) := by decide +kernel
theorem dL_refused_11 : decode cL_refused 11 = .ok (.ldc 17, 2) := by decide +kernel
theorem dL_refused_13 : decode cL_refused 13 = .ok (.if_icmp .ne 229, 3) := by decide +kernel
theorem dL_refused_16 : decode cL_refused 16 = .ok (.aload_n 0, 1) := by decide +kernel
theorem dL_refused_17 : decode cL_refused 17 = .ok (.iconst 0, 1) := by decide +kernel
theorem dL_refused_18 : decode cL_refused 18 = .ok (.iconst 0, 1) := by decide +kernel
theorem dL_refused_19 : decode cL_refused 19 = .ok (.invokestatic 121, 3) := by decide +kernel
theorem dL_refused_22 : decode cL_refused 22 = .ok (.ldc 20, 2) := by decide +kernel
theorem dL_refused_24 : decode cL_refused 24 = .ok (.if_icmp .ne 218, 3) := by decide +kernel
theorem dL_refused_27 : decode cL_refused 27 = .ok (.aload_n 0, 1) := by decide +kernel
theorem dL_refused_28 : decode cL_refused 28 = .ok (.bipush 11, 2) := by decide +kernel
theorem dL_refused_30 : decode cL_refused 30 = .ok (.invokestatic 124, 3) := by decide +kernel
theorem dL_refused_33 : decode cL_refused 33 = .ok (.ldc 20, 2) := by decide +kernel
theorem dL_refused_35 : decode cL_refused 35 = .ok (.if_icmp .ne 207, 3) := by decide +kernel
theorem dL_refused_38 : decode cL_refused 38 = .ok (.aload_n 0, 1) := by decide +kernel
theorem dL_refused_39 : decode cL_refused 39 = .ok (.sipush 201, 3) := by decide +kernel
theorem dL_refused_42 : decode cL_refused 42 = .ok (.invokestatic 127, 3) := by decide +kernel
theorem dL_refused_45 : decode cL_refused 45 = .ok (.ldc 20, 2) := by decide +kernel
theorem dL_refused_47 : decode cL_refused 47 = .ok (.if_icmp .ne 195, 3) := by decide +kernel
theorem dL_refused_50 : decode cL_refused 50 = .ok (.aload_n 0, 1) := by decide +kernel
theorem dL_refused_51 : decode cL_refused 51 = .ok (.iconst 0, 1) := by decide +kernel
theorem dL_refused_52 : decode cL_refused 52 = .ok (.iconst 0, 1) := by decide +kernel
theorem dL_refused_53 : decode cL_refused 53 = .ok (.iconst 0, 1) := by decide +kernel
theorem dL_refused_54 : decode cL_refused 54 = .ok (.invokestatic 130, 3) := by decide +kernel
theorem dL_refused_57 : decode cL_refused 57 = .ok (.ldc 20, 2) := by decide +kernel
theorem dL_refused_59 : decode cL_refused 59 = .ok (.if_icmp .ne 183, 3) := by decide +kernel
theorem dL_refused_62 : decode cL_refused 62 = .ok (.aload_n 0, 1) := by decide +kernel
theorem dL_refused_63 : decode cL_refused 63 = .ok (.iconst 0, 1) := by decide +kernel
theorem dL_refused_64 : decode cL_refused 64 = .ok (.iconst 0, 1) := by decide +kernel
theorem dL_refused_65 : decode cL_refused 65 = .ok (.iconst 1, 1) := by decide +kernel
theorem dL_refused_66 : decode cL_refused 66 = .ok (.bipush 101, 2) := by decide +kernel
theorem dL_refused_68 : decode cL_refused 68 = .ok (.invokestatic 134, 3) := by decide +kernel
theorem dL_refused_71 : decode cL_refused 71 = .ok (.ldc 20, 2) := by decide +kernel
theorem dL_refused_73 : decode cL_refused 73 = .ok (.if_icmp .ne 169, 3) := by decide +kernel
theorem dL_refused_76 : decode cL_refused 76 = .ok (.aload_n 0, 1) := by decide +kernel
theorem dL_refused_77 : decode cL_refused 77 = .ok (.iconst 3, 1) := by decide +kernel
theorem dL_refused_78 : decode cL_refused 78 = .ok (.iconst 3, 1) := by decide +kernel
theorem dL_refused_79 : decode cL_refused 79 = .ok (.iconst 0, 1) := by decide +kernel
theorem dL_refused_80 : decode cL_refused 80 = .ok (.iconst 1, 1) := by decide +kernel
theorem dL_refused_81 : decode cL_refused 81 = .ok (.invokestatic 138, 3) := by decide +kernel
theorem dL_refused_84 : decode cL_refused 84 = .ok (.ldc 20, 2) := by decide +kernel
theorem dL_refused_86 : decode cL_refused 86 = .ok (.if_icmp .ne 156, 3) := by decide +kernel
theorem dL_refused_89 : decode cL_refused 89 = .ok (.aload_n 0, 1) := by decide +kernel
theorem dL_refused_90 : decode cL_refused 90 = .ok (.aload_n 0, 1) := by decide +kernel
theorem dL_refused_91 : decode cL_refused 91 = .ok (.iconst 2, 1) := by decide +kernel
theorem dL_refused_92 : decode cL_refused 92 = .ok (.invokestatic 95, 3) := by decide +kernel
theorem dL_refused_95 : decode cL_refused 95 = .ok (.invokestatic 141, 3) := by decide +kernel
theorem dL_refused_98 : decode cL_refused 98 = .ok (.ldc 17, 2) := by decide +kernel
theorem dL_refused_100 : decode cL_refused 100 = .ok (.if_icmp .ne 142, 3) := by decide +kernel
theorem dL_refused_103 : decode cL_refused 103 = .ok (.aload_n 0, 1) := by decide +kernel
theorem dL_refused_104 : decode cL_refused 104 = .ok (.sipush 201, 3) := by decide +kernel
theorem dL_refused_107 : decode cL_refused 107 = .ok (.invokestatic 144, 3) := by decide +kernel
theorem dL_refused_110 : decode cL_refused 110 = .ok (.ldc 20, 2) := by decide +kernel
theorem dL_refused_112 : decode cL_refused 112 = .ok (.if_icmp .ne 130, 3) := by decide +kernel
theorem dL_refused_115 : decode cL_refused 115 = .ok (.aload_n 0, 1) := by decide +kernel
theorem dL_refused_116 : decode cL_refused 116 = .ok (.iconst (-1), 1) := by decide +kernel
theorem dL_refused_117 : decode cL_refused 117 = .ok (.iconst 0, 1) := by decide +kernel
theorem dL_refused_118 : decode cL_refused 118 = .ok (.invokestatic 108, 3) := by decide +kernel
theorem dL_refused_121 : decode cL_refused 121 = .ok (.ldc 17, 2) := by decide +kernel
theorem dL_refused_123 : decode cL_refused 123 = .ok (.if_icmp .ne 119, 3) := by decide +kernel
theorem dL_refused_126 : decode cL_refused 126 = .ok (.aload_n 0, 1) := by decide +kernel
theorem dL_refused_127 : decode cL_refused 127 = .ok (.aload_n 0, 1) := by decide +kernel
theorem dL_refused_128 : decode cL_refused 128 = .ok (.iconst 0, 1) := by decide +kernel
theorem dL_refused_129 : decode cL_refused 129 = .ok (.invokestatic 95, 3) := by decide +kernel
theorem dL_refused_132 : decode cL_refused 132 = .ok (.invokestatic 106, 3) := by decide +kernel
theorem dL_refused_135 : decode cL_refused 135 = .ok (.ldc 17, 2) := by decide +kernel
theorem dL_refused_137 : decode cL_refused 137 = .ok (.if_icmp .ne 105, 3) := by decide +kernel
theorem dL_refused_140 : decode cL_refused 140 = .ok (.aload_n 0, 1) := by decide +kernel
theorem dL_refused_141 : decode cL_refused 141 = .ok (.iconst (-1), 1) := by decide +kernel
theorem dL_refused_142 : decode cL_refused 142 = .ok (.invokestatic 100, 3) := by decide +kernel
theorem dL_refused_145 : decode cL_refused 145 = .ok (.ldc 20, 2) := by decide +kernel
theorem dL_refused_147 : decode cL_refused 147 = .ok (.if_icmp .ne 95, 3) := by decide +kernel
theorem dL_refused_150 : decode cL_refused 150 = .ok (.aload_n 0, 1) := by decide +kernel
theorem dL_refused_151 : decode cL_refused 151 = .ok (.bipush 8, 2) := by decide +kernel
theorem dL_refused_153 : decode cL_refused 153 = .ok (.invokestatic 103, 3) := by decide +kernel
theorem dL_refused_156 : decode cL_refused 156 = .ok (.ldc 20, 2) := by decide +kernel
theorem dL_refused_158 : decode cL_refused 158 = .ok (.if_icmp .ne 84, 3) := by decide +kernel
theorem dL_refused_161 : decode cL_refused 161 = .ok (.aload_n 0, 1) := by decide +kernel
theorem dL_refused_162 : decode cL_refused 162 = .ok (.bipush 16, 2) := by decide +kernel
theorem dL_refused_164 : decode cL_refused 164 = .ok (.iconst 0, 1) := by decide +kernel
theorem dL_refused_165 : decode cL_refused 165 = .ok (.invokestatic 115, 3) := by decide +kernel
theorem dL_refused_168 : decode cL_refused 168 = .ok (.ldc 17, 2) := by decide +kernel
theorem dL_refused_170 : decode cL_refused 170 = .ok (.if_icmp .ne 72, 3) := by decide +kernel
theorem dL_refused_173 : decode cL_refused 173 = .ok (.aload_n 0, 1) := by decide +kernel
theorem dL_refused_174 : decode cL_refused 174 = .ok (.iconst (-1), 1) := by decide +kernel
theorem dL_refused_175 : decode cL_refused 175 = .ok (.invokestatic 95, 3) := by decide +kernel
theorem dL_refused_178 : decode cL_refused 178 = .ok (.ldc 20, 2) := by decide +kernel
theorem dL_refused_180 : decode cL_refused 180 = .ok (.if_icmp .ne 62, 3) := by decide +kernel
theorem dL_refused_183 : decode cL_refused 183 = .ok (.aload_n 0, 1) := by decide +kernel
theorem dL_refused_184 : decode cL_refused 184 = .ok (.iconst (-1), 1) := by decide +kernel
theorem dL_refused_185 : decode cL_refused 185 = .ok (.invokestatic 147, 3) := by decide +kernel
theorem dL_refused_188 : decode cL_refused 188 = .ok (.ldc 20, 2) := by decide +kernel
theorem dL_refused_190 : decode cL_refused 190 = .ok (.if_icmp .ne 52, 3) := by decide +kernel
theorem dL_refused_193 : decode cL_refused 193 = .ok (.aload_n 0, 1) := by decide +kernel
theorem dL_refused_194 : decode cL_refused 194 = .ok (.aload_n 0, 1) := by decide +kernel
theorem dL_refused_195 : decode cL_refused 195 = .ok (.iconst 2, 1) := by decide +kernel
theorem dL_refused_196 : decode cL_refused 196 = .ok (.invokestatic 95, 3) := by decide +kernel
theorem dL_refused_199 : decode cL_refused 199 = .ok (.iconst 0, 1) := by decide +kernel
theorem dL_refused_200 : decode cL_refused 200 = .ok (.invokestatic 112, 3) := by decide +kernel
theorem dL_refused_203 : decode cL_refused 203 = .ok (.ldc 17, 2) := by decide +kernel
theorem dL_refused_205 : decode cL_refused 205 = .ok (.if_icmp .ne 37, 3) := by decide +kernel
theorem dL_refused_208 : decode cL_refused 208 = .ok (.aload_n 0, 1) := by decide +kernel
theorem dL_refused_209 : decode cL_refused 209 = .ok (.iconst (-1), 1) := by decide +kernel
theorem dL_refused_210 : decode cL_refused 210 = .ok (.invokestatic 150, 3) := by decide +kernel
theorem dL_refused_213 : decode cL_refused 213 = .ok (.ldc 17, 2) := by decide +kernel
theorem dL_refused_215 : decode cL_refused 215 = .ok (.if_icmp .ne 27, 3) := by decide +kernel
theorem dL_refused_218 : decode cL_refused 218 = .ok (.aload_n 0, 1) := by decide +kernel
theorem dL_refused_219 : decode cL_refused 219 = .ok (.iconst 5, 1) := by decide +kernel
theorem dL_refused_220 : decode cL_refused 220 = .ok (.invokestatic 153, 3) := by decide +kernel
theorem dL_refused_223 : decode cL_refused 223 = .ok (.ldc 20, 2) := by decide +kernel
theorem dL_refused_225 : decode cL_refused 225 = .ok (.if_icmp .ne 17, 3) := by decide +kernel
theorem dL_refused_228 : decode cL_refused 228 = .ok (.aload_n 0, 1) := by decide +kernel
theorem dL_refused_229 : decode cL_refused 229 = .ok (.iconst (-1), 1) := by decide +kernel
theorem dL_refused_230 : decode cL_refused 230 = .ok (.invokestatic 156, 3) := by decide +kernel
theorem dL_refused_233 : decode cL_refused 233 = .ok (.ldc 20, 2) := by decide +kernel
theorem dL_refused_235 : decode cL_refused 235 = .ok (.if_icmp .ne 7, 3) := by decide +kernel
theorem dL_refused_238 : decode cL_refused 238 = .ok (.iconst 1, 1) := by decide +kernel
theorem dL_refused_239 : decode cL_refused 239 = .ok (.goto 4, 3) := by decide +kernel
theorem dL_refused_242 : decode cL_refused 242 = .ok (.iconst 0, 1) := by decide +kernel
theorem dL_refused_243 : decode cL_refused 243 = .ok (.istore_n 3, 1) := by decide +kernel
theorem dL_refused_244 : decode cL_refused 244 = .ok (.iload_n 3, 1) := by decide +kernel
theorem dL_refused_245 : decode cL_refused 245 = .ok (.ifCond .eq 24, 3) := by decide +kernel
theorem dL_refused_248 : decode cL_refused 248 = .ok (.aload_n 0, 1) := by decide +kernel
theorem dL_refused_249 : decode cL_refused 249 = .ok (.iconst 0, 1) := by decide +kernel
theorem dL_refused_250 : decode cL_refused 250 = .ok (.invokestatic 95, 3) := by decide +kernel
theorem dL_refused_253 : decode cL_refused 253 = .ok (.ifCond .gt 12, 3) := by decide +kernel
theorem dL_refused_256 : decode cL_refused 256 = .ok (.aload_n 0, 1) := by decide +kernel
theorem dL_refused_257 : decode cL_refused 257 = .ok (.invokestatic 159, 3) := by decide +kernel
theorem dL_refused_260 : decode cL_refused 260 = .ok (.ldc 51, 2) := by decide +kernel
theorem dL_refused_262 : decode cL_refused 262 = .ok (.if_icmp .ne 7, 3) := by decide +kernel
theorem dL_refused_265 : decode cL_refused 265 = .ok (.iconst 1, 1) := by decide +kernel
theorem dL_refused_266 : decode cL_refused 266 = .ok (.goto 4, 3) := by decide +kernel
theorem dL_refused_269 : decode cL_refused 269 = .ok (.iconst 0, 1) := by decide +kernel
theorem dL_refused_270 : decode cL_refused 270 = .ok (.istore_n 3, 1) := by decide +kernel
theorem dL_refused_271 : decode cL_refused 271 = .ok (.iload_n 3, 1) := by decide +kernel
theorem dL_refused_272 : decode cL_refused 272 = .ok (.ifCond .eq 16, 3) := by decide +kernel
theorem dL_refused_275 : decode cL_refused 275 = .ok (.aload_n 0, 1) := by decide +kernel
theorem dL_refused_276 : decode cL_refused 276 = .ok (.invokestatic 117, 3) := by decide +kernel
theorem dL_refused_279 : decode cL_refused 279 = .ok (.lload_n 1, 1) := by decide +kernel
theorem dL_refused_280 : decode cL_refused 280 = .ok (.lcmp, 1) := by decide +kernel
theorem dL_refused_281 : decode cL_refused 281 = .ok (.ifCond .ne 7, 3) := by decide +kernel
theorem dL_refused_284 : decode cL_refused 284 = .ok (.iconst 1, 1) := by decide +kernel
theorem dL_refused_285 : decode cL_refused 285 = .ok (.goto 4, 3) := by decide +kernel
theorem dL_refused_288 : decode cL_refused 288 = .ok (.iconst 0, 1) := by decide +kernel
theorem dL_refused_289 : decode cL_refused 289 = .ok (.ireturn, 1) := by decide +kernel
theorem dL_isOne_0 : decode cL_isOne 0 = .ok (.aload_n 0, 1) := by decide +kernel
theorem dL_isOne_1 : decode cL_isOne 1 = .ok (.iload_n 1, 1) := by decide +kernel
theorem dL_isOne_2 : decode cL_isOne 2 = .ok (.iconst 2, 1) := by decide +kernel
theorem dL_isOne_3 : decode cL_isOne 3 = .ok (.invokestatic 108, 3) := by decide +kernel
theorem dL_isOne_6 : decode cL_isOne 6 = .ok (.istore_n 3, 1) := by decide +kernel
theorem dL_isOne_7 : decode cL_isOne 7 = .ok (.aload_n 0, 1) := by decide +kernel
theorem dL_isOne_8 : decode cL_isOne 8 = .ok (.iload_n 1, 1) := by decide +kernel
theorem dL_isOne_9 : decode cL_isOne 9 = .ok (.iconst 3, 1) := by decide +kernel
theorem dL_isOne_10 : decode cL_isOne 10 = .ok (.invokestatic 108, 3) := by decide +kernel
theorem dL_isOne_13 : decode cL_isOne 13 = .ok (.istore 4, 2) := by decide +kernel
theorem dL_isOne_15 : decode cL_isOne 15 = .ok (.aload_n 0, 1) := by decide +kernel
theorem dL_isOne_16 : decode cL_isOne 16 = .ok (.iload_n 1, 1) := by decide +kernel
theorem dL_isOne_17 : decode cL_isOne 17 = .ok (.bipush 9, 2) := by decide +kernel
theorem dL_isOne_19 : decode cL_isOne 19 = .ok (.invokestatic 108, 3) := by decide +kernel
theorem dL_isOne_22 : decode cL_isOne 22 = .ok (.istore 5, 2) := by decide +kernel
theorem dL_isOne_24 : decode cL_isOne 24 = .ok (.iload_n 1, 1) := by decide +kernel
theorem dL_isOne_25 : decode cL_isOne 25 = .ok (.ifCond .lt 163, 3) := by decide +kernel
theorem dL_isOne_28 : decode cL_isOne 28 = .ok (.iload_n 1, 1) := by decide +kernel
theorem dL_isOne_29 : decode cL_isOne 29 = .ok (.aload_n 0, 1) := by decide +kernel
theorem dL_isOne_30 : decode cL_isOne 30 = .ok (.iconst 2, 1) := by decide +kernel
theorem dL_isOne_31 : decode cL_isOne 31 = .ok (.invokestatic 95, 3) := by decide +kernel
theorem dL_isOne_34 : decode cL_isOne 34 = .ok (.if_icmp .ge 154, 3) := by decide +kernel
theorem dL_isOne_37 : decode cL_isOne 37 = .ok (.aload_n 0, 1) := by decide +kernel
theorem dL_isOne_38 : decode cL_isOne 38 = .ok (.iload_n 1, 1) := by decide +kernel
theorem dL_isOne_39 : decode cL_isOne 39 = .ok (.bipush 8, 2) := by decide +kernel
theorem dL_isOne_41 : decode cL_isOne 41 = .ok (.invokestatic 108, 3) := by decide +kernel
theorem dL_isOne_44 : decode cL_isOne 44 = .ok (.iload_n 2, 1) := by decide +kernel
theorem dL_isOne_45 : decode cL_isOne 45 = .ok (.if_icmp .ne 143, 3) := by decide +kernel
theorem dL_isOne_48 : decode cL_isOne 48 = .ok (.iload_n 3, 1) := by decide +kernel
theorem dL_isOne_49 : decode cL_isOne 49 = .ok (.ifCond .lt 139, 3) := by decide +kernel
theorem dL_isOne_52 : decode cL_isOne 52 = .ok (.iload_n 3, 1) := by decide +kernel
theorem dL_isOne_53 : decode cL_isOne 53 = .ok (.iconst 5, 1) := by decide +kernel
theorem dL_isOne_54 : decode cL_isOne 54 = .ok (.if_icmp .ge 134, 3) := by decide +kernel
theorem dL_isOne_57 : decode cL_isOne 57 = .ok (.iload 4, 2) := by decide +kernel
theorem dL_isOne_59 : decode cL_isOne 59 = .ok (.ifCond .lt 129, 3) := by decide +kernel
theorem dL_isOne_62 : decode cL_isOne 62 = .ok (.aload_n 0, 1) := by decide +kernel
theorem dL_isOne_63 : decode cL_isOne 63 = .ok (.iload_n 1, 1) := by decide +kernel
theorem dL_isOne_64 : decode cL_isOne 64 = .ok (.iconst 4, 1) := by decide +kernel
theorem dL_isOne_65 : decode cL_isOne 65 = .ok (.invokestatic 108, 3) := by decide +kernel
theorem dL_isOne_68 : decode cL_isOne 68 = .ok (.ifCond .lt 120, 3) := by decide +kernel
theorem dL_isOne_71 : decode cL_isOne 71 = .ok (.aload_n 0, 1) := by decide +kernel
theorem dL_isOne_72 : decode cL_isOne 72 = .ok (.iload_n 1, 1) := by decide +kernel
theorem dL_isOne_73 : decode cL_isOne 73 = .ok (.iconst 4, 1) := by decide +kernel
theorem dL_isOne_74 : decode cL_isOne 74 = .ok (.invokestatic 108, 3) := by decide +kernel
theorem dL_isOne_77 : decode cL_isOne 77 = .ok (.iload 4, 2) := by decide +kernel
theorem dL_isOne_79 : decode cL_isOne 79 = .ok (.if_icmp .gt 109, 3) := by decide +kernel
theorem dL_isOne_82 : decode cL_isOne 82 = .ok (.aload_n 0, 1) := by decide +kernel
theorem dL_isOne_83 : decode cL_isOne 83 = .ok (.iload_n 1, 1) := by decide +kernel
theorem dL_isOne_84 : decode cL_isOne 84 = .ok (.bipush 7, 2) := by decide +kernel
theorem dL_isOne_86 : decode cL_isOne 86 = .ok (.invokestatic 108, 3) := by decide +kernel
theorem dL_isOne_89 : decode cL_isOne 89 = .ok (.aload_n 0, 1) := by decide +kernel
theorem dL_isOne_90 : decode cL_isOne 90 = .ok (.iload_n 1, 1) := by decide +kernel
theorem dL_isOne_91 : decode cL_isOne 91 = .ok (.iconst 5, 1) := by decide +kernel
theorem dL_isOne_92 : decode cL_isOne 92 = .ok (.invokestatic 108, 3) := by decide +kernel
theorem dL_isOne_95 : decode cL_isOne 95 = .ok (.iload 4, 2) := by decide +kernel
theorem dL_isOne_97 : decode cL_isOne 97 = .ok (.isub, 1) := by decide +kernel
theorem dL_isOne_98 : decode cL_isOne 98 = .ok (.if_icmp .ne 90, 3) := by decide +kernel
theorem dL_isOne_101 : decode cL_isOne 101 = .ok (.aload_n 0, 1) := by decide +kernel
theorem dL_isOne_102 : decode cL_isOne 102 = .ok (.iload_n 1, 1) := by decide +kernel
theorem dL_isOne_103 : decode cL_isOne 103 = .ok (.bipush 7, 2) := by decide +kernel
theorem dL_isOne_105 : decode cL_isOne 105 = .ok (.invokestatic 108, 3) := by decide +kernel
theorem dL_isOne_108 : decode cL_isOne 108 = .ok (.ifCond .le 80, 3) := by decide +kernel
theorem dL_isOne_111 : decode cL_isOne 111 = .ok (.iload 5, 2) := by decide +kernel
theorem dL_isOne_113 : decode cL_isOne 113 = .ok (.iconst 1, 1) := by decide +kernel
theorem dL_isOne_114 : decode cL_isOne 114 = .ok (.if_icmp .ne 7, 3) := by decide +kernel
theorem dL_isOne_117 : decode cL_isOne 117 = .ok (.iconst 1, 1) := by decide +kernel
theorem dL_isOne_118 : decode cL_isOne 118 = .ok (.goto 4, 3) := by decide +kernel
theorem dL_isOne_121 : decode cL_isOne 121 = .ok (.iconst 0, 1) := by decide +kernel
theorem dL_isOne_122 : decode cL_isOne 122 = .ok (.aload_n 0, 1) := by decide +kernel
theorem dL_isOne_123 : decode cL_isOne 123 = .ok (.iload_n 1, 1) := by decide +kernel
theorem dL_isOne_124 : decode cL_isOne 124 = .ok (.bipush 6, 2) := by decide +kernel
theorem dL_isOne_126 : decode cL_isOne 126 = .ok (.invokestatic 108, 3) := by decide +kernel
theorem dL_isOne_129 : decode cL_isOne 129 = .ok (.ifCond .le 7, 3) := by decide +kernel
theorem dL_isOne_132 : decode cL_isOne 132 = .ok (.iconst 1, 1) := by decide +kernel
theorem dL_isOne_133 : decode cL_isOne 133 = .ok (.goto 4, 3) := by decide +kernel
theorem dL_isOne_136 : decode cL_isOne 136 = .ok (.iconst 0, 1) := by decide +kernel
theorem dL_isOne_137 : decode cL_isOne 137 = .ok (.if_icmp .ne 51, 3) := by decide +kernel
theorem dL_isOne_140 : decode cL_isOne 140 = .ok (.iload 5, 2) := by decide +kernel
theorem dL_isOne_142 : decode cL_isOne 142 = .ok (.iconst 2, 1) := by decide +kernel
theorem dL_isOne_143 : decode cL_isOne 143 = .ok (.if_icmp .ne 7, 3) := by decide +kernel
theorem dL_isOne_146 : decode cL_isOne 146 = .ok (.iconst 1, 1) := by decide +kernel
theorem dL_isOne_147 : decode cL_isOne 147 = .ok (.goto 4, 3) := by decide +kernel
theorem dL_isOne_150 : decode cL_isOne 150 = .ok (.iconst 0, 1) := by decide +kernel
theorem dL_isOne_151 : decode cL_isOne 151 = .ok (.aload_n 0, 1) := by decide +kernel
theorem dL_isOne_152 : decode cL_isOne 152 = .ok (.iload_n 1, 1) := by decide +kernel
theorem dL_isOne_153 : decode cL_isOne 153 = .ok (.iconst 1, 1) := by decide +kernel
theorem dL_isOne_154 : decode cL_isOne 154 = .ok (.invokestatic 108, 3) := by decide +kernel
theorem dL_isOne_157 : decode cL_isOne 157 = .ok (.iconst (-1), 1) := by decide +kernel
theorem dL_isOne_158 : decode cL_isOne 158 = .ok (.if_icmp .eq 7, 3) := by decide +kernel
theorem dL_isOne_161 : decode cL_isOne 161 = .ok (.iconst 1, 1) := by decide +kernel
theorem dL_isOne_162 : decode cL_isOne 162 = .ok (.goto 4, 3) := by decide +kernel
theorem dL_isOne_165 : decode cL_isOne 165 = .ok (.iconst 0, 1) := by decide +kernel
theorem dL_isOne_166 : decode cL_isOne 166 = .ok (.if_icmp .ne 22, 3) := by decide +kernel
theorem dL_isOne_169 : decode cL_isOne 169 = .ok (.aload_n 0, 1) := by decide +kernel
theorem dL_isOne_170 : decode cL_isOne 170 = .ok (.iload_n 1, 1) := by decide +kernel
theorem dL_isOne_171 : decode cL_isOne 171 = .ok (.iconst 0, 1) := by decide +kernel
theorem dL_isOne_172 : decode cL_isOne 172 = .ok (.invokestatic 108, 3) := by decide +kernel
theorem dL_isOne_175 : decode cL_isOne 175 = .ok (.aload_n 0, 1) := by decide +kernel
theorem dL_isOne_176 : decode cL_isOne 176 = .ok (.iload_n 1, 1) := by decide +kernel
theorem dL_isOne_177 : decode cL_isOne 177 = .ok (.iconst 1, 1) := by decide +kernel
theorem dL_isOne_178 : decode cL_isOne 178 = .ok (.invokestatic 108, 3) := by decide +kernel
theorem dL_isOne_181 : decode cL_isOne 181 = .ok (.if_icmp .eq 7, 3) := by decide +kernel
theorem dL_isOne_184 : decode cL_isOne 184 = .ok (.iconst 1, 1) := by decide +kernel
theorem dL_isOne_185 : decode cL_isOne 185 = .ok (.goto 4, 3) := by decide +kernel
theorem dL_isOne_188 : decode cL_isOne 188 = .ok (.iconst 0, 1) := by decide +kernel
theorem dL_isOne_189 : decode cL_isOne 189 = .ok (.istore 6, 2) := by decide +kernel
theorem dL_isOne_191 : decode cL_isOne 191 = .ok (.iload 6, 2) := by decide +kernel
theorem dL_isOne_193 : decode cL_isOne 193 = .ok (.ifCond .eq 76, 3) := by decide +kernel
theorem dL_isOne_196 : decode cL_isOne 196 = .ok (.aload_n 0, 1) := by decide +kernel
theorem dL_isOne_197 : decode cL_isOne 197 = .ok (.iload_n 1, 1) := by decide +kernel
theorem dL_isOne_198 : decode cL_isOne 198 = .ok (.iconst 0, 1) := by decide +kernel
theorem dL_isOne_199 : decode cL_isOne 199 = .ok (.invokestatic 112, 3) := by decide +kernel
theorem dL_isOne_202 : decode cL_isOne 202 = .ok (.iload_n 3, 1) := by decide +kernel
theorem dL_isOne_203 : decode cL_isOne 203 = .ok (.if_icmp .ne 66, 3) := by decide +kernel
theorem dL_isOne_206 : decode cL_isOne 206 = .ok (.aload_n 0, 1) := by decide +kernel
theorem dL_isOne_207 : decode cL_isOne 207 = .ok (.iload_n 1, 1) := by decide +kernel
theorem dL_isOne_208 : decode cL_isOne 208 = .ok (.aload_n 0, 1) := by decide +kernel
theorem dL_isOne_209 : decode cL_isOne 209 = .ok (.iload_n 1, 1) := by decide +kernel
theorem dL_isOne_210 : decode cL_isOne 210 = .ok (.bipush 7, 2) := by decide +kernel
theorem dL_isOne_212 : decode cL_isOne 212 = .ok (.invokestatic 108, 3) := by decide +kernel
theorem dL_isOne_215 : decode cL_isOne 215 = .ok (.invokestatic 112, 3) := by decide +kernel
theorem dL_isOne_218 : decode cL_isOne 218 = .ok (.iconst (-1), 1) := by decide +kernel
theorem dL_isOne_219 : decode cL_isOne 219 = .ok (.if_icmp .ne 50, 3) := by decide +kernel
theorem dL_isOne_222 : decode cL_isOne 222 = .ok (.aload_n 0, 1) := by decide +kernel
theorem dL_isOne_223 : decode cL_isOne 223 = .ok (.iload_n 1, 1) := by decide +kernel
theorem dL_isOne_224 : decode cL_isOne 224 = .ok (.aload_n 0, 1) := by decide +kernel
theorem dL_isOne_225 : decode cL_isOne 225 = .ok (.iload_n 1, 1) := by decide +kernel
theorem dL_isOne_226 : decode cL_isOne 226 = .ok (.bipush 7, 2) := by decide +kernel
theorem dL_isOne_228 : decode cL_isOne 228 = .ok (.invokestatic 108, 3) := by decide +kernel
theorem dL_isOne_231 : decode cL_isOne 231 = .ok (.iconst 1, 1) := by decide +kernel
theorem dL_isOne_232 : decode cL_isOne 232 = .ok (.isub, 1) := by decide +kernel
theorem dL_isOne_233 : decode cL_isOne 233 = .ok (.invokestatic 112, 3) := by decide +kernel
theorem dL_isOne_236 : decode cL_isOne 236 = .ok (.iload_n 3, 1) := by decide +kernel
theorem dL_isOne_237 : decode cL_isOne 237 = .ok (.if_icmp .lt 32, 3) := by decide +kernel
theorem dL_isOne_240 : decode cL_isOne 240 = .ok (.aload_n 0, 1) := by decide +kernel
theorem dL_isOne_241 : decode cL_isOne 241 = .ok (.iload_n 1, 1) := by decide +kernel
theorem dL_isOne_242 : decode cL_isOne 242 = .ok (.invokestatic 150, 3) := by decide +kernel
theorem dL_isOne_245 : decode cL_isOne 245 = .ok (.ifCond .ne 7, 3) := by decide +kernel
theorem dL_isOne_248 : decode cL_isOne 248 = .ok (.iconst 1, 1) := by decide +kernel
theorem dL_isOne_249 : decode cL_isOne 249 = .ok (.goto 4, 3) := by decide +kernel
theorem dL_isOne_252 : decode cL_isOne 252 = .ok (.iconst 0, 1) := by decide +kernel
theorem dL_isOne_253 : decode cL_isOne 253 = .ok (.iload_n 2, 1) := by decide +kernel
theorem dL_isOne_254 : decode cL_isOne 254 = .ok (.ifCond .ne 7, 3) := by decide +kernel
theorem dL_isOne_257 : decode cL_isOne 257 = .ok (.iconst 1, 1) := by decide +kernel
theorem dL_isOne_258 : decode cL_isOne 258 = .ok (.goto 4, 3) := by decide +kernel
theorem dL_isOne_261 : decode cL_isOne 261 = .ok (.iconst 0, 1) := by decide +kernel
theorem dL_isOne_262 : decode cL_isOne 262 = .ok (.if_icmp .ne 7, 3) := by decide +kernel
theorem dL_isOne_265 : decode cL_isOne 265 = .ok (.iconst 1, 1) := by decide +kernel
theorem dL_isOne_266 : decode cL_isOne 266 = .ok (.goto 4, 3) := by decide +kernel
theorem dL_isOne_269 : decode cL_isOne 269 = .ok (.iconst 0, 1) := by decide +kernel
theorem dL_isOne_270 : decode cL_isOne 270 = .ok (.istore 6, 2) := by decide +kernel
theorem dL_isOne_272 : decode cL_isOne 272 = .ok (.iload_n 2, 1) := by decide +kernel
theorem dL_isOne_273 : decode cL_isOne 273 = .ok (.ifCond .le 73, 3) := by decide +kernel
theorem dL_isOne_276 : decode cL_isOne 276 = .ok (.aload_n 0, 1) := by decide +kernel
theorem dL_isOne_277 : decode cL_isOne 277 = .ok (.iload_n 2, 1) := by decide +kernel
theorem dL_isOne_278 : decode cL_isOne 278 = .ok (.iconst 1, 1) := by decide +kernel
theorem dL_isOne_279 : decode cL_isOne 279 = .ok (.isub, 1) := by decide +kernel
theorem dL_isOne_280 : decode cL_isOne 280 = .ok (.invokestatic 106, 3) := by decide +kernel
theorem dL_isOne_283 : decode cL_isOne 283 = .ok (.istore 7, 2) := by decide +kernel
theorem dL_isOne_285 : decode cL_isOne 285 = .ok (.aload_n 0, 1) := by decide +kernel
theorem dL_isOne_286 : decode cL_isOne 286 = .ok (.iload 7, 2) := by decide +kernel
theorem dL_isOne_288 : decode cL_isOne 288 = .ok (.iconst 2, 1) := by decide +kernel
theorem dL_isOne_289 : decode cL_isOne 289 = .ok (.invokestatic 108, 3) := by decide +kernel
theorem dL_isOne_292 : decode cL_isOne 292 = .ok (.iload_n 3, 1) := by decide +kernel
theorem dL_isOne_293 : decode cL_isOne 293 = .ok (.isub, 1) := by decide +kernel
theorem dL_isOne_294 : decode cL_isOne 294 = .ok (.istore 8, 2) := by decide +kernel
theorem dL_isOne_296 : decode cL_isOne 296 = .ok (.iload 8, 2) := by decide +kernel
theorem dL_isOne_298 : decode cL_isOne 298 = .ok (.ifCond .ne 16, 3) := by decide +kernel
theorem dL_isOne_301 : decode cL_isOne 301 = .ok (.aload_n 0, 1) := by decide +kernel
theorem dL_isOne_302 : decode cL_isOne 302 = .ok (.iload 7, 2) := by decide +kernel
theorem dL_isOne_304 : decode cL_isOne 304 = .ok (.iconst 3, 1) := by decide +kernel
theorem dL_isOne_305 : decode cL_isOne 305 = .ok (.invokestatic 108, 3) := by decide +kernel
theorem dL_isOne_308 : decode cL_isOne 308 = .ok (.iload 4, 2) := by decide +kernel
theorem dL_isOne_310 : decode cL_isOne 310 = .ok (.isub, 1) := by decide +kernel
theorem dL_isOne_311 : decode cL_isOne 311 = .ok (.goto 5, 3) := by decide +kernel
theorem dL_isOne_314 : decode cL_isOne 314 = .ok (.iload 8, 2) := by decide +kernel
theorem dL_isOne_316 : decode cL_isOne 316 = .ok (.istore 8, 2) := by decide +kernel
theorem dL_isOne_318 : decode cL_isOne 318 = .ok (.iload 6, 2) := by decide +kernel
theorem dL_isOne_320 : decode cL_isOne 320 = .ok (.ifCond .eq 23, 3) := by decide +kernel
theorem dL_isOne_323 : decode cL_isOne 323 = .ok (.iload 8, 2) := by decide +kernel
theorem dL_isOne_325 : decode cL_isOne 325 = .ok (.ifCond .gt 14, 3) := by decide +kernel
theorem dL_isOne_328 : decode cL_isOne 328 = .ok (.iload 8, 2) := by decide +kernel
theorem dL_isOne_330 : decode cL_isOne 330 = .ok (.ifCond .ne 13, 3) := by decide +kernel
theorem dL_isOne_333 : decode cL_isOne 333 = .ok (.iload 7, 2) := by decide +kernel
theorem dL_isOne_335 : decode cL_isOne 335 = .ok (.iload_n 1, 1) := by decide +kernel
theorem dL_isOne_336 : decode cL_isOne 336 = .ok (.if_icmp .ge 7, 3) := by decide +kernel
theorem dL_isOne_339 : decode cL_isOne 339 = .ok (.iconst 1, 1) := by decide +kernel
theorem dL_isOne_340 : decode cL_isOne 340 = .ok (.goto 4, 3) := by decide +kernel
theorem dL_isOne_343 : decode cL_isOne 343 = .ok (.iconst 0, 1) := by decide +kernel
theorem dL_isOne_344 : decode cL_isOne 344 = .ok (.istore 6, 2) := by decide +kernel
theorem dL_isOne_346 : decode cL_isOne 346 = .ok (.iload 6, 2) := by decide +kernel
theorem dL_isOne_348 : decode cL_isOne 348 = .ok (.ireturn, 1) := by decide +kernel
theorem dL_fits_0 : decode cL_fits 0 = .ok (.aload_n 0, 1) := by decide +kernel
theorem dL_fits_1 : decode cL_fits 1 = .ok (.iconst 0, 1) := by decide +kernel
theorem dL_fits_2 : decode cL_fits 2 = .ok (.invokestatic 95, 3) := by decide +kernel
theorem dL_fits_5 : decode cL_fits 5 = .ok (.istore_n 1, 1) := by decide +kernel
theorem dL_fits_6 : decode cL_fits 6 = .ok (.iconst 0, 1) := by decide +kernel
theorem dL_fits_7 : decode cL_fits 7 = .ok (.istore_n 2, 1) := by decide +kernel
theorem dL_fits_8 : decode cL_fits 8 = .ok (.iconst 0, 1) := by decide +kernel
theorem dL_fits_9 : decode cL_fits 9 = .ok (.istore_n 3, 1) := by decide +kernel
theorem dL_fits_10 : decode cL_fits 10 = .ok (.sipush 300, 3) := by decide +kernel
theorem dL_fits_13 : decode cL_fits 13 = .ok (.istore 4, 2) := by decide +kernel
theorem dL_fits_15 : decode cL_fits 15 = .ok (.iconst (-1), 1) := by decide +kernel
theorem dL_fits_16 : decode cL_fits 16 = .ok (.istore 5, 2) := by decide +kernel
theorem dL_fits_18 : decode cL_fits 18 = .ok (.iload_n 1, 1) := by decide +kernel
theorem dL_fits_19 : decode cL_fits 19 = .ok (.ifCond .lt 40, 3) := by decide +kernel
theorem dL_fits_22 : decode cL_fits 22 = .ok (.iload_n 1, 1) := by decide +kernel
theorem dL_fits_23 : decode cL_fits 23 = .ok (.bipush 40, 2) := by decide +kernel
theorem dL_fits_25 : decode cL_fits 25 = .ok (.if_icmp .gt 34, 3) := by decide +kernel
theorem dL_fits_28 : decode cL_fits 28 = .ok (.aload_n 0, 1) := by decide +kernel
theorem dL_fits_29 : decode cL_fits 29 = .ok (.iconst 2, 1) := by decide +kernel
theorem dL_fits_30 : decode cL_fits 30 = .ok (.invokestatic 95, 3) := by decide +kernel
theorem dL_fits_33 : decode cL_fits 33 = .ok (.iload_n 1, 1) := by decide +kernel
theorem dL_fits_34 : decode cL_fits 34 = .ok (.aload_n 0, 1) := by decide +kernel
theorem dL_fits_35 : decode cL_fits 35 = .ok (.iconst 3, 1) := by decide +kernel
theorem dL_fits_36 : decode cL_fits 36 = .ok (.invokestatic 95, 3) := by decide +kernel
theorem dL_fits_39 : decode cL_fits 39 = .ok (.iadd, 1) := by decide +kernel
theorem dL_fits_40 : decode cL_fits 40 = .ok (.aload_n 0, 1) := by decide +kernel
theorem dL_fits_41 : decode cL_fits 41 = .ok (.iconst 4, 1) := by decide +kernel
theorem dL_fits_42 : decode cL_fits 42 = .ok (.invokestatic 95, 3) := by decide +kernel
theorem dL_fits_45 : decode cL_fits 45 = .ok (.iadd, 1) := by decide +kernel
theorem dL_fits_46 : decode cL_fits 46 = .ok (.aload_n 0, 1) := by decide +kernel
theorem dL_fits_47 : decode cL_fits 47 = .ok (.iconst 5, 1) := by decide +kernel
theorem dL_fits_48 : decode cL_fits 48 = .ok (.invokestatic 95, 3) := by decide +kernel
theorem dL_fits_51 : decode cL_fits 51 = .ok (.iadd, 1) := by decide +kernel
theorem dL_fits_52 : decode cL_fits 52 = .ok (.if_icmp .ne 7, 3) := by decide +kernel
theorem dL_fits_55 : decode cL_fits 55 = .ok (.iconst 1, 1) := by decide +kernel
theorem dL_fits_56 : decode cL_fits 56 = .ok (.goto 4, 3) := by decide +kernel
theorem dL_fits_59 : decode cL_fits 59 = .ok (.iconst 0, 1) := by decide +kernel
theorem dL_fits_60 : decode cL_fits 60 = .ok (.istore 6, 2) := by decide +kernel
theorem dL_fits_62 : decode cL_fits 62 = .ok (.iconst 0, 1) := by decide +kernel
theorem dL_fits_63 : decode cL_fits 63 = .ok (.istore 7, 2) := by decide +kernel
theorem dL_fits_65 : decode cL_fits 65 = .ok (.iload 7, 2) := by decide +kernel
theorem dL_fits_67 : decode cL_fits 67 = .ok (.iload_n 1, 1) := by decide +kernel
theorem dL_fits_68 : decode cL_fits 68 = .ok (.if_icmp .ge 119, 3) := by decide +kernel
theorem dL_fits_71 : decode cL_fits 71 = .ok (.iload 6, 2) := by decide +kernel
theorem dL_fits_73 : decode cL_fits 73 = .ok (.ifCond .eq 114, 3) := by decide +kernel
theorem dL_fits_76 : decode cL_fits 76 = .ok (.aload_n 0, 1) := by decide +kernel
theorem dL_fits_77 : decode cL_fits 77 = .ok (.iload 7, 2) := by decide +kernel
theorem dL_fits_79 : decode cL_fits 79 = .ok (.invokestatic 106, 3) := by decide +kernel
theorem dL_fits_82 : decode cL_fits 82 = .ok (.istore 8, 2) := by decide +kernel
theorem dL_fits_84 : decode cL_fits 84 = .ok (.aload_n 0, 1) := by decide +kernel
theorem dL_fits_85 : decode cL_fits 85 = .ok (.iload 8, 2) := by decide +kernel
theorem dL_fits_87 : decode cL_fits 87 = .ok (.iload 7, 2) := by decide +kernel
theorem dL_fits_89 : decode cL_fits 89 = .ok (.invokestatic 163, 3) := by decide +kernel
theorem dL_fits_92 : decode cL_fits 92 = .ok (.istore 6, 2) := by decide +kernel
theorem dL_fits_94 : decode cL_fits 94 = .ok (.aload_n 0, 1) := by decide +kernel
theorem dL_fits_95 : decode cL_fits 95 = .ok (.iload 8, 2) := by decide +kernel
theorem dL_fits_97 : decode cL_fits 97 = .ok (.bipush 7, 2) := by decide +kernel
theorem dL_fits_99 : decode cL_fits 99 = .ok (.invokestatic 108, 3) := by decide +kernel
theorem dL_fits_102 : decode cL_fits 102 = .ok (.istore 9, 2) := by decide +kernel
theorem dL_fits_104 : decode cL_fits 104 = .ok (.iload 9, 2) := by decide +kernel
theorem dL_fits_106 : decode cL_fits 106 = .ok (.iload 4, 2) := by decide +kernel
theorem dL_fits_108 : decode cL_fits 108 = .ok (.if_icmp .lt 17, 3) := by decide +kernel
theorem dL_fits_111 : decode cL_fits 111 = .ok (.iload 9, 2) := by decide +kernel
theorem dL_fits_113 : decode cL_fits 113 = .ok (.iload 4, 2) := by decide +kernel
theorem dL_fits_115 : decode cL_fits 115 = .ok (.if_icmp .ne 15, 3) := by decide +kernel
theorem dL_fits_118 : decode cL_fits 118 = .ok (.iload 8, 2) := by decide +kernel
theorem dL_fits_120 : decode cL_fits 120 = .ok (.iload 5, 2) := by decide +kernel
theorem dL_fits_122 : decode cL_fits 122 = .ok (.if_icmp .ge 8, 3) := by decide +kernel
theorem dL_fits_125 : decode cL_fits 125 = .ok (.iload 8, 2) := by decide +kernel
theorem dL_fits_127 : decode cL_fits 127 = .ok (.goto 5, 3) := by decide +kernel
theorem dL_fits_130 : decode cL_fits 130 = .ok (.iload 5, 2) := by decide +kernel
theorem dL_fits_132 : decode cL_fits 132 = .ok (.istore 5, 2) := by decide +kernel
theorem dL_fits_134 : decode cL_fits 134 = .ok (.iload 9, 2) := by decide +kernel
theorem dL_fits_136 : decode cL_fits 136 = .ok (.iload 4, 2) := by decide +kernel
theorem dL_fits_138 : decode cL_fits 138 = .ok (.if_icmp .ge 8, 3) := by decide +kernel
theorem dL_fits_141 : decode cL_fits 141 = .ok (.iload 9, 2) := by decide +kernel
theorem dL_fits_143 : decode cL_fits 143 = .ok (.goto 5, 3) := by decide +kernel
theorem dL_fits_146 : decode cL_fits 146 = .ok (.iload 4, 2) := by decide +kernel
theorem dL_fits_148 : decode cL_fits 148 = .ok (.istore 4, 2) := by decide +kernel
theorem dL_fits_150 : decode cL_fits 150 = .ok (.iload_n 2, 1) := by decide +kernel
theorem dL_fits_151 : decode cL_fits 151 = .ok (.aload_n 0, 1) := by decide +kernel
theorem dL_fits_152 : decode cL_fits 152 = .ok (.iload 8, 2) := by decide +kernel
theorem dL_fits_154 : decode cL_fits 154 = .ok (.bipush 6, 2) := by decide +kernel
theorem dL_fits_156 : decode cL_fits 156 = .ok (.invokestatic 108, 3) := by decide +kernel
theorem dL_fits_159 : decode cL_fits 159 = .ok (.iadd, 1) := by decide +kernel
theorem dL_fits_160 : decode cL_fits 160 = .ok (.istore_n 2, 1) := by decide +kernel
theorem dL_fits_161 : decode cL_fits 161 = .ok (.iload_n 3, 1) := by decide +kernel
theorem dL_fits_162 : decode cL_fits 162 = .ok (.aload_n 0, 1) := by decide +kernel
theorem dL_fits_163 : decode cL_fits 163 = .ok (.iload 8, 2) := by decide +kernel
theorem dL_fits_165 : decode cL_fits 165 = .ok (.bipush 9, 2) := by decide +kernel
theorem dL_fits_167 : decode cL_fits 167 = .ok (.invokestatic 108, 3) := by decide +kernel
theorem dL_fits_170 : decode cL_fits 170 = .ok (.iconst 2, 1) := by decide +kernel
theorem dL_fits_171 : decode cL_fits 171 = .ok (.if_icmp .ne 7, 3) := by decide +kernel
theorem dL_fits_174 : decode cL_fits 174 = .ok (.iconst 1, 1) := by decide +kernel
theorem dL_fits_175 : decode cL_fits 175 = .ok (.goto 4, 3) := by decide +kernel
theorem dL_fits_178 : decode cL_fits 178 = .ok (.iconst 0, 1) := by decide +kernel
theorem dL_fits_179 : decode cL_fits 179 = .ok (.iadd, 1) := by decide +kernel
theorem dL_fits_180 : decode cL_fits 180 = .ok (.istore_n 3, 1) := by decide +kernel
theorem dL_fits_181 : decode cL_fits 181 = .ok (.iinc 7 1, 3) := by decide +kernel
theorem dL_fits_184 : decode cL_fits 184 = .ok (.goto (-119), 3) := by decide +kernel
theorem dL_fits_187 : decode cL_fits 187 = .ok (.iconst 0, 1) := by decide +kernel
theorem dL_fits_188 : decode cL_fits 188 = .ok (.istore 7, 2) := by decide +kernel
theorem dL_fits_190 : decode cL_fits 190 = .ok (.iconst 0, 1) := by decide +kernel
theorem dL_fits_191 : decode cL_fits 191 = .ok (.istore 8, 2) := by decide +kernel
theorem dL_fits_193 : decode cL_fits 193 = .ok (.iconst 0, 1) := by decide +kernel
theorem dL_fits_194 : decode cL_fits 194 = .ok (.istore 9, 2) := by decide +kernel
theorem dL_fits_196 : decode cL_fits 196 = .ok (.iload 9, 2) := by decide +kernel
theorem dL_fits_198 : decode cL_fits 198 = .ok (.bipush 8, 2) := by decide +kernel
theorem dL_fits_200 : decode cL_fits 200 = .ok (.if_icmp .ge 31, 3) := by decide +kernel
theorem dL_fits_203 : decode cL_fits 203 = .ok (.iload 7, 2) := by decide +kernel
theorem dL_fits_205 : decode cL_fits 205 = .ok (.aload_n 0, 1) := by decide +kernel
theorem dL_fits_206 : decode cL_fits 206 = .ok (.iload 9, 2) := by decide +kernel
theorem dL_fits_208 : decode cL_fits 208 = .ok (.invokestatic 100, 3) := by decide +kernel
theorem dL_fits_211 : decode cL_fits 211 = .ok (.iadd, 1) := by decide +kernel
theorem dL_fits_212 : decode cL_fits 212 = .ok (.istore 7, 2) := by decide +kernel
theorem dL_fits_214 : decode cL_fits 214 = .ok (.iload 8, 2) := by decide +kernel
theorem dL_fits_216 : decode cL_fits 216 = .ok (.aload_n 0, 1) := by decide +kernel
theorem dL_fits_217 : decode cL_fits 217 = .ok (.iload 9, 2) := by decide +kernel
theorem dL_fits_219 : decode cL_fits 219 = .ok (.invokestatic 103, 3) := by decide +kernel
theorem dL_fits_222 : decode cL_fits 222 = .ok (.iadd, 1) := by decide +kernel
theorem dL_fits_223 : decode cL_fits 223 = .ok (.istore 8, 2) := by decide +kernel
theorem dL_fits_225 : decode cL_fits 225 = .ok (.iinc 9 1, 3) := by decide +kernel
theorem dL_fits_228 : decode cL_fits 228 = .ok (.goto (-32), 3) := by decide +kernel
theorem dL_fits_231 : decode cL_fits 231 = .ok (.iconst 0, 1) := by decide +kernel
theorem dL_fits_232 : decode cL_fits 232 = .ok (.istore 9, 2) := by decide +kernel
theorem dL_fits_234 : decode cL_fits 234 = .ok (.iconst 0, 1) := by decide +kernel
theorem dL_fits_235 : decode cL_fits 235 = .ok (.istore 10, 2) := by decide +kernel
theorem dL_fits_237 : decode cL_fits 237 = .ok (.iload 10, 2) := by decide +kernel
theorem dL_fits_239 : decode cL_fits 239 = .ok (.iconst 5, 1) := by decide +kernel
theorem dL_fits_240 : decode cL_fits 240 = .ok (.if_icmp .ge 20, 3) := by decide +kernel
theorem dL_fits_243 : decode cL_fits 243 = .ok (.iload 9, 2) := by decide +kernel
theorem dL_fits_245 : decode cL_fits 245 = .ok (.aload_n 0, 1) := by decide +kernel
theorem dL_fits_246 : decode cL_fits 246 = .ok (.iload 10, 2) := by decide +kernel
theorem dL_fits_248 : decode cL_fits 248 = .ok (.invokestatic 147, 3) := by decide +kernel
theorem dL_fits_251 : decode cL_fits 251 = .ok (.iadd, 1) := by decide +kernel
theorem dL_fits_252 : decode cL_fits 252 = .ok (.istore 9, 2) := by decide +kernel
theorem dL_fits_254 : decode cL_fits 254 = .ok (.iinc 10 1, 3) := by decide +kernel
theorem dL_fits_257 : decode cL_fits 257 = .ok (.goto (-20), 3) := by decide +kernel
theorem dL_fits_260 : decode cL_fits 260 = .ok (.aload_n 0, 1) := by decide +kernel
theorem dL_fits_261 : decode cL_fits 261 = .ok (.iconst 3, 1) := by decide +kernel
theorem dL_fits_262 : decode cL_fits 262 = .ok (.invokestatic 95, 3) := by decide +kernel
theorem dL_fits_265 : decode cL_fits 265 = .ok (.aload_n 0, 1) := by decide +kernel
theorem dL_fits_266 : decode cL_fits 266 = .ok (.iconst 4, 1) := by decide +kernel
theorem dL_fits_267 : decode cL_fits 267 = .ok (.invokestatic 95, 3) := by decide +kernel
theorem dL_fits_270 : decode cL_fits 270 = .ok (.iadd, 1) := by decide +kernel
theorem dL_fits_271 : decode cL_fits 271 = .ok (.aload_n 0, 1) := by decide +kernel
theorem dL_fits_272 : decode cL_fits 272 = .ok (.iconst 5, 1) := by decide +kernel
theorem dL_fits_273 : decode cL_fits 273 = .ok (.invokestatic 95, 3) := by decide +kernel
theorem dL_fits_276 : decode cL_fits 276 = .ok (.iadd, 1) := by decide +kernel
theorem dL_fits_277 : decode cL_fits 277 = .ok (.istore 10, 2) := by decide +kernel
theorem dL_fits_279 : decode cL_fits 279 = .ok (.iload 6, 2) := by decide +kernel
theorem dL_fits_281 : decode cL_fits 281 = .ok (.ifCond .eq 110, 3) := by decide +kernel
theorem dL_fits_284 : decode cL_fits 284 = .ok (.iload 7, 2) := by decide +kernel
theorem dL_fits_286 : decode cL_fits 286 = .ok (.iload_n 1, 1) := by decide +kernel
theorem dL_fits_287 : decode cL_fits 287 = .ok (.iload_n 3, 1) := by decide +kernel
theorem dL_fits_288 : decode cL_fits 288 = .ok (.iadd, 1) := by decide +kernel
theorem dL_fits_289 : decode cL_fits 289 = .ok (.if_icmp .ne 102, 3) := by decide +kernel
theorem dL_fits_292 : decode cL_fits 292 = .ok (.iload 8, 2) := by decide +kernel
theorem dL_fits_294 : decode cL_fits 294 = .ok (.aload_n 0, 1) := by decide +kernel
theorem dL_fits_295 : decode cL_fits 295 = .ok (.bipush 7, 2) := by decide +kernel
theorem dL_fits_297 : decode cL_fits 297 = .ok (.invokestatic 95, 3) := by decide +kernel
theorem dL_fits_300 : decode cL_fits 300 = .ok (.if_icmp .ne 91, 3) := by decide +kernel
theorem dL_fits_303 : decode cL_fits 303 = .ok (.iload 9, 2) := by decide +kernel
theorem dL_fits_305 : decode cL_fits 305 = .ok (.iload_n 1, 1) := by decide +kernel
theorem dL_fits_306 : decode cL_fits 306 = .ok (.if_icmp .ne 85, 3) := by decide +kernel
theorem dL_fits_309 : decode cL_fits 309 = .ok (.aload_n 0, 1) := by decide +kernel
theorem dL_fits_310 : decode cL_fits 310 = .ok (.bipush 8, 2) := by decide +kernel
theorem dL_fits_312 : decode cL_fits 312 = .ok (.invokestatic 95, 3) := by decide +kernel
theorem dL_fits_315 : decode cL_fits 315 = .ok (.iload_n 2, 1) := by decide +kernel
theorem dL_fits_316 : decode cL_fits 316 = .ok (.if_icmp .ne 75, 3) := by decide +kernel
theorem dL_fits_319 : decode cL_fits 319 = .ok (.aload_n 0, 1) := by decide +kernel
theorem dL_fits_320 : decode cL_fits 320 = .ok (.bipush 10, 2) := by decide +kernel
theorem dL_fits_322 : decode cL_fits 322 = .ok (.invokestatic 95, 3) := by decide +kernel
theorem dL_fits_325 : decode cL_fits 325 = .ok (.iload 10, 2) := by decide +kernel
theorem dL_fits_327 : decode cL_fits 327 = .ok (.bipush 16, 2) := by decide +kernel
theorem dL_fits_329 : decode cL_fits 329 = .ok (.if_icmp .ge 8, 3) := by decide +kernel
theorem dL_fits_332 : decode cL_fits 332 = .ok (.iload 10, 2) := by decide +kernel
theorem dL_fits_334 : decode cL_fits 334 = .ok (.goto 5, 3) := by decide +kernel
theorem dL_fits_337 : decode cL_fits 337 = .ok (.bipush 16, 2) := by decide +kernel
theorem dL_fits_339 : decode cL_fits 339 = .ok (.if_icmp .ne 52, 3) := by decide +kernel
theorem dL_fits_342 : decode cL_fits 342 = .ok (.aload_n 0, 1) := by decide +kernel
theorem dL_fits_343 : decode cL_fits 343 = .ok (.invokevirtual 167, 3) := by decide +kernel
theorem dL_fits_346 : decode cL_fits 346 = .ok (.iload 5, 2) := by decide +kernel
theorem dL_fits_348 : decode cL_fits 348 = .ok (.if_icmp .ne 43, 3) := by decide +kernel
theorem dL_fits_351 : decode cL_fits 351 = .ok (.iload_n 1, 1) := by decide +kernel
theorem dL_fits_352 : decode cL_fits 352 = .ok (.ifCond .ne 16, 3) := by decide +kernel
theorem dL_fits_355 : decode cL_fits 355 = .ok (.aload_n 0, 1) := by decide +kernel
theorem dL_fits_356 : decode cL_fits 356 = .ok (.bipush 9, 2) := by decide +kernel
theorem dL_fits_358 : decode cL_fits 358 = .ok (.invokestatic 95, 3) := by decide +kernel
theorem dL_fits_361 : decode cL_fits 361 = .ok (.iconst (-1), 1) := by decide +kernel
theorem dL_fits_362 : decode cL_fits 362 = .ok (.if_icmp .ne 29, 3) := by decide +kernel
theorem dL_fits_365 : decode cL_fits 365 = .ok (.goto 22, 3) := by decide +kernel
theorem dL_fits_368 : decode cL_fits 368 = .ok (.aload_n 0, 1) := by decide +kernel
theorem dL_fits_369 : decode cL_fits 369 = .ok (.bipush 9, 2) := by decide +kernel
theorem dL_fits_371 : decode cL_fits 371 = .ok (.invokestatic 95, 3) := by decide +kernel
theorem dL_fits_374 : decode cL_fits 374 = .ok (.aload_n 0, 1) := by decide +kernel
theorem dL_fits_375 : decode cL_fits 375 = .ok (.aload_n 0, 1) := by decide +kernel
theorem dL_fits_376 : decode cL_fits 376 = .ok (.iconst 0, 1) := by decide +kernel
theorem dL_fits_377 : decode cL_fits 377 = .ok (.invokestatic 106, 3) := by decide +kernel
theorem dL_fits_380 : decode cL_fits 380 = .ok (.iconst 2, 1) := by decide +kernel
theorem dL_fits_381 : decode cL_fits 381 = .ok (.invokestatic 108, 3) := by decide +kernel
theorem dL_fits_384 : decode cL_fits 384 = .ok (.if_icmp .ne 7, 3) := by decide +kernel
theorem dL_fits_387 : decode cL_fits 387 = .ok (.iconst 1, 1) := by decide +kernel
theorem dL_fits_388 : decode cL_fits 388 = .ok (.goto 4, 3) := by decide +kernel
theorem dL_fits_391 : decode cL_fits 391 = .ok (.iconst 0, 1) := by decide +kernel
theorem dL_fits_392 : decode cL_fits 392 = .ok (.istore 6, 2) := by decide +kernel
theorem dL_fits_394 : decode cL_fits 394 = .ok (.iload 6, 2) := by decide +kernel
theorem dL_fits_396 : decode cL_fits 396 = .ok (.ifCond .eq 49, 3) := by decide +kernel
theorem dL_fits_399 : decode cL_fits 399 = .ok (.aload_n 0, 1) := by decide +kernel
theorem dL_fits_400 : decode cL_fits 400 = .ok (.iconst 3, 1) := by decide +kernel
theorem dL_fits_401 : decode cL_fits 401 = .ok (.invokestatic 95, 3) := by decide +kernel
theorem dL_fits_404 : decode cL_fits 404 = .ok (.ifCond .ne 15, 3) := by decide +kernel
theorem dL_fits_407 : decode cL_fits 407 = .ok (.aload_n 0, 1) := by decide +kernel
theorem dL_fits_408 : decode cL_fits 408 = .ok (.invokevirtual 170, 3) := by decide +kernel
theorem dL_fits_411 : decode cL_fits 411 = .ok (.dconst 0, 1) := by decide +kernel
theorem dL_fits_412 : decode cL_fits 412 = .ok (.dcmp .l, 1) := by decide +kernel
theorem dL_fits_413 : decode cL_fits 413 = .ok (.ifCond .ne 32, 3) := by decide +kernel
theorem dL_fits_416 : decode cL_fits 416 = .ok (.goto 25, 3) := by decide +kernel
theorem dL_fits_419 : decode cL_fits 419 = .ok (.aload_n 0, 1) := by decide +kernel
theorem dL_fits_420 : decode cL_fits 420 = .ok (.invokevirtual 170, 3) := by decide +kernel
theorem dL_fits_423 : decode cL_fits 423 = .ok (.aload_n 0, 1) := by decide +kernel
theorem dL_fits_424 : decode cL_fits 424 = .ok (.bipush 13, 2) := by decide +kernel
theorem dL_fits_426 : decode cL_fits 426 = .ok (.invokestatic 95, 3) := by decide +kernel
theorem dL_fits_429 : decode cL_fits 429 = .ok (.i2d, 1) := by decide +kernel
theorem dL_fits_430 : decode cL_fits 430 = .ok (.aload_n 0, 1) := by decide +kernel
theorem dL_fits_431 : decode cL_fits 431 = .ok (.iconst 3, 1) := by decide +kernel
theorem dL_fits_432 : decode cL_fits 432 = .ok (.invokestatic 95, 3) := by decide +kernel
theorem dL_fits_435 : decode cL_fits 435 = .ok (.i2d, 1) := by decide +kernel
theorem dL_fits_436 : decode cL_fits 436 = .ok (.ddiv, 1) := by decide +kernel
theorem dL_fits_437 : decode cL_fits 437 = .ok (.dcmp .l, 1) := by decide +kernel
theorem dL_fits_438 : decode cL_fits 438 = .ok (.ifCond .ne 7, 3) := by decide +kernel
theorem dL_fits_441 : decode cL_fits 441 = .ok (.iconst 1, 1) := by decide +kernel
theorem dL_fits_442 : decode cL_fits 442 = .ok (.goto 4, 3) := by decide +kernel
theorem dL_fits_445 : decode cL_fits 445 = .ok (.iconst 0, 1) := by decide +kernel
theorem dL_fits_446 : decode cL_fits 446 = .ok (.ireturn, 1) := by decide +kernel
theorem dL_comesTrue_0 : decode cL_comesTrue 0 = .ok (.aload_n 0, 1) := by decide +kernel
theorem dL_comesTrue_1 : decode cL_comesTrue 1 = .ok (.invokestatic 117, 3) := by decide +kernel
theorem dL_comesTrue_4 : decode cL_comesTrue 4 = .ok (.lstore_n 2, 1) := by decide +kernel
theorem dL_comesTrue_5 : decode cL_comesTrue 5 = .ok (.aload_n 0, 1) := by decide +kernel
theorem dL_comesTrue_6 : decode cL_comesTrue 6 = .ok (.iload_n 1, 1) := by decide +kernel
theorem dL_comesTrue_7 : decode cL_comesTrue 7 = .ok (.aload_n 0, 1) := by decide +kernel
theorem dL_comesTrue_8 : decode cL_comesTrue 8 = .ok (.iconst 0, 1) := by decide +kernel
theorem dL_comesTrue_9 : decode cL_comesTrue 9 = .ok (.invokestatic 95, 3) := by decide +kernel
theorem dL_comesTrue_12 : decode cL_comesTrue 12 = .ok (.invokestatic 174, 3) := by decide +kernel
theorem dL_comesTrue_15 : decode cL_comesTrue 15 = .ok (.invokestatic 106, 3) := by decide +kernel
theorem dL_comesTrue_18 : decode cL_comesTrue 18 = .ok (.istore 4, 2) := by decide +kernel
theorem dL_comesTrue_20 : decode cL_comesTrue 20 = .ok (.iconst 1, 1) := by decide +kernel
theorem dL_comesTrue_21 : decode cL_comesTrue 21 = .ok (.iload_n 1, 1) := by decide +kernel
theorem dL_comesTrue_22 : decode cL_comesTrue 22 = .ok (.bipush 6, 2) := by decide +kernel
theorem dL_comesTrue_24 : decode cL_comesTrue 24 = .ok (.ishr, 1) := by decide +kernel
theorem dL_comesTrue_25 : decode cL_comesTrue 25 = .ok (.bipush 30, 2) := by decide +kernel
theorem dL_comesTrue_27 : decode cL_comesTrue 27 = .ok (.invokestatic 174, 3) := by decide +kernel
theorem dL_comesTrue_30 : decode cL_comesTrue 30 = .ok (.iadd, 1) := by decide +kernel
theorem dL_comesTrue_31 : decode cL_comesTrue 31 = .ok (.istore 5, 2) := by decide +kernel
theorem dL_comesTrue_33 : decode cL_comesTrue 33 = .ok (.aload_n 0, 1) := by decide +kernel
theorem dL_comesTrue_34 : decode cL_comesTrue 34 = .ok (.iload 4, 2) := by decide +kernel
theorem dL_comesTrue_36 : decode cL_comesTrue 36 = .ok (.iload 5, 2) := by decide +kernel
theorem dL_comesTrue_38 : decode cL_comesTrue 38 = .ok (.invokestatic 112, 3) := by decide +kernel
theorem dL_comesTrue_41 : decode cL_comesTrue 41 = .ok (.istore 6, 2) := by decide +kernel
theorem dL_comesTrue_43 : decode cL_comesTrue 43 = .ok (.aload_n 0, 1) := by decide +kernel
theorem dL_comesTrue_44 : decode cL_comesTrue 44 = .ok (.iload 4, 2) := by decide +kernel
theorem dL_comesTrue_46 : decode cL_comesTrue 46 = .ok (.iconst 0, 1) := by decide +kernel
theorem dL_comesTrue_47 : decode cL_comesTrue 47 = .ok (.invokestatic 108, 3) := by decide +kernel
theorem dL_comesTrue_50 : decode cL_comesTrue 50 = .ok (.istore 7, 2) := by decide +kernel
theorem dL_comesTrue_52 : decode cL_comesTrue 52 = .ok (.aload_n 0, 1) := by decide +kernel
theorem dL_comesTrue_53 : decode cL_comesTrue 53 = .ok (.iload 5, 2) := by decide +kernel
theorem dL_comesTrue_55 : decode cL_comesTrue 55 = .ok (.invokestatic 144, 3) := by decide +kernel
theorem dL_comesTrue_58 : decode cL_comesTrue 58 = .ok (.ifCond .lt 59, 3) := by decide +kernel
theorem dL_comesTrue_61 : decode cL_comesTrue 61 = .ok (.iload 6, 2) := by decide +kernel
theorem dL_comesTrue_63 : decode cL_comesTrue 63 = .ok (.iconst (-1), 1) := by decide +kernel
theorem dL_comesTrue_64 : decode cL_comesTrue 64 = .ok (.if_icmp .ne 18, 3) := by decide +kernel
theorem dL_comesTrue_67 : decode cL_comesTrue 67 = .ok (.aload_n 0, 1) := by decide +kernel
theorem dL_comesTrue_68 : decode cL_comesTrue 68 = .ok (.iload 4, 2) := by decide +kernel
theorem dL_comesTrue_70 : decode cL_comesTrue 70 = .ok (.iconst 0, 1) := by decide +kernel
theorem dL_comesTrue_71 : decode cL_comesTrue 71 = .ok (.invokestatic 108, 3) := by decide +kernel
theorem dL_comesTrue_74 : decode cL_comesTrue 74 = .ok (.ldc 17, 2) := by decide +kernel
theorem dL_comesTrue_76 : decode cL_comesTrue 76 = .ok (.if_icmp .ne 41, 3) := by decide +kernel
theorem dL_comesTrue_79 : decode cL_comesTrue 79 = .ok (.goto 27, 3) := by decide +kernel
theorem dL_comesTrue_82 : decode cL_comesTrue 82 = .ok (.aload_n 0, 1) := by decide +kernel
theorem dL_comesTrue_83 : decode cL_comesTrue 83 = .ok (.iload 4, 2) := by decide +kernel
theorem dL_comesTrue_85 : decode cL_comesTrue 85 = .ok (.iconst 2, 1) := by decide +kernel
theorem dL_comesTrue_86 : decode cL_comesTrue 86 = .ok (.invokestatic 108, 3) := by decide +kernel
theorem dL_comesTrue_89 : decode cL_comesTrue 89 = .ok (.iload 6, 2) := by decide +kernel
theorem dL_comesTrue_91 : decode cL_comesTrue 91 = .ok (.if_icmp .ne 26, 3) := by decide +kernel
theorem dL_comesTrue_94 : decode cL_comesTrue 94 = .ok (.aload_n 0, 1) := by decide +kernel
theorem dL_comesTrue_95 : decode cL_comesTrue 95 = .ok (.iload 4, 2) := by decide +kernel
theorem dL_comesTrue_97 : decode cL_comesTrue 97 = .ok (.iconst 0, 1) := by decide +kernel
theorem dL_comesTrue_98 : decode cL_comesTrue 98 = .ok (.invokestatic 108, 3) := by decide +kernel
theorem dL_comesTrue_101 : decode cL_comesTrue 101 = .ok (.iload 7, 2) := by decide +kernel
theorem dL_comesTrue_103 : decode cL_comesTrue 103 = .ok (.if_icmp .ne 14, 3) := by decide +kernel
theorem dL_comesTrue_106 : decode cL_comesTrue 106 = .ok (.aload_n 0, 1) := by decide +kernel
theorem dL_comesTrue_107 : decode cL_comesTrue 107 = .ok (.invokestatic 177, 3) := by decide +kernel
theorem dL_comesTrue_110 : decode cL_comesTrue 110 = .ok (.ifCond .lt 7, 3) := by decide +kernel
theorem dL_comesTrue_113 : decode cL_comesTrue 113 = .ok (.iconst 1, 1) := by decide +kernel
theorem dL_comesTrue_114 : decode cL_comesTrue 114 = .ok (.goto 4, 3) := by decide +kernel
theorem dL_comesTrue_117 : decode cL_comesTrue 117 = .ok (.iconst 0, 1) := by decide +kernel
theorem dL_comesTrue_118 : decode cL_comesTrue 118 = .ok (.istore 8, 2) := by decide +kernel
theorem dL_comesTrue_120 : decode cL_comesTrue 120 = .ok (.aload_n 0, 1) := by decide +kernel
theorem dL_comesTrue_121 : decode cL_comesTrue 121 = .ok (.iload 4, 2) := by decide +kernel
theorem dL_comesTrue_123 : decode cL_comesTrue 123 = .ok (.invokestatic 150, 3) := by decide +kernel
theorem dL_comesTrue_126 : decode cL_comesTrue 126 = .ok (.istore 9, 2) := by decide +kernel
theorem dL_comesTrue_128 : decode cL_comesTrue 128 = .ok (.iload 8, 2) := by decide +kernel
theorem dL_comesTrue_130 : decode cL_comesTrue 130 = .ok (.ifCond .eq 169, 3) := by decide +kernel
theorem dL_comesTrue_133 : decode cL_comesTrue 133 = .ok (.iload 9, 2) := by decide +kernel
theorem dL_comesTrue_135 : decode cL_comesTrue 135 = .ok (.iconst (-1), 1) := by decide +kernel
theorem dL_comesTrue_136 : decode cL_comesTrue 136 = .ok (.if_icmp .eq 163, 3) := by decide +kernel
theorem dL_comesTrue_139 : decode cL_comesTrue 139 = .ok (.iload 9, 2) := by decide +kernel
theorem dL_comesTrue_141 : decode cL_comesTrue 141 = .ok (.bipush 19, 2) := by decide +kernel
theorem dL_comesTrue_143 : decode cL_comesTrue 143 = .ok (.if_icmp .ge 156, 3) := by decide +kernel
theorem dL_comesTrue_146 : decode cL_comesTrue 146 = .ok (.aload_n 0, 1) := by decide +kernel
theorem dL_comesTrue_147 : decode cL_comesTrue 147 = .ok (.invokevirtual 180, 3) := by decide +kernel
theorem dL_comesTrue_150 : decode cL_comesTrue 150 = .ok (.istore 10, 2) := by decide +kernel
theorem dL_comesTrue_152 : decode cL_comesTrue 152 = .ok (.iload 10, 2) := by decide +kernel
theorem dL_comesTrue_154 : decode cL_comesTrue 154 = .ok (.ifCond .lt 7, 3) := by decide +kernel
theorem dL_comesTrue_157 : decode cL_comesTrue 157 = .ok (.iconst 1, 1) := by decide +kernel
theorem dL_comesTrue_158 : decode cL_comesTrue 158 = .ok (.goto 4, 3) := by decide +kernel
theorem dL_comesTrue_161 : decode cL_comesTrue 161 = .ok (.iconst 0, 1) := by decide +kernel
theorem dL_comesTrue_162 : decode cL_comesTrue 162 = .ok (.istore 8, 2) := by decide +kernel
theorem dL_comesTrue_164 : decode cL_comesTrue 164 = .ok (.iconst 0, 1) := by decide +kernel
theorem dL_comesTrue_165 : decode cL_comesTrue 165 = .ok (.istore 11, 2) := by decide +kernel
theorem dL_comesTrue_167 : decode cL_comesTrue 167 = .ok (.iload 11, 2) := by decide +kernel
theorem dL_comesTrue_169 : decode cL_comesTrue 169 = .ok (.iconst 5, 1) := by decide +kernel
theorem dL_comesTrue_170 : decode cL_comesTrue 170 = .ok (.iload 9, 2) := by decide +kernel
theorem dL_comesTrue_172 : decode cL_comesTrue 172 = .ok (.imul, 1) := by decide +kernel
theorem dL_comesTrue_173 : decode cL_comesTrue 173 = .ok (.iconst 2, 1) := by decide +kernel
theorem dL_comesTrue_174 : decode cL_comesTrue 174 = .ok (.iadd, 1) := by decide +kernel
theorem dL_comesTrue_175 : decode cL_comesTrue 175 = .ok (.if_icmp .ge 72, 3) := by decide +kernel
theorem dL_comesTrue_178 : decode cL_comesTrue 178 = .ok (.iload 11, 2) := by decide +kernel
theorem dL_comesTrue_180 : decode cL_comesTrue 180 = .ok (.iconst 5, 1) := by decide +kernel
theorem dL_comesTrue_181 : decode cL_comesTrue 181 = .ok (.irem, 1) := by decide +kernel
theorem dL_comesTrue_182 : decode cL_comesTrue 182 = .ok (.istore 12, 2) := by decide +kernel
theorem dL_comesTrue_184 : decode cL_comesTrue 184 = .ok (.iload 8, 2) := by decide +kernel
theorem dL_comesTrue_186 : decode cL_comesTrue 186 = .ok (.ifCond .eq 52, 3) := by decide +kernel
theorem dL_comesTrue_189 : decode cL_comesTrue 189 = .ok (.aload_n 0, 1) := by decide +kernel
theorem dL_comesTrue_190 : decode cL_comesTrue 190 = .ok (.iload 12, 2) := by decide +kernel
theorem dL_comesTrue_192 : decode cL_comesTrue 192 = .ok (.ifCond .ne 8, 3) := by decide +kernel
theorem dL_comesTrue_195 : decode cL_comesTrue 195 = .ok (.bipush 115, 2) := by decide +kernel
theorem dL_comesTrue_197 : decode cL_comesTrue 197 = .ok (.goto 27, 3) := by decide +kernel
theorem dL_comesTrue_200 : decode cL_comesTrue 200 = .ok (.iload 12, 2) := by decide +kernel
theorem dL_comesTrue_202 : decode cL_comesTrue 202 = .ok (.iconst 2, 1) := by decide +kernel
theorem dL_comesTrue_203 : decode cL_comesTrue 203 = .ok (.if_icmp .ne 8, 3) := by decide +kernel
theorem dL_comesTrue_206 : decode cL_comesTrue 206 = .ok (.bipush 116, 2) := by decide +kernel
theorem dL_comesTrue_208 : decode cL_comesTrue 208 = .ok (.goto 16, 3) := by decide +kernel
theorem dL_comesTrue_211 : decode cL_comesTrue 211 = .ok (.iload 12, 2) := by decide +kernel
theorem dL_comesTrue_213 : decode cL_comesTrue 213 = .ok (.iconst 3, 1) := by decide +kernel
theorem dL_comesTrue_214 : decode cL_comesTrue 214 = .ok (.if_icmp .ne 8, 3) := by decide +kernel
theorem dL_comesTrue_217 : decode cL_comesTrue 217 = .ok (.bipush 49, 2) := by decide +kernel
theorem dL_comesTrue_219 : decode cL_comesTrue 219 = .ok (.goto 5, 3) := by decide +kernel
theorem dL_comesTrue_222 : decode cL_comesTrue 222 = .ok (.bipush 59, 2) := by decide +kernel
theorem dL_comesTrue_224 : decode cL_comesTrue 224 = .ok (.invokestatic 156, 3) := by decide +kernel
theorem dL_comesTrue_227 : decode cL_comesTrue 227 = .ok (.iload 11, 2) := by decide +kernel
theorem dL_comesTrue_229 : decode cL_comesTrue 229 = .ok (.iconst 1, 1) := by decide +kernel
theorem dL_comesTrue_230 : decode cL_comesTrue 230 = .ok (.iadd, 1) := by decide +kernel
theorem dL_comesTrue_231 : decode cL_comesTrue 231 = .ok (.if_icmp .ne 7, 3) := by decide +kernel
theorem dL_comesTrue_234 : decode cL_comesTrue 234 = .ok (.iconst 1, 1) := by decide +kernel
theorem dL_comesTrue_235 : decode cL_comesTrue 235 = .ok (.goto 4, 3) := by decide +kernel
theorem dL_comesTrue_238 : decode cL_comesTrue 238 = .ok (.iconst 0, 1) := by decide +kernel
theorem dL_comesTrue_239 : decode cL_comesTrue 239 = .ok (.istore 8, 2) := by decide +kernel
theorem dL_comesTrue_241 : decode cL_comesTrue 241 = .ok (.iinc 11 1, 3) := by decide +kernel
theorem dL_comesTrue_244 : decode cL_comesTrue 244 = .ok (.goto (-77), 3) := by decide +kernel
theorem dL_comesTrue_247 : decode cL_comesTrue 247 = .ok (.iload 8, 2) := by decide +kernel
theorem dL_comesTrue_249 : decode cL_comesTrue 249 = .ok (.ifCond .eq 47, 3) := by decide +kernel
theorem dL_comesTrue_252 : decode cL_comesTrue 252 = .ok (.aload_n 0, 1) := by decide +kernel
theorem dL_comesTrue_253 : decode cL_comesTrue 253 = .ok (.invokevirtual 183, 3) := by decide +kernel
theorem dL_comesTrue_256 : decode cL_comesTrue 256 = .ok (.iconst 2, 1) := by decide +kernel
theorem dL_comesTrue_257 : decode cL_comesTrue 257 = .ok (.iload 9, 2) := by decide +kernel
theorem dL_comesTrue_259 : decode cL_comesTrue 259 = .ok (.imul, 1) := by decide +kernel
theorem dL_comesTrue_260 : decode cL_comesTrue 260 = .ok (.iconst 1, 1) := by decide +kernel
theorem dL_comesTrue_261 : decode cL_comesTrue 261 = .ok (.iadd, 1) := by decide +kernel
theorem dL_comesTrue_262 : decode cL_comesTrue 262 = .ok (.if_icmp .ne 34, 3) := by decide +kernel
theorem dL_comesTrue_265 : decode cL_comesTrue 265 = .ok (.aload_n 0, 1) := by decide +kernel
theorem dL_comesTrue_266 : decode cL_comesTrue 266 = .ok (.iconst 0, 1) := by decide +kernel
theorem dL_comesTrue_267 : decode cL_comesTrue 267 = .ok (.iconst 0, 1) := by decide +kernel
theorem dL_comesTrue_268 : decode cL_comesTrue 268 = .ok (.invokestatic 115, 3) := by decide +kernel
theorem dL_comesTrue_271 : decode cL_comesTrue 271 = .ok (.iload 4, 2) := by decide +kernel
theorem dL_comesTrue_273 : decode cL_comesTrue 273 = .ok (.if_icmp .ne 23, 3) := by decide +kernel
theorem dL_comesTrue_276 : decode cL_comesTrue 276 = .ok (.aload_n 0, 1) := by decide +kernel
theorem dL_comesTrue_277 : decode cL_comesTrue 277 = .ok (.iconst 0, 1) := by decide +kernel
theorem dL_comesTrue_278 : decode cL_comesTrue 278 = .ok (.iconst 1, 1) := by decide +kernel
theorem dL_comesTrue_279 : decode cL_comesTrue 279 = .ok (.invokestatic 115, 3) := by decide +kernel
theorem dL_comesTrue_282 : decode cL_comesTrue 282 = .ok (.ifCond .ne 14, 3) := by decide +kernel
theorem dL_comesTrue_285 : decode cL_comesTrue 285 = .ok (.aload_n 0, 1) := by decide +kernel
theorem dL_comesTrue_286 : decode cL_comesTrue 286 = .ok (.invokestatic 177, 3) := by decide +kernel
theorem dL_comesTrue_289 : decode cL_comesTrue 289 = .ok (.ifCond .lt 7, 3) := by decide +kernel
theorem dL_comesTrue_292 : decode cL_comesTrue 292 = .ok (.iconst 1, 1) := by decide +kernel
theorem dL_comesTrue_293 : decode cL_comesTrue 293 = .ok (.goto 4, 3) := by decide +kernel
theorem dL_comesTrue_296 : decode cL_comesTrue 296 = .ok (.iconst 0, 1) := by decide +kernel
theorem dL_comesTrue_297 : decode cL_comesTrue 297 = .ok (.istore 8, 2) := by decide +kernel
theorem dL_comesTrue_299 : decode cL_comesTrue 299 = .ok (.iload 8, 2) := by decide +kernel
theorem dL_comesTrue_301 : decode cL_comesTrue 301 = .ok (.ifCond .eq 16, 3) := by decide +kernel
theorem dL_comesTrue_304 : decode cL_comesTrue 304 = .ok (.aload_n 0, 1) := by decide +kernel
theorem dL_comesTrue_305 : decode cL_comesTrue 305 = .ok (.invokestatic 117, 3) := by decide +kernel
theorem dL_comesTrue_308 : decode cL_comesTrue 308 = .ok (.lload_n 2, 1) := by decide +kernel
theorem dL_comesTrue_309 : decode cL_comesTrue 309 = .ok (.lcmp, 1) := by decide +kernel
theorem dL_comesTrue_310 : decode cL_comesTrue 310 = .ok (.ifCond .ne 7, 3) := by decide +kernel
theorem dL_comesTrue_313 : decode cL_comesTrue 313 = .ok (.iconst 1, 1) := by decide +kernel
theorem dL_comesTrue_314 : decode cL_comesTrue 314 = .ok (.goto 4, 3) := by decide +kernel
theorem dL_comesTrue_317 : decode cL_comesTrue 317 = .ok (.iconst 0, 1) := by decide +kernel
theorem dL_comesTrue_318 : decode cL_comesTrue 318 = .ok (.ireturn, 1) := by decide +kernel
theorem dL_isLead_0 : decode cL_isLead 0 = .ok (.aload_n 0, 1) := by decide +kernel
theorem dL_isLead_1 : decode cL_isLead 1 = .ok (.invokestatic 117, 3) := by decide +kernel
theorem dL_isLead_4 : decode cL_isLead 4 = .ok (.lstore_n 3, 1) := by decide +kernel
theorem dL_isLead_5 : decode cL_isLead 5 = .ok (.aload_n 0, 1) := by decide +kernel
theorem dL_isLead_6 : decode cL_isLead 6 = .ok (.iload_n 1, 1) := by decide +kernel
theorem dL_isLead_7 : decode cL_isLead 7 = .ok (.invokestatic 153, 3) := by decide +kernel
theorem dL_isLead_10 : decode cL_isLead 10 = .ok (.istore 5, 2) := by decide +kernel
theorem dL_isLead_12 : decode cL_isLead 12 = .ok (.aload_n 0, 1) := by decide +kernel
theorem dL_isLead_13 : decode cL_isLead 13 = .ok (.iload_n 2, 1) := by decide +kernel
theorem dL_isLead_14 : decode cL_isLead 14 = .ok (.invokestatic 100, 3) := by decide +kernel
theorem dL_isLead_17 : decode cL_isLead 17 = .ok (.aload_n 0, 1) := by decide +kernel
theorem dL_isLead_18 : decode cL_isLead 18 = .ok (.bipush 11, 2) := by decide +kernel
theorem dL_isLead_20 : decode cL_isLead 20 = .ok (.invokestatic 95, 3) := by decide +kernel
theorem dL_isLead_23 : decode cL_isLead 23 = .ok (.if_icmp .ge 18, 3) := by decide +kernel
theorem dL_isLead_26 : decode cL_isLead 26 = .ok (.aload_n 0, 1) := by decide +kernel
theorem dL_isLead_27 : decode cL_isLead 27 = .ok (.iconst 0, 1) := by decide +kernel
theorem dL_isLead_28 : decode cL_isLead 28 = .ok (.invokestatic 95, 3) := by decide +kernel
theorem dL_isLead_31 : decode cL_isLead 31 = .ok (.bipush 40, 2) := by decide +kernel
theorem dL_isLead_33 : decode cL_isLead 33 = .ok (.if_icmp .eq 8, 3) := by decide +kernel
theorem dL_isLead_36 : decode cL_isLead 36 = .ok (.iload 5, 2) := by decide +kernel
theorem dL_isLead_38 : decode cL_isLead 38 = .ok (.ifCond .ne 22, 3) := by decide +kernel
theorem dL_isLead_41 : decode cL_isLead 41 = .ok (.iload 5, 2) := by decide +kernel
theorem dL_isLead_43 : decode cL_isLead 43 = .ok (.iconst (-1), 1) := by decide +kernel
theorem dL_isLead_44 : decode cL_isLead 44 = .ok (.if_icmp .lt 14, 3) := by decide +kernel
theorem dL_isLead_47 : decode cL_isLead 47 = .ok (.iload 5, 2) := by decide +kernel
theorem dL_isLead_49 : decode cL_isLead 49 = .ok (.bipush 100, 2) := by decide +kernel
theorem dL_isLead_51 : decode cL_isLead 51 = .ok (.if_icmp .gt 7, 3) := by decide +kernel
theorem dL_isLead_54 : decode cL_isLead 54 = .ok (.iconst 1, 1) := by decide +kernel
theorem dL_isLead_55 : decode cL_isLead 55 = .ok (.goto 4, 3) := by decide +kernel
theorem dL_isLead_58 : decode cL_isLead 58 = .ok (.iconst 0, 1) := by decide +kernel
theorem dL_isLead_59 : decode cL_isLead 59 = .ok (.ireturn, 1) := by decide +kernel
theorem dL_isLead_60 : decode cL_isLead 60 = .ok (.aload_n 0, 1) := by decide +kernel
theorem dL_isLead_61 : decode cL_isLead 61 = .ok (.iconst 2, 1) := by decide +kernel
theorem dL_isLead_62 : decode cL_isLead 62 = .ok (.invokestatic 95, 3) := by decide +kernel
theorem dL_isLead_65 : decode cL_isLead 65 = .ok (.istore 6, 2) := by decide +kernel
theorem dL_isLead_67 : decode cL_isLead 67 = .ok (.aload_n 0, 1) := by decide +kernel
theorem dL_isLead_68 : decode cL_isLead 68 = .ok (.iload_n 2, 1) := by decide +kernel
theorem dL_isLead_69 : decode cL_isLead 69 = .ok (.iload_n 1, 1) := by decide +kernel
theorem dL_isLead_70 : decode cL_isLead 70 = .ok (.bipush 9, 2) := by decide +kernel
theorem dL_isLead_72 : decode cL_isLead 72 = .ok (.iload 5, 2) := by decide +kernel
theorem dL_isLead_74 : decode cL_isLead 74 = .ok (.iconst (-1), 1) := by decide +kernel
theorem dL_isLead_75 : decode cL_isLead 75 = .ok (.if_icmp .ne 8, 3) := by decide +kernel
theorem dL_isLead_78 : decode cL_isLead 78 = .ok (.bipush 100, 2) := by decide +kernel
theorem dL_isLead_80 : decode cL_isLead 80 = .ok (.goto 5, 3) := by decide +kernel
theorem dL_isLead_83 : decode cL_isLead 83 = .ok (.iload 5, 2) := by decide +kernel
theorem dL_isLead_85 : decode cL_isLead 85 = .ok (.invokestatic 134, 3) := by decide +kernel
theorem dL_isLead_88 : decode cL_isLead 88 = .ok (.iload 6, 2) := by decide +kernel
theorem dL_isLead_90 : decode cL_isLead 90 = .ok (.if_icmp .ne 43, 3) := by decide +kernel
theorem dL_isLead_93 : decode cL_isLead 93 = .ok (.aload_n 0, 1) := by decide +kernel
theorem dL_isLead_94 : decode cL_isLead 94 = .ok (.iconst 0, 1) := by decide +kernel
theorem dL_isLead_95 : decode cL_isLead 95 = .ok (.invokestatic 106, 3) := by decide +kernel
theorem dL_isLead_98 : decode cL_isLead 98 = .ok (.iload 6, 2) := by decide +kernel
theorem dL_isLead_100 : decode cL_isLead 100 = .ok (.if_icmp .ne 7, 3) := by decide +kernel
theorem dL_isLead_103 : decode cL_isLead 103 = .ok (.iconst 1, 1) := by decide +kernel
theorem dL_isLead_104 : decode cL_isLead 104 = .ok (.goto 4, 3) := by decide +kernel
theorem dL_isLead_107 : decode cL_isLead 107 = .ok (.iconst 0, 1) := by decide +kernel
theorem dL_isLead_108 : decode cL_isLead 108 = .ok (.iload 5, 2) := by decide +kernel
theorem dL_isLead_110 : decode cL_isLead 110 = .ok (.iconst (-1), 1) := by decide +kernel
theorem dL_isLead_111 : decode cL_isLead 111 = .ok (.if_icmp .eq 7, 3) := by decide +kernel
theorem dL_isLead_114 : decode cL_isLead 114 = .ok (.iconst 1, 1) := by decide +kernel
theorem dL_isLead_115 : decode cL_isLead 115 = .ok (.goto 4, 3) := by decide +kernel
theorem dL_isLead_118 : decode cL_isLead 118 = .ok (.iconst 0, 1) := by decide +kernel
theorem dL_isLead_119 : decode cL_isLead 119 = .ok (.if_icmp .ne 14, 3) := by decide +kernel
theorem dL_isLead_122 : decode cL_isLead 122 = .ok (.aload_n 0, 1) := by decide +kernel
theorem dL_isLead_123 : decode cL_isLead 123 = .ok (.invokestatic 177, 3) := by decide +kernel
theorem dL_isLead_126 : decode cL_isLead 126 = .ok (.ifCond .lt 7, 3) := by decide +kernel
theorem dL_isLead_129 : decode cL_isLead 129 = .ok (.iconst 1, 1) := by decide +kernel
theorem dL_isLead_130 : decode cL_isLead 130 = .ok (.goto 4, 3) := by decide +kernel
theorem dL_isLead_133 : decode cL_isLead 133 = .ok (.iconst 0, 1) := by decide +kernel
theorem dL_isLead_134 : decode cL_isLead 134 = .ok (.istore 7, 2) := by decide +kernel
theorem dL_isLead_136 : decode cL_isLead 136 = .ok (.iload 7, 2) := by decide +kernel
theorem dL_isLead_138 : decode cL_isLead 138 = .ok (.ifCond .eq 50, 3) := by decide +kernel
theorem dL_isLead_141 : decode cL_isLead 141 = .ok (.iload 5, 2) := by decide +kernel
theorem dL_isLead_143 : decode cL_isLead 143 = .ok (.iconst 1, 1) := by decide +kernel
theorem dL_isLead_144 : decode cL_isLead 144 = .ok (.if_icmp .le 44, 3) := by decide +kernel
theorem dL_isLead_147 : decode cL_isLead 147 = .ok (.aload_n 0, 1) := by decide +kernel
theorem dL_isLead_148 : decode cL_isLead 148 = .ok (.iload_n 2, 1) := by decide +kernel
theorem dL_isLead_149 : decode cL_isLead 149 = .ok (.iload_n 1, 1) := by decide +kernel
theorem dL_isLead_150 : decode cL_isLead 150 = .ok (.bipush 9, 2) := by decide +kernel
theorem dL_isLead_152 : decode cL_isLead 152 = .ok (.iload 5, 2) := by decide +kernel
theorem dL_isLead_154 : decode cL_isLead 154 = .ok (.iconst 1, 1) := by decide +kernel
theorem dL_isLead_155 : decode cL_isLead 155 = .ok (.isub, 1) := by decide +kernel
theorem dL_isLead_156 : decode cL_isLead 156 = .ok (.invokestatic 134, 3) := by decide +kernel
theorem dL_isLead_159 : decode cL_isLead 159 = .ok (.iload 6, 2) := by decide +kernel
theorem dL_isLead_161 : decode cL_isLead 161 = .ok (.if_icmp .ne 24, 3) := by decide +kernel
theorem dL_isLead_164 : decode cL_isLead 164 = .ok (.aload_n 0, 1) := by decide +kernel
theorem dL_isLead_165 : decode cL_isLead 165 = .ok (.iconst 0, 1) := by decide +kernel
theorem dL_isLead_166 : decode cL_isLead 166 = .ok (.invokestatic 106, 3) := by decide +kernel
theorem dL_isLead_169 : decode cL_isLead 169 = .ok (.iload 6, 2) := by decide +kernel
theorem dL_isLead_171 : decode cL_isLead 171 = .ok (.if_icmp .eq 14, 3) := by decide +kernel
theorem dL_isLead_174 : decode cL_isLead 174 = .ok (.aload_n 0, 1) := by decide +kernel
theorem dL_isLead_175 : decode cL_isLead 175 = .ok (.invokestatic 177, 3) := by decide +kernel
theorem dL_isLead_178 : decode cL_isLead 178 = .ok (.ifCond .lt 7, 3) := by decide +kernel
theorem dL_isLead_181 : decode cL_isLead 181 = .ok (.iconst 1, 1) := by decide +kernel
theorem dL_isLead_182 : decode cL_isLead 182 = .ok (.goto 4, 3) := by decide +kernel
theorem dL_isLead_185 : decode cL_isLead 185 = .ok (.iconst 0, 1) := by decide +kernel
theorem dL_isLead_186 : decode cL_isLead 186 = .ok (.istore 7, 2) := by decide +kernel
theorem dL_isLead_188 : decode cL_isLead 188 = .ok (.iload 7, 2) := by decide +kernel
theorem dL_isLead_190 : decode cL_isLead 190 = .ok (.ifCond .eq 16, 3) := by decide +kernel
theorem dL_isLead_193 : decode cL_isLead 193 = .ok (.aload_n 0, 1) := by decide +kernel
theorem dL_isLead_194 : decode cL_isLead 194 = .ok (.invokestatic 117, 3) := by decide +kernel
theorem dL_isLead_197 : decode cL_isLead 197 = .ok (.lload_n 3, 1) := by decide +kernel
theorem dL_isLead_198 : decode cL_isLead 198 = .ok (.lcmp, 1) := by decide +kernel
theorem dL_isLead_199 : decode cL_isLead 199 = .ok (.ifCond .ne 7, 3) := by decide +kernel
theorem dL_isLead_202 : decode cL_isLead 202 = .ok (.iconst 1, 1) := by decide +kernel
theorem dL_isLead_203 : decode cL_isLead 203 = .ok (.goto 4, 3) := by decide +kernel
theorem dL_isLead_206 : decode cL_isLead 206 = .ok (.iconst 0, 1) := by decide +kernel
theorem dL_isLead_207 : decode cL_isLead 207 = .ok (.ireturn, 1) := by decide +kernel
theorem dL_puts_0 : decode cL_puts 0 = .ok (.iload_n 1, 1) := by decide +kernel
theorem dL_puts_1 : decode cL_puts 1 = .ok (.bipush 8, 2) := by decide +kernel
theorem dL_puts_3 : decode cL_puts 3 = .ok (.invokestatic 174, 3) := by decide +kernel
theorem dL_puts_6 : decode cL_puts 6 = .ok (.istore_n 3, 1) := by decide +kernel
theorem dL_puts_7 : decode cL_puts 7 = .ok (.iload_n 1, 1) := by decide +kernel
theorem dL_puts_8 : decode cL_puts 8 = .ok (.iconst 3, 1) := by decide +kernel
theorem dL_puts_9 : decode cL_puts 9 = .ok (.ishr, 1) := by decide +kernel
theorem dL_puts_10 : decode cL_puts 10 = .ok (.bipush 8, 2) := by decide +kernel
theorem dL_puts_12 : decode cL_puts 12 = .ok (.invokestatic 174, 3) := by decide +kernel
theorem dL_puts_15 : decode cL_puts 15 = .ok (.istore 4, 2) := by decide +kernel
theorem dL_puts_17 : decode cL_puts 17 = .ok (.iload_n 1, 1) := by decide +kernel
theorem dL_puts_18 : decode cL_puts 18 = .ok (.bipush 6, 2) := by decide +kernel
theorem dL_puts_20 : decode cL_puts 20 = .ok (.ishr, 1) := by decide +kernel
theorem dL_puts_21 : decode cL_puts 21 = .ok (.iconst 3, 1) := by decide +kernel
theorem dL_puts_22 : decode cL_puts 22 = .ok (.invokestatic 174, 3) := by decide +kernel
theorem dL_puts_25 : decode cL_puts 25 = .ok (.istore 5, 2) := by decide +kernel
theorem dL_puts_27 : decode cL_puts 27 = .ok (.iload_n 2, 1) := by decide +kernel
theorem dL_puts_28 : decode cL_puts 28 = .ok (.iconst 5, 1) := by decide +kernel
theorem dL_puts_29 : decode cL_puts 29 = .ok (.invokestatic 174, 3) := by decide +kernel
theorem dL_puts_32 : decode cL_puts 32 = .ok (.istore 6, 2) := by decide +kernel
theorem dL_puts_34 : decode cL_puts 34 = .ok (.iconst 1, 1) := by decide +kernel
theorem dL_puts_35 : decode cL_puts 35 = .ok (.iload_n 2, 1) := by decide +kernel
theorem dL_puts_36 : decode cL_puts 36 = .ok (.iconst 3, 1) := by decide +kernel
theorem dL_puts_37 : decode cL_puts 37 = .ok (.ishr, 1) := by decide +kernel
theorem dL_puts_38 : decode cL_puts 38 = .ok (.bipush 60, 2) := by decide +kernel
theorem dL_puts_40 : decode cL_puts 40 = .ok (.invokestatic 174, 3) := by decide +kernel
theorem dL_puts_43 : decode cL_puts 43 = .ok (.iadd, 1) := by decide +kernel
theorem dL_puts_44 : decode cL_puts 44 = .ok (.istore 7, 2) := by decide +kernel
theorem dL_puts_46 : decode cL_puts 46 = .ok (.iconst 1, 1) := by decide +kernel
theorem dL_puts_47 : decode cL_puts 47 = .ok (.iload_n 2, 1) := by decide +kernel
theorem dL_puts_48 : decode cL_puts 48 = .ok (.bipush 9, 2) := by decide +kernel
theorem dL_puts_50 : decode cL_puts 50 = .ok (.ishr, 1) := by decide +kernel
theorem dL_puts_51 : decode cL_puts 51 = .ok (.bipush 100, 2) := by decide +kernel
theorem dL_puts_53 : decode cL_puts 53 = .ok (.invokestatic 174, 3) := by decide +kernel
theorem dL_puts_56 : decode cL_puts 56 = .ok (.iadd, 1) := by decide +kernel
theorem dL_puts_57 : decode cL_puts 57 = .ok (.istore 8, 2) := by decide +kernel
theorem dL_puts_59 : decode cL_puts 59 = .ok (.aload_n 0, 1) := by decide +kernel
theorem dL_puts_60 : decode cL_puts 60 = .ok (.iconst 2, 1) := by decide +kernel
theorem dL_puts_61 : decode cL_puts 61 = .ok (.invokestatic 95, 3) := by decide +kernel
theorem dL_puts_64 : decode cL_puts 64 = .ok (.istore 9, 2) := by decide +kernel
theorem dL_puts_66 : decode cL_puts 66 = .ok (.aload_n 0, 1) := by decide +kernel
theorem dL_puts_67 : decode cL_puts 67 = .ok (.bipush 6, 2) := by decide +kernel
theorem dL_puts_69 : decode cL_puts 69 = .ok (.invokestatic 95, 3) := by decide +kernel
theorem dL_puts_72 : decode cL_puts 72 = .ok (.aload_n 0, 1) := by decide +kernel
theorem dL_puts_73 : decode cL_puts 73 = .ok (.bipush 7, 2) := by decide +kernel
theorem dL_puts_75 : decode cL_puts 75 = .ok (.invokestatic 95, 3) := by decide +kernel
theorem dL_puts_78 : decode cL_puts 78 = .ok (.iadd, 1) := by decide +kernel
theorem dL_puts_79 : decode cL_puts 79 = .ok (.aload_n 0, 1) := by decide +kernel
theorem dL_puts_80 : decode cL_puts 80 = .ok (.bipush 8, 2) := by decide +kernel
theorem dL_puts_82 : decode cL_puts 82 = .ok (.invokestatic 95, 3) := by decide +kernel
theorem dL_puts_85 : decode cL_puts 85 = .ok (.iadd, 1) := by decide +kernel
theorem dL_puts_86 : decode cL_puts 86 = .ok (.istore 10, 2) := by decide +kernel
theorem dL_puts_88 : decode cL_puts 88 = .ok (.aload_n 0, 1) := by decide +kernel
theorem dL_puts_89 : decode cL_puts 89 = .ok (.iconst 0, 1) := by decide +kernel
theorem dL_puts_90 : decode cL_puts 90 = .ok (.invokestatic 95, 3) := by decide +kernel
theorem dL_puts_93 : decode cL_puts 93 = .ok (.bipush 40, 2) := by decide +kernel
theorem dL_puts_95 : decode cL_puts 95 = .ok (.if_icmp .ge 42, 3) := by decide +kernel
theorem dL_puts_98 : decode cL_puts 98 = .ok (.aload_n 0, 1) := by decide +kernel
theorem dL_puts_99 : decode cL_puts 99 = .ok (.iload_n 3, 1) := by decide +kernel
theorem dL_puts_100 : decode cL_puts 100 = .ok (.invokestatic 100, 3) := by decide +kernel
theorem dL_puts_103 : decode cL_puts 103 = .ok (.aload_n 0, 1) := by decide +kernel
theorem dL_puts_104 : decode cL_puts 104 = .ok (.bipush 11, 2) := by decide +kernel
theorem dL_puts_106 : decode cL_puts 106 = .ok (.invokestatic 95, 3) := by decide +kernel
theorem dL_puts_109 : decode cL_puts 109 = .ok (.if_icmp .ge 28, 3) := by decide +kernel
theorem dL_puts_112 : decode cL_puts 112 = .ok (.iload 5, 2) := by decide +kernel
theorem dL_puts_114 : decode cL_puts 114 = .ok (.iconst 2, 1) := by decide +kernel
theorem dL_puts_115 : decode cL_puts 115 = .ok (.if_icmp .ne 18, 3) := by decide +kernel
theorem dL_puts_118 : decode cL_puts 118 = .ok (.aload_n 0, 1) := by decide +kernel
theorem dL_puts_119 : decode cL_puts 119 = .ok (.iload 4, 2) := by decide +kernel
theorem dL_puts_121 : decode cL_puts 121 = .ok (.invokestatic 100, 3) := by decide +kernel
theorem dL_puts_124 : decode cL_puts 124 = .ok (.aload_n 0, 1) := by decide +kernel
theorem dL_puts_125 : decode cL_puts 125 = .ok (.bipush 11, 2) := by decide +kernel
theorem dL_puts_127 : decode cL_puts 127 = .ok (.invokestatic 95, 3) := by decide +kernel
theorem dL_puts_130 : decode cL_puts 130 = .ok (.if_icmp .ge 7, 3) := by decide +kernel
theorem dL_puts_133 : decode cL_puts 133 = .ok (.iconst 1, 1) := by decide +kernel
theorem dL_puts_134 : decode cL_puts 134 = .ok (.goto 4, 3) := by decide +kernel
theorem dL_puts_137 : decode cL_puts 137 = .ok (.iconst 0, 1) := by decide +kernel
theorem dL_puts_138 : decode cL_puts 138 = .ok (.istore 11, 2) := by decide +kernel
theorem dL_puts_140 : decode cL_puts 140 = .ok (.iload 5, 2) := by decide +kernel
theorem dL_puts_142 : decode cL_puts 142 = .ok (.ifCond .ne 15, 3) := by decide +kernel
theorem dL_puts_145 : decode cL_puts 145 = .ok (.aload_n 0, 1) := by decide +kernel
theorem dL_puts_146 : decode cL_puts 146 = .ok (.iload_n 3, 1) := by decide +kernel
theorem dL_puts_147 : decode cL_puts 147 = .ok (.iload 6, 2) := by decide +kernel
theorem dL_puts_149 : decode cL_puts 149 = .ok (.iload 7, 2) := by decide +kernel
theorem dL_puts_151 : decode cL_puts 151 = .ok (.invokestatic 130, 3) := by decide +kernel
theorem dL_puts_154 : decode cL_puts 154 = .ok (.goto 34, 3) := by decide +kernel
theorem dL_puts_157 : decode cL_puts 157 = .ok (.iload 5, 2) := by decide +kernel
theorem dL_puts_159 : decode cL_puts 159 = .ok (.iconst 1, 1) := by decide +kernel
theorem dL_puts_160 : decode cL_puts 160 = .ok (.if_icmp .ne 17, 3) := by decide +kernel
theorem dL_puts_163 : decode cL_puts 163 = .ok (.aload_n 0, 1) := by decide +kernel
theorem dL_puts_164 : decode cL_puts 164 = .ok (.iload_n 3, 1) := by decide +kernel
theorem dL_puts_165 : decode cL_puts 165 = .ok (.iload 6, 2) := by decide +kernel
theorem dL_puts_167 : decode cL_puts 167 = .ok (.iload 7, 2) := by decide +kernel
theorem dL_puts_169 : decode cL_puts 169 = .ok (.iload 8, 2) := by decide +kernel
theorem dL_puts_171 : decode cL_puts 171 = .ok (.invokestatic 134, 3) := by decide +kernel
theorem dL_puts_174 : decode cL_puts 174 = .ok (.goto 14, 3) := by decide +kernel
theorem dL_puts_177 : decode cL_puts 177 = .ok (.aload_n 0, 1) := by decide +kernel
theorem dL_puts_178 : decode cL_puts 178 = .ok (.iload_n 3, 1) := by decide +kernel
theorem dL_puts_179 : decode cL_puts 179 = .ok (.iload 4, 2) := by decide +kernel
theorem dL_puts_181 : decode cL_puts 181 = .ok (.iload 6, 2) := by decide +kernel
theorem dL_puts_183 : decode cL_puts 183 = .ok (.iload 7, 2) := by decide +kernel
theorem dL_puts_185 : decode cL_puts 185 = .ok (.invokestatic 138, 3) := by decide +kernel
theorem dL_puts_188 : decode cL_puts 188 = .ok (.istore 12, 2) := by decide +kernel
theorem dL_puts_190 : decode cL_puts 190 = .ok (.iload 5, 2) := by decide +kernel
theorem dL_puts_192 : decode cL_puts 192 = .ok (.iconst 2, 1) := by decide +kernel
theorem dL_puts_193 : decode cL_puts 193 = .ok (.if_icmp .ne 22, 3) := by decide +kernel
theorem dL_puts_196 : decode cL_puts 196 = .ok (.iload_n 3, 1) := by decide +kernel
theorem dL_puts_197 : decode cL_puts 197 = .ok (.iload 4, 2) := by decide +kernel
theorem dL_puts_199 : decode cL_puts 199 = .ok (.if_icmp .ne 16, 3) := by decide +kernel
theorem dL_puts_202 : decode cL_puts 202 = .ok (.iload 12, 2) := by decide +kernel
theorem dL_puts_204 : decode cL_puts 204 = .ok (.ldc 20, 2) := by decide +kernel
theorem dL_puts_206 : decode cL_puts 206 = .ok (.if_icmp .ne 7, 3) := by decide +kernel
theorem dL_puts_209 : decode cL_puts 209 = .ok (.iconst 1, 1) := by decide +kernel
theorem dL_puts_210 : decode cL_puts 210 = .ok (.goto 4, 3) := by decide +kernel
theorem dL_puts_213 : decode cL_puts 213 = .ok (.iconst 0, 1) := by decide +kernel
theorem dL_puts_214 : decode cL_puts 214 = .ok (.ireturn, 1) := by decide +kernel
theorem dL_puts_215 : decode cL_puts 215 = .ok (.iload 11, 2) := by decide +kernel
theorem dL_puts_217 : decode cL_puts 217 = .ok (.ifCond .ne 16, 3) := by decide +kernel
theorem dL_puts_220 : decode cL_puts 220 = .ok (.iload 12, 2) := by decide +kernel
theorem dL_puts_222 : decode cL_puts 222 = .ok (.ldc 34, 2) := by decide +kernel
theorem dL_puts_224 : decode cL_puts 224 = .ok (.if_icmp .ne 7, 3) := by decide +kernel
theorem dL_puts_227 : decode cL_puts 227 = .ok (.iconst 1, 1) := by decide +kernel
theorem dL_puts_228 : decode cL_puts 228 = .ok (.goto 4, 3) := by decide +kernel
theorem dL_puts_231 : decode cL_puts 231 = .ok (.iconst 0, 1) := by decide +kernel
theorem dL_puts_232 : decode cL_puts 232 = .ok (.ireturn, 1) := by decide +kernel
theorem dL_puts_233 : decode cL_puts 233 = .ok (.iload 5, 2) := by decide +kernel
theorem dL_puts_235 : decode cL_puts 235 = .ok (.iconst 1, 1) := by decide +kernel
theorem dL_puts_236 : decode cL_puts 236 = .ok (.if_icmp .ne 14, 3) := by decide +kernel
theorem dL_puts_239 : decode cL_puts 239 = .ok (.iload 6, 2) := by decide +kernel
theorem dL_puts_241 : decode cL_puts 241 = .ok (.iload 8, 2) := by decide +kernel
theorem dL_puts_243 : decode cL_puts 243 = .ok (.bipush 25, 2) := by decide +kernel
theorem dL_puts_245 : decode cL_puts 245 = .ok (.idiv, 1) := by decide +kernel
theorem dL_puts_246 : decode cL_puts 246 = .ok (.iadd, 1) := by decide +kernel
theorem dL_puts_247 : decode cL_puts 247 = .ok (.goto 5, 3) := by decide +kernel
theorem dL_puts_250 : decode cL_puts 250 = .ok (.iload 6, 2) := by decide +kernel
theorem dL_puts_252 : decode cL_puts 252 = .ok (.istore 13, 2) := by decide +kernel
theorem dL_puts_254 : decode cL_puts 254 = .ok (.iload 12, 2) := by decide +kernel
theorem dL_puts_256 : decode cL_puts 256 = .ok (.iload 9, 2) := by decide +kernel
theorem dL_puts_258 : decode cL_puts 258 = .ok (.if_icmp .ne 102, 3) := by decide +kernel
theorem dL_puts_261 : decode cL_puts 261 = .ok (.aload_n 0, 1) := by decide +kernel
theorem dL_puts_262 : decode cL_puts 262 = .ok (.iload 9, 2) := by decide +kernel
theorem dL_puts_264 : decode cL_puts 264 = .ok (.iconst 2, 1) := by decide +kernel
theorem dL_puts_265 : decode cL_puts 265 = .ok (.invokestatic 108, 3) := by decide +kernel
theorem dL_puts_268 : decode cL_puts 268 = .ok (.iload 13, 2) := by decide +kernel
theorem dL_puts_270 : decode cL_puts 270 = .ok (.iconst 4, 1) := by decide +kernel
theorem dL_puts_271 : decode cL_puts 271 = .ok (.if_icmp .le 7, 3) := by decide +kernel
theorem dL_puts_274 : decode cL_puts 274 = .ok (.iconst 4, 1) := by decide +kernel
theorem dL_puts_275 : decode cL_puts 275 = .ok (.goto 5, 3) := by decide +kernel
theorem dL_puts_278 : decode cL_puts 278 = .ok (.iload 13, 2) := by decide +kernel
theorem dL_puts_280 : decode cL_puts 280 = .ok (.if_icmp .ne 80, 3) := by decide +kernel
theorem dL_puts_283 : decode cL_puts 283 = .ok (.aload_n 0, 1) := by decide +kernel
theorem dL_puts_284 : decode cL_puts 284 = .ok (.iload 9, 2) := by decide +kernel
theorem dL_puts_286 : decode cL_puts 286 = .ok (.iconst 3, 1) := by decide +kernel
theorem dL_puts_287 : decode cL_puts 287 = .ok (.invokestatic 108, 3) := by decide +kernel
theorem dL_puts_290 : decode cL_puts 290 = .ok (.ifCond .ne 70, 3) := by decide +kernel
theorem dL_puts_293 : decode cL_puts 293 = .ok (.aload_n 0, 1) := by decide +kernel
theorem dL_puts_294 : decode cL_puts 294 = .ok (.iload 9, 2) := by decide +kernel
theorem dL_puts_296 : decode cL_puts 296 = .ok (.iconst 5, 1) := by decide +kernel
theorem dL_puts_297 : decode cL_puts 297 = .ok (.invokestatic 108, 3) := by decide +kernel
theorem dL_puts_300 : decode cL_puts 300 = .ok (.iload 7, 2) := by decide +kernel
theorem dL_puts_302 : decode cL_puts 302 = .ok (.if_icmp .ne 58, 3) := by decide +kernel
theorem dL_puts_305 : decode cL_puts 305 = .ok (.aload_n 0, 1) := by decide +kernel
theorem dL_puts_306 : decode cL_puts 306 = .ok (.iload 9, 2) := by decide +kernel
theorem dL_puts_308 : decode cL_puts 308 = .ok (.bipush 9, 2) := by decide +kernel
theorem dL_puts_310 : decode cL_puts 310 = .ok (.invokestatic 108, 3) := by decide +kernel
theorem dL_puts_313 : decode cL_puts 313 = .ok (.iload 5, 2) := by decide +kernel
theorem dL_puts_315 : decode cL_puts 315 = .ok (.if_icmp .ne 45, 3) := by decide +kernel
theorem dL_puts_318 : decode cL_puts 318 = .ok (.aload_n 0, 1) := by decide +kernel
theorem dL_puts_319 : decode cL_puts 319 = .ok (.bipush 6, 2) := by decide +kernel
theorem dL_puts_321 : decode cL_puts 321 = .ok (.invokestatic 95, 3) := by decide +kernel
theorem dL_puts_324 : decode cL_puts 324 = .ok (.aload_n 0, 1) := by decide +kernel
theorem dL_puts_325 : decode cL_puts 325 = .ok (.bipush 7, 2) := by decide +kernel
theorem dL_puts_327 : decode cL_puts 327 = .ok (.invokestatic 95, 3) := by decide +kernel
theorem dL_puts_330 : decode cL_puts 330 = .ok (.iadd, 1) := by decide +kernel
theorem dL_puts_331 : decode cL_puts 331 = .ok (.aload_n 0, 1) := by decide +kernel
theorem dL_puts_332 : decode cL_puts 332 = .ok (.bipush 8, 2) := by decide +kernel
theorem dL_puts_334 : decode cL_puts 334 = .ok (.invokestatic 95, 3) := by decide +kernel
theorem dL_puts_337 : decode cL_puts 337 = .ok (.iadd, 1) := by decide +kernel
theorem dL_puts_338 : decode cL_puts 338 = .ok (.iload 10, 2) := by decide +kernel
theorem dL_puts_340 : decode cL_puts 340 = .ok (.iload 5, 2) := by decide +kernel
theorem dL_puts_342 : decode cL_puts 342 = .ok (.iconst 1, 1) := by decide +kernel
theorem dL_puts_343 : decode cL_puts 343 = .ok (.if_icmp .ne 8, 3) := by decide +kernel
theorem dL_puts_346 : decode cL_puts 346 = .ok (.iload 8, 2) := by decide +kernel
theorem dL_puts_348 : decode cL_puts 348 = .ok (.goto 4, 3) := by decide +kernel
theorem dL_puts_351 : decode cL_puts 351 = .ok (.iconst 0, 1) := by decide +kernel
theorem dL_puts_352 : decode cL_puts 352 = .ok (.iadd, 1) := by decide +kernel
theorem dL_puts_353 : decode cL_puts 353 = .ok (.if_icmp .ne 7, 3) := by decide +kernel
theorem dL_puts_356 : decode cL_puts 356 = .ok (.iconst 1, 1) := by decide +kernel
theorem dL_puts_357 : decode cL_puts 357 = .ok (.goto 4, 3) := by decide +kernel
theorem dL_puts_360 : decode cL_puts 360 = .ok (.iconst 0, 1) := by decide +kernel
theorem dL_puts_361 : decode cL_puts 361 = .ok (.ireturn, 1) := by decide +kernel
theorem dL_acts_0 : decode cL_acts 0 = .ok (.aload_n 0, 1) := by decide +kernel
theorem dL_acts_1 : decode cL_acts 1 = .ok (.bipush 6, 2) := by decide +kernel
theorem dL_acts_3 : decode cL_acts 3 = .ok (.invokestatic 95, 3) := by decide +kernel
theorem dL_acts_6 : decode cL_acts 6 = .ok (.aload_n 0, 1) := by decide +kernel
theorem dL_acts_7 : decode cL_acts 7 = .ok (.bipush 7, 2) := by decide +kernel
theorem dL_acts_9 : decode cL_acts 9 = .ok (.invokestatic 95, 3) := by decide +kernel
theorem dL_acts_12 : decode cL_acts 12 = .ok (.iadd, 1) := by decide +kernel
theorem dL_acts_13 : decode cL_acts 13 = .ok (.aload_n 0, 1) := by decide +kernel
theorem dL_acts_14 : decode cL_acts 14 = .ok (.bipush 8, 2) := by decide +kernel
theorem dL_acts_16 : decode cL_acts 16 = .ok (.invokestatic 95, 3) := by decide +kernel
theorem dL_acts_19 : decode cL_acts 19 = .ok (.iadd, 1) := by decide +kernel
theorem dL_acts_20 : decode cL_acts 20 = .ok (.istore 4, 2) := by decide +kernel
theorem dL_acts_22 : decode cL_acts 22 = .ok (.iload_n 1, 1) := by decide +kernel
theorem dL_acts_23 : decode cL_acts 23 = .ok (.tableswitch 321 0 9 #[53, 53, 53, 53, 60, 60, 120, 120, 205, 295], 53) := by decide +kernel
theorem dL_acts_76 : decode cL_acts 76 = .ok (.aload_n 0, 1) := by decide +kernel
theorem dL_acts_77 : decode cL_acts 77 = .ok (.iload_n 2, 1) := by decide +kernel
theorem dL_acts_78 : decode cL_acts 78 = .ok (.iload_n 3, 1) := by decide +kernel
theorem dL_acts_79 : decode cL_acts 79 = .ok (.invokestatic 186, 3) := by decide +kernel
theorem dL_acts_82 : decode cL_acts 82 = .ok (.ireturn, 1) := by decide +kernel
theorem dL_acts_83 : decode cL_acts 83 = .ok (.aload_n 0, 1) := by decide +kernel
theorem dL_acts_84 : decode cL_acts 84 = .ok (.iconst 0, 1) := by decide +kernel
theorem dL_acts_85 : decode cL_acts 85 = .ok (.invokestatic 95, 3) := by decide +kernel
theorem dL_acts_88 : decode cL_acts 88 = .ok (.ifCond .ne 8, 3) := by decide +kernel
theorem dL_acts_91 : decode cL_acts 91 = .ok (.ldc 51, 2) := by decide +kernel
theorem dL_acts_93 : decode cL_acts 93 = .ok (.goto 8, 3) := by decide +kernel
theorem dL_acts_96 : decode cL_acts 96 = .ok (.aload_n 0, 1) := by decide +kernel
theorem dL_acts_97 : decode cL_acts 97 = .ok (.iconst 0, 1) := by decide +kernel
theorem dL_acts_98 : decode cL_acts 98 = .ok (.invokestatic 106, 3) := by decide +kernel
theorem dL_acts_101 : decode cL_acts 101 = .ok (.istore 5, 2) := by decide +kernel
theorem dL_acts_103 : decode cL_acts 103 = .ok (.aload_n 0, 1) := by decide +kernel
theorem dL_acts_104 : decode cL_acts 104 = .ok (.invokestatic 159, 3) := by decide +kernel
theorem dL_acts_107 : decode cL_acts 107 = .ok (.iload 5, 2) := by decide +kernel
theorem dL_acts_109 : decode cL_acts 109 = .ok (.if_icmp .ne 32, 3) := by decide +kernel
theorem dL_acts_112 : decode cL_acts 112 = .ok (.iload 4, 2) := by decide +kernel
theorem dL_acts_114 : decode cL_acts 114 = .ok (.aload_n 0, 1) := by decide +kernel
theorem dL_acts_115 : decode cL_acts 115 = .ok (.bipush 6, 2) := by decide +kernel
theorem dL_acts_117 : decode cL_acts 117 = .ok (.invokestatic 95, 3) := by decide +kernel
theorem dL_acts_120 : decode cL_acts 120 = .ok (.aload_n 0, 1) := by decide +kernel
theorem dL_acts_121 : decode cL_acts 121 = .ok (.bipush 7, 2) := by decide +kernel
theorem dL_acts_123 : decode cL_acts 123 = .ok (.invokestatic 95, 3) := by decide +kernel
theorem dL_acts_126 : decode cL_acts 126 = .ok (.iadd, 1) := by decide +kernel
theorem dL_acts_127 : decode cL_acts 127 = .ok (.aload_n 0, 1) := by decide +kernel
theorem dL_acts_128 : decode cL_acts 128 = .ok (.bipush 8, 2) := by decide +kernel
theorem dL_acts_130 : decode cL_acts 130 = .ok (.invokestatic 95, 3) := by decide +kernel
theorem dL_acts_133 : decode cL_acts 133 = .ok (.iadd, 1) := by decide +kernel
theorem dL_acts_134 : decode cL_acts 134 = .ok (.if_icmp .ne 7, 3) := by decide +kernel
theorem dL_acts_137 : decode cL_acts 137 = .ok (.iconst 1, 1) := by decide +kernel
theorem dL_acts_138 : decode cL_acts 138 = .ok (.goto 4, 3) := by decide +kernel
theorem dL_acts_141 : decode cL_acts 141 = .ok (.iconst 0, 1) := by decide +kernel
theorem dL_acts_142 : decode cL_acts 142 = .ok (.ireturn, 1) := by decide +kernel
theorem dL_acts_143 : decode cL_acts 143 = .ok (.iconst 1, 1) := by decide +kernel
theorem dL_acts_144 : decode cL_acts 144 = .ok (.iload_n 2, 1) := by decide +kernel
theorem dL_acts_145 : decode cL_acts 145 = .ok (.bipush 7, 2) := by decide +kernel
theorem dL_acts_147 : decode cL_acts 147 = .ok (.invokestatic 174, 3) := by decide +kernel
theorem dL_acts_150 : decode cL_acts 150 = .ok (.iadd, 1) := by decide +kernel
theorem dL_acts_151 : decode cL_acts 151 = .ok (.istore 5, 2) := by decide +kernel
theorem dL_acts_153 : decode cL_acts 153 = .ok (.aload_n 0, 1) := by decide +kernel
theorem dL_acts_154 : decode cL_acts 154 = .ok (.iconst 4, 1) := by decide +kernel
theorem dL_acts_155 : decode cL_acts 155 = .ok (.invokestatic 95, 3) := by decide +kernel
theorem dL_acts_158 : decode cL_acts 158 = .ok (.istore 6, 2) := by decide +kernel
theorem dL_acts_160 : decode cL_acts 160 = .ok (.aload_n 0, 1) := by decide +kernel
theorem dL_acts_161 : decode cL_acts 161 = .ok (.iconst 1, 1) := by decide +kernel
theorem dL_acts_162 : decode cL_acts 162 = .ok (.invokestatic 95, 3) := by decide +kernel
theorem dL_acts_165 : decode cL_acts 165 = .ok (.istore 7, 2) := by decide +kernel
theorem dL_acts_167 : decode cL_acts 167 = .ok (.aload_n 0, 1) := by decide +kernel
theorem dL_acts_168 : decode cL_acts 168 = .ok (.iload 5, 2) := by decide +kernel
theorem dL_acts_170 : decode cL_acts 170 = .ok (.invokestatic 144, 3) := by decide +kernel
theorem dL_acts_173 : decode cL_acts 173 = .ok (.aload_n 0, 1) := by decide +kernel
theorem dL_acts_174 : decode cL_acts 174 = .ok (.iconst 4, 1) := by decide +kernel
theorem dL_acts_175 : decode cL_acts 175 = .ok (.invokestatic 95, 3) := by decide +kernel
theorem dL_acts_178 : decode cL_acts 178 = .ok (.iload 6, 2) := by decide +kernel
theorem dL_acts_180 : decode cL_acts 180 = .ok (.isub, 1) := by decide +kernel
theorem dL_acts_181 : decode cL_acts 181 = .ok (.if_icmp .ne 45, 3) := by decide +kernel
theorem dL_acts_184 : decode cL_acts 184 = .ok (.aload_n 0, 1) := by decide +kernel
theorem dL_acts_185 : decode cL_acts 185 = .ok (.iconst 1, 1) := by decide +kernel
theorem dL_acts_186 : decode cL_acts 186 = .ok (.invokestatic 95, 3) := by decide +kernel
theorem dL_acts_189 : decode cL_acts 189 = .ok (.iload 7, 2) := by decide +kernel
theorem dL_acts_191 : decode cL_acts 191 = .ok (.iload 5, 2) := by decide +kernel
theorem dL_acts_193 : decode cL_acts 193 = .ok (.iadd, 1) := by decide +kernel
theorem dL_acts_194 : decode cL_acts 194 = .ok (.if_icmp .ne 32, 3) := by decide +kernel
theorem dL_acts_197 : decode cL_acts 197 = .ok (.iload 4, 2) := by decide +kernel
theorem dL_acts_199 : decode cL_acts 199 = .ok (.aload_n 0, 1) := by decide +kernel
theorem dL_acts_200 : decode cL_acts 200 = .ok (.bipush 6, 2) := by decide +kernel
theorem dL_acts_202 : decode cL_acts 202 = .ok (.invokestatic 95, 3) := by decide +kernel
theorem dL_acts_205 : decode cL_acts 205 = .ok (.aload_n 0, 1) := by decide +kernel
theorem dL_acts_206 : decode cL_acts 206 = .ok (.bipush 7, 2) := by decide +kernel
theorem dL_acts_208 : decode cL_acts 208 = .ok (.invokestatic 95, 3) := by decide +kernel
theorem dL_acts_211 : decode cL_acts 211 = .ok (.iadd, 1) := by decide +kernel
theorem dL_acts_212 : decode cL_acts 212 = .ok (.aload_n 0, 1) := by decide +kernel
theorem dL_acts_213 : decode cL_acts 213 = .ok (.bipush 8, 2) := by decide +kernel
theorem dL_acts_215 : decode cL_acts 215 = .ok (.invokestatic 95, 3) := by decide +kernel
theorem dL_acts_218 : decode cL_acts 218 = .ok (.iadd, 1) := by decide +kernel
theorem dL_acts_219 : decode cL_acts 219 = .ok (.if_icmp .ne 7, 3) := by decide +kernel
theorem dL_acts_222 : decode cL_acts 222 = .ok (.iconst 1, 1) := by decide +kernel
theorem dL_acts_223 : decode cL_acts 223 = .ok (.goto 4, 3) := by decide +kernel
theorem dL_acts_226 : decode cL_acts 226 = .ok (.iconst 0, 1) := by decide +kernel
theorem dL_acts_227 : decode cL_acts 227 = .ok (.ireturn, 1) := by decide +kernel
theorem dL_acts_228 : decode cL_acts 228 = .ok (.aload_n 0, 1) := by decide +kernel
theorem dL_acts_229 : decode cL_acts 229 = .ok (.iconst 0, 1) := by decide +kernel
theorem dL_acts_230 : decode cL_acts 230 = .ok (.invokestatic 95, 3) := by decide +kernel
theorem dL_acts_233 : decode cL_acts 233 = .ok (.ifCond .ne 5, 3) := by decide +kernel
theorem dL_acts_236 : decode cL_acts 236 = .ok (.iconst 1, 1) := by decide +kernel
theorem dL_acts_237 : decode cL_acts 237 = .ok (.ireturn, 1) := by decide +kernel
theorem dL_acts_238 : decode cL_acts 238 = .ok (.aload_n 0, 1) := by decide +kernel
theorem dL_acts_239 : decode cL_acts 239 = .ok (.iload_n 2, 1) := by decide +kernel
theorem dL_acts_240 : decode cL_acts 240 = .ok (.aload_n 0, 1) := by decide +kernel
theorem dL_acts_241 : decode cL_acts 241 = .ok (.iconst 0, 1) := by decide +kernel
theorem dL_acts_242 : decode cL_acts 242 = .ok (.invokestatic 95, 3) := by decide +kernel
theorem dL_acts_245 : decode cL_acts 245 = .ok (.invokestatic 174, 3) := by decide +kernel
theorem dL_acts_248 : decode cL_acts 248 = .ok (.invokestatic 106, 3) := by decide +kernel
theorem dL_acts_251 : decode cL_acts 251 = .ok (.istore 5, 2) := by decide +kernel
theorem dL_acts_253 : decode cL_acts 253 = .ok (.aload_n 0, 1) := by decide +kernel
theorem dL_acts_254 : decode cL_acts 254 = .ok (.iload 5, 2) := by decide +kernel
theorem dL_acts_256 : decode cL_acts 256 = .ok (.bipush 6, 2) := by decide +kernel
theorem dL_acts_258 : decode cL_acts 258 = .ok (.invokestatic 108, 3) := by decide +kernel
theorem dL_acts_261 : decode cL_acts 261 = .ok (.istore 6, 2) := by decide +kernel
theorem dL_acts_263 : decode cL_acts 263 = .ok (.aload_n 0, 1) := by decide +kernel
theorem dL_acts_264 : decode cL_acts 264 = .ok (.iload 5, 2) := by decide +kernel
theorem dL_acts_266 : decode cL_acts 266 = .ok (.invokestatic 141, 3) := by decide +kernel
theorem dL_acts_269 : decode cL_acts 269 = .ok (.iload 6, 2) := by decide +kernel
theorem dL_acts_271 : decode cL_acts 271 = .ok (.iload 6, 2) := by decide +kernel
theorem dL_acts_273 : decode cL_acts 273 = .ok (.iconst 4, 1) := by decide +kernel
theorem dL_acts_274 : decode cL_acts 274 = .ok (.idiv, 1) := by decide +kernel
theorem dL_acts_275 : decode cL_acts 275 = .ok (.isub, 1) := by decide +kernel
theorem dL_acts_276 : decode cL_acts 276 = .ok (.if_icmp .ne 40, 3) := by decide +kernel
theorem dL_acts_279 : decode cL_acts 279 = .ok (.aload_n 0, 1) := by decide +kernel
theorem dL_acts_280 : decode cL_acts 280 = .ok (.iload 5, 2) := by decide +kernel
theorem dL_acts_282 : decode cL_acts 282 = .ok (.iconst 0, 1) := by decide +kernel
theorem dL_acts_283 : decode cL_acts 283 = .ok (.invokestatic 108, 3) := by decide +kernel
theorem dL_acts_286 : decode cL_acts 286 = .ok (.ldc 17, 2) := by decide +kernel
theorem dL_acts_288 : decode cL_acts 288 = .ok (.if_icmp .ne 28, 3) := by decide +kernel
theorem dL_acts_291 : decode cL_acts 291 = .ok (.aload_n 0, 1) := by decide +kernel
theorem dL_acts_292 : decode cL_acts 292 = .ok (.iconst 0, 1) := by decide +kernel
theorem dL_acts_293 : decode cL_acts 293 = .ok (.iconst 1, 1) := by decide +kernel
theorem dL_acts_294 : decode cL_acts 294 = .ok (.invokestatic 115, 3) := by decide +kernel
theorem dL_acts_297 : decode cL_acts 297 = .ok (.iconst 2, 1) := by decide +kernel
theorem dL_acts_298 : decode cL_acts 298 = .ok (.if_icmp .ne 18, 3) := by decide +kernel
theorem dL_acts_301 : decode cL_acts 301 = .ok (.aload_n 0, 1) := by decide +kernel
theorem dL_acts_302 : decode cL_acts 302 = .ok (.iconst 0, 1) := by decide +kernel
theorem dL_acts_303 : decode cL_acts 303 = .ok (.iconst 0, 1) := by decide +kernel
theorem dL_acts_304 : decode cL_acts 304 = .ok (.invokestatic 115, 3) := by decide +kernel
theorem dL_acts_307 : decode cL_acts 307 = .ok (.iload 5, 2) := by decide +kernel
theorem dL_acts_309 : decode cL_acts 309 = .ok (.if_icmp .ne 7, 3) := by decide +kernel
theorem dL_acts_312 : decode cL_acts 312 = .ok (.iconst 1, 1) := by decide +kernel
theorem dL_acts_313 : decode cL_acts 313 = .ok (.goto 4, 3) := by decide +kernel
theorem dL_acts_316 : decode cL_acts 316 = .ok (.iconst 0, 1) := by decide +kernel
theorem dL_acts_317 : decode cL_acts 317 = .ok (.ireturn, 1) := by decide +kernel
theorem dL_acts_318 : decode cL_acts 318 = .ok (.aload_n 0, 1) := by decide +kernel
theorem dL_acts_319 : decode cL_acts 319 = .ok (.iload_n 2, 1) := by decide +kernel
theorem dL_acts_320 : decode cL_acts 320 = .ok (.iconst 4, 1) := by decide +kernel
theorem dL_acts_321 : decode cL_acts 321 = .ok (.invokestatic 174, 3) := by decide +kernel
theorem dL_acts_324 : decode cL_acts 324 = .ok (.iconst 1, 1) := by decide +kernel
theorem dL_acts_325 : decode cL_acts 325 = .ok (.iload_n 3, 1) := by decide +kernel
theorem dL_acts_326 : decode cL_acts 326 = .ok (.bipush 12, 2) := by decide +kernel
theorem dL_acts_328 : decode cL_acts 328 = .ok (.invokestatic 174, 3) := by decide +kernel
theorem dL_acts_331 : decode cL_acts 331 = .ok (.iadd, 1) := by decide +kernel
theorem dL_acts_332 : decode cL_acts 332 = .ok (.invokestatic 121, 3) := by decide +kernel
theorem dL_acts_335 : decode cL_acts 335 = .ok (.ifCond .le 7, 3) := by decide +kernel
theorem dL_acts_338 : decode cL_acts 338 = .ok (.iconst 1, 1) := by decide +kernel
theorem dL_acts_339 : decode cL_acts 339 = .ok (.goto 4, 3) := by decide +kernel
theorem dL_acts_342 : decode cL_acts 342 = .ok (.iconst 0, 1) := by decide +kernel
theorem dL_acts_343 : decode cL_acts 343 = .ok (.ireturn, 1) := by decide +kernel
theorem dL_acts_344 : decode cL_acts 344 = .ok (.iload_n 2, 1) := by decide +kernel
theorem dL_acts_345 : decode cL_acts 345 = .ok (.iconst 2, 1) := by decide +kernel
theorem dL_acts_346 : decode cL_acts 346 = .ok (.invokestatic 174, 3) := by decide +kernel
theorem dL_acts_349 : decode cL_acts 349 = .ok (.ifCond .ne 43, 3) := by decide +kernel
theorem dL_acts_352 : decode cL_acts 352 = .ok (.aload_n 0, 1) := by decide +kernel
theorem dL_acts_353 : decode cL_acts 353 = .ok (.iconst 1, 1) := by decide +kernel
theorem dL_acts_354 : decode cL_acts 354 = .ok (.iload_n 3, 1) := by decide +kernel
theorem dL_acts_355 : decode cL_acts 355 = .ok (.bipush 10, 2) := by decide +kernel
theorem dL_acts_357 : decode cL_acts 357 = .ok (.invokestatic 174, 3) := by decide +kernel
theorem dL_acts_360 : decode cL_acts 360 = .ok (.iadd, 1) := by decide +kernel
theorem dL_acts_361 : decode cL_acts 361 = .ok (.invokestatic 124, 3) := by decide +kernel
theorem dL_acts_364 : decode cL_acts 364 = .ok (.ifCond .lt 24, 3) := by decide +kernel
theorem dL_acts_367 : decode cL_acts 367 = .ok (.aload_n 0, 1) := by decide +kernel
theorem dL_acts_368 : decode cL_acts 368 = .ok (.bipush 11, 2) := by decide +kernel
theorem dL_acts_370 : decode cL_acts 370 = .ok (.invokestatic 95, 3) := by decide +kernel
theorem dL_acts_373 : decode cL_acts 373 = .ok (.iconst 1, 1) := by decide +kernel
theorem dL_acts_374 : decode cL_acts 374 = .ok (.iload_n 3, 1) := by decide +kernel
theorem dL_acts_375 : decode cL_acts 375 = .ok (.bipush 10, 2) := by decide +kernel
theorem dL_acts_377 : decode cL_acts 377 = .ok (.invokestatic 174, 3) := by decide +kernel
theorem dL_acts_380 : decode cL_acts 380 = .ok (.iadd, 1) := by decide +kernel
theorem dL_acts_381 : decode cL_acts 381 = .ok (.if_icmp .ne 7, 3) := by decide +kernel
theorem dL_acts_384 : decode cL_acts 384 = .ok (.iconst 1, 1) := by decide +kernel
theorem dL_acts_385 : decode cL_acts 385 = .ok (.goto 40, 3) := by decide +kernel
theorem dL_acts_388 : decode cL_acts 388 = .ok (.iconst 0, 1) := by decide +kernel
theorem dL_acts_389 : decode cL_acts 389 = .ok (.goto 36, 3) := by decide +kernel
theorem dL_acts_392 : decode cL_acts 392 = .ok (.aload_n 0, 1) := by decide +kernel
theorem dL_acts_393 : decode cL_acts 393 = .ok (.iload_n 3, 1) := by decide +kernel
theorem dL_acts_394 : decode cL_acts 394 = .ok (.bipush 20, 2) := by decide +kernel
theorem dL_acts_396 : decode cL_acts 396 = .ok (.invokestatic 174, 3) := by decide +kernel
theorem dL_acts_399 : decode cL_acts 399 = .ok (.invokestatic 127, 3) := by decide +kernel
theorem dL_acts_402 : decode cL_acts 402 = .ok (.ifCond .lt 22, 3) := by decide +kernel
theorem dL_acts_405 : decode cL_acts 405 = .ok (.aload_n 0, 1) := by decide +kernel
theorem dL_acts_406 : decode cL_acts 406 = .ok (.bipush 12, 2) := by decide +kernel
theorem dL_acts_408 : decode cL_acts 408 = .ok (.invokestatic 95, 3) := by decide +kernel
theorem dL_acts_411 : decode cL_acts 411 = .ok (.iload_n 3, 1) := by decide +kernel
theorem dL_acts_412 : decode cL_acts 412 = .ok (.bipush 20, 2) := by decide +kernel
theorem dL_acts_414 : decode cL_acts 414 = .ok (.invokestatic 174, 3) := by decide +kernel
theorem dL_acts_417 : decode cL_acts 417 = .ok (.if_icmp .ne 7, 3) := by decide +kernel
theorem dL_acts_420 : decode cL_acts 420 = .ok (.iconst 1, 1) := by decide +kernel
theorem dL_acts_421 : decode cL_acts 421 = .ok (.goto 4, 3) := by decide +kernel
theorem dL_acts_424 : decode cL_acts 424 = .ok (.iconst 0, 1) := by decide +kernel
theorem dL_acts_425 : decode cL_acts 425 = .ok (.ireturn, 1) := by decide +kernel
theorem dL_law_0 : decode cL_law 0 = .ok (.new 10, 3) := by decide +kernel
theorem dL_law_3 : decode cL_law 3 = .ok (.dup, 1) := by decide +kernel
theorem dL_law_4 : decode cL_law 4 = .ok (.invokespecial 189, 3) := by decide +kernel
theorem dL_law_7 : decode cL_law 7 = .ok (.astore_n 1, 1) := by decide +kernel
theorem dL_law_8 : decode cL_law 8 = .ok (.aload_n 1, 1) := by decide +kernel
theorem dL_law_9 : decode cL_law 9 = .ok (.invokestatic 177, 3) := by decide +kernel
theorem dL_law_12 : decode cL_law 12 = .ok (.ldc 34, 2) := by decide +kernel
theorem dL_law_14 : decode cL_law 14 = .ok (.if_icmp .ne 21, 3) := by decide +kernel
theorem dL_law_17 : decode cL_law 17 = .ok (.aload_n 1, 1) := by decide +kernel
theorem dL_law_18 : decode cL_law 18 = .ok (.invokestatic 190, 3) := by decide +kernel
theorem dL_law_21 : decode cL_law 21 = .ok (.ifCond .eq 14, 3) := by decide +kernel
theorem dL_law_24 : decode cL_law 24 = .ok (.aload_n 1, 1) := by decide +kernel
theorem dL_law_25 : decode cL_law 25 = .ok (.invokestatic 194, 3) := by decide +kernel
theorem dL_law_28 : decode cL_law 28 = .ok (.ifCond .eq 7, 3) := by decide +kernel
theorem dL_law_31 : decode cL_law 31 = .ok (.iconst 1, 1) := by decide +kernel
theorem dL_law_32 : decode cL_law 32 = .ok (.goto 4, 3) := by decide +kernel
theorem dL_law_35 : decode cL_law 35 = .ok (.iconst 0, 1) := by decide +kernel
theorem dL_law_36 : decode cL_law 36 = .ok (.istore_n 2, 1) := by decide +kernel
theorem dL_law_37 : decode cL_law 37 = .ok (.iconst 0, 1) := by decide +kernel
theorem dL_law_38 : decode cL_law 38 = .ok (.istore_n 3, 1) := by decide +kernel
theorem dL_law_39 : decode cL_law 39 = .ok (.iload_n 3, 1) := by decide +kernel
theorem dL_law_40 : decode cL_law 40 = .ok (.bipush 40, 2) := by decide +kernel
theorem dL_law_42 : decode cL_law 42 = .ok (.if_icmp .ge 242, 3) := by decide +kernel
theorem dL_law_45 : decode cL_law 45 = .ok (.iload_n 2, 1) := by decide +kernel
theorem dL_law_46 : decode cL_law 46 = .ok (.ifCond .eq 238, 3) := by decide +kernel
theorem dL_law_49 : decode cL_law 49 = .ok (.aload_n 0, 1) := by decide +kernel
theorem dL_law_50 : decode cL_law 50 = .ok (.iconst 2, 1) := by decide +kernel
theorem dL_law_51 : decode cL_law 51 = .ok (.iload_n 3, 1) := by decide +kernel
theorem dL_law_52 : decode cL_law 52 = .ok (.imul, 1) := by decide +kernel
theorem dL_law_53 : decode cL_law 53 = .ok (.invokestatic 197, 3) := by decide +kernel
theorem dL_law_56 : decode cL_law 56 = .ok (.istore 4, 2) := by decide +kernel
theorem dL_law_58 : decode cL_law 58 = .ok (.aload_n 0, 1) := by decide +kernel
theorem dL_law_59 : decode cL_law 59 = .ok (.iconst 2, 1) := by decide +kernel
theorem dL_law_60 : decode cL_law 60 = .ok (.iload_n 3, 1) := by decide +kernel
theorem dL_law_61 : decode cL_law 61 = .ok (.imul, 1) := by decide +kernel
theorem dL_law_62 : decode cL_law 62 = .ok (.iconst 1, 1) := by decide +kernel
theorem dL_law_63 : decode cL_law 63 = .ok (.iadd, 1) := by decide +kernel
theorem dL_law_64 : decode cL_law 64 = .ok (.invokestatic 197, 3) := by decide +kernel
theorem dL_law_67 : decode cL_law 67 = .ok (.istore 5, 2) := by decide +kernel
theorem dL_law_69 : decode cL_law 69 = .ok (.aload_n 1, 1) := by decide +kernel
theorem dL_law_70 : decode cL_law 70 = .ok (.iload_n 3, 1) := by decide +kernel
theorem dL_law_71 : decode cL_law 71 = .ok (.iconst 5, 1) := by decide +kernel
theorem dL_law_72 : decode cL_law 72 = .ok (.if_icmp .ge 7, 3) := by decide +kernel
theorem dL_law_75 : decode cL_law 75 = .ok (.iconst 0, 1) := by decide +kernel
theorem dL_law_76 : decode cL_law 76 = .ok (.goto 12, 3) := by decide +kernel
theorem dL_law_79 : decode cL_law 79 = .ok (.iload 5, 2) := by decide +kernel
theorem dL_law_81 : decode cL_law 81 = .ok (.iconst 2, 1) := by decide +kernel
theorem dL_law_82 : decode cL_law 82 = .ok (.ishr, 1) := by decide +kernel
theorem dL_law_83 : decode cL_law 83 = .ok (.bipush 11, 2) := by decide +kernel
theorem dL_law_85 : decode cL_law 85 = .ok (.invokestatic 174, 3) := by decide +kernel
theorem dL_law_88 : decode cL_law 88 = .ok (.iload 4, 2) := by decide +kernel
theorem dL_law_90 : decode cL_law 90 = .ok (.iload 5, 2) := by decide +kernel
theorem dL_law_92 : decode cL_law 92 = .ok (.bipush 6, 2) := by decide +kernel
theorem dL_law_94 : decode cL_law 94 = .ok (.ishr, 1) := by decide +kernel
theorem dL_law_95 : decode cL_law 95 = .ok (.invokestatic 201, 3) := by decide +kernel
theorem dL_law_98 : decode cL_law 98 = .ok (.ifCond .eq 79, 3) := by decide +kernel
theorem dL_law_101 : decode cL_law 101 = .ok (.aload_n 1, 1) := by decide +kernel
theorem dL_law_102 : decode cL_law 102 = .ok (.invokestatic 194, 3) := by decide +kernel
theorem dL_law_105 : decode cL_law 105 = .ok (.ifCond .eq 72, 3) := by decide +kernel
theorem dL_law_108 : decode cL_law 108 = .ok (.iload_n 3, 1) := by decide +kernel
theorem dL_law_109 : decode cL_law 109 = .ok (.bipush 7, 2) := by decide +kernel
theorem dL_law_111 : decode cL_law 111 = .ok (.irem, 1) := by decide +kernel
theorem dL_law_112 : decode cL_law 112 = .ok (.iconst 5, 1) := by decide +kernel
theorem dL_law_113 : decode cL_law 113 = .ok (.if_icmp .ne 10, 3) := by decide +kernel
theorem dL_law_116 : decode cL_law 116 = .ok (.aload_n 1, 1) := by decide +kernel
theorem dL_law_117 : decode cL_law 117 = .ok (.invokestatic 190, 3) := by decide +kernel
theorem dL_law_120 : decode cL_law 120 = .ok (.ifCond .eq 57, 3) := by decide +kernel
theorem dL_law_123 : decode cL_law 123 = .ok (.iload_n 3, 1) := by decide +kernel
theorem dL_law_124 : decode cL_law 124 = .ok (.iconst 3, 1) := by decide +kernel
theorem dL_law_125 : decode cL_law 125 = .ok (.irem, 1) := by decide +kernel
theorem dL_law_126 : decode cL_law 126 = .ok (.iconst 1, 1) := by decide +kernel
theorem dL_law_127 : decode cL_law 127 = .ok (.if_icmp .ne 22, 3) := by decide +kernel
theorem dL_law_130 : decode cL_law 130 = .ok (.aload_n 1, 1) := by decide +kernel
theorem dL_law_131 : decode cL_law 131 = .ok (.iconst 0, 1) := by decide +kernel
theorem dL_law_132 : decode cL_law 132 = .ok (.invokestatic 95, 3) := by decide +kernel
theorem dL_law_135 : decode cL_law 135 = .ok (.ifCond .eq 14, 3) := by decide +kernel
theorem dL_law_138 : decode cL_law 138 = .ok (.aload_n 1, 1) := by decide +kernel
theorem dL_law_139 : decode cL_law 139 = .ok (.iload 4, 2) := by decide +kernel
theorem dL_law_141 : decode cL_law 141 = .ok (.iconst 3, 1) := by decide +kernel
theorem dL_law_142 : decode cL_law 142 = .ok (.ishr, 1) := by decide +kernel
theorem dL_law_143 : decode cL_law 143 = .ok (.invokestatic 205, 3) := by decide +kernel
theorem dL_law_146 : decode cL_law 146 = .ok (.ifCond .eq 31, 3) := by decide +kernel
theorem dL_law_149 : decode cL_law 149 = .ok (.aload_n 1, 1) := by decide +kernel
theorem dL_law_150 : decode cL_law 150 = .ok (.iload 4, 2) := by decide +kernel
theorem dL_law_152 : decode cL_law 152 = .ok (.iconst 4, 1) := by decide +kernel
theorem dL_law_153 : decode cL_law 153 = .ok (.ishr, 1) := by decide +kernel
theorem dL_law_154 : decode cL_law 154 = .ok (.iconst 5, 1) := by decide +kernel
theorem dL_law_155 : decode cL_law 155 = .ok (.invokestatic 174, 3) := by decide +kernel
theorem dL_law_158 : decode cL_law 158 = .ok (.iload 5, 2) := by decide +kernel
theorem dL_law_160 : decode cL_law 160 = .ok (.iconst 4, 1) := by decide +kernel
theorem dL_law_161 : decode cL_law 161 = .ok (.ishr, 1) := by decide +kernel
theorem dL_law_162 : decode cL_law 162 = .ok (.bipush 8, 2) := by decide +kernel
theorem dL_law_164 : decode cL_law 164 = .ok (.invokestatic 174, 3) := by decide +kernel
theorem dL_law_167 : decode cL_law 167 = .ok (.invokestatic 209, 3) := by decide +kernel
theorem dL_law_170 : decode cL_law 170 = .ok (.ifCond .eq 7, 3) := by decide +kernel
theorem dL_law_173 : decode cL_law 173 = .ok (.iconst 1, 1) := by decide +kernel
theorem dL_law_174 : decode cL_law 174 = .ok (.goto 4, 3) := by decide +kernel
theorem dL_law_177 : decode cL_law 177 = .ok (.iconst 0, 1) := by decide +kernel
theorem dL_law_178 : decode cL_law 178 = .ok (.istore_n 2, 1) := by decide +kernel
theorem dL_law_179 : decode cL_law 179 = .ok (.iload_n 2, 1) := by decide +kernel
theorem dL_law_180 : decode cL_law 180 = .ok (.ifCond .eq 98, 3) := by decide +kernel
theorem dL_law_183 : decode cL_law 183 = .ok (.iload_n 3, 1) := by decide +kernel
theorem dL_law_184 : decode cL_law 184 = .ok (.iconst 5, 1) := by decide +kernel
theorem dL_law_185 : decode cL_law 185 = .ok (.irem, 1) := by decide +kernel
theorem dL_law_186 : decode cL_law 186 = .ok (.iconst 4, 1) := by decide +kernel
theorem dL_law_187 : decode cL_law 187 = .ok (.if_icmp .ne 91, 3) := by decide +kernel
theorem dL_law_190 : decode cL_law 190 = .ok (.aload_n 1, 1) := by decide +kernel
theorem dL_law_191 : decode cL_law 191 = .ok (.invokestatic 117, 3) := by decide +kernel
theorem dL_law_194 : decode cL_law 194 = .ok (.lstore 6, 2) := by decide +kernel
theorem dL_law_196 : decode cL_law 196 = .ok (.aload_n 1, 1) := by decide +kernel
theorem dL_law_197 : decode cL_law 197 = .ok (.iload 4, 2) := by decide +kernel
theorem dL_law_199 : decode cL_law 199 = .ok (.sipush 201, 3) := by decide +kernel
theorem dL_law_202 : decode cL_law 202 = .ok (.invokestatic 174, 3) := by decide +kernel
theorem dL_law_205 : decode cL_law 205 = .ok (.invokestatic 127, 3) := by decide +kernel
theorem dL_law_208 : decode cL_law 208 = .ok (.ifCond .lt 68, 3) := by decide +kernel
theorem dL_law_211 : decode cL_law 211 = .ok (.aload_n 1, 1) := by decide +kernel
theorem dL_law_212 : decode cL_law 212 = .ok (.iconst 1, 1) := by decide +kernel
theorem dL_law_213 : decode cL_law 213 = .ok (.iload 5, 2) := by decide +kernel
theorem dL_law_215 : decode cL_law 215 = .ok (.bipush 90, 2) := by decide +kernel
theorem dL_law_217 : decode cL_law 217 = .ok (.invokestatic 174, 3) := by decide +kernel
theorem dL_law_220 : decode cL_law 220 = .ok (.iadd, 1) := by decide +kernel
theorem dL_law_221 : decode cL_law 221 = .ok (.invokestatic 144, 3) := by decide +kernel
theorem dL_law_224 : decode cL_law 224 = .ok (.ifCond .lt 52, 3) := by decide +kernel
theorem dL_law_227 : decode cL_law 227 = .ok (.aload_n 1, 1) := by decide +kernel
theorem dL_law_228 : decode cL_law 228 = .ok (.iload 4, 2) := by decide +kernel
theorem dL_law_230 : decode cL_law 230 = .ok (.bipush 11, 2) := by decide +kernel
theorem dL_law_232 : decode cL_law 232 = .ok (.invokestatic 174, 3) := by decide +kernel
theorem dL_law_235 : decode cL_law 235 = .ok (.invokestatic 124, 3) := by decide +kernel
theorem dL_law_238 : decode cL_law 238 = .ok (.ifCond .lt 38, 3) := by decide +kernel
theorem dL_law_241 : decode cL_law 241 = .ok (.aload_n 1, 1) := by decide +kernel
theorem dL_law_242 : decode cL_law 242 = .ok (.invokestatic 177, 3) := by decide +kernel
theorem dL_law_245 : decode cL_law 245 = .ok (.ifCond .lt 31, 3) := by decide +kernel
theorem dL_law_248 : decode cL_law 248 = .ok (.aload_n 1, 1) := by decide +kernel
theorem dL_law_249 : decode cL_law 249 = .ok (.invokestatic 177, 3) := by decide +kernel
theorem dL_law_252 : decode cL_law 252 = .ok (.ifCond .lt 24, 3) := by decide +kernel
theorem dL_law_255 : decode cL_law 255 = .ok (.aload_n 1, 1) := by decide +kernel
theorem dL_law_256 : decode cL_law 256 = .ok (.invokestatic 177, 3) := by decide +kernel
theorem dL_law_259 : decode cL_law 259 = .ok (.ifCond .lt 17, 3) := by decide +kernel
theorem dL_law_262 : decode cL_law 262 = .ok (.aload_n 1, 1) := by decide +kernel
theorem dL_law_263 : decode cL_law 263 = .ok (.invokestatic 117, 3) := by decide +kernel
theorem dL_law_266 : decode cL_law 266 = .ok (.lload 6, 2) := by decide +kernel
theorem dL_law_268 : decode cL_law 268 = .ok (.lcmp, 1) := by decide +kernel
theorem dL_law_269 : decode cL_law 269 = .ok (.ifCond .ne 7, 3) := by decide +kernel
theorem dL_law_272 : decode cL_law 272 = .ok (.iconst 1, 1) := by decide +kernel
theorem dL_law_273 : decode cL_law 273 = .ok (.goto 4, 3) := by decide +kernel
theorem dL_law_276 : decode cL_law 276 = .ok (.iconst 0, 1) := by decide +kernel
theorem dL_law_277 : decode cL_law 277 = .ok (.istore_n 2, 1) := by decide +kernel
theorem dL_law_278 : decode cL_law 278 = .ok (.iinc 3 1, 3) := by decide +kernel
theorem dL_law_281 : decode cL_law 281 = .ok (.goto (-242), 3) := by decide +kernel
theorem dL_law_284 : decode cL_law 284 = .ok (.iload_n 2, 1) := by decide +kernel
theorem dL_law_285 : decode cL_law 285 = .ok (.ifCond .eq 14, 3) := by decide +kernel
theorem dL_law_288 : decode cL_law 288 = .ok (.aload_n 1, 1) := by decide +kernel
theorem dL_law_289 : decode cL_law 289 = .ok (.invokestatic 190, 3) := by decide +kernel
theorem dL_law_292 : decode cL_law 292 = .ok (.ifCond .eq 7, 3) := by decide +kernel
theorem dL_law_295 : decode cL_law 295 = .ok (.iconst 1, 1) := by decide +kernel
theorem dL_law_296 : decode cL_law 296 = .ok (.goto 4, 3) := by decide +kernel
theorem dL_law_299 : decode cL_law 299 = .ok (.iconst 0, 1) := by decide +kernel
theorem dL_law_300 : decode cL_law 300 = .ok (.ireturn, 1) := by decide +kernel
