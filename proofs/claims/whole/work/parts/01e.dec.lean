theorem dn_d_Law_cell_0 : decode dn_c_Law_cell 0 = .ok (.iload_n 1, 1) := by decide +kernel
theorem dn_d_Law_cell_1 : decode dn_c_Law_cell 1 = .ok (.aload_n 0, 1) := by decide +kernel
theorem dn_d_Law_cell_2 : decode dn_c_Law_cell 2 = .ok (.arraylength, 1) := by decide +kernel
theorem dn_d_Law_cell_3 : decode dn_c_Law_cell 3 = .ok (.if_icmp .ge 9, 3) := by decide +kernel
theorem dn_d_Law_cell_6 : decode dn_c_Law_cell 6 = .ok (.aload_n 0, 1) := by decide +kernel
theorem dn_d_Law_cell_7 : decode dn_c_Law_cell 7 = .ok (.iload_n 1, 1) := by decide +kernel
theorem dn_d_Law_cell_8 : decode dn_c_Law_cell 8 = .ok (.iaload, 1) := by decide +kernel
theorem dn_d_Law_cell_9 : decode dn_c_Law_cell 9 = .ok (.goto 4, 3) := by decide +kernel
theorem dn_d_Law_cell_12 : decode dn_c_Law_cell 12 = .ok (.iconst 0, 1) := by decide +kernel
theorem dn_d_Law_cell_13 : decode dn_c_Law_cell 13 = .ok (.ireturn, 1) := by decide +kernel
theorem dn_d_Law_load_0 : decode dn_c_Law_load 0 = .ok (.aload 4, 2) := by decide +kernel
theorem dn_d_Law_load_2 : decode dn_c_Law_load 2 = .ok (.iconst 0, 1) := by decide +kernel
theorem dn_d_Law_load_3 : decode dn_c_Law_load 3 = .ok (.aload_n 0, 1) := by decide +kernel
theorem dn_d_Law_load_4 : decode dn_c_Law_load 4 = .ok (.iload_n 1, 1) := by decide +kernel
theorem dn_d_Law_load_5 : decode dn_c_Law_load 5 = .ok (.lload_n 2, 1) := by decide +kernel
theorem dn_d_Law_load_6 : decode dn_c_Law_load 6 = .ok (.invokevirtual 7, 3) := by decide +kernel
theorem dn_d_Law_load_9 : decode dn_c_Law_load 9 = .ok (.i2l, 1) := by decide +kernel
theorem dn_d_Law_load_10 : decode dn_c_Law_load 10 = .ok (.lastore, 1) := by decide +kernel
theorem dn_d_Law_load_11 : decode dn_c_Law_load 11 = .ok (.goto 11, 3) := by decide +kernel
theorem dn_d_Law_load_14 : decode dn_c_Law_load 14 = .ok (.astore 5, 2) := by decide +kernel
theorem dn_d_Law_load_16 : decode dn_c_Law_load 16 = .ok (.iconst 1, 1) := by decide +kernel
theorem dn_d_Law_load_17 : decode dn_c_Law_load 17 = .ok (.ireturn, 1) := by decide +kernel
theorem dn_d_Law_load_18 : decode dn_c_Law_load 18 = .ok (.astore 5, 2) := by decide +kernel
theorem dn_d_Law_load_20 : decode dn_c_Law_load 20 = .ok (.iconst 2, 1) := by decide +kernel
theorem dn_d_Law_load_21 : decode dn_c_Law_load 21 = .ok (.ireturn, 1) := by decide +kernel
theorem dn_d_Law_load_22 : decode dn_c_Law_load 22 = .ok (.iconst 0, 1) := by decide +kernel
theorem dn_d_Law_load_23 : decode dn_c_Law_load 23 = .ok (.ireturn, 1) := by decide +kernel
theorem dn_d_Law_print_0 : decode dn_c_Law_print 0 = .ok (.aload 4, 2) := by decide +kernel
theorem dn_d_Law_print_2 : decode dn_c_Law_print 2 = .ok (.iconst 0, 1) := by decide +kernel
theorem dn_d_Law_print_3 : decode dn_c_Law_print 3 = .ok (.aload_n 0, 1) := by decide +kernel
theorem dn_d_Law_print_4 : decode dn_c_Law_print 4 = .ok (.iload_n 1, 1) := by decide +kernel
theorem dn_d_Law_print_5 : decode dn_c_Law_print 5 = .ok (.iload_n 2, 1) := by decide +kernel
theorem dn_d_Law_print_6 : decode dn_c_Law_print 6 = .ok (.iload_n 3, 1) := by decide +kernel
theorem dn_d_Law_print_7 : decode dn_c_Law_print 7 = .ok (.invokevirtual 17, 3) := by decide +kernel
theorem dn_d_Law_print_10 : decode dn_c_Law_print 10 = .ok (.ifCond .eq 7, 3) := by decide +kernel
theorem dn_d_Law_print_13 : decode dn_c_Law_print 13 = .ok (.lconst 1, 1) := by decide +kernel
theorem dn_d_Law_print_14 : decode dn_c_Law_print 14 = .ok (.goto 4, 3) := by decide +kernel
theorem dn_d_Law_print_17 : decode dn_c_Law_print 17 = .ok (.lconst 0, 1) := by decide +kernel
theorem dn_d_Law_print_18 : decode dn_c_Law_print 18 = .ok (.lastore, 1) := by decide +kernel
theorem dn_d_Law_print_19 : decode dn_c_Law_print 19 = .ok (.goto 11, 3) := by decide +kernel
theorem dn_d_Law_print_22 : decode dn_c_Law_print 22 = .ok (.astore 5, 2) := by decide +kernel
theorem dn_d_Law_print_24 : decode dn_c_Law_print 24 = .ok (.iconst 1, 1) := by decide +kernel
theorem dn_d_Law_print_25 : decode dn_c_Law_print 25 = .ok (.ireturn, 1) := by decide +kernel
theorem dn_d_Law_print_26 : decode dn_c_Law_print 26 = .ok (.astore 5, 2) := by decide +kernel
theorem dn_d_Law_print_28 : decode dn_c_Law_print 28 = .ok (.iconst 2, 1) := by decide +kernel
theorem dn_d_Law_print_29 : decode dn_c_Law_print 29 = .ok (.ireturn, 1) := by decide +kernel
theorem dn_d_Law_print_30 : decode dn_c_Law_print 30 = .ok (.iconst 0, 1) := by decide +kernel
theorem dn_d_Law_print_31 : decode dn_c_Law_print 31 = .ok (.ireturn, 1) := by decide +kernel
theorem dn_d_Law_trust_0 : decode dn_c_Law_trust 0 = .ok (.aload 5, 2) := by decide +kernel
theorem dn_d_Law_trust_2 : decode dn_c_Law_trust 2 = .ok (.iconst 0, 1) := by decide +kernel
theorem dn_d_Law_trust_3 : decode dn_c_Law_trust 3 = .ok (.aload_n 0, 1) := by decide +kernel
theorem dn_d_Law_trust_4 : decode dn_c_Law_trust 4 = .ok (.lload_n 1, 1) := by decide +kernel
theorem dn_d_Law_trust_5 : decode dn_c_Law_trust 5 = .ok (.iload_n 3, 1) := by decide +kernel
theorem dn_d_Law_trust_6 : decode dn_c_Law_trust 6 = .ok (.iload 4, 2) := by decide +kernel
theorem dn_d_Law_trust_8 : decode dn_c_Law_trust 8 = .ok (.invokevirtual 23, 3) := by decide +kernel
theorem dn_d_Law_trust_11 : decode dn_c_Law_trust 11 = .ok (.i2l, 1) := by decide +kernel
theorem dn_d_Law_trust_12 : decode dn_c_Law_trust 12 = .ok (.lastore, 1) := by decide +kernel
theorem dn_d_Law_trust_13 : decode dn_c_Law_trust 13 = .ok (.goto 11, 3) := by decide +kernel
theorem dn_d_Law_trust_16 : decode dn_c_Law_trust 16 = .ok (.astore 6, 2) := by decide +kernel
theorem dn_d_Law_trust_18 : decode dn_c_Law_trust 18 = .ok (.iconst 1, 1) := by decide +kernel
theorem dn_d_Law_trust_19 : decode dn_c_Law_trust 19 = .ok (.ireturn, 1) := by decide +kernel
theorem dn_d_Law_trust_20 : decode dn_c_Law_trust 20 = .ok (.astore 6, 2) := by decide +kernel
theorem dn_d_Law_trust_22 : decode dn_c_Law_trust 22 = .ok (.iconst 2, 1) := by decide +kernel
theorem dn_d_Law_trust_23 : decode dn_c_Law_trust 23 = .ok (.ireturn, 1) := by decide +kernel
theorem dn_d_Law_trust_24 : decode dn_c_Law_trust 24 = .ok (.iconst 0, 1) := by decide +kernel
theorem dn_d_Law_trust_25 : decode dn_c_Law_trust 25 = .ok (.ireturn, 1) := by decide +kernel
theorem dn_d_Law_change_0 : decode dn_c_Law_change 0 = .ok (.aload 5, 2) := by decide +kernel
theorem dn_d_Law_change_2 : decode dn_c_Law_change 2 = .ok (.iconst 0, 1) := by decide +kernel
theorem dn_d_Law_change_3 : decode dn_c_Law_change 3 = .ok (.aload_n 0, 1) := by decide +kernel
theorem dn_d_Law_change_4 : decode dn_c_Law_change 4 = .ok (.iload_n 1, 1) := by decide +kernel
theorem dn_d_Law_change_5 : decode dn_c_Law_change 5 = .ok (.iload_n 2, 1) := by decide +kernel
theorem dn_d_Law_change_6 : decode dn_c_Law_change 6 = .ok (.lload_n 3, 1) := by decide +kernel
theorem dn_d_Law_change_7 : decode dn_c_Law_change 7 = .ok (.invokevirtual 27, 3) := by decide +kernel
theorem dn_d_Law_change_10 : decode dn_c_Law_change 10 = .ok (.i2l, 1) := by decide +kernel
theorem dn_d_Law_change_11 : decode dn_c_Law_change 11 = .ok (.lastore, 1) := by decide +kernel
theorem dn_d_Law_change_12 : decode dn_c_Law_change 12 = .ok (.goto 11, 3) := by decide +kernel
theorem dn_d_Law_change_15 : decode dn_c_Law_change 15 = .ok (.astore 6, 2) := by decide +kernel
theorem dn_d_Law_change_17 : decode dn_c_Law_change 17 = .ok (.iconst 1, 1) := by decide +kernel
theorem dn_d_Law_change_18 : decode dn_c_Law_change 18 = .ok (.ireturn, 1) := by decide +kernel
theorem dn_d_Law_change_19 : decode dn_c_Law_change 19 = .ok (.astore 6, 2) := by decide +kernel
theorem dn_d_Law_change_21 : decode dn_c_Law_change 21 = .ok (.iconst 2, 1) := by decide +kernel
theorem dn_d_Law_change_22 : decode dn_c_Law_change 22 = .ok (.ireturn, 1) := by decide +kernel
theorem dn_d_Law_change_23 : decode dn_c_Law_change 23 = .ok (.iconst 0, 1) := by decide +kernel
theorem dn_d_Law_change_24 : decode dn_c_Law_change 24 = .ok (.ireturn, 1) := by decide +kernel
theorem dn_d_Law_held_0 : decode dn_c_Law_held 0 = .ok (.aload_n 3, 1) := by decide +kernel
theorem dn_d_Law_held_1 : decode dn_c_Law_held 1 = .ok (.iconst 0, 1) := by decide +kernel
theorem dn_d_Law_held_2 : decode dn_c_Law_held 2 = .ok (.aload_n 0, 1) := by decide +kernel
theorem dn_d_Law_held_3 : decode dn_c_Law_held 3 = .ok (.iload_n 1, 1) := by decide +kernel
theorem dn_d_Law_held_4 : decode dn_c_Law_held 4 = .ok (.iload_n 2, 1) := by decide +kernel
theorem dn_d_Law_held_5 : decode dn_c_Law_held 5 = .ok (.invokevirtual 31, 3) := by decide +kernel
theorem dn_d_Law_held_8 : decode dn_c_Law_held 8 = .ok (.lastore, 1) := by decide +kernel
theorem dn_d_Law_held_9 : decode dn_c_Law_held 9 = .ok (.goto 11, 3) := by decide +kernel
theorem dn_d_Law_held_12 : decode dn_c_Law_held 12 = .ok (.astore 4, 2) := by decide +kernel
theorem dn_d_Law_held_14 : decode dn_c_Law_held 14 = .ok (.iconst 1, 1) := by decide +kernel
theorem dn_d_Law_held_15 : decode dn_c_Law_held 15 = .ok (.ireturn, 1) := by decide +kernel
theorem dn_d_Law_held_16 : decode dn_c_Law_held 16 = .ok (.astore 4, 2) := by decide +kernel
theorem dn_d_Law_held_18 : decode dn_c_Law_held 18 = .ok (.iconst 2, 1) := by decide +kernel
theorem dn_d_Law_held_19 : decode dn_c_Law_held 19 = .ok (.ireturn, 1) := by decide +kernel
theorem dn_d_Law_held_20 : decode dn_c_Law_held 20 = .ok (.iconst 0, 1) := by decide +kernel
theorem dn_d_Law_held_21 : decode dn_c_Law_held 21 = .ok (.ireturn, 1) := by decide +kernel
theorem dn_d_Law_prove_0 : decode dn_c_Law_prove 0 = .ok (.aload 9, 2) := by decide +kernel
theorem dn_d_Law_prove_2 : decode dn_c_Law_prove 2 = .ok (.iconst 0, 1) := by decide +kernel
theorem dn_d_Law_prove_3 : decode dn_c_Law_prove 3 = .ok (.aload_n 0, 1) := by decide +kernel
theorem dn_d_Law_prove_4 : decode dn_c_Law_prove 4 = .ok (.lload_n 1, 1) := by decide +kernel
theorem dn_d_Law_prove_5 : decode dn_c_Law_prove 5 = .ok (.lload_n 3, 1) := by decide +kernel
theorem dn_d_Law_prove_6 : decode dn_c_Law_prove 6 = .ok (.lload 5, 2) := by decide +kernel
theorem dn_d_Law_prove_8 : decode dn_c_Law_prove 8 = .ok (.lload 7, 2) := by decide +kernel
theorem dn_d_Law_prove_10 : decode dn_c_Law_prove 10 = .ok (.invokevirtual 35, 3) := by decide +kernel
theorem dn_d_Law_prove_13 : decode dn_c_Law_prove 13 = .ok (.lastore, 1) := by decide +kernel
theorem dn_d_Law_prove_14 : decode dn_c_Law_prove 14 = .ok (.goto 11, 3) := by decide +kernel
theorem dn_d_Law_prove_17 : decode dn_c_Law_prove 17 = .ok (.astore 10, 2) := by decide +kernel
theorem dn_d_Law_prove_19 : decode dn_c_Law_prove 19 = .ok (.iconst 1, 1) := by decide +kernel
theorem dn_d_Law_prove_20 : decode dn_c_Law_prove 20 = .ok (.ireturn, 1) := by decide +kernel
theorem dn_d_Law_prove_21 : decode dn_c_Law_prove 21 = .ok (.astore 10, 2) := by decide +kernel
theorem dn_d_Law_prove_23 : decode dn_c_Law_prove 23 = .ok (.iconst 2, 1) := by decide +kernel
theorem dn_d_Law_prove_24 : decode dn_c_Law_prove 24 = .ok (.ireturn, 1) := by decide +kernel
theorem dn_d_Law_prove_25 : decode dn_c_Law_prove 25 = .ok (.iconst 0, 1) := by decide +kernel
theorem dn_d_Law_prove_26 : decode dn_c_Law_prove 26 = .ok (.ireturn, 1) := by decide +kernel
theorem dn_d_Law_command_0 : decode dn_c_Law_command 0 = .ok (.aload 6, 2) := by decide +kernel
theorem dn_d_Law_command_2 : decode dn_c_Law_command 2 = .ok (.iconst 0, 1) := by decide +kernel
theorem dn_d_Law_command_3 : decode dn_c_Law_command 3 = .ok (.aload_n 0, 1) := by decide +kernel
theorem dn_d_Law_command_4 : decode dn_c_Law_command 4 = .ok (.iload_n 1, 1) := by decide +kernel
theorem dn_d_Law_command_5 : decode dn_c_Law_command 5 = .ok (.lload_n 2, 1) := by decide +kernel
theorem dn_d_Law_command_6 : decode dn_c_Law_command 6 = .ok (.lload 4, 2) := by decide +kernel
theorem dn_d_Law_command_8 : decode dn_c_Law_command 8 = .ok (.invokevirtual 39, 3) := by decide +kernel
theorem dn_d_Law_command_11 : decode dn_c_Law_command 11 = .ok (.i2l, 1) := by decide +kernel
theorem dn_d_Law_command_12 : decode dn_c_Law_command 12 = .ok (.lastore, 1) := by decide +kernel
theorem dn_d_Law_command_13 : decode dn_c_Law_command 13 = .ok (.goto 23, 3) := by decide +kernel
theorem dn_d_Law_command_16 : decode dn_c_Law_command 16 = .ok (.astore 7, 2) := by decide +kernel
theorem dn_d_Law_command_18 : decode dn_c_Law_command 18 = .ok (.iconst 1, 1) := by decide +kernel
theorem dn_d_Law_command_19 : decode dn_c_Law_command 19 = .ok (.ireturn, 1) := by decide +kernel
theorem dn_d_Law_command_20 : decode dn_c_Law_command 20 = .ok (.astore 7, 2) := by decide +kernel
theorem dn_d_Law_command_22 : decode dn_c_Law_command 22 = .ok (.iconst 2, 1) := by decide +kernel
theorem dn_d_Law_command_23 : decode dn_c_Law_command 23 = .ok (.ireturn, 1) := by decide +kernel
theorem dn_d_Law_command_24 : decode dn_c_Law_command 24 = .ok (.astore 7, 2) := by decide +kernel
theorem dn_d_Law_command_26 : decode dn_c_Law_command 26 = .ok (.iconst 3, 1) := by decide +kernel
theorem dn_d_Law_command_27 : decode dn_c_Law_command 27 = .ok (.ireturn, 1) := by decide +kernel
theorem dn_d_Law_command_28 : decode dn_c_Law_command 28 = .ok (.astore 7, 2) := by decide +kernel
theorem dn_d_Law_command_30 : decode dn_c_Law_command 30 = .ok (.iconst 4, 1) := by decide +kernel
theorem dn_d_Law_command_31 : decode dn_c_Law_command 31 = .ok (.ireturn, 1) := by decide +kernel
theorem dn_d_Law_command_32 : decode dn_c_Law_command 32 = .ok (.astore 7, 2) := by decide +kernel
theorem dn_d_Law_command_34 : decode dn_c_Law_command 34 = .ok (.iconst 5, 1) := by decide +kernel
theorem dn_d_Law_command_35 : decode dn_c_Law_command 35 = .ok (.ireturn, 1) := by decide +kernel
theorem dn_d_Law_command_36 : decode dn_c_Law_command 36 = .ok (.iconst 0, 1) := by decide +kernel
theorem dn_d_Law_command_37 : decode dn_c_Law_command 37 = .ok (.ireturn, 1) := by decide +kernel
theorem dn_d_Law_needed_0 : decode dn_c_Law_needed 0 = .ok (.aload 4, 2) := by decide +kernel
theorem dn_d_Law_needed_2 : decode dn_c_Law_needed 2 = .ok (.iconst 0, 1) := by decide +kernel
theorem dn_d_Law_needed_3 : decode dn_c_Law_needed 3 = .ok (.aload_n 0, 1) := by decide +kernel
theorem dn_d_Law_needed_4 : decode dn_c_Law_needed 4 = .ok (.iload_n 1, 1) := by decide +kernel
theorem dn_d_Law_needed_5 : decode dn_c_Law_needed 5 = .ok (.lload_n 2, 1) := by decide +kernel
theorem dn_d_Law_needed_6 : decode dn_c_Law_needed 6 = .ok (.invokevirtual 47, 3) := by decide +kernel
theorem dn_d_Law_needed_9 : decode dn_c_Law_needed 9 = .ok (.lastore, 1) := by decide +kernel
theorem dn_d_Law_needed_10 : decode dn_c_Law_needed 10 = .ok (.goto 7, 3) := by decide +kernel
theorem dn_d_Law_needed_13 : decode dn_c_Law_needed 13 = .ok (.astore 5, 2) := by decide +kernel
theorem dn_d_Law_needed_15 : decode dn_c_Law_needed 15 = .ok (.iconst 1, 1) := by decide +kernel
theorem dn_d_Law_needed_16 : decode dn_c_Law_needed 16 = .ok (.ireturn, 1) := by decide +kernel
theorem dn_d_Law_needed_17 : decode dn_c_Law_needed 17 = .ok (.iconst 0, 1) := by decide +kernel
theorem dn_d_Law_needed_18 : decode dn_c_Law_needed 18 = .ok (.ireturn, 1) := by decide +kernel
theorem dn_d_Law_hidden_0 : decode dn_c_Law_hidden 0 = .ok (.aload_n 3, 1) := by decide +kernel
theorem dn_d_Law_hidden_1 : decode dn_c_Law_hidden 1 = .ok (.iconst 0, 1) := by decide +kernel
theorem dn_d_Law_hidden_2 : decode dn_c_Law_hidden 2 = .ok (.aload_n 0, 1) := by decide +kernel
theorem dn_d_Law_hidden_3 : decode dn_c_Law_hidden 3 = .ok (.lload_n 1, 1) := by decide +kernel
theorem dn_d_Law_hidden_4 : decode dn_c_Law_hidden 4 = .ok (.invokevirtual 51, 3) := by decide +kernel
theorem dn_d_Law_hidden_7 : decode dn_c_Law_hidden 7 = .ok (.lastore, 1) := by decide +kernel
theorem dn_d_Law_hidden_8 : decode dn_c_Law_hidden 8 = .ok (.goto 7, 3) := by decide +kernel
theorem dn_d_Law_hidden_11 : decode dn_c_Law_hidden 11 = .ok (.astore 4, 2) := by decide +kernel
theorem dn_d_Law_hidden_13 : decode dn_c_Law_hidden 13 = .ok (.iconst 1, 1) := by decide +kernel
theorem dn_d_Law_hidden_14 : decode dn_c_Law_hidden 14 = .ok (.ireturn, 1) := by decide +kernel
theorem dn_d_Law_hidden_15 : decode dn_c_Law_hidden 15 = .ok (.iconst 0, 1) := by decide +kernel
theorem dn_d_Law_hidden_16 : decode dn_c_Law_hidden 16 = .ok (.ireturn, 1) := by decide +kernel
