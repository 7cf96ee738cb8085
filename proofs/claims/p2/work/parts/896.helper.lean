/-! the law's helpers: a call of the class, its answer put into out, its exceptions told by a number (written by a program) -/
theorem dhfeed_0 : decode cL_feed 0 = .ok (.aload 4, 2) := by decide +kernel
theorem dhfeed_2 : decode cL_feed 2 = .ok (.iconst 0, 1) := by decide +kernel
theorem dhfeed_3 : decode cL_feed 3 = .ok (.aload_n 0, 1) := by decide +kernel
theorem dhfeed_4 : decode cL_feed 4 = .ok (.iload_n 1, 1) := by decide +kernel
theorem dhfeed_5 : decode cL_feed 5 = .ok (.lload_n 2, 1) := by decide +kernel
theorem dhfeed_6 : decode cL_feed 6 = .ok (.invokevirtual 7, 3) := by decide +kernel
theorem dhfeed_9 : decode cL_feed 9 = .ok (.i2l, 1) := by decide +kernel
theorem dhfeed_10 : decode cL_feed 10 = .ok (.lastore, 1) := by decide +kernel
theorem dhfeed_11 : decode cL_feed 11 = .ok (.goto 7, 3) := by decide +kernel
theorem dhfeed_14 : decode cL_feed 14 = .ok (.astore 5, 2) := by decide +kernel
theorem dhfeed_16 : decode cL_feed 16 = .ok (.iconst 1, 1) := by decide +kernel
theorem dhfeed_17 : decode cL_feed 17 = .ok (.ireturn, 1) := by decide +kernel
theorem dhfeed_18 : decode cL_feed 18 = .ok (.iconst 0, 1) := by decide +kernel
theorem dhfeed_19 : decode cL_feed 19 = .ok (.ireturn, 1) := by decide +kernel
theorem dhfault_0 : decode cL_fault 0 = .ok (.aload_n 2, 1) := by decide +kernel
theorem dhfault_1 : decode cL_fault 1 = .ok (.iconst 0, 1) := by decide +kernel
theorem dhfault_2 : decode cL_fault 2 = .ok (.aload_n 0, 1) := by decide +kernel
theorem dhfault_3 : decode cL_fault 3 = .ok (.iload_n 1, 1) := by decide +kernel
theorem dhfault_4 : decode cL_fault 4 = .ok (.invokevirtual 15, 3) := by decide +kernel
theorem dhfault_7 : decode cL_fault 7 = .ok (.i2l, 1) := by decide +kernel
theorem dhfault_8 : decode cL_fault 8 = .ok (.lastore, 1) := by decide +kernel
theorem dhfault_9 : decode cL_fault 9 = .ok (.goto 6, 3) := by decide +kernel
theorem dhfault_12 : decode cL_fault 12 = .ok (.astore_n 3, 1) := by decide +kernel
theorem dhfault_13 : decode cL_fault 13 = .ok (.iconst 1, 1) := by decide +kernel
theorem dhfault_14 : decode cL_fault 14 = .ok (.ireturn, 1) := by decide +kernel
theorem dhfault_15 : decode cL_fault 15 = .ok (.iconst 0, 1) := by decide +kernel
theorem dhfault_16 : decode cL_fault 16 = .ok (.ireturn, 1) := by decide +kernel
theorem dhcount_0 : decode cL_count 0 = .ok (.aload_n 2, 1) := by decide +kernel
theorem dhcount_1 : decode cL_count 1 = .ok (.iconst 0, 1) := by decide +kernel
theorem dhcount_2 : decode cL_count 2 = .ok (.aload_n 0, 1) := by decide +kernel
theorem dhcount_3 : decode cL_count 3 = .ok (.iload_n 1, 1) := by decide +kernel
theorem dhcount_4 : decode cL_count 4 = .ok (.invokevirtual 21, 3) := by decide +kernel
theorem dhcount_7 : decode cL_count 7 = .ok (.i2l, 1) := by decide +kernel
theorem dhcount_8 : decode cL_count 8 = .ok (.lastore, 1) := by decide +kernel
theorem dhcount_9 : decode cL_count 9 = .ok (.goto 6, 3) := by decide +kernel
theorem dhcount_12 : decode cL_count 12 = .ok (.astore_n 3, 1) := by decide +kernel
theorem dhcount_13 : decode cL_count 13 = .ok (.iconst 1, 1) := by decide +kernel
theorem dhcount_14 : decode cL_count 14 = .ok (.ireturn, 1) := by decide +kernel
theorem dhcount_15 : decode cL_count 15 = .ok (.iconst 0, 1) := by decide +kernel
theorem dhcount_16 : decode cL_count 16 = .ok (.ireturn, 1) := by decide +kernel
theorem dhpoint_0 : decode cL_point 0 = .ok (.aload_n 3, 1) := by decide +kernel
theorem dhpoint_1 : decode cL_point 1 = .ok (.iconst 0, 1) := by decide +kernel
theorem dhpoint_2 : decode cL_point 2 = .ok (.aload_n 0, 1) := by decide +kernel
theorem dhpoint_3 : decode cL_point 3 = .ok (.iload_n 1, 1) := by decide +kernel
theorem dhpoint_4 : decode cL_point 4 = .ok (.iload_n 2, 1) := by decide +kernel
theorem dhpoint_5 : decode cL_point 5 = .ok (.invokevirtual 24, 3) := by decide +kernel
theorem dhpoint_8 : decode cL_point 8 = .ok (.i2l, 1) := by decide +kernel
theorem dhpoint_9 : decode cL_point 9 = .ok (.lastore, 1) := by decide +kernel
theorem dhpoint_10 : decode cL_point 10 = .ok (.goto 7, 3) := by decide +kernel
theorem dhpoint_13 : decode cL_point 13 = .ok (.astore 4, 2) := by decide +kernel
theorem dhpoint_15 : decode cL_point 15 = .ok (.iconst 1, 1) := by decide +kernel
theorem dhpoint_16 : decode cL_point 16 = .ok (.ireturn, 1) := by decide +kernel
theorem dhpoint_17 : decode cL_point 17 = .ok (.iconst 0, 1) := by decide +kernel
theorem dhpoint_18 : decode cL_point 18 = .ok (.ireturn, 1) := by decide +kernel
theorem dhmeets_0 : decode cL_meets 0 = .ok (.aload 4, 2) := by decide +kernel
theorem dhmeets_2 : decode cL_meets 2 = .ok (.iconst 0, 1) := by decide +kernel
theorem dhmeets_3 : decode cL_meets 3 = .ok (.aload_n 0, 1) := by decide +kernel
theorem dhmeets_4 : decode cL_meets 4 = .ok (.iload_n 1, 1) := by decide +kernel
theorem dhmeets_5 : decode cL_meets 5 = .ok (.iload_n 2, 1) := by decide +kernel
theorem dhmeets_6 : decode cL_meets 6 = .ok (.iload_n 3, 1) := by decide +kernel
theorem dhmeets_7 : decode cL_meets 7 = .ok (.invokevirtual 28, 3) := by decide +kernel
theorem dhmeets_10 : decode cL_meets 10 = .ok (.i2l, 1) := by decide +kernel
theorem dhmeets_11 : decode cL_meets 11 = .ok (.lastore, 1) := by decide +kernel
theorem dhmeets_12 : decode cL_meets 12 = .ok (.goto 7, 3) := by decide +kernel
theorem dhmeets_15 : decode cL_meets 15 = .ok (.astore 5, 2) := by decide +kernel
theorem dhmeets_17 : decode cL_meets 17 = .ok (.iconst 1, 1) := by decide +kernel
theorem dhmeets_18 : decode cL_meets 18 = .ok (.ireturn, 1) := by decide +kernel
theorem dhmeets_19 : decode cL_meets 19 = .ok (.iconst 0, 1) := by decide +kernel
theorem dhmeets_20 : decode cL_meets 20 = .ok (.ireturn, 1) := by decide +kernel
theorem dhfinding_0 : decode cL_finding 0 = .ok (.aload_n 3, 1) := by decide +kernel
theorem dhfinding_1 : decode cL_finding 1 = .ok (.iconst 0, 1) := by decide +kernel
theorem dhfinding_2 : decode cL_finding 2 = .ok (.aload_n 0, 1) := by decide +kernel
theorem dhfinding_3 : decode cL_finding 3 = .ok (.iload_n 1, 1) := by decide +kernel
theorem dhfinding_4 : decode cL_finding 4 = .ok (.iload_n 2, 1) := by decide +kernel
theorem dhfinding_5 : decode cL_finding 5 = .ok (.invokevirtual 32, 3) := by decide +kernel
theorem dhfinding_8 : decode cL_finding 8 = .ok (.i2l, 1) := by decide +kernel
theorem dhfinding_9 : decode cL_finding 9 = .ok (.lastore, 1) := by decide +kernel
theorem dhfinding_10 : decode cL_finding 10 = .ok (.goto 7, 3) := by decide +kernel
theorem dhfinding_13 : decode cL_finding 13 = .ok (.astore 4, 2) := by decide +kernel
theorem dhfinding_15 : decode cL_finding 15 = .ok (.iconst 1, 1) := by decide +kernel
theorem dhfinding_16 : decode cL_finding 16 = .ok (.ireturn, 1) := by decide +kernel
theorem dhfinding_17 : decode cL_finding 17 = .ok (.iconst 0, 1) := by decide +kernel
theorem dhfinding_18 : decode cL_finding 18 = .ok (.ireturn, 1) := by decide +kernel
theorem dhordered_0 : decode cL_ordered 0 = .ok (.aload_n 2, 1) := by decide +kernel
theorem dhordered_1 : decode cL_ordered 1 = .ok (.iconst 0, 1) := by decide +kernel
theorem dhordered_2 : decode cL_ordered 2 = .ok (.aload_n 0, 1) := by decide +kernel
theorem dhordered_3 : decode cL_ordered 3 = .ok (.iload_n 1, 1) := by decide +kernel
theorem dhordered_4 : decode cL_ordered 4 = .ok (.invokevirtual 35, 3) := by decide +kernel
theorem dhordered_7 : decode cL_ordered 7 = .ok (.i2l, 1) := by decide +kernel
theorem dhordered_8 : decode cL_ordered 8 = .ok (.lastore, 1) := by decide +kernel
theorem dhordered_9 : decode cL_ordered 9 = .ok (.goto 6, 3) := by decide +kernel
theorem dhordered_12 : decode cL_ordered 12 = .ok (.astore_n 3, 1) := by decide +kernel
theorem dhordered_13 : decode cL_ordered 13 = .ok (.iconst 1, 1) := by decide +kernel
theorem dhordered_14 : decode cL_ordered 14 = .ok (.ireturn, 1) := by decide +kernel
theorem dhordered_15 : decode cL_ordered 15 = .ok (.iconst 0, 1) := by decide +kernel
theorem dhordered_16 : decode cL_ordered 16 = .ok (.ireturn, 1) := by decide +kernel
theorem dhabove_0 : decode cL_above 0 = .ok (.aload_n 2, 1) := by decide +kernel
theorem dhabove_1 : decode cL_above 1 = .ok (.iconst 0, 1) := by decide +kernel
theorem dhabove_2 : decode cL_above 2 = .ok (.aload_n 0, 1) := by decide +kernel
theorem dhabove_3 : decode cL_above 3 = .ok (.iload_n 1, 1) := by decide +kernel
theorem dhabove_4 : decode cL_above 4 = .ok (.invokevirtual 38, 3) := by decide +kernel
theorem dhabove_7 : decode cL_above 7 = .ok (.i2l, 1) := by decide +kernel
theorem dhabove_8 : decode cL_above 8 = .ok (.lastore, 1) := by decide +kernel
theorem dhabove_9 : decode cL_above 9 = .ok (.goto 6, 3) := by decide +kernel
theorem dhabove_12 : decode cL_above 12 = .ok (.astore_n 3, 1) := by decide +kernel
theorem dhabove_13 : decode cL_above 13 = .ok (.iconst 1, 1) := by decide +kernel
theorem dhabove_14 : decode cL_above 14 = .ok (.ireturn, 1) := by decide +kernel
theorem dhabove_15 : decode cL_above 15 = .ok (.iconst 0, 1) := by decide +kernel
theorem dhabove_16 : decode cL_above 16 = .ok (.ireturn, 1) := by decide +kernel
theorem dhbegin_0 : decode cL_begin 0 = .ok (.aload_n 2, 1) := by decide +kernel
theorem dhbegin_1 : decode cL_begin 1 = .ok (.iconst 0, 1) := by decide +kernel
theorem dhbegin_2 : decode cL_begin 2 = .ok (.aload_n 0, 1) := by decide +kernel
theorem dhbegin_3 : decode cL_begin 3 = .ok (.iload_n 1, 1) := by decide +kernel
theorem dhbegin_4 : decode cL_begin 4 = .ok (.invokevirtual 41, 3) := by decide +kernel
theorem dhbegin_7 : decode cL_begin 7 = .ok (.i2l, 1) := by decide +kernel
theorem dhbegin_8 : decode cL_begin 8 = .ok (.lastore, 1) := by decide +kernel
theorem dhbegin_9 : decode cL_begin 9 = .ok (.goto 6, 3) := by decide +kernel
theorem dhbegin_12 : decode cL_begin 12 = .ok (.astore_n 3, 1) := by decide +kernel
theorem dhbegin_13 : decode cL_begin 13 = .ok (.iconst 1, 1) := by decide +kernel
theorem dhbegin_14 : decode cL_begin 14 = .ok (.ireturn, 1) := by decide +kernel
theorem dhbegin_15 : decode cL_begin 15 = .ok (.iconst 0, 1) := by decide +kernel
theorem dhbegin_16 : decode cL_begin 16 = .ok (.ireturn, 1) := by decide +kernel
theorem dhrun_0 : decode cL_run 0 = .ok (.aload_n 2, 1) := by decide +kernel
theorem dhrun_1 : decode cL_run 1 = .ok (.iconst 0, 1) := by decide +kernel
theorem dhrun_2 : decode cL_run 2 = .ok (.aload_n 0, 1) := by decide +kernel
theorem dhrun_3 : decode cL_run 3 = .ok (.iload_n 1, 1) := by decide +kernel
theorem dhrun_4 : decode cL_run 4 = .ok (.invokevirtual 47, 3) := by decide +kernel
theorem dhrun_7 : decode cL_run 7 = .ok (.i2l, 1) := by decide +kernel
theorem dhrun_8 : decode cL_run 8 = .ok (.lastore, 1) := by decide +kernel
theorem dhrun_9 : decode cL_run 9 = .ok (.goto 9, 3) := by decide +kernel
theorem dhrun_12 : decode cL_run 12 = .ok (.astore_n 3, 1) := by decide +kernel
theorem dhrun_13 : decode cL_run 13 = .ok (.iconst 1, 1) := by decide +kernel
theorem dhrun_14 : decode cL_run 14 = .ok (.ireturn, 1) := by decide +kernel
theorem dhrun_15 : decode cL_run 15 = .ok (.astore_n 3, 1) := by decide +kernel
theorem dhrun_16 : decode cL_run 16 = .ok (.iconst 2, 1) := by decide +kernel
theorem dhrun_17 : decode cL_run 17 = .ok (.ireturn, 1) := by decide +kernel
theorem dhrun_18 : decode cL_run 18 = .ok (.iconst 0, 1) := by decide +kernel
theorem dhrun_19 : decode cL_run 19 = .ok (.ireturn, 1) := by decide +kernel
theorem dhtold_0 : decode cL_told 0 = .ok (.aload_n 2, 1) := by decide +kernel
theorem dhtold_1 : decode cL_told 1 = .ok (.iconst 0, 1) := by decide +kernel
theorem dhtold_2 : decode cL_told 2 = .ok (.aload_n 0, 1) := by decide +kernel
theorem dhtold_3 : decode cL_told 3 = .ok (.iload_n 1, 1) := by decide +kernel
theorem dhtold_4 : decode cL_told 4 = .ok (.invokevirtual 50, 3) := by decide +kernel
theorem dhtold_7 : decode cL_told 7 = .ok (.i2l, 1) := by decide +kernel
theorem dhtold_8 : decode cL_told 8 = .ok (.lastore, 1) := by decide +kernel
theorem dhtold_9 : decode cL_told 9 = .ok (.goto 9, 3) := by decide +kernel
theorem dhtold_12 : decode cL_told 12 = .ok (.astore_n 3, 1) := by decide +kernel
theorem dhtold_13 : decode cL_told 13 = .ok (.iconst 1, 1) := by decide +kernel
theorem dhtold_14 : decode cL_told 14 = .ok (.ireturn, 1) := by decide +kernel
theorem dhtold_15 : decode cL_told 15 = .ok (.astore_n 3, 1) := by decide +kernel
theorem dhtold_16 : decode cL_told 16 = .ok (.iconst 2, 1) := by decide +kernel
theorem dhtold_17 : decode cL_told 17 = .ok (.ireturn, 1) := by decide +kernel
theorem dhtold_18 : decode cL_told 18 = .ok (.iconst 0, 1) := by decide +kernel
theorem dhtold_19 : decode cL_told 19 = .ok (.ireturn, 1) := by decide +kernel
theorem dhoutput_0 : decode cL_output 0 = .ok (.aload_n 3, 1) := by decide +kernel
theorem dhoutput_1 : decode cL_output 1 = .ok (.iconst 0, 1) := by decide +kernel
theorem dhoutput_2 : decode cL_output 2 = .ok (.aload_n 0, 1) := by decide +kernel
theorem dhoutput_3 : decode cL_output 3 = .ok (.iload_n 1, 1) := by decide +kernel
theorem dhoutput_4 : decode cL_output 4 = .ok (.iload_n 2, 1) := by decide +kernel
theorem dhoutput_5 : decode cL_output 5 = .ok (.invokevirtual 53, 3) := by decide +kernel
theorem dhoutput_8 : decode cL_output 8 = .ok (.i2l, 1) := by decide +kernel
theorem dhoutput_9 : decode cL_output 9 = .ok (.lastore, 1) := by decide +kernel
theorem dhoutput_10 : decode cL_output 10 = .ok (.goto 11, 3) := by decide +kernel
theorem dhoutput_13 : decode cL_output 13 = .ok (.astore 4, 2) := by decide +kernel
theorem dhoutput_15 : decode cL_output 15 = .ok (.iconst 1, 1) := by decide +kernel
theorem dhoutput_16 : decode cL_output 16 = .ok (.ireturn, 1) := by decide +kernel
theorem dhoutput_17 : decode cL_output 17 = .ok (.astore 4, 2) := by decide +kernel
theorem dhoutput_19 : decode cL_output 19 = .ok (.iconst 2, 1) := by decide +kernel
theorem dhoutput_20 : decode cL_output 20 = .ok (.ireturn, 1) := by decide +kernel
theorem dhoutput_21 : decode cL_output 21 = .ok (.iconst 0, 1) := by decide +kernel
theorem dhoutput_22 : decode cL_output 22 = .ok (.ireturn, 1) := by decide +kernel
theorem dhfailure_0 : decode cL_failure 0 = .ok (.aload_n 2, 1) := by decide +kernel
theorem dhfailure_1 : decode cL_failure 1 = .ok (.iconst 0, 1) := by decide +kernel
theorem dhfailure_2 : decode cL_failure 2 = .ok (.aload_n 0, 1) := by decide +kernel
theorem dhfailure_3 : decode cL_failure 3 = .ok (.iload_n 1, 1) := by decide +kernel
theorem dhfailure_4 : decode cL_failure 4 = .ok (.invokevirtual 56, 3) := by decide +kernel
theorem dhfailure_7 : decode cL_failure 7 = .ok (.i2l, 1) := by decide +kernel
theorem dhfailure_8 : decode cL_failure 8 = .ok (.lastore, 1) := by decide +kernel
theorem dhfailure_9 : decode cL_failure 9 = .ok (.goto 9, 3) := by decide +kernel
theorem dhfailure_12 : decode cL_failure 12 = .ok (.astore_n 3, 1) := by decide +kernel
theorem dhfailure_13 : decode cL_failure 13 = .ok (.iconst 1, 1) := by decide +kernel
theorem dhfailure_14 : decode cL_failure 14 = .ok (.ireturn, 1) := by decide +kernel
theorem dhfailure_15 : decode cL_failure 15 = .ok (.astore_n 3, 1) := by decide +kernel
theorem dhfailure_16 : decode cL_failure 16 = .ok (.iconst 2, 1) := by decide +kernel
theorem dhfailure_17 : decode cL_failure 17 = .ok (.ireturn, 1) := by decide +kernel
theorem dhfailure_18 : decode cL_failure 18 = .ok (.iconst 0, 1) := by decide +kernel
theorem dhfailure_19 : decode cL_failure 19 = .ok (.ireturn, 1) := by decide +kernel
theorem dhrow_0 : decode cL_row 0 = .ok (.aload_n 3, 1) := by decide +kernel
theorem dhrow_1 : decode cL_row 1 = .ok (.iconst 0, 1) := by decide +kernel
theorem dhrow_2 : decode cL_row 2 = .ok (.aload_n 0, 1) := by decide +kernel
theorem dhrow_3 : decode cL_row 3 = .ok (.iload_n 1, 1) := by decide +kernel
theorem dhrow_4 : decode cL_row 4 = .ok (.iload_n 2, 1) := by decide +kernel
theorem dhrow_5 : decode cL_row 5 = .ok (.invokevirtual 59, 3) := by decide +kernel
theorem dhrow_8 : decode cL_row 8 = .ok (.i2l, 1) := by decide +kernel
theorem dhrow_9 : decode cL_row 9 = .ok (.lastore, 1) := by decide +kernel
theorem dhrow_10 : decode cL_row 10 = .ok (.goto 11, 3) := by decide +kernel
theorem dhrow_13 : decode cL_row 13 = .ok (.astore 4, 2) := by decide +kernel
theorem dhrow_15 : decode cL_row 15 = .ok (.iconst 1, 1) := by decide +kernel
theorem dhrow_16 : decode cL_row 16 = .ok (.ireturn, 1) := by decide +kernel
theorem dhrow_17 : decode cL_row 17 = .ok (.astore 4, 2) := by decide +kernel
theorem dhrow_19 : decode cL_row 19 = .ok (.iconst 2, 1) := by decide +kernel
theorem dhrow_20 : decode cL_row 20 = .ok (.ireturn, 1) := by decide +kernel
theorem dhrow_21 : decode cL_row 21 = .ok (.iconst 0, 1) := by decide +kernel
theorem dhrow_22 : decode cL_row 22 = .ok (.ireturn, 1) := by decide +kernel
theorem dhobject_0 : decode cL_object 0 = .ok (.aload 4, 2) := by decide +kernel
theorem dhobject_2 : decode cL_object 2 = .ok (.iconst 0, 1) := by decide +kernel
theorem dhobject_3 : decode cL_object 3 = .ok (.aload_n 0, 1) := by decide +kernel
theorem dhobject_4 : decode cL_object 4 = .ok (.iload_n 1, 1) := by decide +kernel
theorem dhobject_5 : decode cL_object 5 = .ok (.iload_n 2, 1) := by decide +kernel
theorem dhobject_6 : decode cL_object 6 = .ok (.iload_n 3, 1) := by decide +kernel
theorem dhobject_7 : decode cL_object 7 = .ok (.invokevirtual 62, 3) := by decide +kernel
theorem dhobject_10 : decode cL_object 10 = .ok (.i2l, 1) := by decide +kernel
theorem dhobject_11 : decode cL_object 11 = .ok (.lastore, 1) := by decide +kernel
theorem dhobject_12 : decode cL_object 12 = .ok (.goto 11, 3) := by decide +kernel
theorem dhobject_15 : decode cL_object 15 = .ok (.astore 5, 2) := by decide +kernel
theorem dhobject_17 : decode cL_object 17 = .ok (.iconst 1, 1) := by decide +kernel
theorem dhobject_18 : decode cL_object 18 = .ok (.ireturn, 1) := by decide +kernel
theorem dhobject_19 : decode cL_object 19 = .ok (.astore 5, 2) := by decide +kernel
theorem dhobject_21 : decode cL_object 21 = .ok (.iconst 2, 1) := by decide +kernel
theorem dhobject_22 : decode cL_object 22 = .ok (.ireturn, 1) := by decide +kernel
theorem dhobject_23 : decode cL_object 23 = .ok (.iconst 0, 1) := by decide +kernel
theorem dhobject_24 : decode cL_object 24 = .ok (.ireturn, 1) := by decide +kernel
theorem dhheld_0 : decode cL_held 0 = .ok (.aload 5, 2) := by decide +kernel
theorem dhheld_2 : decode cL_held 2 = .ok (.iconst 0, 1) := by decide +kernel
theorem dhheld_3 : decode cL_held 3 = .ok (.aload_n 0, 1) := by decide +kernel
theorem dhheld_4 : decode cL_held 4 = .ok (.iload_n 1, 1) := by decide +kernel
theorem dhheld_5 : decode cL_held 5 = .ok (.iload_n 2, 1) := by decide +kernel
theorem dhheld_6 : decode cL_held 6 = .ok (.iload_n 3, 1) := by decide +kernel
theorem dhheld_7 : decode cL_held 7 = .ok (.iload 4, 2) := by decide +kernel
theorem dhheld_9 : decode cL_held 9 = .ok (.invokevirtual 65, 3) := by decide +kernel
theorem dhheld_12 : decode cL_held 12 = .ok (.i2l, 1) := by decide +kernel
theorem dhheld_13 : decode cL_held 13 = .ok (.lastore, 1) := by decide +kernel
theorem dhheld_14 : decode cL_held 14 = .ok (.goto 11, 3) := by decide +kernel
theorem dhheld_17 : decode cL_held 17 = .ok (.astore 6, 2) := by decide +kernel
theorem dhheld_19 : decode cL_held 19 = .ok (.iconst 1, 1) := by decide +kernel
theorem dhheld_20 : decode cL_held 20 = .ok (.ireturn, 1) := by decide +kernel
theorem dhheld_21 : decode cL_held 21 = .ok (.astore 6, 2) := by decide +kernel
theorem dhheld_23 : decode cL_held 23 = .ok (.iconst 2, 1) := by decide +kernel
theorem dhheld_24 : decode cL_held 24 = .ok (.ireturn, 1) := by decide +kernel
theorem dhheld_25 : decode cL_held 25 = .ok (.iconst 0, 1) := by decide +kernel
theorem dhheld_26 : decode cL_held 26 = .ok (.ireturn, 1) := by decide +kernel
theorem hp_k7 : Cond.classLink RL 13 "java/lang/IllegalArgumentException" ∈ ja_B := ja_m (ck_tb_in (p := 6105) (by decide +kernel)) rfl
theorem hp_k8 : Cond.classLink RL 45 "java/lang/IllegalStateException" ∈ ja_B := ja_m (ck_tb_in (p := 6284) (by decide +kernel)) rfl
theorem hp_k9 : Cond.classLink RL 19 "java/lang/IndexOutOfBoundsException" ∈ ja_B := ja_m (ck_tb_in (p := 6200) (by decide +kernel)) rfl
def hp_o (cA : Nat → ClassId) (ao : Nat) (o : Int) : va_W := [(ao, .inl (cA 3, 1, .inr (.inl fun j => if j = 0 then Int64.ofInt o else 0)))]
def hp_A (ad : Nat → Nat) (ao : Nat) : Nat → Prop := fun q => ja_A ad cw_K q ∨ q = ao
def hp_X (s : State) : Prop := va_Nc "java/lang/IllegalArgumentException" "java/lang/IllegalStateException" s ∧ va_Nc "java/lang/IndexOutOfBoundsException" "java/lang/IllegalStateException" s
def hp_R : Room := { frames := 200, cells := 1, slots := 6, locals := 64 * 200 }
def hp_PC (D : va_G) (cA : Nat → ClassId) (ad : Nat → Nat) (ao : Nat) (h : ja_H) (o : Int) (vals : List Value) : Array Value → State → Prop := fun a U =>
  a = vals.toArray ∧ va_P D ja_cl (ja_w cA ad cw_sp cw_K h) U.heap ∧ va_P D ja_cl (hp_o cA ao o) U.heap ∧ va_K D ja_cl (ja_t cA) U ∧ ja_N U ∧ ja_Lt ad cw_K U ∧ jx_Lt ad cw_K U ∧ hp_X U
theorem hp_blind {D : va_G} {cA : Nat → ClassId} {ad : Nat → Nat} {ao : Nat} {h : ja_H} {o : Int} {vals : List Value} : FrameBlind (hp_PC D cA ad ao h o vals) := by
  intro a U g mk q
  obtain ⟨q0, qP, qO, qK, qN, qT, qS, qX⟩ := q
  exact ⟨q0, qP, qO, va_K.moved (u := U) (U := U.calling g mk a) (Vm.Alike.refl U.vm) qK, fun w hw hn => va_Nw.same (by cases w <;> first | rfl | cases hn) (u := U) rfl (qN w hw hn), ja_Lt.calling (U := U) (V := U.calling g mk a) rfl rfl qT, jx_Lt.calling (U := U) (V := U.calling g mk a) rfl rfl qS, va_Nc.moved (u := U) (U := U.calling g mk a) (Vm.Alike.refl U.vm) qX.1, va_Nc.moved (u := U) (U := U.calling g mk a) (Vm.Alike.refl U.vm) qX.2⟩
def hp_Q (D : va_G) (cA : Nat → ClassId) (ad : Nat → Nat) (ao : Nat) (Qf : Int → Int → ja_H → Prop) : Array Value → State → Outcome → State → Prop := fun _ st oc t =>
  ∃ (k o' : Int) (h' : ja_H), oc = .returned (some (.int (Int32.ofInt k))) ∧ Qf k o' h' ∧ va_P D ja_cl (ja_w cA ad cw_sp cw_K h') t.heap ∧ va_P D ja_cl (hp_o cA ao o') t.heap ∧ va_F (hp_A ad ao) st t
theorem xh_ofW {l : Launch} {y : MethodName} {ws ws' : List Cond} {rm : Room} {Pc : Array Value → State → Prop} {Qc : Array Value → State → Outcome → State → Prop} {mc ms : Nat} {free : Addr → Prop} {cc : ByteArray} {maxL : Nat} {ret : Option FieldType} {hh : List (Nat × Nat × Nat × Nat)}
    (hy : plainName y.cls = true) (hw : ws = Cond.codeWith y cc maxL ret hh :: ws')
    (body : ∀ p e s m args below meth c s₁, BodyLoose p l y (headSpec ws rm) cc maxL ret e s m args below meth c s₁ → c.maxLocals = maxL → Pc args s →
      W p l e (headSpec ws rm).room s m args below meth c s.heap [] 0 0 (MQ below Qc args s mc ms free) (entryFrame m args maxL)) : Met l y ws rm Pc Qc mc ms free := by
  refine MetFree.of_bodyS (code := cc) (maxLocals := maxL) (ret := ret) hy ?_ ?_
  · intro args s m h hn
    obtain ⟨m9, meth, c, hn9, h1, h2, h3, h4, -, h5, h6, -⟩ := Cond.codeWith_spec (atoms_spec (ws := ws) h _ (by rw [hw]; exact List.mem_cons_self))
    cases hn.symm.trans hn9
    exact ⟨meth, c, h1, h2, h3, h4, h5, h6⟩
  · intro p e s m args below meth c s₁ B hml hP _
    have hh0 : s₁.heap = s.heap := by rw [B.state]; rfl
    obtain ⟨t, a1, o, b1, b2, b3⟩ := body p e s m args below meth c s₁ B hml hP s₁ hh0 (Stand.of_body B)
    exact ⟨t, o, a1, b1, b2, b3⟩
theorem hp_call {p : Program} {l : Launch} {D : va_G} {cA : Nat → ClassId} {ad : Nat → Nat} {ao : Nat} {e : Env} {s : State} {m : MethodId} {args : Array Value} {below : List Frame} {meth : Method} {c : Code} {cc' cc : ByteArray} {nL' nL pc idx n : Nat} {ls : Array Slot} {rest : List Value} {y : MethodName} {vals : List ja_V} {h : ja_H} {o : Int} {Q : Option ja_V → ja_H → Prop} {Z : State → Prop}
    (hx : p.tables.exec = Jvm.exec) (hb : c.code = cc') (hml : c.maxLocals = nL') (hown : s.vm.findClass RL = some m.cls) (hts : ∀ w ∈ ja_B, w.before args s = true) (hnw : ja_N s) (hlt : ja_Lt ad cw_K s) (hsr : jx_Lt ad cw_K s) (hK : va_K D ja_cl (ja_t cA) s) (hP : va_P D ja_cl (ja_w cA ad cw_sp cw_K h) s.heap) (hO : va_P D ja_cl (hp_o cA ao o) s.heap) (hao : ¬ ja_A ad cw_K ao)
    (hw1 : Cond.methodLink RL idx y ∈ ja_B) (hw2 : Cond.instanceMethod y ∈ ja_B) (hw3 : Cond.selects y.cls y y ∈ ja_B) (hw4 : Cond.initialized y.cls ∈ ja_B) (hw5 : Cond.code y cc nL (some .int) ∈ ja_B)
    (hy : y.cls ≠ "java/lang/invoke/MethodHandle" ∧ y.cls ≠ "java/lang/invoke/VarHandle" ∧ (parseMethodDescriptor y.desc).map (fun d => d.parameters.length) = some n) (hy11 : y.cls = RX11) (hn : vals.length = n) (hnL : nL ≤ 45) (hls : ls.size = nL') (hwd : (rest.map fun v => v.category).sum ≤ 8)
    (hd : decode cc' pc = .ok (.invokevirtual idx, 3))
    (hM : vx_Met l y (Cond.code y cc nL (some .int) :: ja_B) (jx_R 180) (jx_PC D cA ad cw_sp cw_K ((2, ((0 : Nat) : Int)) :: vals) h) (ja_Q D cA ad cw_sp cw_K (jx_Qr Q)) (jx_X D cA ad cw_sp cw_K Q) 1 6 (ja_A ad cw_K))
    (kr : ∀ (r : Option ja_V) (h' : ja_H) (H1 : Heap) (locs1 : List Loc), jx_Qr Q r h' → va_P D ja_cl (ja_w cA ad cw_sp cw_K h') H1 → va_P D ja_cl (hp_o cA ao o) H1 → va_S (hp_A ad ao) s.heap H1 locs1 → W p l e hp_R s m args below meth c H1 locs1 1 6 Z (F0 m (pc + 3) ls ((r.map (ja_c ad)).toList ++ rest)))
    (kx : ∀ (r : Nat) (h' : ja_H) (H1 : Heap) (locs1 : List Loc) (q : Addr) (ce : Cell), (r = 7 ∨ r = 8 ∨ r = 9) → Q (some (r, 0)) h' → va_P D ja_cl (ja_w cA ad cw_sp cw_K h') H1 → va_P D ja_cl (hp_o cA ao o) H1 → va_S (hp_A ad ao) s.heap H1 locs1 → H1[q]? = some ce → ce.vm = .none → s.vm.findClass (jx_n r) = some ce.cls → vx_W p l e hp_R s m args below meth c H1 locs1 1 6 Z (F0 m pc ls rest) q) :
    W p l e hp_R s m args below meth c s.heap [] 0 0 Z (F0 m pc ls ((vals.map (ja_c ad)).reverse ++ .ref (ad 0) :: rest)) := by
  have cb : CallB hp_R s args RL idx y cc nL (some .int) (Cond.code y cc nL (some .int) :: ja_B) (jx_R 180) 1 6 n := callB_of n hts (ja_good hw5) rfl rfl rfl (hts _ hw4) (hts _ hw1) ⟨hy.1, hy.2.1, hy.2.2⟩ ⟨by show 180 + 1 ≤ 200; omega, by show 8 + (nL + 11) + 64 * 180 ≤ 64 * 200; omega⟩
  have he : (ja_w cA ad cw_sp cw_K h)[0]? = some (ad 0, .inr (11, (List.range 12).map (ja_fv ad cw_sp h 0))) := by rw [ja_w_get (by decide), ja_e_obj (ci := 11) (N := 12) rfl (by decide)]
  have hpre : PreV s s.heap y.cls (ad 0) (jx_PC D cA ad cw_sp cw_K ((2, ((0 : Nat) : Int)) :: vals) h) (vals.map (ja_c ad)) := ⟨jx_blind, by rw [hy11]; exact va_recv hK hP (show ja_cl[11]? = some (RX11, TX11, 12) from rfl) he, fun U hU hW => ⟨⟨rfl, by rw [hU]; exact hP, va_K.moved hW.alike hK, ja_N.warm hW hnw, ja_Lt.call hW hU va_S.rf hlt⟩, jx_Lt.call hW hU va_S.rf hsr⟩⟩
  have run := vx_runV (e := e) (below := below) (meth := meth) (locs := []) (cells := 0) (slots := 0) (g := F0 m pc ls ((vals.map (ja_c ad)).reverse ++ .ref (ad 0) :: rest)) (rest := rest) ⟨hx, hb, hml, hown, hts⟩ hM ⟨cb, hts _ hw2, hts _ hw3⟩ hpre rfl (by rw [List.length_map, hn]) hls rfl (lv_room hwd) hd ⟨by show 0 + 1 ≤ 1; omega, by show 0 + 6 ≤ 6; omega⟩
  have keep : ∀ {t : State} {H1 : Heap} {L : List Loc}, H1 = t.heap → (s.heap.size ≤ t.heap.size ∧ ∀ q, q < s.heap.size → ¬ ja_A ad cw_K q → t.heap[q]? = s.heap[q]?) → (∀ q ∈ L, ja_A ad cw_K q.base) → va_P D ja_cl (hp_o cA ao o) H1 ∧ va_S (hp_A ad ao) s.heap H1 L := by
    intro t H1 L e1 hF hL
    subst e1
    refine ⟨hO.kept (fun k q hk => ?_), hF.1, fun q h1 h2 => hF.2 q h1 (fun z => h2 (Or.inl z)), fun q hq => Or.inl (hL q hq)⟩
    have hq : q.1 = ao := by
      have hk1 : k < 1 := (List.getElem?_eq_some_iff.mp hk).1
      have hk0 : k = 0 := by omega
      subst hk0
      cases hk
      rfl
    rw [hq]
    exact hF.2 ao (by rw [← hq]; exact vx_lt hO hk) hao
  intro T hT X
  rcases run T hT X with ⟨v, st₀, t, T', L, h0, X', hL, e1, e2, ⟨r, h', ho, hr, hP', hF⟩, st⟩ | ⟨q, st₀, t, T', L, E, ce, h0, X', hL, e1, e2, ⟨r, h', hE, hr9, hr, hP', hF⟩, hce, hcv, hcl, st⟩
  · have hv : v = r.map (ja_c ad) := by cases ho; rfl
    subst hv
    unfold va_F at hF
    rw [h0] at hF
    obtain ⟨g1, g2⟩ := keep e1 hF hL
    obtain ⟨t2, a1, b1⟩ := kr r h' T'.heap L hr (by rw [e1]; exact hP') g1 g2 T' rfl X'
    exact ⟨t2, st t2 a1, b1⟩
  · unfold va_F at hF
    rw [h0] at hF
    obtain ⟨g1, g2⟩ := keep e1 hF hL
    obtain ⟨t2, a1, b1⟩ := kx r h' T'.heap L q ce hr9 hr (by rw [e1]; exact hP') g1 g2 (by rw [e1]; exact hce) hcv (by rw [hE]; exact hcl) T' rfl X'
    exact ⟨t2, st.trans a1, b1⟩
theorem hp_at {cA : Nat → ClassId} {ad : Nat → Nat} {h : ja_H} {k : Nat} {q : Nat × va_E} (hk : (ja_w cA ad cw_sp cw_K h)[k]? = some q) : k < cw_K ∧ q.1 = ad k := by
  have hk1 : k < cw_K := by
    have := (List.getElem?_eq_some_iff.mp hk).1
    simpa [ja_w] using this
  rw [ja_w_get hk1] at hk
  cases hk
  exact ⟨hk1, rfl⟩
theorem hp_at1 {cA : Nat → ClassId} {ao : Nat} {o : Int} {k : Nat} {q : Nat × va_E} (hk : (hp_o cA ao o)[k]? = some q) : k = 0 ∧ q.1 = ao := by
  have hk1 : k < 1 := (List.getElem?_eq_some_iff.mp hk).1
  have hk0 : k = 0 := by omega
  subst hk0
  cases hk
  exact ⟨rfl, rfl⟩
theorem hp_D {cA : Nat → ClassId} {ad : Nat → Nat} {ao : Nat} {h : ja_H} {o : Int} (hi : ∀ i j, i < cw_K → j < cw_K → ad i = ad j → i = j) (hao : ¬ ja_A ad cw_K ao) : va_D (hp_A ad ao) (ja_w cA ad cw_sp cw_K h ++ hp_o cA ao o) := by
  refine va_D.app ⟨(ja_D hi).1, fun k q hk => Or.inl ((ja_D hi).2 k q hk)⟩ ⟨fun i j p q hp hq _ => by rw [(hp_at1 hp).1, (hp_at1 hq).1], fun k q hk => Or.inr (hp_at1 hk).2⟩ (fun i j p q hp hq e => ?_)
  obtain ⟨h1, h2⟩ := hp_at hp
  exact hao ⟨i, h1, by rw [← h2, e, (hp_at1 hq).2]⟩
theorem hp_store {p : Program} {l : Launch} {D : va_G} {cA : Nat → ClassId} {ad : Nat → Nat} {ao : Nat} {e : Env} {R : Room} {s : State} {m : MethodId} {args : Array Value} {below : List Frame} {meth : Method} {c : Code} {cc : ByteArray} {pc cells slots : Nat} {ls : Array Slot} {rest : List Value} {h : ja_H} {o y : Int} {H : Heap} {H0 : Heap} {locs : List Loc} {Z : State → Prop}
    (hx : p.tables.exec = Jvm.exec) (hb : c.code = cc) (hK : va_K D ja_cl (ja_t cA) s) (hi : ∀ i j, i < cw_K → j < cw_K → ad i = ad j → i = j) (hao : ¬ ja_A ad cw_K ao) (hP : va_P D ja_cl (ja_w cA ad cw_sp cw_K h) H) (hO : va_P D ja_cl (hp_o cA ao o) H) (hS : va_S (hp_A ad ao) H0 H locs) (hd : decode cc pc = .ok (.lastore, 1))
    (kk : ∀ (H1 : Heap) (locs1 : List Loc), va_P D ja_cl (ja_w cA ad cw_sp cw_K h) H1 → va_P D ja_cl (hp_o cA ao y) H1 → va_S (hp_A ad ao) H0 H1 locs1 → W p l e R s m args below meth c H1 locs1 cells slots Z (F0 m (pc + 1) ls rest)) :
    W p l e R s m args below meth c H locs cells slots Z (F0 m pc ls (.long (Int64.ofInt y) :: .int 0 :: .ref ao :: rest)) := by
  have hlen : (ja_w cA ad cw_sp cw_K h).length = cw_K := by simp [ja_w]
  have h85 : (ja_w cA ad cw_sp cw_K h ++ hp_o cA ao o)[cw_K]? = some (ao, .inl (cA 3, 1, .inr (.inl fun j => if j = 0 then Int64.ofInt o else 0))) := by
    rw [List.getElem?_append_right (by rw [hlen]; exact Nat.le_refl _), hlen, Nat.sub_self]
    rfl
  refine va_last (D := D) hx hb hK (hP.app hO) (hp_D hi hao) hS cw_K 3 h85 rfl (i := 0) (by exact (ja_ix (i := 0) (n := 1) (by omega) (by omega) (by omega)).1) hd (fun H1 locs1 hP1 hD1 hS1 => ?_)
  refine kk H1 locs1 (fun k q hk => hP1 k q ?_) (fun k q hk => hP1 cw_K q ?_) hS1
  · have hk1 := (hp_at hk).1
    rw [List.getElem?_set_ne (by omega), List.getElem?_append_left (by rw [hlen]; exact hk1)]
    exact hk
  · obtain ⟨rfl, hq⟩ := hp_at1 hk
    rw [List.getElem?_set_self (by rw [List.length_append, hlen]; show cw_K < cw_K + 1; omega)]
    rw [← hk]
    have e1 : vp_updL (fun j => if j = 0 then Int64.ofInt o else 0) (0 : Int32).toNatClampNeg (Int64.ofInt y) = fun j => if j = 0 then Int64.ofInt y else 0 := by
      funext j
      show (if j = 0 then Int64.ofInt y else if j = 0 then Int64.ofInt o else 0) = _
      by_cases hj : j = 0
      · rw [if_pos hj, if_pos hj]
      · rw [if_neg hj, if_neg hj, if_neg hj]
    rw [e1]
    rfl
section HP
variable {l : Launch} {D : va_G} {cA : Nat → ClassId} {ad : Nat → Nat} {ao : Nat} {h : ja_H} {o v0 : Int}
theorem hp_feed {a1 a2 : Int} (hst : l.stackTraces = false) (hi : ∀ i j, i < cw_K → j < cw_K → ad i = ad j → i = j) (hao : ¬ ja_A ad cw_K ao) (r1 : ja_r a1) (W0 : ck_W cw_sp cw_fi cw_K cw_pr v0 h) :
    Met l yL_feed (Cond.codeWith yL_feed cL_feed 6 (some .int) [(0, 11, 14, 13)] :: ja_B) hp_R (hp_PC D cA ad ao h o [.ref (ad 0), .int (Int32.ofInt a1), .long (Int64.ofInt a2), .ref ao]) (hp_Q D cA ad ao (fun k o' h' => ((a1 < 1 ∨ 8 < a1 ∨ 5000 < v0 + a1) ∧ k = 1 ∧ ck_W cw_sp cw_fi cw_K cw_pr v0 h') ∨ (1 ≤ a1 ∧ a1 ≤ 8 ∧ v0 + a1 ≤ 5000 ∧ k = 0 ∧ o' = ((Int32.ofInt (v0 + a1)).toInt64).toInt ∧ ck_W cw_sp cw_fi cw_K cw_pr (v0 + a1) h'))) 1 6 (hp_A ad ao) := by
  refine xh_ofW (cc := cL_feed) (maxL := 6) (ret := some .int) (hh := [(0, 11, 14, 13)]) (by decide +kernel) rfl ?_
  intro p e s m args below meth c s₁ B hml hv
  obtain ⟨rfl, hP, hO, hK, hN, hT, hsr, hX⟩ := hv
  have hx := B.exec
  have hb := B.bytes
  have hr := B.returns
  have hts0 := atoms_spec (ws := Cond.codeWith yL_feed cL_feed 6 (some .int) [(0, 11, 14, 13)] :: ja_B) B.pre
  have hts : ∀ w ∈ ja_B, w.before _ s = true := fun w hw => hts0 w (List.mem_cons_of_mem _ hw)
  have hown : s.vm.findClass RL = some m.cls := findClass_of_methodNamed B.named
  have hlk := B.notSynchronized
  have htab : c.exceptionTable.toList = tableOf [(0, 11, 14, 13)] := vx_table (x := yL_feed) B (hts0 _ List.mem_cons_self)
  have hl := lv_entry [.ref (ad 0), .int (Int32.ofInt a1), .long (Int64.ofInt a2), .ref ao] (n := 6) (Nat.le_of_ble_eq_true rfl)
  rw [lg_entry_eq]
  generalize (lg_sl [.ref (ad 0), .int (Int32.ofInt a1), .long (Int64.ofInt a2), .ref ao] ++ List.replicate (6 - (lg_sl [.ref (ad 0), .int (Int32.ofInt a1), .long (Int64.ofInt a2), .ref ao]).length) Slot.unset).toArray = ls at hl ⊢
  have hl : lv_has ls 6 [(0, .ref (ad 0)), (1, .int (Int32.ofInt a1)), (2, .long (Int64.ofInt a2)), (4, .ref ao)] := hl
  have g := hl.2.2
  have hM0 : jx_M l D cA ad cw_sp cw_K 180 yX11_feed cX11_feed 4 (some .int) [(2, ((0 : Nat) : Int)), (0, a1), (1, a2)] h (fun r h' => ((a1 < 1 ∨ 8 < a1 ∨ 5000 < v0 + a1) ∧ r = some (7, 0) ∧ ck_W cw_sp cw_fi cw_K cw_pr v0 h') ∨ (1 ≤ a1 ∧ a1 ≤ 8 ∧ v0 + a1 ≤ 5000 ∧ r = some (0, v0 + a1) ∧ ck_W cw_sp cw_fi cw_K cw_pr (v0 + a1) h')) := fx_feed (by omega) r1 W0 (fun h' hB W' => Or.inl ⟨hB, rfl, W'⟩) (fun h' q1 q2 q3 W' => Or.inr ⟨q1, q2, q3, rfl, W'⟩)
  have hM := jx_met hst hi (by decide +kernel) (show ja_wd [(2, ((0 : Nat) : Int)), (0, a1), (1, a2)] ≤ 4 from Nat.le_of_ble_eq_true rfl) hM0
  refine lv_aload hx hb dhfeed_0 (g (4, .ref ao) (by simp)) ?_
  refine lv_iconst (v := 0) hx hb dhfeed_2 (by decide) ?_
  refine lv_aload_n hx hb dhfeed_3 rfl (g (0, .ref (ad 0)) (by simp)) ?_
  refine lv_iload_n hx hb dhfeed_4 rfl (g (1, .int (Int32.ofInt a1)) (by simp)) ?_
  refine lv_lload_n hx hb dhfeed_5 rfl (g (2, .long (Int64.ofInt a2)) (by simp)) ?_
  refine hp_call (o := o) (Z := MQ below (hp_Q D cA ad ao (fun k o' h' => ((a1 < 1 ∨ 8 < a1 ∨ 5000 < v0 + a1) ∧ k = 1 ∧ ck_W cw_sp cw_fi cw_K cw_pr v0 h') ∨ (1 ≤ a1 ∧ a1 ≤ 8 ∧ v0 + a1 ≤ 5000 ∧ k = 0 ∧ o' = ((Int32.ofInt (v0 + a1)).toInt64).toInt ∧ ck_W cw_sp cw_fi cw_K cw_pr (v0 + a1) h'))) _ s 1 6 (hp_A ad ao)) (n := 2) (vals := [(0, a1), (1, a2)]) (rest := [.int 0, .ref ao]) hx hb hml hown hts hN hT hsr hK hP hO hao (ja_m (ck_tb_in (p := 6106) (by decide +kernel)) rfl) (ja_m (ck_tb_in (p := 6107) (by decide +kernel)) rfl) (ja_m (ck_tb_in (p := 6108) (by decide +kernel)) rfl) (ja_m (ck_tb_in (p := 4865) (by decide +kernel)) rfl) (ja_m (ck_tb_in (p := 6109) (by decide +kernel)) rfl) (by decide +kernel) rfl rfl (by decide) hl.1 (Nat.le_of_ble_eq_true rfl) dhfeed_6 hM (fun r h' H1 locs1 hq hP1 hO1 hS1 => ?_) (fun r h' H1 locs1 q ce hr9 hq hP1 hO1 hS1 hce hcv hcl => ?_)
  · obtain ⟨hq1, hq2⟩ := hq
    have hy : ∃ x, r = some (0, x) ∧ 1 ≤ a1 ∧ a1 ≤ 8 ∧ v0 + a1 ≤ 5000 ∧ x = v0 + a1 ∧ ck_W cw_sp cw_fi cw_K cw_pr (v0 + a1) h' := by
      rcases hq2 with ⟨-, rfl, -⟩ | ⟨q1, q2, q3, rfl, q5⟩
      · exact absurd (hq1 _ rfl) (by decide)
      · exact ⟨_, rfl, q1, q2, q3, rfl, q5⟩
    obtain ⟨x, rfl, q1, q2, q3, q4, W1⟩ := hy
    have rx : ja_r x := by
      obtain ⟨z0, z1⟩ := fe_W0 W1
      exact ⟨by omega, by omega⟩
    show W p l e hp_R s m _ below meth c H1 locs1 1 6 _ (F0 m 9 ls [.int (Int32.ofInt x), .int 0, .ref ao])
    refine lv_i2l (v := Int64.ofInt ((Int32.ofInt x).toInt64).toInt) hx hb dhfeed_9 (Int64.ofInt_toInt _).symm ?_
    refine hp_store (y := ((Int32.ofInt x).toInt64).toInt) hx hb hK hi hao hP1 hO1 hS1 dhfeed_10 (fun H2 locs2 hP2 hO2 hS2 => ?_)
    refine lv_goto (tgt := 18) hx hb dhfeed_11 (by decide) ?_
    refine lv_iconst (v := 0) hx hb dhfeed_18 (by decide) ?_
    refine W.iret (v := 0) hx hb hr (fun t ht hW => ⟨0, ((Int32.ofInt x).toInt64).toInt, h', rfl, Or.inr ⟨q1, q2, q3, rfl, by rw [q4], W1⟩, by rw [ht]; exact hP2, by rw [ht]; exact hO2, hS2.F ht⟩) hS2.2.2 dhfeed_19 hlk
  · have htab := htab
    have hcast : ∀ A : Array Value, (Cond.castable (jx_n r) (jx_n r)).before A s = true := fun A => va_Nw.use rfl (hsr.1.2 _ (by rcases hr9 with rfl | rfl | rfl <;> simp [jx_n, jx_Cn]))
    obtain ⟨hbad, rfl, W1⟩ : (a1 < 1 ∨ 8 < a1 ∨ 5000 < v0 + a1) ∧ r = 7 ∧ ck_W cw_sp cw_fi cw_K cw_pr v0 h' := by
      rcases hq with ⟨q1, q2, q3⟩ | ⟨-, -, -, q4, -⟩
      · have : ((r : Nat), (0 : Int)) = (7, 0) := Option.some.inj q2
        exact ⟨q1, congrArg Prod.fst this, q3⟩
      · have : ((r : Nat), (0 : Int)) = (0, v0 + a1) := Option.some.inj q4
        have : r = 0 := congrArg Prod.fst this
        omega
    refine xc_catch (own := RL) (name := "java/lang/IllegalArgumentException") (E := "java/lang/IllegalArgumentException") hown [] ⟨0, 11, 14, 13⟩ [] (htab.trans rfl) (fun z hz => (by cases hz)) (by decide) (by decide) (hts _ hp_k7) (hcast _) hce hcv hcl ?_
    refine lv_astore (i := 5) (lv' := [(5, .ref q), (0, .ref (ad 0)), (1, .int (Int32.ofInt a1)), (2, .long (Int64.ofInt a2)), (4, .ref ao)]) hx hb dhfeed_14 hl (by decide) rfl (fun ls2 hl2 => ?_)
    refine lv_iconst (v := 1) hx hb dhfeed_16 (by decide) ?_
    exact W.iret (v := 1) hx hb hr (fun t ht hW => ⟨1, o, h', rfl, Or.inl ⟨hbad, rfl, W1⟩, by rw [ht]; exact hP1, by rw [ht]; exact hO1, hS1.F ht⟩) hS1.2.2 dhfeed_17 hlk
theorem hp_fault {a1 : Int} (hst : l.stackTraces = false) (hi : ∀ i j, i < cw_K → j < cw_K → ad i = ad j → i = j) (hao : ¬ ja_A ad cw_K ao) (r1 : ja_r a1) (W0 : ck_W cw_sp cw_fi cw_K cw_pr v0 h) :
    Met l yL_fault (Cond.codeWith yL_fault cL_fault 4 (some .int) [(0, 9, 12, 19)] :: ja_B) hp_R (hp_PC D cA ad ao h o [.ref (ad 0), .int (Int32.ofInt a1), .ref ao]) (hp_Q D cA ad ao (fun _ _ h' => ck_W cw_sp cw_fi cw_K cw_pr v0 h')) 1 6 (hp_A ad ao) := by
  refine xh_ofW (cc := cL_fault) (maxL := 4) (ret := some .int) (hh := [(0, 9, 12, 19)]) (by decide +kernel) rfl ?_
  intro p e s m args below meth c s₁ B hml hv
  obtain ⟨rfl, hP, hO, hK, hN, hT, hsr, hX⟩ := hv
  have hx := B.exec
  have hb := B.bytes
  have hr := B.returns
  have hts0 := atoms_spec (ws := Cond.codeWith yL_fault cL_fault 4 (some .int) [(0, 9, 12, 19)] :: ja_B) B.pre
  have hts : ∀ w ∈ ja_B, w.before _ s = true := fun w hw => hts0 w (List.mem_cons_of_mem _ hw)
  have hown : s.vm.findClass RL = some m.cls := findClass_of_methodNamed B.named
  have hlk := B.notSynchronized
  have htab : c.exceptionTable.toList = tableOf [(0, 9, 12, 19)] := vx_table (x := yL_fault) B (hts0 _ List.mem_cons_self)
  have hl := lv_entry [.ref (ad 0), .int (Int32.ofInt a1), .ref ao] (n := 4) (Nat.le_of_ble_eq_true rfl)
  rw [lg_entry_eq]
  generalize (lg_sl [.ref (ad 0), .int (Int32.ofInt a1), .ref ao] ++ List.replicate (4 - (lg_sl [.ref (ad 0), .int (Int32.ofInt a1), .ref ao]).length) Slot.unset).toArray = ls at hl ⊢
  have hl : lv_has ls 4 [(0, .ref (ad 0)), (1, .int (Int32.ofInt a1)), (2, .ref ao)] := hl
  have g := hl.2.2
  have hM0 := cf_fault (l := l) (D := D) (cA := cA) (ad := ad) (v0 := v0) [(2, ((0 : Nat) : Int)), (0, a1)] h ⟨⟨.inr (.inr ⟨rfl, rfl⟩), fun i q => (by cases q)⟩, ⟨.inl ⟨rfl, rfl, r1.1, r1.2, r1, fun i q => (by cases q), fun q => (by cases q)⟩, fun i q => (by cases q)⟩, trivial⟩ W0
  have hM0 : jx_M l D cA ad cw_sp cw_K 180 yX11_fault cX11_fault 2 (some .int) [(2, ((0 : Nat) : Int)), (0, a1)] h (fun r h' => (ck_rok cf_s0.2.2.1 r ∨ ∃ x, x ∈ ([9] : List Nat) ∧ (x = 7 ∨ x = 8 ∨ x = 9) ∧ r = some (x, 0)) ∧ ck_W cw_sp cw_fi cw_K cw_pr v0 h') := hM0
  have hM := jx_met hst hi (by decide +kernel) (show ja_wd [(2, ((0 : Nat) : Int)), (0, a1)] ≤ 2 from Nat.le_of_ble_eq_true rfl) hM0
  refine lv_aload_n hx hb dhfault_0 rfl (g (2, .ref ao) (by simp)) ?_
  refine lv_iconst (v := 0) hx hb dhfault_1 (by decide) ?_
  refine lv_aload_n hx hb dhfault_2 rfl (g (0, .ref (ad 0)) (by simp)) ?_
  refine lv_iload_n hx hb dhfault_3 rfl (g (1, .int (Int32.ofInt a1)) (by simp)) ?_
  refine hp_call (o := o) (Z := MQ below (hp_Q D cA ad ao (fun _ _ h' => ck_W cw_sp cw_fi cw_K cw_pr v0 h')) _ s 1 6 (hp_A ad ao)) (n := 1) (vals := [(0, a1)]) (rest := [.int 0, .ref ao]) hx hb hml hown hts hN hT hsr hK hP hO hao (ja_m (ck_tb_in (p := 6201) (by decide +kernel)) rfl) (ja_m (ck_tb_in (p := 6202) (by decide +kernel)) rfl) (ja_m (ck_tb_in (p := 6203) (by decide +kernel)) rfl) (ja_m (ck_tb_in (p := 4865) (by decide +kernel)) rfl) (ja_m (ck_tb_in (p := 6204) (by decide +kernel)) rfl) (by decide +kernel) rfl rfl (by decide) hl.1 (Nat.le_of_ble_eq_true rfl) dhfault_4 hM (fun r h' H1 locs1 hq hP1 hO1 hS1 => ?_) (fun r h' H1 locs1 q ce hr9 hq hP1 hO1 hS1 hce hcv hcl => ?_)
  · obtain ⟨hq1, hq2, W1⟩ := hq
    obtain ⟨x, rfl⟩ : ∃ x, r = some (0, x) := by
      rcases hq2 with hq2 | ⟨x, -, hx9, rfl⟩
      · cases r with
        | none => exact hq2.elim
        | some v =>
          obtain ⟨y, rfl, -⟩ := ck_int hq2.1 rfl
          exact ⟨y, rfl⟩
      · have h2 : x < 2 := hq1 _ rfl
        omega
    show W p l e hp_R s m _ below meth c H1 locs1 1 6 _ (F0 m 7 ls [.int (Int32.ofInt x), .int 0, .ref ao])
    refine lv_i2l (v := Int64.ofInt ((Int32.ofInt x).toInt64).toInt) hx hb dhfault_7 (Int64.ofInt_toInt _).symm ?_
    refine hp_store (y := ((Int32.ofInt x).toInt64).toInt) hx hb hK hi hao hP1 hO1 hS1 dhfault_8 (fun H2 locs2 hP2 hO2 hS2 => ?_)
    refine lv_goto (tgt := 15) hx hb dhfault_9 (by decide) ?_
    refine lv_iconst (v := 0) hx hb dhfault_15 (by decide) ?_
    refine W.iret (v := 0) hx hb hr (fun t ht hW => ⟨0, ((Int32.ofInt x).toInt64).toInt, h', rfl, W1, by rw [ht]; exact hP2, by rw [ht]; exact hO2, hS2.F ht⟩) hS2.2.2 dhfault_16 hlk
  · have htab := htab
    have hcast : ∀ A : Array Value, (Cond.castable (jx_n r) (jx_n r)).before A s = true := fun A => va_Nw.use rfl (hsr.1.2 _ (by rcases hr9 with rfl | rfl | rfl <;> simp [jx_n, jx_Cn]))
    obtain ⟨hx9, W1⟩ : r ∈ ([9] : List Nat) ∧ ck_W cw_sp cw_fi cw_K cw_pr v0 h' := by
      refine ⟨?_, hq.2⟩
      rcases hq.1 with q1 | ⟨x, q1, -, q2⟩
      · obtain ⟨y, q3, -⟩ := ck_int q1.1 rfl
        have : r = 0 := congrArg Prod.fst q3
        omega
      · have : ((r : Nat), (0 : Int)) = (x, 0) := Option.some.inj q2
        have : r = x := congrArg Prod.fst this
        rw [this]; exact q1
    simp only [List.mem_cons, List.not_mem_nil, or_false] at hx9
    subst hx9
    refine xc_catch (own := RL) (name := "java/lang/IndexOutOfBoundsException") (E := "java/lang/IndexOutOfBoundsException") hown [] ⟨0, 9, 12, 19⟩ [] (htab.trans rfl) (fun z hz => (by cases hz)) (by decide) (by decide) (hts _ hp_k9) (hcast _) hce hcv hcl ?_
    refine lv_astore_n (i := 3) (lv' := [(3, .ref q), (0, .ref (ad 0)), (1, .int (Int32.ofInt a1)), (2, .ref ao)]) hx hb dhfault_12 rfl hl (by decide) rfl (fun ls2 hl2 => ?_)
    refine lv_iconst (v := 1) hx hb dhfault_13 (by decide) ?_
    exact W.iret (v := 1) hx hb hr (fun t ht hW => ⟨1, o, h', rfl, W1, by rw [ht]; exact hP1, by rw [ht]; exact hO1, hS1.F ht⟩) hS1.2.2 dhfault_14 hlk
theorem hp_count {a1 : Int} (hst : l.stackTraces = false) (hi : ∀ i j, i < cw_K → j < cw_K → ad i = ad j → i = j) (hao : ¬ ja_A ad cw_K ao) (r1 : ja_r a1) (W0 : ck_W cw_sp cw_fi cw_K cw_pr v0 h) :
    Met l yL_count (Cond.codeWith yL_count cL_count 4 (some .int) [(0, 9, 12, 19)] :: ja_B) hp_R (hp_PC D cA ad ao h o [.ref (ad 0), .int (Int32.ofInt a1), .ref ao]) (hp_Q D cA ad ao (fun _ _ h' => ck_W cw_sp cw_fi cw_K cw_pr v0 h')) 1 6 (hp_A ad ao) := by
  refine xh_ofW (cc := cL_count) (maxL := 4) (ret := some .int) (hh := [(0, 9, 12, 19)]) (by decide +kernel) rfl ?_
  intro p e s m args below meth c s₁ B hml hv
  obtain ⟨rfl, hP, hO, hK, hN, hT, hsr, hX⟩ := hv
  have hx := B.exec
  have hb := B.bytes
  have hr := B.returns
  have hts0 := atoms_spec (ws := Cond.codeWith yL_count cL_count 4 (some .int) [(0, 9, 12, 19)] :: ja_B) B.pre
  have hts : ∀ w ∈ ja_B, w.before _ s = true := fun w hw => hts0 w (List.mem_cons_of_mem _ hw)
  have hown : s.vm.findClass RL = some m.cls := findClass_of_methodNamed B.named
  have hlk := B.notSynchronized
  have htab : c.exceptionTable.toList = tableOf [(0, 9, 12, 19)] := vx_table (x := yL_count) B (hts0 _ List.mem_cons_self)
  have hl := lv_entry [.ref (ad 0), .int (Int32.ofInt a1), .ref ao] (n := 4) (Nat.le_of_ble_eq_true rfl)
  rw [lg_entry_eq]
  generalize (lg_sl [.ref (ad 0), .int (Int32.ofInt a1), .ref ao] ++ List.replicate (4 - (lg_sl [.ref (ad 0), .int (Int32.ofInt a1), .ref ao]).length) Slot.unset).toArray = ls at hl ⊢
  have hl : lv_has ls 4 [(0, .ref (ad 0)), (1, .int (Int32.ofInt a1)), (2, .ref ao)] := hl
  have g := hl.2.2
  have hM0 := cf_count (l := l) (D := D) (cA := cA) (ad := ad) (v0 := v0) [(2, ((0 : Nat) : Int)), (0, a1)] h ⟨⟨.inr (.inr ⟨rfl, rfl⟩), fun i q => (by cases q)⟩, ⟨.inl ⟨rfl, rfl, r1.1, r1.2, r1, fun i q => (by cases q), fun q => (by cases q)⟩, fun i q => (by cases q)⟩, trivial⟩ W0
  have hM0 : jx_M l D cA ad cw_sp cw_K 180 yX11_count cX11_count 2 (some .int) [(2, ((0 : Nat) : Int)), (0, a1)] h (fun r h' => (ck_rok cf_s1.2.2.1 r ∨ ∃ x, x ∈ ([9] : List Nat) ∧ (x = 7 ∨ x = 8 ∨ x = 9) ∧ r = some (x, 0)) ∧ ck_W cw_sp cw_fi cw_K cw_pr v0 h') := hM0
  have hM := jx_met hst hi (by decide +kernel) (show ja_wd [(2, ((0 : Nat) : Int)), (0, a1)] ≤ 2 from Nat.le_of_ble_eq_true rfl) hM0
  refine lv_aload_n hx hb dhcount_0 rfl (g (2, .ref ao) (by simp)) ?_
  refine lv_iconst (v := 0) hx hb dhcount_1 (by decide) ?_
  refine lv_aload_n hx hb dhcount_2 rfl (g (0, .ref (ad 0)) (by simp)) ?_
  refine lv_iload_n hx hb dhcount_3 rfl (g (1, .int (Int32.ofInt a1)) (by simp)) ?_
  refine hp_call (o := o) (Z := MQ below (hp_Q D cA ad ao (fun _ _ h' => ck_W cw_sp cw_fi cw_K cw_pr v0 h')) _ s 1 6 (hp_A ad ao)) (n := 1) (vals := [(0, a1)]) (rest := [.int 0, .ref ao]) hx hb hml hown hts hN hT hsr hK hP hO hao (ja_m (ck_tb_in (p := 6224) (by decide +kernel)) rfl) (ja_m (ck_tb_in (p := 6225) (by decide +kernel)) rfl) (ja_m (ck_tb_in (p := 6226) (by decide +kernel)) rfl) (ja_m (ck_tb_in (p := 4865) (by decide +kernel)) rfl) (ja_m (ck_tb_in (p := 6227) (by decide +kernel)) rfl) (by decide +kernel) rfl rfl (by decide) hl.1 (Nat.le_of_ble_eq_true rfl) dhcount_4 hM (fun r h' H1 locs1 hq hP1 hO1 hS1 => ?_) (fun r h' H1 locs1 q ce hr9 hq hP1 hO1 hS1 hce hcv hcl => ?_)
  · obtain ⟨hq1, hq2, W1⟩ := hq
    obtain ⟨x, rfl⟩ : ∃ x, r = some (0, x) := by
      rcases hq2 with hq2 | ⟨x, -, hx9, rfl⟩
      · cases r with
        | none => exact hq2.elim
        | some v =>
          obtain ⟨y, rfl, -⟩ := ck_int hq2.1 rfl
          exact ⟨y, rfl⟩
      · have h2 : x < 2 := hq1 _ rfl
        omega
    show W p l e hp_R s m _ below meth c H1 locs1 1 6 _ (F0 m 7 ls [.int (Int32.ofInt x), .int 0, .ref ao])
    refine lv_i2l (v := Int64.ofInt ((Int32.ofInt x).toInt64).toInt) hx hb dhcount_7 (Int64.ofInt_toInt _).symm ?_
    refine hp_store (y := ((Int32.ofInt x).toInt64).toInt) hx hb hK hi hao hP1 hO1 hS1 dhcount_8 (fun H2 locs2 hP2 hO2 hS2 => ?_)
    refine lv_goto (tgt := 15) hx hb dhcount_9 (by decide) ?_
    refine lv_iconst (v := 0) hx hb dhcount_15 (by decide) ?_
    refine W.iret (v := 0) hx hb hr (fun t ht hW => ⟨0, ((Int32.ofInt x).toInt64).toInt, h', rfl, W1, by rw [ht]; exact hP2, by rw [ht]; exact hO2, hS2.F ht⟩) hS2.2.2 dhcount_16 hlk
  · have htab := htab
    have hcast : ∀ A : Array Value, (Cond.castable (jx_n r) (jx_n r)).before A s = true := fun A => va_Nw.use rfl (hsr.1.2 _ (by rcases hr9 with rfl | rfl | rfl <;> simp [jx_n, jx_Cn]))
    obtain ⟨hx9, W1⟩ : r ∈ ([9] : List Nat) ∧ ck_W cw_sp cw_fi cw_K cw_pr v0 h' := by
      refine ⟨?_, hq.2⟩
      rcases hq.1 with q1 | ⟨x, q1, -, q2⟩
      · obtain ⟨y, q3, -⟩ := ck_int q1.1 rfl
        have : r = 0 := congrArg Prod.fst q3
        omega
      · have : ((r : Nat), (0 : Int)) = (x, 0) := Option.some.inj q2
        have : r = x := congrArg Prod.fst this
        rw [this]; exact q1
    simp only [List.mem_cons, List.not_mem_nil, or_false] at hx9
    subst hx9
    refine xc_catch (own := RL) (name := "java/lang/IndexOutOfBoundsException") (E := "java/lang/IndexOutOfBoundsException") hown [] ⟨0, 9, 12, 19⟩ [] (htab.trans rfl) (fun z hz => (by cases hz)) (by decide) (by decide) (hts _ hp_k9) (hcast _) hce hcv hcl ?_
    refine lv_astore_n (i := 3) (lv' := [(3, .ref q), (0, .ref (ad 0)), (1, .int (Int32.ofInt a1)), (2, .ref ao)]) hx hb dhcount_12 rfl hl (by decide) rfl (fun ls2 hl2 => ?_)
    refine lv_iconst (v := 1) hx hb dhcount_13 (by decide) ?_
    exact W.iret (v := 1) hx hb hr (fun t ht hW => ⟨1, o, h', rfl, W1, by rw [ht]; exact hP1, by rw [ht]; exact hO1, hS1.F ht⟩) hS1.2.2 dhcount_14 hlk
theorem hp_point {a1 a2 : Int} (hst : l.stackTraces = false) (hi : ∀ i j, i < cw_K → j < cw_K → ad i = ad j → i = j) (hao : ¬ ja_A ad cw_K ao) (r1 : ja_r a1) (r2 : ja_r a2) (W0 : ck_W cw_sp cw_fi cw_K cw_pr v0 h) :
    Met l yL_point (Cond.codeWith yL_point cL_point 5 (some .int) [(0, 10, 13, 19)] :: ja_B) hp_R (hp_PC D cA ad ao h o [.ref (ad 0), .int (Int32.ofInt a1), .int (Int32.ofInt a2), .ref ao]) (hp_Q D cA ad ao (fun _ _ h' => ck_W cw_sp cw_fi cw_K cw_pr v0 h')) 1 6 (hp_A ad ao) := by
  refine xh_ofW (cc := cL_point) (maxL := 5) (ret := some .int) (hh := [(0, 10, 13, 19)]) (by decide +kernel) rfl ?_
  intro p e s m args below meth c s₁ B hml hv
  obtain ⟨rfl, hP, hO, hK, hN, hT, hsr, hX⟩ := hv
  have hx := B.exec
  have hb := B.bytes
  have hr := B.returns
  have hts0 := atoms_spec (ws := Cond.codeWith yL_point cL_point 5 (some .int) [(0, 10, 13, 19)] :: ja_B) B.pre
  have hts : ∀ w ∈ ja_B, w.before _ s = true := fun w hw => hts0 w (List.mem_cons_of_mem _ hw)
  have hown : s.vm.findClass RL = some m.cls := findClass_of_methodNamed B.named
  have hlk := B.notSynchronized
  have htab : c.exceptionTable.toList = tableOf [(0, 10, 13, 19)] := vx_table (x := yL_point) B (hts0 _ List.mem_cons_self)
  have hl := lv_entry [.ref (ad 0), .int (Int32.ofInt a1), .int (Int32.ofInt a2), .ref ao] (n := 5) (Nat.le_of_ble_eq_true rfl)
  rw [lg_entry_eq]
  generalize (lg_sl [.ref (ad 0), .int (Int32.ofInt a1), .int (Int32.ofInt a2), .ref ao] ++ List.replicate (5 - (lg_sl [.ref (ad 0), .int (Int32.ofInt a1), .int (Int32.ofInt a2), .ref ao]).length) Slot.unset).toArray = ls at hl ⊢
  have hl : lv_has ls 5 [(0, .ref (ad 0)), (1, .int (Int32.ofInt a1)), (2, .int (Int32.ofInt a2)), (3, .ref ao)] := hl
  have g := hl.2.2
  have hM0 := cf_point (l := l) (D := D) (cA := cA) (ad := ad) (v0 := v0) [(2, ((0 : Nat) : Int)), (0, a1), (0, a2)] h ⟨⟨.inr (.inr ⟨rfl, rfl⟩), fun i q => (by cases q)⟩, ⟨.inl ⟨rfl, rfl, r1.1, r1.2, r1, fun i q => (by cases q), fun q => (by cases q)⟩, fun i q => (by cases q)⟩, ⟨.inl ⟨rfl, rfl, r2.1, r2.2, r2, fun i q => (by cases q), fun q => (by cases q)⟩, fun i q => (by cases q)⟩, trivial⟩ W0
  have hM0 : jx_M l D cA ad cw_sp cw_K 180 yX11_point cX11_point 3 (some .int) [(2, ((0 : Nat) : Int)), (0, a1), (0, a2)] h (fun r h' => (ck_rok cf_s2.2.2.1 r ∨ ∃ x, x ∈ ([9] : List Nat) ∧ (x = 7 ∨ x = 8 ∨ x = 9) ∧ r = some (x, 0)) ∧ ck_W cw_sp cw_fi cw_K cw_pr v0 h') := hM0
  have hM := jx_met hst hi (by decide +kernel) (show ja_wd [(2, ((0 : Nat) : Int)), (0, a1), (0, a2)] ≤ 3 from Nat.le_of_ble_eq_true rfl) hM0
  refine lv_aload_n hx hb dhpoint_0 rfl (g (3, .ref ao) (by simp)) ?_
  refine lv_iconst (v := 0) hx hb dhpoint_1 (by decide) ?_
  refine lv_aload_n hx hb dhpoint_2 rfl (g (0, .ref (ad 0)) (by simp)) ?_
  refine lv_iload_n hx hb dhpoint_3 rfl (g (1, .int (Int32.ofInt a1)) (by simp)) ?_
  refine lv_iload_n hx hb dhpoint_4 rfl (g (2, .int (Int32.ofInt a2)) (by simp)) ?_
  refine hp_call (o := o) (Z := MQ below (hp_Q D cA ad ao (fun _ _ h' => ck_W cw_sp cw_fi cw_K cw_pr v0 h')) _ s 1 6 (hp_A ad ao)) (n := 2) (vals := [(0, a1), (0, a2)]) (rest := [.int 0, .ref ao]) hx hb hml hown hts hN hT hsr hK hP hO hao (ja_m (ck_tb_in (p := 6231) (by decide +kernel)) rfl) (ja_m (ck_tb_in (p := 6232) (by decide +kernel)) rfl) (ja_m (ck_tb_in (p := 6233) (by decide +kernel)) rfl) (ja_m (ck_tb_in (p := 4865) (by decide +kernel)) rfl) (ja_m (ck_tb_in (p := 6234) (by decide +kernel)) rfl) (by decide +kernel) rfl rfl (by decide) hl.1 (Nat.le_of_ble_eq_true rfl) dhpoint_5 hM (fun r h' H1 locs1 hq hP1 hO1 hS1 => ?_) (fun r h' H1 locs1 q ce hr9 hq hP1 hO1 hS1 hce hcv hcl => ?_)
  · obtain ⟨hq1, hq2, W1⟩ := hq
    obtain ⟨x, rfl⟩ : ∃ x, r = some (0, x) := by
      rcases hq2 with hq2 | ⟨x, -, hx9, rfl⟩
      · cases r with
        | none => exact hq2.elim
        | some v =>
          obtain ⟨y, rfl, -⟩ := ck_int hq2.1 rfl
          exact ⟨y, rfl⟩
      · have h2 : x < 2 := hq1 _ rfl
        omega
    show W p l e hp_R s m _ below meth c H1 locs1 1 6 _ (F0 m 8 ls [.int (Int32.ofInt x), .int 0, .ref ao])
    refine lv_i2l (v := Int64.ofInt ((Int32.ofInt x).toInt64).toInt) hx hb dhpoint_8 (Int64.ofInt_toInt _).symm ?_
    refine hp_store (y := ((Int32.ofInt x).toInt64).toInt) hx hb hK hi hao hP1 hO1 hS1 dhpoint_9 (fun H2 locs2 hP2 hO2 hS2 => ?_)
    refine lv_goto (tgt := 17) hx hb dhpoint_10 (by decide) ?_
    refine lv_iconst (v := 0) hx hb dhpoint_17 (by decide) ?_
    refine W.iret (v := 0) hx hb hr (fun t ht hW => ⟨0, ((Int32.ofInt x).toInt64).toInt, h', rfl, W1, by rw [ht]; exact hP2, by rw [ht]; exact hO2, hS2.F ht⟩) hS2.2.2 dhpoint_18 hlk
  · have htab := htab
    have hcast : ∀ A : Array Value, (Cond.castable (jx_n r) (jx_n r)).before A s = true := fun A => va_Nw.use rfl (hsr.1.2 _ (by rcases hr9 with rfl | rfl | rfl <;> simp [jx_n, jx_Cn]))
    obtain ⟨hx9, W1⟩ : r ∈ ([9] : List Nat) ∧ ck_W cw_sp cw_fi cw_K cw_pr v0 h' := by
      refine ⟨?_, hq.2⟩
      rcases hq.1 with q1 | ⟨x, q1, -, q2⟩
      · obtain ⟨y, q3, -⟩ := ck_int q1.1 rfl
        have : r = 0 := congrArg Prod.fst q3
        omega
      · have : ((r : Nat), (0 : Int)) = (x, 0) := Option.some.inj q2
        have : r = x := congrArg Prod.fst this
        rw [this]; exact q1
    simp only [List.mem_cons, List.not_mem_nil, or_false] at hx9
    subst hx9
    refine xc_catch (own := RL) (name := "java/lang/IndexOutOfBoundsException") (E := "java/lang/IndexOutOfBoundsException") hown [] ⟨0, 10, 13, 19⟩ [] (htab.trans rfl) (fun z hz => (by cases hz)) (by decide) (by decide) (hts _ hp_k9) (hcast _) hce hcv hcl ?_
    refine lv_astore (i := 4) (lv' := [(4, .ref q), (0, .ref (ad 0)), (1, .int (Int32.ofInt a1)), (2, .int (Int32.ofInt a2)), (3, .ref ao)]) hx hb dhpoint_13 hl (by decide) rfl (fun ls2 hl2 => ?_)
    refine lv_iconst (v := 1) hx hb dhpoint_15 (by decide) ?_
    exact W.iret (v := 1) hx hb hr (fun t ht hW => ⟨1, o, h', rfl, W1, by rw [ht]; exact hP1, by rw [ht]; exact hO1, hS1.F ht⟩) hS1.2.2 dhpoint_16 hlk
theorem hp_meets {a1 a2 a3 : Int} (hst : l.stackTraces = false) (hi : ∀ i j, i < cw_K → j < cw_K → ad i = ad j → i = j) (hao : ¬ ja_A ad cw_K ao) (r1 : ja_r a1) (r2 : ja_r a2) (r3 : ja_r a3) (W0 : ck_W cw_sp cw_fi cw_K cw_pr v0 h) :
    Met l yL_meets (Cond.codeWith yL_meets cL_meets 6 (some .int) [(0, 12, 15, 19)] :: ja_B) hp_R (hp_PC D cA ad ao h o [.ref (ad 0), .int (Int32.ofInt a1), .int (Int32.ofInt a2), .int (Int32.ofInt a3), .ref ao]) (hp_Q D cA ad ao (fun _ _ h' => ck_W cw_sp cw_fi cw_K cw_pr v0 h')) 1 6 (hp_A ad ao) := by
  refine xh_ofW (cc := cL_meets) (maxL := 6) (ret := some .int) (hh := [(0, 12, 15, 19)]) (by decide +kernel) rfl ?_
  intro p e s m args below meth c s₁ B hml hv
  obtain ⟨rfl, hP, hO, hK, hN, hT, hsr, hX⟩ := hv
  have hx := B.exec
  have hb := B.bytes
  have hr := B.returns
  have hts0 := atoms_spec (ws := Cond.codeWith yL_meets cL_meets 6 (some .int) [(0, 12, 15, 19)] :: ja_B) B.pre
  have hts : ∀ w ∈ ja_B, w.before _ s = true := fun w hw => hts0 w (List.mem_cons_of_mem _ hw)
  have hown : s.vm.findClass RL = some m.cls := findClass_of_methodNamed B.named
  have hlk := B.notSynchronized
  have htab : c.exceptionTable.toList = tableOf [(0, 12, 15, 19)] := vx_table (x := yL_meets) B (hts0 _ List.mem_cons_self)
  have hl := lv_entry [.ref (ad 0), .int (Int32.ofInt a1), .int (Int32.ofInt a2), .int (Int32.ofInt a3), .ref ao] (n := 6) (Nat.le_of_ble_eq_true rfl)
  rw [lg_entry_eq]
  generalize (lg_sl [.ref (ad 0), .int (Int32.ofInt a1), .int (Int32.ofInt a2), .int (Int32.ofInt a3), .ref ao] ++ List.replicate (6 - (lg_sl [.ref (ad 0), .int (Int32.ofInt a1), .int (Int32.ofInt a2), .int (Int32.ofInt a3), .ref ao]).length) Slot.unset).toArray = ls at hl ⊢
  have hl : lv_has ls 6 [(0, .ref (ad 0)), (1, .int (Int32.ofInt a1)), (2, .int (Int32.ofInt a2)), (3, .int (Int32.ofInt a3)), (4, .ref ao)] := hl
  have g := hl.2.2
  have hM0 := cf_meets (l := l) (D := D) (cA := cA) (ad := ad) (v0 := v0) [(2, ((0 : Nat) : Int)), (0, a1), (0, a2), (0, a3)] h ⟨⟨.inr (.inr ⟨rfl, rfl⟩), fun i q => (by cases q)⟩, ⟨.inl ⟨rfl, rfl, r1.1, r1.2, r1, fun i q => (by cases q), fun q => (by cases q)⟩, fun i q => (by cases q)⟩, ⟨.inl ⟨rfl, rfl, r2.1, r2.2, r2, fun i q => (by cases q), fun q => (by cases q)⟩, fun i q => (by cases q)⟩, ⟨.inl ⟨rfl, rfl, r3.1, r3.2, r3, fun i q => (by cases q), fun q => (by cases q)⟩, fun i q => (by cases q)⟩, trivial⟩ W0
  have hM0 : jx_M l D cA ad cw_sp cw_K 180 yX11_meets cX11_meets 5 (some .int) [(2, ((0 : Nat) : Int)), (0, a1), (0, a2), (0, a3)] h (fun r h' => (ck_rok cf_s3.2.2.1 r ∨ ∃ x, x ∈ ([9] : List Nat) ∧ (x = 7 ∨ x = 8 ∨ x = 9) ∧ r = some (x, 0)) ∧ ck_W cw_sp cw_fi cw_K cw_pr v0 h') := hM0
  have hM := jx_met hst hi (by decide +kernel) (show ja_wd [(2, ((0 : Nat) : Int)), (0, a1), (0, a2), (0, a3)] ≤ 5 from Nat.le_of_ble_eq_true rfl) hM0
  refine lv_aload hx hb dhmeets_0 (g (4, .ref ao) (by simp)) ?_
  refine lv_iconst (v := 0) hx hb dhmeets_2 (by decide) ?_
  refine lv_aload_n hx hb dhmeets_3 rfl (g (0, .ref (ad 0)) (by simp)) ?_
  refine lv_iload_n hx hb dhmeets_4 rfl (g (1, .int (Int32.ofInt a1)) (by simp)) ?_
  refine lv_iload_n hx hb dhmeets_5 rfl (g (2, .int (Int32.ofInt a2)) (by simp)) ?_
  refine lv_iload_n hx hb dhmeets_6 rfl (g (3, .int (Int32.ofInt a3)) (by simp)) ?_
  refine hp_call (o := o) (Z := MQ below (hp_Q D cA ad ao (fun _ _ h' => ck_W cw_sp cw_fi cw_K cw_pr v0 h')) _ s 1 6 (hp_A ad ao)) (n := 3) (vals := [(0, a1), (0, a2), (0, a3)]) (rest := [.int 0, .ref ao]) hx hb hml hown hts hN hT hsr hK hP hO hao (ja_m (ck_tb_in (p := 6240) (by decide +kernel)) rfl) (ja_m (ck_tb_in (p := 6241) (by decide +kernel)) rfl) (ja_m (ck_tb_in (p := 6242) (by decide +kernel)) rfl) (ja_m (ck_tb_in (p := 4865) (by decide +kernel)) rfl) (ja_m (ck_tb_in (p := 6243) (by decide +kernel)) rfl) (by decide +kernel) rfl rfl (by decide) hl.1 (Nat.le_of_ble_eq_true rfl) dhmeets_7 hM (fun r h' H1 locs1 hq hP1 hO1 hS1 => ?_) (fun r h' H1 locs1 q ce hr9 hq hP1 hO1 hS1 hce hcv hcl => ?_)
  · obtain ⟨hq1, hq2, W1⟩ := hq
    obtain ⟨x, rfl⟩ : ∃ x, r = some (0, x) := by
      rcases hq2 with hq2 | ⟨x, -, hx9, rfl⟩
      · cases r with
        | none => exact hq2.elim
        | some v =>
          obtain ⟨y, rfl, -⟩ := ck_int hq2.1 rfl
          exact ⟨y, rfl⟩
      · have h2 : x < 2 := hq1 _ rfl
        omega
    show W p l e hp_R s m _ below meth c H1 locs1 1 6 _ (F0 m 10 ls [.int (Int32.ofInt x), .int 0, .ref ao])
    refine lv_i2l (v := Int64.ofInt ((Int32.ofInt x).toInt64).toInt) hx hb dhmeets_10 (Int64.ofInt_toInt _).symm ?_
    refine hp_store (y := ((Int32.ofInt x).toInt64).toInt) hx hb hK hi hao hP1 hO1 hS1 dhmeets_11 (fun H2 locs2 hP2 hO2 hS2 => ?_)
    refine lv_goto (tgt := 19) hx hb dhmeets_12 (by decide) ?_
    refine lv_iconst (v := 0) hx hb dhmeets_19 (by decide) ?_
    refine W.iret (v := 0) hx hb hr (fun t ht hW => ⟨0, ((Int32.ofInt x).toInt64).toInt, h', rfl, W1, by rw [ht]; exact hP2, by rw [ht]; exact hO2, hS2.F ht⟩) hS2.2.2 dhmeets_20 hlk
  · have htab := htab
    have hcast : ∀ A : Array Value, (Cond.castable (jx_n r) (jx_n r)).before A s = true := fun A => va_Nw.use rfl (hsr.1.2 _ (by rcases hr9 with rfl | rfl | rfl <;> simp [jx_n, jx_Cn]))
    obtain ⟨hx9, W1⟩ : r ∈ ([9] : List Nat) ∧ ck_W cw_sp cw_fi cw_K cw_pr v0 h' := by
      refine ⟨?_, hq.2⟩
      rcases hq.1 with q1 | ⟨x, q1, -, q2⟩
      · obtain ⟨y, q3, -⟩ := ck_int q1.1 rfl
        have : r = 0 := congrArg Prod.fst q3
        omega
      · have : ((r : Nat), (0 : Int)) = (x, 0) := Option.some.inj q2
        have : r = x := congrArg Prod.fst this
        rw [this]; exact q1
    simp only [List.mem_cons, List.not_mem_nil, or_false] at hx9
    subst hx9
    refine xc_catch (own := RL) (name := "java/lang/IndexOutOfBoundsException") (E := "java/lang/IndexOutOfBoundsException") hown [] ⟨0, 12, 15, 19⟩ [] (htab.trans rfl) (fun z hz => (by cases hz)) (by decide) (by decide) (hts _ hp_k9) (hcast _) hce hcv hcl ?_
    refine lv_astore (i := 5) (lv' := [(5, .ref q), (0, .ref (ad 0)), (1, .int (Int32.ofInt a1)), (2, .int (Int32.ofInt a2)), (3, .int (Int32.ofInt a3)), (4, .ref ao)]) hx hb dhmeets_15 hl (by decide) rfl (fun ls2 hl2 => ?_)
    refine lv_iconst (v := 1) hx hb dhmeets_17 (by decide) ?_
    exact W.iret (v := 1) hx hb hr (fun t ht hW => ⟨1, o, h', rfl, W1, by rw [ht]; exact hP1, by rw [ht]; exact hO1, hS1.F ht⟩) hS1.2.2 dhmeets_18 hlk
theorem hp_finding {a1 a2 : Int} (hst : l.stackTraces = false) (hi : ∀ i j, i < cw_K → j < cw_K → ad i = ad j → i = j) (hao : ¬ ja_A ad cw_K ao) (r1 : ja_r a1) (r2 : ja_r a2) (W0 : ck_W cw_sp cw_fi cw_K cw_pr v0 h) :
    Met l yL_finding (Cond.codeWith yL_finding cL_finding 5 (some .int) [(0, 10, 13, 19)] :: ja_B) hp_R (hp_PC D cA ad ao h o [.ref (ad 0), .int (Int32.ofInt a1), .int (Int32.ofInt a2), .ref ao]) (hp_Q D cA ad ao (fun _ _ h' => ck_W cw_sp cw_fi cw_K cw_pr v0 h')) 1 6 (hp_A ad ao) := by
  refine xh_ofW (cc := cL_finding) (maxL := 5) (ret := some .int) (hh := [(0, 10, 13, 19)]) (by decide +kernel) rfl ?_
  intro p e s m args below meth c s₁ B hml hv
  obtain ⟨rfl, hP, hO, hK, hN, hT, hsr, hX⟩ := hv
  have hx := B.exec
  have hb := B.bytes
  have hr := B.returns
  have hts0 := atoms_spec (ws := Cond.codeWith yL_finding cL_finding 5 (some .int) [(0, 10, 13, 19)] :: ja_B) B.pre
  have hts : ∀ w ∈ ja_B, w.before _ s = true := fun w hw => hts0 w (List.mem_cons_of_mem _ hw)
  have hown : s.vm.findClass RL = some m.cls := findClass_of_methodNamed B.named
  have hlk := B.notSynchronized
  have htab : c.exceptionTable.toList = tableOf [(0, 10, 13, 19)] := vx_table (x := yL_finding) B (hts0 _ List.mem_cons_self)
  have hl := lv_entry [.ref (ad 0), .int (Int32.ofInt a1), .int (Int32.ofInt a2), .ref ao] (n := 5) (Nat.le_of_ble_eq_true rfl)
  rw [lg_entry_eq]
  generalize (lg_sl [.ref (ad 0), .int (Int32.ofInt a1), .int (Int32.ofInt a2), .ref ao] ++ List.replicate (5 - (lg_sl [.ref (ad 0), .int (Int32.ofInt a1), .int (Int32.ofInt a2), .ref ao]).length) Slot.unset).toArray = ls at hl ⊢
  have hl : lv_has ls 5 [(0, .ref (ad 0)), (1, .int (Int32.ofInt a1)), (2, .int (Int32.ofInt a2)), (3, .ref ao)] := hl
  have g := hl.2.2
  have hM0 := cf_finding (l := l) (D := D) (cA := cA) (ad := ad) (v0 := v0) [(2, ((0 : Nat) : Int)), (0, a1), (0, a2)] h ⟨⟨.inr (.inr ⟨rfl, rfl⟩), fun i q => (by cases q)⟩, ⟨.inl ⟨rfl, rfl, r1.1, r1.2, r1, fun i q => (by cases q), fun q => (by cases q)⟩, fun i q => (by cases q)⟩, ⟨.inl ⟨rfl, rfl, r2.1, r2.2, r2, fun i q => (by cases q), fun q => (by cases q)⟩, fun i q => (by cases q)⟩, trivial⟩ W0
  have hM0 : jx_M l D cA ad cw_sp cw_K 180 yX11_finding cX11_finding 3 (some .int) [(2, ((0 : Nat) : Int)), (0, a1), (0, a2)] h (fun r h' => (ck_rok cf_s4.2.2.1 r ∨ ∃ x, x ∈ ([9] : List Nat) ∧ (x = 7 ∨ x = 8 ∨ x = 9) ∧ r = some (x, 0)) ∧ ck_W cw_sp cw_fi cw_K cw_pr v0 h') := hM0
  have hM := jx_met hst hi (by decide +kernel) (show ja_wd [(2, ((0 : Nat) : Int)), (0, a1), (0, a2)] ≤ 3 from Nat.le_of_ble_eq_true rfl) hM0
  refine lv_aload_n hx hb dhfinding_0 rfl (g (3, .ref ao) (by simp)) ?_
  refine lv_iconst (v := 0) hx hb dhfinding_1 (by decide) ?_
  refine lv_aload_n hx hb dhfinding_2 rfl (g (0, .ref (ad 0)) (by simp)) ?_
  refine lv_iload_n hx hb dhfinding_3 rfl (g (1, .int (Int32.ofInt a1)) (by simp)) ?_
  refine lv_iload_n hx hb dhfinding_4 rfl (g (2, .int (Int32.ofInt a2)) (by simp)) ?_
  refine hp_call (o := o) (Z := MQ below (hp_Q D cA ad ao (fun _ _ h' => ck_W cw_sp cw_fi cw_K cw_pr v0 h')) _ s 1 6 (hp_A ad ao)) (n := 2) (vals := [(0, a1), (0, a2)]) (rest := [.int 0, .ref ao]) hx hb hml hown hts hN hT hsr hK hP hO hao (ja_m (ck_tb_in (p := 6257) (by decide +kernel)) rfl) (ja_m (ck_tb_in (p := 6258) (by decide +kernel)) rfl) (ja_m (ck_tb_in (p := 6259) (by decide +kernel)) rfl) (ja_m (ck_tb_in (p := 4865) (by decide +kernel)) rfl) (ja_m (ck_tb_in (p := 6260) (by decide +kernel)) rfl) (by decide +kernel) rfl rfl (by decide) hl.1 (Nat.le_of_ble_eq_true rfl) dhfinding_5 hM (fun r h' H1 locs1 hq hP1 hO1 hS1 => ?_) (fun r h' H1 locs1 q ce hr9 hq hP1 hO1 hS1 hce hcv hcl => ?_)
  · obtain ⟨hq1, hq2, W1⟩ := hq
    obtain ⟨x, rfl⟩ : ∃ x, r = some (0, x) := by
      rcases hq2 with hq2 | ⟨x, -, hx9, rfl⟩
      · cases r with
        | none => exact hq2.elim
        | some v =>
          obtain ⟨y, rfl, -⟩ := ck_int hq2.1 rfl
          exact ⟨y, rfl⟩
      · have h2 : x < 2 := hq1 _ rfl
        omega
    show W p l e hp_R s m _ below meth c H1 locs1 1 6 _ (F0 m 8 ls [.int (Int32.ofInt x), .int 0, .ref ao])
    refine lv_i2l (v := Int64.ofInt ((Int32.ofInt x).toInt64).toInt) hx hb dhfinding_8 (Int64.ofInt_toInt _).symm ?_
    refine hp_store (y := ((Int32.ofInt x).toInt64).toInt) hx hb hK hi hao hP1 hO1 hS1 dhfinding_9 (fun H2 locs2 hP2 hO2 hS2 => ?_)
    refine lv_goto (tgt := 17) hx hb dhfinding_10 (by decide) ?_
    refine lv_iconst (v := 0) hx hb dhfinding_17 (by decide) ?_
    refine W.iret (v := 0) hx hb hr (fun t ht hW => ⟨0, ((Int32.ofInt x).toInt64).toInt, h', rfl, W1, by rw [ht]; exact hP2, by rw [ht]; exact hO2, hS2.F ht⟩) hS2.2.2 dhfinding_18 hlk
  · have htab := htab
    have hcast : ∀ A : Array Value, (Cond.castable (jx_n r) (jx_n r)).before A s = true := fun A => va_Nw.use rfl (hsr.1.2 _ (by rcases hr9 with rfl | rfl | rfl <;> simp [jx_n, jx_Cn]))
    obtain ⟨hx9, W1⟩ : r ∈ ([9] : List Nat) ∧ ck_W cw_sp cw_fi cw_K cw_pr v0 h' := by
      refine ⟨?_, hq.2⟩
      rcases hq.1 with q1 | ⟨x, q1, -, q2⟩
      · obtain ⟨y, q3, -⟩ := ck_int q1.1 rfl
        have : r = 0 := congrArg Prod.fst q3
        omega
      · have : ((r : Nat), (0 : Int)) = (x, 0) := Option.some.inj q2
        have : r = x := congrArg Prod.fst this
        rw [this]; exact q1
    simp only [List.mem_cons, List.not_mem_nil, or_false] at hx9
    subst hx9
    refine xc_catch (own := RL) (name := "java/lang/IndexOutOfBoundsException") (E := "java/lang/IndexOutOfBoundsException") hown [] ⟨0, 10, 13, 19⟩ [] (htab.trans rfl) (fun z hz => (by cases hz)) (by decide) (by decide) (hts _ hp_k9) (hcast _) hce hcv hcl ?_
    refine lv_astore (i := 4) (lv' := [(4, .ref q), (0, .ref (ad 0)), (1, .int (Int32.ofInt a1)), (2, .int (Int32.ofInt a2)), (3, .ref ao)]) hx hb dhfinding_13 hl (by decide) rfl (fun ls2 hl2 => ?_)
    refine lv_iconst (v := 1) hx hb dhfinding_15 (by decide) ?_
    exact W.iret (v := 1) hx hb hr (fun t ht hW => ⟨1, o, h', rfl, W1, by rw [ht]; exact hP1, by rw [ht]; exact hO1, hS1.F ht⟩) hS1.2.2 dhfinding_16 hlk
theorem hp_ordered {a1 : Int} (hst : l.stackTraces = false) (hi : ∀ i j, i < cw_K → j < cw_K → ad i = ad j → i = j) (hao : ¬ ja_A ad cw_K ao) (r1 : ja_r a1) (W0 : ck_W cw_sp cw_fi cw_K cw_pr v0 h) :
    Met l yL_ordered (Cond.codeWith yL_ordered cL_ordered 4 (some .int) [(0, 9, 12, 19)] :: ja_B) hp_R (hp_PC D cA ad ao h o [.ref (ad 0), .int (Int32.ofInt a1), .ref ao]) (hp_Q D cA ad ao (fun _ _ h' => ck_W cw_sp cw_fi cw_K cw_pr v0 h')) 1 6 (hp_A ad ao) := by
  refine xh_ofW (cc := cL_ordered) (maxL := 4) (ret := some .int) (hh := [(0, 9, 12, 19)]) (by decide +kernel) rfl ?_
  intro p e s m args below meth c s₁ B hml hv
  obtain ⟨rfl, hP, hO, hK, hN, hT, hsr, hX⟩ := hv
  have hx := B.exec
  have hb := B.bytes
  have hr := B.returns
  have hts0 := atoms_spec (ws := Cond.codeWith yL_ordered cL_ordered 4 (some .int) [(0, 9, 12, 19)] :: ja_B) B.pre
  have hts : ∀ w ∈ ja_B, w.before _ s = true := fun w hw => hts0 w (List.mem_cons_of_mem _ hw)
  have hown : s.vm.findClass RL = some m.cls := findClass_of_methodNamed B.named
  have hlk := B.notSynchronized
  have htab : c.exceptionTable.toList = tableOf [(0, 9, 12, 19)] := vx_table (x := yL_ordered) B (hts0 _ List.mem_cons_self)
  have hl := lv_entry [.ref (ad 0), .int (Int32.ofInt a1), .ref ao] (n := 4) (Nat.le_of_ble_eq_true rfl)
  rw [lg_entry_eq]
  generalize (lg_sl [.ref (ad 0), .int (Int32.ofInt a1), .ref ao] ++ List.replicate (4 - (lg_sl [.ref (ad 0), .int (Int32.ofInt a1), .ref ao]).length) Slot.unset).toArray = ls at hl ⊢
  have hl : lv_has ls 4 [(0, .ref (ad 0)), (1, .int (Int32.ofInt a1)), (2, .ref ao)] := hl
  have g := hl.2.2
  have hM0 := cf_ordered (l := l) (D := D) (cA := cA) (ad := ad) (v0 := v0) [(2, ((0 : Nat) : Int)), (0, a1)] h ⟨⟨.inr (.inr ⟨rfl, rfl⟩), fun i q => (by cases q)⟩, ⟨.inl ⟨rfl, rfl, r1.1, r1.2, r1, fun i q => (by cases q), fun q => (by cases q)⟩, fun i q => (by cases q)⟩, trivial⟩ W0
  have hM0 : jx_M l D cA ad cw_sp cw_K 180 yX11_ordered cX11_ordered 2 (some .int) [(2, ((0 : Nat) : Int)), (0, a1)] h (fun r h' => (ck_rok cf_s5.2.2.1 r ∨ ∃ x, x ∈ ([9] : List Nat) ∧ (x = 7 ∨ x = 8 ∨ x = 9) ∧ r = some (x, 0)) ∧ ck_W cw_sp cw_fi cw_K cw_pr v0 h') := hM0
  have hM := jx_met hst hi (by decide +kernel) (show ja_wd [(2, ((0 : Nat) : Int)), (0, a1)] ≤ 2 from Nat.le_of_ble_eq_true rfl) hM0
  refine lv_aload_n hx hb dhordered_0 rfl (g (2, .ref ao) (by simp)) ?_
  refine lv_iconst (v := 0) hx hb dhordered_1 (by decide) ?_
  refine lv_aload_n hx hb dhordered_2 rfl (g (0, .ref (ad 0)) (by simp)) ?_
  refine lv_iload_n hx hb dhordered_3 rfl (g (1, .int (Int32.ofInt a1)) (by simp)) ?_
  refine hp_call (o := o) (Z := MQ below (hp_Q D cA ad ao (fun _ _ h' => ck_W cw_sp cw_fi cw_K cw_pr v0 h')) _ s 1 6 (hp_A ad ao)) (n := 1) (vals := [(0, a1)]) (rest := [.int 0, .ref ao]) hx hb hml hown hts hN hT hsr hK hP hO hao (ja_m (ck_tb_in (p := 6269) (by decide +kernel)) rfl) (ja_m (ck_tb_in (p := 6270) (by decide +kernel)) rfl) (ja_m (ck_tb_in (p := 6271) (by decide +kernel)) rfl) (ja_m (ck_tb_in (p := 4865) (by decide +kernel)) rfl) (ja_m (ck_tb_in (p := 6272) (by decide +kernel)) rfl) (by decide +kernel) rfl rfl (by decide) hl.1 (Nat.le_of_ble_eq_true rfl) dhordered_4 hM (fun r h' H1 locs1 hq hP1 hO1 hS1 => ?_) (fun r h' H1 locs1 q ce hr9 hq hP1 hO1 hS1 hce hcv hcl => ?_)
  · obtain ⟨hq1, hq2, W1⟩ := hq
    obtain ⟨x, rfl⟩ : ∃ x, r = some (0, x) := by
      rcases hq2 with hq2 | ⟨x, -, hx9, rfl⟩
      · cases r with
        | none => exact hq2.elim
        | some v =>
          obtain ⟨y, rfl, -⟩ := ck_int hq2.1 rfl
          exact ⟨y, rfl⟩
      · have h2 : x < 2 := hq1 _ rfl
        omega
    show W p l e hp_R s m _ below meth c H1 locs1 1 6 _ (F0 m 7 ls [.int (Int32.ofInt x), .int 0, .ref ao])
    refine lv_i2l (v := Int64.ofInt ((Int32.ofInt x).toInt64).toInt) hx hb dhordered_7 (Int64.ofInt_toInt _).symm ?_
    refine hp_store (y := ((Int32.ofInt x).toInt64).toInt) hx hb hK hi hao hP1 hO1 hS1 dhordered_8 (fun H2 locs2 hP2 hO2 hS2 => ?_)
    refine lv_goto (tgt := 15) hx hb dhordered_9 (by decide) ?_
    refine lv_iconst (v := 0) hx hb dhordered_15 (by decide) ?_
    refine W.iret (v := 0) hx hb hr (fun t ht hW => ⟨0, ((Int32.ofInt x).toInt64).toInt, h', rfl, W1, by rw [ht]; exact hP2, by rw [ht]; exact hO2, hS2.F ht⟩) hS2.2.2 dhordered_16 hlk
  · have htab := htab
    have hcast : ∀ A : Array Value, (Cond.castable (jx_n r) (jx_n r)).before A s = true := fun A => va_Nw.use rfl (hsr.1.2 _ (by rcases hr9 with rfl | rfl | rfl <;> simp [jx_n, jx_Cn]))
    obtain ⟨hx9, W1⟩ : r ∈ ([9] : List Nat) ∧ ck_W cw_sp cw_fi cw_K cw_pr v0 h' := by
      refine ⟨?_, hq.2⟩
      rcases hq.1 with q1 | ⟨x, q1, -, q2⟩
      · obtain ⟨y, q3, -⟩ := ck_int q1.1 rfl
        have : r = 0 := congrArg Prod.fst q3
        omega
      · have : ((r : Nat), (0 : Int)) = (x, 0) := Option.some.inj q2
        have : r = x := congrArg Prod.fst this
        rw [this]; exact q1
    simp only [List.mem_cons, List.not_mem_nil, or_false] at hx9
    subst hx9
    refine xc_catch (own := RL) (name := "java/lang/IndexOutOfBoundsException") (E := "java/lang/IndexOutOfBoundsException") hown [] ⟨0, 9, 12, 19⟩ [] (htab.trans rfl) (fun z hz => (by cases hz)) (by decide) (by decide) (hts _ hp_k9) (hcast _) hce hcv hcl ?_
    refine lv_astore_n (i := 3) (lv' := [(3, .ref q), (0, .ref (ad 0)), (1, .int (Int32.ofInt a1)), (2, .ref ao)]) hx hb dhordered_12 rfl hl (by decide) rfl (fun ls2 hl2 => ?_)
    refine lv_iconst (v := 1) hx hb dhordered_13 (by decide) ?_
    exact W.iret (v := 1) hx hb hr (fun t ht hW => ⟨1, o, h', rfl, W1, by rw [ht]; exact hP1, by rw [ht]; exact hO1, hS1.F ht⟩) hS1.2.2 dhordered_14 hlk
theorem hp_above {a1 : Int} (hst : l.stackTraces = false) (hi : ∀ i j, i < cw_K → j < cw_K → ad i = ad j → i = j) (hao : ¬ ja_A ad cw_K ao) (r1 : ja_r a1) (W0 : ck_W cw_sp cw_fi cw_K cw_pr v0 h) :
    Met l yL_above (Cond.codeWith yL_above cL_above 4 (some .int) [(0, 9, 12, 19)] :: ja_B) hp_R (hp_PC D cA ad ao h o [.ref (ad 0), .int (Int32.ofInt a1), .ref ao]) (hp_Q D cA ad ao (fun _ _ h' => ck_W cw_sp cw_fi cw_K cw_pr v0 h')) 1 6 (hp_A ad ao) := by
  refine xh_ofW (cc := cL_above) (maxL := 4) (ret := some .int) (hh := [(0, 9, 12, 19)]) (by decide +kernel) rfl ?_
  intro p e s m args below meth c s₁ B hml hv
  obtain ⟨rfl, hP, hO, hK, hN, hT, hsr, hX⟩ := hv
  have hx := B.exec
  have hb := B.bytes
  have hr := B.returns
  have hts0 := atoms_spec (ws := Cond.codeWith yL_above cL_above 4 (some .int) [(0, 9, 12, 19)] :: ja_B) B.pre
  have hts : ∀ w ∈ ja_B, w.before _ s = true := fun w hw => hts0 w (List.mem_cons_of_mem _ hw)
  have hown : s.vm.findClass RL = some m.cls := findClass_of_methodNamed B.named
  have hlk := B.notSynchronized
  have htab : c.exceptionTable.toList = tableOf [(0, 9, 12, 19)] := vx_table (x := yL_above) B (hts0 _ List.mem_cons_self)
  have hl := lv_entry [.ref (ad 0), .int (Int32.ofInt a1), .ref ao] (n := 4) (Nat.le_of_ble_eq_true rfl)
  rw [lg_entry_eq]
  generalize (lg_sl [.ref (ad 0), .int (Int32.ofInt a1), .ref ao] ++ List.replicate (4 - (lg_sl [.ref (ad 0), .int (Int32.ofInt a1), .ref ao]).length) Slot.unset).toArray = ls at hl ⊢
  have hl : lv_has ls 4 [(0, .ref (ad 0)), (1, .int (Int32.ofInt a1)), (2, .ref ao)] := hl
  have g := hl.2.2
  have hM0 := cf_above (l := l) (D := D) (cA := cA) (ad := ad) (v0 := v0) [(2, ((0 : Nat) : Int)), (0, a1)] h ⟨⟨.inr (.inr ⟨rfl, rfl⟩), fun i q => (by cases q)⟩, ⟨.inl ⟨rfl, rfl, r1.1, r1.2, r1, fun i q => (by cases q), fun q => (by cases q)⟩, fun i q => (by cases q)⟩, trivial⟩ W0
  have hM0 : jx_M l D cA ad cw_sp cw_K 180 yX11_above cX11_above 2 (some .int) [(2, ((0 : Nat) : Int)), (0, a1)] h (fun r h' => (ck_rok cf_s6.2.2.1 r ∨ ∃ x, x ∈ ([9] : List Nat) ∧ (x = 7 ∨ x = 8 ∨ x = 9) ∧ r = some (x, 0)) ∧ ck_W cw_sp cw_fi cw_K cw_pr v0 h') := hM0
  have hM := jx_met hst hi (by decide +kernel) (show ja_wd [(2, ((0 : Nat) : Int)), (0, a1)] ≤ 2 from Nat.le_of_ble_eq_true rfl) hM0
  refine lv_aload_n hx hb dhabove_0 rfl (g (2, .ref ao) (by simp)) ?_
  refine lv_iconst (v := 0) hx hb dhabove_1 (by decide) ?_
  refine lv_aload_n hx hb dhabove_2 rfl (g (0, .ref (ad 0)) (by simp)) ?_
  refine lv_iload_n hx hb dhabove_3 rfl (g (1, .int (Int32.ofInt a1)) (by simp)) ?_
  refine hp_call (o := o) (Z := MQ below (hp_Q D cA ad ao (fun _ _ h' => ck_W cw_sp cw_fi cw_K cw_pr v0 h')) _ s 1 6 (hp_A ad ao)) (n := 1) (vals := [(0, a1)]) (rest := [.int 0, .ref ao]) hx hb hml hown hts hN hT hsr hK hP hO hao (ja_m (ck_tb_in (p := 6277) (by decide +kernel)) rfl) (ja_m (ck_tb_in (p := 6278) (by decide +kernel)) rfl) (ja_m (ck_tb_in (p := 6279) (by decide +kernel)) rfl) (ja_m (ck_tb_in (p := 4865) (by decide +kernel)) rfl) (ja_m (ck_tb_in (p := 6280) (by decide +kernel)) rfl) (by decide +kernel) rfl rfl (by decide) hl.1 (Nat.le_of_ble_eq_true rfl) dhabove_4 hM (fun r h' H1 locs1 hq hP1 hO1 hS1 => ?_) (fun r h' H1 locs1 q ce hr9 hq hP1 hO1 hS1 hce hcv hcl => ?_)
  · obtain ⟨hq1, hq2, W1⟩ := hq
    obtain ⟨x, rfl⟩ : ∃ x, r = some (0, x) := by
      rcases hq2 with hq2 | ⟨x, -, hx9, rfl⟩
      · cases r with
        | none => exact hq2.elim
        | some v =>
          obtain ⟨y, rfl, -⟩ := ck_int hq2.1 rfl
          exact ⟨y, rfl⟩
      · have h2 : x < 2 := hq1 _ rfl
        omega
    show W p l e hp_R s m _ below meth c H1 locs1 1 6 _ (F0 m 7 ls [.int (Int32.ofInt x), .int 0, .ref ao])
    refine lv_i2l (v := Int64.ofInt ((Int32.ofInt x).toInt64).toInt) hx hb dhabove_7 (Int64.ofInt_toInt _).symm ?_
    refine hp_store (y := ((Int32.ofInt x).toInt64).toInt) hx hb hK hi hao hP1 hO1 hS1 dhabove_8 (fun H2 locs2 hP2 hO2 hS2 => ?_)
    refine lv_goto (tgt := 15) hx hb dhabove_9 (by decide) ?_
    refine lv_iconst (v := 0) hx hb dhabove_15 (by decide) ?_
    refine W.iret (v := 0) hx hb hr (fun t ht hW => ⟨0, ((Int32.ofInt x).toInt64).toInt, h', rfl, W1, by rw [ht]; exact hP2, by rw [ht]; exact hO2, hS2.F ht⟩) hS2.2.2 dhabove_16 hlk
  · have htab := htab
    have hcast : ∀ A : Array Value, (Cond.castable (jx_n r) (jx_n r)).before A s = true := fun A => va_Nw.use rfl (hsr.1.2 _ (by rcases hr9 with rfl | rfl | rfl <;> simp [jx_n, jx_Cn]))
    obtain ⟨hx9, W1⟩ : r ∈ ([9] : List Nat) ∧ ck_W cw_sp cw_fi cw_K cw_pr v0 h' := by
      refine ⟨?_, hq.2⟩
      rcases hq.1 with q1 | ⟨x, q1, -, q2⟩
      · obtain ⟨y, q3, -⟩ := ck_int q1.1 rfl
        have : r = 0 := congrArg Prod.fst q3
        omega
      · have : ((r : Nat), (0 : Int)) = (x, 0) := Option.some.inj q2
        have : r = x := congrArg Prod.fst this
        rw [this]; exact q1
    simp only [List.mem_cons, List.not_mem_nil, or_false] at hx9
    subst hx9
    refine xc_catch (own := RL) (name := "java/lang/IndexOutOfBoundsException") (E := "java/lang/IndexOutOfBoundsException") hown [] ⟨0, 9, 12, 19⟩ [] (htab.trans rfl) (fun z hz => (by cases hz)) (by decide) (by decide) (hts _ hp_k9) (hcast _) hce hcv hcl ?_
    refine lv_astore_n (i := 3) (lv' := [(3, .ref q), (0, .ref (ad 0)), (1, .int (Int32.ofInt a1)), (2, .ref ao)]) hx hb dhabove_12 rfl hl (by decide) rfl (fun ls2 hl2 => ?_)
    refine lv_iconst (v := 1) hx hb dhabove_13 (by decide) ?_
    exact W.iret (v := 1) hx hb hr (fun t ht hW => ⟨1, o, h', rfl, W1, by rw [ht]; exact hP1, by rw [ht]; exact hO1, hS1.F ht⟩) hS1.2.2 dhabove_14 hlk
theorem hp_begin {a1 : Int} (hst : l.stackTraces = false) (hi : ∀ i j, i < cw_K → j < cw_K → ad i = ad j → i = j) (hao : ¬ ja_A ad cw_K ao) (r1 : 0 ≤ a1 ∧ a1 ≤ 1) (W0 : ck_W cw_sp cw_fi cw_K cw_pr v0 h) :
    Met l yL_begin (Cond.codeWith yL_begin cL_begin 4 (some .int) [(0, 9, 12, 45)] :: ja_B) hp_R (hp_PC D cA ad ao h o [.ref (ad 0), .int (Int32.ofInt a1), .ref ao]) (hp_Q D cA ad ao (fun _ _ h' => ck_W cw_sp cw_fi cw_K cw_pr v0 h')) 1 6 (hp_A ad ao) := by
  refine xh_ofW (cc := cL_begin) (maxL := 4) (ret := some .int) (hh := [(0, 9, 12, 45)]) (by decide +kernel) rfl ?_
  intro p e s m args below meth c s₁ B hml hv
  obtain ⟨rfl, hP, hO, hK, hN, hT, hsr, hX⟩ := hv
  have hx := B.exec
  have hb := B.bytes
  have hr := B.returns
  have hts0 := atoms_spec (ws := Cond.codeWith yL_begin cL_begin 4 (some .int) [(0, 9, 12, 45)] :: ja_B) B.pre
  have hts : ∀ w ∈ ja_B, w.before _ s = true := fun w hw => hts0 w (List.mem_cons_of_mem _ hw)
  have hown : s.vm.findClass RL = some m.cls := findClass_of_methodNamed B.named
  have hlk := B.notSynchronized
  have htab : c.exceptionTable.toList = tableOf [(0, 9, 12, 45)] := vx_table (x := yL_begin) B (hts0 _ List.mem_cons_self)
  have hl := lv_entry [.ref (ad 0), .int (Int32.ofInt a1), .ref ao] (n := 4) (Nat.le_of_ble_eq_true rfl)
  rw [lg_entry_eq]
  generalize (lg_sl [.ref (ad 0), .int (Int32.ofInt a1), .ref ao] ++ List.replicate (4 - (lg_sl [.ref (ad 0), .int (Int32.ofInt a1), .ref ao]).length) Slot.unset).toArray = ls at hl ⊢
  have hl : lv_has ls 4 [(0, .ref (ad 0)), (1, .int (Int32.ofInt a1)), (2, .ref ao)] := hl
  have g := hl.2.2
  have hM0 := cf_begin (l := l) (D := D) (cA := cA) (ad := ad) (v0 := v0) [(2, ((0 : Nat) : Int)), (0, a1)] h ⟨⟨.inr (.inr ⟨rfl, rfl⟩), fun i q => (by cases q)⟩, ⟨.inl ⟨rfl, rfl, r1.1, r1.2, ⟨by omega, by omega⟩, fun i q => (by cases q), fun q => (by cases q)⟩, fun i q => (by cases q)⟩, trivial⟩ W0
  have hM0 : jx_M l D cA ad cw_sp cw_K 180 yX11_begin cX11_begin 2 (some .int) [(2, ((0 : Nat) : Int)), (0, a1)] h (fun r h' => (ck_rok cf_s7.2.2.1 r ∨ ∃ x, x ∈ ([8] : List Nat) ∧ (x = 7 ∨ x = 8 ∨ x = 9) ∧ r = some (x, 0)) ∧ ck_W cw_sp cw_fi cw_K cw_pr v0 h') := hM0
  have hM := jx_met hst hi (by decide +kernel) (show ja_wd [(2, ((0 : Nat) : Int)), (0, a1)] ≤ 2 from Nat.le_of_ble_eq_true rfl) hM0
  refine lv_aload_n hx hb dhbegin_0 rfl (g (2, .ref ao) (by simp)) ?_
  refine lv_iconst (v := 0) hx hb dhbegin_1 (by decide) ?_
  refine lv_aload_n hx hb dhbegin_2 rfl (g (0, .ref (ad 0)) (by simp)) ?_
  refine lv_iload_n hx hb dhbegin_3 rfl (g (1, .int (Int32.ofInt a1)) (by simp)) ?_
  refine hp_call (o := o) (Z := MQ below (hp_Q D cA ad ao (fun _ _ h' => ck_W cw_sp cw_fi cw_K cw_pr v0 h')) _ s 1 6 (hp_A ad ao)) (n := 1) (vals := [(0, a1)]) (rest := [.int 0, .ref ao]) hx hb hml hown hts hN hT hsr hK hP hO hao (ja_m (ck_tb_in (p := 6285) (by decide +kernel)) rfl) (ja_m (ck_tb_in (p := 6286) (by decide +kernel)) rfl) (ja_m (ck_tb_in (p := 6287) (by decide +kernel)) rfl) (ja_m (ck_tb_in (p := 4865) (by decide +kernel)) rfl) (ja_m (ck_tb_in (p := 6288) (by decide +kernel)) rfl) (by decide +kernel) rfl rfl (by decide) hl.1 (Nat.le_of_ble_eq_true rfl) dhbegin_4 hM (fun r h' H1 locs1 hq hP1 hO1 hS1 => ?_) (fun r h' H1 locs1 q ce hr9 hq hP1 hO1 hS1 hce hcv hcl => ?_)
  · obtain ⟨hq1, hq2, W1⟩ := hq
    obtain ⟨x, rfl⟩ : ∃ x, r = some (0, x) := by
      rcases hq2 with hq2 | ⟨x, -, hx9, rfl⟩
      · cases r with
        | none => exact hq2.elim
        | some v =>
          obtain ⟨y, rfl, -⟩ := ck_int hq2.1 rfl
          exact ⟨y, rfl⟩
      · have h2 : x < 2 := hq1 _ rfl
        omega
    show W p l e hp_R s m _ below meth c H1 locs1 1 6 _ (F0 m 7 ls [.int (Int32.ofInt x), .int 0, .ref ao])
    refine lv_i2l (v := Int64.ofInt ((Int32.ofInt x).toInt64).toInt) hx hb dhbegin_7 (Int64.ofInt_toInt _).symm ?_
    refine hp_store (y := ((Int32.ofInt x).toInt64).toInt) hx hb hK hi hao hP1 hO1 hS1 dhbegin_8 (fun H2 locs2 hP2 hO2 hS2 => ?_)
    refine lv_goto (tgt := 15) hx hb dhbegin_9 (by decide) ?_
    refine lv_iconst (v := 0) hx hb dhbegin_15 (by decide) ?_
    refine W.iret (v := 0) hx hb hr (fun t ht hW => ⟨0, ((Int32.ofInt x).toInt64).toInt, h', rfl, W1, by rw [ht]; exact hP2, by rw [ht]; exact hO2, hS2.F ht⟩) hS2.2.2 dhbegin_16 hlk
  · have htab := htab
    have hcast : ∀ A : Array Value, (Cond.castable (jx_n r) (jx_n r)).before A s = true := fun A => va_Nw.use rfl (hsr.1.2 _ (by rcases hr9 with rfl | rfl | rfl <;> simp [jx_n, jx_Cn]))
    obtain ⟨hx9, W1⟩ : r ∈ ([8] : List Nat) ∧ ck_W cw_sp cw_fi cw_K cw_pr v0 h' := by
      refine ⟨?_, hq.2⟩
      rcases hq.1 with q1 | ⟨x, q1, -, q2⟩
      · obtain ⟨y, q3, -⟩ := ck_int q1.1 rfl
        have : r = 0 := congrArg Prod.fst q3
        omega
      · have : ((r : Nat), (0 : Int)) = (x, 0) := Option.some.inj q2
        have : r = x := congrArg Prod.fst this
        rw [this]; exact q1
    simp only [List.mem_cons, List.not_mem_nil, or_false] at hx9
    subst hx9
    refine xc_catch (own := RL) (name := "java/lang/IllegalStateException") (E := "java/lang/IllegalStateException") hown [] ⟨0, 9, 12, 45⟩ [] (htab.trans rfl) (fun z hz => (by cases hz)) (by decide) (by decide) (hts _ hp_k8) (hcast _) hce hcv hcl ?_
    refine lv_astore_n (i := 3) (lv' := [(3, .ref q), (0, .ref (ad 0)), (1, .int (Int32.ofInt a1)), (2, .ref ao)]) hx hb dhbegin_12 rfl hl (by decide) rfl (fun ls2 hl2 => ?_)
    refine lv_iconst (v := 1) hx hb dhbegin_13 (by decide) ?_
    exact W.iret (v := 1) hx hb hr (fun t ht hW => ⟨1, o, h', rfl, W1, by rw [ht]; exact hP1, by rw [ht]; exact hO1, hS1.F ht⟩) hS1.2.2 dhbegin_14 hlk
theorem hp_run {a1 : Int} (hst : l.stackTraces = false) (hi : ∀ i j, i < cw_K → j < cw_K → ad i = ad j → i = j) (hao : ¬ ja_A ad cw_K ao) (r1 : ja_r a1) (W0 : ck_W cw_sp cw_fi cw_K cw_pr v0 h) :
    Met l yL_run (Cond.codeWith yL_run cL_run 4 (some .int) [(0, 9, 12, 45), (0, 9, 15, 13)] :: ja_B) hp_R (hp_PC D cA ad ao h o [.ref (ad 0), .int (Int32.ofInt a1), .ref ao]) (hp_Q D cA ad ao (fun _ _ h' => ck_W cw_sp cw_fi cw_K cw_pr v0 h')) 1 6 (hp_A ad ao) := by
  refine xh_ofW (cc := cL_run) (maxL := 4) (ret := some .int) (hh := [(0, 9, 12, 45), (0, 9, 15, 13)]) (by decide +kernel) rfl ?_
  intro p e s m args below meth c s₁ B hml hv
  obtain ⟨rfl, hP, hO, hK, hN, hT, hsr, hX⟩ := hv
  have hx := B.exec
  have hb := B.bytes
  have hr := B.returns
  have hts0 := atoms_spec (ws := Cond.codeWith yL_run cL_run 4 (some .int) [(0, 9, 12, 45), (0, 9, 15, 13)] :: ja_B) B.pre
  have hts : ∀ w ∈ ja_B, w.before _ s = true := fun w hw => hts0 w (List.mem_cons_of_mem _ hw)
  have hown : s.vm.findClass RL = some m.cls := findClass_of_methodNamed B.named
  have hlk := B.notSynchronized
  have htab : c.exceptionTable.toList = tableOf [(0, 9, 12, 45), (0, 9, 15, 13)] := vx_table (x := yL_run) B (hts0 _ List.mem_cons_self)
  have hl := lv_entry [.ref (ad 0), .int (Int32.ofInt a1), .ref ao] (n := 4) (Nat.le_of_ble_eq_true rfl)
  rw [lg_entry_eq]
  generalize (lg_sl [.ref (ad 0), .int (Int32.ofInt a1), .ref ao] ++ List.replicate (4 - (lg_sl [.ref (ad 0), .int (Int32.ofInt a1), .ref ao]).length) Slot.unset).toArray = ls at hl ⊢
  have hl : lv_has ls 4 [(0, .ref (ad 0)), (1, .int (Int32.ofInt a1)), (2, .ref ao)] := hl
  have g := hl.2.2
  have hM0 := cf_run (l := l) (D := D) (cA := cA) (ad := ad) (v0 := v0) [(2, ((0 : Nat) : Int)), (0, a1)] h ⟨⟨.inr (.inr ⟨rfl, rfl⟩), fun i q => (by cases q)⟩, ⟨.inl ⟨rfl, rfl, r1.1, r1.2, r1, fun i q => (by cases q), fun q => (by cases q)⟩, fun i q => (by cases q)⟩, trivial⟩ W0
  have hM0 : jx_M l D cA ad cw_sp cw_K 180 yX11_run cX11_run 2 (some .int) [(2, ((0 : Nat) : Int)), (0, a1)] h (fun r h' => (ck_rok cf_s8.2.2.1 r ∨ ∃ x, x ∈ ([8, 7] : List Nat) ∧ (x = 7 ∨ x = 8 ∨ x = 9) ∧ r = some (x, 0)) ∧ ck_W cw_sp cw_fi cw_K cw_pr v0 h') := hM0
  have hM := jx_met hst hi (by decide +kernel) (show ja_wd [(2, ((0 : Nat) : Int)), (0, a1)] ≤ 2 from Nat.le_of_ble_eq_true rfl) hM0
  refine lv_aload_n hx hb dhrun_0 rfl (g (2, .ref ao) (by simp)) ?_
  refine lv_iconst (v := 0) hx hb dhrun_1 (by decide) ?_
  refine lv_aload_n hx hb dhrun_2 rfl (g (0, .ref (ad 0)) (by simp)) ?_
  refine lv_iload_n hx hb dhrun_3 rfl (g (1, .int (Int32.ofInt a1)) (by simp)) ?_
  refine hp_call (o := o) (Z := MQ below (hp_Q D cA ad ao (fun _ _ h' => ck_W cw_sp cw_fi cw_K cw_pr v0 h')) _ s 1 6 (hp_A ad ao)) (n := 1) (vals := [(0, a1)]) (rest := [.int 0, .ref ao]) hx hb hml hown hts hN hT hsr hK hP hO hao (ja_m (ck_tb_in (p := 6353) (by decide +kernel)) rfl) (ja_m (ck_tb_in (p := 6354) (by decide +kernel)) rfl) (ja_m (ck_tb_in (p := 6355) (by decide +kernel)) rfl) (ja_m (ck_tb_in (p := 4865) (by decide +kernel)) rfl) (ja_m (ck_tb_in (p := 6356) (by decide +kernel)) rfl) (by decide +kernel) rfl rfl (by decide) hl.1 (Nat.le_of_ble_eq_true rfl) dhrun_4 hM (fun r h' H1 locs1 hq hP1 hO1 hS1 => ?_) (fun r h' H1 locs1 q ce hr9 hq hP1 hO1 hS1 hce hcv hcl => ?_)
  · obtain ⟨hq1, hq2, W1⟩ := hq
    obtain ⟨x, rfl⟩ : ∃ x, r = some (0, x) := by
      rcases hq2 with hq2 | ⟨x, -, hx9, rfl⟩
      · cases r with
        | none => exact hq2.elim
        | some v =>
          obtain ⟨y, rfl, -⟩ := ck_int hq2.1 rfl
          exact ⟨y, rfl⟩
      · have h2 : x < 2 := hq1 _ rfl
        omega
    show W p l e hp_R s m _ below meth c H1 locs1 1 6 _ (F0 m 7 ls [.int (Int32.ofInt x), .int 0, .ref ao])
    refine lv_i2l (v := Int64.ofInt ((Int32.ofInt x).toInt64).toInt) hx hb dhrun_7 (Int64.ofInt_toInt _).symm ?_
    refine hp_store (y := ((Int32.ofInt x).toInt64).toInt) hx hb hK hi hao hP1 hO1 hS1 dhrun_8 (fun H2 locs2 hP2 hO2 hS2 => ?_)
    refine lv_goto (tgt := 18) hx hb dhrun_9 (by decide) ?_
    refine lv_iconst (v := 0) hx hb dhrun_18 (by decide) ?_
    refine W.iret (v := 0) hx hb hr (fun t ht hW => ⟨0, ((Int32.ofInt x).toInt64).toInt, h', rfl, W1, by rw [ht]; exact hP2, by rw [ht]; exact hO2, hS2.F ht⟩) hS2.2.2 dhrun_19 hlk
  · have htab := htab
    have hcast : ∀ A : Array Value, (Cond.castable (jx_n r) (jx_n r)).before A s = true := fun A => va_Nw.use rfl (hsr.1.2 _ (by rcases hr9 with rfl | rfl | rfl <;> simp [jx_n, jx_Cn]))
    obtain ⟨hx9, W1⟩ : r ∈ ([8, 7] : List Nat) ∧ ck_W cw_sp cw_fi cw_K cw_pr v0 h' := by
      refine ⟨?_, hq.2⟩
      rcases hq.1 with q1 | ⟨x, q1, -, q2⟩
      · obtain ⟨y, q3, -⟩ := ck_int q1.1 rfl
        have : r = 0 := congrArg Prod.fst q3
        omega
      · have : ((r : Nat), (0 : Int)) = (x, 0) := Option.some.inj q2
        have : r = x := congrArg Prod.fst this
        rw [this]; exact q1
    simp only [List.mem_cons, List.not_mem_nil, or_false] at hx9
    rcases hx9 with rfl | rfl
    · refine xc_catch (own := RL) (name := "java/lang/IllegalStateException") (E := "java/lang/IllegalStateException") hown [] ⟨0, 9, 12, 45⟩ [⟨0, 9, 15, 13⟩] (htab.trans rfl) (fun z hz => (by cases hz)) (by decide) (by decide) (hts _ hp_k8) (hcast _) hce hcv hcl ?_
      refine lv_astore_n (i := 3) (lv' := [(3, .ref q), (0, .ref (ad 0)), (1, .int (Int32.ofInt a1)), (2, .ref ao)]) hx hb dhrun_12 rfl hl (by decide) rfl (fun ls2 hl2 => ?_)
      refine lv_iconst (v := 1) hx hb dhrun_13 (by decide) ?_
      exact W.iret (v := 1) hx hb hr (fun t ht hW => ⟨1, o, h', rfl, W1, by rw [ht]; exact hP1, by rw [ht]; exact hO1, hS1.F ht⟩) hS1.2.2 dhrun_14 hlk
    · refine xc_catch (own := RL) (name := "java/lang/IllegalArgumentException") (E := "java/lang/IllegalArgumentException") hown [⟨0, 9, 12, 45⟩] ⟨0, 9, 15, 13⟩ [] (htab.trans rfl) (fun z hz => (by rw [List.mem_singleton.mp hz]; exact Or.inr ⟨(by decide), "java/lang/IllegalStateException", hts _ hp_k8, hX.1⟩)) (by decide) (by decide) (hts _ hp_k7) (hcast _) hce hcv hcl ?_
      refine lv_astore_n (i := 3) (lv' := [(3, .ref q), (0, .ref (ad 0)), (1, .int (Int32.ofInt a1)), (2, .ref ao)]) hx hb dhrun_15 rfl hl (by decide) rfl (fun ls2 hl2 => ?_)
      refine lv_iconst (v := 2) hx hb dhrun_16 (by decide) ?_
      exact W.iret (v := 2) hx hb hr (fun t ht hW => ⟨2, o, h', rfl, W1, by rw [ht]; exact hP1, by rw [ht]; exact hO1, hS1.F ht⟩) hS1.2.2 dhrun_17 hlk
theorem hp_told {a1 : Int} (hst : l.stackTraces = false) (hi : ∀ i j, i < cw_K → j < cw_K → ad i = ad j → i = j) (hao : ¬ ja_A ad cw_K ao) (r1 : ja_r a1) (W0 : ck_W cw_sp cw_fi cw_K cw_pr v0 h) :
    Met l yL_told (Cond.codeWith yL_told cL_told 4 (some .int) [(0, 9, 12, 45), (0, 9, 15, 19)] :: ja_B) hp_R (hp_PC D cA ad ao h o [.ref (ad 0), .int (Int32.ofInt a1), .ref ao]) (hp_Q D cA ad ao (fun _ _ h' => ck_W cw_sp cw_fi cw_K cw_pr v0 h')) 1 6 (hp_A ad ao) := by
  refine xh_ofW (cc := cL_told) (maxL := 4) (ret := some .int) (hh := [(0, 9, 12, 45), (0, 9, 15, 19)]) (by decide +kernel) rfl ?_
  intro p e s m args below meth c s₁ B hml hv
  obtain ⟨rfl, hP, hO, hK, hN, hT, hsr, hX⟩ := hv
  have hx := B.exec
  have hb := B.bytes
  have hr := B.returns
  have hts0 := atoms_spec (ws := Cond.codeWith yL_told cL_told 4 (some .int) [(0, 9, 12, 45), (0, 9, 15, 19)] :: ja_B) B.pre
  have hts : ∀ w ∈ ja_B, w.before _ s = true := fun w hw => hts0 w (List.mem_cons_of_mem _ hw)
  have hown : s.vm.findClass RL = some m.cls := findClass_of_methodNamed B.named
  have hlk := B.notSynchronized
  have htab : c.exceptionTable.toList = tableOf [(0, 9, 12, 45), (0, 9, 15, 19)] := vx_table (x := yL_told) B (hts0 _ List.mem_cons_self)
  have hl := lv_entry [.ref (ad 0), .int (Int32.ofInt a1), .ref ao] (n := 4) (Nat.le_of_ble_eq_true rfl)
  rw [lg_entry_eq]
  generalize (lg_sl [.ref (ad 0), .int (Int32.ofInt a1), .ref ao] ++ List.replicate (4 - (lg_sl [.ref (ad 0), .int (Int32.ofInt a1), .ref ao]).length) Slot.unset).toArray = ls at hl ⊢
  have hl : lv_has ls 4 [(0, .ref (ad 0)), (1, .int (Int32.ofInt a1)), (2, .ref ao)] := hl
  have g := hl.2.2
  have hM0 := cf_told (l := l) (D := D) (cA := cA) (ad := ad) (v0 := v0) [(2, ((0 : Nat) : Int)), (0, a1)] h ⟨⟨.inr (.inr ⟨rfl, rfl⟩), fun i q => (by cases q)⟩, ⟨.inl ⟨rfl, rfl, r1.1, r1.2, r1, fun i q => (by cases q), fun q => (by cases q)⟩, fun i q => (by cases q)⟩, trivial⟩ W0
  have hM0 : jx_M l D cA ad cw_sp cw_K 180 yX11_told cX11_told 2 (some .int) [(2, ((0 : Nat) : Int)), (0, a1)] h (fun r h' => (ck_rok cf_s9.2.2.1 r ∨ ∃ x, x ∈ ([8, 9] : List Nat) ∧ (x = 7 ∨ x = 8 ∨ x = 9) ∧ r = some (x, 0)) ∧ ck_W cw_sp cw_fi cw_K cw_pr v0 h') := hM0
  have hM := jx_met hst hi (by decide +kernel) (show ja_wd [(2, ((0 : Nat) : Int)), (0, a1)] ≤ 2 from Nat.le_of_ble_eq_true rfl) hM0
  refine lv_aload_n hx hb dhtold_0 rfl (g (2, .ref ao) (by simp)) ?_
  refine lv_iconst (v := 0) hx hb dhtold_1 (by decide) ?_
  refine lv_aload_n hx hb dhtold_2 rfl (g (0, .ref (ad 0)) (by simp)) ?_
  refine lv_iload_n hx hb dhtold_3 rfl (g (1, .int (Int32.ofInt a1)) (by simp)) ?_
  refine hp_call (o := o) (Z := MQ below (hp_Q D cA ad ao (fun _ _ h' => ck_W cw_sp cw_fi cw_K cw_pr v0 h')) _ s 1 6 (hp_A ad ao)) (n := 1) (vals := [(0, a1)]) (rest := [.int 0, .ref ao]) hx hb hml hown hts hN hT hsr hK hP hO hao (ja_m (ck_tb_in (p := 6748) (by decide +kernel)) rfl) (ja_m (ck_tb_in (p := 6749) (by decide +kernel)) rfl) (ja_m (ck_tb_in (p := 6750) (by decide +kernel)) rfl) (ja_m (ck_tb_in (p := 4865) (by decide +kernel)) rfl) (ja_m (ck_tb_in (p := 6751) (by decide +kernel)) rfl) (by decide +kernel) rfl rfl (by decide) hl.1 (Nat.le_of_ble_eq_true rfl) dhtold_4 hM (fun r h' H1 locs1 hq hP1 hO1 hS1 => ?_) (fun r h' H1 locs1 q ce hr9 hq hP1 hO1 hS1 hce hcv hcl => ?_)
  · obtain ⟨hq1, hq2, W1⟩ := hq
    obtain ⟨x, rfl⟩ : ∃ x, r = some (0, x) := by
      rcases hq2 with hq2 | ⟨x, -, hx9, rfl⟩
      · cases r with
        | none => exact hq2.elim
        | some v =>
          obtain ⟨y, rfl, -⟩ := ck_int hq2.1 rfl
          exact ⟨y, rfl⟩
      · have h2 : x < 2 := hq1 _ rfl
        omega
    show W p l e hp_R s m _ below meth c H1 locs1 1 6 _ (F0 m 7 ls [.int (Int32.ofInt x), .int 0, .ref ao])
    refine lv_i2l (v := Int64.ofInt ((Int32.ofInt x).toInt64).toInt) hx hb dhtold_7 (Int64.ofInt_toInt _).symm ?_
    refine hp_store (y := ((Int32.ofInt x).toInt64).toInt) hx hb hK hi hao hP1 hO1 hS1 dhtold_8 (fun H2 locs2 hP2 hO2 hS2 => ?_)
    refine lv_goto (tgt := 18) hx hb dhtold_9 (by decide) ?_
    refine lv_iconst (v := 0) hx hb dhtold_18 (by decide) ?_
    refine W.iret (v := 0) hx hb hr (fun t ht hW => ⟨0, ((Int32.ofInt x).toInt64).toInt, h', rfl, W1, by rw [ht]; exact hP2, by rw [ht]; exact hO2, hS2.F ht⟩) hS2.2.2 dhtold_19 hlk
  · have htab := htab
    have hcast : ∀ A : Array Value, (Cond.castable (jx_n r) (jx_n r)).before A s = true := fun A => va_Nw.use rfl (hsr.1.2 _ (by rcases hr9 with rfl | rfl | rfl <;> simp [jx_n, jx_Cn]))
    obtain ⟨hx9, W1⟩ : r ∈ ([8, 9] : List Nat) ∧ ck_W cw_sp cw_fi cw_K cw_pr v0 h' := by
      refine ⟨?_, hq.2⟩
      rcases hq.1 with q1 | ⟨x, q1, -, q2⟩
      · obtain ⟨y, q3, -⟩ := ck_int q1.1 rfl
        have : r = 0 := congrArg Prod.fst q3
        omega
      · have : ((r : Nat), (0 : Int)) = (x, 0) := Option.some.inj q2
        have : r = x := congrArg Prod.fst this
        rw [this]; exact q1
    simp only [List.mem_cons, List.not_mem_nil, or_false] at hx9
    rcases hx9 with rfl | rfl
    · refine xc_catch (own := RL) (name := "java/lang/IllegalStateException") (E := "java/lang/IllegalStateException") hown [] ⟨0, 9, 12, 45⟩ [⟨0, 9, 15, 19⟩] (htab.trans rfl) (fun z hz => (by cases hz)) (by decide) (by decide) (hts _ hp_k8) (hcast _) hce hcv hcl ?_
      refine lv_astore_n (i := 3) (lv' := [(3, .ref q), (0, .ref (ad 0)), (1, .int (Int32.ofInt a1)), (2, .ref ao)]) hx hb dhtold_12 rfl hl (by decide) rfl (fun ls2 hl2 => ?_)
      refine lv_iconst (v := 1) hx hb dhtold_13 (by decide) ?_
      exact W.iret (v := 1) hx hb hr (fun t ht hW => ⟨1, o, h', rfl, W1, by rw [ht]; exact hP1, by rw [ht]; exact hO1, hS1.F ht⟩) hS1.2.2 dhtold_14 hlk
    · refine xc_catch (own := RL) (name := "java/lang/IndexOutOfBoundsException") (E := "java/lang/IndexOutOfBoundsException") hown [⟨0, 9, 12, 45⟩] ⟨0, 9, 15, 19⟩ [] (htab.trans rfl) (fun z hz => (by rw [List.mem_singleton.mp hz]; exact Or.inr ⟨(by decide), "java/lang/IllegalStateException", hts _ hp_k8, hX.2⟩)) (by decide) (by decide) (hts _ hp_k9) (hcast _) hce hcv hcl ?_
      refine lv_astore_n (i := 3) (lv' := [(3, .ref q), (0, .ref (ad 0)), (1, .int (Int32.ofInt a1)), (2, .ref ao)]) hx hb dhtold_15 rfl hl (by decide) rfl (fun ls2 hl2 => ?_)
      refine lv_iconst (v := 2) hx hb dhtold_16 (by decide) ?_
      exact W.iret (v := 2) hx hb hr (fun t ht hW => ⟨2, o, h', rfl, W1, by rw [ht]; exact hP1, by rw [ht]; exact hO1, hS1.F ht⟩) hS1.2.2 dhtold_17 hlk
theorem hp_output {a1 a2 : Int} (hst : l.stackTraces = false) (hi : ∀ i j, i < cw_K → j < cw_K → ad i = ad j → i = j) (hao : ¬ ja_A ad cw_K ao) (r1 : ja_r a1) (r2 : ja_r a2) (W0 : ck_W cw_sp cw_fi cw_K cw_pr v0 h) :
    Met l yL_output (Cond.codeWith yL_output cL_output 5 (some .int) [(0, 10, 13, 45), (0, 10, 17, 19)] :: ja_B) hp_R (hp_PC D cA ad ao h o [.ref (ad 0), .int (Int32.ofInt a1), .int (Int32.ofInt a2), .ref ao]) (hp_Q D cA ad ao (fun _ _ h' => ck_W cw_sp cw_fi cw_K cw_pr v0 h')) 1 6 (hp_A ad ao) := by
  refine xh_ofW (cc := cL_output) (maxL := 5) (ret := some .int) (hh := [(0, 10, 13, 45), (0, 10, 17, 19)]) (by decide +kernel) rfl ?_
  intro p e s m args below meth c s₁ B hml hv
  obtain ⟨rfl, hP, hO, hK, hN, hT, hsr, hX⟩ := hv
  have hx := B.exec
  have hb := B.bytes
  have hr := B.returns
  have hts0 := atoms_spec (ws := Cond.codeWith yL_output cL_output 5 (some .int) [(0, 10, 13, 45), (0, 10, 17, 19)] :: ja_B) B.pre
  have hts : ∀ w ∈ ja_B, w.before _ s = true := fun w hw => hts0 w (List.mem_cons_of_mem _ hw)
  have hown : s.vm.findClass RL = some m.cls := findClass_of_methodNamed B.named
  have hlk := B.notSynchronized
  have htab : c.exceptionTable.toList = tableOf [(0, 10, 13, 45), (0, 10, 17, 19)] := vx_table (x := yL_output) B (hts0 _ List.mem_cons_self)
  have hl := lv_entry [.ref (ad 0), .int (Int32.ofInt a1), .int (Int32.ofInt a2), .ref ao] (n := 5) (Nat.le_of_ble_eq_true rfl)
  rw [lg_entry_eq]
  generalize (lg_sl [.ref (ad 0), .int (Int32.ofInt a1), .int (Int32.ofInt a2), .ref ao] ++ List.replicate (5 - (lg_sl [.ref (ad 0), .int (Int32.ofInt a1), .int (Int32.ofInt a2), .ref ao]).length) Slot.unset).toArray = ls at hl ⊢
  have hl : lv_has ls 5 [(0, .ref (ad 0)), (1, .int (Int32.ofInt a1)), (2, .int (Int32.ofInt a2)), (3, .ref ao)] := hl
  have g := hl.2.2
  have hM0 := cf_output (l := l) (D := D) (cA := cA) (ad := ad) (v0 := v0) [(2, ((0 : Nat) : Int)), (0, a1), (0, a2)] h ⟨⟨.inr (.inr ⟨rfl, rfl⟩), fun i q => (by cases q)⟩, ⟨.inl ⟨rfl, rfl, r1.1, r1.2, r1, fun i q => (by cases q), fun q => (by cases q)⟩, fun i q => (by cases q)⟩, ⟨.inl ⟨rfl, rfl, r2.1, r2.2, r2, fun i q => (by cases q), fun q => (by cases q)⟩, fun i q => (by cases q)⟩, trivial⟩ W0
  have hM0 : jx_M l D cA ad cw_sp cw_K 180 yX11_output cX11_output 3 (some .int) [(2, ((0 : Nat) : Int)), (0, a1), (0, a2)] h (fun r h' => (ck_rok cf_s10.2.2.1 r ∨ ∃ x, x ∈ ([8, 9] : List Nat) ∧ (x = 7 ∨ x = 8 ∨ x = 9) ∧ r = some (x, 0)) ∧ ck_W cw_sp cw_fi cw_K cw_pr v0 h') := hM0
  have hM := jx_met hst hi (by decide +kernel) (show ja_wd [(2, ((0 : Nat) : Int)), (0, a1), (0, a2)] ≤ 3 from Nat.le_of_ble_eq_true rfl) hM0
  refine lv_aload_n hx hb dhoutput_0 rfl (g (3, .ref ao) (by simp)) ?_
  refine lv_iconst (v := 0) hx hb dhoutput_1 (by decide) ?_
  refine lv_aload_n hx hb dhoutput_2 rfl (g (0, .ref (ad 0)) (by simp)) ?_
  refine lv_iload_n hx hb dhoutput_3 rfl (g (1, .int (Int32.ofInt a1)) (by simp)) ?_
  refine lv_iload_n hx hb dhoutput_4 rfl (g (2, .int (Int32.ofInt a2)) (by simp)) ?_
  refine hp_call (o := o) (Z := MQ below (hp_Q D cA ad ao (fun _ _ h' => ck_W cw_sp cw_fi cw_K cw_pr v0 h')) _ s 1 6 (hp_A ad ao)) (n := 2) (vals := [(0, a1), (0, a2)]) (rest := [.int 0, .ref ao]) hx hb hml hown hts hN hT hsr hK hP hO hao (ja_m (ck_tb_in (p := 6777) (by decide +kernel)) rfl) (ja_m (ck_tb_in (p := 6778) (by decide +kernel)) rfl) (ja_m (ck_tb_in (p := 6779) (by decide +kernel)) rfl) (ja_m (ck_tb_in (p := 4865) (by decide +kernel)) rfl) (ja_m (ck_tb_in (p := 6780) (by decide +kernel)) rfl) (by decide +kernel) rfl rfl (by decide) hl.1 (Nat.le_of_ble_eq_true rfl) dhoutput_5 hM (fun r h' H1 locs1 hq hP1 hO1 hS1 => ?_) (fun r h' H1 locs1 q ce hr9 hq hP1 hO1 hS1 hce hcv hcl => ?_)
  · obtain ⟨hq1, hq2, W1⟩ := hq
    obtain ⟨x, rfl⟩ : ∃ x, r = some (0, x) := by
      rcases hq2 with hq2 | ⟨x, -, hx9, rfl⟩
      · cases r with
        | none => exact hq2.elim
        | some v =>
          obtain ⟨y, rfl, -⟩ := ck_int hq2.1 rfl
          exact ⟨y, rfl⟩
      · have h2 : x < 2 := hq1 _ rfl
        omega
    show W p l e hp_R s m _ below meth c H1 locs1 1 6 _ (F0 m 8 ls [.int (Int32.ofInt x), .int 0, .ref ao])
    refine lv_i2l (v := Int64.ofInt ((Int32.ofInt x).toInt64).toInt) hx hb dhoutput_8 (Int64.ofInt_toInt _).symm ?_
    refine hp_store (y := ((Int32.ofInt x).toInt64).toInt) hx hb hK hi hao hP1 hO1 hS1 dhoutput_9 (fun H2 locs2 hP2 hO2 hS2 => ?_)
    refine lv_goto (tgt := 21) hx hb dhoutput_10 (by decide) ?_
    refine lv_iconst (v := 0) hx hb dhoutput_21 (by decide) ?_
    refine W.iret (v := 0) hx hb hr (fun t ht hW => ⟨0, ((Int32.ofInt x).toInt64).toInt, h', rfl, W1, by rw [ht]; exact hP2, by rw [ht]; exact hO2, hS2.F ht⟩) hS2.2.2 dhoutput_22 hlk
  · have htab := htab
    have hcast : ∀ A : Array Value, (Cond.castable (jx_n r) (jx_n r)).before A s = true := fun A => va_Nw.use rfl (hsr.1.2 _ (by rcases hr9 with rfl | rfl | rfl <;> simp [jx_n, jx_Cn]))
    obtain ⟨hx9, W1⟩ : r ∈ ([8, 9] : List Nat) ∧ ck_W cw_sp cw_fi cw_K cw_pr v0 h' := by
      refine ⟨?_, hq.2⟩
      rcases hq.1 with q1 | ⟨x, q1, -, q2⟩
      · obtain ⟨y, q3, -⟩ := ck_int q1.1 rfl
        have : r = 0 := congrArg Prod.fst q3
        omega
      · have : ((r : Nat), (0 : Int)) = (x, 0) := Option.some.inj q2
        have : r = x := congrArg Prod.fst this
        rw [this]; exact q1
    simp only [List.mem_cons, List.not_mem_nil, or_false] at hx9
    rcases hx9 with rfl | rfl
    · refine xc_catch (own := RL) (name := "java/lang/IllegalStateException") (E := "java/lang/IllegalStateException") hown [] ⟨0, 10, 13, 45⟩ [⟨0, 10, 17, 19⟩] (htab.trans rfl) (fun z hz => (by cases hz)) (by decide) (by decide) (hts _ hp_k8) (hcast _) hce hcv hcl ?_
      refine lv_astore (i := 4) (lv' := [(4, .ref q), (0, .ref (ad 0)), (1, .int (Int32.ofInt a1)), (2, .int (Int32.ofInt a2)), (3, .ref ao)]) hx hb dhoutput_13 hl (by decide) rfl (fun ls2 hl2 => ?_)
      refine lv_iconst (v := 1) hx hb dhoutput_15 (by decide) ?_
      exact W.iret (v := 1) hx hb hr (fun t ht hW => ⟨1, o, h', rfl, W1, by rw [ht]; exact hP1, by rw [ht]; exact hO1, hS1.F ht⟩) hS1.2.2 dhoutput_16 hlk
    · refine xc_catch (own := RL) (name := "java/lang/IndexOutOfBoundsException") (E := "java/lang/IndexOutOfBoundsException") hown [⟨0, 10, 13, 45⟩] ⟨0, 10, 17, 19⟩ [] (htab.trans rfl) (fun z hz => (by rw [List.mem_singleton.mp hz]; exact Or.inr ⟨(by decide), "java/lang/IllegalStateException", hts _ hp_k8, hX.2⟩)) (by decide) (by decide) (hts _ hp_k9) (hcast _) hce hcv hcl ?_
      refine lv_astore (i := 4) (lv' := [(4, .ref q), (0, .ref (ad 0)), (1, .int (Int32.ofInt a1)), (2, .int (Int32.ofInt a2)), (3, .ref ao)]) hx hb dhoutput_17 hl (by decide) rfl (fun ls2 hl2 => ?_)
      refine lv_iconst (v := 2) hx hb dhoutput_19 (by decide) ?_
      exact W.iret (v := 2) hx hb hr (fun t ht hW => ⟨2, o, h', rfl, W1, by rw [ht]; exact hP1, by rw [ht]; exact hO1, hS1.F ht⟩) hS1.2.2 dhoutput_20 hlk
theorem hp_failure {a1 : Int} (hst : l.stackTraces = false) (hi : ∀ i j, i < cw_K → j < cw_K → ad i = ad j → i = j) (hao : ¬ ja_A ad cw_K ao) (r1 : ja_r a1) (W0 : ck_W cw_sp cw_fi cw_K cw_pr v0 h) :
    Met l yL_failure (Cond.codeWith yL_failure cL_failure 4 (some .int) [(0, 9, 12, 45), (0, 9, 15, 19)] :: ja_B) hp_R (hp_PC D cA ad ao h o [.ref (ad 0), .int (Int32.ofInt a1), .ref ao]) (hp_Q D cA ad ao (fun _ _ h' => ck_W cw_sp cw_fi cw_K cw_pr v0 h')) 1 6 (hp_A ad ao) := by
  refine xh_ofW (cc := cL_failure) (maxL := 4) (ret := some .int) (hh := [(0, 9, 12, 45), (0, 9, 15, 19)]) (by decide +kernel) rfl ?_
  intro p e s m args below meth c s₁ B hml hv
  obtain ⟨rfl, hP, hO, hK, hN, hT, hsr, hX⟩ := hv
  have hx := B.exec
  have hb := B.bytes
  have hr := B.returns
  have hts0 := atoms_spec (ws := Cond.codeWith yL_failure cL_failure 4 (some .int) [(0, 9, 12, 45), (0, 9, 15, 19)] :: ja_B) B.pre
  have hts : ∀ w ∈ ja_B, w.before _ s = true := fun w hw => hts0 w (List.mem_cons_of_mem _ hw)
  have hown : s.vm.findClass RL = some m.cls := findClass_of_methodNamed B.named
  have hlk := B.notSynchronized
  have htab : c.exceptionTable.toList = tableOf [(0, 9, 12, 45), (0, 9, 15, 19)] := vx_table (x := yL_failure) B (hts0 _ List.mem_cons_self)
  have hl := lv_entry [.ref (ad 0), .int (Int32.ofInt a1), .ref ao] (n := 4) (Nat.le_of_ble_eq_true rfl)
  rw [lg_entry_eq]
  generalize (lg_sl [.ref (ad 0), .int (Int32.ofInt a1), .ref ao] ++ List.replicate (4 - (lg_sl [.ref (ad 0), .int (Int32.ofInt a1), .ref ao]).length) Slot.unset).toArray = ls at hl ⊢
  have hl : lv_has ls 4 [(0, .ref (ad 0)), (1, .int (Int32.ofInt a1)), (2, .ref ao)] := hl
  have g := hl.2.2
  have hM0 := cf_failure (l := l) (D := D) (cA := cA) (ad := ad) (v0 := v0) [(2, ((0 : Nat) : Int)), (0, a1)] h ⟨⟨.inr (.inr ⟨rfl, rfl⟩), fun i q => (by cases q)⟩, ⟨.inl ⟨rfl, rfl, r1.1, r1.2, r1, fun i q => (by cases q), fun q => (by cases q)⟩, fun i q => (by cases q)⟩, trivial⟩ W0
  have hM0 : jx_M l D cA ad cw_sp cw_K 180 yX11_failure cX11_failure 2 (some .int) [(2, ((0 : Nat) : Int)), (0, a1)] h (fun r h' => (ck_rok cf_s11.2.2.1 r ∨ ∃ x, x ∈ ([8, 9] : List Nat) ∧ (x = 7 ∨ x = 8 ∨ x = 9) ∧ r = some (x, 0)) ∧ ck_W cw_sp cw_fi cw_K cw_pr v0 h') := hM0
  have hM := jx_met hst hi (by decide +kernel) (show ja_wd [(2, ((0 : Nat) : Int)), (0, a1)] ≤ 2 from Nat.le_of_ble_eq_true rfl) hM0
  refine lv_aload_n hx hb dhfailure_0 rfl (g (2, .ref ao) (by simp)) ?_
  refine lv_iconst (v := 0) hx hb dhfailure_1 (by decide) ?_
  refine lv_aload_n hx hb dhfailure_2 rfl (g (0, .ref (ad 0)) (by simp)) ?_
  refine lv_iload_n hx hb dhfailure_3 rfl (g (1, .int (Int32.ofInt a1)) (by simp)) ?_
  refine hp_call (o := o) (Z := MQ below (hp_Q D cA ad ao (fun _ _ h' => ck_W cw_sp cw_fi cw_K cw_pr v0 h')) _ s 1 6 (hp_A ad ao)) (n := 1) (vals := [(0, a1)]) (rest := [.int 0, .ref ao]) hx hb hml hown hts hN hT hsr hK hP hO hao (ja_m (ck_tb_in (p := 6792) (by decide +kernel)) rfl) (ja_m (ck_tb_in (p := 6793) (by decide +kernel)) rfl) (ja_m (ck_tb_in (p := 6794) (by decide +kernel)) rfl) (ja_m (ck_tb_in (p := 4865) (by decide +kernel)) rfl) (ja_m (ck_tb_in (p := 6795) (by decide +kernel)) rfl) (by decide +kernel) rfl rfl (by decide) hl.1 (Nat.le_of_ble_eq_true rfl) dhfailure_4 hM (fun r h' H1 locs1 hq hP1 hO1 hS1 => ?_) (fun r h' H1 locs1 q ce hr9 hq hP1 hO1 hS1 hce hcv hcl => ?_)
  · obtain ⟨hq1, hq2, W1⟩ := hq
    obtain ⟨x, rfl⟩ : ∃ x, r = some (0, x) := by
      rcases hq2 with hq2 | ⟨x, -, hx9, rfl⟩
      · cases r with
        | none => exact hq2.elim
        | some v =>
          obtain ⟨y, rfl, -⟩ := ck_int hq2.1 rfl
          exact ⟨y, rfl⟩
      · have h2 : x < 2 := hq1 _ rfl
        omega
    show W p l e hp_R s m _ below meth c H1 locs1 1 6 _ (F0 m 7 ls [.int (Int32.ofInt x), .int 0, .ref ao])
    refine lv_i2l (v := Int64.ofInt ((Int32.ofInt x).toInt64).toInt) hx hb dhfailure_7 (Int64.ofInt_toInt _).symm ?_
    refine hp_store (y := ((Int32.ofInt x).toInt64).toInt) hx hb hK hi hao hP1 hO1 hS1 dhfailure_8 (fun H2 locs2 hP2 hO2 hS2 => ?_)
    refine lv_goto (tgt := 18) hx hb dhfailure_9 (by decide) ?_
    refine lv_iconst (v := 0) hx hb dhfailure_18 (by decide) ?_
    refine W.iret (v := 0) hx hb hr (fun t ht hW => ⟨0, ((Int32.ofInt x).toInt64).toInt, h', rfl, W1, by rw [ht]; exact hP2, by rw [ht]; exact hO2, hS2.F ht⟩) hS2.2.2 dhfailure_19 hlk
  · have htab := htab
    have hcast : ∀ A : Array Value, (Cond.castable (jx_n r) (jx_n r)).before A s = true := fun A => va_Nw.use rfl (hsr.1.2 _ (by rcases hr9 with rfl | rfl | rfl <;> simp [jx_n, jx_Cn]))
    obtain ⟨hx9, W1⟩ : r ∈ ([8, 9] : List Nat) ∧ ck_W cw_sp cw_fi cw_K cw_pr v0 h' := by
      refine ⟨?_, hq.2⟩
      rcases hq.1 with q1 | ⟨x, q1, -, q2⟩
      · obtain ⟨y, q3, -⟩ := ck_int q1.1 rfl
        have : r = 0 := congrArg Prod.fst q3
        omega
      · have : ((r : Nat), (0 : Int)) = (x, 0) := Option.some.inj q2
        have : r = x := congrArg Prod.fst this
        rw [this]; exact q1
    simp only [List.mem_cons, List.not_mem_nil, or_false] at hx9
    rcases hx9 with rfl | rfl
    · refine xc_catch (own := RL) (name := "java/lang/IllegalStateException") (E := "java/lang/IllegalStateException") hown [] ⟨0, 9, 12, 45⟩ [⟨0, 9, 15, 19⟩] (htab.trans rfl) (fun z hz => (by cases hz)) (by decide) (by decide) (hts _ hp_k8) (hcast _) hce hcv hcl ?_
      refine lv_astore_n (i := 3) (lv' := [(3, .ref q), (0, .ref (ad 0)), (1, .int (Int32.ofInt a1)), (2, .ref ao)]) hx hb dhfailure_12 rfl hl (by decide) rfl (fun ls2 hl2 => ?_)
      refine lv_iconst (v := 1) hx hb dhfailure_13 (by decide) ?_
      exact W.iret (v := 1) hx hb hr (fun t ht hW => ⟨1, o, h', rfl, W1, by rw [ht]; exact hP1, by rw [ht]; exact hO1, hS1.F ht⟩) hS1.2.2 dhfailure_14 hlk
    · refine xc_catch (own := RL) (name := "java/lang/IndexOutOfBoundsException") (E := "java/lang/IndexOutOfBoundsException") hown [⟨0, 9, 12, 45⟩] ⟨0, 9, 15, 19⟩ [] (htab.trans rfl) (fun z hz => (by rw [List.mem_singleton.mp hz]; exact Or.inr ⟨(by decide), "java/lang/IllegalStateException", hts _ hp_k8, hX.2⟩)) (by decide) (by decide) (hts _ hp_k9) (hcast _) hce hcv hcl ?_
      refine lv_astore_n (i := 3) (lv' := [(3, .ref q), (0, .ref (ad 0)), (1, .int (Int32.ofInt a1)), (2, .ref ao)]) hx hb dhfailure_15 rfl hl (by decide) rfl (fun ls2 hl2 => ?_)
      refine lv_iconst (v := 2) hx hb dhfailure_16 (by decide) ?_
      exact W.iret (v := 2) hx hb hr (fun t ht hW => ⟨2, o, h', rfl, W1, by rw [ht]; exact hP1, by rw [ht]; exact hO1, hS1.F ht⟩) hS1.2.2 dhfailure_17 hlk
theorem hp_row {a1 a2 : Int} (hst : l.stackTraces = false) (hi : ∀ i j, i < cw_K → j < cw_K → ad i = ad j → i = j) (hao : ¬ ja_A ad cw_K ao) (r1 : ja_r a1) (r2 : ja_r a2) (W0 : ck_W cw_sp cw_fi cw_K cw_pr v0 h) :
    Met l yL_row (Cond.codeWith yL_row cL_row 5 (some .int) [(0, 10, 13, 45), (0, 10, 17, 19)] :: ja_B) hp_R (hp_PC D cA ad ao h o [.ref (ad 0), .int (Int32.ofInt a1), .int (Int32.ofInt a2), .ref ao]) (hp_Q D cA ad ao (fun _ _ h' => ck_W cw_sp cw_fi cw_K cw_pr v0 h')) 1 6 (hp_A ad ao) := by
  refine xh_ofW (cc := cL_row) (maxL := 5) (ret := some .int) (hh := [(0, 10, 13, 45), (0, 10, 17, 19)]) (by decide +kernel) rfl ?_
  intro p e s m args below meth c s₁ B hml hv
  obtain ⟨rfl, hP, hO, hK, hN, hT, hsr, hX⟩ := hv
  have hx := B.exec
  have hb := B.bytes
  have hr := B.returns
  have hts0 := atoms_spec (ws := Cond.codeWith yL_row cL_row 5 (some .int) [(0, 10, 13, 45), (0, 10, 17, 19)] :: ja_B) B.pre
  have hts : ∀ w ∈ ja_B, w.before _ s = true := fun w hw => hts0 w (List.mem_cons_of_mem _ hw)
  have hown : s.vm.findClass RL = some m.cls := findClass_of_methodNamed B.named
  have hlk := B.notSynchronized
  have htab : c.exceptionTable.toList = tableOf [(0, 10, 13, 45), (0, 10, 17, 19)] := vx_table (x := yL_row) B (hts0 _ List.mem_cons_self)
  have hl := lv_entry [.ref (ad 0), .int (Int32.ofInt a1), .int (Int32.ofInt a2), .ref ao] (n := 5) (Nat.le_of_ble_eq_true rfl)
  rw [lg_entry_eq]
  generalize (lg_sl [.ref (ad 0), .int (Int32.ofInt a1), .int (Int32.ofInt a2), .ref ao] ++ List.replicate (5 - (lg_sl [.ref (ad 0), .int (Int32.ofInt a1), .int (Int32.ofInt a2), .ref ao]).length) Slot.unset).toArray = ls at hl ⊢
  have hl : lv_has ls 5 [(0, .ref (ad 0)), (1, .int (Int32.ofInt a1)), (2, .int (Int32.ofInt a2)), (3, .ref ao)] := hl
  have g := hl.2.2
  have hM0 := cf_row (l := l) (D := D) (cA := cA) (ad := ad) (v0 := v0) [(2, ((0 : Nat) : Int)), (0, a1), (0, a2)] h ⟨⟨.inr (.inr ⟨rfl, rfl⟩), fun i q => (by cases q)⟩, ⟨.inl ⟨rfl, rfl, r1.1, r1.2, r1, fun i q => (by cases q), fun q => (by cases q)⟩, fun i q => (by cases q)⟩, ⟨.inl ⟨rfl, rfl, r2.1, r2.2, r2, fun i q => (by cases q), fun q => (by cases q)⟩, fun i q => (by cases q)⟩, trivial⟩ W0
  have hM0 : jx_M l D cA ad cw_sp cw_K 180 yX11_row cX11_row 3 (some .int) [(2, ((0 : Nat) : Int)), (0, a1), (0, a2)] h (fun r h' => (ck_rok cf_s12.2.2.1 r ∨ ∃ x, x ∈ ([8, 9] : List Nat) ∧ (x = 7 ∨ x = 8 ∨ x = 9) ∧ r = some (x, 0)) ∧ ck_W cw_sp cw_fi cw_K cw_pr v0 h') := hM0
  have hM := jx_met hst hi (by decide +kernel) (show ja_wd [(2, ((0 : Nat) : Int)), (0, a1), (0, a2)] ≤ 3 from Nat.le_of_ble_eq_true rfl) hM0
  refine lv_aload_n hx hb dhrow_0 rfl (g (3, .ref ao) (by simp)) ?_
  refine lv_iconst (v := 0) hx hb dhrow_1 (by decide) ?_
  refine lv_aload_n hx hb dhrow_2 rfl (g (0, .ref (ad 0)) (by simp)) ?_
  refine lv_iload_n hx hb dhrow_3 rfl (g (1, .int (Int32.ofInt a1)) (by simp)) ?_
  refine lv_iload_n hx hb dhrow_4 rfl (g (2, .int (Int32.ofInt a2)) (by simp)) ?_
  refine hp_call (o := o) (Z := MQ below (hp_Q D cA ad ao (fun _ _ h' => ck_W cw_sp cw_fi cw_K cw_pr v0 h')) _ s 1 6 (hp_A ad ao)) (n := 2) (vals := [(0, a1), (0, a2)]) (rest := [.int 0, .ref ao]) hx hb hml hown hts hN hT hsr hK hP hO hao (ja_m (ck_tb_in (p := 6803) (by decide +kernel)) rfl) (ja_m (ck_tb_in (p := 6804) (by decide +kernel)) rfl) (ja_m (ck_tb_in (p := 6805) (by decide +kernel)) rfl) (ja_m (ck_tb_in (p := 4865) (by decide +kernel)) rfl) (ja_m (ck_tb_in (p := 6806) (by decide +kernel)) rfl) (by decide +kernel) rfl rfl (by decide) hl.1 (Nat.le_of_ble_eq_true rfl) dhrow_5 hM (fun r h' H1 locs1 hq hP1 hO1 hS1 => ?_) (fun r h' H1 locs1 q ce hr9 hq hP1 hO1 hS1 hce hcv hcl => ?_)
  · obtain ⟨hq1, hq2, W1⟩ := hq
    obtain ⟨x, rfl⟩ : ∃ x, r = some (0, x) := by
      rcases hq2 with hq2 | ⟨x, -, hx9, rfl⟩
      · cases r with
        | none => exact hq2.elim
        | some v =>
          obtain ⟨y, rfl, -⟩ := ck_int hq2.1 rfl
          exact ⟨y, rfl⟩
      · have h2 : x < 2 := hq1 _ rfl
        omega
    show W p l e hp_R s m _ below meth c H1 locs1 1 6 _ (F0 m 8 ls [.int (Int32.ofInt x), .int 0, .ref ao])
    refine lv_i2l (v := Int64.ofInt ((Int32.ofInt x).toInt64).toInt) hx hb dhrow_8 (Int64.ofInt_toInt _).symm ?_
    refine hp_store (y := ((Int32.ofInt x).toInt64).toInt) hx hb hK hi hao hP1 hO1 hS1 dhrow_9 (fun H2 locs2 hP2 hO2 hS2 => ?_)
    refine lv_goto (tgt := 21) hx hb dhrow_10 (by decide) ?_
    refine lv_iconst (v := 0) hx hb dhrow_21 (by decide) ?_
    refine W.iret (v := 0) hx hb hr (fun t ht hW => ⟨0, ((Int32.ofInt x).toInt64).toInt, h', rfl, W1, by rw [ht]; exact hP2, by rw [ht]; exact hO2, hS2.F ht⟩) hS2.2.2 dhrow_22 hlk
  · have htab := htab
    have hcast : ∀ A : Array Value, (Cond.castable (jx_n r) (jx_n r)).before A s = true := fun A => va_Nw.use rfl (hsr.1.2 _ (by rcases hr9 with rfl | rfl | rfl <;> simp [jx_n, jx_Cn]))
    obtain ⟨hx9, W1⟩ : r ∈ ([8, 9] : List Nat) ∧ ck_W cw_sp cw_fi cw_K cw_pr v0 h' := by
      refine ⟨?_, hq.2⟩
      rcases hq.1 with q1 | ⟨x, q1, -, q2⟩
      · obtain ⟨y, q3, -⟩ := ck_int q1.1 rfl
        have : r = 0 := congrArg Prod.fst q3
        omega
      · have : ((r : Nat), (0 : Int)) = (x, 0) := Option.some.inj q2
        have : r = x := congrArg Prod.fst this
        rw [this]; exact q1
    simp only [List.mem_cons, List.not_mem_nil, or_false] at hx9
    rcases hx9 with rfl | rfl
    · refine xc_catch (own := RL) (name := "java/lang/IllegalStateException") (E := "java/lang/IllegalStateException") hown [] ⟨0, 10, 13, 45⟩ [⟨0, 10, 17, 19⟩] (htab.trans rfl) (fun z hz => (by cases hz)) (by decide) (by decide) (hts _ hp_k8) (hcast _) hce hcv hcl ?_
      refine lv_astore (i := 4) (lv' := [(4, .ref q), (0, .ref (ad 0)), (1, .int (Int32.ofInt a1)), (2, .int (Int32.ofInt a2)), (3, .ref ao)]) hx hb dhrow_13 hl (by decide) rfl (fun ls2 hl2 => ?_)
      refine lv_iconst (v := 1) hx hb dhrow_15 (by decide) ?_
      exact W.iret (v := 1) hx hb hr (fun t ht hW => ⟨1, o, h', rfl, W1, by rw [ht]; exact hP1, by rw [ht]; exact hO1, hS1.F ht⟩) hS1.2.2 dhrow_16 hlk
    · refine xc_catch (own := RL) (name := "java/lang/IndexOutOfBoundsException") (E := "java/lang/IndexOutOfBoundsException") hown [⟨0, 10, 13, 45⟩] ⟨0, 10, 17, 19⟩ [] (htab.trans rfl) (fun z hz => (by rw [List.mem_singleton.mp hz]; exact Or.inr ⟨(by decide), "java/lang/IllegalStateException", hts _ hp_k8, hX.2⟩)) (by decide) (by decide) (hts _ hp_k9) (hcast _) hce hcv hcl ?_
      refine lv_astore (i := 4) (lv' := [(4, .ref q), (0, .ref (ad 0)), (1, .int (Int32.ofInt a1)), (2, .int (Int32.ofInt a2)), (3, .ref ao)]) hx hb dhrow_17 hl (by decide) rfl (fun ls2 hl2 => ?_)
      refine lv_iconst (v := 2) hx hb dhrow_19 (by decide) ?_
      exact W.iret (v := 2) hx hb hr (fun t ht hW => ⟨2, o, h', rfl, W1, by rw [ht]; exact hP1, by rw [ht]; exact hO1, hS1.F ht⟩) hS1.2.2 dhrow_20 hlk
theorem hp_object {a1 a2 a3 : Int} (hst : l.stackTraces = false) (hi : ∀ i j, i < cw_K → j < cw_K → ad i = ad j → i = j) (hao : ¬ ja_A ad cw_K ao) (r1 : ja_r a1) (r2 : ja_r a2) (r3 : ja_r a3) (W0 : ck_W cw_sp cw_fi cw_K cw_pr v0 h) :
    Met l yL_object (Cond.codeWith yL_object cL_object 6 (some .int) [(0, 12, 15, 45), (0, 12, 19, 19)] :: ja_B) hp_R (hp_PC D cA ad ao h o [.ref (ad 0), .int (Int32.ofInt a1), .int (Int32.ofInt a2), .int (Int32.ofInt a3), .ref ao]) (hp_Q D cA ad ao (fun _ _ h' => ck_W cw_sp cw_fi cw_K cw_pr v0 h')) 1 6 (hp_A ad ao) := by
  refine xh_ofW (cc := cL_object) (maxL := 6) (ret := some .int) (hh := [(0, 12, 15, 45), (0, 12, 19, 19)]) (by decide +kernel) rfl ?_
  intro p e s m args below meth c s₁ B hml hv
  obtain ⟨rfl, hP, hO, hK, hN, hT, hsr, hX⟩ := hv
  have hx := B.exec
  have hb := B.bytes
  have hr := B.returns
  have hts0 := atoms_spec (ws := Cond.codeWith yL_object cL_object 6 (some .int) [(0, 12, 15, 45), (0, 12, 19, 19)] :: ja_B) B.pre
  have hts : ∀ w ∈ ja_B, w.before _ s = true := fun w hw => hts0 w (List.mem_cons_of_mem _ hw)
  have hown : s.vm.findClass RL = some m.cls := findClass_of_methodNamed B.named
  have hlk := B.notSynchronized
  have htab : c.exceptionTable.toList = tableOf [(0, 12, 15, 45), (0, 12, 19, 19)] := vx_table (x := yL_object) B (hts0 _ List.mem_cons_self)
  have hl := lv_entry [.ref (ad 0), .int (Int32.ofInt a1), .int (Int32.ofInt a2), .int (Int32.ofInt a3), .ref ao] (n := 6) (Nat.le_of_ble_eq_true rfl)
  rw [lg_entry_eq]
  generalize (lg_sl [.ref (ad 0), .int (Int32.ofInt a1), .int (Int32.ofInt a2), .int (Int32.ofInt a3), .ref ao] ++ List.replicate (6 - (lg_sl [.ref (ad 0), .int (Int32.ofInt a1), .int (Int32.ofInt a2), .int (Int32.ofInt a3), .ref ao]).length) Slot.unset).toArray = ls at hl ⊢
  have hl : lv_has ls 6 [(0, .ref (ad 0)), (1, .int (Int32.ofInt a1)), (2, .int (Int32.ofInt a2)), (3, .int (Int32.ofInt a3)), (4, .ref ao)] := hl
  have g := hl.2.2
  have hM0 := cf_object (l := l) (D := D) (cA := cA) (ad := ad) (v0 := v0) [(2, ((0 : Nat) : Int)), (0, a1), (0, a2), (0, a3)] h ⟨⟨.inr (.inr ⟨rfl, rfl⟩), fun i q => (by cases q)⟩, ⟨.inl ⟨rfl, rfl, r1.1, r1.2, r1, fun i q => (by cases q), fun q => (by cases q)⟩, fun i q => (by cases q)⟩, ⟨.inl ⟨rfl, rfl, r2.1, r2.2, r2, fun i q => (by cases q), fun q => (by cases q)⟩, fun i q => (by cases q)⟩, ⟨.inl ⟨rfl, rfl, r3.1, r3.2, r3, fun i q => (by cases q), fun q => (by cases q)⟩, fun i q => (by cases q)⟩, trivial⟩ W0
  have hM0 : jx_M l D cA ad cw_sp cw_K 180 yX11_object cX11_object 5 (some .int) [(2, ((0 : Nat) : Int)), (0, a1), (0, a2), (0, a3)] h (fun r h' => (ck_rok cf_s13.2.2.1 r ∨ ∃ x, x ∈ ([8, 9] : List Nat) ∧ (x = 7 ∨ x = 8 ∨ x = 9) ∧ r = some (x, 0)) ∧ ck_W cw_sp cw_fi cw_K cw_pr v0 h') := hM0
  have hM := jx_met hst hi (by decide +kernel) (show ja_wd [(2, ((0 : Nat) : Int)), (0, a1), (0, a2), (0, a3)] ≤ 5 from Nat.le_of_ble_eq_true rfl) hM0
  refine lv_aload hx hb dhobject_0 (g (4, .ref ao) (by simp)) ?_
  refine lv_iconst (v := 0) hx hb dhobject_2 (by decide) ?_
  refine lv_aload_n hx hb dhobject_3 rfl (g (0, .ref (ad 0)) (by simp)) ?_
  refine lv_iload_n hx hb dhobject_4 rfl (g (1, .int (Int32.ofInt a1)) (by simp)) ?_
  refine lv_iload_n hx hb dhobject_5 rfl (g (2, .int (Int32.ofInt a2)) (by simp)) ?_
  refine lv_iload_n hx hb dhobject_6 rfl (g (3, .int (Int32.ofInt a3)) (by simp)) ?_
  refine hp_call (o := o) (Z := MQ below (hp_Q D cA ad ao (fun _ _ h' => ck_W cw_sp cw_fi cw_K cw_pr v0 h')) _ s 1 6 (hp_A ad ao)) (n := 3) (vals := [(0, a1), (0, a2), (0, a3)]) (rest := [.int 0, .ref ao]) hx hb hml hown hts hN hT hsr hK hP hO hao (ja_m (ck_tb_in (p := 6815) (by decide +kernel)) rfl) (ja_m (ck_tb_in (p := 6816) (by decide +kernel)) rfl) (ja_m (ck_tb_in (p := 6817) (by decide +kernel)) rfl) (ja_m (ck_tb_in (p := 4865) (by decide +kernel)) rfl) (ja_m (ck_tb_in (p := 6818) (by decide +kernel)) rfl) (by decide +kernel) rfl rfl (by decide) hl.1 (Nat.le_of_ble_eq_true rfl) dhobject_7 hM (fun r h' H1 locs1 hq hP1 hO1 hS1 => ?_) (fun r h' H1 locs1 q ce hr9 hq hP1 hO1 hS1 hce hcv hcl => ?_)
  · obtain ⟨hq1, hq2, W1⟩ := hq
    obtain ⟨x, rfl⟩ : ∃ x, r = some (0, x) := by
      rcases hq2 with hq2 | ⟨x, -, hx9, rfl⟩
      · cases r with
        | none => exact hq2.elim
        | some v =>
          obtain ⟨y, rfl, -⟩ := ck_int hq2.1 rfl
          exact ⟨y, rfl⟩
      · have h2 : x < 2 := hq1 _ rfl
        omega
    show W p l e hp_R s m _ below meth c H1 locs1 1 6 _ (F0 m 10 ls [.int (Int32.ofInt x), .int 0, .ref ao])
    refine lv_i2l (v := Int64.ofInt ((Int32.ofInt x).toInt64).toInt) hx hb dhobject_10 (Int64.ofInt_toInt _).symm ?_
    refine hp_store (y := ((Int32.ofInt x).toInt64).toInt) hx hb hK hi hao hP1 hO1 hS1 dhobject_11 (fun H2 locs2 hP2 hO2 hS2 => ?_)
    refine lv_goto (tgt := 23) hx hb dhobject_12 (by decide) ?_
    refine lv_iconst (v := 0) hx hb dhobject_23 (by decide) ?_
    refine W.iret (v := 0) hx hb hr (fun t ht hW => ⟨0, ((Int32.ofInt x).toInt64).toInt, h', rfl, W1, by rw [ht]; exact hP2, by rw [ht]; exact hO2, hS2.F ht⟩) hS2.2.2 dhobject_24 hlk
  · have htab := htab
    have hcast : ∀ A : Array Value, (Cond.castable (jx_n r) (jx_n r)).before A s = true := fun A => va_Nw.use rfl (hsr.1.2 _ (by rcases hr9 with rfl | rfl | rfl <;> simp [jx_n, jx_Cn]))
    obtain ⟨hx9, W1⟩ : r ∈ ([8, 9] : List Nat) ∧ ck_W cw_sp cw_fi cw_K cw_pr v0 h' := by
      refine ⟨?_, hq.2⟩
      rcases hq.1 with q1 | ⟨x, q1, -, q2⟩
      · obtain ⟨y, q3, -⟩ := ck_int q1.1 rfl
        have : r = 0 := congrArg Prod.fst q3
        omega
      · have : ((r : Nat), (0 : Int)) = (x, 0) := Option.some.inj q2
        have : r = x := congrArg Prod.fst this
        rw [this]; exact q1
    simp only [List.mem_cons, List.not_mem_nil, or_false] at hx9
    rcases hx9 with rfl | rfl
    · refine xc_catch (own := RL) (name := "java/lang/IllegalStateException") (E := "java/lang/IllegalStateException") hown [] ⟨0, 12, 15, 45⟩ [⟨0, 12, 19, 19⟩] (htab.trans rfl) (fun z hz => (by cases hz)) (by decide) (by decide) (hts _ hp_k8) (hcast _) hce hcv hcl ?_
      refine lv_astore (i := 5) (lv' := [(5, .ref q), (0, .ref (ad 0)), (1, .int (Int32.ofInt a1)), (2, .int (Int32.ofInt a2)), (3, .int (Int32.ofInt a3)), (4, .ref ao)]) hx hb dhobject_15 hl (by decide) rfl (fun ls2 hl2 => ?_)
      refine lv_iconst (v := 1) hx hb dhobject_17 (by decide) ?_
      exact W.iret (v := 1) hx hb hr (fun t ht hW => ⟨1, o, h', rfl, W1, by rw [ht]; exact hP1, by rw [ht]; exact hO1, hS1.F ht⟩) hS1.2.2 dhobject_18 hlk
    · refine xc_catch (own := RL) (name := "java/lang/IndexOutOfBoundsException") (E := "java/lang/IndexOutOfBoundsException") hown [⟨0, 12, 15, 45⟩] ⟨0, 12, 19, 19⟩ [] (htab.trans rfl) (fun z hz => (by rw [List.mem_singleton.mp hz]; exact Or.inr ⟨(by decide), "java/lang/IllegalStateException", hts _ hp_k8, hX.2⟩)) (by decide) (by decide) (hts _ hp_k9) (hcast _) hce hcv hcl ?_
      refine lv_astore (i := 5) (lv' := [(5, .ref q), (0, .ref (ad 0)), (1, .int (Int32.ofInt a1)), (2, .int (Int32.ofInt a2)), (3, .int (Int32.ofInt a3)), (4, .ref ao)]) hx hb dhobject_19 hl (by decide) rfl (fun ls2 hl2 => ?_)
      refine lv_iconst (v := 2) hx hb dhobject_21 (by decide) ?_
      exact W.iret (v := 2) hx hb hr (fun t ht hW => ⟨2, o, h', rfl, W1, by rw [ht]; exact hP1, by rw [ht]; exact hO1, hS1.F ht⟩) hS1.2.2 dhobject_22 hlk
theorem hp_held {a1 a2 a3 a4 : Int} (hst : l.stackTraces = false) (hi : ∀ i j, i < cw_K → j < cw_K → ad i = ad j → i = j) (hao : ¬ ja_A ad cw_K ao) (r1 : ja_r a1) (r2 : ja_r a2) (r3 : ja_r a3) (r4 : ja_r a4) (W0 : ck_W cw_sp cw_fi cw_K cw_pr v0 h) :
    Met l yL_held (Cond.codeWith yL_held cL_held 7 (some .int) [(0, 14, 17, 45), (0, 14, 21, 19)] :: ja_B) hp_R (hp_PC D cA ad ao h o [.ref (ad 0), .int (Int32.ofInt a1), .int (Int32.ofInt a2), .int (Int32.ofInt a3), .int (Int32.ofInt a4), .ref ao]) (hp_Q D cA ad ao (fun _ _ h' => ck_W cw_sp cw_fi cw_K cw_pr v0 h')) 1 6 (hp_A ad ao) := by
  refine xh_ofW (cc := cL_held) (maxL := 7) (ret := some .int) (hh := [(0, 14, 17, 45), (0, 14, 21, 19)]) (by decide +kernel) rfl ?_
  intro p e s m args below meth c s₁ B hml hv
  obtain ⟨rfl, hP, hO, hK, hN, hT, hsr, hX⟩ := hv
  have hx := B.exec
  have hb := B.bytes
  have hr := B.returns
  have hts0 := atoms_spec (ws := Cond.codeWith yL_held cL_held 7 (some .int) [(0, 14, 17, 45), (0, 14, 21, 19)] :: ja_B) B.pre
  have hts : ∀ w ∈ ja_B, w.before _ s = true := fun w hw => hts0 w (List.mem_cons_of_mem _ hw)
  have hown : s.vm.findClass RL = some m.cls := findClass_of_methodNamed B.named
  have hlk := B.notSynchronized
  have htab : c.exceptionTable.toList = tableOf [(0, 14, 17, 45), (0, 14, 21, 19)] := vx_table (x := yL_held) B (hts0 _ List.mem_cons_self)
  have hl := lv_entry [.ref (ad 0), .int (Int32.ofInt a1), .int (Int32.ofInt a2), .int (Int32.ofInt a3), .int (Int32.ofInt a4), .ref ao] (n := 7) (Nat.le_of_ble_eq_true rfl)
  rw [lg_entry_eq]
  generalize (lg_sl [.ref (ad 0), .int (Int32.ofInt a1), .int (Int32.ofInt a2), .int (Int32.ofInt a3), .int (Int32.ofInt a4), .ref ao] ++ List.replicate (7 - (lg_sl [.ref (ad 0), .int (Int32.ofInt a1), .int (Int32.ofInt a2), .int (Int32.ofInt a3), .int (Int32.ofInt a4), .ref ao]).length) Slot.unset).toArray = ls at hl ⊢
  have hl : lv_has ls 7 [(0, .ref (ad 0)), (1, .int (Int32.ofInt a1)), (2, .int (Int32.ofInt a2)), (3, .int (Int32.ofInt a3)), (4, .int (Int32.ofInt a4)), (5, .ref ao)] := hl
  have g := hl.2.2
  have hM0 := cf_held (l := l) (D := D) (cA := cA) (ad := ad) (v0 := v0) [(2, ((0 : Nat) : Int)), (0, a1), (0, a2), (0, a3), (0, a4)] h ⟨⟨.inr (.inr ⟨rfl, rfl⟩), fun i q => (by cases q)⟩, ⟨.inl ⟨rfl, rfl, r1.1, r1.2, r1, fun i q => (by cases q), fun q => (by cases q)⟩, fun i q => (by cases q)⟩, ⟨.inl ⟨rfl, rfl, r2.1, r2.2, r2, fun i q => (by cases q), fun q => (by cases q)⟩, fun i q => (by cases q)⟩, ⟨.inl ⟨rfl, rfl, r3.1, r3.2, r3, fun i q => (by cases q), fun q => (by cases q)⟩, fun i q => (by cases q)⟩, ⟨.inl ⟨rfl, rfl, r4.1, r4.2, r4, fun i q => (by cases q), fun q => (by cases q)⟩, fun i q => (by cases q)⟩, trivial⟩ W0
  have hM0 : jx_M l D cA ad cw_sp cw_K 180 yX11_held cX11_held 6 (some .int) [(2, ((0 : Nat) : Int)), (0, a1), (0, a2), (0, a3), (0, a4)] h (fun r h' => (ck_rok cf_s14.2.2.1 r ∨ ∃ x, x ∈ ([8, 9] : List Nat) ∧ (x = 7 ∨ x = 8 ∨ x = 9) ∧ r = some (x, 0)) ∧ ck_W cw_sp cw_fi cw_K cw_pr v0 h') := hM0
  have hM := jx_met hst hi (by decide +kernel) (show ja_wd [(2, ((0 : Nat) : Int)), (0, a1), (0, a2), (0, a3), (0, a4)] ≤ 6 from Nat.le_of_ble_eq_true rfl) hM0
  refine lv_aload hx hb dhheld_0 (g (5, .ref ao) (by simp)) ?_
  refine lv_iconst (v := 0) hx hb dhheld_2 (by decide) ?_
  refine lv_aload_n hx hb dhheld_3 rfl (g (0, .ref (ad 0)) (by simp)) ?_
  refine lv_iload_n hx hb dhheld_4 rfl (g (1, .int (Int32.ofInt a1)) (by simp)) ?_
  refine lv_iload_n hx hb dhheld_5 rfl (g (2, .int (Int32.ofInt a2)) (by simp)) ?_
  refine lv_iload_n hx hb dhheld_6 rfl (g (3, .int (Int32.ofInt a3)) (by simp)) ?_
  refine lv_iload hx hb dhheld_7 (g (4, .int (Int32.ofInt a4)) (by simp)) ?_
  refine hp_call (o := o) (Z := MQ below (hp_Q D cA ad ao (fun _ _ h' => ck_W cw_sp cw_fi cw_K cw_pr v0 h')) _ s 1 6 (hp_A ad ao)) (n := 4) (vals := [(0, a1), (0, a2), (0, a3), (0, a4)]) (rest := [.int 0, .ref ao]) hx hb hml hown hts hN hT hsr hK hP hO hao (ja_m (ck_tb_in (p := 6827) (by decide +kernel)) rfl) (ja_m (ck_tb_in (p := 6828) (by decide +kernel)) rfl) (ja_m (ck_tb_in (p := 6829) (by decide +kernel)) rfl) (ja_m (ck_tb_in (p := 4865) (by decide +kernel)) rfl) (ja_m (ck_tb_in (p := 6830) (by decide +kernel)) rfl) (by decide +kernel) rfl rfl (by decide) hl.1 (Nat.le_of_ble_eq_true rfl) dhheld_9 hM (fun r h' H1 locs1 hq hP1 hO1 hS1 => ?_) (fun r h' H1 locs1 q ce hr9 hq hP1 hO1 hS1 hce hcv hcl => ?_)
  · obtain ⟨hq1, hq2, W1⟩ := hq
    obtain ⟨x, rfl⟩ : ∃ x, r = some (0, x) := by
      rcases hq2 with hq2 | ⟨x, -, hx9, rfl⟩
      · cases r with
        | none => exact hq2.elim
        | some v =>
          obtain ⟨y, rfl, -⟩ := ck_int hq2.1 rfl
          exact ⟨y, rfl⟩
      · have h2 : x < 2 := hq1 _ rfl
        omega
    show W p l e hp_R s m _ below meth c H1 locs1 1 6 _ (F0 m 12 ls [.int (Int32.ofInt x), .int 0, .ref ao])
    refine lv_i2l (v := Int64.ofInt ((Int32.ofInt x).toInt64).toInt) hx hb dhheld_12 (Int64.ofInt_toInt _).symm ?_
    refine hp_store (y := ((Int32.ofInt x).toInt64).toInt) hx hb hK hi hao hP1 hO1 hS1 dhheld_13 (fun H2 locs2 hP2 hO2 hS2 => ?_)
    refine lv_goto (tgt := 25) hx hb dhheld_14 (by decide) ?_
    refine lv_iconst (v := 0) hx hb dhheld_25 (by decide) ?_
    refine W.iret (v := 0) hx hb hr (fun t ht hW => ⟨0, ((Int32.ofInt x).toInt64).toInt, h', rfl, W1, by rw [ht]; exact hP2, by rw [ht]; exact hO2, hS2.F ht⟩) hS2.2.2 dhheld_26 hlk
  · have htab := htab
    have hcast : ∀ A : Array Value, (Cond.castable (jx_n r) (jx_n r)).before A s = true := fun A => va_Nw.use rfl (hsr.1.2 _ (by rcases hr9 with rfl | rfl | rfl <;> simp [jx_n, jx_Cn]))
    obtain ⟨hx9, W1⟩ : r ∈ ([8, 9] : List Nat) ∧ ck_W cw_sp cw_fi cw_K cw_pr v0 h' := by
      refine ⟨?_, hq.2⟩
      rcases hq.1 with q1 | ⟨x, q1, -, q2⟩
      · obtain ⟨y, q3, -⟩ := ck_int q1.1 rfl
        have : r = 0 := congrArg Prod.fst q3
        omega
      · have : ((r : Nat), (0 : Int)) = (x, 0) := Option.some.inj q2
        have : r = x := congrArg Prod.fst this
        rw [this]; exact q1
    simp only [List.mem_cons, List.not_mem_nil, or_false] at hx9
    rcases hx9 with rfl | rfl
    · refine xc_catch (own := RL) (name := "java/lang/IllegalStateException") (E := "java/lang/IllegalStateException") hown [] ⟨0, 14, 17, 45⟩ [⟨0, 14, 21, 19⟩] (htab.trans rfl) (fun z hz => (by cases hz)) (by decide) (by decide) (hts _ hp_k8) (hcast _) hce hcv hcl ?_
      refine lv_astore (i := 6) (lv' := [(6, .ref q), (0, .ref (ad 0)), (1, .int (Int32.ofInt a1)), (2, .int (Int32.ofInt a2)), (3, .int (Int32.ofInt a3)), (4, .int (Int32.ofInt a4)), (5, .ref ao)]) hx hb dhheld_17 hl (by decide) rfl (fun ls2 hl2 => ?_)
      refine lv_iconst (v := 1) hx hb dhheld_19 (by decide) ?_
      exact W.iret (v := 1) hx hb hr (fun t ht hW => ⟨1, o, h', rfl, W1, by rw [ht]; exact hP1, by rw [ht]; exact hO1, hS1.F ht⟩) hS1.2.2 dhheld_20 hlk
    · refine xc_catch (own := RL) (name := "java/lang/IndexOutOfBoundsException") (E := "java/lang/IndexOutOfBoundsException") hown [⟨0, 14, 17, 45⟩] ⟨0, 14, 21, 19⟩ [] (htab.trans rfl) (fun z hz => (by rw [List.mem_singleton.mp hz]; exact Or.inr ⟨(by decide), "java/lang/IllegalStateException", hts _ hp_k8, hX.2⟩)) (by decide) (by decide) (hts _ hp_k9) (hcast _) hce hcv hcl ?_
      refine lv_astore (i := 6) (lv' := [(6, .ref q), (0, .ref (ad 0)), (1, .int (Int32.ofInt a1)), (2, .int (Int32.ofInt a2)), (3, .int (Int32.ofInt a3)), (4, .int (Int32.ofInt a4)), (5, .ref ao)]) hx hb dhheld_21 hl (by decide) rfl (fun ls2 hl2 => ?_)
      refine lv_iconst (v := 2) hx hb dhheld_23 (by decide) ?_
      exact W.iret (v := 2) hx hb hr (fun t ht hW => ⟨2, o, h', rfl, W1, by rw [ht]; exact hP1, by rw [ht]; exact hO1, hS1.F ht⟩) hS1.2.2 dhheld_24 hlk
end HP
