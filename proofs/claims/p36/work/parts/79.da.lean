theorem dL_draw_0 : decode cL_draw 0 = .ok (.iload_n 1, 1) := by decide +kernel
theorem dL_draw_1 : decode cL_draw 1 = .ok (.aload_n 0, 1) := by decide +kernel
theorem dL_draw_2 : decode cL_draw 2 = .ok (.arraylength, 1) := by decide +kernel
theorem dL_draw_3 : decode cL_draw 3 = .ok (.if_icmp .ge 9, 3) := by decide +kernel
theorem dL_draw_6 : decode cL_draw 6 = .ok (.aload_n 0, 1) := by decide +kernel
theorem dL_draw_7 : decode cL_draw 7 = .ok (.iload_n 1, 1) := by decide +kernel
theorem dL_draw_8 : decode cL_draw 8 = .ok (.iaload, 1) := by decide +kernel
theorem dL_draw_9 : decode cL_draw 9 = .ok (.goto 11, 3) := by decide +kernel
theorem dL_draw_12 : decode cL_draw 12 = .ok (.ldc 7, 2) := by decide +kernel
theorem dL_draw_14 : decode cL_draw 14 = .ok (.iload_n 1, 1) := by decide +kernel
theorem dL_draw_15 : decode cL_draw 15 = .ok (.imul, 1) := by decide +kernel
theorem dL_draw_16 : decode cL_draw 16 = .ok (.sipush 11789, 3) := by decide +kernel
theorem dL_draw_19 : decode cL_draw 19 = .ok (.iadd, 1) := by decide +kernel
theorem dL_draw_20 : decode cL_draw 20 = .ok (.ldc 8, 2) := by decide +kernel
theorem dL_draw_22 : decode cL_draw 22 = .ok (.iand, 1) := by decide +kernel
theorem dL_draw_23 : decode cL_draw 23 = .ok (.ireturn, 1) := by decide +kernel
theorem dL_thing_0 : decode cL_thing 0 = .ok (.aload_n 0, 1) := by decide +kernel
theorem dL_thing_1 : decode cL_thing 1 = .ok (.iload_n 1, 1) := by decide +kernel
theorem dL_thing_2 : decode cL_thing 2 = .ok (.iload_n 2, 1) := by decide +kernel
theorem dL_thing_3 : decode cL_thing 3 = .ok (.iload_n 3, 1) := by decide +kernel
theorem dL_thing_4 : decode cL_thing 4 = .ok (.invokevirtual 9, 3) := by decide +kernel
theorem dL_thing_7 : decode cL_thing 7 = .ok (.i2l, 1) := by decide +kernel
theorem dL_thing_8 : decode cL_thing 8 = .ok (.lreturn, 1) := by decide +kernel
theorem dL_thing_9 : decode cL_thing 9 = .ok (.astore 4, 2) := by decide +kernel
theorem dL_thing_11 : decode cL_thing 11 = .ok (.ldc2_w 17, 3) := by decide +kernel
theorem dL_thing_14 : decode cL_thing 14 = .ok (.lreturn, 1) := by decide +kernel
theorem dL_thing_15 : decode cL_thing 15 = .ok (.astore 4, 2) := by decide +kernel
theorem dL_thing_17 : decode cL_thing 17 = .ok (.ldc2_w 21, 3) := by decide +kernel
theorem dL_thing_20 : decode cL_thing 20 = .ok (.lreturn, 1) := by decide +kernel
theorem dL_thing_21 : decode cL_thing 21 = .ok (.astore 4, 2) := by decide +kernel
theorem dL_thing_23 : decode cL_thing 23 = .ok (.ldc2_w 25, 3) := by decide +kernel
theorem dL_thing_26 : decode cL_thing 26 = .ok (.lreturn, 1) := by decide +kernel
theorem dL_fashion_0 : decode cL_fashion 0 = .ok (.aload_n 0, 1) := by decide +kernel
theorem dL_fashion_1 : decode cL_fashion 1 = .ok (.iload_n 1, 1) := by decide +kernel
theorem dL_fashion_2 : decode cL_fashion 2 = .ok (.iload_n 2, 1) := by decide +kernel
theorem dL_fashion_3 : decode cL_fashion 3 = .ok (.invokevirtual 27, 3) := by decide +kernel
theorem dL_fashion_6 : decode cL_fashion 6 = .ok (.i2l, 1) := by decide +kernel
theorem dL_fashion_7 : decode cL_fashion 7 = .ok (.lreturn, 1) := by decide +kernel
theorem dL_fashion_8 : decode cL_fashion 8 = .ok (.astore_n 3, 1) := by decide +kernel
theorem dL_fashion_9 : decode cL_fashion 9 = .ok (.ldc2_w 17, 3) := by decide +kernel
theorem dL_fashion_12 : decode cL_fashion 12 = .ok (.lreturn, 1) := by decide +kernel
theorem dL_fashion_13 : decode cL_fashion 13 = .ok (.astore_n 3, 1) := by decide +kernel
theorem dL_fashion_14 : decode cL_fashion 14 = .ok (.ldc2_w 21, 3) := by decide +kernel
theorem dL_fashion_17 : decode cL_fashion 17 = .ok (.lreturn, 1) := by decide +kernel
theorem dL_bias_0 : decode cL_bias 0 = .ok (.aload_n 0, 1) := by decide +kernel
theorem dL_bias_1 : decode cL_bias 1 = .ok (.iload_n 1, 1) := by decide +kernel
theorem dL_bias_2 : decode cL_bias 2 = .ok (.iload_n 2, 1) := by decide +kernel
theorem dL_bias_3 : decode cL_bias 3 = .ok (.invokevirtual 31, 3) := by decide +kernel
theorem dL_bias_6 : decode cL_bias 6 = .ok (.i2l, 1) := by decide +kernel
theorem dL_bias_7 : decode cL_bias 7 = .ok (.lreturn, 1) := by decide +kernel
theorem dL_bias_8 : decode cL_bias 8 = .ok (.astore_n 3, 1) := by decide +kernel
theorem dL_bias_9 : decode cL_bias 9 = .ok (.ldc2_w 17, 3) := by decide +kernel
theorem dL_bias_12 : decode cL_bias 12 = .ok (.lreturn, 1) := by decide +kernel
theorem dL_bias_13 : decode cL_bias 13 = .ok (.astore_n 3, 1) := by decide +kernel
theorem dL_bias_14 : decode cL_bias 14 = .ok (.ldc2_w 21, 3) := by decide +kernel
theorem dL_bias_17 : decode cL_bias 17 = .ok (.lreturn, 1) := by decide +kernel
theorem dL_classOf_0 : decode cL_classOf 0 = .ok (.aload_n 0, 1) := by decide +kernel
theorem dL_classOf_1 : decode cL_classOf 1 = .ok (.iload_n 1, 1) := by decide +kernel
theorem dL_classOf_2 : decode cL_classOf 2 = .ok (.iload_n 2, 1) := by decide +kernel
theorem dL_classOf_3 : decode cL_classOf 3 = .ok (.invokevirtual 34, 3) := by decide +kernel
theorem dL_classOf_6 : decode cL_classOf 6 = .ok (.i2l, 1) := by decide +kernel
theorem dL_classOf_7 : decode cL_classOf 7 = .ok (.lreturn, 1) := by decide +kernel
theorem dL_classOf_8 : decode cL_classOf 8 = .ok (.astore_n 3, 1) := by decide +kernel
theorem dL_classOf_9 : decode cL_classOf 9 = .ok (.ldc2_w 17, 3) := by decide +kernel
theorem dL_classOf_12 : decode cL_classOf 12 = .ok (.lreturn, 1) := by decide +kernel
theorem dL_charter_0 : decode cL_charter 0 = .ok (.aload_n 0, 1) := by decide +kernel
theorem dL_charter_1 : decode cL_charter 1 = .ok (.iload_n 1, 1) := by decide +kernel
theorem dL_charter_2 : decode cL_charter 2 = .ok (.iload_n 2, 1) := by decide +kernel
theorem dL_charter_3 : decode cL_charter 3 = .ok (.iload_n 3, 1) := by decide +kernel
theorem dL_charter_4 : decode cL_charter 4 = .ok (.invokevirtual 37, 3) := by decide +kernel
theorem dL_charter_7 : decode cL_charter 7 = .ok (.lconst 0, 1) := by decide +kernel
theorem dL_charter_8 : decode cL_charter 8 = .ok (.lreturn, 1) := by decide +kernel
theorem dL_charter_9 : decode cL_charter 9 = .ok (.astore 4, 2) := by decide +kernel
theorem dL_charter_11 : decode cL_charter 11 = .ok (.ldc2_w 17, 3) := by decide +kernel
theorem dL_charter_14 : decode cL_charter 14 = .ok (.lreturn, 1) := by decide +kernel
theorem dL_charter_15 : decode cL_charter 15 = .ok (.astore 4, 2) := by decide +kernel
theorem dL_charter_17 : decode cL_charter 17 = .ok (.ldc2_w 21, 3) := by decide +kernel
theorem dL_charter_20 : decode cL_charter 20 = .ok (.lreturn, 1) := by decide +kernel
theorem dL_rate_0 : decode cL_rate 0 = .ok (.aload_n 0, 1) := by decide +kernel
theorem dL_rate_1 : decode cL_rate 1 = .ok (.iload_n 1, 1) := by decide +kernel
theorem dL_rate_2 : decode cL_rate 2 = .ok (.iload_n 2, 1) := by decide +kernel
theorem dL_rate_3 : decode cL_rate 3 = .ok (.invokevirtual 41, 3) := by decide +kernel
theorem dL_rate_6 : decode cL_rate 6 = .ok (.i2l, 1) := by decide +kernel
theorem dL_rate_7 : decode cL_rate 7 = .ok (.lreturn, 1) := by decide +kernel
theorem dL_rate_8 : decode cL_rate 8 = .ok (.astore_n 3, 1) := by decide +kernel
theorem dL_rate_9 : decode cL_rate 9 = .ok (.ldc2_w 17, 3) := by decide +kernel
theorem dL_rate_12 : decode cL_rate 12 = .ok (.lreturn, 1) := by decide +kernel
theorem dL_rate_13 : decode cL_rate 13 = .ok (.astore_n 3, 1) := by decide +kernel
theorem dL_rate_14 : decode cL_rate 14 = .ok (.ldc2_w 21, 3) := by decide +kernel
theorem dL_rate_17 : decode cL_rate 17 = .ok (.lreturn, 1) := by decide +kernel
theorem dL_rate_18 : decode cL_rate 18 = .ok (.astore_n 3, 1) := by decide +kernel
theorem dL_rate_19 : decode cL_rate 19 = .ok (.ldc2_w 25, 3) := by decide +kernel
theorem dL_rate_22 : decode cL_rate 22 = .ok (.lreturn, 1) := by decide +kernel
theorem dL_term_0 : decode cL_term 0 = .ok (.aload_n 0, 1) := by decide +kernel
theorem dL_term_1 : decode cL_term 1 = .ok (.iload_n 1, 1) := by decide +kernel
theorem dL_term_2 : decode cL_term 2 = .ok (.invokevirtual 44, 3) := by decide +kernel
theorem dL_term_5 : decode cL_term 5 = .ok (.i2l, 1) := by decide +kernel
theorem dL_term_6 : decode cL_term 6 = .ok (.lreturn, 1) := by decide +kernel
theorem dL_term_7 : decode cL_term 7 = .ok (.astore_n 2, 1) := by decide +kernel
theorem dL_term_8 : decode cL_term 8 = .ok (.ldc2_w 21, 3) := by decide +kernel
theorem dL_term_11 : decode cL_term 11 = .ok (.lreturn, 1) := by decide +kernel
theorem dL_amnesty_0 : decode cL_amnesty 0 = .ok (.aload_n 0, 1) := by decide +kernel
theorem dL_amnesty_1 : decode cL_amnesty 1 = .ok (.iload_n 1, 1) := by decide +kernel
theorem dL_amnesty_2 : decode cL_amnesty 2 = .ok (.iload_n 2, 1) := by decide +kernel
theorem dL_amnesty_3 : decode cL_amnesty 3 = .ok (.invokevirtual 48, 3) := by decide +kernel
theorem dL_amnesty_6 : decode cL_amnesty 6 = .ok (.i2l, 1) := by decide +kernel
theorem dL_amnesty_7 : decode cL_amnesty 7 = .ok (.lreturn, 1) := by decide +kernel
theorem dL_amnesty_8 : decode cL_amnesty 8 = .ok (.astore_n 3, 1) := by decide +kernel
theorem dL_amnesty_9 : decode cL_amnesty 9 = .ok (.ldc2_w 21, 3) := by decide +kernel
theorem dL_amnesty_12 : decode cL_amnesty 12 = .ok (.lreturn, 1) := by decide +kernel
theorem dL_amnesty_13 : decode cL_amnesty 13 = .ok (.astore_n 3, 1) := by decide +kernel
theorem dL_amnesty_14 : decode cL_amnesty 14 = .ok (.ldc2_w 25, 3) := by decide +kernel
theorem dL_amnesty_17 : decode cL_amnesty 17 = .ok (.lreturn, 1) := by decide +kernel
theorem dL_pledge_0 : decode cL_pledge 0 = .ok (.aload_n 0, 1) := by decide +kernel
theorem dL_pledge_1 : decode cL_pledge 1 = .ok (.iload_n 1, 1) := by decide +kernel
theorem dL_pledge_2 : decode cL_pledge 2 = .ok (.iload_n 2, 1) := by decide +kernel
theorem dL_pledge_3 : decode cL_pledge 3 = .ok (.iload_n 3, 1) := by decide +kernel
theorem dL_pledge_4 : decode cL_pledge 4 = .ok (.iload 4, 2) := by decide +kernel
theorem dL_pledge_6 : decode cL_pledge 6 = .ok (.iload 5, 2) := by decide +kernel
theorem dL_pledge_8 : decode cL_pledge 8 = .ok (.iload 6, 2) := by decide +kernel
theorem dL_pledge_10 : decode cL_pledge 10 = .ok (.invokevirtual 51, 3) := by decide +kernel
theorem dL_pledge_13 : decode cL_pledge 13 = .ok (.i2l, 1) := by decide +kernel
theorem dL_pledge_14 : decode cL_pledge 14 = .ok (.lreturn, 1) := by decide +kernel
theorem dL_pledge_15 : decode cL_pledge 15 = .ok (.astore 7, 2) := by decide +kernel
theorem dL_pledge_17 : decode cL_pledge 17 = .ok (.ldc2_w 17, 3) := by decide +kernel
theorem dL_pledge_20 : decode cL_pledge 20 = .ok (.lreturn, 1) := by decide +kernel
theorem dL_pledge_21 : decode cL_pledge 21 = .ok (.astore 7, 2) := by decide +kernel
theorem dL_pledge_23 : decode cL_pledge 23 = .ok (.ldc2_w 21, 3) := by decide +kernel
theorem dL_pledge_26 : decode cL_pledge 26 = .ok (.lreturn, 1) := by decide +kernel
theorem dL_pledge_27 : decode cL_pledge 27 = .ok (.astore 7, 2) := by decide +kernel
theorem dL_pledge_29 : decode cL_pledge 29 = .ok (.ldc2_w 25, 3) := by decide +kernel
theorem dL_pledge_32 : decode cL_pledge 32 = .ok (.lreturn, 1) := by decide +kernel
theorem dL_redeem_0 : decode cL_redeem 0 = .ok (.aload_n 0, 1) := by decide +kernel
theorem dL_redeem_1 : decode cL_redeem 1 = .ok (.iload_n 1, 1) := by decide +kernel
theorem dL_redeem_2 : decode cL_redeem 2 = .ok (.iload_n 2, 1) := by decide +kernel
theorem dL_redeem_3 : decode cL_redeem 3 = .ok (.invokevirtual 55, 3) := by decide +kernel
theorem dL_redeem_6 : decode cL_redeem 6 = .ok (.i2l, 1) := by decide +kernel
theorem dL_redeem_7 : decode cL_redeem 7 = .ok (.lreturn, 1) := by decide +kernel
theorem dL_redeem_8 : decode cL_redeem 8 = .ok (.astore_n 3, 1) := by decide +kernel
theorem dL_redeem_9 : decode cL_redeem 9 = .ok (.ldc2_w 17, 3) := by decide +kernel
theorem dL_redeem_12 : decode cL_redeem 12 = .ok (.lreturn, 1) := by decide +kernel
theorem dL_redeem_13 : decode cL_redeem 13 = .ok (.astore_n 3, 1) := by decide +kernel
theorem dL_redeem_14 : decode cL_redeem 14 = .ok (.ldc2_w 25, 3) := by decide +kernel
theorem dL_redeem_17 : decode cL_redeem 17 = .ok (.lreturn, 1) := by decide +kernel
theorem dL_renew_0 : decode cL_renew 0 = .ok (.aload_n 0, 1) := by decide +kernel
theorem dL_renew_1 : decode cL_renew 1 = .ok (.iload_n 1, 1) := by decide +kernel
theorem dL_renew_2 : decode cL_renew 2 = .ok (.iload_n 2, 1) := by decide +kernel
theorem dL_renew_3 : decode cL_renew 3 = .ok (.iload_n 3, 1) := by decide +kernel
theorem dL_renew_4 : decode cL_renew 4 = .ok (.invokevirtual 58, 3) := by decide +kernel
theorem dL_renew_7 : decode cL_renew 7 = .ok (.i2l, 1) := by decide +kernel
theorem dL_renew_8 : decode cL_renew 8 = .ok (.lreturn, 1) := by decide +kernel
theorem dL_renew_9 : decode cL_renew 9 = .ok (.astore 4, 2) := by decide +kernel
theorem dL_renew_11 : decode cL_renew 11 = .ok (.ldc2_w 17, 3) := by decide +kernel
theorem dL_renew_14 : decode cL_renew 14 = .ok (.lreturn, 1) := by decide +kernel
theorem dL_renew_15 : decode cL_renew 15 = .ok (.astore 4, 2) := by decide +kernel
theorem dL_renew_17 : decode cL_renew 17 = .ok (.ldc2_w 21, 3) := by decide +kernel
theorem dL_renew_20 : decode cL_renew 20 = .ok (.lreturn, 1) := by decide +kernel
theorem dL_renew_21 : decode cL_renew 21 = .ok (.astore 4, 2) := by decide +kernel
theorem dL_renew_23 : decode cL_renew 23 = .ok (.ldc2_w 25, 3) := by decide +kernel
theorem dL_renew_26 : decode cL_renew 26 = .ok (.lreturn, 1) := by decide +kernel
theorem dL_give_0 : decode cL_give 0 = .ok (.aload_n 0, 1) := by decide +kernel
theorem dL_give_1 : decode cL_give 1 = .ok (.iload_n 1, 1) := by decide +kernel
theorem dL_give_2 : decode cL_give 2 = .ok (.iload_n 2, 1) := by decide +kernel
theorem dL_give_3 : decode cL_give 3 = .ok (.invokevirtual 61, 3) := by decide +kernel
theorem dL_give_6 : decode cL_give 6 = .ok (.i2l, 1) := by decide +kernel
theorem dL_give_7 : decode cL_give 7 = .ok (.lreturn, 1) := by decide +kernel
theorem dL_give_8 : decode cL_give 8 = .ok (.astore_n 3, 1) := by decide +kernel
theorem dL_give_9 : decode cL_give 9 = .ok (.ldc2_w 17, 3) := by decide +kernel
theorem dL_give_12 : decode cL_give 12 = .ok (.lreturn, 1) := by decide +kernel
theorem dL_give_13 : decode cL_give 13 = .ok (.astore_n 3, 1) := by decide +kernel
theorem dL_give_14 : decode cL_give 14 = .ok (.ldc2_w 25, 3) := by decide +kernel
theorem dL_give_17 : decode cL_give 17 = .ok (.lreturn, 1) := by decide +kernel
theorem dL_notice_0 : decode cL_notice 0 = .ok (.aload_n 0, 1) := by decide +kernel
theorem dL_notice_1 : decode cL_notice 1 = .ok (.iload_n 1, 1) := by decide +kernel
theorem dL_notice_2 : decode cL_notice 2 = .ok (.iload_n 2, 1) := by decide +kernel
theorem dL_notice_3 : decode cL_notice 3 = .ok (.invokevirtual 64, 3) := by decide +kernel
theorem dL_notice_6 : decode cL_notice 6 = .ok (.lconst 0, 1) := by decide +kernel
theorem dL_notice_7 : decode cL_notice 7 = .ok (.lreturn, 1) := by decide +kernel
theorem dL_notice_8 : decode cL_notice 8 = .ok (.astore_n 3, 1) := by decide +kernel
theorem dL_notice_9 : decode cL_notice 9 = .ok (.ldc2_w 17, 3) := by decide +kernel
theorem dL_notice_12 : decode cL_notice 12 = .ok (.lreturn, 1) := by decide +kernel
theorem dL_notice_13 : decode cL_notice 13 = .ok (.astore_n 3, 1) := by decide +kernel
theorem dL_notice_14 : decode cL_notice 14 = .ok (.ldc2_w 25, 3) := by decide +kernel
theorem dL_notice_17 : decode cL_notice 17 = .ok (.lreturn, 1) := by decide +kernel
theorem dL_show_0 : decode cL_show 0 = .ok (.aload_n 0, 1) := by decide +kernel
theorem dL_show_1 : decode cL_show 1 = .ok (.iload_n 1, 1) := by decide +kernel
theorem dL_show_2 : decode cL_show 2 = .ok (.invokevirtual 68, 3) := by decide +kernel
theorem dL_show_5 : decode cL_show 5 = .ok (.i2l, 1) := by decide +kernel
theorem dL_show_6 : decode cL_show 6 = .ok (.lreturn, 1) := by decide +kernel
theorem dL_show_7 : decode cL_show 7 = .ok (.astore_n 2, 1) := by decide +kernel
theorem dL_show_8 : decode cL_show 8 = .ok (.ldc2_w 17, 3) := by decide +kernel
theorem dL_show_11 : decode cL_show 11 = .ok (.lreturn, 1) := by decide +kernel
theorem dL_show_12 : decode cL_show 12 = .ok (.astore_n 2, 1) := by decide +kernel
theorem dL_show_13 : decode cL_show 13 = .ok (.ldc2_w 25, 3) := by decide +kernel
theorem dL_show_16 : decode cL_show 16 = .ok (.lreturn, 1) := by decide +kernel
theorem dL_police_0 : decode cL_police 0 = .ok (.aload_n 0, 1) := by decide +kernel
theorem dL_police_1 : decode cL_police 1 = .ok (.iload_n 1, 1) := by decide +kernel
theorem dL_police_2 : decode cL_police 2 = .ok (.invokevirtual 71, 3) := by decide +kernel
theorem dL_police_5 : decode cL_police 5 = .ok (.i2l, 1) := by decide +kernel
theorem dL_police_6 : decode cL_police 6 = .ok (.lreturn, 1) := by decide +kernel
theorem dL_police_7 : decode cL_police 7 = .ok (.astore_n 2, 1) := by decide +kernel
theorem dL_police_8 : decode cL_police 8 = .ok (.ldc2_w 17, 3) := by decide +kernel
theorem dL_police_11 : decode cL_police 11 = .ok (.lreturn, 1) := by decide +kernel
theorem dL_police_12 : decode cL_police 12 = .ok (.astore_n 2, 1) := by decide +kernel
theorem dL_police_13 : decode cL_police 13 = .ok (.ldc2_w 25, 3) := by decide +kernel
theorem dL_police_16 : decode cL_police 16 = .ok (.lreturn, 1) := by decide +kernel
theorem dL_court_0 : decode cL_court 0 = .ok (.aload_n 0, 1) := by decide +kernel
theorem dL_court_1 : decode cL_court 1 = .ok (.iload_n 1, 1) := by decide +kernel
theorem dL_court_2 : decode cL_court 2 = .ok (.iload_n 2, 1) := by decide +kernel
theorem dL_court_3 : decode cL_court 3 = .ok (.invokevirtual 74, 3) := by decide +kernel
theorem dL_court_6 : decode cL_court 6 = .ok (.i2l, 1) := by decide +kernel
theorem dL_court_7 : decode cL_court 7 = .ok (.lreturn, 1) := by decide +kernel
theorem dL_court_8 : decode cL_court 8 = .ok (.astore_n 3, 1) := by decide +kernel
theorem dL_court_9 : decode cL_court 9 = .ok (.ldc2_w 17, 3) := by decide +kernel
theorem dL_court_12 : decode cL_court 12 = .ok (.lreturn, 1) := by decide +kernel
theorem dL_court_13 : decode cL_court 13 = .ok (.astore_n 3, 1) := by decide +kernel
theorem dL_court_14 : decode cL_court 14 = .ok (.ldc2_w 25, 3) := by decide +kernel
theorem dL_court_17 : decode cL_court 17 = .ok (.lreturn, 1) := by decide +kernel
theorem dL_stray_0 : decode cL_stray 0 = .ok (.aload_n 0, 1) := by decide +kernel
theorem dL_stray_1 : decode cL_stray 1 = .ok (.iload_n 1, 1) := by decide +kernel
theorem dL_stray_2 : decode cL_stray 2 = .ok (.iload_n 2, 1) := by decide +kernel
theorem dL_stray_3 : decode cL_stray 3 = .ok (.iload_n 3, 1) := by decide +kernel
theorem dL_stray_4 : decode cL_stray 4 = .ok (.invokevirtual 78, 3) := by decide +kernel
theorem dL_stray_7 : decode cL_stray 7 = .ok (.lconst 0, 1) := by decide +kernel
theorem dL_stray_8 : decode cL_stray 8 = .ok (.lreturn, 1) := by decide +kernel
theorem dL_stray_9 : decode cL_stray 9 = .ok (.astore 4, 2) := by decide +kernel
theorem dL_stray_11 : decode cL_stray 11 = .ok (.ldc2_w 17, 3) := by decide +kernel
theorem dL_stray_14 : decode cL_stray 14 = .ok (.lreturn, 1) := by decide +kernel
theorem dL_stray_15 : decode cL_stray 15 = .ok (.astore 4, 2) := by decide +kernel
theorem dL_stray_17 : decode cL_stray 17 = .ok (.ldc2_w 25, 3) := by decide +kernel
theorem dL_stray_20 : decode cL_stray 20 = .ok (.lreturn, 1) := by decide +kernel
theorem dL_count_0 : decode cL_count 0 = .ok (.aload_n 0, 1) := by decide +kernel
theorem dL_count_1 : decode cL_count 1 = .ok (.iload_n 1, 1) := by decide +kernel
theorem dL_count_2 : decode cL_count 2 = .ok (.invokevirtual 81, 3) := by decide +kernel
theorem dL_count_5 : decode cL_count 5 = .ok (.i2l, 1) := by decide +kernel
theorem dL_count_6 : decode cL_count 6 = .ok (.lreturn, 1) := by decide +kernel
theorem dL_count_7 : decode cL_count 7 = .ok (.astore_n 2, 1) := by decide +kernel
theorem dL_count_8 : decode cL_count 8 = .ok (.ldc2_w 17, 3) := by decide +kernel
theorem dL_count_11 : decode cL_count 11 = .ok (.lreturn, 1) := by decide +kernel
theorem dL_transfer_0 : decode cL_transfer 0 = .ok (.aload_n 0, 1) := by decide +kernel
theorem dL_transfer_1 : decode cL_transfer 1 = .ok (.iload_n 1, 1) := by decide +kernel
theorem dL_transfer_2 : decode cL_transfer 2 = .ok (.iload_n 2, 1) := by decide +kernel
theorem dL_transfer_3 : decode cL_transfer 3 = .ok (.invokevirtual 84, 3) := by decide +kernel
theorem dL_transfer_6 : decode cL_transfer 6 = .ok (.i2l, 1) := by decide +kernel
theorem dL_transfer_7 : decode cL_transfer 7 = .ok (.lreturn, 1) := by decide +kernel
theorem dL_transfer_8 : decode cL_transfer 8 = .ok (.astore_n 3, 1) := by decide +kernel
theorem dL_transfer_9 : decode cL_transfer 9 = .ok (.ldc2_w 17, 3) := by decide +kernel
theorem dL_transfer_12 : decode cL_transfer 12 = .ok (.lreturn, 1) := by decide +kernel
theorem dL_transfer_13 : decode cL_transfer 13 = .ok (.astore_n 3, 1) := by decide +kernel
theorem dL_transfer_14 : decode cL_transfer 14 = .ok (.ldc2_w 25, 3) := by decide +kernel
theorem dL_transfer_17 : decode cL_transfer 17 = .ok (.lreturn, 1) := by decide +kernel
theorem dL_wind_0 : decode cL_wind 0 = .ok (.aload_n 0, 1) := by decide +kernel
theorem dL_wind_1 : decode cL_wind 1 = .ok (.iload_n 1, 1) := by decide +kernel
theorem dL_wind_2 : decode cL_wind 2 = .ok (.invokevirtual 87, 3) := by decide +kernel
theorem dL_wind_5 : decode cL_wind 5 = .ok (.i2l, 1) := by decide +kernel
theorem dL_wind_6 : decode cL_wind 6 = .ok (.lreturn, 1) := by decide +kernel
theorem dL_wind_7 : decode cL_wind 7 = .ok (.astore_n 2, 1) := by decide +kernel
theorem dL_wind_8 : decode cL_wind 8 = .ok (.ldc2_w 17, 3) := by decide +kernel
theorem dL_wind_11 : decode cL_wind 11 = .ok (.lreturn, 1) := by decide +kernel
theorem dL_pass_0 : decode cL_pass 0 = .ok (.aload_n 0, 1) := by decide +kernel
theorem dL_pass_1 : decode cL_pass 1 = .ok (.iload_n 1, 1) := by decide +kernel
theorem dL_pass_2 : decode cL_pass 2 = .ok (.invokevirtual 90, 3) := by decide +kernel
theorem dL_pass_5 : decode cL_pass 5 = .ok (.i2l, 1) := by decide +kernel
theorem dL_pass_6 : decode cL_pass 6 = .ok (.lreturn, 1) := by decide +kernel
theorem dL_pass_7 : decode cL_pass 7 = .ok (.astore_n 2, 1) := by decide +kernel
theorem dL_pass_8 : decode cL_pass 8 = .ok (.ldc2_w 21, 3) := by decide +kernel
theorem dL_pass_11 : decode cL_pass 11 = .ok (.lreturn, 1) := by decide +kernel
theorem dL_pass_12 : decode cL_pass 12 = .ok (.astore_n 2, 1) := by decide +kernel
theorem dL_pass_13 : decode cL_pass 13 = .ok (.ldc2_w 25, 3) := by decide +kernel
theorem dL_pass_16 : decode cL_pass 16 = .ok (.lreturn, 1) := by decide +kernel
theorem dL_offer_0 : decode cL_offer 0 = .ok (.aload_n 0, 1) := by decide +kernel
theorem dL_offer_1 : decode cL_offer 1 = .ok (.iload_n 1, 1) := by decide +kernel
theorem dL_offer_2 : decode cL_offer 2 = .ok (.iload_n 2, 1) := by decide +kernel
theorem dL_offer_3 : decode cL_offer 3 = .ok (.invokevirtual 93, 3) := by decide +kernel
theorem dL_offer_6 : decode cL_offer 6 = .ok (.i2l, 1) := by decide +kernel
theorem dL_offer_7 : decode cL_offer 7 = .ok (.lreturn, 1) := by decide +kernel
theorem dL_offer_8 : decode cL_offer 8 = .ok (.astore_n 3, 1) := by decide +kernel
theorem dL_offer_9 : decode cL_offer 9 = .ok (.ldc2_w 17, 3) := by decide +kernel
theorem dL_offer_12 : decode cL_offer 12 = .ok (.lreturn, 1) := by decide +kernel
theorem dL_offer_13 : decode cL_offer 13 = .ok (.astore_n 3, 1) := by decide +kernel
theorem dL_offer_14 : decode cL_offer 14 = .ok (.ldc2_w 21, 3) := by decide +kernel
theorem dL_offer_17 : decode cL_offer 17 = .ok (.lreturn, 1) := by decide +kernel
theorem dL_offer_18 : decode cL_offer 18 = .ok (.astore_n 3, 1) := by decide +kernel
theorem dL_offer_19 : decode cL_offer 19 = .ok (.ldc2_w 25, 3) := by decide +kernel
theorem dL_offer_22 : decode cL_offer 22 = .ok (.lreturn, 1) := by decide +kernel
theorem dL_claim_0 : decode cL_claim 0 = .ok (.aload_n 0, 1) := by decide +kernel
theorem dL_claim_1 : decode cL_claim 1 = .ok (.iload_n 1, 1) := by decide +kernel
theorem dL_claim_2 : decode cL_claim 2 = .ok (.iload_n 2, 1) := by decide +kernel
theorem dL_claim_3 : decode cL_claim 3 = .ok (.invokevirtual 96, 3) := by decide +kernel
theorem dL_claim_6 : decode cL_claim 6 = .ok (.i2l, 1) := by decide +kernel
theorem dL_claim_7 : decode cL_claim 7 = .ok (.lreturn, 1) := by decide +kernel
theorem dL_claim_8 : decode cL_claim 8 = .ok (.astore_n 3, 1) := by decide +kernel
theorem dL_claim_9 : decode cL_claim 9 = .ok (.ldc2_w 17, 3) := by decide +kernel
theorem dL_claim_12 : decode cL_claim 12 = .ok (.lreturn, 1) := by decide +kernel
theorem dL_claim_13 : decode cL_claim 13 = .ok (.astore_n 3, 1) := by decide +kernel
theorem dL_claim_14 : decode cL_claim 14 = .ok (.ldc2_w 25, 3) := by decide +kernel
theorem dL_claim_17 : decode cL_claim 17 = .ok (.lreturn, 1) := by decide +kernel
theorem dL_deposit_0 : decode cL_deposit 0 = .ok (.aload_n 0, 1) := by decide +kernel
theorem dL_deposit_1 : decode cL_deposit 1 = .ok (.iload_n 1, 1) := by decide +kernel
theorem dL_deposit_2 : decode cL_deposit 2 = .ok (.invokevirtual 99, 3) := by decide +kernel
theorem dL_deposit_5 : decode cL_deposit 5 = .ok (.i2l, 1) := by decide +kernel
theorem dL_deposit_6 : decode cL_deposit 6 = .ok (.lreturn, 1) := by decide +kernel
theorem dL_deposit_7 : decode cL_deposit 7 = .ok (.astore_n 2, 1) := by decide +kernel
theorem dL_deposit_8 : decode cL_deposit 8 = .ok (.ldc2_w 21, 3) := by decide +kernel
theorem dL_deposit_11 : decode cL_deposit 11 = .ok (.lreturn, 1) := by decide +kernel
theorem dL_deposit_12 : decode cL_deposit 12 = .ok (.astore_n 2, 1) := by decide +kernel
theorem dL_deposit_13 : decode cL_deposit 13 = .ok (.ldc2_w 25, 3) := by decide +kernel
theorem dL_deposit_16 : decode cL_deposit 16 = .ok (.lreturn, 1) := by decide +kernel
theorem dL_withdraw_0 : decode cL_withdraw 0 = .ok (.aload_n 0, 1) := by decide +kernel
theorem dL_withdraw_1 : decode cL_withdraw 1 = .ok (.iload_n 1, 1) := by decide +kernel
theorem dL_withdraw_2 : decode cL_withdraw 2 = .ok (.invokevirtual 102, 3) := by decide +kernel
theorem dL_withdraw_5 : decode cL_withdraw 5 = .ok (.i2l, 1) := by decide +kernel
theorem dL_withdraw_6 : decode cL_withdraw 6 = .ok (.lreturn, 1) := by decide +kernel
theorem dL_withdraw_7 : decode cL_withdraw 7 = .ok (.astore_n 2, 1) := by decide +kernel
theorem dL_withdraw_8 : decode cL_withdraw 8 = .ok (.ldc2_w 21, 3) := by decide +kernel
theorem dL_withdraw_11 : decode cL_withdraw 11 = .ok (.lreturn, 1) := by decide +kernel
theorem dL_withdraw_12 : decode cL_withdraw 12 = .ok (.astore_n 2, 1) := by decide +kernel
theorem dL_withdraw_13 : decode cL_withdraw 13 = .ok (.ldc2_w 25, 3) := by decide +kernel
theorem dL_withdraw_16 : decode cL_withdraw 16 = .ok (.lreturn, 1) := by decide +kernel
theorem dL_thingOf_0 : decode cL_thingOf 0 = .ok (.aload_n 0, 1) := by decide +kernel
theorem dL_thingOf_1 : decode cL_thingOf 1 = .ok (.iload_n 1, 1) := by decide +kernel
theorem dL_thingOf_2 : decode cL_thingOf 2 = .ok (.iload_n 2, 1) := by decide +kernel
theorem dL_thingOf_3 : decode cL_thingOf 3 = .ok (.invokevirtual 105, 3) := by decide +kernel
theorem dL_thingOf_6 : decode cL_thingOf 6 = .ok (.i2l, 1) := by decide +kernel
theorem dL_thingOf_7 : decode cL_thingOf 7 = .ok (.lreturn, 1) := by decide +kernel
theorem dL_thingOf_8 : decode cL_thingOf 8 = .ok (.astore_n 3, 1) := by decide +kernel
theorem dL_thingOf_9 : decode cL_thingOf 9 = .ok (.ldc2_w 17, 3) := by decide +kernel
theorem dL_thingOf_12 : decode cL_thingOf 12 = .ok (.lreturn, 1) := by decide +kernel
theorem dL_thingOf_13 : decode cL_thingOf 13 = .ok (.astore_n 3, 1) := by decide +kernel
theorem dL_thingOf_14 : decode cL_thingOf 14 = .ok (.ldc2_w 21, 3) := by decide +kernel
theorem dL_thingOf_17 : decode cL_thingOf 17 = .ok (.lreturn, 1) := by decide +kernel
theorem dL_ticketOf_0 : decode cL_ticketOf 0 = .ok (.aload_n 0, 1) := by decide +kernel
theorem dL_ticketOf_1 : decode cL_ticketOf 1 = .ok (.iload_n 1, 1) := by decide +kernel
theorem dL_ticketOf_2 : decode cL_ticketOf 2 = .ok (.iload_n 2, 1) := by decide +kernel
theorem dL_ticketOf_3 : decode cL_ticketOf 3 = .ok (.invokevirtual 108, 3) := by decide +kernel
theorem dL_ticketOf_6 : decode cL_ticketOf 6 = .ok (.i2l, 1) := by decide +kernel
theorem dL_ticketOf_7 : decode cL_ticketOf 7 = .ok (.lreturn, 1) := by decide +kernel
theorem dL_ticketOf_8 : decode cL_ticketOf 8 = .ok (.astore_n 3, 1) := by decide +kernel
theorem dL_ticketOf_9 : decode cL_ticketOf 9 = .ok (.ldc2_w 17, 3) := by decide +kernel
theorem dL_ticketOf_12 : decode cL_ticketOf 12 = .ok (.lreturn, 1) := by decide +kernel
theorem dL_ticketOf_13 : decode cL_ticketOf 13 = .ok (.astore_n 3, 1) := by decide +kernel
theorem dL_ticketOf_14 : decode cL_ticketOf 14 = .ok (.ldc2_w 21, 3) := by decide +kernel
theorem dL_ticketOf_17 : decode cL_ticketOf 17 = .ok (.lreturn, 1) := by decide +kernel
theorem dL_interestAnew_0 : decode cL_interestAnew 0 = .ok (.aload_n 0, 1) := by decide +kernel
theorem dL_interestAnew_1 : decode cL_interestAnew 1 = .ok (.iload_n 1, 1) := by decide +kernel
theorem dL_interestAnew_2 : decode cL_interestAnew 2 = .ok (.invokevirtual 111, 3) := by decide +kernel
theorem dL_interestAnew_5 : decode cL_interestAnew 5 = .ok (.i2l, 1) := by decide +kernel
theorem dL_interestAnew_6 : decode cL_interestAnew 6 = .ok (.lreturn, 1) := by decide +kernel
theorem dL_interestAnew_7 : decode cL_interestAnew 7 = .ok (.astore_n 2, 1) := by decide +kernel
theorem dL_interestAnew_8 : decode cL_interestAnew 8 = .ok (.ldc2_w 17, 3) := by decide +kernel
theorem dL_interestAnew_11 : decode cL_interestAnew 11 = .ok (.lreturn, 1) := by decide +kernel
theorem dL_expertOf_0 : decode cL_expertOf 0 = .ok (.aload_n 0, 1) := by decide +kernel
theorem dL_expertOf_1 : decode cL_expertOf 1 = .ok (.iload_n 1, 1) := by decide +kernel
theorem dL_expertOf_2 : decode cL_expertOf 2 = .ok (.iload_n 2, 1) := by decide +kernel
theorem dL_expertOf_3 : decode cL_expertOf 3 = .ok (.invokevirtual 114, 3) := by decide +kernel
theorem dL_expertOf_6 : decode cL_expertOf 6 = .ok (.i2l, 1) := by decide +kernel
theorem dL_expertOf_7 : decode cL_expertOf 7 = .ok (.lreturn, 1) := by decide +kernel
theorem dL_expertOf_8 : decode cL_expertOf 8 = .ok (.astore_n 3, 1) := by decide +kernel
theorem dL_expertOf_9 : decode cL_expertOf 9 = .ok (.ldc2_w 17, 3) := by decide +kernel
theorem dL_expertOf_12 : decode cL_expertOf 12 = .ok (.lreturn, 1) := by decide +kernel
theorem dL_expertOf_13 : decode cL_expertOf 13 = .ok (.astore_n 3, 1) := by decide +kernel
theorem dL_expertOf_14 : decode cL_expertOf 14 = .ok (.ldc2_w 21, 3) := by decide +kernel
theorem dL_expertOf_17 : decode cL_expertOf 17 = .ok (.lreturn, 1) := by decide +kernel
theorem dL_bears_0 : decode cL_bears 0 = .ok (.aload_n 0, 1) := by decide +kernel
theorem dL_bears_1 : decode cL_bears 1 = .ok (.iload_n 1, 1) := by decide +kernel
theorem dL_bears_2 : decode cL_bears 2 = .ok (.iload_n 2, 1) := by decide +kernel
theorem dL_bears_3 : decode cL_bears 3 = .ok (.invokevirtual 117, 3) := by decide +kernel
theorem dL_bears_6 : decode cL_bears 6 = .ok (.i2l, 1) := by decide +kernel
theorem dL_bears_7 : decode cL_bears 7 = .ok (.lreturn, 1) := by decide +kernel
theorem dL_bears_8 : decode cL_bears 8 = .ok (.astore_n 3, 1) := by decide +kernel
theorem dL_bears_9 : decode cL_bears 9 = .ok (.ldc2_w 17, 3) := by decide +kernel
theorem dL_bears_12 : decode cL_bears 12 = .ok (.lreturn, 1) := by decide +kernel
theorem dL_money_0 : decode cL_money 0 = .ok (.aload_n 0, 1) := by decide +kernel
theorem dL_money_1 : decode cL_money 1 = .ok (.iload_n 1, 1) := by decide +kernel
theorem dL_money_2 : decode cL_money 2 = .ok (.invokevirtual 120, 3) := by decide +kernel
theorem dL_money_5 : decode cL_money 5 = .ok (.i2l, 1) := by decide +kernel
theorem dL_money_6 : decode cL_money 6 = .ok (.lreturn, 1) := by decide +kernel
theorem dL_money_7 : decode cL_money 7 = .ok (.astore_n 2, 1) := by decide +kernel
theorem dL_money_8 : decode cL_money 8 = .ok (.ldc2_w 21, 3) := by decide +kernel
theorem dL_money_11 : decode cL_money 11 = .ok (.lreturn, 1) := by decide +kernel
