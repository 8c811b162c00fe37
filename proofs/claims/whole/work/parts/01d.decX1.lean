theorem dX1_isFlag_0 : decode cX1_isFlag 0 = .ok (.iload_n 0, 1) := by decide +kernel
theorem dX1_isFlag_1 : decode cX1_isFlag 1 = .ok (.iconst 1, 1) := by decide +kernel
theorem dX1_isFlag_2 : decode cX1_isFlag 2 = .ok (.if_icmp .eq 10, 3) := by decide +kernel
theorem dX1_isFlag_5 : decode cX1_isFlag 5 = .ok (.iload_n 0, 1) := by decide +kernel
theorem dX1_isFlag_6 : decode cX1_isFlag 6 = .ok (.iconst 2, 1) := by decide +kernel
theorem dX1_isFlag_7 : decode cX1_isFlag 7 = .ok (.if_icmp .eq 5, 3) := by decide +kernel
theorem dX1_isFlag_10 : decode cX1_isFlag 10 = .ok (.iconst 0, 1) := by decide +kernel
theorem dX1_isFlag_11 : decode cX1_isFlag 11 = .ok (.ireturn, 1) := by decide +kernel
theorem dX1_isFlag_12 : decode cX1_isFlag 12 = .ok (.iload_n 1, 1) := by decide +kernel
theorem dX1_isFlag_13 : decode cX1_isFlag 13 = .ok (.ifCond .lt 23, 3) := by decide +kernel
theorem dX1_isFlag_16 : decode cX1_isFlag 16 = .ok (.iload_n 1, 1) := by decide +kernel
theorem dX1_isFlag_17 : decode cX1_isFlag 17 = .ok (.iload_n 0, 1) := by decide +kernel
theorem dX1_isFlag_18 : decode cX1_isFlag 18 = .ok (.iconst 1, 1) := by decide +kernel
theorem dX1_isFlag_19 : decode cX1_isFlag 19 = .ok (.if_icmp .ne 8, 3) := by decide +kernel
theorem dX1_isFlag_22 : decode cX1_isFlag 22 = .ok (.bipush 7, 2) := by decide +kernel
theorem dX1_isFlag_24 : decode cX1_isFlag 24 = .ok (.goto 5, 3) := by decide +kernel
theorem dX1_isFlag_27 : decode cX1_isFlag 27 = .ok (.bipush 15, 2) := by decide +kernel
theorem dX1_isFlag_29 : decode cX1_isFlag 29 = .ok (.if_icmp .gt 7, 3) := by decide +kernel
theorem dX1_isFlag_32 : decode cX1_isFlag 32 = .ok (.iconst 1, 1) := by decide +kernel
theorem dX1_isFlag_33 : decode cX1_isFlag 33 = .ok (.goto 4, 3) := by decide +kernel
theorem dX1_isFlag_36 : decode cX1_isFlag 36 = .ok (.iconst 0, 1) := by decide +kernel
theorem dX1_isFlag_37 : decode cX1_isFlag 37 = .ok (.ireturn, 1) := by decide +kernel
set_option maxRecDepth 20000 in
theorem ggX1_maySwitchFirst_X1_playerBits : GoodIn wsX1_maySwitchFirst wsX1_playerBits := goodIn_r _ [4] (by decide +kernel) (by decide +kernel)
set_option maxRecDepth 20000 in
theorem gX1_maySwitchFirst_X1_playerBits : GoodIn wsX1_maySwitchFirst (va_wsS RX1 7 yX1_playerBits wsX1_playerBits) := goodIn_app (goodIn_of _ (by decide +kernel)) ggX1_maySwitchFirst_X1_playerBits
theorem dX1_maySwitchFirst_0 : decode cX1_maySwitchFirst 0 = .ok (.iload_n 2, 1) := by decide +kernel
theorem dX1_maySwitchFirst_1 : decode cX1_maySwitchFirst 1 = .ok (.ifCond .ne 19, 3) := by decide +kernel
theorem dX1_maySwitchFirst_4 : decode cX1_maySwitchFirst 4 = .ok (.iload_n 0, 1) := by decide +kernel
theorem dX1_maySwitchFirst_5 : decode cX1_maySwitchFirst 5 = .ok (.invokestatic 7, 3) := by decide +kernel
theorem dX1_maySwitchFirst_8 : decode cX1_maySwitchFirst 8 = .ok (.iload_n 1, 1) := by decide +kernel
theorem dX1_maySwitchFirst_9 : decode cX1_maySwitchFirst 9 = .ok (.ishr, 1) := by decide +kernel
theorem dX1_maySwitchFirst_10 : decode cX1_maySwitchFirst 10 = .ok (.iconst 1, 1) := by decide +kernel
theorem dX1_maySwitchFirst_11 : decode cX1_maySwitchFirst 11 = .ok (.iand, 1) := by decide +kernel
theorem dX1_maySwitchFirst_12 : decode cX1_maySwitchFirst 12 = .ok (.iconst 1, 1) := by decide +kernel
theorem dX1_maySwitchFirst_13 : decode cX1_maySwitchFirst 13 = .ok (.if_icmp .ne 7, 3) := by decide +kernel
theorem dX1_maySwitchFirst_16 : decode cX1_maySwitchFirst 16 = .ok (.iconst 1, 1) := by decide +kernel
theorem dX1_maySwitchFirst_17 : decode cX1_maySwitchFirst 17 = .ok (.goto 4, 3) := by decide +kernel
theorem dX1_maySwitchFirst_20 : decode cX1_maySwitchFirst 20 = .ok (.iconst 0, 1) := by decide +kernel
theorem dX1_maySwitchFirst_21 : decode cX1_maySwitchFirst 21 = .ok (.ireturn, 1) := by decide +kernel
theorem dX1_playerBits_0 : decode cX1_playerBits 0 = .ok (.iload_n 0, 1) := by decide +kernel
theorem dX1_playerBits_1 : decode cX1_playerBits 1 = .ok (.tableswitch 50 1 6 #[39, 39, 39, 42, 50, 46], 39) := by decide +kernel
theorem dX1_playerBits_40 : decode cX1_playerBits 40 = .ok (.bipush 112, 2) := by decide +kernel
theorem dX1_playerBits_42 : decode cX1_playerBits 42 = .ok (.ireturn, 1) := by decide +kernel
theorem dX1_playerBits_43 : decode cX1_playerBits 43 = .ok (.sipush 156, 3) := by decide +kernel
theorem dX1_playerBits_46 : decode cX1_playerBits 46 = .ok (.ireturn, 1) := by decide +kernel
theorem dX1_playerBits_47 : decode cX1_playerBits 47 = .ok (.sipush 191, 3) := by decide +kernel
theorem dX1_playerBits_50 : decode cX1_playerBits 50 = .ok (.ireturn, 1) := by decide +kernel
theorem dX1_playerBits_51 : decode cX1_playerBits 51 = .ok (.sipush 157, 3) := by decide +kernel
theorem dX1_playerBits_54 : decode cX1_playerBits 54 = .ok (.ireturn, 1) := by decide +kernel
theorem dX1_maySwitchSecond_0 : decode cX1_maySwitchSecond 0 = .ok (.iload_n 1, 1) := by decide +kernel
theorem dX1_maySwitchSecond_1 : decode cX1_maySwitchSecond 1 = .ok (.ifCond .ne 5, 3) := by decide +kernel
theorem dX1_maySwitchSecond_4 : decode cX1_maySwitchSecond 4 = .ok (.iconst 1, 1) := by decide +kernel
theorem dX1_maySwitchSecond_5 : decode cX1_maySwitchSecond 5 = .ok (.ireturn, 1) := by decide +kernel
theorem dX1_maySwitchSecond_6 : decode cX1_maySwitchSecond 6 = .ok (.iload_n 1, 1) := by decide +kernel
theorem dX1_maySwitchSecond_7 : decode cX1_maySwitchSecond 7 = .ok (.iconst 1, 1) := by decide +kernel
theorem dX1_maySwitchSecond_8 : decode cX1_maySwitchSecond 8 = .ok (.if_icmp .ne 18, 3) := by decide +kernel
theorem dX1_maySwitchSecond_11 : decode cX1_maySwitchSecond 11 = .ok (.iload_n 3, 1) := by decide +kernel
theorem dX1_maySwitchSecond_12 : decode cX1_maySwitchSecond 12 = .ok (.ifCond .eq 12, 3) := by decide +kernel
theorem dX1_maySwitchSecond_15 : decode cX1_maySwitchSecond 15 = .ok (.iload_n 0, 1) := by decide +kernel
theorem dX1_maySwitchSecond_16 : decode cX1_maySwitchSecond 16 = .ok (.iconst 3, 1) := by decide +kernel
theorem dX1_maySwitchSecond_17 : decode cX1_maySwitchSecond 17 = .ok (.if_icmp .lt 7, 3) := by decide +kernel
theorem dX1_maySwitchSecond_20 : decode cX1_maySwitchSecond 20 = .ok (.iconst 1, 1) := by decide +kernel
theorem dX1_maySwitchSecond_21 : decode cX1_maySwitchSecond 21 = .ok (.goto 4, 3) := by decide +kernel
theorem dX1_maySwitchSecond_24 : decode cX1_maySwitchSecond 24 = .ok (.iconst 0, 1) := by decide +kernel
theorem dX1_maySwitchSecond_25 : decode cX1_maySwitchSecond 25 = .ok (.ireturn, 1) := by decide +kernel
theorem dX1_maySwitchSecond_26 : decode cX1_maySwitchSecond 26 = .ok (.iload_n 1, 1) := by decide +kernel
theorem dX1_maySwitchSecond_27 : decode cX1_maySwitchSecond 27 = .ok (.iconst 2, 1) := by decide +kernel
theorem dX1_maySwitchSecond_28 : decode cX1_maySwitchSecond 28 = .ok (.if_icmp .ne 23, 3) := by decide +kernel
theorem dX1_maySwitchSecond_31 : decode cX1_maySwitchSecond 31 = .ok (.iload_n 0, 1) := by decide +kernel
theorem dX1_maySwitchSecond_32 : decode cX1_maySwitchSecond 32 = .ok (.bipush 6, 2) := by decide +kernel
theorem dX1_maySwitchSecond_34 : decode cX1_maySwitchSecond 34 = .ok (.if_icmp .ne 15, 3) := by decide +kernel
theorem dX1_maySwitchSecond_37 : decode cX1_maySwitchSecond 37 = .ok (.iload_n 3, 1) := by decide +kernel
theorem dX1_maySwitchSecond_38 : decode cX1_maySwitchSecond 38 = .ok (.ifCond .eq 7, 3) := by decide +kernel
theorem dX1_maySwitchSecond_41 : decode cX1_maySwitchSecond 41 = .ok (.iload_n 2, 1) := by decide +kernel
theorem dX1_maySwitchSecond_42 : decode cX1_maySwitchSecond 42 = .ok (.ifCond .ne 7, 3) := by decide +kernel
theorem dX1_maySwitchSecond_45 : decode cX1_maySwitchSecond 45 = .ok (.iconst 1, 1) := by decide +kernel
theorem dX1_maySwitchSecond_46 : decode cX1_maySwitchSecond 46 = .ok (.goto 4, 3) := by decide +kernel
theorem dX1_maySwitchSecond_49 : decode cX1_maySwitchSecond 49 = .ok (.iconst 0, 1) := by decide +kernel
theorem dX1_maySwitchSecond_50 : decode cX1_maySwitchSecond 50 = .ok (.ireturn, 1) := by decide +kernel
theorem dX1_maySwitchSecond_51 : decode cX1_maySwitchSecond 51 = .ok (.iload_n 3, 1) := by decide +kernel
theorem dX1_maySwitchSecond_52 : decode cX1_maySwitchSecond 52 = .ok (.ifCond .ne 7, 3) := by decide +kernel
theorem dX1_maySwitchSecond_55 : decode cX1_maySwitchSecond 55 = .ok (.iload_n 2, 1) := by decide +kernel
theorem dX1_maySwitchSecond_56 : decode cX1_maySwitchSecond 56 = .ok (.ifCond .eq 5, 3) := by decide +kernel
theorem dX1_maySwitchSecond_59 : decode cX1_maySwitchSecond 59 = .ok (.iconst 0, 1) := by decide +kernel
theorem dX1_maySwitchSecond_60 : decode cX1_maySwitchSecond 60 = .ok (.ireturn, 1) := by decide +kernel
theorem dX1_maySwitchSecond_61 : decode cX1_maySwitchSecond 61 = .ok (.iload_n 1, 1) := by decide +kernel
theorem dX1_maySwitchSecond_62 : decode cX1_maySwitchSecond 62 = .ok (.bipush 7, 2) := by decide +kernel
theorem dX1_maySwitchSecond_64 : decode cX1_maySwitchSecond 64 = .ok (.if_icmp .gt 16, 3) := by decide +kernel
theorem dX1_maySwitchSecond_67 : decode cX1_maySwitchSecond 67 = .ok (.iload_n 0, 1) := by decide +kernel
theorem dX1_maySwitchSecond_68 : decode cX1_maySwitchSecond 68 = .ok (.iconst 5, 1) := by decide +kernel
theorem dX1_maySwitchSecond_69 : decode cX1_maySwitchSecond 69 = .ok (.if_icmp .lt 7, 3) := by decide +kernel
theorem dX1_maySwitchSecond_72 : decode cX1_maySwitchSecond 72 = .ok (.iconst 1, 1) := by decide +kernel
theorem dX1_maySwitchSecond_73 : decode cX1_maySwitchSecond 73 = .ok (.goto 24, 3) := by decide +kernel
theorem dX1_maySwitchSecond_76 : decode cX1_maySwitchSecond 76 = .ok (.iconst 0, 1) := by decide +kernel
theorem dX1_maySwitchSecond_77 : decode cX1_maySwitchSecond 77 = .ok (.goto 20, 3) := by decide +kernel
theorem dX1_maySwitchSecond_80 : decode cX1_maySwitchSecond 80 = .ok (.iload_n 1, 1) := by decide +kernel
theorem dX1_maySwitchSecond_81 : decode cX1_maySwitchSecond 81 = .ok (.bipush 8, 2) := by decide +kernel
theorem dX1_maySwitchSecond_83 : decode cX1_maySwitchSecond 83 = .ok (.if_icmp .ne 13, 3) := by decide +kernel
theorem dX1_maySwitchSecond_86 : decode cX1_maySwitchSecond 86 = .ok (.iload_n 0, 1) := by decide +kernel
theorem dX1_maySwitchSecond_87 : decode cX1_maySwitchSecond 87 = .ok (.bipush 6, 2) := by decide +kernel
theorem dX1_maySwitchSecond_89 : decode cX1_maySwitchSecond 89 = .ok (.if_icmp .ne 7, 3) := by decide +kernel
theorem dX1_maySwitchSecond_92 : decode cX1_maySwitchSecond 92 = .ok (.iconst 1, 1) := by decide +kernel
theorem dX1_maySwitchSecond_93 : decode cX1_maySwitchSecond 93 = .ok (.goto 4, 3) := by decide +kernel
theorem dX1_maySwitchSecond_96 : decode cX1_maySwitchSecond 96 = .ok (.iconst 0, 1) := by decide +kernel
theorem dX1_maySwitchSecond_97 : decode cX1_maySwitchSecond 97 = .ok (.ireturn, 1) := by decide +kernel
theorem dX1_isWide_0 : decode cX1_isWide 0 = .ok (.iload_n 0, 1) := by decide +kernel
theorem dX1_isWide_1 : decode cX1_isWide 1 = .ok (.iconst 4, 1) := by decide +kernel
theorem dX1_isWide_2 : decode cX1_isWide 2 = .ok (.if_icmp .eq 14, 3) := by decide +kernel
theorem dX1_isWide_5 : decode cX1_isWide 5 = .ok (.iload_n 0, 1) := by decide +kernel
theorem dX1_isWide_6 : decode cX1_isWide 6 = .ok (.iconst 5, 1) := by decide +kernel
theorem dX1_isWide_7 : decode cX1_isWide 7 = .ok (.if_icmp .eq 9, 3) := by decide +kernel
theorem dX1_isWide_10 : decode cX1_isWide 10 = .ok (.iload_n 0, 1) := by decide +kernel
theorem dX1_isWide_11 : decode cX1_isWide 11 = .ok (.bipush 10, 2) := by decide +kernel
theorem dX1_isWide_13 : decode cX1_isWide 13 = .ok (.if_icmp .ne 7, 3) := by decide +kernel
theorem dX1_isWide_16 : decode cX1_isWide 16 = .ok (.iconst 1, 1) := by decide +kernel
theorem dX1_isWide_17 : decode cX1_isWide 17 = .ok (.goto 4, 3) := by decide +kernel
theorem dX1_isWide_20 : decode cX1_isWide 20 = .ok (.iconst 0, 1) := by decide +kernel
theorem dX1_isWide_21 : decode cX1_isWide 21 = .ok (.ireturn, 1) := by decide +kernel
theorem dX1_settableFrom_0 : decode cX1_settableFrom 0 = .ok (.iload_n 0, 1) := by decide +kernel
theorem dX1_settableFrom_1 : decode cX1_settableFrom 1 = .ok (.iconst 3, 1) := by decide +kernel
theorem dX1_settableFrom_2 : decode cX1_settableFrom 2 = .ok (.if_icmp .gt 5, 3) := by decide +kernel
theorem dX1_settableFrom_5 : decode cX1_settableFrom 5 = .ok (.iconst 4, 1) := by decide +kernel
theorem dX1_settableFrom_6 : decode cX1_settableFrom 6 = .ok (.ireturn, 1) := by decide +kernel
theorem dX1_settableFrom_7 : decode cX1_settableFrom 7 = .ok (.iload_n 0, 1) := by decide +kernel
theorem dX1_settableFrom_8 : decode cX1_settableFrom 8 = .ok (.bipush 9, 2) := by decide +kernel
theorem dX1_settableFrom_10 : decode cX1_settableFrom 10 = .ok (.if_icmp .gt 7, 3) := by decide +kernel
theorem dX1_settableFrom_13 : decode cX1_settableFrom 13 = .ok (.iconst 5, 1) := by decide +kernel
theorem dX1_settableFrom_14 : decode cX1_settableFrom 14 = .ok (.goto 4, 3) := by decide +kernel
theorem dX1_settableFrom_17 : decode cX1_settableFrom 17 = .ok (.iconst 1, 1) := by decide +kernel
theorem dX1_settableFrom_18 : decode cX1_settableFrom 18 = .ok (.ireturn, 1) := by decide +kernel
theorem dX1_settingPlace_0 : decode cX1_settingPlace 0 = .ok (.iload_n 0, 1) := by decide +kernel
theorem dX1_settingPlace_1 : decode cX1_settingPlace 1 = .ok (.tableswitch 84 4 10 #[43, 46, 49, 62, 75, 78, 81], 43) := by decide +kernel
theorem dX1_settingPlace_44 : decode cX1_settingPlace 44 = .ok (.bipush 34, 2) := by decide +kernel
theorem dX1_settingPlace_46 : decode cX1_settingPlace 46 = .ok (.ireturn, 1) := by decide +kernel
theorem dX1_settingPlace_47 : decode cX1_settingPlace 47 = .ok (.bipush 36, 2) := by decide +kernel
theorem dX1_settingPlace_49 : decode cX1_settingPlace 49 = .ok (.ireturn, 1) := by decide +kernel
theorem dX1_settingPlace_50 : decode cX1_settingPlace 50 = .ok (.iload_n 1, 1) := by decide +kernel
theorem dX1_settingPlace_51 : decode cX1_settingPlace 51 = .ok (.iconst 5, 1) := by decide +kernel
theorem dX1_settingPlace_52 : decode cX1_settingPlace 52 = .ok (.if_icmp .ne 8, 3) := by decide +kernel
theorem dX1_settingPlace_55 : decode cX1_settingPlace 55 = .ok (.bipush 38, 2) := by decide +kernel
theorem dX1_settingPlace_57 : decode cX1_settingPlace 57 = .ok (.goto 5, 3) := by decide +kernel
theorem dX1_settingPlace_60 : decode cX1_settingPlace 60 = .ok (.bipush 39, 2) := by decide +kernel
theorem dX1_settingPlace_62 : decode cX1_settingPlace 62 = .ok (.ireturn, 1) := by decide +kernel
theorem dX1_settingPlace_63 : decode cX1_settingPlace 63 = .ok (.iload_n 1, 1) := by decide +kernel
theorem dX1_settingPlace_64 : decode cX1_settingPlace 64 = .ok (.iconst 5, 1) := by decide +kernel
theorem dX1_settingPlace_65 : decode cX1_settingPlace 65 = .ok (.if_icmp .ne 8, 3) := by decide +kernel
theorem dX1_settingPlace_68 : decode cX1_settingPlace 68 = .ok (.bipush 39, 2) := by decide +kernel
theorem dX1_settingPlace_70 : decode cX1_settingPlace 70 = .ok (.goto 5, 3) := by decide +kernel
theorem dX1_settingPlace_73 : decode cX1_settingPlace 73 = .ok (.bipush 38, 2) := by decide +kernel
theorem dX1_settingPlace_75 : decode cX1_settingPlace 75 = .ok (.ireturn, 1) := by decide +kernel
theorem dX1_settingPlace_76 : decode cX1_settingPlace 76 = .ok (.bipush 44, 2) := by decide +kernel
theorem dX1_settingPlace_78 : decode cX1_settingPlace 78 = .ok (.ireturn, 1) := by decide +kernel
theorem dX1_settingPlace_79 : decode cX1_settingPlace 79 = .ok (.bipush 45, 2) := by decide +kernel
theorem dX1_settingPlace_81 : decode cX1_settingPlace 81 = .ok (.ireturn, 1) := by decide +kernel
theorem dX1_settingPlace_82 : decode cX1_settingPlace 82 = .ok (.bipush 50, 2) := by decide +kernel
theorem dX1_settingPlace_84 : decode cX1_settingPlace 84 = .ok (.ireturn, 1) := by decide +kernel
theorem dX1_settingPlace_85 : decode cX1_settingPlace 85 = .ok (.bipush 30, 2) := by decide +kernel
theorem dX1_settingPlace_87 : decode cX1_settingPlace 87 = .ok (.iload_n 0, 1) := by decide +kernel
theorem dX1_settingPlace_88 : decode cX1_settingPlace 88 = .ok (.iadd, 1) := by decide +kernel
theorem dX1_settingPlace_89 : decode cX1_settingPlace 89 = .ok (.ireturn, 1) := by decide +kernel
