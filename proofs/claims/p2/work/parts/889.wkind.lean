/-! the class: Tokens.wordKind, the literal that it reads -/
theorem dle_0 : decode cJ0_length_8abf5 0 = .ok (.aload_n 0, 1) := by decide +kernel
theorem dle_1 : decode cJ0_length_8abf5 1 = .ok (.getfield 9, 3) := by decide +kernel
theorem dle_4 : decode cJ0_length_8abf5 4 = .ok (.arraylength, 1) := by decide +kernel
theorem dle_5 : decode cJ0_length_8abf5 5 = .ok (.aload_n 0, 1) := by decide +kernel
theorem dle_6 : decode cJ0_length_8abf5 6 = .ok (.invokevirtual 335, 3) := by decide +kernel
theorem dle_9 : decode cJ0_length_8abf5 9 = .ok (.ishr, 1) := by decide +kernel
theorem dle_10 : decode cJ0_length_8abf5 10 = .ok (.ireturn, 1) := by decide +kernel
theorem dch_0 : decode cJ0_charAt_5068e 0 = .ok (.aload_n 0, 1) := by decide +kernel
theorem dch_1 : decode cJ0_charAt_5068e 1 = .ok (.invokevirtual 492, 3) := by decide +kernel
theorem dch_4 : decode cJ0_charAt_5068e 4 = .ok (.ifCond .eq 12, 3) := by decide +kernel
theorem dch_7 : decode cJ0_charAt_5068e 7 = .ok (.aload_n 0, 1) := by decide +kernel
theorem dch_8 : decode cJ0_charAt_5068e 8 = .ok (.getfield 9, 3) := by decide +kernel
theorem dch_11 : decode cJ0_charAt_5068e 11 = .ok (.iload_n 1, 1) := by decide +kernel
theorem dch_12 : decode cJ0_charAt_5068e 12 = .ok (.invokestatic 495, 3) := by decide +kernel
theorem dch_15 : decode cJ0_charAt_5068e 15 = .ok (.ireturn, 1) := by decide +kernel
theorem dch_16 : decode cJ0_charAt_5068e 16 = .ok (.aload_n 0, 1) := by decide +kernel
theorem dch_17 : decode cJ0_charAt_5068e 17 = .ok (.getfield 9, 3) := by decide +kernel
theorem dch_20 : decode cJ0_charAt_5068e 20 = .ok (.iload_n 1, 1) := by decide +kernel
theorem dch_21 : decode cJ0_charAt_5068e 21 = .ok (.invokestatic 498, 3) := by decide +kernel
theorem dch_24 : decode cJ0_charAt_5068e 24 = .ok (.ireturn, 1) := by decide +kernel
theorem dco_0 : decode cJ0_coder_7d493 0 = .ok (.getstatic 38, 3) := by decide +kernel
theorem dco_3 : decode cJ0_coder_7d493 3 = .ok (.ifCond .eq 10, 3) := by decide +kernel
theorem dco_6 : decode cJ0_coder_7d493 6 = .ok (.aload_n 0, 1) := by decide +kernel
theorem dco_7 : decode cJ0_coder_7d493 7 = .ok (.getfield 15, 3) := by decide +kernel
theorem dco_10 : decode cJ0_coder_7d493 10 = .ok (.goto 4, 3) := by decide +kernel
theorem dco_13 : decode cJ0_coder_7d493 13 = .ok (.iconst 1, 1) := by decide +kernel
theorem dco_14 : decode cJ0_coder_7d493 14 = .ok (.ireturn, 1) := by decide +kernel
theorem dil_0 : decode cJ0_isLatin1_aae02 0 = .ok (.getstatic 38, 3) := by decide +kernel
theorem dil_3 : decode cJ0_isLatin1_aae02 3 = .ok (.ifCond .eq 14, 3) := by decide +kernel
theorem dil_6 : decode cJ0_isLatin1_aae02 6 = .ok (.aload_n 0, 1) := by decide +kernel
theorem dil_7 : decode cJ0_isLatin1_aae02 7 = .ok (.getfield 15, 3) := by decide +kernel
theorem dil_10 : decode cJ0_isLatin1_aae02 10 = .ok (.ifCond .ne 7, 3) := by decide +kernel
theorem dil_13 : decode cJ0_isLatin1_aae02 13 = .ok (.iconst 1, 1) := by decide +kernel
theorem dil_14 : decode cJ0_isLatin1_aae02 14 = .ok (.goto 4, 3) := by decide +kernel
theorem dil_17 : decode cJ0_isLatin1_aae02 17 = .ok (.iconst 0, 1) := by decide +kernel
theorem dil_18 : decode cJ0_isLatin1_aae02 18 = .ok (.ireturn, 1) := by decide +kernel
theorem dci_0 : decode cJ0_checkIndex_df160 0 = .ok (.iload_n 0, 1) := by decide +kernel
theorem dci_1 : decode cJ0_checkIndex_df160 1 = .ok (.iload_n 1, 1) := by decide +kernel
theorem dci_2 : decode cJ0_checkIndex_df160 2 = .ok (.getstatic 1053, 3) := by decide +kernel
theorem dci_5 : decode cJ0_checkIndex_df160 5 = .ok (.invokestatic 1059, 3) := by decide +kernel
theorem dci_8 : decode cJ0_checkIndex_df160 8 = .ok (.pop, 1) := by decide +kernel
theorem dci_9 : decode cJ0_checkIndex_df160 9 = .ok (.return_, 1) := by decide +kernel
theorem dlc_0 : decode cJ1_charAt_3b067 0 = .ok (.iload_n 1, 1) := by decide +kernel
theorem dlc_1 : decode cJ1_charAt_3b067 1 = .ok (.aload_n 0, 1) := by decide +kernel
theorem dlc_2 : decode cJ1_charAt_3b067 2 = .ok (.arraylength, 1) := by decide +kernel
theorem dlc_3 : decode cJ1_charAt_3b067 3 = .ok (.invokestatic 9, 3) := by decide +kernel
theorem dlc_6 : decode cJ1_charAt_3b067 6 = .ok (.aload_n 0, 1) := by decide +kernel
theorem dlc_7 : decode cJ1_charAt_3b067 7 = .ok (.iload_n 1, 1) := by decide +kernel
theorem dlc_8 : decode cJ1_charAt_3b067 8 = .ok (.baload, 1) := by decide +kernel
theorem dlc_9 : decode cJ1_charAt_3b067 9 = .ok (.sipush 255, 3) := by decide +kernel
theorem dlc_12 : decode cJ1_charAt_3b067 12 = .ok (.iand, 1) := by decide +kernel
theorem dlc_13 : decode cJ1_charAt_3b067 13 = .ok (.i2c, 1) := by decide +kernel
theorem dlc_14 : decode cJ1_charAt_3b067 14 = .ok (.ireturn, 1) := by decide +kernel
theorem dpi_0 : decode cJ3_checkIndex_8e157 0 = .ok (.iload_n 0, 1) := by decide +kernel
theorem dpi_1 : decode cJ3_checkIndex_8e157 1 = .ok (.ifCond .lt 8, 3) := by decide +kernel
theorem dpi_4 : decode cJ3_checkIndex_8e157 4 = .ok (.iload_n 0, 1) := by decide +kernel
theorem dpi_5 : decode cJ3_checkIndex_8e157 5 = .ok (.iload_n 1, 1) := by decide +kernel
theorem dpi_6 : decode cJ3_checkIndex_8e157 6 = .ok (.if_icmp .lt 10, 3) := by decide +kernel
theorem dpi_9 : decode cJ3_checkIndex_8e157 9 = .ok (.aload_n 2, 1) := by decide +kernel
theorem dpi_10 : decode cJ3_checkIndex_8e157 10 = .ok (.iload_n 0, 1) := by decide +kernel
theorem dpi_11 : decode cJ3_checkIndex_8e157 11 = .ok (.iload_n 1, 1) := by decide +kernel
theorem dpi_12 : decode cJ3_checkIndex_8e157 12 = .ok (.invokestatic 95, 3) := by decide +kernel
theorem dpi_15 : decode cJ3_checkIndex_8e157 15 = .ok (.athrow, 1) := by decide +kernel
theorem dpi_16 : decode cJ3_checkIndex_8e157 16 = .ok (.iload_n 0, 1) := by decide +kernel
theorem dpi_17 : decode cJ3_checkIndex_8e157 17 = .ok (.ireturn, 1) := by decide +kernel
theorem dwk_0 : decode cX9_wordKind 0 = .ok (.iconst 0, 1) := by decide +kernel
theorem dwk_1 : decode cX9_wordKind 1 = .ok (.istore_n 3, 1) := by decide +kernel
theorem dwk_2 : decode cX9_wordKind 2 = .ok (.iload_n 2, 1) := by decide +kernel
theorem dwk_3 : decode cX9_wordKind 3 = .ok (.bipush 7, 2) := by decide +kernel
theorem dwk_5 : decode cX9_wordKind 5 = .ok (.if_icmp .ge 98, 3) := by decide +kernel
theorem dwk_8 : decode cX9_wordKind 8 = .ok (.iload_n 3, 1) := by decide +kernel
theorem dwk_9 : decode cX9_wordKind 9 = .ok (.iconst 1, 1) := by decide +kernel
theorem dwk_10 : decode cX9_wordKind 10 = .ok (.iadd, 1) := by decide +kernel
theorem dwk_11 : decode cX9_wordKind 11 = .ok (.bipush 7, 2) := by decide +kernel
theorem dwk_13 : decode cX9_wordKind 13 = .ok (.imul, 1) := by decide +kernel
theorem dwk_14 : decode cX9_wordKind 14 = .ok (.ldc 110, 2) := by decide +kernel
theorem dwk_16 : decode cX9_wordKind 16 = .ok (.invokevirtual 112, 3) := by decide +kernel
theorem dwk_19 : decode cX9_wordKind 19 = .ok (.if_icmp .gt 84, 3) := by decide +kernel
theorem dwk_22 : decode cX9_wordKind 22 = .ok (.iconst 1, 1) := by decide +kernel
theorem dwk_23 : decode cX9_wordKind 23 = .ok (.istore 4, 2) := by decide +kernel
theorem dwk_25 : decode cX9_wordKind 25 = .ok (.iconst 0, 1) := by decide +kernel
theorem dwk_26 : decode cX9_wordKind 26 = .ok (.istore 5, 2) := by decide +kernel
theorem dwk_28 : decode cX9_wordKind 28 = .ok (.iload 5, 2) := by decide +kernel
theorem dwk_30 : decode cX9_wordKind 30 = .ok (.bipush 7, 2) := by decide +kernel
theorem dwk_32 : decode cX9_wordKind 32 = .ok (.if_icmp .ge 55, 3) := by decide +kernel
theorem dwk_35 : decode cX9_wordKind 35 = .ok (.iload 4, 2) := by decide +kernel
theorem dwk_37 : decode cX9_wordKind 37 = .ok (.ifCond .eq 50, 3) := by decide +kernel
theorem dwk_40 : decode cX9_wordKind 40 = .ok (.ldc 110, 2) := by decide +kernel
theorem dwk_42 : decode cX9_wordKind 42 = .ok (.iload_n 3, 1) := by decide +kernel
theorem dwk_43 : decode cX9_wordKind 43 = .ok (.bipush 7, 2) := by decide +kernel
theorem dwk_45 : decode cX9_wordKind 45 = .ok (.imul, 1) := by decide +kernel
theorem dwk_46 : decode cX9_wordKind 46 = .ok (.iload 5, 2) := by decide +kernel
theorem dwk_48 : decode cX9_wordKind 48 = .ok (.iadd, 1) := by decide +kernel
theorem dwk_49 : decode cX9_wordKind 49 = .ok (.invokevirtual 117, 3) := by decide +kernel
theorem dwk_52 : decode cX9_wordKind 52 = .ok (.iload 5, 2) := by decide +kernel
theorem dwk_54 : decode cX9_wordKind 54 = .ok (.iload_n 2, 1) := by decide +kernel
theorem dwk_55 : decode cX9_wordKind 55 = .ok (.if_icmp .ge 14, 3) := by decide +kernel
theorem dwk_58 : decode cX9_wordKind 58 = .ok (.aload_n 0, 1) := by decide +kernel
theorem dwk_59 : decode cX9_wordKind 59 = .ok (.iload_n 1, 1) := by decide +kernel
theorem dwk_60 : decode cX9_wordKind 60 = .ok (.iload 5, 2) := by decide +kernel
theorem dwk_62 : decode cX9_wordKind 62 = .ok (.iadd, 1) := by decide +kernel
theorem dwk_63 : decode cX9_wordKind 63 = .ok (.invokevirtual 78, 3) := by decide +kernel
theorem dwk_66 : decode cX9_wordKind 66 = .ok (.goto 5, 3) := by decide +kernel
theorem dwk_69 : decode cX9_wordKind 69 = .ok (.bipush 32, 2) := by decide +kernel
theorem dwk_71 : decode cX9_wordKind 71 = .ok (.if_icmp .ne 7, 3) := by decide +kernel
theorem dwk_74 : decode cX9_wordKind 74 = .ok (.iconst 1, 1) := by decide +kernel
theorem dwk_75 : decode cX9_wordKind 75 = .ok (.goto 4, 3) := by decide +kernel
theorem dwk_78 : decode cX9_wordKind 78 = .ok (.iconst 0, 1) := by decide +kernel
theorem dwk_79 : decode cX9_wordKind 79 = .ok (.istore 4, 2) := by decide +kernel
theorem dwk_81 : decode cX9_wordKind 81 = .ok (.iinc 5 1, 3) := by decide +kernel
theorem dwk_84 : decode cX9_wordKind 84 = .ok (.goto (-56), 3) := by decide +kernel
theorem dwk_87 : decode cX9_wordKind 87 = .ok (.iload 4, 2) := by decide +kernel
theorem dwk_89 : decode cX9_wordKind 89 = .ok (.ifCond .eq 8, 3) := by decide +kernel
theorem dwk_92 : decode cX9_wordKind 92 = .ok (.bipush 30, 2) := by decide +kernel
theorem dwk_94 : decode cX9_wordKind 94 = .ok (.iload_n 3, 1) := by decide +kernel
theorem dwk_95 : decode cX9_wordKind 95 = .ok (.iadd, 1) := by decide +kernel
theorem dwk_96 : decode cX9_wordKind 96 = .ok (.ireturn, 1) := by decide +kernel
theorem dwk_97 : decode cX9_wordKind 97 = .ok (.iinc 3 1, 3) := by decide +kernel
theorem dwk_100 : decode cX9_wordKind 100 = .ok (.goto (-98), 3) := by decide +kernel
theorem dwk_103 : decode cX9_wordKind 103 = .ok (.iconst 2, 1) := by decide +kernel
theorem dwk_104 : decode cX9_wordKind 104 = .ok (.ireturn, 1) := by decide +kernel
theorem lt_ini0 : Cond.initialized RJ0 ∈ ja_B := ja_m (ck_tb_in (p := 4883) (by decide +kernel)) rfl
theorem lt_ini1 : Cond.initialized RJ1 ∈ ja_B := ja_m (ck_tb_in (p := 4884) (by decide +kernel)) rfl
theorem lt_ini3 : Cond.initialized RJ3 ∈ ja_B := ja_m (ck_tb_in (p := 4885) (by decide +kernel)) rfl
theorem lt_m112 : Cond.methodLink RX9 112 yJ0_length_8abf5 ∈ ja_B := ja_m (ck_tb_in (p := 5516) (by decide +kernel)) rfl
theorem lt_iLen : Cond.instanceMethod yJ0_length_8abf5 ∈ ja_B := ja_m (ck_tb_in (p := 5517) (by decide +kernel)) rfl
theorem lt_sLen : Cond.selects RJ0 yJ0_length_8abf5 yJ0_length_8abf5 ∈ ja_B := ja_m (ck_tb_in (p := 5518) (by decide +kernel)) rfl
theorem lt_cLen : Cond.code yJ0_length_8abf5 cJ0_length_8abf5 1 (some .int) ∈ ja_B := ja_m (ck_tb_in (p := 5519) (by decide +kernel)) rfl
theorem lt_m335 : Cond.methodLink RJ0 335 yJ0_coder_7d493 ∈ ja_B := ja_m (ck_tb_in (p := 5520) (by decide +kernel)) rfl
theorem lt_iCod : Cond.instanceMethod yJ0_coder_7d493 ∈ ja_B := ja_m (ck_tb_in (p := 5521) (by decide +kernel)) rfl
theorem lt_sCod : Cond.selects RJ0 yJ0_coder_7d493 yJ0_coder_7d493 ∈ ja_B := ja_m (ck_tb_in (p := 5522) (by decide +kernel)) rfl
theorem lt_cCod : Cond.code yJ0_coder_7d493 cJ0_coder_7d493 1 (some .byte) ∈ ja_B := ja_m (ck_tb_in (p := 5523) (by decide +kernel)) rfl
theorem lt_f38 : Cond.fieldLink RJ0 38 "java/lang/String" "COMPACT_STRINGS" "Z" ∈ ja_B := ja_m (ck_tb_in (p := 5524) (by decide +kernel)) rfl
theorem lt_m117 : Cond.methodLink RX9 117 yJ0_charAt_5068e ∈ ja_B := ja_m (ck_tb_in (p := 5526) (by decide +kernel)) rfl
theorem lt_iCh : Cond.instanceMethod yJ0_charAt_5068e ∈ ja_B := ja_m (ck_tb_in (p := 5527) (by decide +kernel)) rfl
theorem lt_sCh : Cond.selects RJ0 yJ0_charAt_5068e yJ0_charAt_5068e ∈ ja_B := ja_m (ck_tb_in (p := 5528) (by decide +kernel)) rfl
theorem lt_cCh : Cond.code yJ0_charAt_5068e cJ0_charAt_5068e 2 (some .char) ∈ ja_B := ja_m (ck_tb_in (p := 5529) (by decide +kernel)) rfl
theorem lt_m492 : Cond.methodLink RJ0 492 yJ0_isLatin1_aae02 ∈ ja_B := ja_m (ck_tb_in (p := 5530) (by decide +kernel)) rfl
theorem lt_iLa : Cond.instanceMethod yJ0_isLatin1_aae02 ∈ ja_B := ja_m (ck_tb_in (p := 5531) (by decide +kernel)) rfl
theorem lt_sLa : Cond.selects RJ0 yJ0_isLatin1_aae02 yJ0_isLatin1_aae02 ∈ ja_B := ja_m (ck_tb_in (p := 5532) (by decide +kernel)) rfl
theorem lt_cLa : Cond.code yJ0_isLatin1_aae02 cJ0_isLatin1_aae02 1 (some .boolean) ∈ ja_B := ja_m (ck_tb_in (p := 5533) (by decide +kernel)) rfl
theorem lt_m495 : Cond.methodLink RJ0 495 yJ1_charAt_3b067 ∈ ja_B := ja_m (ck_tb_in (p := 5534) (by decide +kernel)) rfl
theorem lt_tLc : Cond.static yJ1_charAt_3b067 ∈ ja_B := ja_m (ck_tb_in (p := 5535) (by decide +kernel)) rfl
theorem lt_cLc : Cond.code yJ1_charAt_3b067 cJ1_charAt_3b067 2 (some .char) ∈ ja_B := ja_m (ck_tb_in (p := 5536) (by decide +kernel)) rfl
theorem lt_m9 : Cond.methodLink RJ1 9 yJ0_checkIndex_df160 ∈ ja_B := ja_m (ck_tb_in (p := 5537) (by decide +kernel)) rfl
theorem lt_tCi : Cond.static yJ0_checkIndex_df160 ∈ ja_B := ja_m (ck_tb_in (p := 5538) (by decide +kernel)) rfl
theorem lt_cCi : Cond.code yJ0_checkIndex_df160 cJ0_checkIndex_df160 2 none ∈ ja_B := ja_m (ck_tb_in (p := 5539) (by decide +kernel)) rfl
theorem lt_f1053 : Cond.fieldLink RJ0 1053 "jdk/internal/util/Preconditions" "SIOOBE_FORMATTER" "Ljava/util/function/BiFunction;" ∈ ja_B := ja_m (ck_tb_in (p := 5540) (by decide +kernel)) rfl
theorem lt_m1059 : Cond.methodLink RJ0 1059 yJ3_checkIndex_8e157 ∈ ja_B := ja_m (ck_tb_in (p := 5542) (by decide +kernel)) rfl
theorem lt_tPi : Cond.static yJ3_checkIndex_8e157 ∈ ja_B := ja_m (ck_tb_in (p := 5543) (by decide +kernel)) rfl
theorem lt_cPi : Cond.code yJ3_checkIndex_8e157 cJ3_checkIndex_8e157 3 (some .int) ∈ ja_B := ja_m (ck_tb_in (p := 5544) (by decide +kernel)) rfl
theorem lt_f9 : Cond.fieldLink RJ0 9 "java/lang/String" "value" "[B" ∈ ja_B := ja_m (ck_tb_in (p := 8257) (by decide +kernel)) rfl
theorem lt_f15 : Cond.fieldLink RJ0 15 "java/lang/String" "coder" "B" ∈ ja_B := ja_m (ck_tb_in (p := 8258) (by decide +kernel)) rfl
section
variable {l : Launch} {D : va_G} {cA : Nat → ClassId} {ad : Nat → Nat} {sp : ja_S} {K d : Nat} {cc : ByteArray} {nL : Nat} {rt : Option FieldType} {pc : Nat} {L : List (Nat × ja_V)} {S : List ja_V} {h : ja_H} {Q : Option ja_V → ja_H → Prop}
theorem lt_ldc (hd : decode cc pc = .ok (.ldc 110, 2)) (k : ja_J l D cA ad sp K d RX9 cc nL rt (pc + 2) L ((2, ((K : Nat) : Int)) :: S) h Q) : ja_J l D cA ad sp K d RX9 cc nL rt pc L S h Q := by
  intro p e s m args below meth c H locs ls hx hb hml hr hown hts hnw hlt hlk hK hP hi hS hl
  exact va_ldcS hx hb hown hlt.1 hd (k p e s m args below meth c H locs ls hx hb hml hr hown hts hnw hlt hlk hK hP hi hS hl)
theorem lt_comp (hd : decode cc pc = .ok (.getstatic 38, 3)) (k : ja_J l D cA ad sp K d RJ0 cc nL rt (pc + 3) L ((0, 1) :: S) h Q) : ja_J l D cA ad sp K d RJ0 cc nL rt pc L S h Q := by
  intro p e s m args below meth c H locs ls hx hb hml hr hown hts hnw hlt hlk hK hP hi hS hl
  exact va_gets (v := .int (Int32.ofInt 1)) hx hb hlt.2.2.1 hS hown (hts _ lt_f38) (fun _ h9 => h9) hd (k p e s m args below meth c H locs ls hx hb hml hr hown hts hnw hlt hlk hK hP hi hS hl)
theorem lt_coder (hd : decode cc pc = .ok (.getfield 15, 3)) (k : ja_J l D cA ad sp K d RJ0 cc nL rt (pc + 3) L ((0, 0) :: S) h Q) : ja_J l D cA ad sp K d RJ0 cc nL rt pc L ((2, ((K : Nat) : Int)) :: S) h Q := by
  intro p e s m args below meth c H locs ls hx hb hml hr hown hts hnw hlt hlk hK hP hi hS hl
  exact vk_getf (v := .int (Int32.ofInt 0)) hx hb hlt.2.1.2.1 hS hown (hts _ lt_f15) (fun _ h9 => h9) hd (k p e s m args below meth c H locs ls hx hb hml hr hown hts hnw hlt hlk hK hP hi hS hl)
theorem lt_value (hd : decode cc pc = .ok (.getfield 9, 3)) (k : ja_J l D cA ad sp K d RJ0 cc nL rt (pc + 3) L ((2, ((K + 1 : Nat) : Int)) :: S) h Q) : ja_J l D cA ad sp K d RJ0 cc nL rt pc L ((2, ((K : Nat) : Int)) :: S) h Q := by
  intro p e s m args below meth c H locs ls hx hb hml hr hown hts hnw hlt hlk hK hP hi hS hl
  exact vk_getf (v := .ref (ad (K + 1))) hx hb hlt.2.1.2.2.1 hS hown (hts _ lt_f9) (fun _ h9 => h9) hd (k p e s m args below meth c H locs ls hx hb hml hr hown hts hnw hlt hlk hK hP hi hS hl)
theorem lt_alen {own : String} (hd : decode cc pc = .ok (.arraylength, 1)) (k : ja_J l D cA ad sp K d own cc nL rt (pc + 1) L ((0, 308) :: S) h Q) : ja_J l D cA ad sp K d own cc nL rt pc L ((2, ((K + 1 : Nat) : Int)) :: S) h Q := by
  intro p e s m args below meth c H locs ls hx hb hml hr hown hts hnw hlt hlk hK hP hi hS hl
  obtain ⟨f, hT⟩ := hlt.2.1.2.2.2
  exact va_tlen (v := Int32.ofInt 308) hx hb hT hS rfl hd (k p e s m args below meth c H locs ls hx hb hml hr hown hts hnw hlt hlk hK hP hi hS hl)
theorem lt_bald {own : String} {i : Int} (h0 : 0 ≤ i) (h1 : i < 308) (hd : decode cc pc = .ok (.baload, 1)) (k : ∀ x : Int, ja_J l D cA ad sp K d own cc nL rt (pc + 1) L ((0, x) :: S) h Q) : ja_J l D cA ad sp K d own cc nL rt pc L ((0, i) :: (2, ((K + 1 : Nat) : Int)) :: S) h Q := by
  intro p e s m args below meth c H locs ls hx hb hml hr hown hts hnw hlt hlk hK hP hi hS hl
  obtain ⟨f, hT⟩ := hlt.2.1.2.2.2
  obtain ⟨hin, hix⟩ := ja_ix (n := 308) h0 h1 (by decide)
  refine va_tb (v := .int (f (Int32.ofInt i).toNatClampNeg)) hx hb hT hS hin rfl hd ?_
  have hk := k (f (Int32.ofInt i).toNatClampNeg).toInt p e s m args below meth c H locs ls hx hb hml hr hown hts hnw hlt hlk hK hP hi hS hl
  have e : ja_c ad (0, (f (Int32.ofInt i).toNatClampNeg).toInt) = .int (f (Int32.ofInt i).toNatClampNeg) := by
    show Value.int (Int32.ofInt _) = _
    rw [Int32.ofInt_toInt]
  rw [← e]
  exact hk
theorem lt_i2c {own : String} {x : Int} (h0 : 0 ≤ x) (h1 : x ≤ 255) (hd : decode cc pc = .ok (.i2c, 1)) (k : ja_J l D cA ad sp K d own cc nL rt (pc + 1) L ((0, x) :: S) h Q) : ja_J l D cA ad sp K d own cc nL rt pc L ((0, x) :: S) h Q := by
  intro p e s m args below meth c H locs ls hx hb hml hr hown hts hnw hlt hlk hK hP hi hS hl
  have ez : (Int32.ofInt x).toInt = x := Int32.toInt_ofInt_of_le (by omega) (by omega)
  exact lv_i2c (x := Int32.ofInt x) (v := Int32.ofInt x) hx hb hd (lg_i2c_word (by rw [ez]; exact h0) (by rw [ez]; omega)) (k p e s m args below meth c H locs ls hx hb hml hr hown hts hnw hlt hlk hK hP hi hS hl)
theorem lt_breturn {own : String} (hd : decode cc pc = .ok (.ireturn, 1)) (hrt : rt = some .byte) (hQ : Q (some (0, 0)) h) : ja_J l D cA ad sp K d own cc nL rt pc L [(0, 0)] h Q := by
  intro p e s m args below meth c H locs ls hx hb hml hr hown hts hnw hlt hlk hK hP hi hS hl
  exact W.zret (v := Int32.ofInt 0) hx hb (hr.trans hrt) rfl (fun t ht hW => ⟨some (0, 0), h, rfl, hQ, by rw [ht]; exact hP, hS.F ht⟩) hS.2.2 hd hlk
theorem lt_creturn {own : String} {x : Int} (h0 : 0 ≤ x) (h1 : x ≤ 255) (hd : decode cc pc = .ok (.ireturn, 1)) (hrt : rt = some .char) (hQ : Q (some (0, x)) h) : ja_J l D cA ad sp K d own cc nL rt pc L [(0, x)] h Q := by
  intro p e s m args below meth c H locs ls hx hb hml hr hown hts hnw hlt hlk hK hP hi hS hl
  have e : (Int32.ofInt x).toInt = x := Int32.toInt_ofInt_of_le (by omega) (by omega)
  have en : narrow .char (.int (Int32.ofInt x)) = .int (Int32.ofInt x) := congrArg Value.int (lg_i2c_word (by rw [e]; exact h0) (by rw [e]; omega))
  exact W.zret (v := Int32.ofInt x) hx hb (hr.trans hrt) en (fun t ht hW => ⟨some (0, x), h, rfl, hQ, by rw [ht]; exact hP, hS.F ht⟩) hS.2.2 hd hlk
/-- a call of the literal's method -/
theorem lt_call {own : String} {d' index n : Nat} {y : MethodName} {cc' : ByteArray} {nL' : Nat} {rt' : Option FieldType} {vals : List ja_V} (hw1 : Cond.methodLink own index y ∈ ja_B) (hw4 : Cond.initialized y.cls ∈ ja_B) (hw5 : Cond.code y cc' nL' rt' ∈ ja_B) (hyc : y.cls = "java/lang/String") (hy : y.cls ≠ "java/lang/invoke/MethodHandle" ∧ y.cls ≠ "java/lang/invoke/VarHandle" ∧ (parseMethodDescriptor y.desc).map (fun d => d.parameters.length) = some n ∧ plainName y.cls = true) (hn : vals.length = n) (hdd : d' < d) (hnL : nL' ≤ 45) (hw2 : Cond.instanceMethod y ∈ ja_B) (hw3 : Cond.selects y.cls y y ∈ ja_B) (hlen : ja_wd vals + 1 ≤ nL') (hwd : ja_wd S ≤ 8) (hd : decode cc pc = .ok (.invokevirtual index, 3)) (k : ja_M l D cA ad sp K d' y cc' nL' rt' ((2, ((K : Nat) : Int)) :: vals) h (fun r h' => ja_J l D cA ad sp K d own cc nL rt (pc + 3) L (r.toList ++ S) h' Q)) : ja_J l D cA ad sp K d own cc nL rt pc L (vals.reverse ++ (2, ((K : Nat) : Int)) :: S) h Q := by
  intro p e s m args below meth c H locs ls hx hb hml hr hown hts hnw hlt hlk hK hP hi hS hl
  have hlen2 : ja_wd ((2, ((K : Nat) : Int)) :: vals) ≤ nL' := by
    have e : ja_wd ((2, ((K : Nat) : Int)) :: vals) = 1 + ja_wd vals := rfl
    omega
  have hM := ja_met hi hy.2.2.2 hlen2 k
  have cb : CallB (ja_R d) s args own index y cc' nL' rt' (Cond.code y cc' nL' rt' :: ja_B) (ja_R d') 0 0 n := callB_of n hts (ja_good hw5) rfl rfl rfl (hts _ hw4) (hts _ hw1) ⟨hy.1, hy.2.1, hy.2.2.1⟩ ⟨by show d' + 1 ≤ d; omega, by show 8 + (nL' + 11) + 64 * d' ≤ 64 * d; omega⟩
  have hrecv : ∃ cell : Cell, H[ad K]? = some cell ∧ cell.vm.isStatics = false ∧ s.vm.findClass y.cls = some cell.cls := by
    obtain ⟨cell, g1, g2, g3, -⟩ := hlt.2.1.1.kept hS.2.1
    exact ⟨cell, g1, g2, by rw [hyc]; exact g3⟩
  have hpre : PreV s H y.cls (ad K) (ja_PC D cA ad sp K ((2, ((K : Nat) : Int)) :: vals) h) (vals.map (ja_c ad)) := ⟨ja_blind, hrecv, fun U hU hW => ⟨rfl, by rw [hU]; exact hP, va_K.moved hW.alike hK, ja_N.warm hW hnw, ja_Lt.call hW hU hS hlt⟩⟩
  have run := va_runV (e := e) (below := below) (meth := meth) (locs := locs) (cells := 0) (slots := 0) (g := F0 m pc ls ((vals.reverse ++ (2, ((K : Nat) : Int)) :: S).map (ja_c ad))) (rest := S.map (ja_c ad)) ⟨hx, hb, hml, hown, hts⟩ hM ⟨cb, hts _ hw2, hts _ hw3⟩ hpre rfl (by rw [List.length_map, hn]) hl.1 (by simp [ja_c]) (lv_room (by rw [ja_wd_cat]; exact hwd)) hd ⟨Nat.le_refl _, Nat.le_refl _⟩
  intro T hT X
  obtain ⟨v, st₀, t, T', L1, h0, X', hL1, e1, e2, ⟨r, h', ho, hk, hP', hF0⟩, st⟩ := run T hT X
  have hv : v = r.map (ja_c ad) := by cases ho; rfl
  subst hv
  have hF := hF0
  unfold va_F at hF
  rw [h0] at hF
  obtain ⟨t2, a1, b1⟩ := hk p e s m args below meth c T'.heap (locs ++ L1) ls hx hb hml hr hown hts hnw hlt hlk hK (by rw [e1]; exact hP') hi ⟨Nat.le_trans hS.1 (by rw [e1]; exact hF.1), fun q h1 h2 => by rw [e1, hF.2 q (Nat.lt_of_lt_of_le h1 hS.1) h2]; exact hS.2.1 q h1 h2, fun q hq => by
      rcases List.mem_append.mp hq with h | h
      · exact hS.2.2 q h
      · exact hL1 q h⟩ hl T' rfl X'
  rw [← ja_stk] at a1
  exact ⟨t2, st t2 a1, b1⟩
/-- Preconditions.checkIndex, within -/
theorem lt_pre {x y : Int} {v : Value} (hv : v = .null ∨ ∃ t : Nat, v = .ref t) (h0 : 0 ≤ x) (h1 : x < y) (h2 : y ≤ 2147483647) : Met l yJ3_checkIndex_8e157 (Cond.code yJ3_checkIndex_8e157 cJ3_checkIndex_8e157 3 (some .int) :: ja_B) (ja_R 0) (fun a U => a = #[.int (Int32.ofInt x), .int (Int32.ofInt y), v] ∧ va_P D ja_cl (ja_w cA ad sp K h) U.heap) (ja_Q D cA ad sp K (fun r h' => r = some (0, x) ∧ h' = h)) 0 0 (ja_A ad K) := by
  refine Met.ofW (cc := cJ3_checkIndex_8e157) (maxL := 3) (ret := some .int) (by decide) rfl ?_
  intro p e s m args below meth c s₁ B hml hv0
  obtain ⟨rfl, hP⟩ := hv0
  have hx := B.exec
  have hb := B.bytes
  have hr := B.returns
  have hlocks := B.notSynchronized
  have hl := lv_entry ([.int (Int32.ofInt x), .int (Int32.ofInt y), v]) (n := 3) (by rcases hv with rfl | ⟨t, rfl⟩ <;> exact Nat.le_of_ble_eq_true rfl)
  rw [lg_entry_eq]
  generalize (lg_sl ([.int (Int32.ofInt x), .int (Int32.ofInt y), v]) ++ List.replicate (3 - (lg_sl ([.int (Int32.ofInt x), .int (Int32.ofInt y), v])).length) Slot.unset).toArray = ls at hl ⊢
  have hl : lv_has ls 3 [(0, .int (Int32.ofInt x)), (1, .int (Int32.ofInt y)), (2, v)] := by rcases hv with rfl | ⟨t, rfl⟩ <;> exact hl
  have hS : va_S (ja_A ad K) s.heap s.heap [] := va_S.rf
  refine lv_iload_n hx hb dpi_0 rfl (lv_at hl 0 rfl) ?_
  refine lv_if_lt (x := Int32.ofInt x) hx hb dpi_1 (tgt := 9) rfl (fun q => absurd ((ja_lt (x := x) (y := 0) ⟨by omega, by omega⟩ ja_r0).mp q) (by omega)) (fun _ => ?_)
  refine lv_iload_n hx hb dpi_4 rfl (lv_at hl 0 rfl) ?_
  refine lv_iload_n hx hb dpi_5 rfl (lv_at hl 1 rfl) ?_
  refine lv_icmp_lt (x := Int32.ofInt x) (y := Int32.ofInt y) hx hb dpi_6 (tgt := 16) rfl (fun _ => ?_) (fun q => absurd ((ja_lt (x := x) (y := y) ⟨by omega, by omega⟩ ⟨by omega, by omega⟩).mpr h1) q)
  refine lv_iload_n hx hb dpi_16 rfl (lv_at hl 0 rfl) ?_
  exact W.iret (v := Int32.ofInt x) hx hb hr (fun t ht hW => ⟨some (0, x), h, rfl, ⟨rfl, rfl⟩, by rw [ht]; exact hP, hS.F ht⟩) hS.2.2 dpi_17 hlocks
theorem lt_chk {x y : Int} (h0 : 0 ≤ x) (h1 : x < y) (h2 : y ≤ 2147483647) (hdd : 0 < d) (hwd : ja_wd S ≤ 8) (hd : decode cc pc = .ok (.getstatic 1053, 3)) (hd2 : decode cc (pc + 3) = .ok (.invokestatic 1059, 3)) (k : ja_J l D cA ad sp K d RJ0 cc nL rt (pc + 6) L ((0, x) :: S) h Q) : ja_J l D cA ad sp K d RJ0 cc nL rt pc L ((0, y) :: (0, x) :: S) h Q := by
  intro p e s m args below meth c H locs ls hx hb hml hr hown hts hnw hlt hlk hK hP hi hS hl
  have key : ∀ v : Value, (v = .null ∨ ∃ t : Nat, v = .ref t) → W p l e (ja_R d) s m args below meth c H locs 0 0 (MQ below (ja_Q D cA ad sp K Q) args s 0 0 (ja_A ad K)) (F0 m (pc + 3) ls (v :: .int (Int32.ofInt y) :: .int (Int32.ofInt x) :: S.map (ja_c ad))) := by
    intro v hv
    have hM := lt_pre (l := l) (D := D) (cA := cA) (ad := ad) (sp := sp) (K := K) (h := h) hv h0 h1 h2
    have cb : CallB (ja_R d) s args RJ0 1059 yJ3_checkIndex_8e157 cJ3_checkIndex_8e157 3 (some .int) (Cond.code yJ3_checkIndex_8e157 cJ3_checkIndex_8e157 3 (some .int) :: ja_B) (ja_R 0) 0 0 3 := callB_of 3 hts (ja_good lt_cPi) rfl rfl rfl (hts _ lt_ini3) (hts _ lt_m1059) ⟨by decide, by decide, by decide +kernel⟩ ⟨by show 0 + 1 ≤ d; omega, by show 8 + (3 + 11) + 64 * 0 ≤ 64 * d; omega⟩
    have hpre : PreS s H (fun a U => a = #[.int (Int32.ofInt x), .int (Int32.ofInt y), v] ∧ va_P D ja_cl (ja_w cA ad sp K h) U.heap) [.int (Int32.ofInt x), .int (Int32.ofInt y), v] := ⟨fun a U g mk q => q, fun U hU hW => ⟨rfl, by rw [hU]; exact hP⟩⟩
    have run := va_runS (e := e) (below := below) (meth := meth) (locs := locs) (cells := 0) (slots := 0) (g := F0 m (pc + 3) ls (v :: .int (Int32.ofInt y) :: .int (Int32.ofInt x) :: S.map (ja_c ad))) (rest := S.map (ja_c ad)) ⟨hx, hb, hml, hown, hts⟩ hM ⟨cb, hts _ lt_tPi⟩ hpre rfl rfl hl.1 rfl (lv_room (by rw [ja_wd_cat]; exact hwd)) hd2 ⟨Nat.le_refl _, Nat.le_refl _⟩
    intro T hT X
    obtain ⟨v, st₀, t, T', L1, h0', X', hL1, e1, e2, ⟨r, h', ho, ⟨hr1, hr2⟩, hP', hF0⟩, st⟩ := run T hT X
    subst hr1
    subst hr2
    have hv' : v = some (.int (Int32.ofInt x)) := by cases ho; rfl
    subst hv'
    have hF := hF0
    unfold va_F at hF
    rw [h0'] at hF
    obtain ⟨t2, a1, b1⟩ := k p e s m args below meth c T'.heap (locs ++ L1) ls hx hb hml hr hown hts hnw hlt hlk hK (by rw [e1]; exact hP') hi ⟨Nat.le_trans hS.1 (by rw [e1]; exact hF.1), fun q h1 h2 => by rw [e1, hF.2 q (Nat.lt_of_lt_of_le h1 hS.1) h2]; exact hS.2.1 q h1 h2, fun q hq => by
      rcases List.mem_append.mp hq with h | h
      · exact hS.2.2 q h
      · exact hL1 q h⟩ hl T' rfl X'
    exact ⟨t2, st t2 a1, b1⟩
  rcases hlt.2.2.2 with z | ⟨t, z⟩
  · exact va_gets hx hb z hS hown (hts _ lt_f1053) (fun _ h9 => h9) hd (key _ (Or.inl rfl))
  · exact va_gets hx hb z hS hown (hts _ lt_f1053) (fun _ h9 => h9) hd (key _ (Or.inr ⟨t, rfl⟩))
end
section
variable {l : Launch} {D : va_G} {cA : Nat → ClassId} {ad : Nat → Nat} {sp : ja_S} {K : Nat} {h : ja_H} {Q : Option ja_V → ja_H → Prop}
theorem lt_Mcoder (k : Q (some (0, 0)) h) : ja_M l D cA ad sp K 0 yJ0_coder_7d493 cJ0_coder_7d493 1 (some .byte) [(2, ((K : Nat) : Int))] h Q := by
  show ja_J l D cA ad sp K 0 RJ0 cJ0_coder_7d493 1 (some .byte) 0 [(0, (2, ((K : Nat) : Int)))] [] h Q
  refine lt_comp dco_0 ?_
  refine ja_if_eq 13 dco_3 rfl ⟨by decide, by decide⟩ (fun q => absurd q (by decide)) (fun _ => ?_)
  refine ja_aload_n dco_6 rfl rfl ?_
  refine lt_coder dco_7 ?_
  refine ja_goto 14 dco_10 rfl ?_
  exact lt_breturn dco_14 rfl k
theorem lt_Mlatin (k : Q (some (0, 1)) h) : ja_M l D cA ad sp K 0 yJ0_isLatin1_aae02 cJ0_isLatin1_aae02 1 (some .boolean) [(2, ((K : Nat) : Int))] h Q := by
  show ja_J l D cA ad sp K 0 RJ0 cJ0_isLatin1_aae02 1 (some .boolean) 0 [(0, (2, ((K : Nat) : Int)))] [] h Q
  refine lt_comp dil_0 ?_
  refine ja_if_eq 17 dil_3 rfl ⟨by decide, by decide⟩ (fun q => absurd q (by decide)) (fun _ => ?_)
  refine ja_aload_n dil_6 rfl rfl ?_
  refine lt_coder dil_7 ?_
  refine ja_if_ne 17 dil_10 rfl ⟨by decide, by decide⟩ (fun q => absurd rfl q) (fun _ => ?_)
  refine ja_iconst dil_13 ?_
  refine ja_goto 18 dil_14 rfl ?_
  exact ja_zreturn dil_18 rfl (Or.inr rfl) k
theorem lt_Mlen (k : Q (some (0, 308)) h) : ja_M l D cA ad sp K 1 yJ0_length_8abf5 cJ0_length_8abf5 1 (some .int) [(2, ((K : Nat) : Int))] h Q := by
  show ja_J l D cA ad sp K 1 RJ0 cJ0_length_8abf5 1 (some .int) 0 [(0, (2, ((K : Nat) : Int)))] [] h Q
  refine ja_aload_n dle_0 rfl rfl ?_
  refine lt_value dle_1 ?_
  refine lt_alen dle_4 ?_
  refine ja_aload_n dle_5 rfl rfl ?_
  refine lt_call (vals := []) (n := 0) (d' := 0) lt_m335 lt_ini0 lt_cCod rfl (by decide +kernel) rfl (by decide) (by decide) lt_iCod lt_sCod (by decide) (show (1 : Nat) ≤ 8 by decide) dle_6 (lt_Mcoder ?_)
  refine ja_ishr 308 dle_9 (by decide) ?_
  exact ja_ireturn dle_10 rfl k
theorem lt_Mchk {x y : Int} (h0 : 0 ≤ x) (h1 : x < y) (h2 : y ≤ 2147483647) (k : Q none h) : ja_M l D cA ad sp K 1 yJ0_checkIndex_df160 cJ0_checkIndex_df160 2 none [(0, x), (0, y)] h Q := by
  show ja_J l D cA ad sp K 1 RJ0 cJ0_checkIndex_df160 2 none 0 [(0, (0, x)), (1, (0, y))] [] h Q
  refine ja_iload_n dci_0 rfl rfl ?_
  refine ja_iload_n dci_1 rfl rfl ?_
  refine lt_chk h0 h1 h2 (by decide) (show (0 : Nat) ≤ 8 by decide) dci_2 dci_5 ?_
  refine ja_pop dci_8 Nat.zero_ne_one ?_
  exact ja_return dci_9 rfl k
theorem lt_Mlc {x : Int} (h0 : 0 ≤ x) (h1 : x < 308) (k : ∀ v : Int, 0 ≤ v ∧ v ≤ 255 → Q (some (0, v)) h) : ja_M l D cA ad sp K 2 yJ1_charAt_3b067 cJ1_charAt_3b067 2 (some .char) [(2, ((K + 1 : Nat) : Int)), (0, x)] h Q := by
  show ja_J l D cA ad sp K 2 RJ1 cJ1_charAt_3b067 2 (some .char) 0 [(0, (2, ((K + 1 : Nat) : Int))), (1, (0, x))] [] h Q
  refine ja_iload_n dlc_0 rfl rfl ?_
  refine ja_aload_n dlc_1 rfl rfl ?_
  refine lt_alen dlc_2 ?_
  refine ja_callS (S := []) (vals := [(0, x), (0, 308)]) (n := 2) (d' := 1) lt_m9 lt_ini0 lt_cCi (by decide +kernel) rfl (by decide) (by decide) lt_tCi (by show (2 : Nat) ≤ 2; decide) (show (0 : Nat) ≤ 8 by decide) dlc_3 (lt_Mchk h0 h1 (by decide) ?_)
  refine ja_aload_n dlc_6 rfl rfl ?_
  refine ja_iload_n dlc_7 rfl rfl ?_
  refine lt_bald h0 h1 dlc_8 (fun v => ?_)
  refine ja_sipush 255 dlc_9 rfl ?_
  refine mo_iandc dlc_12 (by decide) (fun w hw => ?_)
  refine lt_i2c hw.1 hw.2 dlc_13 ?_
  exact lt_creturn hw.1 hw.2 dlc_14 rfl (k w hw)
theorem lt_Mchar {x : Int} (h0 : 0 ≤ x) (h1 : x < 308) (k : ∀ v : Int, 0 ≤ v ∧ v ≤ 255 → Q (some (0, v)) h) : ja_M l D cA ad sp K 3 yJ0_charAt_5068e cJ0_charAt_5068e 2 (some .char) [(2, ((K : Nat) : Int)), (0, x)] h Q := by
  show ja_J l D cA ad sp K 3 RJ0 cJ0_charAt_5068e 2 (some .char) 0 [(0, (2, ((K : Nat) : Int))), (1, (0, x))] [] h Q
  refine ja_aload_n dch_0 rfl rfl ?_
  refine lt_call (S := []) (vals := []) (n := 0) (d' := 0) lt_m492 lt_ini0 lt_cLa rfl (by decide +kernel) rfl (by decide) (by decide) lt_iLa lt_sLa (by decide) (show (0 : Nat) ≤ 8 by decide) dch_1 (lt_Mlatin ?_)
  refine ja_if_eq 16 dch_4 rfl ⟨by decide, by decide⟩ (fun q => absurd q (by decide)) (fun _ => ?_)
  refine ja_aload_n dch_7 rfl rfl ?_
  refine lt_value dch_8 ?_
  refine ja_iload_n dch_11 rfl rfl ?_
  refine ja_callS (S := []) (vals := [(2, ((K + 1 : Nat) : Int)), (0, x)]) (n := 2) (d' := 2) lt_m495 lt_ini1 lt_cLc (by decide +kernel) rfl (by decide) (by decide) lt_tLc (by show (2 : Nat) ≤ 2; decide) (show (0 : Nat) ≤ 8 by decide) dch_12 (lt_Mlc h0 h1 (fun v hv => ?_))
  exact lt_creturn hv.1 hv.2 dch_15 rfl (k v hv)
end

section
variable {l : Launch} {D : va_G} {cA : Nat → ClassId} {ad : Nat → Nat} {v0 : Int}
theorem wk_mt : cw_mt 230 = (yX9_wordKind, cX9_wordKind, (6, (some .int)), (9, 2, false), (5514, 5513, 6, 4866)) := rfl
theorem wk_mtT : cw_mt 229 = (yX9_textAt, cX9_textAt, (2, (some .int)), (9, 1, false), (5492, 5491, 2, 4866)) := rfl
theorem wk_sT : cw_t229_0 ∈ cw_ss 229 := by
  show cw_t229_0 ∈ [cw_t229_0]
  exact List.mem_singleton.mpr rfl
theorem wk_ne : cw_ss 230 ≠ [] := fun h => absurd (congrArg List.isEmpty h) (by decide +kernel)
theorem wk_m {idx mid pl : Nat} (e : cw_pf 9 idx = some (idx, 2, mid, 0, pl)) : Cond.methodLink RX9 idx (cw_mt mid).1 ∈ ja_B ∧ ck_mok (cw_mt mid) :=
  (cw_plok 230 wk_ne idx _ e).2.2.2.1 rfl
theorem wk_text {cc : ByteArray} {nL : Nat} {rt : Option FieldType} {pc d : Nat} {L : List (Nat × ja_V)} {S : List ja_V} {h : ja_H} {Q : Option ja_V → ja_H → Prop} (hd0 : 0 < d) (ht : ck_H l D cA ad cw_sp cw_fi cw_K cw_pr v0 (cw_mt 229) cw_t229_0) (W : ck_W cw_sp cw_fi cw_K cw_pr v0 h) {y : Int} (hy : ja_r y) (hwd : ja_wd S ≤ 8) (hd : decode cc pc = .ok (.invokevirtual 78, 3)) (kk : ∀ x h', -1 ≤ x ∧ x ≤ 255 → ck_W cw_sp cw_fi cw_K cw_pr v0 h' → ja_J l D cA ad cw_sp cw_K d RX9 cc nL rt (pc + 3) L ((0, x) :: S) h' Q) :
    ja_J l D cA ad cw_sp cw_K d RX9 cc nL rt pc L ((0, y) :: (2, ((1 : Nat) : Int)) :: S) h Q := by
  have hm := wk_m (idx := 78) (mid := 229) (pl := 5489) (by decide +kernel)
  have hM := ht [(2, ((1 : Nat) : Int)), (0, y)] h ⟨⟨.inr (.inr ⟨rfl, rfl⟩), fun i q => (by cases q)⟩, ⟨.inl ⟨rfl, rfl, hy.1, hy.2, hy, fun i q => (by cases q), fun q => (by cases q)⟩, fun i q => (by cases q)⟩, trivial⟩ W
  rw [wk_mtT] at hm hM
  obtain ⟨m0, m1, m2, m3, m4⟩ := hm
  rw [if_neg (show ¬ (false = true) by decide)] at m4
  refine ja_callV (S := S) (vals := [(0, y)]) (n := 1) (d' := 0) (N := 8) (T := TX9) (ci := 9) (q := 1) m0 m2 m1 m3 rfl hd0 (by decide) m4.1 m4.2.1 (by decide +kernel) (by decide +kernel) (by decide) rfl (show (1 : Nat) + 0 + 1 ≤ 2 by decide) hwd hd
    (ja_mono (fun r h' hr => ?_) hM)
  obtain ⟨h1, W'⟩ := hr
  cases r with
  | none => exact h1.elim
  | some v =>
    obtain ⟨x, rfl, a1, a2, -⟩ := ck_int h1.1 rfl
    exact kk x h' ⟨a1, a2⟩ W'

theorem wk_body (ht : ck_H l D cA ad cw_sp cw_fi cw_K cw_pr v0 (cw_mt 229) cw_t229_0) {x y : Int} (hx : ja_r x) (hy : ja_r y) {Q : Option ja_V → ja_H → Prop} (hQ : ∀ r h', 2 ≤ r ∧ r ≤ 73 → ck_W cw_sp cw_fi cw_K cw_pr v0 h' → Q (some (0, r)) h') : ∀ h, ck_W cw_sp cw_fi cw_K cw_pr v0 h → ja_J l D cA ad cw_sp cw_K 4 RX9 cX9_wordKind 6 (some .int) 0 [(0, (2, ((1 : Nat) : Int))), (1, (0, x)), (2, (0, y))] [] h Q := by
  have hx' : -2147483648 ≤ x ∧ x ≤ 2147483647 := hx
  have hy' : -2147483648 ≤ y ∧ y ≤ 2147483647 := hy
  have OUT : ∀ (n : Int) h, ck_W cw_sp cw_fi cw_K cw_pr v0 h → ja_J l D cA ad cw_sp cw_K 4 RX9 cX9_wordKind 6 (some .int) 103 [(3, (0, n)), (0, (2, ((1 : Nat) : Int))), (1, (0, x)), (2, (0, y))] [] h Q := fun n h W => by
    refine ja_iconst dwk_103 ?_
    exact ja_ireturn dwk_104 rfl (hQ _ _ (by decide) W)
  have LOOP : ∀ (N : Nat) (n : Int), 0 ≤ n → n ≤ 44 → (N : Int) = 44 - n → ∀ h, ck_W cw_sp cw_fi cw_K cw_pr v0 h → ja_J l D cA ad cw_sp cw_K 4 RX9 cX9_wordKind 6 (some .int) 2 [(3, (0, n)), (0, (2, ((1 : Nat) : Int))), (1, (0, x)), (2, (0, y))] [] h Q := by
    intro N
    induction N with
    | zero =>
      intro n n0 n1 e h W
      refine ja_iload_n dwk_2 rfl rfl ?_
      refine ja_bipush 7 dwk_3 rfl ?_
      refine ja_icmp_ge 103 dwk_5 rfl hy ⟨by decide, by decide⟩ (fun _ => OUT n h W) (fun _ => ?_)
      refine ja_iload_n dwk_8 rfl rfl ?_
      refine ja_iconst dwk_9 ?_
      refine ja_iadd dwk_10 ?_
      refine ja_bipush 7 dwk_11 rfl ?_
      refine ja_imul dwk_13 ?_
      refine lt_ldc dwk_14 ?_
      refine lt_call (S := [(0, (n + 1) * 7)]) (vals := []) (n := 0) (d' := 1) lt_m112 lt_ini0 lt_cLen rfl (by decide +kernel) rfl (by decide) (by decide) lt_iLen lt_sLen (by decide) (show (1 : Nat) ≤ 8 by decide) dwk_16 (lt_Mlen ?_)
      exact ja_icmp_gt 103 dwk_19 rfl ⟨by omega, by omega⟩ ⟨by decide, by decide⟩ (fun _ => OUT n h W) (fun q => absurd (show (308 : Int) < (n + 1) * 7 by omega) q)
    | succ N ih =>
      intro n n0 n1 e h W
      have NEXT : ∀ h' (k sm : Int), ck_W cw_sp cw_fi cw_K cw_pr v0 h' → ja_J l D cA ad cw_sp cw_K 4 RX9 cX9_wordKind 6 (some .int) 97 [(5, (0, k)), (4, (0, sm)), (3, (0, n)), (0, (2, ((1 : Nat) : Int))), (1, (0, x)), (2, (0, y))] [] h' Q := fun h' k sm W' => by
        refine ja_iinc dwk_97 rfl (by decide) (L2 := [(3, (0, n + 1)), (5, (0, k)), (4, (0, sm)), (0, (2, ((1 : Nat) : Int))), (1, (0, x)), (2, (0, y))]) rfl ?_
        refine ja_goto 2 dwk_100 rfl ?_
        exact ja_wk (fun q hq => by simp only [List.mem_cons, List.not_mem_nil, or_false] at hq; rcases hq with rfl | rfl | rfl | rfl <;> rfl) (ih (n + 1) (by omega) (by omega) (by omega) h' W')
      have DONE : ∀ h' (k sm : Int), (sm = 0 ∨ (sm = 1 ∧ n ≤ 43)) → ck_W cw_sp cw_fi cw_K cw_pr v0 h' → ja_J l D cA ad cw_sp cw_K 4 RX9 cX9_wordKind 6 (some .int) 87 [(5, (0, k)), (4, (0, sm)), (3, (0, n)), (0, (2, ((1 : Nat) : Int))), (1, (0, x)), (2, (0, y))] [] h' Q := fun h' k sm hs W' => by
        refine ja_iload dwk_87 rfl ?_
        refine ja_if_eq 97 dwk_89 rfl ⟨by omega, by omega⟩ (fun _ => NEXT h' k sm W') (fun q => ?_)
        refine ja_bipush 30 dwk_92 rfl ?_
        refine ja_iload_n dwk_94 rfl rfl ?_
        refine ja_iadd dwk_95 ?_
        exact ja_ireturn dwk_96 rfl (hQ _ _ (by omega) W')
      have IN : n ≤ 43 → ∀ (M : Nat) (k sm : Int), 0 ≤ k → k ≤ 7 → (sm = 0 ∨ sm = 1) → (M : Int) = 7 - k → ∀ h', ck_W cw_sp cw_fi cw_K cw_pr v0 h' → ja_J l D cA ad cw_sp cw_K 4 RX9 cX9_wordKind 6 (some .int) 28 [(5, (0, k)), (4, (0, sm)), (3, (0, n)), (0, (2, ((1 : Nat) : Int))), (1, (0, x)), (2, (0, y))] [] h' Q := by
        intro n43 M
        induction M with
        | zero =>
          intro k sm k0 k1 hs e h' W'
          refine ja_iload dwk_28 rfl ?_
          refine ja_bipush 7 dwk_30 rfl ?_
          exact ja_icmp_ge 87 dwk_32 rfl ⟨by omega, by omega⟩ ⟨by decide, by decide⟩ (fun _ => DONE h' k sm (by omega) W') (fun q => absurd (show (7 : Int) ≤ k by omega) q)
        | succ M ihM =>
          intro k sm k0 k1 hs e h' W'
          refine ja_iload dwk_28 rfl ?_
          refine ja_bipush 7 dwk_30 rfl ?_
          refine ja_icmp_ge 87 dwk_32 rfl ⟨by omega, by omega⟩ ⟨by decide, by decide⟩ (fun _ => DONE h' k sm (by omega) W') (fun _ => ?_)
          refine ja_iload dwk_35 rfl ?_
          refine ja_if_eq 87 dwk_37 rfl ⟨by omega, by omega⟩ (fun _ => DONE h' k sm (by omega) W') (fun _ => ?_)
          have J79 : ∀ (v : Int) h2, (v = 0 ∨ v = 1) → ck_W cw_sp cw_fi cw_K cw_pr v0 h2 → ja_J l D cA ad cw_sp cw_K 4 RX9 cX9_wordKind 6 (some .int) 79 [(5, (0, k)), (4, (0, sm)), (3, (0, n)), (0, (2, ((1 : Nat) : Int))), (1, (0, x)), (2, (0, y))] [(0, v)] h2 Q := fun v h2 hv W2 => by
            refine ja_istore dwk_79 (by decide) (L2 := [(4, (0, v)), (5, (0, k)), (3, (0, n)), (0, (2, ((1 : Nat) : Int))), (1, (0, x)), (2, (0, y))]) rfl ?_
            refine ja_iinc dwk_81 rfl (by decide) (L2 := [(5, (0, k + 1)), (4, (0, v)), (3, (0, n)), (0, (2, ((1 : Nat) : Int))), (1, (0, x)), (2, (0, y))]) rfl ?_
            refine ja_goto 28 dwk_84 rfl ?_
            exact ihM (k + 1) v (by omega) (by omega) hv (by omega) h2 W2
          have J71 : ∀ (c t : Int) h2, ja_r c → ja_r t → ck_W cw_sp cw_fi cw_K cw_pr v0 h2 → ja_J l D cA ad cw_sp cw_K 4 RX9 cX9_wordKind 6 (some .int) 71 [(5, (0, k)), (4, (0, sm)), (3, (0, n)), (0, (2, ((1 : Nat) : Int))), (1, (0, x)), (2, (0, y))] [(0, t), (0, c)] h2 Q := fun c t h2 hc ht W2 => by
            refine ja_icmp_ne 78 dwk_71 rfl hc ht (fun _ => ?_) (fun _ => ?_)
            · refine ja_iconst dwk_78 ?_
              exact J79 0 h2 (Or.inl rfl) W2
            · refine ja_iconst dwk_74 ?_
              refine ja_goto 79 dwk_75 rfl ?_
              exact J79 1 h2 (Or.inr rfl) W2
          refine lt_ldc dwk_40 ?_
          refine ja_iload_n dwk_42 rfl rfl ?_
          refine ja_bipush 7 dwk_43 rfl ?_
          refine ja_imul dwk_45 ?_
          refine ja_iload dwk_46 rfl ?_
          refine ja_iadd dwk_48 ?_
          refine lt_call (S := []) (vals := [(0, n * 7 + k)]) (n := 1) (d' := 3) lt_m117 lt_ini0 lt_cCh rfl (by decide +kernel) rfl (by decide) (by decide) lt_iCh lt_sCh (by show (2 : Nat) ≤ 2; decide) (show (0 : Nat) ≤ 8 by decide) dwk_49 (lt_Mchar (by omega) (by omega) (fun c hc => ?_))
          refine ja_iload dwk_52 rfl ?_
          refine ja_iload_n dwk_54 rfl rfl ?_
          refine ja_icmp_ge 69 dwk_55 rfl ⟨by omega, by omega⟩ hy (fun _ => ?_) (fun _ => ?_)
          · refine ja_bipush 32 dwk_69 rfl ?_
            exact J71 c 32 h' ⟨by omega, by omega⟩ ⟨by decide, by decide⟩ W'
          · refine ja_aload_n dwk_58 rfl rfl ?_
            refine ja_iload_n dwk_59 rfl rfl ?_
            refine ja_iload dwk_60 rfl ?_
            refine mo_hiadd dwk_62 (fun z hz => ?_)
            refine wk_text (S := [(0, c)]) (by decide) ht W' hz (show (1 : Nat) ≤ 8 by decide) dwk_63 (fun t h2 hr W2 => ?_)
            refine ja_goto 71 dwk_66 rfl ?_
            exact J71 c t h2 ⟨by omega, by omega⟩ ⟨by omega, by omega⟩ W2
      refine ja_iload_n dwk_2 rfl rfl ?_
      refine ja_bipush 7 dwk_3 rfl ?_
      refine ja_icmp_ge 103 dwk_5 rfl hy ⟨by decide, by decide⟩ (fun _ => OUT n h W) (fun _ => ?_)
      refine ja_iload_n dwk_8 rfl rfl ?_
      refine ja_iconst dwk_9 ?_
      refine ja_iadd dwk_10 ?_
      refine ja_bipush 7 dwk_11 rfl ?_
      refine ja_imul dwk_13 ?_
      refine lt_ldc dwk_14 ?_
      refine lt_call (S := [(0, (n + 1) * 7)]) (vals := []) (n := 0) (d' := 1) lt_m112 lt_ini0 lt_cLen rfl (by decide +kernel) rfl (by decide) (by decide) lt_iLen lt_sLen (by decide) (show (1 : Nat) ≤ 8 by decide) dwk_16 (lt_Mlen ?_)
      refine ja_icmp_gt 103 dwk_19 rfl ⟨by omega, by omega⟩ ⟨by decide, by decide⟩ (fun _ => OUT n h W) (fun q => ?_)
      refine ja_iconst dwk_22 ?_
      refine ja_istore dwk_23 (by decide) (L2 := [(4, (0, 1)), (3, (0, n)), (0, (2, ((1 : Nat) : Int))), (1, (0, x)), (2, (0, y))]) rfl ?_
      refine ja_iconst dwk_25 ?_
      refine ja_istore dwk_26 (by decide) (L2 := [(5, (0, 0)), (4, (0, 1)), (3, (0, n)), (0, (2, ((1 : Nat) : Int))), (1, (0, x)), (2, (0, y))]) rfl ?_
      exact IN (by omega) 7 0 1 (by decide) (by decide) (Or.inr rfl) (by decide) h W
  intro h W
  refine ja_iconst dwk_0 ?_
  refine ja_istore_n dwk_1 rfl (by decide) (L2 := [(3, (0, 0)), (0, (2, ((1 : Nat) : Int))), (1, (0, x)), (2, (0, y))]) rfl ?_
  exact LOOP 44 0 (by decide) (by decide) (by decide) h W
theorem wk_H (ht : ck_H l D cA ad cw_sp cw_fi cw_K cw_pr v0 (cw_mt 229) cw_t229_0) : ck_H l D cA ad cw_sp cw_fi cw_K cw_pr v0 (cw_mt 230) cw_t230_0 := by
  rw [wk_mt]
  intro vals h hv W
  obtain ⟨v, vs, rfl, hv1, hv2⟩ := ck_cons hv
  obtain ⟨w, ws, rfl, hw1, hw2⟩ := ck_cons hv2
  obtain ⟨u, us, rfl, hu1, hu2⟩ := ck_cons hw2
  cases ck_nil hu2
  have e1 := ck_ref2 hv1.1 rfl
  subst e1
  obtain ⟨x, rfl, b1, b2, b3, -⟩ := ck_int hw1.1 rfl
  obtain ⟨y, rfl, f1, f2, f3, -⟩ := ck_int hu1.1 rfl
  exact wk_body ht b3 f3 (fun r h' hr W' => ⟨⟨.inl ⟨rfl, rfl, hr.1, hr.2, ⟨by omega, by omega⟩, fun i q => (by cases q), fun q => (by cases q)⟩, fun i q => (by cases q)⟩, W'⟩) h W
/-- every context of the class holds -/
theorem cw_all : ∀ mid s, s ∈ cw_ss mid → ck_H l D cA ad cw_sp cw_fi cw_K cw_pr v0 (cw_mt mid) s :=
  cw_safe (fun hless => wk_H (hless 229 cw_t229_0 wk_sT (by decide)))
end

