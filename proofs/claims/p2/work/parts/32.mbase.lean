/-! the reference: its smallest methods (written by a program) -/
variable {Zz : Zc}
theorem dthrown_0 : decode cX12_thrown 0 = .ok (.aload_n 0, 1) := by decide +kernel
theorem dthrown_1 : decode cX12_thrown 1 = .ok (.getfield 423, 3) := by decide +kernel
theorem dthrown_4 : decode cX12_thrown 4 = .ok (.ireturn, 1) := by decide +kernel
section
variable {l : Launch} {D : va_G} {cA : Nat → ClassId} {ad : Nat → Nat}
theorem s_thrown {h : ja_H} {Q : Option ja_V → ja_H → Prop} (g : mo_G Zz h) (k1 : ∀ (v : Int), (0 ≤ v ∧ v ≤ 2) → Q (some (0, v)) h) : mM_thrown l D cA ad  h Q := by
  show mJ l D cA ad 1 cX12_thrown 1 (some .int) 0 [(0, (2, ((0 : Nat) : Int)))] [] h Q
  refine ja_aload_n dthrown_0 rfl rfl ?_
  refine fg_thrown (v := h 0 208) rfl dthrown_1 ?_
  have f1 := gF_thrown g
  refine ja_ireturn dthrown_4 rfl ?_
  exact mo_fin (by omega) rfl (k1 (h 0 208) (by omega))
end
theorem dbyteAt_0 : decode cX12_byteAt 0 = .ok (.iload_n 1, 1) := by decide +kernel
theorem dbyteAt_1 : decode cX12_byteAt 1 = .ok (.aload_n 0, 1) := by decide +kernel
theorem dbyteAt_2 : decode cX12_byteAt 2 = .ok (.getfield 427, 3) := by decide +kernel
theorem dbyteAt_5 : decode cX12_byteAt 5 = .ok (.if_icmp .ge 12, 3) := by decide +kernel
theorem dbyteAt_8 : decode cX12_byteAt 8 = .ok (.aload_n 0, 1) := by decide +kernel
theorem dbyteAt_9 : decode cX12_byteAt 9 = .ok (.getfield 7, 3) := by decide +kernel
theorem dbyteAt_12 : decode cX12_byteAt 12 = .ok (.iload_n 1, 1) := by decide +kernel
theorem dbyteAt_13 : decode cX12_byteAt 13 = .ok (.iaload, 1) := by decide +kernel
theorem dbyteAt_14 : decode cX12_byteAt 14 = .ok (.goto 4, 3) := by decide +kernel
theorem dbyteAt_17 : decode cX12_byteAt 17 = .ok (.iconst (-1), 1) := by decide +kernel
theorem dbyteAt_18 : decode cX12_byteAt 18 = .ok (.ireturn, 1) := by decide +kernel
section
variable {l : Launch} {D : va_G} {cA : Nat → ClassId} {ad : Nat → Nat}
theorem s_byteAt {a1 : Int} {h : ja_H} {Q : Option ja_V → ja_H → Prop} (g : mo_G Zz h) (r1 : -2147483648 ≤ a1 ∧ a1 ≤ 2147483647) (p1 : 0 ≤ a1) (k1 : ∀ (v : Int), ((v = -1 ∧ (h 0 1) ≤ a1) ∨ (0 ≤ v ∧ v ≤ 255 ∧ a1 < (h 0 1) ∧ v = (h 1 (a1).toNat))) → Q (some (0, v)) h) : mM_byteAt l D cA ad a1 h Q := by
  show mJ l D cA ad 1 cX12_byteAt 2 (some .int) 0 [(0, (2, ((0 : Nat) : Int))), (1, (0, a1))] [] h Q
  refine ja_iload_n dbyteAt_0 rfl rfl ?_
  refine ja_aload_n dbyteAt_1 rfl rfl ?_
  refine fg_size (v := h 0 1) rfl dbyteAt_2 ?_
  have f1 := gF_size g
  refine ja_icmp_ge 17 dbyteAt_5 rfl ⟨by omega, by omega⟩ ⟨by omega, by omega⟩ (fun c5 => ?_) (fun c5 => ?_)
  · refine ja_iconst dbyteAt_17 ?_
    refine ja_ireturn dbyteAt_18 rfl ?_
    exact mo_fin (by omega) rfl (k1 (-1) (by omega))
  · refine ja_aload_n dbyteAt_8 rfl rfl ?_
    refine fa_text dbyteAt_9 ?_
    refine ja_iload_n dbyteAt_12 rfl rfl ?_
    refine il_text (v := h 1 (a1).toNat) rfl ⟨by omega, by omega⟩ dbyteAt_13 ?_
    have f2 := gC_text g (a1).toNat
    refine ja_goto 18 dbyteAt_14 rfl ?_
    refine ja_ireturn dbyteAt_18 rfl ?_
    exact mo_fin (by omega) rfl (k1 (h 1 (a1).toNat) (by omega))
theorem t_byteAt {a1 : Int} {d nL pc : Nat} {cc : ByteArray} {rt : Option FieldType} {L : List (Nat × ja_V)} {S : List ja_V} {h : ja_H} {Q : Option ja_V → ja_H → Prop} (hdd : 1 < d) (hwd : ja_wd S ≤ 8) (hd : decode cc pc = .ok (.invokevirtual 437, 3)) (g : mo_G Zz h) (r1 : -2147483648 ≤ a1 ∧ a1 ≤ 2147483647) (p1 : 0 ≤ a1) (k1 : ∀ (v : Int), ((v = -1 ∧ (h 0 1) ≤ a1) ∨ (0 ≤ v ∧ v ≤ 255 ∧ a1 < (h 0 1) ∧ v = (h 1 (a1).toNat))) → mJ l D cA ad d cc nL rt (pc + 3) L ((0, v) :: S) h Q) : mJ l D cA ad d cc nL rt pc L ((0, a1) :: (2, ((0 : Nat) : Int)) :: S) h Q :=
  mc_byteAt hdd hwd hd (s_byteAt g r1 p1 k1)
end
theorem disLetter_0 : decode cX12_isLetter 0 = .ok (.iload_n 0, 1) := by decide +kernel
theorem disLetter_1 : decode cX12_isLetter 1 = .ok (.bipush 97, 2) := by decide +kernel
theorem disLetter_3 : decode cX12_isLetter 3 = .ok (.if_icmp .lt 9, 3) := by decide +kernel
theorem disLetter_6 : decode cX12_isLetter 6 = .ok (.iload_n 0, 1) := by decide +kernel
theorem disLetter_7 : decode cX12_isLetter 7 = .ok (.bipush 122, 2) := by decide +kernel
theorem disLetter_9 : decode cX12_isLetter 9 = .ok (.if_icmp .le 15, 3) := by decide +kernel
theorem disLetter_12 : decode cX12_isLetter 12 = .ok (.iload_n 0, 1) := by decide +kernel
theorem disLetter_13 : decode cX12_isLetter 13 = .ok (.bipush 65, 2) := by decide +kernel
theorem disLetter_15 : decode cX12_isLetter 15 = .ok (.if_icmp .lt 13, 3) := by decide +kernel
theorem disLetter_18 : decode cX12_isLetter 18 = .ok (.iload_n 0, 1) := by decide +kernel
theorem disLetter_19 : decode cX12_isLetter 19 = .ok (.bipush 90, 2) := by decide +kernel
theorem disLetter_21 : decode cX12_isLetter 21 = .ok (.if_icmp .gt 7, 3) := by decide +kernel
theorem disLetter_24 : decode cX12_isLetter 24 = .ok (.iconst 1, 1) := by decide +kernel
theorem disLetter_25 : decode cX12_isLetter 25 = .ok (.goto 4, 3) := by decide +kernel
theorem disLetter_28 : decode cX12_isLetter 28 = .ok (.iconst 0, 1) := by decide +kernel
theorem disLetter_29 : decode cX12_isLetter 29 = .ok (.ireturn, 1) := by decide +kernel
section
variable {l : Launch} {D : va_G} {cA : Nat → ClassId} {ad : Nat → Nat}
theorem s_isLetter {a1 : Int} {h : ja_H} {Q : Option ja_V → ja_H → Prop} (g : mo_G Zz h) (r1 : -2147483648 ≤ a1 ∧ a1 ≤ 2147483647) (k1 : ∀ (v : Int), (0 ≤ v ∧ v ≤ 1 ∧ (v = 1 → 65 ≤ a1 ∧ a1 ≤ 122)) → Q (some (0, v)) h) : mM_isLetter l D cA ad a1 h Q := by
  show mJ l D cA ad 1 cX12_isLetter 1 (some .boolean) 0 [(0, (0, a1))] [] h Q
  refine ja_iload_n disLetter_0 rfl rfl ?_
  refine ja_bipush 97 disLetter_1 rfl ?_
  refine ja_icmp_lt 12 disLetter_3 rfl ⟨by omega, by omega⟩ ⟨by decide, by decide⟩ (fun c3 => ?_) (fun c3 => ?_)
  · refine ja_iload_n disLetter_12 rfl rfl ?_
    refine ja_bipush 65 disLetter_13 rfl ?_
    refine ja_icmp_lt 28 disLetter_15 rfl ⟨by omega, by omega⟩ ⟨by decide, by decide⟩ (fun c15 => ?_) (fun c15 => ?_)
    · refine ja_iconst disLetter_28 ?_
      refine ja_zreturn disLetter_29 rfl (by omega) ?_
      exact mo_fin (by omega) rfl (k1 0 (by omega))
    · refine ja_iload_n disLetter_18 rfl rfl ?_
      refine ja_bipush 90 disLetter_19 rfl ?_
      refine ja_icmp_gt 28 disLetter_21 rfl ⟨by omega, by omega⟩ ⟨by decide, by decide⟩ (fun c21 => ?_) (fun c21 => ?_)
      · refine ja_iconst disLetter_28 ?_
        refine ja_zreturn disLetter_29 rfl (by omega) ?_
        exact mo_fin (by omega) rfl (k1 0 (by omega))
      · refine ja_iconst disLetter_24 ?_
        refine ja_goto 29 disLetter_25 rfl ?_
        refine ja_zreturn disLetter_29 rfl (by omega) ?_
        exact mo_fin (by omega) rfl (k1 1 (by omega))
  · refine ja_iload_n disLetter_6 rfl rfl ?_
    refine ja_bipush 122 disLetter_7 rfl ?_
    refine ja_icmp_le 24 disLetter_9 rfl ⟨by omega, by omega⟩ ⟨by decide, by decide⟩ (fun c9 => ?_) (fun c9 => ?_)
    · refine ja_iconst disLetter_24 ?_
      refine ja_goto 29 disLetter_25 rfl ?_
      refine ja_zreturn disLetter_29 rfl (by omega) ?_
      exact mo_fin (by omega) rfl (k1 1 (by omega))
    · refine ja_iload_n disLetter_12 rfl rfl ?_
      refine ja_bipush 65 disLetter_13 rfl ?_
      refine ja_icmp_lt 28 disLetter_15 rfl ⟨by omega, by omega⟩ ⟨by decide, by decide⟩ (fun c15 => ?_) (fun c15 => ?_)
      · refine ja_iconst disLetter_28 ?_
        refine ja_zreturn disLetter_29 rfl (by omega) ?_
        exact mo_fin (by omega) rfl (k1 0 (by omega))
      · refine ja_iload_n disLetter_18 rfl rfl ?_
        refine ja_bipush 90 disLetter_19 rfl ?_
        refine ja_icmp_gt 28 disLetter_21 rfl ⟨by omega, by omega⟩ ⟨by decide, by decide⟩ (fun c21 => ?_) (fun c21 => ?_)
        · refine ja_iconst disLetter_28 ?_
          refine ja_zreturn disLetter_29 rfl (by omega) ?_
          exact mo_fin (by omega) rfl (k1 0 (by omega))
        · refine ja_iconst disLetter_24 ?_
          refine ja_goto 29 disLetter_25 rfl ?_
          refine ja_zreturn disLetter_29 rfl (by omega) ?_
          exact mo_fin (by omega) rfl (k1 1 (by omega))
theorem t_isLetter {a1 : Int} {d nL pc : Nat} {cc : ByteArray} {rt : Option FieldType} {L : List (Nat × ja_V)} {S : List ja_V} {h : ja_H} {Q : Option ja_V → ja_H → Prop} (hdd : 1 < d) (hwd : ja_wd S ≤ 8) (hd : decode cc pc = .ok (.invokestatic 539, 3)) (g : mo_G Zz h) (r1 : -2147483648 ≤ a1 ∧ a1 ≤ 2147483647) (k1 : ∀ (v : Int), (0 ≤ v ∧ v ≤ 1 ∧ (v = 1 → 65 ≤ a1 ∧ a1 ≤ 122)) → mJ l D cA ad d cc nL rt (pc + 3) L ((0, v) :: S) h Q) : mJ l D cA ad d cc nL rt pc L ((0, a1) :: S) h Q :=
  mc_isLetter hdd hwd hd (s_isLetter g r1 k1)
end
theorem disDigit_0 : decode cX12_isDigit 0 = .ok (.iload_n 0, 1) := by decide +kernel
theorem disDigit_1 : decode cX12_isDigit 1 = .ok (.bipush 48, 2) := by decide +kernel
theorem disDigit_3 : decode cX12_isDigit 3 = .ok (.if_icmp .lt 13, 3) := by decide +kernel
theorem disDigit_6 : decode cX12_isDigit 6 = .ok (.iload_n 0, 1) := by decide +kernel
theorem disDigit_7 : decode cX12_isDigit 7 = .ok (.bipush 57, 2) := by decide +kernel
theorem disDigit_9 : decode cX12_isDigit 9 = .ok (.if_icmp .gt 7, 3) := by decide +kernel
theorem disDigit_12 : decode cX12_isDigit 12 = .ok (.iconst 1, 1) := by decide +kernel
theorem disDigit_13 : decode cX12_isDigit 13 = .ok (.goto 4, 3) := by decide +kernel
theorem disDigit_16 : decode cX12_isDigit 16 = .ok (.iconst 0, 1) := by decide +kernel
theorem disDigit_17 : decode cX12_isDigit 17 = .ok (.ireturn, 1) := by decide +kernel
section
variable {l : Launch} {D : va_G} {cA : Nat → ClassId} {ad : Nat → Nat}
theorem s_isDigit {a1 : Int} {h : ja_H} {Q : Option ja_V → ja_H → Prop} (g : mo_G Zz h) (r1 : -2147483648 ≤ a1 ∧ a1 ≤ 2147483647) (k1 : ∀ (v : Int), (0 ≤ v ∧ v ≤ 1 ∧ (v = 1 → 48 ≤ a1 ∧ a1 ≤ 57)) → Q (some (0, v)) h) : mM_isDigit l D cA ad a1 h Q := by
  show mJ l D cA ad 1 cX12_isDigit 1 (some .boolean) 0 [(0, (0, a1))] [] h Q
  refine ja_iload_n disDigit_0 rfl rfl ?_
  refine ja_bipush 48 disDigit_1 rfl ?_
  refine ja_icmp_lt 16 disDigit_3 rfl ⟨by omega, by omega⟩ ⟨by decide, by decide⟩ (fun c3 => ?_) (fun c3 => ?_)
  · refine ja_iconst disDigit_16 ?_
    refine ja_zreturn disDigit_17 rfl (by omega) ?_
    exact mo_fin (by omega) rfl (k1 0 (by omega))
  · refine ja_iload_n disDigit_6 rfl rfl ?_
    refine ja_bipush 57 disDigit_7 rfl ?_
    refine ja_icmp_gt 16 disDigit_9 rfl ⟨by omega, by omega⟩ ⟨by decide, by decide⟩ (fun c9 => ?_) (fun c9 => ?_)
    · refine ja_iconst disDigit_16 ?_
      refine ja_zreturn disDigit_17 rfl (by omega) ?_
      exact mo_fin (by omega) rfl (k1 0 (by omega))
    · refine ja_iconst disDigit_12 ?_
      refine ja_goto 17 disDigit_13 rfl ?_
      refine ja_zreturn disDigit_17 rfl (by omega) ?_
      exact mo_fin (by omega) rfl (k1 1 (by omega))
theorem t_isDigit {a1 : Int} {d nL pc : Nat} {cc : ByteArray} {rt : Option FieldType} {L : List (Nat × ja_V)} {S : List ja_V} {h : ja_H} {Q : Option ja_V → ja_H → Prop} (hdd : 1 < d) (hwd : ja_wd S ≤ 8) (hd : decode cc pc = .ok (.invokestatic 543, 3)) (g : mo_G Zz h) (r1 : -2147483648 ≤ a1 ∧ a1 ≤ 2147483647) (k1 : ∀ (v : Int), (0 ≤ v ∧ v ≤ 1 ∧ (v = 1 → 48 ≤ a1 ∧ a1 ≤ 57)) → mJ l D cA ad d cc nL rt (pc + 3) L ((0, v) :: S) h Q) : mJ l D cA ad d cc nL rt pc L ((0, a1) :: S) h Q :=
  mc_isDigit hdd hwd hd (s_isDigit g r1 k1)
end
theorem disWord_0 : decode cX12_isWord 0 = .ok (.aload_n 0, 1) := by decide +kernel
theorem disWord_1 : decode cX12_isWord 1 = .ok (.getfield 13, 3) := by decide +kernel
theorem disWord_4 : decode cX12_isWord 4 = .ok (.aload_n 0, 1) := by decide +kernel
theorem disWord_5 : decode cX12_isWord 5 = .ok (.getfield 574, 3) := by decide +kernel
theorem disWord_8 : decode cX12_isWord 8 = .ok (.iaload, 1) := by decide +kernel
theorem disWord_9 : decode cX12_isWord 9 = .ok (.iconst 1, 1) := by decide +kernel
theorem disWord_10 : decode cX12_isWord 10 = .ok (.if_icmp .ne 20, 3) := by decide +kernel
theorem disWord_13 : decode cX12_isWord 13 = .ok (.aload_n 0, 1) := by decide +kernel
theorem disWord_14 : decode cX12_isWord 14 = .ok (.getfield 22, 3) := by decide +kernel
theorem disWord_17 : decode cX12_isWord 17 = .ok (.aload_n 0, 1) := by decide +kernel
theorem disWord_18 : decode cX12_isWord 18 = .ok (.getfield 574, 3) := by decide +kernel
theorem disWord_21 : decode cX12_isWord 21 = .ok (.iaload, 1) := by decide +kernel
theorem disWord_22 : decode cX12_isWord 22 = .ok (.iload_n 1, 1) := by decide +kernel
theorem disWord_23 : decode cX12_isWord 23 = .ok (.if_icmp .ne 7, 3) := by decide +kernel
theorem disWord_26 : decode cX12_isWord 26 = .ok (.iconst 1, 1) := by decide +kernel
theorem disWord_27 : decode cX12_isWord 27 = .ok (.goto 4, 3) := by decide +kernel
theorem disWord_30 : decode cX12_isWord 30 = .ok (.iconst 0, 1) := by decide +kernel
theorem disWord_31 : decode cX12_isWord 31 = .ok (.ireturn, 1) := by decide +kernel
section
variable {l : Launch} {D : va_G} {cA : Nat → ClassId} {ad : Nat → Nat}
theorem s_isWord {a1 : Int} {h : ja_H} {Q : Option ja_V → ja_H → Prop} (g : mo_G Zz h) (r1 : -2147483648 ≤ a1 ∧ a1 ≤ 2147483647) (k1 : ∀ (v : Int), ((v = 1 ∧ (h 2 (h 0 7).toNat) = 1 ∧ (h 5 (h 0 7).toNat) = a1) ∨ (v = 0 ∧ ¬ ((h 2 (h 0 7).toNat) = 1 ∧ (h 5 (h 0 7).toNat) = a1))) → Q (some (0, v)) h) : mM_isWord l D cA ad a1 h Q := by
  show mJ l D cA ad 1 cX12_isWord 2 (some .boolean) 0 [(0, (2, ((0 : Nat) : Int))), (1, (0, a1))] [] h Q
  refine ja_aload_n disWord_0 rfl rfl ?_
  refine fa_kinds disWord_1 ?_
  refine ja_aload_n disWord_4 rfl rfl ?_
  refine fg_at (v := h 0 7) rfl disWord_5 ?_
  have f1 := gF_at g
  refine il_kinds (v := h 2 (h 0 7).toNat) rfl ⟨by omega, by omega⟩ disWord_8 ?_
  have f2 := gC_kinds g (h 0 7).toNat
  refine ja_iconst disWord_9 ?_
  refine ja_icmp_ne 30 disWord_10 rfl ⟨by omega, by omega⟩ ⟨by decide, by decide⟩ (fun c10 => ?_) (fun c10 => ?_)
  · refine ja_iconst disWord_30 ?_
    refine ja_zreturn disWord_31 rfl (by omega) ?_
    exact mo_fin (by omega) rfl (k1 0 (by omega))
  · refine ja_aload_n disWord_13 rfl rfl ?_
    refine fa_worths disWord_14 ?_
    refine ja_aload_n disWord_17 rfl rfl ?_
    refine fg_at (v := h 0 7) rfl disWord_18 ?_
    refine il_worths (v := h 5 (h 0 7).toNat) rfl ⟨by omega, by omega⟩ disWord_21 ?_
    have f3 := gC_worths g (h 0 7).toNat
    refine ja_iload_n disWord_22 rfl rfl ?_
    refine ja_icmp_ne 30 disWord_23 rfl ⟨by omega, by omega⟩ ⟨by omega, by omega⟩ (fun c23 => ?_) (fun c23 => ?_)
    · refine ja_iconst disWord_30 ?_
      refine ja_zreturn disWord_31 rfl (by omega) ?_
      exact mo_fin (by omega) rfl (k1 0 (by omega))
    · refine ja_iconst disWord_26 ?_
      refine ja_goto 31 disWord_27 rfl ?_
      refine ja_zreturn disWord_31 rfl (by omega) ?_
      exact mo_fin (by omega) rfl (k1 1 (by omega))
theorem t_isWord {a1 : Int} {d nL pc : Nat} {cc : ByteArray} {rt : Option FieldType} {L : List (Nat × ja_V)} {S : List ja_V} {h : ja_H} {Q : Option ja_V → ja_H → Prop} (hdd : 1 < d) (hwd : ja_wd S ≤ 8) (hd : decode cc pc = .ok (.invokevirtual 596, 3)) (g : mo_G Zz h) (r1 : -2147483648 ≤ a1 ∧ a1 ≤ 2147483647) (k1 : ∀ (v : Int), ((v = 1 ∧ (h 2 (h 0 7).toNat) = 1 ∧ (h 5 (h 0 7).toNat) = a1) ∨ (v = 0 ∧ ¬ ((h 2 (h 0 7).toNat) = 1 ∧ (h 5 (h 0 7).toNat) = a1))) → mJ l D cA ad d cc nL rt (pc + 3) L ((0, v) :: S) h Q) : mJ l D cA ad d cc nL rt pc L ((0, a1) :: (2, ((0 : Nat) : Int)) :: S) h Q :=
  mc_isWord hdd hwd hd (s_isWord g r1 k1)
end
theorem disSign_0 : decode cX12_isSign 0 = .ok (.aload_n 0, 1) := by decide +kernel
theorem disSign_1 : decode cX12_isSign 1 = .ok (.getfield 13, 3) := by decide +kernel
theorem disSign_4 : decode cX12_isSign 4 = .ok (.aload_n 0, 1) := by decide +kernel
theorem disSign_5 : decode cX12_isSign 5 = .ok (.getfield 574, 3) := by decide +kernel
theorem disSign_8 : decode cX12_isSign 8 = .ok (.iaload, 1) := by decide +kernel
theorem disSign_9 : decode cX12_isSign 9 = .ok (.iconst 5, 1) := by decide +kernel
theorem disSign_10 : decode cX12_isSign 10 = .ok (.if_icmp .ne 20, 3) := by decide +kernel
theorem disSign_13 : decode cX12_isSign 13 = .ok (.aload_n 0, 1) := by decide +kernel
theorem disSign_14 : decode cX12_isSign 14 = .ok (.getfield 22, 3) := by decide +kernel
theorem disSign_17 : decode cX12_isSign 17 = .ok (.aload_n 0, 1) := by decide +kernel
theorem disSign_18 : decode cX12_isSign 18 = .ok (.getfield 574, 3) := by decide +kernel
theorem disSign_21 : decode cX12_isSign 21 = .ok (.iaload, 1) := by decide +kernel
theorem disSign_22 : decode cX12_isSign 22 = .ok (.iload_n 1, 1) := by decide +kernel
theorem disSign_23 : decode cX12_isSign 23 = .ok (.if_icmp .ne 7, 3) := by decide +kernel
theorem disSign_26 : decode cX12_isSign 26 = .ok (.iconst 1, 1) := by decide +kernel
theorem disSign_27 : decode cX12_isSign 27 = .ok (.goto 4, 3) := by decide +kernel
theorem disSign_30 : decode cX12_isSign 30 = .ok (.iconst 0, 1) := by decide +kernel
theorem disSign_31 : decode cX12_isSign 31 = .ok (.ireturn, 1) := by decide +kernel
section
variable {l : Launch} {D : va_G} {cA : Nat → ClassId} {ad : Nat → Nat}
theorem s_isSign {a1 : Int} {h : ja_H} {Q : Option ja_V → ja_H → Prop} (g : mo_G Zz h) (r1 : -2147483648 ≤ a1 ∧ a1 ≤ 2147483647) (k1 : ∀ (v : Int), ((v = 1 ∧ (h 2 (h 0 7).toNat) = 5 ∧ (h 5 (h 0 7).toNat) = a1) ∨ (v = 0 ∧ ¬ ((h 2 (h 0 7).toNat) = 5 ∧ (h 5 (h 0 7).toNat) = a1))) → Q (some (0, v)) h) : mM_isSign l D cA ad a1 h Q := by
  show mJ l D cA ad 1 cX12_isSign 2 (some .boolean) 0 [(0, (2, ((0 : Nat) : Int))), (1, (0, a1))] [] h Q
  refine ja_aload_n disSign_0 rfl rfl ?_
  refine fa_kinds disSign_1 ?_
  refine ja_aload_n disSign_4 rfl rfl ?_
  refine fg_at (v := h 0 7) rfl disSign_5 ?_
  have f1 := gF_at g
  refine il_kinds (v := h 2 (h 0 7).toNat) rfl ⟨by omega, by omega⟩ disSign_8 ?_
  have f2 := gC_kinds g (h 0 7).toNat
  refine ja_iconst disSign_9 ?_
  refine ja_icmp_ne 30 disSign_10 rfl ⟨by omega, by omega⟩ ⟨by decide, by decide⟩ (fun c10 => ?_) (fun c10 => ?_)
  · refine ja_iconst disSign_30 ?_
    refine ja_zreturn disSign_31 rfl (by omega) ?_
    exact mo_fin (by omega) rfl (k1 0 (by omega))
  · refine ja_aload_n disSign_13 rfl rfl ?_
    refine fa_worths disSign_14 ?_
    refine ja_aload_n disSign_17 rfl rfl ?_
    refine fg_at (v := h 0 7) rfl disSign_18 ?_
    refine il_worths (v := h 5 (h 0 7).toNat) rfl ⟨by omega, by omega⟩ disSign_21 ?_
    have f3 := gC_worths g (h 0 7).toNat
    refine ja_iload_n disSign_22 rfl rfl ?_
    refine ja_icmp_ne 30 disSign_23 rfl ⟨by omega, by omega⟩ ⟨by omega, by omega⟩ (fun c23 => ?_) (fun c23 => ?_)
    · refine ja_iconst disSign_30 ?_
      refine ja_zreturn disSign_31 rfl (by omega) ?_
      exact mo_fin (by omega) rfl (k1 0 (by omega))
    · refine ja_iconst disSign_26 ?_
      refine ja_goto 31 disSign_27 rfl ?_
      refine ja_zreturn disSign_31 rfl (by omega) ?_
      exact mo_fin (by omega) rfl (k1 1 (by omega))
theorem t_isSign {a1 : Int} {d nL pc : Nat} {cc : ByteArray} {rt : Option FieldType} {L : List (Nat × ja_V)} {S : List ja_V} {h : ja_H} {Q : Option ja_V → ja_H → Prop} (hdd : 1 < d) (hwd : ja_wd S ≤ 8) (hd : decode cc pc = .ok (.invokevirtual 586, 3)) (g : mo_G Zz h) (r1 : -2147483648 ≤ a1 ∧ a1 ≤ 2147483647) (k1 : ∀ (v : Int), ((v = 1 ∧ (h 2 (h 0 7).toNat) = 5 ∧ (h 5 (h 0 7).toNat) = a1) ∨ (v = 0 ∧ ¬ ((h 2 (h 0 7).toNat) = 5 ∧ (h 5 (h 0 7).toNat) = a1))) → mJ l D cA ad d cc nL rt (pc + 3) L ((0, v) :: S) h Q) : mJ l D cA ad d cc nL rt pc L ((0, a1) :: (2, ((0 : Nat) : Int)) :: S) h Q :=
  mc_isSign hdd hwd hd (s_isSign g r1 k1)
end
theorem disName_0 : decode cX12_isName 0 = .ok (.aload_n 0, 1) := by decide +kernel
theorem disName_1 : decode cX12_isName 1 = .ok (.getfield 13, 3) := by decide +kernel
theorem disName_4 : decode cX12_isName 4 = .ok (.aload_n 0, 1) := by decide +kernel
theorem disName_5 : decode cX12_isName 5 = .ok (.getfield 574, 3) := by decide +kernel
theorem disName_8 : decode cX12_isName 8 = .ok (.iaload, 1) := by decide +kernel
theorem disName_9 : decode cX12_isName 9 = .ok (.iconst 2, 1) := by decide +kernel
theorem disName_10 : decode cX12_isName 10 = .ok (.if_icmp .ne 7, 3) := by decide +kernel
theorem disName_13 : decode cX12_isName 13 = .ok (.iconst 1, 1) := by decide +kernel
theorem disName_14 : decode cX12_isName 14 = .ok (.goto 4, 3) := by decide +kernel
theorem disName_17 : decode cX12_isName 17 = .ok (.iconst 0, 1) := by decide +kernel
theorem disName_18 : decode cX12_isName 18 = .ok (.ireturn, 1) := by decide +kernel
section
variable {l : Launch} {D : va_G} {cA : Nat → ClassId} {ad : Nat → Nat}
theorem s_isName {h : ja_H} {Q : Option ja_V → ja_H → Prop} (g : mo_G Zz h) (k1 : ∀ (v : Int), ((v = 1 ∧ (h 2 (h 0 7).toNat) = 2) ∨ (v = 0 ∧ ¬ (h 2 (h 0 7).toNat) = 2)) → Q (some (0, v)) h) : mM_isName l D cA ad  h Q := by
  show mJ l D cA ad 1 cX12_isName 1 (some .boolean) 0 [(0, (2, ((0 : Nat) : Int)))] [] h Q
  refine ja_aload_n disName_0 rfl rfl ?_
  refine fa_kinds disName_1 ?_
  refine ja_aload_n disName_4 rfl rfl ?_
  refine fg_at (v := h 0 7) rfl disName_5 ?_
  have f1 := gF_at g
  refine il_kinds (v := h 2 (h 0 7).toNat) rfl ⟨by omega, by omega⟩ disName_8 ?_
  have f2 := gC_kinds g (h 0 7).toNat
  refine ja_iconst disName_9 ?_
  refine ja_icmp_ne 17 disName_10 rfl ⟨by omega, by omega⟩ ⟨by decide, by decide⟩ (fun c10 => ?_) (fun c10 => ?_)
  · refine ja_iconst disName_17 ?_
    refine ja_zreturn disName_18 rfl (by omega) ?_
    exact mo_fin (by omega) rfl (k1 0 (by omega))
  · refine ja_iconst disName_13 ?_
    refine ja_goto 18 disName_14 rfl ?_
    refine ja_zreturn disName_18 rfl (by omega) ?_
    exact mo_fin (by omega) rfl (k1 1 (by omega))
theorem t_isName {d nL pc : Nat} {cc : ByteArray} {rt : Option FieldType} {L : List (Nat × ja_V)} {S : List ja_V} {h : ja_H} {Q : Option ja_V → ja_H → Prop} (hdd : 1 < d) (hwd : ja_wd S ≤ 8) (hd : decode cc pc = .ok (.invokevirtual 599, 3)) (g : mo_G Zz h) (k1 : ∀ (v : Int), ((v = 1 ∧ (h 2 (h 0 7).toNat) = 2) ∨ (v = 0 ∧ ¬ (h 2 (h 0 7).toNat) = 2)) → mJ l D cA ad d cc nL rt (pc + 3) L ((0, v) :: S) h Q) : mJ l D cA ad d cc nL rt pc L ((2, ((0 : Nat) : Int)) :: S) h Q :=
  mc_isName hdd hwd hd (s_isName g k1)
end
theorem dhalt_0 : decode cX12_halt 0 = .ok (.aload_n 0, 1) := by decide +kernel
theorem dhalt_1 : decode cX12_halt 1 = .ok (.getfield 577, 3) := by decide +kernel
theorem dhalt_4 : decode cX12_halt 4 = .ok (.ifCond .ne 21, 3) := by decide +kernel
theorem dhalt_7 : decode cX12_halt 7 = .ok (.aload_n 0, 1) := by decide +kernel
theorem dhalt_8 : decode cX12_halt 8 = .ok (.iload_n 1, 1) := by decide +kernel
theorem dhalt_9 : decode cX12_halt 9 = .ok (.putfield 577, 3) := by decide +kernel
theorem dhalt_12 : decode cX12_halt 12 = .ok (.aload_n 0, 1) := by decide +kernel
theorem dhalt_13 : decode cX12_halt 13 = .ok (.aload_n 0, 1) := by decide +kernel
theorem dhalt_14 : decode cX12_halt 14 = .ok (.getfield 16, 3) := by decide +kernel
theorem dhalt_17 : decode cX12_halt 17 = .ok (.aload_n 0, 1) := by decide +kernel
theorem dhalt_18 : decode cX12_halt 18 = .ok (.getfield 574, 3) := by decide +kernel
theorem dhalt_21 : decode cX12_halt 21 = .ok (.iaload, 1) := by decide +kernel
theorem dhalt_22 : decode cX12_halt 22 = .ok (.putfield 580, 3) := by decide +kernel
theorem dhalt_25 : decode cX12_halt 25 = .ok (.iconst 0, 1) := by decide +kernel
theorem dhalt_26 : decode cX12_halt 26 = .ok (.ireturn, 1) := by decide +kernel
section
variable {l : Launch} {D : va_G} {cA : Nat → ClassId} {ad : Nat → Nat}
theorem s_halt {a1 : Int} {h : ja_H} {Q : Option ja_V → ja_H → Prop} (g : mo_G Zz h) (r1 : -2147483648 ≤ a1 ∧ a1 ≤ 2147483647) (p1 : 1 ≤ a1 ∧ a1 ≤ 8) (k1 : ∀ (h' : ja_H), (0 < (h' 0 8) ∧ (h' 0 1) = (h 0 1) ∧ (h' 0 118) = (h 0 118) ∧ (h' 0 127) = (h 0 127) ∧ (h' 0 41) = (h 0 41)) → mo_G Zz h' → Q (some (0, 0)) h') : mM_halt l D cA ad a1 h Q := by
  show mJ l D cA ad 1 cX12_halt 2 (some .boolean) 0 [(0, (2, ((0 : Nat) : Int))), (1, (0, a1))] [] h Q
  refine ja_aload_n dhalt_0 rfl rfl ?_
  refine fg_bad (v := h 0 8) rfl dhalt_1 ?_
  have f1 := gF_bad g
  refine ja_if_ne 25 dhalt_4 rfl ⟨by omega, by omega⟩ (fun c4 => ?_) (fun c4 => ?_)
  · refine ja_iconst dhalt_25 ?_
    refine ja_zreturn dhalt_26 rfl (by omega) ?_
    exact mo_fin (by omega) rfl (k1 h (by simp [ja_up]; omega) g)
  · refine ja_aload_n dhalt_7 rfl rfl ?_
    refine ja_iload_n dhalt_8 rfl rfl ?_
    have g2 := gP_bad g (x := a1) ⟨by omega, by omega⟩
    refine fp_bad dhalt_9 ?_
    refine ja_aload_n dhalt_12 rfl rfl ?_
    refine ja_aload_n dhalt_13 rfl rfl ?_
    refine fa_places dhalt_14 ?_
    refine ja_aload_n dhalt_17 rfl rfl ?_
    refine fg_at (v := h 0 7) rfl dhalt_18 ?_
    have f3 := gF_at g
    refine il_places (v := h 3 (h 0 7).toNat) rfl ⟨by omega, by omega⟩ dhalt_21 ?_
    have f4 := gC_places g (h 0 7).toNat
    have g5 := gP_badAt g2 (x := h 3 (h 0 7).toNat) ⟨by omega, by omega⟩
    refine fp_badAt dhalt_22 ?_
    refine ja_iconst dhalt_25 ?_
    refine ja_zreturn dhalt_26 rfl (by omega) ?_
    exact mo_fin (by omega) rfl (k1 (ja_up (ja_up h 0 8 a1) 0 9 (h 3 (h 0 7).toNat)) (by simp [ja_up]; omega) g5)
theorem t_halt {a1 : Int} {d nL pc : Nat} {cc : ByteArray} {rt : Option FieldType} {L : List (Nat × ja_V)} {S : List ja_V} {h : ja_H} {Q : Option ja_V → ja_H → Prop} (hdd : 1 < d) (hwd : ja_wd S ≤ 8) (hd : decode cc pc = .ok (.invokevirtual 583, 3)) (g : mo_G Zz h) (r1 : -2147483648 ≤ a1 ∧ a1 ≤ 2147483647) (p1 : 1 ≤ a1 ∧ a1 ≤ 8) (k1 : ∀ (h' : ja_H), (0 < (h' 0 8) ∧ (h' 0 1) = (h 0 1) ∧ (h' 0 118) = (h 0 118) ∧ (h' 0 127) = (h 0 127) ∧ (h' 0 41) = (h 0 41)) → mo_G Zz h' → mJ l D cA ad d cc nL rt (pc + 3) L ((0, 0) :: S) h' Q) : mJ l D cA ad d cc nL rt pc L ((0, a1) :: (2, ((0 : Nat) : Int)) :: S) h Q :=
  mc_halt hdd hwd hd (s_halt g r1 p1 k1)
end
theorem dwrong_0 : decode cX12_wrong 0 = .ok (.aload_n 0, 1) := by decide +kernel
theorem dwrong_1 : decode cX12_wrong 1 = .ok (.aload_n 0, 1) := by decide +kernel
theorem dwrong_2 : decode cX12_wrong 2 = .ok (.getfield 13, 3) := by decide +kernel
theorem dwrong_5 : decode cX12_wrong 5 = .ok (.aload_n 0, 1) := by decide +kernel
theorem dwrong_6 : decode cX12_wrong 6 = .ok (.getfield 574, 3) := by decide +kernel
theorem dwrong_9 : decode cX12_wrong 9 = .ok (.iaload, 1) := by decide +kernel
theorem dwrong_10 : decode cX12_wrong 10 = .ok (.bipush 7, 2) := by decide +kernel
theorem dwrong_12 : decode cX12_wrong 12 = .ok (.if_icmp .ne 7, 3) := by decide +kernel
theorem dwrong_15 : decode cX12_wrong 15 = .ok (.iconst 1, 1) := by decide +kernel
theorem dwrong_16 : decode cX12_wrong 16 = .ok (.goto 4, 3) := by decide +kernel
theorem dwrong_19 : decode cX12_wrong 19 = .ok (.iconst 2, 1) := by decide +kernel
theorem dwrong_20 : decode cX12_wrong 20 = .ok (.invokevirtual 583, 3) := by decide +kernel
theorem dwrong_23 : decode cX12_wrong 23 = .ok (.ireturn, 1) := by decide +kernel
section
variable {l : Launch} {D : va_G} {cA : Nat → ClassId} {ad : Nat → Nat}
theorem s_wrong {h : ja_H} {Q : Option ja_V → ja_H → Prop} (g : mo_G Zz h) (k1 : ∀ (h' : ja_H), (0 < (h' 0 8) ∧ (h' 0 1) = (h 0 1) ∧ (h' 0 118) = (h 0 118) ∧ (h' 0 127) = (h 0 127)) → mo_G Zz h' → Q (some (0, 0)) h') : mM_wrong l D cA ad  h Q := by
  show mJ l D cA ad 2 cX12_wrong 1 (some .boolean) 0 [(0, (2, ((0 : Nat) : Int)))] [] h Q
  refine ja_aload_n dwrong_0 rfl rfl ?_
  refine ja_aload_n dwrong_1 rfl rfl ?_
  refine fa_kinds dwrong_2 ?_
  refine ja_aload_n dwrong_5 rfl rfl ?_
  refine fg_at (v := h 0 7) rfl dwrong_6 ?_
  have f1 := gF_at g
  refine il_kinds (v := h 2 (h 0 7).toNat) rfl ⟨by omega, by omega⟩ dwrong_9 ?_
  have f2 := gC_kinds g (h 0 7).toNat
  refine ja_bipush 7 dwrong_10 rfl ?_
  refine ja_icmp_ne 19 dwrong_12 rfl ⟨by omega, by omega⟩ ⟨by decide, by decide⟩ (fun c12 => ?_) (fun c12 => ?_)
  · refine ja_iconst dwrong_19 ?_
    refine t_halt (by decide) (show (0 : Nat) ≤ 8 by decide) dwrong_20 g ⟨by decide, by decide⟩ (show 1 ≤ 2 ∧ 2 ≤ 8 by omega) ?_
    intro h3 k20_0 g4
    refine ja_zreturn dwrong_23 rfl (by omega) ?_
    exact mo_fin (by omega) rfl (k1 h3 (by omega) g4)
  · refine ja_iconst dwrong_15 ?_
    refine ja_goto 20 dwrong_16 rfl ?_
    refine t_halt (by decide) (show (0 : Nat) ≤ 8 by decide) dwrong_20 g ⟨by decide, by decide⟩ (show 1 ≤ 1 ∧ 1 ≤ 8 by omega) ?_
    intro h5 k20_0 g6
    refine ja_zreturn dwrong_23 rfl (by omega) ?_
    exact mo_fin (by omega) rfl (k1 h5 (by omega) g6)
theorem t_wrong {d nL pc : Nat} {cc : ByteArray} {rt : Option FieldType} {L : List (Nat × ja_V)} {S : List ja_V} {h : ja_H} {Q : Option ja_V → ja_H → Prop} (hdd : 2 < d) (hwd : ja_wd S ≤ 8) (hd : decode cc pc = .ok (.invokevirtual 593, 3)) (g : mo_G Zz h) (k1 : ∀ (h' : ja_H), (0 < (h' 0 8) ∧ (h' 0 1) = (h 0 1) ∧ (h' 0 118) = (h 0 118) ∧ (h' 0 127) = (h 0 127)) → mo_G Zz h' → mJ l D cA ad d cc nL rt (pc + 3) L ((0, 0) :: S) h' Q) : mJ l D cA ad d cc nL rt pc L ((2, ((0 : Nat) : Int)) :: S) h Q :=
  mc_wrong hdd hwd hd (s_wrong g k1)
end
theorem dtake_0 : decode cX12_take 0 = .ok (.aload_n 0, 1) := by decide +kernel
theorem dtake_1 : decode cX12_take 1 = .ok (.getfield 13, 3) := by decide +kernel
theorem dtake_4 : decode cX12_take 4 = .ok (.aload_n 0, 1) := by decide +kernel
theorem dtake_5 : decode cX12_take 5 = .ok (.getfield 574, 3) := by decide +kernel
theorem dtake_8 : decode cX12_take 8 = .ok (.iaload, 1) := by decide +kernel
theorem dtake_9 : decode cX12_take 9 = .ok (.bipush 7, 2) := by decide +kernel
theorem dtake_11 : decode cX12_take 11 = .ok (.if_icmp .ne 9, 3) := by decide +kernel
theorem dtake_14 : decode cX12_take 14 = .ok (.aload_n 0, 1) := by decide +kernel
theorem dtake_15 : decode cX12_take 15 = .ok (.iconst 1, 1) := by decide +kernel
theorem dtake_16 : decode cX12_take 16 = .ok (.invokevirtual 583, 3) := by decide +kernel
theorem dtake_19 : decode cX12_take 19 = .ok (.ireturn, 1) := by decide +kernel
theorem dtake_20 : decode cX12_take 20 = .ok (.aload_n 0, 1) := by decide +kernel
theorem dtake_21 : decode cX12_take 21 = .ok (.getfield 574, 3) := by decide +kernel
theorem dtake_24 : decode cX12_take 24 = .ok (.sipush 900, 3) := by decide +kernel
theorem dtake_27 : decode cX12_take 27 = .ok (.if_icmp .ne 9, 3) := by decide +kernel
theorem dtake_30 : decode cX12_take 30 = .ok (.aload_n 0, 1) := by decide +kernel
theorem dtake_31 : decode cX12_take 31 = .ok (.iconst 3, 1) := by decide +kernel
theorem dtake_32 : decode cX12_take 32 = .ok (.invokevirtual 583, 3) := by decide +kernel
theorem dtake_35 : decode cX12_take 35 = .ok (.ireturn, 1) := by decide +kernel
theorem dtake_36 : decode cX12_take 36 = .ok (.aload_n 0, 1) := by decide +kernel
theorem dtake_37 : decode cX12_take 37 = .ok (.dup, 1) := by decide +kernel
theorem dtake_38 : decode cX12_take 38 = .ok (.getfield 574, 3) := by decide +kernel
theorem dtake_41 : decode cX12_take 41 = .ok (.iconst 1, 1) := by decide +kernel
theorem dtake_42 : decode cX12_take 42 = .ok (.iadd, 1) := by decide +kernel
theorem dtake_43 : decode cX12_take 43 = .ok (.putfield 574, 3) := by decide +kernel
theorem dtake_46 : decode cX12_take 46 = .ok (.iconst 1, 1) := by decide +kernel
theorem dtake_47 : decode cX12_take 47 = .ok (.ireturn, 1) := by decide +kernel
section
variable {l : Launch} {D : va_G} {cA : Nat → ClassId} {ad : Nat → Nat}
theorem s_take {h : ja_H} {Q : Option ja_V → ja_H → Prop} (g : mo_G Zz h) (k1 : ((h 0 7) < 900) → mo_G Zz (ja_up h 0 7 ((h 0 7) + 1)) → Q (some (0, 1)) (ja_up h 0 7 ((h 0 7) + 1))) (k2 : ∀ (h' : ja_H), (0 < (h' 0 8) ∧ (h' 0 1) = (h 0 1) ∧ (h' 0 118) = (h 0 118) ∧ (h' 0 127) = (h 0 127)) → mo_G Zz h' → Q (some (0, 0)) h') : mM_take l D cA ad  h Q := by
  show mJ l D cA ad 2 cX12_take 1 (some .boolean) 0 [(0, (2, ((0 : Nat) : Int)))] [] h Q
  refine ja_aload_n dtake_0 rfl rfl ?_
  refine fa_kinds dtake_1 ?_
  refine ja_aload_n dtake_4 rfl rfl ?_
  refine fg_at (v := h 0 7) rfl dtake_5 ?_
  have f1 := gF_at g
  refine il_kinds (v := h 2 (h 0 7).toNat) rfl ⟨by omega, by omega⟩ dtake_8 ?_
  have f2 := gC_kinds g (h 0 7).toNat
  refine ja_bipush 7 dtake_9 rfl ?_
  refine ja_icmp_ne 20 dtake_11 rfl ⟨by omega, by omega⟩ ⟨by decide, by decide⟩ (fun c11 => ?_) (fun c11 => ?_)
  · refine ja_aload_n dtake_20 rfl rfl ?_
    refine fg_at (v := h 0 7) rfl dtake_21 ?_
    refine ja_sipush 900 dtake_24 rfl ?_
    refine ja_icmp_ne 36 dtake_27 rfl ⟨by omega, by omega⟩ ⟨by decide, by decide⟩ (fun c27 => ?_) (fun c27 => ?_)
    · refine ja_aload_n dtake_36 rfl rfl ?_
      refine ja_dup dtake_37 (by decide) ?_
      refine fg_at (v := h 0 7) rfl dtake_38 ?_
      refine ja_iconst dtake_41 ?_
      refine ja_iadd dtake_42 ?_
      have g3 := gP_at g (x := (h 0 7) + 1) ⟨by omega, by omega⟩
      refine fp_at dtake_43 ?_
      refine ja_iconst dtake_46 ?_
      refine ja_zreturn dtake_47 rfl (by omega) ?_
      exact mo_fin (by omega) rfl (k1 (by omega) g3)
    · refine ja_aload_n dtake_30 rfl rfl ?_
      refine ja_iconst dtake_31 ?_
      refine t_halt (by decide) (show (0 : Nat) ≤ 8 by decide) dtake_32 g ⟨by decide, by decide⟩ (show 1 ≤ 3 ∧ 3 ≤ 8 by omega) ?_
      intro h4 k32_0 g5
      refine ja_zreturn dtake_35 rfl (by omega) ?_
      exact mo_fin (by omega) rfl (k2 h4 (by omega) g5)
  · refine ja_aload_n dtake_14 rfl rfl ?_
    refine ja_iconst dtake_15 ?_
    refine t_halt (by decide) (show (0 : Nat) ≤ 8 by decide) dtake_16 g ⟨by decide, by decide⟩ (show 1 ≤ 1 ∧ 1 ≤ 8 by omega) ?_
    intro h6 k16_0 g7
    refine ja_zreturn dtake_19 rfl (by omega) ?_
    exact mo_fin (by omega) rfl (k2 h6 (by omega) g7)
theorem t_take {d nL pc : Nat} {cc : ByteArray} {rt : Option FieldType} {L : List (Nat × ja_V)} {S : List ja_V} {h : ja_H} {Q : Option ja_V → ja_H → Prop} (hdd : 2 < d) (hwd : ja_wd S ≤ 8) (hd : decode cc pc = .ok (.invokevirtual 589, 3)) (g : mo_G Zz h) (k1 : ((h 0 7) < 900) → mo_G Zz (ja_up h 0 7 ((h 0 7) + 1)) → mJ l D cA ad d cc nL rt (pc + 3) L ((0, 1) :: S) (ja_up h 0 7 ((h 0 7) + 1)) Q) (k2 : ∀ (h' : ja_H), (0 < (h' 0 8) ∧ (h' 0 1) = (h 0 1) ∧ (h' 0 118) = (h 0 118) ∧ (h' 0 127) = (h 0 127)) → mo_G Zz h' → mJ l D cA ad d cc nL rt (pc + 3) L ((0, 0) :: S) h' Q) : mJ l D cA ad d cc nL rt pc L ((2, ((0 : Nat) : Int)) :: S) h Q :=
  mc_take hdd hwd hd (s_take g k1 k2)
end
theorem dsign_0 : decode cX12_sign 0 = .ok (.aload_n 0, 1) := by decide +kernel
theorem dsign_1 : decode cX12_sign 1 = .ok (.iload_n 1, 1) := by decide +kernel
theorem dsign_2 : decode cX12_sign 2 = .ok (.invokevirtual 586, 3) := by decide +kernel
theorem dsign_5 : decode cX12_sign 5 = .ok (.ifCond .eq 10, 3) := by decide +kernel
theorem dsign_8 : decode cX12_sign 8 = .ok (.aload_n 0, 1) := by decide +kernel
theorem dsign_9 : decode cX12_sign 9 = .ok (.invokevirtual 589, 3) := by decide +kernel
theorem dsign_12 : decode cX12_sign 12 = .ok (.goto 7, 3) := by decide +kernel
theorem dsign_15 : decode cX12_sign 15 = .ok (.aload_n 0, 1) := by decide +kernel
theorem dsign_16 : decode cX12_sign 16 = .ok (.invokevirtual 593, 3) := by decide +kernel
theorem dsign_19 : decode cX12_sign 19 = .ok (.ireturn, 1) := by decide +kernel
section
variable {l : Launch} {D : va_G} {cA : Nat → ClassId} {ad : Nat → Nat}
theorem s_sign {a1 : Int} {h : ja_H} {Q : Option ja_V → ja_H → Prop} (g : mo_G Zz h) (r1 : -2147483648 ≤ a1 ∧ a1 ≤ 2147483647) (k1 : ((h 0 7) < 900 ∧ (h 2 (h 0 7).toNat) = 5 ∧ (h 5 (h 0 7).toNat) = a1) → mo_G Zz (ja_up h 0 7 ((h 0 7) + 1)) → Q (some (0, 1)) (ja_up h 0 7 ((h 0 7) + 1))) (k2 : ∀ (h' : ja_H), (0 < (h' 0 8) ∧ (h' 0 1) = (h 0 1) ∧ (h' 0 118) = (h 0 118) ∧ (h' 0 127) = (h 0 127)) → mo_G Zz h' → Q (some (0, 0)) h') : mM_sign l D cA ad a1 h Q := by
  show mJ l D cA ad 3 cX12_sign 2 (some .boolean) 0 [(0, (2, ((0 : Nat) : Int))), (1, (0, a1))] [] h Q
  refine ja_aload_n dsign_0 rfl rfl ?_
  refine ja_iload_n dsign_1 rfl rfl ?_
  refine t_isSign (by decide) (show (0 : Nat) ≤ 8 by decide) dsign_2 g ⟨by omega, by omega⟩ ?_
  intro w1 k2_0
  refine ja_if_eq 15 dsign_5 rfl ⟨by omega, by omega⟩ (fun c5 => ?_) (fun c5 => ?_)
  · refine ja_aload_n dsign_15 rfl rfl ?_
    refine t_wrong (by decide) (show (0 : Nat) ≤ 8 by decide) dsign_16 g  ?_
    intro h2 k16_0 g3
    refine ja_zreturn dsign_19 rfl (by omega) ?_
    exact mo_fin (by omega) rfl (k2 h2 (by omega) g3)
  · refine ja_aload_n dsign_8 rfl rfl ?_
    refine t_take (by decide) (show (0 : Nat) ≤ 8 by decide) dsign_9 g  ?_ ?_
    · intro k9_0 g4
      replace k9_0 : (h 0 7) < 900 := k9_0
      replace g4 : mo_G Zz (ja_up h 0 7 ((h 0 7) + 1)) := g4
      show mJ l D cA ad 3 cX12_sign 2 (some .boolean) 12 [(0, (2, ((0 : Nat) : Int))), (1, (0, a1))] [(0, 1)] (ja_up h 0 7 ((h 0 7) + 1)) Q
      refine ja_goto 19 dsign_12 rfl ?_
      refine ja_zreturn dsign_19 rfl (by omega) ?_
      exact mo_fin (by omega) rfl (k1 (by omega) g4)
    · intro h5 k9_1 g6
      refine ja_goto 19 dsign_12 rfl ?_
      refine ja_zreturn dsign_19 rfl (by omega) ?_
      exact mo_fin (by omega) rfl (k2 h5 (by omega) g6)
theorem t_sign {a1 : Int} {d nL pc : Nat} {cc : ByteArray} {rt : Option FieldType} {L : List (Nat × ja_V)} {S : List ja_V} {h : ja_H} {Q : Option ja_V → ja_H → Prop} (hdd : 3 < d) (hwd : ja_wd S ≤ 8) (hd : decode cc pc = .ok (.invokevirtual 742, 3)) (g : mo_G Zz h) (r1 : -2147483648 ≤ a1 ∧ a1 ≤ 2147483647) (k1 : ((h 0 7) < 900 ∧ (h 2 (h 0 7).toNat) = 5 ∧ (h 5 (h 0 7).toNat) = a1) → mo_G Zz (ja_up h 0 7 ((h 0 7) + 1)) → mJ l D cA ad d cc nL rt (pc + 3) L ((0, 1) :: S) (ja_up h 0 7 ((h 0 7) + 1)) Q) (k2 : ∀ (h' : ja_H), (0 < (h' 0 8) ∧ (h' 0 1) = (h 0 1) ∧ (h' 0 118) = (h 0 118) ∧ (h' 0 127) = (h 0 127)) → mo_G Zz h' → mJ l D cA ad d cc nL rt (pc + 3) L ((0, 0) :: S) h' Q) : mJ l D cA ad d cc nL rt pc L ((0, a1) :: (2, ((0 : Nat) : Int)) :: S) h Q :=
  mc_sign hdd hwd hd (s_sign g r1 k1 k2)
end
theorem dword_0 : decode cX12_word 0 = .ok (.aload_n 0, 1) := by decide +kernel
theorem dword_1 : decode cX12_word 1 = .ok (.iload_n 1, 1) := by decide +kernel
theorem dword_2 : decode cX12_word 2 = .ok (.invokevirtual 596, 3) := by decide +kernel
theorem dword_5 : decode cX12_word 5 = .ok (.ifCond .eq 10, 3) := by decide +kernel
theorem dword_8 : decode cX12_word 8 = .ok (.aload_n 0, 1) := by decide +kernel
theorem dword_9 : decode cX12_word 9 = .ok (.invokevirtual 589, 3) := by decide +kernel
theorem dword_12 : decode cX12_word 12 = .ok (.goto 7, 3) := by decide +kernel
theorem dword_15 : decode cX12_word 15 = .ok (.aload_n 0, 1) := by decide +kernel
theorem dword_16 : decode cX12_word 16 = .ok (.invokevirtual 593, 3) := by decide +kernel
theorem dword_19 : decode cX12_word 19 = .ok (.ireturn, 1) := by decide +kernel
section
variable {l : Launch} {D : va_G} {cA : Nat → ClassId} {ad : Nat → Nat}
theorem s_word {a1 : Int} {h : ja_H} {Q : Option ja_V → ja_H → Prop} (g : mo_G Zz h) (r1 : -2147483648 ≤ a1 ∧ a1 ≤ 2147483647) (k1 : ((h 0 7) < 900 ∧ (h 2 (h 0 7).toNat) = 1 ∧ (h 5 (h 0 7).toNat) = a1) → mo_G Zz (ja_up h 0 7 ((h 0 7) + 1)) → Q (some (0, 1)) (ja_up h 0 7 ((h 0 7) + 1))) (k2 : ∀ (h' : ja_H), (0 < (h' 0 8) ∧ (h' 0 1) = (h 0 1) ∧ (h' 0 118) = (h 0 118) ∧ (h' 0 127) = (h 0 127)) → mo_G Zz h' → Q (some (0, 0)) h') : mM_word l D cA ad a1 h Q := by
  show mJ l D cA ad 3 cX12_word 2 (some .boolean) 0 [(0, (2, ((0 : Nat) : Int))), (1, (0, a1))] [] h Q
  refine ja_aload_n dword_0 rfl rfl ?_
  refine ja_iload_n dword_1 rfl rfl ?_
  refine t_isWord (by decide) (show (0 : Nat) ≤ 8 by decide) dword_2 g ⟨by omega, by omega⟩ ?_
  intro w1 k2_0
  refine ja_if_eq 15 dword_5 rfl ⟨by omega, by omega⟩ (fun c5 => ?_) (fun c5 => ?_)
  · refine ja_aload_n dword_15 rfl rfl ?_
    refine t_wrong (by decide) (show (0 : Nat) ≤ 8 by decide) dword_16 g  ?_
    intro h2 k16_0 g3
    refine ja_zreturn dword_19 rfl (by omega) ?_
    exact mo_fin (by omega) rfl (k2 h2 (by omega) g3)
  · refine ja_aload_n dword_8 rfl rfl ?_
    refine t_take (by decide) (show (0 : Nat) ≤ 8 by decide) dword_9 g  ?_ ?_
    · intro k9_0 g4
      replace k9_0 : (h 0 7) < 900 := k9_0
      replace g4 : mo_G Zz (ja_up h 0 7 ((h 0 7) + 1)) := g4
      show mJ l D cA ad 3 cX12_word 2 (some .boolean) 12 [(0, (2, ((0 : Nat) : Int))), (1, (0, a1))] [(0, 1)] (ja_up h 0 7 ((h 0 7) + 1)) Q
      refine ja_goto 19 dword_12 rfl ?_
      refine ja_zreturn dword_19 rfl (by omega) ?_
      exact mo_fin (by omega) rfl (k1 (by omega) g4)
    · intro h5 k9_1 g6
      refine ja_goto 19 dword_12 rfl ?_
      refine ja_zreturn dword_19 rfl (by omega) ?_
      exact mo_fin (by omega) rfl (k2 h5 (by omega) g6)
theorem t_word {a1 : Int} {d nL pc : Nat} {cc : ByteArray} {rt : Option FieldType} {L : List (Nat × ja_V)} {S : List ja_V} {h : ja_H} {Q : Option ja_V → ja_H → Prop} (hdd : 3 < d) (hwd : ja_wd S ≤ 8) (hd : decode cc pc = .ok (.invokevirtual 763, 3)) (g : mo_G Zz h) (r1 : -2147483648 ≤ a1 ∧ a1 ≤ 2147483647) (k1 : ((h 0 7) < 900 ∧ (h 2 (h 0 7).toNat) = 1 ∧ (h 5 (h 0 7).toNat) = a1) → mo_G Zz (ja_up h 0 7 ((h 0 7) + 1)) → mJ l D cA ad d cc nL rt (pc + 3) L ((0, 1) :: S) (ja_up h 0 7 ((h 0 7) + 1)) Q) (k2 : ∀ (h' : ja_H), (0 < (h' 0 8) ∧ (h' 0 1) = (h 0 1) ∧ (h' 0 118) = (h 0 118) ∧ (h' 0 127) = (h 0 127)) → mo_G Zz h' → mJ l D cA ad d cc nL rt (pc + 3) L ((0, 0) :: S) h' Q) : mJ l D cA ad d cc nL rt pc L ((0, a1) :: (2, ((0 : Nat) : Int)) :: S) h Q :=
  mc_word hdd hwd hd (s_word g r1 k1 k2)
end
theorem dname_0 : decode cX12_name 0 = .ok (.aload_n 0, 1) := by decide +kernel
theorem dname_1 : decode cX12_name 1 = .ok (.invokevirtual 599, 3) := by decide +kernel
theorem dname_4 : decode cX12_name 4 = .ok (.ifCond .eq 10, 3) := by decide +kernel
theorem dname_7 : decode cX12_name 7 = .ok (.aload_n 0, 1) := by decide +kernel
theorem dname_8 : decode cX12_name 8 = .ok (.invokevirtual 589, 3) := by decide +kernel
theorem dname_11 : decode cX12_name 11 = .ok (.goto 7, 3) := by decide +kernel
theorem dname_14 : decode cX12_name 14 = .ok (.aload_n 0, 1) := by decide +kernel
theorem dname_15 : decode cX12_name 15 = .ok (.invokevirtual 593, 3) := by decide +kernel
theorem dname_18 : decode cX12_name 18 = .ok (.ireturn, 1) := by decide +kernel
section
variable {l : Launch} {D : va_G} {cA : Nat → ClassId} {ad : Nat → Nat}
theorem s_name {h : ja_H} {Q : Option ja_V → ja_H → Prop} (g : mo_G Zz h) (k1 : ((h 0 7) < 900 ∧ (h 2 (h 0 7).toNat) = 2) → mo_G Zz (ja_up h 0 7 ((h 0 7) + 1)) → Q (some (0, 1)) (ja_up h 0 7 ((h 0 7) + 1))) (k2 : ∀ (h' : ja_H), (0 < (h' 0 8) ∧ (h' 0 1) = (h 0 1) ∧ (h' 0 118) = (h 0 118) ∧ (h' 0 127) = (h 0 127)) → mo_G Zz h' → Q (some (0, 0)) h') : mM_name l D cA ad  h Q := by
  show mJ l D cA ad 3 cX12_name 1 (some .boolean) 0 [(0, (2, ((0 : Nat) : Int)))] [] h Q
  refine ja_aload_n dname_0 rfl rfl ?_
  refine t_isName (by decide) (show (0 : Nat) ≤ 8 by decide) dname_1 g  ?_
  intro w1 k1_0
  refine ja_if_eq 14 dname_4 rfl ⟨by omega, by omega⟩ (fun c4 => ?_) (fun c4 => ?_)
  · refine ja_aload_n dname_14 rfl rfl ?_
    refine t_wrong (by decide) (show (0 : Nat) ≤ 8 by decide) dname_15 g  ?_
    intro h2 k15_0 g3
    refine ja_zreturn dname_18 rfl (by omega) ?_
    exact mo_fin (by omega) rfl (k2 h2 (by omega) g3)
  · refine ja_aload_n dname_7 rfl rfl ?_
    refine t_take (by decide) (show (0 : Nat) ≤ 8 by decide) dname_8 g  ?_ ?_
    · intro k8_0 g4
      replace k8_0 : (h 0 7) < 900 := k8_0
      replace g4 : mo_G Zz (ja_up h 0 7 ((h 0 7) + 1)) := g4
      show mJ l D cA ad 3 cX12_name 1 (some .boolean) 11 [(0, (2, ((0 : Nat) : Int)))] [(0, 1)] (ja_up h 0 7 ((h 0 7) + 1)) Q
      refine ja_goto 18 dname_11 rfl ?_
      refine ja_zreturn dname_18 rfl (by omega) ?_
      exact mo_fin (by omega) rfl (k1 (by omega) g4)
    · intro h5 k8_1 g6
      refine ja_goto 18 dname_11 rfl ?_
      refine ja_zreturn dname_18 rfl (by omega) ?_
      exact mo_fin (by omega) rfl (k2 h5 (by omega) g6)
theorem t_name {d nL pc : Nat} {cc : ByteArray} {rt : Option FieldType} {L : List (Nat × ja_V)} {S : List ja_V} {h : ja_H} {Q : Option ja_V → ja_H → Prop} (hdd : 3 < d) (hwd : ja_wd S ≤ 8) (hd : decode cc pc = .ok (.invokevirtual 739, 3)) (g : mo_G Zz h) (k1 : ((h 0 7) < 900 ∧ (h 2 (h 0 7).toNat) = 2) → mo_G Zz (ja_up h 0 7 ((h 0 7) + 1)) → mJ l D cA ad d cc nL rt (pc + 3) L ((0, 1) :: S) (ja_up h 0 7 ((h 0 7) + 1)) Q) (k2 : ∀ (h' : ja_H), (0 < (h' 0 8) ∧ (h' 0 1) = (h 0 1) ∧ (h' 0 118) = (h 0 118) ∧ (h' 0 127) = (h 0 127)) → mo_G Zz h' → mJ l D cA ad d cc nL rt (pc + 3) L ((0, 0) :: S) h' Q) : mJ l D cA ad d cc nL rt pc L ((2, ((0 : Nat) : Int)) :: S) h Q :=
  mc_name hdd hwd hd (s_name g k1 k2)
end
theorem did_0 : decode cX12_id 0 = .ok (.aload_n 0, 1) := by decide +kernel
theorem did_1 : decode cX12_id 1 = .ok (.getfield 22, 3) := by decide +kernel
theorem did_4 : decode cX12_id 4 = .ok (.iload_n 1, 1) := by decide +kernel
theorem did_5 : decode cX12_id 5 = .ok (.iaload, 1) := by decide +kernel
theorem did_6 : decode cX12_id 6 = .ok (.ireturn, 1) := by decide +kernel
section
variable {l : Launch} {D : va_G} {cA : Nat → ClassId} {ad : Nat → Nat}
theorem s_id {a1 : Int} {h : ja_H} {Q : Option ja_V → ja_H → Prop} (g : mo_G Zz h) (r1 : -2147483648 ≤ a1 ∧ a1 ≤ 2147483647) (p1 : 0 ≤ a1 ∧ a1 ≤ 900) (k1 : (-2147483648 ≤ (h 5 (a1).toNat) ∧ (h 5 (a1).toNat) ≤ 2147483647) → Q (some (0, (h 5 (a1).toNat))) h) : mM_id l D cA ad a1 h Q := by
  show mJ l D cA ad 1 cX12_id 2 (some .int) 0 [(0, (2, ((0 : Nat) : Int))), (1, (0, a1))] [] h Q
  refine ja_aload_n did_0 rfl rfl ?_
  refine fa_worths did_1 ?_
  refine ja_iload_n did_4 rfl rfl ?_
  refine il_worths (v := h 5 (a1).toNat) rfl ⟨by omega, by omega⟩ did_5 ?_
  have f1 := gC_worths g (a1).toNat
  refine ja_ireturn did_6 rfl ?_
  exact mo_fin (by omega) rfl (k1 (by omega))
theorem t_id {a1 : Int} {d nL pc : Nat} {cc : ByteArray} {rt : Option FieldType} {L : List (Nat × ja_V)} {S : List ja_V} {h : ja_H} {Q : Option ja_V → ja_H → Prop} (hdd : 1 < d) (hwd : ja_wd S ≤ 8) (hd : decode cc pc = .ok (.invokevirtual 716, 3)) (g : mo_G Zz h) (r1 : -2147483648 ≤ a1 ∧ a1 ≤ 2147483647) (p1 : 0 ≤ a1 ∧ a1 ≤ 900) (k1 : (-2147483648 ≤ (h 5 (a1).toNat) ∧ (h 5 (a1).toNat) ≤ 2147483647) → mJ l D cA ad d cc nL rt (pc + 3) L ((0, (h 5 (a1).toNat)) :: S) h Q) : mJ l D cA ad d cc nL rt pc L ((0, a1) :: (2, ((0 : Nat) : Int)) :: S) h Q :=
  mc_id hdd hwd hd (s_id g r1 p1 k1)
end
theorem dlater_0 : decode cX12_later 0 = .ok (.aload_n 0, 1) := by decide +kernel
theorem dlater_1 : decode cX12_later 1 = .ok (.getfield 25, 3) := by decide +kernel
theorem dlater_4 : decode cX12_later 4 = .ok (.aload_n 0, 1) := by decide +kernel
theorem dlater_5 : decode cX12_later 5 = .ok (.getfield 608, 3) := by decide +kernel
theorem dlater_8 : decode cX12_later 8 = .ok (.iload_n 1, 1) := by decide +kernel
theorem dlater_9 : decode cX12_later 9 = .ok (.iastore, 1) := by decide +kernel
theorem dlater_10 : decode cX12_later 10 = .ok (.aload_n 0, 1) := by decide +kernel
theorem dlater_11 : decode cX12_later 11 = .ok (.getfield 28, 3) := by decide +kernel
theorem dlater_14 : decode cX12_later 14 = .ok (.aload_n 0, 1) := by decide +kernel
theorem dlater_15 : decode cX12_later 15 = .ok (.getfield 608, 3) := by decide +kernel
theorem dlater_18 : decode cX12_later 18 = .ok (.iload_n 2, 1) := by decide +kernel
theorem dlater_19 : decode cX12_later 19 = .ok (.iastore, 1) := by decide +kernel
theorem dlater_20 : decode cX12_later 20 = .ok (.aload_n 0, 1) := by decide +kernel
theorem dlater_21 : decode cX12_later 21 = .ok (.getfield 31, 3) := by decide +kernel
theorem dlater_24 : decode cX12_later 24 = .ok (.aload_n 0, 1) := by decide +kernel
theorem dlater_25 : decode cX12_later 25 = .ok (.getfield 608, 3) := by decide +kernel
theorem dlater_28 : decode cX12_later 28 = .ok (.iload_n 3, 1) := by decide +kernel
theorem dlater_29 : decode cX12_later 29 = .ok (.iastore, 1) := by decide +kernel
theorem dlater_30 : decode cX12_later 30 = .ok (.aload_n 0, 1) := by decide +kernel
theorem dlater_31 : decode cX12_later 31 = .ok (.getfield 34, 3) := by decide +kernel
theorem dlater_34 : decode cX12_later 34 = .ok (.aload_n 0, 1) := by decide +kernel
theorem dlater_35 : decode cX12_later 35 = .ok (.getfield 608, 3) := by decide +kernel
theorem dlater_38 : decode cX12_later 38 = .ok (.iload 4, 2) := by decide +kernel
theorem dlater_40 : decode cX12_later 40 = .ok (.iastore, 1) := by decide +kernel
theorem dlater_41 : decode cX12_later 41 = .ok (.aload_n 0, 1) := by decide +kernel
theorem dlater_42 : decode cX12_later 42 = .ok (.dup, 1) := by decide +kernel
theorem dlater_43 : decode cX12_later 43 = .ok (.getfield 608, 3) := by decide +kernel
theorem dlater_46 : decode cX12_later 46 = .ok (.iconst 1, 1) := by decide +kernel
theorem dlater_47 : decode cX12_later 47 = .ok (.iadd, 1) := by decide +kernel
theorem dlater_48 : decode cX12_later 48 = .ok (.putfield 608, 3) := by decide +kernel
theorem dlater_51 : decode cX12_later 51 = .ok (.iconst 1, 1) := by decide +kernel
theorem dlater_52 : decode cX12_later 52 = .ok (.ireturn, 1) := by decide +kernel
section
variable {l : Launch} {D : va_G} {cA : Nat → ClassId} {ad : Nat → Nat}
theorem s_later {a1 a2 a3 a4 : Int} {h : ja_H} {Q : Option ja_V → ja_H → Prop} (g : mo_G Zz h) (r1 : -2147483648 ≤ a1 ∧ a1 ≤ 2147483647) (r2 : -2147483648 ≤ a2 ∧ a2 ≤ 2147483647) (r3 : -2147483648 ≤ a3 ∧ a3 ≤ 2147483647) (r4 : -2147483648 ≤ a4 ∧ a4 ≤ 2147483647) (p1 : 0 ≤ a1 ∧ a1 ≤ 38) (p2 : (h 0 17) < 2000) (k1 : mo_G Zz (ja_up (ja_up (ja_up (ja_up (ja_up h 6 (((h 0 17)).toNat) a1) 7 (((h 0 17)).toNat) a2) 8 (((h 0 17)).toNat) a3) 9 (((h 0 17)).toNat) a4) 0 17 ((h 0 17) + 1)) → Q (some (0, 1)) (ja_up (ja_up (ja_up (ja_up (ja_up h 6 (((h 0 17)).toNat) a1) 7 (((h 0 17)).toNat) a2) 8 (((h 0 17)).toNat) a3) 9 (((h 0 17)).toNat) a4) 0 17 ((h 0 17) + 1))) : mM_later l D cA ad a1 a2 a3 a4 h Q := by
  show mJ l D cA ad 1 cX12_later 5 (some .boolean) 0 [(0, (2, ((0 : Nat) : Int))), (1, (0, a1)), (2, (0, a2)), (3, (0, a3)), (4, (0, a4))] [] h Q
  refine ja_aload_n dlater_0 rfl rfl ?_
  refine fa_wAct dlater_1 ?_
  refine ja_aload_n dlater_4 rfl rfl ?_
  refine fg_wTop (v := h 0 17) rfl dlater_5 ?_
  have f1 := gF_wTop g
  refine ja_iload_n dlater_8 rfl rfl ?_
  have g2 := gW_wAct g (h 0 17).toNat (x := a1) ⟨by omega, by omega⟩
  refine is_wAct ⟨by omega, by omega⟩ dlater_9 ?_
  refine ja_aload_n dlater_10 rfl rfl ?_
  refine fa_wA dlater_11 ?_
  refine ja_aload_n dlater_14 rfl rfl ?_
  refine fg_wTop (v := h 0 17) rfl dlater_15 ?_
  refine ja_iload_n dlater_18 rfl rfl ?_
  have g3 := gW_wA g2 (h 0 17).toNat (x := a2) ⟨by omega, by omega⟩
  refine is_wA ⟨by omega, by omega⟩ dlater_19 ?_
  refine ja_aload_n dlater_20 rfl rfl ?_
  refine fa_wB dlater_21 ?_
  refine ja_aload_n dlater_24 rfl rfl ?_
  refine fg_wTop (v := h 0 17) rfl dlater_25 ?_
  refine ja_iload_n dlater_28 rfl rfl ?_
  have g4 := gW_wB g3 (h 0 17).toNat (x := a3) ⟨by omega, by omega⟩
  refine is_wB ⟨by omega, by omega⟩ dlater_29 ?_
  refine ja_aload_n dlater_30 rfl rfl ?_
  refine fa_wC dlater_31 ?_
  refine ja_aload_n dlater_34 rfl rfl ?_
  refine fg_wTop (v := h 0 17) rfl dlater_35 ?_
  refine ja_iload dlater_38 rfl ?_
  have g5 := gW_wC g4 (h 0 17).toNat (x := a4) ⟨by omega, by omega⟩
  refine is_wC ⟨by omega, by omega⟩ dlater_40 ?_
  refine ja_aload_n dlater_41 rfl rfl ?_
  refine ja_dup dlater_42 (by decide) ?_
  refine fg_wTop (v := h 0 17) rfl dlater_43 ?_
  refine ja_iconst dlater_46 ?_
  refine ja_iadd dlater_47 ?_
  have g6 := gP_wTop g5 (x := (h 0 17) + 1) ⟨by omega, by omega⟩
  refine fp_wTop dlater_48 ?_
  refine ja_iconst dlater_51 ?_
  refine ja_zreturn dlater_52 rfl (by omega) ?_
  exact mo_fin (by omega) rfl (k1 g6)
theorem t_later {a1 a2 a3 a4 : Int} {d nL pc : Nat} {cc : ByteArray} {rt : Option FieldType} {L : List (Nat × ja_V)} {S : List ja_V} {h : ja_H} {Q : Option ja_V → ja_H → Prop} (hdd : 1 < d) (hwd : ja_wd S ≤ 8) (hd : decode cc pc = .ok (.invokevirtual 790, 3)) (g : mo_G Zz h) (r1 : -2147483648 ≤ a1 ∧ a1 ≤ 2147483647) (r2 : -2147483648 ≤ a2 ∧ a2 ≤ 2147483647) (r3 : -2147483648 ≤ a3 ∧ a3 ≤ 2147483647) (r4 : -2147483648 ≤ a4 ∧ a4 ≤ 2147483647) (p1 : 0 ≤ a1 ∧ a1 ≤ 38) (p2 : (h 0 17) < 2000) (k1 : mo_G Zz (ja_up (ja_up (ja_up (ja_up (ja_up h 6 (((h 0 17)).toNat) a1) 7 (((h 0 17)).toNat) a2) 8 (((h 0 17)).toNat) a3) 9 (((h 0 17)).toNat) a4) 0 17 ((h 0 17) + 1)) → mJ l D cA ad d cc nL rt (pc + 3) L ((0, 1) :: S) (ja_up (ja_up (ja_up (ja_up (ja_up h 6 (((h 0 17)).toNat) a1) 7 (((h 0 17)).toNat) a2) 8 (((h 0 17)).toNat) a3) 9 (((h 0 17)).toNat) a4) 0 17 ((h 0 17) + 1)) Q) : mJ l D cA ad d cc nL rt pc L ((0, a4) :: (0, a3) :: (0, a2) :: (0, a1) :: (2, ((0 : Nat) : Int)) :: S) h Q :=
  mc_later hdd hwd hd (s_later g r1 r2 r3 r4 p1 p2 k1)
end
theorem demit_0 : decode cX12_emit 0 = .ok (.aload_n 0, 1) := by decide +kernel
theorem demit_1 : decode cX12_emit 1 = .ok (.getfield 231, 3) := by decide +kernel
theorem demit_4 : decode cX12_emit 4 = .ok (.aload_n 0, 1) := by decide +kernel
theorem demit_5 : decode cX12_emit 5 = .ok (.getfield 611, 3) := by decide +kernel
theorem demit_8 : decode cX12_emit 8 = .ok (.iload_n 1, 1) := by decide +kernel
theorem demit_9 : decode cX12_emit 9 = .ok (.iastore, 1) := by decide +kernel
theorem demit_10 : decode cX12_emit 10 = .ok (.aload_n 0, 1) := by decide +kernel
theorem demit_11 : decode cX12_emit 11 = .ok (.getfield 234, 3) := by decide +kernel
theorem demit_14 : decode cX12_emit 14 = .ok (.aload_n 0, 1) := by decide +kernel
theorem demit_15 : decode cX12_emit 15 = .ok (.getfield 611, 3) := by decide +kernel
theorem demit_18 : decode cX12_emit 18 = .ok (.iload_n 2, 1) := by decide +kernel
theorem demit_19 : decode cX12_emit 19 = .ok (.iastore, 1) := by decide +kernel
theorem demit_20 : decode cX12_emit 20 = .ok (.aload_n 0, 1) := by decide +kernel
theorem demit_21 : decode cX12_emit 21 = .ok (.getfield 237, 3) := by decide +kernel
theorem demit_24 : decode cX12_emit 24 = .ok (.aload_n 0, 1) := by decide +kernel
theorem demit_25 : decode cX12_emit 25 = .ok (.getfield 611, 3) := by decide +kernel
theorem demit_28 : decode cX12_emit 28 = .ok (.iload_n 3, 1) := by decide +kernel
theorem demit_29 : decode cX12_emit 29 = .ok (.iastore, 1) := by decide +kernel
theorem demit_30 : decode cX12_emit 30 = .ok (.aload_n 0, 1) := by decide +kernel
theorem demit_31 : decode cX12_emit 31 = .ok (.dup, 1) := by decide +kernel
theorem demit_32 : decode cX12_emit 32 = .ok (.getfield 611, 3) := by decide +kernel
theorem demit_35 : decode cX12_emit 35 = .ok (.iconst 1, 1) := by decide +kernel
theorem demit_36 : decode cX12_emit 36 = .ok (.iadd, 1) := by decide +kernel
theorem demit_37 : decode cX12_emit 37 = .ok (.putfield 611, 3) := by decide +kernel
theorem demit_40 : decode cX12_emit 40 = .ok (.aload_n 0, 1) := by decide +kernel
theorem demit_41 : decode cX12_emit 41 = .ok (.getfield 611, 3) := by decide +kernel
theorem demit_44 : decode cX12_emit 44 = .ok (.iconst 1, 1) := by decide +kernel
theorem demit_45 : decode cX12_emit 45 = .ok (.isub, 1) := by decide +kernel
theorem demit_46 : decode cX12_emit 46 = .ok (.ireturn, 1) := by decide +kernel
section
variable {l : Launch} {D : va_G} {cA : Nat → ClassId} {ad : Nat → Nat}
theorem s_emit {a1 a2 a3 : Int} {h : ja_H} {Q : Option ja_V → ja_H → Prop} (g : mo_G Zz h) (r1 : -2147483648 ≤ a1 ∧ a1 ≤ 2147483647) (r2 : -2147483648 ≤ a2 ∧ a2 ≤ 2147483647) (r3 : -2147483648 ≤ a3 ∧ a3 ≤ 2147483647) (p1 : 0 ≤ a1 ∧ a1 ≤ 26) (p2 : (h 0 113) < 5000) (k1 : mo_G Zz (ja_up (ja_up (ja_up (ja_up h 74 (((h 0 113)).toNat) a1) 75 (((h 0 113)).toNat) a2) 76 (((h 0 113)).toNat) a3) 0 113 ((h 0 113) + 1)) → Q (some (0, (h 0 113))) (ja_up (ja_up (ja_up (ja_up h 74 (((h 0 113)).toNat) a1) 75 (((h 0 113)).toNat) a2) 76 (((h 0 113)).toNat) a3) 0 113 ((h 0 113) + 1))) : mM_emit l D cA ad a1 a2 a3 h Q := by
  show mJ l D cA ad 1 cX12_emit 4 (some .int) 0 [(0, (2, ((0 : Nat) : Int))), (1, (0, a1)), (2, (0, a2)), (3, (0, a3))] [] h Q
  refine ja_aload_n demit_0 rfl rfl ?_
  refine fa_op demit_1 ?_
  refine ja_aload_n demit_4 rfl rfl ?_
  refine fg_words (v := h 0 113) rfl demit_5 ?_
  have f1 := gF_words g
  refine ja_iload_n demit_8 rfl rfl ?_
  have g2 := gW_op g (h 0 113).toNat (x := a1) ⟨by omega, by omega⟩
  refine is_op ⟨by omega, by omega⟩ demit_9 ?_
  refine ja_aload_n demit_10 rfl rfl ?_
  refine fa_opA demit_11 ?_
  refine ja_aload_n demit_14 rfl rfl ?_
  refine fg_words (v := h 0 113) rfl demit_15 ?_
  refine ja_iload_n demit_18 rfl rfl ?_
  have g3 := gW_opA g2 (h 0 113).toNat (x := a2) ⟨by omega, by omega⟩
  refine is_opA ⟨by omega, by omega⟩ demit_19 ?_
  refine ja_aload_n demit_20 rfl rfl ?_
  refine fa_opB demit_21 ?_
  refine ja_aload_n demit_24 rfl rfl ?_
  refine fg_words (v := h 0 113) rfl demit_25 ?_
  refine ja_iload_n demit_28 rfl rfl ?_
  have g4 := gW_opB g3 (h 0 113).toNat (x := a3) ⟨by omega, by omega⟩
  refine is_opB ⟨by omega, by omega⟩ demit_29 ?_
  refine ja_aload_n demit_30 rfl rfl ?_
  refine ja_dup demit_31 (by decide) ?_
  refine fg_words (v := h 0 113) rfl demit_32 ?_
  refine ja_iconst demit_35 ?_
  refine ja_iadd demit_36 ?_
  have g5 := gP_words g4 (x := (h 0 113) + 1) ⟨by omega, by omega⟩
  refine fp_words demit_37 ?_
  refine ja_aload_n demit_40 rfl rfl ?_
  refine fg_words (v := (h 0 113) + 1) rfl demit_41 ?_
  refine ja_iconst demit_44 ?_
  refine ja_isub demit_45 ?_
  refine ja_ireturn demit_46 rfl ?_
  exact mo_fin (by omega) rfl (k1 g5)
theorem t_emit {a1 a2 a3 : Int} {d nL pc : Nat} {cc : ByteArray} {rt : Option FieldType} {L : List (Nat × ja_V)} {S : List ja_V} {h : ja_H} {Q : Option ja_V → ja_H → Prop} (hdd : 1 < d) (hwd : ja_wd S ≤ 8) (hd : decode cc pc = .ok (.invokevirtual 732, 3)) (g : mo_G Zz h) (r1 : -2147483648 ≤ a1 ∧ a1 ≤ 2147483647) (r2 : -2147483648 ≤ a2 ∧ a2 ≤ 2147483647) (r3 : -2147483648 ≤ a3 ∧ a3 ≤ 2147483647) (p1 : 0 ≤ a1 ∧ a1 ≤ 26) (p2 : (h 0 113) < 5000) (k1 : mo_G Zz (ja_up (ja_up (ja_up (ja_up h 74 (((h 0 113)).toNat) a1) 75 (((h 0 113)).toNat) a2) 76 (((h 0 113)).toNat) a3) 0 113 ((h 0 113) + 1)) → mJ l D cA ad d cc nL rt (pc + 3) L ((0, (h 0 113)) :: S) (ja_up (ja_up (ja_up (ja_up h 74 (((h 0 113)).toNat) a1) 75 (((h 0 113)).toNat) a2) 76 (((h 0 113)).toNat) a3) 0 113 ((h 0 113) + 1)) Q) : mJ l D cA ad d cc nL rt pc L ((0, a3) :: (0, a2) :: (0, a1) :: (2, ((0 : Nat) : Int)) :: S) h Q :=
  mc_emit hdd hwd hd (s_emit g r1 r2 r3 p1 p2 k1)
end
theorem denter_0 : decode cX12_enter 0 = .ok (.aload_n 0, 1) := by decide +kernel
theorem denter_1 : decode cX12_enter 1 = .ok (.getfield 614, 3) := by decide +kernel
theorem denter_4 : decode cX12_enter 4 = .ok (.bipush 16, 2) := by decide +kernel
theorem denter_6 : decode cX12_enter 6 = .ok (.if_icmp .ne 9, 3) := by decide +kernel
theorem denter_9 : decode cX12_enter 9 = .ok (.aload_n 0, 1) := by decide +kernel
theorem denter_10 : decode cX12_enter 10 = .ok (.iconst 3, 1) := by decide +kernel
theorem denter_11 : decode cX12_enter 11 = .ok (.invokevirtual 583, 3) := by decide +kernel
theorem denter_14 : decode cX12_enter 14 = .ok (.ireturn, 1) := by decide +kernel
theorem denter_15 : decode cX12_enter 15 = .ok (.aload_n 0, 1) := by decide +kernel
theorem denter_16 : decode cX12_enter 16 = .ok (.dup, 1) := by decide +kernel
theorem denter_17 : decode cX12_enter 17 = .ok (.getfield 614, 3) := by decide +kernel
theorem denter_20 : decode cX12_enter 20 = .ok (.iconst 1, 1) := by decide +kernel
theorem denter_21 : decode cX12_enter 21 = .ok (.iadd, 1) := by decide +kernel
theorem denter_22 : decode cX12_enter 22 = .ok (.putfield 614, 3) := by decide +kernel
theorem denter_25 : decode cX12_enter 25 = .ok (.iconst 1, 1) := by decide +kernel
theorem denter_26 : decode cX12_enter 26 = .ok (.ireturn, 1) := by decide +kernel
section
variable {l : Launch} {D : va_G} {cA : Nat → ClassId} {ad : Nat → Nat}
theorem s_enter {h : ja_H} {Q : Option ja_V → ja_H → Prop} (g : mo_G Zz h) (k1 : ((h 0 18) < 16) → mo_G Zz (ja_up h 0 18 ((h 0 18) + 1)) → Q (some (0, 1)) (ja_up h 0 18 ((h 0 18) + 1))) (k2 : ∀ (h' : ja_H), (0 < (h' 0 8) ∧ (h' 0 1) = (h 0 1) ∧ (h' 0 118) = (h 0 118) ∧ (h' 0 127) = (h 0 127)) → mo_G Zz h' → Q (some (0, 0)) h') : mM_enter l D cA ad  h Q := by
  show mJ l D cA ad 2 cX12_enter 1 (some .boolean) 0 [(0, (2, ((0 : Nat) : Int)))] [] h Q
  refine ja_aload_n denter_0 rfl rfl ?_
  refine fg_nest (v := h 0 18) rfl denter_1 ?_
  have f1 := gF_nest g
  refine ja_bipush 16 denter_4 rfl ?_
  refine ja_icmp_ne 15 denter_6 rfl ⟨by omega, by omega⟩ ⟨by decide, by decide⟩ (fun c6 => ?_) (fun c6 => ?_)
  · refine ja_aload_n denter_15 rfl rfl ?_
    refine ja_dup denter_16 (by decide) ?_
    refine fg_nest (v := h 0 18) rfl denter_17 ?_
    refine ja_iconst denter_20 ?_
    refine ja_iadd denter_21 ?_
    have g2 := gP_nest g (x := (h 0 18) + 1) ⟨by omega, by omega⟩
    refine fp_nest denter_22 ?_
    refine ja_iconst denter_25 ?_
    refine ja_zreturn denter_26 rfl (by omega) ?_
    exact mo_fin (by omega) rfl (k1 (by omega) g2)
  · refine ja_aload_n denter_9 rfl rfl ?_
    refine ja_iconst denter_10 ?_
    refine t_halt (by decide) (show (0 : Nat) ≤ 8 by decide) denter_11 g ⟨by decide, by decide⟩ (show 1 ≤ 3 ∧ 3 ≤ 8 by omega) ?_
    intro h3 k11_0 g4
    refine ja_zreturn denter_14 rfl (by omega) ?_
    exact mo_fin (by omega) rfl (k2 h3 (by omega) g4)
theorem t_enter {d nL pc : Nat} {cc : ByteArray} {rt : Option FieldType} {L : List (Nat × ja_V)} {S : List ja_V} {h : ja_H} {Q : Option ja_V → ja_H → Prop} (hdd : 2 < d) (hwd : ja_wd S ≤ 8) (hd : decode cc pc = .ok (.invokevirtual 814, 3)) (g : mo_G Zz h) (k1 : ((h 0 18) < 16) → mo_G Zz (ja_up h 0 18 ((h 0 18) + 1)) → mJ l D cA ad d cc nL rt (pc + 3) L ((0, 1) :: S) (ja_up h 0 18 ((h 0 18) + 1)) Q) (k2 : ∀ (h' : ja_H), (0 < (h' 0 8) ∧ (h' 0 1) = (h 0 1) ∧ (h' 0 118) = (h 0 118) ∧ (h' 0 127) = (h 0 127)) → mo_G Zz h' → mJ l D cA ad d cc nL rt (pc + 3) L ((0, 0) :: S) h' Q) : mJ l D cA ad d cc nL rt pc L ((2, ((0 : Nat) : Int)) :: S) h Q :=
  mc_enter hdd hwd hd (s_enter g k1 k2)
end
theorem dwant_0 : decode cX12_want 0 = .ok (.aload_n 0, 1) := by decide +kernel
theorem dwant_1 : decode cX12_want 1 = .ok (.getfield 143, 3) := by decide +kernel
theorem dwant_4 : decode cX12_want 4 = .ok (.aload_n 0, 1) := by decide +kernel
theorem dwant_5 : decode cX12_want 5 = .ok (.getfield 626, 3) := by decide +kernel
theorem dwant_8 : decode cX12_want 8 = .ok (.iload_n 1, 1) := by decide +kernel
theorem dwant_9 : decode cX12_want 9 = .ok (.iastore, 1) := by decide +kernel
theorem dwant_10 : decode cX12_want 10 = .ok (.aload_n 0, 1) := by decide +kernel
theorem dwant_11 : decode cX12_want 11 = .ok (.getfield 140, 3) := by decide +kernel
theorem dwant_14 : decode cX12_want 14 = .ok (.aload_n 0, 1) := by decide +kernel
theorem dwant_15 : decode cX12_want 15 = .ok (.getfield 626, 3) := by decide +kernel
theorem dwant_18 : decode cX12_want 18 = .ok (.iload_n 2, 1) := by decide +kernel
theorem dwant_19 : decode cX12_want 19 = .ok (.iastore, 1) := by decide +kernel
theorem dwant_20 : decode cX12_want 20 = .ok (.aload_n 0, 1) := by decide +kernel
theorem dwant_21 : decode cX12_want 21 = .ok (.getfield 146, 3) := by decide +kernel
theorem dwant_24 : decode cX12_want 24 = .ok (.aload_n 0, 1) := by decide +kernel
theorem dwant_25 : decode cX12_want 25 = .ok (.getfield 626, 3) := by decide +kernel
theorem dwant_28 : decode cX12_want 28 = .ok (.iload_n 3, 1) := by decide +kernel
theorem dwant_29 : decode cX12_want 29 = .ok (.iastore, 1) := by decide +kernel
theorem dwant_30 : decode cX12_want 30 = .ok (.aload_n 0, 1) := by decide +kernel
theorem dwant_31 : decode cX12_want 31 = .ok (.dup, 1) := by decide +kernel
theorem dwant_32 : decode cX12_want 32 = .ok (.getfield 626, 3) := by decide +kernel
theorem dwant_35 : decode cX12_want 35 = .ok (.iconst 1, 1) := by decide +kernel
theorem dwant_36 : decode cX12_want 36 = .ok (.iadd, 1) := by decide +kernel
theorem dwant_37 : decode cX12_want 37 = .ok (.putfield 626, 3) := by decide +kernel
theorem dwant_40 : decode cX12_want 40 = .ok (.return_, 1) := by decide +kernel
section
variable {l : Launch} {D : va_G} {cA : Nat → ClassId} {ad : Nat → Nat}
theorem s_want {a1 a2 a3 : Int} {h : ja_H} {Q : Option ja_V → ja_H → Prop} (g : mo_G Zz h) (r1 : -2147483648 ≤ a1 ∧ a1 ≤ 2147483647) (r2 : -2147483648 ≤ a2 ∧ a2 ≤ 2147483647) (r3 : -2147483648 ≤ a3 ∧ a3 ≤ 2147483647) (p1 : 0 ≤ a1 ∧ a1 ≤ 1) (p2 : 0 ≤ a2 ∧ a2 ≤ 900) (p3 : 0 ≤ a3 ∧ a3 ≤ 7) (p4 : (h 0 68) < 900) (k1 : mo_G Zz (ja_up (ja_up (ja_up (ja_up h 45 (((h 0 68)).toNat) a1) 44 (((h 0 68)).toNat) a2) 46 (((h 0 68)).toNat) a3) 0 68 ((h 0 68) + 1)) → Q none (ja_up (ja_up (ja_up (ja_up h 45 (((h 0 68)).toNat) a1) 44 (((h 0 68)).toNat) a2) 46 (((h 0 68)).toNat) a3) 0 68 ((h 0 68) + 1))) : mM_want l D cA ad a1 a2 a3 h Q := by
  show mJ l D cA ad 1 cX12_want 4 none 0 [(0, (2, ((0 : Nat) : Int))), (1, (0, a1)), (2, (0, a2)), (3, (0, a3))] [] h Q
  refine ja_aload_n dwant_0 rfl rfl ?_
  refine fa_wantSort dwant_1 ?_
  refine ja_aload_n dwant_4 rfl rfl ?_
  refine fg_wants (v := h 0 68) rfl dwant_5 ?_
  have f1 := gF_wants g
  refine ja_iload_n dwant_8 rfl rfl ?_
  have g2 := gW_wantSort g (h 0 68).toNat (x := a1) ⟨by omega, by omega⟩
  refine is_wantSort ⟨by omega, by omega⟩ dwant_9 ?_
  refine ja_aload_n dwant_10 rfl rfl ?_
  refine fa_wantToken dwant_11 ?_
  refine ja_aload_n dwant_14 rfl rfl ?_
  refine fg_wants (v := h 0 68) rfl dwant_15 ?_
  refine ja_iload_n dwant_18 rfl rfl ?_
  have g3 := gW_wantToken g2 (h 0 68).toNat (x := a2) ⟨by omega, by omega⟩
  refine is_wantToken ⟨by omega, by omega⟩ dwant_19 ?_
  refine ja_aload_n dwant_20 rfl rfl ?_
  refine fa_wantOf dwant_21 ?_
  refine ja_aload_n dwant_24 rfl rfl ?_
  refine fg_wants (v := h 0 68) rfl dwant_25 ?_
  refine ja_iload_n dwant_28 rfl rfl ?_
  have g4 := gW_wantOf g3 (h 0 68).toNat (x := a3) ⟨by omega, by omega⟩
  refine is_wantOf ⟨by omega, by omega⟩ dwant_29 ?_
  refine ja_aload_n dwant_30 rfl rfl ?_
  refine ja_dup dwant_31 (by decide) ?_
  refine fg_wants (v := h 0 68) rfl dwant_32 ?_
  refine ja_iconst dwant_35 ?_
  refine ja_iadd dwant_36 ?_
  have g5 := gP_wants g4 (x := (h 0 68) + 1) ⟨by omega, by omega⟩
  refine fp_wants dwant_37 ?_
  refine ja_return dwant_40 rfl ?_
  exact k1 g5
theorem t_want {a1 a2 a3 : Int} {d nL pc : Nat} {cc : ByteArray} {rt : Option FieldType} {L : List (Nat × ja_V)} {S : List ja_V} {h : ja_H} {Q : Option ja_V → ja_H → Prop} (hdd : 1 < d) (hwd : ja_wd S ≤ 8) (hd : decode cc pc = .ok (.invokevirtual 783, 3)) (g : mo_G Zz h) (r1 : -2147483648 ≤ a1 ∧ a1 ≤ 2147483647) (r2 : -2147483648 ≤ a2 ∧ a2 ≤ 2147483647) (r3 : -2147483648 ≤ a3 ∧ a3 ≤ 2147483647) (p1 : 0 ≤ a1 ∧ a1 ≤ 1) (p2 : 0 ≤ a2 ∧ a2 ≤ 900) (p3 : 0 ≤ a3 ∧ a3 ≤ 7) (p4 : (h 0 68) < 900) (k1 : mo_G Zz (ja_up (ja_up (ja_up (ja_up h 45 (((h 0 68)).toNat) a1) 44 (((h 0 68)).toNat) a2) 46 (((h 0 68)).toNat) a3) 0 68 ((h 0 68) + 1)) → mJ l D cA ad d cc nL rt (pc + 3) L S (ja_up (ja_up (ja_up (ja_up h 45 (((h 0 68)).toNat) a1) 44 (((h 0 68)).toNat) a2) 46 (((h 0 68)).toNat) a3) 0 68 ((h 0 68) + 1)) Q) : mJ l D cA ad d cc nL rt pc L ((0, a3) :: (0, a2) :: (0, a1) :: (2, ((0 : Nat) : Int)) :: S) h Q :=
  mc_want hdd hwd hd (s_want g r1 r2 r3 p1 p2 p3 p4 k1)
end
