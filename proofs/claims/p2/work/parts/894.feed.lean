/-! the class: Tokens.append, Tokens.empty, Tokens.length; feed, wipe -/
theorem dap_0 : decode cX9_append 0 = .ok (.iconst 0, 1) := by decide +kernel
theorem dap_1 : decode cX9_append 1 = .ok (.istore 4, 2) := by decide +kernel
theorem dap_3 : decode cX9_append 3 = .ok (.iload 4, 2) := by decide +kernel
theorem dap_5 : decode cX9_append 5 = .ok (.iload_n 1, 1) := by decide +kernel
theorem dap_6 : decode cX9_append 6 = .ok (.if_icmp .ge 54, 3) := by decide +kernel
theorem dap_9 : decode cX9_append 9 = .ok (.iload 4, 2) := by decide +kernel
theorem dap_11 : decode cX9_append 11 = .ok (.bipush 8, 2) := by decide +kernel
theorem dap_13 : decode cX9_append 13 = .ok (.if_icmp .ge 47, 3) := by decide +kernel
theorem dap_16 : decode cX9_append 16 = .ok (.aload_n 0, 1) := by decide +kernel
theorem dap_17 : decode cX9_append 17 = .ok (.getfield 46, 3) := by decide +kernel
theorem dap_20 : decode cX9_append 20 = .ok (.sipush 5000, 3) := by decide +kernel
theorem dap_23 : decode cX9_append 23 = .ok (.if_icmp .ge 37, 3) := by decide +kernel
theorem dap_26 : decode cX9_append 26 = .ok (.aload_n 0, 1) := by decide +kernel
theorem dap_27 : decode cX9_append 27 = .ok (.getfield 9, 3) := by decide +kernel
theorem dap_30 : decode cX9_append 30 = .ok (.aload_n 0, 1) := by decide +kernel
theorem dap_31 : decode cX9_append 31 = .ok (.getfield 46, 3) := by decide +kernel
theorem dap_34 : decode cX9_append 34 = .ok (.lload_n 2, 1) := by decide +kernel
theorem dap_35 : decode cX9_append 35 = .ok (.bipush 8, 2) := by decide +kernel
theorem dap_37 : decode cX9_append 37 = .ok (.iload 4, 2) := by decide +kernel
theorem dap_39 : decode cX9_append 39 = .ok (.imul, 1) := by decide +kernel
theorem dap_40 : decode cX9_append 40 = .ok (.lushr, 1) := by decide +kernel
theorem dap_41 : decode cX9_append 41 = .ok (.l2i, 1) := by decide +kernel
theorem dap_42 : decode cX9_append 42 = .ok (.i2b, 1) := by decide +kernel
theorem dap_43 : decode cX9_append 43 = .ok (.bastore, 1) := by decide +kernel
theorem dap_44 : decode cX9_append 44 = .ok (.aload_n 0, 1) := by decide +kernel
theorem dap_45 : decode cX9_append 45 = .ok (.dup, 1) := by decide +kernel
theorem dap_46 : decode cX9_append 46 = .ok (.getfield 46, 3) := by decide +kernel
theorem dap_49 : decode cX9_append 49 = .ok (.iconst 1, 1) := by decide +kernel
theorem dap_50 : decode cX9_append 50 = .ok (.iadd, 1) := by decide +kernel
theorem dap_51 : decode cX9_append 51 = .ok (.putfield 46, 3) := by decide +kernel
theorem dap_54 : decode cX9_append 54 = .ok (.iinc 4 1, 3) := by decide +kernel
theorem dap_57 : decode cX9_append 57 = .ok (.goto (-54), 3) := by decide +kernel
theorem dap_60 : decode cX9_append 60 = .ok (.return_, 1) := by decide +kernel
theorem dem_0 : decode cX9_empty 0 = .ok (.aload_n 0, 1) := by decide +kernel
theorem dem_1 : decode cX9_empty 1 = .ok (.iconst 0, 1) := by decide +kernel
theorem dem_2 : decode cX9_empty 2 = .ok (.putfield 46, 3) := by decide +kernel
theorem dem_5 : decode cX9_empty 5 = .ok (.return_, 1) := by decide +kernel
theorem dle9_0 : decode cX9_length 0 = .ok (.aload_n 0, 1) := by decide +kernel
theorem dle9_1 : decode cX9_length 1 = .ok (.getfield 46, 3) := by decide +kernel
theorem dle9_4 : decode cX9_length 4 = .ok (.ireturn, 1) := by decide +kernel
theorem dfe_0 : decode cX11_feed 0 = .ok (.iload_n 1, 1) := by decide +kernel
theorem dfe_1 : decode cX11_feed 1 = .ok (.iconst 1, 1) := by decide +kernel
theorem dfe_2 : decode cX11_feed 2 = .ok (.if_icmp .lt 24, 3) := by decide +kernel
theorem dfe_5 : decode cX11_feed 5 = .ok (.iload_n 1, 1) := by decide +kernel
theorem dfe_6 : decode cX11_feed 6 = .ok (.bipush 8, 2) := by decide +kernel
theorem dfe_8 : decode cX11_feed 8 = .ok (.if_icmp .gt 18, 3) := by decide +kernel
theorem dfe_11 : decode cX11_feed 11 = .ok (.aload_n 0, 1) := by decide +kernel
theorem dfe_12 : decode cX11_feed 12 = .ok (.getfield 12, 3) := by decide +kernel
theorem dfe_15 : decode cX11_feed 15 = .ok (.invokevirtual 85, 3) := by decide +kernel
theorem dfe_18 : decode cX11_feed 18 = .ok (.iload_n 1, 1) := by decide +kernel
theorem dfe_19 : decode cX11_feed 19 = .ok (.iadd, 1) := by decide +kernel
theorem dfe_20 : decode cX11_feed 20 = .ok (.sipush 5000, 3) := by decide +kernel
theorem dfe_23 : decode cX11_feed 23 = .ok (.if_icmp .le 13, 3) := by decide +kernel
theorem dfe_26 : decode cX11_feed 26 = .ok (.new 89, 3) := by decide +kernel
theorem dfe_29 : decode cX11_feed 29 = .ok (.dup, 1) := by decide +kernel
theorem dfe_30 : decode cX11_feed 30 = .ok (.ldc 91, 2) := by decide +kernel
theorem dfe_32 : decode cX11_feed 32 = .ok (.invokespecial 93, 3) := by decide +kernel
theorem dfe_35 : decode cX11_feed 35 = .ok (.athrow, 1) := by decide +kernel
theorem dfe_36 : decode cX11_feed 36 = .ok (.aload_n 0, 1) := by decide +kernel
theorem dfe_37 : decode cX11_feed 37 = .ok (.getfield 12, 3) := by decide +kernel
theorem dfe_40 : decode cX11_feed 40 = .ok (.iload_n 1, 1) := by decide +kernel
theorem dfe_41 : decode cX11_feed 41 = .ok (.lload_n 2, 1) := by decide +kernel
theorem dfe_42 : decode cX11_feed 42 = .ok (.invokevirtual 96, 3) := by decide +kernel
theorem dfe_45 : decode cX11_feed 45 = .ok (.aload_n 0, 1) := by decide +kernel
theorem dfe_46 : decode cX11_feed 46 = .ok (.iconst 0, 1) := by decide +kernel
theorem dfe_47 : decode cX11_feed 47 = .ok (.putfield 100, 3) := by decide +kernel
theorem dfe_50 : decode cX11_feed 50 = .ok (.aload_n 0, 1) := by decide +kernel
theorem dfe_51 : decode cX11_feed 51 = .ok (.iconst 0, 1) := by decide +kernel
theorem dfe_52 : decode cX11_feed 52 = .ok (.putfield 104, 3) := by decide +kernel
theorem dfe_55 : decode cX11_feed 55 = .ok (.aload_n 0, 1) := by decide +kernel
theorem dfe_56 : decode cX11_feed 56 = .ok (.getfield 12, 3) := by decide +kernel
theorem dfe_59 : decode cX11_feed 59 = .ok (.invokevirtual 85, 3) := by decide +kernel
theorem dfe_62 : decode cX11_feed 62 = .ok (.ireturn, 1) := by decide +kernel
theorem dwi_0 : decode cX11_wipe 0 = .ok (.aload_n 0, 1) := by decide +kernel
theorem dwi_1 : decode cX11_wipe 1 = .ok (.getfield 12, 3) := by decide +kernel
theorem dwi_4 : decode cX11_wipe 4 = .ok (.invokevirtual 85, 3) := by decide +kernel
theorem dwi_7 : decode cX11_wipe 7 = .ok (.istore_n 1, 1) := by decide +kernel
theorem dwi_8 : decode cX11_wipe 8 = .ok (.aload_n 0, 1) := by decide +kernel
theorem dwi_9 : decode cX11_wipe 9 = .ok (.getfield 12, 3) := by decide +kernel
theorem dwi_12 : decode cX11_wipe 12 = .ok (.invokevirtual 107, 3) := by decide +kernel
theorem dwi_15 : decode cX11_wipe 15 = .ok (.aload_n 0, 1) := by decide +kernel
theorem dwi_16 : decode cX11_wipe 16 = .ok (.iconst 0, 1) := by decide +kernel
theorem dwi_17 : decode cX11_wipe 17 = .ok (.putfield 100, 3) := by decide +kernel
theorem dwi_20 : decode cX11_wipe 20 = .ok (.aload_n 0, 1) := by decide +kernel
theorem dwi_21 : decode cX11_wipe 21 = .ok (.iconst 0, 1) := by decide +kernel
theorem dwi_22 : decode cX11_wipe 22 = .ok (.putfield 104, 3) := by decide +kernel
theorem dwi_25 : decode cX11_wipe 25 = .ok (.iload_n 1, 1) := by decide +kernel
theorem dwi_26 : decode cX11_wipe 26 = .ok (.ireturn, 1) := by decide +kernel
theorem fe_w46 : Cond.fieldLink RX9 46 (TX9 6).1 (TX9 6).2.1 (TX9 6).2.2.1 ∈ ja_B := ja_m (ck_tb_in (p := 4936) (by decide +kernel)) rfl
theorem fe_w9 : Cond.fieldLink RX9 9 (TX9 0).1 (TX9 0).2.1 (TX9 0).2.2.1 ∈ ja_B := ja_m (ck_tb_in (p := 4927) (by decide +kernel)) rfl
theorem fe_w12 : Cond.fieldLink RX11 12 (TX11 0).1 (TX11 0).2.1 (TX11 0).2.2.1 ∈ ja_B := ja_m (ck_tb_in (p := 5399) (by decide +kernel)) rfl
theorem fe_w100 : Cond.fieldLink RX11 100 (TX11 8).1 (TX11 8).2.1 (TX11 8).2.2.1 ∈ ja_B := ja_m (ck_tb_in (p := 5407) (by decide +kernel)) rfl
theorem fe_w104 : Cond.fieldLink RX11 104 (TX11 9).1 (TX11 9).2.1 (TX11 9).2.2.1 ∈ ja_B := ja_m (ck_tb_in (p := 5408) (by decide +kernel)) rfl
theorem fm_lenl : Cond.methodLink RX11 85 yX9_length ∈ ja_B := ja_m (ck_tb_in (p := 5440) (by decide +kernel)) rfl
theorem fm_lenc : Cond.code yX9_length cX9_length 1 (some .int) ∈ ja_B := ja_m (ck_tb_in (p := 5443) (by decide +kernel)) rfl
theorem fm_leni : Cond.instanceMethod yX9_length ∈ ja_B := ja_m (ck_tb_in (p := 5441) (by decide +kernel)) rfl
theorem fm_lens : Cond.selects yX9_length.cls yX9_length yX9_length ∈ ja_B := ja_m (ck_tb_in (p := 5442) (by decide +kernel)) rfl
theorem fm_lent : Cond.initialized yX9_length.cls ∈ ja_B := ja_m (ck_tb_in (p := 4866) (by decide +kernel)) rfl
theorem fm_appl : Cond.methodLink RX11 96 yX9_append ∈ ja_B := ja_m (ck_tb_in (p := 6193) (by decide +kernel)) rfl
theorem fm_appc : Cond.code yX9_append cX9_append 5 none ∈ ja_B := ja_m (ck_tb_in (p := 6196) (by decide +kernel)) rfl
theorem fm_appi : Cond.instanceMethod yX9_append ∈ ja_B := ja_m (ck_tb_in (p := 6194) (by decide +kernel)) rfl
theorem fm_apps : Cond.selects yX9_append.cls yX9_append yX9_append ∈ ja_B := ja_m (ck_tb_in (p := 6195) (by decide +kernel)) rfl
theorem fm_appt : Cond.initialized yX9_append.cls ∈ ja_B := ja_m (ck_tb_in (p := 4866) (by decide +kernel)) rfl
theorem fm_empl : Cond.methodLink RX11 107 yX9_empty ∈ ja_B := ja_m (ck_tb_in (p := 5444) (by decide +kernel)) rfl
theorem fm_empc : Cond.code yX9_empty cX9_empty 1 none ∈ ja_B := ja_m (ck_tb_in (p := 5447) (by decide +kernel)) rfl
theorem fm_empi : Cond.instanceMethod yX9_empty ∈ ja_B := ja_m (ck_tb_in (p := 5445) (by decide +kernel)) rfl
theorem fm_emps : Cond.selects yX9_empty.cls yX9_empty yX9_empty ∈ ja_B := ja_m (ck_tb_in (p := 5446) (by decide +kernel)) rfl
theorem fm_empt : Cond.initialized yX9_empty.cls ∈ ja_B := ja_m (ck_tb_in (p := 4866) (by decide +kernel)) rfl
section
variable {l : Launch} {D : va_G} {cA : Nat → ClassId} {ad : Nat → Nat} {d : Nat} {v0 : Int} {Q : Option ja_V → ja_H → Prop} {cc : ByteArray} {nL : Nat} {rt : Option FieldType} {pc : Nat} {L : List (Nat × ja_V)} {S : List ja_V} {h : ja_H}
theorem fe_len (hd : decode cc pc = .ok (.getfield 46, 3)) (k : ja_J l D cA ad cw_sp cw_K d RX9 cc nL rt (pc + 3) L ((0, h 1 6) :: S) h Q) : ja_J l D cA ad cw_sp cw_K d RX9 cc nL rt pc L ((2, ((1 : Nat) : Int)) :: S) h Q :=
  ja_get (ci := 9) (j := 6) (N := 8) (C := RX9) (T := TX9) (q := 1) (by decide) rfl (by decide) rfl (by decide) cl_in9 fe_w46 hd k
theorem fe_byt (hd : decode cc pc = .ok (.getfield 9, 3)) (k : ja_J l D cA ad cw_sp cw_K d RX9 cc nL rt (pc + 3) L ((2, ((10 : Nat) : Int)) :: S) h Q) : ja_J l D cA ad cw_sp cw_K d RX9 cc nL rt pc L ((2, ((1 : Nat) : Int)) :: S) h Q :=
  ja_get (ci := 9) (j := 0) (N := 8) (C := RX9) (T := TX9) (q := 1) (by decide) rfl (by decide) rfl (by decide) cl_in9 fe_w9 hd k
theorem fe_put {x : Int} (hd : decode cc pc = .ok (.putfield 46, 3)) (k : ja_J l D cA ad cw_sp cw_K d RX9 cc nL rt (pc + 3) L S (ja_up h 1 6 x) Q) : ja_J l D cA ad cw_sp cw_K d RX9 cc nL rt pc L ((0, x) :: (2, ((1 : Nat) : Int)) :: S) h Q :=
  ja_putI (ci := 9) (j := 6) (N := 8) (C := RX9) (T := TX9) (q := 1) (by decide) rfl (by decide) rfl (by decide) cl_in9 tyX9 tyX9_ok nmX9 rfl rfl rfl fe_w46 hd k
/-- the length is another -/
theorem fe_W {v1 : Int} (W : ck_W cw_sp cw_fi cw_K cw_pr v0 h) (h0 : 0 ≤ v1) (h1 : v1 ≤ 5000) : ck_W cw_sp cw_fi cw_K cw_pr v1 (ja_up h 1 6 v1) := by
  refine ⟨fun k i hk hi hil => ?_, ?_⟩
  · unfold ja_up
    split
    · next e =>
      obtain ⟨rfl, rfl⟩ := e
      have e1 : ck_fi cw_sp cw_fi 1 6 = (0, 5000) := by decide +kernel
      rw [e1]
      exact ⟨h0, h1⟩
    · exact W.1 k i hk hi hil
  · show ja_up h 1 6 v1 1 6 = v1
    unfold ja_up
    rw [if_pos ⟨rfl, rfl⟩]
theorem fe_W0 (W : ck_W cw_sp cw_fi cw_K cw_pr v0 h) : 0 ≤ v0 ∧ v0 ≤ 5000 := by
  have h1 := W.1 1 6 (by decide) (by decide) (by decide +kernel)
  have e1 : ck_fi cw_sp cw_fi 1 6 = (0, 5000) := by decide +kernel
  rw [e1] at h1
  have h2 : h 1 6 = v0 := W.2
  rw [h2] at h1
  exact h1
theorem fe_length (W : ck_W cw_sp cw_fi cw_K cw_pr v0 h) (hQ : Q (some (0, v0)) h) : ja_M l D cA ad cw_sp cw_K d yX9_length cX9_length 1 (some .int) [(2, ((1 : Nat) : Int))] h Q := by
  show ja_J l D cA ad cw_sp cw_K d RX9 cX9_length 1 (some .int) 0 [(0, (2, ((1 : Nat) : Int)))] [] h Q
  refine ja_aload_n (i := 0) (x := ((1 : Nat) : Int)) dle9_0 rfl rfl ?_
  refine fe_len dle9_1 ?_
  have h2 : h 1 6 = v0 := W.2
  rw [h2]
  exact ja_ireturn dle9_4 rfl hQ
theorem fe_empty (W : ck_W cw_sp cw_fi cw_K cw_pr v0 h) (hQ : ∀ h', ck_W cw_sp cw_fi cw_K cw_pr 0 h' → Q none h') : ja_M l D cA ad cw_sp cw_K d yX9_empty cX9_empty 1 none [(2, ((1 : Nat) : Int))] h Q := by
  show ja_J l D cA ad cw_sp cw_K d RX9 cX9_empty 1 none 0 [(0, (2, ((1 : Nat) : Int)))] [] h Q
  refine ja_aload_n (i := 0) (x := ((1 : Nat) : Int)) dem_0 rfl rfl ?_
  refine ja_iconst dem_1 ?_
  refine fe_put dem_2 ?_
  exact ja_return dem_5 rfl (hQ _ (fe_W W (by omega) (by omega)))
theorem fe_append {n x : Int} (n1 : 1 ≤ n) (n8 : n ≤ 8) (hv : v0 + n ≤ 5000) (W : ck_W cw_sp cw_fi cw_K cw_pr v0 h) (hQ : ∀ h', ck_W cw_sp cw_fi cw_K cw_pr (v0 + n) h' → Q none h') : ja_M l D cA ad cw_sp cw_K d yX9_append cX9_append 5 none [(2, ((1 : Nat) : Int)), (0, n), (1, x)] h Q := by
  obtain ⟨z0, z1⟩ := fe_W0 W
  show ja_J l D cA ad cw_sp cw_K d RX9 cX9_append 5 none 0 [(0, (2, ((1 : Nat) : Int))), (1, (0, n)), (2, (1, x))] [] h Q
  have key : ∀ (k : Nat) (i : Int) (u : ja_H), (n - i).toNat = k → 0 ≤ i → i ≤ n → ck_W cw_sp cw_fi cw_K cw_pr (v0 + i) u → ja_J l D cA ad cw_sp cw_K d RX9 cX9_append 5 none 3 [(4, (0, i)), (0, (2, ((1 : Nat) : Int))), (1, (0, n)), (2, (1, x))] [] u Q := by
    intro k
    induction k with
    | zero =>
      intro i u hk i0 i1 Wu
      have e : i = n := by omega
      refine ja_iload (i := 4) (x := i) dap_3 rfl ?_
      refine ja_iload_n (i := 1) (x := n) dap_5 rfl rfl ?_
      refine ja_icmp_ge 60 dap_6 (by decide) ⟨by omega, by omega⟩ ⟨by omega, by omega⟩ (fun _ => ?_) (fun q => absurd (by omega) q)
      exact ja_return dap_60 rfl (hQ u (e ▸ Wu))
    | succ k ih =>
      intro i u hk i0 i1 Wu
      have hl : u 1 6 = v0 + i := Wu.2
      refine ja_iload (i := 4) (x := i) dap_3 rfl ?_
      refine ja_iload_n (i := 1) (x := n) dap_5 rfl rfl ?_
      refine ja_icmp_ge 60 dap_6 (by decide) ⟨by omega, by omega⟩ ⟨by omega, by omega⟩ (fun q => absurd q (by omega)) (fun _ => ?_)
      refine ja_iload (i := 4) (x := i) dap_9 rfl ?_
      refine ja_bipush 8 dap_11 (by decide +kernel) ?_
      refine ja_icmp_ge 60 dap_13 (by decide) ⟨by omega, by omega⟩ ⟨by omega, by omega⟩ (fun q => absurd q (by omega)) (fun _ => ?_)
      refine ja_aload_n (i := 0) (x := ((1 : Nat) : Int)) dap_16 rfl rfl ?_
      refine fe_len dap_17 ?_
      rw [hl]
      refine ja_sipush 5000 dap_20 (by decide +kernel) ?_
      refine ja_icmp_ge 60 dap_23 (by decide) ⟨by omega, by omega⟩ ⟨by omega, by omega⟩ (fun q => absurd q (by omega)) (fun _ => ?_)
      refine ja_aload_n (i := 0) (x := ((1 : Nat) : Int)) dap_26 rfl rfl ?_
      refine fe_byt dap_27 ?_
      refine ja_aload_n (i := 0) (x := ((1 : Nat) : Int)) dap_30 rfl rfl ?_
      refine fe_len dap_31 ?_
      rw [hl]
      refine ja_lload_n (i := 2) (x := x) dap_34 rfl rfl ?_
      refine ja_bipush 8 dap_35 (by decide +kernel) ?_
      refine ja_iload (i := 4) (x := i) dap_37 rfl ?_
      refine ja_imul dap_39 ?_
      refine ja_lushr _ dap_40 (Int64.ofInt_toInt _).symm ?_
      refine ja_l2i _ dap_41 (Int32.ofInt_toInt _).symm ?_
      refine ja_i2b _ dap_42 (Int32.ofInt_toInt _).symm ?_
      refine ja_bast (q := 10) (n := 5014) (by decide) rfl (by decide) (by omega) (by omega) _ dap_43 (Int32.ofInt_toInt _).symm ?_
      generalize hbe : (vp_nar .byte (Int32.ofInt _)).toInt = b
      have hb : -2147483648 ≤ b ∧ b ≤ 2147483647 := by rw [← hbe]; exact ck_ofr _
      clear hbe
      have Wb : ck_W cw_sp cw_fi cw_K cw_pr (v0 + i) (ja_up u 10 (v0 + i).toNat b) := ck_W_up Wu (fun _ => by
        have e1 : ck_fi cw_sp cw_fi 10 (v0 + i).toNat = (-2147483648, 2147483647) := by unfold ck_fi; rw [if_neg (by decide)]; decide +kernel
        rw [e1]
        exact hb) (by intro e; exact absurd e.1 (by decide))
      generalize ja_up u 10 (v0 + i).toNat b = w at Wb ⊢
      have hw : w 1 6 = v0 + i := Wb.2
      refine ja_aload_n (i := 0) (x := ((1 : Nat) : Int)) dap_44 rfl rfl ?_
      refine ja_dup dap_45 (by decide) ?_
      refine fe_len dap_46 ?_
      rw [hw]
      refine ja_iconst dap_49 ?_
      refine ja_iadd dap_50 ?_
      refine fe_put dap_51 ?_
      have Wn := fe_W (v1 := v0 + i + 1) Wb (by omega) (by omega)
      rw [show v0 + i + 1 = v0 + (i + 1) by omega] at Wn ⊢
      refine ja_iinc (i := 4) (n := 1) (x := i) (L2 := [(4, (0, i + 1)), (0, (2, ((1 : Nat) : Int))), (1, (0, n)), (2, (1, x))]) dap_54 rfl (by decide) rfl ?_
      refine ja_goto 3 dap_57 (by decide) ?_
      exact ih (i + 1) _ (by omega) (by omega) (by omega) Wn
  refine ja_iconst dap_0 ?_
  refine ja_istore (i := 4) (x := 0) (L2 := [(4, (0, 0)), (0, (2, ((1 : Nat) : Int))), (1, (0, n)), (2, (1, x))]) dap_1 (by decide) rfl ?_
  exact key _ 0 h rfl (by omega) (by omega) (by rw [Int.add_zero]; exact W)
end

section
variable {l : Launch} {D : va_G} {cA : Nat → ClassId} {ad : Nat → Nat} {d : Nat} {v0 : Int} {Q : Option ja_V → ja_H → Prop} {cc : ByteArray} {nL : Nat} {rt : Option FieldType} {pc : Nat} {L : List (Nat × ja_V)} {S : List ja_V} {h : ja_H}
theorem fx_tok (hd : decode cc pc = .ok (.getfield 12, 3)) (k : jx_J l D cA ad cw_sp cw_K d RX11 cc nL rt (pc + 3) L ((2, ((1 : Nat) : Int)) :: S) h Q) : jx_J l D cA ad cw_sp cw_K d RX11 cc nL rt pc L ((2, ((0 : Nat) : Int)) :: S) h Q :=
  jx_get (ci := 11) (j := 0) (N := 12) (C := RX11) (T := TX11) (q := 0) (by decide) rfl (by decide) rfl (by decide) cl_in11 fe_w12 hd k
theorem fx_W {j : Nat} (hj : ¬ (0 = cw_pr.1 ∧ j = cw_pr.2)) (e1 : ck_fi cw_sp cw_fi 0 j = (0, 1)) (W : ck_W cw_sp cw_fi cw_K cw_pr v0 h) : ck_W cw_sp cw_fi cw_K cw_pr v0 (ja_up h 0 j 0) :=
  ck_W_up W (fun _ => by rw [e1]; exact ⟨by decide, by decide⟩) hj
theorem fx_c0 (W : ck_W cw_sp cw_fi cw_K cw_pr v0 h) (hd : decode cc pc = .ok (.putfield 100, 3)) (k : ∀ h', ck_W cw_sp cw_fi cw_K cw_pr v0 h' → jx_J l D cA ad cw_sp cw_K d RX11 cc nL rt (pc + 3) L S h' Q) : jx_J l D cA ad cw_sp cw_K d RX11 cc nL rt pc L ((0, 0) :: (2, ((0 : Nat) : Int)) :: S) h Q :=
  jx_putZ (x := 0) (ci := 11) (j := 8) (N := 12) (C := RX11) (T := TX11) (q := 0) (by decide) rfl (by decide) rfl (by decide) cl_in11 tyX11 tyX11_ok nmX11 rfl rfl rfl (Or.inl rfl) fe_w100 hd (k _ (fx_W (by decide) (by decide +kernel) W))
theorem fx_g0 (W : ck_W cw_sp cw_fi cw_K cw_pr v0 h) (hd : decode cc pc = .ok (.putfield 104, 3)) (k : ∀ h', ck_W cw_sp cw_fi cw_K cw_pr v0 h' → jx_J l D cA ad cw_sp cw_K d RX11 cc nL rt (pc + 3) L S h' Q) : jx_J l D cA ad cw_sp cw_K d RX11 cc nL rt pc L ((0, 0) :: (2, ((0 : Nat) : Int)) :: S) h Q :=
  jx_putZ (x := 0) (ci := 11) (j := 9) (N := 12) (C := RX11) (T := TX11) (q := 0) (by decide) rfl (by decide) rfl (by decide) cl_in11 tyX11 tyX11_ok nmX11 rfl rfl rfl (Or.inl rfl) fe_w104 hd (k _ (fx_W (by decide) (by decide +kernel) W))
theorem fx_len (hd0 : 0 < d) (W : ck_W cw_sp cw_fi cw_K cw_pr v0 h) (hwd : ja_wd S ≤ 8) (hd : decode cc pc = .ok (.invokevirtual 85, 3)) (k : jx_J l D cA ad cw_sp cw_K d RX11 cc nL rt (pc + 3) L ((0, v0) :: S) h Q) : jx_J l D cA ad cw_sp cw_K d RX11 cc nL rt pc L ((2, ((1 : Nat) : Int)) :: S) h Q :=
  jx_callV (S := S) (vals := []) (n := 0) (d' := 0) (N := 8) (T := TX9) (ci := 9) (q := 1) fm_lenl fm_lent fm_lenc (by decide +kernel) rfl hd0 (by decide) fm_leni fm_lens (by decide) rfl (by decide) rfl (by decide) hwd hd (fe_length W k)
theorem fx_feed {a1 a2 : Int} (hd6 : 6 ≤ d) (r1 : ja_r a1) (W : ck_W cw_sp cw_fi cw_K cw_pr v0 h)
    (hB : ∀ h', (a1 < 1 ∨ 8 < a1 ∨ 5000 < v0 + a1) → ck_W cw_sp cw_fi cw_K cw_pr v0 h' → Q (some (7, 0)) h') (hG : ∀ h', 1 ≤ a1 → a1 ≤ 8 → v0 + a1 ≤ 5000 → ck_W cw_sp cw_fi cw_K cw_pr (v0 + a1) h' → Q (some (0, v0 + a1)) h') :
    jx_M l D cA ad cw_sp cw_K d yX11_feed cX11_feed 4 (some .int) [(2, ((0 : Nat) : Int)), (0, a1), (1, a2)] h Q := by
  show jx_J l D cA ad cw_sp cw_K d RX11 cX11_feed 4 (some .int) 0 [(0, (2, ((0 : Nat) : Int))), (1, (0, a1)), (2, (1, a2))] [] h Q
  obtain ⟨z0, z1⟩ := fe_W0 W
  have r0 : ja_r 1 := ⟨by decide, by decide⟩
  have r8 : ja_r 8 := ⟨by decide, by decide⟩
  have bad : (a1 < 1 ∨ 8 < a1 ∨ 5000 < v0 + a1) → jx_J l D cA ad cw_sp cw_K d RX11 cX11_feed 4 (some .int) 26 [(0, (2, ((0 : Nat) : Int))), (1, (0, a1)), (2, (1, a2))] [] h Q := fun hb =>
    jx_thrown (r := 7) (is := 91) (txt := "n") rfl (Or.inl rfl) (by decide +kernel) jx_ck7 jx_ci7 (jx_ats jx_at7 jx_ag7) (by decide) hd6 dfe_26 dfe_29 dfe_30 dfe_32 dfe_35 (hB h hb W)
  refine jx_iload_n (i := 1) (x := a1) dfe_0 rfl rfl ?_
  refine jx_iconst dfe_1 ?_
  refine jx_icmp_lt 26 dfe_2 (by decide) r1 r0 (fun q => bad (Or.inl q)) (fun q1 => ?_)
  refine jx_iload_n (i := 1) (x := a1) dfe_5 rfl rfl ?_
  refine jx_bipush 8 dfe_6 (by decide +kernel) ?_
  refine jx_icmp_gt 26 dfe_8 (by decide) r1 r8 (fun q => bad (Or.inr (Or.inl q))) (fun q2 => ?_)
  refine jx_aload_n (i := 0) (x := ((0 : Nat) : Int)) dfe_11 rfl rfl ?_
  refine fx_tok dfe_12 ?_
  refine fx_len (by omega) W (by decide) dfe_15 ?_
  refine jx_iload_n (i := 1) (x := a1) dfe_18 rfl rfl ?_
  refine jx_iadd dfe_19 ?_
  refine jx_sipush 5000 dfe_20 (by decide +kernel) ?_
  refine jx_icmp_le 36 dfe_23 (by decide) ⟨by omega, by omega⟩ ⟨by omega, by omega⟩ (fun q3 => ?_) (fun q3 => bad (Or.inr (Or.inr (by omega))))
  refine jx_aload_n (i := 0) (x := ((0 : Nat) : Int)) dfe_36 rfl rfl ?_
  refine fx_tok dfe_37 ?_
  refine jx_iload_n (i := 1) (x := a1) dfe_40 rfl rfl ?_
  refine jx_lload_n (i := 2) (x := a2) dfe_41 rfl rfl ?_
  refine jx_callV (S := []) (vals := [(0, a1), (1, a2)]) (n := 2) (d' := 0) (N := 8) (T := TX9) (ci := 9) (q := 1) fm_appl fm_appt fm_appc (by decide +kernel) rfl (by omega) (by decide) fm_appi fm_apps (by decide) rfl (by decide) rfl (show (1 + (2 + 0) : Nat) + 1 ≤ 5 by decide) (by decide) dfe_42 (fe_append (by omega) (by omega) q3 W (fun h' W' => ?_))
  show jx_J l D cA ad cw_sp cw_K d RX11 cX11_feed 4 (some .int) 45 [(0, (2, ((0 : Nat) : Int))), (1, (0, a1)), (2, (1, a2))] [] h' Q
  refine jx_aload_n (i := 0) (x := ((0 : Nat) : Int)) dfe_45 rfl rfl ?_
  refine jx_iconst dfe_46 ?_
  refine fx_c0 W' dfe_47 (fun h2 W2 => ?_)
  refine jx_aload_n (i := 0) (x := ((0 : Nat) : Int)) dfe_50 rfl rfl ?_
  refine jx_iconst dfe_51 ?_
  refine fx_g0 W2 dfe_52 (fun h3 W3 => ?_)
  refine jx_aload_n (i := 0) (x := ((0 : Nat) : Int)) dfe_55 rfl rfl ?_
  refine fx_tok dfe_56 ?_
  refine fx_len (by omega) W3 (by decide) dfe_59 ?_
  exact jx_ireturn dfe_62 rfl (hG h3 (by omega) (by omega) q3 W3)
theorem fx_wipe (hd6 : 0 < d) (W : ck_W cw_sp cw_fi cw_K cw_pr v0 h) (hG : ∀ h', ck_W cw_sp cw_fi cw_K cw_pr 0 h' → Q (some (0, v0)) h') :
    jx_M l D cA ad cw_sp cw_K d yX11_wipe cX11_wipe 2 (some .int) [(2, ((0 : Nat) : Int))] h Q := by
  show jx_J l D cA ad cw_sp cw_K d RX11 cX11_wipe 2 (some .int) 0 [(0, (2, ((0 : Nat) : Int)))] [] h Q
  refine jx_aload_n (i := 0) (x := ((0 : Nat) : Int)) dwi_0 rfl rfl ?_
  refine fx_tok dwi_1 ?_
  refine fx_len hd6 W (by decide) dwi_4 ?_
  refine jx_istore_n (i := 1) (x := v0) (L2 := [(1, (0, v0)), (0, (2, ((0 : Nat) : Int)))]) dwi_7 rfl (by decide) rfl ?_
  refine jx_aload_n (i := 0) (x := ((0 : Nat) : Int)) dwi_8 rfl rfl ?_
  refine fx_tok dwi_9 ?_
  refine jx_callV (S := []) (vals := []) (n := 0) (d' := 0) (N := 8) (T := TX9) (ci := 9) (q := 1) fm_empl fm_empt fm_empc (by decide +kernel) rfl hd6 (by decide) fm_empi fm_emps (by decide) rfl (by decide) rfl (by decide) (by decide) dwi_12 (fe_empty W (fun h' W' => ?_))
  show jx_J l D cA ad cw_sp cw_K d RX11 cX11_wipe 2 (some .int) 15 [(1, (0, v0)), (0, (2, ((0 : Nat) : Int)))] [] h' Q
  refine jx_aload_n (i := 0) (x := ((0 : Nat) : Int)) dwi_15 rfl rfl ?_
  refine jx_iconst dwi_16 ?_
  refine fx_c0 W' dwi_17 (fun h2 W2 => ?_)
  refine jx_aload_n (i := 0) (x := ((0 : Nat) : Int)) dwi_20 rfl rfl ?_
  refine jx_iconst dwi_21 ?_
  refine fx_g0 W2 dwi_22 (fun h3 W3 => ?_)
  refine jx_iload_n (i := 1) (x := v0) dwi_25 rfl rfl ?_
  exact jx_ireturn dwi_26 rfl (hG h3 W3)
end
