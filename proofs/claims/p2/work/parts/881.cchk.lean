theorem cw_c0 : cw_s0.all (fun s => s.2.2.2.isEmpty || ck_meth cw_sp cw_fi cw_K cw_mt cw_pf cw_kl cw_ss cw_hn cw_pr 1000 cw_d0 (cw_mt 0) s) = true := by decide +kernel
theorem cw_c1 : cw_s1.all (fun s => s.2.2.2.isEmpty || ck_meth cw_sp cw_fi cw_K cw_mt cw_pf cw_kl cw_ss cw_hn cw_pr 1000 cw_d1 (cw_mt 1) s) = true := by decide +kernel
theorem cw_c2 : cw_s2.all (fun s => s.2.2.2.isEmpty || ck_meth cw_sp cw_fi cw_K cw_mt cw_pf cw_kl cw_ss cw_hn cw_pr 1000 cw_d2 (cw_mt 2) s) = true := by decide +kernel
theorem cw_c3 : cw_s3.all (fun s => s.2.2.2.isEmpty || ck_meth cw_sp cw_fi cw_K cw_mt cw_pf cw_kl cw_ss cw_hn cw_pr 1000 cw_d3 (cw_mt 3) s) = true := by decide +kernel
theorem cw_c4 : cw_s4.all (fun s => s.2.2.2.isEmpty || ck_meth cw_sp cw_fi cw_K cw_mt cw_pf cw_kl cw_ss cw_hn cw_pr 1000 cw_d4 (cw_mt 4) s) = true := by decide +kernel
theorem cw_c5 : cw_s5.all (fun s => s.2.2.2.isEmpty || ck_meth cw_sp cw_fi cw_K cw_mt cw_pf cw_kl cw_ss cw_hn cw_pr 1000 cw_d5 (cw_mt 5) s) = true := by decide +kernel
theorem cw_c6 : cw_s6.all (fun s => s.2.2.2.isEmpty || ck_meth cw_sp cw_fi cw_K cw_mt cw_pf cw_kl cw_ss cw_hn cw_pr 1000 cw_d6 (cw_mt 6) s) = true := by decide +kernel
theorem cw_c7_0 : ((cw_s7.drop (10 * 0)).take 10).all (fun s => s.2.2.2.isEmpty || ck_meth cw_sp cw_fi cw_K cw_mt cw_pf cw_kl cw_ss cw_hn cw_pr 1000 cw_d7 (cw_mt 7) s) = true := by decide +kernel
theorem cw_c7_1 : ((cw_s7.drop (10 * 1)).take 10).all (fun s => s.2.2.2.isEmpty || ck_meth cw_sp cw_fi cw_K cw_mt cw_pf cw_kl cw_ss cw_hn cw_pr 1000 cw_d7 (cw_mt 7) s) = true := by decide +kernel
theorem cw_c7_2 : ((cw_s7.drop (10 * 2)).take 10).all (fun s => s.2.2.2.isEmpty || ck_meth cw_sp cw_fi cw_K cw_mt cw_pf cw_kl cw_ss cw_hn cw_pr 1000 cw_d7 (cw_mt 7) s) = true := by decide +kernel
theorem cw_c7_3 : ((cw_s7.drop (10 * 3)).take 10).all (fun s => s.2.2.2.isEmpty || ck_meth cw_sp cw_fi cw_K cw_mt cw_pf cw_kl cw_ss cw_hn cw_pr 1000 cw_d7 (cw_mt 7) s) = true := by decide +kernel
theorem cw_c7_4 : ((cw_s7.drop (10 * 4)).take 10).all (fun s => s.2.2.2.isEmpty || ck_meth cw_sp cw_fi cw_K cw_mt cw_pf cw_kl cw_ss cw_hn cw_pr 1000 cw_d7 (cw_mt 7) s) = true := by decide +kernel
theorem cw_c7_5 : ((cw_s7.drop (10 * 5)).take 10).all (fun s => s.2.2.2.isEmpty || ck_meth cw_sp cw_fi cw_K cw_mt cw_pf cw_kl cw_ss cw_hn cw_pr 1000 cw_d7 (cw_mt 7) s) = true := by decide +kernel
theorem cw_c7_6 : ((cw_s7.drop (10 * 6)).take 10).all (fun s => s.2.2.2.isEmpty || ck_meth cw_sp cw_fi cw_K cw_mt cw_pf cw_kl cw_ss cw_hn cw_pr 1000 cw_d7 (cw_mt 7) s) = true := by decide +kernel
theorem cw_c7_7 : ((cw_s7.drop (10 * 7)).take 10).all (fun s => s.2.2.2.isEmpty || ck_meth cw_sp cw_fi cw_K cw_mt cw_pf cw_kl cw_ss cw_hn cw_pr 1000 cw_d7 (cw_mt 7) s) = true := by decide +kernel
theorem cw_c7_8 : ((cw_s7.drop (10 * 8)).take 10).all (fun s => s.2.2.2.isEmpty || ck_meth cw_sp cw_fi cw_K cw_mt cw_pf cw_kl cw_ss cw_hn cw_pr 1000 cw_d7 (cw_mt 7) s) = true := by decide +kernel
theorem cw_c7 : cw_s7.all (fun s => s.2.2.2.isEmpty || ck_meth cw_sp cw_fi cw_K cw_mt cw_pf cw_kl cw_ss cw_hn cw_pr 1000 cw_d7 (cw_mt 7) s) = true := by
  refine ck_chunks (n := 10) (m := 9) (by decide) (fun k hk => ?_) (by decide +kernel)
  match k, hk with
  | 0, _ => exact cw_c7_0
  | 1, _ => exact cw_c7_1
  | 2, _ => exact cw_c7_2
  | 3, _ => exact cw_c7_3
  | 4, _ => exact cw_c7_4
  | 5, _ => exact cw_c7_5
  | 6, _ => exact cw_c7_6
  | 7, _ => exact cw_c7_7
  | 8, _ => exact cw_c7_8
  | q + 9, h => omega
theorem cw_c8 : cw_s8.all (fun s => s.2.2.2.isEmpty || ck_meth cw_sp cw_fi cw_K cw_mt cw_pf cw_kl cw_ss cw_hn cw_pr 1000 cw_d8 (cw_mt 8) s) = true := by decide +kernel
theorem cw_c9 : cw_s9.all (fun s => s.2.2.2.isEmpty || ck_meth cw_sp cw_fi cw_K cw_mt cw_pf cw_kl cw_ss cw_hn cw_pr 1000 cw_d9 (cw_mt 9) s) = true := by decide +kernel
theorem cw_c10 : cw_s10.all (fun s => s.2.2.2.isEmpty || ck_meth cw_sp cw_fi cw_K cw_mt cw_pf cw_kl cw_ss cw_hn cw_pr 1000 cw_d10 (cw_mt 10) s) = true := by decide +kernel
theorem cw_c11 : cw_s11.all (fun s => s.2.2.2.isEmpty || ck_meth cw_sp cw_fi cw_K cw_mt cw_pf cw_kl cw_ss cw_hn cw_pr 1000 cw_d11 (cw_mt 11) s) = true := by decide +kernel
theorem cw_c12 : cw_s12.all (fun s => s.2.2.2.isEmpty || ck_meth cw_sp cw_fi cw_K cw_mt cw_pf cw_kl cw_ss cw_hn cw_pr 1000 cw_d12 (cw_mt 12) s) = true := by decide +kernel
theorem cw_c13 : cw_s13.all (fun s => s.2.2.2.isEmpty || ck_meth cw_sp cw_fi cw_K cw_mt cw_pf cw_kl cw_ss cw_hn cw_pr 1000 cw_d13 (cw_mt 13) s) = true := by decide +kernel
theorem cw_c14 : cw_s14.all (fun s => s.2.2.2.isEmpty || ck_meth cw_sp cw_fi cw_K cw_mt cw_pf cw_kl cw_ss cw_hn cw_pr 1000 cw_d14 (cw_mt 14) s) = true := by decide +kernel
theorem cw_c15 : cw_s15.all (fun s => s.2.2.2.isEmpty || ck_meth cw_sp cw_fi cw_K cw_mt cw_pf cw_kl cw_ss cw_hn cw_pr 1000 cw_d15 (cw_mt 15) s) = true := by decide +kernel
theorem cw_c16 : cw_s16.all (fun s => s.2.2.2.isEmpty || ck_meth cw_sp cw_fi cw_K cw_mt cw_pf cw_kl cw_ss cw_hn cw_pr 1000 cw_d16 (cw_mt 16) s) = true := by decide +kernel
theorem cw_c17 : cw_s17.all (fun s => s.2.2.2.isEmpty || ck_meth cw_sp cw_fi cw_K cw_mt cw_pf cw_kl cw_ss cw_hn cw_pr 1000 cw_d17 (cw_mt 17) s) = true := by decide +kernel
theorem cw_c18 : cw_s18.all (fun s => s.2.2.2.isEmpty || ck_meth cw_sp cw_fi cw_K cw_mt cw_pf cw_kl cw_ss cw_hn cw_pr 1000 cw_d18 (cw_mt 18) s) = true := by decide +kernel
theorem cw_c19 : cw_s19.all (fun s => s.2.2.2.isEmpty || ck_meth cw_sp cw_fi cw_K cw_mt cw_pf cw_kl cw_ss cw_hn cw_pr 1000 cw_d19 (cw_mt 19) s) = true := by decide +kernel
theorem cw_c20 : cw_s20.all (fun s => s.2.2.2.isEmpty || ck_meth cw_sp cw_fi cw_K cw_mt cw_pf cw_kl cw_ss cw_hn cw_pr 1000 cw_d20 (cw_mt 20) s) = true := by decide +kernel
theorem cw_c21 : cw_s21.all (fun s => s.2.2.2.isEmpty || ck_meth cw_sp cw_fi cw_K cw_mt cw_pf cw_kl cw_ss cw_hn cw_pr 1000 cw_d21 (cw_mt 21) s) = true := by decide +kernel
theorem cw_c22 : cw_s22.all (fun s => s.2.2.2.isEmpty || ck_meth cw_sp cw_fi cw_K cw_mt cw_pf cw_kl cw_ss cw_hn cw_pr 1000 cw_d22 (cw_mt 22) s) = true := by decide +kernel
theorem cw_c23 : cw_s23.all (fun s => s.2.2.2.isEmpty || ck_meth cw_sp cw_fi cw_K cw_mt cw_pf cw_kl cw_ss cw_hn cw_pr 1000 cw_d23 (cw_mt 23) s) = true := by decide +kernel
theorem cw_c24 : cw_s24.all (fun s => s.2.2.2.isEmpty || ck_meth cw_sp cw_fi cw_K cw_mt cw_pf cw_kl cw_ss cw_hn cw_pr 1000 cw_d24 (cw_mt 24) s) = true := by decide +kernel
theorem cw_c25 : cw_s25.all (fun s => s.2.2.2.isEmpty || ck_meth cw_sp cw_fi cw_K cw_mt cw_pf cw_kl cw_ss cw_hn cw_pr 1000 cw_d25 (cw_mt 25) s) = true := by decide +kernel
theorem cw_c26 : cw_s26.all (fun s => s.2.2.2.isEmpty || ck_meth cw_sp cw_fi cw_K cw_mt cw_pf cw_kl cw_ss cw_hn cw_pr 1000 cw_d26 (cw_mt 26) s) = true := by decide +kernel
theorem cw_c27 : cw_s27.all (fun s => s.2.2.2.isEmpty || ck_meth cw_sp cw_fi cw_K cw_mt cw_pf cw_kl cw_ss cw_hn cw_pr 1000 cw_d27 (cw_mt 27) s) = true := by decide +kernel
theorem cw_c28 : cw_s28.all (fun s => s.2.2.2.isEmpty || ck_meth cw_sp cw_fi cw_K cw_mt cw_pf cw_kl cw_ss cw_hn cw_pr 1000 cw_d28 (cw_mt 28) s) = true := by decide +kernel
theorem cw_c29 : cw_s29.all (fun s => s.2.2.2.isEmpty || ck_meth cw_sp cw_fi cw_K cw_mt cw_pf cw_kl cw_ss cw_hn cw_pr 1000 cw_d29 (cw_mt 29) s) = true := by decide +kernel
theorem cw_c30 : cw_s30.all (fun s => s.2.2.2.isEmpty || ck_meth cw_sp cw_fi cw_K cw_mt cw_pf cw_kl cw_ss cw_hn cw_pr 1000 cw_d30 (cw_mt 30) s) = true := by decide +kernel
theorem cw_c31 : cw_s31.all (fun s => s.2.2.2.isEmpty || ck_meth cw_sp cw_fi cw_K cw_mt cw_pf cw_kl cw_ss cw_hn cw_pr 1000 cw_d31 (cw_mt 31) s) = true := by decide +kernel
theorem cw_c32_0 : ((cw_s32.drop (10 * 0)).take 10).all (fun s => s.2.2.2.isEmpty || ck_meth cw_sp cw_fi cw_K cw_mt cw_pf cw_kl cw_ss cw_hn cw_pr 1000 cw_d32 (cw_mt 32) s) = true := by decide +kernel
theorem cw_c32_1 : ((cw_s32.drop (10 * 1)).take 10).all (fun s => s.2.2.2.isEmpty || ck_meth cw_sp cw_fi cw_K cw_mt cw_pf cw_kl cw_ss cw_hn cw_pr 1000 cw_d32 (cw_mt 32) s) = true := by decide +kernel
theorem cw_c32_2 : ((cw_s32.drop (10 * 2)).take 10).all (fun s => s.2.2.2.isEmpty || ck_meth cw_sp cw_fi cw_K cw_mt cw_pf cw_kl cw_ss cw_hn cw_pr 1000 cw_d32 (cw_mt 32) s) = true := by decide +kernel
theorem cw_c32_3 : ((cw_s32.drop (10 * 3)).take 10).all (fun s => s.2.2.2.isEmpty || ck_meth cw_sp cw_fi cw_K cw_mt cw_pf cw_kl cw_ss cw_hn cw_pr 1000 cw_d32 (cw_mt 32) s) = true := by decide +kernel
theorem cw_c32_4 : ((cw_s32.drop (10 * 4)).take 10).all (fun s => s.2.2.2.isEmpty || ck_meth cw_sp cw_fi cw_K cw_mt cw_pf cw_kl cw_ss cw_hn cw_pr 1000 cw_d32 (cw_mt 32) s) = true := by decide +kernel
theorem cw_c32_5 : ((cw_s32.drop (10 * 5)).take 10).all (fun s => s.2.2.2.isEmpty || ck_meth cw_sp cw_fi cw_K cw_mt cw_pf cw_kl cw_ss cw_hn cw_pr 1000 cw_d32 (cw_mt 32) s) = true := by decide +kernel
theorem cw_c32_6 : ((cw_s32.drop (10 * 6)).take 10).all (fun s => s.2.2.2.isEmpty || ck_meth cw_sp cw_fi cw_K cw_mt cw_pf cw_kl cw_ss cw_hn cw_pr 1000 cw_d32 (cw_mt 32) s) = true := by decide +kernel
theorem cw_c32_7 : ((cw_s32.drop (10 * 7)).take 10).all (fun s => s.2.2.2.isEmpty || ck_meth cw_sp cw_fi cw_K cw_mt cw_pf cw_kl cw_ss cw_hn cw_pr 1000 cw_d32 (cw_mt 32) s) = true := by decide +kernel
theorem cw_c32_8 : ((cw_s32.drop (10 * 8)).take 10).all (fun s => s.2.2.2.isEmpty || ck_meth cw_sp cw_fi cw_K cw_mt cw_pf cw_kl cw_ss cw_hn cw_pr 1000 cw_d32 (cw_mt 32) s) = true := by decide +kernel
theorem cw_c32 : cw_s32.all (fun s => s.2.2.2.isEmpty || ck_meth cw_sp cw_fi cw_K cw_mt cw_pf cw_kl cw_ss cw_hn cw_pr 1000 cw_d32 (cw_mt 32) s) = true := by
  refine ck_chunks (n := 10) (m := 9) (by decide) (fun k hk => ?_) (by decide +kernel)
  match k, hk with
  | 0, _ => exact cw_c32_0
  | 1, _ => exact cw_c32_1
  | 2, _ => exact cw_c32_2
  | 3, _ => exact cw_c32_3
  | 4, _ => exact cw_c32_4
  | 5, _ => exact cw_c32_5
  | 6, _ => exact cw_c32_6
  | 7, _ => exact cw_c32_7
  | 8, _ => exact cw_c32_8
  | q + 9, h => omega
theorem cw_c33 : cw_s33.all (fun s => s.2.2.2.isEmpty || ck_meth cw_sp cw_fi cw_K cw_mt cw_pf cw_kl cw_ss cw_hn cw_pr 1000 cw_d33 (cw_mt 33) s) = true := by decide +kernel
theorem cw_c34 : cw_s34.all (fun s => s.2.2.2.isEmpty || ck_meth cw_sp cw_fi cw_K cw_mt cw_pf cw_kl cw_ss cw_hn cw_pr 1000 cw_d34 (cw_mt 34) s) = true := by decide +kernel
theorem cw_c35 : cw_s35.all (fun s => s.2.2.2.isEmpty || ck_meth cw_sp cw_fi cw_K cw_mt cw_pf cw_kl cw_ss cw_hn cw_pr 1000 cw_d35 (cw_mt 35) s) = true := by decide +kernel
theorem cw_c36 : cw_s36.all (fun s => s.2.2.2.isEmpty || ck_meth cw_sp cw_fi cw_K cw_mt cw_pf cw_kl cw_ss cw_hn cw_pr 1000 cw_d36 (cw_mt 36) s) = true := by decide +kernel
theorem cw_c37_0 : ((cw_s37.drop (10 * 0)).take 10).all (fun s => s.2.2.2.isEmpty || ck_meth cw_sp cw_fi cw_K cw_mt cw_pf cw_kl cw_ss cw_hn cw_pr 1000 cw_d37 (cw_mt 37) s) = true := by decide +kernel
theorem cw_c37_1 : ((cw_s37.drop (10 * 1)).take 10).all (fun s => s.2.2.2.isEmpty || ck_meth cw_sp cw_fi cw_K cw_mt cw_pf cw_kl cw_ss cw_hn cw_pr 1000 cw_d37 (cw_mt 37) s) = true := by decide +kernel
theorem cw_c37_2 : ((cw_s37.drop (10 * 2)).take 10).all (fun s => s.2.2.2.isEmpty || ck_meth cw_sp cw_fi cw_K cw_mt cw_pf cw_kl cw_ss cw_hn cw_pr 1000 cw_d37 (cw_mt 37) s) = true := by decide +kernel
theorem cw_c37_3 : ((cw_s37.drop (10 * 3)).take 10).all (fun s => s.2.2.2.isEmpty || ck_meth cw_sp cw_fi cw_K cw_mt cw_pf cw_kl cw_ss cw_hn cw_pr 1000 cw_d37 (cw_mt 37) s) = true := by decide +kernel
theorem cw_c37_4 : ((cw_s37.drop (10 * 4)).take 10).all (fun s => s.2.2.2.isEmpty || ck_meth cw_sp cw_fi cw_K cw_mt cw_pf cw_kl cw_ss cw_hn cw_pr 1000 cw_d37 (cw_mt 37) s) = true := by decide +kernel
theorem cw_c37_5 : ((cw_s37.drop (10 * 5)).take 10).all (fun s => s.2.2.2.isEmpty || ck_meth cw_sp cw_fi cw_K cw_mt cw_pf cw_kl cw_ss cw_hn cw_pr 1000 cw_d37 (cw_mt 37) s) = true := by decide +kernel
theorem cw_c37_6 : ((cw_s37.drop (10 * 6)).take 10).all (fun s => s.2.2.2.isEmpty || ck_meth cw_sp cw_fi cw_K cw_mt cw_pf cw_kl cw_ss cw_hn cw_pr 1000 cw_d37 (cw_mt 37) s) = true := by decide +kernel
theorem cw_c37_7 : ((cw_s37.drop (10 * 7)).take 10).all (fun s => s.2.2.2.isEmpty || ck_meth cw_sp cw_fi cw_K cw_mt cw_pf cw_kl cw_ss cw_hn cw_pr 1000 cw_d37 (cw_mt 37) s) = true := by decide +kernel
theorem cw_c37_8 : ((cw_s37.drop (10 * 8)).take 10).all (fun s => s.2.2.2.isEmpty || ck_meth cw_sp cw_fi cw_K cw_mt cw_pf cw_kl cw_ss cw_hn cw_pr 1000 cw_d37 (cw_mt 37) s) = true := by decide +kernel
theorem cw_c37 : cw_s37.all (fun s => s.2.2.2.isEmpty || ck_meth cw_sp cw_fi cw_K cw_mt cw_pf cw_kl cw_ss cw_hn cw_pr 1000 cw_d37 (cw_mt 37) s) = true := by
  refine ck_chunks (n := 10) (m := 9) (by decide) (fun k hk => ?_) (by decide +kernel)
  match k, hk with
  | 0, _ => exact cw_c37_0
  | 1, _ => exact cw_c37_1
  | 2, _ => exact cw_c37_2
  | 3, _ => exact cw_c37_3
  | 4, _ => exact cw_c37_4
  | 5, _ => exact cw_c37_5
  | 6, _ => exact cw_c37_6
  | 7, _ => exact cw_c37_7
  | 8, _ => exact cw_c37_8
  | q + 9, h => omega
theorem cw_c38_0 : ((cw_s38.drop (10 * 0)).take 10).all (fun s => s.2.2.2.isEmpty || ck_meth cw_sp cw_fi cw_K cw_mt cw_pf cw_kl cw_ss cw_hn cw_pr 1000 cw_d38 (cw_mt 38) s) = true := by decide +kernel
theorem cw_c38_1 : ((cw_s38.drop (10 * 1)).take 10).all (fun s => s.2.2.2.isEmpty || ck_meth cw_sp cw_fi cw_K cw_mt cw_pf cw_kl cw_ss cw_hn cw_pr 1000 cw_d38 (cw_mt 38) s) = true := by decide +kernel
theorem cw_c38_2 : ((cw_s38.drop (10 * 2)).take 10).all (fun s => s.2.2.2.isEmpty || ck_meth cw_sp cw_fi cw_K cw_mt cw_pf cw_kl cw_ss cw_hn cw_pr 1000 cw_d38 (cw_mt 38) s) = true := by decide +kernel
theorem cw_c38_3 : ((cw_s38.drop (10 * 3)).take 10).all (fun s => s.2.2.2.isEmpty || ck_meth cw_sp cw_fi cw_K cw_mt cw_pf cw_kl cw_ss cw_hn cw_pr 1000 cw_d38 (cw_mt 38) s) = true := by decide +kernel
theorem cw_c38_4 : ((cw_s38.drop (10 * 4)).take 10).all (fun s => s.2.2.2.isEmpty || ck_meth cw_sp cw_fi cw_K cw_mt cw_pf cw_kl cw_ss cw_hn cw_pr 1000 cw_d38 (cw_mt 38) s) = true := by decide +kernel
theorem cw_c38_5 : ((cw_s38.drop (10 * 5)).take 10).all (fun s => s.2.2.2.isEmpty || ck_meth cw_sp cw_fi cw_K cw_mt cw_pf cw_kl cw_ss cw_hn cw_pr 1000 cw_d38 (cw_mt 38) s) = true := by decide +kernel
theorem cw_c38_6 : ((cw_s38.drop (10 * 6)).take 10).all (fun s => s.2.2.2.isEmpty || ck_meth cw_sp cw_fi cw_K cw_mt cw_pf cw_kl cw_ss cw_hn cw_pr 1000 cw_d38 (cw_mt 38) s) = true := by decide +kernel
theorem cw_c38_7 : ((cw_s38.drop (10 * 7)).take 10).all (fun s => s.2.2.2.isEmpty || ck_meth cw_sp cw_fi cw_K cw_mt cw_pf cw_kl cw_ss cw_hn cw_pr 1000 cw_d38 (cw_mt 38) s) = true := by decide +kernel
theorem cw_c38_8 : ((cw_s38.drop (10 * 8)).take 10).all (fun s => s.2.2.2.isEmpty || ck_meth cw_sp cw_fi cw_K cw_mt cw_pf cw_kl cw_ss cw_hn cw_pr 1000 cw_d38 (cw_mt 38) s) = true := by decide +kernel
theorem cw_c38 : cw_s38.all (fun s => s.2.2.2.isEmpty || ck_meth cw_sp cw_fi cw_K cw_mt cw_pf cw_kl cw_ss cw_hn cw_pr 1000 cw_d38 (cw_mt 38) s) = true := by
  refine ck_chunks (n := 10) (m := 9) (by decide) (fun k hk => ?_) (by decide +kernel)
  match k, hk with
  | 0, _ => exact cw_c38_0
  | 1, _ => exact cw_c38_1
  | 2, _ => exact cw_c38_2
  | 3, _ => exact cw_c38_3
  | 4, _ => exact cw_c38_4
  | 5, _ => exact cw_c38_5
  | 6, _ => exact cw_c38_6
  | 7, _ => exact cw_c38_7
  | 8, _ => exact cw_c38_8
  | q + 9, h => omega
theorem cw_c39_0 : ((cw_s39.drop (10 * 0)).take 10).all (fun s => s.2.2.2.isEmpty || ck_meth cw_sp cw_fi cw_K cw_mt cw_pf cw_kl cw_ss cw_hn cw_pr 1000 cw_d39 (cw_mt 39) s) = true := by decide +kernel
theorem cw_c39_1 : ((cw_s39.drop (10 * 1)).take 10).all (fun s => s.2.2.2.isEmpty || ck_meth cw_sp cw_fi cw_K cw_mt cw_pf cw_kl cw_ss cw_hn cw_pr 1000 cw_d39 (cw_mt 39) s) = true := by decide +kernel
theorem cw_c39_2 : ((cw_s39.drop (10 * 2)).take 10).all (fun s => s.2.2.2.isEmpty || ck_meth cw_sp cw_fi cw_K cw_mt cw_pf cw_kl cw_ss cw_hn cw_pr 1000 cw_d39 (cw_mt 39) s) = true := by decide +kernel
theorem cw_c39_3 : ((cw_s39.drop (10 * 3)).take 10).all (fun s => s.2.2.2.isEmpty || ck_meth cw_sp cw_fi cw_K cw_mt cw_pf cw_kl cw_ss cw_hn cw_pr 1000 cw_d39 (cw_mt 39) s) = true := by decide +kernel
theorem cw_c39_4 : ((cw_s39.drop (10 * 4)).take 10).all (fun s => s.2.2.2.isEmpty || ck_meth cw_sp cw_fi cw_K cw_mt cw_pf cw_kl cw_ss cw_hn cw_pr 1000 cw_d39 (cw_mt 39) s) = true := by decide +kernel
theorem cw_c39_5 : ((cw_s39.drop (10 * 5)).take 10).all (fun s => s.2.2.2.isEmpty || ck_meth cw_sp cw_fi cw_K cw_mt cw_pf cw_kl cw_ss cw_hn cw_pr 1000 cw_d39 (cw_mt 39) s) = true := by decide +kernel
theorem cw_c39_6 : ((cw_s39.drop (10 * 6)).take 10).all (fun s => s.2.2.2.isEmpty || ck_meth cw_sp cw_fi cw_K cw_mt cw_pf cw_kl cw_ss cw_hn cw_pr 1000 cw_d39 (cw_mt 39) s) = true := by decide +kernel
theorem cw_c39_7 : ((cw_s39.drop (10 * 7)).take 10).all (fun s => s.2.2.2.isEmpty || ck_meth cw_sp cw_fi cw_K cw_mt cw_pf cw_kl cw_ss cw_hn cw_pr 1000 cw_d39 (cw_mt 39) s) = true := by decide +kernel
theorem cw_c39_8 : ((cw_s39.drop (10 * 8)).take 10).all (fun s => s.2.2.2.isEmpty || ck_meth cw_sp cw_fi cw_K cw_mt cw_pf cw_kl cw_ss cw_hn cw_pr 1000 cw_d39 (cw_mt 39) s) = true := by decide +kernel
theorem cw_c39 : cw_s39.all (fun s => s.2.2.2.isEmpty || ck_meth cw_sp cw_fi cw_K cw_mt cw_pf cw_kl cw_ss cw_hn cw_pr 1000 cw_d39 (cw_mt 39) s) = true := by
  refine ck_chunks (n := 10) (m := 9) (by decide) (fun k hk => ?_) (by decide +kernel)
  match k, hk with
  | 0, _ => exact cw_c39_0
  | 1, _ => exact cw_c39_1
  | 2, _ => exact cw_c39_2
  | 3, _ => exact cw_c39_3
  | 4, _ => exact cw_c39_4
  | 5, _ => exact cw_c39_5
  | 6, _ => exact cw_c39_6
  | 7, _ => exact cw_c39_7
  | 8, _ => exact cw_c39_8
  | q + 9, h => omega
theorem cw_c40_0 : ((cw_s40.drop (10 * 0)).take 10).all (fun s => s.2.2.2.isEmpty || ck_meth cw_sp cw_fi cw_K cw_mt cw_pf cw_kl cw_ss cw_hn cw_pr 1000 cw_d40 (cw_mt 40) s) = true := by decide +kernel
theorem cw_c40_1 : ((cw_s40.drop (10 * 1)).take 10).all (fun s => s.2.2.2.isEmpty || ck_meth cw_sp cw_fi cw_K cw_mt cw_pf cw_kl cw_ss cw_hn cw_pr 1000 cw_d40 (cw_mt 40) s) = true := by decide +kernel
theorem cw_c40_2 : ((cw_s40.drop (10 * 2)).take 10).all (fun s => s.2.2.2.isEmpty || ck_meth cw_sp cw_fi cw_K cw_mt cw_pf cw_kl cw_ss cw_hn cw_pr 1000 cw_d40 (cw_mt 40) s) = true := by decide +kernel
theorem cw_c40_3 : ((cw_s40.drop (10 * 3)).take 10).all (fun s => s.2.2.2.isEmpty || ck_meth cw_sp cw_fi cw_K cw_mt cw_pf cw_kl cw_ss cw_hn cw_pr 1000 cw_d40 (cw_mt 40) s) = true := by decide +kernel
theorem cw_c40_4 : ((cw_s40.drop (10 * 4)).take 10).all (fun s => s.2.2.2.isEmpty || ck_meth cw_sp cw_fi cw_K cw_mt cw_pf cw_kl cw_ss cw_hn cw_pr 1000 cw_d40 (cw_mt 40) s) = true := by decide +kernel
theorem cw_c40_5 : ((cw_s40.drop (10 * 5)).take 10).all (fun s => s.2.2.2.isEmpty || ck_meth cw_sp cw_fi cw_K cw_mt cw_pf cw_kl cw_ss cw_hn cw_pr 1000 cw_d40 (cw_mt 40) s) = true := by decide +kernel
theorem cw_c40_6 : ((cw_s40.drop (10 * 6)).take 10).all (fun s => s.2.2.2.isEmpty || ck_meth cw_sp cw_fi cw_K cw_mt cw_pf cw_kl cw_ss cw_hn cw_pr 1000 cw_d40 (cw_mt 40) s) = true := by decide +kernel
theorem cw_c40_7 : ((cw_s40.drop (10 * 7)).take 10).all (fun s => s.2.2.2.isEmpty || ck_meth cw_sp cw_fi cw_K cw_mt cw_pf cw_kl cw_ss cw_hn cw_pr 1000 cw_d40 (cw_mt 40) s) = true := by decide +kernel
theorem cw_c40_8 : ((cw_s40.drop (10 * 8)).take 10).all (fun s => s.2.2.2.isEmpty || ck_meth cw_sp cw_fi cw_K cw_mt cw_pf cw_kl cw_ss cw_hn cw_pr 1000 cw_d40 (cw_mt 40) s) = true := by decide +kernel
theorem cw_c40 : cw_s40.all (fun s => s.2.2.2.isEmpty || ck_meth cw_sp cw_fi cw_K cw_mt cw_pf cw_kl cw_ss cw_hn cw_pr 1000 cw_d40 (cw_mt 40) s) = true := by
  refine ck_chunks (n := 10) (m := 9) (by decide) (fun k hk => ?_) (by decide +kernel)
  match k, hk with
  | 0, _ => exact cw_c40_0
  | 1, _ => exact cw_c40_1
  | 2, _ => exact cw_c40_2
  | 3, _ => exact cw_c40_3
  | 4, _ => exact cw_c40_4
  | 5, _ => exact cw_c40_5
  | 6, _ => exact cw_c40_6
  | 7, _ => exact cw_c40_7
  | 8, _ => exact cw_c40_8
  | q + 9, h => omega
theorem cw_c41 : cw_s41.all (fun s => s.2.2.2.isEmpty || ck_meth cw_sp cw_fi cw_K cw_mt cw_pf cw_kl cw_ss cw_hn cw_pr 1000 cw_d41 (cw_mt 41) s) = true := by decide +kernel
theorem cw_c42 : cw_s42.all (fun s => s.2.2.2.isEmpty || ck_meth cw_sp cw_fi cw_K cw_mt cw_pf cw_kl cw_ss cw_hn cw_pr 1000 cw_d42 (cw_mt 42) s) = true := by decide +kernel
theorem cw_c43 : cw_s43.all (fun s => s.2.2.2.isEmpty || ck_meth cw_sp cw_fi cw_K cw_mt cw_pf cw_kl cw_ss cw_hn cw_pr 1000 cw_d43 (cw_mt 43) s) = true := by decide +kernel
theorem cw_c44 : cw_s44.all (fun s => s.2.2.2.isEmpty || ck_meth cw_sp cw_fi cw_K cw_mt cw_pf cw_kl cw_ss cw_hn cw_pr 1000 cw_d44 (cw_mt 44) s) = true := by decide +kernel
theorem cw_c45 : cw_s45.all (fun s => s.2.2.2.isEmpty || ck_meth cw_sp cw_fi cw_K cw_mt cw_pf cw_kl cw_ss cw_hn cw_pr 1000 cw_d45 (cw_mt 45) s) = true := by decide +kernel
theorem cw_c46 : cw_s46.all (fun s => s.2.2.2.isEmpty || ck_meth cw_sp cw_fi cw_K cw_mt cw_pf cw_kl cw_ss cw_hn cw_pr 1000 cw_d46 (cw_mt 46) s) = true := by decide +kernel
theorem cw_c47 : cw_s47.all (fun s => s.2.2.2.isEmpty || ck_meth cw_sp cw_fi cw_K cw_mt cw_pf cw_kl cw_ss cw_hn cw_pr 1000 cw_d47 (cw_mt 47) s) = true := by decide +kernel
theorem cw_c48 : cw_s48.all (fun s => s.2.2.2.isEmpty || ck_meth cw_sp cw_fi cw_K cw_mt cw_pf cw_kl cw_ss cw_hn cw_pr 1000 cw_d48 (cw_mt 48) s) = true := by decide +kernel
theorem cw_c49 : cw_s49.all (fun s => s.2.2.2.isEmpty || ck_meth cw_sp cw_fi cw_K cw_mt cw_pf cw_kl cw_ss cw_hn cw_pr 1000 cw_d49 (cw_mt 49) s) = true := by decide +kernel
theorem cw_c50 : cw_s50.all (fun s => s.2.2.2.isEmpty || ck_meth cw_sp cw_fi cw_K cw_mt cw_pf cw_kl cw_ss cw_hn cw_pr 1000 cw_d50 (cw_mt 50) s) = true := by decide +kernel
theorem cw_c51 : cw_s51.all (fun s => s.2.2.2.isEmpty || ck_meth cw_sp cw_fi cw_K cw_mt cw_pf cw_kl cw_ss cw_hn cw_pr 1000 cw_d51 (cw_mt 51) s) = true := by decide +kernel
theorem cw_c52 : cw_s52.all (fun s => s.2.2.2.isEmpty || ck_meth cw_sp cw_fi cw_K cw_mt cw_pf cw_kl cw_ss cw_hn cw_pr 1000 cw_d52 (cw_mt 52) s) = true := by decide +kernel
theorem cw_c53_0 : ((cw_s53.drop (10 * 0)).take 10).all (fun s => s.2.2.2.isEmpty || ck_meth cw_sp cw_fi cw_K cw_mt cw_pf cw_kl cw_ss cw_hn cw_pr 1000 cw_d53 (cw_mt 53) s) = true := by decide +kernel
theorem cw_c53_1 : ((cw_s53.drop (10 * 1)).take 10).all (fun s => s.2.2.2.isEmpty || ck_meth cw_sp cw_fi cw_K cw_mt cw_pf cw_kl cw_ss cw_hn cw_pr 1000 cw_d53 (cw_mt 53) s) = true := by decide +kernel
theorem cw_c53_2 : ((cw_s53.drop (10 * 2)).take 10).all (fun s => s.2.2.2.isEmpty || ck_meth cw_sp cw_fi cw_K cw_mt cw_pf cw_kl cw_ss cw_hn cw_pr 1000 cw_d53 (cw_mt 53) s) = true := by decide +kernel
theorem cw_c53_3 : ((cw_s53.drop (10 * 3)).take 10).all (fun s => s.2.2.2.isEmpty || ck_meth cw_sp cw_fi cw_K cw_mt cw_pf cw_kl cw_ss cw_hn cw_pr 1000 cw_d53 (cw_mt 53) s) = true := by decide +kernel
theorem cw_c53_4 : ((cw_s53.drop (10 * 4)).take 10).all (fun s => s.2.2.2.isEmpty || ck_meth cw_sp cw_fi cw_K cw_mt cw_pf cw_kl cw_ss cw_hn cw_pr 1000 cw_d53 (cw_mt 53) s) = true := by decide +kernel
theorem cw_c53_5 : ((cw_s53.drop (10 * 5)).take 10).all (fun s => s.2.2.2.isEmpty || ck_meth cw_sp cw_fi cw_K cw_mt cw_pf cw_kl cw_ss cw_hn cw_pr 1000 cw_d53 (cw_mt 53) s) = true := by decide +kernel
theorem cw_c53_6 : ((cw_s53.drop (10 * 6)).take 10).all (fun s => s.2.2.2.isEmpty || ck_meth cw_sp cw_fi cw_K cw_mt cw_pf cw_kl cw_ss cw_hn cw_pr 1000 cw_d53 (cw_mt 53) s) = true := by decide +kernel
theorem cw_c53_7 : ((cw_s53.drop (10 * 7)).take 10).all (fun s => s.2.2.2.isEmpty || ck_meth cw_sp cw_fi cw_K cw_mt cw_pf cw_kl cw_ss cw_hn cw_pr 1000 cw_d53 (cw_mt 53) s) = true := by decide +kernel
theorem cw_c53_8 : ((cw_s53.drop (10 * 8)).take 10).all (fun s => s.2.2.2.isEmpty || ck_meth cw_sp cw_fi cw_K cw_mt cw_pf cw_kl cw_ss cw_hn cw_pr 1000 cw_d53 (cw_mt 53) s) = true := by decide +kernel
theorem cw_c53 : cw_s53.all (fun s => s.2.2.2.isEmpty || ck_meth cw_sp cw_fi cw_K cw_mt cw_pf cw_kl cw_ss cw_hn cw_pr 1000 cw_d53 (cw_mt 53) s) = true := by
  refine ck_chunks (n := 10) (m := 9) (by decide) (fun k hk => ?_) (by decide +kernel)
  match k, hk with
  | 0, _ => exact cw_c53_0
  | 1, _ => exact cw_c53_1
  | 2, _ => exact cw_c53_2
  | 3, _ => exact cw_c53_3
  | 4, _ => exact cw_c53_4
  | 5, _ => exact cw_c53_5
  | 6, _ => exact cw_c53_6
  | 7, _ => exact cw_c53_7
  | 8, _ => exact cw_c53_8
  | q + 9, h => omega
theorem cw_c54 : cw_s54.all (fun s => s.2.2.2.isEmpty || ck_meth cw_sp cw_fi cw_K cw_mt cw_pf cw_kl cw_ss cw_hn cw_pr 1000 cw_d54 (cw_mt 54) s) = true := by decide +kernel
theorem cw_c55 : cw_s55.all (fun s => s.2.2.2.isEmpty || ck_meth cw_sp cw_fi cw_K cw_mt cw_pf cw_kl cw_ss cw_hn cw_pr 1000 cw_d55 (cw_mt 55) s) = true := by decide +kernel
theorem cw_c56 : cw_s56.all (fun s => s.2.2.2.isEmpty || ck_meth cw_sp cw_fi cw_K cw_mt cw_pf cw_kl cw_ss cw_hn cw_pr 1000 cw_d56 (cw_mt 56) s) = true := by decide +kernel
theorem cw_c57 : cw_s57.all (fun s => s.2.2.2.isEmpty || ck_meth cw_sp cw_fi cw_K cw_mt cw_pf cw_kl cw_ss cw_hn cw_pr 1000 cw_d57 (cw_mt 57) s) = true := by decide +kernel
theorem cw_c58 : cw_s58.all (fun s => s.2.2.2.isEmpty || ck_meth cw_sp cw_fi cw_K cw_mt cw_pf cw_kl cw_ss cw_hn cw_pr 1000 cw_d58 (cw_mt 58) s) = true := by decide +kernel
theorem cw_c59 : cw_s59.all (fun s => s.2.2.2.isEmpty || ck_meth cw_sp cw_fi cw_K cw_mt cw_pf cw_kl cw_ss cw_hn cw_pr 1000 cw_d59 (cw_mt 59) s) = true := by decide +kernel
theorem cw_c60 : cw_s60.all (fun s => s.2.2.2.isEmpty || ck_meth cw_sp cw_fi cw_K cw_mt cw_pf cw_kl cw_ss cw_hn cw_pr 1000 cw_d60 (cw_mt 60) s) = true := by decide +kernel
theorem cw_c61 : cw_s61.all (fun s => s.2.2.2.isEmpty || ck_meth cw_sp cw_fi cw_K cw_mt cw_pf cw_kl cw_ss cw_hn cw_pr 1000 cw_d61 (cw_mt 61) s) = true := by decide +kernel
theorem cw_c62 : cw_s62.all (fun s => s.2.2.2.isEmpty || ck_meth cw_sp cw_fi cw_K cw_mt cw_pf cw_kl cw_ss cw_hn cw_pr 1000 cw_d62 (cw_mt 62) s) = true := by decide +kernel
theorem cw_c63 : cw_s63.all (fun s => s.2.2.2.isEmpty || ck_meth cw_sp cw_fi cw_K cw_mt cw_pf cw_kl cw_ss cw_hn cw_pr 1000 cw_d63 (cw_mt 63) s) = true := by decide +kernel
theorem cw_c64 : cw_s64.all (fun s => s.2.2.2.isEmpty || ck_meth cw_sp cw_fi cw_K cw_mt cw_pf cw_kl cw_ss cw_hn cw_pr 1000 cw_d64 (cw_mt 64) s) = true := by decide +kernel
theorem cw_c65 : cw_s65.all (fun s => s.2.2.2.isEmpty || ck_meth cw_sp cw_fi cw_K cw_mt cw_pf cw_kl cw_ss cw_hn cw_pr 1000 cw_d65 (cw_mt 65) s) = true := by decide +kernel
theorem cw_c66 : cw_s66.all (fun s => s.2.2.2.isEmpty || ck_meth cw_sp cw_fi cw_K cw_mt cw_pf cw_kl cw_ss cw_hn cw_pr 1000 cw_d66 (cw_mt 66) s) = true := by decide +kernel
theorem cw_c67 : cw_s67.all (fun s => s.2.2.2.isEmpty || ck_meth cw_sp cw_fi cw_K cw_mt cw_pf cw_kl cw_ss cw_hn cw_pr 1000 cw_d67 (cw_mt 67) s) = true := by decide +kernel
theorem cw_c68 : cw_s68.all (fun s => s.2.2.2.isEmpty || ck_meth cw_sp cw_fi cw_K cw_mt cw_pf cw_kl cw_ss cw_hn cw_pr 1000 cw_d68 (cw_mt 68) s) = true := by decide +kernel
theorem cw_c69 : cw_s69.all (fun s => s.2.2.2.isEmpty || ck_meth cw_sp cw_fi cw_K cw_mt cw_pf cw_kl cw_ss cw_hn cw_pr 1000 cw_d69 (cw_mt 69) s) = true := by decide +kernel
theorem cw_c70 : cw_s70.all (fun s => s.2.2.2.isEmpty || ck_meth cw_sp cw_fi cw_K cw_mt cw_pf cw_kl cw_ss cw_hn cw_pr 1000 cw_d70 (cw_mt 70) s) = true := by decide +kernel
theorem cw_c71 : cw_s71.all (fun s => s.2.2.2.isEmpty || ck_meth cw_sp cw_fi cw_K cw_mt cw_pf cw_kl cw_ss cw_hn cw_pr 1000 cw_d71 (cw_mt 71) s) = true := by decide +kernel
theorem cw_c72 : cw_s72.all (fun s => s.2.2.2.isEmpty || ck_meth cw_sp cw_fi cw_K cw_mt cw_pf cw_kl cw_ss cw_hn cw_pr 1000 cw_d72 (cw_mt 72) s) = true := by decide +kernel
theorem cw_c73 : cw_s73.all (fun s => s.2.2.2.isEmpty || ck_meth cw_sp cw_fi cw_K cw_mt cw_pf cw_kl cw_ss cw_hn cw_pr 1000 cw_d73 (cw_mt 73) s) = true := by decide +kernel
theorem cw_c74 : cw_s74.all (fun s => s.2.2.2.isEmpty || ck_meth cw_sp cw_fi cw_K cw_mt cw_pf cw_kl cw_ss cw_hn cw_pr 1000 cw_d74 (cw_mt 74) s) = true := by decide +kernel
theorem cw_c75 : cw_s75.all (fun s => s.2.2.2.isEmpty || ck_meth cw_sp cw_fi cw_K cw_mt cw_pf cw_kl cw_ss cw_hn cw_pr 1000 cw_d75 (cw_mt 75) s) = true := by decide +kernel
theorem cw_c76 : cw_s76.all (fun s => s.2.2.2.isEmpty || ck_meth cw_sp cw_fi cw_K cw_mt cw_pf cw_kl cw_ss cw_hn cw_pr 1000 cw_d76 (cw_mt 76) s) = true := by decide +kernel
theorem cw_c77 : cw_s77.all (fun s => s.2.2.2.isEmpty || ck_meth cw_sp cw_fi cw_K cw_mt cw_pf cw_kl cw_ss cw_hn cw_pr 1000 cw_d77 (cw_mt 77) s) = true := by decide +kernel
theorem cw_c78 : cw_s78.all (fun s => s.2.2.2.isEmpty || ck_meth cw_sp cw_fi cw_K cw_mt cw_pf cw_kl cw_ss cw_hn cw_pr 1000 cw_d78 (cw_mt 78) s) = true := by decide +kernel
theorem cw_c79 : cw_s79.all (fun s => s.2.2.2.isEmpty || ck_meth cw_sp cw_fi cw_K cw_mt cw_pf cw_kl cw_ss cw_hn cw_pr 1000 cw_d79 (cw_mt 79) s) = true := by decide +kernel
theorem cw_c80 : cw_s80.all (fun s => s.2.2.2.isEmpty || ck_meth cw_sp cw_fi cw_K cw_mt cw_pf cw_kl cw_ss cw_hn cw_pr 1000 cw_d80 (cw_mt 80) s) = true := by decide +kernel
theorem cw_c81 : cw_s81.all (fun s => s.2.2.2.isEmpty || ck_meth cw_sp cw_fi cw_K cw_mt cw_pf cw_kl cw_ss cw_hn cw_pr 1000 cw_d81 (cw_mt 81) s) = true := by decide +kernel
theorem cw_c82 : cw_s82.all (fun s => s.2.2.2.isEmpty || ck_meth cw_sp cw_fi cw_K cw_mt cw_pf cw_kl cw_ss cw_hn cw_pr 1000 cw_d82 (cw_mt 82) s) = true := by decide +kernel
theorem cw_c83 : cw_s83.all (fun s => s.2.2.2.isEmpty || ck_meth cw_sp cw_fi cw_K cw_mt cw_pf cw_kl cw_ss cw_hn cw_pr 1000 cw_d83 (cw_mt 83) s) = true := by decide +kernel
theorem cw_c84 : cw_s84.all (fun s => s.2.2.2.isEmpty || ck_meth cw_sp cw_fi cw_K cw_mt cw_pf cw_kl cw_ss cw_hn cw_pr 1000 cw_d84 (cw_mt 84) s) = true := by decide +kernel
theorem cw_c85 : cw_s85.all (fun s => s.2.2.2.isEmpty || ck_meth cw_sp cw_fi cw_K cw_mt cw_pf cw_kl cw_ss cw_hn cw_pr 1000 cw_d85 (cw_mt 85) s) = true := by decide +kernel
theorem cw_c86 : cw_s86.all (fun s => s.2.2.2.isEmpty || ck_meth cw_sp cw_fi cw_K cw_mt cw_pf cw_kl cw_ss cw_hn cw_pr 1000 cw_d86 (cw_mt 86) s) = true := by decide +kernel
theorem cw_c87 : cw_s87.all (fun s => s.2.2.2.isEmpty || ck_meth cw_sp cw_fi cw_K cw_mt cw_pf cw_kl cw_ss cw_hn cw_pr 1000 cw_d87 (cw_mt 87) s) = true := by decide +kernel
theorem cw_c88 : cw_s88.all (fun s => s.2.2.2.isEmpty || ck_meth cw_sp cw_fi cw_K cw_mt cw_pf cw_kl cw_ss cw_hn cw_pr 1000 cw_d88 (cw_mt 88) s) = true := by decide +kernel
theorem cw_c89 : cw_s89.all (fun s => s.2.2.2.isEmpty || ck_meth cw_sp cw_fi cw_K cw_mt cw_pf cw_kl cw_ss cw_hn cw_pr 1000 cw_d89 (cw_mt 89) s) = true := by decide +kernel
theorem cw_c90 : cw_s90.all (fun s => s.2.2.2.isEmpty || ck_meth cw_sp cw_fi cw_K cw_mt cw_pf cw_kl cw_ss cw_hn cw_pr 1000 cw_d90 (cw_mt 90) s) = true := by decide +kernel
theorem cw_c91 : cw_s91.all (fun s => s.2.2.2.isEmpty || ck_meth cw_sp cw_fi cw_K cw_mt cw_pf cw_kl cw_ss cw_hn cw_pr 1000 cw_d91 (cw_mt 91) s) = true := by decide +kernel
theorem cw_c92 : cw_s92.all (fun s => s.2.2.2.isEmpty || ck_meth cw_sp cw_fi cw_K cw_mt cw_pf cw_kl cw_ss cw_hn cw_pr 1000 cw_d92 (cw_mt 92) s) = true := by decide +kernel
theorem cw_c93 : cw_s93.all (fun s => s.2.2.2.isEmpty || ck_meth cw_sp cw_fi cw_K cw_mt cw_pf cw_kl cw_ss cw_hn cw_pr 1000 cw_d93 (cw_mt 93) s) = true := by decide +kernel
theorem cw_c94 : cw_s94.all (fun s => s.2.2.2.isEmpty || ck_meth cw_sp cw_fi cw_K cw_mt cw_pf cw_kl cw_ss cw_hn cw_pr 1000 cw_d94 (cw_mt 94) s) = true := by decide +kernel
theorem cw_c95 : cw_s95.all (fun s => s.2.2.2.isEmpty || ck_meth cw_sp cw_fi cw_K cw_mt cw_pf cw_kl cw_ss cw_hn cw_pr 1000 cw_d95 (cw_mt 95) s) = true := by decide +kernel
theorem cw_c96 : cw_s96.all (fun s => s.2.2.2.isEmpty || ck_meth cw_sp cw_fi cw_K cw_mt cw_pf cw_kl cw_ss cw_hn cw_pr 1000 cw_d96 (cw_mt 96) s) = true := by decide +kernel
theorem cw_c97 : cw_s97.all (fun s => s.2.2.2.isEmpty || ck_meth cw_sp cw_fi cw_K cw_mt cw_pf cw_kl cw_ss cw_hn cw_pr 1000 cw_d97 (cw_mt 97) s) = true := by decide +kernel
theorem cw_c98 : cw_s98.all (fun s => s.2.2.2.isEmpty || ck_meth cw_sp cw_fi cw_K cw_mt cw_pf cw_kl cw_ss cw_hn cw_pr 1000 cw_d98 (cw_mt 98) s) = true := by decide +kernel
theorem cw_c99 : cw_s99.all (fun s => s.2.2.2.isEmpty || ck_meth cw_sp cw_fi cw_K cw_mt cw_pf cw_kl cw_ss cw_hn cw_pr 1000 cw_d99 (cw_mt 99) s) = true := by decide +kernel
theorem cw_c100 : cw_s100.all (fun s => s.2.2.2.isEmpty || ck_meth cw_sp cw_fi cw_K cw_mt cw_pf cw_kl cw_ss cw_hn cw_pr 1000 cw_d100 (cw_mt 100) s) = true := by decide +kernel
theorem cw_c101 : cw_s101.all (fun s => s.2.2.2.isEmpty || ck_meth cw_sp cw_fi cw_K cw_mt cw_pf cw_kl cw_ss cw_hn cw_pr 1000 cw_d101 (cw_mt 101) s) = true := by decide +kernel
theorem cw_c102 : cw_s102.all (fun s => s.2.2.2.isEmpty || ck_meth cw_sp cw_fi cw_K cw_mt cw_pf cw_kl cw_ss cw_hn cw_pr 1000 cw_d102 (cw_mt 102) s) = true := by decide +kernel
theorem cw_c103 : cw_s103.all (fun s => s.2.2.2.isEmpty || ck_meth cw_sp cw_fi cw_K cw_mt cw_pf cw_kl cw_ss cw_hn cw_pr 1000 cw_d103 (cw_mt 103) s) = true := by decide +kernel
theorem cw_c104 : cw_s104.all (fun s => s.2.2.2.isEmpty || ck_meth cw_sp cw_fi cw_K cw_mt cw_pf cw_kl cw_ss cw_hn cw_pr 1000 cw_d104 (cw_mt 104) s) = true := by decide +kernel
theorem cw_c105 : cw_s105.all (fun s => s.2.2.2.isEmpty || ck_meth cw_sp cw_fi cw_K cw_mt cw_pf cw_kl cw_ss cw_hn cw_pr 1000 cw_d105 (cw_mt 105) s) = true := by decide +kernel
theorem cw_c106 : cw_s106.all (fun s => s.2.2.2.isEmpty || ck_meth cw_sp cw_fi cw_K cw_mt cw_pf cw_kl cw_ss cw_hn cw_pr 1000 cw_d106 (cw_mt 106) s) = true := by decide +kernel
theorem cw_c107 : cw_s107.all (fun s => s.2.2.2.isEmpty || ck_meth cw_sp cw_fi cw_K cw_mt cw_pf cw_kl cw_ss cw_hn cw_pr 1000 cw_d107 (cw_mt 107) s) = true := by decide +kernel
theorem cw_c108 : cw_s108.all (fun s => s.2.2.2.isEmpty || ck_meth cw_sp cw_fi cw_K cw_mt cw_pf cw_kl cw_ss cw_hn cw_pr 1000 cw_d108 (cw_mt 108) s) = true := by decide +kernel
theorem cw_c109 : cw_s109.all (fun s => s.2.2.2.isEmpty || ck_meth cw_sp cw_fi cw_K cw_mt cw_pf cw_kl cw_ss cw_hn cw_pr 1000 cw_d109 (cw_mt 109) s) = true := by decide +kernel
theorem cw_c110 : cw_s110.all (fun s => s.2.2.2.isEmpty || ck_meth cw_sp cw_fi cw_K cw_mt cw_pf cw_kl cw_ss cw_hn cw_pr 1000 cw_d110 (cw_mt 110) s) = true := by decide +kernel
theorem cw_c111 : cw_s111.all (fun s => s.2.2.2.isEmpty || ck_meth cw_sp cw_fi cw_K cw_mt cw_pf cw_kl cw_ss cw_hn cw_pr 1000 cw_d111 (cw_mt 111) s) = true := by decide +kernel
theorem cw_c112 : cw_s112.all (fun s => s.2.2.2.isEmpty || ck_meth cw_sp cw_fi cw_K cw_mt cw_pf cw_kl cw_ss cw_hn cw_pr 1000 cw_d112 (cw_mt 112) s) = true := by decide +kernel
theorem cw_c113 : cw_s113.all (fun s => s.2.2.2.isEmpty || ck_meth cw_sp cw_fi cw_K cw_mt cw_pf cw_kl cw_ss cw_hn cw_pr 1000 cw_d113 (cw_mt 113) s) = true := by decide +kernel
theorem cw_c114 : cw_s114.all (fun s => s.2.2.2.isEmpty || ck_meth cw_sp cw_fi cw_K cw_mt cw_pf cw_kl cw_ss cw_hn cw_pr 1000 cw_d114 (cw_mt 114) s) = true := by decide +kernel
theorem cw_c115 : cw_s115.all (fun s => s.2.2.2.isEmpty || ck_meth cw_sp cw_fi cw_K cw_mt cw_pf cw_kl cw_ss cw_hn cw_pr 1000 cw_d115 (cw_mt 115) s) = true := by decide +kernel
theorem cw_c116 : cw_s116.all (fun s => s.2.2.2.isEmpty || ck_meth cw_sp cw_fi cw_K cw_mt cw_pf cw_kl cw_ss cw_hn cw_pr 1000 cw_d116 (cw_mt 116) s) = true := by decide +kernel
theorem cw_c117 : cw_s117.all (fun s => s.2.2.2.isEmpty || ck_meth cw_sp cw_fi cw_K cw_mt cw_pf cw_kl cw_ss cw_hn cw_pr 1000 cw_d117 (cw_mt 117) s) = true := by decide +kernel
theorem cw_c118 : cw_s118.all (fun s => s.2.2.2.isEmpty || ck_meth cw_sp cw_fi cw_K cw_mt cw_pf cw_kl cw_ss cw_hn cw_pr 1000 cw_d118 (cw_mt 118) s) = true := by decide +kernel
theorem cw_c119 : cw_s119.all (fun s => s.2.2.2.isEmpty || ck_meth cw_sp cw_fi cw_K cw_mt cw_pf cw_kl cw_ss cw_hn cw_pr 1000 cw_d119 (cw_mt 119) s) = true := by decide +kernel
theorem cw_c120 : cw_s120.all (fun s => s.2.2.2.isEmpty || ck_meth cw_sp cw_fi cw_K cw_mt cw_pf cw_kl cw_ss cw_hn cw_pr 1000 cw_d120 (cw_mt 120) s) = true := by decide +kernel
theorem cw_c121 : cw_s121.all (fun s => s.2.2.2.isEmpty || ck_meth cw_sp cw_fi cw_K cw_mt cw_pf cw_kl cw_ss cw_hn cw_pr 1000 cw_d121 (cw_mt 121) s) = true := by decide +kernel
theorem cw_c122 : cw_s122.all (fun s => s.2.2.2.isEmpty || ck_meth cw_sp cw_fi cw_K cw_mt cw_pf cw_kl cw_ss cw_hn cw_pr 1000 cw_d122 (cw_mt 122) s) = true := by decide +kernel
theorem cw_c123_0 : ((cw_s123.drop (10 * 0)).take 10).all (fun s => s.2.2.2.isEmpty || ck_meth cw_sp cw_fi cw_K cw_mt cw_pf cw_kl cw_ss cw_hn cw_pr 1000 cw_d123 (cw_mt 123) s) = true := by decide +kernel
theorem cw_c123_1 : ((cw_s123.drop (10 * 1)).take 10).all (fun s => s.2.2.2.isEmpty || ck_meth cw_sp cw_fi cw_K cw_mt cw_pf cw_kl cw_ss cw_hn cw_pr 1000 cw_d123 (cw_mt 123) s) = true := by decide +kernel
theorem cw_c123_2 : ((cw_s123.drop (10 * 2)).take 10).all (fun s => s.2.2.2.isEmpty || ck_meth cw_sp cw_fi cw_K cw_mt cw_pf cw_kl cw_ss cw_hn cw_pr 1000 cw_d123 (cw_mt 123) s) = true := by decide +kernel
theorem cw_c123_3 : ((cw_s123.drop (10 * 3)).take 10).all (fun s => s.2.2.2.isEmpty || ck_meth cw_sp cw_fi cw_K cw_mt cw_pf cw_kl cw_ss cw_hn cw_pr 1000 cw_d123 (cw_mt 123) s) = true := by decide +kernel
theorem cw_c123_4 : ((cw_s123.drop (10 * 4)).take 10).all (fun s => s.2.2.2.isEmpty || ck_meth cw_sp cw_fi cw_K cw_mt cw_pf cw_kl cw_ss cw_hn cw_pr 1000 cw_d123 (cw_mt 123) s) = true := by decide +kernel
theorem cw_c123_5 : ((cw_s123.drop (10 * 5)).take 10).all (fun s => s.2.2.2.isEmpty || ck_meth cw_sp cw_fi cw_K cw_mt cw_pf cw_kl cw_ss cw_hn cw_pr 1000 cw_d123 (cw_mt 123) s) = true := by decide +kernel
theorem cw_c123_6 : ((cw_s123.drop (10 * 6)).take 10).all (fun s => s.2.2.2.isEmpty || ck_meth cw_sp cw_fi cw_K cw_mt cw_pf cw_kl cw_ss cw_hn cw_pr 1000 cw_d123 (cw_mt 123) s) = true := by decide +kernel
theorem cw_c123_7 : ((cw_s123.drop (10 * 7)).take 10).all (fun s => s.2.2.2.isEmpty || ck_meth cw_sp cw_fi cw_K cw_mt cw_pf cw_kl cw_ss cw_hn cw_pr 1000 cw_d123 (cw_mt 123) s) = true := by decide +kernel
theorem cw_c123_8 : ((cw_s123.drop (10 * 8)).take 10).all (fun s => s.2.2.2.isEmpty || ck_meth cw_sp cw_fi cw_K cw_mt cw_pf cw_kl cw_ss cw_hn cw_pr 1000 cw_d123 (cw_mt 123) s) = true := by decide +kernel
theorem cw_c123_9 : ((cw_s123.drop (10 * 9)).take 10).all (fun s => s.2.2.2.isEmpty || ck_meth cw_sp cw_fi cw_K cw_mt cw_pf cw_kl cw_ss cw_hn cw_pr 1000 cw_d123 (cw_mt 123) s) = true := by decide +kernel
theorem cw_c123_10 : ((cw_s123.drop (10 * 10)).take 10).all (fun s => s.2.2.2.isEmpty || ck_meth cw_sp cw_fi cw_K cw_mt cw_pf cw_kl cw_ss cw_hn cw_pr 1000 cw_d123 (cw_mt 123) s) = true := by decide +kernel
theorem cw_c123 : cw_s123.all (fun s => s.2.2.2.isEmpty || ck_meth cw_sp cw_fi cw_K cw_mt cw_pf cw_kl cw_ss cw_hn cw_pr 1000 cw_d123 (cw_mt 123) s) = true := by
  refine ck_chunks (n := 10) (m := 11) (by decide) (fun k hk => ?_) (by decide +kernel)
  match k, hk with
  | 0, _ => exact cw_c123_0
  | 1, _ => exact cw_c123_1
  | 2, _ => exact cw_c123_2
  | 3, _ => exact cw_c123_3
  | 4, _ => exact cw_c123_4
  | 5, _ => exact cw_c123_5
  | 6, _ => exact cw_c123_6
  | 7, _ => exact cw_c123_7
  | 8, _ => exact cw_c123_8
  | 9, _ => exact cw_c123_9
  | 10, _ => exact cw_c123_10
  | q + 11, h => omega
theorem cw_c124 : cw_s124.all (fun s => s.2.2.2.isEmpty || ck_meth cw_sp cw_fi cw_K cw_mt cw_pf cw_kl cw_ss cw_hn cw_pr 1000 cw_d124 (cw_mt 124) s) = true := by decide +kernel
theorem cw_c125 : cw_s125.all (fun s => s.2.2.2.isEmpty || ck_meth cw_sp cw_fi cw_K cw_mt cw_pf cw_kl cw_ss cw_hn cw_pr 1000 cw_d125 (cw_mt 125) s) = true := by decide +kernel
theorem cw_c126 : cw_s126.all (fun s => s.2.2.2.isEmpty || ck_meth cw_sp cw_fi cw_K cw_mt cw_pf cw_kl cw_ss cw_hn cw_pr 1000 cw_d126 (cw_mt 126) s) = true := by decide +kernel
theorem cw_c127 : cw_s127.all (fun s => s.2.2.2.isEmpty || ck_meth cw_sp cw_fi cw_K cw_mt cw_pf cw_kl cw_ss cw_hn cw_pr 1000 cw_d127 (cw_mt 127) s) = true := by decide +kernel
theorem cw_c128 : cw_s128.all (fun s => s.2.2.2.isEmpty || ck_meth cw_sp cw_fi cw_K cw_mt cw_pf cw_kl cw_ss cw_hn cw_pr 1000 cw_d128 (cw_mt 128) s) = true := by decide +kernel
theorem cw_c129 : cw_s129.all (fun s => s.2.2.2.isEmpty || ck_meth cw_sp cw_fi cw_K cw_mt cw_pf cw_kl cw_ss cw_hn cw_pr 1000 cw_d129 (cw_mt 129) s) = true := by decide +kernel
theorem cw_c130 : cw_s130.all (fun s => s.2.2.2.isEmpty || ck_meth cw_sp cw_fi cw_K cw_mt cw_pf cw_kl cw_ss cw_hn cw_pr 1000 cw_d130 (cw_mt 130) s) = true := by decide +kernel
theorem cw_c131 : cw_s131.all (fun s => s.2.2.2.isEmpty || ck_meth cw_sp cw_fi cw_K cw_mt cw_pf cw_kl cw_ss cw_hn cw_pr 1000 cw_d131 (cw_mt 131) s) = true := by decide +kernel
theorem cw_c132 : cw_s132.all (fun s => s.2.2.2.isEmpty || ck_meth cw_sp cw_fi cw_K cw_mt cw_pf cw_kl cw_ss cw_hn cw_pr 1000 cw_d132 (cw_mt 132) s) = true := by decide +kernel
theorem cw_c133 : cw_s133.all (fun s => s.2.2.2.isEmpty || ck_meth cw_sp cw_fi cw_K cw_mt cw_pf cw_kl cw_ss cw_hn cw_pr 1000 cw_d133 (cw_mt 133) s) = true := by decide +kernel
theorem cw_c134 : cw_s134.all (fun s => s.2.2.2.isEmpty || ck_meth cw_sp cw_fi cw_K cw_mt cw_pf cw_kl cw_ss cw_hn cw_pr 1000 cw_d134 (cw_mt 134) s) = true := by decide +kernel
theorem cw_c135 : cw_s135.all (fun s => s.2.2.2.isEmpty || ck_meth cw_sp cw_fi cw_K cw_mt cw_pf cw_kl cw_ss cw_hn cw_pr 1000 cw_d135 (cw_mt 135) s) = true := by decide +kernel
theorem cw_c136 : cw_s136.all (fun s => s.2.2.2.isEmpty || ck_meth cw_sp cw_fi cw_K cw_mt cw_pf cw_kl cw_ss cw_hn cw_pr 1000 cw_d136 (cw_mt 136) s) = true := by decide +kernel
theorem cw_c137 : cw_s137.all (fun s => s.2.2.2.isEmpty || ck_meth cw_sp cw_fi cw_K cw_mt cw_pf cw_kl cw_ss cw_hn cw_pr 1000 cw_d137 (cw_mt 137) s) = true := by decide +kernel
theorem cw_c138 : cw_s138.all (fun s => s.2.2.2.isEmpty || ck_meth cw_sp cw_fi cw_K cw_mt cw_pf cw_kl cw_ss cw_hn cw_pr 1000 cw_d138 (cw_mt 138) s) = true := by decide +kernel
theorem cw_c139 : cw_s139.all (fun s => s.2.2.2.isEmpty || ck_meth cw_sp cw_fi cw_K cw_mt cw_pf cw_kl cw_ss cw_hn cw_pr 1000 cw_d139 (cw_mt 139) s) = true := by decide +kernel
theorem cw_c140 : cw_s140.all (fun s => s.2.2.2.isEmpty || ck_meth cw_sp cw_fi cw_K cw_mt cw_pf cw_kl cw_ss cw_hn cw_pr 1000 cw_d140 (cw_mt 140) s) = true := by decide +kernel
theorem cw_c141 : cw_s141.all (fun s => s.2.2.2.isEmpty || ck_meth cw_sp cw_fi cw_K cw_mt cw_pf cw_kl cw_ss cw_hn cw_pr 1000 cw_d141 (cw_mt 141) s) = true := by decide +kernel
theorem cw_c142 : cw_s142.all (fun s => s.2.2.2.isEmpty || ck_meth cw_sp cw_fi cw_K cw_mt cw_pf cw_kl cw_ss cw_hn cw_pr 1000 cw_d142 (cw_mt 142) s) = true := by decide +kernel
theorem cw_c143 : cw_s143.all (fun s => s.2.2.2.isEmpty || ck_meth cw_sp cw_fi cw_K cw_mt cw_pf cw_kl cw_ss cw_hn cw_pr 1000 cw_d143 (cw_mt 143) s) = true := by decide +kernel
theorem cw_c144 : cw_s144.all (fun s => s.2.2.2.isEmpty || ck_meth cw_sp cw_fi cw_K cw_mt cw_pf cw_kl cw_ss cw_hn cw_pr 1000 cw_d144 (cw_mt 144) s) = true := by decide +kernel
theorem cw_c145 : cw_s145.all (fun s => s.2.2.2.isEmpty || ck_meth cw_sp cw_fi cw_K cw_mt cw_pf cw_kl cw_ss cw_hn cw_pr 1000 cw_d145 (cw_mt 145) s) = true := by decide +kernel
theorem cw_c146 : cw_s146.all (fun s => s.2.2.2.isEmpty || ck_meth cw_sp cw_fi cw_K cw_mt cw_pf cw_kl cw_ss cw_hn cw_pr 1000 cw_d146 (cw_mt 146) s) = true := by decide +kernel
theorem cw_c147 : cw_s147.all (fun s => s.2.2.2.isEmpty || ck_meth cw_sp cw_fi cw_K cw_mt cw_pf cw_kl cw_ss cw_hn cw_pr 1000 cw_d147 (cw_mt 147) s) = true := by decide +kernel
theorem cw_c148 : cw_s148.all (fun s => s.2.2.2.isEmpty || ck_meth cw_sp cw_fi cw_K cw_mt cw_pf cw_kl cw_ss cw_hn cw_pr 1000 cw_d148 (cw_mt 148) s) = true := by decide +kernel
theorem cw_c149 : cw_s149.all (fun s => s.2.2.2.isEmpty || ck_meth cw_sp cw_fi cw_K cw_mt cw_pf cw_kl cw_ss cw_hn cw_pr 1000 cw_d149 (cw_mt 149) s) = true := by decide +kernel
theorem cw_c150 : cw_s150.all (fun s => s.2.2.2.isEmpty || ck_meth cw_sp cw_fi cw_K cw_mt cw_pf cw_kl cw_ss cw_hn cw_pr 1000 cw_d150 (cw_mt 150) s) = true := by decide +kernel
theorem cw_c151 : cw_s151.all (fun s => s.2.2.2.isEmpty || ck_meth cw_sp cw_fi cw_K cw_mt cw_pf cw_kl cw_ss cw_hn cw_pr 1000 cw_d151 (cw_mt 151) s) = true := by decide +kernel
theorem cw_c152 : cw_s152.all (fun s => s.2.2.2.isEmpty || ck_meth cw_sp cw_fi cw_K cw_mt cw_pf cw_kl cw_ss cw_hn cw_pr 1000 cw_d152 (cw_mt 152) s) = true := by decide +kernel
theorem cw_c153 : cw_s153.all (fun s => s.2.2.2.isEmpty || ck_meth cw_sp cw_fi cw_K cw_mt cw_pf cw_kl cw_ss cw_hn cw_pr 1000 cw_d153 (cw_mt 153) s) = true := by decide +kernel
theorem cw_c154 : cw_s154.all (fun s => s.2.2.2.isEmpty || ck_meth cw_sp cw_fi cw_K cw_mt cw_pf cw_kl cw_ss cw_hn cw_pr 1000 cw_d154 (cw_mt 154) s) = true := by decide +kernel
theorem cw_c155 : cw_s155.all (fun s => s.2.2.2.isEmpty || ck_meth cw_sp cw_fi cw_K cw_mt cw_pf cw_kl cw_ss cw_hn cw_pr 1000 cw_d155 (cw_mt 155) s) = true := by decide +kernel
theorem cw_c156 : cw_s156.all (fun s => s.2.2.2.isEmpty || ck_meth cw_sp cw_fi cw_K cw_mt cw_pf cw_kl cw_ss cw_hn cw_pr 1000 cw_d156 (cw_mt 156) s) = true := by decide +kernel
theorem cw_c157 : cw_s157.all (fun s => s.2.2.2.isEmpty || ck_meth cw_sp cw_fi cw_K cw_mt cw_pf cw_kl cw_ss cw_hn cw_pr 1000 cw_d157 (cw_mt 157) s) = true := by decide +kernel
theorem cw_c158 : cw_s158.all (fun s => s.2.2.2.isEmpty || ck_meth cw_sp cw_fi cw_K cw_mt cw_pf cw_kl cw_ss cw_hn cw_pr 1000 cw_d158 (cw_mt 158) s) = true := by decide +kernel
theorem cw_c159_0 : ((cw_s159.drop (10 * 0)).take 10).all (fun s => s.2.2.2.isEmpty || ck_meth cw_sp cw_fi cw_K cw_mt cw_pf cw_kl cw_ss cw_hn cw_pr 1000 cw_d159 (cw_mt 159) s) = true := by decide +kernel
theorem cw_c159_1 : ((cw_s159.drop (10 * 1)).take 10).all (fun s => s.2.2.2.isEmpty || ck_meth cw_sp cw_fi cw_K cw_mt cw_pf cw_kl cw_ss cw_hn cw_pr 1000 cw_d159 (cw_mt 159) s) = true := by decide +kernel
theorem cw_c159_2 : ((cw_s159.drop (10 * 2)).take 10).all (fun s => s.2.2.2.isEmpty || ck_meth cw_sp cw_fi cw_K cw_mt cw_pf cw_kl cw_ss cw_hn cw_pr 1000 cw_d159 (cw_mt 159) s) = true := by decide +kernel
theorem cw_c159 : cw_s159.all (fun s => s.2.2.2.isEmpty || ck_meth cw_sp cw_fi cw_K cw_mt cw_pf cw_kl cw_ss cw_hn cw_pr 1000 cw_d159 (cw_mt 159) s) = true := by
  refine ck_chunks (n := 10) (m := 3) (by decide) (fun k hk => ?_) (by decide +kernel)
  match k, hk with
  | 0, _ => exact cw_c159_0
  | 1, _ => exact cw_c159_1
  | 2, _ => exact cw_c159_2
  | q + 3, h => omega
theorem cw_c160 : cw_s160.all (fun s => s.2.2.2.isEmpty || ck_meth cw_sp cw_fi cw_K cw_mt cw_pf cw_kl cw_ss cw_hn cw_pr 1000 cw_d160 (cw_mt 160) s) = true := by decide +kernel
theorem cw_c161 : cw_s161.all (fun s => s.2.2.2.isEmpty || ck_meth cw_sp cw_fi cw_K cw_mt cw_pf cw_kl cw_ss cw_hn cw_pr 1000 cw_d161 (cw_mt 161) s) = true := by decide +kernel
theorem cw_c162 : cw_s162.all (fun s => s.2.2.2.isEmpty || ck_meth cw_sp cw_fi cw_K cw_mt cw_pf cw_kl cw_ss cw_hn cw_pr 1000 cw_d162 (cw_mt 162) s) = true := by decide +kernel
theorem cw_c163 : cw_s163.all (fun s => s.2.2.2.isEmpty || ck_meth cw_sp cw_fi cw_K cw_mt cw_pf cw_kl cw_ss cw_hn cw_pr 1000 cw_d163 (cw_mt 163) s) = true := by decide +kernel
theorem cw_c164 : cw_s164.all (fun s => s.2.2.2.isEmpty || ck_meth cw_sp cw_fi cw_K cw_mt cw_pf cw_kl cw_ss cw_hn cw_pr 1000 cw_d164 (cw_mt 164) s) = true := by decide +kernel
theorem cw_c165 : cw_s165.all (fun s => s.2.2.2.isEmpty || ck_meth cw_sp cw_fi cw_K cw_mt cw_pf cw_kl cw_ss cw_hn cw_pr 1000 cw_d165 (cw_mt 165) s) = true := by decide +kernel
theorem cw_c166 : cw_s166.all (fun s => s.2.2.2.isEmpty || ck_meth cw_sp cw_fi cw_K cw_mt cw_pf cw_kl cw_ss cw_hn cw_pr 1000 cw_d166 (cw_mt 166) s) = true := by decide +kernel
theorem cw_c167 : cw_s167.all (fun s => s.2.2.2.isEmpty || ck_meth cw_sp cw_fi cw_K cw_mt cw_pf cw_kl cw_ss cw_hn cw_pr 1000 cw_d167 (cw_mt 167) s) = true := by decide +kernel
theorem cw_c168_0 : ((cw_s168.drop (10 * 0)).take 10).all (fun s => s.2.2.2.isEmpty || ck_meth cw_sp cw_fi cw_K cw_mt cw_pf cw_kl cw_ss cw_hn cw_pr 1000 cw_d168 (cw_mt 168) s) = true := by decide +kernel
theorem cw_c168_1 : ((cw_s168.drop (10 * 1)).take 10).all (fun s => s.2.2.2.isEmpty || ck_meth cw_sp cw_fi cw_K cw_mt cw_pf cw_kl cw_ss cw_hn cw_pr 1000 cw_d168 (cw_mt 168) s) = true := by decide +kernel
theorem cw_c168_2 : ((cw_s168.drop (10 * 2)).take 10).all (fun s => s.2.2.2.isEmpty || ck_meth cw_sp cw_fi cw_K cw_mt cw_pf cw_kl cw_ss cw_hn cw_pr 1000 cw_d168 (cw_mt 168) s) = true := by decide +kernel
theorem cw_c168 : cw_s168.all (fun s => s.2.2.2.isEmpty || ck_meth cw_sp cw_fi cw_K cw_mt cw_pf cw_kl cw_ss cw_hn cw_pr 1000 cw_d168 (cw_mt 168) s) = true := by
  refine ck_chunks (n := 10) (m := 3) (by decide) (fun k hk => ?_) (by decide +kernel)
  match k, hk with
  | 0, _ => exact cw_c168_0
  | 1, _ => exact cw_c168_1
  | 2, _ => exact cw_c168_2
  | q + 3, h => omega
theorem cw_c169 : cw_s169.all (fun s => s.2.2.2.isEmpty || ck_meth cw_sp cw_fi cw_K cw_mt cw_pf cw_kl cw_ss cw_hn cw_pr 1000 cw_d169 (cw_mt 169) s) = true := by decide +kernel
theorem cw_c170 : cw_s170.all (fun s => s.2.2.2.isEmpty || ck_meth cw_sp cw_fi cw_K cw_mt cw_pf cw_kl cw_ss cw_hn cw_pr 1000 cw_d170 (cw_mt 170) s) = true := by decide +kernel
theorem cw_c171 : cw_s171.all (fun s => s.2.2.2.isEmpty || ck_meth cw_sp cw_fi cw_K cw_mt cw_pf cw_kl cw_ss cw_hn cw_pr 1000 cw_d171 (cw_mt 171) s) = true := by decide +kernel
theorem cw_c172 : cw_s172.all (fun s => s.2.2.2.isEmpty || ck_meth cw_sp cw_fi cw_K cw_mt cw_pf cw_kl cw_ss cw_hn cw_pr 1000 cw_d172 (cw_mt 172) s) = true := by decide +kernel
theorem cw_c173 : cw_s173.all (fun s => s.2.2.2.isEmpty || ck_meth cw_sp cw_fi cw_K cw_mt cw_pf cw_kl cw_ss cw_hn cw_pr 1000 cw_d173 (cw_mt 173) s) = true := by decide +kernel
theorem cw_c174 : cw_s174.all (fun s => s.2.2.2.isEmpty || ck_meth cw_sp cw_fi cw_K cw_mt cw_pf cw_kl cw_ss cw_hn cw_pr 1000 cw_d174 (cw_mt 174) s) = true := by decide +kernel
theorem cw_c175 : cw_s175.all (fun s => s.2.2.2.isEmpty || ck_meth cw_sp cw_fi cw_K cw_mt cw_pf cw_kl cw_ss cw_hn cw_pr 1000 cw_d175 (cw_mt 175) s) = true := by decide +kernel
theorem cw_c176 : cw_s176.all (fun s => s.2.2.2.isEmpty || ck_meth cw_sp cw_fi cw_K cw_mt cw_pf cw_kl cw_ss cw_hn cw_pr 1000 cw_d176 (cw_mt 176) s) = true := by decide +kernel
theorem cw_c177 : cw_s177.all (fun s => s.2.2.2.isEmpty || ck_meth cw_sp cw_fi cw_K cw_mt cw_pf cw_kl cw_ss cw_hn cw_pr 1000 cw_d177 (cw_mt 177) s) = true := by decide +kernel
theorem cw_c178 : cw_s178.all (fun s => s.2.2.2.isEmpty || ck_meth cw_sp cw_fi cw_K cw_mt cw_pf cw_kl cw_ss cw_hn cw_pr 1000 cw_d178 (cw_mt 178) s) = true := by decide +kernel
theorem cw_c179 : cw_s179.all (fun s => s.2.2.2.isEmpty || ck_meth cw_sp cw_fi cw_K cw_mt cw_pf cw_kl cw_ss cw_hn cw_pr 1000 cw_d179 (cw_mt 179) s) = true := by decide +kernel
theorem cw_c180 : cw_s180.all (fun s => s.2.2.2.isEmpty || ck_meth cw_sp cw_fi cw_K cw_mt cw_pf cw_kl cw_ss cw_hn cw_pr 1000 cw_d180 (cw_mt 180) s) = true := by decide +kernel
theorem cw_c181 : cw_s181.all (fun s => s.2.2.2.isEmpty || ck_meth cw_sp cw_fi cw_K cw_mt cw_pf cw_kl cw_ss cw_hn cw_pr 1000 cw_d181 (cw_mt 181) s) = true := by decide +kernel
theorem cw_c182 : cw_s182.all (fun s => s.2.2.2.isEmpty || ck_meth cw_sp cw_fi cw_K cw_mt cw_pf cw_kl cw_ss cw_hn cw_pr 1000 cw_d182 (cw_mt 182) s) = true := by decide +kernel
theorem cw_c183 : cw_s183.all (fun s => s.2.2.2.isEmpty || ck_meth cw_sp cw_fi cw_K cw_mt cw_pf cw_kl cw_ss cw_hn cw_pr 1000 cw_d183 (cw_mt 183) s) = true := by decide +kernel
theorem cw_c184 : cw_s184.all (fun s => s.2.2.2.isEmpty || ck_meth cw_sp cw_fi cw_K cw_mt cw_pf cw_kl cw_ss cw_hn cw_pr 1000 cw_d184 (cw_mt 184) s) = true := by decide +kernel
theorem cw_c185 : cw_s185.all (fun s => s.2.2.2.isEmpty || ck_meth cw_sp cw_fi cw_K cw_mt cw_pf cw_kl cw_ss cw_hn cw_pr 1000 cw_d185 (cw_mt 185) s) = true := by decide +kernel
theorem cw_c186 : cw_s186.all (fun s => s.2.2.2.isEmpty || ck_meth cw_sp cw_fi cw_K cw_mt cw_pf cw_kl cw_ss cw_hn cw_pr 1000 cw_d186 (cw_mt 186) s) = true := by decide +kernel
theorem cw_c187 : cw_s187.all (fun s => s.2.2.2.isEmpty || ck_meth cw_sp cw_fi cw_K cw_mt cw_pf cw_kl cw_ss cw_hn cw_pr 1000 cw_d187 (cw_mt 187) s) = true := by decide +kernel
theorem cw_c188 : cw_s188.all (fun s => s.2.2.2.isEmpty || ck_meth cw_sp cw_fi cw_K cw_mt cw_pf cw_kl cw_ss cw_hn cw_pr 1000 cw_d188 (cw_mt 188) s) = true := by decide +kernel
theorem cw_c189 : cw_s189.all (fun s => s.2.2.2.isEmpty || ck_meth cw_sp cw_fi cw_K cw_mt cw_pf cw_kl cw_ss cw_hn cw_pr 1000 cw_d189 (cw_mt 189) s) = true := by decide +kernel
theorem cw_c190 : cw_s190.all (fun s => s.2.2.2.isEmpty || ck_meth cw_sp cw_fi cw_K cw_mt cw_pf cw_kl cw_ss cw_hn cw_pr 1000 cw_d190 (cw_mt 190) s) = true := by decide +kernel
theorem cw_c191 : cw_s191.all (fun s => s.2.2.2.isEmpty || ck_meth cw_sp cw_fi cw_K cw_mt cw_pf cw_kl cw_ss cw_hn cw_pr 1000 cw_d191 (cw_mt 191) s) = true := by decide +kernel
theorem cw_c192 : cw_s192.all (fun s => s.2.2.2.isEmpty || ck_meth cw_sp cw_fi cw_K cw_mt cw_pf cw_kl cw_ss cw_hn cw_pr 1000 cw_d192 (cw_mt 192) s) = true := by decide +kernel
theorem cw_c193 : cw_s193.all (fun s => s.2.2.2.isEmpty || ck_meth cw_sp cw_fi cw_K cw_mt cw_pf cw_kl cw_ss cw_hn cw_pr 1000 cw_d193 (cw_mt 193) s) = true := by decide +kernel
theorem cw_c194 : cw_s194.all (fun s => s.2.2.2.isEmpty || ck_meth cw_sp cw_fi cw_K cw_mt cw_pf cw_kl cw_ss cw_hn cw_pr 1000 cw_d194 (cw_mt 194) s) = true := by decide +kernel
theorem cw_c195 : cw_s195.all (fun s => s.2.2.2.isEmpty || ck_meth cw_sp cw_fi cw_K cw_mt cw_pf cw_kl cw_ss cw_hn cw_pr 1000 cw_d195 (cw_mt 195) s) = true := by decide +kernel
theorem cw_c196 : cw_s196.all (fun s => s.2.2.2.isEmpty || ck_meth cw_sp cw_fi cw_K cw_mt cw_pf cw_kl cw_ss cw_hn cw_pr 1000 cw_d196 (cw_mt 196) s) = true := by decide +kernel
theorem cw_c197 : cw_s197.all (fun s => s.2.2.2.isEmpty || ck_meth cw_sp cw_fi cw_K cw_mt cw_pf cw_kl cw_ss cw_hn cw_pr 1000 cw_d197 (cw_mt 197) s) = true := by decide +kernel
theorem cw_c198 : cw_s198.all (fun s => s.2.2.2.isEmpty || ck_meth cw_sp cw_fi cw_K cw_mt cw_pf cw_kl cw_ss cw_hn cw_pr 1000 cw_d198 (cw_mt 198) s) = true := by decide +kernel
theorem cw_c199 : cw_s199.all (fun s => s.2.2.2.isEmpty || ck_meth cw_sp cw_fi cw_K cw_mt cw_pf cw_kl cw_ss cw_hn cw_pr 1000 cw_d199 (cw_mt 199) s) = true := by decide +kernel
theorem cw_c200 : cw_s200.all (fun s => s.2.2.2.isEmpty || ck_meth cw_sp cw_fi cw_K cw_mt cw_pf cw_kl cw_ss cw_hn cw_pr 1000 cw_d200 (cw_mt 200) s) = true := by decide +kernel
theorem cw_c201 : cw_s201.all (fun s => s.2.2.2.isEmpty || ck_meth cw_sp cw_fi cw_K cw_mt cw_pf cw_kl cw_ss cw_hn cw_pr 1000 cw_d201 (cw_mt 201) s) = true := by decide +kernel
theorem cw_c202 : cw_s202.all (fun s => s.2.2.2.isEmpty || ck_meth cw_sp cw_fi cw_K cw_mt cw_pf cw_kl cw_ss cw_hn cw_pr 1000 cw_d202 (cw_mt 202) s) = true := by decide +kernel
theorem cw_c203 : cw_s203.all (fun s => s.2.2.2.isEmpty || ck_meth cw_sp cw_fi cw_K cw_mt cw_pf cw_kl cw_ss cw_hn cw_pr 1000 cw_d203 (cw_mt 203) s) = true := by decide +kernel
theorem cw_c204 : cw_s204.all (fun s => s.2.2.2.isEmpty || ck_meth cw_sp cw_fi cw_K cw_mt cw_pf cw_kl cw_ss cw_hn cw_pr 1000 cw_d204 (cw_mt 204) s) = true := by decide +kernel
theorem cw_c205_0 : ((cw_s205.drop (10 * 0)).take 10).all (fun s => s.2.2.2.isEmpty || ck_meth cw_sp cw_fi cw_K cw_mt cw_pf cw_kl cw_ss cw_hn cw_pr 1000 cw_d205 (cw_mt 205) s) = true := by decide +kernel
theorem cw_c205_1 : ((cw_s205.drop (10 * 1)).take 10).all (fun s => s.2.2.2.isEmpty || ck_meth cw_sp cw_fi cw_K cw_mt cw_pf cw_kl cw_ss cw_hn cw_pr 1000 cw_d205 (cw_mt 205) s) = true := by decide +kernel
theorem cw_c205_2 : ((cw_s205.drop (10 * 2)).take 10).all (fun s => s.2.2.2.isEmpty || ck_meth cw_sp cw_fi cw_K cw_mt cw_pf cw_kl cw_ss cw_hn cw_pr 1000 cw_d205 (cw_mt 205) s) = true := by decide +kernel
theorem cw_c205 : cw_s205.all (fun s => s.2.2.2.isEmpty || ck_meth cw_sp cw_fi cw_K cw_mt cw_pf cw_kl cw_ss cw_hn cw_pr 1000 cw_d205 (cw_mt 205) s) = true := by
  refine ck_chunks (n := 10) (m := 3) (by decide) (fun k hk => ?_) (by decide +kernel)
  match k, hk with
  | 0, _ => exact cw_c205_0
  | 1, _ => exact cw_c205_1
  | 2, _ => exact cw_c205_2
  | q + 3, h => omega
theorem cw_c206_0 : ((cw_s206.drop (10 * 0)).take 10).all (fun s => s.2.2.2.isEmpty || ck_meth cw_sp cw_fi cw_K cw_mt cw_pf cw_kl cw_ss cw_hn cw_pr 1000 cw_d206 (cw_mt 206) s) = true := by decide +kernel
theorem cw_c206_1 : ((cw_s206.drop (10 * 1)).take 10).all (fun s => s.2.2.2.isEmpty || ck_meth cw_sp cw_fi cw_K cw_mt cw_pf cw_kl cw_ss cw_hn cw_pr 1000 cw_d206 (cw_mt 206) s) = true := by decide +kernel
theorem cw_c206_2 : ((cw_s206.drop (10 * 2)).take 10).all (fun s => s.2.2.2.isEmpty || ck_meth cw_sp cw_fi cw_K cw_mt cw_pf cw_kl cw_ss cw_hn cw_pr 1000 cw_d206 (cw_mt 206) s) = true := by decide +kernel
theorem cw_c206 : cw_s206.all (fun s => s.2.2.2.isEmpty || ck_meth cw_sp cw_fi cw_K cw_mt cw_pf cw_kl cw_ss cw_hn cw_pr 1000 cw_d206 (cw_mt 206) s) = true := by
  refine ck_chunks (n := 10) (m := 3) (by decide) (fun k hk => ?_) (by decide +kernel)
  match k, hk with
  | 0, _ => exact cw_c206_0
  | 1, _ => exact cw_c206_1
  | 2, _ => exact cw_c206_2
  | q + 3, h => omega
theorem cw_c207_0 : ((cw_s207.drop (10 * 0)).take 10).all (fun s => s.2.2.2.isEmpty || ck_meth cw_sp cw_fi cw_K cw_mt cw_pf cw_kl cw_ss cw_hn cw_pr 1000 cw_d207 (cw_mt 207) s) = true := by decide +kernel
theorem cw_c207_1 : ((cw_s207.drop (10 * 1)).take 10).all (fun s => s.2.2.2.isEmpty || ck_meth cw_sp cw_fi cw_K cw_mt cw_pf cw_kl cw_ss cw_hn cw_pr 1000 cw_d207 (cw_mt 207) s) = true := by decide +kernel
theorem cw_c207_2 : ((cw_s207.drop (10 * 2)).take 10).all (fun s => s.2.2.2.isEmpty || ck_meth cw_sp cw_fi cw_K cw_mt cw_pf cw_kl cw_ss cw_hn cw_pr 1000 cw_d207 (cw_mt 207) s) = true := by decide +kernel
theorem cw_c207 : cw_s207.all (fun s => s.2.2.2.isEmpty || ck_meth cw_sp cw_fi cw_K cw_mt cw_pf cw_kl cw_ss cw_hn cw_pr 1000 cw_d207 (cw_mt 207) s) = true := by
  refine ck_chunks (n := 10) (m := 3) (by decide) (fun k hk => ?_) (by decide +kernel)
  match k, hk with
  | 0, _ => exact cw_c207_0
  | 1, _ => exact cw_c207_1
  | 2, _ => exact cw_c207_2
  | q + 3, h => omega
theorem cw_c208_0 : ((cw_s208.drop (10 * 0)).take 10).all (fun s => s.2.2.2.isEmpty || ck_meth cw_sp cw_fi cw_K cw_mt cw_pf cw_kl cw_ss cw_hn cw_pr 1000 cw_d208 (cw_mt 208) s) = true := by decide +kernel
theorem cw_c208_1 : ((cw_s208.drop (10 * 1)).take 10).all (fun s => s.2.2.2.isEmpty || ck_meth cw_sp cw_fi cw_K cw_mt cw_pf cw_kl cw_ss cw_hn cw_pr 1000 cw_d208 (cw_mt 208) s) = true := by decide +kernel
theorem cw_c208_2 : ((cw_s208.drop (10 * 2)).take 10).all (fun s => s.2.2.2.isEmpty || ck_meth cw_sp cw_fi cw_K cw_mt cw_pf cw_kl cw_ss cw_hn cw_pr 1000 cw_d208 (cw_mt 208) s) = true := by decide +kernel
theorem cw_c208 : cw_s208.all (fun s => s.2.2.2.isEmpty || ck_meth cw_sp cw_fi cw_K cw_mt cw_pf cw_kl cw_ss cw_hn cw_pr 1000 cw_d208 (cw_mt 208) s) = true := by
  refine ck_chunks (n := 10) (m := 3) (by decide) (fun k hk => ?_) (by decide +kernel)
  match k, hk with
  | 0, _ => exact cw_c208_0
  | 1, _ => exact cw_c208_1
  | 2, _ => exact cw_c208_2
  | q + 3, h => omega
theorem cw_c209_0 : ((cw_s209.drop (10 * 0)).take 10).all (fun s => s.2.2.2.isEmpty || ck_meth cw_sp cw_fi cw_K cw_mt cw_pf cw_kl cw_ss cw_hn cw_pr 1000 cw_d209 (cw_mt 209) s) = true := by decide +kernel
theorem cw_c209_1 : ((cw_s209.drop (10 * 1)).take 10).all (fun s => s.2.2.2.isEmpty || ck_meth cw_sp cw_fi cw_K cw_mt cw_pf cw_kl cw_ss cw_hn cw_pr 1000 cw_d209 (cw_mt 209) s) = true := by decide +kernel
theorem cw_c209_2 : ((cw_s209.drop (10 * 2)).take 10).all (fun s => s.2.2.2.isEmpty || ck_meth cw_sp cw_fi cw_K cw_mt cw_pf cw_kl cw_ss cw_hn cw_pr 1000 cw_d209 (cw_mt 209) s) = true := by decide +kernel
theorem cw_c209 : cw_s209.all (fun s => s.2.2.2.isEmpty || ck_meth cw_sp cw_fi cw_K cw_mt cw_pf cw_kl cw_ss cw_hn cw_pr 1000 cw_d209 (cw_mt 209) s) = true := by
  refine ck_chunks (n := 10) (m := 3) (by decide) (fun k hk => ?_) (by decide +kernel)
  match k, hk with
  | 0, _ => exact cw_c209_0
  | 1, _ => exact cw_c209_1
  | 2, _ => exact cw_c209_2
  | q + 3, h => omega
theorem cw_c210 : cw_s210.all (fun s => s.2.2.2.isEmpty || ck_meth cw_sp cw_fi cw_K cw_mt cw_pf cw_kl cw_ss cw_hn cw_pr 1000 cw_d210 (cw_mt 210) s) = true := by decide +kernel
theorem cw_c211 : cw_s211.all (fun s => s.2.2.2.isEmpty || ck_meth cw_sp cw_fi cw_K cw_mt cw_pf cw_kl cw_ss cw_hn cw_pr 1000 cw_d211 (cw_mt 211) s) = true := by decide +kernel
theorem cw_c212 : cw_s212.all (fun s => s.2.2.2.isEmpty || ck_meth cw_sp cw_fi cw_K cw_mt cw_pf cw_kl cw_ss cw_hn cw_pr 1000 cw_d212 (cw_mt 212) s) = true := by decide +kernel
theorem cw_c213 : cw_s213.all (fun s => s.2.2.2.isEmpty || ck_meth cw_sp cw_fi cw_K cw_mt cw_pf cw_kl cw_ss cw_hn cw_pr 1000 cw_d213 (cw_mt 213) s) = true := by decide +kernel
theorem cw_c214 : cw_s214.all (fun s => s.2.2.2.isEmpty || ck_meth cw_sp cw_fi cw_K cw_mt cw_pf cw_kl cw_ss cw_hn cw_pr 1000 cw_d214 (cw_mt 214) s) = true := by decide +kernel
theorem cw_c215 : cw_s215.all (fun s => s.2.2.2.isEmpty || ck_meth cw_sp cw_fi cw_K cw_mt cw_pf cw_kl cw_ss cw_hn cw_pr 1000 cw_d215 (cw_mt 215) s) = true := by decide +kernel
theorem cw_c216 : cw_s216.all (fun s => s.2.2.2.isEmpty || ck_meth cw_sp cw_fi cw_K cw_mt cw_pf cw_kl cw_ss cw_hn cw_pr 1000 cw_d216 (cw_mt 216) s) = true := by decide +kernel
theorem cw_c217 : cw_s217.all (fun s => s.2.2.2.isEmpty || ck_meth cw_sp cw_fi cw_K cw_mt cw_pf cw_kl cw_ss cw_hn cw_pr 1000 cw_d217 (cw_mt 217) s) = true := by decide +kernel
theorem cw_c218 : cw_s218.all (fun s => s.2.2.2.isEmpty || ck_meth cw_sp cw_fi cw_K cw_mt cw_pf cw_kl cw_ss cw_hn cw_pr 1000 cw_d218 (cw_mt 218) s) = true := by decide +kernel
theorem cw_c219 : cw_s219.all (fun s => s.2.2.2.isEmpty || ck_meth cw_sp cw_fi cw_K cw_mt cw_pf cw_kl cw_ss cw_hn cw_pr 1000 cw_d219 (cw_mt 219) s) = true := by decide +kernel
theorem cw_c220 : cw_s220.all (fun s => s.2.2.2.isEmpty || ck_meth cw_sp cw_fi cw_K cw_mt cw_pf cw_kl cw_ss cw_hn cw_pr 1000 cw_d220 (cw_mt 220) s) = true := by decide +kernel
theorem cw_c221 : cw_s221.all (fun s => s.2.2.2.isEmpty || ck_meth cw_sp cw_fi cw_K cw_mt cw_pf cw_kl cw_ss cw_hn cw_pr 1000 cw_d221 (cw_mt 221) s) = true := by decide +kernel
theorem cw_c222 : cw_s222.all (fun s => s.2.2.2.isEmpty || ck_meth cw_sp cw_fi cw_K cw_mt cw_pf cw_kl cw_ss cw_hn cw_pr 1000 cw_d222 (cw_mt 222) s) = true := by decide +kernel
theorem cw_c223 : cw_s223.all (fun s => s.2.2.2.isEmpty || ck_meth cw_sp cw_fi cw_K cw_mt cw_pf cw_kl cw_ss cw_hn cw_pr 1000 cw_d223 (cw_mt 223) s) = true := by decide +kernel
theorem cw_c224 : cw_s224.all (fun s => s.2.2.2.isEmpty || ck_meth cw_sp cw_fi cw_K cw_mt cw_pf cw_kl cw_ss cw_hn cw_pr 1000 cw_d224 (cw_mt 224) s) = true := by decide +kernel
theorem cw_c225 : cw_s225.all (fun s => s.2.2.2.isEmpty || ck_meth cw_sp cw_fi cw_K cw_mt cw_pf cw_kl cw_ss cw_hn cw_pr 1000 cw_d225 (cw_mt 225) s) = true := by decide +kernel
theorem cw_c226 : cw_s226.all (fun s => s.2.2.2.isEmpty || ck_meth cw_sp cw_fi cw_K cw_mt cw_pf cw_kl cw_ss cw_hn cw_pr 1000 cw_d226 (cw_mt 226) s) = true := by decide +kernel
theorem cw_c227 : cw_s227.all (fun s => s.2.2.2.isEmpty || ck_meth cw_sp cw_fi cw_K cw_mt cw_pf cw_kl cw_ss cw_hn cw_pr 1000 cw_d227 (cw_mt 227) s) = true := by decide +kernel
theorem cw_c228 : cw_s228.all (fun s => s.2.2.2.isEmpty || ck_meth cw_sp cw_fi cw_K cw_mt cw_pf cw_kl cw_ss cw_hn cw_pr 1000 cw_d228 (cw_mt 228) s) = true := by decide +kernel
theorem cw_c229 : cw_s229.all (fun s => s.2.2.2.isEmpty || ck_meth cw_sp cw_fi cw_K cw_mt cw_pf cw_kl cw_ss cw_hn cw_pr 1000 cw_d229 (cw_mt 229) s) = true := by decide +kernel
theorem cw_c230 : cw_s230.all (fun s => s.2.2.2.isEmpty || ck_meth cw_sp cw_fi cw_K cw_mt cw_pf cw_kl cw_ss cw_hn cw_pr 1000 cw_d230 (cw_mt 230) s) = true := by decide +kernel
theorem cw_c231 : cw_s231.all (fun s => s.2.2.2.isEmpty || ck_meth cw_sp cw_fi cw_K cw_mt cw_pf cw_kl cw_ss cw_hn cw_pr 1000 cw_d231 (cw_mt 231) s) = true := by decide +kernel
theorem cw_c232 : cw_s232.all (fun s => s.2.2.2.isEmpty || ck_meth cw_sp cw_fi cw_K cw_mt cw_pf cw_kl cw_ss cw_hn cw_pr 1000 cw_d232 (cw_mt 232) s) = true := by decide +kernel
theorem cw_c233 : cw_s233.all (fun s => s.2.2.2.isEmpty || ck_meth cw_sp cw_fi cw_K cw_mt cw_pf cw_kl cw_ss cw_hn cw_pr 1000 cw_d233 (cw_mt 233) s) = true := by decide +kernel
theorem cw_c234 : cw_s234.all (fun s => s.2.2.2.isEmpty || ck_meth cw_sp cw_fi cw_K cw_mt cw_pf cw_kl cw_ss cw_hn cw_pr 1000 cw_d234 (cw_mt 234) s) = true := by decide +kernel
theorem cw_c235 : cw_s235.all (fun s => s.2.2.2.isEmpty || ck_meth cw_sp cw_fi cw_K cw_mt cw_pf cw_kl cw_ss cw_hn cw_pr 1000 cw_d235 (cw_mt 235) s) = true := by decide +kernel
theorem cw_c236 : cw_s236.all (fun s => s.2.2.2.isEmpty || ck_meth cw_sp cw_fi cw_K cw_mt cw_pf cw_kl cw_ss cw_hn cw_pr 1000 cw_d236 (cw_mt 236) s) = true := by decide +kernel
theorem cw_c237 : cw_s237.all (fun s => s.2.2.2.isEmpty || ck_meth cw_sp cw_fi cw_K cw_mt cw_pf cw_kl cw_ss cw_hn cw_pr 1000 cw_d237 (cw_mt 237) s) = true := by decide +kernel
theorem cw_c238 : cw_s238.all (fun s => s.2.2.2.isEmpty || ck_meth cw_sp cw_fi cw_K cw_mt cw_pf cw_kl cw_ss cw_hn cw_pr 1000 cw_d238 (cw_mt 238) s) = true := by decide +kernel
theorem cw_c239 : cw_s239.all (fun s => s.2.2.2.isEmpty || ck_meth cw_sp cw_fi cw_K cw_mt cw_pf cw_kl cw_ss cw_hn cw_pr 1000 cw_d239 (cw_mt 239) s) = true := by decide +kernel
