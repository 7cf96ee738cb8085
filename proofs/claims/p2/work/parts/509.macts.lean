/-! the reference: its acts, P (written by a program) -/
variable {Zz : Zc}
theorem e37_of {a : Int} (e : a < 31 ∨ 36 < a) (p : 31 ≤ a ∧ a ≤ 37) : a = 37 := by omega
theorem pi_done_31 {h h' : ja_H} {R r ph q0 a b x : Int} {tf : mo_TF} {s : List mo_A} (q : pi_done (mo_L (ja_up h 0 18 x) 32 a 0 0) h' R r ph tf q0 (pi_mu (mo_L (ja_up h 0 18 x) 32 a 0 0) ((32, a, 0) :: s))) : pi_done h h' R r ph tf q0 (pi_mu h ((31, a, b) :: s)) := by
  obtain ⟨⟨s', ht', st', rg', tu', q1, q2⟩, q3⟩ := q
  exact ⟨⟨s', ht', st', rg', tu', q1, q2⟩, ag_trans (by unfold mo_L; (repeat (refine ag_up rfl ?_)); exact ag_refl) q3⟩
theorem pi_pop {u : ja_H} {R r ph q0 : Int} {tf : mo_TF} {s : List mo_A} {ht st rg : Nat → Int} {tu : Int} (hp : pi u R r ph tf q0 s ht st rg tu) (h0 : 0 < (u 0 17)) (hat : (u 0 7) ≤ 900) : ∃ s', s = ((u 6) ((u 0 17) - 1).toNat, (u 7) ((u 0 17) - 1).toNat, (u 8) ((u 0 17) - 1).toNat) :: s' ∧ pk_S (ja_up u 0 17 ((u 0 17) - 1)) ((ja_up u 0 17 ((u 0 17) - 1)) 0 17).toNat s' ∧ piB (ja_up u 0 17 ((u 0 17) - 1)) R r ph tf q0 (((u 6) ((u 0 17) - 1).toNat, (u 7) ((u 0 17) - 1).toNat, (u 8) ((u 0 17) - 1).toNat) :: s') ht st rg tu ∧ 0 < pi_mu u s := by
  obtain ⟨q1, q2⟩ := hp
  have e : ((u 0 17) - 1).toNat = (u 0 17).toNat - 1 := by omega
  obtain ⟨x, s', e1, e2, e3, e4, e5⟩ := pk_S_pop (by omega) q1
  rw [← e] at e2 e3 e4 e5
  have ex : x = ((u 6) ((u 0 17) - 1).toNat, (u 7) ((u 0 17) - 1).toNat, (u 8) ((u 0 17) - 1).toNat) := by
    rw [e2, e3, e4]
  rw [← ex]
  subst e1
  have hm := q2.2.2.2.1.1.1.2
  refine ⟨s', rfl, (show pk_S (ja_up u 0 17 ((u 0 17) - 1)) ((u 0 17) - 1).toNat s' from pk_S_ext (h := u) (fun j _ => ⟨rfl, rfl, rfl⟩) e5), q2, ?_⟩
  have m1 : pk_sum pk_m (x :: s') = pk_m x.1 + pk_sum pk_m s' := rfl
  have m2 : -12 ≤ pk_m x.1 := by unfold pk_m; (repeat' split) <;> omega
  have ga : (u 0 7) ≤ 900 := hat
  unfold pi_mu
  rw [m1]
  omega
theorem pi_nil {u : ja_H} {R r ph q0 : Int} {tf : mo_TF} {s : List mo_A} {ht st rg : Nat → Int} {tu : Int} (hp : pi u R r ph tf q0 s ht st rg tu) (h0 : (u 0 17) ≤ 0) : s = [] := by
  have e : (u 0 17).toNat = 0 := by omega
  have q1 := hp.1
  rw [e] at q1
  cases s with
  | nil => rfl
  | cons x s => exact q1.elim
theorem mu_at {h h' : ja_H} {x : mo_A} (hx : pk_m x.1 = 1) (q : pi_mu h' [] ≤ pi_mu h [x]) : (h 0 7) ≤ (h' 0 7) := by
  have e1 : pi_mu h' [] = 40 * (900 - (h' 0 7)) + 0 + 13 := rfl
  have e2 : pi_mu h [x] = 40 * (900 - (h 0 7)) + (pk_m x.1 + 0) + 13 := rfl
  omega
theorem mu_r {h : ja_H} {s : List mo_A} {n : Nat} (g : mo_G Zz h) (hS : pk_S h n s) (hn : n ≤ 2000) : -2147483648 ≤ pi_mu h s ∧ pi_mu h s ≤ 2147483647 := by
  have e := pk_S_len hS
  have ga := gF_at g
  have hb : ∀ s : List mo_A, -12 * (s.length : Int) ≤ pk_sum pk_m s ∧ pk_sum pk_m s ≤ 3 * (s.length : Int) := by
    intro s
    induction s with
    | nil => exact ⟨Int.le_refl _, Int.le_refl _⟩
    | cons x s ih =>
      have m1 : pk_sum pk_m (x :: s) = pk_m x.1 + pk_sum pk_m s := rfl
      have m2 : -12 ≤ pk_m x.1 ∧ pk_m x.1 ≤ 3 := by unfold pk_m; (repeat' split) <;> omega
      rw [m1, List.length_cons]
      omega
  have := hb s
  unfold pi_mu
  omega
theorem pk_S_one {H : ja_H} {a b c : Int} (h1 : H 6 0 = a) (h2 : H 7 0 = b) (h3 : H 8 0 = c) : pk_S H ((1 : Int)).toNat [(a, b, c)] := ⟨⟨h1, h2, h3⟩, trivial⟩
/-- the loop's state -/
def lo_I (h u : ja_H) (R r ph : Int) (tf : mo_TF) (q0 m x : Int) : Prop := (x = 1 ∧ (∃ s ht st rg tu, pi u R r ph tf q0 s ht st rg tu ∧ pi_mu u s ≤ m) ∧ mo_ag FK h u) ∨ (x = 0 ∧ 0 < (u 0 8) ∧ (u 0 1) = (h 0 1) ∧ (u 0 118) = (h 0 118) ∧ (u 0 127) = (h 0 127))
theorem lo_next {h u v : ja_H} {R r ph q0 m : Int} {tf : mo_TF} {x : mo_A} {s : List mo_A} (ag : mo_ag FK h u) (q : pi_done (ja_up u 0 17 ((u 0 17) - 1)) v R r ph tf q0 (pi_mu (ja_up u 0 17 ((u 0 17) - 1)) (x :: s))) (hm : pi_mu u (x :: s) ≤ m) : lo_I h v R r ph tf q0 (m - 1) 1 := by
  obtain ⟨⟨s', ht', st', rg', tu', q1, q2⟩, q3⟩ := q
  refine Or.inl ⟨rfl, ⟨s', ht', st', rg', tu', q1, ?_⟩, ag_trans ag (ag_trans (ag_up rfl ag_refl) q3)⟩
  have q2' : pi_mu v s' < pi_mu u (x :: s) := q2
  omega
theorem dpickAct_0 : decode cX12_pickAct 0 = .ok (.iload_n 1, 1) := by decide +kernel
theorem dpickAct_1 : decode cX12_pickAct 1 = .ok (.tableswitch 378 31 36 #[39, 131, 228, 245, 245, 346], 39) := by decide +kernel
theorem dpickAct_40 : decode cX12_pickAct 40 = .ok (.aload_n 0, 1) := by decide +kernel
theorem dpickAct_41 : decode cX12_pickAct 41 = .ok (.invokevirtual 869, 3) := by decide +kernel
theorem dpickAct_44 : decode cX12_pickAct 44 = .ok (.ifCond .ne 8, 3) := by decide +kernel
theorem dpickAct_47 : decode cX12_pickAct 47 = .ok (.aload_n 0, 1) := by decide +kernel
theorem dpickAct_48 : decode cX12_pickAct 48 = .ok (.invokevirtual 593, 3) := by decide +kernel
theorem dpickAct_51 : decode cX12_pickAct 51 = .ok (.ireturn, 1) := by decide +kernel
theorem dpickAct_52 : decode cX12_pickAct 52 = .ok (.aload_n 0, 1) := by decide +kernel
theorem dpickAct_53 : decode cX12_pickAct 53 = .ok (.invokevirtual 814, 3) := by decide +kernel
theorem dpickAct_56 : decode cX12_pickAct 56 = .ok (.ifCond .ne 5, 3) := by decide +kernel
theorem dpickAct_59 : decode cX12_pickAct 59 = .ok (.iconst 0, 1) := by decide +kernel
theorem dpickAct_60 : decode cX12_pickAct 60 = .ok (.ireturn, 1) := by decide +kernel
theorem dpickAct_61 : decode cX12_pickAct 61 = .ok (.aload_n 0, 1) := by decide +kernel
theorem dpickAct_62 : decode cX12_pickAct 62 = .ok (.bipush 32, 2) := by decide +kernel
theorem dpickAct_64 : decode cX12_pickAct 64 = .ok (.iload_n 2, 1) := by decide +kernel
theorem dpickAct_65 : decode cX12_pickAct 65 = .ok (.iconst 0, 1) := by decide +kernel
theorem dpickAct_66 : decode cX12_pickAct 66 = .ok (.iconst 0, 1) := by decide +kernel
theorem dpickAct_67 : decode cX12_pickAct 67 = .ok (.invokevirtual 790, 3) := by decide +kernel
theorem dpickAct_70 : decode cX12_pickAct 70 = .ok (.istore_n 3, 1) := by decide +kernel
theorem dpickAct_71 : decode cX12_pickAct 71 = .ok (.aload_n 0, 1) := by decide +kernel
theorem dpickAct_72 : decode cX12_pickAct 72 = .ok (.bipush 28, 2) := by decide +kernel
theorem dpickAct_74 : decode cX12_pickAct 74 = .ok (.invokevirtual 596, 3) := by decide +kernel
theorem dpickAct_77 : decode cX12_pickAct 77 = .ok (.ifCond .eq 50, 3) := by decide +kernel
theorem dpickAct_80 : decode cX12_pickAct 80 = .ok (.aload_n 0, 1) := by decide +kernel
theorem dpickAct_81 : decode cX12_pickAct 81 = .ok (.dup, 1) := by decide +kernel
theorem dpickAct_82 : decode cX12_pickAct 82 = .ok (.getfield 692, 3) := by decide +kernel
theorem dpickAct_85 : decode cX12_pickAct 85 = .ok (.iconst 1, 1) := by decide +kernel
theorem dpickAct_86 : decode cX12_pickAct 86 = .ok (.iadd, 1) := by decide +kernel
theorem dpickAct_87 : decode cX12_pickAct 87 = .ok (.putfield 692, 3) := by decide +kernel
theorem dpickAct_90 : decode cX12_pickAct 90 = .ok (.aload_n 0, 1) := by decide +kernel
theorem dpickAct_91 : decode cX12_pickAct 91 = .ok (.invokevirtual 589, 3) := by decide +kernel
theorem dpickAct_94 : decode cX12_pickAct 94 = .ok (.ifCond .eq 31, 3) := by decide +kernel
theorem dpickAct_97 : decode cX12_pickAct 97 = .ok (.aload_n 0, 1) := by decide +kernel
theorem dpickAct_98 : decode cX12_pickAct 98 = .ok (.bipush 34, 2) := by decide +kernel
theorem dpickAct_100 : decode cX12_pickAct 100 = .ok (.iconst 0, 1) := by decide +kernel
theorem dpickAct_101 : decode cX12_pickAct 101 = .ok (.iconst 0, 1) := by decide +kernel
theorem dpickAct_102 : decode cX12_pickAct 102 = .ok (.iconst 0, 1) := by decide +kernel
theorem dpickAct_103 : decode cX12_pickAct 103 = .ok (.invokevirtual 790, 3) := by decide +kernel
theorem dpickAct_106 : decode cX12_pickAct 106 = .ok (.ifCond .eq 19, 3) := by decide +kernel
theorem dpickAct_109 : decode cX12_pickAct 109 = .ok (.aload_n 0, 1) := by decide +kernel
theorem dpickAct_110 : decode cX12_pickAct 110 = .ok (.bipush 31, 2) := by decide +kernel
theorem dpickAct_112 : decode cX12_pickAct 112 = .ok (.iconst 2, 1) := by decide +kernel
theorem dpickAct_113 : decode cX12_pickAct 113 = .ok (.iconst 0, 1) := by decide +kernel
theorem dpickAct_114 : decode cX12_pickAct 114 = .ok (.iconst 0, 1) := by decide +kernel
theorem dpickAct_115 : decode cX12_pickAct 115 = .ok (.invokevirtual 790, 3) := by decide +kernel
theorem dpickAct_118 : decode cX12_pickAct 118 = .ok (.ifCond .eq 7, 3) := by decide +kernel
theorem dpickAct_121 : decode cX12_pickAct 121 = .ok (.iconst 1, 1) := by decide +kernel
theorem dpickAct_122 : decode cX12_pickAct 122 = .ok (.goto 4, 3) := by decide +kernel
theorem dpickAct_125 : decode cX12_pickAct 125 = .ok (.iconst 0, 1) := by decide +kernel
theorem dpickAct_126 : decode cX12_pickAct 126 = .ok (.ireturn, 1) := by decide +kernel
theorem dpickAct_127 : decode cX12_pickAct 127 = .ok (.aload_n 0, 1) := by decide +kernel
theorem dpickAct_128 : decode cX12_pickAct 128 = .ok (.invokevirtual 872, 3) := by decide +kernel
theorem dpickAct_131 : decode cX12_pickAct 131 = .ok (.ireturn, 1) := by decide +kernel
theorem dpickAct_132 : decode cX12_pickAct 132 = .ok (.aload_n 0, 1) := by decide +kernel
theorem dpickAct_133 : decode cX12_pickAct 133 = .ok (.bipush 30, 2) := by decide +kernel
theorem dpickAct_135 : decode cX12_pickAct 135 = .ok (.invokevirtual 596, 3) := by decide +kernel
theorem dpickAct_138 : decode cX12_pickAct 138 = .ok (.ifCond .eq 7, 3) := by decide +kernel
theorem dpickAct_141 : decode cX12_pickAct 141 = .ok (.iconst 1, 1) := by decide +kernel
theorem dpickAct_142 : decode cX12_pickAct 142 = .ok (.goto 16, 3) := by decide +kernel
theorem dpickAct_145 : decode cX12_pickAct 145 = .ok (.aload_n 0, 1) := by decide +kernel
theorem dpickAct_146 : decode cX12_pickAct 146 = .ok (.iconst 1, 1) := by decide +kernel
theorem dpickAct_147 : decode cX12_pickAct 147 = .ok (.invokevirtual 596, 3) := by decide +kernel
theorem dpickAct_150 : decode cX12_pickAct 150 = .ok (.ifCond .eq 7, 3) := by decide +kernel
theorem dpickAct_153 : decode cX12_pickAct 153 = .ok (.iconst 2, 1) := by decide +kernel
theorem dpickAct_154 : decode cX12_pickAct 154 = .ok (.goto 4, 3) := by decide +kernel
theorem dpickAct_157 : decode cX12_pickAct 157 = .ok (.iconst 0, 1) := by decide +kernel
theorem dpickAct_158 : decode cX12_pickAct 158 = .ok (.istore 4, 2) := by decide +kernel
theorem dpickAct_160 : decode cX12_pickAct 160 = .ok (.iload 4, 2) := by decide +kernel
theorem dpickAct_162 : decode cX12_pickAct 162 = .ok (.iload_n 2, 1) := by decide +kernel
theorem dpickAct_163 : decode cX12_pickAct 163 = .ok (.if_icmp .gt 15, 3) := by decide +kernel
theorem dpickAct_166 : decode cX12_pickAct 166 = .ok (.aload_n 0, 1) := by decide +kernel
theorem dpickAct_167 : decode cX12_pickAct 167 = .ok (.dup, 1) := by decide +kernel
theorem dpickAct_168 : decode cX12_pickAct 168 = .ok (.getfield 614, 3) := by decide +kernel
theorem dpickAct_171 : decode cX12_pickAct 171 = .ok (.iconst 1, 1) := by decide +kernel
theorem dpickAct_172 : decode cX12_pickAct 172 = .ok (.isub, 1) := by decide +kernel
theorem dpickAct_173 : decode cX12_pickAct 173 = .ok (.putfield 614, 3) := by decide +kernel
theorem dpickAct_176 : decode cX12_pickAct 176 = .ok (.iconst 1, 1) := by decide +kernel
theorem dpickAct_177 : decode cX12_pickAct 177 = .ok (.ireturn, 1) := by decide +kernel
theorem dpickAct_178 : decode cX12_pickAct 178 = .ok (.aload_n 0, 1) := by decide +kernel
theorem dpickAct_179 : decode cX12_pickAct 179 = .ok (.invokevirtual 589, 3) := by decide +kernel
theorem dpickAct_182 : decode cX12_pickAct 182 = .ok (.ifCond .eq 45, 3) := by decide +kernel
theorem dpickAct_185 : decode cX12_pickAct 185 = .ok (.aload_n 0, 1) := by decide +kernel
theorem dpickAct_186 : decode cX12_pickAct 186 = .ok (.bipush 32, 2) := by decide +kernel
theorem dpickAct_188 : decode cX12_pickAct 188 = .ok (.iload_n 2, 1) := by decide +kernel
theorem dpickAct_189 : decode cX12_pickAct 189 = .ok (.iconst 0, 1) := by decide +kernel
theorem dpickAct_190 : decode cX12_pickAct 190 = .ok (.iconst 0, 1) := by decide +kernel
theorem dpickAct_191 : decode cX12_pickAct 191 = .ok (.invokevirtual 790, 3) := by decide +kernel
theorem dpickAct_194 : decode cX12_pickAct 194 = .ok (.ifCond .eq 33, 3) := by decide +kernel
theorem dpickAct_197 : decode cX12_pickAct 197 = .ok (.aload_n 0, 1) := by decide +kernel
theorem dpickAct_198 : decode cX12_pickAct 198 = .ok (.bipush 33, 2) := by decide +kernel
theorem dpickAct_200 : decode cX12_pickAct 200 = .ok (.iload 4, 2) := by decide +kernel
theorem dpickAct_202 : decode cX12_pickAct 202 = .ok (.iconst 0, 1) := by decide +kernel
theorem dpickAct_203 : decode cX12_pickAct 203 = .ok (.iconst 0, 1) := by decide +kernel
theorem dpickAct_204 : decode cX12_pickAct 204 = .ok (.invokevirtual 790, 3) := by decide +kernel
theorem dpickAct_207 : decode cX12_pickAct 207 = .ok (.ifCond .eq 20, 3) := by decide +kernel
theorem dpickAct_210 : decode cX12_pickAct 210 = .ok (.aload_n 0, 1) := by decide +kernel
theorem dpickAct_211 : decode cX12_pickAct 211 = .ok (.bipush 31, 2) := by decide +kernel
theorem dpickAct_213 : decode cX12_pickAct 213 = .ok (.iload 4, 2) := by decide +kernel
theorem dpickAct_215 : decode cX12_pickAct 215 = .ok (.iconst 0, 1) := by decide +kernel
theorem dpickAct_216 : decode cX12_pickAct 216 = .ok (.iconst 0, 1) := by decide +kernel
theorem dpickAct_217 : decode cX12_pickAct 217 = .ok (.invokevirtual 790, 3) := by decide +kernel
theorem dpickAct_220 : decode cX12_pickAct 220 = .ok (.ifCond .eq 7, 3) := by decide +kernel
theorem dpickAct_223 : decode cX12_pickAct 223 = .ok (.iconst 1, 1) := by decide +kernel
theorem dpickAct_224 : decode cX12_pickAct 224 = .ok (.goto 4, 3) := by decide +kernel
theorem dpickAct_227 : decode cX12_pickAct 227 = .ok (.iconst 0, 1) := by decide +kernel
theorem dpickAct_228 : decode cX12_pickAct 228 = .ok (.ireturn, 1) := by decide +kernel
theorem dpickAct_229 : decode cX12_pickAct 229 = .ok (.aload_n 0, 1) := by decide +kernel
theorem dpickAct_230 : decode cX12_pickAct 230 = .ok (.iload_n 2, 1) := by decide +kernel
theorem dpickAct_231 : decode cX12_pickAct 231 = .ok (.iconst 1, 1) := by decide +kernel
theorem dpickAct_232 : decode cX12_pickAct 232 = .ok (.if_icmp .ne 8, 3) := by decide +kernel
theorem dpickAct_235 : decode cX12_pickAct 235 = .ok (.bipush 14, 2) := by decide +kernel
theorem dpickAct_237 : decode cX12_pickAct 237 = .ok (.goto 5, 3) := by decide +kernel
theorem dpickAct_240 : decode cX12_pickAct 240 = .ok (.bipush 13, 2) := by decide +kernel
theorem dpickAct_242 : decode cX12_pickAct 242 = .ok (.invokevirtual 875, 3) := by decide +kernel
theorem dpickAct_245 : decode cX12_pickAct 245 = .ok (.ireturn, 1) := by decide +kernel
theorem dpickAct_246 : decode cX12_pickAct 246 = .ok (.aload_n 0, 1) := by decide +kernel
theorem dpickAct_247 : decode cX12_pickAct 247 = .ok (.dup, 1) := by decide +kernel
theorem dpickAct_248 : decode cX12_pickAct 248 = .ok (.getfield 692, 3) := by decide +kernel
theorem dpickAct_251 : decode cX12_pickAct 251 = .ok (.iconst 1, 1) := by decide +kernel
theorem dpickAct_252 : decode cX12_pickAct 252 = .ok (.isub, 1) := by decide +kernel
theorem dpickAct_253 : decode cX12_pickAct 253 = .ok (.putfield 692, 3) := by decide +kernel
theorem dpickAct_256 : decode cX12_pickAct 256 = .ok (.aload_n 0, 1) := by decide +kernel
theorem dpickAct_257 : decode cX12_pickAct 257 = .ok (.iload_n 1, 1) := by decide +kernel
theorem dpickAct_258 : decode cX12_pickAct 258 = .ok (.bipush 35, 2) := by decide +kernel
theorem dpickAct_260 : decode cX12_pickAct 260 = .ok (.if_icmp .ne 12, 3) := by decide +kernel
theorem dpickAct_263 : decode cX12_pickAct 263 = .ok (.aload_n 0, 1) := by decide +kernel
theorem dpickAct_264 : decode cX12_pickAct 264 = .ok (.getfield 701, 3) := by decide +kernel
theorem dpickAct_267 : decode cX12_pickAct 267 = .ok (.iconst 1, 1) := by decide +kernel
theorem dpickAct_268 : decode cX12_pickAct 268 = .ok (.isub, 1) := by decide +kernel
theorem dpickAct_269 : decode cX12_pickAct 269 = .ok (.goto 7, 3) := by decide +kernel
theorem dpickAct_272 : decode cX12_pickAct 272 = .ok (.aload_n 0, 1) := by decide +kernel
theorem dpickAct_273 : decode cX12_pickAct 273 = .ok (.getfield 701, 3) := by decide +kernel
theorem dpickAct_276 : decode cX12_pickAct 276 = .ok (.putfield 701, 3) := by decide +kernel
theorem dpickAct_279 : decode cX12_pickAct 279 = .ok (.aload_n 0, 1) := by decide +kernel
theorem dpickAct_280 : decode cX12_pickAct 280 = .ok (.getfield 218, 3) := by decide +kernel
theorem dpickAct_283 : decode cX12_pickAct 283 = .ok (.aload_n 0, 1) := by decide +kernel
theorem dpickAct_284 : decode cX12_pickAct 284 = .ok (.getfield 689, 3) := by decide +kernel
theorem dpickAct_287 : decode cX12_pickAct 287 = .ok (.iconst 1, 1) := by decide +kernel
theorem dpickAct_288 : decode cX12_pickAct 288 = .ok (.isub, 1) := by decide +kernel
theorem dpickAct_289 : decode cX12_pickAct 289 = .ok (.iaload, 1) := by decide +kernel
theorem dpickAct_290 : decode cX12_pickAct 290 = .ok (.istore 5, 2) := by decide +kernel
theorem dpickAct_292 : decode cX12_pickAct 292 = .ok (.aload_n 0, 1) := by decide +kernel
theorem dpickAct_293 : decode cX12_pickAct 293 = .ok (.iload_n 1, 1) := by decide +kernel
theorem dpickAct_294 : decode cX12_pickAct 294 = .ok (.bipush 34, 2) := by decide +kernel
theorem dpickAct_296 : decode cX12_pickAct 296 = .ok (.if_icmp .ne 8, 3) := by decide +kernel
theorem dpickAct_299 : decode cX12_pickAct 299 = .ok (.bipush 15, 2) := by decide +kernel
theorem dpickAct_301 : decode cX12_pickAct 301 = .ok (.goto 5, 3) := by decide +kernel
theorem dpickAct_304 : decode cX12_pickAct 304 = .ok (.bipush 11, 2) := by decide +kernel
theorem dpickAct_306 : decode cX12_pickAct 306 = .ok (.iload 5, 2) := by decide +kernel
theorem dpickAct_308 : decode cX12_pickAct 308 = .ok (.iconst 0, 1) := by decide +kernel
theorem dpickAct_309 : decode cX12_pickAct 309 = .ok (.aload_n 0, 1) := by decide +kernel
theorem dpickAct_310 : decode cX12_pickAct 310 = .ok (.getfield 574, 3) := by decide +kernel
theorem dpickAct_313 : decode cX12_pickAct 313 = .ok (.invokevirtual 878, 3) := by decide +kernel
theorem dpickAct_316 : decode cX12_pickAct 316 = .ok (.istore 6, 2) := by decide +kernel
theorem dpickAct_318 : decode cX12_pickAct 318 = .ok (.aload_n 0, 1) := by decide +kernel
theorem dpickAct_319 : decode cX12_pickAct 319 = .ok (.getfield 206, 3) := by decide +kernel
theorem dpickAct_322 : decode cX12_pickAct 322 = .ok (.iload 6, 2) := by decide +kernel
theorem dpickAct_324 : decode cX12_pickAct 324 = .ok (.aload_n 0, 1) := by decide +kernel
theorem dpickAct_325 : decode cX12_pickAct 325 = .ok (.getfield 206, 3) := by decide +kernel
theorem dpickAct_328 : decode cX12_pickAct 328 = .ok (.iload 5, 2) := by decide +kernel
theorem dpickAct_330 : decode cX12_pickAct 330 = .ok (.baload, 1) := by decide +kernel
theorem dpickAct_331 : decode cX12_pickAct 331 = .ok (.bastore, 1) := by decide +kernel
theorem dpickAct_332 : decode cX12_pickAct 332 = .ok (.aload_n 0, 1) := by decide +kernel
theorem dpickAct_333 : decode cX12_pickAct 333 = .ok (.getfield 218, 3) := by decide +kernel
theorem dpickAct_336 : decode cX12_pickAct 336 = .ok (.aload_n 0, 1) := by decide +kernel
theorem dpickAct_337 : decode cX12_pickAct 337 = .ok (.getfield 689, 3) := by decide +kernel
theorem dpickAct_340 : decode cX12_pickAct 340 = .ok (.iconst 1, 1) := by decide +kernel
theorem dpickAct_341 : decode cX12_pickAct 341 = .ok (.isub, 1) := by decide +kernel
theorem dpickAct_342 : decode cX12_pickAct 342 = .ok (.iload 6, 2) := by decide +kernel
theorem dpickAct_344 : decode cX12_pickAct 344 = .ok (.iastore, 1) := by decide +kernel
theorem dpickAct_345 : decode cX12_pickAct 345 = .ok (.iconst 1, 1) := by decide +kernel
theorem dpickAct_346 : decode cX12_pickAct 346 = .ok (.ireturn, 1) := by decide +kernel
theorem dpickAct_347 : decode cX12_pickAct 347 = .ok (.aload_n 0, 1) := by decide +kernel
theorem dpickAct_348 : decode cX12_pickAct 348 = .ok (.iconst 0, 1) := by decide +kernel
theorem dpickAct_349 : decode cX12_pickAct 349 = .ok (.putfield 698, 3) := by decide +kernel
theorem dpickAct_352 : decode cX12_pickAct 352 = .ok (.aload_n 0, 1) := by decide +kernel
theorem dpickAct_353 : decode cX12_pickAct 353 = .ok (.bipush 26, 2) := by decide +kernel
theorem dpickAct_355 : decode cX12_pickAct 355 = .ok (.iconst 0, 1) := by decide +kernel
theorem dpickAct_356 : decode cX12_pickAct 356 = .ok (.iconst 0, 1) := by decide +kernel
theorem dpickAct_357 : decode cX12_pickAct 357 = .ok (.invokevirtual 732, 3) := by decide +kernel
theorem dpickAct_360 : decode cX12_pickAct 360 = .ok (.istore 7, 2) := by decide +kernel
theorem dpickAct_362 : decode cX12_pickAct 362 = .ok (.aload_n 0, 1) := by decide +kernel
theorem dpickAct_363 : decode cX12_pickAct 363 = .ok (.aload_n 0, 1) := by decide +kernel
theorem dpickAct_364 : decode cX12_pickAct 364 = .ok (.bipush 10, 2) := by decide +kernel
theorem dpickAct_366 : decode cX12_pickAct 366 = .ok (.iload_n 2, 1) := by decide +kernel
theorem dpickAct_367 : decode cX12_pickAct 367 = .ok (.iconst 0, 1) := by decide +kernel
theorem dpickAct_368 : decode cX12_pickAct 368 = .ok (.aload_n 0, 1) := by decide +kernel
theorem dpickAct_369 : decode cX12_pickAct 369 = .ok (.getfield 574, 3) := by decide +kernel
theorem dpickAct_372 : decode cX12_pickAct 372 = .ok (.invokevirtual 878, 3) := by decide +kernel
theorem dpickAct_375 : decode cX12_pickAct 375 = .ok (.invokevirtual 882, 3) := by decide +kernel
theorem dpickAct_378 : decode cX12_pickAct 378 = .ok (.ireturn, 1) := by decide +kernel
theorem dpickAct_379 : decode cX12_pickAct 379 = .ok (.aload_n 0, 1) := by decide +kernel
theorem dpickAct_380 : decode cX12_pickAct 380 = .ok (.iload_n 2, 1) := by decide +kernel
theorem dpickAct_381 : decode cX12_pickAct 381 = .ok (.invokevirtual 742, 3) := by decide +kernel
theorem dpickAct_384 : decode cX12_pickAct 384 = .ok (.ireturn, 1) := by decide +kernel
section
variable {l : Launch} {D : va_G} {cA : Nat → ClassId} {ad : Nat → Nat}
theorem s_pickAct {a1 a2 : Int} {R r ph q0 b : Int} {tf : mo_TF} {s : List mo_A} {ht st rg : Nat → Int} {tu : Int} {h : ja_H} {Q : Option ja_V → ja_H → Prop} (g : mo_G Zz h) (r1 : -2147483648 ≤ a1 ∧ a1 ≤ 2147483647) (r2 : -2147483648 ≤ a2 ∧ a2 ≤ 2147483647) (p1 : pk_S h (h 0 17).toNat s) (p2 : piB h R r ph tf q0 ((a1, a2, b) :: s) ht st rg tu) (p3 : tf_ok ph tf) (p4 : 31 ≤ a1 ∧ a1 ≤ 37) (k1 : ∀ (h' : ja_H), (pi_done h h' R r ph tf q0 (pi_mu h ((a1, a2, b) :: s))) → mo_G Zz h' → Q (some (0, 1)) h') (k2 : ∀ (h' : ja_H), (0 < (h' 0 8) ∧ (h' 0 1) = (h 0 1) ∧ (h' 0 118) = (h 0 118) ∧ (h' 0 127) = (h 0 127)) → mo_G Zz h' → Q (some (0, 0)) h') : mM_pickAct l D cA ad a1 a2 h Q := by
  show mJ l D cA ad 6 cX12_pickAct 8 (some .boolean) 0 [(0, (2, ((0 : Nat) : Int))), (1, (0, a1)), (2, (0, a2))] [] h Q
  have kn_at := gF_at g
  have kn_wTop := gF_wTop g
  have kn_words := gF_words g
  have kn_nest := gF_nest g
  have kn_nodes := gF_nodes g
  have kn_wants := gF_wants g
  have kn_uses := gF_uses g
  have kn_treeTop := gF_treeTop g
  have kn_quiet := gF_quiet g
  have kn_inFlow := gF_inFlow g
  have kn_false1 := gF_false1 g
  have kn_inPick := gF_inPick g
  have kn_inIf := gF_inIf g
  have hN := piB_num g p1 p2
  obtain ⟨N1, N2, N3, N4, N5, N6, N7, N8, N9, N10, N11, N12, N13, ⟨NK1, NK2⟩, ND1, ND2, ND3, NU1, NU2⟩ := hN
  have hqf := bs_q p2 N12 N13
  have hact : 1 ≤ a1 ∧ a1 ≤ 38 ∧ a1 ≠ 13 ∧ a1 ≠ 29 := bs_act p2
  refine ja_iload_n dpickAct_0 rfl rfl ?_
  have T1_40 : (a1 = 31) → mJ l D cA ad 6 cX12_pickAct 8 (some .boolean) 40 [(0, (2, ((0 : Nat) : Int))), (1, (0, a1)), (2, (0, a2))] [] h Q := by
    intro e1
    refine ja_aload_n dpickAct_40 rfl rfl ?_
    refine t_beginsPick (by decide) (show (0 : Nat) ≤ 8 by decide) dpickAct_41 g  ?_
    intro w1 k41_0
    refine ja_if_ne 52 dpickAct_44 rfl ⟨by omega, by omega⟩ (fun c44 => ?_) (fun c44 => ?_)
    · refine ja_aload_n dpickAct_52 rfl rfl ?_
      refine t_enter (by decide) (show (0 : Nat) ≤ 8 by decide) dpickAct_53 g  ?_ ?_
      · intro k53_0 g2
        replace k53_0 : (h 0 18) < 16 := k53_0
        replace g2 : mo_G Zz (ja_up h 0 18 ((h 0 18) + 1)) := g2
        show mJ l D cA ad 6 cX12_pickAct 8 (some .boolean) 56 [(0, (2, ((0 : Nat) : Int))), (1, (0, a1)), (2, (0, a2))] [(0, 1)] (ja_up h 0 18 ((h 0 18) + 1)) Q
        refine ja_if_ne 61 dpickAct_56 rfl ⟨by decide, by decide⟩ (fun c56 => ?_) (fun c56 => absurd c56 (by omega))
        refine ja_aload_n dpickAct_61 rfl rfl ?_
        refine ja_bipush 32 dpickAct_62 rfl ?_
        refine ja_iload_n dpickAct_64 rfl rfl ?_
        refine ja_iconst dpickAct_65 ?_
        refine ja_iconst dpickAct_66 ?_
        refine t_later (by decide) (show (0 : Nat) ≤ 8 by decide) dpickAct_67 g2 ⟨by decide, by decide⟩ ⟨by omega, by omega⟩ ⟨by decide, by decide⟩ ⟨by decide, by decide⟩ (show 0 ≤ 32 ∧ 32 ≤ 38 by omega) (show (h 0 17) < 2000 by omega) ?_
        intro g3
        replace g3 : mo_G Zz (ja_up (ja_up (ja_up (ja_up (ja_up (ja_up h 0 18 ((h 0 18) + 1)) 6 ((h 0 17).toNat) 32) 7 ((h 0 17).toNat) a2) 8 ((h 0 17).toNat) 0) 9 ((h 0 17).toNat) 0) 0 17 ((h 0 17) + 1)) := g3
        show mJ l D cA ad 6 cX12_pickAct 8 (some .boolean) 70 [(0, (2, ((0 : Nat) : Int))), (1, (0, a1)), (2, (0, a2))] [(0, 1)] (ja_up (ja_up (ja_up (ja_up (ja_up (ja_up h 0 18 ((h 0 18) + 1)) 6 ((h 0 17).toNat) 32) 7 ((h 0 17).toNat) a2) 8 ((h 0 17).toNat) 0) 9 ((h 0 17).toNat) 0) 0 17 ((h 0 17) + 1)) Q
        refine ja_istore_n dpickAct_70 rfl (by decide) (L2 := [(3, (0, 1)), (0, (2, ((0 : Nat) : Int))), (1, (0, a1)), (2, (0, a2))]) rfl ?_
        refine ja_aload_n dpickAct_71 rfl rfl ?_
        refine ja_bipush 28 dpickAct_72 rfl ?_
        refine t_isWord (by decide) (show (0 : Nat) ≤ 8 by decide) dpickAct_74 g3 ⟨by decide, by decide⟩ ?_
        intro w4 k74_0
        replace k74_0 : (w4 = 1 ∧ (h 2 (h 0 7).toNat) = 1 ∧ (h 5 (h 0 7).toNat) = 28) ∨ (w4 = 0 ∧ ¬ ((h 2 (h 0 7).toNat) = 1 ∧ (h 5 (h 0 7).toNat) = 28)) := k74_0
        refine ja_if_eq 127 dpickAct_77 rfl ⟨by omega, by omega⟩ (fun c77 => ?_) (fun c77 => ?_)
        · replace k74_0 := is0 k74_0 c77
          refine ja_aload_n dpickAct_127 rfl rfl ?_
          refine t_single (by decide) (show (0 : Nat) ≤ 8 by decide) dpickAct_128 g3 (pk_S_L (show (0 : Int) ≤ (h 0 17) by omega) (pk_S_ag (ag_up rfl ag_refl) p1)) ((by have e : a1 = 31 := (by first | exact e1 | exact e37 | omega); (subst e; exact bs_p g p2))) ((by have e : a1 = 31 := (by first | exact e1 | exact e37 | omega); (subst e; exact bs_plen p2))) (p3) (show (h 0 85) = 0 ∨ ¬ ((h 2 (h 0 7).toNat) = 2) by omega) ?_ ?_
          · intro h5 k128_0 g6
            refine ja_zreturn dpickAct_131 rfl (by omega) ?_
            exact mo_fin (by omega) rfl (k1 h5 ((by have e : a1 = 31 := (by first | exact e1 | exact e37 | omega); (subst e; exact (pi_done_31 k128_0)))) g6)
          · intro h7 k128_1 g8
            replace k128_1 : 0 < (h7 0 8) ∧ (h7 0 1) = (h 0 1) ∧ (h7 0 118) = (h 0 118) ∧ (h7 0 127) = (h 0 127) := k128_1
            refine ja_zreturn dpickAct_131 rfl (by omega) ?_
            exact mo_fin (by omega) rfl (k2 h7 (by omega) g8)
        · have z77 := is1v k74_0 c77
          replace k74_0 := is1 k74_0 c77
          refine ja_aload_n dpickAct_80 rfl rfl ?_
          refine ja_dup dpickAct_81 (by decide) ?_
          refine fg_quiet (v := h 0 84) rfl dpickAct_82 ?_
          have f9 := gF_quiet g
          refine ja_iconst dpickAct_85 ?_
          refine ja_iadd dpickAct_86 ?_
          have g10 := gP_quiet g3 (x := (h 0 84) + 1) ⟨by omega, by omega⟩
          refine fp_quiet dpickAct_87 ?_
          refine ja_aload_n dpickAct_90 rfl rfl ?_
          refine t_take (by decide) (show (0 : Nat) ≤ 8 by decide) dpickAct_91 g10  ?_ ?_
          · intro k91_0 g11
            replace k91_0 : (h 0 7) < 900 := k91_0
            replace g11 : mo_G Zz (ja_up (ja_up (ja_up (ja_up (ja_up (ja_up (ja_up (ja_up h 0 18 ((h 0 18) + 1)) 6 ((h 0 17).toNat) 32) 7 ((h 0 17).toNat) a2) 8 ((h 0 17).toNat) 0) 9 ((h 0 17).toNat) 0) 0 17 ((h 0 17) + 1)) 0 84 ((h 0 84) + 1)) 0 7 ((h 0 7) + 1)) := g11
            show mJ l D cA ad 6 cX12_pickAct 8 (some .boolean) 94 [(3, (0, 1)), (0, (2, ((0 : Nat) : Int))), (1, (0, a1)), (2, (0, a2))] [(0, 1)] (ja_up (ja_up (ja_up (ja_up (ja_up (ja_up (ja_up (ja_up h 0 18 ((h 0 18) + 1)) 6 ((h 0 17).toNat) 32) 7 ((h 0 17).toNat) a2) 8 ((h 0 17).toNat) 0) 9 ((h 0 17).toNat) 0) 0 17 ((h 0 17) + 1)) 0 84 ((h 0 84) + 1)) 0 7 ((h 0 7) + 1)) Q
            refine ja_if_eq 125 dpickAct_94 rfl ⟨by decide, by decide⟩ (fun c94 => absurd c94 (by omega)) (fun c94 => ?_)
            refine ja_aload_n dpickAct_97 rfl rfl ?_
            refine ja_bipush 34 dpickAct_98 rfl ?_
            refine ja_iconst dpickAct_100 ?_
            refine ja_iconst dpickAct_101 ?_
            refine ja_iconst dpickAct_102 ?_
            refine t_later (by decide) (show (0 : Nat) ≤ 8 by decide) dpickAct_103 g11 ⟨by decide, by decide⟩ ⟨by decide, by decide⟩ ⟨by decide, by decide⟩ ⟨by decide, by decide⟩ (show 0 ≤ 34 ∧ 34 ≤ 38 by omega) (show ((h 0 17) + 1) < 2000 by omega) ?_
            intro g12
            replace g12 : mo_G Zz (ja_up (ja_up (ja_up (ja_up (ja_up (ja_up (ja_up (ja_up (ja_up (ja_up (ja_up (ja_up (ja_up h 0 18 ((h 0 18) + 1)) 6 ((h 0 17).toNat) 32) 7 ((h 0 17).toNat) a2) 8 ((h 0 17).toNat) 0) 9 ((h 0 17).toNat) 0) 0 17 ((h 0 17) + 1)) 0 84 ((h 0 84) + 1)) 0 7 ((h 0 7) + 1)) 6 (((h 0 17) + 1).toNat) 34) 7 (((h 0 17) + 1).toNat) 0) 8 (((h 0 17) + 1).toNat) 0) 9 (((h 0 17) + 1).toNat) 0) 0 17 (((h 0 17) + 1) + 1)) := g12
            show mJ l D cA ad 6 cX12_pickAct 8 (some .boolean) 106 [(3, (0, 1)), (0, (2, ((0 : Nat) : Int))), (1, (0, a1)), (2, (0, a2))] [(0, 1)] (ja_up (ja_up (ja_up (ja_up (ja_up (ja_up (ja_up (ja_up (ja_up (ja_up (ja_up (ja_up (ja_up h 0 18 ((h 0 18) + 1)) 6 ((h 0 17).toNat) 32) 7 ((h 0 17).toNat) a2) 8 ((h 0 17).toNat) 0) 9 ((h 0 17).toNat) 0) 0 17 ((h 0 17) + 1)) 0 84 ((h 0 84) + 1)) 0 7 ((h 0 7) + 1)) 6 (((h 0 17) + 1).toNat) 34) 7 (((h 0 17) + 1).toNat) 0) 8 (((h 0 17) + 1).toNat) 0) 9 (((h 0 17) + 1).toNat) 0) 0 17 (((h 0 17) + 1) + 1)) Q
            refine ja_if_eq 125 dpickAct_106 rfl ⟨by decide, by decide⟩ (fun c106 => absurd c106 (by omega)) (fun c106 => ?_)
            refine ja_aload_n dpickAct_109 rfl rfl ?_
            refine ja_bipush 31 dpickAct_110 rfl ?_
            refine ja_iconst dpickAct_112 ?_
            refine ja_iconst dpickAct_113 ?_
            refine ja_iconst dpickAct_114 ?_
            refine t_later (by decide) (show (0 : Nat) ≤ 8 by decide) dpickAct_115 g12 ⟨by decide, by decide⟩ ⟨by decide, by decide⟩ ⟨by decide, by decide⟩ ⟨by decide, by decide⟩ (show 0 ≤ 31 ∧ 31 ≤ 38 by omega) (show (((h 0 17) + 1) + 1) < 2000 by omega) ?_
            intro g13
            replace g13 : mo_G Zz (ja_up (ja_up (ja_up (ja_up (ja_up (ja_up (ja_up (ja_up (ja_up (ja_up (ja_up (ja_up (ja_up (ja_up (ja_up (ja_up (ja_up (ja_up h 0 18 ((h 0 18) + 1)) 6 ((h 0 17).toNat) 32) 7 ((h 0 17).toNat) a2) 8 ((h 0 17).toNat) 0) 9 ((h 0 17).toNat) 0) 0 17 ((h 0 17) + 1)) 0 84 ((h 0 84) + 1)) 0 7 ((h 0 7) + 1)) 6 (((h 0 17) + 1).toNat) 34) 7 (((h 0 17) + 1).toNat) 0) 8 (((h 0 17) + 1).toNat) 0) 9 (((h 0 17) + 1).toNat) 0) 0 17 (((h 0 17) + 1) + 1)) 6 ((((h 0 17) + 1) + 1).toNat) 31) 7 ((((h 0 17) + 1) + 1).toNat) 2) 8 ((((h 0 17) + 1) + 1).toNat) 0) 9 ((((h 0 17) + 1) + 1).toNat) 0) 0 17 ((((h 0 17) + 1) + 1) + 1)) := g13
            show mJ l D cA ad 6 cX12_pickAct 8 (some .boolean) 118 [(3, (0, 1)), (0, (2, ((0 : Nat) : Int))), (1, (0, a1)), (2, (0, a2))] [(0, 1)] (ja_up (ja_up (ja_up (ja_up (ja_up (ja_up (ja_up (ja_up (ja_up (ja_up (ja_up (ja_up (ja_up (ja_up (ja_up (ja_up (ja_up (ja_up h 0 18 ((h 0 18) + 1)) 6 ((h 0 17).toNat) 32) 7 ((h 0 17).toNat) a2) 8 ((h 0 17).toNat) 0) 9 ((h 0 17).toNat) 0) 0 17 ((h 0 17) + 1)) 0 84 ((h 0 84) + 1)) 0 7 ((h 0 7) + 1)) 6 (((h 0 17) + 1).toNat) 34) 7 (((h 0 17) + 1).toNat) 0) 8 (((h 0 17) + 1).toNat) 0) 9 (((h 0 17) + 1).toNat) 0) 0 17 (((h 0 17) + 1) + 1)) 6 ((((h 0 17) + 1) + 1).toNat) 31) 7 ((((h 0 17) + 1) + 1).toNat) 2) 8 ((((h 0 17) + 1) + 1).toNat) 0) 9 ((((h 0 17) + 1) + 1).toNat) 0) 0 17 ((((h 0 17) + 1) + 1) + 1)) Q
            refine ja_if_eq 125 dpickAct_118 rfl ⟨by decide, by decide⟩ (fun c118 => absurd c118 (by omega)) (fun c118 => ?_)
            refine ja_iconst dpickAct_121 ?_
            refine ja_goto 126 dpickAct_122 rfl ?_
            refine ja_zreturn dpickAct_126 rfl (by omega) ?_
            exact mo_fin (by omega) rfl (k1 (ja_up (ja_up (ja_up (ja_up (ja_up (ja_up (ja_up (ja_up (ja_up (ja_up (ja_up (ja_up (ja_up (ja_up (ja_up (ja_up (ja_up (ja_up h 0 18 ((h 0 18) + 1)) 6 ((h 0 17).toNat) 32) 7 ((h 0 17).toNat) a2) 8 ((h 0 17).toNat) 0) 9 ((h 0 17).toNat) 0) 0 17 ((h 0 17) + 1)) 0 84 ((h 0 84) + 1)) 0 7 ((h 0 7) + 1)) 6 (((h 0 17) + 1).toNat) 34) 7 (((h 0 17) + 1).toNat) 0) 8 (((h 0 17) + 1).toNat) 0) 9 (((h 0 17) + 1).toNat) 0) 0 17 (((h 0 17) + 1) + 1)) 6 ((((h 0 17) + 1) + 1).toNat) 31) 7 ((((h 0 17) + 1) + 1).toNat) 2) 8 ((((h 0 17) + 1) + 1).toNat) 0) 9 ((((h 0 17) + 1) + 1).toNat) 0) 0 17 ((((h 0 17) + 1) + 1) + 1)) ((by have e : a1 = 31 := (by first | exact e1 | exact e37 | omega); (subst e; exact ab_p_not g p1 p2))) g13)
          · intro h14 k91_1 g15
            replace k91_1 : 0 < (h14 0 8) ∧ (h14 0 1) = (h 0 1) ∧ (h14 0 118) = (h 0 118) ∧ (h14 0 127) = (h 0 127) := k91_1
            refine ja_if_eq 125 dpickAct_94 rfl ⟨by decide, by decide⟩ (fun c94 => ?_) (fun c94 => absurd c94 (by omega))
            refine ja_iconst dpickAct_125 ?_
            refine ja_zreturn dpickAct_126 rfl (by omega) ?_
            exact mo_fin (by omega) rfl (k2 h14 (by omega) g15)
      · intro h16 k53_1 g17
        refine ja_if_ne 61 dpickAct_56 rfl ⟨by decide, by decide⟩ (fun c56 => absurd c56 (by omega)) (fun c56 => ?_)
        refine ja_iconst dpickAct_59 ?_
        refine ja_zreturn dpickAct_60 rfl (by omega) ?_
        exact mo_fin (by omega) rfl (k2 h16 (by omega) g17)
    · refine ja_aload_n dpickAct_47 rfl rfl ?_
      refine t_wrong (by decide) (show (0 : Nat) ≤ 8 by decide) dpickAct_48 g  ?_
      intro h18 k48_0 g19
      refine ja_zreturn dpickAct_51 rfl (by omega) ?_
      exact mo_fin (by omega) rfl (k2 h18 (by omega) g19)
  have T1_132 : (a1 = 32) → mJ l D cA ad 6 cX12_pickAct 8 (some .boolean) 132 [(0, (2, ((0 : Nat) : Int))), (1, (0, a1)), (2, (0, a2))] [] h Q := by
    intro e1
    have hn1 : (h 0 18) = 1 + pk_sum pk_c s := (by have e := e1; subst e; exact p2.1.1)
    refine ja_aload_n dpickAct_132 rfl rfl ?_
    refine ja_bipush 30 dpickAct_133 rfl ?_
    refine t_isWord (by decide) (show (0 : Nat) ≤ 8 by decide) dpickAct_135 g ⟨by decide, by decide⟩ ?_
    intro w20 k135_0
    refine ja_if_eq 145 dpickAct_138 rfl ⟨by omega, by omega⟩ (fun c138 => ?_) (fun c138 => ?_)
    · replace k135_0 := is0 k135_0 c138
      refine ja_aload_n dpickAct_145 rfl rfl ?_
      refine ja_iconst dpickAct_146 ?_
      refine t_isWord (by decide) (show (0 : Nat) ≤ 8 by decide) dpickAct_147 g ⟨by decide, by decide⟩ ?_
      intro w21 k147_0
      refine ja_if_eq 157 dpickAct_150 rfl ⟨by omega, by omega⟩ (fun c150 => ?_) (fun c150 => ?_)
      · replace k147_0 := is0 k147_0 c150
        refine ja_iconst dpickAct_157 ?_
        refine ja_istore dpickAct_158 (by decide) (L2 := [(4, (0, 0)), (0, (2, ((0 : Nat) : Int))), (1, (0, a1)), (2, (0, a2))]) rfl ?_
        refine ja_iload dpickAct_160 rfl ?_
        refine ja_iload_n dpickAct_162 rfl rfl ?_
        refine ja_icmp_gt 178 dpickAct_163 rfl ⟨by decide, by decide⟩ ⟨by omega, by omega⟩ (fun c163 => ?_) (fun c163 => ?_)
        · refine ja_aload_n dpickAct_178 rfl rfl ?_
          refine t_take (by decide) (show (0 : Nat) ≤ 8 by decide) dpickAct_179 g  ?_ ?_
          · intro k179_0 g22
            replace k179_0 : (h 0 7) < 900 := k179_0
            replace g22 : mo_G Zz (ja_up h 0 7 ((h 0 7) + 1)) := g22
            show mJ l D cA ad 6 cX12_pickAct 8 (some .boolean) 182 [(4, (0, 0)), (0, (2, ((0 : Nat) : Int))), (1, (0, a1)), (2, (0, a2))] [(0, 1)] (ja_up h 0 7 ((h 0 7) + 1)) Q
            refine ja_if_eq 227 dpickAct_182 rfl ⟨by decide, by decide⟩ (fun c182 => absurd c182 (by omega)) (fun c182 => ?_)
            refine ja_aload_n dpickAct_185 rfl rfl ?_
            refine ja_bipush 32 dpickAct_186 rfl ?_
            refine ja_iload_n dpickAct_188 rfl rfl ?_
            refine ja_iconst dpickAct_189 ?_
            refine ja_iconst dpickAct_190 ?_
            refine t_later (by decide) (show (0 : Nat) ≤ 8 by decide) dpickAct_191 g22 ⟨by decide, by decide⟩ ⟨by omega, by omega⟩ ⟨by decide, by decide⟩ ⟨by decide, by decide⟩ (show 0 ≤ 32 ∧ 32 ≤ 38 by omega) (show (h 0 17) < 2000 by omega) ?_
            intro g23
            replace g23 : mo_G Zz (ja_up (ja_up (ja_up (ja_up (ja_up (ja_up h 0 7 ((h 0 7) + 1)) 6 ((h 0 17).toNat) 32) 7 ((h 0 17).toNat) a2) 8 ((h 0 17).toNat) 0) 9 ((h 0 17).toNat) 0) 0 17 ((h 0 17) + 1)) := g23
            show mJ l D cA ad 6 cX12_pickAct 8 (some .boolean) 194 [(4, (0, 0)), (0, (2, ((0 : Nat) : Int))), (1, (0, a1)), (2, (0, a2))] [(0, 1)] (ja_up (ja_up (ja_up (ja_up (ja_up (ja_up h 0 7 ((h 0 7) + 1)) 6 ((h 0 17).toNat) 32) 7 ((h 0 17).toNat) a2) 8 ((h 0 17).toNat) 0) 9 ((h 0 17).toNat) 0) 0 17 ((h 0 17) + 1)) Q
            refine ja_if_eq 227 dpickAct_194 rfl ⟨by decide, by decide⟩ (fun c194 => absurd c194 (by omega)) (fun c194 => ?_)
            refine ja_aload_n dpickAct_197 rfl rfl ?_
            refine ja_bipush 33 dpickAct_198 rfl ?_
            refine ja_iload dpickAct_200 rfl ?_
            refine ja_iconst dpickAct_202 ?_
            refine ja_iconst dpickAct_203 ?_
            refine t_later (by decide) (show (0 : Nat) ≤ 8 by decide) dpickAct_204 g23 ⟨by decide, by decide⟩ ⟨by decide, by decide⟩ ⟨by decide, by decide⟩ ⟨by decide, by decide⟩ (show 0 ≤ 33 ∧ 33 ≤ 38 by omega) (show ((h 0 17) + 1) < 2000 by omega) ?_
            intro g24
            replace g24 : mo_G Zz (ja_up (ja_up (ja_up (ja_up (ja_up (ja_up (ja_up (ja_up (ja_up (ja_up (ja_up h 0 7 ((h 0 7) + 1)) 6 ((h 0 17).toNat) 32) 7 ((h 0 17).toNat) a2) 8 ((h 0 17).toNat) 0) 9 ((h 0 17).toNat) 0) 0 17 ((h 0 17) + 1)) 6 (((h 0 17) + 1).toNat) 33) 7 (((h 0 17) + 1).toNat) 0) 8 (((h 0 17) + 1).toNat) 0) 9 (((h 0 17) + 1).toNat) 0) 0 17 (((h 0 17) + 1) + 1)) := g24
            show mJ l D cA ad 6 cX12_pickAct 8 (some .boolean) 207 [(4, (0, 0)), (0, (2, ((0 : Nat) : Int))), (1, (0, a1)), (2, (0, a2))] [(0, 1)] (ja_up (ja_up (ja_up (ja_up (ja_up (ja_up (ja_up (ja_up (ja_up (ja_up (ja_up h 0 7 ((h 0 7) + 1)) 6 ((h 0 17).toNat) 32) 7 ((h 0 17).toNat) a2) 8 ((h 0 17).toNat) 0) 9 ((h 0 17).toNat) 0) 0 17 ((h 0 17) + 1)) 6 (((h 0 17) + 1).toNat) 33) 7 (((h 0 17) + 1).toNat) 0) 8 (((h 0 17) + 1).toNat) 0) 9 (((h 0 17) + 1).toNat) 0) 0 17 (((h 0 17) + 1) + 1)) Q
            refine ja_if_eq 227 dpickAct_207 rfl ⟨by decide, by decide⟩ (fun c207 => absurd c207 (by omega)) (fun c207 => ?_)
            refine ja_aload_n dpickAct_210 rfl rfl ?_
            refine ja_bipush 31 dpickAct_211 rfl ?_
            refine ja_iload dpickAct_213 rfl ?_
            refine ja_iconst dpickAct_215 ?_
            refine ja_iconst dpickAct_216 ?_
            refine t_later (by decide) (show (0 : Nat) ≤ 8 by decide) dpickAct_217 g24 ⟨by decide, by decide⟩ ⟨by decide, by decide⟩ ⟨by decide, by decide⟩ ⟨by decide, by decide⟩ (show 0 ≤ 31 ∧ 31 ≤ 38 by omega) (show (((h 0 17) + 1) + 1) < 2000 by omega) ?_
            intro g25
            replace g25 : mo_G Zz (ja_up (ja_up (ja_up (ja_up (ja_up (ja_up (ja_up (ja_up (ja_up (ja_up (ja_up (ja_up (ja_up (ja_up (ja_up (ja_up h 0 7 ((h 0 7) + 1)) 6 ((h 0 17).toNat) 32) 7 ((h 0 17).toNat) a2) 8 ((h 0 17).toNat) 0) 9 ((h 0 17).toNat) 0) 0 17 ((h 0 17) + 1)) 6 (((h 0 17) + 1).toNat) 33) 7 (((h 0 17) + 1).toNat) 0) 8 (((h 0 17) + 1).toNat) 0) 9 (((h 0 17) + 1).toNat) 0) 0 17 (((h 0 17) + 1) + 1)) 6 ((((h 0 17) + 1) + 1).toNat) 31) 7 ((((h 0 17) + 1) + 1).toNat) 0) 8 ((((h 0 17) + 1) + 1).toNat) 0) 9 ((((h 0 17) + 1) + 1).toNat) 0) 0 17 ((((h 0 17) + 1) + 1) + 1)) := g25
            show mJ l D cA ad 6 cX12_pickAct 8 (some .boolean) 220 [(4, (0, 0)), (0, (2, ((0 : Nat) : Int))), (1, (0, a1)), (2, (0, a2))] [(0, 1)] (ja_up (ja_up (ja_up (ja_up (ja_up (ja_up (ja_up (ja_up (ja_up (ja_up (ja_up (ja_up (ja_up (ja_up (ja_up (ja_up h 0 7 ((h 0 7) + 1)) 6 ((h 0 17).toNat) 32) 7 ((h 0 17).toNat) a2) 8 ((h 0 17).toNat) 0) 9 ((h 0 17).toNat) 0) 0 17 ((h 0 17) + 1)) 6 (((h 0 17) + 1).toNat) 33) 7 (((h 0 17) + 1).toNat) 0) 8 (((h 0 17) + 1).toNat) 0) 9 (((h 0 17) + 1).toNat) 0) 0 17 (((h 0 17) + 1) + 1)) 6 ((((h 0 17) + 1) + 1).toNat) 31) 7 ((((h 0 17) + 1) + 1).toNat) 0) 8 ((((h 0 17) + 1) + 1).toNat) 0) 9 ((((h 0 17) + 1) + 1).toNat) 0) 0 17 ((((h 0 17) + 1) + 1) + 1)) Q
            refine ja_if_eq 227 dpickAct_220 rfl ⟨by decide, by decide⟩ (fun c220 => absurd c220 (by omega)) (fun c220 => ?_)
            refine ja_iconst dpickAct_223 ?_
            refine ja_goto 228 dpickAct_224 rfl ?_
            refine ja_zreturn dpickAct_228 rfl (by omega) ?_
            exact mo_fin (by omega) rfl (k1 (ja_up (ja_up (ja_up (ja_up (ja_up (ja_up (ja_up (ja_up (ja_up (ja_up (ja_up (ja_up (ja_up (ja_up (ja_up (ja_up h 0 7 ((h 0 7) + 1)) 6 ((h 0 17).toNat) 32) 7 ((h 0 17).toNat) a2) 8 ((h 0 17).toNat) 0) 9 ((h 0 17).toNat) 0) 0 17 ((h 0 17) + 1)) 6 (((h 0 17) + 1).toNat) 33) 7 (((h 0 17) + 1).toNat) 0) 8 (((h 0 17) + 1).toNat) 0) 9 (((h 0 17) + 1).toNat) 0) 0 17 (((h 0 17) + 1) + 1)) 6 ((((h 0 17) + 1) + 1).toNat) 31) 7 ((((h 0 17) + 1) + 1).toNat) 0) 8 ((((h 0 17) + 1) + 1).toNat) 0) 9 ((((h 0 17) + 1) + 1).toNat) 0) 0 17 ((((h 0 17) + 1) + 1) + 1)) ((by have e : a1 = 32 := (by first | exact e1 | exact e37 | omega); (subst e; exact ab_pops_more (v := 0) g p1 p2))) g25)
          · intro h26 k179_1 g27
            refine ja_if_eq 227 dpickAct_182 rfl ⟨by decide, by decide⟩ (fun c182 => ?_) (fun c182 => absurd c182 (by omega))
            refine ja_iconst dpickAct_227 ?_
            refine ja_zreturn dpickAct_228 rfl (by omega) ?_
            exact mo_fin (by omega) rfl (k2 h26 (by omega) g27)
        · refine ja_aload_n dpickAct_166 rfl rfl ?_
          refine ja_dup dpickAct_167 (by decide) ?_
          refine fg_nest (v := h 0 18) rfl dpickAct_168 ?_
          have f28 := gF_nest g
          refine ja_iconst dpickAct_171 ?_
          refine ja_isub dpickAct_172 ?_
          have g29 := gP_nest g (x := (h 0 18) - 1) ⟨by omega, by omega⟩
          refine fp_nest dpickAct_173 ?_
          refine ja_iconst dpickAct_176 ?_
          refine ja_zreturn dpickAct_177 rfl (by omega) ?_
          exact mo_fin (by omega) rfl (k1 (ja_up h 0 18 ((h 0 18) - 1)) ((by have e : a1 = 32 := (by first | exact e1 | exact e37 | omega); (subst e; exact ab_pops_end g p1 p2))) g29)
      · have z150 := is1v k147_0 c150
        replace k147_0 := is1 k147_0 c150
        refine ja_iconst dpickAct_153 ?_
        refine ja_goto 158 dpickAct_154 rfl ?_
        refine ja_istore dpickAct_158 (by decide) (L2 := [(4, (0, 2)), (0, (2, ((0 : Nat) : Int))), (1, (0, a1)), (2, (0, a2))]) rfl ?_
        refine ja_iload dpickAct_160 rfl ?_
        refine ja_iload_n dpickAct_162 rfl rfl ?_
        refine ja_icmp_gt 178 dpickAct_163 rfl ⟨by decide, by decide⟩ ⟨by omega, by omega⟩ (fun c163 => ?_) (fun c163 => ?_)
        · refine ja_aload_n dpickAct_178 rfl rfl ?_
          refine t_take (by decide) (show (0 : Nat) ≤ 8 by decide) dpickAct_179 g  ?_ ?_
          · intro k179_0 g30
            replace k179_0 : (h 0 7) < 900 := k179_0
            replace g30 : mo_G Zz (ja_up h 0 7 ((h 0 7) + 1)) := g30
            show mJ l D cA ad 6 cX12_pickAct 8 (some .boolean) 182 [(4, (0, 2)), (0, (2, ((0 : Nat) : Int))), (1, (0, a1)), (2, (0, a2))] [(0, 1)] (ja_up h 0 7 ((h 0 7) + 1)) Q
            refine ja_if_eq 227 dpickAct_182 rfl ⟨by decide, by decide⟩ (fun c182 => absurd c182 (by omega)) (fun c182 => ?_)
            refine ja_aload_n dpickAct_185 rfl rfl ?_
            refine ja_bipush 32 dpickAct_186 rfl ?_
            refine ja_iload_n dpickAct_188 rfl rfl ?_
            refine ja_iconst dpickAct_189 ?_
            refine ja_iconst dpickAct_190 ?_
            refine t_later (by decide) (show (0 : Nat) ≤ 8 by decide) dpickAct_191 g30 ⟨by decide, by decide⟩ ⟨by omega, by omega⟩ ⟨by decide, by decide⟩ ⟨by decide, by decide⟩ (show 0 ≤ 32 ∧ 32 ≤ 38 by omega) (show (h 0 17) < 2000 by omega) ?_
            intro g31
            replace g31 : mo_G Zz (ja_up (ja_up (ja_up (ja_up (ja_up (ja_up h 0 7 ((h 0 7) + 1)) 6 ((h 0 17).toNat) 32) 7 ((h 0 17).toNat) a2) 8 ((h 0 17).toNat) 0) 9 ((h 0 17).toNat) 0) 0 17 ((h 0 17) + 1)) := g31
            show mJ l D cA ad 6 cX12_pickAct 8 (some .boolean) 194 [(4, (0, 2)), (0, (2, ((0 : Nat) : Int))), (1, (0, a1)), (2, (0, a2))] [(0, 1)] (ja_up (ja_up (ja_up (ja_up (ja_up (ja_up h 0 7 ((h 0 7) + 1)) 6 ((h 0 17).toNat) 32) 7 ((h 0 17).toNat) a2) 8 ((h 0 17).toNat) 0) 9 ((h 0 17).toNat) 0) 0 17 ((h 0 17) + 1)) Q
            refine ja_if_eq 227 dpickAct_194 rfl ⟨by decide, by decide⟩ (fun c194 => absurd c194 (by omega)) (fun c194 => ?_)
            refine ja_aload_n dpickAct_197 rfl rfl ?_
            refine ja_bipush 33 dpickAct_198 rfl ?_
            refine ja_iload dpickAct_200 rfl ?_
            refine ja_iconst dpickAct_202 ?_
            refine ja_iconst dpickAct_203 ?_
            refine t_later (by decide) (show (0 : Nat) ≤ 8 by decide) dpickAct_204 g31 ⟨by decide, by decide⟩ ⟨by decide, by decide⟩ ⟨by decide, by decide⟩ ⟨by decide, by decide⟩ (show 0 ≤ 33 ∧ 33 ≤ 38 by omega) (show ((h 0 17) + 1) < 2000 by omega) ?_
            intro g32
            replace g32 : mo_G Zz (ja_up (ja_up (ja_up (ja_up (ja_up (ja_up (ja_up (ja_up (ja_up (ja_up (ja_up h 0 7 ((h 0 7) + 1)) 6 ((h 0 17).toNat) 32) 7 ((h 0 17).toNat) a2) 8 ((h 0 17).toNat) 0) 9 ((h 0 17).toNat) 0) 0 17 ((h 0 17) + 1)) 6 (((h 0 17) + 1).toNat) 33) 7 (((h 0 17) + 1).toNat) 2) 8 (((h 0 17) + 1).toNat) 0) 9 (((h 0 17) + 1).toNat) 0) 0 17 (((h 0 17) + 1) + 1)) := g32
            show mJ l D cA ad 6 cX12_pickAct 8 (some .boolean) 207 [(4, (0, 2)), (0, (2, ((0 : Nat) : Int))), (1, (0, a1)), (2, (0, a2))] [(0, 1)] (ja_up (ja_up (ja_up (ja_up (ja_up (ja_up (ja_up (ja_up (ja_up (ja_up (ja_up h 0 7 ((h 0 7) + 1)) 6 ((h 0 17).toNat) 32) 7 ((h 0 17).toNat) a2) 8 ((h 0 17).toNat) 0) 9 ((h 0 17).toNat) 0) 0 17 ((h 0 17) + 1)) 6 (((h 0 17) + 1).toNat) 33) 7 (((h 0 17) + 1).toNat) 2) 8 (((h 0 17) + 1).toNat) 0) 9 (((h 0 17) + 1).toNat) 0) 0 17 (((h 0 17) + 1) + 1)) Q
            refine ja_if_eq 227 dpickAct_207 rfl ⟨by decide, by decide⟩ (fun c207 => absurd c207 (by omega)) (fun c207 => ?_)
            refine ja_aload_n dpickAct_210 rfl rfl ?_
            refine ja_bipush 31 dpickAct_211 rfl ?_
            refine ja_iload dpickAct_213 rfl ?_
            refine ja_iconst dpickAct_215 ?_
            refine ja_iconst dpickAct_216 ?_
            refine t_later (by decide) (show (0 : Nat) ≤ 8 by decide) dpickAct_217 g32 ⟨by decide, by decide⟩ ⟨by decide, by decide⟩ ⟨by decide, by decide⟩ ⟨by decide, by decide⟩ (show 0 ≤ 31 ∧ 31 ≤ 38 by omega) (show (((h 0 17) + 1) + 1) < 2000 by omega) ?_
            intro g33
            replace g33 : mo_G Zz (ja_up (ja_up (ja_up (ja_up (ja_up (ja_up (ja_up (ja_up (ja_up (ja_up (ja_up (ja_up (ja_up (ja_up (ja_up (ja_up h 0 7 ((h 0 7) + 1)) 6 ((h 0 17).toNat) 32) 7 ((h 0 17).toNat) a2) 8 ((h 0 17).toNat) 0) 9 ((h 0 17).toNat) 0) 0 17 ((h 0 17) + 1)) 6 (((h 0 17) + 1).toNat) 33) 7 (((h 0 17) + 1).toNat) 2) 8 (((h 0 17) + 1).toNat) 0) 9 (((h 0 17) + 1).toNat) 0) 0 17 (((h 0 17) + 1) + 1)) 6 ((((h 0 17) + 1) + 1).toNat) 31) 7 ((((h 0 17) + 1) + 1).toNat) 2) 8 ((((h 0 17) + 1) + 1).toNat) 0) 9 ((((h 0 17) + 1) + 1).toNat) 0) 0 17 ((((h 0 17) + 1) + 1) + 1)) := g33
            show mJ l D cA ad 6 cX12_pickAct 8 (some .boolean) 220 [(4, (0, 2)), (0, (2, ((0 : Nat) : Int))), (1, (0, a1)), (2, (0, a2))] [(0, 1)] (ja_up (ja_up (ja_up (ja_up (ja_up (ja_up (ja_up (ja_up (ja_up (ja_up (ja_up (ja_up (ja_up (ja_up (ja_up (ja_up h 0 7 ((h 0 7) + 1)) 6 ((h 0 17).toNat) 32) 7 ((h 0 17).toNat) a2) 8 ((h 0 17).toNat) 0) 9 ((h 0 17).toNat) 0) 0 17 ((h 0 17) + 1)) 6 (((h 0 17) + 1).toNat) 33) 7 (((h 0 17) + 1).toNat) 2) 8 (((h 0 17) + 1).toNat) 0) 9 (((h 0 17) + 1).toNat) 0) 0 17 (((h 0 17) + 1) + 1)) 6 ((((h 0 17) + 1) + 1).toNat) 31) 7 ((((h 0 17) + 1) + 1).toNat) 2) 8 ((((h 0 17) + 1) + 1).toNat) 0) 9 ((((h 0 17) + 1) + 1).toNat) 0) 0 17 ((((h 0 17) + 1) + 1) + 1)) Q
            refine ja_if_eq 227 dpickAct_220 rfl ⟨by decide, by decide⟩ (fun c220 => absurd c220 (by omega)) (fun c220 => ?_)
            refine ja_iconst dpickAct_223 ?_
            refine ja_goto 228 dpickAct_224 rfl ?_
            refine ja_zreturn dpickAct_228 rfl (by omega) ?_
            exact mo_fin (by omega) rfl (k1 (ja_up (ja_up (ja_up (ja_up (ja_up (ja_up (ja_up (ja_up (ja_up (ja_up (ja_up (ja_up (ja_up (ja_up (ja_up (ja_up h 0 7 ((h 0 7) + 1)) 6 ((h 0 17).toNat) 32) 7 ((h 0 17).toNat) a2) 8 ((h 0 17).toNat) 0) 9 ((h 0 17).toNat) 0) 0 17 ((h 0 17) + 1)) 6 (((h 0 17) + 1).toNat) 33) 7 (((h 0 17) + 1).toNat) 2) 8 (((h 0 17) + 1).toNat) 0) 9 (((h 0 17) + 1).toNat) 0) 0 17 (((h 0 17) + 1) + 1)) 6 ((((h 0 17) + 1) + 1).toNat) 31) 7 ((((h 0 17) + 1) + 1).toNat) 2) 8 ((((h 0 17) + 1) + 1).toNat) 0) 9 ((((h 0 17) + 1) + 1).toNat) 0) 0 17 ((((h 0 17) + 1) + 1) + 1)) ((by have e : a1 = 32 := (by first | exact e1 | exact e37 | omega); (subst e; exact ab_pops_more (v := 2) g p1 p2))) g33)
          · intro h34 k179_1 g35
            refine ja_if_eq 227 dpickAct_182 rfl ⟨by decide, by decide⟩ (fun c182 => ?_) (fun c182 => absurd c182 (by omega))
            refine ja_iconst dpickAct_227 ?_
            refine ja_zreturn dpickAct_228 rfl (by omega) ?_
            exact mo_fin (by omega) rfl (k2 h34 (by omega) g35)
        · refine ja_aload_n dpickAct_166 rfl rfl ?_
          refine ja_dup dpickAct_167 (by decide) ?_
          refine fg_nest (v := h 0 18) rfl dpickAct_168 ?_
          have f36 := gF_nest g
          refine ja_iconst dpickAct_171 ?_
          refine ja_isub dpickAct_172 ?_
          have g37 := gP_nest g (x := (h 0 18) - 1) ⟨by omega, by omega⟩
          refine fp_nest dpickAct_173 ?_
          refine ja_iconst dpickAct_176 ?_
          refine ja_zreturn dpickAct_177 rfl (by omega) ?_
          exact mo_fin (by omega) rfl (k1 (ja_up h 0 18 ((h 0 18) - 1)) ((by have e : a1 = 32 := (by first | exact e1 | exact e37 | omega); (subst e; exact ab_pops_end g p1 p2))) g37)
    · have z138 := is1v k135_0 c138
      replace k135_0 := is1 k135_0 c138
      refine ja_iconst dpickAct_141 ?_
      refine ja_goto 158 dpickAct_142 rfl ?_
      refine ja_istore dpickAct_158 (by decide) (L2 := [(4, (0, 1)), (0, (2, ((0 : Nat) : Int))), (1, (0, a1)), (2, (0, a2))]) rfl ?_
      refine ja_iload dpickAct_160 rfl ?_
      refine ja_iload_n dpickAct_162 rfl rfl ?_
      refine ja_icmp_gt 178 dpickAct_163 rfl ⟨by decide, by decide⟩ ⟨by omega, by omega⟩ (fun c163 => ?_) (fun c163 => ?_)
      · refine ja_aload_n dpickAct_178 rfl rfl ?_
        refine t_take (by decide) (show (0 : Nat) ≤ 8 by decide) dpickAct_179 g  ?_ ?_
        · intro k179_0 g38
          replace k179_0 : (h 0 7) < 900 := k179_0
          replace g38 : mo_G Zz (ja_up h 0 7 ((h 0 7) + 1)) := g38
          show mJ l D cA ad 6 cX12_pickAct 8 (some .boolean) 182 [(4, (0, 1)), (0, (2, ((0 : Nat) : Int))), (1, (0, a1)), (2, (0, a2))] [(0, 1)] (ja_up h 0 7 ((h 0 7) + 1)) Q
          refine ja_if_eq 227 dpickAct_182 rfl ⟨by decide, by decide⟩ (fun c182 => absurd c182 (by omega)) (fun c182 => ?_)
          refine ja_aload_n dpickAct_185 rfl rfl ?_
          refine ja_bipush 32 dpickAct_186 rfl ?_
          refine ja_iload_n dpickAct_188 rfl rfl ?_
          refine ja_iconst dpickAct_189 ?_
          refine ja_iconst dpickAct_190 ?_
          refine t_later (by decide) (show (0 : Nat) ≤ 8 by decide) dpickAct_191 g38 ⟨by decide, by decide⟩ ⟨by omega, by omega⟩ ⟨by decide, by decide⟩ ⟨by decide, by decide⟩ (show 0 ≤ 32 ∧ 32 ≤ 38 by omega) (show (h 0 17) < 2000 by omega) ?_
          intro g39
          replace g39 : mo_G Zz (ja_up (ja_up (ja_up (ja_up (ja_up (ja_up h 0 7 ((h 0 7) + 1)) 6 ((h 0 17).toNat) 32) 7 ((h 0 17).toNat) a2) 8 ((h 0 17).toNat) 0) 9 ((h 0 17).toNat) 0) 0 17 ((h 0 17) + 1)) := g39
          show mJ l D cA ad 6 cX12_pickAct 8 (some .boolean) 194 [(4, (0, 1)), (0, (2, ((0 : Nat) : Int))), (1, (0, a1)), (2, (0, a2))] [(0, 1)] (ja_up (ja_up (ja_up (ja_up (ja_up (ja_up h 0 7 ((h 0 7) + 1)) 6 ((h 0 17).toNat) 32) 7 ((h 0 17).toNat) a2) 8 ((h 0 17).toNat) 0) 9 ((h 0 17).toNat) 0) 0 17 ((h 0 17) + 1)) Q
          refine ja_if_eq 227 dpickAct_194 rfl ⟨by decide, by decide⟩ (fun c194 => absurd c194 (by omega)) (fun c194 => ?_)
          refine ja_aload_n dpickAct_197 rfl rfl ?_
          refine ja_bipush 33 dpickAct_198 rfl ?_
          refine ja_iload dpickAct_200 rfl ?_
          refine ja_iconst dpickAct_202 ?_
          refine ja_iconst dpickAct_203 ?_
          refine t_later (by decide) (show (0 : Nat) ≤ 8 by decide) dpickAct_204 g39 ⟨by decide, by decide⟩ ⟨by decide, by decide⟩ ⟨by decide, by decide⟩ ⟨by decide, by decide⟩ (show 0 ≤ 33 ∧ 33 ≤ 38 by omega) (show ((h 0 17) + 1) < 2000 by omega) ?_
          intro g40
          replace g40 : mo_G Zz (ja_up (ja_up (ja_up (ja_up (ja_up (ja_up (ja_up (ja_up (ja_up (ja_up (ja_up h 0 7 ((h 0 7) + 1)) 6 ((h 0 17).toNat) 32) 7 ((h 0 17).toNat) a2) 8 ((h 0 17).toNat) 0) 9 ((h 0 17).toNat) 0) 0 17 ((h 0 17) + 1)) 6 (((h 0 17) + 1).toNat) 33) 7 (((h 0 17) + 1).toNat) 1) 8 (((h 0 17) + 1).toNat) 0) 9 (((h 0 17) + 1).toNat) 0) 0 17 (((h 0 17) + 1) + 1)) := g40
          show mJ l D cA ad 6 cX12_pickAct 8 (some .boolean) 207 [(4, (0, 1)), (0, (2, ((0 : Nat) : Int))), (1, (0, a1)), (2, (0, a2))] [(0, 1)] (ja_up (ja_up (ja_up (ja_up (ja_up (ja_up (ja_up (ja_up (ja_up (ja_up (ja_up h 0 7 ((h 0 7) + 1)) 6 ((h 0 17).toNat) 32) 7 ((h 0 17).toNat) a2) 8 ((h 0 17).toNat) 0) 9 ((h 0 17).toNat) 0) 0 17 ((h 0 17) + 1)) 6 (((h 0 17) + 1).toNat) 33) 7 (((h 0 17) + 1).toNat) 1) 8 (((h 0 17) + 1).toNat) 0) 9 (((h 0 17) + 1).toNat) 0) 0 17 (((h 0 17) + 1) + 1)) Q
          refine ja_if_eq 227 dpickAct_207 rfl ⟨by decide, by decide⟩ (fun c207 => absurd c207 (by omega)) (fun c207 => ?_)
          refine ja_aload_n dpickAct_210 rfl rfl ?_
          refine ja_bipush 31 dpickAct_211 rfl ?_
          refine ja_iload dpickAct_213 rfl ?_
          refine ja_iconst dpickAct_215 ?_
          refine ja_iconst dpickAct_216 ?_
          refine t_later (by decide) (show (0 : Nat) ≤ 8 by decide) dpickAct_217 g40 ⟨by decide, by decide⟩ ⟨by decide, by decide⟩ ⟨by decide, by decide⟩ ⟨by decide, by decide⟩ (show 0 ≤ 31 ∧ 31 ≤ 38 by omega) (show (((h 0 17) + 1) + 1) < 2000 by omega) ?_
          intro g41
          replace g41 : mo_G Zz (ja_up (ja_up (ja_up (ja_up (ja_up (ja_up (ja_up (ja_up (ja_up (ja_up (ja_up (ja_up (ja_up (ja_up (ja_up (ja_up h 0 7 ((h 0 7) + 1)) 6 ((h 0 17).toNat) 32) 7 ((h 0 17).toNat) a2) 8 ((h 0 17).toNat) 0) 9 ((h 0 17).toNat) 0) 0 17 ((h 0 17) + 1)) 6 (((h 0 17) + 1).toNat) 33) 7 (((h 0 17) + 1).toNat) 1) 8 (((h 0 17) + 1).toNat) 0) 9 (((h 0 17) + 1).toNat) 0) 0 17 (((h 0 17) + 1) + 1)) 6 ((((h 0 17) + 1) + 1).toNat) 31) 7 ((((h 0 17) + 1) + 1).toNat) 1) 8 ((((h 0 17) + 1) + 1).toNat) 0) 9 ((((h 0 17) + 1) + 1).toNat) 0) 0 17 ((((h 0 17) + 1) + 1) + 1)) := g41
          show mJ l D cA ad 6 cX12_pickAct 8 (some .boolean) 220 [(4, (0, 1)), (0, (2, ((0 : Nat) : Int))), (1, (0, a1)), (2, (0, a2))] [(0, 1)] (ja_up (ja_up (ja_up (ja_up (ja_up (ja_up (ja_up (ja_up (ja_up (ja_up (ja_up (ja_up (ja_up (ja_up (ja_up (ja_up h 0 7 ((h 0 7) + 1)) 6 ((h 0 17).toNat) 32) 7 ((h 0 17).toNat) a2) 8 ((h 0 17).toNat) 0) 9 ((h 0 17).toNat) 0) 0 17 ((h 0 17) + 1)) 6 (((h 0 17) + 1).toNat) 33) 7 (((h 0 17) + 1).toNat) 1) 8 (((h 0 17) + 1).toNat) 0) 9 (((h 0 17) + 1).toNat) 0) 0 17 (((h 0 17) + 1) + 1)) 6 ((((h 0 17) + 1) + 1).toNat) 31) 7 ((((h 0 17) + 1) + 1).toNat) 1) 8 ((((h 0 17) + 1) + 1).toNat) 0) 9 ((((h 0 17) + 1) + 1).toNat) 0) 0 17 ((((h 0 17) + 1) + 1) + 1)) Q
          refine ja_if_eq 227 dpickAct_220 rfl ⟨by decide, by decide⟩ (fun c220 => absurd c220 (by omega)) (fun c220 => ?_)
          refine ja_iconst dpickAct_223 ?_
          refine ja_goto 228 dpickAct_224 rfl ?_
          refine ja_zreturn dpickAct_228 rfl (by omega) ?_
          exact mo_fin (by omega) rfl (k1 (ja_up (ja_up (ja_up (ja_up (ja_up (ja_up (ja_up (ja_up (ja_up (ja_up (ja_up (ja_up (ja_up (ja_up (ja_up (ja_up h 0 7 ((h 0 7) + 1)) 6 ((h 0 17).toNat) 32) 7 ((h 0 17).toNat) a2) 8 ((h 0 17).toNat) 0) 9 ((h 0 17).toNat) 0) 0 17 ((h 0 17) + 1)) 6 (((h 0 17) + 1).toNat) 33) 7 (((h 0 17) + 1).toNat) 1) 8 (((h 0 17) + 1).toNat) 0) 9 (((h 0 17) + 1).toNat) 0) 0 17 (((h 0 17) + 1) + 1)) 6 ((((h 0 17) + 1) + 1).toNat) 31) 7 ((((h 0 17) + 1) + 1).toNat) 1) 8 ((((h 0 17) + 1) + 1).toNat) 0) 9 ((((h 0 17) + 1) + 1).toNat) 0) 0 17 ((((h 0 17) + 1) + 1) + 1)) ((by have e : a1 = 32 := (by first | exact e1 | exact e37 | omega); (subst e; exact ab_pops_more (v := 1) g p1 p2))) g41)
        · intro h42 k179_1 g43
          refine ja_if_eq 227 dpickAct_182 rfl ⟨by decide, by decide⟩ (fun c182 => ?_) (fun c182 => absurd c182 (by omega))
          refine ja_iconst dpickAct_227 ?_
          refine ja_zreturn dpickAct_228 rfl (by omega) ?_
          exact mo_fin (by omega) rfl (k2 h42 (by omega) g43)
      · refine ja_aload_n dpickAct_166 rfl rfl ?_
        refine ja_dup dpickAct_167 (by decide) ?_
        refine fg_nest (v := h 0 18) rfl dpickAct_168 ?_
        have f44 := gF_nest g
        refine ja_iconst dpickAct_171 ?_
        refine ja_isub dpickAct_172 ?_
        have g45 := gP_nest g (x := (h 0 18) - 1) ⟨by omega, by omega⟩
        refine fp_nest dpickAct_173 ?_
        refine ja_iconst dpickAct_176 ?_
        refine ja_zreturn dpickAct_177 rfl (by omega) ?_
        exact mo_fin (by omega) rfl (k1 (ja_up h 0 18 ((h 0 18) - 1)) ((by have e : a1 = 32 := (by first | exact e1 | exact e37 | omega); (subst e; exact ab_pops_end g p1 p2))) g45)
  have T1_229 : (a1 = 33) → mJ l D cA ad 6 cX12_pickAct 8 (some .boolean) 229 [(0, (2, ((0 : Nat) : Int))), (1, (0, a1)), (2, (0, a2))] [] h Q := by
    intro e1
    have htt := bs_33 (a := a2) (b := b) (by have e : a1 = 33 := (by first | exact e1 | exact e37 | omega); (subst e; exact p2))
    refine ja_aload_n dpickAct_229 rfl rfl ?_
    refine ja_iload_n dpickAct_230 rfl rfl ?_
    refine ja_iconst dpickAct_231 ?_
    refine ja_icmp_ne 240 dpickAct_232 rfl ⟨by omega, by omega⟩ ⟨by decide, by decide⟩ (fun c232 => ?_) (fun c232 => ?_)
    · refine ja_bipush 13 dpickAct_240 rfl ?_
      refine t_joined (by decide) (show (0 : Nat) ≤ 8 by decide) dpickAct_242 g ⟨by decide, by decide⟩ (show 13 = 13 ∨ 13 = 14 by omega) (show 2 ≤ (h 0 109) by omega) (show (h 0 95) < 900 by omega) ?_
      intro w46 w47 w48 k242_0 g49
      replace k242_0 : ((w46 = 1 ∧ (h 0 85) = 1) ∨ (w46 = 0 ∧ (h 0 85) = 0)) ∧ 0 ≤ w47 ∧ w47 ≤ 1 := k242_0
      replace g49 : mo_G Zz (ja_up (ja_up (ja_up (ja_up (ja_up (ja_up (ja_up (ja_up (ja_up (ja_up (ja_up (ja_up (ja_up (ja_up h 0 109 ((h 0 109) - 1)) 0 95 ((h 0 95) + 1)) 58 ((h 0 95).toNat) 13) 59 ((h 0 95).toNat) (h 70 ((h 0 109) - 1 - 1).toNat)) 60 ((h 0 95).toNat) (h 70 ((h 0 109) - 1).toNat)) 61 ((h 0 95).toNat) (h 0 7)) 62 ((h 0 95).toNat) 0) 64 ((h 0 95).toNat) (h 0 76)) 65 ((h 0 95).toNat) 0) 66 ((h 0 95).toNat) 0) 67 ((h 0 95).toNat) w46) 66 ((h 0 95).toNat) w47) 65 ((h 0 95).toNat) w48) 70 (((h 0 109) - 1 - 1).toNat) (h 0 95)) := g49
      show mJ l D cA ad 6 cX12_pickAct 8 (some .boolean) 245 [(0, (2, ((0 : Nat) : Int))), (1, (0, a1)), (2, (0, a2))] [(0, 1)] (ja_up (ja_up (ja_up (ja_up (ja_up (ja_up (ja_up (ja_up (ja_up (ja_up (ja_up (ja_up (ja_up (ja_up h 0 109 ((h 0 109) - 1)) 0 95 ((h 0 95) + 1)) 58 ((h 0 95).toNat) 13) 59 ((h 0 95).toNat) (h 70 ((h 0 109) - 1 - 1).toNat)) 60 ((h 0 95).toNat) (h 70 ((h 0 109) - 1).toNat)) 61 ((h 0 95).toNat) (h 0 7)) 62 ((h 0 95).toNat) 0) 64 ((h 0 95).toNat) (h 0 76)) 65 ((h 0 95).toNat) 0) 66 ((h 0 95).toNat) 0) 67 ((h 0 95).toNat) w46) 66 ((h 0 95).toNat) w47) 65 ((h 0 95).toNat) w48) 70 (((h 0 109) - 1 - 1).toNat) (h 0 95)) Q
      refine ja_zreturn dpickAct_245 rfl (by omega) ?_
      exact mo_fin (by omega) rfl (k1 (ja_up (ja_up (ja_up (ja_up (ja_up (ja_up (ja_up (ja_up (ja_up (ja_up (ja_up (ja_up (ja_up (ja_up h 0 109 ((h 0 109) - 1)) 0 95 ((h 0 95) + 1)) 58 ((h 0 95).toNat) 13) 59 ((h 0 95).toNat) (h 70 ((h 0 109) - 1 - 1).toNat)) 60 ((h 0 95).toNat) (h 70 ((h 0 109) - 1).toNat)) 61 ((h 0 95).toNat) (h 0 7)) 62 ((h 0 95).toNat) 0) 64 ((h 0 95).toNat) (h 0 76)) 65 ((h 0 95).toNat) 0) 66 ((h 0 95).toNat) 0) 67 ((h 0 95).toNat) w46) 66 ((h 0 95).toNat) w47) 65 ((h 0 95).toNat) w48) 70 (((h 0 109) - 1 - 1).toNat) (h 0 95)) ((by have e : a1 = 33 := (by first | exact e1 | exact e37 | omega); (subst e; exact ab_and_n g p1 p2 (by omega)))) g49)
    · refine ja_bipush 14 dpickAct_235 rfl ?_
      refine ja_goto 242 dpickAct_237 rfl ?_
      refine t_joined (by decide) (show (0 : Nat) ≤ 8 by decide) dpickAct_242 g ⟨by decide, by decide⟩ (show 14 = 13 ∨ 14 = 14 by omega) (show 2 ≤ (h 0 109) by omega) (show (h 0 95) < 900 by omega) ?_
      intro w50 w51 w52 k242_0 g53
      replace k242_0 : ((w50 = 1 ∧ (h 0 85) = 1) ∨ (w50 = 0 ∧ (h 0 85) = 0)) ∧ 0 ≤ w51 ∧ w51 ≤ 1 := k242_0
      replace g53 : mo_G Zz (ja_up (ja_up (ja_up (ja_up (ja_up (ja_up (ja_up (ja_up (ja_up (ja_up (ja_up (ja_up (ja_up (ja_up h 0 109 ((h 0 109) - 1)) 0 95 ((h 0 95) + 1)) 58 ((h 0 95).toNat) 14) 59 ((h 0 95).toNat) (h 70 ((h 0 109) - 1 - 1).toNat)) 60 ((h 0 95).toNat) (h 70 ((h 0 109) - 1).toNat)) 61 ((h 0 95).toNat) (h 0 7)) 62 ((h 0 95).toNat) 0) 64 ((h 0 95).toNat) (h 0 76)) 65 ((h 0 95).toNat) 0) 66 ((h 0 95).toNat) 0) 67 ((h 0 95).toNat) w50) 66 ((h 0 95).toNat) w51) 65 ((h 0 95).toNat) w52) 70 (((h 0 109) - 1 - 1).toNat) (h 0 95)) := g53
      show mJ l D cA ad 6 cX12_pickAct 8 (some .boolean) 245 [(0, (2, ((0 : Nat) : Int))), (1, (0, a1)), (2, (0, a2))] [(0, 1)] (ja_up (ja_up (ja_up (ja_up (ja_up (ja_up (ja_up (ja_up (ja_up (ja_up (ja_up (ja_up (ja_up (ja_up h 0 109 ((h 0 109) - 1)) 0 95 ((h 0 95) + 1)) 58 ((h 0 95).toNat) 14) 59 ((h 0 95).toNat) (h 70 ((h 0 109) - 1 - 1).toNat)) 60 ((h 0 95).toNat) (h 70 ((h 0 109) - 1).toNat)) 61 ((h 0 95).toNat) (h 0 7)) 62 ((h 0 95).toNat) 0) 64 ((h 0 95).toNat) (h 0 76)) 65 ((h 0 95).toNat) 0) 66 ((h 0 95).toNat) 0) 67 ((h 0 95).toNat) w50) 66 ((h 0 95).toNat) w51) 65 ((h 0 95).toNat) w52) 70 (((h 0 109) - 1 - 1).toNat) (h 0 95)) Q
      refine ja_zreturn dpickAct_245 rfl (by omega) ?_
      exact mo_fin (by omega) rfl (k1 (ja_up (ja_up (ja_up (ja_up (ja_up (ja_up (ja_up (ja_up (ja_up (ja_up (ja_up (ja_up (ja_up (ja_up h 0 109 ((h 0 109) - 1)) 0 95 ((h 0 95) + 1)) 58 ((h 0 95).toNat) 14) 59 ((h 0 95).toNat) (h 70 ((h 0 109) - 1 - 1).toNat)) 60 ((h 0 95).toNat) (h 70 ((h 0 109) - 1).toNat)) 61 ((h 0 95).toNat) (h 0 7)) 62 ((h 0 95).toNat) 0) 64 ((h 0 95).toNat) (h 0 76)) 65 ((h 0 95).toNat) 0) 66 ((h 0 95).toNat) 0) 67 ((h 0 95).toNat) w50) 66 ((h 0 95).toNat) w51) 65 ((h 0 95).toNat) w52) 70 (((h 0 109) - 1 - 1).toNat) (h 0 95)) ((by have e : a1 = 33 := (by first | exact e1 | exact e37 | omega); (subst e; exact ab_or_n g p1 p2 (by omega)))) g53)
  have T1_246 : (a1 = 34 ∨ a1 = 35) → mJ l D cA ad 6 cX12_pickAct 8 (some .boolean) 246 [(0, (2, ((0 : Nat) : Int))), (1, (0, a1)), (2, (0, a2))] [] h Q := by
    intro e1
    have htt : 1 ≤ (h 0 109) := (by rcases e1 with e1 | e1; exact bs_34 (a := a2) (b := b) (by subst e1; exact p2); exact bs_35 (a := a2) (b := b) (by subst e1; exact p2))
    refine ja_aload_n dpickAct_246 rfl rfl ?_
    refine ja_dup dpickAct_247 (by decide) ?_
    refine fg_quiet (v := h 0 84) rfl dpickAct_248 ?_
    have f54 := gF_quiet g
    refine ja_iconst dpickAct_251 ?_
    refine ja_isub dpickAct_252 ?_
    have g55 := gP_quiet g (x := (h 0 84) - 1) ⟨by omega, by omega⟩
    refine fp_quiet dpickAct_253 ?_
    refine ja_aload_n dpickAct_256 rfl rfl ?_
    refine ja_iload_n dpickAct_257 rfl rfl ?_
    refine ja_bipush 35 dpickAct_258 rfl ?_
    refine ja_icmp_ne 272 dpickAct_260 rfl ⟨by omega, by omega⟩ ⟨by decide, by decide⟩ (fun c260 => ?_) (fun c260 => ?_)
    · refine ja_aload_n dpickAct_272 rfl rfl ?_
      refine fg_inFlow (v := h 0 87) rfl dpickAct_273 ?_
      have f56 := gF_inFlow g
      have g57 := gP_inFlow g55 (x := h 0 87) ⟨by omega, by omega⟩
      refine fp_inFlow dpickAct_276 ?_
      refine ja_aload_n dpickAct_279 rfl rfl ?_
      refine fa_treePile dpickAct_280 ?_
      refine ja_aload_n dpickAct_283 rfl rfl ?_
      refine fg_treeTop (v := h 0 109) rfl dpickAct_284 ?_
      have f58 := gF_treeTop g
      refine ja_iconst dpickAct_287 ?_
      refine ja_isub dpickAct_288 ?_
      refine il_treePile (v := h 70 ((h 0 109) - 1).toNat) rfl ⟨by omega, by omega⟩ dpickAct_289 ?_
      have f59 := gC_treePile g ((h 0 109) - 1).toNat
      refine ja_istore dpickAct_290 (by decide) (L2 := [(5, (0, (h 70 ((h 0 109) - 1).toNat))), (0, (2, ((0 : Nat) : Int))), (1, (0, a1)), (2, (0, a2))]) rfl ?_
      refine ja_aload_n dpickAct_292 rfl rfl ?_
      refine ja_iload_n dpickAct_293 rfl rfl ?_
      refine ja_bipush 34 dpickAct_294 rfl ?_
      refine ja_icmp_ne 304 dpickAct_296 rfl ⟨by omega, by omega⟩ ⟨by decide, by decide⟩ (fun c296 => ?_) (fun c296 => ?_)
      · exfalso; omega
      · refine ja_bipush 15 dpickAct_299 rfl ?_
        refine ja_goto 306 dpickAct_301 rfl ?_
        refine ja_iload dpickAct_306 rfl ?_
        refine ja_iconst dpickAct_308 ?_
        refine ja_aload_n dpickAct_309 rfl rfl ?_
        refine fg_at (v := h 0 7) rfl dpickAct_310 ?_
        have f60 := gF_at g
        refine t_node (by decide) (show (0 : Nat) ≤ 8 by decide) dpickAct_313 g57 ⟨by decide, by decide⟩ ⟨by omega, by omega⟩ ⟨by decide, by decide⟩ ⟨by omega, by omega⟩ (show 0 ≤ 15 ∧ 15 ≤ 15 by omega) (show 0 ≤ (h 0 7) ∧ (h 0 7) ≤ 900 by omega) (show (h 0 95) < 900 by omega) ?_
        intro w61 k313_0 g62
        replace k313_0 : (w61 = 1 ∧ (h 0 85) = 1) ∨ (w61 = 0 ∧ (h 0 85) = 0) := k313_0
        replace g62 : mo_G Zz (ja_up (ja_up (ja_up (ja_up (ja_up (ja_up (ja_up (ja_up (ja_up (ja_up (ja_up (ja_up h 0 84 ((h 0 84) - 1)) 0 87 (h 0 87)) 0 95 ((h 0 95) + 1)) 58 ((h 0 95).toNat) 15) 59 ((h 0 95).toNat) (h 70 ((h 0 109) - 1).toNat)) 60 ((h 0 95).toNat) 0) 61 ((h 0 95).toNat) (h 0 7)) 62 ((h 0 95).toNat) 0) 64 ((h 0 95).toNat) (h 0 76)) 65 ((h 0 95).toNat) 0) 66 ((h 0 95).toNat) 0) 67 ((h 0 95).toNat) w61) := g62
        show mJ l D cA ad 6 cX12_pickAct 8 (some .boolean) 316 [(5, (0, (h 70 ((h 0 109) - 1).toNat))), (0, (2, ((0 : Nat) : Int))), (1, (0, a1)), (2, (0, a2))] [(0, (h 0 95))] (ja_up (ja_up (ja_up (ja_up (ja_up (ja_up (ja_up (ja_up (ja_up (ja_up (ja_up (ja_up h 0 84 ((h 0 84) - 1)) 0 87 (h 0 87)) 0 95 ((h 0 95) + 1)) 58 ((h 0 95).toNat) 15) 59 ((h 0 95).toNat) (h 70 ((h 0 109) - 1).toNat)) 60 ((h 0 95).toNat) 0) 61 ((h 0 95).toNat) (h 0 7)) 62 ((h 0 95).toNat) 0) 64 ((h 0 95).toNat) (h 0 76)) 65 ((h 0 95).toNat) 0) 66 ((h 0 95).toNat) 0) 67 ((h 0 95).toNat) w61) Q
        refine ja_istore dpickAct_316 (by decide) (L2 := [(6, (0, (h 0 95))), (5, (0, (h 70 ((h 0 109) - 1).toNat))), (0, (2, ((0 : Nat) : Int))), (1, (0, a1)), (2, (0, a2))]) rfl ?_
        refine ja_aload_n dpickAct_318 rfl rfl ?_
        refine fa_nodeTwice dpickAct_319 ?_
        refine ja_iload dpickAct_322 rfl ?_
        refine ja_aload_n dpickAct_324 rfl rfl ?_
        refine fa_nodeTwice dpickAct_325 ?_
        refine ja_iload dpickAct_328 rfl ?_
        refine il_nodeTwice rfl ⟨by omega, by omega⟩ dpickAct_330 ?_
        have f63 := gC_nodeTwice g62 (h 70 ((h 0 109) - 1).toNat).toNat
        have g64 := gW_nodeTwice g62 (h 0 95).toNat (x := (ja_up (ja_up (ja_up (ja_up (ja_up (ja_up (ja_up (ja_up (ja_up (ja_up (ja_up (ja_up h 0 84 ((h 0 84) - 1)) 0 87 (h 0 87)) 0 95 ((h 0 95) + 1)) 58 ((h 0 95).toNat) 15) 59 ((h 0 95).toNat) (h 70 ((h 0 109) - 1).toNat)) 60 ((h 0 95).toNat) 0) 61 ((h 0 95).toNat) (h 0 7)) 62 ((h 0 95).toNat) 0) 64 ((h 0 95).toNat) (h 0 76)) 65 ((h 0 95).toNat) 0) 66 ((h 0 95).toNat) 0) 67 ((h 0 95).toNat) w61) 66 (h 70 ((h 0 109) - 1).toNat).toNat) ⟨by omega, by omega⟩
        refine is_nodeTwice ⟨by omega, by omega⟩ (by omega) dpickAct_331 ?_
        refine ja_aload_n dpickAct_332 rfl rfl ?_
        refine fa_treePile dpickAct_333 ?_
        refine ja_aload_n dpickAct_336 rfl rfl ?_
        refine fg_treeTop (v := h 0 109) rfl dpickAct_337 ?_
        refine ja_iconst dpickAct_340 ?_
        refine ja_isub dpickAct_341 ?_
        refine ja_iload dpickAct_342 rfl ?_
        have g65 := gW_treePile g64 ((h 0 109) - 1).toNat (x := h 0 95) ⟨by omega, by omega⟩
        refine is_treePile ⟨by omega, by omega⟩ dpickAct_344 ?_
        refine ja_iconst dpickAct_345 ?_
        refine ja_zreturn dpickAct_346 rfl (by omega) ?_
        exact mo_fin (by omega) rfl (k1 (ja_up (ja_up (ja_up (ja_up (ja_up (ja_up (ja_up (ja_up (ja_up (ja_up (ja_up (ja_up (ja_up (ja_up h 0 84 ((h 0 84) - 1)) 0 87 (h 0 87)) 0 95 ((h 0 95) + 1)) 58 ((h 0 95).toNat) 15) 59 ((h 0 95).toNat) (h 70 ((h 0 109) - 1).toNat)) 60 ((h 0 95).toNat) 0) 61 ((h 0 95).toNat) (h 0 7)) 62 ((h 0 95).toNat) 0) 64 ((h 0 95).toNat) (h 0 76)) 65 ((h 0 95).toNat) 0) 66 ((h 0 95).toNat) 0) 67 ((h 0 95).toNat) w61) 66 ((h 0 95).toNat) ((ja_up (ja_up (ja_up (ja_up (ja_up (ja_up (ja_up (ja_up (ja_up (ja_up (ja_up (ja_up h 0 84 ((h 0 84) - 1)) 0 87 (h 0 87)) 0 95 ((h 0 95) + 1)) 58 ((h 0 95).toNat) 15) 59 ((h 0 95).toNat) (h 70 ((h 0 109) - 1).toNat)) 60 ((h 0 95).toNat) 0) 61 ((h 0 95).toNat) (h 0 7)) 62 ((h 0 95).toNat) 0) 64 ((h 0 95).toNat) (h 0 76)) 65 ((h 0 95).toNat) 0) 66 ((h 0 95).toNat) 0) 67 ((h 0 95).toNat) w61) 66 (h 70 ((h 0 109) - 1).toNat).toNat)) 70 (((h 0 109) - 1).toNat) (h 0 95)) ((by have e : a1 = 34 := (by first | exact e1 | exact e37 | omega); (subst e; exact ab_not_n g p1 p2 (by omega)))) g65)
    · refine ja_aload_n dpickAct_263 rfl rfl ?_
      refine fg_inFlow (v := h 0 87) rfl dpickAct_264 ?_
      have f66 := gF_inFlow g
      refine ja_iconst dpickAct_267 ?_
      refine ja_isub dpickAct_268 ?_
      refine ja_goto 276 dpickAct_269 rfl ?_
      have g67 := gP_inFlow g55 (x := (h 0 87) - 1) ⟨by omega, by omega⟩
      refine fp_inFlow dpickAct_276 ?_
      refine ja_aload_n dpickAct_279 rfl rfl ?_
      refine fa_treePile dpickAct_280 ?_
      refine ja_aload_n dpickAct_283 rfl rfl ?_
      refine fg_treeTop (v := h 0 109) rfl dpickAct_284 ?_
      have f68 := gF_treeTop g
      refine ja_iconst dpickAct_287 ?_
      refine ja_isub dpickAct_288 ?_
      refine il_treePile (v := h 70 ((h 0 109) - 1).toNat) rfl ⟨by omega, by omega⟩ dpickAct_289 ?_
      have f69 := gC_treePile g ((h 0 109) - 1).toNat
      refine ja_istore dpickAct_290 (by decide) (L2 := [(5, (0, (h 70 ((h 0 109) - 1).toNat))), (0, (2, ((0 : Nat) : Int))), (1, (0, a1)), (2, (0, a2))]) rfl ?_
      refine ja_aload_n dpickAct_292 rfl rfl ?_
      refine ja_iload_n dpickAct_293 rfl rfl ?_
      refine ja_bipush 34 dpickAct_294 rfl ?_
      refine ja_icmp_ne 304 dpickAct_296 rfl ⟨by omega, by omega⟩ ⟨by decide, by decide⟩ (fun c296 => ?_) (fun c296 => ?_)
      · refine ja_bipush 11 dpickAct_304 rfl ?_
        refine ja_iload dpickAct_306 rfl ?_
        refine ja_iconst dpickAct_308 ?_
        refine ja_aload_n dpickAct_309 rfl rfl ?_
        refine fg_at (v := h 0 7) rfl dpickAct_310 ?_
        have f70 := gF_at g
        refine t_node (by decide) (show (0 : Nat) ≤ 8 by decide) dpickAct_313 g67 ⟨by decide, by decide⟩ ⟨by omega, by omega⟩ ⟨by decide, by decide⟩ ⟨by omega, by omega⟩ (show 0 ≤ 11 ∧ 11 ≤ 15 by omega) (show 0 ≤ (h 0 7) ∧ (h 0 7) ≤ 900 by omega) (show (h 0 95) < 900 by omega) ?_
        intro w71 k313_0 g72
        replace k313_0 : (w71 = 1 ∧ (h 0 85) = 1) ∨ (w71 = 0 ∧ (h 0 85) = 0) := k313_0
        replace g72 : mo_G Zz (ja_up (ja_up (ja_up (ja_up (ja_up (ja_up (ja_up (ja_up (ja_up (ja_up (ja_up (ja_up h 0 84 ((h 0 84) - 1)) 0 87 ((h 0 87) - 1)) 0 95 ((h 0 95) + 1)) 58 ((h 0 95).toNat) 11) 59 ((h 0 95).toNat) (h 70 ((h 0 109) - 1).toNat)) 60 ((h 0 95).toNat) 0) 61 ((h 0 95).toNat) (h 0 7)) 62 ((h 0 95).toNat) 0) 64 ((h 0 95).toNat) (h 0 76)) 65 ((h 0 95).toNat) 0) 66 ((h 0 95).toNat) 0) 67 ((h 0 95).toNat) w71) := g72
        show mJ l D cA ad 6 cX12_pickAct 8 (some .boolean) 316 [(5, (0, (h 70 ((h 0 109) - 1).toNat))), (0, (2, ((0 : Nat) : Int))), (1, (0, a1)), (2, (0, a2))] [(0, (h 0 95))] (ja_up (ja_up (ja_up (ja_up (ja_up (ja_up (ja_up (ja_up (ja_up (ja_up (ja_up (ja_up h 0 84 ((h 0 84) - 1)) 0 87 ((h 0 87) - 1)) 0 95 ((h 0 95) + 1)) 58 ((h 0 95).toNat) 11) 59 ((h 0 95).toNat) (h 70 ((h 0 109) - 1).toNat)) 60 ((h 0 95).toNat) 0) 61 ((h 0 95).toNat) (h 0 7)) 62 ((h 0 95).toNat) 0) 64 ((h 0 95).toNat) (h 0 76)) 65 ((h 0 95).toNat) 0) 66 ((h 0 95).toNat) 0) 67 ((h 0 95).toNat) w71) Q
        refine ja_istore dpickAct_316 (by decide) (L2 := [(6, (0, (h 0 95))), (5, (0, (h 70 ((h 0 109) - 1).toNat))), (0, (2, ((0 : Nat) : Int))), (1, (0, a1)), (2, (0, a2))]) rfl ?_
        refine ja_aload_n dpickAct_318 rfl rfl ?_
        refine fa_nodeTwice dpickAct_319 ?_
        refine ja_iload dpickAct_322 rfl ?_
        refine ja_aload_n dpickAct_324 rfl rfl ?_
        refine fa_nodeTwice dpickAct_325 ?_
        refine ja_iload dpickAct_328 rfl ?_
        refine il_nodeTwice rfl ⟨by omega, by omega⟩ dpickAct_330 ?_
        have f73 := gC_nodeTwice g72 (h 70 ((h 0 109) - 1).toNat).toNat
        have g74 := gW_nodeTwice g72 (h 0 95).toNat (x := (ja_up (ja_up (ja_up (ja_up (ja_up (ja_up (ja_up (ja_up (ja_up (ja_up (ja_up (ja_up h 0 84 ((h 0 84) - 1)) 0 87 ((h 0 87) - 1)) 0 95 ((h 0 95) + 1)) 58 ((h 0 95).toNat) 11) 59 ((h 0 95).toNat) (h 70 ((h 0 109) - 1).toNat)) 60 ((h 0 95).toNat) 0) 61 ((h 0 95).toNat) (h 0 7)) 62 ((h 0 95).toNat) 0) 64 ((h 0 95).toNat) (h 0 76)) 65 ((h 0 95).toNat) 0) 66 ((h 0 95).toNat) 0) 67 ((h 0 95).toNat) w71) 66 (h 70 ((h 0 109) - 1).toNat).toNat) ⟨by omega, by omega⟩
        refine is_nodeTwice ⟨by omega, by omega⟩ (by omega) dpickAct_331 ?_
        refine ja_aload_n dpickAct_332 rfl rfl ?_
        refine fa_treePile dpickAct_333 ?_
        refine ja_aload_n dpickAct_336 rfl rfl ?_
        refine fg_treeTop (v := h 0 109) rfl dpickAct_337 ?_
        refine ja_iconst dpickAct_340 ?_
        refine ja_isub dpickAct_341 ?_
        refine ja_iload dpickAct_342 rfl ?_
        have g75 := gW_treePile g74 ((h 0 109) - 1).toNat (x := h 0 95) ⟨by omega, by omega⟩
        refine is_treePile ⟨by omega, by omega⟩ dpickAct_344 ?_
        refine ja_iconst dpickAct_345 ?_
        refine ja_zreturn dpickAct_346 rfl (by omega) ?_
        exact mo_fin (by omega) rfl (k1 (ja_up (ja_up (ja_up (ja_up (ja_up (ja_up (ja_up (ja_up (ja_up (ja_up (ja_up (ja_up (ja_up (ja_up h 0 84 ((h 0 84) - 1)) 0 87 ((h 0 87) - 1)) 0 95 ((h 0 95) + 1)) 58 ((h 0 95).toNat) 11) 59 ((h 0 95).toNat) (h 70 ((h 0 109) - 1).toNat)) 60 ((h 0 95).toNat) 0) 61 ((h 0 95).toNat) (h 0 7)) 62 ((h 0 95).toNat) 0) 64 ((h 0 95).toNat) (h 0 76)) 65 ((h 0 95).toNat) 0) 66 ((h 0 95).toNat) 0) 67 ((h 0 95).toNat) w71) 66 ((h 0 95).toNat) ((ja_up (ja_up (ja_up (ja_up (ja_up (ja_up (ja_up (ja_up (ja_up (ja_up (ja_up (ja_up h 0 84 ((h 0 84) - 1)) 0 87 ((h 0 87) - 1)) 0 95 ((h 0 95) + 1)) 58 ((h 0 95).toNat) 11) 59 ((h 0 95).toNat) (h 70 ((h 0 109) - 1).toNat)) 60 ((h 0 95).toNat) 0) 61 ((h 0 95).toNat) (h 0 7)) 62 ((h 0 95).toNat) 0) 64 ((h 0 95).toNat) (h 0 76)) 65 ((h 0 95).toNat) 0) 66 ((h 0 95).toNat) 0) 67 ((h 0 95).toNat) w71) 66 (h 70 ((h 0 109) - 1).toNat).toNat)) 70 (((h 0 109) - 1).toNat) (h 0 95)) ((by have e : a1 = 35 := (by first | exact e1 | exact e37 | omega); (subst e; exact ab_flow_n g p1 p2 (by omega)))) g75)
      · exfalso; omega
  have T1_347 : (a1 = 36) → mJ l D cA ad 6 cX12_pickAct 8 (some .boolean) 347 [(0, (2, ((0 : Nat) : Int))), (1, (0, a1)), (2, (0, a2))] [] h Q := by
    intro e1
    have htt := bs_36 (h := h) (a := a2) (b := b) (by omega) (by have e : a1 = 36 := (by first | exact e1 | exact e37 | omega); (subst e; exact p2))
    refine ja_aload_n dpickAct_347 rfl rfl ?_
    refine ja_iconst dpickAct_348 ?_
    have g76 := gP_inIf g (x := 0) ⟨by decide, by decide⟩
    refine fp_inIf dpickAct_349 ?_
    refine ja_aload_n dpickAct_352 rfl rfl ?_
    refine ja_bipush 26 dpickAct_353 rfl ?_
    refine ja_iconst dpickAct_355 ?_
    refine ja_iconst dpickAct_356 ?_
    refine t_emit (by decide) (show (0 : Nat) ≤ 8 by decide) dpickAct_357 g76 ⟨by decide, by decide⟩ ⟨by decide, by decide⟩ ⟨by decide, by decide⟩ (show 0 ≤ 26 ∧ 26 ≤ 26 by omega) (show (h 0 113) < 5000 by omega) ?_
    intro g77
    replace g77 : mo_G Zz (ja_up (ja_up (ja_up (ja_up (ja_up h 0 86 0) 74 ((h 0 113).toNat) 26) 75 ((h 0 113).toNat) 0) 76 ((h 0 113).toNat) 0) 0 113 ((h 0 113) + 1)) := g77
    show mJ l D cA ad 6 cX12_pickAct 8 (some .boolean) 360 [(0, (2, ((0 : Nat) : Int))), (1, (0, a1)), (2, (0, a2))] [(0, (h 0 113))] (ja_up (ja_up (ja_up (ja_up (ja_up h 0 86 0) 74 ((h 0 113).toNat) 26) 75 ((h 0 113).toNat) 0) 76 ((h 0 113).toNat) 0) 0 113 ((h 0 113) + 1)) Q
    refine ja_istore dpickAct_360 (by decide) (L2 := [(7, (0, (h 0 113))), (0, (2, ((0 : Nat) : Int))), (1, (0, a1)), (2, (0, a2))]) rfl ?_
    refine ja_aload_n dpickAct_362 rfl rfl ?_
    refine ja_aload_n dpickAct_363 rfl rfl ?_
    refine ja_bipush 10 dpickAct_364 rfl ?_
    refine ja_iload_n dpickAct_366 rfl rfl ?_
    refine ja_iconst dpickAct_367 ?_
    refine ja_aload_n dpickAct_368 rfl rfl ?_
    refine fg_at (v := h 0 7) rfl dpickAct_369 ?_
    have f78 := gF_at g
    refine t_node (by decide) (show (1 : Nat) ≤ 8 by decide) dpickAct_372 g77 ⟨by decide, by decide⟩ ⟨by omega, by omega⟩ ⟨by decide, by decide⟩ ⟨by omega, by omega⟩ (show 0 ≤ 10 ∧ 10 ≤ 15 by omega) (show 0 ≤ (h 0 7) ∧ (h 0 7) ≤ 900 by omega) (show (h 0 95) < 900 by omega) ?_
    intro w79 k372_0 g80
    replace k372_0 : (w79 = 1 ∧ (h 0 85) = 1) ∨ (w79 = 0 ∧ (h 0 85) = 0) := k372_0
    replace g80 : mo_G Zz (ja_up (ja_up (ja_up (ja_up (ja_up (ja_up (ja_up (ja_up (ja_up (ja_up (ja_up (ja_up (ja_up (ja_up (ja_up h 0 86 0) 74 ((h 0 113).toNat) 26) 75 ((h 0 113).toNat) 0) 76 ((h 0 113).toNat) 0) 0 113 ((h 0 113) + 1)) 0 95 ((h 0 95) + 1)) 58 ((h 0 95).toNat) 10) 59 ((h 0 95).toNat) a2) 60 ((h 0 95).toNat) 0) 61 ((h 0 95).toNat) (h 0 7)) 62 ((h 0 95).toNat) 0) 64 ((h 0 95).toNat) (h 0 76)) 65 ((h 0 95).toNat) 0) 66 ((h 0 95).toNat) 0) 67 ((h 0 95).toNat) w79) := g80
    show mJ l D cA ad 6 cX12_pickAct 8 (some .boolean) 375 [(7, (0, (h 0 113))), (0, (2, ((0 : Nat) : Int))), (1, (0, a1)), (2, (0, a2))] [(0, (h 0 95)), (2, ((0 : Nat) : Int))] (ja_up (ja_up (ja_up (ja_up (ja_up (ja_up (ja_up (ja_up (ja_up (ja_up (ja_up (ja_up (ja_up (ja_up (ja_up h 0 86 0) 74 ((h 0 113).toNat) 26) 75 ((h 0 113).toNat) 0) 76 ((h 0 113).toNat) 0) 0 113 ((h 0 113) + 1)) 0 95 ((h 0 95) + 1)) 58 ((h 0 95).toNat) 10) 59 ((h 0 95).toNat) a2) 60 ((h 0 95).toNat) 0) 61 ((h 0 95).toNat) (h 0 7)) 62 ((h 0 95).toNat) 0) 64 ((h 0 95).toNat) (h 0 76)) 65 ((h 0 95).toNat) 0) 66 ((h 0 95).toNat) 0) 67 ((h 0 95).toNat) w79) Q
    refine t_leaf (by decide) (show (0 : Nat) ≤ 8 by decide) dpickAct_375 g80 ⟨by omega, by omega⟩ (show 0 ≤ (h 0 95) ∧ (h 0 95) ≤ 899 by omega) (show (h 0 109) < 400 by omega) ?_
    intro g81
    replace g81 : mo_G Zz (ja_up (ja_up (ja_up (ja_up (ja_up (ja_up (ja_up (ja_up (ja_up (ja_up (ja_up (ja_up (ja_up (ja_up (ja_up (ja_up (ja_up h 0 86 0) 74 ((h 0 113).toNat) 26) 75 ((h 0 113).toNat) 0) 76 ((h 0 113).toNat) 0) 0 113 ((h 0 113) + 1)) 0 95 ((h 0 95) + 1)) 58 ((h 0 95).toNat) 10) 59 ((h 0 95).toNat) a2) 60 ((h 0 95).toNat) 0) 61 ((h 0 95).toNat) (h 0 7)) 62 ((h 0 95).toNat) 0) 64 ((h 0 95).toNat) (h 0 76)) 65 ((h 0 95).toNat) 0) 66 ((h 0 95).toNat) 0) 67 ((h 0 95).toNat) w79) 70 ((h 0 109).toNat) (h 0 95)) 0 109 ((h 0 109) + 1)) := g81
    show mJ l D cA ad 6 cX12_pickAct 8 (some .boolean) 378 [(7, (0, (h 0 113))), (0, (2, ((0 : Nat) : Int))), (1, (0, a1)), (2, (0, a2))] [(0, 1)] (ja_up (ja_up (ja_up (ja_up (ja_up (ja_up (ja_up (ja_up (ja_up (ja_up (ja_up (ja_up (ja_up (ja_up (ja_up (ja_up (ja_up h 0 86 0) 74 ((h 0 113).toNat) 26) 75 ((h 0 113).toNat) 0) 76 ((h 0 113).toNat) 0) 0 113 ((h 0 113) + 1)) 0 95 ((h 0 95) + 1)) 58 ((h 0 95).toNat) 10) 59 ((h 0 95).toNat) a2) 60 ((h 0 95).toNat) 0) 61 ((h 0 95).toNat) (h 0 7)) 62 ((h 0 95).toNat) 0) 64 ((h 0 95).toNat) (h 0 76)) 65 ((h 0 95).toNat) 0) 66 ((h 0 95).toNat) 0) 67 ((h 0 95).toNat) w79) 70 ((h 0 109).toNat) (h 0 95)) 0 109 ((h 0 109) + 1)) Q
    refine ja_zreturn dpickAct_378 rfl (by omega) ?_
    exact mo_fin (by omega) rfl (k1 (ja_up (ja_up (ja_up (ja_up (ja_up (ja_up (ja_up (ja_up (ja_up (ja_up (ja_up (ja_up (ja_up (ja_up (ja_up (ja_up (ja_up h 0 86 0) 74 ((h 0 113).toNat) 26) 75 ((h 0 113).toNat) 0) 76 ((h 0 113).toNat) 0) 0 113 ((h 0 113) + 1)) 0 95 ((h 0 95) + 1)) 58 ((h 0 95).toNat) 10) 59 ((h 0 95).toNat) a2) 60 ((h 0 95).toNat) 0) 61 ((h 0 95).toNat) (h 0 7)) 62 ((h 0 95).toNat) 0) 64 ((h 0 95).toNat) (h 0 76)) 65 ((h 0 95).toNat) 0) 66 ((h 0 95).toNat) 0) 67 ((h 0 95).toNat) w79) 70 ((h 0 109).toNat) (h 0 95)) 0 109 ((h 0 109) + 1)) ((by have e : a1 = 36 := (by first | exact e1 | exact e37 | omega); (subst e; exact ab_pif g p1 p2 (by omega)))) g81)
  have T1_379 : (a1 < 31 ∨ 36 < a1) → mJ l D cA ad 6 cX12_pickAct 8 (some .boolean) 379 [(0, (2, ((0 : Nat) : Int))), (1, (0, a1)), (2, (0, a2))] [] h Q := by
    intro e1
    have e37 : a1 = 37 := e37_of e1 p4
    refine ja_aload_n dpickAct_379 rfl rfl ?_
    refine ja_iload_n dpickAct_380 rfl rfl ?_
    refine t_sign (by decide) (show (0 : Nat) ≤ 8 by decide) dpickAct_381 g ⟨by omega, by omega⟩ ?_ ?_
    · intro k381_0 g82
      replace k381_0 : (h 0 7) < 900 ∧ (h 2 (h 0 7).toNat) = 5 ∧ (h 5 (h 0 7).toNat) = a2 := k381_0
      replace g82 : mo_G Zz (ja_up h 0 7 ((h 0 7) + 1)) := g82
      show mJ l D cA ad 6 cX12_pickAct 8 (some .boolean) 384 [(0, (2, ((0 : Nat) : Int))), (1, (0, a1)), (2, (0, a2))] [(0, 1)] (ja_up h 0 7 ((h 0 7) + 1)) Q
      refine ja_zreturn dpickAct_384 rfl (by omega) ?_
      exact mo_fin (by omega) rfl (k1 (ja_up h 0 7 ((h 0 7) + 1)) ((by have e : a1 = 37 := (by first | exact e1 | exact e37 | omega); (subst e; exact ab_sign g p1 p2))) g82)
    · intro h83 k381_1 g84
      refine ja_zreturn dpickAct_384 rfl (by omega) ?_
      exact mo_fin (by omega) rfl (k2 h83 (by omega) g84)
  rcases (by omega : a1 = 31 ∨ a1 = 32 ∨ a1 = 33 ∨ a1 = 34 ∨ a1 = 35 ∨ a1 = 36 ∨ (a1 < 31 ∨ 36 < a1)) with e | e | e | e | e | e | e
  · exact ja_tableIn 40 dpickAct_1 ⟨by omega, by omega⟩ (by omega) (by omega) (by rw [e]; rfl) rfl (T1_40 (by omega))
  · exact ja_tableIn 132 dpickAct_1 ⟨by omega, by omega⟩ (by omega) (by omega) (by rw [e]; rfl) rfl (T1_132 (by omega))
  · exact ja_tableIn 229 dpickAct_1 ⟨by omega, by omega⟩ (by omega) (by omega) (by rw [e]; rfl) rfl (T1_229 (by omega))
  · exact ja_tableIn 246 dpickAct_1 ⟨by omega, by omega⟩ (by omega) (by omega) (by rw [e]; rfl) rfl (T1_246 (by omega))
  · exact ja_tableIn 246 dpickAct_1 ⟨by omega, by omega⟩ (by omega) (by omega) (by rw [e]; rfl) rfl (T1_246 (by omega))
  · exact ja_tableIn 347 dpickAct_1 ⟨by omega, by omega⟩ (by omega) (by omega) (by rw [e]; rfl) rfl (T1_347 (by omega))
  · exact ja_tableOut 379 dpickAct_1 ⟨by omega, by omega⟩ (by omega) rfl (T1_379 (by omega))
theorem t_pickAct {a1 a2 : Int} {R r ph q0 b : Int} {tf : mo_TF} {s : List mo_A} {ht st rg : Nat → Int} {tu : Int} {d nL pc : Nat} {cc : ByteArray} {rt : Option FieldType} {L : List (Nat × ja_V)} {S : List ja_V} {h : ja_H} {Q : Option ja_V → ja_H → Prop} (hdd : 6 < d) (hwd : ja_wd S ≤ 8) (hd : decode cc pc = .ok (.invokevirtual 801, 3)) (g : mo_G Zz h) (r1 : -2147483648 ≤ a1 ∧ a1 ≤ 2147483647) (r2 : -2147483648 ≤ a2 ∧ a2 ≤ 2147483647) (p1 : pk_S h (h 0 17).toNat s) (p2 : piB h R r ph tf q0 ((a1, a2, b) :: s) ht st rg tu) (p3 : tf_ok ph tf) (p4 : 31 ≤ a1 ∧ a1 ≤ 37) (k1 : ∀ (h' : ja_H), (pi_done h h' R r ph tf q0 (pi_mu h ((a1, a2, b) :: s))) → mo_G Zz h' → mJ l D cA ad d cc nL rt (pc + 3) L ((0, 1) :: S) h' Q) (k2 : ∀ (h' : ja_H), (0 < (h' 0 8) ∧ (h' 0 1) = (h 0 1) ∧ (h' 0 118) = (h 0 118) ∧ (h' 0 127) = (h 0 127)) → mo_G Zz h' → mJ l D cA ad d cc nL rt (pc + 3) L ((0, 0) :: S) h' Q) : mJ l D cA ad d cc nL rt pc L ((0, a2) :: (0, a1) :: (2, ((0 : Nat) : Int)) :: S) h Q :=
  mc_pickAct hdd hwd hd (s_pickAct g r1 r2 p1 p2 p3 p4 k1 k2)
end
