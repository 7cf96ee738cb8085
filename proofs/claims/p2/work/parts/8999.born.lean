/-! the class's world is born (written by a program) -/
def cb_t : List (List Int) := [[0, 0, 0, 0, 0, 0, 0, 0, 0, 0, -1, -1], [0, 0, 0, 0, 0, 0, 0, 0], [0, 0], [0, 0, 0, 0, 0, 0, 0, 0, 0, 0, 0, 0, 0, 0, 0, 0, 0, 0], [0, 0, 0, 0, 0, 0, 0, 0, 0, 0, 0, 0, 0, 0, 0, 0, 0, 0, 0, 0, 0], [0, 0, 0], [0, 0, 0, 0, 0, 0], [0, 0, 0, 0, 0, 0, 0, 0, 0, 0, 0], [0, 0, 0, 0, 0, 0, 0, 0, 0, 0, 0, 0, 0, 0, 0], [0, 0, 0, 0, 0, 0, 0, 0, 0, 0, 0, -1], [], [], [], [], [0, 2, 0], [], [0, 5, 0], [], [0, 9, 0], [], [0, 5, 0], [], [0, 7, 0], [], [0, 5, 0], [], [0, 4, 0], [], [0, 7, 0], [], [0, 6, 0], [], [0, 3, 0], [], [0, 7, 0], [], [0, 4, 0], [], [0, 3, 0], [], [0, 10, 0], [], [0, 4, 0], [], [0, 2, 0], [], [0, 3, 0], [], [0, 2, 0], [], [0, 1, 0], [], [0, 2, 0], [], [], [0, 1, 0], [], [0, 1, 0], [], [0], [], [0], [], [], [0], [], [0, 2, 0], [], [0, 2, 0], [], [0, 7, 0], [], [0], [], [0], [], [0, 3, 0], [], [0], [], [], [0], [], [0], []]
def cb_h (f : Nat → Int32) : ja_H := fun k j => match k with
  | 10 => (va_cpy f (fun _ => 0) (0 : Int32).toNatClampNeg (5000 : Int32).toNatClampNeg (14 : Int32).toNatClampNeg j).toInt
  | k => (cb_t.getD k []).getD j 0
def cb_g : List Nat := [0, 1, 10, 11, 46, 49, 50, 54, 66, 67, 2, 3, 4, 5, 6, 7, 8, 9, 12, 13, 14, 15, 16, 17, 18, 19, 20, 21, 22, 23, 24, 25, 26, 27, 28, 29, 30, 31, 32, 33, 34, 35, 36, 37, 38, 39, 40, 41, 42, 43, 44, 45, 47, 48, 51, 52, 53, 55, 56, 57, 58, 59, 60, 61, 62, 63, 64, 65, 77, 78, 79, 80, 81, 82, 83, 84, 68, 69, 70, 71, 72, 73, 74, 75, 76]
def cb_ad (a q1 q2 q3 q4 q5 q6 q7 q8 q9 q10 q11 q12 q13 q14 q15 q16 q17 q18 q19 q20 q21 q22 q23 q24 q25 q26 q27 q28 q29 q30 q31 q32 q33 q34 q35 q36 q37 q38 q39 q40 q41 q42 q43 q44 q45 q46 q47 q48 q49 q50 q51 q52 q53 q54 q55 q56 q57 q58 q59 q60 q61 q62 q63 q64 q65 q66 q67 q68 q69 q70 q71 q72 q73 q74 q75 q76 q77 q78 q79 q80 q81 q82 q83 q84 : Nat) : Nat → Nat := fun k => ([a, q1, q10, q11, q46, q49, q50, q54, q66, q67, q2, q3, q4, q5, q6, q7, q8, q9, q12, q13, q14, q15, q16, q17, q18, q19, q20, q21, q22, q23, q24, q25, q26, q27, q28, q29, q30, q31, q32, q33, q34, q35, q36, q37, q38, q39, q40, q41, q42, q43, q44, q45, q47, q48, q51, q52, q53, q55, q56, q57, q58, q59, q60, q61, q62, q63, q64, q65, q77, q78, q79, q80, q81, q82, q83, q84, q68, q69, q70, q71, q72, q73, q74, q75, q76] : List Nat).getD k 0
theorem cb_at {cA : Nat → ClassId} {f : Nat → Int32} {a q1 q2 q3 q4 q5 q6 q7 q8 q9 q10 q11 q12 q13 q14 q15 q16 q17 q18 q19 q20 q21 q22 q23 q24 q25 q26 q27 q28 q29 q30 q31 q32 q33 q34 q35 q36 q37 q38 q39 q40 q41 q42 q43 q44 q45 q46 q47 q48 q49 q50 q51 q52 q53 q54 q55 q56 q57 q58 q59 q60 q61 q62 q63 q64 q65 q66 q67 q68 q69 q70 q71 q72 q73 q74 q75 q76 q77 q78 q79 q80 q81 q82 q83 q84 : Nat} : ∀ k, k < 85 → ([(a, .inr (11, [.ref q1, .ref q10, .ref q11, .ref q46, .ref q49, .ref q50, .ref q54, .ref q66, .int 0, .int 0, .int (-1), .int (-1)])), (q1, .inr (9, [.ref q2, .ref q3, .ref q4, .ref q5, .ref q6, .ref q8, .int 0, .int 0])), (q2, .inl (cA 1, 5014, .inl (va_cpy f (fun _ => 0) (0 : Int32).toNatClampNeg (5000 : Int32).toNatClampNeg (14 : Int32).toNatClampNeg))), (q3, .inl (cA 0, 902, .inl (fun _ => 0))), (q4, .inl (cA 0, 902, .inl (fun _ => 0))), (q5, .inl (cA 0, 902, .inl (fun _ => 0))), (q6, .inr (8, [.ref q7, .int 2, .int 0])), (q7, .inl (cA 0, 1808, .inl (fun _ => 0))), (q8, .inr (8, [.ref q9, .int 5, .int 0])), (q9, .inl (cA 0, 4510, .inl (fun _ => 0))), (q10, .inr (1, [.int 0, .int 0])), (q11, .inr (6, [.ref q12, .ref q14, .ref q16, .ref q18, .ref q20, .ref q22, .ref q24, .ref q26, .ref q28, .ref q30, .ref q32, .ref q34, .ref q36, .ref q38, .ref q40, .ref q42, .ref q44, .int 0])), (q12, .inr (8, [.ref q13, .int 9, .int 0])), (q13, .inl (cA 0, 108, .inl (fun _ => 0))), (q14, .inr (8, [.ref q15, .int 5, .int 0])), (q15, .inl (cA 0, 1500, .inl (fun _ => 0))), (q16, .inr (8, [.ref q17, .int 7, .int 0])), (q17, .inl (cA 0, 420, .inl (fun _ => 0))), (q18, .inr (8, [.ref q19, .int 5, .int 0])), (q19, .inl (cA 0, 40, .inl (fun _ => 0))), (q20, .inr (8, [.ref q21, .int 4, .int 0])), (q21, .inl (cA 0, 320, .inl (fun _ => 0))), (q22, .inr (8, [.ref q23, .int 7, .int 0])), (q23, .inl (cA 0, 168, .inl (fun _ => 0))), (q24, .inr (8, [.ref q25, .int 6, .int 0])), (q25, .inl (cA 0, 144, .inl (fun _ => 0))), (q26, .inr (8, [.ref q27, .int 3, .int 0])), (q27, .inl (cA 0, 36, .inl (fun _ => 0))), (q28, .inr (8, [.ref q29, .int 7, .int 0])), (q29, .inl (cA 0, 2800, .inl (fun _ => 0))), (q30, .inr (8, [.ref q31, .int 4, .int 0])), (q31, .inl (cA 0, 10800, .inl (fun _ => 0))), (q32, .inr (8, [.ref q33, .int 3, .int 0])), (q33, .inl (cA 0, 384, .inl (fun _ => 0))), (q34, .inr (8, [.ref q35, .int 10, .int 0])), (q35, .inl (cA 0, 9040, .inl (fun _ => 0))), (q36, .inr (8, [.ref q37, .int 4, .int 0])), (q37, .inl (cA 0, 3600, .inl (fun _ => 0))), (q38, .inr (8, [.ref q39, .int 2, .int 0])), (q39, .inl (cA 0, 1800, .inl (fun _ => 0))), (q40, .inr (8, [.ref q41, .int 3, .int 0])), (q41, .inl (cA 0, 540, .inl (fun _ => 0))), (q42, .inr (8, [.ref q43, .int 2, .int 0])), (q43, .inl (cA 0, 1800, .inl (fun _ => 0))), (q44, .inr (8, [.ref q45, .int 1, .int 0])), (q45, .inl (cA 0, 24, .inl (fun _ => 0))), (q46, .inr (5, [.ref q1, .ref q10, .ref q11, .ref q47, .int 0, .int 0, .int 0, .int 0, .int 0, .int 0, .int 0, .int 0, .int 0, .int 0, .int 0, .int 0, .int 0, .int 0, .int 0, .int 0, .int 0])), (q47, .inr (8, [.ref q48, .int 2, .int 0])), (q48, .inl (cA 0, 20, .inl (fun _ => 0))), (q49, .inr (3, [.ref q10, .ref q11, .int 0])), (q50, .inr (0, [.ref q1, .ref q10, .ref q11, .ref q51, .ref q52, .int 0])), (q51, .inl (cA 0, 7000, .inl (fun _ => 0))), (q52, .inr (8, [.ref q53, .int 1, .int 0])), (q53, .inl (cA 0, 4800, .inl (fun _ => 0))), (q54, .inr (7, [.ref q11, .ref q55, .ref q57, .ref q59, .ref q61, .ref q62, .ref q64, .int 0, .int 0, .int 0, .int 0])), (q55, .inr (8, [.ref q56, .int 1, .int 0])), (q56, .inl (cA 0, 200, .inl (fun _ => 0))), (q57, .inr (10, [.ref q58])), (q58, .inl (cA 3, 24000, .inr (.inl (fun _ => 0)))), (q59, .inr (10, [.ref q60])), (q60, .inl (cA 3, 16080, .inr (.inl (fun _ => 0)))), (q61, .inl (cA 3, 4704, .inr (.inl (fun _ => 0)))), (q62, .inr (10, [.ref q63])), (q63, .inl (cA 3, 300, .inr (.inl (fun _ => 0)))), (q64, .inr (8, [.ref q65, .int 2, .int 0])), (q65, .inl (cA 0, 600, .inl (fun _ => 0))), (q66, .inr (4, [.ref q11, .ref q54, .ref q67, .ref q77, .ref q79, .ref q81, .ref q83, .int 0, .int 0, .long 0, .int 0, .int 0, .int 0, .int 0, .long 0])), (q67, .inr (2, [.ref q11, .ref q50, .ref q54, .ref q68, .ref q70, .ref q72, .ref q73, .ref q75, .int 0, .int 0, .int 0, .int (-1)])), (q68, .inr (8, [.ref q69, .int 3, .int 0])), (q69, .inl (cA 0, 252, .inl (fun _ => 0))), (q70, .inr (10, [.ref q71])), (q71, .inl (cA 3, 672, .inr (.inl (fun _ => 0)))), (q72, .inl (cA 0, 2016, .inl (fun _ => 0))), (q73, .inr (10, [.ref q74])), (q74, .inl (cA 3, 12096, .inr (.inl (fun _ => 0)))), (q75, .inr (10, [.ref q76])), (q76, .inl (cA 3, 12, .inr (.inl (fun _ => 0)))), (q77, .inr (8, [.ref q78, .int 2, .int 0])), (q78, .inl (cA 0, 4368, .inl (fun _ => 0))), (q79, .inr (8, [.ref q80, .int 7, .int 0])), (q80, .inl (cA 0, 287, .inl (fun _ => 0))), (q81, .inr (10, [.ref q82])), (q82, .inl (cA 3, 738, .inr (.inl (fun _ => 0)))), (q83, .inr (10, [.ref q84])), (q84, .inl (cA 3, 6, .inr (.inl (fun _ => 0))))] : va_W)[cb_g.getD k 0]? = some ((cb_ad a q1 q2 q3 q4 q5 q6 q7 q8 q9 q10 q11 q12 q13 q14 q15 q16 q17 q18 q19 q20 q21 q22 q23 q24 q25 q26 q27 q28 q29 q30 q31 q32 q33 q34 q35 q36 q37 q38 q39 q40 q41 q42 q43 q44 q45 q46 q47 q48 q49 q50 q51 q52 q53 q54 q55 q56 q57 q58 q59 q60 q61 q62 q63 q64 q65 q66 q67 q68 q69 q70 q71 q72 q73 q74 q75 q76 q77 q78 q79 q80 q81 q82 q83 q84) k, ja_e cA (cb_ad a q1 q2 q3 q4 q5 q6 q7 q8 q9 q10 q11 q12 q13 q14 q15 q16 q17 q18 q19 q20 q21 q22 q23 q24 q25 q26 q27 q28 q29 q30 q31 q32 q33 q34 q35 q36 q37 q38 q39 q40 q41 q42 q43 q44 q45 q46 q47 q48 q49 q50 q51 q52 q53 q54 q55 q56 q57 q58 q59 q60 q61 q62 q63 q64 q65 q66 q67 q68 q69 q70 q71 q72 q73 q74 q75 q76 q77 q78 q79 q80 q81 q82 q83 q84) cw_sp (cb_h f) k) := by
  intro k hk
  match k, hk with
  | 0, _ => rfl
  | 1, _ => rfl
  | 2, _ => rfl
  | 3, _ => rfl
  | 4, _ => rfl
  | 5, _ => rfl
  | 6, _ => rfl
  | 7, _ => rfl
  | 8, _ => rfl
  | 9, _ => rfl
  | 10, _ => 
    show some _ = some _
    have e : (fun j => Int32.ofInt (cb_h f 10 j)) = va_cpy f (fun _ => 0) (0 : Int32).toNatClampNeg (5000 : Int32).toNatClampNeg (14 : Int32).toNatClampNeg := by
      funext j
      exact Int32.ofInt_toInt _
    rw [← e]
    rfl
  | 11, _ => rfl
  | 12, _ => rfl
  | 13, _ => rfl
  | 14, _ => rfl
  | 15, _ => rfl
  | 16, _ => rfl
  | 17, _ => rfl
  | 18, _ => rfl
  | 19, _ => rfl
  | 20, _ => rfl
  | 21, _ => rfl
  | 22, _ => rfl
  | 23, _ => rfl
  | 24, _ => rfl
  | 25, _ => rfl
  | 26, _ => rfl
  | 27, _ => rfl
  | 28, _ => rfl
  | 29, _ => rfl
  | 30, _ => rfl
  | 31, _ => rfl
  | 32, _ => rfl
  | 33, _ => rfl
  | 34, _ => rfl
  | 35, _ => rfl
  | 36, _ => rfl
  | 37, _ => rfl
  | 38, _ => rfl
  | 39, _ => rfl
  | 40, _ => rfl
  | 41, _ => rfl
  | 42, _ => rfl
  | 43, _ => rfl
  | 44, _ => rfl
  | 45, _ => rfl
  | 46, _ => rfl
  | 47, _ => rfl
  | 48, _ => rfl
  | 49, _ => rfl
  | 50, _ => rfl
  | 51, _ => rfl
  | 52, _ => rfl
  | 53, _ => rfl
  | 54, _ => rfl
  | 55, _ => rfl
  | 56, _ => rfl
  | 57, _ => rfl
  | 58, _ => rfl
  | 59, _ => rfl
  | 60, _ => rfl
  | 61, _ => rfl
  | 62, _ => rfl
  | 63, _ => rfl
  | 64, _ => rfl
  | 65, _ => rfl
  | 66, _ => rfl
  | 67, _ => rfl
  | 68, _ => rfl
  | 69, _ => rfl
  | 70, _ => rfl
  | 71, _ => rfl
  | 72, _ => rfl
  | 73, _ => rfl
  | 74, _ => rfl
  | 75, _ => rfl
  | 76, _ => rfl
  | 77, _ => rfl
  | 78, _ => rfl
  | 79, _ => rfl
  | 80, _ => rfl
  | 81, _ => rfl
  | 82, _ => rfl
  | 83, _ => rfl
  | 84, _ => rfl
  | n + 85, h => exact absurd h (by omega)
