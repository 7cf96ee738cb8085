theorem cl_x0 : u_ws RX0 TX0 6 = ([627, 629, 631, 633, 635, 637] : List Nat).filterMap (fun i => lw_tbl[i]?) := by decide +kernel
theorem cl_g0 : (u_ws RX0 TX0 6).all goodWord = true := by decide +kernel
theorem cl_in0 : ∀ w ∈ u_ws RX0 TX0 6, w ∈ ja_B := by
  intro w hw
  refine ja_m ?_ (List.all_eq_true.mp cl_g0 w hw)
  rw [cl_x0] at hw
  obtain ⟨i, -, hi⟩ := List.mem_filterMap.mp hw
  exact List.mem_of_getElem? hi
theorem cl_x1 : u_ws RX1 TX1 2 = ([392, 394] : List Nat).filterMap (fun i => lw_tbl[i]?) := by decide +kernel
theorem cl_g1 : (u_ws RX1 TX1 2).all goodWord = true := by decide +kernel
theorem cl_in1 : ∀ w ∈ u_ws RX1 TX1 2, w ∈ ja_B := by
  intro w hw
  refine ja_m ?_ (List.all_eq_true.mp cl_g1 w hw)
  rw [cl_x1] at hw
  obtain ⟨i, -, hi⟩ := List.mem_filterMap.mp hw
  exact List.mem_of_getElem? hi
theorem cl_x2 : u_ws RX2 TX2 12 = ([717, 719, 721, 723, 725, 727, 729, 731, 733, 735, 737, 739] : List Nat).filterMap (fun i => lw_tbl[i]?) := by decide +kernel
theorem cl_g2 : (u_ws RX2 TX2 12).all goodWord = true := by decide +kernel
theorem cl_in2 : ∀ w ∈ u_ws RX2 TX2 12, w ∈ ja_B := by
  intro w hw
  refine ja_m ?_ (List.all_eq_true.mp cl_g2 w hw)
  rw [cl_x2] at hw
  obtain ⟨i, -, hi⟩ := List.mem_filterMap.mp hw
  exact List.mem_of_getElem? hi
theorem cl_x3 : u_ws RX3 TX3 3 = ([605, 607, 609] : List Nat).filterMap (fun i => lw_tbl[i]?) := by decide +kernel
theorem cl_g3 : (u_ws RX3 TX3 3).all goodWord = true := by decide +kernel
theorem cl_in3 : ∀ w ∈ u_ws RX3 TX3 3, w ∈ ja_B := by
  intro w hw
  refine ja_m ?_ (List.all_eq_true.mp cl_g3 w hw)
  rw [cl_x3] at hw
  obtain ⟨i, -, hi⟩ := List.mem_filterMap.mp hw
  exact List.mem_of_getElem? hi
theorem cl_x4 : u_ws RX4 TX4 15 = ([765, 767, 769, 771, 773, 775, 777, 779, 781, 783, 785, 787, 789, 791, 793] : List Nat).filterMap (fun i => lw_tbl[i]?) := by decide +kernel
theorem cl_g4 : (u_ws RX4 TX4 15).all goodWord = true := by decide +kernel
theorem cl_in4 : ∀ w ∈ u_ws RX4 TX4 15, w ∈ ja_B := by
  intro w hw
  refine ja_m ?_ (List.all_eq_true.mp cl_g4 w hw)
  rw [cl_x4] at hw
  obtain ⟨i, -, hi⟩ := List.mem_filterMap.mp hw
  exact List.mem_of_getElem? hi
theorem cl_x5 : u_ws RX5 TX5 21 = ([553, 555, 557, 559, 561, 563, 565, 567, 569, 571, 573, 575, 577, 579, 581, 583, 585, 587, 589, 591, 593] : List Nat).filterMap (fun i => lw_tbl[i]?) := by decide +kernel
theorem cl_g5 : (u_ws RX5 TX5 21).all goodWord = true := by decide +kernel
theorem cl_in5 : ∀ w ∈ u_ws RX5 TX5 21, w ∈ ja_B := by
  intro w hw
  refine ja_m ?_ (List.all_eq_true.mp cl_g5 w hw)
  rw [cl_x5] at hw
  obtain ⟨i, -, hi⟩ := List.mem_filterMap.mp hw
  exact List.mem_of_getElem? hi
theorem cl_x6 : u_ws RX6 TX6 18 = ([487, 489, 491, 493, 495, 497, 499, 501, 503, 505, 507, 509, 511, 513, 515, 517, 519, 521] : List Nat).filterMap (fun i => lw_tbl[i]?) := by decide +kernel
theorem cl_g6 : (u_ws RX6 TX6 18).all goodWord = true := by decide +kernel
theorem cl_in6 : ∀ w ∈ u_ws RX6 TX6 18, w ∈ ja_B := by
  intro w hw
  refine ja_m ?_ (List.all_eq_true.mp cl_g6 w hw)
  rw [cl_x6] at hw
  obtain ⟨i, -, hi⟩ := List.mem_filterMap.mp hw
  exact List.mem_of_getElem? hi
theorem cl_x7 : u_ws RX7 TX7 11 = ([670, 672, 674, 676, 678, 680, 682, 684, 686, 688, 690] : List Nat).filterMap (fun i => lw_tbl[i]?) := by decide +kernel
theorem cl_g7 : (u_ws RX7 TX7 11).all goodWord = true := by decide +kernel
theorem cl_in7 : ∀ w ∈ u_ws RX7 TX7 11, w ∈ ja_B := by
  intro w hw
  refine ja_m ?_ (List.all_eq_true.mp cl_g7 w hw)
  rw [cl_x7] at hw
  obtain ⟨i, -, hi⟩ := List.mem_filterMap.mp hw
  exact List.mem_of_getElem? hi
theorem cl_x8 : u_ws RX8 TX8 3 = ([342, 344, 346] : List Nat).filterMap (fun i => lw_tbl[i]?) := by decide +kernel
theorem cl_g8 : (u_ws RX8 TX8 3).all goodWord = true := by decide +kernel
theorem cl_in8 : ∀ w ∈ u_ws RX8 TX8 3, w ∈ ja_B := by
  intro w hw
  refine ja_m ?_ (List.all_eq_true.mp cl_g8 w hw)
  rw [cl_x8] at hw
  obtain ⟨i, -, hi⟩ := List.mem_filterMap.mp hw
  exact List.mem_of_getElem? hi
theorem cl_x9 : u_ws RX9 TX9 8 = ([367, 369, 371, 373, 375, 377, 379, 381] : List Nat).filterMap (fun i => lw_tbl[i]?) := by decide +kernel
theorem cl_g9 : (u_ws RX9 TX9 8).all goodWord = true := by decide +kernel
theorem cl_in9 : ∀ w ∈ u_ws RX9 TX9 8, w ∈ ja_B := by
  intro w hw
  refine ja_m ?_ (List.all_eq_true.mp cl_g9 w hw)
  rw [cl_x9] at hw
  obtain ⟨i, -, hi⟩ := List.mem_filterMap.mp hw
  exact List.mem_of_getElem? hi
theorem cl_x10 : u_ws RX10 TX10 1 = ([655] : List Nat).filterMap (fun i => lw_tbl[i]?) := by decide +kernel
theorem cl_g10 : (u_ws RX10 TX10 1).all goodWord = true := by decide +kernel
theorem cl_in10 : ∀ w ∈ u_ws RX10 TX10 1, w ∈ ja_B := by
  intro w hw
  refine ja_m ?_ (List.all_eq_true.mp cl_g10 w hw)
  rw [cl_x10] at hw
  obtain ⟨i, -, hi⟩ := List.mem_filterMap.mp hw
  exact List.mem_of_getElem? hi
theorem cl_x11 : u_ws RX11 TX11 12 = ([808, 810, 812, 814, 816, 818, 820, 822, 824, 826, 828, 830] : List Nat).filterMap (fun i => lw_tbl[i]?) := by decide +kernel
theorem cl_g11 : (u_ws RX11 TX11 12).all goodWord = true := by decide +kernel
theorem cl_in11 : ∀ w ∈ u_ws RX11 TX11 12, w ∈ ja_B := by
  intro w hw
  refine ja_m ?_ (List.all_eq_true.mp cl_g11 w hw)
  rw [cl_x11] at hw
  obtain ⟨i, -, hi⟩ := List.mem_filterMap.mp hw
  exact List.mem_of_getElem? hi
theorem cl_x12 : u_ws RX12 TX12 209 = ([2366, 2368, 2370, 2372, 2374, 2376, 2378, 2380, 2382, 2384, 2386, 2388, 2390, 2392, 2394, 2396, 2398, 2400, 2402, 2404, 2406, 2408, 2410, 2412, 2414, 2416, 2418, 2420, 2422, 2424, 2426, 2428, 2430, 2432, 2434, 2436, 2438, 2440, 2442, 2444, 2446, 2448, 2450, 2452, 2454, 2456, 2458, 2460, 2462, 2464, 2466, 2468, 2470, 2472, 2474, 2476, 2478, 2480, 2482, 2484, 2486, 2488, 2490, 2492, 2494, 2496, 2498, 2500, 2502, 2504, 2506, 2508, 2510, 2512, 2514, 2516, 2518, 2520, 2522, 2524, 2526, 2528, 2530, 2532, 2534, 2536, 2538, 2540, 2542, 2544, 2546, 2548, 2550, 2552, 2554, 2556, 2558, 2560, 2562, 2564, 2566, 2568, 2570, 2572, 2574, 2576, 2578, 2580, 2582, 2584, 2586, 2588, 2590, 2592, 2594, 2596, 2598, 2600, 2602, 2604, 2606, 2608, 2610, 2612, 2614, 2616, 2618, 2620, 2622, 2624, 2626, 2628, 2630, 2632, 2634, 2636, 2638, 2640, 2642, 2644, 2646, 2648, 2650, 2652, 2654, 2656, 2658, 2660, 2662, 2664, 2666, 2668, 2670, 2672, 2674, 2676, 2678, 2680, 2682, 2684, 2686, 2688, 2690, 2692, 2694, 2696, 2698, 2700, 2702, 2704, 2706, 2708, 2710, 2712, 2714, 2716, 2718, 2720, 2722, 2724, 2726, 2728, 2730, 2732, 2734, 2736, 2738, 2740, 2742, 2744, 2746, 2748, 2750, 2752, 2754, 2756, 2758, 2760, 2762, 2764, 2766, 2768, 2770, 2772, 2774, 2776, 2778, 2780, 2782] : List Nat).filterMap (fun i => lw_tbl[i]?) := by decide +kernel
theorem cl_g12 : (u_ws RX12 TX12 209).all goodWord = true := by decide +kernel
theorem cl_in12 : ∀ w ∈ u_ws RX12 TX12 209, w ∈ ja_B := by
  intro w hw
  refine ja_m ?_ (List.all_eq_true.mp cl_g12 w hw)
  rw [cl_x12] at hw
  obtain ⟨i, -, hi⟩ := List.mem_filterMap.mp hw
  exact List.mem_of_getElem? hi
theorem cl_in {c : Nat} {r : vw_C} (h : ja_cl[c]? = some r) : ∀ w ∈ u_ws r.1 r.2.1 r.2.2, w ∈ ja_B := by
  match c, h with
  | 0, h => cases h; exact cl_in0
  | 1, h => cases h; exact cl_in1
  | 2, h => cases h; exact cl_in2
  | 3, h => cases h; exact cl_in3
  | 4, h => cases h; exact cl_in4
  | 5, h => cases h; exact cl_in5
  | 6, h => cases h; exact cl_in6
  | 7, h => cases h; exact cl_in7
  | 8, h => cases h; exact cl_in8
  | 9, h => cases h; exact cl_in9
  | 10, h => cases h; exact cl_in10
  | 11, h => cases h; exact cl_in11
  | 12, h => cases h; exact cl_in12
  | n + 13, h => simp [ja_cl] at h
theorem cl_ty {c : Nat} {r : vw_C} (h : ja_cl[c]? = some r) : ∃ ty : Nat → FieldType, ck_tys[c]? = some ty ∧ (∀ k, k < r.2.2 → parseFieldDescriptor (r.2.1 k).2.2.1 = some (ty k)) ∧ ∀ a, a < r.2.2 → ∀ b, b < r.2.2 → a ≠ b → (r.2.1 a).2.1 ≠ (r.2.1 b).2.1 := by
  match c, h with
  | 0, h => cases h; exact ⟨tyX0, rfl, tyX0_ok, nmX0⟩
  | 1, h => cases h; exact ⟨tyX1, rfl, tyX1_ok, nmX1⟩
  | 2, h => cases h; exact ⟨tyX2, rfl, tyX2_ok, nmX2⟩
  | 3, h => cases h; exact ⟨tyX3, rfl, tyX3_ok, nmX3⟩
  | 4, h => cases h; exact ⟨tyX4, rfl, tyX4_ok, nmX4⟩
  | 5, h => cases h; exact ⟨tyX5, rfl, tyX5_ok, nmX5⟩
  | 6, h => cases h; exact ⟨tyX6, rfl, tyX6_ok, nmX6⟩
  | 7, h => cases h; exact ⟨tyX7, rfl, tyX7_ok, nmX7⟩
  | 8, h => cases h; exact ⟨tyX8, rfl, tyX8_ok, nmX8⟩
  | 9, h => cases h; exact ⟨tyX9, rfl, tyX9_ok, nmX9⟩
  | 10, h => cases h; exact ⟨tyX10, rfl, tyX10_ok, nmX10⟩
  | 11, h => cases h; exact ⟨tyX11, rfl, tyX11_ok, nmX11⟩
  | 12, h => cases h; exact ⟨tyX12, rfl, tyX12_ok, nmX12⟩
  | n + 13, h => simp [ja_cl] at h
theorem cl_mm : Cond.static Lib.Math.max.name ∈ ja_B ∧ Cond.initialized "java/lang/Math" ∈ ja_B ∧ Cond.code Lib.Math.max.name Lib.Math.max.code 2 (some .int) ∈ ja_B := ⟨ja_m (List.mem_of_getElem? (i := 1405) (by decide +kernel)) rfl, ja_m (List.mem_of_getElem? (i := 316) (by decide +kernel)) rfl, ja_m (List.mem_of_getElem? (i := 1406) (by decide +kernel)) rfl⟩
