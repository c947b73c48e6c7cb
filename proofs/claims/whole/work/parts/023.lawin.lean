set_option maxRecDepth 20000 in
theorem wsL_law0_r21_in : ∀ w ∈ wsL_law0_r21, w ∈ lw_tbl := fun w h => (goodIn_p wsL_law0_r21 [597, 905, 604, 310, 909] (by decide +kernel) (by decide +kernel) w h).1
set_option maxRecDepth 20000 in
theorem wsL_law0_r22_in : ∀ w ∈ wsL_law0_r22, w ∈ lw_tbl := fun w h => (goodIn_p wsL_law0_r22 [913, 248, 917, 611, 921] (by decide +kernel) (by decide +kernel) w h).1
set_option maxRecDepth 20000 in
theorem wsL_law0_r23_in : ∀ w ∈ wsL_law0_r23, w ∈ lw_tbl := fun w h => (goodIn_p wsL_law0_r23 [925, 618, 256, 929, 933] (by decide +kernel) (by decide +kernel) w h).1
set_option maxRecDepth 20000 in
theorem wsL_law0_r24_in : ∀ w ∈ wsL_law0_r24, w ∈ lw_tbl := fun w h => (goodIn_p wsL_law0_r24 [625, 937, 632, 941] (by decide +kernel) (by decide +kernel) w h).1
set_option maxRecDepth 20000 in
theorem wsL_law0_r25_in : ∀ w ∈ wsL_law0_r25, w ∈ lw_tbl := fun w h => (goodIn_p wsL_law0_r25 [639, 945, 646, 318, 949] (by decide +kernel) (by decide +kernel) w h).1
set_option maxRecDepth 20000 in
theorem wsL_law0_r26_in : ∀ w ∈ wsL_law0_r26, w ∈ lw_tbl := fun w h => (goodIn_p wsL_law0_r26 [953, 252, 957, 961, 653, 323] (by decide +kernel) (by decide +kernel) w h).1
set_option maxRecDepth 20000 in
theorem wsL_law0_r27_in : ∀ w ∈ wsL_law0_r27, w ∈ lw_tbl := fun w h => (goodIn_p wsL_law0_r27 [965, 969, 660, 973] (by decide +kernel) (by decide +kernel) w h).1
set_option maxRecDepth 20000 in
theorem wsL_law0_r28_in : ∀ w ∈ wsL_law0_r28, w ∈ lw_tbl := fun w h => (goodIn_p wsL_law0_r28 [667, 977, 980, 261, 265, 984] (by decide +kernel) (by decide +kernel) w h).1
set_option maxRecDepth 20000 in
theorem wsL_law0_r29_in : ∀ w ∈ wsL_law0_r29, w ∈ lw_tbl := fun w h => (goodIn_p wsL_law0_r29 [674, 988, 992, 270, 996, 274] (by decide +kernel) (by decide +kernel) w h).1
set_option maxRecDepth 20000 in
theorem wsL_law0_r30_in : ∀ w ∈ wsL_law0_r30, w ∈ lw_tbl := fun w h => (goodIn_p wsL_law0_r30 [278, 286, 306, 314, 1000] (by decide +kernel) (by decide +kernel) w h).1
set_option maxRecDepth 20000 in
theorem wsL_law0_r31_in : ∀ w ∈ wsL_law0_r31, w ∈ lw_tbl := fun w h => (goodIn_p wsL_law0_r31 [] (by decide +kernel) (by decide +kernel) w h).1
theorem wsX20_i9 : ∀ w ∈ wsX20, w ∈ lw_tbl := by decide +kernel
theorem wsX30_i9 : ∀ w ∈ wsX30, w ∈ lw_tbl := by decide +kernel
theorem wsX00_i9 : ∀ w ∈ wsX00, w ∈ lw_tbl := by decide +kernel
theorem wsX10_i9 : ∀ w ∈ wsX10, w ∈ lw_tbl := by decide +kernel
theorem wsL_law_in0 : ∀ w ∈ wsL_law0, w ∈ lw_tbl := by
  intro w h
  unfold wsL_law0 at h
  rcases List.mem_append.mp h with h | h
  case inr => exact absurd h List.not_mem_nil
  rcases List.mem_append.mp h with h | h
  case inr => first | exact wsX10_i9 w h | exact absurd h List.not_mem_nil
  rcases List.mem_append.mp h with h | h
  case inr => first | exact wsX00_i9 w h | exact absurd h List.not_mem_nil
  rcases List.mem_append.mp h with h | h
  case inr => first | exact wsX30_i9 w h | exact absurd h List.not_mem_nil
  rcases List.mem_append.mp h with h | h
  case inr => first | exact wsX20_i9 w h | exact absurd h List.not_mem_nil
  rcases List.mem_append.mp h with h | h
  case inl => exact wsL_law0_r1_in w h
  rcases List.mem_append.mp h with h | h
  case inl => exact wsL_law0_r2_in w h
  rcases List.mem_append.mp h with h | h
  case inl => exact wsL_law0_r3_in w h
  rcases List.mem_append.mp h with h | h
  case inl => exact wsL_law0_r4_in w h
  rcases List.mem_append.mp h with h | h
  case inl => exact wsL_law0_r5_in w h
  rcases List.mem_append.mp h with h | h
  case inl => exact wsL_law0_r6_in w h
  rcases List.mem_append.mp h with h | h
  case inl => exact wsL_law0_r7_in w h
  rcases List.mem_append.mp h with h | h
  case inl => exact wsL_law0_r8_in w h
  rcases List.mem_append.mp h with h | h
  case inl => exact wsL_law0_r9_in w h
  rcases List.mem_append.mp h with h | h
  case inl => exact wsL_law0_r10_in w h
  rcases List.mem_append.mp h with h | h
  case inl => exact wsL_law0_r11_in w h
  rcases List.mem_append.mp h with h | h
  case inl => exact wsL_law0_r12_in w h
  rcases List.mem_append.mp h with h | h
  case inl => exact wsL_law0_r13_in w h
  rcases List.mem_append.mp h with h | h
  case inl => exact wsL_law0_r14_in w h
  rcases List.mem_append.mp h with h | h
  case inl => exact wsL_law0_r15_in w h
  rcases List.mem_append.mp h with h | h
  case inl => exact wsL_law0_r16_in w h
  rcases List.mem_append.mp h with h | h
  case inl => exact wsL_law0_r17_in w h
  rcases List.mem_append.mp h with h | h
  case inl => exact wsL_law0_r18_in w h
  rcases List.mem_append.mp h with h | h
  case inl => exact wsL_law0_r19_in w h
  rcases List.mem_append.mp h with h | h
  case inl => exact wsL_law0_r20_in w h
  rcases List.mem_append.mp h with h | h
  case inl => exact wsL_law0_r21_in w h
  rcases List.mem_append.mp h with h | h
  case inl => exact wsL_law0_r22_in w h
  rcases List.mem_append.mp h with h | h
  case inl => exact wsL_law0_r23_in w h
  rcases List.mem_append.mp h with h | h
  case inl => exact wsL_law0_r24_in w h
  rcases List.mem_append.mp h with h | h
  case inl => exact wsL_law0_r25_in w h
  rcases List.mem_append.mp h with h | h
  case inl => exact wsL_law0_r26_in w h
  rcases List.mem_append.mp h with h | h
  case inl => exact wsL_law0_r27_in w h
  rcases List.mem_append.mp h with h | h
  case inl => exact wsL_law0_r28_in w h
  rcases List.mem_append.mp h with h | h
  case inl => exact wsL_law0_r29_in w h
  rcases List.mem_append.mp h with h | h
  case inl => exact wsL_law0_r30_in w h
  exact wsL_law0_r31_in w h
