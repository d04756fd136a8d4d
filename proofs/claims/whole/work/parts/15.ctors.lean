def wX7 (h0 : Nat) (sa sb : Nat) (dA : Nat → ClassId) (f : Nat → Nat) : va_W := [(h0, .inr (7, [.ref (f 0), .int 0, .int 0, .int 0])), ((f 0), .inl (dA 0, 240, .inl (fun _ => 0)))]
set_option maxRecDepth 100000 in
set_option maxHeartbeats 4000000 in
theorem c_X7_init (l : Launch) (h0 : Nat) : gc_Met l 0 yX7_init cX7_init 1 (fun _ _ => [.ref h0]) [(h0, .inr (7, nv_7))] (wX7 h0) 1 240 := by
  refine gc_of RX7 (by decide) rfl rfl (Nat.le_of_ble_eq_true rfl) (fun X C E => ?_)
  show gc_AW X 0 0 0 [(0, .ref h0)] [] [(h0, .inr (7, nv_7))]
  refine gc_aload_n (pc := 0) C 0 dX7_init_0 rfl rfl ?_
  refine gc_obj (pc := 1) C dX7_init_1 ml_X7_3 (Nat.le_of_ble_eq_true rfl) ?_
  refine gc_aload_n (pc := 4) C 0 dX7_init_4 rfl rfl ?_
  refine gc_sipush (w := (240)) (pc := 5) C dX7_init_5 rfl ?_
  refine gc_newa (t := 0) (N := 240) (ty := .int) (a0 := (.inl (fun _ => 0))) (pc := 8) C rfl (fun _ => rfl) (fun _ _ h => h) (fun _ => rfl) dX7_init_8 ar_int (by decide) (by decide) (by decide) (by decide) (by decide) (fun q0 => ?_)
  refine gc_put (pc := 10) C gk_7 0 0 dX7_init_10 rfl fc_X7_11 rfl rfl (Nat.le_of_ble_eq_true rfl) ?_
  show gc_AW X 1 240 13 [(0, .ref h0)] [] [(h0, .inr (7, [.ref q0, .int 0, .int 0, .int 0])), (q0, .inl (gc_dA X 0, 240, .inl (fun _ => 0)))]
  exact gc_ret C (pc := 13) (fun i => ([q0] : List Nat).getD i 0) dX7_init_13 E (by decide) (by decide) rfl
def wX9 (h0 : Nat) (sa sb : Nat) (dA : Nat → ClassId) (f : Nat → Nat) : va_W := [(h0, .inr (9, [.ref (f 0), .ref (f 1), .int 0, .int 0])), ((f 0), .inl (dA 0, 3, .inl (fun _ => 0))), ((f 1), .inl (dA 0, 40, .inl (fun _ => 0)))]
set_option maxRecDepth 100000 in
set_option maxHeartbeats 4000000 in
theorem c_X9_init (l : Launch) (h0 : Nat) : gc_Met l 0 yX9_init cX9_init 1 (fun _ _ => [.ref h0]) [(h0, .inr (9, nv_9))] (wX9 h0) 2 43 := by
  refine gc_of RX9 (by decide) rfl rfl (Nat.le_of_ble_eq_true rfl) (fun X C E => ?_)
  show gc_AW X 0 0 0 [(0, .ref h0)] [] [(h0, .inr (9, nv_9))]
  refine gc_aload_n (pc := 0) C 0 dX9_init_0 rfl rfl ?_
  refine gc_obj (pc := 1) C dX9_init_1 ml_X9_3 (Nat.le_of_ble_eq_true rfl) ?_
  refine gc_aload_n (pc := 4) C 0 dX9_init_4 rfl rfl ?_
  refine gc_iconst (w := (3)) (pc := 5) C dX9_init_5 rfl ?_
  refine gc_newa (t := 0) (N := 3) (ty := .int) (a0 := (.inl (fun _ => 0))) (pc := 6) C rfl (fun _ => rfl) (fun _ _ h => h) (fun _ => rfl) dX9_init_6 ar_int (by decide) (by decide) (by decide) (by decide) (by decide) (fun q0 => ?_)
  refine gc_put (pc := 8) C gk_9 0 0 dX9_init_8 rfl fc_X9_11 rfl rfl (Nat.le_of_ble_eq_true rfl) ?_
  show gc_AW X 1 3 11 [(0, .ref h0)] [] [(h0, .inr (9, [.ref q0, .null, .int 0, .int 0])), (q0, .inl (gc_dA X 0, 3, .inl (fun _ => 0)))]
  refine gc_aload_n (pc := 11) C 0 dX9_init_11 rfl rfl ?_
  refine gc_bipush (w := (40)) (pc := 12) C dX9_init_12 rfl ?_
  refine gc_newa (t := 0) (N := 40) (ty := .int) (a0 := (.inl (fun _ => 0))) (pc := 14) C rfl (fun _ => rfl) (fun _ _ h => h) (fun _ => rfl) dX9_init_14 ar_int (by decide) (by decide) (by decide) (by decide) (by decide) (fun q1 => ?_)
  refine gc_put (pc := 16) C gk_9 0 1 dX9_init_16 rfl fc_X9_15 rfl rfl (Nat.le_of_ble_eq_true rfl) ?_
  show gc_AW X 2 43 19 [(0, .ref h0)] [] [(h0, .inr (9, [.ref q0, .ref q1, .int 0, .int 0])), (q0, .inl (gc_dA X 0, 3, .inl (fun _ => 0))), (q1, .inl (gc_dA X 0, 40, .inl (fun _ => 0)))]
  exact gc_ret C (pc := 19) (fun i => ([q0, q1] : List Nat).getD i 0) dX9_init_19 E (by decide) (by decide) rfl
def wX6 (h0 : Nat) (sa sb : Nat) (dA : Nat → ClassId) (f : Nat → Nat) : va_W := [(h0, .inr (6, [.ref (f 0)])), ((f 0), .inl (dA 0, 173, .inl (fun _ => 0)))]
set_option maxRecDepth 100000 in
set_option maxHeartbeats 4000000 in
theorem c_X6_init (l : Launch) (h0 : Nat) : gc_Met l 0 yX6_init cX6_init 1 (fun _ _ => [.ref h0]) [(h0, .inr (6, nv_6))] (wX6 h0) 1 173 := by
  refine gc_of RX6 (by decide) rfl rfl (Nat.le_of_ble_eq_true rfl) (fun X C E => ?_)
  show gc_AW X 0 0 0 [(0, .ref h0)] [] [(h0, .inr (6, nv_6))]
  refine gc_aload_n (pc := 0) C 0 dX6_init_0 rfl rfl ?_
  refine gc_obj (pc := 1) C dX6_init_1 ml_X6_5 (Nat.le_of_ble_eq_true rfl) ?_
  refine gc_aload_n (pc := 4) C 0 dX6_init_4 rfl rfl ?_
  refine gc_sipush (w := (173)) (pc := 5) C dX6_init_5 rfl ?_
  refine gc_newa (t := 0) (N := 173) (ty := .int) (a0 := (.inl (fun _ => 0))) (pc := 8) C rfl (fun _ => rfl) (fun _ _ h => h) (fun _ => rfl) dX6_init_8 ar_int (by decide) (by decide) (by decide) (by decide) (by decide) (fun q0 => ?_)
  refine gc_put (pc := 10) C gk_6 0 0 dX6_init_10 rfl fc_X6_11 rfl rfl (Nat.le_of_ble_eq_true rfl) ?_
  show gc_AW X 1 173 13 [(0, .ref h0)] [] [(h0, .inr (6, [.ref q0])), (q0, .inl (gc_dA X 0, 173, .inl (fun _ => 0)))]
  exact gc_ret C (pc := 13) (fun i => ([q0] : List Nat).getD i 0) dX6_init_13 E (by decide) (by decide) rfl
def wX10 (h0 : Nat) (sa sb : Nat) (dA : Nat → ClassId) (f : Nat → Nat) : va_W := [(h0, .inr (10, [.ref (f 0), .ref (f 1), .int 0, .int (-1)])), ((f 0), .inl (dA 0, 36, .inl (fun _ => 0))), ((f 1), .inl (dA 0, 9, .inl (fun _ => 0)))]
set_option maxRecDepth 100000 in
set_option maxHeartbeats 4000000 in
theorem c_X10_init (l : Launch) (h0 : Nat) : gc_Met l 0 yX10_init cX10_init 1 (fun _ _ => [.ref h0]) [(h0, .inr (10, nv_10))] (wX10 h0) 2 45 := by
  refine gc_of RX10 (by decide) rfl rfl (Nat.le_of_ble_eq_true rfl) (fun X C E => ?_)
  show gc_AW X 0 0 0 [(0, .ref h0)] [] [(h0, .inr (10, nv_10))]
  refine gc_aload_n (pc := 0) C 0 dX10_init_0 rfl rfl ?_
  refine gc_obj (pc := 1) C dX10_init_1 ml_X10_3 (Nat.le_of_ble_eq_true rfl) ?_
  refine gc_aload_n (pc := 4) C 0 dX10_init_4 rfl rfl ?_
  refine gc_bipush (w := (36)) (pc := 5) C dX10_init_5 rfl ?_
  refine gc_newa (t := 0) (N := 36) (ty := .int) (a0 := (.inl (fun _ => 0))) (pc := 7) C rfl (fun _ => rfl) (fun _ _ h => h) (fun _ => rfl) dX10_init_7 ar_int (by decide) (by decide) (by decide) (by decide) (by decide) (fun q0 => ?_)
  refine gc_put (pc := 9) C gk_10 0 0 dX10_init_9 rfl fc_X10_9 rfl rfl (Nat.le_of_ble_eq_true rfl) ?_
  show gc_AW X 1 36 12 [(0, .ref h0)] [] [(h0, .inr (10, [.ref q0, .null, .int 0, .int 0])), (q0, .inl (gc_dA X 0, 36, .inl (fun _ => 0)))]
  refine gc_aload_n (pc := 12) C 0 dX10_init_12 rfl rfl ?_
  refine gc_bipush (w := (9)) (pc := 13) C dX10_init_13 rfl ?_
  refine gc_newa (t := 0) (N := 9) (ty := .int) (a0 := (.inl (fun _ => 0))) (pc := 15) C rfl (fun _ => rfl) (fun _ _ h => h) (fun _ => rfl) dX10_init_15 ar_int (by decide) (by decide) (by decide) (by decide) (by decide) (fun q1 => ?_)
  refine gc_put (pc := 17) C gk_10 0 1 dX10_init_17 rfl fc_X10_15 rfl rfl (Nat.le_of_ble_eq_true rfl) ?_
  show gc_AW X 2 45 20 [(0, .ref h0)] [] [(h0, .inr (10, [.ref q0, .ref q1, .int 0, .int 0])), (q0, .inl (gc_dA X 0, 36, .inl (fun _ => 0))), (q1, .inl (gc_dA X 0, 9, .inl (fun _ => 0)))]
  refine gc_aload_n (pc := 20) C 0 dX10_init_20 rfl rfl ?_
  refine gc_iconst (w := (-1)) (pc := 21) C dX10_init_21 rfl ?_
  refine gc_put (pc := 22) C gk_10 0 3 dX10_init_22 rfl fc_X10_18 rfl rfl (Nat.le_of_ble_eq_true rfl) ?_
  show gc_AW X 2 45 25 [(0, .ref h0)] [] [(h0, .inr (10, [.ref q0, .ref q1, .int 0, .int (-1)])), (q0, .inl (gc_dA X 0, 36, .inl (fun _ => 0))), (q1, .inl (gc_dA X 0, 9, .inl (fun _ => 0)))]
  exact gc_ret C (pc := 25) (fun i => ([q0, q1] : List Nat).getD i 0) dX10_init_25 E (by decide) (by decide) rfl
def wX2 (h0 : Nat) (sa sb : Nat) (dA : Nat → ClassId) (f : Nat → Nat) : va_W := [(h0, .inr (2, [.ref (f 0), .ref (f 1), .ref (f 2), .ref (f 3), .ref (f 4), .int 0, .int 0])), ((f 0), .inl (dA 0, 240, .inl (fun _ => 0))), ((f 1), .inl (dA 0, 61, .inl (fun _ => 0))), ((f 2), .inl (dA 0, 61, .inl (fun _ => 0))), ((f 3), .inl (dA 0, 61, .inl (fun _ => 0))), ((f 4), .inl (dA 0, 32, .inl (fun _ => 0)))]
set_option maxRecDepth 100000 in
set_option maxHeartbeats 4000000 in
theorem c_X2_init (l : Launch) (h0 : Nat) : gc_Met l 0 yX2_init cX2_init 1 (fun _ _ => [.ref h0]) [(h0, .inr (2, nv_2))] (wX2 h0) 5 455 := by
  refine gc_of RX2 (by decide) rfl rfl (Nat.le_of_ble_eq_true rfl) (fun X C E => ?_)
  show gc_AW X 0 0 0 [(0, .ref h0)] [] [(h0, .inr (2, nv_2))]
  refine gc_aload_n (pc := 0) C 0 dX2_init_0 rfl rfl ?_
  refine gc_obj (pc := 1) C dX2_init_1 ml_X2_1 (Nat.le_of_ble_eq_true rfl) ?_
  refine gc_aload_n (pc := 4) C 0 dX2_init_4 rfl rfl ?_
  refine gc_sipush (w := (240)) (pc := 5) C dX2_init_5 rfl ?_
  refine gc_newa (t := 0) (N := 240) (ty := .int) (a0 := (.inl (fun _ => 0))) (pc := 8) C rfl (fun _ => rfl) (fun _ _ h => h) (fun _ => rfl) dX2_init_8 ar_int (by decide) (by decide) (by decide) (by decide) (by decide) (fun q0 => ?_)
  refine gc_put (pc := 10) C gk_2 0 0 dX2_init_10 rfl fc_X2_9 rfl rfl (Nat.le_of_ble_eq_true rfl) ?_
  show gc_AW X 1 240 13 [(0, .ref h0)] [] [(h0, .inr (2, [.ref q0, .null, .null, .null, .null, .int 0, .int 0])), (q0, .inl (gc_dA X 0, 240, .inl (fun _ => 0)))]
  refine gc_aload_n (pc := 13) C 0 dX2_init_13 rfl rfl ?_
  refine gc_bipush (w := (61)) (pc := 14) C dX2_init_14 rfl ?_
  refine gc_newa (t := 0) (N := 61) (ty := .int) (a0 := (.inl (fun _ => 0))) (pc := 16) C rfl (fun _ => rfl) (fun _ _ h => h) (fun _ => rfl) dX2_init_16 ar_int (by decide) (by decide) (by decide) (by decide) (by decide) (fun q1 => ?_)
  refine gc_put (pc := 18) C gk_2 0 1 dX2_init_18 rfl fc_X2_15 rfl rfl (Nat.le_of_ble_eq_true rfl) ?_
  show gc_AW X 2 301 21 [(0, .ref h0)] [] [(h0, .inr (2, [.ref q0, .ref q1, .null, .null, .null, .int 0, .int 0])), (q0, .inl (gc_dA X 0, 240, .inl (fun _ => 0))), (q1, .inl (gc_dA X 0, 61, .inl (fun _ => 0)))]
  refine gc_aload_n (pc := 21) C 0 dX2_init_21 rfl rfl ?_
  refine gc_bipush (w := (61)) (pc := 22) C dX2_init_22 rfl ?_
  refine gc_newa (t := 0) (N := 61) (ty := .int) (a0 := (.inl (fun _ => 0))) (pc := 24) C rfl (fun _ => rfl) (fun _ _ h => h) (fun _ => rfl) dX2_init_24 ar_int (by decide) (by decide) (by decide) (by decide) (by decide) (fun q2 => ?_)
  refine gc_put (pc := 26) C gk_2 0 2 dX2_init_26 rfl fc_X2_18 rfl rfl (Nat.le_of_ble_eq_true rfl) ?_
  show gc_AW X 3 362 29 [(0, .ref h0)] [] [(h0, .inr (2, [.ref q0, .ref q1, .ref q2, .null, .null, .int 0, .int 0])), (q0, .inl (gc_dA X 0, 240, .inl (fun _ => 0))), (q1, .inl (gc_dA X 0, 61, .inl (fun _ => 0))), (q2, .inl (gc_dA X 0, 61, .inl (fun _ => 0)))]
  refine gc_aload_n (pc := 29) C 0 dX2_init_29 rfl rfl ?_
  refine gc_bipush (w := (61)) (pc := 30) C dX2_init_30 rfl ?_
  refine gc_newa (t := 0) (N := 61) (ty := .int) (a0 := (.inl (fun _ => 0))) (pc := 32) C rfl (fun _ => rfl) (fun _ _ h => h) (fun _ => rfl) dX2_init_32 ar_int (by decide) (by decide) (by decide) (by decide) (by decide) (fun q3 => ?_)
  refine gc_put (pc := 34) C gk_2 0 3 dX2_init_34 rfl fc_X2_21 rfl rfl (Nat.le_of_ble_eq_true rfl) ?_
  show gc_AW X 4 423 37 [(0, .ref h0)] [] [(h0, .inr (2, [.ref q0, .ref q1, .ref q2, .ref q3, .null, .int 0, .int 0])), (q0, .inl (gc_dA X 0, 240, .inl (fun _ => 0))), (q1, .inl (gc_dA X 0, 61, .inl (fun _ => 0))), (q2, .inl (gc_dA X 0, 61, .inl (fun _ => 0))), (q3, .inl (gc_dA X 0, 61, .inl (fun _ => 0)))]
  refine gc_aload_n (pc := 37) C 0 dX2_init_37 rfl rfl ?_
  refine gc_bipush (w := (32)) (pc := 38) C dX2_init_38 rfl ?_
  refine gc_newa (t := 0) (N := 32) (ty := .int) (a0 := (.inl (fun _ => 0))) (pc := 40) C rfl (fun _ => rfl) (fun _ _ h => h) (fun _ => rfl) dX2_init_40 ar_int (by decide) (by decide) (by decide) (by decide) (by decide) (fun q4 => ?_)
  refine gc_put (pc := 42) C gk_2 0 4 dX2_init_42 rfl fc_X2_24 rfl rfl (Nat.le_of_ble_eq_true rfl) ?_
  show gc_AW X 5 455 45 [(0, .ref h0)] [] [(h0, .inr (2, [.ref q0, .ref q1, .ref q2, .ref q3, .ref q4, .int 0, .int 0])), (q0, .inl (gc_dA X 0, 240, .inl (fun _ => 0))), (q1, .inl (gc_dA X 0, 61, .inl (fun _ => 0))), (q2, .inl (gc_dA X 0, 61, .inl (fun _ => 0))), (q3, .inl (gc_dA X 0, 61, .inl (fun _ => 0))), (q4, .inl (gc_dA X 0, 32, .inl (fun _ => 0)))]
  exact gc_ret C (pc := 45) (fun i => ([q0, q1, q2, q3, q4] : List Nat).getD i 0) dX2_init_45 E (by decide) (by decide) rfl
def wX3 (h0 b1 b2 : Nat) (sa sb : Nat) (dA : Nat → ClassId) (f : Nat → Nat) : va_W := [(h0, .inr (3, [.ref b1, .ref b2]))]
set_option maxRecDepth 100000 in
set_option maxHeartbeats 4000000 in
theorem c_X3_init (l : Launch) (h0 b1 b2 : Nat) : gc_Met l 0 yX3_init cX3_init 3 (fun _ _ => [.ref h0, .ref b1, .ref b2]) [(h0, .inr (3, nv_3))] (wX3 h0 b1 b2) 0 0 := by
  refine gc_of RX3 (by decide) rfl rfl (Nat.le_of_ble_eq_true rfl) (fun X C E => ?_)
  show gc_AW X 0 0 0 [(0, .ref h0), (1, .ref b1), (2, .ref b2)] [] [(h0, .inr (3, nv_3))]
  refine gc_aload_n (pc := 0) C 0 dX3_init_0 rfl rfl ?_
  refine gc_obj (pc := 1) C dX3_init_1 ml_X3_3 (Nat.le_of_ble_eq_true rfl) ?_
  refine gc_aload_n (pc := 4) C 0 dX3_init_4 rfl rfl ?_
  refine gc_aload_n (pc := 5) C 1 dX3_init_5 rfl rfl ?_
  refine gc_put (pc := 6) C gk_3 0 0 dX3_init_6 rfl fc_X3_9 rfl rfl (Nat.le_of_ble_eq_true rfl) ?_
  show gc_AW X 0 0 9 [(0, .ref h0), (1, .ref b1), (2, .ref b2)] [] [(h0, .inr (3, [.ref b1, .null]))]
  refine gc_aload_n (pc := 9) C 0 dX3_init_9 rfl rfl ?_
  refine gc_aload_n (pc := 10) C 2 dX3_init_10 rfl rfl ?_
  refine gc_put (pc := 11) C gk_3 0 1 dX3_init_11 rfl fc_X3_15 rfl rfl (Nat.le_of_ble_eq_true rfl) ?_
  show gc_AW X 0 0 14 [(0, .ref h0), (1, .ref b1), (2, .ref b2)] [] [(h0, .inr (3, [.ref b1, .ref b2]))]
  exact gc_ret C (pc := 14) (fun i => ([] : List Nat).getD i 0) dX3_init_14 E (by decide) (by decide) rfl
def wX4 (h0 b1 b2 : Nat) (sa sb : Nat) (dA : Nat → ClassId) (f : Nat → Nat) : va_W := [(h0, .inr (4, [.ref b1, .ref b2, .ref (f 0), .ref (f 1), .int 0, .int (-1)])), ((f 0), .inl (dA 5, 4, .inr (.inr (.inr (.inr (va_up (va_up (va_up (va_up (fun _ => none) 0 (some ((f 2)))) 1 (some ((f 8)))) 2 (some ((f 14)))) 3 (some ((f 20))))))))), ((f 1), .inl (dA 0, 6, .inl (fun _ => 0))), ((f 2), .inr (2, [.ref (f 3), .ref (f 4), .ref (f 5), .ref (f 6), .ref (f 7), .int 0, .int 0])), ((f 3), .inl (dA 0, 240, .inl (fun _ => 0))), ((f 4), .inl (dA 0, 61, .inl (fun _ => 0))), ((f 5), .inl (dA 0, 61, .inl (fun _ => 0))), ((f 6), .inl (dA 0, 61, .inl (fun _ => 0))), ((f 7), .inl (dA 0, 32, .inl (fun _ => 0))), ((f 8), .inr (2, [.ref (f 9), .ref (f 10), .ref (f 11), .ref (f 12), .ref (f 13), .int 0, .int 0])), ((f 9), .inl (dA 0, 240, .inl (fun _ => 0))), ((f 10), .inl (dA 0, 61, .inl (fun _ => 0))), ((f 11), .inl (dA 0, 61, .inl (fun _ => 0))), ((f 12), .inl (dA 0, 61, .inl (fun _ => 0))), ((f 13), .inl (dA 0, 32, .inl (fun _ => 0))), ((f 14), .inr (2, [.ref (f 15), .ref (f 16), .ref (f 17), .ref (f 18), .ref (f 19), .int 0, .int 0])), ((f 15), .inl (dA 0, 240, .inl (fun _ => 0))), ((f 16), .inl (dA 0, 61, .inl (fun _ => 0))), ((f 17), .inl (dA 0, 61, .inl (fun _ => 0))), ((f 18), .inl (dA 0, 61, .inl (fun _ => 0))), ((f 19), .inl (dA 0, 32, .inl (fun _ => 0))), ((f 20), .inr (2, [.ref (f 21), .ref (f 22), .ref (f 23), .ref (f 24), .ref (f 25), .int 0, .int 0])), ((f 21), .inl (dA 0, 240, .inl (fun _ => 0))), ((f 22), .inl (dA 0, 61, .inl (fun _ => 0))), ((f 23), .inl (dA 0, 61, .inl (fun _ => 0))), ((f 24), .inl (dA 0, 61, .inl (fun _ => 0))), ((f 25), .inl (dA 0, 32, .inl (fun _ => 0)))]
set_option maxRecDepth 100000 in
set_option maxHeartbeats 4000000 in
theorem c_X4_init (l : Launch) (h0 b1 b2 : Nat) : gc_Met l 1 yX4_init cX4_init 4 (fun _ _ => [.ref h0, .ref b1, .ref b2]) [(h0, .inr (4, nv_4))] (wX4 h0 b1 b2) 26 1858 := by
  refine gc_of RX4 (by decide) rfl rfl (Nat.le_of_ble_eq_true rfl) (fun X C E => ?_)
  show gc_AW X 0 0 0 [(0, .ref h0), (1, .ref b1), (2, .ref b2)] [] [(h0, .inr (4, nv_4))]
  refine gc_aload_n (pc := 0) C 0 dX4_init_0 rfl rfl ?_
  refine gc_obj (pc := 1) C dX4_init_1 ml_X4_3 (Nat.le_of_ble_eq_true rfl) ?_
  refine gc_aload_n (pc := 4) C 0 dX4_init_4 rfl rfl ?_
  refine gc_iconst (w := (4)) (pc := 5) C dX4_init_5 rfl ?_
  refine gc_newq (t := 5) (N := 4) (pc := 6) C (Or.inr ⟨rfl, rfl⟩) dX4_init_6 cl_X4_9 (by decide) (by decide) (by decide) (by decide) (by decide) (fun q0 => ?_)
  refine gc_put (pc := 9) C gk_4 0 2 dX4_init_9 rfl fc_X4_11 rfl rfl (Nat.le_of_ble_eq_true rfl) ?_
  show gc_AW X 1 4 12 [(0, .ref h0), (1, .ref b1), (2, .ref b2)] [] [(h0, .inr (4, [.null, .null, .ref q0, .null, .int 0, .int 0])), (q0, .inl (gc_dA X 5, 4, .inr (.inr (.inr (.inr (fun _ => none))))))]
  refine gc_aload_n (pc := 12) C 0 dX4_init_12 rfl rfl ?_
  refine gc_bipush (w := (6)) (pc := 13) C dX4_init_13 rfl ?_
  refine gc_newa (t := 0) (N := 6) (ty := .int) (a0 := (.inl (fun _ => 0))) (pc := 15) C rfl (fun _ => rfl) (fun _ _ h => h) (fun _ => rfl) dX4_init_15 ar_int (by decide) (by decide) (by decide) (by decide) (by decide) (fun q1 => ?_)
  refine gc_put (pc := 17) C gk_4 0 3 dX4_init_17 rfl fc_X4_17 rfl rfl (Nat.le_of_ble_eq_true rfl) ?_
  show gc_AW X 2 10 20 [(0, .ref h0), (1, .ref b1), (2, .ref b2)] [] [(h0, .inr (4, [.null, .null, .ref q0, .ref q1, .int 0, .int 0])), (q0, .inl (gc_dA X 5, 4, .inr (.inr (.inr (.inr (fun _ => none)))))), (q1, .inl (gc_dA X 0, 6, .inl (fun _ => 0)))]
  refine gc_aload_n (pc := 20) C 0 dX4_init_20 rfl rfl ?_
  refine gc_iconst (w := (-1)) (pc := 21) C dX4_init_21 rfl ?_
  refine gc_put (pc := 22) C gk_4 0 5 dX4_init_22 rfl fc_X4_21 rfl rfl (Nat.le_of_ble_eq_true rfl) ?_
  show gc_AW X 2 10 25 [(0, .ref h0), (1, .ref b1), (2, .ref b2)] [] [(h0, .inr (4, [.null, .null, .ref q0, .ref q1, .int 0, .int (-1)])), (q0, .inl (gc_dA X 5, 4, .inr (.inr (.inr (.inr (fun _ => none)))))), (q1, .inl (gc_dA X 0, 6, .inl (fun _ => 0)))]
  refine gc_aload_n (pc := 25) C 0 dX4_init_25 rfl rfl ?_
  refine gc_aload_n (pc := 26) C 1 dX4_init_26 rfl rfl ?_
  refine gc_put (pc := 27) C gk_4 0 0 dX4_init_27 rfl fc_X4_25 rfl rfl (Nat.le_of_ble_eq_true rfl) ?_
  show gc_AW X 2 10 30 [(0, .ref h0), (1, .ref b1), (2, .ref b2)] [] [(h0, .inr (4, [.ref b1, .null, .ref q0, .ref q1, .int 0, .int (-1)])), (q0, .inl (gc_dA X 5, 4, .inr (.inr (.inr (.inr (fun _ => none)))))), (q1, .inl (gc_dA X 0, 6, .inl (fun _ => 0)))]
  refine gc_aload_n (pc := 30) C 0 dX4_init_30 rfl rfl ?_
  refine gc_aload_n (pc := 31) C 2 dX4_init_31 rfl rfl ?_
  refine gc_put (pc := 32) C gk_4 0 1 dX4_init_32 rfl fc_X4_29 rfl rfl (Nat.le_of_ble_eq_true rfl) ?_
  show gc_AW X 2 10 35 [(0, .ref h0), (1, .ref b1), (2, .ref b2)] [] [(h0, .inr (4, [.ref b1, .ref b2, .ref q0, .ref q1, .int 0, .int (-1)])), (q0, .inl (gc_dA X 5, 4, .inr (.inr (.inr (.inr (fun _ => none)))))), (q1, .inl (gc_dA X 0, 6, .inl (fun _ => 0)))]
  refine gc_iconst (w := (0)) (pc := 35) C dX4_init_35 rfl ?_
  refine gc_istore_n (ls' := [(3, .int (0)), (0, .ref h0), (1, .ref b1), (2, .ref b2)]) (pc := 36) C dX4_init_36 rfl (by decide) rfl ?_
  refine gc_iload_n (pc := 37) C 0 dX4_init_37 rfl rfl ?_
  refine gc_iconst (w := (4)) (pc := 38) C dX4_init_38 rfl ?_
  refine gc_ge (pc := 39) C 61 dX4_init_39 rfl (fun c => absurd c (by decide)) (fun _ => ?_)
  refine gc_aload_n (pc := 42) C 1 dX4_init_42 rfl rfl ?_
  refine gc_getq (kf := 2) (pc := 43) C gk_4 0 dX4_init_43 rfl fl_X4_11 rfl ?_
  refine gc_iload_n (pc := 46) C 0 dX4_init_46 rfl rfl ?_
  refine gc_new (ci := 2) (fs := nv_2) (pc := 47) C tyX2 tyX2_ok dX4_init_47 rfl uw_2 cl_X4_9 in_2 it_2 nv_2_ok (by decide) (by decide) (fun q2 => ?_)
  refine gc_dup (pc := 50) C dX4_init_50 rfl ?_
  refine gc_ctor (wr := _) (pc := 51) C [] dX4_init_51 (Or.inr (by decide)) wy_X2_init.1 wy_X2_init.2 rfl (c_X2_init _ q2) rfl (by decide) rfl (Nat.le_of_ble_eq_true rfl) rfl (by decide) (by decide) (fun f3 => ?_)
  show gc_AW X 8 472 54 [(3, .int (0)), (0, .ref h0), (1, .ref b1), (2, .ref b2)] [.ref q2, .int (0), .ref q0] [(h0, .inr (4, [.ref b1, .ref b2, .ref q0, .ref q1, .int 0, .int (-1)])), (q0, .inl (gc_dA X 5, 4, .inr (.inr (.inr (.inr (fun _ => none)))))), (q1, .inl (gc_dA X 0, 6, .inl (fun _ => 0))), (q2, .inr (2, [.ref (f3 0), .ref (f3 1), .ref (f3 2), .ref (f3 3), .ref (f3 4), .int 0, .int 0])), (f3 0, .inl (gc_dA X 0, 240, .inl (fun _ => 0))), (f3 1, .inl (gc_dA X 0, 61, .inl (fun _ => 0))), (f3 2, .inl (gc_dA X 0, 61, .inl (fun _ => 0))), (f3 3, .inl (gc_dA X 0, 61, .inl (fun _ => 0))), (f3 4, .inl (gc_dA X 0, 32, .inl (fun _ => 0)))]
  refine gc_aast (t := 5) (pc := 54) C 1 3 dX4_init_54 rfl (fun _ => rfl) rfl rfl (by decide) ?_
  show gc_AW X 8 472 55 [(3, .int (0)), (0, .ref h0), (1, .ref b1), (2, .ref b2)] [] [(h0, .inr (4, [.ref b1, .ref b2, .ref q0, .ref q1, .int 0, .int (-1)])), (q0, .inl (gc_dA X 5, 4, .inr (.inr (.inr (.inr (va_up (fun _ => none) 0 (some (q2)))))))), (q1, .inl (gc_dA X 0, 6, .inl (fun _ => 0))), (q2, .inr (2, [.ref (f3 0), .ref (f3 1), .ref (f3 2), .ref (f3 3), .ref (f3 4), .int 0, .int 0])), (f3 0, .inl (gc_dA X 0, 240, .inl (fun _ => 0))), (f3 1, .inl (gc_dA X 0, 61, .inl (fun _ => 0))), (f3 2, .inl (gc_dA X 0, 61, .inl (fun _ => 0))), (f3 3, .inl (gc_dA X 0, 61, .inl (fun _ => 0))), (f3 4, .inl (gc_dA X 0, 32, .inl (fun _ => 0)))]
  refine gc_iinc (v := (1)) (ls' := [(3, .int (1)), (0, .ref h0), (1, .ref b1), (2, .ref b2)]) (pc := 55) C 0 dX4_init_55 rfl (by decide) (by decide) rfl ?_
  refine gc_goto (pc := 58) C 37 dX4_init_58 rfl ?_
  refine gc_iload_n (pc := 37) C 0 dX4_init_37 rfl rfl ?_
  refine gc_iconst (w := (4)) (pc := 38) C dX4_init_38 rfl ?_
  refine gc_ge (pc := 39) C 61 dX4_init_39 rfl (fun c => absurd c (by decide)) (fun _ => ?_)
  refine gc_aload_n (pc := 42) C 1 dX4_init_42 rfl rfl ?_
  refine gc_getq (kf := 2) (pc := 43) C gk_4 0 dX4_init_43 rfl fl_X4_11 rfl ?_
  refine gc_iload_n (pc := 46) C 0 dX4_init_46 rfl rfl ?_
  refine gc_new (ci := 2) (fs := nv_2) (pc := 47) C tyX2 tyX2_ok dX4_init_47 rfl uw_2 cl_X4_9 in_2 it_2 nv_2_ok (by decide) (by decide) (fun q4 => ?_)
  refine gc_dup (pc := 50) C dX4_init_50 rfl ?_
  refine gc_ctor (wr := _) (pc := 51) C [] dX4_init_51 (Or.inr (by decide)) wy_X2_init.1 wy_X2_init.2 rfl (c_X2_init _ q4) rfl (by decide) rfl (Nat.le_of_ble_eq_true rfl) rfl (by decide) (by decide) (fun f5 => ?_)
  show gc_AW X 14 934 54 [(3, .int (1)), (0, .ref h0), (1, .ref b1), (2, .ref b2)] [.ref q4, .int (1), .ref q0] [(h0, .inr (4, [.ref b1, .ref b2, .ref q0, .ref q1, .int 0, .int (-1)])), (q0, .inl (gc_dA X 5, 4, .inr (.inr (.inr (.inr (va_up (fun _ => none) 0 (some (q2)))))))), (q1, .inl (gc_dA X 0, 6, .inl (fun _ => 0))), (q2, .inr (2, [.ref (f3 0), .ref (f3 1), .ref (f3 2), .ref (f3 3), .ref (f3 4), .int 0, .int 0])), (f3 0, .inl (gc_dA X 0, 240, .inl (fun _ => 0))), (f3 1, .inl (gc_dA X 0, 61, .inl (fun _ => 0))), (f3 2, .inl (gc_dA X 0, 61, .inl (fun _ => 0))), (f3 3, .inl (gc_dA X 0, 61, .inl (fun _ => 0))), (f3 4, .inl (gc_dA X 0, 32, .inl (fun _ => 0))), (q4, .inr (2, [.ref (f5 0), .ref (f5 1), .ref (f5 2), .ref (f5 3), .ref (f5 4), .int 0, .int 0])), (f5 0, .inl (gc_dA X 0, 240, .inl (fun _ => 0))), (f5 1, .inl (gc_dA X 0, 61, .inl (fun _ => 0))), (f5 2, .inl (gc_dA X 0, 61, .inl (fun _ => 0))), (f5 3, .inl (gc_dA X 0, 61, .inl (fun _ => 0))), (f5 4, .inl (gc_dA X 0, 32, .inl (fun _ => 0)))]
  refine gc_aast (t := 5) (pc := 54) C 1 9 dX4_init_54 rfl (fun _ => rfl) rfl rfl (by decide) ?_
  show gc_AW X 14 934 55 [(3, .int (1)), (0, .ref h0), (1, .ref b1), (2, .ref b2)] [] [(h0, .inr (4, [.ref b1, .ref b2, .ref q0, .ref q1, .int 0, .int (-1)])), (q0, .inl (gc_dA X 5, 4, .inr (.inr (.inr (.inr (va_up (va_up (fun _ => none) 0 (some (q2))) 1 (some (q4)))))))), (q1, .inl (gc_dA X 0, 6, .inl (fun _ => 0))), (q2, .inr (2, [.ref (f3 0), .ref (f3 1), .ref (f3 2), .ref (f3 3), .ref (f3 4), .int 0, .int 0])), (f3 0, .inl (gc_dA X 0, 240, .inl (fun _ => 0))), (f3 1, .inl (gc_dA X 0, 61, .inl (fun _ => 0))), (f3 2, .inl (gc_dA X 0, 61, .inl (fun _ => 0))), (f3 3, .inl (gc_dA X 0, 61, .inl (fun _ => 0))), (f3 4, .inl (gc_dA X 0, 32, .inl (fun _ => 0))), (q4, .inr (2, [.ref (f5 0), .ref (f5 1), .ref (f5 2), .ref (f5 3), .ref (f5 4), .int 0, .int 0])), (f5 0, .inl (gc_dA X 0, 240, .inl (fun _ => 0))), (f5 1, .inl (gc_dA X 0, 61, .inl (fun _ => 0))), (f5 2, .inl (gc_dA X 0, 61, .inl (fun _ => 0))), (f5 3, .inl (gc_dA X 0, 61, .inl (fun _ => 0))), (f5 4, .inl (gc_dA X 0, 32, .inl (fun _ => 0)))]
  refine gc_iinc (v := (2)) (ls' := [(3, .int (2)), (0, .ref h0), (1, .ref b1), (2, .ref b2)]) (pc := 55) C 0 dX4_init_55 rfl (by decide) (by decide) rfl ?_
  refine gc_goto (pc := 58) C 37 dX4_init_58 rfl ?_
  refine gc_iload_n (pc := 37) C 0 dX4_init_37 rfl rfl ?_
  refine gc_iconst (w := (4)) (pc := 38) C dX4_init_38 rfl ?_
  refine gc_ge (pc := 39) C 61 dX4_init_39 rfl (fun c => absurd c (by decide)) (fun _ => ?_)
  refine gc_aload_n (pc := 42) C 1 dX4_init_42 rfl rfl ?_
  refine gc_getq (kf := 2) (pc := 43) C gk_4 0 dX4_init_43 rfl fl_X4_11 rfl ?_
  refine gc_iload_n (pc := 46) C 0 dX4_init_46 rfl rfl ?_
  refine gc_new (ci := 2) (fs := nv_2) (pc := 47) C tyX2 tyX2_ok dX4_init_47 rfl uw_2 cl_X4_9 in_2 it_2 nv_2_ok (by decide) (by decide) (fun q6 => ?_)
  refine gc_dup (pc := 50) C dX4_init_50 rfl ?_
  refine gc_ctor (wr := _) (pc := 51) C [] dX4_init_51 (Or.inr (by decide)) wy_X2_init.1 wy_X2_init.2 rfl (c_X2_init _ q6) rfl (by decide) rfl (Nat.le_of_ble_eq_true rfl) rfl (by decide) (by decide) (fun f7 => ?_)
  show gc_AW X 20 1396 54 [(3, .int (2)), (0, .ref h0), (1, .ref b1), (2, .ref b2)] [.ref q6, .int (2), .ref q0] [(h0, .inr (4, [.ref b1, .ref b2, .ref q0, .ref q1, .int 0, .int (-1)])), (q0, .inl (gc_dA X 5, 4, .inr (.inr (.inr (.inr (va_up (va_up (fun _ => none) 0 (some (q2))) 1 (some (q4)))))))), (q1, .inl (gc_dA X 0, 6, .inl (fun _ => 0))), (q2, .inr (2, [.ref (f3 0), .ref (f3 1), .ref (f3 2), .ref (f3 3), .ref (f3 4), .int 0, .int 0])), (f3 0, .inl (gc_dA X 0, 240, .inl (fun _ => 0))), (f3 1, .inl (gc_dA X 0, 61, .inl (fun _ => 0))), (f3 2, .inl (gc_dA X 0, 61, .inl (fun _ => 0))), (f3 3, .inl (gc_dA X 0, 61, .inl (fun _ => 0))), (f3 4, .inl (gc_dA X 0, 32, .inl (fun _ => 0))), (q4, .inr (2, [.ref (f5 0), .ref (f5 1), .ref (f5 2), .ref (f5 3), .ref (f5 4), .int 0, .int 0])), (f5 0, .inl (gc_dA X 0, 240, .inl (fun _ => 0))), (f5 1, .inl (gc_dA X 0, 61, .inl (fun _ => 0))), (f5 2, .inl (gc_dA X 0, 61, .inl (fun _ => 0))), (f5 3, .inl (gc_dA X 0, 61, .inl (fun _ => 0))), (f5 4, .inl (gc_dA X 0, 32, .inl (fun _ => 0))), (q6, .inr (2, [.ref (f7 0), .ref (f7 1), .ref (f7 2), .ref (f7 3), .ref (f7 4), .int 0, .int 0])), (f7 0, .inl (gc_dA X 0, 240, .inl (fun _ => 0))), (f7 1, .inl (gc_dA X 0, 61, .inl (fun _ => 0))), (f7 2, .inl (gc_dA X 0, 61, .inl (fun _ => 0))), (f7 3, .inl (gc_dA X 0, 61, .inl (fun _ => 0))), (f7 4, .inl (gc_dA X 0, 32, .inl (fun _ => 0)))]
  refine gc_aast (t := 5) (pc := 54) C 1 15 dX4_init_54 rfl (fun _ => rfl) rfl rfl (by decide) ?_
  show gc_AW X 20 1396 55 [(3, .int (2)), (0, .ref h0), (1, .ref b1), (2, .ref b2)] [] [(h0, .inr (4, [.ref b1, .ref b2, .ref q0, .ref q1, .int 0, .int (-1)])), (q0, .inl (gc_dA X 5, 4, .inr (.inr (.inr (.inr (va_up (va_up (va_up (fun _ => none) 0 (some (q2))) 1 (some (q4))) 2 (some (q6)))))))), (q1, .inl (gc_dA X 0, 6, .inl (fun _ => 0))), (q2, .inr (2, [.ref (f3 0), .ref (f3 1), .ref (f3 2), .ref (f3 3), .ref (f3 4), .int 0, .int 0])), (f3 0, .inl (gc_dA X 0, 240, .inl (fun _ => 0))), (f3 1, .inl (gc_dA X 0, 61, .inl (fun _ => 0))), (f3 2, .inl (gc_dA X 0, 61, .inl (fun _ => 0))), (f3 3, .inl (gc_dA X 0, 61, .inl (fun _ => 0))), (f3 4, .inl (gc_dA X 0, 32, .inl (fun _ => 0))), (q4, .inr (2, [.ref (f5 0), .ref (f5 1), .ref (f5 2), .ref (f5 3), .ref (f5 4), .int 0, .int 0])), (f5 0, .inl (gc_dA X 0, 240, .inl (fun _ => 0))), (f5 1, .inl (gc_dA X 0, 61, .inl (fun _ => 0))), (f5 2, .inl (gc_dA X 0, 61, .inl (fun _ => 0))), (f5 3, .inl (gc_dA X 0, 61, .inl (fun _ => 0))), (f5 4, .inl (gc_dA X 0, 32, .inl (fun _ => 0))), (q6, .inr (2, [.ref (f7 0), .ref (f7 1), .ref (f7 2), .ref (f7 3), .ref (f7 4), .int 0, .int 0])), (f7 0, .inl (gc_dA X 0, 240, .inl (fun _ => 0))), (f7 1, .inl (gc_dA X 0, 61, .inl (fun _ => 0))), (f7 2, .inl (gc_dA X 0, 61, .inl (fun _ => 0))), (f7 3, .inl (gc_dA X 0, 61, .inl (fun _ => 0))), (f7 4, .inl (gc_dA X 0, 32, .inl (fun _ => 0)))]
  refine gc_iinc (v := (3)) (ls' := [(3, .int (3)), (0, .ref h0), (1, .ref b1), (2, .ref b2)]) (pc := 55) C 0 dX4_init_55 rfl (by decide) (by decide) rfl ?_
  refine gc_goto (pc := 58) C 37 dX4_init_58 rfl ?_
  refine gc_iload_n (pc := 37) C 0 dX4_init_37 rfl rfl ?_
  refine gc_iconst (w := (4)) (pc := 38) C dX4_init_38 rfl ?_
  refine gc_ge (pc := 39) C 61 dX4_init_39 rfl (fun c => absurd c (by decide)) (fun _ => ?_)
  refine gc_aload_n (pc := 42) C 1 dX4_init_42 rfl rfl ?_
  refine gc_getq (kf := 2) (pc := 43) C gk_4 0 dX4_init_43 rfl fl_X4_11 rfl ?_
  refine gc_iload_n (pc := 46) C 0 dX4_init_46 rfl rfl ?_
  refine gc_new (ci := 2) (fs := nv_2) (pc := 47) C tyX2 tyX2_ok dX4_init_47 rfl uw_2 cl_X4_9 in_2 it_2 nv_2_ok (by decide) (by decide) (fun q8 => ?_)
  refine gc_dup (pc := 50) C dX4_init_50 rfl ?_
  refine gc_ctor (wr := _) (pc := 51) C [] dX4_init_51 (Or.inr (by decide)) wy_X2_init.1 wy_X2_init.2 rfl (c_X2_init _ q8) rfl (by decide) rfl (Nat.le_of_ble_eq_true rfl) rfl (by decide) (by decide) (fun f9 => ?_)
  show gc_AW X 26 1858 54 [(3, .int (3)), (0, .ref h0), (1, .ref b1), (2, .ref b2)] [.ref q8, .int (3), .ref q0] [(h0, .inr (4, [.ref b1, .ref b2, .ref q0, .ref q1, .int 0, .int (-1)])), (q0, .inl (gc_dA X 5, 4, .inr (.inr (.inr (.inr (va_up (va_up (va_up (fun _ => none) 0 (some (q2))) 1 (some (q4))) 2 (some (q6)))))))), (q1, .inl (gc_dA X 0, 6, .inl (fun _ => 0))), (q2, .inr (2, [.ref (f3 0), .ref (f3 1), .ref (f3 2), .ref (f3 3), .ref (f3 4), .int 0, .int 0])), (f3 0, .inl (gc_dA X 0, 240, .inl (fun _ => 0))), (f3 1, .inl (gc_dA X 0, 61, .inl (fun _ => 0))), (f3 2, .inl (gc_dA X 0, 61, .inl (fun _ => 0))), (f3 3, .inl (gc_dA X 0, 61, .inl (fun _ => 0))), (f3 4, .inl (gc_dA X 0, 32, .inl (fun _ => 0))), (q4, .inr (2, [.ref (f5 0), .ref (f5 1), .ref (f5 2), .ref (f5 3), .ref (f5 4), .int 0, .int 0])), (f5 0, .inl (gc_dA X 0, 240, .inl (fun _ => 0))), (f5 1, .inl (gc_dA X 0, 61, .inl (fun _ => 0))), (f5 2, .inl (gc_dA X 0, 61, .inl (fun _ => 0))), (f5 3, .inl (gc_dA X 0, 61, .inl (fun _ => 0))), (f5 4, .inl (gc_dA X 0, 32, .inl (fun _ => 0))), (q6, .inr (2, [.ref (f7 0), .ref (f7 1), .ref (f7 2), .ref (f7 3), .ref (f7 4), .int 0, .int 0])), (f7 0, .inl (gc_dA X 0, 240, .inl (fun _ => 0))), (f7 1, .inl (gc_dA X 0, 61, .inl (fun _ => 0))), (f7 2, .inl (gc_dA X 0, 61, .inl (fun _ => 0))), (f7 3, .inl (gc_dA X 0, 61, .inl (fun _ => 0))), (f7 4, .inl (gc_dA X 0, 32, .inl (fun _ => 0))), (q8, .inr (2, [.ref (f9 0), .ref (f9 1), .ref (f9 2), .ref (f9 3), .ref (f9 4), .int 0, .int 0])), (f9 0, .inl (gc_dA X 0, 240, .inl (fun _ => 0))), (f9 1, .inl (gc_dA X 0, 61, .inl (fun _ => 0))), (f9 2, .inl (gc_dA X 0, 61, .inl (fun _ => 0))), (f9 3, .inl (gc_dA X 0, 61, .inl (fun _ => 0))), (f9 4, .inl (gc_dA X 0, 32, .inl (fun _ => 0)))]
  refine gc_aast (t := 5) (pc := 54) C 1 21 dX4_init_54 rfl (fun _ => rfl) rfl rfl (by decide) ?_
  show gc_AW X 26 1858 55 [(3, .int (3)), (0, .ref h0), (1, .ref b1), (2, .ref b2)] [] [(h0, .inr (4, [.ref b1, .ref b2, .ref q0, .ref q1, .int 0, .int (-1)])), (q0, .inl (gc_dA X 5, 4, .inr (.inr (.inr (.inr (va_up (va_up (va_up (va_up (fun _ => none) 0 (some (q2))) 1 (some (q4))) 2 (some (q6))) 3 (some (q8)))))))), (q1, .inl (gc_dA X 0, 6, .inl (fun _ => 0))), (q2, .inr (2, [.ref (f3 0), .ref (f3 1), .ref (f3 2), .ref (f3 3), .ref (f3 4), .int 0, .int 0])), (f3 0, .inl (gc_dA X 0, 240, .inl (fun _ => 0))), (f3 1, .inl (gc_dA X 0, 61, .inl (fun _ => 0))), (f3 2, .inl (gc_dA X 0, 61, .inl (fun _ => 0))), (f3 3, .inl (gc_dA X 0, 61, .inl (fun _ => 0))), (f3 4, .inl (gc_dA X 0, 32, .inl (fun _ => 0))), (q4, .inr (2, [.ref (f5 0), .ref (f5 1), .ref (f5 2), .ref (f5 3), .ref (f5 4), .int 0, .int 0])), (f5 0, .inl (gc_dA X 0, 240, .inl (fun _ => 0))), (f5 1, .inl (gc_dA X 0, 61, .inl (fun _ => 0))), (f5 2, .inl (gc_dA X 0, 61, .inl (fun _ => 0))), (f5 3, .inl (gc_dA X 0, 61, .inl (fun _ => 0))), (f5 4, .inl (gc_dA X 0, 32, .inl (fun _ => 0))), (q6, .inr (2, [.ref (f7 0), .ref (f7 1), .ref (f7 2), .ref (f7 3), .ref (f7 4), .int 0, .int 0])), (f7 0, .inl (gc_dA X 0, 240, .inl (fun _ => 0))), (f7 1, .inl (gc_dA X 0, 61, .inl (fun _ => 0))), (f7 2, .inl (gc_dA X 0, 61, .inl (fun _ => 0))), (f7 3, .inl (gc_dA X 0, 61, .inl (fun _ => 0))), (f7 4, .inl (gc_dA X 0, 32, .inl (fun _ => 0))), (q8, .inr (2, [.ref (f9 0), .ref (f9 1), .ref (f9 2), .ref (f9 3), .ref (f9 4), .int 0, .int 0])), (f9 0, .inl (gc_dA X 0, 240, .inl (fun _ => 0))), (f9 1, .inl (gc_dA X 0, 61, .inl (fun _ => 0))), (f9 2, .inl (gc_dA X 0, 61, .inl (fun _ => 0))), (f9 3, .inl (gc_dA X 0, 61, .inl (fun _ => 0))), (f9 4, .inl (gc_dA X 0, 32, .inl (fun _ => 0)))]
  refine gc_iinc (v := (4)) (ls' := [(3, .int (4)), (0, .ref h0), (1, .ref b1), (2, .ref b2)]) (pc := 55) C 0 dX4_init_55 rfl (by decide) (by decide) rfl ?_
  refine gc_goto (pc := 58) C 37 dX4_init_58 rfl ?_
  refine gc_iload_n (pc := 37) C 0 dX4_init_37 rfl rfl ?_
  refine gc_iconst (w := (4)) (pc := 38) C dX4_init_38 rfl ?_
  refine gc_ge (pc := 39) C 61 dX4_init_39 rfl (fun _ => ?_) (fun c => absurd (show ((4) : Int32) ≤ 4 by decide) c)
  exact gc_ret C (pc := 61) (fun i => ([q0, q1, q2, f3 0, f3 1, f3 2, f3 3, f3 4, q4, f5 0, f5 1, f5 2, f5 3, f5 4, q6, f7 0, f7 1, f7 2, f7 3, f7 4, q8, f9 0, f9 1, f9 2, f9 3, f9 4] : List Nat).getD i 0) dX4_init_61 E (by decide) (by decide) rfl
def wX5 (h0 b1 b2 b3 b4 : Nat) (sa sb : Nat) (dA : Nat → ClassId) (f : Nat → Nat) : va_W := [(h0, .inr (5, [.ref b1, .ref b2, .ref b3, .ref b4, .ref (f 0), .long 0])), ((f 0), .inl (dA 0, 8, .inl (fun _ => 0)))]
set_option maxRecDepth 100000 in
set_option maxHeartbeats 4000000 in
theorem c_X5_init (l : Launch) (h0 b1 b2 b3 b4 : Nat) : gc_Met l 0 yX5_init cX5_init 5 (fun _ _ => [.ref h0, .ref b1, .ref b2, .ref b3, .ref b4]) [(h0, .inr (5, nv_5))] (wX5 h0 b1 b2 b3 b4) 1 8 := by
  refine gc_of RX5 (by decide) rfl rfl (Nat.le_of_ble_eq_true rfl) (fun X C E => ?_)
  show gc_AW X 0 0 0 [(0, .ref h0), (1, .ref b1), (2, .ref b2), (3, .ref b3), (4, .ref b4)] [] [(h0, .inr (5, nv_5))]
  refine gc_aload_n (pc := 0) C 0 dX5_init_0 rfl rfl ?_
  refine gc_obj (pc := 1) C dX5_init_1 ml_X5_3 (Nat.le_of_ble_eq_true rfl) ?_
  refine gc_aload_n (pc := 4) C 0 dX5_init_4 rfl rfl ?_
  refine gc_bipush (w := (8)) (pc := 5) C dX5_init_5 rfl ?_
  refine gc_newa (t := 0) (N := 8) (ty := .int) (a0 := (.inl (fun _ => 0))) (pc := 7) C rfl (fun _ => rfl) (fun _ _ h => h) (fun _ => rfl) dX5_init_7 ar_int (by decide) (by decide) (by decide) (by decide) (by decide) (fun q0 => ?_)
  refine gc_put (pc := 9) C gk_5 0 4 dX5_init_9 rfl fc_X5_9 rfl rfl (Nat.le_of_ble_eq_true rfl) ?_
  show gc_AW X 1 8 12 [(0, .ref h0), (1, .ref b1), (2, .ref b2), (3, .ref b3), (4, .ref b4)] [] [(h0, .inr (5, [.null, .null, .null, .null, .ref q0, .long 0])), (q0, .inl (gc_dA X 0, 8, .inl (fun _ => 0)))]
  refine gc_aload_n (pc := 12) C 0 dX5_init_12 rfl rfl ?_
  refine gc_aload_n (pc := 13) C 1 dX5_init_13 rfl rfl ?_
  refine gc_put (pc := 14) C gk_5 0 0 dX5_init_14 rfl fc_X5_15 rfl rfl (Nat.le_of_ble_eq_true rfl) ?_
  show gc_AW X 1 8 17 [(0, .ref h0), (1, .ref b1), (2, .ref b2), (3, .ref b3), (4, .ref b4)] [] [(h0, .inr (5, [.ref b1, .null, .null, .null, .ref q0, .long 0])), (q0, .inl (gc_dA X 0, 8, .inl (fun _ => 0)))]
  refine gc_aload_n (pc := 17) C 0 dX5_init_17 rfl rfl ?_
  refine gc_aload_n (pc := 18) C 2 dX5_init_18 rfl rfl ?_
  refine gc_put (pc := 19) C gk_5 0 1 dX5_init_19 rfl fc_X5_19 rfl rfl (Nat.le_of_ble_eq_true rfl) ?_
  show gc_AW X 1 8 22 [(0, .ref h0), (1, .ref b1), (2, .ref b2), (3, .ref b3), (4, .ref b4)] [] [(h0, .inr (5, [.ref b1, .ref b2, .null, .null, .ref q0, .long 0])), (q0, .inl (gc_dA X 0, 8, .inl (fun _ => 0)))]
  refine gc_aload_n (pc := 22) C 0 dX5_init_22 rfl rfl ?_
  refine gc_aload_n (pc := 23) C 3 dX5_init_23 rfl rfl ?_
  refine gc_put (pc := 24) C gk_5 0 2 dX5_init_24 rfl fc_X5_23 rfl rfl (Nat.le_of_ble_eq_true rfl) ?_
  show gc_AW X 1 8 27 [(0, .ref h0), (1, .ref b1), (2, .ref b2), (3, .ref b3), (4, .ref b4)] [] [(h0, .inr (5, [.ref b1, .ref b2, .ref b3, .null, .ref q0, .long 0])), (q0, .inl (gc_dA X 0, 8, .inl (fun _ => 0)))]
  refine gc_aload_n (pc := 27) C 0 dX5_init_27 rfl rfl ?_
  refine gc_aload (pc := 28) C 4 dX5_init_28 rfl ?_
  refine gc_put (pc := 30) C gk_5 0 3 dX5_init_30 rfl fc_X5_27 rfl rfl (Nat.le_of_ble_eq_true rfl) ?_
  show gc_AW X 1 8 33 [(0, .ref h0), (1, .ref b1), (2, .ref b2), (3, .ref b3), (4, .ref b4)] [] [(h0, .inr (5, [.ref b1, .ref b2, .ref b3, .ref b4, .ref q0, .long 0])), (q0, .inl (gc_dA X 0, 8, .inl (fun _ => 0)))]
  exact gc_ret C (pc := 33) (fun i => ([q0] : List Nat).getD i 0) dX5_init_33 E (by decide) (by decide) rfl
def wX1 (h0 b1 b2 : Nat) (sa sb : Nat) (dA : Nat → ClassId) (f : Nat → Nat) : va_W := [(h0, .inr (1, [.ref b1, .ref b2, .ref (f 0), .ref (f 1), .ref (f 2), .ref (f 3), .ref (f 4), .int 0, .int 0, .int 0])), ((f 0), .inl (dA 0, 12, .inl (fun _ => 0))), ((f 1), .inl (dA 0, 12, .inl (fun _ => 0))), ((f 2), .inl (dA 3, 12, .inl (fun _ => 0))), ((f 3), .inl (dA 1, 8, .inr (.inl (fun _ => 0)))), ((f 4), .inl (dA 0, 9, .inl (fun _ => 0)))]
set_option maxRecDepth 100000 in
set_option maxHeartbeats 4000000 in
theorem c_X1_init (l : Launch) (h0 b1 b2 : Nat) : gc_Met l 0 yX1_init cX1_init 3 (fun _ _ => [.ref h0, .ref b1, .ref b2]) [(h0, .inr (1, nv_1))] (wX1 h0 b1 b2) 5 53 := by
  refine gc_of RX1 (by decide) rfl rfl (Nat.le_of_ble_eq_true rfl) (fun X C E => ?_)
  show gc_AW X 0 0 0 [(0, .ref h0), (1, .ref b1), (2, .ref b2)] [] [(h0, .inr (1, nv_1))]
  refine gc_aload_n (pc := 0) C 0 dX1_init_0 rfl rfl ?_
  refine gc_obj (pc := 1) C dX1_init_1 ml_X1_3 (Nat.le_of_ble_eq_true rfl) ?_
  refine gc_aload_n (pc := 4) C 0 dX1_init_4 rfl rfl ?_
  refine gc_bipush (w := (12)) (pc := 5) C dX1_init_5 rfl ?_
  refine gc_newa (t := 0) (N := 12) (ty := .int) (a0 := (.inl (fun _ => 0))) (pc := 7) C rfl (fun _ => rfl) (fun _ _ h => h) (fun _ => rfl) dX1_init_7 ar_int (by decide) (by decide) (by decide) (by decide) (by decide) (fun q0 => ?_)
  refine gc_put (pc := 9) C gk_1 0 2 dX1_init_9 rfl fc_X1_11 rfl rfl (Nat.le_of_ble_eq_true rfl) ?_
  show gc_AW X 1 12 12 [(0, .ref h0), (1, .ref b1), (2, .ref b2)] [] [(h0, .inr (1, [.null, .null, .ref q0, .null, .null, .null, .null, .int 0, .int 0, .int 0])), (q0, .inl (gc_dA X 0, 12, .inl (fun _ => 0)))]
  refine gc_aload_n (pc := 12) C 0 dX1_init_12 rfl rfl ?_
  refine gc_bipush (w := (12)) (pc := 13) C dX1_init_13 rfl ?_
  refine gc_newa (t := 0) (N := 12) (ty := .int) (a0 := (.inl (fun _ => 0))) (pc := 15) C rfl (fun _ => rfl) (fun _ _ h => h) (fun _ => rfl) dX1_init_15 ar_int (by decide) (by decide) (by decide) (by decide) (by decide) (fun q1 => ?_)
  refine gc_put (pc := 17) C gk_1 0 3 dX1_init_17 rfl fc_X1_15 rfl rfl (Nat.le_of_ble_eq_true rfl) ?_
  show gc_AW X 2 24 20 [(0, .ref h0), (1, .ref b1), (2, .ref b2)] [] [(h0, .inr (1, [.null, .null, .ref q0, .ref q1, .null, .null, .null, .int 0, .int 0, .int 0])), (q0, .inl (gc_dA X 0, 12, .inl (fun _ => 0))), (q1, .inl (gc_dA X 0, 12, .inl (fun _ => 0)))]
  refine gc_aload_n (pc := 20) C 0 dX1_init_20 rfl rfl ?_
  refine gc_bipush (w := (12)) (pc := 21) C dX1_init_21 rfl ?_
  refine gc_newa (t := 3) (N := 12) (ty := .boolean) (a0 := (.inl (fun _ => 0))) (pc := 23) C rfl (fun _ => rfl) (fun _ _ h => h) (fun _ => rfl) dX1_init_23 ar_boolean (by decide) (by decide) (by decide) (by decide) (by decide) (fun q2 => ?_)
  refine gc_put (pc := 25) C gk_1 0 4 dX1_init_25 rfl fc_X1_18 rfl rfl (Nat.le_of_ble_eq_true rfl) ?_
  show gc_AW X 3 36 28 [(0, .ref h0), (1, .ref b1), (2, .ref b2)] [] [(h0, .inr (1, [.null, .null, .ref q0, .ref q1, .ref q2, .null, .null, .int 0, .int 0, .int 0])), (q0, .inl (gc_dA X 0, 12, .inl (fun _ => 0))), (q1, .inl (gc_dA X 0, 12, .inl (fun _ => 0))), (q2, .inl (gc_dA X 3, 12, .inl (fun _ => 0)))]
  refine gc_aload_n (pc := 28) C 0 dX1_init_28 rfl rfl ?_
  refine gc_bipush (w := (8)) (pc := 29) C dX1_init_29 rfl ?_
  refine gc_newa (t := 1) (N := 8) (ty := .long) (a0 := (.inr (.inl (fun _ => 0)))) (pc := 31) C rfl (fun _ => rfl) (fun _ _ h => h) (fun _ => rfl) dX1_init_31 ar_long (by decide) (by decide) (by decide) (by decide) (by decide) (fun q3 => ?_)
  refine gc_put (pc := 33) C gk_1 0 5 dX1_init_33 rfl fc_X1_22 rfl rfl (Nat.le_of_ble_eq_true rfl) ?_
  show gc_AW X 4 44 36 [(0, .ref h0), (1, .ref b1), (2, .ref b2)] [] [(h0, .inr (1, [.null, .null, .ref q0, .ref q1, .ref q2, .ref q3, .null, .int 0, .int 0, .int 0])), (q0, .inl (gc_dA X 0, 12, .inl (fun _ => 0))), (q1, .inl (gc_dA X 0, 12, .inl (fun _ => 0))), (q2, .inl (gc_dA X 3, 12, .inl (fun _ => 0))), (q3, .inl (gc_dA X 1, 8, .inr (.inl (fun _ => 0))))]
  refine gc_aload_n (pc := 36) C 0 dX1_init_36 rfl rfl ?_
  refine gc_bipush (w := (9)) (pc := 37) C dX1_init_37 rfl ?_
  refine gc_newa (t := 0) (N := 9) (ty := .int) (a0 := (.inl (fun _ => 0))) (pc := 39) C rfl (fun _ => rfl) (fun _ _ h => h) (fun _ => rfl) dX1_init_39 ar_int (by decide) (by decide) (by decide) (by decide) (by decide) (fun q4 => ?_)
  refine gc_put (pc := 41) C gk_1 0 6 dX1_init_41 rfl fc_X1_26 rfl rfl (Nat.le_of_ble_eq_true rfl) ?_
  show gc_AW X 5 53 44 [(0, .ref h0), (1, .ref b1), (2, .ref b2)] [] [(h0, .inr (1, [.null, .null, .ref q0, .ref q1, .ref q2, .ref q3, .ref q4, .int 0, .int 0, .int 0])), (q0, .inl (gc_dA X 0, 12, .inl (fun _ => 0))), (q1, .inl (gc_dA X 0, 12, .inl (fun _ => 0))), (q2, .inl (gc_dA X 3, 12, .inl (fun _ => 0))), (q3, .inl (gc_dA X 1, 8, .inr (.inl (fun _ => 0)))), (q4, .inl (gc_dA X 0, 9, .inl (fun _ => 0)))]
  refine gc_aload_n (pc := 44) C 0 dX1_init_44 rfl rfl ?_
  refine gc_aload_n (pc := 45) C 1 dX1_init_45 rfl rfl ?_
  refine gc_put (pc := 46) C gk_1 0 0 dX1_init_46 rfl fc_X1_29 rfl rfl (Nat.le_of_ble_eq_true rfl) ?_
  show gc_AW X 5 53 49 [(0, .ref h0), (1, .ref b1), (2, .ref b2)] [] [(h0, .inr (1, [.ref b1, .null, .ref q0, .ref q1, .ref q2, .ref q3, .ref q4, .int 0, .int 0, .int 0])), (q0, .inl (gc_dA X 0, 12, .inl (fun _ => 0))), (q1, .inl (gc_dA X 0, 12, .inl (fun _ => 0))), (q2, .inl (gc_dA X 3, 12, .inl (fun _ => 0))), (q3, .inl (gc_dA X 1, 8, .inr (.inl (fun _ => 0)))), (q4, .inl (gc_dA X 0, 9, .inl (fun _ => 0)))]
  refine gc_aload_n (pc := 49) C 0 dX1_init_49 rfl rfl ?_
  refine gc_aload_n (pc := 50) C 2 dX1_init_50 rfl rfl ?_
  refine gc_put (pc := 51) C gk_1 0 1 dX1_init_51 rfl fc_X1_33 rfl rfl (Nat.le_of_ble_eq_true rfl) ?_
  show gc_AW X 5 53 54 [(0, .ref h0), (1, .ref b1), (2, .ref b2)] [] [(h0, .inr (1, [.ref b1, .ref b2, .ref q0, .ref q1, .ref q2, .ref q3, .ref q4, .int 0, .int 0, .int 0])), (q0, .inl (gc_dA X 0, 12, .inl (fun _ => 0))), (q1, .inl (gc_dA X 0, 12, .inl (fun _ => 0))), (q2, .inl (gc_dA X 3, 12, .inl (fun _ => 0))), (q3, .inl (gc_dA X 1, 8, .inr (.inl (fun _ => 0)))), (q4, .inl (gc_dA X 0, 9, .inl (fun _ => 0)))]
  exact gc_ret C (pc := 54) (fun i => ([q0, q1, q2, q3, q4] : List Nat).getD i 0) dX1_init_54 E (by decide) (by decide) rfl
def wX8 (h0 b1 b2 b3 : Nat) (sa sb : Nat) (dA : Nat → ClassId) (f : Nat → Nat) : va_W := [(h0, .inr (8, [.ref b1, .ref b2, .ref b3, .ref (f 0), .ref (f 1), .ref (f 2), .ref (f 3), .ref (f 4), .int 0, .int (1)])), ((f 0), .inl (dA 0, 6561, .inl (fun _ => 0))), ((f 1), .inl (dA 0, 8, .inl (fun _ => 0))), ((f 2), .inl (dA 0, 8, .inl (fun _ => 0))), ((f 3), .inl (dA 0, 8, .inl (fun _ => 0))), ((f 4), .inl (dA 0, 72, .inl (fun _ => 0)))]
set_option maxRecDepth 100000 in
set_option maxHeartbeats 4000000 in
theorem c_X8_init (l : Launch) (h0 b1 b2 b3 : Nat) : gc_Met l 0 yX8_init cX8_init 4 (fun _ _ => [.ref h0, .ref b1, .ref b2, .ref b3]) [(h0, .inr (8, nv_8))] (wX8 h0 b1 b2 b3) 5 6657 := by
  refine gc_of RX8 (by decide) rfl rfl (Nat.le_of_ble_eq_true rfl) (fun X C E => ?_)
  show gc_AW X 0 0 0 [(0, .ref h0), (1, .ref b1), (2, .ref b2), (3, .ref b3)] [] [(h0, .inr (8, nv_8))]
  refine gc_aload_n (pc := 0) C 0 dX8_init_0 rfl rfl ?_
  refine gc_obj (pc := 1) C dX8_init_1 ml_X8_3 (Nat.le_of_ble_eq_true rfl) ?_
  refine gc_aload_n (pc := 4) C 0 dX8_init_4 rfl rfl ?_
  refine gc_sipush (w := (6561)) (pc := 5) C dX8_init_5 rfl ?_
  refine gc_newa (t := 0) (N := 6561) (ty := .int) (a0 := (.inl (fun _ => 0))) (pc := 8) C rfl (fun _ => rfl) (fun _ _ h => h) (fun _ => rfl) dX8_init_8 ar_int (by decide) (by decide) (by decide) (by decide) (by decide) (fun q0 => ?_)
  refine gc_put (pc := 10) C gk_8 0 3 dX8_init_10 rfl fc_X8_11 rfl rfl (Nat.le_of_ble_eq_true rfl) ?_
  show gc_AW X 1 6561 13 [(0, .ref h0), (1, .ref b1), (2, .ref b2), (3, .ref b3)] [] [(h0, .inr (8, [.null, .null, .null, .ref q0, .null, .null, .null, .null, .int 0, .int 0])), (q0, .inl (gc_dA X 0, 6561, .inl (fun _ => 0)))]
  refine gc_aload_n (pc := 13) C 0 dX8_init_13 rfl rfl ?_
  refine gc_bipush (w := (8)) (pc := 14) C dX8_init_14 rfl ?_
  refine gc_newa (t := 0) (N := 8) (ty := .int) (a0 := (.inl (fun _ => 0))) (pc := 16) C rfl (fun _ => rfl) (fun _ _ h => h) (fun _ => rfl) dX8_init_16 ar_int (by decide) (by decide) (by decide) (by decide) (by decide) (fun q1 => ?_)
  refine gc_put (pc := 18) C gk_8 0 4 dX8_init_18 rfl fc_X8_15 rfl rfl (Nat.le_of_ble_eq_true rfl) ?_
  show gc_AW X 2 6569 21 [(0, .ref h0), (1, .ref b1), (2, .ref b2), (3, .ref b3)] [] [(h0, .inr (8, [.null, .null, .null, .ref q0, .ref q1, .null, .null, .null, .int 0, .int 0])), (q0, .inl (gc_dA X 0, 6561, .inl (fun _ => 0))), (q1, .inl (gc_dA X 0, 8, .inl (fun _ => 0)))]
  refine gc_aload_n (pc := 21) C 0 dX8_init_21 rfl rfl ?_
  refine gc_bipush (w := (8)) (pc := 22) C dX8_init_22 rfl ?_
  refine gc_newa (t := 0) (N := 8) (ty := .int) (a0 := (.inl (fun _ => 0))) (pc := 24) C rfl (fun _ => rfl) (fun _ _ h => h) (fun _ => rfl) dX8_init_24 ar_int (by decide) (by decide) (by decide) (by decide) (by decide) (fun q2 => ?_)
  refine gc_put (pc := 26) C gk_8 0 5 dX8_init_26 rfl fc_X8_18 rfl rfl (Nat.le_of_ble_eq_true rfl) ?_
  show gc_AW X 3 6577 29 [(0, .ref h0), (1, .ref b1), (2, .ref b2), (3, .ref b3)] [] [(h0, .inr (8, [.null, .null, .null, .ref q0, .ref q1, .ref q2, .null, .null, .int 0, .int 0])), (q0, .inl (gc_dA X 0, 6561, .inl (fun _ => 0))), (q1, .inl (gc_dA X 0, 8, .inl (fun _ => 0))), (q2, .inl (gc_dA X 0, 8, .inl (fun _ => 0)))]
  refine gc_aload_n (pc := 29) C 0 dX8_init_29 rfl rfl ?_
  refine gc_bipush (w := (8)) (pc := 30) C dX8_init_30 rfl ?_
  refine gc_newa (t := 0) (N := 8) (ty := .int) (a0 := (.inl (fun _ => 0))) (pc := 32) C rfl (fun _ => rfl) (fun _ _ h => h) (fun _ => rfl) dX8_init_32 ar_int (by decide) (by decide) (by decide) (by decide) (by decide) (fun q3 => ?_)
  refine gc_put (pc := 34) C gk_8 0 6 dX8_init_34 rfl fc_X8_21 rfl rfl (Nat.le_of_ble_eq_true rfl) ?_
  show gc_AW X 4 6585 37 [(0, .ref h0), (1, .ref b1), (2, .ref b2), (3, .ref b3)] [] [(h0, .inr (8, [.null, .null, .null, .ref q0, .ref q1, .ref q2, .ref q3, .null, .int 0, .int 0])), (q0, .inl (gc_dA X 0, 6561, .inl (fun _ => 0))), (q1, .inl (gc_dA X 0, 8, .inl (fun _ => 0))), (q2, .inl (gc_dA X 0, 8, .inl (fun _ => 0))), (q3, .inl (gc_dA X 0, 8, .inl (fun _ => 0)))]
  refine gc_aload_n (pc := 37) C 0 dX8_init_37 rfl rfl ?_
  refine gc_bipush (w := (72)) (pc := 38) C dX8_init_38 rfl ?_
  refine gc_newa (t := 0) (N := 72) (ty := .int) (a0 := (.inl (fun _ => 0))) (pc := 40) C rfl (fun _ => rfl) (fun _ _ h => h) (fun _ => rfl) dX8_init_40 ar_int (by decide) (by decide) (by decide) (by decide) (by decide) (fun q4 => ?_)
  refine gc_put (pc := 42) C gk_8 0 7 dX8_init_42 rfl fc_X8_24 rfl rfl (Nat.le_of_ble_eq_true rfl) ?_
  show gc_AW X 5 6657 45 [(0, .ref h0), (1, .ref b1), (2, .ref b2), (3, .ref b3)] [] [(h0, .inr (8, [.null, .null, .null, .ref q0, .ref q1, .ref q2, .ref q3, .ref q4, .int 0, .int 0])), (q0, .inl (gc_dA X 0, 6561, .inl (fun _ => 0))), (q1, .inl (gc_dA X 0, 8, .inl (fun _ => 0))), (q2, .inl (gc_dA X 0, 8, .inl (fun _ => 0))), (q3, .inl (gc_dA X 0, 8, .inl (fun _ => 0))), (q4, .inl (gc_dA X 0, 72, .inl (fun _ => 0)))]
  refine gc_aload_n (pc := 45) C 0 dX8_init_45 rfl rfl ?_
  refine gc_iconst (w := (1)) (pc := 46) C dX8_init_46 rfl ?_
  refine gc_put (pc := 47) C gk_8 0 9 dX8_init_47 rfl fc_X8_27 rfl rfl (Nat.le_of_ble_eq_true rfl) ?_
  show gc_AW X 5 6657 50 [(0, .ref h0), (1, .ref b1), (2, .ref b2), (3, .ref b3)] [] [(h0, .inr (8, [.null, .null, .null, .ref q0, .ref q1, .ref q2, .ref q3, .ref q4, .int 0, .int (1)])), (q0, .inl (gc_dA X 0, 6561, .inl (fun _ => 0))), (q1, .inl (gc_dA X 0, 8, .inl (fun _ => 0))), (q2, .inl (gc_dA X 0, 8, .inl (fun _ => 0))), (q3, .inl (gc_dA X 0, 8, .inl (fun _ => 0))), (q4, .inl (gc_dA X 0, 72, .inl (fun _ => 0)))]
  refine gc_aload_n (pc := 50) C 0 dX8_init_50 rfl rfl ?_
  refine gc_aload_n (pc := 51) C 1 dX8_init_51 rfl rfl ?_
  refine gc_put (pc := 52) C gk_8 0 0 dX8_init_52 rfl fc_X8_31 rfl rfl (Nat.le_of_ble_eq_true rfl) ?_
  show gc_AW X 5 6657 55 [(0, .ref h0), (1, .ref b1), (2, .ref b2), (3, .ref b3)] [] [(h0, .inr (8, [.ref b1, .null, .null, .ref q0, .ref q1, .ref q2, .ref q3, .ref q4, .int 0, .int (1)])), (q0, .inl (gc_dA X 0, 6561, .inl (fun _ => 0))), (q1, .inl (gc_dA X 0, 8, .inl (fun _ => 0))), (q2, .inl (gc_dA X 0, 8, .inl (fun _ => 0))), (q3, .inl (gc_dA X 0, 8, .inl (fun _ => 0))), (q4, .inl (gc_dA X 0, 72, .inl (fun _ => 0)))]
  refine gc_aload_n (pc := 55) C 0 dX8_init_55 rfl rfl ?_
  refine gc_aload_n (pc := 56) C 2 dX8_init_56 rfl rfl ?_
  refine gc_put (pc := 57) C gk_8 0 1 dX8_init_57 rfl fc_X8_35 rfl rfl (Nat.le_of_ble_eq_true rfl) ?_
  show gc_AW X 5 6657 60 [(0, .ref h0), (1, .ref b1), (2, .ref b2), (3, .ref b3)] [] [(h0, .inr (8, [.ref b1, .ref b2, .null, .ref q0, .ref q1, .ref q2, .ref q3, .ref q4, .int 0, .int (1)])), (q0, .inl (gc_dA X 0, 6561, .inl (fun _ => 0))), (q1, .inl (gc_dA X 0, 8, .inl (fun _ => 0))), (q2, .inl (gc_dA X 0, 8, .inl (fun _ => 0))), (q3, .inl (gc_dA X 0, 8, .inl (fun _ => 0))), (q4, .inl (gc_dA X 0, 72, .inl (fun _ => 0)))]
  refine gc_aload_n (pc := 60) C 0 dX8_init_60 rfl rfl ?_
  refine gc_aload_n (pc := 61) C 3 dX8_init_61 rfl rfl ?_
  refine gc_put (pc := 62) C gk_8 0 2 dX8_init_62 rfl fc_X8_39 rfl rfl (Nat.le_of_ble_eq_true rfl) ?_
  show gc_AW X 5 6657 65 [(0, .ref h0), (1, .ref b1), (2, .ref b2), (3, .ref b3)] [] [(h0, .inr (8, [.ref b1, .ref b2, .ref b3, .ref q0, .ref q1, .ref q2, .ref q3, .ref q4, .int 0, .int (1)])), (q0, .inl (gc_dA X 0, 6561, .inl (fun _ => 0))), (q1, .inl (gc_dA X 0, 8, .inl (fun _ => 0))), (q2, .inl (gc_dA X 0, 8, .inl (fun _ => 0))), (q3, .inl (gc_dA X 0, 8, .inl (fun _ => 0))), (q4, .inl (gc_dA X 0, 72, .inl (fun _ => 0)))]
  exact gc_ret C (pc := 65) (fun i => ([q0, q1, q2, q3, q4] : List Nat).getD i 0) dX8_init_65 E (by decide) (by decide) rfl
def wX12 (h0 : Nat) (sa sb : Nat) (dA : Nat → ClassId) (f : Nat → Nat) : va_W := [(h0, .inr (12, [.int 0, .ref (f 0), .ref (f 1), .ref (f 2), .ref (f 3), .ref (f 0), .int 0, .int 0, .int 0, .int 0, .int 0, .int 0, .int 0, .int 0, .int 0, .ref sa, .ref sb, .int 0, .ref (f 4), .ref (f 5), .ref (f 6), .ref (f 7), .ref (f 8), .ref (f 9), .int 0, .int 0, .int 0, .int 0, .ref (f 10), .int (-1), .int (-1), .int 0, .long 0, .ref (f 11), .ref (f 12), .int 0, .ref (f 13), .ref (f 14), .ref (f 15), .ref (f 16), .int 0, .ref (f 17), .ref (f 18), .ref (f 19), .ref (f 20), .ref (f 21), .int 0])), ((f 0), .inl (dA 2, 240, .inl (fun _ => 0))), ((f 1), .inl (dA 2, 960, .inl (fun _ => 0))), ((f 2), .inl (dA 0, 4, .inl (fun _ => 0))), ((f 3), .inl (dA 0, 128, .inl (fun _ => 0))), ((f 4), .inl (dA 0, 3, .inl (fun _ => 0))), ((f 5), .inl (dA 0, 3, .inl (fun _ => 0))), ((f 6), .inl (dA 0, 40, .inl (fun _ => 0))), ((f 7), .inl (dA 0, 40, .inl (fun _ => 0))), ((f 8), .inl (dA 0, 45, .inl (fun _ => 0))), ((f 9), .inl (dA 0, 5, .inl (fun _ => 0))), ((f 10), .inl (dA 0, 533, .inl (fun _ => 0))), ((f 11), .inl (dA 0, 8, .inl (fun _ => 0))), ((f 12), .inl (dA 0, 21320, .inl (fun _ => 0))), ((f 13), .inl (dA 1, 11, .inr (.inl (fun _ => 0)))), ((f 14), .inl (dA 0, 12, .inl (fun _ => 0))), ((f 15), .inl (dA 0, 12, .inl (fun _ => 0))), ((f 16), .inl (dA 3, 12, .inl (fun _ => 0))), ((f 17), .inl (dA 0, 512, .inl (fun _ => 0))), ((f 18), .inl (dA 0, 512, .inl (fun _ => 0))), ((f 19), .inl (dA 0, 72, .inl (fun _ => 0))), ((f 20), .inl (dA 0, 9, .inl (fun _ => 0))), ((f 21), .inl (dA 0, 533, .inl (fun _ => 0)))]
set_option maxRecDepth 100000 in
set_option maxHeartbeats 4000000 in
theorem c_X12_init (l : Launch) (h0 : Nat) : gc_Met l 0 yX12_init cX12_init 1 (fun _ _ => [.ref h0]) [(h0, .inr (12, nv_12))] (wX12 h0) 22 25014 := by
  refine gc_of RX12 (by decide) rfl rfl (Nat.le_of_ble_eq_true rfl) (fun X C E => ?_)
  show gc_AW X 0 0 0 [(0, .ref h0)] [] [(h0, .inr (12, nv_12))]
  refine gc_aload_n (pc := 0) C 0 dX12_init_0 rfl rfl ?_
  refine gc_obj (pc := 1) C dX12_init_1 ml_X12_3 (Nat.le_of_ble_eq_true rfl) ?_
  refine gc_aload_n (pc := 4) C 0 dX12_init_4 rfl rfl ?_
  refine gc_sipush (w := (240)) (pc := 5) C dX12_init_5 rfl ?_
  refine gc_newa (t := 2) (N := 240) (ty := .byte) (a0 := (.inl (fun _ => 0))) (pc := 8) C rfl (fun _ => rfl) (fun _ _ h => h) (fun _ => rfl) dX12_init_8 ar_byte (by decide) (by decide) (by decide) (by decide) (by decide) (fun q0 => ?_)
  refine gc_put (pc := 10) C gk_12 0 1 dX12_init_10 rfl fc_X12_9 rfl rfl (Nat.le_of_ble_eq_true rfl) ?_
  show gc_AW X 1 240 13 [(0, .ref h0)] [] [(h0, .inr (12, [.int 0, .ref q0, .null, .null, .null, .null, .int 0, .int 0, .int 0, .int 0, .int 0, .int 0, .int 0, .int 0, .int 0, .null, .null, .int 0, .null, .null, .null, .null, .null, .null, .int 0, .int 0, .int 0, .int 0, .null, .int 0, .int 0, .int 0, .long 0, .null, .null, .int 0, .null, .null, .null, .null, .int 0, .null, .null, .null, .null, .null, .int 0])), (q0, .inl (gc_dA X 2, 240, .inl (fun _ => 0)))]
  refine gc_aload_n (pc := 13) C 0 dX12_init_13 rfl rfl ?_
  refine gc_sipush (w := (960)) (pc := 14) C dX12_init_14 rfl ?_
  refine gc_newa (t := 2) (N := 960) (ty := .byte) (a0 := (.inl (fun _ => 0))) (pc := 17) C rfl (fun _ => rfl) (fun _ _ h => h) (fun _ => rfl) dX12_init_17 ar_byte (by decide) (by decide) (by decide) (by decide) (by decide) (fun q1 => ?_)
  refine gc_put (pc := 19) C gk_12 0 2 dX12_init_19 rfl fc_X12_13 rfl rfl (Nat.le_of_ble_eq_true rfl) ?_
  show gc_AW X 2 1200 22 [(0, .ref h0)] [] [(h0, .inr (12, [.int 0, .ref q0, .ref q1, .null, .null, .null, .int 0, .int 0, .int 0, .int 0, .int 0, .int 0, .int 0, .int 0, .int 0, .null, .null, .int 0, .null, .null, .null, .null, .null, .null, .int 0, .int 0, .int 0, .int 0, .null, .int 0, .int 0, .int 0, .long 0, .null, .null, .int 0, .null, .null, .null, .null, .int 0, .null, .null, .null, .null, .null, .int 0])), (q0, .inl (gc_dA X 2, 240, .inl (fun _ => 0))), (q1, .inl (gc_dA X 2, 960, .inl (fun _ => 0)))]
  refine gc_aload_n (pc := 22) C 0 dX12_init_22 rfl rfl ?_
  refine gc_iconst (w := (4)) (pc := 23) C dX12_init_23 rfl ?_
  refine gc_newa (t := 0) (N := 4) (ty := .int) (a0 := (.inl (fun _ => 0))) (pc := 24) C rfl (fun _ => rfl) (fun _ _ h => h) (fun _ => rfl) dX12_init_24 ar_int (by decide) (by decide) (by decide) (by decide) (by decide) (fun q2 => ?_)
  refine gc_put (pc := 26) C gk_12 0 3 dX12_init_26 rfl fc_X12_16 rfl rfl (Nat.le_of_ble_eq_true rfl) ?_
  show gc_AW X 3 1204 29 [(0, .ref h0)] [] [(h0, .inr (12, [.int 0, .ref q0, .ref q1, .ref q2, .null, .null, .int 0, .int 0, .int 0, .int 0, .int 0, .int 0, .int 0, .int 0, .int 0, .null, .null, .int 0, .null, .null, .null, .null, .null, .null, .int 0, .int 0, .int 0, .int 0, .null, .int 0, .int 0, .int 0, .long 0, .null, .null, .int 0, .null, .null, .null, .null, .int 0, .null, .null, .null, .null, .null, .int 0])), (q0, .inl (gc_dA X 2, 240, .inl (fun _ => 0))), (q1, .inl (gc_dA X 2, 960, .inl (fun _ => 0))), (q2, .inl (gc_dA X 0, 4, .inl (fun _ => 0)))]
  refine gc_aload_n (pc := 29) C 0 dX12_init_29 rfl rfl ?_
  refine gc_sipush (w := (128)) (pc := 30) C dX12_init_30 rfl ?_
  refine gc_newa (t := 0) (N := 128) (ty := .int) (a0 := (.inl (fun _ => 0))) (pc := 33) C rfl (fun _ => rfl) (fun _ _ h => h) (fun _ => rfl) dX12_init_33 ar_int (by decide) (by decide) (by decide) (by decide) (by decide) (fun q3 => ?_)
  refine gc_put (pc := 35) C gk_12 0 4 dX12_init_35 rfl fc_X12_20 rfl rfl (Nat.le_of_ble_eq_true rfl) ?_
  show gc_AW X 4 1332 38 [(0, .ref h0)] [] [(h0, .inr (12, [.int 0, .ref q0, .ref q1, .ref q2, .ref q3, .null, .int 0, .int 0, .int 0, .int 0, .int 0, .int 0, .int 0, .int 0, .int 0, .null, .null, .int 0, .null, .null, .null, .null, .null, .null, .int 0, .int 0, .int 0, .int 0, .null, .int 0, .int 0, .int 0, .long 0, .null, .null, .int 0, .null, .null, .null, .null, .int 0, .null, .null, .null, .null, .null, .int 0])), (q0, .inl (gc_dA X 2, 240, .inl (fun _ => 0))), (q1, .inl (gc_dA X 2, 960, .inl (fun _ => 0))), (q2, .inl (gc_dA X 0, 4, .inl (fun _ => 0))), (q3, .inl (gc_dA X 0, 128, .inl (fun _ => 0)))]
  refine gc_aload_n (pc := 38) C 0 dX12_init_38 rfl rfl ?_
  refine gc_aload_n (pc := 39) C 0 dX12_init_39 rfl rfl ?_
  refine gc_getq (kf := 1) (pc := 40) C gk_12 0 dX12_init_40 rfl fl_X12_9 rfl ?_
  refine gc_put (pc := 43) C gk_12 0 5 dX12_init_43 rfl fc_X12_23 rfl rfl (Nat.le_of_ble_eq_true rfl) ?_
  show gc_AW X 4 1332 46 [(0, .ref h0)] [] [(h0, .inr (12, [.int 0, .ref q0, .ref q1, .ref q2, .ref q3, .ref q0, .int 0, .int 0, .int 0, .int 0, .int 0, .int 0, .int 0, .int 0, .int 0, .null, .null, .int 0, .null, .null, .null, .null, .null, .null, .int 0, .int 0, .int 0, .int 0, .null, .int 0, .int 0, .int 0, .long 0, .null, .null, .int 0, .null, .null, .null, .null, .int 0, .null, .null, .null, .null, .null, .int 0])), (q0, .inl (gc_dA X 2, 240, .inl (fun _ => 0))), (q1, .inl (gc_dA X 2, 960, .inl (fun _ => 0))), (q2, .inl (gc_dA X 0, 4, .inl (fun _ => 0))), (q3, .inl (gc_dA X 0, 128, .inl (fun _ => 0)))]
  refine gc_aload_n (pc := 46) C 0 dX12_init_46 rfl rfl ?_
  refine gc_ldcA (pc := 47) C rfl dX12_init_47 ?_
  refine gc_put (pc := 49) C gk_12 0 15 dX12_init_49 rfl fc_X12_28 rfl rfl (Nat.le_of_ble_eq_true rfl) ?_
  show gc_AW X 4 1332 52 [(0, .ref h0)] [] [(h0, .inr (12, [.int 0, .ref q0, .ref q1, .ref q2, .ref q3, .ref q0, .int 0, .int 0, .int 0, .int 0, .int 0, .int 0, .int 0, .int 0, .int 0, .ref (gc_sa X), .null, .int 0, .null, .null, .null, .null, .null, .null, .int 0, .int 0, .int 0, .int 0, .null, .int 0, .int 0, .int 0, .long 0, .null, .null, .int 0, .null, .null, .null, .null, .int 0, .null, .null, .null, .null, .null, .int 0])), (q0, .inl (gc_dA X 2, 240, .inl (fun _ => 0))), (q1, .inl (gc_dA X 2, 960, .inl (fun _ => 0))), (q2, .inl (gc_dA X 0, 4, .inl (fun _ => 0))), (q3, .inl (gc_dA X 0, 128, .inl (fun _ => 0)))]
  refine gc_aload_n (pc := 52) C 0 dX12_init_52 rfl rfl ?_
  refine gc_ldcB (pc := 53) C rfl dX12_init_53 ?_
  refine gc_put (pc := 55) C gk_12 0 16 dX12_init_55 rfl fc_X12_34 rfl rfl (Nat.le_of_ble_eq_true rfl) ?_
  show gc_AW X 4 1332 58 [(0, .ref h0)] [] [(h0, .inr (12, [.int 0, .ref q0, .ref q1, .ref q2, .ref q3, .ref q0, .int 0, .int 0, .int 0, .int 0, .int 0, .int 0, .int 0, .int 0, .int 0, .ref (gc_sa X), .ref (gc_sb X), .int 0, .null, .null, .null, .null, .null, .null, .int 0, .int 0, .int 0, .int 0, .null, .int 0, .int 0, .int 0, .long 0, .null, .null, .int 0, .null, .null, .null, .null, .int 0, .null, .null, .null, .null, .null, .int 0])), (q0, .inl (gc_dA X 2, 240, .inl (fun _ => 0))), (q1, .inl (gc_dA X 2, 960, .inl (fun _ => 0))), (q2, .inl (gc_dA X 0, 4, .inl (fun _ => 0))), (q3, .inl (gc_dA X 0, 128, .inl (fun _ => 0)))]
  refine gc_aload_n (pc := 58) C 0 dX12_init_58 rfl rfl ?_
  refine gc_iconst (w := (3)) (pc := 59) C dX12_init_59 rfl ?_
  refine gc_newa (t := 0) (N := 3) (ty := .int) (a0 := (.inl (fun _ => 0))) (pc := 60) C rfl (fun _ => rfl) (fun _ _ h => h) (fun _ => rfl) dX12_init_60 ar_int (by decide) (by decide) (by decide) (by decide) (by decide) (fun q4 => ?_)
  refine gc_put (pc := 62) C gk_12 0 18 dX12_init_62 rfl fc_X12_37 rfl rfl (Nat.le_of_ble_eq_true rfl) ?_
  show gc_AW X 5 1335 65 [(0, .ref h0)] [] [(h0, .inr (12, [.int 0, .ref q0, .ref q1, .ref q2, .ref q3, .ref q0, .int 0, .int 0, .int 0, .int 0, .int 0, .int 0, .int 0, .int 0, .int 0, .ref (gc_sa X), .ref (gc_sb X), .int 0, .ref q4, .null, .null, .null, .null, .null, .int 0, .int 0, .int 0, .int 0, .null, .int 0, .int 0, .int 0, .long 0, .null, .null, .int 0, .null, .null, .null, .null, .int 0, .null, .null, .null, .null, .null, .int 0])), (q0, .inl (gc_dA X 2, 240, .inl (fun _ => 0))), (q1, .inl (gc_dA X 2, 960, .inl (fun _ => 0))), (q2, .inl (gc_dA X 0, 4, .inl (fun _ => 0))), (q3, .inl (gc_dA X 0, 128, .inl (fun _ => 0))), (q4, .inl (gc_dA X 0, 3, .inl (fun _ => 0)))]
  refine gc_aload_n (pc := 65) C 0 dX12_init_65 rfl rfl ?_
  refine gc_iconst (w := (3)) (pc := 66) C dX12_init_66 rfl ?_
  refine gc_newa (t := 0) (N := 3) (ty := .int) (a0 := (.inl (fun _ => 0))) (pc := 67) C rfl (fun _ => rfl) (fun _ _ h => h) (fun _ => rfl) dX12_init_67 ar_int (by decide) (by decide) (by decide) (by decide) (by decide) (fun q5 => ?_)
  refine gc_put (pc := 69) C gk_12 0 19 dX12_init_69 rfl fc_X12_40 rfl rfl (Nat.le_of_ble_eq_true rfl) ?_
  show gc_AW X 6 1338 72 [(0, .ref h0)] [] [(h0, .inr (12, [.int 0, .ref q0, .ref q1, .ref q2, .ref q3, .ref q0, .int 0, .int 0, .int 0, .int 0, .int 0, .int 0, .int 0, .int 0, .int 0, .ref (gc_sa X), .ref (gc_sb X), .int 0, .ref q4, .ref q5, .null, .null, .null, .null, .int 0, .int 0, .int 0, .int 0, .null, .int 0, .int 0, .int 0, .long 0, .null, .null, .int 0, .null, .null, .null, .null, .int 0, .null, .null, .null, .null, .null, .int 0])), (q0, .inl (gc_dA X 2, 240, .inl (fun _ => 0))), (q1, .inl (gc_dA X 2, 960, .inl (fun _ => 0))), (q2, .inl (gc_dA X 0, 4, .inl (fun _ => 0))), (q3, .inl (gc_dA X 0, 128, .inl (fun _ => 0))), (q4, .inl (gc_dA X 0, 3, .inl (fun _ => 0))), (q5, .inl (gc_dA X 0, 3, .inl (fun _ => 0)))]
  refine gc_aload_n (pc := 72) C 0 dX12_init_72 rfl rfl ?_
  refine gc_bipush (w := (40)) (pc := 73) C dX12_init_73 rfl ?_
  refine gc_newa (t := 0) (N := 40) (ty := .int) (a0 := (.inl (fun _ => 0))) (pc := 75) C rfl (fun _ => rfl) (fun _ _ h => h) (fun _ => rfl) dX12_init_75 ar_int (by decide) (by decide) (by decide) (by decide) (by decide) (fun q6 => ?_)
  refine gc_put (pc := 77) C gk_12 0 20 dX12_init_77 rfl fc_X12_43 rfl rfl (Nat.le_of_ble_eq_true rfl) ?_
  show gc_AW X 7 1378 80 [(0, .ref h0)] [] [(h0, .inr (12, [.int 0, .ref q0, .ref q1, .ref q2, .ref q3, .ref q0, .int 0, .int 0, .int 0, .int 0, .int 0, .int 0, .int 0, .int 0, .int 0, .ref (gc_sa X), .ref (gc_sb X), .int 0, .ref q4, .ref q5, .ref q6, .null, .null, .null, .int 0, .int 0, .int 0, .int 0, .null, .int 0, .int 0, .int 0, .long 0, .null, .null, .int 0, .null, .null, .null, .null, .int 0, .null, .null, .null, .null, .null, .int 0])), (q0, .inl (gc_dA X 2, 240, .inl (fun _ => 0))), (q1, .inl (gc_dA X 2, 960, .inl (fun _ => 0))), (q2, .inl (gc_dA X 0, 4, .inl (fun _ => 0))), (q3, .inl (gc_dA X 0, 128, .inl (fun _ => 0))), (q4, .inl (gc_dA X 0, 3, .inl (fun _ => 0))), (q5, .inl (gc_dA X 0, 3, .inl (fun _ => 0))), (q6, .inl (gc_dA X 0, 40, .inl (fun _ => 0)))]
  refine gc_aload_n (pc := 80) C 0 dX12_init_80 rfl rfl ?_
  refine gc_bipush (w := (40)) (pc := 81) C dX12_init_81 rfl ?_
  refine gc_newa (t := 0) (N := 40) (ty := .int) (a0 := (.inl (fun _ => 0))) (pc := 83) C rfl (fun _ => rfl) (fun _ _ h => h) (fun _ => rfl) dX12_init_83 ar_int (by decide) (by decide) (by decide) (by decide) (by decide) (fun q7 => ?_)
  refine gc_put (pc := 85) C gk_12 0 21 dX12_init_85 rfl fc_X12_46 rfl rfl (Nat.le_of_ble_eq_true rfl) ?_
  show gc_AW X 8 1418 88 [(0, .ref h0)] [] [(h0, .inr (12, [.int 0, .ref q0, .ref q1, .ref q2, .ref q3, .ref q0, .int 0, .int 0, .int 0, .int 0, .int 0, .int 0, .int 0, .int 0, .int 0, .ref (gc_sa X), .ref (gc_sb X), .int 0, .ref q4, .ref q5, .ref q6, .ref q7, .null, .null, .int 0, .int 0, .int 0, .int 0, .null, .int 0, .int 0, .int 0, .long 0, .null, .null, .int 0, .null, .null, .null, .null, .int 0, .null, .null, .null, .null, .null, .int 0])), (q0, .inl (gc_dA X 2, 240, .inl (fun _ => 0))), (q1, .inl (gc_dA X 2, 960, .inl (fun _ => 0))), (q2, .inl (gc_dA X 0, 4, .inl (fun _ => 0))), (q3, .inl (gc_dA X 0, 128, .inl (fun _ => 0))), (q4, .inl (gc_dA X 0, 3, .inl (fun _ => 0))), (q5, .inl (gc_dA X 0, 3, .inl (fun _ => 0))), (q6, .inl (gc_dA X 0, 40, .inl (fun _ => 0))), (q7, .inl (gc_dA X 0, 40, .inl (fun _ => 0)))]
  refine gc_aload_n (pc := 88) C 0 dX12_init_88 rfl rfl ?_
  refine gc_bipush (w := (45)) (pc := 89) C dX12_init_89 rfl ?_
  refine gc_newa (t := 0) (N := 45) (ty := .int) (a0 := (.inl (fun _ => 0))) (pc := 91) C rfl (fun _ => rfl) (fun _ _ h => h) (fun _ => rfl) dX12_init_91 ar_int (by decide) (by decide) (by decide) (by decide) (by decide) (fun q8 => ?_)
  refine gc_put (pc := 93) C gk_12 0 22 dX12_init_93 rfl fc_X12_49 rfl rfl (Nat.le_of_ble_eq_true rfl) ?_
  show gc_AW X 9 1463 96 [(0, .ref h0)] [] [(h0, .inr (12, [.int 0, .ref q0, .ref q1, .ref q2, .ref q3, .ref q0, .int 0, .int 0, .int 0, .int 0, .int 0, .int 0, .int 0, .int 0, .int 0, .ref (gc_sa X), .ref (gc_sb X), .int 0, .ref q4, .ref q5, .ref q6, .ref q7, .ref q8, .null, .int 0, .int 0, .int 0, .int 0, .null, .int 0, .int 0, .int 0, .long 0, .null, .null, .int 0, .null, .null, .null, .null, .int 0, .null, .null, .null, .null, .null, .int 0])), (q0, .inl (gc_dA X 2, 240, .inl (fun _ => 0))), (q1, .inl (gc_dA X 2, 960, .inl (fun _ => 0))), (q2, .inl (gc_dA X 0, 4, .inl (fun _ => 0))), (q3, .inl (gc_dA X 0, 128, .inl (fun _ => 0))), (q4, .inl (gc_dA X 0, 3, .inl (fun _ => 0))), (q5, .inl (gc_dA X 0, 3, .inl (fun _ => 0))), (q6, .inl (gc_dA X 0, 40, .inl (fun _ => 0))), (q7, .inl (gc_dA X 0, 40, .inl (fun _ => 0))), (q8, .inl (gc_dA X 0, 45, .inl (fun _ => 0)))]
  refine gc_aload_n (pc := 96) C 0 dX12_init_96 rfl rfl ?_
  refine gc_iconst (w := (5)) (pc := 97) C dX12_init_97 rfl ?_
  refine gc_newa (t := 0) (N := 5) (ty := .int) (a0 := (.inl (fun _ => 0))) (pc := 98) C rfl (fun _ => rfl) (fun _ _ h => h) (fun _ => rfl) dX12_init_98 ar_int (by decide) (by decide) (by decide) (by decide) (by decide) (fun q9 => ?_)
  refine gc_put (pc := 100) C gk_12 0 23 dX12_init_100 rfl fc_X12_52 rfl rfl (Nat.le_of_ble_eq_true rfl) ?_
  show gc_AW X 10 1468 103 [(0, .ref h0)] [] [(h0, .inr (12, [.int 0, .ref q0, .ref q1, .ref q2, .ref q3, .ref q0, .int 0, .int 0, .int 0, .int 0, .int 0, .int 0, .int 0, .int 0, .int 0, .ref (gc_sa X), .ref (gc_sb X), .int 0, .ref q4, .ref q5, .ref q6, .ref q7, .ref q8, .ref q9, .int 0, .int 0, .int 0, .int 0, .null, .int 0, .int 0, .int 0, .long 0, .null, .null, .int 0, .null, .null, .null, .null, .int 0, .null, .null, .null, .null, .null, .int 0])), (q0, .inl (gc_dA X 2, 240, .inl (fun _ => 0))), (q1, .inl (gc_dA X 2, 960, .inl (fun _ => 0))), (q2, .inl (gc_dA X 0, 4, .inl (fun _ => 0))), (q3, .inl (gc_dA X 0, 128, .inl (fun _ => 0))), (q4, .inl (gc_dA X 0, 3, .inl (fun _ => 0))), (q5, .inl (gc_dA X 0, 3, .inl (fun _ => 0))), (q6, .inl (gc_dA X 0, 40, .inl (fun _ => 0))), (q7, .inl (gc_dA X 0, 40, .inl (fun _ => 0))), (q8, .inl (gc_dA X 0, 45, .inl (fun _ => 0))), (q9, .inl (gc_dA X 0, 5, .inl (fun _ => 0)))]
  refine gc_aload_n (pc := 103) C 0 dX12_init_103 rfl rfl ?_
  refine gc_sipush (w := (533)) (pc := 104) C dX12_init_104 rfl ?_
  refine gc_newa (t := 0) (N := 533) (ty := .int) (a0 := (.inl (fun _ => 0))) (pc := 107) C rfl (fun _ => rfl) (fun _ _ h => h) (fun _ => rfl) dX12_init_107 ar_int (by decide) (by decide) (by decide) (by decide) (by decide) (fun q10 => ?_)
  refine gc_put (pc := 109) C gk_12 0 28 dX12_init_109 rfl fc_X12_55 rfl rfl (Nat.le_of_ble_eq_true rfl) ?_
  show gc_AW X 11 2001 112 [(0, .ref h0)] [] [(h0, .inr (12, [.int 0, .ref q0, .ref q1, .ref q2, .ref q3, .ref q0, .int 0, .int 0, .int 0, .int 0, .int 0, .int 0, .int 0, .int 0, .int 0, .ref (gc_sa X), .ref (gc_sb X), .int 0, .ref q4, .ref q5, .ref q6, .ref q7, .ref q8, .ref q9, .int 0, .int 0, .int 0, .int 0, .ref q10, .int 0, .int 0, .int 0, .long 0, .null, .null, .int 0, .null, .null, .null, .null, .int 0, .null, .null, .null, .null, .null, .int 0])), (q0, .inl (gc_dA X 2, 240, .inl (fun _ => 0))), (q1, .inl (gc_dA X 2, 960, .inl (fun _ => 0))), (q2, .inl (gc_dA X 0, 4, .inl (fun _ => 0))), (q3, .inl (gc_dA X 0, 128, .inl (fun _ => 0))), (q4, .inl (gc_dA X 0, 3, .inl (fun _ => 0))), (q5, .inl (gc_dA X 0, 3, .inl (fun _ => 0))), (q6, .inl (gc_dA X 0, 40, .inl (fun _ => 0))), (q7, .inl (gc_dA X 0, 40, .inl (fun _ => 0))), (q8, .inl (gc_dA X 0, 45, .inl (fun _ => 0))), (q9, .inl (gc_dA X 0, 5, .inl (fun _ => 0))), (q10, .inl (gc_dA X 0, 533, .inl (fun _ => 0)))]
  refine gc_aload_n (pc := 112) C 0 dX12_init_112 rfl rfl ?_
  refine gc_iconst (w := (-1)) (pc := 113) C dX12_init_113 rfl ?_
  refine gc_put (pc := 114) C gk_12 0 29 dX12_init_114 rfl fc_X12_58 rfl rfl (Nat.le_of_ble_eq_true rfl) ?_
  show gc_AW X 11 2001 117 [(0, .ref h0)] [] [(h0, .inr (12, [.int 0, .ref q0, .ref q1, .ref q2, .ref q3, .ref q0, .int 0, .int 0, .int 0, .int 0, .int 0, .int 0, .int 0, .int 0, .int 0, .ref (gc_sa X), .ref (gc_sb X), .int 0, .ref q4, .ref q5, .ref q6, .ref q7, .ref q8, .ref q9, .int 0, .int 0, .int 0, .int 0, .ref q10, .int (-1), .int 0, .int 0, .long 0, .null, .null, .int 0, .null, .null, .null, .null, .int 0, .null, .null, .null, .null, .null, .int 0])), (q0, .inl (gc_dA X 2, 240, .inl (fun _ => 0))), (q1, .inl (gc_dA X 2, 960, .inl (fun _ => 0))), (q2, .inl (gc_dA X 0, 4, .inl (fun _ => 0))), (q3, .inl (gc_dA X 0, 128, .inl (fun _ => 0))), (q4, .inl (gc_dA X 0, 3, .inl (fun _ => 0))), (q5, .inl (gc_dA X 0, 3, .inl (fun _ => 0))), (q6, .inl (gc_dA X 0, 40, .inl (fun _ => 0))), (q7, .inl (gc_dA X 0, 40, .inl (fun _ => 0))), (q8, .inl (gc_dA X 0, 45, .inl (fun _ => 0))), (q9, .inl (gc_dA X 0, 5, .inl (fun _ => 0))), (q10, .inl (gc_dA X 0, 533, .inl (fun _ => 0)))]
  refine gc_aload_n (pc := 117) C 0 dX12_init_117 rfl rfl ?_
  refine gc_iconst (w := (-1)) (pc := 118) C dX12_init_118 rfl ?_
  refine gc_put (pc := 119) C gk_12 0 30 dX12_init_119 rfl fc_X12_62 rfl rfl (Nat.le_of_ble_eq_true rfl) ?_
  show gc_AW X 11 2001 122 [(0, .ref h0)] [] [(h0, .inr (12, [.int 0, .ref q0, .ref q1, .ref q2, .ref q3, .ref q0, .int 0, .int 0, .int 0, .int 0, .int 0, .int 0, .int 0, .int 0, .int 0, .ref (gc_sa X), .ref (gc_sb X), .int 0, .ref q4, .ref q5, .ref q6, .ref q7, .ref q8, .ref q9, .int 0, .int 0, .int 0, .int 0, .ref q10, .int (-1), .int (-1), .int 0, .long 0, .null, .null, .int 0, .null, .null, .null, .null, .int 0, .null, .null, .null, .null, .null, .int 0])), (q0, .inl (gc_dA X 2, 240, .inl (fun _ => 0))), (q1, .inl (gc_dA X 2, 960, .inl (fun _ => 0))), (q2, .inl (gc_dA X 0, 4, .inl (fun _ => 0))), (q3, .inl (gc_dA X 0, 128, .inl (fun _ => 0))), (q4, .inl (gc_dA X 0, 3, .inl (fun _ => 0))), (q5, .inl (gc_dA X 0, 3, .inl (fun _ => 0))), (q6, .inl (gc_dA X 0, 40, .inl (fun _ => 0))), (q7, .inl (gc_dA X 0, 40, .inl (fun _ => 0))), (q8, .inl (gc_dA X 0, 45, .inl (fun _ => 0))), (q9, .inl (gc_dA X 0, 5, .inl (fun _ => 0))), (q10, .inl (gc_dA X 0, 533, .inl (fun _ => 0)))]
  refine gc_aload_n (pc := 122) C 0 dX12_init_122 rfl rfl ?_
  refine gc_bipush (w := (8)) (pc := 123) C dX12_init_123 rfl ?_
  refine gc_newa (t := 0) (N := 8) (ty := .int) (a0 := (.inl (fun _ => 0))) (pc := 125) C rfl (fun _ => rfl) (fun _ _ h => h) (fun _ => rfl) dX12_init_125 ar_int (by decide) (by decide) (by decide) (by decide) (by decide) (fun q11 => ?_)
  refine gc_put (pc := 127) C gk_12 0 33 dX12_init_127 rfl fc_X12_65 rfl rfl (Nat.le_of_ble_eq_true rfl) ?_
  show gc_AW X 12 2009 130 [(0, .ref h0)] [] [(h0, .inr (12, [.int 0, .ref q0, .ref q1, .ref q2, .ref q3, .ref q0, .int 0, .int 0, .int 0, .int 0, .int 0, .int 0, .int 0, .int 0, .int 0, .ref (gc_sa X), .ref (gc_sb X), .int 0, .ref q4, .ref q5, .ref q6, .ref q7, .ref q8, .ref q9, .int 0, .int 0, .int 0, .int 0, .ref q10, .int (-1), .int (-1), .int 0, .long 0, .ref q11, .null, .int 0, .null, .null, .null, .null, .int 0, .null, .null, .null, .null, .null, .int 0])), (q0, .inl (gc_dA X 2, 240, .inl (fun _ => 0))), (q1, .inl (gc_dA X 2, 960, .inl (fun _ => 0))), (q2, .inl (gc_dA X 0, 4, .inl (fun _ => 0))), (q3, .inl (gc_dA X 0, 128, .inl (fun _ => 0))), (q4, .inl (gc_dA X 0, 3, .inl (fun _ => 0))), (q5, .inl (gc_dA X 0, 3, .inl (fun _ => 0))), (q6, .inl (gc_dA X 0, 40, .inl (fun _ => 0))), (q7, .inl (gc_dA X 0, 40, .inl (fun _ => 0))), (q8, .inl (gc_dA X 0, 45, .inl (fun _ => 0))), (q9, .inl (gc_dA X 0, 5, .inl (fun _ => 0))), (q10, .inl (gc_dA X 0, 533, .inl (fun _ => 0))), (q11, .inl (gc_dA X 0, 8, .inl (fun _ => 0)))]
  refine gc_aload_n (pc := 130) C 0 dX12_init_130 rfl rfl ?_
  refine gc_sipush (w := (21320)) (pc := 131) C dX12_init_131 rfl ?_
  refine gc_newa (t := 0) (N := 21320) (ty := .int) (a0 := (.inl (fun _ => 0))) (pc := 134) C rfl (fun _ => rfl) (fun _ _ h => h) (fun _ => rfl) dX12_init_134 ar_int (by decide) (by decide) (by decide) (by decide) (by decide) (fun q12 => ?_)
  refine gc_put (pc := 136) C gk_12 0 34 dX12_init_136 rfl fc_X12_68 rfl rfl (Nat.le_of_ble_eq_true rfl) ?_
  show gc_AW X 13 23329 139 [(0, .ref h0)] [] [(h0, .inr (12, [.int 0, .ref q0, .ref q1, .ref q2, .ref q3, .ref q0, .int 0, .int 0, .int 0, .int 0, .int 0, .int 0, .int 0, .int 0, .int 0, .ref (gc_sa X), .ref (gc_sb X), .int 0, .ref q4, .ref q5, .ref q6, .ref q7, .ref q8, .ref q9, .int 0, .int 0, .int 0, .int 0, .ref q10, .int (-1), .int (-1), .int 0, .long 0, .ref q11, .ref q12, .int 0, .null, .null, .null, .null, .int 0, .null, .null, .null, .null, .null, .int 0])), (q0, .inl (gc_dA X 2, 240, .inl (fun _ => 0))), (q1, .inl (gc_dA X 2, 960, .inl (fun _ => 0))), (q2, .inl (gc_dA X 0, 4, .inl (fun _ => 0))), (q3, .inl (gc_dA X 0, 128, .inl (fun _ => 0))), (q4, .inl (gc_dA X 0, 3, .inl (fun _ => 0))), (q5, .inl (gc_dA X 0, 3, .inl (fun _ => 0))), (q6, .inl (gc_dA X 0, 40, .inl (fun _ => 0))), (q7, .inl (gc_dA X 0, 40, .inl (fun _ => 0))), (q8, .inl (gc_dA X 0, 45, .inl (fun _ => 0))), (q9, .inl (gc_dA X 0, 5, .inl (fun _ => 0))), (q10, .inl (gc_dA X 0, 533, .inl (fun _ => 0))), (q11, .inl (gc_dA X 0, 8, .inl (fun _ => 0))), (q12, .inl (gc_dA X 0, 21320, .inl (fun _ => 0)))]
  refine gc_aload_n (pc := 139) C 0 dX12_init_139 rfl rfl ?_
  refine gc_bipush (w := (11)) (pc := 140) C dX12_init_140 rfl ?_
  refine gc_newa (t := 1) (N := 11) (ty := .long) (a0 := (.inr (.inl (fun _ => 0)))) (pc := 142) C rfl (fun _ => rfl) (fun _ _ h => h) (fun _ => rfl) dX12_init_142 ar_long (by decide) (by decide) (by decide) (by decide) (by decide) (fun q13 => ?_)
  refine gc_put (pc := 144) C gk_12 0 36 dX12_init_144 rfl fc_X12_71 rfl rfl (Nat.le_of_ble_eq_true rfl) ?_
  show gc_AW X 14 23340 147 [(0, .ref h0)] [] [(h0, .inr (12, [.int 0, .ref q0, .ref q1, .ref q2, .ref q3, .ref q0, .int 0, .int 0, .int 0, .int 0, .int 0, .int 0, .int 0, .int 0, .int 0, .ref (gc_sa X), .ref (gc_sb X), .int 0, .ref q4, .ref q5, .ref q6, .ref q7, .ref q8, .ref q9, .int 0, .int 0, .int 0, .int 0, .ref q10, .int (-1), .int (-1), .int 0, .long 0, .ref q11, .ref q12, .int 0, .ref q13, .null, .null, .null, .int 0, .null, .null, .null, .null, .null, .int 0])), (q0, .inl (gc_dA X 2, 240, .inl (fun _ => 0))), (q1, .inl (gc_dA X 2, 960, .inl (fun _ => 0))), (q2, .inl (gc_dA X 0, 4, .inl (fun _ => 0))), (q3, .inl (gc_dA X 0, 128, .inl (fun _ => 0))), (q4, .inl (gc_dA X 0, 3, .inl (fun _ => 0))), (q5, .inl (gc_dA X 0, 3, .inl (fun _ => 0))), (q6, .inl (gc_dA X 0, 40, .inl (fun _ => 0))), (q7, .inl (gc_dA X 0, 40, .inl (fun _ => 0))), (q8, .inl (gc_dA X 0, 45, .inl (fun _ => 0))), (q9, .inl (gc_dA X 0, 5, .inl (fun _ => 0))), (q10, .inl (gc_dA X 0, 533, .inl (fun _ => 0))), (q11, .inl (gc_dA X 0, 8, .inl (fun _ => 0))), (q12, .inl (gc_dA X 0, 21320, .inl (fun _ => 0))), (q13, .inl (gc_dA X 1, 11, .inr (.inl (fun _ => 0))))]
  refine gc_aload_n (pc := 147) C 0 dX12_init_147 rfl rfl ?_
  refine gc_bipush (w := (12)) (pc := 148) C dX12_init_148 rfl ?_
  refine gc_newa (t := 0) (N := 12) (ty := .int) (a0 := (.inl (fun _ => 0))) (pc := 150) C rfl (fun _ => rfl) (fun _ _ h => h) (fun _ => rfl) dX12_init_150 ar_int (by decide) (by decide) (by decide) (by decide) (by decide) (fun q14 => ?_)
  refine gc_put (pc := 152) C gk_12 0 37 dX12_init_152 rfl fc_X12_75 rfl rfl (Nat.le_of_ble_eq_true rfl) ?_
  show gc_AW X 15 23352 155 [(0, .ref h0)] [] [(h0, .inr (12, [.int 0, .ref q0, .ref q1, .ref q2, .ref q3, .ref q0, .int 0, .int 0, .int 0, .int 0, .int 0, .int 0, .int 0, .int 0, .int 0, .ref (gc_sa X), .ref (gc_sb X), .int 0, .ref q4, .ref q5, .ref q6, .ref q7, .ref q8, .ref q9, .int 0, .int 0, .int 0, .int 0, .ref q10, .int (-1), .int (-1), .int 0, .long 0, .ref q11, .ref q12, .int 0, .ref q13, .ref q14, .null, .null, .int 0, .null, .null, .null, .null, .null, .int 0])), (q0, .inl (gc_dA X 2, 240, .inl (fun _ => 0))), (q1, .inl (gc_dA X 2, 960, .inl (fun _ => 0))), (q2, .inl (gc_dA X 0, 4, .inl (fun _ => 0))), (q3, .inl (gc_dA X 0, 128, .inl (fun _ => 0))), (q4, .inl (gc_dA X 0, 3, .inl (fun _ => 0))), (q5, .inl (gc_dA X 0, 3, .inl (fun _ => 0))), (q6, .inl (gc_dA X 0, 40, .inl (fun _ => 0))), (q7, .inl (gc_dA X 0, 40, .inl (fun _ => 0))), (q8, .inl (gc_dA X 0, 45, .inl (fun _ => 0))), (q9, .inl (gc_dA X 0, 5, .inl (fun _ => 0))), (q10, .inl (gc_dA X 0, 533, .inl (fun _ => 0))), (q11, .inl (gc_dA X 0, 8, .inl (fun _ => 0))), (q12, .inl (gc_dA X 0, 21320, .inl (fun _ => 0))), (q13, .inl (gc_dA X 1, 11, .inr (.inl (fun _ => 0)))), (q14, .inl (gc_dA X 0, 12, .inl (fun _ => 0)))]
  refine gc_aload_n (pc := 155) C 0 dX12_init_155 rfl rfl ?_
  refine gc_bipush (w := (12)) (pc := 156) C dX12_init_156 rfl ?_
  refine gc_newa (t := 0) (N := 12) (ty := .int) (a0 := (.inl (fun _ => 0))) (pc := 158) C rfl (fun _ => rfl) (fun _ _ h => h) (fun _ => rfl) dX12_init_158 ar_int (by decide) (by decide) (by decide) (by decide) (by decide) (fun q15 => ?_)
  refine gc_put (pc := 160) C gk_12 0 38 dX12_init_160 rfl fc_X12_78 rfl rfl (Nat.le_of_ble_eq_true rfl) ?_
  show gc_AW X 16 23364 163 [(0, .ref h0)] [] [(h0, .inr (12, [.int 0, .ref q0, .ref q1, .ref q2, .ref q3, .ref q0, .int 0, .int 0, .int 0, .int 0, .int 0, .int 0, .int 0, .int 0, .int 0, .ref (gc_sa X), .ref (gc_sb X), .int 0, .ref q4, .ref q5, .ref q6, .ref q7, .ref q8, .ref q9, .int 0, .int 0, .int 0, .int 0, .ref q10, .int (-1), .int (-1), .int 0, .long 0, .ref q11, .ref q12, .int 0, .ref q13, .ref q14, .ref q15, .null, .int 0, .null, .null, .null, .null, .null, .int 0])), (q0, .inl (gc_dA X 2, 240, .inl (fun _ => 0))), (q1, .inl (gc_dA X 2, 960, .inl (fun _ => 0))), (q2, .inl (gc_dA X 0, 4, .inl (fun _ => 0))), (q3, .inl (gc_dA X 0, 128, .inl (fun _ => 0))), (q4, .inl (gc_dA X 0, 3, .inl (fun _ => 0))), (q5, .inl (gc_dA X 0, 3, .inl (fun _ => 0))), (q6, .inl (gc_dA X 0, 40, .inl (fun _ => 0))), (q7, .inl (gc_dA X 0, 40, .inl (fun _ => 0))), (q8, .inl (gc_dA X 0, 45, .inl (fun _ => 0))), (q9, .inl (gc_dA X 0, 5, .inl (fun _ => 0))), (q10, .inl (gc_dA X 0, 533, .inl (fun _ => 0))), (q11, .inl (gc_dA X 0, 8, .inl (fun _ => 0))), (q12, .inl (gc_dA X 0, 21320, .inl (fun _ => 0))), (q13, .inl (gc_dA X 1, 11, .inr (.inl (fun _ => 0)))), (q14, .inl (gc_dA X 0, 12, .inl (fun _ => 0))), (q15, .inl (gc_dA X 0, 12, .inl (fun _ => 0)))]
  refine gc_aload_n (pc := 163) C 0 dX12_init_163 rfl rfl ?_
  refine gc_bipush (w := (12)) (pc := 164) C dX12_init_164 rfl ?_
  refine gc_newa (t := 3) (N := 12) (ty := .boolean) (a0 := (.inl (fun _ => 0))) (pc := 166) C rfl (fun _ => rfl) (fun _ _ h => h) (fun _ => rfl) dX12_init_166 ar_boolean (by decide) (by decide) (by decide) (by decide) (by decide) (fun q16 => ?_)
  refine gc_put (pc := 168) C gk_12 0 39 dX12_init_168 rfl fc_X12_81 rfl rfl (Nat.le_of_ble_eq_true rfl) ?_
  show gc_AW X 17 23376 171 [(0, .ref h0)] [] [(h0, .inr (12, [.int 0, .ref q0, .ref q1, .ref q2, .ref q3, .ref q0, .int 0, .int 0, .int 0, .int 0, .int 0, .int 0, .int 0, .int 0, .int 0, .ref (gc_sa X), .ref (gc_sb X), .int 0, .ref q4, .ref q5, .ref q6, .ref q7, .ref q8, .ref q9, .int 0, .int 0, .int 0, .int 0, .ref q10, .int (-1), .int (-1), .int 0, .long 0, .ref q11, .ref q12, .int 0, .ref q13, .ref q14, .ref q15, .ref q16, .int 0, .null, .null, .null, .null, .null, .int 0])), (q0, .inl (gc_dA X 2, 240, .inl (fun _ => 0))), (q1, .inl (gc_dA X 2, 960, .inl (fun _ => 0))), (q2, .inl (gc_dA X 0, 4, .inl (fun _ => 0))), (q3, .inl (gc_dA X 0, 128, .inl (fun _ => 0))), (q4, .inl (gc_dA X 0, 3, .inl (fun _ => 0))), (q5, .inl (gc_dA X 0, 3, .inl (fun _ => 0))), (q6, .inl (gc_dA X 0, 40, .inl (fun _ => 0))), (q7, .inl (gc_dA X 0, 40, .inl (fun _ => 0))), (q8, .inl (gc_dA X 0, 45, .inl (fun _ => 0))), (q9, .inl (gc_dA X 0, 5, .inl (fun _ => 0))), (q10, .inl (gc_dA X 0, 533, .inl (fun _ => 0))), (q11, .inl (gc_dA X 0, 8, .inl (fun _ => 0))), (q12, .inl (gc_dA X 0, 21320, .inl (fun _ => 0))), (q13, .inl (gc_dA X 1, 11, .inr (.inl (fun _ => 0)))), (q14, .inl (gc_dA X 0, 12, .inl (fun _ => 0))), (q15, .inl (gc_dA X 0, 12, .inl (fun _ => 0))), (q16, .inl (gc_dA X 3, 12, .inl (fun _ => 0)))]
  refine gc_aload_n (pc := 171) C 0 dX12_init_171 rfl rfl ?_
  refine gc_sipush (w := (512)) (pc := 172) C dX12_init_172 rfl ?_
  refine gc_newa (t := 0) (N := 512) (ty := .int) (a0 := (.inl (fun _ => 0))) (pc := 175) C rfl (fun _ => rfl) (fun _ _ h => h) (fun _ => rfl) dX12_init_175 ar_int (by decide) (by decide) (by decide) (by decide) (by decide) (fun q17 => ?_)
  refine gc_put (pc := 177) C gk_12 0 41 dX12_init_177 rfl fc_X12_85 rfl rfl (Nat.le_of_ble_eq_true rfl) ?_
  show gc_AW X 18 23888 180 [(0, .ref h0)] [] [(h0, .inr (12, [.int 0, .ref q0, .ref q1, .ref q2, .ref q3, .ref q0, .int 0, .int 0, .int 0, .int 0, .int 0, .int 0, .int 0, .int 0, .int 0, .ref (gc_sa X), .ref (gc_sb X), .int 0, .ref q4, .ref q5, .ref q6, .ref q7, .ref q8, .ref q9, .int 0, .int 0, .int 0, .int 0, .ref q10, .int (-1), .int (-1), .int 0, .long 0, .ref q11, .ref q12, .int 0, .ref q13, .ref q14, .ref q15, .ref q16, .int 0, .ref q17, .null, .null, .null, .null, .int 0])), (q0, .inl (gc_dA X 2, 240, .inl (fun _ => 0))), (q1, .inl (gc_dA X 2, 960, .inl (fun _ => 0))), (q2, .inl (gc_dA X 0, 4, .inl (fun _ => 0))), (q3, .inl (gc_dA X 0, 128, .inl (fun _ => 0))), (q4, .inl (gc_dA X 0, 3, .inl (fun _ => 0))), (q5, .inl (gc_dA X 0, 3, .inl (fun _ => 0))), (q6, .inl (gc_dA X 0, 40, .inl (fun _ => 0))), (q7, .inl (gc_dA X 0, 40, .inl (fun _ => 0))), (q8, .inl (gc_dA X 0, 45, .inl (fun _ => 0))), (q9, .inl (gc_dA X 0, 5, .inl (fun _ => 0))), (q10, .inl (gc_dA X 0, 533, .inl (fun _ => 0))), (q11, .inl (gc_dA X 0, 8, .inl (fun _ => 0))), (q12, .inl (gc_dA X 0, 21320, .inl (fun _ => 0))), (q13, .inl (gc_dA X 1, 11, .inr (.inl (fun _ => 0)))), (q14, .inl (gc_dA X 0, 12, .inl (fun _ => 0))), (q15, .inl (gc_dA X 0, 12, .inl (fun _ => 0))), (q16, .inl (gc_dA X 3, 12, .inl (fun _ => 0))), (q17, .inl (gc_dA X 0, 512, .inl (fun _ => 0)))]
  refine gc_aload_n (pc := 180) C 0 dX12_init_180 rfl rfl ?_
  refine gc_sipush (w := (512)) (pc := 181) C dX12_init_181 rfl ?_
  refine gc_newa (t := 0) (N := 512) (ty := .int) (a0 := (.inl (fun _ => 0))) (pc := 184) C rfl (fun _ => rfl) (fun _ _ h => h) (fun _ => rfl) dX12_init_184 ar_int (by decide) (by decide) (by decide) (by decide) (by decide) (fun q18 => ?_)
  refine gc_put (pc := 186) C gk_12 0 42 dX12_init_186 rfl fc_X12_88 rfl rfl (Nat.le_of_ble_eq_true rfl) ?_
  show gc_AW X 19 24400 189 [(0, .ref h0)] [] [(h0, .inr (12, [.int 0, .ref q0, .ref q1, .ref q2, .ref q3, .ref q0, .int 0, .int 0, .int 0, .int 0, .int 0, .int 0, .int 0, .int 0, .int 0, .ref (gc_sa X), .ref (gc_sb X), .int 0, .ref q4, .ref q5, .ref q6, .ref q7, .ref q8, .ref q9, .int 0, .int 0, .int 0, .int 0, .ref q10, .int (-1), .int (-1), .int 0, .long 0, .ref q11, .ref q12, .int 0, .ref q13, .ref q14, .ref q15, .ref q16, .int 0, .ref q17, .ref q18, .null, .null, .null, .int 0])), (q0, .inl (gc_dA X 2, 240, .inl (fun _ => 0))), (q1, .inl (gc_dA X 2, 960, .inl (fun _ => 0))), (q2, .inl (gc_dA X 0, 4, .inl (fun _ => 0))), (q3, .inl (gc_dA X 0, 128, .inl (fun _ => 0))), (q4, .inl (gc_dA X 0, 3, .inl (fun _ => 0))), (q5, .inl (gc_dA X 0, 3, .inl (fun _ => 0))), (q6, .inl (gc_dA X 0, 40, .inl (fun _ => 0))), (q7, .inl (gc_dA X 0, 40, .inl (fun _ => 0))), (q8, .inl (gc_dA X 0, 45, .inl (fun _ => 0))), (q9, .inl (gc_dA X 0, 5, .inl (fun _ => 0))), (q10, .inl (gc_dA X 0, 533, .inl (fun _ => 0))), (q11, .inl (gc_dA X 0, 8, .inl (fun _ => 0))), (q12, .inl (gc_dA X 0, 21320, .inl (fun _ => 0))), (q13, .inl (gc_dA X 1, 11, .inr (.inl (fun _ => 0)))), (q14, .inl (gc_dA X 0, 12, .inl (fun _ => 0))), (q15, .inl (gc_dA X 0, 12, .inl (fun _ => 0))), (q16, .inl (gc_dA X 3, 12, .inl (fun _ => 0))), (q17, .inl (gc_dA X 0, 512, .inl (fun _ => 0))), (q18, .inl (gc_dA X 0, 512, .inl (fun _ => 0)))]
  refine gc_aload_n (pc := 189) C 0 dX12_init_189 rfl rfl ?_
  refine gc_bipush (w := (72)) (pc := 190) C dX12_init_190 rfl ?_
  refine gc_newa (t := 0) (N := 72) (ty := .int) (a0 := (.inl (fun _ => 0))) (pc := 192) C rfl (fun _ => rfl) (fun _ _ h => h) (fun _ => rfl) dX12_init_192 ar_int (by decide) (by decide) (by decide) (by decide) (by decide) (fun q19 => ?_)
  refine gc_put (pc := 194) C gk_12 0 43 dX12_init_194 rfl fc_X12_91 rfl rfl (Nat.le_of_ble_eq_true rfl) ?_
  show gc_AW X 20 24472 197 [(0, .ref h0)] [] [(h0, .inr (12, [.int 0, .ref q0, .ref q1, .ref q2, .ref q3, .ref q0, .int 0, .int 0, .int 0, .int 0, .int 0, .int 0, .int 0, .int 0, .int 0, .ref (gc_sa X), .ref (gc_sb X), .int 0, .ref q4, .ref q5, .ref q6, .ref q7, .ref q8, .ref q9, .int 0, .int 0, .int 0, .int 0, .ref q10, .int (-1), .int (-1), .int 0, .long 0, .ref q11, .ref q12, .int 0, .ref q13, .ref q14, .ref q15, .ref q16, .int 0, .ref q17, .ref q18, .ref q19, .null, .null, .int 0])), (q0, .inl (gc_dA X 2, 240, .inl (fun _ => 0))), (q1, .inl (gc_dA X 2, 960, .inl (fun _ => 0))), (q2, .inl (gc_dA X 0, 4, .inl (fun _ => 0))), (q3, .inl (gc_dA X 0, 128, .inl (fun _ => 0))), (q4, .inl (gc_dA X 0, 3, .inl (fun _ => 0))), (q5, .inl (gc_dA X 0, 3, .inl (fun _ => 0))), (q6, .inl (gc_dA X 0, 40, .inl (fun _ => 0))), (q7, .inl (gc_dA X 0, 40, .inl (fun _ => 0))), (q8, .inl (gc_dA X 0, 45, .inl (fun _ => 0))), (q9, .inl (gc_dA X 0, 5, .inl (fun _ => 0))), (q10, .inl (gc_dA X 0, 533, .inl (fun _ => 0))), (q11, .inl (gc_dA X 0, 8, .inl (fun _ => 0))), (q12, .inl (gc_dA X 0, 21320, .inl (fun _ => 0))), (q13, .inl (gc_dA X 1, 11, .inr (.inl (fun _ => 0)))), (q14, .inl (gc_dA X 0, 12, .inl (fun _ => 0))), (q15, .inl (gc_dA X 0, 12, .inl (fun _ => 0))), (q16, .inl (gc_dA X 3, 12, .inl (fun _ => 0))), (q17, .inl (gc_dA X 0, 512, .inl (fun _ => 0))), (q18, .inl (gc_dA X 0, 512, .inl (fun _ => 0))), (q19, .inl (gc_dA X 0, 72, .inl (fun _ => 0)))]
  refine gc_aload_n (pc := 197) C 0 dX12_init_197 rfl rfl ?_
  refine gc_bipush (w := (9)) (pc := 198) C dX12_init_198 rfl ?_
  refine gc_newa (t := 0) (N := 9) (ty := .int) (a0 := (.inl (fun _ => 0))) (pc := 200) C rfl (fun _ => rfl) (fun _ _ h => h) (fun _ => rfl) dX12_init_200 ar_int (by decide) (by decide) (by decide) (by decide) (by decide) (fun q20 => ?_)
  refine gc_put (pc := 202) C gk_12 0 44 dX12_init_202 rfl fc_X12_94 rfl rfl (Nat.le_of_ble_eq_true rfl) ?_
  show gc_AW X 21 24481 205 [(0, .ref h0)] [] [(h0, .inr (12, [.int 0, .ref q0, .ref q1, .ref q2, .ref q3, .ref q0, .int 0, .int 0, .int 0, .int 0, .int 0, .int 0, .int 0, .int 0, .int 0, .ref (gc_sa X), .ref (gc_sb X), .int 0, .ref q4, .ref q5, .ref q6, .ref q7, .ref q8, .ref q9, .int 0, .int 0, .int 0, .int 0, .ref q10, .int (-1), .int (-1), .int 0, .long 0, .ref q11, .ref q12, .int 0, .ref q13, .ref q14, .ref q15, .ref q16, .int 0, .ref q17, .ref q18, .ref q19, .ref q20, .null, .int 0])), (q0, .inl (gc_dA X 2, 240, .inl (fun _ => 0))), (q1, .inl (gc_dA X 2, 960, .inl (fun _ => 0))), (q2, .inl (gc_dA X 0, 4, .inl (fun _ => 0))), (q3, .inl (gc_dA X 0, 128, .inl (fun _ => 0))), (q4, .inl (gc_dA X 0, 3, .inl (fun _ => 0))), (q5, .inl (gc_dA X 0, 3, .inl (fun _ => 0))), (q6, .inl (gc_dA X 0, 40, .inl (fun _ => 0))), (q7, .inl (gc_dA X 0, 40, .inl (fun _ => 0))), (q8, .inl (gc_dA X 0, 45, .inl (fun _ => 0))), (q9, .inl (gc_dA X 0, 5, .inl (fun _ => 0))), (q10, .inl (gc_dA X 0, 533, .inl (fun _ => 0))), (q11, .inl (gc_dA X 0, 8, .inl (fun _ => 0))), (q12, .inl (gc_dA X 0, 21320, .inl (fun _ => 0))), (q13, .inl (gc_dA X 1, 11, .inr (.inl (fun _ => 0)))), (q14, .inl (gc_dA X 0, 12, .inl (fun _ => 0))), (q15, .inl (gc_dA X 0, 12, .inl (fun _ => 0))), (q16, .inl (gc_dA X 3, 12, .inl (fun _ => 0))), (q17, .inl (gc_dA X 0, 512, .inl (fun _ => 0))), (q18, .inl (gc_dA X 0, 512, .inl (fun _ => 0))), (q19, .inl (gc_dA X 0, 72, .inl (fun _ => 0))), (q20, .inl (gc_dA X 0, 9, .inl (fun _ => 0)))]
  refine gc_aload_n (pc := 205) C 0 dX12_init_205 rfl rfl ?_
  refine gc_sipush (w := (533)) (pc := 206) C dX12_init_206 rfl ?_
  refine gc_newa (t := 0) (N := 533) (ty := .int) (a0 := (.inl (fun _ => 0))) (pc := 209) C rfl (fun _ => rfl) (fun _ _ h => h) (fun _ => rfl) dX12_init_209 ar_int (by decide) (by decide) (by decide) (by decide) (by decide) (fun q21 => ?_)
  refine gc_put (pc := 211) C gk_12 0 45 dX12_init_211 rfl fc_X12_97 rfl rfl (Nat.le_of_ble_eq_true rfl) ?_
  show gc_AW X 22 25014 214 [(0, .ref h0)] [] [(h0, .inr (12, [.int 0, .ref q0, .ref q1, .ref q2, .ref q3, .ref q0, .int 0, .int 0, .int 0, .int 0, .int 0, .int 0, .int 0, .int 0, .int 0, .ref (gc_sa X), .ref (gc_sb X), .int 0, .ref q4, .ref q5, .ref q6, .ref q7, .ref q8, .ref q9, .int 0, .int 0, .int 0, .int 0, .ref q10, .int (-1), .int (-1), .int 0, .long 0, .ref q11, .ref q12, .int 0, .ref q13, .ref q14, .ref q15, .ref q16, .int 0, .ref q17, .ref q18, .ref q19, .ref q20, .ref q21, .int 0])), (q0, .inl (gc_dA X 2, 240, .inl (fun _ => 0))), (q1, .inl (gc_dA X 2, 960, .inl (fun _ => 0))), (q2, .inl (gc_dA X 0, 4, .inl (fun _ => 0))), (q3, .inl (gc_dA X 0, 128, .inl (fun _ => 0))), (q4, .inl (gc_dA X 0, 3, .inl (fun _ => 0))), (q5, .inl (gc_dA X 0, 3, .inl (fun _ => 0))), (q6, .inl (gc_dA X 0, 40, .inl (fun _ => 0))), (q7, .inl (gc_dA X 0, 40, .inl (fun _ => 0))), (q8, .inl (gc_dA X 0, 45, .inl (fun _ => 0))), (q9, .inl (gc_dA X 0, 5, .inl (fun _ => 0))), (q10, .inl (gc_dA X 0, 533, .inl (fun _ => 0))), (q11, .inl (gc_dA X 0, 8, .inl (fun _ => 0))), (q12, .inl (gc_dA X 0, 21320, .inl (fun _ => 0))), (q13, .inl (gc_dA X 1, 11, .inr (.inl (fun _ => 0)))), (q14, .inl (gc_dA X 0, 12, .inl (fun _ => 0))), (q15, .inl (gc_dA X 0, 12, .inl (fun _ => 0))), (q16, .inl (gc_dA X 3, 12, .inl (fun _ => 0))), (q17, .inl (gc_dA X 0, 512, .inl (fun _ => 0))), (q18, .inl (gc_dA X 0, 512, .inl (fun _ => 0))), (q19, .inl (gc_dA X 0, 72, .inl (fun _ => 0))), (q20, .inl (gc_dA X 0, 9, .inl (fun _ => 0))), (q21, .inl (gc_dA X 0, 533, .inl (fun _ => 0)))]
  exact gc_ret C (pc := 214) (fun i => ([q0, q1, q2, q3, q4, q5, q6, q7, q8, q9, q10, q11, q12, q13, q14, q15, q16, q17, q18, q19, q20, q21] : List Nat).getD i 0) dX12_init_214 E (by decide) (by decide) rfl
