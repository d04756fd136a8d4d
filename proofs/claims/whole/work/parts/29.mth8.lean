set_option maxRecDepth 100000 in
set_option maxHeartbeats 4000000 in
theorem t_X12_candle_27 {X : gs_X} (C : gs_C X RX12 cX12_candle 6 (some .int) 82) {L : gs_L} {x1 : Int32} {x2 : Int32} {x3 : Int32} {rv : Int32} {Mz : gs_M} (E : gs_E X (some (.int rv)) Mz L) : ∀ (f : Nat) (x4 : Int32) (x5 : Int32) (M : gs_M), l_X12_candle_27 x1 x2 x3 f x4 x5 M = some (rv, Mz) → gs_AW X 27 [(0, .ref 147), (1, .int x1), (2, .int x2), (3, .int x3), (4, .int x4), (5, .int x5)] [] M L := by
  intro f
  induction f with
  | zero =>
    intro x4 x5 M h
    cases h
  | succ f ih =>
    intro x4 x5 M h
    rw [l_X12_candle_27] at h
    refine gs_iload (pc := 27) C 5 dX12_candle_27 rfl ?_
    refine gs_iconst (w := 1) (pc := 29) C dX12_candle_29 rfl ?_
    refine gs_aload_n (pc := 30) C 0 dX12_candle_30 rfl rfl ?_
    refine gs_getq (pc := 31) C dX12_candle_31 gk_12 fl_X12_37 sh_147 rfl ?_
    refine gs_iconst (w := 0) (pc := 34) C dX12_candle_34 rfl ?_
    obtain ⟨v1, e2, h⟩ := gs_o1 h
    refine gs_iald (pc := 35) C dX12_candle_35 sh_152 e2 ?_
    refine gs_ishl (pc := 36) C dX12_candle_36 ?_
    refine gs_icmp_ge (pc := 37) C 72 dX12_candle_37 rfl (fun c3 => ?_) (fun c3 => ?_)
    · replace h := gs_ift c3 h
      refine gs_iload_n (pc := 72) C 3 dX12_candle_72 rfl rfl ?_
      refine gs_iconst (w := (-1)) (pc := 73) C dX12_candle_73 rfl ?_
      have j4 : gs_AW X 83 [(0, .ref 147), (1, .int x1), (2, .int x2), (3, .int x3), (4, .int x4), (5, .int x5)] [.int (if x3 = (-1 : Int32) then x4 else (-1 : Int32) : Int32)] M L := by
        obtain ⟨rfl, rfl⟩ := gs_i2 h
        exact gs_iret (pc := 83) C dX12_candle_83 E
      refine gs_icmp_ne (pc := 74) C 82 dX12_candle_74 rfl (fun c5 => ?_) (fun c5 => ?_)
      · refine gs_iconst (w := (-1)) (pc := 82) C dX12_candle_82 rfl ?_
        simp only [if_neg c5] at j4
        exact j4
      · refine gs_iload (pc := 77) C 4 dX12_candle_77 rfl ?_
        refine gs_goto (pc := 79) C 83 dX12_candle_79 rfl ?_
        simp only [if_pos c5] at j4
        exact j4
    · replace h := gs_iff c3 h
      refine gs_aload_n (pc := 40) C 0 dX12_candle_40 rfl rfl ?_
      refine gs_iload_n (pc := 41) C 1 dX12_candle_41 rfl rfl ?_
      refine gs_iload_n (pc := 42) C 2 dX12_candle_42 rfl rfl ?_
      refine gs_iload (pc := 43) C 5 dX12_candle_43 rfl ?_
      obtain ⟨v6, M7, e8, h⟩ := gs_o2 h
      refine gs_callVi (pc := 45) C [.int x1, .int x2, .int x5] dX12_candle_45 ml_X12_435 wy_X12_canBurn (a_X12_canBurn _ e8) (by decide) sh_147 (by decide) rfl rfl (Nat.le_of_ble_eq_true rfl) rfl ?_
      refine gs_if_ne (pc := 48) C 54 dX12_candle_48 rfl (fun c9 => ?_) (fun c9 => ?_)
      · replace h := gs_iff c9 h
        refine gs_iload (pc := 54) C 4 dX12_candle_54 rfl ?_
        refine gs_iload_n (pc := 56) C 3 dX12_candle_56 rfl rfl ?_
        refine gs_icmp_ne (pc := 57) C 63 dX12_candle_57 rfl (fun c10 => ?_) (fun c10 => ?_)
        · replace h := gs_iff c10 h
          refine gs_iinc (v := x4 + (1 : Int32)) (ls' := [(4, .int (x4 + (1 : Int32))), (0, .ref 147), (1, .int x1), (2, .int x2), (3, .int x3), (5, .int x5)]) (pc := 63) C 4 dX12_candle_63 rfl rfl (by decide) rfl ?_
          refine gs_iinc (v := x5 + (1 : Int32)) (ls' := [(5, .int (x5 + (1 : Int32))), (4, .int (x4 + (1 : Int32))), (0, .ref 147), (1, .int x1), (2, .int x2), (3, .int x3)]) (pc := 66) C 5 dX12_candle_66 rfl rfl (by decide) rfl ?_
          refine gs_goto (pc := 69) C 27 dX12_candle_69 rfl ?_
          exact gs_sub [2, 3, 4, 5, 1, 0] rfl (ih _ _ _ h)
        · replace h := gs_ift c10 h
          refine gs_iload (pc := 60) C 5 dX12_candle_60 rfl ?_
          obtain ⟨rfl, rfl⟩ := gs_i2 h
          exact gs_iret (pc := 62) C dX12_candle_62 E
      · replace h := gs_ift c9 h
        refine gs_goto (pc := 51) C 66 dX12_candle_51 rfl ?_
        refine gs_iinc (v := x5 + (1 : Int32)) (ls' := [(5, .int (x5 + (1 : Int32))), (0, .ref 147), (1, .int x1), (2, .int x2), (3, .int x3), (4, .int x4)]) (pc := 66) C 5 dX12_candle_66 rfl rfl (by decide) rfl ?_
        refine gs_goto (pc := 69) C 27 dX12_candle_69 rfl ?_
        exact gs_sub [1, 2, 3, 4, 5, 0] rfl (ih _ _ _ h)
set_option maxRecDepth 100000 in
set_option maxHeartbeats 4000000 in
theorem a_X12_candle (l : Launch) {M : gs_M} {L : gs_L} {x1 : Int32} {x2 : Int32} {x3 : Int32} {rv : Int32} {Mz : gs_M} (h : f_X12_candle M x1 x2 x3 = some (rv, Mz)) : gs_Met l 82 yX12_candle cX12_candle 6 (some .int) [.ref 147, .int x1, .int x2, .int x3] M L (some (.int rv)) Mz L := by
  unfold f_X12_candle at h
  refine gs_of RX12 (by decide) rfl (Nat.le_of_ble_eq_true rfl) (fun X C E => ?_)
  show gs_AW X 0 [(0, .ref 147), (1, .int x1), (2, .int x2), (3, .int x3)] [] M L
  refine gs_aload_n (pc := 0) C 0 dX12_candle_0 rfl rfl ?_
  refine gs_iconst (w := 0) (pc := 1) C dX12_candle_1 rfl ?_
  obtain ⟨M2, e1, h⟩ := gs_o1 h
  refine gs_puti' (pc := 2) C dX12_candle_2 gk_12 fp_X12_100 sh_147 rfl e1 ?_
  refine gs_aload_n (pc := 5) C 0 dX12_candle_5 rfl rfl ?_
  refine gs_iload_n (pc := 6) C 1 dX12_candle_6 rfl rfl ?_
  refine gs_iload_n (pc := 7) C 2 dX12_candle_7 rfl rfl ?_
  obtain ⟨v3, e4, h⟩ := gs_o1 h
  refine gs_callVi (pc := 8) C [.int x1, .int x2] dX12_candle_8 ml_X12_432 wy_X12_isCandle (a_X12_isCandle _ e4) (by decide) sh_147 (by decide) rfl rfl (Nat.le_of_ble_eq_true rfl) rfl ?_
  refine gs_if_eq (pc := 11) C 19 dX12_candle_11 rfl (fun c5 => ?_) (fun c5 => ?_)
  · replace h := gs_ift c5 h
    refine gs_iconst (w := (-1)) (pc := 19) C dX12_candle_19 rfl ?_
    obtain ⟨rfl, rfl⟩ := gs_i2 h
    exact gs_iret (pc := 20) C dX12_candle_20 E
  · replace h := gs_iff c5 h
    refine gs_iload_n (pc := 14) C 3 dX12_candle_14 rfl rfl ?_
    refine gs_iconst (w := (-1)) (pc := 15) C dX12_candle_15 rfl ?_
    refine gs_icmp_ge (pc := 16) C 21 dX12_candle_16 rfl (fun c6 => ?_) (fun c6 => ?_)
    · replace h := gs_ift c6 h
      refine gs_iconst (w := 0) (pc := 21) C dX12_candle_21 rfl ?_
      refine gs_istore (ls' := [(4, .int (0 : Int32)), (0, .ref 147), (1, .int x1), (2, .int x2), (3, .int x3)]) (pc := 22) C dX12_candle_22 (by decide) rfl ?_
      refine gs_iconst (w := 0) (pc := 24) C dX12_candle_24 rfl ?_
      refine gs_istore (ls' := [(5, .int (0 : Int32)), (4, .int (0 : Int32)), (0, .ref 147), (1, .int x1), (2, .int x2), (3, .int x3)]) (pc := 25) C dX12_candle_25 (by decide) rfl ?_
      exact gs_sub [2, 3, 4, 5, 1, 0] rfl (t_X12_candle_27 C E gs_FU _ _ _ h)
    · replace h := gs_iff c6 h
      refine gs_iconst (w := (-1)) (pc := 19) C dX12_candle_19 rfl ?_
      obtain ⟨rfl, rfl⟩ := gs_i2 h
      exact gs_iret (pc := 20) C dX12_candle_20 E
set_option maxRecDepth 100000 in
set_option maxHeartbeats 4000000 in
theorem t_X12_remember_11 {X : gs_X} (C : gs_C X RX12 cX12_remember 2 none 0) {L : gs_L} {o1 : Int32} {M' : gs_M} (k : gs_AW X 40 [(0, .ref 147), (1, .int o1)] [] M' L) : ∀ (f : Nat) (x1 : Int32) (M : gs_M), l_X12_remember_11  f x1 M = some (o1, M') → gs_AW X 11 [(0, .ref 147), (1, .int x1)] [] M L := by
  intro f
  induction f with
  | zero =>
    intro x1 M h
    cases h
  | succ f ih =>
    intro x1 M h
    rw [l_X12_remember_11] at h
    refine gs_iload_n (pc := 11) C 1 dX12_remember_11 rfl rfl ?_
    refine gs_sipush (w := 20787) (pc := 12) C dX12_remember_12 rfl ?_
    refine gs_icmp_ge (pc := 15) C 40 dX12_remember_15 rfl (fun c1 => ?_) (fun c1 => ?_)
    · replace h := gs_ift c1 h
      obtain ⟨rfl, rfl⟩ := gs_i2 h
      exact k
    · replace h := gs_iff c1 h
      refine gs_aload_n (pc := 18) C 0 dX12_remember_18 rfl rfl ?_
      refine gs_getq (pc := 19) C dX12_remember_19 gk_12 fl_X12_68 sh_147 rfl ?_
      refine gs_iload_n (pc := 22) C 1 dX12_remember_22 rfl rfl ?_
      refine gs_aload_n (pc := 23) C 0 dX12_remember_23 rfl rfl ?_
      refine gs_getq (pc := 24) C dX12_remember_24 gk_12 fl_X12_68 sh_147 rfl ?_
      refine gs_iload_n (pc := 27) C 1 dX12_remember_27 rfl rfl ?_
      refine gs_sipush (w := 533) (pc := 28) C dX12_remember_28 rfl ?_
      refine gs_iadd (pc := 31) C dX12_remember_31 ?_
      obtain ⟨v2, e3, h⟩ := gs_o1 h
      refine gs_iald (pc := 32) C dX12_remember_32 sh_160 e3 ?_
      obtain ⟨M5, e4, h⟩ := gs_o1 h
      refine gs_iast (pc := 33) C dX12_remember_33 sh_160 e4 ?_
      refine gs_iinc (v := x1 + (1 : Int32)) (ls' := [(1, .int (x1 + (1 : Int32))), (0, .ref 147)]) (pc := 34) C 1 dX12_remember_34 rfl rfl (by decide) rfl ?_
      refine gs_goto (pc := 37) C 11 dX12_remember_37 rfl ?_
      exact gs_sub [1, 0] rfl (ih _ _ h)
set_option maxRecDepth 100000 in
set_option maxHeartbeats 4000000 in
theorem t_X12_remember_52 {X : gs_X} (C : gs_C X RX12 cX12_remember 2 none 0) {L : gs_L} {o1 : Int32} {M' : gs_M} (k : gs_AW X 86 [(0, .ref 147), (1, .int o1)] [] M' L) : ∀ (f : Nat) (x1 : Int32) (M : gs_M), l_X12_remember_52  f x1 M = some (o1, M') → gs_AW X 52 [(0, .ref 147), (1, .int x1)] [] M L := by
  intro f
  induction f with
  | zero =>
    intro x1 M h
    cases h
  | succ f ih =>
    intro x1 M h
    rw [l_X12_remember_52] at h
    refine gs_iload_n (pc := 52) C 1 dX12_remember_52 rfl rfl ?_
    refine gs_sipush (w := 533) (pc := 53) C dX12_remember_53 rfl ?_
    refine gs_icmp_ge (pc := 56) C 86 dX12_remember_56 rfl (fun c1 => ?_) (fun c1 => ?_)
    · replace h := gs_ift c1 h
      obtain ⟨rfl, rfl⟩ := gs_i2 h
      exact k
    · replace h := gs_iff c1 h
      refine gs_aload_n (pc := 59) C 0 dX12_remember_59 rfl rfl ?_
      refine gs_getq (pc := 60) C dX12_remember_60 gk_12 fl_X12_68 sh_147 rfl ?_
      refine gs_sipush (w := 533) (pc := 63) C dX12_remember_63 rfl ?_
      refine gs_aload_n (pc := 66) C 0 dX12_remember_66 rfl rfl ?_
      refine gs_geti (pc := 67) C dX12_remember_67 gk_12 fl_X12_292 sh_147 rfl ?_
      refine gs_imul (pc := 70) C dX12_remember_70 ?_
      refine gs_iload_n (pc := 71) C 1 dX12_remember_71 rfl rfl ?_
      refine gs_iadd (pc := 72) C dX12_remember_72 ?_
      refine gs_aload_n (pc := 73) C 0 dX12_remember_73 rfl rfl ?_
      refine gs_getq (pc := 74) C dX12_remember_74 gk_12 fl_X12_55 sh_147 rfl ?_
      refine gs_iload_n (pc := 77) C 1 dX12_remember_77 rfl rfl ?_
      obtain ⟨v2, e3, h⟩ := gs_o1 h
      refine gs_iald (pc := 78) C dX12_remember_78 sh_158 e3 ?_
      obtain ⟨M5, e4, h⟩ := gs_o1 h
      refine gs_iast (pc := 79) C dX12_remember_79 sh_160 e4 ?_
      refine gs_iinc (v := x1 + (1 : Int32)) (ls' := [(1, .int (x1 + (1 : Int32))), (0, .ref 147)]) (pc := 80) C 1 dX12_remember_80 rfl rfl (by decide) rfl ?_
      refine gs_goto (pc := 83) C 52 dX12_remember_83 rfl ?_
      exact gs_sub [1, 0] rfl (ih _ _ h)
set_option maxRecDepth 100000 in
set_option maxHeartbeats 4000000 in
theorem a_X12_remember (l : Launch) {M : gs_M} {L : gs_L} {Mz : gs_M} (h : f_X12_remember M = some (Mz)) : gs_Met l 0 yX12_remember cX12_remember 2 none [.ref 147] M L none Mz L := by
  unfold f_X12_remember at h
  refine gs_of RX12 (by decide) rfl (Nat.le_of_ble_eq_true rfl) (fun X C E => ?_)
  show gs_AW X 0 [(0, .ref 147)] [] M L
  refine gs_aload_n (pc := 0) C 0 dX12_remember_0 rfl rfl ?_
  refine gs_geti (pc := 1) C dX12_remember_1 gk_12 fl_X12_292 sh_147 rfl ?_
  refine gs_bipush (w := 40) (pc := 4) C dX12_remember_4 rfl ?_
  obtain ⟨M1, e2, h⟩ := gs_o1 h
  have j3 : gs_AW X 50 [(0, .ref 147)] [] M1 L := by
    refine gs_iconst (w := 0) (pc := 50) C dX12_remember_50 rfl ?_
    refine gs_istore_n (ls' := [(1, .int (0 : Int32)), (0, .ref 147)]) (pc := 51) C dX12_remember_51 rfl (by decide) rfl ?_
    obtain ⟨y10, M11, e12, h⟩ := gs_o2 h
    refine gs_sub [1, 0] rfl (t_X12_remember_52 C ?_ gs_FU _ _ e12)
    refine gs_aload_n (pc := 86) C 0 dX12_remember_86 rfl rfl ?_
    refine gs_dup (pc := 87) C dX12_remember_87 rfl ?_
    refine gs_geti (pc := 88) C dX12_remember_88 gk_12 fl_X12_292 sh_147 rfl ?_
    refine gs_iconst (w := 1) (pc := 91) C dX12_remember_91 rfl ?_
    refine gs_iadd (pc := 92) C dX12_remember_92 ?_
    obtain ⟨M14, e13, h⟩ := gs_o1 h
    refine gs_puti' (pc := 93) C dX12_remember_93 gk_12 fp_X12_292 sh_147 rfl e13 ?_
    obtain rfl := gs_i1 h
    exact gs_vret (pc := 96) C dX12_remember_96 E
  refine gs_icmp_ne (pc := 6) C 50 dX12_remember_6 rfl (fun c4 => ?_) (fun c4 => ?_)
  · replace e2 := gs_iff c4 e2
    obtain rfl := gs_i1 e2
    exact j3
  · replace e2 := gs_ift c4 e2
    refine gs_iconst (w := 0) (pc := 9) C dX12_remember_9 rfl ?_
    refine gs_istore_n (ls' := [(1, .int (0 : Int32)), (0, .ref 147)]) (pc := 10) C dX12_remember_10 rfl (by decide) rfl ?_
    obtain ⟨y5, M6, e7, e2⟩ := gs_o2 e2
    refine gs_sub [1, 0] rfl (t_X12_remember_11 C ?_ gs_FU _ _ e7)
    refine gs_aload_n (pc := 40) C 0 dX12_remember_40 rfl rfl ?_
    refine gs_dup (pc := 41) C dX12_remember_41 rfl ?_
    refine gs_geti (pc := 42) C dX12_remember_42 gk_12 fl_X12_292 sh_147 rfl ?_
    refine gs_iconst (w := 1) (pc := 45) C dX12_remember_45 rfl ?_
    refine gs_isub (pc := 46) C dX12_remember_46 ?_
    obtain ⟨M9, e8, e2⟩ := gs_o1 e2
    refine gs_puti' (pc := 47) C dX12_remember_47 gk_12 fp_X12_292 sh_147 rfl e8 ?_
    obtain rfl := gs_i1 e2
    exact gs_sub [0] rfl (j3)
set_option maxRecDepth 100000 in
set_option maxHeartbeats 4000000 in
theorem a_X12_marks (l : Launch) {M : gs_M} {L : gs_L} {x1 : Int32} {x2 : Int32} {rv : Int32} {Mz : gs_M} (h : f_X12_marks M x1 x2 = some (rv, Mz)) : gs_Met l 1 yX12_marks cX12_marks 3 (some .boolean) [.ref 147, .int x1, .int x2] M L (some (.int rv)) Mz L := by
  unfold f_X12_marks at h
  refine gs_of RX12 (by decide) rfl (Nat.le_of_ble_eq_true rfl) (fun X C E => ?_)
  show gs_AW X 0 [(0, .ref 147), (1, .int x1), (2, .int x2)] [] M L
  refine gs_aload_n (pc := 0) C 0 dX12_marks_0 rfl rfl ?_
  refine gs_iload_n (pc := 1) C 1 dX12_marks_1 rfl rfl ?_
  obtain ⟨v1, e2, h⟩ := gs_o1 h
  refine gs_callVi (pc := 2) C [.int x1] dX12_marks_2 ml_X12_347 wy_X12_isPerson (a_X12_isPerson _ e2) (by decide) sh_147 (by decide) rfl rfl (Nat.le_of_ble_eq_true rfl) rfl ?_
  refine gs_if_eq (pc := 5) C 18 dX12_marks_5 rfl (fun c3 => ?_) (fun c3 => ?_)
  · replace h := gs_ift c3 h
    refine gs_iconst (w := 0) (pc := 18) C dX12_marks_18 rfl ?_
    obtain ⟨rfl, rfl⟩ := gs_i2 h
    exact gs_zret (pc := 19) C (by decide) dX12_marks_19 E
  · replace h := gs_iff c3 h
    refine gs_aload_n (pc := 8) C 0 dX12_marks_8 rfl rfl ?_
    refine gs_iload_n (pc := 9) C 1 dX12_marks_9 rfl rfl ?_
    refine gs_iload_n (pc := 10) C 2 dX12_marks_10 rfl rfl ?_
    obtain ⟨v4, e5, h⟩ := gs_o1 h
    refine gs_callVi (pc := 11) C [.int x1, .int x2] dX12_marks_11 ml_X12_301 wy_X12_of (a_X12_of _ e5) (by decide) sh_147 (by decide) rfl rfl (Nat.le_of_ble_eq_true rfl) rfl ?_
    refine gs_iconst (w := 1) (pc := 14) C dX12_marks_14 rfl ?_
    refine gs_icmp_ne (pc := 15) C 20 dX12_marks_15 rfl (fun c6 => ?_) (fun c6 => ?_)
    · replace h := gs_iff c6 h
      refine gs_aload_n (pc := 20) C 0 dX12_marks_20 rfl rfl ?_
      obtain ⟨M7, e8, h⟩ := gs_o1 h
      refine gs_callVv (pc := 21) C [] dX12_marks_21 ml_X12_371 wy_X12_remember (a_X12_remember _ e8) (by decide) sh_147 (by decide) rfl rfl (Nat.le_of_ble_eq_true rfl) rfl ?_
      refine gs_aload_n (pc := 24) C 0 dX12_marks_24 rfl rfl ?_
      refine gs_getq (pc := 25) C dX12_marks_25 gk_12 fl_X12_55 sh_147 rfl ?_
      refine gs_bipush (w := 6) (pc := 28) C dX12_marks_28 rfl ?_
      refine gs_iload_n (pc := 30) C 1 dX12_marks_30 rfl rfl ?_
      refine gs_imul (pc := 31) C dX12_marks_31 ?_
      refine gs_iload_n (pc := 32) C 2 dX12_marks_32 rfl rfl ?_
      refine gs_iadd (pc := 33) C dX12_marks_33 ?_
      refine gs_iconst (w := 1) (pc := 34) C dX12_marks_34 rfl ?_
      obtain ⟨M10, e9, h⟩ := gs_o1 h
      refine gs_iast (pc := 35) C dX12_marks_35 sh_158 e9 ?_
      refine gs_iconst (w := 1) (pc := 36) C dX12_marks_36 rfl ?_
      obtain ⟨rfl, rfl⟩ := gs_i2 h
      exact gs_zret (pc := 37) C (by decide) dX12_marks_37 E
    · replace h := gs_ift c6 h
      refine gs_iconst (w := 0) (pc := 18) C dX12_marks_18 rfl ?_
      obtain ⟨rfl, rfl⟩ := gs_i2 h
      exact gs_zret (pc := 19) C (by decide) dX12_marks_19 E
set_option maxRecDepth 100000 in
set_option maxHeartbeats 4000000 in
theorem a_X12_coffee (l : Launch) {M : gs_M} {L : gs_L} {x1 : Int32} {rv : Int32} {Mz : gs_M} (h : f_X12_coffee M x1 = some (rv, Mz)) : gs_Met l 2 yX12_coffee cX12_coffee 2 (some .boolean) [.ref 147, .int x1] M L (some (.int rv)) Mz L := by
  unfold f_X12_coffee at h
  refine gs_of RX12 (by decide) rfl (Nat.le_of_ble_eq_true rfl) (fun X C E => ?_)
  show gs_AW X 0 [(0, .ref 147), (1, .int x1)] [] M L
  refine gs_aload_n (pc := 0) C 0 dX12_coffee_0 rfl rfl ?_
  refine gs_iconst (w := 0) (pc := 1) C dX12_coffee_1 rfl ?_
  obtain ⟨M2, e1, h⟩ := gs_o1 h
  refine gs_puti' (pc := 2) C dX12_coffee_2 gk_12 fp_X12_100 sh_147 rfl e1 ?_
  refine gs_aload_n (pc := 5) C 0 dX12_coffee_5 rfl rfl ?_
  refine gs_iload_n (pc := 6) C 1 dX12_coffee_6 rfl rfl ?_
  refine gs_iconst (w := 3) (pc := 7) C dX12_coffee_7 rfl ?_
  obtain ⟨v3, M4, e5, h⟩ := gs_o2 h
  refine gs_callVi (pc := 8) C [.int x1, .int (3 : Int32)] dX12_coffee_8 ml_X12_374 wy_X12_marks (a_X12_marks _ e5) (by decide) sh_147 (by decide) rfl rfl (Nat.le_of_ble_eq_true rfl) rfl ?_
  obtain ⟨z6, e7, h⟩ := gs_o1 h
  obtain ⟨rfl, rfl⟩ := gs_i2 h
  exact gs_zret' (pc := 11) C dX12_coffee_11 e7 E
set_option maxRecDepth 100000 in
set_option maxHeartbeats 4000000 in
theorem a_X12_count (l : Launch) {M : gs_M} {L : gs_L} {x1 : Int32} {rv : Int32} {Mz : gs_M} (h : f_X12_count M x1 = some (rv, Mz)) : gs_Met l 0 yX12_count cX12_count 2 (some .int) [.ref 147, .int x1] M L (some (.int rv)) Mz L := by
  unfold f_X12_count at h
  refine gs_of RX12 (by decide) rfl (Nat.le_of_ble_eq_true rfl) (fun X C E => ?_)
  show gs_AW X 0 [(0, .ref 147), (1, .int x1)] [] M L
  refine gs_aload_n (pc := 0) C 0 dX12_count_0 rfl rfl ?_
  refine gs_iconst (w := 0) (pc := 1) C dX12_count_1 rfl ?_
  obtain ⟨M2, e1, h⟩ := gs_o1 h
  refine gs_puti' (pc := 2) C dX12_count_2 gk_12 fp_X12_100 sh_147 rfl e1 ?_
  refine gs_iload_n (pc := 5) C 1 dX12_count_5 rfl rfl ?_
  by_cases c3 : x1 = (0 : Int32)
  · replace h := gs_ift c3 h
    refine gs_tabIn (pc := 6) C 76 dX12_count_6 (by rw [c3]; decide) (by rw [c3]; decide) (off := 70) (by rw [c3]; decide) rfl ?_
    refine gs_aload_n (pc := 76) C 0 dX12_count_76 rfl rfl ?_
    refine gs_geti (pc := 77) C dX12_count_77 gk_12 fl_X12_286 sh_147 rfl ?_
    obtain ⟨rfl, rfl⟩ := gs_i2 h
    exact gs_iret (pc := 80) C dX12_count_80 E
  replace h := gs_iff c3 h
  by_cases c4 : x1 = (1 : Int32)
  · replace h := gs_ift c4 h
    refine gs_tabIn (pc := 6) C 81 dX12_count_6 (by rw [c4]; decide) (by rw [c4]; decide) (off := 75) (by rw [c4]; decide) rfl ?_
    refine gs_aload_n (pc := 81) C 0 dX12_count_81 rfl rfl ?_
    refine gs_geti (pc := 82) C dX12_count_82 gk_12 fl_X12_278 sh_147 rfl ?_
    obtain ⟨rfl, rfl⟩ := gs_i2 h
    exact gs_iret (pc := 85) C dX12_count_85 E
  replace h := gs_iff c4 h
  by_cases c5 : x1 = (2 : Int32)
  · replace h := gs_ift c5 h
    refine gs_tabIn (pc := 6) C 86 dX12_count_6 (by rw [c5]; decide) (by rw [c5]; decide) (off := 80) (by rw [c5]; decide) rfl ?_
    refine gs_aload_n (pc := 86) C 0 dX12_count_86 rfl rfl ?_
    refine gs_geti (pc := 87) C dX12_count_87 gk_12 fl_X12_281 sh_147 rfl ?_
    obtain ⟨rfl, rfl⟩ := gs_i2 h
    exact gs_iret (pc := 90) C dX12_count_90 E
  replace h := gs_iff c5 h
  by_cases c6 : x1 = (3 : Int32)
  · replace h := gs_ift c6 h
    refine gs_tabIn (pc := 6) C 91 dX12_count_6 (by rw [c6]; decide) (by rw [c6]; decide) (off := 85) (by rw [c6]; decide) rfl ?_
    refine gs_aload_n (pc := 91) C 0 dX12_count_91 rfl rfl ?_
    refine gs_geti (pc := 92) C dX12_count_92 gk_12 fl_X12_113 sh_147 rfl ?_
    obtain ⟨rfl, rfl⟩ := gs_i2 h
    exact gs_iret (pc := 95) C dX12_count_95 E
  replace h := gs_iff c6 h
  by_cases c7 : x1 = (4 : Int32)
  · replace h := gs_ift c7 h
    refine gs_tabIn (pc := 6) C 96 dX12_count_6 (by rw [c7]; decide) (by rw [c7]; decide) (off := 90) (by rw [c7]; decide) rfl ?_
    refine gs_aload_n (pc := 96) C 0 dX12_count_96 rfl rfl ?_
    refine gs_geti (pc := 97) C dX12_count_97 gk_12 fl_X12_58 sh_147 rfl ?_
    obtain ⟨rfl, rfl⟩ := gs_i2 h
    exact gs_iret (pc := 100) C dX12_count_100 E
  replace h := gs_iff c7 h
  by_cases c8 : x1 = (5 : Int32)
  · replace h := gs_ift c8 h
    refine gs_tabIn (pc := 6) C 101 dX12_count_6 (by rw [c8]; decide) (by rw [c8]; decide) (off := 95) (by rw [c8]; decide) rfl ?_
    refine gs_aload_n (pc := 101) C 0 dX12_count_101 rfl rfl ?_
    refine gs_geti (pc := 102) C dX12_count_102 gk_12 fl_X12_62 sh_147 rfl ?_
    obtain ⟨rfl, rfl⟩ := gs_i2 h
    exact gs_iret (pc := 105) C dX12_count_105 E
  replace h := gs_iff c8 h
  by_cases c9 : x1 = (6 : Int32)
  · replace h := gs_ift c9 h
    refine gs_tabIn (pc := 6) C 106 dX12_count_6 (by rw [c9]; decide) (by rw [c9]; decide) (off := 100) (by rw [c9]; decide) rfl ?_
    refine gs_aload_n (pc := 106) C 0 dX12_count_106 rfl rfl ?_
    refine gs_getq (pc := 107) C dX12_count_107 gk_12 fl_X12_55 sh_147 rfl ?_
    refine gs_bipush (w := 48) (pc := 110) C dX12_count_110 rfl ?_
    obtain ⟨v10, e11, h⟩ := gs_o1 h
    refine gs_iald (pc := 112) C dX12_count_112 sh_158 e11 ?_
    obtain ⟨rfl, rfl⟩ := gs_i2 h
    exact gs_iret (pc := 113) C dX12_count_113 E
  replace h := gs_iff c9 h
  by_cases c12 : x1 = (7 : Int32)
  · replace h := gs_ift c12 h
    refine gs_tabIn (pc := 6) C 114 dX12_count_6 (by rw [c12]; decide) (by rw [c12]; decide) (off := 108) (by rw [c12]; decide) rfl ?_
    refine gs_aload_n (pc := 114) C 0 dX12_count_114 rfl rfl ?_
    refine gs_getq (pc := 115) C dX12_count_115 gk_12 fl_X12_55 sh_147 rfl ?_
    refine gs_bipush (w := 49) (pc := 118) C dX12_count_118 rfl ?_
    obtain ⟨v13, e14, h⟩ := gs_o1 h
    refine gs_iald (pc := 120) C dX12_count_120 sh_158 e14 ?_
    obtain ⟨rfl, rfl⟩ := gs_i2 h
    exact gs_iret (pc := 121) C dX12_count_121 E
  replace h := gs_iff c12 h
  by_cases c15 : x1 = (8 : Int32)
  · replace h := gs_ift c15 h
    refine gs_tabIn (pc := 6) C 122 dX12_count_6 (by rw [c15]; decide) (by rw [c15]; decide) (off := 116) (by rw [c15]; decide) rfl ?_
    refine gs_aload_n (pc := 122) C 0 dX12_count_122 rfl rfl ?_
    refine gs_getq (pc := 123) C dX12_count_123 gk_12 fl_X12_55 sh_147 rfl ?_
    refine gs_bipush (w := 50) (pc := 126) C dX12_count_126 rfl ?_
    obtain ⟨v16, e17, h⟩ := gs_o1 h
    refine gs_iald (pc := 128) C dX12_count_128 sh_158 e17 ?_
    obtain ⟨rfl, rfl⟩ := gs_i2 h
    exact gs_iret (pc := 129) C dX12_count_129 E
  replace h := gs_iff c15 h
  by_cases c18 : x1 = (9 : Int32)
  · replace h := gs_ift c18 h
    refine gs_tabIn (pc := 6) C 130 dX12_count_6 (by rw [c18]; decide) (by rw [c18]; decide) (off := 124) (by rw [c18]; decide) rfl ?_
    refine gs_aload_n (pc := 130) C 0 dX12_count_130 rfl rfl ?_
    refine gs_geti (pc := 131) C dX12_count_131 gk_12 fl_X12_363 sh_147 rfl ?_
    obtain ⟨rfl, rfl⟩ := gs_i2 h
    exact gs_iret (pc := 134) C dX12_count_134 E
  replace h := gs_iff c18 h
  by_cases c19 : x1 = (10 : Int32)
  · replace h := gs_ift c19 h
    refine gs_tabIn (pc := 6) C 135 dX12_count_6 (by rw [c19]; decide) (by rw [c19]; decide) (off := 129) (by rw [c19]; decide) rfl ?_
    refine gs_aload_n (pc := 135) C 0 dX12_count_135 rfl rfl ?_
    refine gs_geti (pc := 136) C dX12_count_136 gk_12 fl_X12_289 sh_147 rfl ?_
    obtain ⟨rfl, rfl⟩ := gs_i2 h
    exact gs_iret (pc := 139) C dX12_count_139 E
  replace h := gs_iff c19 h
  by_cases c20 : x1 = (11 : Int32)
  · replace h := gs_ift c20 h
    refine gs_tabIn (pc := 6) C 140 dX12_count_6 (by rw [c20]; decide) (by rw [c20]; decide) (off := 134) (by rw [c20]; decide) rfl ?_
    refine gs_aload_n (pc := 140) C 0 dX12_count_140 rfl rfl ?_
    refine gs_getq (pc := 141) C dX12_count_141 gk_12 fl_X12_55 sh_147 rfl ?_
    refine gs_bipush (w := 51) (pc := 144) C dX12_count_144 rfl ?_
    obtain ⟨v21, e22, h⟩ := gs_o1 h
    refine gs_iald (pc := 146) C dX12_count_146 sh_158 e22 ?_
    obtain ⟨rfl, rfl⟩ := gs_i2 h
    exact gs_iret (pc := 147) C dX12_count_147 E
  replace h := gs_iff c20 h
  by_cases c23 : x1 = (12 : Int32)
  · replace h := gs_ift c23 h
    refine gs_tabIn (pc := 6) C 148 dX12_count_6 (by rw [c23]; decide) (by rw [c23]; decide) (off := 142) (by rw [c23]; decide) rfl ?_
    refine gs_aload_n (pc := 148) C 0 dX12_count_148 rfl rfl ?_
    refine gs_getq (pc := 149) C dX12_count_149 gk_12 fl_X12_55 sh_147 rfl ?_
    refine gs_sipush (w := 352) (pc := 152) C dX12_count_152 rfl ?_
    obtain ⟨v24, e25, h⟩ := gs_o1 h
    refine gs_iald (pc := 155) C dX12_count_155 sh_158 e25 ?_
    obtain ⟨rfl, rfl⟩ := gs_i2 h
    exact gs_iret (pc := 156) C dX12_count_156 E
  replace h := gs_iff c23 h
  by_cases c26 : x1 = (13 : Int32)
  · replace h := gs_ift c26 h
    refine gs_tabIn (pc := 6) C 157 dX12_count_6 (by rw [c26]; decide) (by rw [c26]; decide) (off := 151) (by rw [c26]; decide) rfl ?_
    refine gs_aload_n (pc := 157) C 0 dX12_count_157 rfl rfl ?_
    refine gs_geti (pc := 158) C dX12_count_158 gk_12 fl_X12_292 sh_147 rfl ?_
    obtain ⟨rfl, rfl⟩ := gs_i2 h
    exact gs_iret (pc := 161) C dX12_count_161 E
  replace h := gs_iff c26 h
  refine gs_tabOut (pc := 6) C 162 dX12_count_6 (gs_swOut (vs := [0, 1, 2, 3, 4, 5, 6, 7, 8, 9, 10, 11, 12, 13]) 0 14 (by decide) (List.forall_mem_cons.mpr ⟨c3, List.forall_mem_cons.mpr ⟨c4, List.forall_mem_cons.mpr ⟨c5, List.forall_mem_cons.mpr ⟨c6, List.forall_mem_cons.mpr ⟨c7, List.forall_mem_cons.mpr ⟨c8, List.forall_mem_cons.mpr ⟨c9, List.forall_mem_cons.mpr ⟨c12, List.forall_mem_cons.mpr ⟨c15, List.forall_mem_cons.mpr ⟨c18, List.forall_mem_cons.mpr ⟨c19, List.forall_mem_cons.mpr ⟨c20, List.forall_mem_cons.mpr ⟨c23, List.forall_mem_cons.mpr ⟨c26, fun _ h => absurd h List.not_mem_nil⟩⟩⟩⟩⟩⟩⟩⟩⟩⟩⟩⟩⟩⟩)) rfl ?_
  refine gs_ldcw (pc := 162) C dX12_count_162 wk_X12_360 ?_
  obtain ⟨rfl, rfl⟩ := gs_i2 h
  exact gs_iret (pc := 165) C dX12_count_165 E
set_option maxRecDepth 100000 in
set_option maxHeartbeats 4000000 in
theorem a_X12_married (l : Launch) {M : gs_M} {L : gs_L} {x1 : Int32} {rv : Int32} (h : f_X12_married M x1 = some (rv)) : gs_Met l 0 yX12_married cX12_married 3 (some .int) [.ref 147, .int x1] M L (some (.int rv)) M L := by
  unfold f_X12_married at h
  refine gs_of RX12 (by decide) rfl (Nat.le_of_ble_eq_true rfl) (fun X C E => ?_)
  show gs_AW X 0 [(0, .ref 147), (1, .int x1)] [] M L
  refine gs_aload_n (pc := 0) C 0 dX12_married_0 rfl rfl ?_
  refine gs_getq (pc := 1) C dX12_married_1 gk_12 fl_X12_43 sh_147 rfl ?_
  refine gs_iconst (w := 5) (pc := 4) C dX12_married_4 rfl ?_
  refine gs_iload_n (pc := 5) C 1 dX12_married_5 rfl rfl ?_
  refine gs_imul (pc := 6) C dX12_married_6 ?_
  refine gs_iconst (w := 4) (pc := 7) C dX12_married_7 rfl ?_
  refine gs_iadd (pc := 8) C dX12_married_8 ?_
  obtain ⟨v1, e2, h⟩ := gs_o1 h
  refine gs_iald (pc := 9) C dX12_married_9 sh_154 e2 ?_
  refine gs_istore_n (ls' := [(2, .int v1), (0, .ref 147), (1, .int x1)]) (pc := 10) C dX12_married_10 rfl (by decide) rfl ?_
  refine gs_iload_n (pc := 11) C 0 dX12_married_11 rfl rfl ?_
  refine gs_bipush (w := 8) (pc := 12) C dX12_married_12 rfl ?_
  have j3 : gs_AW X 22 [(0, .ref 147), (1, .int x1), (2, .int v1)] [.int (if v1 = (8 : Int32) then (-1 : Int32) else v1 : Int32)] M L := by
    obtain rfl := gs_i1 h
    exact gs_iret (pc := 22) C dX12_married_22 E
  refine gs_icmp_ne (pc := 14) C 21 dX12_married_14 rfl (fun c4 => ?_) (fun c4 => ?_)
  · refine gs_iload_n (pc := 21) C 0 dX12_married_21 rfl rfl ?_
    simp only [if_neg c4] at j3
    exact gs_sub [1, 2, 0] rfl (j3)
  · refine gs_iconst (w := (-1)) (pc := 17) C dX12_married_17 rfl ?_
    refine gs_goto (pc := 18) C 22 dX12_married_18 rfl ?_
    simp only [if_pos c4] at j3
    exact gs_sub [1, 2, 0] rfl (j3)
set_option maxRecDepth 100000 in
set_option maxHeartbeats 4000000 in
theorem a_X12_isCouple (l : Launch) {M : gs_M} {L : gs_L} {x1 : Int32} {rv : Int32} (h : f_X12_isCouple M x1 = some (rv)) : gs_Met l 1 yX12_isCouple cX12_isCouple 2 (some .boolean) [.ref 147, .int x1] M L (some (.int rv)) M L := by
  unfold f_X12_isCouple at h
  refine gs_of RX12 (by decide) rfl (Nat.le_of_ble_eq_true rfl) (fun X C E => ?_)
  show gs_AW X 0 [(0, .ref 147), (1, .int x1)] [] M L
  refine gs_aload_n (pc := 0) C 0 dX12_isCouple_0 rfl rfl ?_
  refine gs_iload_n (pc := 1) C 1 dX12_isCouple_1 rfl rfl ?_
  obtain ⟨v1, e2, h⟩ := gs_o1 h
  refine gs_callVi (pc := 2) C [.int x1] dX12_isCouple_2 ml_X12_347 wy_X12_isPerson (a_X12_isPerson _ e2) (by decide) sh_147 (by decide) rfl rfl (Nat.le_of_ble_eq_true rfl) rfl ?_
  obtain ⟨y3, e4, h⟩ := gs_o1 h
  have j5 : gs_AW X 22 [(0, .ref 147), (1, .int x1)] [.int y3] M L := by
    obtain ⟨z10, e11, h⟩ := gs_o1 h
    obtain rfl := gs_i1 h
    exact gs_zret' (pc := 22) C dX12_isCouple_22 e11 E
  refine gs_if_eq (pc := 5) C 21 dX12_isCouple_5 rfl (fun c6 => ?_) (fun c6 => ?_)
  · replace e4 := gs_ift c6 e4
    refine gs_iconst (w := 0) (pc := 21) C dX12_isCouple_21 rfl ?_
    obtain rfl := gs_i1 e4
    exact j5
  · replace e4 := gs_iff c6 e4
    refine gs_aload_n (pc := 8) C 0 dX12_isCouple_8 rfl rfl ?_
    refine gs_iload_n (pc := 9) C 1 dX12_isCouple_9 rfl rfl ?_
    obtain ⟨v7, e8, e4⟩ := gs_o1 e4
    refine gs_callVi (pc := 10) C [.int x1] dX12_isCouple_10 ml_X12_352 wy_X12_married (a_X12_married _ e8) (by decide) sh_147 (by decide) rfl rfl (Nat.le_of_ble_eq_true rfl) rfl ?_
    refine gs_iconst (w := (-1)) (pc := 13) C dX12_isCouple_13 rfl ?_
    refine gs_icmp_eq (pc := 14) C 21 dX12_isCouple_14 rfl (fun c9 => ?_) (fun c9 => ?_)
    · replace e4 := gs_ift c9 e4
      refine gs_iconst (w := 0) (pc := 21) C dX12_isCouple_21 rfl ?_
      obtain rfl := gs_i1 e4
      exact j5
    · replace e4 := gs_iff c9 e4
      refine gs_iconst (w := 1) (pc := 17) C dX12_isCouple_17 rfl ?_
      refine gs_goto (pc := 18) C 22 dX12_isCouple_18 rfl ?_
      obtain rfl := gs_i1 e4
      exact j5
set_option maxRecDepth 100000 in
set_option maxHeartbeats 4000000 in
theorem a_X12_coupleOf (l : Launch) {M : gs_M} {L : gs_L} {x1 : Int32} {x2 : Int32} {x3 : Int32} {rv : Int32} {Mz : gs_M} (h : f_X12_coupleOf M x1 x2 x3 = some (rv, Mz)) : gs_Met l 82 yX12_coupleOf cX12_coupleOf 5 (some .int) [.ref 147, .int x1, .int x2, .int x3] M L (some (.int rv)) Mz L := by
  unfold f_X12_coupleOf at h
  refine gs_of RX12 (by decide) rfl (Nat.le_of_ble_eq_true rfl) (fun X C E => ?_)
  show gs_AW X 0 [(0, .ref 147), (1, .int x1), (2, .int x2), (3, .int x3)] [] M L
  refine gs_iconst (w := 0) (pc := 0) C dX12_coupleOf_0 rfl ?_
  refine gs_aload_n (pc := 1) C 0 dX12_coupleOf_1 rfl rfl ?_
  refine gs_iload_n (pc := 2) C 1 dX12_coupleOf_2 rfl rfl ?_
  obtain ⟨v1, M2, e3, h⟩ := gs_o2 h
  refine gs_callVi (pc := 3) C [.int x1] dX12_coupleOf_3 ml_X12_383 wy_X12_caseOf (a_X12_caseOf _ e3) (by decide) sh_147 (by decide) rfl rfl (Nat.le_of_ble_eq_true rfl) rfl ?_
  refine gs_mmax (pc := 6) C dX12_coupleOf_6 ml_X12_310 (Nat.le_of_ble_eq_true rfl) ?_
  refine gs_iconst (w := 2) (pc := 9) C dX12_coupleOf_9 rfl ?_
  obtain ⟨v4, e5, h⟩ := gs_o1 h
  refine gs_idiv' (pc := 10) C dX12_coupleOf_10 e5 ?_
  refine gs_ineg (pc := 11) C dX12_coupleOf_11 ?_
  refine gs_istore (ls' := [(4, .int (-v4)), (0, .ref 147), (1, .int x1), (2, .int x2), (3, .int x3)]) (pc := 12) C dX12_coupleOf_12 (by decide) rfl ?_
  refine gs_iload_n (pc := 14) C 3 dX12_coupleOf_14 rfl rfl ?_
  refine gs_iconst (w := 1) (pc := 15) C dX12_coupleOf_15 rfl ?_
  have j10 : gs_AW X 26 [(0, .ref 147), (1, .int x1), (2, .int x2), (3, .int x3), (4, .int (if x2 = (1 : Int32) then if x3 = (0 : Int32) then ((-v4) + (2 : Int32)) else (-v4) else (-v4) : Int32))] [] M2 L := by
    refine gs_iload_n (pc := 26) C 3 dX12_coupleOf_26 rfl rfl ?_
    refine gs_iconst (w := 1) (pc := 27) C dX12_coupleOf_27 rfl ?_
    have j8 : gs_AW X 34 [(0, .ref 147), (1, .int x1), (2, .int x2), (3, .int x3), (4, .int (if x3 = (1 : Int32) then ((if x2 = (1 : Int32) then if x3 = (0 : Int32) then ((-v4) + (2 : Int32)) else (-v4) else (-v4) : Int32) + (-4 : Int32)) else (if x2 = (1 : Int32) then if x3 = (0 : Int32) then ((-v4) + (2 : Int32)) else (-v4) else (-v4) : Int32) : Int32))] [] M2 L := by
      refine gs_iload_n (pc := 34) C 2 dX12_coupleOf_34 rfl rfl ?_
      refine gs_iload_n (pc := 35) C 3 dX12_coupleOf_35 rfl rfl ?_
      refine gs_iadd (pc := 36) C dX12_coupleOf_36 ?_
      have j6 : gs_AW X 49 [(0, .ref 147), (1, .int x1), (2, .int x2), (3, .int x3), (4, .int (if x3 = (1 : Int32) then ((if x2 = (1 : Int32) then if x3 = (0 : Int32) then ((-v4) + (2 : Int32)) else (-v4) else (-v4) : Int32) + (-4 : Int32)) else (if x2 = (1 : Int32) then if x3 = (0 : Int32) then ((-v4) + (2 : Int32)) else (-v4) else (-v4) : Int32) : Int32))] [.int (if (x2 + x3) = (0 : Int32) then ((if x3 = (1 : Int32) then ((if x2 = (1 : Int32) then if x3 = (0 : Int32) then ((-v4) + (2 : Int32)) else (-v4) else (-v4) : Int32) + (-4 : Int32)) else (if x2 = (1 : Int32) then if x3 = (0 : Int32) then ((-v4) + (2 : Int32)) else (-v4) else (-v4) : Int32) : Int32) + (1 : Int32)) else (if x3 = (1 : Int32) then ((if x2 = (1 : Int32) then if x3 = (0 : Int32) then ((-v4) + (2 : Int32)) else (-v4) else (-v4) : Int32) + (-4 : Int32)) else (if x2 = (1 : Int32) then if x3 = (0 : Int32) then ((-v4) + (2 : Int32)) else (-v4) else (-v4) : Int32) : Int32) : Int32)] M2 L := by
        obtain ⟨rfl, rfl⟩ := gs_i2 h
        exact gs_iret (pc := 49) C dX12_coupleOf_49 E
      refine gs_if_ne (pc := 37) C 47 dX12_coupleOf_37 rfl (fun c7 => ?_) (fun c7 => ?_)
      · refine gs_iload (pc := 47) C 4 dX12_coupleOf_47 rfl ?_
        simp only [if_neg c7] at j6
        exact j6
      · refine gs_iload (pc := 40) C 4 dX12_coupleOf_40 rfl ?_
        refine gs_iconst (w := 1) (pc := 42) C dX12_coupleOf_42 rfl ?_
        refine gs_iadd (pc := 43) C dX12_coupleOf_43 ?_
        refine gs_goto (pc := 44) C 49 dX12_coupleOf_44 rfl ?_
        simp only [if_pos c7] at j6
        exact j6
    refine gs_icmp_ne (pc := 28) C 34 dX12_coupleOf_28 rfl (fun c9 => ?_) (fun c9 => ?_)
    · simp only [if_neg c9] at j8
      exact j8
    · refine gs_iinc (v := (if x2 = (1 : Int32) then if x3 = (0 : Int32) then ((-v4) + (2 : Int32)) else (-v4) else (-v4) : Int32) + (-4 : Int32)) (ls' := [(4, .int ((if x2 = (1 : Int32) then if x3 = (0 : Int32) then ((-v4) + (2 : Int32)) else (-v4) else (-v4) : Int32) + (-4 : Int32))), (0, .ref 147), (1, .int x1), (2, .int x2), (3, .int x3)]) (pc := 31) C 4 dX12_coupleOf_31 rfl rfl (by decide) rfl ?_
      simp only [if_pos c9] at j8
      exact gs_sub [1, 2, 3, 4, 0] rfl (j8)
  refine gs_icmp_ne (pc := 16) C 26 dX12_coupleOf_16 rfl (fun c11 => ?_) (fun c11 => ?_)
  · simp only [if_neg c11] at j10
    exact gs_sub [1, 2, 3, 4, 0] rfl (j10)
  · refine gs_iload_n (pc := 19) C 4 dX12_coupleOf_19 rfl rfl ?_
    refine gs_if_ne (pc := 20) C 26 dX12_coupleOf_20 rfl (fun c12 => ?_) (fun c12 => ?_)
    · simp only [if_pos c11, if_neg c12] at j10
      exact gs_sub [1, 2, 3, 4, 0] rfl (j10)
    · refine gs_iinc (v := (-v4) + (2 : Int32)) (ls' := [(4, .int ((-v4) + (2 : Int32))), (0, .ref 147), (1, .int x1), (2, .int x2), (3, .int x3)]) (pc := 23) C 0 dX12_coupleOf_23 rfl rfl (by decide) rfl ?_
      simp only [if_pos c11, if_pos c12] at j10
      exact gs_sub [1, 2, 3, 4, 0] rfl (j10)
set_option maxRecDepth 100000 in
set_option maxHeartbeats 4000000 in
theorem a_X12_couple (l : Launch) {M : gs_M} {L : gs_L} {x1 : Int32} {x2 : Int32} {x3 : Int32} {x4 : Int32} {rv : Int32} {Mz : gs_M} (h : f_X12_couple M x1 x2 x3 x4 = some (rv, Mz)) : gs_Met l 83 yX12_couple cX12_couple 5 (some .int) [.ref 147, .int x1, .int x2, .int x3, .int x4] M L (some (.int rv)) Mz L := by
  unfold f_X12_couple at h
  refine gs_of RX12 (by decide) rfl (Nat.le_of_ble_eq_true rfl) (fun X C E => ?_)
  show gs_AW X 0 [(0, .ref 147), (1, .int x1), (2, .int x2), (3, .int x3), (4, .int x4)] [] M L
  refine gs_aload_n (pc := 0) C 0 dX12_couple_0 rfl rfl ?_
  refine gs_iconst (w := 0) (pc := 1) C dX12_couple_1 rfl ?_
  obtain ⟨M2, e1, h⟩ := gs_o1 h
  refine gs_puti' (pc := 2) C dX12_couple_2 gk_12 fp_X12_100 sh_147 rfl e1 ?_
  refine gs_aload_n (pc := 5) C 0 dX12_couple_5 rfl rfl ?_
  refine gs_iload_n (pc := 6) C 1 dX12_couple_6 rfl rfl ?_
  obtain ⟨v3, e4, h⟩ := gs_o1 h
  refine gs_callVi (pc := 7) C [.int x1] dX12_couple_7 ml_X12_426 wy_X12_isCouple (a_X12_isCouple _ e4) (by decide) sh_147 (by decide) rfl rfl (Nat.le_of_ble_eq_true rfl) rfl ?_
  refine gs_if_eq (pc := 10) C 44 dX12_couple_10 rfl (fun c5 => ?_) (fun c5 => ?_)
  · replace h := gs_ift c5 h
    refine gs_ldcw (pc := 44) C dX12_couple_44 wk_X12_360 ?_
    obtain ⟨rfl, rfl⟩ := gs_i2 h
    exact gs_iret (pc := 47) C dX12_couple_47 E
  · replace h := gs_iff c5 h
    refine gs_iload_n (pc := 13) C 2 dX12_couple_13 rfl rfl ?_
    refine gs_i2l (pc := 14) C dX12_couple_14 ?_
    refine gs_lconst (w := 0) (pc := 15) C dX12_couple_15 rfl ?_
    refine gs_lconst (w := 1) (pc := 16) C dX12_couple_16 rfl ?_
    obtain ⟨v6, e7, h⟩ := gs_o1 h
    refine gs_callSi (pc := 17) C [.long (Int32.toInt64 x2), .long (0 : Int64), .long (1 : Int64)] dX12_couple_17 ml_X12_221 wy_X12_isIn (a_X12_isIn _ e7) (by decide) rfl (Nat.le_of_ble_eq_true rfl) rfl ?_
    refine gs_if_eq (pc := 20) C 44 dX12_couple_20 rfl (fun c8 => ?_) (fun c8 => ?_)
    · replace h := gs_ift c8 h
      refine gs_ldcw (pc := 44) C dX12_couple_44 wk_X12_360 ?_
      obtain ⟨rfl, rfl⟩ := gs_i2 h
      exact gs_iret (pc := 47) C dX12_couple_47 E
    · replace h := gs_iff c8 h
      refine gs_iload_n (pc := 23) C 3 dX12_couple_23 rfl rfl ?_
      refine gs_i2l (pc := 24) C dX12_couple_24 ?_
      refine gs_lconst (w := 0) (pc := 25) C dX12_couple_25 rfl ?_
      refine gs_lconst (w := 1) (pc := 26) C dX12_couple_26 rfl ?_
      obtain ⟨v9, e10, h⟩ := gs_o1 h
      refine gs_callSi (pc := 27) C [.long (Int32.toInt64 x3), .long (0 : Int64), .long (1 : Int64)] dX12_couple_27 ml_X12_221 wy_X12_isIn (a_X12_isIn _ e10) (by decide) rfl (Nat.le_of_ble_eq_true rfl) rfl ?_
      refine gs_if_eq (pc := 30) C 44 dX12_couple_30 rfl (fun c11 => ?_) (fun c11 => ?_)
      · replace h := gs_ift c11 h
        refine gs_ldcw (pc := 44) C dX12_couple_44 wk_X12_360 ?_
        obtain ⟨rfl, rfl⟩ := gs_i2 h
        exact gs_iret (pc := 47) C dX12_couple_47 E
      · replace h := gs_iff c11 h
        refine gs_iload (pc := 33) C 4 dX12_couple_33 rfl ?_
        refine gs_i2l (pc := 35) C dX12_couple_35 ?_
        refine gs_lconst (w := 0) (pc := 36) C dX12_couple_36 rfl ?_
        refine gs_lconst (w := 1) (pc := 37) C dX12_couple_37 rfl ?_
        obtain ⟨v12, e13, h⟩ := gs_o1 h
        refine gs_callSi (pc := 38) C [.long (Int32.toInt64 x4), .long (0 : Int64), .long (1 : Int64)] dX12_couple_38 ml_X12_221 wy_X12_isIn (a_X12_isIn _ e13) (by decide) rfl (Nat.le_of_ble_eq_true rfl) rfl ?_
        refine gs_if_ne (pc := 41) C 48 dX12_couple_41 rfl (fun c14 => ?_) (fun c14 => ?_)
        · replace h := gs_iff c14 h
          refine gs_iload (pc := 48) C 4 dX12_couple_48 rfl ?_
          obtain ⟨y15, M16, e17, h⟩ := gs_o2 h
          have j18 : gs_AW X 74 [(0, .ref 147), (1, .int x1), (2, .int x2), (3, .int x3), (4, .int x4)] [.int y15] M16 L := by
            obtain ⟨rfl, rfl⟩ := gs_i2 h
            exact gs_iret (pc := 74) C dX12_couple_74 E
          refine gs_if_ne (pc := 50) C 63 dX12_couple_50 rfl (fun c19 => ?_) (fun c19 => ?_)
          · replace e17 := gs_iff c19 e17
            refine gs_aload_n (pc := 63) C 0 dX12_couple_63 rfl rfl ?_
            refine gs_aload_n (pc := 64) C 0 dX12_couple_64 rfl rfl ?_
            refine gs_iload_n (pc := 65) C 1 dX12_couple_65 rfl rfl ?_
            obtain ⟨v20, e21, e17⟩ := gs_o1 e17
            refine gs_callVi (pc := 66) C [.int x1] dX12_couple_66 ml_X12_352 wy_X12_married (a_X12_married _ e21) (by decide) sh_147 (by decide) rfl rfl (Nat.le_of_ble_eq_true rfl) rfl ?_
            refine gs_iload_n (pc := 69) C 3 dX12_couple_69 rfl rfl ?_
            refine gs_iload_n (pc := 70) C 2 dX12_couple_70 rfl rfl ?_
            obtain ⟨v22, M23, e24, e17⟩ := gs_o2 e17
            refine gs_callVi (pc := 71) C [.int v20, .int x3, .int x2] dX12_couple_71 ml_X12_429 wy_X12_coupleOf (a_X12_coupleOf _ e24) (by decide) sh_147 (by decide) rfl rfl (Nat.le_of_ble_eq_true rfl) rfl ?_
            obtain ⟨rfl, rfl⟩ := gs_i2 e17
            exact j18
          · replace e17 := gs_ift c19 e17
            refine gs_aload_n (pc := 53) C 0 dX12_couple_53 rfl rfl ?_
            refine gs_iload_n (pc := 54) C 1 dX12_couple_54 rfl rfl ?_
            refine gs_iload_n (pc := 55) C 2 dX12_couple_55 rfl rfl ?_
            refine gs_iload_n (pc := 56) C 3 dX12_couple_56 rfl rfl ?_
            obtain ⟨v25, M26, e27, e17⟩ := gs_o2 e17
            refine gs_callVi (pc := 57) C [.int x1, .int x2, .int x3] dX12_couple_57 ml_X12_429 wy_X12_coupleOf (a_X12_coupleOf _ e27) (by decide) sh_147 (by decide) rfl rfl (Nat.le_of_ble_eq_true rfl) rfl ?_
            refine gs_goto (pc := 60) C 74 dX12_couple_60 rfl ?_
            obtain ⟨rfl, rfl⟩ := gs_i2 e17
            exact j18
        · replace h := gs_ift c14 h
          refine gs_ldcw (pc := 44) C dX12_couple_44 wk_X12_360 ?_
          obtain ⟨rfl, rfl⟩ := gs_i2 h
          exact gs_iret (pc := 47) C dX12_couple_47 E
set_option maxRecDepth 100000 in
set_option maxHeartbeats 4000000 in
theorem a_X12_isHour (l : Launch) {M : gs_M} {L : gs_L} {x1 : Int32} {rv : Int32} (h : f_X12_isHour M x1 = some (rv)) : gs_Met l 0 yX12_isHour cX12_isHour 2 (some .boolean) [.ref 147, .int x1] M L (some (.int rv)) M L := by
  unfold f_X12_isHour at h
  refine gs_of RX12 (by decide) rfl (Nat.le_of_ble_eq_true rfl) (fun X C E => ?_)
  show gs_AW X 0 [(0, .ref 147), (1, .int x1)] [] M L
  refine gs_aload_n (pc := 0) C 0 dX12_isHour_0 rfl rfl ?_
  refine gs_geti (pc := 1) C dX12_isHour_1 gk_12 fl_X12_286 sh_147 rfl ?_
  obtain ⟨y1, e2, h⟩ := gs_o1 h
  have j3 : gs_AW X 26 [(0, .ref 147), (1, .int x1)] [.int y1] M L := by
    obtain ⟨z9, e10, h⟩ := gs_o1 h
    obtain rfl := gs_i1 h
    exact gs_zret' (pc := 26) C dX12_isHour_26 e10 E
  refine gs_if_le (pc := 4) C 25 dX12_isHour_4 rfl (fun c4 => ?_) (fun c4 => ?_)
  · replace e2 := gs_ift c4 e2
    refine gs_iconst (w := 0) (pc := 25) C dX12_isHour_25 rfl ?_
    obtain rfl := gs_i1 e2
    exact j3
  · replace e2 := gs_iff c4 e2
    refine gs_iload_n (pc := 7) C 1 dX12_isHour_7 rfl rfl ?_
    refine gs_if_lt (pc := 8) C 25 dX12_isHour_8 rfl (fun c5 => ?_) (fun c5 => ?_)
    · replace e2 := gs_ift c5 e2
      refine gs_iconst (w := 0) (pc := 25) C dX12_isHour_25 rfl ?_
      obtain rfl := gs_i1 e2
      exact j3
    · replace e2 := gs_iff c5 e2
      refine gs_iload_n (pc := 11) C 1 dX12_isHour_11 rfl rfl ?_
      refine gs_aload_n (pc := 12) C 0 dX12_isHour_12 rfl rfl ?_
      refine gs_getq (pc := 13) C dX12_isHour_13 gk_12 fl_X12_37 sh_147 rfl ?_
      refine gs_iconst (w := 0) (pc := 16) C dX12_isHour_16 rfl ?_
      obtain ⟨v6, e7, e2⟩ := gs_o1 e2
      refine gs_iald (pc := 17) C dX12_isHour_17 sh_152 e7 ?_
      refine gs_icmp_ge (pc := 18) C 25 dX12_isHour_18 rfl (fun c8 => ?_) (fun c8 => ?_)
      · replace e2 := gs_ift c8 e2
        refine gs_iconst (w := 0) (pc := 25) C dX12_isHour_25 rfl ?_
        obtain rfl := gs_i1 e2
        exact j3
      · replace e2 := gs_iff c8 e2
        refine gs_iconst (w := 1) (pc := 21) C dX12_isHour_21 rfl ?_
        refine gs_goto (pc := 22) C 26 dX12_isHour_22 rfl ?_
        obtain rfl := gs_i1 e2
        exact j3
set_option maxRecDepth 100000 in
set_option maxHeartbeats 4000000 in
theorem t_X12_cries_19 {X : gs_X} (C : gs_C X RX12 cX12_cries 4 (some .int) 81) {L : gs_L} {x1 : Int32} {o2 : Int32} {o3 : Int32} {M' : gs_M} (k : gs_AW X 42 [(0, .ref 147), (1, .int x1), (2, .int o2), (3, .int o3)] [] M' L) : ∀ (f : Nat) (x2 : Int32) (x3 : Int32) (M : gs_M), l_X12_cries_19 x1 f x2 x3 M = some (o2, o3, M') → gs_AW X 19 [(0, .ref 147), (1, .int x1), (2, .int x2), (3, .int x3)] [] M L := by
  intro f
  induction f with
  | zero =>
    intro x2 x3 M h
    cases h
  | succ f ih =>
    intro x2 x3 M h
    rw [l_X12_cries_19] at h
    refine gs_iload_n (pc := 19) C 3 dX12_cries_19 rfl rfl ?_
    refine gs_aload_n (pc := 20) C 0 dX12_cries_20 rfl rfl ?_
    refine gs_geti (pc := 21) C dX12_cries_21 gk_12 fl_X12_286 sh_147 rfl ?_
    refine gs_icmp_ge (pc := 24) C 42 dX12_cries_24 rfl (fun c1 => ?_) (fun c1 => ?_)
    · replace h := gs_ift c1 h
      obtain ⟨rfl, rfl, rfl⟩ := gs_i3 h
      exact k
    · replace h := gs_iff c1 h
      refine gs_iload_n (pc := 27) C 2 dX12_cries_27 rfl rfl ?_
      refine gs_aload_n (pc := 28) C 0 dX12_cries_28 rfl rfl ?_
      refine gs_iload_n (pc := 29) C 3 dX12_cries_29 rfl rfl ?_
      refine gs_iload_n (pc := 30) C 1 dX12_cries_30 rfl rfl ?_
      obtain ⟨v2, M3, e4, h⟩ := gs_o2 h
      refine gs_callVi (pc := 31) C [.int x3, .int x1] dX12_cries_31 ml_X12_340 wy_X12_wakesNow (a_X12_wakesNow _ e4) (by decide) sh_147 (by decide) rfl rfl (Nat.le_of_ble_eq_true rfl) rfl ?_
      refine gs_iadd (pc := 34) C dX12_cries_34 ?_
      refine gs_istore_n (ls' := [(2, .int (x2 + v2)), (0, .ref 147), (1, .int x1), (3, .int x3)]) (pc := 35) C dX12_cries_35 rfl (by decide) rfl ?_
      refine gs_iinc (v := x3 + (1 : Int32)) (ls' := [(3, .int (x3 + (1 : Int32))), (2, .int (x2 + v2)), (0, .ref 147), (1, .int x1)]) (pc := 36) C 3 dX12_cries_36 rfl rfl (by decide) rfl ?_
      refine gs_goto (pc := 39) C 19 dX12_cries_39 rfl ?_
      exact gs_sub [2, 3, 1, 0] rfl (ih _ _ _ h)
set_option maxRecDepth 100000 in
set_option maxHeartbeats 4000000 in
theorem a_X12_cries (l : Launch) {M : gs_M} {L : gs_L} {x1 : Int32} {rv : Int32} {Mz : gs_M} (h : f_X12_cries M x1 = some (rv, Mz)) : gs_Met l 81 yX12_cries cX12_cries 4 (some .int) [.ref 147, .int x1] M L (some (.int rv)) Mz L := by
  unfold f_X12_cries at h
  refine gs_of RX12 (by decide) rfl (Nat.le_of_ble_eq_true rfl) (fun X C E => ?_)
  show gs_AW X 0 [(0, .ref 147), (1, .int x1)] [] M L
  refine gs_aload_n (pc := 0) C 0 dX12_cries_0 rfl rfl ?_
  refine gs_iconst (w := 0) (pc := 1) C dX12_cries_1 rfl ?_
  obtain ⟨M2, e1, h⟩ := gs_o1 h
  refine gs_puti' (pc := 2) C dX12_cries_2 gk_12 fp_X12_100 sh_147 rfl e1 ?_
  refine gs_aload_n (pc := 5) C 0 dX12_cries_5 rfl rfl ?_
  refine gs_iload_n (pc := 6) C 1 dX12_cries_6 rfl rfl ?_
  obtain ⟨v3, e4, h⟩ := gs_o1 h
  refine gs_callVi (pc := 7) C [.int x1] dX12_cries_7 ml_X12_366 wy_X12_isHour (a_X12_isHour _ e4) (by decide) sh_147 (by decide) rfl rfl (Nat.le_of_ble_eq_true rfl) rfl ?_
  refine gs_if_ne (pc := 10) C 15 dX12_cries_10 rfl (fun c5 => ?_) (fun c5 => ?_)
  · replace h := gs_iff c5 h
    refine gs_iconst (w := 0) (pc := 15) C dX12_cries_15 rfl ?_
    refine gs_istore_n (ls' := [(2, .int (0 : Int32)), (0, .ref 147), (1, .int x1)]) (pc := 16) C dX12_cries_16 rfl (by decide) rfl ?_
    refine gs_iconst (w := 0) (pc := 17) C dX12_cries_17 rfl ?_
    refine gs_istore_n (ls' := [(3, .int (0 : Int32)), (2, .int (0 : Int32)), (0, .ref 147), (1, .int x1)]) (pc := 18) C dX12_cries_18 rfl (by decide) rfl ?_
    obtain ⟨y6, y7, M8, e9, h⟩ := gs_o3 h
    refine gs_sub [2, 3, 1, 0] rfl (t_X12_cries_19 C ?_ gs_FU _ _ _ e9)
    refine gs_iload_n (pc := 42) C 2 dX12_cries_42 rfl rfl ?_
    obtain ⟨rfl, rfl⟩ := gs_i2 h
    exact gs_iret (pc := 43) C dX12_cries_43 E
  · replace h := gs_ift c5 h
    refine gs_iconst (w := (-1)) (pc := 13) C dX12_cries_13 rfl ?_
    obtain ⟨rfl, rfl⟩ := gs_i2 h
    exact gs_iret (pc := 14) C dX12_cries_14 E
set_option maxRecDepth 100000 in
set_option maxHeartbeats 4000000 in
theorem a_X12_crimes (l : Launch) {M : gs_M} {L : gs_L} {x1 : Int32} {rv : Int32} {Mz : gs_M} (h : f_X12_crimes M x1 = some (rv, Mz)) : gs_Met l 1 yX12_crimes cX12_crimes 2 (some .boolean) [.ref 147, .int x1] M L (some (.int rv)) Mz L := by
  unfold f_X12_crimes at h
  refine gs_of RX12 (by decide) rfl (Nat.le_of_ble_eq_true rfl) (fun X C E => ?_)
  show gs_AW X 0 [(0, .ref 147), (1, .int x1)] [] M L
  refine gs_aload_n (pc := 0) C 0 dX12_crimes_0 rfl rfl ?_
  refine gs_iconst (w := 0) (pc := 1) C dX12_crimes_1 rfl ?_
  obtain ⟨M2, e1, h⟩ := gs_o1 h
  refine gs_puti' (pc := 2) C dX12_crimes_2 gk_12 fp_X12_100 sh_147 rfl e1 ?_
  refine gs_iload_n (pc := 5) C 1 dX12_crimes_5 rfl rfl ?_
  refine gs_i2l (pc := 6) C dX12_crimes_6 ?_
  refine gs_lconst (w := 0) (pc := 7) C dX12_crimes_7 rfl ?_
  refine gs_ldc2 (pc := 8) C dX12_crimes_8 wj_X12_361 ?_
  obtain ⟨v3, e4, h⟩ := gs_o1 h
  refine gs_callSi (pc := 11) C [.long (Int32.toInt64 x1), .long (0 : Int64), .long (9 : Int64)] dX12_crimes_11 ml_X12_221 wy_X12_isIn (a_X12_isIn _ e4) (by decide) rfl (Nat.le_of_ble_eq_true rfl) rfl ?_
  refine gs_if_eq (pc := 14) C 25 dX12_crimes_14 rfl (fun c5 => ?_) (fun c5 => ?_)
  · replace h := gs_ift c5 h
    refine gs_iconst (w := 0) (pc := 25) C dX12_crimes_25 rfl ?_
    obtain ⟨rfl, rfl⟩ := gs_i2 h
    exact gs_zret (pc := 26) C (by decide) dX12_crimes_26 E
  · replace h := gs_iff c5 h
    refine gs_iload_n (pc := 17) C 1 dX12_crimes_17 rfl rfl ?_
    refine gs_aload_n (pc := 18) C 0 dX12_crimes_18 rfl rfl ?_
    refine gs_geti (pc := 19) C dX12_crimes_19 gk_12 fl_X12_363 sh_147 rfl ?_
    refine gs_icmp_ne (pc := 22) C 27 dX12_crimes_22 rfl (fun c6 => ?_) (fun c6 => ?_)
    · replace h := gs_iff c6 h
      refine gs_aload_n (pc := 27) C 0 dX12_crimes_27 rfl rfl ?_
      refine gs_iload_n (pc := 28) C 1 dX12_crimes_28 rfl rfl ?_
      obtain ⟨M8, e7, h⟩ := gs_o1 h
      refine gs_puti' (pc := 29) C dX12_crimes_29 gk_12 fp_X12_363 sh_147 rfl e7 ?_
      refine gs_iconst (w := 1) (pc := 32) C dX12_crimes_32 rfl ?_
      obtain ⟨rfl, rfl⟩ := gs_i2 h
      exact gs_zret (pc := 33) C (by decide) dX12_crimes_33 E
    · replace h := gs_ift c6 h
      refine gs_iconst (w := 0) (pc := 25) C dX12_crimes_25 rfl ?_
      obtain ⟨rfl, rfl⟩ := gs_i2 h
      exact gs_zret (pc := 26) C (by decide) dX12_crimes_26 E
set_option maxRecDepth 100000 in
set_option maxHeartbeats 4000000 in
theorem a_X12_deed (l : Launch) {M : gs_M} {L : gs_L} {x1 : Int32} {x2 : Int32} {rv : Int32} {Mz : gs_M} (h : f_X12_deed M x1 x2 = some (rv, Mz)) : gs_Met l 1 yX12_deed cX12_deed 3 (some .int) [.ref 147, .int x1, .int x2] M L (some (.int rv)) Mz L := by
  unfold f_X12_deed at h
  refine gs_of RX12 (by decide) rfl (Nat.le_of_ble_eq_true rfl) (fun X C E => ?_)
  show gs_AW X 0 [(0, .ref 147), (1, .int x1), (2, .int x2)] [] M L
  refine gs_aload_n (pc := 0) C 0 dX12_deed_0 rfl rfl ?_
  refine gs_iconst (w := 0) (pc := 1) C dX12_deed_1 rfl ?_
  obtain ⟨M2, e1, h⟩ := gs_o1 h
  refine gs_puti' (pc := 2) C dX12_deed_2 gk_12 fp_X12_100 sh_147 rfl e1 ?_
  refine gs_aload_n (pc := 5) C 0 dX12_deed_5 rfl rfl ?_
  refine gs_iload_n (pc := 6) C 1 dX12_deed_6 rfl rfl ?_
  obtain ⟨v3, e4, h⟩ := gs_o1 h
  refine gs_callVi (pc := 7) C [.int x1] dX12_deed_7 ml_X12_347 wy_X12_isPerson (a_X12_isPerson _ e4) (by decide) sh_147 (by decide) rfl rfl (Nat.le_of_ble_eq_true rfl) rfl ?_
  refine gs_if_eq (pc := 10) C 50 dX12_deed_10 rfl (fun c5 => ?_) (fun c5 => ?_)
  · replace h := gs_ift c5 h
    refine gs_iconst (w := (-1)) (pc := 50) C dX12_deed_50 rfl ?_
    obtain ⟨rfl, rfl⟩ := gs_i2 h
    exact gs_iret (pc := 51) C dX12_deed_51 E
  · replace h := gs_iff c5 h
    refine gs_iload_n (pc := 13) C 2 dX12_deed_13 rfl rfl ?_
    refine gs_i2l (pc := 14) C dX12_deed_14 ?_
    refine gs_ldc2 (pc := 15) C dX12_deed_15 wj_X12_369 ?_
    refine gs_ldc2 (pc := 18) C dX12_deed_18 wj_X12_361 ?_
    obtain ⟨v6, e7, h⟩ := gs_o1 h
    refine gs_callSi (pc := 21) C [.long (Int32.toInt64 x2), .long (-9 : Int64), .long (9 : Int64)] dX12_deed_21 ml_X12_221 wy_X12_isIn (a_X12_isIn _ e7) (by decide) rfl (Nat.le_of_ble_eq_true rfl) rfl ?_
    refine gs_if_eq (pc := 24) C 50 dX12_deed_24 rfl (fun c8 => ?_) (fun c8 => ?_)
    · replace h := gs_ift c8 h
      refine gs_iconst (w := (-1)) (pc := 50) C dX12_deed_50 rfl ?_
      obtain ⟨rfl, rfl⟩ := gs_i2 h
      exact gs_iret (pc := 51) C dX12_deed_51 E
    · replace h := gs_iff c8 h
      refine gs_iload_n (pc := 27) C 2 dX12_deed_27 rfl rfl ?_
      refine gs_if_eq (pc := 28) C 50 dX12_deed_28 rfl (fun c9 => ?_) (fun c9 => ?_)
      · replace h := gs_ift c9 h
        refine gs_iconst (w := (-1)) (pc := 50) C dX12_deed_50 rfl ?_
        obtain ⟨rfl, rfl⟩ := gs_i2 h
        exact gs_iret (pc := 51) C dX12_deed_51 E
      · replace h := gs_iff c9 h
        refine gs_aload_n (pc := 31) C 0 dX12_deed_31 rfl rfl ?_
        refine gs_iload_n (pc := 32) C 1 dX12_deed_32 rfl rfl ?_
        refine gs_iconst (w := 0) (pc := 33) C dX12_deed_33 rfl ?_
        obtain ⟨v10, e11, h⟩ := gs_o1 h
        refine gs_callVi (pc := 34) C [.int x1, .int (0 : Int32)] dX12_deed_34 ml_X12_301 wy_X12_of (a_X12_of _ e11) (by decide) sh_147 (by decide) rfl rfl (Nat.le_of_ble_eq_true rfl) rfl ?_
        refine gs_iload_n (pc := 37) C 2 dX12_deed_37 rfl rfl ?_
        refine gs_iadd (pc := 38) C dX12_deed_38 ?_
        refine gs_i2l (pc := 39) C dX12_deed_39 ?_
        refine gs_lconst (w := 0) (pc := 40) C dX12_deed_40 rfl ?_
        refine gs_ldc2 (pc := 41) C dX12_deed_41 wj_X12_361 ?_
        obtain ⟨v12, e13, h⟩ := gs_o1 h
        refine gs_callSi (pc := 44) C [.long (Int32.toInt64 (v10 + x2)), .long (0 : Int64), .long (9 : Int64)] dX12_deed_44 ml_X12_221 wy_X12_isIn (a_X12_isIn _ e13) (by decide) rfl (Nat.le_of_ble_eq_true rfl) rfl ?_
        refine gs_if_ne (pc := 47) C 52 dX12_deed_47 rfl (fun c14 => ?_) (fun c14 => ?_)
        · replace h := gs_iff c14 h
          refine gs_aload_n (pc := 52) C 0 dX12_deed_52 rfl rfl ?_
          obtain ⟨M15, e16, h⟩ := gs_o1 h
          refine gs_callVv (pc := 53) C [] dX12_deed_53 ml_X12_371 wy_X12_remember (a_X12_remember _ e16) (by decide) sh_147 (by decide) rfl rfl (Nat.le_of_ble_eq_true rfl) rfl ?_
          refine gs_aload_n (pc := 56) C 0 dX12_deed_56 rfl rfl ?_
          refine gs_getq (pc := 57) C dX12_deed_57 gk_12 fl_X12_55 sh_147 rfl ?_
          refine gs_bipush (w := 6) (pc := 60) C dX12_deed_60 rfl ?_
          refine gs_iload_n (pc := 62) C 1 dX12_deed_62 rfl rfl ?_
          refine gs_imul (pc := 63) C dX12_deed_63 ?_
          refine gs_iconst (w := 0) (pc := 64) C dX12_deed_64 rfl ?_
          refine gs_iadd (pc := 65) C dX12_deed_65 ?_
          refine gs_dup2 (pc := 66) C dX12_deed_66 rfl rfl ?_
          obtain ⟨v17, e18, h⟩ := gs_o1 h
          refine gs_iald (pc := 67) C dX12_deed_67 sh_158 e18 ?_
          refine gs_iload_n (pc := 68) C 2 dX12_deed_68 rfl rfl ?_
          refine gs_iadd (pc := 69) C dX12_deed_69 ?_
          obtain ⟨M20, e19, h⟩ := gs_o1 h
          refine gs_iast (pc := 70) C dX12_deed_70 sh_158 e19 ?_
          refine gs_aload_n (pc := 71) C 0 dX12_deed_71 rfl rfl ?_
          refine gs_iload_n (pc := 72) C 1 dX12_deed_72 rfl rfl ?_
          refine gs_iconst (w := 0) (pc := 73) C dX12_deed_73 rfl ?_
          obtain ⟨v21, e22, h⟩ := gs_o1 h
          refine gs_callVi (pc := 74) C [.int x1, .int (0 : Int32)] dX12_deed_74 ml_X12_301 wy_X12_of (a_X12_of _ e22) (by decide) sh_147 (by decide) rfl rfl (Nat.le_of_ble_eq_true rfl) rfl ?_
          obtain ⟨rfl, rfl⟩ := gs_i2 h
          exact gs_iret (pc := 77) C dX12_deed_77 E
        · replace h := gs_ift c14 h
          refine gs_iconst (w := (-1)) (pc := 50) C dX12_deed_50 rfl ?_
          obtain ⟨rfl, rfl⟩ := gs_i2 h
          exact gs_iret (pc := 51) C dX12_deed_51 E
set_option maxRecDepth 100000 in
set_option maxHeartbeats 4000000 in
theorem a_X12_end (l : Launch) {M : gs_M} {L : gs_L} {x1 : Int32} {rv : Int32} {Mz : gs_M} (h : f_X12_end M x1 = some (rv, Mz)) : gs_Met l 0 yX12_end cX12_end 2 (some .boolean) [.ref 147, .int x1] M L (some (.int rv)) Mz L := by
  unfold f_X12_end at h
  refine gs_of RX12 (by decide) rfl (Nat.le_of_ble_eq_true rfl) (fun X C E => ?_)
  show gs_AW X 0 [(0, .ref 147), (1, .int x1)] [] M L
  refine gs_aload_n (pc := 0) C 0 dX12_end_0 rfl rfl ?_
  refine gs_iconst (w := 0) (pc := 1) C dX12_end_1 rfl ?_
  obtain ⟨M2, e1, h⟩ := gs_o1 h
  refine gs_puti' (pc := 2) C dX12_end_2 gk_12 fp_X12_100 sh_147 rfl e1 ?_
  refine gs_iload_n (pc := 5) C 1 dX12_end_5 rfl rfl ?_
  refine gs_if_lt (pc := 6) C 17 dX12_end_6 rfl (fun c3 => ?_) (fun c3 => ?_)
  · replace h := gs_ift c3 h
    refine gs_iconst (w := 0) (pc := 17) C dX12_end_17 rfl ?_
    obtain ⟨rfl, rfl⟩ := gs_i2 h
    exact gs_zret (pc := 18) C (by decide) dX12_end_18 E
  · replace h := gs_iff c3 h
    refine gs_iload_n (pc := 9) C 1 dX12_end_9 rfl rfl ?_
    refine gs_aload_n (pc := 10) C 0 dX12_end_10 rfl rfl ?_
    refine gs_geti (pc := 11) C dX12_end_11 gk_12 fl_X12_113 sh_147 rfl ?_
    refine gs_icmp_le (pc := 14) C 19 dX12_end_14 rfl (fun c4 => ?_) (fun c4 => ?_)
    · replace h := gs_ift c4 h
      refine gs_aload_n (pc := 19) C 0 dX12_end_19 rfl rfl ?_
      refine gs_iload_n (pc := 20) C 1 dX12_end_20 rfl rfl ?_
      obtain ⟨M6, e5, h⟩ := gs_o1 h
      refine gs_puti' (pc := 21) C dX12_end_21 gk_12 fp_X12_113 sh_147 rfl e5 ?_
      refine gs_iconst (w := 1) (pc := 24) C dX12_end_24 rfl ?_
      obtain ⟨rfl, rfl⟩ := gs_i2 h
      exact gs_zret (pc := 25) C (by decide) dX12_end_25 E
    · replace h := gs_iff c4 h
      refine gs_iconst (w := 0) (pc := 17) C dX12_end_17 rfl ?_
      obtain ⟨rfl, rfl⟩ := gs_i2 h
      exact gs_zret (pc := 18) C (by decide) dX12_end_18 E
set_option maxRecDepth 100000 in
set_option maxHeartbeats 4000000 in
theorem a_X12_starts_2 (l : Launch) {M : gs_M} {L : gs_L} {x2 : Int32} {x3 : Int32} {Mz : gs_M} (h : f_X12_starts_2 M x2 x3 = some (Mz)) : gs_Met l 0 yX12_starts cX12_starts 4 none [.ref 147, .ref 148, .int x2, .int x3] M L none Mz L := by
  unfold f_X12_starts_2 at h
  refine gs_of RX12 (by decide) rfl (Nat.le_of_ble_eq_true rfl) (fun X C E => ?_)
  show gs_AW X 0 [(0, .ref 147), (1, .ref 148), (2, .int x2), (3, .int x3)] [] M L
  refine gs_aload_n (pc := 0) C 0 dX12_starts_0 rfl rfl ?_
  refine gs_aload_n (pc := 1) C 1 dX12_starts_1 rfl rfl ?_
  obtain ⟨M2, e1, h⟩ := gs_o1 h
  refine gs_putr' (pc := 2) C (Or.inr rfl) (by decide) dX12_starts_2 gk_12 fp_X12_23 sh_147 rfl e1 ?_
  refine gs_aload_n (pc := 5) C 0 dX12_starts_5 rfl rfl ?_
  refine gs_iload_n (pc := 6) C 2 dX12_starts_6 rfl rfl ?_
  obtain ⟨M4, e3, h⟩ := gs_o1 h
  refine gs_puti' (pc := 7) C dX12_starts_7 gk_12 fp_X12_129 sh_147 rfl e3 ?_
  refine gs_aload_n (pc := 10) C 0 dX12_starts_10 rfl rfl ?_
  refine gs_iload_n (pc := 11) C 3 dX12_starts_11 rfl rfl ?_
  obtain ⟨M6, e5, h⟩ := gs_o1 h
  refine gs_puti' (pc := 12) C dX12_starts_12 gk_12 fp_X12_126 sh_147 rfl e5 ?_
  refine gs_aload_n (pc := 15) C 0 dX12_starts_15 rfl rfl ?_
  refine gs_iconst (w := 0) (pc := 16) C dX12_starts_16 rfl ?_
  obtain ⟨M8, e7, h⟩ := gs_o1 h
  refine gs_puti' (pc := 17) C dX12_starts_17 gk_12 fp_X12_123 sh_147 rfl e7 ?_
  refine gs_aload_n (pc := 20) C 0 dX12_starts_20 rfl rfl ?_
  refine gs_iconst (w := (-1)) (pc := 21) C dX12_starts_21 rfl ?_
  obtain ⟨M10, e9, h⟩ := gs_o1 h
  refine gs_puti' (pc := 22) C dX12_starts_22 gk_12 fp_X12_132 sh_147 rfl e9 ?_
  obtain rfl := gs_i1 h
  exact gs_vret (pc := 25) C dX12_starts_25 E
set_option maxRecDepth 100000 in
set_option maxHeartbeats 4000000 in
theorem a_X12_usual (l : Launch) {M : gs_M} {L : gs_L} {x0 : Int32} {x1 : Int32} {rv : Int32} (h : f_X12_usual x0 x1 = some (rv)) : gs_Met l 0 yX12_usual cX12_usual 2 (some .int) [.int x0, .int x1] M L (some (.int rv)) M L := by
  unfold f_X12_usual at h
  refine gs_of RX12 (by decide) rfl (Nat.le_of_ble_eq_true rfl) (fun X C E => ?_)
  show gs_AW X 0 [(0, .int x0), (1, .int x1)] [] M L
  refine gs_iload_n (pc := 0) C 0 dX12_usual_0 rfl rfl ?_
  refine gs_bipush (w := 115) (pc := 1) C dX12_usual_1 rfl ?_
  refine gs_icmp_ne (pc := 3) C 26 dX12_usual_3 rfl (fun c1 => ?_) (fun c1 => ?_)
  · replace h := gs_iff c1 h
    refine gs_iload_n (pc := 26) C 1 dX12_usual_26 rfl rfl ?_
    refine gs_iconst (w := 1) (pc := 27) C dX12_usual_27 rfl ?_
    have j2 : gs_AW X 55 [(0, .int x0), (1, .int x1)] [.int (if x1 = (1 : Int32) then (5 : Int32) else if x1 = (2 : Int32) then (1 : Int32) else if x1 = (4 : Int32) then (8 : Int32) else (0 : Int32) : Int32)] M L := by
      obtain rfl := gs_i1 h
      exact gs_iret (pc := 55) C dX12_usual_55 E
    refine gs_icmp_ne (pc := 28) C 35 dX12_usual_28 rfl (fun c3 => ?_) (fun c3 => ?_)
    · refine gs_iload_n (pc := 35) C 1 dX12_usual_35 rfl rfl ?_
      refine gs_iconst (w := 2) (pc := 36) C dX12_usual_36 rfl ?_
      refine gs_icmp_ne (pc := 37) C 44 dX12_usual_37 rfl (fun c4 => ?_) (fun c4 => ?_)
      · refine gs_iload_n (pc := 44) C 1 dX12_usual_44 rfl rfl ?_
        refine gs_iconst (w := 4) (pc := 45) C dX12_usual_45 rfl ?_
        refine gs_icmp_ne (pc := 46) C 54 dX12_usual_46 rfl (fun c5 => ?_) (fun c5 => ?_)
        · refine gs_iconst (w := 0) (pc := 54) C dX12_usual_54 rfl ?_
          simp only [if_neg c3, if_neg c4, if_neg c5] at j2
          exact j2
        · refine gs_bipush (w := 8) (pc := 49) C dX12_usual_49 rfl ?_
          refine gs_goto (pc := 51) C 55 dX12_usual_51 rfl ?_
          simp only [if_neg c3, if_neg c4, if_pos c5] at j2
          exact j2
      · refine gs_iconst (w := 1) (pc := 40) C dX12_usual_40 rfl ?_
        refine gs_goto (pc := 41) C 55 dX12_usual_41 rfl ?_
        simp only [if_neg c3, if_pos c4] at j2
        exact j2
    · refine gs_iconst (w := 5) (pc := 31) C dX12_usual_31 rfl ?_
      refine gs_goto (pc := 32) C 55 dX12_usual_32 rfl ?_
      simp only [if_pos c3] at j2
      exact j2
  · replace h := gs_ift c1 h
    refine gs_iload_n (pc := 6) C 1 dX12_usual_6 rfl rfl ?_
    have j6 : gs_AW X 25 [(0, .int x0), (1, .int x1)] [.int (if x1 = (0 : Int32) then (6 : Int32) else if x1 = (1 : Int32) then (4 : Int32) else (3 : Int32) : Int32)] M L := by
      obtain rfl := gs_i1 h
      exact gs_iret (pc := 25) C dX12_usual_25 E
    refine gs_if_ne (pc := 7) C 15 dX12_usual_7 rfl (fun c7 => ?_) (fun c7 => ?_)
    · refine gs_iload_n (pc := 15) C 1 dX12_usual_15 rfl rfl ?_
      refine gs_iconst (w := 1) (pc := 16) C dX12_usual_16 rfl ?_
      refine gs_icmp_ne (pc := 17) C 24 dX12_usual_17 rfl (fun c8 => ?_) (fun c8 => ?_)
      · refine gs_iconst (w := 3) (pc := 24) C dX12_usual_24 rfl ?_
        simp only [if_neg c7, if_neg c8] at j6
        exact j6
      · refine gs_iconst (w := 4) (pc := 20) C dX12_usual_20 rfl ?_
        refine gs_goto (pc := 21) C 25 dX12_usual_21 rfl ?_
        simp only [if_neg c7, if_pos c8] at j6
        exact j6
    · refine gs_bipush (w := 6) (pc := 10) C dX12_usual_10 rfl ?_
      refine gs_goto (pc := 12) C 25 dX12_usual_12 rfl ?_
      simp only [if_pos c7] at j6
      exact j6
set_option maxRecDepth 100000 in
set_option maxHeartbeats 4000000 in
theorem t_X12_spotOf_2 {X : gs_X} (C : gs_C X RX12 cX12_spotOf 3 (some .int) 9) {M : gs_M} {L : gs_L} {x1 : Int32} {rv : Int32} (E : gs_E X (some (.int rv)) M L) : ∀ (f : Nat) (x2 : Int32), l_X12_spotOf_2 x1 f x2 = some (rv) → gs_AW X 2 [(0, .ref 1001), (1, .int x1), (2, .int x2)] [] M L := by
  intro f
  induction f with
  | zero =>
    intro x2 h
    cases h
  | succ f ih =>
    intro x2 h
    rw [l_X12_spotOf_2] at h
    refine gs_iload_n (pc := 2) C 2 dX12_spotOf_2 rfl rfl ?_
    refine gs_aload_n (pc := 3) C 0 dX12_spotOf_3 rfl rfl ?_
    refine gs_strlen (pc := 4) C 1 (by decide) dX12_spotOf_4 ml_X12_103 (by decide) (Nat.le_of_ble_eq_true rfl) ?_
    refine gs_icmp_ge (pc := 7) C 27 dX12_spotOf_7 rfl (fun c1 => ?_) (fun c1 => ?_)
    · replace h := gs_ift c1 h
      refine gs_iconst (w := (-1)) (pc := 27) C dX12_spotOf_27 rfl ?_
      obtain rfl := gs_i1 h
      exact gs_iret (pc := 28) C dX12_spotOf_28 E
    · replace h := gs_iff c1 h
      refine gs_aload_n (pc := 10) C 0 dX12_spotOf_10 rfl rfl ?_
      refine gs_iload_n (pc := 11) C 2 dX12_spotOf_11 rfl rfl ?_
      obtain ⟨v2, e3, h⟩ := gs_o1 h
      refine gs_strchr (pc := 12) C 1 (by decide) dX12_spotOf_12 ml_X12_109 (by decide) (Nat.le_of_ble_eq_true rfl) e3 ?_
      refine gs_iload_n (pc := 15) C 1 dX12_spotOf_15 rfl rfl ?_
      refine gs_icmp_ne (pc := 16) C 21 dX12_spotOf_16 rfl (fun c4 => ?_) (fun c4 => ?_)
      · replace h := gs_iff c4 h
        refine gs_iinc (v := x2 + (1 : Int32)) (ls' := [(2, .int (x2 + (1 : Int32))), (0, .ref 1001), (1, .int x1)]) (pc := 21) C 2 dX12_spotOf_21 rfl rfl (by decide) rfl ?_
        refine gs_goto (pc := 24) C 2 dX12_spotOf_24 rfl ?_
        exact gs_sub [1, 2, 0] rfl (ih _ h)
      · replace h := gs_ift c4 h
        refine gs_iload_n (pc := 19) C 2 dX12_spotOf_19 rfl rfl ?_
        obtain rfl := gs_i1 h
        exact gs_iret (pc := 20) C dX12_spotOf_20 E
set_option maxRecDepth 100000 in
set_option maxHeartbeats 4000000 in
theorem a_X12_spotOf (l : Launch) {M : gs_M} {L : gs_L} {x1 : Int32} {rv : Int32} (h : f_X12_spotOf x1 = some (rv)) : gs_Met l 9 yX12_spotOf cX12_spotOf 3 (some .int) [.ref 1001, .int x1] M L (some (.int rv)) M L := by
  unfold f_X12_spotOf at h
  refine gs_of RX12 (by decide) rfl (Nat.le_of_ble_eq_true rfl) (fun X C E => ?_)
  show gs_AW X 0 [(0, .ref 1001), (1, .int x1)] [] M L
  refine gs_iconst (w := 0) (pc := 0) C dX12_spotOf_0 rfl ?_
  refine gs_istore_n (ls' := [(2, .int (0 : Int32)), (0, .ref 1001), (1, .int x1)]) (pc := 1) C dX12_spotOf_1 rfl (by decide) rfl ?_
  exact gs_sub [1, 2, 0] rfl (t_X12_spotOf_2 C E gs_FU _ h)
set_option maxRecDepth 100000 in
set_option maxHeartbeats 4000000 in
theorem a_X12_leastOf (l : Launch) {M : gs_M} {L : gs_L} {x0 : Int32} {x1 : Int32} {rv : Int32} (h : f_X12_leastOf x0 x1 = some (rv)) : gs_Met l 0 yX12_leastOf cX12_leastOf 2 (some .int) [.int x0, .int x1] M L (some (.int rv)) M L := by
  unfold f_X12_leastOf at h
  refine gs_of RX12 (by decide) rfl (Nat.le_of_ble_eq_true rfl) (fun X C E => ?_)
  show gs_AW X 0 [(0, .int x0), (1, .int x1)] [] M L
  refine gs_iload_n (pc := 0) C 0 dX12_leastOf_0 rfl rfl ?_
  refine gs_bipush (w := 115) (pc := 1) C dX12_leastOf_1 rfl ?_
  have j1 : gs_AW X 16 [(0, .int x0), (1, .int x1)] [.int (if x0 = (115 : Int32) then if (2 : Int32) ≤ x1 then (0 : Int32) else (1 : Int32) else (0 : Int32) : Int32)] M L := by
    obtain rfl := gs_i1 h
    exact gs_iret (pc := 16) C dX12_leastOf_16 E
  refine gs_icmp_ne (pc := 3) C 15 dX12_leastOf_3 rfl (fun c2 => ?_) (fun c2 => ?_)
  · refine gs_iconst (w := 0) (pc := 15) C dX12_leastOf_15 rfl ?_
    simp only [if_neg c2] at j1
    exact j1
  · refine gs_iload_n (pc := 6) C 1 dX12_leastOf_6 rfl rfl ?_
    refine gs_iconst (w := 2) (pc := 7) C dX12_leastOf_7 rfl ?_
    refine gs_icmp_ge (pc := 8) C 15 dX12_leastOf_8 rfl (fun c3 => ?_) (fun c3 => ?_)
    · refine gs_iconst (w := 0) (pc := 15) C dX12_leastOf_15 rfl ?_
      simp only [if_pos c2, if_pos c3] at j1
      exact j1
    · refine gs_iconst (w := 1) (pc := 11) C dX12_leastOf_11 rfl ?_
      refine gs_goto (pc := 12) C 16 dX12_leastOf_12 rfl ?_
      simp only [if_pos c2, if_neg c3] at j1
      exact j1
set_option maxRecDepth 100000 in
set_option maxHeartbeats 4000000 in
theorem a_X12_mostOf (l : Launch) {M : gs_M} {L : gs_L} {x0 : Int32} {x1 : Int32} {rv : Int32} (h : f_X12_mostOf x0 x1 = some (rv)) : gs_Met l 0 yX12_mostOf cX12_mostOf 2 (some .int) [.int x0, .int x1] M L (some (.int rv)) M L := by
  unfold f_X12_mostOf at h
  refine gs_of RX12 (by decide) rfl (Nat.le_of_ble_eq_true rfl) (fun X C E => ?_)
  show gs_AW X 0 [(0, .int x0), (1, .int x1)] [] M L
  refine gs_iload_n (pc := 0) C 0 dX12_mostOf_0 rfl rfl ?_
  refine gs_bipush (w := 115) (pc := 1) C dX12_mostOf_1 rfl ?_
  have j1 : gs_AW X 34 [(0, .int x0), (1, .int x1)] [.int (if x0 = (115 : Int32) then if x1 = (1 : Int32) then (30 : Int32) else if x0 = (112 : Int32) then if x1 = (4 : Int32) then (8 : Int32) else (9 : Int32) else (9 : Int32) else if x0 = (112 : Int32) then if x1 = (4 : Int32) then (8 : Int32) else (9 : Int32) else (9 : Int32) : Int32)] M L := by
    obtain rfl := gs_i1 h
    exact gs_iret (pc := 34) C dX12_mostOf_34 E
  refine gs_icmp_ne (pc := 3) C 16 dX12_mostOf_3 rfl (fun c2 => ?_) (fun c2 => ?_)
  · refine gs_iload_n (pc := 16) C 0 dX12_mostOf_16 rfl rfl ?_
    refine gs_bipush (w := 112) (pc := 17) C dX12_mostOf_17 rfl ?_
    refine gs_icmp_ne (pc := 19) C 32 dX12_mostOf_19 rfl (fun c3 => ?_) (fun c3 => ?_)
    · refine gs_bipush (w := 9) (pc := 32) C dX12_mostOf_32 rfl ?_
      simp only [if_neg c2, if_neg c3] at j1
      exact j1
    · refine gs_iload_n (pc := 22) C 1 dX12_mostOf_22 rfl rfl ?_
      refine gs_iconst (w := 4) (pc := 23) C dX12_mostOf_23 rfl ?_
      refine gs_icmp_ne (pc := 24) C 32 dX12_mostOf_24 rfl (fun c4 => ?_) (fun c4 => ?_)
      · refine gs_bipush (w := 9) (pc := 32) C dX12_mostOf_32 rfl ?_
        simp only [if_neg c2, if_pos c3, if_neg c4] at j1
        exact j1
      · refine gs_bipush (w := 8) (pc := 27) C dX12_mostOf_27 rfl ?_
        refine gs_goto (pc := 29) C 34 dX12_mostOf_29 rfl ?_
        simp only [if_neg c2, if_pos c3, if_pos c4] at j1
        exact j1
  · refine gs_iload_n (pc := 6) C 1 dX12_mostOf_6 rfl rfl ?_
    refine gs_iconst (w := 1) (pc := 7) C dX12_mostOf_7 rfl ?_
    refine gs_icmp_ne (pc := 8) C 16 dX12_mostOf_8 rfl (fun c5 => ?_) (fun c5 => ?_)
    · refine gs_iload_n (pc := 16) C 0 dX12_mostOf_16 rfl rfl ?_
      refine gs_bipush (w := 112) (pc := 17) C dX12_mostOf_17 rfl ?_
      refine gs_icmp_ne (pc := 19) C 32 dX12_mostOf_19 rfl (fun c6 => ?_) (fun c6 => ?_)
      · refine gs_bipush (w := 9) (pc := 32) C dX12_mostOf_32 rfl ?_
        simp only [if_pos c2, if_neg c5, if_neg c6] at j1
        exact j1
      · refine gs_iload_n (pc := 22) C 1 dX12_mostOf_22 rfl rfl ?_
        refine gs_iconst (w := 4) (pc := 23) C dX12_mostOf_23 rfl ?_
        refine gs_icmp_ne (pc := 24) C 32 dX12_mostOf_24 rfl (fun c7 => ?_) (fun c7 => ?_)
        · refine gs_bipush (w := 9) (pc := 32) C dX12_mostOf_32 rfl ?_
          simp only [if_pos c2, if_neg c5, if_pos c6, if_neg c7] at j1
          exact j1
        · refine gs_bipush (w := 8) (pc := 27) C dX12_mostOf_27 rfl ?_
          refine gs_goto (pc := 29) C 34 dX12_mostOf_29 rfl ?_
          simp only [if_pos c2, if_neg c5, if_pos c6, if_pos c7] at j1
          exact j1
    · refine gs_bipush (w := 30) (pc := 11) C dX12_mostOf_11 rfl ?_
      refine gs_goto (pc := 13) C 34 dX12_mostOf_13 rfl ?_
      simp only [if_pos c2, if_pos c5] at j1
      exact j1
set_option maxRecDepth 100000 in
set_option maxHeartbeats 4000000 in
theorem a_X12_here (l : Launch) {M : gs_M} {L : gs_L} {rv : Int32} (h : f_X12_here M = some (rv)) : gs_Met l 0 yX12_here cX12_here 1 (some .int) [.ref 147] M L (some (.int rv)) M L := by
  unfold f_X12_here at h
  refine gs_of RX12 (by decide) rfl (Nat.le_of_ble_eq_true rfl) (fun X C E => ?_)
  show gs_AW X 0 [(0, .ref 147)] [] M L
  refine gs_aload_n (pc := 0) C 0 dX12_here_0 rfl rfl ?_
  refine gs_geti (pc := 1) C dX12_here_1 gk_12 fl_X12_123 sh_147 rfl ?_
  refine gs_aload_n (pc := 4) C 0 dX12_here_4 rfl rfl ?_
  refine gs_geti (pc := 5) C dX12_here_5 gk_12 fl_X12_126 sh_147 rfl ?_
  obtain ⟨y1, e2, h⟩ := gs_o1 h
  have j3 : gs_AW X 33 [(0, .ref 147)] [.int y1] M L := by
    obtain rfl := gs_i1 h
    exact gs_iret (pc := 33) C dX12_here_33 E
  refine gs_icmp_ge (pc := 8) C 32 dX12_here_8 rfl (fun c4 => ?_) (fun c4 => ?_)
  · replace e2 := gs_ift c4 e2
    refine gs_iconst (w := (-1)) (pc := 32) C dX12_here_32 rfl ?_
    obtain rfl := gs_i1 e2
    exact j3
  · replace e2 := gs_iff c4 e2
    refine gs_aload_n (pc := 11) C 0 dX12_here_11 rfl rfl ?_
    obtain ⟨r5, e6, e2⟩ := gs_o1 e2
    refine gs_getmB (pc := 12) C dX12_here_12 gk_12 fl_X12_23 sh_147 rfl e6 ?_
    refine gs_aload_n (pc := 15) C 0 dX12_here_15 rfl rfl ?_
    refine gs_geti (pc := 16) C dX12_here_16 gk_12 fl_X12_129 sh_147 rfl ?_
    refine gs_aload_n (pc := 19) C 0 dX12_here_19 rfl rfl ?_
    refine gs_geti (pc := 20) C dX12_here_20 gk_12 fl_X12_123 sh_147 rfl ?_
    refine gs_iadd (pc := 23) C dX12_here_23 ?_
    obtain ⟨v7, e8, e2⟩ := gs_o1 e2
    refine gs_bald (pc := 24) C dX12_here_24 (gs_ckB_sh e6) e8 ?_
    refine gs_sipush (w := 255) (pc := 25) C dX12_here_25 rfl ?_
    refine gs_iand (pc := 28) C dX12_here_28 ?_
    refine gs_goto (pc := 29) C 33 dX12_here_29 rfl ?_
    obtain rfl := gs_i1 e2
    exact j3
set_option maxRecDepth 100000 in
set_option maxHeartbeats 4000000 in
theorem a_X12_number (l : Launch) {M : gs_M} {L : gs_L} {x1 : Int32} {x2 : Int32} {rv : Int32} {Mz : gs_M} (h : f_X12_number M x1 x2 = some (rv, Mz)) : gs_Met l 1 yX12_number cX12_number 5 (some .int) [.ref 147, .int x1, .int x2] M L (some (.int rv)) Mz L := by
  unfold f_X12_number at h
  refine gs_of RX12 (by decide) rfl (Nat.le_of_ble_eq_true rfl) (fun X C E => ?_)
  show gs_AW X 0 [(0, .ref 147), (1, .int x1), (2, .int x2)] [] M L
  refine gs_aload_n (pc := 0) C 0 dX12_number_0 rfl rfl ?_
  obtain ⟨v1, M2, e3, h⟩ := gs_o2 h
  refine gs_callVi (pc := 1) C [] dX12_number_1 ml_X12_142 wy_X12_look (a_X12_look _ e3) (by decide) sh_147 (by decide) rfl rfl (Nat.le_of_ble_eq_true rfl) rfl ?_
  refine gs_istore_n (ls' := [(3, .int v1), (0, .ref 147), (1, .int x1), (2, .int x2)]) (pc := 4) C dX12_number_4 rfl (by decide) rfl ?_
  refine gs_aload_n (pc := 5) C 1 dX12_number_5 rfl rfl ?_
  obtain ⟨v4, e5, h⟩ := gs_o1 h
  refine gs_callVi (pc := 6) C [] dX12_number_6 ml_X12_172 wy_X12_isDigit (a_X12_isDigit _ e5) (by decide) sh_147 (by decide) rfl rfl (Nat.le_of_ble_eq_true rfl) rfl ?_
  refine gs_if_ne (pc := 9) C 19 dX12_number_9 rfl (fun c6 => ?_) (fun c6 => ?_)
  · replace h := gs_iff c6 h
    refine gs_iload_n (pc := 19) C 0 dX12_number_19 rfl rfl ?_
    refine gs_bipush (w := 48) (pc := 20) C dX12_number_20 rfl ?_
    refine gs_isub (pc := 22) C dX12_number_22 ?_
    refine gs_istore (ls' := [(4, .int (v1 - (48 : Int32))), (3, .int v1), (0, .ref 147), (1, .int x1), (2, .int x2)]) (pc := 23) C dX12_number_23 (by decide) rfl ?_
    refine gs_aload_n (pc := 25) C 2 dX12_number_25 rfl rfl ?_
    refine gs_dup (pc := 26) C dX12_number_26 rfl ?_
    refine gs_geti (pc := 27) C dX12_number_27 gk_12 fl_X12_123 sh_147 rfl ?_
    refine gs_iconst (w := 1) (pc := 30) C dX12_number_30 rfl ?_
    refine gs_iadd (pc := 31) C dX12_number_31 ?_
    obtain ⟨M8, e7, h⟩ := gs_o1 h
    refine gs_puti' (pc := 32) C dX12_number_32 gk_12 fp_X12_123 sh_147 rfl e7 ?_
    refine gs_aload_n (pc := 35) C 2 dX12_number_35 rfl rfl ?_
    obtain ⟨v9, e10, h⟩ := gs_o1 h
    refine gs_callVi (pc := 36) C [] dX12_number_36 ml_X12_172 wy_X12_isDigit (a_X12_isDigit _ e10) (by decide) sh_147 (by decide) rfl rfl (Nat.le_of_ble_eq_true rfl) rfl ?_
    obtain ⟨y11, M12, e13, h⟩ := gs_o2 h
    have j14 : gs_AW X 67 [(0, .ref 147), (1, .int x1), (2, .int x2), (3, .int v1), (4, .int y11)] [] M12 L := by
      refine gs_aload_n (pc := 67) C 0 dX12_number_67 rfl rfl ?_
      obtain ⟨v20, e21, h⟩ := gs_o1 h
      refine gs_callVi (pc := 68) C [] dX12_number_68 ml_X12_172 wy_X12_isDigit (a_X12_isDigit _ e21) (by decide) sh_147 (by decide) rfl rfl (Nat.le_of_ble_eq_true rfl) rfl ?_
      refine gs_if_eq (pc := 71) C 81 dX12_number_71 rfl (fun c22 => ?_) (fun c22 => ?_)
      · replace h := gs_ift c22 h
        refine gs_iload (pc := 81) C 4 dX12_number_81 rfl ?_
        refine gs_i2l (pc := 83) C dX12_number_83 ?_
        refine gs_iload_n (pc := 84) C 1 dX12_number_84 rfl rfl ?_
        refine gs_i2l (pc := 85) C dX12_number_85 ?_
        refine gs_iload_n (pc := 86) C 2 dX12_number_86 rfl rfl ?_
        refine gs_i2l (pc := 87) C dX12_number_87 ?_
        obtain ⟨v23, e24, h⟩ := gs_o1 h
        refine gs_callSi (pc := 88) C [.long (Int32.toInt64 y11), .long (Int32.toInt64 x1), .long (Int32.toInt64 x2)] dX12_number_88 ml_X12_221 wy_X12_isIn (a_X12_isIn _ e24) (by decide) rfl (Nat.le_of_ble_eq_true rfl) rfl ?_
        obtain ⟨M25, e26, h⟩ := gs_o1 h
        have j27 : gs_AW X 109 [(0, .ref 147), (1, .int x1), (2, .int x2), (3, .int v1), (4, .int y11)] [] M25 L := by
          refine gs_iload (pc := 109) C 4 dX12_number_109 rfl ?_
          obtain ⟨rfl, rfl⟩ := gs_i2 h
          exact gs_iret (pc := 111) C dX12_number_111 E
        refine gs_if_ne (pc := 91) C 109 dX12_number_91 rfl (fun c28 => ?_) (fun c28 => ?_)
        · replace e26 := gs_iff c28 e26
          obtain rfl := gs_i1 e26
          exact j27
        · replace e26 := gs_ift c28 e26
          refine gs_aload_n (pc := 94) C 0 dX12_number_94 rfl rfl ?_
          refine gs_dup (pc := 95) C dX12_number_95 rfl ?_
          refine gs_geti (pc := 96) C dX12_number_96 gk_12 fl_X12_123 sh_147 rfl ?_
          refine gs_iconst (w := 1) (pc := 99) C dX12_number_99 rfl ?_
          refine gs_isub (pc := 100) C dX12_number_100 ?_
          obtain ⟨M30, e29, e26⟩ := gs_o1 e26
          refine gs_puti' (pc := 101) C dX12_number_101 gk_12 fp_X12_123 sh_147 rfl e29 ?_
          refine gs_aload_n (pc := 104) C 0 dX12_number_104 rfl rfl ?_
          obtain ⟨v31, M32, e33, e26⟩ := gs_o2 e26
          refine gs_callVi (pc := 105) C [] dX12_number_105 ml_X12_138 wy_X12_fails (a_X12_fails _ e33) (by decide) sh_147 (by decide) rfl rfl (Nat.le_of_ble_eq_true rfl) rfl ?_
          refine gs_pop (pc := 108) C dX12_number_108 rfl ?_
          obtain rfl := gs_i1 e26
          exact j27
      · replace h := gs_iff c22 h
        refine gs_aload_n (pc := 74) C 0 dX12_number_74 rfl rfl ?_
        obtain ⟨v34, M35, e36, h⟩ := gs_o2 h
        refine gs_callVi (pc := 75) C [] dX12_number_75 ml_X12_138 wy_X12_fails (a_X12_fails _ e36) (by decide) sh_147 (by decide) rfl rfl (Nat.le_of_ble_eq_true rfl) rfl ?_
        refine gs_pop (pc := 78) C dX12_number_78 rfl ?_
        refine gs_iconst (w := 0) (pc := 79) C dX12_number_79 rfl ?_
        obtain ⟨rfl, rfl⟩ := gs_i2 h
        exact gs_iret (pc := 80) C dX12_number_80 E
    refine gs_if_eq (pc := 39) C 67 dX12_number_39 rfl (fun c15 => ?_) (fun c15 => ?_)
    · replace e13 := gs_ift c15 e13
      obtain ⟨rfl, rfl⟩ := gs_i2 e13
      exact gs_sub [2, 3, 4, 1, 0] rfl (j14)
    · replace e13 := gs_iff c15 e13
      refine gs_bipush (w := 10) (pc := 42) C dX12_number_42 rfl ?_
      refine gs_iload (pc := 44) C 0 dX12_number_44 rfl ?_
      refine gs_imul (pc := 46) C dX12_number_46 ?_
      refine gs_aload_n (pc := 47) C 2 dX12_number_47 rfl rfl ?_
      obtain ⟨v16, e17, e13⟩ := gs_o1 e13
      refine gs_callVi (pc := 48) C [] dX12_number_48 ml_X12_218 wy_X12_here (a_X12_here _ e17) (by decide) sh_147 (by decide) rfl rfl (Nat.le_of_ble_eq_true rfl) rfl ?_
      refine gs_iadd (pc := 51) C dX12_number_51 ?_
      refine gs_bipush (w := 48) (pc := 52) C dX12_number_52 rfl ?_
      refine gs_isub (pc := 54) C dX12_number_54 ?_
      refine gs_istore (ls' := [(4, .int ((((10 : Int32) * (v1 - (48 : Int32))) + v16) - (48 : Int32))), (3, .int v1), (0, .ref 147), (1, .int x1), (2, .int x2)]) (pc := 55) C dX12_number_55 (by decide) rfl ?_
      refine gs_aload_n (pc := 57) C 2 dX12_number_57 rfl rfl ?_
      refine gs_dup (pc := 58) C dX12_number_58 rfl ?_
      refine gs_geti (pc := 59) C dX12_number_59 gk_12 fl_X12_123 sh_147 rfl ?_
      refine gs_iconst (w := 1) (pc := 62) C dX12_number_62 rfl ?_
      refine gs_iadd (pc := 63) C dX12_number_63 ?_
      obtain ⟨M19, e18, e13⟩ := gs_o1 e13
      refine gs_puti' (pc := 64) C dX12_number_64 gk_12 fp_X12_123 sh_147 rfl e18 ?_
      obtain ⟨rfl, rfl⟩ := gs_i2 e13
      exact gs_sub [2, 3, 4, 1, 0] rfl (j14)
  · replace h := gs_ift c6 h
    refine gs_aload_n (pc := 12) C 1 dX12_number_12 rfl rfl ?_
    obtain ⟨v37, M38, e39, h⟩ := gs_o2 h
    refine gs_callVi (pc := 13) C [] dX12_number_13 ml_X12_138 wy_X12_fails (a_X12_fails _ e39) (by decide) sh_147 (by decide) rfl rfl (Nat.le_of_ble_eq_true rfl) rfl ?_
    refine gs_pop (pc := 16) C dX12_number_16 rfl ?_
    refine gs_iconst (w := 0) (pc := 17) C dX12_number_17 rfl ?_
    obtain ⟨rfl, rfl⟩ := gs_i2 h
    exact gs_iret (pc := 18) C dX12_number_18 E
set_option maxRecDepth 100000 in
set_option maxHeartbeats 4000000 in
theorem t_X12_readItems_3 {X : gs_X} (C : gs_C X RX12 cX12_readItems 7 none 10) {L : gs_L} {x1 : Int32} {x3 : Int32} {o5 : Int32} {M' : gs_M} (k : gs_AW X 31 [(0, .ref 147), (1, .int x1), (2, .ref 155), (3, .int x3), (4, .ref 1001), (5, .int o5)] [] M' L) : ∀ (f : Nat) (x5 : Int32) (M : gs_M), l_X12_readItems_3 x1 x3 f x5 M = some (o5, M') → gs_AW X 3 [(0, .ref 147), (1, .int x1), (2, .ref 155), (3, .int x3), (4, .ref 1001), (5, .int x5)] [] M L := by
  intro f
  induction f with
  | zero =>
    intro x5 M h
    cases h
  | succ f ih =>
    intro x5 M h
    rw [l_X12_readItems_3] at h
    refine gs_iload (pc := 3) C 5 dX12_readItems_3 rfl ?_
    refine gs_aload (pc := 5) C 4 dX12_readItems_5 rfl ?_
    refine gs_strlen (pc := 7) C 1 (by decide) dX12_readItems_7 ml_X12_103 (by decide) (Nat.le_of_ble_eq_true rfl) ?_
    refine gs_icmp_ge (pc := 10) C 31 dX12_readItems_10 rfl (fun c1 => ?_) (fun c1 => ?_)
    · replace h := gs_ift c1 h
      obtain ⟨rfl, rfl⟩ := gs_i2 h
      exact k
    · replace h := gs_iff c1 h
      refine gs_aload_n (pc := 13) C 2 dX12_readItems_13 rfl rfl ?_
      refine gs_iload_n (pc := 14) C 3 dX12_readItems_14 rfl rfl ?_
      refine gs_iload (pc := 15) C 5 dX12_readItems_15 rfl ?_
      refine gs_iadd (pc := 17) C dX12_readItems_17 ?_
      refine gs_iload_n (pc := 18) C 1 dX12_readItems_18 rfl rfl ?_
      refine gs_iload (pc := 19) C 5 dX12_readItems_19 rfl ?_
      obtain ⟨v2, e3, h⟩ := gs_o1 h
      refine gs_callSi (pc := 21) C [.int x1, .int x5] dX12_readItems_21 ml_X12_225 wy_X12_usual (a_X12_usual _ e3) (by decide) rfl (Nat.le_of_ble_eq_true rfl) rfl ?_
      obtain ⟨M5, e4, h⟩ := gs_o1 h
      refine gs_iast (pc := 24) C dX12_readItems_24 sh_155 e4 ?_
      refine gs_iinc (v := x5 + (1 : Int32)) (ls' := [(5, .int (x5 + (1 : Int32))), (0, .ref 147), (1, .int x1), (2, .ref 155), (3, .int x3), (4, .ref 1001)]) (pc := 25) C 5 dX12_readItems_25 rfl rfl (by decide) rfl ?_
      refine gs_goto (pc := 28) C 3 dX12_readItems_28 rfl ?_
      exact gs_sub [1, 2, 3, 4, 5, 0] rfl (ih _ _ h)
set_option maxRecDepth 100000 in
set_option maxHeartbeats 4000000 in
theorem t_X12_readItems_45 {X : gs_X} (C : gs_C X RX12 cX12_readItems 7 none 10) {L : gs_L} {x1 : Int32} {x3 : Int32} {Mz : gs_M} (E : gs_E X none Mz L) : ∀ (f : Nat) (x5 : Int32) (x6 : Int32) (M : gs_M), l_X12_readItems_45 x1 x3 f x5 x6 M = some (Mz) → gs_AW X 45 [(0, .ref 147), (1, .int x1), (2, .ref 155), (3, .int x3), (4, .ref 1001), (5, .int x5), (6, .int x6)] [] M L := by
  intro f
  induction f with
  | zero =>
    intro x5 x6 M h
    cases h
  | succ f ih =>
    intro x5 x6 M h
    rw [l_X12_readItems_45] at h
    refine gs_iload (pc := 45) C 6 dX12_readItems_45 rfl ?_
    refine gs_iconst (w := (-1)) (pc := 47) C dX12_readItems_47 rfl ?_
    refine gs_icmp_eq (pc := 48) C 138 dX12_readItems_48 rfl (fun c1 => ?_) (fun c1 => ?_)
    · replace h := gs_ift c1 h
      obtain rfl := gs_i1 h
      exact gs_vret (pc := 138) C dX12_readItems_138 E
    · replace h := gs_iff c1 h
      refine gs_aload_n (pc := 51) C 0 dX12_readItems_51 rfl rfl ?_
      refine gs_geti (pc := 52) C dX12_readItems_52 gk_12 fl_X12_132 sh_147 rfl ?_
      refine gs_iconst (w := (-1)) (pc := 55) C dX12_readItems_55 rfl ?_
      refine gs_icmp_ne (pc := 56) C 138 dX12_readItems_56 rfl (fun c2 => ?_) (fun c2 => ?_)
      · replace h := gs_iff c2 h
        obtain rfl := gs_i1 h
        exact gs_vret (pc := 138) C dX12_readItems_138 E
      · replace h := gs_ift c2 h
        refine gs_iload (pc := 59) C 5 dX12_readItems_59 rfl ?_
        refine gs_iload (pc := 61) C 6 dX12_readItems_61 rfl ?_
        obtain ⟨v3, e4, h⟩ := gs_o1 h
        refine gs_callSi (pc := 63) C [.int x5, .int x6] dX12_readItems_63 ml_X12_233 wy_X12_has (a_X12_has _ e4) (by decide) rfl (Nat.le_of_ble_eq_true rfl) rfl ?_
        refine gs_if_eq (pc := 66) C 75 dX12_readItems_66 rfl (fun c5 => ?_) (fun c5 => ?_)
        · replace h := gs_ift c5 h
          refine gs_iload (pc := 75) C 5 dX12_readItems_75 rfl ?_
          refine gs_iconst (w := 1) (pc := 77) C dX12_readItems_77 rfl ?_
          refine gs_iload (pc := 78) C 6 dX12_readItems_78 rfl ?_
          refine gs_ishl (pc := 80) C dX12_readItems_80 ?_
          refine gs_ior (pc := 81) C dX12_readItems_81 ?_
          refine gs_istore (ls' := [(5, .int (x5 ||| ((1 : Int32) <<< (x6 &&& 31)))), (0, .ref 147), (1, .int x1), (2, .ref 155), (3, .int x3), (4, .ref 1001), (6, .int x6)]) (pc := 82) C dX12_readItems_82 (by decide) rfl ?_
          refine gs_aload_n (pc := 84) C 1 dX12_readItems_84 rfl rfl ?_
          refine gs_dup (pc := 85) C dX12_readItems_85 rfl ?_
          refine gs_geti (pc := 86) C dX12_readItems_86 gk_12 fl_X12_123 sh_147 rfl ?_
          refine gs_iconst (w := 1) (pc := 89) C dX12_readItems_89 rfl ?_
          refine gs_iadd (pc := 90) C dX12_readItems_90 ?_
          obtain ⟨M7, e6, h⟩ := gs_o1 h
          refine gs_puti' (pc := 91) C dX12_readItems_91 gk_12 fp_X12_123 sh_147 rfl e6 ?_
          refine gs_aload_n (pc := 94) C 3 dX12_readItems_94 rfl rfl ?_
          refine gs_iload_n (pc := 95) C 4 dX12_readItems_95 rfl rfl ?_
          refine gs_iload (pc := 96) C 6 dX12_readItems_96 rfl ?_
          refine gs_iadd (pc := 98) C dX12_readItems_98 ?_
          refine gs_aload_n (pc := 99) C 1 dX12_readItems_99 rfl rfl ?_
          refine gs_iload_n (pc := 100) C 2 dX12_readItems_100 rfl rfl ?_
          refine gs_iload (pc := 101) C 6 dX12_readItems_101 rfl ?_
          obtain ⟨v8, e9, h⟩ := gs_o1 h
          refine gs_callSi (pc := 103) C [.int x1, .int x6] dX12_readItems_103 ml_X12_237 wy_X12_leastOf (a_X12_leastOf _ e9) (by decide) rfl (Nat.le_of_ble_eq_true rfl) rfl ?_
          refine gs_iload_n (pc := 106) C 2 dX12_readItems_106 rfl rfl ?_
          refine gs_iload (pc := 107) C 6 dX12_readItems_107 rfl ?_
          obtain ⟨v10, e11, h⟩ := gs_o1 h
          refine gs_callSi (pc := 109) C [.int x1, .int x6] dX12_readItems_109 ml_X12_240 wy_X12_mostOf (a_X12_mostOf _ e11) (by decide) rfl (Nat.le_of_ble_eq_true rfl) rfl ?_
          obtain ⟨v12, M13, e14, h⟩ := gs_o2 h
          refine gs_callVi (pc := 112) C [.int v8, .int v10] dX12_readItems_112 ml_X12_243 wy_X12_number (a_X12_number _ e14) (by decide) sh_147 (by decide) rfl rfl (Nat.le_of_ble_eq_true rfl) rfl ?_
          obtain ⟨M16, e15, h⟩ := gs_o1 h
          refine gs_iast (pc := 115) C dX12_readItems_115 sh_155 e15 ?_
          refine gs_aload_n (pc := 116) C 1 dX12_readItems_116 rfl rfl ?_
          refine gs_geti (pc := 117) C dX12_readItems_117 gk_12 fl_X12_132 sh_147 rfl ?_
          refine gs_iconst (w := (-1)) (pc := 120) C dX12_readItems_120 rfl ?_
          refine gs_icmp_ne (pc := 121) C 45 dX12_readItems_121 rfl (fun c17 => ?_) (fun c17 => ?_)
          · replace h := gs_iff c17 h
            exact gs_sub [1, 2, 3, 4, 5, 0, 6] rfl (ih _ _ _ h)
          · replace h := gs_ift c17 h
            refine gs_aload (pc := 124) C 5 dX12_readItems_124 rfl ?_
            refine gs_aload_n (pc := 126) C 1 dX12_readItems_126 rfl rfl ?_
            obtain ⟨v18, M19, e20, h⟩ := gs_o2 h
            refine gs_callVi (pc := 127) C [] dX12_readItems_127 ml_X12_142 wy_X12_look (a_X12_look _ e20) (by decide) sh_147 (by decide) rfl rfl (Nat.le_of_ble_eq_true rfl) rfl ?_
            obtain ⟨v21, e22, h⟩ := gs_o1 h
            refine gs_callSi (pc := 130) C [.ref 1001, .int v18] dX12_readItems_130 ml_X12_229 wy_X12_spotOf (a_X12_spotOf _ e22) (by decide) rfl (Nat.le_of_ble_eq_true rfl) rfl ?_
            refine gs_istore (ls' := [(6, .int v21), (5, .int (x5 ||| ((1 : Int32) <<< (x6 &&& 31)))), (0, .ref 147), (1, .int x1), (2, .ref 155), (3, .int x3), (4, .ref 1001)]) (pc := 133) C dX12_readItems_133 (by decide) rfl ?_
            refine gs_goto (pc := 135) C 45 dX12_readItems_135 rfl ?_
            exact gs_sub [2, 3, 4, 5, 6, 1, 0] rfl (ih _ _ _ h)
        · replace h := gs_iff c5 h
          refine gs_aload_n (pc := 69) C 0 dX12_readItems_69 rfl rfl ?_
          obtain ⟨v23, M24, e25, h⟩ := gs_o2 h
          refine gs_callVi (pc := 70) C [] dX12_readItems_70 ml_X12_138 wy_X12_fails (a_X12_fails _ e25) (by decide) sh_147 (by decide) rfl rfl (Nat.le_of_ble_eq_true rfl) rfl ?_
          refine gs_pop (pc := 73) C dX12_readItems_73 rfl ?_
          obtain rfl := gs_i1 h
          exact gs_vret (pc := 74) C dX12_readItems_74 E
set_option maxRecDepth 100000 in
set_option maxHeartbeats 4000000 in
theorem a_X12_readItems (l : Launch) {M : gs_M} {L : gs_L} {x1 : Int32} {x3 : Int32} {Mz : gs_M} (h : f_X12_readItems M x1 x3 = some (Mz)) : gs_Met l 10 yX12_readItems cX12_readItems 7 none [.ref 147, .int x1, .ref 155, .int x3, .ref 1001] M L none Mz L := by
  unfold f_X12_readItems at h
  refine gs_of RX12 (by decide) rfl (Nat.le_of_ble_eq_true rfl) (fun X C E => ?_)
  show gs_AW X 0 [(0, .ref 147), (1, .int x1), (2, .ref 155), (3, .int x3), (4, .ref 1001)] [] M L
  refine gs_iconst (w := 0) (pc := 0) C dX12_readItems_0 rfl ?_
  refine gs_istore (ls' := [(5, .int (0 : Int32)), (0, .ref 147), (1, .int x1), (2, .ref 155), (3, .int x3), (4, .ref 1001)]) (pc := 1) C dX12_readItems_1 (by decide) rfl ?_
  obtain ⟨y1, M2, e3, h⟩ := gs_o2 h
  refine gs_sub [1, 2, 3, 4, 5, 0] rfl (t_X12_readItems_3 C ?_ gs_FU _ _ e3)
  refine gs_iconst (w := 0) (pc := 31) C dX12_readItems_31 rfl ?_
  refine gs_istore (ls' := [(5, .int (0 : Int32)), (0, .ref 147), (1, .int x1), (2, .ref 155), (3, .int x3), (4, .ref 1001)]) (pc := 32) C dX12_readItems_32 (by decide) rfl ?_
  refine gs_aload (pc := 34) C 5 dX12_readItems_34 rfl ?_
  refine gs_aload_n (pc := 36) C 1 dX12_readItems_36 rfl rfl ?_
  obtain ⟨v4, M5, e6, h⟩ := gs_o2 h
  refine gs_callVi (pc := 37) C [] dX12_readItems_37 ml_X12_142 wy_X12_look (a_X12_look _ e6) (by decide) sh_147 (by decide) rfl rfl (Nat.le_of_ble_eq_true rfl) rfl ?_
  obtain ⟨v7, e8, h⟩ := gs_o1 h
  refine gs_callSi (pc := 40) C [.ref 1001, .int v4] dX12_readItems_40 ml_X12_229 wy_X12_spotOf (a_X12_spotOf _ e8) (by decide) rfl (Nat.le_of_ble_eq_true rfl) rfl ?_
  refine gs_istore (ls' := [(6, .int v7), (5, .int (0 : Int32)), (0, .ref 147), (1, .int x1), (2, .ref 155), (3, .int x3), (4, .ref 1001)]) (pc := 43) C dX12_readItems_43 (by decide) rfl ?_
  exact gs_sub [2, 3, 4, 5, 6, 1, 0] rfl (t_X12_readItems_45 C E gs_FU _ _ _ h)
set_option maxRecDepth 100000 in
set_option maxHeartbeats 4000000 in
theorem t_X12_spotOf_2_2 {X : gs_X} (C : gs_C X RX12 cX12_spotOf 3 (some .int) 9) {M : gs_M} {L : gs_L} {x1 : Int32} {rv : Int32} (E : gs_E X (some (.int rv)) M L) : ∀ (f : Nat) (x2 : Int32), l_X12_spotOf_2_2 x1 f x2 = some (rv) → gs_AW X 2 [(0, .ref 1000), (1, .int x1), (2, .int x2)] [] M L := by
  intro f
  induction f with
  | zero =>
    intro x2 h
    cases h
  | succ f ih =>
    intro x2 h
    rw [l_X12_spotOf_2_2] at h
    refine gs_iload_n (pc := 2) C 2 dX12_spotOf_2 rfl rfl ?_
    refine gs_aload_n (pc := 3) C 0 dX12_spotOf_3 rfl rfl ?_
    refine gs_strlen (pc := 4) C 0 (by decide) dX12_spotOf_4 ml_X12_103 (by decide) (Nat.le_of_ble_eq_true rfl) ?_
    refine gs_icmp_ge (pc := 7) C 27 dX12_spotOf_7 rfl (fun c1 => ?_) (fun c1 => ?_)
    · replace h := gs_ift c1 h
      refine gs_iconst (w := (-1)) (pc := 27) C dX12_spotOf_27 rfl ?_
      obtain rfl := gs_i1 h
      exact gs_iret (pc := 28) C dX12_spotOf_28 E
    · replace h := gs_iff c1 h
      refine gs_aload_n (pc := 10) C 0 dX12_spotOf_10 rfl rfl ?_
      refine gs_iload_n (pc := 11) C 2 dX12_spotOf_11 rfl rfl ?_
      obtain ⟨v2, e3, h⟩ := gs_o1 h
      refine gs_strchr (pc := 12) C 0 (by decide) dX12_spotOf_12 ml_X12_109 (by decide) (Nat.le_of_ble_eq_true rfl) e3 ?_
      refine gs_iload_n (pc := 15) C 1 dX12_spotOf_15 rfl rfl ?_
      refine gs_icmp_ne (pc := 16) C 21 dX12_spotOf_16 rfl (fun c4 => ?_) (fun c4 => ?_)
      · replace h := gs_iff c4 h
        refine gs_iinc (v := x2 + (1 : Int32)) (ls' := [(2, .int (x2 + (1 : Int32))), (0, .ref 1000), (1, .int x1)]) (pc := 21) C 2 dX12_spotOf_21 rfl rfl (by decide) rfl ?_
        refine gs_goto (pc := 24) C 2 dX12_spotOf_24 rfl ?_
        exact gs_sub [1, 2, 0] rfl (ih _ h)
      · replace h := gs_ift c4 h
        refine gs_iload_n (pc := 19) C 2 dX12_spotOf_19 rfl rfl ?_
        obtain rfl := gs_i1 h
        exact gs_iret (pc := 20) C dX12_spotOf_20 E
set_option maxRecDepth 100000 in
set_option maxHeartbeats 4000000 in
theorem a_X12_spotOf_2 (l : Launch) {M : gs_M} {L : gs_L} {x1 : Int32} {rv : Int32} (h : f_X12_spotOf_2 x1 = some (rv)) : gs_Met l 9 yX12_spotOf cX12_spotOf 3 (some .int) [.ref 1000, .int x1] M L (some (.int rv)) M L := by
  unfold f_X12_spotOf_2 at h
  refine gs_of RX12 (by decide) rfl (Nat.le_of_ble_eq_true rfl) (fun X C E => ?_)
  show gs_AW X 0 [(0, .ref 1000), (1, .int x1)] [] M L
  refine gs_iconst (w := 0) (pc := 0) C dX12_spotOf_0 rfl ?_
  refine gs_istore_n (ls' := [(2, .int (0 : Int32)), (0, .ref 1000), (1, .int x1)]) (pc := 1) C dX12_spotOf_1 rfl (by decide) rfl ?_
  exact gs_sub [1, 2, 0] rfl (t_X12_spotOf_2_2 C E gs_FU _ h)
set_option maxRecDepth 100000 in
set_option maxHeartbeats 4000000 in
theorem t_X12_readItems_2_3 {X : gs_X} (C : gs_C X RX12 cX12_readItems 7 none 10) {L : gs_L} {x1 : Int32} {x3 : Int32} {o5 : Int32} {M' : gs_M} (k : gs_AW X 31 [(0, .ref 147), (1, .int x1), (2, .ref 153), (3, .int x3), (4, .ref 1000), (5, .int o5)] [] M' L) : ∀ (f : Nat) (x5 : Int32) (M : gs_M), l_X12_readItems_2_3 x1 x3 f x5 M = some (o5, M') → gs_AW X 3 [(0, .ref 147), (1, .int x1), (2, .ref 153), (3, .int x3), (4, .ref 1000), (5, .int x5)] [] M L := by
  intro f
  induction f with
  | zero =>
    intro x5 M h
    cases h
  | succ f ih =>
    intro x5 M h
    rw [l_X12_readItems_2_3] at h
    refine gs_iload (pc := 3) C 5 dX12_readItems_3 rfl ?_
    refine gs_aload (pc := 5) C 4 dX12_readItems_5 rfl ?_
    refine gs_strlen (pc := 7) C 0 (by decide) dX12_readItems_7 ml_X12_103 (by decide) (Nat.le_of_ble_eq_true rfl) ?_
    refine gs_icmp_ge (pc := 10) C 31 dX12_readItems_10 rfl (fun c1 => ?_) (fun c1 => ?_)
    · replace h := gs_ift c1 h
      obtain ⟨rfl, rfl⟩ := gs_i2 h
      exact k
    · replace h := gs_iff c1 h
      refine gs_aload_n (pc := 13) C 2 dX12_readItems_13 rfl rfl ?_
      refine gs_iload_n (pc := 14) C 3 dX12_readItems_14 rfl rfl ?_
      refine gs_iload (pc := 15) C 5 dX12_readItems_15 rfl ?_
      refine gs_iadd (pc := 17) C dX12_readItems_17 ?_
      refine gs_iload_n (pc := 18) C 1 dX12_readItems_18 rfl rfl ?_
      refine gs_iload (pc := 19) C 5 dX12_readItems_19 rfl ?_
      obtain ⟨v2, e3, h⟩ := gs_o1 h
      refine gs_callSi (pc := 21) C [.int x1, .int x5] dX12_readItems_21 ml_X12_225 wy_X12_usual (a_X12_usual _ e3) (by decide) rfl (Nat.le_of_ble_eq_true rfl) rfl ?_
      obtain ⟨M5, e4, h⟩ := gs_o1 h
      refine gs_iast (pc := 24) C dX12_readItems_24 sh_153 e4 ?_
      refine gs_iinc (v := x5 + (1 : Int32)) (ls' := [(5, .int (x5 + (1 : Int32))), (0, .ref 147), (1, .int x1), (2, .ref 153), (3, .int x3), (4, .ref 1000)]) (pc := 25) C 5 dX12_readItems_25 rfl rfl (by decide) rfl ?_
      refine gs_goto (pc := 28) C 3 dX12_readItems_28 rfl ?_
      exact gs_sub [1, 2, 3, 4, 5, 0] rfl (ih _ _ h)
set_option maxRecDepth 100000 in
set_option maxHeartbeats 4000000 in
theorem t_X12_readItems_2_45 {X : gs_X} (C : gs_C X RX12 cX12_readItems 7 none 10) {L : gs_L} {x1 : Int32} {x3 : Int32} {Mz : gs_M} (E : gs_E X none Mz L) : ∀ (f : Nat) (x5 : Int32) (x6 : Int32) (M : gs_M), l_X12_readItems_2_45 x1 x3 f x5 x6 M = some (Mz) → gs_AW X 45 [(0, .ref 147), (1, .int x1), (2, .ref 153), (3, .int x3), (4, .ref 1000), (5, .int x5), (6, .int x6)] [] M L := by
  intro f
  induction f with
  | zero =>
    intro x5 x6 M h
    cases h
  | succ f ih =>
    intro x5 x6 M h
    rw [l_X12_readItems_2_45] at h
    refine gs_iload (pc := 45) C 6 dX12_readItems_45 rfl ?_
    refine gs_iconst (w := (-1)) (pc := 47) C dX12_readItems_47 rfl ?_
    refine gs_icmp_eq (pc := 48) C 138 dX12_readItems_48 rfl (fun c1 => ?_) (fun c1 => ?_)
    · replace h := gs_ift c1 h
      obtain rfl := gs_i1 h
      exact gs_vret (pc := 138) C dX12_readItems_138 E
    · replace h := gs_iff c1 h
      refine gs_aload_n (pc := 51) C 0 dX12_readItems_51 rfl rfl ?_
      refine gs_geti (pc := 52) C dX12_readItems_52 gk_12 fl_X12_132 sh_147 rfl ?_
      refine gs_iconst (w := (-1)) (pc := 55) C dX12_readItems_55 rfl ?_
      refine gs_icmp_ne (pc := 56) C 138 dX12_readItems_56 rfl (fun c2 => ?_) (fun c2 => ?_)
      · replace h := gs_iff c2 h
        obtain rfl := gs_i1 h
        exact gs_vret (pc := 138) C dX12_readItems_138 E
      · replace h := gs_ift c2 h
        refine gs_iload (pc := 59) C 5 dX12_readItems_59 rfl ?_
        refine gs_iload (pc := 61) C 6 dX12_readItems_61 rfl ?_
        obtain ⟨v3, e4, h⟩ := gs_o1 h
        refine gs_callSi (pc := 63) C [.int x5, .int x6] dX12_readItems_63 ml_X12_233 wy_X12_has (a_X12_has _ e4) (by decide) rfl (Nat.le_of_ble_eq_true rfl) rfl ?_
        refine gs_if_eq (pc := 66) C 75 dX12_readItems_66 rfl (fun c5 => ?_) (fun c5 => ?_)
        · replace h := gs_ift c5 h
          refine gs_iload (pc := 75) C 5 dX12_readItems_75 rfl ?_
          refine gs_iconst (w := 1) (pc := 77) C dX12_readItems_77 rfl ?_
          refine gs_iload (pc := 78) C 6 dX12_readItems_78 rfl ?_
          refine gs_ishl (pc := 80) C dX12_readItems_80 ?_
          refine gs_ior (pc := 81) C dX12_readItems_81 ?_
          refine gs_istore (ls' := [(5, .int (x5 ||| ((1 : Int32) <<< (x6 &&& 31)))), (0, .ref 147), (1, .int x1), (2, .ref 153), (3, .int x3), (4, .ref 1000), (6, .int x6)]) (pc := 82) C dX12_readItems_82 (by decide) rfl ?_
          refine gs_aload_n (pc := 84) C 1 dX12_readItems_84 rfl rfl ?_
          refine gs_dup (pc := 85) C dX12_readItems_85 rfl ?_
          refine gs_geti (pc := 86) C dX12_readItems_86 gk_12 fl_X12_123 sh_147 rfl ?_
          refine gs_iconst (w := 1) (pc := 89) C dX12_readItems_89 rfl ?_
          refine gs_iadd (pc := 90) C dX12_readItems_90 ?_
          obtain ⟨M7, e6, h⟩ := gs_o1 h
          refine gs_puti' (pc := 91) C dX12_readItems_91 gk_12 fp_X12_123 sh_147 rfl e6 ?_
          refine gs_aload_n (pc := 94) C 3 dX12_readItems_94 rfl rfl ?_
          refine gs_iload_n (pc := 95) C 4 dX12_readItems_95 rfl rfl ?_
          refine gs_iload (pc := 96) C 6 dX12_readItems_96 rfl ?_
          refine gs_iadd (pc := 98) C dX12_readItems_98 ?_
          refine gs_aload_n (pc := 99) C 1 dX12_readItems_99 rfl rfl ?_
          refine gs_iload_n (pc := 100) C 2 dX12_readItems_100 rfl rfl ?_
          refine gs_iload (pc := 101) C 6 dX12_readItems_101 rfl ?_
          obtain ⟨v8, e9, h⟩ := gs_o1 h
          refine gs_callSi (pc := 103) C [.int x1, .int x6] dX12_readItems_103 ml_X12_237 wy_X12_leastOf (a_X12_leastOf _ e9) (by decide) rfl (Nat.le_of_ble_eq_true rfl) rfl ?_
          refine gs_iload_n (pc := 106) C 2 dX12_readItems_106 rfl rfl ?_
          refine gs_iload (pc := 107) C 6 dX12_readItems_107 rfl ?_
          obtain ⟨v10, e11, h⟩ := gs_o1 h
          refine gs_callSi (pc := 109) C [.int x1, .int x6] dX12_readItems_109 ml_X12_240 wy_X12_mostOf (a_X12_mostOf _ e11) (by decide) rfl (Nat.le_of_ble_eq_true rfl) rfl ?_
          obtain ⟨v12, M13, e14, h⟩ := gs_o2 h
          refine gs_callVi (pc := 112) C [.int v8, .int v10] dX12_readItems_112 ml_X12_243 wy_X12_number (a_X12_number _ e14) (by decide) sh_147 (by decide) rfl rfl (Nat.le_of_ble_eq_true rfl) rfl ?_
          obtain ⟨M16, e15, h⟩ := gs_o1 h
          refine gs_iast (pc := 115) C dX12_readItems_115 sh_153 e15 ?_
          refine gs_aload_n (pc := 116) C 1 dX12_readItems_116 rfl rfl ?_
          refine gs_geti (pc := 117) C dX12_readItems_117 gk_12 fl_X12_132 sh_147 rfl ?_
          refine gs_iconst (w := (-1)) (pc := 120) C dX12_readItems_120 rfl ?_
          refine gs_icmp_ne (pc := 121) C 45 dX12_readItems_121 rfl (fun c17 => ?_) (fun c17 => ?_)
          · replace h := gs_iff c17 h
            exact gs_sub [1, 2, 3, 4, 5, 0, 6] rfl (ih _ _ _ h)
          · replace h := gs_ift c17 h
            refine gs_aload (pc := 124) C 5 dX12_readItems_124 rfl ?_
            refine gs_aload_n (pc := 126) C 1 dX12_readItems_126 rfl rfl ?_
            obtain ⟨v18, M19, e20, h⟩ := gs_o2 h
            refine gs_callVi (pc := 127) C [] dX12_readItems_127 ml_X12_142 wy_X12_look (a_X12_look _ e20) (by decide) sh_147 (by decide) rfl rfl (Nat.le_of_ble_eq_true rfl) rfl ?_
            obtain ⟨v21, e22, h⟩ := gs_o1 h
            refine gs_callSi (pc := 130) C [.ref 1000, .int v18] dX12_readItems_130 ml_X12_229 wy_X12_spotOf (a_X12_spotOf_2 _ e22) (by decide) rfl (Nat.le_of_ble_eq_true rfl) rfl ?_
            refine gs_istore (ls' := [(6, .int v21), (5, .int (x5 ||| ((1 : Int32) <<< (x6 &&& 31)))), (0, .ref 147), (1, .int x1), (2, .ref 153), (3, .int x3), (4, .ref 1000)]) (pc := 133) C dX12_readItems_133 (by decide) rfl ?_
            refine gs_goto (pc := 135) C 45 dX12_readItems_135 rfl ?_
            exact gs_sub [2, 3, 4, 5, 6, 1, 0] rfl (ih _ _ _ h)
        · replace h := gs_iff c5 h
          refine gs_aload_n (pc := 69) C 0 dX12_readItems_69 rfl rfl ?_
          obtain ⟨v23, M24, e25, h⟩ := gs_o2 h
          refine gs_callVi (pc := 70) C [] dX12_readItems_70 ml_X12_138 wy_X12_fails (a_X12_fails _ e25) (by decide) sh_147 (by decide) rfl rfl (Nat.le_of_ble_eq_true rfl) rfl ?_
          refine gs_pop (pc := 73) C dX12_readItems_73 rfl ?_
          obtain rfl := gs_i1 h
          exact gs_vret (pc := 74) C dX12_readItems_74 E
set_option maxRecDepth 100000 in
set_option maxHeartbeats 4000000 in
theorem a_X12_readItems_2 (l : Launch) {M : gs_M} {L : gs_L} {x1 : Int32} {x3 : Int32} {Mz : gs_M} (h : f_X12_readItems_2 M x1 x3 = some (Mz)) : gs_Met l 10 yX12_readItems cX12_readItems 7 none [.ref 147, .int x1, .ref 153, .int x3, .ref 1000] M L none Mz L := by
  unfold f_X12_readItems_2 at h
  refine gs_of RX12 (by decide) rfl (Nat.le_of_ble_eq_true rfl) (fun X C E => ?_)
  show gs_AW X 0 [(0, .ref 147), (1, .int x1), (2, .ref 153), (3, .int x3), (4, .ref 1000)] [] M L
  refine gs_iconst (w := 0) (pc := 0) C dX12_readItems_0 rfl ?_
  refine gs_istore (ls' := [(5, .int (0 : Int32)), (0, .ref 147), (1, .int x1), (2, .ref 153), (3, .int x3), (4, .ref 1000)]) (pc := 1) C dX12_readItems_1 (by decide) rfl ?_
  obtain ⟨y1, M2, e3, h⟩ := gs_o2 h
  refine gs_sub [1, 2, 3, 4, 5, 0] rfl (t_X12_readItems_2_3 C ?_ gs_FU _ _ e3)
  refine gs_iconst (w := 0) (pc := 31) C dX12_readItems_31 rfl ?_
  refine gs_istore (ls' := [(5, .int (0 : Int32)), (0, .ref 147), (1, .int x1), (2, .ref 153), (3, .int x3), (4, .ref 1000)]) (pc := 32) C dX12_readItems_32 (by decide) rfl ?_
  refine gs_aload (pc := 34) C 5 dX12_readItems_34 rfl ?_
  refine gs_aload_n (pc := 36) C 1 dX12_readItems_36 rfl rfl ?_
  obtain ⟨v4, M5, e6, h⟩ := gs_o2 h
  refine gs_callVi (pc := 37) C [] dX12_readItems_37 ml_X12_142 wy_X12_look (a_X12_look _ e6) (by decide) sh_147 (by decide) rfl rfl (Nat.le_of_ble_eq_true rfl) rfl ?_
  obtain ⟨v7, e8, h⟩ := gs_o1 h
  refine gs_callSi (pc := 40) C [.ref 1000, .int v4] dX12_readItems_40 ml_X12_229 wy_X12_spotOf (a_X12_spotOf_2 _ e8) (by decide) rfl (Nat.le_of_ble_eq_true rfl) rfl ?_
  refine gs_istore (ls' := [(6, .int v7), (5, .int (0 : Int32)), (0, .ref 147), (1, .int x1), (2, .ref 153), (3, .int x3), (4, .ref 1000)]) (pc := 43) C dX12_readItems_43 (by decide) rfl ?_
  exact gs_sub [2, 3, 4, 5, 6, 1, 0] rfl (t_X12_readItems_2_45 C E gs_FU _ _ _ h)
set_option maxRecDepth 100000 in
set_option maxHeartbeats 4000000 in
theorem a_X12_readClause (l : Launch) {M : gs_M} {L : gs_L} {Mz : gs_M} (h : f_X12_readClause M = some (Mz)) : gs_Met l 11 yX12_readClause cX12_readClause 3 none [.ref 147] M L none Mz L := by
  unfold f_X12_readClause at h
  refine gs_of RX12 (by decide) rfl (Nat.le_of_ble_eq_true rfl) (fun X C E => ?_)
  show gs_AW X 0 [(0, .ref 147)] [] M L
  refine gs_aload_n (pc := 0) C 0 dX12_readClause_0 rfl rfl ?_
  obtain ⟨v1, M2, e3, h⟩ := gs_o2 h
  refine gs_callVi (pc := 1) C [] dX12_readClause_1 ml_X12_142 wy_X12_look (a_X12_look _ e3) (by decide) sh_147 (by decide) rfl rfl (Nat.le_of_ble_eq_true rfl) rfl ?_
  refine gs_istore_n (ls' := [(1, .int v1), (0, .ref 147)]) (pc := 4) C dX12_readClause_4 rfl (by decide) rfl ?_
  refine gs_iload_n (pc := 5) C 0 dX12_readClause_5 rfl rfl ?_
  refine gs_bipush (w := 115) (pc := 6) C dX12_readClause_6 rfl ?_
  have j22 : gs_AW X 38 [(0, .ref 147), (1, .int v1)] [.int (if v1 = (115 : Int32) then if (M2 147 27) = (0 : Int32) then (1 : Int32) else if v1 = (112 : Int32) then if (8 : Int32) ≤ (M2 147 25) then (0 : Int32) else (1 : Int32) else (0 : Int32) else if v1 = (112 : Int32) then if (8 : Int32) ≤ (M2 147 25) then (0 : Int32) else (1 : Int32) else (0 : Int32) : Int32)] M2 L := by
    refine gs_istore_n (ls' := [(2, .int (if v1 = (115 : Int32) then if (M2 147 27) = (0 : Int32) then (1 : Int32) else if v1 = (112 : Int32) then if (8 : Int32) ≤ (M2 147 25) then (0 : Int32) else (1 : Int32) else (0 : Int32) else if v1 = (112 : Int32) then if (8 : Int32) ≤ (M2 147 25) then (0 : Int32) else (1 : Int32) else (0 : Int32) : Int32)), (0, .ref 147), (1, .int v1)]) (pc := 38) C dX12_readClause_38 rfl (by decide) rfl ?_
    refine gs_iload_n (pc := 39) C 0 dX12_readClause_39 rfl rfl ?_
    refine gs_if_ne (pc := 40) C 49 dX12_readClause_40 rfl (fun c4 => ?_) (fun c4 => ?_)
    · replace h := gs_iff c4 h
      refine gs_aload_n (pc := 49) C 1 dX12_readClause_49 rfl rfl ?_
      refine gs_dup (pc := 50) C dX12_readClause_50 rfl ?_
      refine gs_geti (pc := 51) C dX12_readClause_51 gk_12 fl_X12_123 sh_147 rfl ?_
      refine gs_iconst (w := 1) (pc := 54) C dX12_readClause_54 rfl ?_
      refine gs_iadd (pc := 55) C dX12_readClause_55 ?_
      obtain ⟨M6, e5, h⟩ := gs_o1 h
      refine gs_puti' (pc := 56) C dX12_readClause_56 gk_12 fp_X12_123 sh_147 rfl e5 ?_
      refine gs_iload_n (pc := 59) C 2 dX12_readClause_59 rfl rfl ?_
      refine gs_bipush (w := 115) (pc := 60) C dX12_readClause_60 rfl ?_
      obtain ⟨M7, e8, h⟩ := gs_o1 h
      have j9 : gs_AW X 115 [(0, .ref 147), (1, .int v1), (2, .int (if v1 = (115 : Int32) then if (M2 147 27) = (0 : Int32) then (1 : Int32) else if v1 = (112 : Int32) then if (8 : Int32) ≤ (M2 147 25) then (0 : Int32) else (1 : Int32) else (0 : Int32) else if v1 = (112 : Int32) then if (8 : Int32) ≤ (M2 147 25) then (0 : Int32) else (1 : Int32) else (0 : Int32) : Int32))] [] M7 L := by
        obtain rfl := gs_i1 h
        exact gs_vret (pc := 115) C dX12_readClause_115 E
      refine gs_icmp_ne (pc := 62) C 85 dX12_readClause_62 rfl (fun c10 => ?_) (fun c10 => ?_)
      · replace e8 := gs_iff c10 e8
        refine gs_aload_n (pc := 85) C 1 dX12_readClause_85 rfl rfl ?_
        refine gs_dup (pc := 86) C dX12_readClause_86 rfl ?_
        refine gs_geti (pc := 87) C dX12_readClause_87 gk_12 fl_X12_249 sh_147 rfl ?_
        refine gs_iconst (w := 1) (pc := 90) C dX12_readClause_90 rfl ?_
        refine gs_iadd (pc := 91) C dX12_readClause_91 ?_
        obtain ⟨M12, e11, e8⟩ := gs_o1 e8
        refine gs_puti' (pc := 92) C dX12_readClause_92 gk_12 fp_X12_249 sh_147 rfl e11 ?_
        refine gs_aload_n (pc := 95) C 1 dX12_readClause_95 rfl rfl ?_
        refine gs_iload_n (pc := 96) C 2 dX12_readClause_96 rfl rfl ?_
        refine gs_aload_n (pc := 97) C 1 dX12_readClause_97 rfl rfl ?_
        refine gs_getq (pc := 98) C dX12_readClause_98 gk_12 fl_X12_46 sh_147 rfl ?_
        refine gs_iconst (w := 5) (pc := 101) C dX12_readClause_101 rfl ?_
        refine gs_aload_n (pc := 102) C 1 dX12_readClause_102 rfl rfl ?_
        refine gs_geti (pc := 103) C dX12_readClause_103 gk_12 fl_X12_249 sh_147 rfl ?_
        refine gs_iconst (w := 1) (pc := 106) C dX12_readClause_106 rfl ?_
        refine gs_isub (pc := 107) C dX12_readClause_107 ?_
        refine gs_imul (pc := 108) C dX12_readClause_108 ?_
        refine gs_ldcSw (pc := 109) C (q := 1001) (tx := "gcwtm") dX12_readClause_109 (by decide) ?_
        obtain ⟨M13, e14, e8⟩ := gs_o1 e8
        refine gs_callVv (pc := 112) C [.int v1, .ref 155, .int ((5 : Int32) * ((M12 147 25) - (1 : Int32))), .ref 1001] dX12_readClause_112 ml_X12_254 wy_X12_readItems (a_X12_readItems _ e14) (by decide) sh_147 (by decide) rfl rfl (Nat.le_of_ble_eq_true rfl) rfl ?_
        obtain rfl := gs_i1 e8
        exact gs_sub [1, 2, 0] rfl (j9)
      · replace e8 := gs_ift c10 e8
        refine gs_aload_n (pc := 65) C 1 dX12_readClause_65 rfl rfl ?_
        refine gs_iconst (w := 1) (pc := 66) C dX12_readClause_66 rfl ?_
        obtain ⟨M16, e15, e8⟩ := gs_o1 e8
        refine gs_putz' (pc := 67) C dX12_readClause_67 gk_12 fp_X12_246 sh_147 rfl (by decide) e15 ?_
        refine gs_aload_n (pc := 70) C 1 dX12_readClause_70 rfl rfl ?_
        refine gs_iload_n (pc := 71) C 2 dX12_readClause_71 rfl rfl ?_
        refine gs_aload_n (pc := 72) C 1 dX12_readClause_72 rfl rfl ?_
        refine gs_getq (pc := 73) C dX12_readClause_73 gk_12 fl_X12_40 sh_147 rfl ?_
        refine gs_iconst (w := 0) (pc := 76) C dX12_readClause_76 rfl ?_
        refine gs_ldcS (pc := 77) C (q := 1000) (tx := "hkc") dX12_readClause_77 (by decide) ?_
        obtain ⟨M17, e18, e8⟩ := gs_o1 e8
        refine gs_callVv (pc := 79) C [.int v1, .ref 153, .int (0 : Int32), .ref 1000] dX12_readClause_79 ml_X12_254 wy_X12_readItems (a_X12_readItems_2 _ e18) (by decide) sh_147 (by decide) rfl rfl (Nat.le_of_ble_eq_true rfl) rfl ?_
        refine gs_goto (pc := 82) C 115 dX12_readClause_82 rfl ?_
        obtain rfl := gs_i1 e8
        exact gs_sub [1, 2, 0] rfl (j9)
    · replace h := gs_ift c4 h
      refine gs_aload_n (pc := 43) C 1 dX12_readClause_43 rfl rfl ?_
      obtain ⟨v19, M20, e21, h⟩ := gs_o2 h
      refine gs_callVi (pc := 44) C [] dX12_readClause_44 ml_X12_138 wy_X12_fails (a_X12_fails _ e21) (by decide) sh_147 (by decide) rfl rfl (Nat.le_of_ble_eq_true rfl) rfl ?_
      refine gs_pop (pc := 47) C dX12_readClause_47 rfl ?_
      obtain rfl := gs_i1 h
      exact gs_vret (pc := 48) C dX12_readClause_48 E
  refine gs_icmp_ne (pc := 8) C 18 dX12_readClause_8 rfl (fun c23 => ?_) (fun c23 => ?_)
  · refine gs_iload_n (pc := 18) C 0 dX12_readClause_18 rfl rfl ?_
    refine gs_bipush (w := 112) (pc := 19) C dX12_readClause_19 rfl ?_
    refine gs_icmp_ne (pc := 21) C 37 dX12_readClause_21 rfl (fun c24 => ?_) (fun c24 => ?_)
    · refine gs_iconst (w := 0) (pc := 37) C dX12_readClause_37 rfl ?_
      simp only [if_neg c23, if_neg c24] at j22
      exact gs_sub [1, 0] rfl (j22)
    · refine gs_aload_n (pc := 24) C 1 dX12_readClause_24 rfl rfl ?_
      refine gs_geti (pc := 25) C dX12_readClause_25 gk_12 fl_X12_249 sh_147 rfl ?_
      refine gs_bipush (w := 8) (pc := 28) C dX12_readClause_28 rfl ?_
      refine gs_icmp_ge (pc := 30) C 37 dX12_readClause_30 rfl (fun c25 => ?_) (fun c25 => ?_)
      · refine gs_iconst (w := 0) (pc := 37) C dX12_readClause_37 rfl ?_
        simp only [if_neg c23, if_pos c24, if_pos c25] at j22
        exact gs_sub [1, 0] rfl (j22)
      · refine gs_iconst (w := 1) (pc := 33) C dX12_readClause_33 rfl ?_
        refine gs_goto (pc := 34) C 38 dX12_readClause_34 rfl ?_
        simp only [if_neg c23, if_pos c24, if_neg c25] at j22
        exact gs_sub [1, 0] rfl (j22)
  · refine gs_aload_n (pc := 11) C 1 dX12_readClause_11 rfl rfl ?_
    refine gs_geti (pc := 12) C dX12_readClause_12 gk_12 fl_X12_246 sh_147 rfl ?_
    refine gs_if_eq (pc := 15) C 33 dX12_readClause_15 rfl (fun c26 => ?_) (fun c26 => ?_)
    · refine gs_iconst (w := 1) (pc := 33) C dX12_readClause_33 rfl ?_
      refine gs_goto (pc := 34) C 38 dX12_readClause_34 rfl ?_
      simp only [if_pos c23, if_pos c26] at j22
      exact gs_sub [1, 0] rfl (j22)
    · refine gs_iload_n (pc := 18) C 0 dX12_readClause_18 rfl rfl ?_
      refine gs_bipush (w := 112) (pc := 19) C dX12_readClause_19 rfl ?_
      refine gs_icmp_ne (pc := 21) C 37 dX12_readClause_21 rfl (fun c27 => ?_) (fun c27 => ?_)
      · refine gs_iconst (w := 0) (pc := 37) C dX12_readClause_37 rfl ?_
        simp only [if_pos c23, if_neg c26, if_neg c27] at j22
        exact gs_sub [1, 0] rfl (j22)
      · refine gs_aload_n (pc := 24) C 1 dX12_readClause_24 rfl rfl ?_
        refine gs_geti (pc := 25) C dX12_readClause_25 gk_12 fl_X12_249 sh_147 rfl ?_
        refine gs_bipush (w := 8) (pc := 28) C dX12_readClause_28 rfl ?_
        refine gs_icmp_ge (pc := 30) C 37 dX12_readClause_30 rfl (fun c28 => ?_) (fun c28 => ?_)
        · refine gs_iconst (w := 0) (pc := 37) C dX12_readClause_37 rfl ?_
          simp only [if_pos c23, if_neg c26, if_pos c27, if_pos c28] at j22
          exact gs_sub [1, 0] rfl (j22)
        · refine gs_iconst (w := 1) (pc := 33) C dX12_readClause_33 rfl ?_
          refine gs_goto (pc := 34) C 38 dX12_readClause_34 rfl ?_
          simp only [if_pos c23, if_neg c26, if_pos c27, if_neg c28] at j22
          exact gs_sub [1, 0] rfl (j22)
set_option maxRecDepth 100000 in
set_option maxHeartbeats 4000000 in
theorem t_X12_isWhole_2 {X : gs_X} (C : gs_C X RX12 cX12_isWhole 3 (some .boolean) 0) {M : gs_M} {L : gs_L} {rv : Int32} (E : gs_E X (some (.int rv)) M L) : ∀ (f : Nat) (x1 : Int32), l_X12_isWhole_2 M f x1 = some (rv) → gs_AW X 2 [(0, .ref 147), (1, .int x1)] [] M L := by
  intro f
  induction f with
  | zero =>
    intro x1 h
    cases h
  | succ f ih =>
    intro x1 h
    rw [l_X12_isWhole_2] at h
    refine gs_iload_n (pc := 2) C 1 dX12_isWhole_2 rfl rfl ?_
    refine gs_aload_n (pc := 3) C 0 dX12_isWhole_3 rfl rfl ?_
    refine gs_geti (pc := 4) C dX12_isWhole_4 gk_12 fl_X12_249 sh_147 rfl ?_
    refine gs_icmp_ge (pc := 7) C 62 dX12_isWhole_7 rfl (fun c1 => ?_) (fun c1 => ?_)
    · replace h := gs_ift c1 h
      refine gs_aload_n (pc := 62) C 0 dX12_isWhole_62 rfl rfl ?_
      refine gs_geti (pc := 63) C dX12_isWhole_63 gk_12 fl_X12_249 sh_147 rfl ?_
      have j2 : gs_AW X 74 [(0, .ref 147), (1, .int x1)] [.int (if (M 147 25) ≤ (0 : Int32) then (0 : Int32) else (1 : Int32) : Int32)] M L := by
        obtain ⟨z1, e2, h⟩ := gs_o1 h
        obtain rfl := gs_i1 h
        exact gs_zret' (pc := 74) C dX12_isWhole_74 e2 E
      refine gs_if_le (pc := 66) C 73 dX12_isWhole_66 rfl (fun c3 => ?_) (fun c3 => ?_)
      · refine gs_iconst (w := 0) (pc := 73) C dX12_isWhole_73 rfl ?_
        simp only [if_pos c3] at j2
        exact j2
      · refine gs_iconst (w := 1) (pc := 69) C dX12_isWhole_69 rfl ?_
        refine gs_goto (pc := 70) C 74 dX12_isWhole_70 rfl ?_
        simp only [if_neg c3] at j2
        exact j2
    · replace h := gs_iff c1 h
      refine gs_aload_n (pc := 10) C 0 dX12_isWhole_10 rfl rfl ?_
      refine gs_getq (pc := 11) C dX12_isWhole_11 gk_12 fl_X12_46 sh_147 rfl ?_
      refine gs_iconst (w := 5) (pc := 14) C dX12_isWhole_14 rfl ?_
      refine gs_iload_n (pc := 15) C 1 dX12_isWhole_15 rfl rfl ?_
      refine gs_imul (pc := 16) C dX12_isWhole_16 ?_
      refine gs_iconst (w := 4) (pc := 17) C dX12_isWhole_17 rfl ?_
      refine gs_iadd (pc := 18) C dX12_isWhole_18 ?_
      obtain ⟨v4, e5, h⟩ := gs_o1 h
      refine gs_iald (pc := 19) C dX12_isWhole_19 sh_155 e5 ?_
      refine gs_istore_n (ls' := [(2, .int v4), (0, .ref 147), (1, .int x1)]) (pc := 20) C dX12_isWhole_20 rfl (by decide) rfl ?_
      refine gs_iload_n (pc := 21) C 0 dX12_isWhole_21 rfl rfl ?_
      refine gs_bipush (w := 8) (pc := 22) C dX12_isWhole_22 rfl ?_
      refine gs_icmp_eq (pc := 24) C 56 dX12_isWhole_24 rfl (fun c6 => ?_) (fun c6 => ?_)
      · replace h := gs_ift c6 h
        refine gs_iinc (v := x1 + (1 : Int32)) (ls' := [(1, .int (x1 + (1 : Int32))), (2, .int v4), (0, .ref 147)]) (pc := 56) C 2 dX12_isWhole_56 rfl rfl (by decide) rfl ?_
        refine gs_goto (pc := 59) C 2 dX12_isWhole_59 rfl ?_
        exact gs_sub [2, 0] rfl (ih _ h)
      · replace h := gs_iff c6 h
        refine gs_iload_n (pc := 27) C 0 dX12_isWhole_27 rfl rfl ?_
        refine gs_aload_n (pc := 28) C 1 dX12_isWhole_28 rfl rfl ?_
        refine gs_geti (pc := 29) C dX12_isWhole_29 gk_12 fl_X12_249 sh_147 rfl ?_
        refine gs_icmp_ge (pc := 32) C 54 dX12_isWhole_32 rfl (fun c7 => ?_) (fun c7 => ?_)
        · replace h := gs_ift c7 h
          refine gs_iconst (w := 0) (pc := 54) C dX12_isWhole_54 rfl ?_
          obtain rfl := gs_i1 h
          exact gs_zret (pc := 55) C (by decide) dX12_isWhole_55 E
        · replace h := gs_iff c7 h
          refine gs_iload_n (pc := 35) C 0 dX12_isWhole_35 rfl rfl ?_
          refine gs_iload_n (pc := 36) C 2 dX12_isWhole_36 rfl rfl ?_
          refine gs_icmp_eq (pc := 37) C 54 dX12_isWhole_37 rfl (fun c8 => ?_) (fun c8 => ?_)
          · replace h := gs_ift c8 h
            refine gs_iconst (w := 0) (pc := 54) C dX12_isWhole_54 rfl ?_
            obtain rfl := gs_i1 h
            exact gs_zret (pc := 55) C (by decide) dX12_isWhole_55 E
          · replace h := gs_iff c8 h
            refine gs_aload_n (pc := 40) C 1 dX12_isWhole_40 rfl rfl ?_
            refine gs_getq (pc := 41) C dX12_isWhole_41 gk_12 fl_X12_46 sh_147 rfl ?_
            refine gs_iconst (w := 5) (pc := 44) C dX12_isWhole_44 rfl ?_
            refine gs_iload_n (pc := 45) C 0 dX12_isWhole_45 rfl rfl ?_
            refine gs_imul (pc := 46) C dX12_isWhole_46 ?_
            refine gs_iconst (w := 4) (pc := 47) C dX12_isWhole_47 rfl ?_
            refine gs_iadd (pc := 48) C dX12_isWhole_48 ?_
            obtain ⟨v9, e10, h⟩ := gs_o1 h
            refine gs_iald (pc := 49) C dX12_isWhole_49 sh_155 e10 ?_
            refine gs_iload_n (pc := 50) C 2 dX12_isWhole_50 rfl rfl ?_
            refine gs_icmp_eq (pc := 51) C 56 dX12_isWhole_51 rfl (fun c11 => ?_) (fun c11 => ?_)
            · replace h := gs_ift c11 h
              refine gs_iinc (v := x1 + (1 : Int32)) (ls' := [(1, .int (x1 + (1 : Int32))), (2, .int v4), (0, .ref 147)]) (pc := 56) C 2 dX12_isWhole_56 rfl rfl (by decide) rfl ?_
              refine gs_goto (pc := 59) C 2 dX12_isWhole_59 rfl ?_
              exact gs_sub [2, 0] rfl (ih _ h)
            · replace h := gs_iff c11 h
              refine gs_iconst (w := 0) (pc := 54) C dX12_isWhole_54 rfl ?_
              obtain rfl := gs_i1 h
              exact gs_zret (pc := 55) C (by decide) dX12_isWhole_55 E
set_option maxRecDepth 100000 in
set_option maxHeartbeats 4000000 in
theorem a_X12_isWhole (l : Launch) {M : gs_M} {L : gs_L} {rv : Int32} (h : f_X12_isWhole M = some (rv)) : gs_Met l 0 yX12_isWhole cX12_isWhole 3 (some .boolean) [.ref 147] M L (some (.int rv)) M L := by
  unfold f_X12_isWhole at h
  refine gs_of RX12 (by decide) rfl (Nat.le_of_ble_eq_true rfl) (fun X C E => ?_)
  show gs_AW X 0 [(0, .ref 147)] [] M L
  refine gs_iconst (w := 0) (pc := 0) C dX12_isWhole_0 rfl ?_
  refine gs_istore_n (ls' := [(1, .int (0 : Int32)), (0, .ref 147)]) (pc := 1) C dX12_isWhole_1 rfl (by decide) rfl ?_
  exact gs_sub [1, 0] rfl (t_X12_isWhole_2 C E gs_FU _ h)
set_option maxRecDepth 100000 in
set_option maxHeartbeats 4000000 in
theorem t_X12_readTown_25 {X : gs_X} (C : gs_C X RX12 cX12_readTown 2 none 12) {L : gs_L} {o1 : Int32} {M' : gs_M} (k : gs_AW X 48 [(0, .ref 147), (1, .int o1)] [] M' L) : ∀ (f : Nat) (x1 : Int32) (M : gs_M), l_X12_readTown_25  f x1 M = some (o1, M') → gs_AW X 25 [(0, .ref 147), (1, .int x1)] [] M L := by
  intro f
  induction f with
  | zero =>
    intro x1 M h
    cases h
  | succ f ih =>
    intro x1 M h
    rw [l_X12_readTown_25] at h
    refine gs_iload_n (pc := 25) C 1 dX12_readTown_25 rfl rfl ?_
    refine gs_iconst (w := 3) (pc := 26) C dX12_readTown_26 rfl ?_
    refine gs_icmp_ge (pc := 27) C 48 dX12_readTown_27 rfl (fun c1 => ?_) (fun c1 => ?_)
    · replace h := gs_ift c1 h
      obtain ⟨rfl, rfl⟩ := gs_i2 h
      exact k
    · replace h := gs_iff c1 h
      refine gs_aload_n (pc := 30) C 0 dX12_readTown_30 rfl rfl ?_
      refine gs_getq (pc := 31) C dX12_readTown_31 gk_12 fl_X12_40 sh_147 rfl ?_
      refine gs_iload_n (pc := 34) C 1 dX12_readTown_34 rfl rfl ?_
      refine gs_bipush (w := 115) (pc := 35) C dX12_readTown_35 rfl ?_
      refine gs_iload_n (pc := 37) C 1 dX12_readTown_37 rfl rfl ?_
      obtain ⟨v2, e3, h⟩ := gs_o1 h
      refine gs_callSi (pc := 38) C [.int (115 : Int32), .int x1] dX12_readTown_38 ml_X12_225 wy_X12_usual (a_X12_usual _ e3) (by decide) rfl (Nat.le_of_ble_eq_true rfl) rfl ?_
      obtain ⟨M5, e4, h⟩ := gs_o1 h
      refine gs_iast (pc := 41) C dX12_readTown_41 sh_153 e4 ?_
      refine gs_iinc (v := x1 + (1 : Int32)) (ls' := [(1, .int (x1 + (1 : Int32))), (0, .ref 147)]) (pc := 42) C 1 dX12_readTown_42 rfl rfl (by decide) rfl ?_
      refine gs_goto (pc := 45) C 25 dX12_readTown_45 rfl ?_
      exact gs_sub [1, 0] rfl (ih _ _ h)
set_option maxRecDepth 100000 in
set_option maxHeartbeats 4000000 in
theorem t_X12_readTown_50 {X : gs_X} (C : gs_C X RX12 cX12_readTown 2 none 12) {L : gs_L} {o1 : Int32} {M' : gs_M} (k : gs_AW X 106 [(0, .ref 147), (1, .int o1)] [] M' L) : ∀ (f : Nat) (x1 : Int32) (M : gs_M), l_X12_readTown_50  f x1 M = some (o1, M') → gs_AW X 50 [(0, .ref 147), (1, .int x1)] [] M L := by
  intro f
  induction f with
  | zero =>
    intro x1 M h
    cases h
  | succ f ih =>
    intro x1 M h
    rw [l_X12_readTown_50] at h
    refine gs_iload_n (pc := 50) C 1 dX12_readTown_50 rfl rfl ?_
    refine gs_if_eq (pc := 51) C 106 dX12_readTown_51 rfl (fun c1 => ?_) (fun c1 => ?_)
    · replace h := gs_ift c1 h
      obtain ⟨rfl, rfl⟩ := gs_i2 h
      exact k
    · replace h := gs_iff c1 h
      refine gs_aload_n (pc := 54) C 0 dX12_readTown_54 rfl rfl ?_
      refine gs_geti (pc := 55) C dX12_readTown_55 gk_12 fl_X12_132 sh_147 rfl ?_
      refine gs_iconst (w := (-1)) (pc := 58) C dX12_readTown_58 rfl ?_
      refine gs_icmp_ne (pc := 59) C 106 dX12_readTown_59 rfl (fun c2 => ?_) (fun c2 => ?_)
      · replace h := gs_iff c2 h
        obtain ⟨rfl, rfl⟩ := gs_i2 h
        exact k
      · replace h := gs_ift c2 h
        refine gs_aload_n (pc := 62) C 0 dX12_readTown_62 rfl rfl ?_
        obtain ⟨M3, e4, h⟩ := gs_o1 h
        refine gs_callVv (pc := 63) C [] dX12_readTown_63 ml_X12_260 wy_X12_readClause (a_X12_readClause _ e4) (by decide) sh_147 (by decide) rfl rfl (Nat.le_of_ble_eq_true rfl) rfl ?_
        refine gs_aload_n (pc := 66) C 0 dX12_readTown_66 rfl rfl ?_
        refine gs_geti (pc := 67) C dX12_readTown_67 gk_12 fl_X12_132 sh_147 rfl ?_
        refine gs_iconst (w := (-1)) (pc := 70) C dX12_readTown_70 rfl ?_
        obtain ⟨y5, M6, e7, h⟩ := gs_o2 h
        have j8 : gs_AW X 88 [(0, .ref 147), (1, .int x1)] [.int y5] M6 L := by
          refine gs_istore_n (ls' := [(1, .int y5), (0, .ref 147)]) (pc := 88) C dX12_readTown_88 rfl (by decide) rfl ?_
          refine gs_iload_n (pc := 89) C 0 dX12_readTown_89 rfl rfl ?_
          refine gs_if_eq (pc := 90) C 50 dX12_readTown_90 rfl (fun c14 => ?_) (fun c14 => ?_)
          · replace h := gs_ift c14 h
            exact gs_sub [1, 0] rfl (ih _ _ h)
          · replace h := gs_iff c14 h
            refine gs_aload_n (pc := 93) C 1 dX12_readTown_93 rfl rfl ?_
            refine gs_dup (pc := 94) C dX12_readTown_94 rfl ?_
            refine gs_geti (pc := 95) C dX12_readTown_95 gk_12 fl_X12_123 sh_147 rfl ?_
            refine gs_iconst (w := 1) (pc := 98) C dX12_readTown_98 rfl ?_
            refine gs_iadd (pc := 99) C dX12_readTown_99 ?_
            obtain ⟨M16, e15, h⟩ := gs_o1 h
            refine gs_puti' (pc := 100) C dX12_readTown_100 gk_12 fp_X12_123 sh_147 rfl e15 ?_
            refine gs_goto (pc := 103) C 50 dX12_readTown_103 rfl ?_
            exact gs_sub [1, 0] rfl (ih _ _ h)
        refine gs_icmp_ne (pc := 71) C 87 dX12_readTown_71 rfl (fun c9 => ?_) (fun c9 => ?_)
        · replace e7 := gs_iff c9 e7
          refine gs_iconst (w := 0) (pc := 87) C dX12_readTown_87 rfl ?_
          obtain ⟨rfl, rfl⟩ := gs_i2 e7
          exact j8
        · replace e7 := gs_ift c9 e7
          refine gs_aload_n (pc := 74) C 0 dX12_readTown_74 rfl rfl ?_
          obtain ⟨v10, M11, e12, e7⟩ := gs_o2 e7
          refine gs_callVi (pc := 75) C [] dX12_readTown_75 ml_X12_142 wy_X12_look (a_X12_look _ e12) (by decide) sh_147 (by decide) rfl rfl (Nat.le_of_ble_eq_true rfl) rfl ?_
          refine gs_bipush (w := 59) (pc := 78) C dX12_readTown_78 rfl ?_
          refine gs_icmp_ne (pc := 80) C 87 dX12_readTown_80 rfl (fun c13 => ?_) (fun c13 => ?_)
          · replace e7 := gs_iff c13 e7
            refine gs_iconst (w := 0) (pc := 87) C dX12_readTown_87 rfl ?_
            obtain ⟨rfl, rfl⟩ := gs_i2 e7
            exact j8
          · replace e7 := gs_ift c13 e7
            refine gs_iconst (w := 1) (pc := 83) C dX12_readTown_83 rfl ?_
            refine gs_goto (pc := 84) C 88 dX12_readTown_84 rfl ?_
            obtain ⟨rfl, rfl⟩ := gs_i2 e7
            exact j8
set_option maxRecDepth 100000 in
set_option maxHeartbeats 4000000 in
theorem a_X12_readTown (l : Launch) {M : gs_M} {L : gs_L} {Mz : gs_M} (h : f_X12_readTown M = some (Mz)) : gs_Met l 12 yX12_readTown cX12_readTown 2 none [.ref 147] M L none Mz L := by
  unfold f_X12_readTown at h
  refine gs_of RX12 (by decide) rfl (Nat.le_of_ble_eq_true rfl) (fun X C E => ?_)
  show gs_AW X 0 [(0, .ref 147)] [] M L
  refine gs_aload_n (pc := 0) C 0 dX12_readTown_0 rfl rfl ?_
  refine gs_aload_n (pc := 1) C 0 dX12_readTown_1 rfl rfl ?_
  refine gs_getq (pc := 2) C dX12_readTown_2 gk_12 fl_X12_9 sh_147 rfl ?_
  refine gs_iconst (w := 0) (pc := 5) C dX12_readTown_5 rfl ?_
  refine gs_aload_n (pc := 6) C 0 dX12_readTown_6 rfl rfl ?_
  refine gs_geti (pc := 7) C dX12_readTown_7 gk_12 fl_X12_113 sh_147 rfl ?_
  obtain ⟨M1, e2, h⟩ := gs_o1 h
  refine gs_callVv (pc := 10) C [.ref 148, .int (0 : Int32), .int (M 147 6)] dX12_readTown_10 ml_X12_211 wy_X12_starts (a_X12_starts_2 _ e2) (by decide) sh_147 (by decide) rfl rfl (Nat.le_of_ble_eq_true rfl) rfl ?_
  refine gs_aload_n (pc := 13) C 0 dX12_readTown_13 rfl rfl ?_
  refine gs_iconst (w := 0) (pc := 14) C dX12_readTown_14 rfl ?_
  obtain ⟨M4, e3, h⟩ := gs_o1 h
  refine gs_puti' (pc := 15) C dX12_readTown_15 gk_12 fp_X12_249 sh_147 rfl e3 ?_
  refine gs_aload_n (pc := 18) C 0 dX12_readTown_18 rfl rfl ?_
  refine gs_iconst (w := 0) (pc := 19) C dX12_readTown_19 rfl ?_
  obtain ⟨M6, e5, h⟩ := gs_o1 h
  refine gs_putz' (pc := 20) C dX12_readTown_20 gk_12 fp_X12_246 sh_147 rfl (by decide) e5 ?_
  refine gs_iconst (w := 0) (pc := 23) C dX12_readTown_23 rfl ?_
  refine gs_istore_n (ls' := [(1, .int (0 : Int32)), (0, .ref 147)]) (pc := 24) C dX12_readTown_24 rfl (by decide) rfl ?_
  obtain ⟨y7, M8, e9, h⟩ := gs_o2 h
  refine gs_sub [1, 0] rfl (t_X12_readTown_25 C ?_ gs_FU _ _ e9)
  refine gs_iconst (w := 1) (pc := 48) C dX12_readTown_48 rfl ?_
  refine gs_istore_n (ls' := [(1, .int (1 : Int32)), (0, .ref 147)]) (pc := 49) C dX12_readTown_49 rfl (by decide) rfl ?_
  obtain ⟨y10, M11, e12, h⟩ := gs_o2 h
  refine gs_sub [1, 0] rfl (t_X12_readTown_50 C ?_ gs_FU _ _ e12)
  refine gs_aload_n (pc := 106) C 0 dX12_readTown_106 rfl rfl ?_
  refine gs_geti (pc := 107) C dX12_readTown_107 gk_12 fl_X12_132 sh_147 rfl ?_
  refine gs_iconst (w := (-1)) (pc := 110) C dX12_readTown_110 rfl ?_
  obtain ⟨M13, e14, h⟩ := gs_o1 h
  have j15 : gs_AW X 134 [(0, .ref 147), (1, .int y10)] [] M13 L := by
    obtain rfl := gs_i1 h
    exact gs_vret (pc := 134) C dX12_readTown_134 E
  refine gs_icmp_ne (pc := 111) C 134 dX12_readTown_111 rfl (fun c16 => ?_) (fun c16 => ?_)
  · replace e14 := gs_iff c16 e14
    obtain rfl := gs_i1 e14
    exact j15
  · replace e14 := gs_ift c16 e14
    refine gs_aload_n (pc := 114) C 0 dX12_readTown_114 rfl rfl ?_
    obtain ⟨v17, M18, e19, e14⟩ := gs_o2 e14
    refine gs_callVi (pc := 115) C [] dX12_readTown_115 ml_X12_142 wy_X12_look (a_X12_look _ e19) (by decide) sh_147 (by decide) rfl rfl (Nat.le_of_ble_eq_true rfl) rfl ?_
    refine gs_iconst (w := (-1)) (pc := 118) C dX12_readTown_118 rfl ?_
    refine gs_icmp_ne (pc := 119) C 129 dX12_readTown_119 rfl (fun c20 => ?_) (fun c20 => ?_)
    · replace e14 := gs_iff c20 e14
      refine gs_aload_n (pc := 129) C 0 dX12_readTown_129 rfl rfl ?_
      obtain ⟨v21, M22, e23, e14⟩ := gs_o2 e14
      refine gs_callVi (pc := 130) C [] dX12_readTown_130 ml_X12_138 wy_X12_fails (a_X12_fails _ e23) (by decide) sh_147 (by decide) rfl rfl (Nat.le_of_ble_eq_true rfl) rfl ?_
      refine gs_pop (pc := 133) C dX12_readTown_133 rfl ?_
      obtain rfl := gs_i1 e14
      exact j15
    · replace e14 := gs_ift c20 e14
      refine gs_aload_n (pc := 122) C 0 dX12_readTown_122 rfl rfl ?_
      obtain ⟨v24, e25, e14⟩ := gs_o1 e14
      refine gs_callVi (pc := 123) C [] dX12_readTown_123 ml_X12_263 wy_X12_isWhole (a_X12_isWhole _ e25) (by decide) sh_147 (by decide) rfl rfl (Nat.le_of_ble_eq_true rfl) rfl ?_
      refine gs_if_ne (pc := 126) C 134 dX12_readTown_126 rfl (fun c26 => ?_) (fun c26 => ?_)
      · replace e14 := gs_iff c26 e14
        obtain rfl := gs_i1 e14
        exact j15
      · replace e14 := gs_ift c26 e14
        refine gs_aload_n (pc := 129) C 0 dX12_readTown_129 rfl rfl ?_
        obtain ⟨v27, M28, e29, e14⟩ := gs_o2 e14
        refine gs_callVi (pc := 130) C [] dX12_readTown_130 ml_X12_138 wy_X12_fails (a_X12_fails _ e29) (by decide) sh_147 (by decide) rfl rfl (Nat.le_of_ble_eq_true rfl) rfl ?_
        refine gs_pop (pc := 133) C dX12_readTown_133 rfl ?_
        obtain rfl := gs_i1 e14
        exact j15
