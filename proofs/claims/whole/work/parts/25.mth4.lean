set_option maxRecDepth 100000 in
set_option maxHeartbeats 4000000 in
theorem t_X11_firstInLine_4 {X : gs_X} (C : gs_C X RX11 cX11_firstInLine 5 (some .int) 1) {M : gs_M} {L : gs_L} {x1 : Int32} {o2 : Int32} {o3 : Int32} (k : gs_AW X 63 [(0, .ref 0), (1, .int x1), (2, .int o2), (3, .int o3)] [] M L) : ∀ (f : Nat) (x2 : Int32) (x3 : Int32), l_X11_firstInLine_4 M x1 f x2 x3 = some (o2, o3) → gs_AW X 4 [(0, .ref 0), (1, .int x1), (2, .int x2), (3, .int x3)] [] M L := by
  intro f
  induction f with
  | zero =>
    intro x2 x3 h
    cases h
  | succ f ih =>
    intro x2 x3 h
    rw [l_X11_firstInLine_4] at h
    refine gs_iload_n (pc := 4) C 3 dX11_firstInLine_4 rfl rfl ?_
    refine gs_aload_n (pc := 5) C 0 dX11_firstInLine_5 rfl rfl ?_
    refine gs_getq (pc := 6) C dX11_firstInLine_6 gk_11 fl_X11_19 sh_0 rfl ?_
    obtain ⟨v1, e2, h⟩ := gs_o1 h
    refine gs_callVi (pc := 9) C [] dX11_firstInLine_9 ml_X11_158 wy_X9_crowd (a_X9_crowd _ e2) (by decide) sh_3 (by decide) rfl rfl (Nat.le_of_ble_eq_true rfl) rfl ?_
    refine gs_icmp_ge (pc := 12) C 63 dX11_firstInLine_12 rfl (fun c3 => ?_) (fun c3 => ?_)
    · replace h := gs_ift c3 h
      obtain ⟨rfl, rfl⟩ := gs_i2 h
      exact k
    · replace h := gs_iff c3 h
      refine gs_iload_n (pc := 15) C 1 dX11_firstInLine_15 rfl rfl ?_
      refine gs_iload_n (pc := 16) C 3 dX11_firstInLine_16 rfl rfl ?_
      refine gs_ishr (pc := 17) C dX11_firstInLine_17 ?_
      refine gs_iconst (w := 1) (pc := 18) C dX11_firstInLine_18 rfl ?_
      refine gs_iand (pc := 19) C dX11_firstInLine_19 ?_
      have j14 : gs_AW X 28 [(0, .ref 0), (1, .int x1), (2, .int x2), (3, .int x3)] [.int (if ((x1 >>> (x3 &&& 31)) &&& (1 : Int32)) = (0 : Int32) then (1 : Int32) else (0 : Int32) : Int32)] M L := by
        refine gs_istore (ls' := [(4, .int (if ((x1 >>> (x3 &&& 31)) &&& (1 : Int32)) = (0 : Int32) then (1 : Int32) else (0 : Int32) : Int32)), (0, .ref 0), (1, .int x1), (2, .int x2), (3, .int x3)]) (pc := 28) C dX11_firstInLine_28 (by decide) rfl ?_
        refine gs_iload (pc := 30) C 0 dX11_firstInLine_30 rfl ?_
        obtain ⟨y4, e5, h⟩ := gs_o1 h
        have j6 : gs_AW X 57 [(0, .ref 0), (1, .int x1), (2, .int y4), (3, .int x3), (4, .int (if ((x1 >>> (x3 &&& 31)) &&& (1 : Int32)) = (0 : Int32) then (1 : Int32) else (0 : Int32) : Int32))] [] M L := by
          refine gs_iinc (v := x3 + (1 : Int32)) (ls' := [(3, .int (x3 + (1 : Int32))), (0, .ref 0), (1, .int x1), (2, .int y4), (4, .int (if ((x1 >>> (x3 &&& 31)) &&& (1 : Int32)) = (0 : Int32) then (1 : Int32) else (0 : Int32) : Int32))]) (pc := 57) C 3 dX11_firstInLine_57 rfl rfl (by decide) rfl ?_
          refine gs_goto (pc := 60) C 4 dX11_firstInLine_60 rfl ?_
          exact gs_sub [1, 2, 3, 0] rfl (ih _ _ h)
        refine gs_if_eq (pc := 32) C 57 dX11_firstInLine_32 rfl (fun c7 => ?_) (fun c7 => ?_)
        · replace e5 := gs_ift c7 e5
          obtain rfl := gs_i1 e5
          exact gs_sub [1, 2, 3, 4, 0] rfl (j6)
        · replace e5 := gs_iff c7 e5
          refine gs_iload_n (pc := 35) C 3 dX11_firstInLine_35 rfl rfl ?_
          refine gs_iconst (w := (-1)) (pc := 36) C dX11_firstInLine_36 rfl ?_
          refine gs_icmp_eq (pc := 37) C 55 dX11_firstInLine_37 rfl (fun c8 => ?_) (fun c8 => ?_)
          · replace e5 := gs_ift c8 e5
            refine gs_iload_n (pc := 55) C 4 dX11_firstInLine_55 rfl rfl ?_
            refine gs_istore_n (ls' := [(2, .int x3), (4, .int (if ((x1 >>> (x3 &&& 31)) &&& (1 : Int32)) = (0 : Int32) then (1 : Int32) else (0 : Int32) : Int32)), (0, .ref 0), (1, .int x1), (3, .int x3)]) (pc := 56) C dX11_firstInLine_56 rfl (by decide) rfl ?_
            obtain rfl := gs_i1 e5
            exact gs_sub [2, 3, 0, 4, 1] rfl (j6)
          · replace e5 := gs_iff c8 e5
            refine gs_aload_n (pc := 40) C 1 dX11_firstInLine_40 rfl rfl ?_
            refine gs_getq (pc := 41) C dX11_firstInLine_41 gk_11 fl_X11_102 sh_0 rfl ?_
            refine gs_iload_n (pc := 44) C 4 dX11_firstInLine_44 rfl rfl ?_
            obtain ⟨v9, e10, e5⟩ := gs_o1 e5
            refine gs_iald (pc := 45) C dX11_firstInLine_45 sh_146 e10 ?_
            refine gs_aload_n (pc := 46) C 1 dX11_firstInLine_46 rfl rfl ?_
            refine gs_getq (pc := 47) C dX11_firstInLine_47 gk_11 fl_X11_102 sh_0 rfl ?_
            refine gs_iload_n (pc := 50) C 3 dX11_firstInLine_50 rfl rfl ?_
            obtain ⟨v11, e12, e5⟩ := gs_o1 e5
            refine gs_iald (pc := 51) C dX11_firstInLine_51 sh_146 e12 ?_
            refine gs_icmp_le (pc := 52) C 57 dX11_firstInLine_52 rfl (fun c13 => ?_) (fun c13 => ?_)
            · replace e5 := gs_ift c13 e5
              obtain rfl := gs_i1 e5
              exact gs_sub [1, 2, 3, 4, 0] rfl (j6)
            · replace e5 := gs_iff c13 e5
              refine gs_iload_n (pc := 55) C 4 dX11_firstInLine_55 rfl rfl ?_
              refine gs_istore_n (ls' := [(2, .int x3), (4, .int (if ((x1 >>> (x3 &&& 31)) &&& (1 : Int32)) = (0 : Int32) then (1 : Int32) else (0 : Int32) : Int32)), (0, .ref 0), (1, .int x1), (3, .int x3)]) (pc := 56) C dX11_firstInLine_56 rfl (by decide) rfl ?_
              obtain rfl := gs_i1 e5
              exact gs_sub [2, 3, 0, 4, 1] rfl (j6)
      refine gs_if_ne (pc := 20) C 27 dX11_firstInLine_20 rfl (fun c15 => ?_) (fun c15 => ?_)
      · refine gs_iconst (w := 0) (pc := 27) C dX11_firstInLine_27 rfl ?_
        simp only [if_neg c15] at j14
        exact j14
      · refine gs_iconst (w := 1) (pc := 23) C dX11_firstInLine_23 rfl ?_
        refine gs_goto (pc := 24) C 28 dX11_firstInLine_24 rfl ?_
        simp only [if_pos c15] at j14
        exact j14
set_option maxRecDepth 100000 in
set_option maxHeartbeats 4000000 in
theorem a_X11_firstInLine (l : Launch) {M : gs_M} {L : gs_L} {x1 : Int32} {rv : Int32} (h : f_X11_firstInLine M x1 = some (rv)) : gs_Met l 1 yX11_firstInLine cX11_firstInLine 5 (some .int) [.ref 0, .int x1] M L (some (.int rv)) M L := by
  unfold f_X11_firstInLine at h
  refine gs_of RX11 (by decide) rfl (Nat.le_of_ble_eq_true rfl) (fun X C E => ?_)
  show gs_AW X 0 [(0, .ref 0), (1, .int x1)] [] M L
  refine gs_iconst (w := (-1)) (pc := 0) C dX11_firstInLine_0 rfl ?_
  refine gs_istore_n (ls' := [(2, .int (-1 : Int32)), (0, .ref 0), (1, .int x1)]) (pc := 1) C dX11_firstInLine_1 rfl (by decide) rfl ?_
  refine gs_iconst (w := 0) (pc := 2) C dX11_firstInLine_2 rfl ?_
  refine gs_istore_n (ls' := [(3, .int (0 : Int32)), (2, .int (-1 : Int32)), (0, .ref 0), (1, .int x1)]) (pc := 3) C dX11_firstInLine_3 rfl (by decide) rfl ?_
  obtain ⟨y1, y2, e3, h⟩ := gs_o2 h
  refine gs_sub [2, 3, 1, 0] rfl (t_X11_firstInLine_4 C ?_ gs_FU _ _ e3)
  refine gs_iload_n (pc := 63) C 2 dX11_firstInLine_63 rfl rfl ?_
  refine gs_iconst (w := (-1)) (pc := 64) C dX11_firstInLine_64 rfl ?_
  have j4 : gs_AW X 73 [(0, .ref 0), (1, .int x1), (2, .int y1), (3, .int y2)] [.int (if y1 = (-1 : Int32) then (0 : Int32) else y1 : Int32)] M L := by
    obtain rfl := gs_i1 h
    exact gs_iret (pc := 73) C dX11_firstInLine_73 E
  refine gs_icmp_ne (pc := 65) C 72 dX11_firstInLine_65 rfl (fun c5 => ?_) (fun c5 => ?_)
  · refine gs_iload_n (pc := 72) C 2 dX11_firstInLine_72 rfl rfl ?_
    simp only [if_neg c5] at j4
    exact j4
  · refine gs_iconst (w := 0) (pc := 68) C dX11_firstInLine_68 rfl ?_
    refine gs_goto (pc := 69) C 73 dX11_firstInLine_69 rfl ?_
    simp only [if_pos c5] at j4
    exact j4
set_option maxRecDepth 100000 in
set_option maxHeartbeats 4000000 in
theorem t_X11_line_11 {X : gs_X} (C : gs_C X RX11 cX11_line 5 (some .int) 5) {L : gs_L} {o1 : Int32} {M' : gs_M} (k : gs_AW X 49 [(0, .ref 0), (1, .int o1)] [] M' L) : ∀ (f : Nat) (x1 : Int32) (M : gs_M), l_X11_line_11  f x1 M = some (o1, M') → gs_AW X 11 [(0, .ref 0), (1, .int x1)] [] M L := by
  intro f
  induction f with
  | zero =>
    intro x1 M h
    cases h
  | succ f ih =>
    intro x1 M h
    rw [l_X11_line_11] at h
    refine gs_iload_n (pc := 11) C 1 dX11_line_11 rfl rfl ?_
    refine gs_aload_n (pc := 12) C 0 dX11_line_12 rfl rfl ?_
    refine gs_getq (pc := 13) C dX11_line_13 gk_11 fl_X11_19 sh_0 rfl ?_
    obtain ⟨v1, e2, h⟩ := gs_o1 h
    refine gs_callVi (pc := 16) C [] dX11_line_16 ml_X11_158 wy_X9_crowd (a_X9_crowd _ e2) (by decide) sh_3 (by decide) rfl rfl (Nat.le_of_ble_eq_true rfl) rfl ?_
    refine gs_icmp_ge (pc := 19) C 49 dX11_line_19 rfl (fun c3 => ?_) (fun c3 => ?_)
    · replace h := gs_ift c3 h
      obtain ⟨rfl, rfl⟩ := gs_i2 h
      exact k
    · replace h := gs_iff c3 h
      refine gs_aload_n (pc := 22) C 0 dX11_line_22 rfl rfl ?_
      refine gs_getq (pc := 23) C dX11_line_23 gk_11 fl_X11_102 sh_0 rfl ?_
      refine gs_iload_n (pc := 26) C 1 dX11_line_26 rfl rfl ?_
      refine gs_aload_n (pc := 27) C 0 dX11_line_27 rfl rfl ?_
      refine gs_getq (pc := 28) C dX11_line_28 gk_11 fl_X11_71 sh_0 rfl ?_
      refine gs_iload_n (pc := 31) C 1 dX11_line_31 rfl rfl ?_
      refine gs_aload_n (pc := 32) C 0 dX11_line_32 rfl rfl ?_
      refine gs_getq (pc := 33) C dX11_line_33 gk_11 fl_X11_71 sh_0 rfl ?_
      obtain ⟨v4, e5, h⟩ := gs_o1 h
      refine gs_callVi (pc := 36) C [] dX11_line_36 ml_X11_240 wy_X4_holding (a_X4_holding _ e5) (by decide) sh_105 (by decide) rfl rfl (Nat.le_of_ble_eq_true rfl) rfl ?_
      obtain ⟨v6, M7, e8, h⟩ := gs_o2 h
      refine gs_callVi (pc := 39) C [.int x1, .int v4] dX11_line_39 ml_X11_243 wy_X4_caseOf (a_X4_caseOf _ e8) (by decide) sh_105 (by decide) rfl rfl (Nat.le_of_ble_eq_true rfl) rfl ?_
      obtain ⟨M10, e9, h⟩ := gs_o1 h
      refine gs_iast (pc := 42) C dX11_line_42 sh_146 e9 ?_
      refine gs_iinc (v := x1 + (1 : Int32)) (ls' := [(1, .int (x1 + (1 : Int32))), (0, .ref 0)]) (pc := 43) C 1 dX11_line_43 rfl rfl (by decide) rfl ?_
      refine gs_goto (pc := 46) C 11 dX11_line_46 rfl ?_
      exact gs_sub [1, 0] rfl (ih _ _ h)
set_option maxRecDepth 100000 in
set_option maxHeartbeats 4000000 in
theorem t_X11_line_55 {X : gs_X} (C : gs_C X RX11 cX11_line 5 (some .int) 5) {M : gs_M} {L : gs_L} {o1 : Int32} {o2 : Int32} {o3 : Int32} (k : gs_AW X 94 [(0, .ref 0), (1, .int o1), (2, .int o2), (3, .int o3)] [] M L) : ∀ (f : Nat) (x1 : Int32) (x2 : Int32) (x3 : Int32), l_X11_line_55 M f x1 x2 x3 = some (o1, o2, o3) → gs_AW X 55 [(0, .ref 0), (1, .int x1), (2, .int x2), (3, .int x3)] [] M L := by
  intro f
  induction f with
  | zero =>
    intro x1 x2 x3 h
    cases h
  | succ f ih =>
    intro x1 x2 x3 h
    rw [l_X11_line_55] at h
    refine gs_iload_n (pc := 55) C 3 dX11_line_55 rfl rfl ?_
    refine gs_aload_n (pc := 56) C 0 dX11_line_56 rfl rfl ?_
    refine gs_getq (pc := 57) C dX11_line_57 gk_11 fl_X11_19 sh_0 rfl ?_
    obtain ⟨v1, e2, h⟩ := gs_o1 h
    refine gs_callVi (pc := 60) C [] dX11_line_60 ml_X11_158 wy_X9_crowd (a_X9_crowd _ e2) (by decide) sh_3 (by decide) rfl rfl (Nat.le_of_ble_eq_true rfl) rfl ?_
    refine gs_icmp_ge (pc := 63) C 94 dX11_line_63 rfl (fun c3 => ?_) (fun c3 => ?_)
    · replace h := gs_ift c3 h
      obtain ⟨rfl, rfl, rfl⟩ := gs_i3 h
      exact k
    · replace h := gs_iff c3 h
      refine gs_aload_n (pc := 66) C 0 dX11_line_66 rfl rfl ?_
      refine gs_iload_n (pc := 67) C 2 dX11_line_67 rfl rfl ?_
      obtain ⟨v4, e5, h⟩ := gs_o1 h
      refine gs_callVi (pc := 68) C [.int x2] dX11_line_68 ml_X11_396 wy_X11_firstInLine (a_X11_firstInLine _ e5) (by decide) sh_0 (by decide) rfl rfl (Nat.le_of_ble_eq_true rfl) rfl ?_
      refine gs_istore (ls' := [(4, .int v4), (0, .ref 0), (1, .int x1), (2, .int x2), (3, .int x3)]) (pc := 71) C dX11_line_71 (by decide) rfl ?_
      refine gs_iload_n (pc := 73) C 3 dX11_line_73 rfl rfl ?_
      refine gs_iconst (w := 1) (pc := 74) C dX11_line_74 rfl ?_
      refine gs_iload (pc := 75) C 0 dX11_line_75 rfl ?_
      refine gs_ishl (pc := 77) C dX11_line_77 ?_
      refine gs_ior (pc := 78) C dX11_line_78 ?_
      refine gs_istore_n (ls' := [(2, .int (x2 ||| ((1 : Int32) <<< (v4 &&& 31)))), (4, .int v4), (0, .ref 0), (1, .int x1), (3, .int x3)]) (pc := 79) C dX11_line_79 rfl (by decide) rfl ?_
      refine gs_iload_n (pc := 80) C 3 dX11_line_80 rfl rfl ?_
      refine gs_bipush (w := 10) (pc := 81) C dX11_line_81 rfl ?_
      refine gs_imul (pc := 83) C dX11_line_83 ?_
      refine gs_iload (pc := 84) C 1 dX11_line_84 rfl ?_
      refine gs_iadd (pc := 86) C dX11_line_86 ?_
      refine gs_istore_n (ls' := [(1, .int ((x1 * (10 : Int32)) + v4)), (2, .int (x2 ||| ((1 : Int32) <<< (v4 &&& 31)))), (4, .int v4), (0, .ref 0), (3, .int x3)]) (pc := 87) C dX11_line_87 rfl (by decide) rfl ?_
      refine gs_iinc (v := x3 + (1 : Int32)) (ls' := [(3, .int (x3 + (1 : Int32))), (1, .int ((x1 * (10 : Int32)) + v4)), (2, .int (x2 ||| ((1 : Int32) <<< (v4 &&& 31)))), (4, .int v4), (0, .ref 0)]) (pc := 88) C 4 dX11_line_88 rfl rfl (by decide) rfl ?_
      refine gs_goto (pc := 91) C 55 dX11_line_91 rfl ?_
      exact gs_sub [4, 1, 2, 0] rfl (ih _ _ _ h)
set_option maxRecDepth 100000 in
set_option maxHeartbeats 4000000 in
theorem a_X11_line (l : Launch) {M : gs_M} {L : gs_L} {rv : Int32} {Mz : gs_M} (h : f_X11_line M = some (rv, Mz)) : gs_Met l 5 yX11_line cX11_line 5 (some .int) [.ref 0] M L (some (.int rv)) Mz L := by
  unfold f_X11_line at h
  refine gs_of RX11 (by decide) rfl (Nat.le_of_ble_eq_true rfl) (fun X C E => ?_)
  show gs_AW X 0 [(0, .ref 0)] [] M L
  refine gs_aload_n (pc := 0) C 0 dX11_line_0 rfl rfl ?_
  obtain ⟨v1, e2, h⟩ := gs_o1 h
  refine gs_callVi (pc := 1) C [] dX11_line_1 ml_X11_172 wy_X11_hasTown (a_X11_hasTown _ e2) (by decide) sh_0 (by decide) rfl rfl (Nat.le_of_ble_eq_true rfl) rfl ?_
  refine gs_if_ne (pc := 4) C 9 dX11_line_4 rfl (fun c3 => ?_) (fun c3 => ?_)
  · replace h := gs_iff c3 h
    refine gs_iconst (w := 0) (pc := 9) C dX11_line_9 rfl ?_
    refine gs_istore_n (ls' := [(1, .int (0 : Int32)), (0, .ref 0)]) (pc := 10) C dX11_line_10 rfl (by decide) rfl ?_
    obtain ⟨y4, M5, e6, h⟩ := gs_o2 h
    refine gs_sub [1, 0] rfl (t_X11_line_11 C ?_ gs_FU _ _ e6)
    refine gs_iconst (w := 0) (pc := 49) C dX11_line_49 rfl ?_
    refine gs_istore_n (ls' := [(1, .int (0 : Int32)), (0, .ref 0)]) (pc := 50) C dX11_line_50 rfl (by decide) rfl ?_
    refine gs_iconst (w := 0) (pc := 51) C dX11_line_51 rfl ?_
    refine gs_istore_n (ls' := [(2, .int (0 : Int32)), (1, .int (0 : Int32)), (0, .ref 0)]) (pc := 52) C dX11_line_52 rfl (by decide) rfl ?_
    refine gs_iconst (w := 0) (pc := 53) C dX11_line_53 rfl ?_
    refine gs_istore_n (ls' := [(3, .int (0 : Int32)), (2, .int (0 : Int32)), (1, .int (0 : Int32)), (0, .ref 0)]) (pc := 54) C dX11_line_54 rfl (by decide) rfl ?_
    obtain ⟨y7, y8, y9, e10, h⟩ := gs_o3 h
    refine gs_sub [3, 2, 1, 0] rfl (t_X11_line_55 C ?_ gs_FU _ _ _ e10)
    refine gs_iload_n (pc := 94) C 1 dX11_line_94 rfl rfl ?_
    obtain ⟨rfl, rfl⟩ := gs_i2 h
    exact gs_iret (pc := 95) C dX11_line_95 E
  · replace h := gs_ift c3 h
    refine gs_iconst (w := (-1)) (pc := 7) C dX11_line_7 rfl ?_
    obtain ⟨rfl, rfl⟩ := gs_i2 h
    exact gs_iret (pc := 8) C dX11_line_8 E
set_option maxRecDepth 100000 in
set_option maxHeartbeats 4000000 in
theorem a_X6_logAt (l : Launch) {M : gs_M} {L : gs_L} {x1 : Int32} {rv : Int32} (h : f_X6_logAt M x1 = some (rv)) : gs_Met l 1 yX6_logAt cX6_logAt 2 (some .int) [.ref 9, .int x1] M L (some (.int rv)) M L := by
  unfold f_X6_logAt at h
  refine gs_of RX6 (by decide) rfl (Nat.le_of_ble_eq_true rfl) (fun X C E => ?_)
  show gs_AW X 0 [(0, .ref 9), (1, .int x1)] [] M L
  refine gs_aload_n (pc := 0) C 0 dX6_logAt_0 rfl rfl ?_
  refine gs_getq (pc := 1) C dX6_logAt_1 gk_6 fl_X6_11 sh_9 rfl ?_
  refine gs_bipush (w := 113) (pc := 4) C dX6_logAt_4 rfl ?_
  refine gs_aload_n (pc := 6) C 0 dX6_logAt_6 rfl rfl ?_
  obtain ⟨v1, e2, h⟩ := gs_o1 h
  refine gs_callVi (pc := 7) C [] dX6_logAt_7 ml_X6_44 wy_X6_logs (a_X6_logs _ e2) (by decide) sh_9 (by decide) rfl rfl (Nat.le_of_ble_eq_true rfl) rfl ?_
  refine gs_iadd (pc := 10) C dX6_logAt_10 ?_
  refine gs_iconst (w := 1) (pc := 11) C dX6_logAt_11 rfl ?_
  refine gs_isub (pc := 12) C dX6_logAt_12 ?_
  refine gs_iload_n (pc := 13) C 1 dX6_logAt_13 rfl rfl ?_
  refine gs_isub (pc := 14) C dX6_logAt_14 ?_
  obtain ⟨v3, e4, h⟩ := gs_o1 h
  refine gs_iald (pc := 15) C dX6_logAt_15 sh_10 e4 ?_
  obtain rfl := gs_i1 h
  exact gs_iret (pc := 16) C dX6_logAt_16 E
set_option maxRecDepth 100000 in
set_option maxHeartbeats 4000000 in
theorem a_X6_pointsOf (l : Launch) {M : gs_M} {L : gs_L} {x0 : Int32} {rv : Int32} (h : f_X6_pointsOf x0 = some (rv)) : gs_Met l 0 yX6_pointsOf cX6_pointsOf 1 (some .int) [.int x0] M L (some (.int rv)) M L := by
  unfold f_X6_pointsOf at h
  refine gs_of RX6 (by decide) rfl (Nat.le_of_ble_eq_true rfl) (fun X C E => ?_)
  show gs_AW X 0 [(0, .int x0)] [] M L
  refine gs_iload_n (pc := 0) C 0 dX6_pointsOf_0 rfl rfl ?_
  refine gs_iconst (w := 4) (pc := 1) C dX6_pointsOf_1 rfl ?_
  refine gs_ishr (pc := 2) C dX6_pointsOf_2 ?_
  refine gs_sipush (w := 1000) (pc := 3) C dX6_pointsOf_3 rfl ?_
  refine gs_isub (pc := 6) C dX6_pointsOf_6 ?_
  obtain rfl := gs_i1 h
  exact gs_iret (pc := 7) C dX6_pointsOf_7 E
set_option maxRecDepth 100000 in
set_option maxHeartbeats 4000000 in
theorem a_X6_gaoledOf (l : Launch) {M : gs_M} {L : gs_L} {x0 : Int32} {rv : Int32} (h : f_X6_gaoledOf x0 = some (rv)) : gs_Met l 0 yX6_gaoledOf cX6_gaoledOf 1 (some .int) [.int x0] M L (some (.int rv)) M L := by
  unfold f_X6_gaoledOf at h
  refine gs_of RX6 (by decide) rfl (Nat.le_of_ble_eq_true rfl) (fun X C E => ?_)
  show gs_AW X 0 [(0, .int x0)] [] M L
  refine gs_iload_n (pc := 0) C 0 dX6_gaoledOf_0 rfl rfl ?_
  refine gs_iconst (w := 3) (pc := 1) C dX6_gaoledOf_1 rfl ?_
  refine gs_ishr (pc := 2) C dX6_gaoledOf_2 ?_
  refine gs_iconst (w := 1) (pc := 3) C dX6_gaoledOf_3 rfl ?_
  refine gs_iand (pc := 4) C dX6_gaoledOf_4 ?_
  obtain rfl := gs_i1 h
  exact gs_iret (pc := 5) C dX6_gaoledOf_5 E
set_option maxRecDepth 100000 in
set_option maxHeartbeats 4000000 in
theorem a_X6_whoOf (l : Launch) {M : gs_M} {L : gs_L} {x0 : Int32} {rv : Int32} (h : f_X6_whoOf x0 = some (rv)) : gs_Met l 0 yX6_whoOf cX6_whoOf 1 (some .int) [.int x0] M L (some (.int rv)) M L := by
  unfold f_X6_whoOf at h
  refine gs_of RX6 (by decide) rfl (Nat.le_of_ble_eq_true rfl) (fun X C E => ?_)
  show gs_AW X 0 [(0, .int x0)] [] M L
  refine gs_iload_n (pc := 0) C 0 dX6_whoOf_0 rfl rfl ?_
  refine gs_bipush (w := 7) (pc := 1) C dX6_whoOf_1 rfl ?_
  refine gs_iand (pc := 3) C dX6_whoOf_3 ?_
  obtain rfl := gs_i1 h
  exact gs_iret (pc := 4) C dX6_whoOf_4 E
set_option maxRecDepth 100000 in
set_option maxHeartbeats 4000000 in
theorem a_X11_log (l : Launch) {M : gs_M} {L : gs_L} {x1 : Int32} {x2 : Int32} {rv : Int32} (h : f_X11_log M x1 x2 = some (rv)) : gs_Met l 2 yX11_log cX11_log 4 (some .int) [.ref 0, .int x1, .int x2] M L (some (.int rv)) M L := by
  unfold f_X11_log at h
  refine gs_of RX11 (by decide) rfl (Nat.le_of_ble_eq_true rfl) (fun X C E => ?_)
  show gs_AW X 0 [(0, .ref 0), (1, .int x1), (2, .int x2)] [] M L
  refine gs_iload_n (pc := 0) C 1 dX11_log_0 rfl rfl ?_
  refine gs_if_lt (pc := 1) C 24 dX11_log_1 rfl (fun c1 => ?_) (fun c1 => ?_)
  · replace h := gs_ift c1 h
    refine gs_ldc (pc := 24) C dX11_log_24 wk_X11_206 ?_
    obtain rfl := gs_i1 h
    exact gs_iret (pc := 26) C dX11_log_26 E
  · replace h := gs_iff c1 h
    refine gs_iload_n (pc := 4) C 1 dX11_log_4 rfl rfl ?_
    refine gs_aload_n (pc := 5) C 0 dX11_log_5 rfl rfl ?_
    refine gs_getq (pc := 6) C dX11_log_6 gk_11 fl_X11_29 sh_0 rfl ?_
    obtain ⟨v2, e3, h⟩ := gs_o1 h
    refine gs_callVi (pc := 9) C [] dX11_log_9 ml_X11_264 wy_X6_logs (a_X6_logs _ e3) (by decide) sh_9 (by decide) rfl rfl (Nat.le_of_ble_eq_true rfl) rfl ?_
    refine gs_icmp_ge (pc := 12) C 24 dX11_log_12 rfl (fun c4 => ?_) (fun c4 => ?_)
    · replace h := gs_ift c4 h
      refine gs_ldc (pc := 24) C dX11_log_24 wk_X11_206 ?_
      obtain rfl := gs_i1 h
      exact gs_iret (pc := 26) C dX11_log_26 E
    · replace h := gs_iff c4 h
      refine gs_iload_n (pc := 15) C 2 dX11_log_15 rfl rfl ?_
      refine gs_if_lt (pc := 16) C 24 dX11_log_16 rfl (fun c5 => ?_) (fun c5 => ?_)
      · replace h := gs_ift c5 h
        refine gs_ldc (pc := 24) C dX11_log_24 wk_X11_206 ?_
        obtain rfl := gs_i1 h
        exact gs_iret (pc := 26) C dX11_log_26 E
      · replace h := gs_iff c5 h
        refine gs_iload_n (pc := 19) C 2 dX11_log_19 rfl rfl ?_
        refine gs_iconst (w := 2) (pc := 20) C dX11_log_20 rfl ?_
        refine gs_icmp_le (pc := 21) C 27 dX11_log_21 rfl (fun c6 => ?_) (fun c6 => ?_)
        · replace h := gs_ift c6 h
          refine gs_aload_n (pc := 27) C 0 dX11_log_27 rfl rfl ?_
          refine gs_getq (pc := 28) C dX11_log_28 gk_11 fl_X11_29 sh_0 rfl ?_
          refine gs_iload_n (pc := 31) C 1 dX11_log_31 rfl rfl ?_
          obtain ⟨v7, e8, h⟩ := gs_o1 h
          refine gs_callVi (pc := 32) C [.int x1] dX11_log_32 ml_X11_267 wy_X6_logAt (a_X6_logAt _ e8) (by decide) sh_9 (by decide) rfl rfl (Nat.le_of_ble_eq_true rfl) rfl ?_
          refine gs_istore_n (ls' := [(3, .int v7), (0, .ref 0), (1, .int x1), (2, .int x2)]) (pc := 35) C dX11_log_35 rfl (by decide) rfl ?_
          refine gs_iload_n (pc := 36) C 3 dX11_log_36 rfl rfl ?_
          refine gs_if_ne (pc := 37) C 45 dX11_log_37 rfl (fun c9 => ?_) (fun c9 => ?_)
          · replace h := gs_iff c9 h
            refine gs_iload_n (pc := 45) C 3 dX11_log_45 rfl rfl ?_
            refine gs_iconst (w := 1) (pc := 46) C dX11_log_46 rfl ?_
            obtain ⟨y10, e11, h⟩ := gs_o1 h
            have j12 : gs_AW X 61 [(0, .ref 0), (1, .int x1), (2, .int x2), (3, .int v7)] [.int y10] M L := by
              obtain rfl := gs_i1 h
              exact gs_iret (pc := 61) C dX11_log_61 E
            refine gs_icmp_ne (pc := 47) C 57 dX11_log_47 rfl (fun c13 => ?_) (fun c13 => ?_)
            · replace e11 := gs_iff c13 e11
              refine gs_iload_n (pc := 57) C 0 dX11_log_57 rfl rfl ?_
              obtain ⟨v14, e15, e11⟩ := gs_o1 e11
              refine gs_callSi (pc := 58) C [.int v7] dX11_log_58 ml_X11_276 wy_X6_pointsOf (a_X6_pointsOf _ e15) (by decide) rfl (Nat.le_of_ble_eq_true rfl) rfl ?_
              obtain rfl := gs_i1 e11
              exact gs_sub [1, 2, 3, 0] rfl (j12)
            · replace e11 := gs_ift c13 e11
              refine gs_iload_n (pc := 50) C 0 dX11_log_50 rfl rfl ?_
              obtain ⟨v16, e17, e11⟩ := gs_o1 e11
              refine gs_callSi (pc := 51) C [.int v7] dX11_log_51 ml_X11_273 wy_X6_gaoledOf (a_X6_gaoledOf _ e17) (by decide) rfl (Nat.le_of_ble_eq_true rfl) rfl ?_
              refine gs_goto (pc := 54) C 61 dX11_log_54 rfl ?_
              obtain rfl := gs_i1 e11
              exact gs_sub [1, 2, 3, 0] rfl (j12)
          · replace h := gs_ift c9 h
            refine gs_iload_n (pc := 40) C 0 dX11_log_40 rfl rfl ?_
            obtain ⟨v18, e19, h⟩ := gs_o1 h
            refine gs_callSi (pc := 41) C [.int v7] dX11_log_41 ml_X11_270 wy_X6_whoOf (a_X6_whoOf _ e19) (by decide) rfl (Nat.le_of_ble_eq_true rfl) rfl ?_
            obtain rfl := gs_i1 h
            exact gs_iret (pc := 44) C dX11_log_44 E
        · replace h := gs_iff c6 h
          refine gs_ldc (pc := 24) C dX11_log_24 wk_X11_206 ?_
          obtain rfl := gs_i1 h
          exact gs_iret (pc := 26) C dX11_log_26 E
set_option maxRecDepth 100000 in
set_option maxHeartbeats 4000000 in
theorem t_X11_meet_30 {X : gs_X} (C : gs_C X RX11 cX11_meet 6 (some .int) 5) {L : gs_L} {x1 : Int32} {x2 : Int32} {o3 : Int64} {o5 : Int32} {M' : gs_M} (k : gs_AW X 80 [(0, .ref 0), (1, .int x1), (2, .int x2), (3, .long o3), (5, .int o5)] [] M' L) : ∀ (f : Nat) (x3 : Int64) (x5 : Int32) (M : gs_M), l_X11_meet_30 x1 x2 f x3 x5 M = some (o3, o5, M') → gs_AW X 30 [(0, .ref 0), (1, .int x1), (2, .int x2), (3, .long x3), (5, .int x5)] [] M L := by
  intro f
  induction f with
  | zero =>
    intro x3 x5 M h
    cases h
  | succ f ih =>
    intro x3 x5 M h
    rw [l_X11_meet_30] at h
    refine gs_iload (pc := 30) C 4 dX11_meet_30 rfl ?_
    refine gs_aload_n (pc := 32) C 0 dX11_meet_32 rfl rfl ?_
    refine gs_getq (pc := 33) C dX11_meet_33 gk_11 fl_X11_19 sh_0 rfl ?_
    obtain ⟨v1, e2, h⟩ := gs_o1 h
    refine gs_callVi (pc := 36) C [] dX11_meet_36 ml_X11_305 wy_X9_hours (a_X9_hours _ e2) (by decide) sh_3 (by decide) rfl rfl (Nat.le_of_ble_eq_true rfl) rfl ?_
    refine gs_icmp_ge (pc := 39) C 80 dX11_meet_39 rfl (fun c3 => ?_) (fun c3 => ?_)
    · replace h := gs_ift c3 h
      obtain ⟨rfl, rfl, rfl⟩ := gs_i3 h
      exact k
    · replace h := gs_iff c3 h
      refine gs_lload_n (pc := 42) C 3 dX11_meet_42 rfl rfl ?_
      refine gs_lload_n (pc := 43) C 3 dX11_meet_43 rfl rfl ?_
      refine gs_aload_n (pc := 44) C 0 dX11_meet_44 rfl rfl ?_
      refine gs_getq (pc := 45) C dX11_meet_45 gk_11 fl_X11_71 sh_0 rfl ?_
      refine gs_iload_n (pc := 48) C 1 dX11_meet_48 rfl rfl ?_
      refine gs_iload (pc := 49) C 4 dX11_meet_49 rfl ?_
      obtain ⟨v4, M5, e6, h⟩ := gs_o2 h
      refine gs_callVi (pc := 51) C [.int x1, .int x5] dX11_meet_51 ml_X11_213 wy_X4_wakesNow (a_X4_wakesNow _ e6) (by decide) sh_105 (by decide) rfl rfl (Nat.le_of_ble_eq_true rfl) rfl ?_
      refine gs_i2l (pc := 54) C dX11_meet_54 ?_
      refine gs_lmul (pc := 55) C dX11_meet_55 ?_
      refine gs_aload_n (pc := 56) C 0 dX11_meet_56 rfl rfl ?_
      refine gs_getq (pc := 57) C dX11_meet_57 gk_11 fl_X11_71 sh_0 rfl ?_
      refine gs_iload_n (pc := 60) C 2 dX11_meet_60 rfl rfl ?_
      refine gs_iload (pc := 61) C 4 dX11_meet_61 rfl ?_
      obtain ⟨v7, M8, e9, h⟩ := gs_o2 h
      refine gs_callVi (pc := 63) C [.int x2, .int x5] dX11_meet_63 ml_X11_213 wy_X4_wakesNow (a_X4_wakesNow _ e9) (by decide) sh_105 (by decide) rfl rfl (Nat.le_of_ble_eq_true rfl) rfl ?_
      refine gs_i2l (pc := 66) C dX11_meet_66 ?_
      refine gs_lmul (pc := 67) C dX11_meet_67 ?_
      refine gs_ldc2 (pc := 68) C dX11_meet_68 wj_X11_334 ?_
      obtain ⟨v10, e11, h⟩ := gs_o1 h
      refine gs_ldiv' (pc := 71) C dX11_meet_71 e11 ?_
      refine gs_lsub (pc := 72) C dX11_meet_72 ?_
      refine gs_lstore_n (ls' := [(3, .long (x3 - v10)), (0, .ref 0), (1, .int x1), (2, .int x2), (5, .int x5)]) (pc := 73) C dX11_meet_73 rfl (by decide) rfl ?_
      refine gs_iinc (v := x5 + (1 : Int32)) (ls' := [(5, .int (x5 + (1 : Int32))), (3, .long (x3 - v10)), (0, .ref 0), (1, .int x1), (2, .int x2)]) (pc := 74) C 4 dX11_meet_74 rfl rfl (by decide) rfl ?_
      refine gs_goto (pc := 77) C 30 dX11_meet_77 rfl ?_
      exact gs_sub [2, 3, 4, 1, 0] rfl (ih _ _ _ h)
set_option maxRecDepth 100000 in
set_option maxHeartbeats 4000000 in
theorem a_X11_meet (l : Launch) {M : gs_M} {L : gs_L} {x1 : Int32} {x2 : Int32} {rv : Int32} {Mz : gs_M} (h : f_X11_meet M x1 x2 = some (rv, Mz)) : gs_Met l 5 yX11_meet cX11_meet 6 (some .int) [.ref 0, .int x1, .int x2] M L (some (.int rv)) Mz L := by
  unfold f_X11_meet at h
  refine gs_of RX11 (by decide) rfl (Nat.le_of_ble_eq_true rfl) (fun X C E => ?_)
  show gs_AW X 0 [(0, .ref 0), (1, .int x1), (2, .int x2)] [] M L
  refine gs_aload_n (pc := 0) C 0 dX11_meet_0 rfl rfl ?_
  refine gs_iload_n (pc := 1) C 1 dX11_meet_1 rfl rfl ?_
  obtain ⟨v1, e2, h⟩ := gs_o1 h
  refine gs_callVi (pc := 2) C [.int x1] dX11_meet_2 ml_X11_178 wy_X11_isPerson (a_X11_isPerson _ e2) (by decide) sh_0 (by decide) rfl rfl (Nat.le_of_ble_eq_true rfl) rfl ?_
  refine gs_if_eq (pc := 5) C 21 dX11_meet_5 rfl (fun c3 => ?_) (fun c3 => ?_)
  · replace h := gs_ift c3 h
    refine gs_iconst (w := (-1)) (pc := 21) C dX11_meet_21 rfl ?_
    obtain ⟨rfl, rfl⟩ := gs_i2 h
    exact gs_iret (pc := 22) C dX11_meet_22 E
  · replace h := gs_iff c3 h
    refine gs_aload_n (pc := 8) C 0 dX11_meet_8 rfl rfl ?_
    refine gs_iload_n (pc := 9) C 2 dX11_meet_9 rfl rfl ?_
    obtain ⟨v4, e5, h⟩ := gs_o1 h
    refine gs_callVi (pc := 10) C [.int x2] dX11_meet_10 ml_X11_178 wy_X11_isPerson (a_X11_isPerson _ e5) (by decide) sh_0 (by decide) rfl rfl (Nat.le_of_ble_eq_true rfl) rfl ?_
    refine gs_if_eq (pc := 13) C 21 dX11_meet_13 rfl (fun c6 => ?_) (fun c6 => ?_)
    · replace h := gs_ift c6 h
      refine gs_iconst (w := (-1)) (pc := 21) C dX11_meet_21 rfl ?_
      obtain ⟨rfl, rfl⟩ := gs_i2 h
      exact gs_iret (pc := 22) C dX11_meet_22 E
    · replace h := gs_iff c6 h
      refine gs_iload_n (pc := 16) C 1 dX11_meet_16 rfl rfl ?_
      refine gs_iload_n (pc := 17) C 2 dX11_meet_17 rfl rfl ?_
      refine gs_icmp_ne (pc := 18) C 23 dX11_meet_18 rfl (fun c7 => ?_) (fun c7 => ?_)
      · replace h := gs_iff c7 h
        refine gs_ldc2 (pc := 23) C dX11_meet_23 wj_X11_303 ?_
        refine gs_lstore_n (ls' := [(3, .long (1000000000 : Int64)), (0, .ref 0), (1, .int x1), (2, .int x2)]) (pc := 26) C dX11_meet_26 rfl (by decide) rfl ?_
        refine gs_iconst (w := 0) (pc := 27) C dX11_meet_27 rfl ?_
        refine gs_istore (ls' := [(5, .int (0 : Int32)), (3, .long (1000000000 : Int64)), (0, .ref 0), (1, .int x1), (2, .int x2)]) (pc := 28) C dX11_meet_28 (by decide) rfl ?_
        obtain ⟨y8, y9, M10, e11, h⟩ := gs_o3 h
        refine gs_sub [2, 3, 4, 1, 0] rfl (t_X11_meet_30 C ?_ gs_FU _ _ _ e11)
        refine gs_ldc2 (pc := 80) C dX11_meet_80 wj_X11_303 ?_
        refine gs_lload_n (pc := 83) C 3 dX11_meet_83 rfl rfl ?_
        refine gs_lsub (pc := 84) C dX11_meet_84 ?_
        refine gs_l2i (pc := 85) C dX11_meet_85 ?_
        obtain ⟨rfl, rfl⟩ := gs_i2 h
        exact gs_iret (pc := 86) C dX11_meet_86 E
      · replace h := gs_ift c7 h
        refine gs_iconst (w := (-1)) (pc := 21) C dX11_meet_21 rfl ?_
        obtain ⟨rfl, rfl⟩ := gs_i2 h
        exact gs_iret (pc := 22) C dX11_meet_22 E
set_option maxRecDepth 100000 in
set_option maxHeartbeats 4000000 in
theorem t_X11_partsAsleep_7 {X : gs_X} (C : gs_C X RX11 cX11_partsAsleep 5 (some .int) 5) {L : gs_L} {x1 : Int32} {o2 : Int64} {o4 : Int32} {M' : gs_M} (k : gs_AW X 46 [(0, .ref 0), (1, .int x1), (2, .long o2), (4, .int o4)] [] M' L) : ∀ (f : Nat) (x2 : Int64) (x4 : Int32) (M : gs_M), l_X11_partsAsleep_7 x1 f x2 x4 M = some (o2, o4, M') → gs_AW X 7 [(0, .ref 0), (1, .int x1), (2, .long x2), (4, .int x4)] [] M L := by
  intro f
  induction f with
  | zero =>
    intro x2 x4 M h
    cases h
  | succ f ih =>
    intro x2 x4 M h
    rw [l_X11_partsAsleep_7] at h
    refine gs_iload (pc := 7) C 3 dX11_partsAsleep_7 rfl ?_
    refine gs_aload_n (pc := 9) C 0 dX11_partsAsleep_9 rfl rfl ?_
    refine gs_getq (pc := 10) C dX11_partsAsleep_10 gk_11 fl_X11_19 sh_0 rfl ?_
    obtain ⟨v1, e2, h⟩ := gs_o1 h
    refine gs_callVi (pc := 13) C [] dX11_partsAsleep_13 ml_X11_305 wy_X9_hours (a_X9_hours _ e2) (by decide) sh_3 (by decide) rfl rfl (Nat.le_of_ble_eq_true rfl) rfl ?_
    refine gs_icmp_ge (pc := 16) C 46 dX11_partsAsleep_16 rfl (fun c3 => ?_) (fun c3 => ?_)
    · replace h := gs_ift c3 h
      obtain ⟨rfl, rfl, rfl⟩ := gs_i3 h
      exact k
    · replace h := gs_iff c3 h
      refine gs_lload_n (pc := 19) C 2 dX11_partsAsleep_19 rfl rfl ?_
      refine gs_bipush (w := 10) (pc := 20) C dX11_partsAsleep_20 rfl ?_
      refine gs_aload_n (pc := 22) C 0 dX11_partsAsleep_22 rfl rfl ?_
      refine gs_getq (pc := 23) C dX11_partsAsleep_23 gk_11 fl_X11_71 sh_0 rfl ?_
      refine gs_iload_n (pc := 26) C 1 dX11_partsAsleep_26 rfl rfl ?_
      refine gs_iload (pc := 27) C 3 dX11_partsAsleep_27 rfl ?_
      obtain ⟨v4, M5, e6, h⟩ := gs_o2 h
      refine gs_callVi (pc := 29) C [.int x1, .int x4] dX11_partsAsleep_29 ml_X11_213 wy_X4_wakesNow (a_X4_wakesNow _ e6) (by decide) sh_105 (by decide) rfl rfl (Nat.le_of_ble_eq_true rfl) rfl ?_
      refine gs_isub (pc := 32) C dX11_partsAsleep_32 ?_
      refine gs_i2l (pc := 33) C dX11_partsAsleep_33 ?_
      refine gs_lmul (pc := 34) C dX11_partsAsleep_34 ?_
      refine gs_ldc2 (pc := 35) C dX11_partsAsleep_35 wj_X11_308 ?_
      obtain ⟨v7, e8, h⟩ := gs_o1 h
      refine gs_ldiv' (pc := 38) C dX11_partsAsleep_38 e8 ?_
      refine gs_lstore_n (ls' := [(2, .long v7), (0, .ref 0), (1, .int x1), (4, .int x4)]) (pc := 39) C dX11_partsAsleep_39 rfl (by decide) rfl ?_
      refine gs_iinc (v := x4 + (1 : Int32)) (ls' := [(4, .int (x4 + (1 : Int32))), (2, .long v7), (0, .ref 0), (1, .int x1)]) (pc := 40) C 3 dX11_partsAsleep_40 rfl rfl (by decide) rfl ?_
      refine gs_goto (pc := 43) C 7 dX11_partsAsleep_43 rfl ?_
      exact gs_sub [2, 3, 1, 0] rfl (ih _ _ _ h)
set_option maxRecDepth 100000 in
set_option maxHeartbeats 4000000 in
theorem a_X11_partsAsleep (l : Launch) {M : gs_M} {L : gs_L} {x1 : Int32} {rv : Int32} {Mz : gs_M} (h : f_X11_partsAsleep M x1 = some (rv, Mz)) : gs_Met l 5 yX11_partsAsleep cX11_partsAsleep 5 (some .int) [.ref 0, .int x1] M L (some (.int rv)) Mz L := by
  unfold f_X11_partsAsleep at h
  refine gs_of RX11 (by decide) rfl (Nat.le_of_ble_eq_true rfl) (fun X C E => ?_)
  show gs_AW X 0 [(0, .ref 0), (1, .int x1)] [] M L
  refine gs_ldc2 (pc := 0) C dX11_partsAsleep_0 wj_X11_303 ?_
  refine gs_lstore_n (ls' := [(2, .long (1000000000 : Int64)), (0, .ref 0), (1, .int x1)]) (pc := 3) C dX11_partsAsleep_3 rfl (by decide) rfl ?_
  refine gs_iconst (w := 0) (pc := 4) C dX11_partsAsleep_4 rfl ?_
  refine gs_istore (ls' := [(4, .int (0 : Int32)), (2, .long (1000000000 : Int64)), (0, .ref 0), (1, .int x1)]) (pc := 5) C dX11_partsAsleep_5 (by decide) rfl ?_
  obtain ⟨y1, y2, M3, e4, h⟩ := gs_o3 h
  refine gs_sub [2, 3, 1, 0] rfl (t_X11_partsAsleep_7 C ?_ gs_FU _ _ _ e4)
  refine gs_lload_n (pc := 46) C 2 dX11_partsAsleep_46 rfl rfl ?_
  refine gs_l2i (pc := 47) C dX11_partsAsleep_47 ?_
  obtain ⟨rfl, rfl⟩ := gs_i2 h
  exact gs_iret (pc := 48) C dX11_partsAsleep_48 E
set_option maxRecDepth 100000 in
set_option maxHeartbeats 4000000 in
theorem t_X11_most_25 {X : gs_X} (C : gs_C X RX11 cX11_most 6 (some .int) 6) {L : gs_L} {x1 : Int32} {o2 : Int32} {o3 : Int32} {o4 : Int32} {M' : gs_M} (k : gs_AW X 80 [(0, .ref 0), (1, .int x1), (2, .int o2), (3, .int o3), (4, .int o4)] [] M' L) : ∀ (f : Nat) (x2 : Int32) (x3 : Int32) (x4 : Int32) (M : gs_M), l_X11_most_25 x1 f x2 x3 x4 M = some (o2, o3, o4, M') → gs_AW X 25 [(0, .ref 0), (1, .int x1), (2, .int x2), (3, .int x3), (4, .int x4)] [] M L := by
  intro f
  induction f with
  | zero =>
    intro x2 x3 x4 M h
    cases h
  | succ f ih =>
    intro x2 x3 x4 M h
    rw [l_X11_most_25] at h
    refine gs_iload (pc := 25) C 4 dX11_most_25 rfl ?_
    refine gs_aload_n (pc := 27) C 0 dX11_most_27 rfl rfl ?_
    refine gs_getq (pc := 28) C dX11_most_28 gk_11 fl_X11_19 sh_0 rfl ?_
    obtain ⟨v1, e2, h⟩ := gs_o1 h
    refine gs_callVi (pc := 31) C [] dX11_most_31 ml_X11_158 wy_X9_crowd (a_X9_crowd _ e2) (by decide) sh_3 (by decide) rfl rfl (Nat.le_of_ble_eq_true rfl) rfl ?_
    refine gs_icmp_ge (pc := 34) C 80 dX11_most_34 rfl (fun c3 => ?_) (fun c3 => ?_)
    · replace h := gs_ift c3 h
      obtain ⟨rfl, rfl, rfl, rfl⟩ := gs_i4 h
      exact k
    · replace h := gs_iff c3 h
      refine gs_iload_n (pc := 37) C 1 dX11_most_37 rfl rfl ?_
      obtain ⟨y4, M5, e6, h⟩ := gs_o2 h
      have j7 : gs_AW X 60 [(0, .ref 0), (1, .int x1), (2, .int x2), (3, .int x3), (4, .int x4)] [.int y4] M5 L := by
        refine gs_istore (ls' := [(5, .int y4), (0, .ref 0), (1, .int x1), (2, .int x2), (3, .int x3), (4, .int x4)]) (pc := 60) C dX11_most_60 (by decide) rfl ?_
        refine gs_iload (pc := 62) C 0 dX11_most_62 rfl ?_
        refine gs_iload_n (pc := 64) C 4 dX11_most_64 rfl rfl ?_
        have j14 : gs_AW X 74 [(0, .ref 0), (1, .int x1), (2, .int (if y4 ≤ x3 then x2 else x4 : Int32)), (3, .int (if y4 ≤ x3 then x3 else y4 : Int32)), (4, .int x4), (5, .int y4)] [] M5 L := by
          refine gs_iinc (v := x4 + (1 : Int32)) (ls' := [(4, .int (x4 + (1 : Int32))), (0, .ref 0), (1, .int x1), (2, .int (if y4 ≤ x3 then x2 else x4 : Int32)), (3, .int (if y4 ≤ x3 then x3 else y4 : Int32)), (5, .int y4)]) (pc := 74) C 4 dX11_most_74 rfl rfl (by decide) rfl ?_
          refine gs_goto (pc := 77) C 25 dX11_most_77 rfl ?_
          exact gs_sub [1, 2, 3, 4, 0] rfl (ih _ _ _ _ h)
        refine gs_icmp_le (pc := 65) C 74 dX11_most_65 rfl (fun c15 => ?_) (fun c15 => ?_)
        · simp only [if_pos c15] at j14
          exact gs_sub [1, 2, 3, 4, 5, 0] rfl (j14)
        · refine gs_iload (pc := 68) C 0 dX11_most_68 rfl ?_
          refine gs_istore_n (ls' := [(3, .int y4), (5, .int y4), (0, .ref 0), (1, .int x1), (2, .int x2), (4, .int x4)]) (pc := 70) C dX11_most_70 rfl (by decide) rfl ?_
          refine gs_iload (pc := 71) C 5 dX11_most_71 rfl ?_
          refine gs_istore_n (ls' := [(2, .int x4), (3, .int y4), (5, .int y4), (0, .ref 0), (1, .int x1), (4, .int x4)]) (pc := 73) C dX11_most_73 rfl (by decide) rfl ?_
          simp only [if_neg c15] at j14
          exact gs_sub [3, 4, 0, 1, 5, 2] rfl (j14)
      refine gs_if_ne (pc := 38) C 54 dX11_most_38 rfl (fun c8 => ?_) (fun c8 => ?_)
      · replace e6 := gs_iff c8 e6
        refine gs_aload_n (pc := 54) C 0 dX11_most_54 rfl rfl ?_
        refine gs_iload (pc := 55) C 4 dX11_most_55 rfl ?_
        obtain ⟨v9, M10, e11, e6⟩ := gs_o2 e6
        refine gs_callVi (pc := 57) C [.int x4] dX11_most_57 ml_X11_300 wy_X11_partsAsleep (a_X11_partsAsleep _ e11) (by decide) sh_0 (by decide) rfl rfl (Nat.le_of_ble_eq_true rfl) rfl ?_
        obtain ⟨rfl, rfl⟩ := gs_i2 e6
        exact j7
      · replace e6 := gs_ift c8 e6
        refine gs_aload_n (pc := 41) C 0 dX11_most_41 rfl rfl ?_
        refine gs_getq (pc := 42) C dX11_most_42 gk_11 fl_X11_29 sh_0 rfl ?_
        refine gs_iload (pc := 45) C 4 dX11_most_45 rfl ?_
        refine gs_iconst (w := 2) (pc := 47) C dX11_most_47 rfl ?_
        obtain ⟨v12, e13, e6⟩ := gs_o1 e6
        refine gs_callVi (pc := 48) C [.int x4, .int (2 : Int32)] dX11_most_48 ml_X11_188 wy_X6_of (a_X6_of _ e13) (by decide) sh_9 (by decide) rfl rfl (Nat.le_of_ble_eq_true rfl) rfl ?_
        refine gs_goto (pc := 51) C 60 dX11_most_51 rfl ?_
        obtain ⟨rfl, rfl⟩ := gs_i2 e6
        exact j7
set_option maxRecDepth 100000 in
set_option maxHeartbeats 4000000 in
theorem a_X11_most (l : Launch) {M : gs_M} {L : gs_L} {x1 : Int32} {rv : Int32} {Mz : gs_M} (h : f_X11_most M x1 = some (rv, Mz)) : gs_Met l 6 yX11_most cX11_most 6 (some .int) [.ref 0, .int x1] M L (some (.int rv)) Mz L := by
  unfold f_X11_most at h
  refine gs_of RX11 (by decide) rfl (Nat.le_of_ble_eq_true rfl) (fun X C E => ?_)
  show gs_AW X 0 [(0, .ref 0), (1, .int x1)] [] M L
  refine gs_aload_n (pc := 0) C 0 dX11_most_0 rfl rfl ?_
  obtain ⟨v1, e2, h⟩ := gs_o1 h
  refine gs_callVi (pc := 1) C [] dX11_most_1 ml_X11_172 wy_X11_hasTown (a_X11_hasTown _ e2) (by decide) sh_0 (by decide) rfl rfl (Nat.le_of_ble_eq_true rfl) rfl ?_
  refine gs_if_eq (pc := 4) C 16 dX11_most_4 rfl (fun c3 => ?_) (fun c3 => ?_)
  · replace h := gs_ift c3 h
    refine gs_iconst (w := (-1)) (pc := 16) C dX11_most_16 rfl ?_
    obtain ⟨rfl, rfl⟩ := gs_i2 h
    exact gs_iret (pc := 17) C dX11_most_17 E
  · replace h := gs_iff c3 h
    refine gs_iload_n (pc := 7) C 1 dX11_most_7 rfl rfl ?_
    refine gs_if_lt (pc := 8) C 16 dX11_most_8 rfl (fun c4 => ?_) (fun c4 => ?_)
    · replace h := gs_ift c4 h
      refine gs_iconst (w := (-1)) (pc := 16) C dX11_most_16 rfl ?_
      obtain ⟨rfl, rfl⟩ := gs_i2 h
      exact gs_iret (pc := 17) C dX11_most_17 E
    · replace h := gs_iff c4 h
      refine gs_iload_n (pc := 11) C 1 dX11_most_11 rfl rfl ?_
      refine gs_iconst (w := 1) (pc := 12) C dX11_most_12 rfl ?_
      refine gs_icmp_le (pc := 13) C 18 dX11_most_13 rfl (fun c5 => ?_) (fun c5 => ?_)
      · replace h := gs_ift c5 h
        refine gs_iconst (w := 0) (pc := 18) C dX11_most_18 rfl ?_
        refine gs_istore_n (ls' := [(2, .int (0 : Int32)), (0, .ref 0), (1, .int x1)]) (pc := 19) C dX11_most_19 rfl (by decide) rfl ?_
        refine gs_iconst (w := (-1)) (pc := 20) C dX11_most_20 rfl ?_
        refine gs_istore_n (ls' := [(3, .int (-1 : Int32)), (2, .int (0 : Int32)), (0, .ref 0), (1, .int x1)]) (pc := 21) C dX11_most_21 rfl (by decide) rfl ?_
        refine gs_iconst (w := 0) (pc := 22) C dX11_most_22 rfl ?_
        refine gs_istore (ls' := [(4, .int (0 : Int32)), (3, .int (-1 : Int32)), (2, .int (0 : Int32)), (0, .ref 0), (1, .int x1)]) (pc := 23) C dX11_most_23 (by decide) rfl ?_
        obtain ⟨y6, y7, y8, M9, e10, h⟩ := gs_o4 h
        refine gs_sub [3, 4, 2, 1, 0] rfl (t_X11_most_25 C ?_ gs_FU _ _ _ _ e10)
        refine gs_iload_n (pc := 80) C 2 dX11_most_80 rfl rfl ?_
        obtain ⟨rfl, rfl⟩ := gs_i2 h
        exact gs_iret (pc := 81) C dX11_most_81 E
      · replace h := gs_iff c5 h
        refine gs_iconst (w := (-1)) (pc := 16) C dX11_most_16 rfl ?_
        obtain ⟨rfl, rfl⟩ := gs_i2 h
        exact gs_iret (pc := 17) C dX11_most_17 E
set_option maxRecDepth 100000 in
set_option maxHeartbeats 4000000 in
theorem t_X11_needs_31 {X : gs_X} (C : gs_C X RX11 cX11_needs 5 (some .int) 4) {L : gs_L} {x1 : Int32} {x2 : Int32} {x3 : Int32} {rv : Int32} {Mz : gs_M} (E : gs_E X (some (.int rv)) Mz L) : ∀ (f : Nat) (x4 : Int32) (M : gs_M), l_X11_needs_31 x1 x2 x3 f x4 M = some (rv, Mz) → gs_AW X 31 [(0, .ref 0), (1, .int x1), (2, .int x2), (3, .int x3), (4, .int x4)] [] M L := by
  intro f
  induction f with
  | zero =>
    intro x4 M h
    cases h
  | succ f ih =>
    intro x4 M h
    rw [l_X11_needs_31] at h
    refine gs_iload (pc := 31) C 4 dX11_needs_31 rfl ?_
    refine gs_bipush (w := 9) (pc := 33) C dX11_needs_33 rfl ?_
    refine gs_icmp_gt (pc := 35) C 71 dX11_needs_35 rfl (fun c1 => ?_) (fun c1 => ?_)
    · replace h := gs_ift c1 h
      refine gs_iconst (w := (-1)) (pc := 71) C dX11_needs_71 rfl ?_
      obtain ⟨rfl, rfl⟩ := gs_i2 h
      exact gs_iret (pc := 72) C dX11_needs_72 E
    · replace h := gs_iff c1 h
      refine gs_aload_n (pc := 38) C 0 dX11_needs_38 rfl rfl ?_
      refine gs_getq (pc := 39) C dX11_needs_39 gk_11 fl_X11_71 sh_0 rfl ?_
      refine gs_iload_n (pc := 42) C 1 dX11_needs_42 rfl rfl ?_
      refine gs_iload_n (pc := 43) C 2 dX11_needs_43 rfl rfl ?_
      refine gs_aload_n (pc := 44) C 0 dX11_needs_44 rfl rfl ?_
      refine gs_getq (pc := 45) C dX11_needs_45 gk_11 fl_X11_29 sh_0 rfl ?_
      refine gs_iload_n (pc := 48) C 1 dX11_needs_48 rfl rfl ?_
      refine gs_iconst (w := 0) (pc := 49) C dX11_needs_49 rfl ?_
      obtain ⟨v2, e3, h⟩ := gs_o1 h
      refine gs_callVi (pc := 50) C [.int x1, .int (0 : Int32)] dX11_needs_50 ml_X11_188 wy_X6_of (a_X6_of _ e3) (by decide) sh_9 (by decide) rfl rfl (Nat.le_of_ble_eq_true rfl) rfl ?_
      refine gs_iload (pc := 53) C 4 dX11_needs_53 rfl ?_
      obtain ⟨v4, M5, e6, h⟩ := gs_o2 h
      refine gs_callVi (pc := 55) C [.int x1, .int x2, .int v2, .int x4] dX11_needs_55 ml_X11_336 wy_X4_wakesIf (a_X4_wakesIf _ e6) (by decide) sh_105 (by decide) rfl rfl (Nat.le_of_ble_eq_true rfl) rfl ?_
      refine gs_iload_n (pc := 58) C 3 dX11_needs_58 rfl rfl ?_
      refine gs_icmp_lt (pc := 59) C 65 dX11_needs_59 rfl (fun c7 => ?_) (fun c7 => ?_)
      · replace h := gs_ift c7 h
        refine gs_iinc (v := x4 + (1 : Int32)) (ls' := [(4, .int (x4 + (1 : Int32))), (0, .ref 0), (1, .int x1), (2, .int x2), (3, .int x3)]) (pc := 65) C 4 dX11_needs_65 rfl rfl (by decide) rfl ?_
        refine gs_goto (pc := 68) C 31 dX11_needs_68 rfl ?_
        exact gs_sub [1, 2, 3, 4, 0] rfl (ih _ _ h)
      · replace h := gs_iff c7 h
        refine gs_iload (pc := 62) C 4 dX11_needs_62 rfl ?_
        obtain ⟨rfl, rfl⟩ := gs_i2 h
        exact gs_iret (pc := 64) C dX11_needs_64 E
set_option maxRecDepth 100000 in
set_option maxHeartbeats 4000000 in
theorem a_X11_needs (l : Launch) {M : gs_M} {L : gs_L} {x1 : Int32} {x2 : Int32} {x3 : Int32} {rv : Int32} {Mz : gs_M} (h : f_X11_needs M x1 x2 x3 = some (rv, Mz)) : gs_Met l 4 yX11_needs cX11_needs 5 (some .int) [.ref 0, .int x1, .int x2, .int x3] M L (some (.int rv)) Mz L := by
  unfold f_X11_needs at h
  refine gs_of RX11 (by decide) rfl (Nat.le_of_ble_eq_true rfl) (fun X C E => ?_)
  show gs_AW X 0 [(0, .ref 0), (1, .int x1), (2, .int x2), (3, .int x3)] [] M L
  refine gs_aload_n (pc := 0) C 0 dX11_needs_0 rfl rfl ?_
  refine gs_iload_n (pc := 1) C 1 dX11_needs_1 rfl rfl ?_
  obtain ⟨v1, e2, h⟩ := gs_o1 h
  refine gs_callVi (pc := 2) C [.int x1] dX11_needs_2 ml_X11_178 wy_X11_isPerson (a_X11_isPerson _ e2) (by decide) sh_0 (by decide) rfl rfl (Nat.le_of_ble_eq_true rfl) rfl ?_
  refine gs_if_eq (pc := 5) C 26 dX11_needs_5 rfl (fun c3 => ?_) (fun c3 => ?_)
  · replace h := gs_ift c3 h
    refine gs_iconst (w := (-1)) (pc := 26) C dX11_needs_26 rfl ?_
    obtain ⟨rfl, rfl⟩ := gs_i2 h
    exact gs_iret (pc := 27) C dX11_needs_27 E
  · replace h := gs_iff c3 h
    refine gs_aload_n (pc := 8) C 0 dX11_needs_8 rfl rfl ?_
    refine gs_iload_n (pc := 9) C 2 dX11_needs_9 rfl rfl ?_
    obtain ⟨v4, e5, h⟩ := gs_o1 h
    refine gs_callVi (pc := 10) C [.int x2] dX11_needs_10 ml_X11_210 wy_X11_isHour (a_X11_isHour _ e5) (by decide) sh_0 (by decide) rfl rfl (Nat.le_of_ble_eq_true rfl) rfl ?_
    refine gs_if_eq (pc := 13) C 26 dX11_needs_13 rfl (fun c6 => ?_) (fun c6 => ?_)
    · replace h := gs_ift c6 h
      refine gs_iconst (w := (-1)) (pc := 26) C dX11_needs_26 rfl ?_
      obtain ⟨rfl, rfl⟩ := gs_i2 h
      exact gs_iret (pc := 27) C dX11_needs_27 E
    · replace h := gs_iff c6 h
      refine gs_iload_n (pc := 16) C 3 dX11_needs_16 rfl rfl ?_
      refine gs_if_lt (pc := 17) C 26 dX11_needs_17 rfl (fun c7 => ?_) (fun c7 => ?_)
      · replace h := gs_ift c7 h
        refine gs_iconst (w := (-1)) (pc := 26) C dX11_needs_26 rfl ?_
        obtain ⟨rfl, rfl⟩ := gs_i2 h
        exact gs_iret (pc := 27) C dX11_needs_27 E
      · replace h := gs_iff c7 h
        refine gs_iload_n (pc := 20) C 3 dX11_needs_20 rfl rfl ?_
        refine gs_bipush (w := 10) (pc := 21) C dX11_needs_21 rfl ?_
        refine gs_icmp_le (pc := 23) C 28 dX11_needs_23 rfl (fun c8 => ?_) (fun c8 => ?_)
        · replace h := gs_ift c8 h
          refine gs_iconst (w := 0) (pc := 28) C dX11_needs_28 rfl ?_
          refine gs_istore (ls' := [(4, .int (0 : Int32)), (0, .ref 0), (1, .int x1), (2, .int x2), (3, .int x3)]) (pc := 29) C dX11_needs_29 (by decide) rfl ?_
          exact gs_sub [1, 2, 3, 4, 0] rfl (t_X11_needs_31 C E gs_FU _ _ h)
        · replace h := gs_iff c8 h
          refine gs_iconst (w := (-1)) (pc := 26) C dX11_needs_26 rfl ?_
          obtain ⟨rfl, rfl⟩ := gs_i2 h
          exact gs_iret (pc := 27) C dX11_needs_27 E
set_option maxRecDepth 100000 in
set_option maxHeartbeats 4000000 in
theorem a_X5_sow (l : Launch) {M : gs_M} {L : gs_L} {x1 : Int64} {Lz : gs_L} (h : f_X5_sow L x1 = some (Lz)) : gs_Met l 0 yX5_sow cX5_sow 3 none [.ref 132, .long x1] M L none M Lz := by
  unfold f_X5_sow at h
  refine gs_of RX5 (by decide) rfl (Nat.le_of_ble_eq_true rfl) (fun X C E => ?_)
  show gs_AW X 0 [(0, .ref 132), (1, .long x1)] [] M L
  refine gs_aload_n (pc := 0) C 0 dX5_sow_0 rfl rfl ?_
  refine gs_lload_n (pc := 1) C 1 dX5_sow_1 rfl rfl ?_
  obtain ⟨L2, e1, h⟩ := gs_o1 h
  refine gs_putl' (pc := 2) C dX5_sow_2 gk_5 fp_X5_31 sh_132 rfl e1 ?_
  obtain rfl := gs_i1 h
  exact gs_vret (pc := 5) C dX5_sow_5 E
set_option maxRecDepth 100000 in
set_option maxHeartbeats 4000000 in
theorem a_X5_draw (l : Launch) {M : gs_M} {L : gs_L} {x1 : Int32} {rv : Int32} {Lz : gs_L} (h : f_X5_draw L x1 = some (rv, Lz)) : gs_Met l 0 yX5_draw cX5_draw 2 (some .int) [.ref 132, .int x1] M L (some (.int rv)) M Lz := by
  unfold f_X5_draw at h
  refine gs_of RX5 (by decide) rfl (Nat.le_of_ble_eq_true rfl) (fun X C E => ?_)
  show gs_AW X 0 [(0, .ref 132), (1, .int x1)] [] M L
  refine gs_aload_n (pc := 0) C 0 dX5_draw_0 rfl rfl ?_
  refine gs_aload_n (pc := 1) C 0 dX5_draw_1 rfl rfl ?_
  refine gs_getl (pc := 2) C dX5_draw_2 gk_5 fl_X5_31 sh_132 rfl ?_
  refine gs_ldc2 (pc := 5) C dX5_draw_5 wj_X5_35 ?_
  refine gs_lmul (pc := 8) C dX5_draw_8 ?_
  refine gs_ldc2 (pc := 9) C dX5_draw_9 wj_X5_37 ?_
  refine gs_ladd (pc := 12) C dX5_draw_12 ?_
  obtain ⟨L2, e1, h⟩ := gs_o1 h
  refine gs_putl' (pc := 13) C dX5_draw_13 gk_5 fp_X5_31 sh_132 rfl e1 ?_
  refine gs_iload_n (pc := 16) C 1 dX5_draw_16 rfl rfl ?_
  obtain ⟨y3, e4, h⟩ := gs_o1 h
  have j5 : gs_AW X 35 [(0, .ref 132), (1, .int x1)] [.int y3] M L2 := by
    obtain ⟨rfl, rfl⟩ := gs_i2 h
    exact gs_iret (pc := 35) C dX5_draw_35 E
  refine gs_if_le (pc := 17) C 34 dX5_draw_17 rfl (fun c6 => ?_) (fun c6 => ?_)
  · replace e4 := gs_ift c6 e4
    refine gs_iconst (w := 0) (pc := 34) C dX5_draw_34 rfl ?_
    obtain rfl := gs_i1 e4
    exact j5
  · replace e4 := gs_iff c6 e4
    refine gs_aload_n (pc := 20) C 0 dX5_draw_20 rfl rfl ?_
    refine gs_getl (pc := 21) C dX5_draw_21 gk_5 fl_X5_31 sh_132 rfl ?_
    refine gs_bipush (w := 33) (pc := 24) C dX5_draw_24 rfl ?_
    refine gs_lushr (pc := 26) C dX5_draw_26 ?_
    refine gs_iload_n (pc := 27) C 1 dX5_draw_27 rfl rfl ?_
    refine gs_i2l (pc := 28) C dX5_draw_28 ?_
    obtain ⟨v7, e8, e4⟩ := gs_o1 e4
    refine gs_lrem' (pc := 29) C dX5_draw_29 e8 ?_
    refine gs_l2i (pc := 30) C dX5_draw_30 ?_
    refine gs_goto (pc := 31) C 35 dX5_draw_31 rfl ?_
    obtain rfl := gs_i1 e4
    exact j5
set_option maxRecDepth 100000 in
set_option maxHeartbeats 4000000 in
theorem a_X10_toldAt (l : Launch) {M : gs_M} {L : gs_L} {x1 : Int32} {x2 : Int32} {rv : Int32} (h : f_X10_toldAt M x1 x2 = some (rv)) : gs_Met l 0 yX10_toldAt cX10_toldAt 3 (some .int) [.ref 95, .int x1, .int x2] M L (some (.int rv)) M L := by
  unfold f_X10_toldAt at h
  refine gs_of RX10 (by decide) rfl (Nat.le_of_ble_eq_true rfl) (fun X C E => ?_)
  show gs_AW X 0 [(0, .ref 95), (1, .int x1), (2, .int x2)] [] M L
  refine gs_aload_n (pc := 0) C 0 dX10_toldAt_0 rfl rfl ?_
  refine gs_getq (pc := 1) C dX10_toldAt_1 gk_10 fl_X10_9 sh_95 rfl ?_
  refine gs_iload_n (pc := 4) C 1 dX10_toldAt_4 rfl rfl ?_
  refine gs_bipush (w := 9) (pc := 5) C dX10_toldAt_5 rfl ?_
  refine gs_imul (pc := 7) C dX10_toldAt_7 ?_
  refine gs_iload_n (pc := 8) C 2 dX10_toldAt_8 rfl rfl ?_
  refine gs_iadd (pc := 9) C dX10_toldAt_9 ?_
  obtain ⟨v1, e2, h⟩ := gs_o1 h
  refine gs_iald (pc := 10) C dX10_toldAt_10 sh_96 e2 ?_
  obtain rfl := gs_i1 h
  exact gs_iret (pc := 11) C dX10_toldAt_11 E
set_option maxRecDepth 100000 in
set_option maxHeartbeats 4000000 in
theorem a_X10_seenAt (l : Launch) {M : gs_M} {L : gs_L} {x1 : Int32} {rv : Int32} (h : f_X10_seenAt M x1 = some (rv)) : gs_Met l 1 yX10_seenAt cX10_seenAt 2 (some .int) [.ref 95, .int x1] M L (some (.int rv)) M L := by
  unfold f_X10_seenAt at h
  refine gs_of RX10 (by decide) rfl (Nat.le_of_ble_eq_true rfl) (fun X C E => ?_)
  show gs_AW X 0 [(0, .ref 95), (1, .int x1)] [] M L
  refine gs_aload_n (pc := 0) C 0 dX10_seenAt_0 rfl rfl ?_
  refine gs_geti (pc := 1) C dX10_seenAt_1 gk_10 fl_X10_18 sh_95 rfl ?_
  refine gs_iconst (w := (-1)) (pc := 4) C dX10_seenAt_4 rfl ?_
  obtain ⟨y1, e2, h⟩ := gs_o1 h
  have j3 : gs_AW X 21 [(0, .ref 95), (1, .int x1)] [.int y1] M L := by
    obtain rfl := gs_i1 h
    exact gs_iret (pc := 21) C dX10_seenAt_21 E
  refine gs_icmp_ne (pc := 5) C 12 dX10_seenAt_5 rfl (fun c4 => ?_) (fun c4 => ?_)
  · replace e2 := gs_iff c4 e2
    refine gs_aload_n (pc := 12) C 0 dX10_seenAt_12 rfl rfl ?_
    refine gs_aload_n (pc := 13) C 0 dX10_seenAt_13 rfl rfl ?_
    refine gs_geti (pc := 14) C dX10_seenAt_14 gk_10 fl_X10_18 sh_95 rfl ?_
    refine gs_iload_n (pc := 17) C 1 dX10_seenAt_17 rfl rfl ?_
    obtain ⟨v5, e6, e2⟩ := gs_o1 e2
    refine gs_callVi (pc := 18) C [.int (M 95 3), .int x1] dX10_seenAt_18 ml_X10_29 wy_X10_toldAt (a_X10_toldAt _ e6) (by decide) sh_95 (by decide) rfl rfl (Nat.le_of_ble_eq_true rfl) rfl ?_
    obtain rfl := gs_i1 e2
    exact j3
  · replace e2 := gs_ift c4 e2
    refine gs_iconst (w := (-1)) (pc := 8) C dX10_seenAt_8 rfl ?_
    refine gs_goto (pc := 9) C 21 dX10_seenAt_9 rfl ?_
    obtain rfl := gs_i1 e2
    exact j3
set_option maxRecDepth 100000 in
set_option maxHeartbeats 4000000 in
theorem a_X6_writeBook (l : Launch) {M : gs_M} {L : gs_L} {x1 : Int32} {x2 : Int32} {x3 : Int32} {Mz : gs_M} (h : f_X6_writeBook M x1 x2 x3 = some (Mz)) : gs_Met l 1 yX6_writeBook cX6_writeBook 5 none [.ref 9, .int x1, .int x2, .int x3] M L none Mz L := by
  unfold f_X6_writeBook at h
  refine gs_of RX6 (by decide) rfl (Nat.le_of_ble_eq_true rfl) (fun X C E => ?_)
  show gs_AW X 0 [(0, .ref 9), (1, .int x1), (2, .int x2), (3, .int x3)] [] M L
  refine gs_aload_n (pc := 0) C 0 dX6_writeBook_0 rfl rfl ?_
  obtain ⟨v1, e2, h⟩ := gs_o1 h
  refine gs_callVi (pc := 1) C [] dX6_writeBook_1 ml_X6_35 wy_X6_now (a_X6_now _ e2) (by decide) sh_9 (by decide) rfl rfl (Nat.le_of_ble_eq_true rfl) rfl ?_
  refine gs_iload_n (pc := 4) C 1 dX6_writeBook_4 rfl rfl ?_
  refine gs_bipush (w := 10) (pc := 5) C dX6_writeBook_5 rfl ?_
  refine gs_ishl (pc := 7) C dX6_writeBook_7 ?_
  refine gs_ior (pc := 8) C dX6_writeBook_8 ?_
  refine gs_iload_n (pc := 9) C 2 dX6_writeBook_9 rfl rfl ?_
  refine gs_bipush (w := 14) (pc := 10) C dX6_writeBook_10 rfl ?_
  refine gs_ishl (pc := 12) C dX6_writeBook_12 ?_
  refine gs_ior (pc := 13) C dX6_writeBook_13 ?_
  refine gs_iload_n (pc := 14) C 3 dX6_writeBook_14 rfl rfl ?_
  have j7 : gs_AW X 23 [(0, .ref 9), (1, .int x1), (2, .int x2), (3, .int x3)] [.int (if x3 = (0 : Int32) then (0 : Int32) else (1 : Int32) : Int32), .int ((v1 ||| (x1 <<< ((10 : Int32) &&& 31))) ||| (x2 <<< ((14 : Int32) &&& 31)))] M L := by
    refine gs_bipush (w := 17) (pc := 23) C dX6_writeBook_23 rfl ?_
    refine gs_ishl (pc := 25) C dX6_writeBook_25 ?_
    refine gs_ior (pc := 26) C dX6_writeBook_26 ?_
    refine gs_aload_n (pc := 27) C 0 dX6_writeBook_27 rfl rfl ?_
    refine gs_iload_n (pc := 28) C 2 dX6_writeBook_28 rfl rfl ?_
    refine gs_iconst (w := 2) (pc := 29) C dX6_writeBook_29 rfl ?_
    obtain ⟨v3, e4, h⟩ := gs_o1 h
    refine gs_callVi (pc := 30) C [.int x2, .int (2 : Int32)] dX6_writeBook_30 ml_X6_38 wy_X6_of (a_X6_of _ e4) (by decide) sh_9 (by decide) rfl rfl (Nat.le_of_ble_eq_true rfl) rfl ?_
    refine gs_bipush (w := 18) (pc := 33) C dX6_writeBook_33 rfl ?_
    refine gs_ishl (pc := 35) C dX6_writeBook_35 ?_
    refine gs_ior (pc := 36) C dX6_writeBook_36 ?_
    refine gs_istore (ls' := [(4, .int ((((v1 ||| (x1 <<< ((10 : Int32) &&& 31))) ||| (x2 <<< ((14 : Int32) &&& 31))) ||| ((if x3 = (0 : Int32) then (0 : Int32) else (1 : Int32) : Int32) <<< ((17 : Int32) &&& 31))) ||| (v3 <<< ((18 : Int32) &&& 31)))), (0, .ref 9), (1, .int x1), (2, .int x2), (3, .int x3)]) (pc := 37) C dX6_writeBook_37 (by decide) rfl ?_
    refine gs_aload_n (pc := 39) C 1 dX6_writeBook_39 rfl rfl ?_
    refine gs_bipush (w := 53) (pc := 40) C dX6_writeBook_40 rfl ?_
    refine gs_bipush (w := 51) (pc := 42) C dX6_writeBook_42 rfl ?_
    refine gs_iload (pc := 44) C 0 dX6_writeBook_44 rfl ?_
    obtain ⟨M5, e6, h⟩ := gs_o1 h
    refine gs_callVv (pc := 46) C [.int (53 : Int32), .int (51 : Int32), .int ((((v1 ||| (x1 <<< ((10 : Int32) &&& 31))) ||| (x2 <<< ((14 : Int32) &&& 31))) ||| ((if x3 = (0 : Int32) then (0 : Int32) else (1 : Int32) : Int32) <<< ((17 : Int32) &&& 31))) ||| (v3 <<< ((18 : Int32) &&& 31)))] dX6_writeBook_46 ml_X6_41 wy_X6_append (a_X6_append _ e6) (by decide) sh_9 (by decide) rfl rfl (Nat.le_of_ble_eq_true rfl) rfl ?_
    obtain rfl := gs_i1 h
    exact gs_vret (pc := 49) C dX6_writeBook_49 E
  refine gs_if_eq (pc := 15) C 22 dX6_writeBook_15 rfl (fun c8 => ?_) (fun c8 => ?_)
  · refine gs_iconst (w := 0) (pc := 22) C dX6_writeBook_22 rfl ?_
    simp only [if_pos c8] at j7
    exact j7
  · refine gs_iconst (w := 1) (pc := 18) C dX6_writeBook_18 rfl ?_
    refine gs_goto (pc := 19) C 23 dX6_writeBook_19 rfl ?_
    simp only [if_neg c8] at j7
    exact j7
set_option maxRecDepth 100000 in
set_option maxHeartbeats 4000000 in
theorem a_X6_nextNight (l : Launch) {M : gs_M} {L : gs_L} {Mz : gs_M} (h : f_X6_nextNight M = some (Mz)) : gs_Met l 0 yX6_nextNight cX6_nextNight 1 none [.ref 9] M L none Mz L := by
  unfold f_X6_nextNight at h
  refine gs_of RX6 (by decide) rfl (Nat.le_of_ble_eq_true rfl) (fun X C E => ?_)
  show gs_AW X 0 [(0, .ref 9)] [] M L
  refine gs_aload_n (pc := 0) C 0 dX6_nextNight_0 rfl rfl ?_
  refine gs_getq (pc := 1) C dX6_nextNight_1 gk_6 fl_X6_11 sh_9 rfl ?_
  refine gs_bipush (w := 48) (pc := 4) C dX6_nextNight_4 rfl ?_
  refine gs_dup2 (pc := 6) C dX6_nextNight_6 rfl rfl ?_
  obtain ⟨v1, e2, h⟩ := gs_o1 h
  refine gs_iald (pc := 7) C dX6_nextNight_7 sh_10 e2 ?_
  refine gs_iconst (w := 1) (pc := 8) C dX6_nextNight_8 rfl ?_
  refine gs_iadd (pc := 9) C dX6_nextNight_9 ?_
  obtain ⟨M4, e3, h⟩ := gs_o1 h
  refine gs_iast (pc := 10) C dX6_nextNight_10 sh_10 e3 ?_
  obtain rfl := gs_i1 h
  exact gs_vret (pc := 11) C dX6_nextNight_11 E
set_option maxRecDepth 100000 in
set_option maxHeartbeats 4000000 in
theorem t_X5_pass_2 {X : gs_X} (C : gs_C X RX5 cX5_pass 4 none 5) {L : gs_L} {o1 : Int32} {M' : gs_M} (k : gs_AW X 21 [(0, .ref 132), (1, .int o1)] [] M' L) : ∀ (f : Nat) (x1 : Int32) (M : gs_M), l_X5_pass_2 L f x1 M = some (o1, M') → gs_AW X 2 [(0, .ref 132), (1, .int x1)] [] M L := by
  intro f
  induction f with
  | zero =>
    intro x1 M h
    cases h
  | succ f ih =>
    intro x1 M h
    rw [l_X5_pass_2] at h
    refine gs_iload_n (pc := 2) C 1 dX5_pass_2 rfl rfl ?_
    refine gs_bipush (w := 8) (pc := 3) C dX5_pass_3 rfl ?_
    refine gs_icmp_ge (pc := 5) C 21 dX5_pass_5 rfl (fun c1 => ?_) (fun c1 => ?_)
    · replace h := gs_ift c1 h
      obtain ⟨rfl, rfl⟩ := gs_i2 h
      exact k
    · replace h := gs_iff c1 h
      refine gs_aload_n (pc := 8) C 0 dX5_pass_8 rfl rfl ?_
      refine gs_getq (pc := 9) C dX5_pass_9 gk_5 fl_X5_9 sh_132 rfl ?_
      refine gs_iload_n (pc := 12) C 1 dX5_pass_12 rfl rfl ?_
      refine gs_iconst (w := 0) (pc := 13) C dX5_pass_13 rfl ?_
      obtain ⟨M3, e2, h⟩ := gs_o1 h
      refine gs_iast (pc := 14) C dX5_pass_14 sh_133 e2 ?_
      refine gs_iinc (v := x1 + (1 : Int32)) (ls' := [(1, .int (x1 + (1 : Int32))), (0, .ref 132)]) (pc := 15) C 1 dX5_pass_15 rfl rfl (by decide) rfl ?_
      refine gs_goto (pc := 18) C 2 dX5_pass_18 rfl ?_
      exact gs_sub [1, 0] rfl (ih _ _ h)
set_option maxRecDepth 100000 in
set_option maxHeartbeats 4000000 in
theorem t_X5_pass_36 {X : gs_X} (C : gs_C X RX5 cX5_pass 4 none 5) {x1 : Int32} {o2 : Int32} {M' : gs_M} {L' : gs_L} (k : gs_AW X 149 [(0, .ref 132), (1, .int x1), (2, .int o2)] [] M' L') : ∀ (f : Nat) (x2 : Int32) (M : gs_M) (L : gs_L), l_X5_pass_36 x1 f x2 M L = some (o2, M', L') → gs_AW X 36 [(0, .ref 132), (1, .int x1), (2, .int x2)] [] M L := by
  intro f
  induction f with
  | zero =>
    intro x2 M L h
    cases h
  | succ f ih =>
    intro x2 M L h
    rw [l_X5_pass_36] at h
    refine gs_iload_n (pc := 36) C 2 dX5_pass_36 rfl rfl ?_
    refine gs_aload_n (pc := 37) C 0 dX5_pass_37 rfl rfl ?_
    refine gs_getq (pc := 38) C dX5_pass_38 gk_5 fl_X5_15 sh_132 rfl ?_
    obtain ⟨v1, e2, h⟩ := gs_o1 h
    refine gs_callVi (pc := 41) C [] dX5_pass_41 ml_X5_39 wy_X9_crowd (a_X9_crowd _ e2) (by decide) sh_3 (by decide) rfl rfl (Nat.le_of_ble_eq_true rfl) rfl ?_
    refine gs_icmp_ge (pc := 44) C 149 dX5_pass_44 rfl (fun c3 => ?_) (fun c3 => ?_)
    · replace h := gs_ift c3 h
      obtain ⟨rfl, rfl, rfl⟩ := gs_i3 h
      exact k
    · replace h := gs_iff c3 h
      refine gs_aload_n (pc := 47) C 0 dX5_pass_47 rfl rfl ?_
      refine gs_bipush (w := 10) (pc := 48) C dX5_pass_48 rfl ?_
      obtain ⟨v4, L5, e6, h⟩ := gs_o2 h
      refine gs_callVi (pc := 50) C [.int (10 : Int32)] dX5_pass_50 ml_X5_45 wy_X5_draw (a_X5_draw _ e6) (by decide) sh_132 (by decide) rfl rfl (Nat.le_of_ble_eq_true rfl) rfl ?_
      refine gs_aload_n (pc := 53) C 0 dX5_pass_53 rfl rfl ?_
      refine gs_getq (pc := 54) C dX5_pass_54 gk_5 fl_X5_23 sh_132 rfl ?_
      refine gs_iload_n (pc := 57) C 2 dX5_pass_57 rfl rfl ?_
      refine gs_iload_n (pc := 58) C 1 dX5_pass_58 rfl rfl ?_
      obtain ⟨v7, M8, e9, h⟩ := gs_o2 h
      refine gs_callVi (pc := 59) C [.int x2, .int x1] dX5_pass_59 ml_X5_70 wy_X4_wakesNow (a_X4_wakesNow _ e9) (by decide) sh_105 (by decide) rfl rfl (Nat.le_of_ble_eq_true rfl) rfl ?_
      have j34 : gs_AW X 70 [(0, .ref 132), (1, .int x1), (2, .int x2)] [.int (if v7 ≤ v4 then (0 : Int32) else (1 : Int32) : Int32)] M8 L5 := by
        refine gs_istore_n (ls' := [(3, .int (if v7 ≤ v4 then (0 : Int32) else (1 : Int32) : Int32)), (0, .ref 132), (1, .int x1), (2, .int x2)]) (pc := 70) C dX5_pass_70 rfl (by decide) rfl ?_
        refine gs_aload_n (pc := 71) C 1 dX5_pass_71 rfl rfl ?_
        refine gs_getq (pc := 72) C dX5_pass_72 gk_5 fl_X5_9 sh_132 rfl ?_
        refine gs_iload_n (pc := 75) C 3 dX5_pass_75 rfl rfl ?_
        refine gs_dup2 (pc := 76) C dX5_pass_76 rfl rfl ?_
        obtain ⟨v10, e11, h⟩ := gs_o1 h
        refine gs_iald (pc := 77) C dX5_pass_77 sh_133 e11 ?_
        refine gs_iload_n (pc := 78) C 0 dX5_pass_78 rfl rfl ?_
        have j32 : gs_AW X 87 [(0, .ref 132), (1, .int x1), (2, .int x2), (3, .int (if v7 ≤ v4 then (0 : Int32) else (1 : Int32) : Int32))] [.int (if (if v7 ≤ v4 then (0 : Int32) else (1 : Int32) : Int32) = (0 : Int32) then (0 : Int32) else (1 : Int32) : Int32), .int v10, .int x2, .ref 133] M8 L5 := by
          refine gs_iadd (pc := 87) C dX5_pass_87 ?_
          obtain ⟨M13, e12, h⟩ := gs_o1 h
          refine gs_iast (pc := 88) C dX5_pass_88 sh_133 e12 ?_
          refine gs_aload_n (pc := 89) C 0 dX5_pass_89 rfl rfl ?_
          refine gs_getq (pc := 90) C dX5_pass_90 gk_5 fl_X5_27 sh_132 rfl ?_
          refine gs_iload_n (pc := 93) C 1 dX5_pass_93 rfl rfl ?_
          obtain ⟨v14, e15, h⟩ := gs_o1 h
          refine gs_callVi (pc := 94) C [.int x1] dX5_pass_94 ml_X5_75 wy_X10_seenAt (a_X10_seenAt _ e15) (by decide) sh_95 (by decide) rfl rfl (Nat.le_of_ble_eq_true rfl) rfl ?_
          refine gs_iload_n (pc := 97) C 2 dX5_pass_97 rfl rfl ?_
          obtain ⟨M16, e17, h⟩ := gs_o1 h
          have j18 : gs_AW X 143 [(0, .ref 132), (1, .int x1), (2, .int x2), (3, .int (if v7 ≤ v4 then (0 : Int32) else (1 : Int32) : Int32))] [] M16 L5 := by
            refine gs_iinc (v := x2 + (1 : Int32)) (ls' := [(2, .int (x2 + (1 : Int32))), (0, .ref 132), (1, .int x1), (3, .int (if v7 ≤ v4 then (0 : Int32) else (1 : Int32) : Int32))]) (pc := 143) C 2 dX5_pass_143 rfl rfl (by decide) rfl ?_
            refine gs_goto (pc := 146) C 36 dX5_pass_146 rfl ?_
            exact gs_sub [1, 2, 0] rfl (ih _ _ _ h)
          refine gs_icmp_ne (pc := 98) C 143 dX5_pass_98 rfl (fun c19 => ?_) (fun c19 => ?_)
          · replace e17 := gs_iff c19 e17
            obtain rfl := gs_i1 e17
            exact j18
          · replace e17 := gs_ift c19 e17
            refine gs_aload_n (pc := 101) C 0 dX5_pass_101 rfl rfl ?_
            refine gs_getq (pc := 102) C dX5_pass_102 gk_5 fl_X5_19 sh_132 rfl ?_
            refine gs_iload_n (pc := 105) C 2 dX5_pass_105 rfl rfl ?_
            refine gs_iconst (w := 5) (pc := 106) C dX5_pass_106 rfl ?_
            obtain ⟨v20, e21, e17⟩ := gs_o1 e17
            refine gs_callVi (pc := 107) C [.int x2, .int (5 : Int32)] dX5_pass_107 ml_X5_55 wy_X6_of (a_X6_of _ e21) (by decide) sh_9 (by decide) rfl rfl (Nat.le_of_ble_eq_true rfl) rfl ?_
            refine gs_if_ne (pc := 110) C 143 dX5_pass_110 rfl (fun c22 => ?_) (fun c22 => ?_)
            · replace e17 := gs_iff c22 e17
              obtain rfl := gs_i1 e17
              exact j18
            · replace e17 := gs_ift c22 e17
              refine gs_aload_n (pc := 113) C 0 dX5_pass_113 rfl rfl ?_
              refine gs_getq (pc := 114) C dX5_pass_114 gk_5 fl_X5_19 sh_132 rfl ?_
              refine gs_iload_n (pc := 117) C 1 dX5_pass_117 rfl rfl ?_
              refine gs_iload_n (pc := 118) C 2 dX5_pass_118 rfl rfl ?_
              refine gs_iload_n (pc := 119) C 3 dX5_pass_119 rfl rfl ?_
              obtain ⟨y23, e24, e17⟩ := gs_o1 e17
              have j25 : gs_AW X 140 [(0, .ref 132), (1, .int x1), (2, .int x2), (3, .int (if v7 ≤ v4 then (0 : Int32) else (1 : Int32) : Int32))] [.int y23, .int x2, .int x1, .ref 9] M13 L5 := by
                obtain ⟨M30, e31, e17⟩ := gs_o1 e17
                refine gs_callVv (pc := 140) C [.int x1, .int x2, .int y23] dX5_pass_140 ml_X5_80 wy_X6_writeBook (a_X6_writeBook _ e31) (by decide) sh_9 (by decide) rfl rfl (Nat.le_of_ble_eq_true rfl) rfl ?_
                obtain rfl := gs_i1 e17
                exact j18
              refine gs_if_ne (pc := 120) C 135 dX5_pass_120 rfl (fun c26 => ?_) (fun c26 => ?_)
              · replace e24 := gs_iff c26 e24
                refine gs_iconst (w := 1) (pc := 135) C dX5_pass_135 rfl ?_
                refine gs_goto (pc := 136) C 140 dX5_pass_136 rfl ?_
                obtain rfl := gs_i1 e24
                exact j25
              · replace e24 := gs_ift c26 e24
                refine gs_aload_n (pc := 123) C 0 dX5_pass_123 rfl rfl ?_
                refine gs_getq (pc := 124) C dX5_pass_124 gk_5 fl_X5_19 sh_132 rfl ?_
                refine gs_iload_n (pc := 127) C 2 dX5_pass_127 rfl rfl ?_
                refine gs_iconst (w := 4) (pc := 128) C dX5_pass_128 rfl ?_
                obtain ⟨v27, e28, e24⟩ := gs_o1 e24
                refine gs_callVi (pc := 129) C [.int x2, .int (4 : Int32)] dX5_pass_129 ml_X5_55 wy_X6_of (a_X6_of _ e28) (by decide) sh_9 (by decide) rfl rfl (Nat.le_of_ble_eq_true rfl) rfl ?_
                refine gs_if_eq (pc := 132) C 139 dX5_pass_132 rfl (fun c29 => ?_) (fun c29 => ?_)
                · replace e24 := gs_ift c29 e24
                  refine gs_iconst (w := 0) (pc := 139) C dX5_pass_139 rfl ?_
                  obtain rfl := gs_i1 e24
                  exact j25
                · replace e24 := gs_iff c29 e24
                  refine gs_iconst (w := 1) (pc := 135) C dX5_pass_135 rfl ?_
                  refine gs_goto (pc := 136) C 140 dX5_pass_136 rfl ?_
                  obtain rfl := gs_i1 e24
                  exact j25
        refine gs_if_eq (pc := 79) C 86 dX5_pass_79 rfl (fun c33 => ?_) (fun c33 => ?_)
        · refine gs_iconst (w := 0) (pc := 86) C dX5_pass_86 rfl ?_
          simp only [if_pos c33] at j32
          exact gs_sub [1, 2, 3, 0] rfl (j32)
        · refine gs_iconst (w := 1) (pc := 82) C dX5_pass_82 rfl ?_
          refine gs_goto (pc := 83) C 87 dX5_pass_83 rfl ?_
          simp only [if_neg c33] at j32
          exact gs_sub [1, 2, 3, 0] rfl (j32)
      refine gs_icmp_ge (pc := 62) C 69 dX5_pass_62 rfl (fun c35 => ?_) (fun c35 => ?_)
      · refine gs_iconst (w := 0) (pc := 69) C dX5_pass_69 rfl ?_
        simp only [if_pos c35] at j34
        exact j34
      · refine gs_iconst (w := 1) (pc := 65) C dX5_pass_65 rfl ?_
        refine gs_goto (pc := 66) C 70 dX5_pass_66 rfl ?_
        simp only [if_neg c35] at j34
        exact j34
set_option maxRecDepth 100000 in
set_option maxHeartbeats 4000000 in
theorem t_X5_pass_23 {X : gs_X} (C : gs_C X RX5 cX5_pass 4 none 5) {o1 : Int32} {M' : gs_M} {L' : gs_L} (k : gs_AW X 155 [(0, .ref 132), (1, .int o1)] [] M' L') : ∀ (f : Nat) (x1 : Int32) (M : gs_M) (L : gs_L), l_X5_pass_23  f x1 M L = some (o1, M', L') → gs_AW X 23 [(0, .ref 132), (1, .int x1)] [] M L := by
  intro f
  induction f with
  | zero =>
    intro x1 M L h
    cases h
  | succ f ih =>
    intro x1 M L h
    rw [l_X5_pass_23] at h
    refine gs_iload_n (pc := 23) C 1 dX5_pass_23 rfl rfl ?_
    refine gs_aload_n (pc := 24) C 0 dX5_pass_24 rfl rfl ?_
    refine gs_getq (pc := 25) C dX5_pass_25 gk_5 fl_X5_15 sh_132 rfl ?_
    obtain ⟨v1, e2, h⟩ := gs_o1 h
    refine gs_callVi (pc := 28) C [] dX5_pass_28 ml_X5_67 wy_X9_hours (a_X9_hours _ e2) (by decide) sh_3 (by decide) rfl rfl (Nat.le_of_ble_eq_true rfl) rfl ?_
    refine gs_icmp_ge (pc := 31) C 155 dX5_pass_31 rfl (fun c3 => ?_) (fun c3 => ?_)
    · replace h := gs_ift c3 h
      obtain ⟨rfl, rfl, rfl⟩ := gs_i3 h
      exact k
    · replace h := gs_iff c3 h
      refine gs_iconst (w := 0) (pc := 34) C dX5_pass_34 rfl ?_
      refine gs_istore_n (ls' := [(2, .int (0 : Int32)), (0, .ref 132), (1, .int x1)]) (pc := 35) C dX5_pass_35 rfl (by decide) rfl ?_
      obtain ⟨y4, M5, L6, e7, h⟩ := gs_o3 h
      refine gs_sub [1, 2, 0] rfl (t_X5_pass_36 C ?_ gs_FU _ _ _ e7)
      refine gs_iinc (v := x1 + (1 : Int32)) (ls' := [(1, .int (x1 + (1 : Int32))), (0, .ref 132), (2, .int y4)]) (pc := 149) C 1 dX5_pass_149 rfl rfl (by decide) rfl ?_
      refine gs_goto (pc := 152) C 23 dX5_pass_152 rfl ?_
      exact gs_sub [1, 0] rfl (ih _ _ _ h)
set_option maxRecDepth 100000 in
set_option maxHeartbeats 4000000 in
theorem t_X5_pass_157 {X : gs_X} (C : gs_C X RX5 cX5_pass 4 none 5) {L : gs_L} {o1 : Int32} {M' : gs_M} (k : gs_AW X 214 [(0, .ref 132), (1, .int o1)] [] M' L) : ∀ (f : Nat) (x1 : Int32) (M : gs_M), l_X5_pass_157 L f x1 M = some (o1, M') → gs_AW X 157 [(0, .ref 132), (1, .int x1)] [] M L := by
  intro f
  induction f with
  | zero =>
    intro x1 M h
    cases h
  | succ f ih =>
    intro x1 M h
    rw [l_X5_pass_157] at h
    refine gs_iload_n (pc := 157) C 1 dX5_pass_157 rfl rfl ?_
    refine gs_aload_n (pc := 158) C 0 dX5_pass_158 rfl rfl ?_
    refine gs_getq (pc := 159) C dX5_pass_159 gk_5 fl_X5_15 sh_132 rfl ?_
    obtain ⟨v1, e2, h⟩ := gs_o1 h
    refine gs_callVi (pc := 162) C [] dX5_pass_162 ml_X5_39 wy_X9_crowd (a_X9_crowd _ e2) (by decide) sh_3 (by decide) rfl rfl (Nat.le_of_ble_eq_true rfl) rfl ?_
    refine gs_icmp_ge (pc := 165) C 214 dX5_pass_165 rfl (fun c3 => ?_) (fun c3 => ?_)
    · replace h := gs_ift c3 h
      obtain ⟨rfl, rfl⟩ := gs_i2 h
      exact k
    · replace h := gs_iff c3 h
      refine gs_aload_n (pc := 168) C 0 dX5_pass_168 rfl rfl ?_
      refine gs_getq (pc := 169) C dX5_pass_169 gk_5 fl_X5_19 sh_132 rfl ?_
      refine gs_iload_n (pc := 172) C 1 dX5_pass_172 rfl rfl ?_
      refine gs_iconst (w := 2) (pc := 173) C dX5_pass_173 rfl ?_
      refine gs_aload_n (pc := 174) C 0 dX5_pass_174 rfl rfl ?_
      refine gs_getq (pc := 175) C dX5_pass_175 gk_5 fl_X5_9 sh_132 rfl ?_
      refine gs_iload_n (pc := 178) C 1 dX5_pass_178 rfl rfl ?_
      obtain ⟨v4, e5, h⟩ := gs_o1 h
      refine gs_iald (pc := 179) C dX5_pass_179 sh_133 e5 ?_
      refine gs_bipush (w := 9) (pc := 180) C dX5_pass_180 rfl ?_
      refine gs_mmin (pc := 182) C dX5_pass_182 ml_X5_59 (Nat.le_of_ble_eq_true rfl) ?_
      obtain ⟨M6, e7, h⟩ := gs_o1 h
      refine gs_callVv (pc := 185) C [.int x1, .int (2 : Int32), .int (if (9 : Int32) < v4 then (9 : Int32) else v4 : Int32)] dX5_pass_185 ml_X5_51 wy_X6_set (a_X6_set _ e7) (by decide) sh_9 (by decide) rfl rfl (Nat.le_of_ble_eq_true rfl) rfl ?_
      refine gs_aload_n (pc := 188) C 0 dX5_pass_188 rfl rfl ?_
      refine gs_getq (pc := 189) C dX5_pass_189 gk_5 fl_X5_19 sh_132 rfl ?_
      refine gs_iload_n (pc := 192) C 1 dX5_pass_192 rfl rfl ?_
      refine gs_iconst (w := 3) (pc := 193) C dX5_pass_193 rfl ?_
      refine gs_iconst (w := 0) (pc := 194) C dX5_pass_194 rfl ?_
      obtain ⟨M8, e9, h⟩ := gs_o1 h
      refine gs_callVv (pc := 195) C [.int x1, .int (3 : Int32), .int (0 : Int32)] dX5_pass_195 ml_X5_51 wy_X6_set (a_X6_set _ e9) (by decide) sh_9 (by decide) rfl rfl (Nat.le_of_ble_eq_true rfl) rfl ?_
      refine gs_aload_n (pc := 198) C 0 dX5_pass_198 rfl rfl ?_
      refine gs_getq (pc := 199) C dX5_pass_199 gk_5 fl_X5_19 sh_132 rfl ?_
      refine gs_iload_n (pc := 202) C 1 dX5_pass_202 rfl rfl ?_
      refine gs_iconst (w := 4) (pc := 203) C dX5_pass_203 rfl ?_
      refine gs_iconst (w := 0) (pc := 204) C dX5_pass_204 rfl ?_
      obtain ⟨M10, e11, h⟩ := gs_o1 h
      refine gs_callVv (pc := 205) C [.int x1, .int (4 : Int32), .int (0 : Int32)] dX5_pass_205 ml_X5_51 wy_X6_set (a_X6_set _ e11) (by decide) sh_9 (by decide) rfl rfl (Nat.le_of_ble_eq_true rfl) rfl ?_
      refine gs_iinc (v := x1 + (1 : Int32)) (ls' := [(1, .int (x1 + (1 : Int32))), (0, .ref 132)]) (pc := 208) C 1 dX5_pass_208 rfl rfl (by decide) rfl ?_
      refine gs_goto (pc := 211) C 157 dX5_pass_211 rfl ?_
      exact gs_sub [1, 0] rfl (ih _ _ h)
set_option maxRecDepth 100000 in
set_option maxHeartbeats 4000000 in
theorem a_X5_pass (l : Launch) {M : gs_M} {L : gs_L} {Mz : gs_M} {Lz : gs_L} (h : f_X5_pass M L = some (Mz, Lz)) : gs_Met l 5 yX5_pass cX5_pass 4 none [.ref 132] M L none Mz Lz := by
  unfold f_X5_pass at h
  refine gs_of RX5 (by decide) rfl (Nat.le_of_ble_eq_true rfl) (fun X C E => ?_)
  show gs_AW X 0 [(0, .ref 132)] [] M L
  refine gs_iconst (w := 0) (pc := 0) C dX5_pass_0 rfl ?_
  refine gs_istore_n (ls' := [(1, .int (0 : Int32)), (0, .ref 132)]) (pc := 1) C dX5_pass_1 rfl (by decide) rfl ?_
  obtain ⟨y1, M2, e3, h⟩ := gs_o2 h
  refine gs_sub [1, 0] rfl (t_X5_pass_2 C ?_ gs_FU _ _ e3)
  refine gs_iconst (w := 0) (pc := 21) C dX5_pass_21 rfl ?_
  refine gs_istore_n (ls' := [(1, .int (0 : Int32)), (0, .ref 132)]) (pc := 22) C dX5_pass_22 rfl (by decide) rfl ?_
  obtain ⟨y4, M5, L6, e7, h⟩ := gs_o3 h
  refine gs_sub [1, 0] rfl (t_X5_pass_23 C ?_ gs_FU _ _ _ e7)
  refine gs_iconst (w := 0) (pc := 155) C dX5_pass_155 rfl ?_
  refine gs_istore_n (ls' := [(1, .int (0 : Int32)), (0, .ref 132)]) (pc := 156) C dX5_pass_156 rfl (by decide) rfl ?_
  obtain ⟨y8, M9, e10, h⟩ := gs_o2 h
  refine gs_sub [1, 0] rfl (t_X5_pass_157 C ?_ gs_FU _ _ e10)
  refine gs_aload_n (pc := 214) C 0 dX5_pass_214 rfl rfl ?_
  refine gs_getq (pc := 215) C dX5_pass_215 gk_5 fl_X5_19 sh_132 rfl ?_
  obtain ⟨M11, e12, h⟩ := gs_o1 h
  refine gs_callVv (pc := 218) C [] dX5_pass_218 ml_X5_84 wy_X6_nextNight (a_X6_nextNight _ e12) (by decide) sh_9 (by decide) rfl rfl (Nat.le_of_ble_eq_true rfl) rfl ?_
  obtain ⟨rfl, rfl⟩ := gs_i2 h
  exact gs_vret (pc := 221) C dX5_pass_221 E
set_option maxRecDepth 100000 in
set_option maxHeartbeats 4000000 in
theorem a_X11_night (l : Launch) {M : gs_M} {L : gs_L} {x1 : Int64} {rv : Int32} {Mz : gs_M} {Lz : gs_L} (h : f_X11_night M L x1 = some (rv, Mz, Lz)) : gs_Met l 6 yX11_night cX11_night 3 (some .int) [.ref 0, .long x1] M L (some (.int rv)) Mz Lz := by
  unfold f_X11_night at h
  refine gs_of RX11 (by decide) rfl (Nat.le_of_ble_eq_true rfl) (fun X C E => ?_)
  show gs_AW X 0 [(0, .ref 0), (1, .long x1)] [] M L
  refine gs_aload_n (pc := 0) C 0 dX11_night_0 rfl rfl ?_
  obtain ⟨v1, e2, h⟩ := gs_o1 h
  refine gs_callVi (pc := 1) C [] dX11_night_1 ml_X11_172 wy_X11_hasTown (a_X11_hasTown _ e2) (by decide) sh_0 (by decide) rfl rfl (Nat.le_of_ble_eq_true rfl) rfl ?_
  refine gs_if_eq (pc := 4) C 20 dX11_night_4 rfl (fun c3 => ?_) (fun c3 => ?_)
  · replace h := gs_ift c3 h
    refine gs_iconst (w := (-1)) (pc := 20) C dX11_night_20 rfl ?_
    obtain ⟨rfl, rfl, rfl⟩ := gs_i3 h
    exact gs_iret (pc := 21) C dX11_night_21 E
  · replace h := gs_iff c3 h
    refine gs_aload_n (pc := 7) C 0 dX11_night_7 rfl rfl ?_
    refine gs_getq (pc := 8) C dX11_night_8 gk_11 fl_X11_29 sh_0 rfl ?_
    obtain ⟨v4, e5, h⟩ := gs_o1 h
    refine gs_callVi (pc := 11) C [] dX11_night_11 ml_X11_227 wy_X6_now (a_X6_now _ e5) (by decide) sh_9 (by decide) rfl rfl (Nat.le_of_ble_eq_true rfl) rfl ?_
    refine gs_sipush (w := 999) (pc := 14) C dX11_night_14 rfl ?_
    refine gs_icmp_lt (pc := 17) C 22 dX11_night_17 rfl (fun c6 => ?_) (fun c6 => ?_)
    · replace h := gs_ift c6 h
      refine gs_aload_n (pc := 22) C 0 dX11_night_22 rfl rfl ?_
      refine gs_getq (pc := 23) C dX11_night_23 gk_11 fl_X11_39 sh_0 rfl ?_
      refine gs_aload_n (pc := 26) C 0 dX11_night_26 rfl rfl ?_
      refine gs_getq (pc := 27) C dX11_night_27 gk_11 fl_X11_29 sh_0 rfl ?_
      obtain ⟨M7, e8, h⟩ := gs_o1 h
      refine gs_callVv (pc := 30) C [.ref 9] dX11_night_30 ml_X11_216 wy_X0_keep (a_X0_keep _ e8) (by decide) sh_13 (by decide) rfl rfl (Nat.le_of_ble_eq_true rfl) rfl ?_
      refine gs_aload_n (pc := 33) C 0 dX11_night_33 rfl rfl ?_
      refine gs_getq (pc := 34) C dX11_night_34 gk_11 fl_X11_80 sh_0 rfl ?_
      refine gs_lload_n (pc := 37) C 1 dX11_night_37 rfl rfl ?_
      obtain ⟨L9, e10, h⟩ := gs_o1 h
      refine gs_callVv (pc := 38) C [.long x1] dX11_night_38 ml_X11_230 wy_X5_sow (a_X5_sow _ e10) (by decide) sh_132 (by decide) rfl rfl (Nat.le_of_ble_eq_true rfl) rfl ?_
      refine gs_aload_n (pc := 41) C 0 dX11_night_41 rfl rfl ?_
      refine gs_getq (pc := 42) C dX11_night_42 gk_11 fl_X11_80 sh_0 rfl ?_
      obtain ⟨M11, L12, e13, h⟩ := gs_o2 h
      refine gs_callVv (pc := 45) C [] dX11_night_45 ml_X11_234 wy_X5_pass (a_X5_pass _ e13) (by decide) sh_132 (by decide) rfl rfl (Nat.le_of_ble_eq_true rfl) rfl ?_
      refine gs_aload_n (pc := 48) C 0 dX11_night_48 rfl rfl ?_
      refine gs_getq (pc := 49) C dX11_night_49 gk_11 fl_X11_29 sh_0 rfl ?_
      obtain ⟨v14, e15, h⟩ := gs_o1 h
      refine gs_callVi (pc := 52) C [] dX11_night_52 ml_X11_227 wy_X6_now (a_X6_now _ e15) (by decide) sh_9 (by decide) rfl rfl (Nat.le_of_ble_eq_true rfl) rfl ?_
      obtain ⟨rfl, rfl, rfl⟩ := gs_i3 h
      exact gs_iret (pc := 55) C dX11_night_55 E
    · replace h := gs_iff c6 h
      refine gs_iconst (w := (-1)) (pc := 20) C dX11_night_20 rfl ?_
      obtain ⟨rfl, rfl, rfl⟩ := gs_i3 h
      exact gs_iret (pc := 21) C dX11_night_21 E
set_option maxRecDepth 100000 in
set_option maxHeartbeats 4000000 in
theorem t_X11_people_22 {X : gs_X} (C : gs_C X RX11 cX11_people 5 (some .int) 6) {L : gs_L} {x1 : Int32} {o2 : Int32} {o3 : Int32} {M' : gs_M} (k : gs_AW X 121 [(0, .ref 0), (1, .int x1), (2, .int o2), (3, .int o3)] [] M' L) : ∀ (f : Nat) (x2 : Int32) (x3 : Int32) (M : gs_M), l_X11_people_22 x1 f x2 x3 M = some (o2, o3, M') → gs_AW X 22 [(0, .ref 0), (1, .int x1), (2, .int x2), (3, .int x3)] [] M L := by
  intro f
  induction f with
  | zero =>
    intro x2 x3 M h
    cases h
  | succ f ih =>
    intro x2 x3 M h
    rw [l_X11_people_22] at h
    refine gs_iload_n (pc := 22) C 3 dX11_people_22 rfl rfl ?_
    refine gs_aload_n (pc := 23) C 0 dX11_people_23 rfl rfl ?_
    refine gs_getq (pc := 24) C dX11_people_24 gk_11 fl_X11_19 sh_0 rfl ?_
    obtain ⟨v1, e2, h⟩ := gs_o1 h
    refine gs_callVi (pc := 27) C [] dX11_people_27 ml_X11_158 wy_X9_crowd (a_X9_crowd _ e2) (by decide) sh_3 (by decide) rfl rfl (Nat.le_of_ble_eq_true rfl) rfl ?_
    refine gs_icmp_ge (pc := 30) C 121 dX11_people_30 rfl (fun c3 => ?_) (fun c3 => ?_)
    · replace h := gs_ift c3 h
      obtain ⟨rfl, rfl, rfl⟩ := gs_i3 h
      exact k
    · replace h := gs_iff c3 h
      refine gs_iload_n (pc := 33) C 1 dX11_people_33 rfl rfl ?_
      obtain ⟨y4, M5, e6, h⟩ := gs_o2 h
      have j7 : gs_AW X 100 [(0, .ref 0), (1, .int x1), (2, .int x2), (3, .int x3), (4, .int y4)] [] M5 L := by
        refine gs_iload_n (pc := 100) C 2 dX11_people_100 rfl rfl ?_
        refine gs_iload (pc := 101) C 4 dX11_people_101 rfl ?_
        have j23 : gs_AW X 113 [(0, .ref 0), (1, .int x1), (2, .int x2), (3, .int x3), (4, .int y4)] [.int (if y4 = (0 : Int32) then (0 : Int32) else ((1 : Int32) <<< (x3 &&& 31)) : Int32), .int x2] M5 L := by
          refine gs_ior (pc := 113) C dX11_people_113 ?_
          refine gs_istore_n (ls' := [(2, .int (x2 ||| (if y4 = (0 : Int32) then (0 : Int32) else ((1 : Int32) <<< (x3 &&& 31)) : Int32))), (0, .ref 0), (1, .int x1), (3, .int x3), (4, .int y4)]) (pc := 114) C dX11_people_114 rfl (by decide) rfl ?_
          refine gs_iinc (v := x3 + (1 : Int32)) (ls' := [(3, .int (x3 + (1 : Int32))), (2, .int (x2 ||| (if y4 = (0 : Int32) then (0 : Int32) else ((1 : Int32) <<< (x3 &&& 31)) : Int32))), (0, .ref 0), (1, .int x1), (4, .int y4)]) (pc := 115) C 3 dX11_people_115 rfl rfl (by decide) rfl ?_
          refine gs_goto (pc := 118) C 22 dX11_people_118 rfl ?_
          exact gs_sub [2, 3, 1, 0] rfl (ih _ _ _ h)
        refine gs_if_eq (pc := 103) C 112 dX11_people_103 rfl (fun c24 => ?_) (fun c24 => ?_)
        · refine gs_iconst (w := 0) (pc := 112) C dX11_people_112 rfl ?_
          simp only [if_pos c24] at j23
          exact j23
        · refine gs_iconst (w := 1) (pc := 106) C dX11_people_106 rfl ?_
          refine gs_iload_n (pc := 107) C 3 dX11_people_107 rfl rfl ?_
          refine gs_ishl (pc := 108) C dX11_people_108 ?_
          refine gs_goto (pc := 109) C 113 dX11_people_109 rfl ?_
          simp only [if_neg c24] at j23
          exact j23
      refine gs_if_ne (pc := 34) C 59 dX11_people_34 rfl (fun c8 => ?_) (fun c8 => ?_)
      · replace e6 := gs_iff c8 e6
        refine gs_iload_n (pc := 59) C 1 dX11_people_59 rfl rfl ?_
        refine gs_iconst (w := 1) (pc := 60) C dX11_people_60 rfl ?_
        refine gs_icmp_ne (pc := 61) C 86 dX11_people_61 rfl (fun c9 => ?_) (fun c9 => ?_)
        · replace e6 := gs_iff c9 e6
          refine gs_aload_n (pc := 86) C 0 dX11_people_86 rfl rfl ?_
          refine gs_iload_n (pc := 87) C 3 dX11_people_87 rfl rfl ?_
          refine gs_aload_n (pc := 88) C 0 dX11_people_88 rfl rfl ?_
          refine gs_getq (pc := 89) C dX11_people_89 gk_11 fl_X11_71 sh_0 rfl ?_
          obtain ⟨v10, e11, e6⟩ := gs_o1 e6
          refine gs_callVi (pc := 92) C [] dX11_people_92 ml_X11_240 wy_X4_holding (a_X4_holding _ e11) (by decide) sh_105 (by decide) rfl rfl (Nat.le_of_ble_eq_true rfl) rfl ?_
          obtain ⟨v12, M13, e14, e6⟩ := gs_o2 e6
          refine gs_callVi (pc := 95) C [.int x3, .int v10] dX11_people_95 ml_X11_387 wy_X11_wouldBeGuilty (a_X11_wouldBeGuilty _ e14) (by decide) sh_0 (by decide) rfl rfl (Nat.le_of_ble_eq_true rfl) rfl ?_
          refine gs_istore (ls' := [(4, .int v12), (0, .ref 0), (1, .int x1), (2, .int x2), (3, .int x3)]) (pc := 98) C dX11_people_98 (by decide) rfl ?_
          obtain ⟨rfl, rfl⟩ := gs_i2 e6
          exact gs_sub [1, 2, 3, 4, 0] rfl (j7)
        · replace e6 := gs_ift c9 e6
          refine gs_aload_n (pc := 64) C 0 dX11_people_64 rfl rfl ?_
          refine gs_getq (pc := 65) C dX11_people_65 gk_11 fl_X11_29 sh_0 rfl ?_
          refine gs_iload_n (pc := 68) C 3 dX11_people_68 rfl rfl ?_
          refine gs_iconst (w := 0) (pc := 69) C dX11_people_69 rfl ?_
          obtain ⟨v15, e16, e6⟩ := gs_o1 e6
          refine gs_callVi (pc := 70) C [.int x3, .int (0 : Int32)] dX11_people_70 ml_X11_188 wy_X6_of (a_X6_of _ e16) (by decide) sh_9 (by decide) rfl rfl (Nat.le_of_ble_eq_true rfl) rfl ?_
          have j17 : gs_AW X 81 [(0, .ref 0), (1, .int x1), (2, .int x2), (3, .int x3)] [.int (if v15 = (0 : Int32) then (1 : Int32) else (0 : Int32) : Int32)] M L := by
            refine gs_istore (ls' := [(4, .int (if v15 = (0 : Int32) then (1 : Int32) else (0 : Int32) : Int32)), (0, .ref 0), (1, .int x1), (2, .int x2), (3, .int x3)]) (pc := 81) C dX11_people_81 (by decide) rfl ?_
            refine gs_goto (pc := 83) C 100 dX11_people_83 rfl ?_
            obtain ⟨rfl, rfl⟩ := gs_i2 e6
            exact gs_sub [1, 2, 3, 4, 0] rfl (j7)
          refine gs_if_ne (pc := 73) C 80 dX11_people_73 rfl (fun c18 => ?_) (fun c18 => ?_)
          · refine gs_iconst (w := 0) (pc := 80) C dX11_people_80 rfl ?_
            simp only [if_neg c18] at j17
            exact j17
          · refine gs_iconst (w := 1) (pc := 76) C dX11_people_76 rfl ?_
            refine gs_goto (pc := 77) C 81 dX11_people_77 rfl ?_
            simp only [if_pos c18] at j17
            exact j17
      · replace e6 := gs_ift c8 e6
        refine gs_aload_n (pc := 37) C 0 dX11_people_37 rfl rfl ?_
        refine gs_getq (pc := 38) C dX11_people_38 gk_11 fl_X11_29 sh_0 rfl ?_
        refine gs_iload_n (pc := 41) C 3 dX11_people_41 rfl rfl ?_
        refine gs_iconst (w := 5) (pc := 42) C dX11_people_42 rfl ?_
        obtain ⟨v19, e20, e6⟩ := gs_o1 e6
        refine gs_callVi (pc := 43) C [.int x3, .int (5 : Int32)] dX11_people_43 ml_X11_188 wy_X6_of (a_X6_of _ e20) (by decide) sh_9 (by decide) rfl rfl (Nat.le_of_ble_eq_true rfl) rfl ?_
        have j21 : gs_AW X 54 [(0, .ref 0), (1, .int x1), (2, .int x2), (3, .int x3)] [.int (if v19 = (0 : Int32) then (1 : Int32) else (0 : Int32) : Int32)] M L := by
          refine gs_istore (ls' := [(4, .int (if v19 = (0 : Int32) then (1 : Int32) else (0 : Int32) : Int32)), (0, .ref 0), (1, .int x1), (2, .int x2), (3, .int x3)]) (pc := 54) C dX11_people_54 (by decide) rfl ?_
          refine gs_goto (pc := 56) C 100 dX11_people_56 rfl ?_
          obtain ⟨rfl, rfl⟩ := gs_i2 e6
          exact gs_sub [1, 2, 3, 4, 0] rfl (j7)
        refine gs_if_ne (pc := 46) C 53 dX11_people_46 rfl (fun c22 => ?_) (fun c22 => ?_)
        · refine gs_iconst (w := 0) (pc := 53) C dX11_people_53 rfl ?_
          simp only [if_neg c22] at j21
          exact j21
        · refine gs_iconst (w := 1) (pc := 49) C dX11_people_49 rfl ?_
          refine gs_goto (pc := 50) C 54 dX11_people_50 rfl ?_
          simp only [if_pos c22] at j21
          exact j21
set_option maxRecDepth 100000 in
set_option maxHeartbeats 4000000 in
theorem a_X11_people (l : Launch) {M : gs_M} {L : gs_L} {x1 : Int32} {rv : Int32} {Mz : gs_M} (h : f_X11_people M x1 = some (rv, Mz)) : gs_Met l 6 yX11_people cX11_people 5 (some .int) [.ref 0, .int x1] M L (some (.int rv)) Mz L := by
  unfold f_X11_people at h
  refine gs_of RX11 (by decide) rfl (Nat.le_of_ble_eq_true rfl) (fun X C E => ?_)
  show gs_AW X 0 [(0, .ref 0), (1, .int x1)] [] M L
  refine gs_aload_n (pc := 0) C 0 dX11_people_0 rfl rfl ?_
  obtain ⟨v1, e2, h⟩ := gs_o1 h
  refine gs_callVi (pc := 1) C [] dX11_people_1 ml_X11_172 wy_X11_hasTown (a_X11_hasTown _ e2) (by decide) sh_0 (by decide) rfl rfl (Nat.le_of_ble_eq_true rfl) rfl ?_
  refine gs_if_eq (pc := 4) C 16 dX11_people_4 rfl (fun c3 => ?_) (fun c3 => ?_)
  · replace h := gs_ift c3 h
    refine gs_iconst (w := (-1)) (pc := 16) C dX11_people_16 rfl ?_
    obtain ⟨rfl, rfl⟩ := gs_i2 h
    exact gs_iret (pc := 17) C dX11_people_17 E
  · replace h := gs_iff c3 h
    refine gs_iload_n (pc := 7) C 1 dX11_people_7 rfl rfl ?_
    refine gs_if_lt (pc := 8) C 16 dX11_people_8 rfl (fun c4 => ?_) (fun c4 => ?_)
    · replace h := gs_ift c4 h
      refine gs_iconst (w := (-1)) (pc := 16) C dX11_people_16 rfl ?_
      obtain ⟨rfl, rfl⟩ := gs_i2 h
      exact gs_iret (pc := 17) C dX11_people_17 E
    · replace h := gs_iff c4 h
      refine gs_iload_n (pc := 11) C 1 dX11_people_11 rfl rfl ?_
      refine gs_iconst (w := 2) (pc := 12) C dX11_people_12 rfl ?_
      refine gs_icmp_le (pc := 13) C 18 dX11_people_13 rfl (fun c5 => ?_) (fun c5 => ?_)
      · replace h := gs_ift c5 h
        refine gs_iconst (w := 0) (pc := 18) C dX11_people_18 rfl ?_
        refine gs_istore_n (ls' := [(2, .int (0 : Int32)), (0, .ref 0), (1, .int x1)]) (pc := 19) C dX11_people_19 rfl (by decide) rfl ?_
        refine gs_iconst (w := 0) (pc := 20) C dX11_people_20 rfl ?_
        refine gs_istore_n (ls' := [(3, .int (0 : Int32)), (2, .int (0 : Int32)), (0, .ref 0), (1, .int x1)]) (pc := 21) C dX11_people_21 rfl (by decide) rfl ?_
        obtain ⟨y6, y7, M8, e9, h⟩ := gs_o3 h
        refine gs_sub [2, 3, 1, 0] rfl (t_X11_people_22 C ?_ gs_FU _ _ _ e9)
        refine gs_iload_n (pc := 121) C 2 dX11_people_121 rfl rfl ?_
        obtain ⟨rfl, rfl⟩ := gs_i2 h
        exact gs_iret (pc := 122) C dX11_people_122 E
      · replace h := gs_iff c5 h
        refine gs_iconst (w := (-1)) (pc := 16) C dX11_people_16 rfl ?_
        obtain ⟨rfl, rfl⟩ := gs_i2 h
        exact gs_iret (pc := 17) C dX11_people_17 E
set_option maxRecDepth 100000 in
set_option maxHeartbeats 4000000 in
theorem a_X11_points (l : Launch) {M : gs_M} {L : gs_L} {x1 : Int32} {rv : Int32} {Mz : gs_M} (h : f_X11_points M x1 = some (rv, Mz)) : gs_Met l 5 yX11_points cX11_points 2 (some .int) [.ref 0, .int x1] M L (some (.int rv)) Mz L := by
  unfold f_X11_points at h
  refine gs_of RX11 (by decide) rfl (Nat.le_of_ble_eq_true rfl) (fun X C E => ?_)
  show gs_AW X 0 [(0, .ref 0), (1, .int x1)] [] M L
  refine gs_aload_n (pc := 0) C 0 dX11_points_0 rfl rfl ?_
  refine gs_iload_n (pc := 1) C 1 dX11_points_1 rfl rfl ?_
  obtain ⟨v1, e2, h⟩ := gs_o1 h
  refine gs_callVi (pc := 2) C [.int x1] dX11_points_2 ml_X11_178 wy_X11_isPerson (a_X11_isPerson _ e2) (by decide) sh_0 (by decide) rfl rfl (Nat.le_of_ble_eq_true rfl) rfl ?_
  obtain ⟨y3, M4, e5, h⟩ := gs_o2 h
  have j6 : gs_AW X 28 [(0, .ref 0), (1, .int x1)] [.int y3] M4 L := by
    obtain ⟨rfl, rfl⟩ := gs_i2 h
    exact gs_iret (pc := 28) C dX11_points_28 E
  refine gs_if_eq (pc := 5) C 26 dX11_points_5 rfl (fun c7 => ?_) (fun c7 => ?_)
  · replace e5 := gs_ift c7 e5
    refine gs_ldc (pc := 26) C dX11_points_26 wk_X11_206 ?_
    obtain ⟨rfl, rfl⟩ := gs_i2 e5
    exact j6
  · replace e5 := gs_iff c7 e5
    refine gs_aload_n (pc := 8) C 0 dX11_points_8 rfl rfl ?_
    refine gs_getq (pc := 9) C dX11_points_9 gk_11 fl_X11_71 sh_0 rfl ?_
    refine gs_iload_n (pc := 12) C 1 dX11_points_12 rfl rfl ?_
    refine gs_aload_n (pc := 13) C 0 dX11_points_13 rfl rfl ?_
    refine gs_getq (pc := 14) C dX11_points_14 gk_11 fl_X11_71 sh_0 rfl ?_
    obtain ⟨v8, e9, e5⟩ := gs_o1 e5
    refine gs_callVi (pc := 17) C [] dX11_points_17 ml_X11_240 wy_X4_holding (a_X4_holding _ e9) (by decide) sh_105 (by decide) rfl rfl (Nat.le_of_ble_eq_true rfl) rfl ?_
    obtain ⟨v10, M11, e12, e5⟩ := gs_o2 e5
    refine gs_callVi (pc := 20) C [.int x1, .int v8] dX11_points_20 ml_X11_243 wy_X4_caseOf (a_X4_caseOf _ e12) (by decide) sh_105 (by decide) rfl rfl (Nat.le_of_ble_eq_true rfl) rfl ?_
    refine gs_goto (pc := 23) C 28 dX11_points_23 rfl ?_
    obtain ⟨rfl, rfl⟩ := gs_i2 e5
    exact j6
set_option maxRecDepth 100000 in
set_option maxHeartbeats 4000000 in
theorem t_X11_rests_61 {X : gs_X} (C : gs_C X RX11 cX11_rests 9 (some .int) 5) {M : gs_M} {L : gs_L} {x1 : Int32} {x2 : Int32} {x3 : Int32} {x4 : Int32} {rv : Int32} {Mz : gs_M} (E : gs_E X (some (.int rv)) Mz L) : ∀ (f : Nat) (x5 : Int32) (x6 : Int32), l_X11_rests_61 M x1 x2 x3 x4 f x5 x6 = some (rv, Mz) → gs_AW X 61 [(0, .ref 0), (1, .int x1), (2, .int x2), (3, .int x3), (4, .int x4), (5, .int x5), (6, .int x6)] [] M L := by
  intro f
  induction f with
  | zero =>
    intro x5 x6 h
    cases h
  | succ f ih =>
    intro x5 x6 h
    rw [l_X11_rests_61] at h
    refine gs_iload (pc := 61) C 6 dX11_rests_61 rfl ?_
    refine gs_iconst (w := 4) (pc := 63) C dX11_rests_63 rfl ?_
    refine gs_icmp_ge (pc := 64) C 147 dX11_rests_64 rfl (fun c1 => ?_) (fun c1 => ?_)
    · replace h := gs_ift c1 h
      refine gs_iload_n (pc := 147) C 2 dX11_rests_147 rfl rfl ?_
      refine gs_iconst (w := (-1)) (pc := 148) C dX11_rests_148 rfl ?_
      have j2 : gs_AW X 158 [(0, .ref 0), (1, .int x1), (2, .int x2), (3, .int x3), (4, .int x4), (5, .int x5), (6, .int x6)] [.int (if x2 = (-1 : Int32) then x5 else (-1 : Int32) : Int32)] M L := by
        obtain ⟨rfl, rfl⟩ := gs_i2 h
        exact gs_iret (pc := 158) C dX11_rests_158 E
      refine gs_icmp_ne (pc := 149) C 157 dX11_rests_149 rfl (fun c3 => ?_) (fun c3 => ?_)
      · refine gs_iconst (w := (-1)) (pc := 157) C dX11_rests_157 rfl ?_
        simp only [if_neg c3] at j2
        exact j2
      · refine gs_iload (pc := 152) C 5 dX11_rests_152 rfl ?_
        refine gs_goto (pc := 154) C 158 dX11_rests_154 rfl ?_
        simp only [if_pos c3] at j2
        exact j2
    · replace h := gs_iff c1 h
      refine gs_iload (pc := 67) C 6 dX11_rests_67 rfl ?_
      refine gs_iconst (w := 2) (pc := 69) C dX11_rests_69 rfl ?_
      obtain ⟨v4, e5, h⟩ := gs_o1 h
      refine gs_idiv' (pc := 70) C dX11_rests_70 e5 ?_
      refine gs_istore (ls' := [(7, .int v4), (0, .ref 0), (1, .int x1), (2, .int x2), (3, .int x3), (4, .int x4), (5, .int x5), (6, .int x6)]) (pc := 71) C dX11_rests_71 (by decide) rfl ?_
      refine gs_iload (pc := 73) C 7 dX11_rests_73 rfl ?_
      refine gs_iconst (w := 2) (pc := 75) C dX11_rests_75 rfl ?_
      obtain ⟨v6, e7, h⟩ := gs_o1 h
      refine gs_irem' (pc := 76) C dX11_rests_76 e7 ?_
      refine gs_istore (ls' := [(8, .int v6), (7, .int v4), (0, .ref 0), (1, .int x1), (2, .int x2), (3, .int x3), (4, .int x4), (5, .int x5), (6, .int x6)]) (pc := 77) C dX11_rests_77 (by decide) rfl ?_
      refine gs_iload_n (pc := 79) C 5 dX11_rests_79 rfl rfl ?_
      refine gs_iload (pc := 80) C 1 dX11_rests_80 rfl ?_
      refine gs_iload (pc := 82) C 0 dX11_rests_82 rfl ?_
      obtain ⟨v8, e9, h⟩ := gs_o1 h
      refine gs_callSi (pc := 84) C [.int x3, .int v4, .int v6] dX11_rests_84 ml_X11_377 wy_X11_share (a_X11_share _ e9) (by decide) rfl (Nat.le_of_ble_eq_true rfl) rfl ?_
      refine gs_iload_n (pc := 87) C 5 dX11_rests_87 rfl rfl ?_
      refine gs_iconst (w := 1) (pc := 88) C dX11_rests_88 rfl ?_
      refine gs_iload (pc := 89) C 1 dX11_rests_89 rfl ?_
      refine gs_isub (pc := 91) C dX11_rests_91 ?_
      refine gs_iload (pc := 92) C 0 dX11_rests_92 rfl ?_
      obtain ⟨v10, e11, h⟩ := gs_o1 h
      refine gs_callSi (pc := 94) C [.int x3, .int ((1 : Int32) - v4), .int v6] dX11_rests_94 ml_X11_377 wy_X11_share (a_X11_share _ e11) (by decide) rfl (Nat.le_of_ble_eq_true rfl) rfl ?_
      refine gs_icmp_lt (pc := 97) C 141 dX11_rests_97 rfl (fun c12 => ?_) (fun c12 => ?_)
      · replace h := gs_ift c12 h
        refine gs_iinc (v := x6 + (1 : Int32)) (ls' := [(6, .int (x6 + (1 : Int32))), (8, .int v6), (7, .int v4), (0, .ref 0), (1, .int x1), (2, .int x2), (3, .int x3), (4, .int x4), (5, .int x5)]) (pc := 141) C 8 dX11_rests_141 rfl rfl (by decide) rfl ?_
        refine gs_goto (pc := 144) C 61 dX11_rests_144 rfl ?_
        exact gs_sub [3, 4, 5, 6, 7, 8, 0] rfl (ih _ _ h)
      · replace h := gs_iff c12 h
        refine gs_iload (pc := 100) C 6 dX11_rests_100 rfl ?_
        refine gs_iload (pc := 102) C 0 dX11_rests_102 rfl ?_
        refine gs_iload (pc := 104) C 1 dX11_rests_104 rfl ?_
        obtain ⟨v13, e14, h⟩ := gs_o1 h
        refine gs_callSi (pc := 106) C [.int x4, .int v6, .int v4] dX11_rests_106 ml_X11_377 wy_X11_share (a_X11_share _ e14) (by decide) rfl (Nat.le_of_ble_eq_true rfl) rfl ?_
        refine gs_iload (pc := 109) C 6 dX11_rests_109 rfl ?_
        refine gs_iconst (w := 1) (pc := 111) C dX11_rests_111 rfl ?_
        refine gs_iload (pc := 112) C 0 dX11_rests_112 rfl ?_
        refine gs_isub (pc := 114) C dX11_rests_114 ?_
        refine gs_iload (pc := 115) C 1 dX11_rests_115 rfl ?_
        obtain ⟨v15, e16, h⟩ := gs_o1 h
        refine gs_callSi (pc := 117) C [.int x4, .int ((1 : Int32) - v6), .int v4] dX11_rests_117 ml_X11_377 wy_X11_share (a_X11_share _ e16) (by decide) rfl (Nat.le_of_ble_eq_true rfl) rfl ?_
        refine gs_icmp_lt (pc := 120) C 141 dX11_rests_120 rfl (fun c17 => ?_) (fun c17 => ?_)
        · replace h := gs_ift c17 h
          refine gs_iinc (v := x6 + (1 : Int32)) (ls' := [(6, .int (x6 + (1 : Int32))), (8, .int v6), (7, .int v4), (0, .ref 0), (1, .int x1), (2, .int x2), (3, .int x3), (4, .int x4), (5, .int x5)]) (pc := 141) C 8 dX11_rests_141 rfl rfl (by decide) rfl ?_
          refine gs_goto (pc := 144) C 61 dX11_rests_144 rfl ?_
          exact gs_sub [3, 4, 5, 6, 7, 8, 0] rfl (ih _ _ h)
        · replace h := gs_iff c17 h
          refine gs_iload (pc := 123) C 7 dX11_rests_123 rfl ?_
          refine gs_iload_n (pc := 125) C 4 dX11_rests_125 rfl rfl ?_
          refine gs_icmp_ne (pc := 126) C 138 dX11_rests_126 rfl (fun c18 => ?_) (fun c18 => ?_)
          · replace h := gs_iff c18 h
            refine gs_iinc (v := x5 + (1 : Int32)) (ls' := [(5, .int (x5 + (1 : Int32))), (8, .int v6), (7, .int v4), (0, .ref 0), (1, .int x1), (2, .int x2), (3, .int x3), (4, .int x4), (6, .int x6)]) (pc := 138) C 7 dX11_rests_138 rfl rfl (by decide) rfl ?_
            refine gs_iinc (v := x6 + (1 : Int32)) (ls' := [(6, .int (x6 + (1 : Int32))), (5, .int (x5 + (1 : Int32))), (8, .int v6), (7, .int v4), (0, .ref 0), (1, .int x1), (2, .int x2), (3, .int x3), (4, .int x4)]) (pc := 141) C 8 dX11_rests_141 rfl rfl (by decide) rfl ?_
            refine gs_goto (pc := 144) C 61 dX11_rests_144 rfl ?_
            exact gs_sub [4, 5, 6, 7, 8, 1, 0] rfl (ih _ _ h)
          · replace h := gs_ift c18 h
            refine gs_bipush (w := 10) (pc := 129) C dX11_rests_129 rfl ?_
            refine gs_iload (pc := 131) C 1 dX11_rests_131 rfl ?_
            refine gs_imul (pc := 133) C dX11_rests_133 ?_
            refine gs_iload (pc := 134) C 0 dX11_rests_134 rfl ?_
            refine gs_iadd (pc := 136) C dX11_rests_136 ?_
            obtain ⟨rfl, rfl⟩ := gs_i2 h
            exact gs_iret (pc := 137) C dX11_rests_137 E
set_option maxRecDepth 100000 in
set_option maxHeartbeats 4000000 in
theorem a_X11_rests (l : Launch) {M : gs_M} {L : gs_L} {x1 : Int32} {x2 : Int32} {rv : Int32} {Mz : gs_M} (h : f_X11_rests M x1 x2 = some (rv, Mz)) : gs_Met l 5 yX11_rests cX11_rests 9 (some .int) [.ref 0, .int x1, .int x2] M L (some (.int rv)) Mz L := by
  unfold f_X11_rests at h
  refine gs_of RX11 (by decide) rfl (Nat.le_of_ble_eq_true rfl) (fun X C E => ?_)
  show gs_AW X 0 [(0, .ref 0), (1, .int x1), (2, .int x2)] [] M L
  refine gs_aload_n (pc := 0) C 0 dX11_rests_0 rfl rfl ?_
  refine gs_iload_n (pc := 1) C 1 dX11_rests_1 rfl rfl ?_
  obtain ⟨v1, e2, h⟩ := gs_o1 h
  refine gs_callVi (pc := 2) C [.int x1] dX11_rests_2 ml_X11_371 wy_X11_isMarried (a_X11_isMarried _ e2) (by decide) sh_0 (by decide) rfl rfl (Nat.le_of_ble_eq_true rfl) rfl ?_
  refine gs_if_eq (pc := 5) C 13 dX11_rests_5 rfl (fun c3 => ?_) (fun c3 => ?_)
  · replace h := gs_ift c3 h
    refine gs_iconst (w := (-1)) (pc := 13) C dX11_rests_13 rfl ?_
    obtain ⟨rfl, rfl⟩ := gs_i2 h
    exact gs_iret (pc := 14) C dX11_rests_14 E
  · replace h := gs_iff c3 h
    refine gs_iload_n (pc := 8) C 2 dX11_rests_8 rfl rfl ?_
    refine gs_iconst (w := (-1)) (pc := 9) C dX11_rests_9 rfl ?_
    refine gs_icmp_ge (pc := 10) C 15 dX11_rests_10 rfl (fun c4 => ?_) (fun c4 => ?_)
    · replace h := gs_ift c4 h
      refine gs_aload_n (pc := 15) C 0 dX11_rests_15 rfl rfl ?_
      refine gs_getq (pc := 16) C dX11_rests_16 gk_11 fl_X11_71 sh_0 rfl ?_
      refine gs_iload_n (pc := 19) C 1 dX11_rests_19 rfl rfl ?_
      refine gs_aload_n (pc := 20) C 0 dX11_rests_20 rfl rfl ?_
      refine gs_getq (pc := 21) C dX11_rests_21 gk_11 fl_X11_71 sh_0 rfl ?_
      obtain ⟨v5, e6, h⟩ := gs_o1 h
      refine gs_callVi (pc := 24) C [] dX11_rests_24 ml_X11_240 wy_X4_holding (a_X4_holding _ e6) (by decide) sh_105 (by decide) rfl rfl (Nat.le_of_ble_eq_true rfl) rfl ?_
      obtain ⟨v7, M8, e9, h⟩ := gs_o2 h
      refine gs_callVi (pc := 27) C [.int x1, .int v5] dX11_rests_27 ml_X11_243 wy_X4_caseOf (a_X4_caseOf _ e9) (by decide) sh_105 (by decide) rfl rfl (Nat.le_of_ble_eq_true rfl) rfl ?_
      refine gs_istore_n (ls' := [(3, .int v7), (0, .ref 0), (1, .int x1), (2, .int x2)]) (pc := 30) C dX11_rests_30 rfl (by decide) rfl ?_
      refine gs_aload_n (pc := 31) C 1 dX11_rests_31 rfl rfl ?_
      refine gs_getq (pc := 32) C dX11_rests_32 gk_11 fl_X11_71 sh_0 rfl ?_
      refine gs_aload_n (pc := 35) C 1 dX11_rests_35 rfl rfl ?_
      refine gs_getq (pc := 36) C dX11_rests_36 gk_11 fl_X11_19 sh_0 rfl ?_
      refine gs_iload_n (pc := 39) C 2 dX11_rests_39 rfl rfl ?_
      obtain ⟨v10, e11, h⟩ := gs_o1 h
      refine gs_callVi (pc := 40) C [.int x1] dX11_rests_40 ml_X11_194 wy_X9_spouse (a_X9_spouse _ e11) (by decide) sh_3 (by decide) rfl rfl (Nat.le_of_ble_eq_true rfl) rfl ?_
      refine gs_aload_n (pc := 43) C 1 dX11_rests_43 rfl rfl ?_
      refine gs_getq (pc := 44) C dX11_rests_44 gk_11 fl_X11_71 sh_0 rfl ?_
      obtain ⟨v12, e13, h⟩ := gs_o1 h
      refine gs_callVi (pc := 47) C [] dX11_rests_47 ml_X11_240 wy_X4_holding (a_X4_holding _ e13) (by decide) sh_105 (by decide) rfl rfl (Nat.le_of_ble_eq_true rfl) rfl ?_
      obtain ⟨v14, M15, e16, h⟩ := gs_o2 h
      refine gs_callVi (pc := 50) C [.int v10, .int v12] dX11_rests_50 ml_X11_243 wy_X4_caseOf (a_X4_caseOf _ e16) (by decide) sh_105 (by decide) rfl rfl (Nat.le_of_ble_eq_true rfl) rfl ?_
      refine gs_istore (ls' := [(4, .int v14), (3, .int v7), (0, .ref 0), (1, .int x1), (2, .int x2)]) (pc := 53) C dX11_rests_53 (by decide) rfl ?_
      refine gs_iconst (w := 0) (pc := 55) C dX11_rests_55 rfl ?_
      refine gs_istore (ls' := [(5, .int (0 : Int32)), (4, .int v14), (3, .int v7), (0, .ref 0), (1, .int x1), (2, .int x2)]) (pc := 56) C dX11_rests_56 (by decide) rfl ?_
      refine gs_iconst (w := 0) (pc := 58) C dX11_rests_58 rfl ?_
      refine gs_istore (ls' := [(6, .int (0 : Int32)), (5, .int (0 : Int32)), (4, .int v14), (3, .int v7), (0, .ref 0), (1, .int x1), (2, .int x2)]) (pc := 59) C dX11_rests_59 (by decide) rfl ?_
      exact gs_sub [4, 5, 6, 3, 2, 1, 0] rfl (t_X11_rests_61 C E gs_FU _ _ h)
    · replace h := gs_iff c4 h
      refine gs_iconst (w := (-1)) (pc := 13) C dX11_rests_13 rfl ?_
      obtain ⟨rfl, rfl⟩ := gs_i2 h
      exact gs_iret (pc := 14) C dX11_rests_14 E
set_option maxRecDepth 100000 in
set_option maxHeartbeats 4000000 in
theorem a_X11_rule (l : Launch) {M : gs_M} {L : gs_L} {x1 : Int32} {rv : Int32} (h : f_X11_rule M x1 = some (rv)) : gs_Met l 2 yX11_rule cX11_rule 2 (some .int) [.ref 0, .int x1] M L (some (.int rv)) M L := by
  unfold f_X11_rule at h
  refine gs_of RX11 (by decide) rfl (Nat.le_of_ble_eq_true rfl) (fun X C E => ?_)
  show gs_AW X 0 [(0, .ref 0), (1, .int x1)] [] M L
  refine gs_aload_n (pc := 0) C 0 dX11_rule_0 rfl rfl ?_
  obtain ⟨v1, e2, h⟩ := gs_o1 h
  refine gs_callVi (pc := 1) C [] dX11_rule_1 ml_X11_172 wy_X11_hasTown (a_X11_hasTown _ e2) (by decide) sh_0 (by decide) rfl rfl (Nat.le_of_ble_eq_true rfl) rfl ?_
  obtain ⟨y3, e4, h⟩ := gs_o1 h
  have j5 : gs_AW X 28 [(0, .ref 0), (1, .int x1)] [.int y3] M L := by
    obtain rfl := gs_i1 h
    exact gs_iret (pc := 28) C dX11_rule_28 E
  refine gs_if_eq (pc := 4) C 27 dX11_rule_4 rfl (fun c6 => ?_) (fun c6 => ?_)
  · replace e4 := gs_ift c6 e4
    refine gs_iconst (w := (-1)) (pc := 27) C dX11_rule_27 rfl ?_
    obtain rfl := gs_i1 e4
    exact j5
  · replace e4 := gs_iff c6 e4
    refine gs_iload_n (pc := 7) C 1 dX11_rule_7 rfl rfl ?_
    refine gs_if_lt (pc := 8) C 27 dX11_rule_8 rfl (fun c7 => ?_) (fun c7 => ?_)
    · replace e4 := gs_ift c7 e4
      refine gs_iconst (w := (-1)) (pc := 27) C dX11_rule_27 rfl ?_
      obtain rfl := gs_i1 e4
      exact j5
    · replace e4 := gs_iff c7 e4
      refine gs_iload_n (pc := 11) C 1 dX11_rule_11 rfl rfl ?_
      refine gs_iconst (w := 3) (pc := 12) C dX11_rule_12 rfl ?_
      refine gs_icmp_ge (pc := 13) C 27 dX11_rule_13 rfl (fun c8 => ?_) (fun c8 => ?_)
      · replace e4 := gs_ift c8 e4
        refine gs_iconst (w := (-1)) (pc := 27) C dX11_rule_27 rfl ?_
        obtain rfl := gs_i1 e4
        exact j5
      · replace e4 := gs_iff c8 e4
        refine gs_aload_n (pc := 16) C 0 dX11_rule_16 rfl rfl ?_
        refine gs_getq (pc := 17) C dX11_rule_17 gk_11 fl_X11_19 sh_0 rfl ?_
        refine gs_iload_n (pc := 20) C 1 dX11_rule_20 rfl rfl ?_
        obtain ⟨v9, e10, e4⟩ := gs_o1 e4
        refine gs_callVi (pc := 21) C [.int x1] dX11_rule_21 ml_X11_175 wy_X9_ruled (a_X9_ruled _ e10) (by decide) sh_3 (by decide) rfl rfl (Nat.le_of_ble_eq_true rfl) rfl ?_
        refine gs_goto (pc := 24) C 28 dX11_rule_24 rfl ?_
        obtain rfl := gs_i1 e4
        exact j5
set_option maxRecDepth 100000 in
set_option maxHeartbeats 4000000 in
theorem a_X10_has (l : Launch) {M : gs_M} {L : gs_L} {x1 : Int32} {rv : Int32} (h : f_X10_has M x1 = some (rv)) : gs_Met l 0 yX10_has cX10_has 2 (some .boolean) [.ref 95, .int x1] M L (some (.int rv)) M L := by
  unfold f_X10_has at h
  refine gs_of RX10 (by decide) rfl (Nat.le_of_ble_eq_true rfl) (fun X C E => ?_)
  show gs_AW X 0 [(0, .ref 95), (1, .int x1)] [] M L
  refine gs_iload_n (pc := 0) C 1 dX10_has_0 rfl rfl ?_
  have j3 : gs_AW X 17 [(0, .ref 95), (1, .int x1)] [.int (if x1 < (0 : Int32) then (0 : Int32) else if (M 95 2) ≤ x1 then (0 : Int32) else (1 : Int32) : Int32)] M L := by
    obtain ⟨z1, e2, h⟩ := gs_o1 h
    obtain rfl := gs_i1 h
    exact gs_zret' (pc := 17) C dX10_has_17 e2 E
  refine gs_if_lt (pc := 1) C 16 dX10_has_1 rfl (fun c4 => ?_) (fun c4 => ?_)
  · refine gs_iconst (w := 0) (pc := 16) C dX10_has_16 rfl ?_
    simp only [if_pos c4] at j3
    exact j3
  · refine gs_iload_n (pc := 4) C 1 dX10_has_4 rfl rfl ?_
    refine gs_aload_n (pc := 5) C 0 dX10_has_5 rfl rfl ?_
    refine gs_geti (pc := 6) C dX10_has_6 gk_10 fl_X10_22 sh_95 rfl ?_
    refine gs_icmp_ge (pc := 9) C 16 dX10_has_9 rfl (fun c5 => ?_) (fun c5 => ?_)
    · refine gs_iconst (w := 0) (pc := 16) C dX10_has_16 rfl ?_
      simp only [if_neg c4, if_pos c5] at j3
      exact j3
    · refine gs_iconst (w := 1) (pc := 12) C dX10_has_12 rfl ?_
      refine gs_goto (pc := 13) C 17 dX10_has_13 rfl ?_
      simp only [if_neg c4, if_neg c5] at j3
      exact j3
set_option maxRecDepth 100000 in
set_option maxHeartbeats 4000000 in
theorem t_X11_changeBy_4 {X : gs_X} (C : gs_C X RX11 cX11_changeBy 4 (some .int) 0) {M : gs_M} {L : gs_L} {x1 : Int32} {o2 : Int32} {o3 : Int32} (k : gs_AW X 34 [(0, .ref 0), (1, .int x1), (2, .int o2), (3, .int o3)] [] M L) : ∀ (f : Nat) (x2 : Int32) (x3 : Int32), l_X11_changeBy_4 M x1 f x2 x3 = some (o2, o3) → gs_AW X 4 [(0, .ref 0), (1, .int x1), (2, .int x2), (3, .int x3)] [] M L := by
  intro f
  induction f with
  | zero =>
    intro x2 x3 h
    cases h
  | succ f ih =>
    intro x2 x3 h
    rw [l_X11_changeBy_4] at h
    refine gs_iload_n (pc := 4) C 3 dX11_changeBy_4 rfl rfl ?_
    refine gs_bipush (w := 9) (pc := 5) C dX11_changeBy_5 rfl ?_
    refine gs_icmp_ge (pc := 7) C 34 dX11_changeBy_7 rfl (fun c1 => ?_) (fun c1 => ?_)
    · replace h := gs_ift c1 h
      obtain ⟨rfl, rfl⟩ := gs_i2 h
      exact k
    · replace h := gs_iff c1 h
      refine gs_iload_n (pc := 10) C 1 dX11_changeBy_10 rfl rfl ?_
      refine gs_iload_n (pc := 11) C 3 dX11_changeBy_11 rfl rfl ?_
      refine gs_ishr (pc := 12) C dX11_changeBy_12 ?_
      refine gs_iconst (w := 1) (pc := 13) C dX11_changeBy_13 rfl ?_
      refine gs_iand (pc := 14) C dX11_changeBy_14 ?_
      refine gs_iconst (w := 1) (pc := 15) C dX11_changeBy_15 rfl ?_
      obtain ⟨y2, e3, h⟩ := gs_o1 h
      have j4 : gs_AW X 28 [(0, .ref 0), (1, .int x1), (2, .int y2), (3, .int x3)] [] M L := by
        refine gs_iinc (v := x3 + (1 : Int32)) (ls' := [(3, .int (x3 + (1 : Int32))), (0, .ref 0), (1, .int x1), (2, .int y2)]) (pc := 28) C 3 dX11_changeBy_28 rfl rfl (by decide) rfl ?_
        refine gs_goto (pc := 31) C 4 dX11_changeBy_31 rfl ?_
        exact gs_sub [1, 2, 3, 0] rfl (ih _ _ h)
      refine gs_icmp_ne (pc := 16) C 28 dX11_changeBy_16 rfl (fun c5 => ?_) (fun c5 => ?_)
      · replace e3 := gs_iff c5 e3
        obtain rfl := gs_i1 e3
        exact j4
      · replace e3 := gs_ift c5 e3
        refine gs_iload_n (pc := 19) C 2 dX11_changeBy_19 rfl rfl ?_
        refine gs_aload_n (pc := 20) C 0 dX11_changeBy_20 rfl rfl ?_
        refine gs_getq (pc := 21) C dX11_changeBy_21 gk_11 fl_X11_102 sh_0 rfl ?_
        refine gs_iload_n (pc := 24) C 3 dX11_changeBy_24 rfl rfl ?_
        obtain ⟨v6, e7, e3⟩ := gs_o1 e3
        refine gs_iald (pc := 25) C dX11_changeBy_25 sh_146 e7 ?_
        refine gs_iadd (pc := 26) C dX11_changeBy_26 ?_
        refine gs_istore_n (ls' := [(2, .int (x2 + v6)), (0, .ref 0), (1, .int x1), (3, .int x3)]) (pc := 27) C dX11_changeBy_27 rfl (by decide) rfl ?_
        obtain rfl := gs_i1 e3
        exact gs_sub [1, 2, 0, 3] rfl (j4)
set_option maxRecDepth 100000 in
set_option maxHeartbeats 4000000 in
theorem a_X11_changeBy (l : Launch) {M : gs_M} {L : gs_L} {x1 : Int32} {rv : Int32} (h : f_X11_changeBy M x1 = some (rv)) : gs_Met l 0 yX11_changeBy cX11_changeBy 4 (some .int) [.ref 0, .int x1] M L (some (.int rv)) M L := by
  unfold f_X11_changeBy at h
  refine gs_of RX11 (by decide) rfl (Nat.le_of_ble_eq_true rfl) (fun X C E => ?_)
  show gs_AW X 0 [(0, .ref 0), (1, .int x1)] [] M L
  refine gs_iconst (w := 0) (pc := 0) C dX11_changeBy_0 rfl ?_
  refine gs_istore_n (ls' := [(2, .int (0 : Int32)), (0, .ref 0), (1, .int x1)]) (pc := 1) C dX11_changeBy_1 rfl (by decide) rfl ?_
  refine gs_iconst (w := 0) (pc := 2) C dX11_changeBy_2 rfl ?_
  refine gs_istore_n (ls' := [(3, .int (0 : Int32)), (2, .int (0 : Int32)), (0, .ref 0), (1, .int x1)]) (pc := 3) C dX11_changeBy_3 rfl (by decide) rfl ?_
  obtain ⟨y1, y2, e3, h⟩ := gs_o2 h
  refine gs_sub [2, 3, 1, 0] rfl (t_X11_changeBy_4 C ?_ gs_FU _ _ e3)
  refine gs_iload_n (pc := 34) C 2 dX11_changeBy_34 rfl rfl ?_
  obtain rfl := gs_i1 h
  exact gs_iret (pc := 35) C dX11_changeBy_35 E
set_option maxRecDepth 100000 in
set_option maxHeartbeats 4000000 in
theorem t_X11_seem_43 {X : gs_X} (C : gs_C X RX11 cX11_seem 8 (some .int) 5) {L : gs_L} {x1 : Int32} {x2 : Int32} {x3 : Int32} {o4 : Int32} {o5 : Int32} {M' : gs_M} (k : gs_AW X 141 [(0, .ref 0), (1, .int x1), (2, .int x2), (3, .int x3), (4, .int o4), (5, .int o5)] [] M' L) : ∀ (f : Nat) (x4 : Int32) (x5 : Int32) (M : gs_M), l_X11_seem_43 x1 x2 x3 f x4 x5 M = some (o4, o5, M') → gs_AW X 43 [(0, .ref 0), (1, .int x1), (2, .int x2), (3, .int x3), (4, .int x4), (5, .int x5)] [] M L := by
  intro f
  induction f with
  | zero =>
    intro x4 x5 M h
    cases h
  | succ f ih =>
    intro x4 x5 M h
    rw [l_X11_seem_43] at h
    refine gs_iload (pc := 43) C 5 dX11_seem_43 rfl ?_
    refine gs_aload_n (pc := 45) C 0 dX11_seem_45 rfl rfl ?_
    refine gs_getq (pc := 46) C dX11_seem_46 gk_11 fl_X11_19 sh_0 rfl ?_
    obtain ⟨v1, e2, h⟩ := gs_o1 h
    refine gs_callVi (pc := 49) C [] dX11_seem_49 ml_X11_305 wy_X9_hours (a_X9_hours _ e2) (by decide) sh_3 (by decide) rfl rfl (Nat.le_of_ble_eq_true rfl) rfl ?_
    refine gs_icmp_ge (pc := 52) C 141 dX11_seem_52 rfl (fun c3 => ?_) (fun c3 => ?_)
    · replace h := gs_ift c3 h
      obtain ⟨rfl, rfl, rfl⟩ := gs_i3 h
      exact k
    · replace h := gs_iff c3 h
      refine gs_aload_n (pc := 55) C 0 dX11_seem_55 rfl rfl ?_
      refine gs_getq (pc := 56) C dX11_seem_56 gk_11 fl_X11_46 sh_0 rfl ?_
      refine gs_iload_n (pc := 59) C 2 dX11_seem_59 rfl rfl ?_
      refine gs_iload (pc := 60) C 5 dX11_seem_60 rfl ?_
      obtain ⟨v4, e5, h⟩ := gs_o1 h
      refine gs_callVi (pc := 62) C [.int x2, .int x5] dX11_seem_62 ml_X11_207 wy_X10_toldAt (a_X10_toldAt _ e5) (by decide) sh_95 (by decide) rfl rfl (Nat.le_of_ble_eq_true rfl) rfl ?_
      refine gs_iload_n (pc := 65) C 1 dX11_seem_65 rfl rfl ?_
      have j24 : gs_AW X 74 [(0, .ref 0), (1, .int x1), (2, .int x2), (3, .int x3), (4, .int x4), (5, .int x5)] [.int (if v4 = x1 then (1 : Int32) else (0 : Int32) : Int32)] M L := by
        refine gs_istore (ls' := [(6, .int (if v4 = x1 then (1 : Int32) else (0 : Int32) : Int32)), (0, .ref 0), (1, .int x1), (2, .int x2), (3, .int x3), (4, .int x4), (5, .int x5)]) (pc := 74) C dX11_seem_74 (by decide) rfl ?_
        refine gs_iload (pc := 76) C 0 dX11_seem_76 rfl ?_
        obtain ⟨y6, M7, e8, h⟩ := gs_o2 h
        have j9 : gs_AW X 96 [(0, .ref 0), (1, .int x1), (2, .int x2), (3, .int x3), (4, .int x4), (5, .int x5), (6, .int (if v4 = x1 then (1 : Int32) else (0 : Int32) : Int32))] [.int y6] M7 L := by
          refine gs_istore (ls' := [(7, .int y6), (0, .ref 0), (1, .int x1), (2, .int x2), (3, .int x3), (4, .int x4), (5, .int x5), (6, .int (if v4 = x1 then (1 : Int32) else (0 : Int32) : Int32))]) (pc := 96) C dX11_seem_96 (by decide) rfl ?_
          refine gs_aload_n (pc := 98) C 1 dX11_seem_98 rfl rfl ?_
          refine gs_getq (pc := 99) C dX11_seem_99 gk_11 fl_X11_102 sh_0 rfl ?_
          refine gs_iload (pc := 102) C 6 dX11_seem_102 rfl ?_
          refine gs_iload (pc := 104) C 7 dX11_seem_104 rfl ?_
          obtain ⟨y14, M15, e16, h⟩ := gs_o2 h
          have j17 : gs_AW X 127 [(0, .ref 0), (1, .int x1), (2, .int x2), (3, .int x3), (4, .int x4), (5, .int x5), (6, .int (if v4 = x1 then (1 : Int32) else (0 : Int32) : Int32)), (7, .int y6)] [.int y14, .int x5, .ref 146] M15 L := by
            obtain ⟨M23, e22, h⟩ := gs_o1 h
            refine gs_iast (pc := 127) C dX11_seem_127 sh_146 e22 ?_
            refine gs_iload (pc := 128) C 4 dX11_seem_128 rfl ?_
            refine gs_iload (pc := 130) C 7 dX11_seem_130 rfl ?_
            refine gs_iadd (pc := 132) C dX11_seem_132 ?_
            refine gs_istore (ls' := [(4, .int (x4 + y6)), (0, .ref 0), (1, .int x1), (2, .int x2), (3, .int x3), (5, .int x5), (6, .int (if v4 = x1 then (1 : Int32) else (0 : Int32) : Int32)), (7, .int y6)]) (pc := 133) C dX11_seem_133 (by decide) rfl ?_
            refine gs_iinc (v := x5 + (1 : Int32)) (ls' := [(5, .int (x5 + (1 : Int32))), (4, .int (x4 + y6)), (0, .ref 0), (1, .int x1), (2, .int x2), (3, .int x3), (6, .int (if v4 = x1 then (1 : Int32) else (0 : Int32) : Int32)), (7, .int y6)]) (pc := 135) C 5 dX11_seem_135 rfl rfl (by decide) rfl ?_
            refine gs_goto (pc := 138) C 43 dX11_seem_138 rfl ?_
            exact gs_sub [2, 3, 4, 5, 1, 0] rfl (ih _ _ _ h)
          refine gs_if_eq (pc := 106) C 126 dX11_seem_106 rfl (fun c18 => ?_) (fun c18 => ?_)
          · replace e16 := gs_ift c18 e16
            refine gs_iconst (w := 0) (pc := 126) C dX11_seem_126 rfl ?_
            obtain ⟨rfl, rfl⟩ := gs_i2 e16
            exact gs_sub [1, 2, 3, 4, 5, 6, 7, 0] rfl (j17)
          · replace e16 := gs_iff c18 e16
            refine gs_aload_n (pc := 109) C 1 dX11_seem_109 rfl rfl ?_
            refine gs_getq (pc := 110) C dX11_seem_110 gk_11 fl_X11_71 sh_0 rfl ?_
            refine gs_iload_n (pc := 113) C 2 dX11_seem_113 rfl rfl ?_
            refine gs_iload (pc := 114) C 6 dX11_seem_114 rfl ?_
            refine gs_iconst (w := 1) (pc := 116) C dX11_seem_116 rfl ?_
            obtain ⟨v19, M20, e21, e16⟩ := gs_o2 e16
            refine gs_callVi (pc := 117) C [.int x1, .int x5, .int (1 : Int32)] dX11_seem_117 ml_X11_314 wy_X4_pointsNow (a_X4_pointsNow _ e21) (by decide) sh_105 (by decide) rfl rfl (Nat.le_of_ble_eq_true rfl) rfl ?_
            refine gs_iload (pc := 120) C 0 dX11_seem_120 rfl ?_
            refine gs_isub (pc := 122) C dX11_seem_122 ?_
            refine gs_goto (pc := 123) C 127 dX11_seem_123 rfl ?_
            obtain ⟨rfl, rfl⟩ := gs_i2 e16
            exact gs_sub [1, 2, 3, 4, 5, 6, 7, 0] rfl (j17)
        refine gs_if_eq (pc := 78) C 95 dX11_seem_78 rfl (fun c10 => ?_) (fun c10 => ?_)
        · replace e8 := gs_ift c10 e8
          refine gs_iconst (w := 0) (pc := 95) C dX11_seem_95 rfl ?_
          obtain ⟨rfl, rfl⟩ := gs_i2 e8
          exact gs_sub [1, 2, 3, 4, 5, 6, 0] rfl (j9)
        · replace e8 := gs_iff c10 e8
          refine gs_aload_n (pc := 81) C 1 dX11_seem_81 rfl rfl ?_
          refine gs_getq (pc := 82) C dX11_seem_82 gk_11 fl_X11_71 sh_0 rfl ?_
          refine gs_iload_n (pc := 85) C 2 dX11_seem_85 rfl rfl ?_
          refine gs_iload (pc := 86) C 6 dX11_seem_86 rfl ?_
          refine gs_iconst (w := 0) (pc := 88) C dX11_seem_88 rfl ?_
          obtain ⟨v11, M12, e13, e8⟩ := gs_o2 e8
          refine gs_callVi (pc := 89) C [.int x1, .int x5, .int (0 : Int32)] dX11_seem_89 ml_X11_314 wy_X4_pointsNow (a_X4_pointsNow _ e13) (by decide) sh_105 (by decide) rfl rfl (Nat.le_of_ble_eq_true rfl) rfl ?_
          refine gs_goto (pc := 92) C 96 dX11_seem_92 rfl ?_
          obtain ⟨rfl, rfl⟩ := gs_i2 e8
          exact gs_sub [1, 2, 3, 4, 5, 6, 0] rfl (j9)
      refine gs_icmp_ne (pc := 66) C 73 dX11_seem_66 rfl (fun c25 => ?_) (fun c25 => ?_)
      · refine gs_iconst (w := 0) (pc := 73) C dX11_seem_73 rfl ?_
        simp only [if_neg c25] at j24
        exact j24
      · refine gs_iconst (w := 1) (pc := 69) C dX11_seem_69 rfl ?_
        refine gs_goto (pc := 70) C 74 dX11_seem_70 rfl ?_
        simp only [if_pos c25] at j24
        exact j24
set_option maxRecDepth 100000 in
set_option maxHeartbeats 4000000 in
theorem t_X11_seem_144 {X : gs_X} (C : gs_C X RX11 cX11_seem 8 (some .int) 5) {M : gs_M} {L : gs_L} {x1 : Int32} {x2 : Int32} {x4 : Int32} {o3 : Int32} {o5 : Int32} (k : gs_AW X 216 [(0, .ref 0), (1, .int x1), (2, .int x2), (3, .int o3), (4, .int x4), (5, .int o5)] [] M L) : ∀ (f : Nat) (x3 : Int32) (x5 : Int32), l_X11_seem_144 M x1 x2 x4 f x3 x5 = some (o3, o5) → gs_AW X 144 [(0, .ref 0), (1, .int x1), (2, .int x2), (3, .int x3), (4, .int x4), (5, .int x5)] [] M L := by
  intro f
  induction f with
  | zero =>
    intro x3 x5 h
    cases h
  | succ f ih =>
    intro x3 x5 h
    rw [l_X11_seem_144] at h
    refine gs_iload (pc := 144) C 5 dX11_seem_144 rfl ?_
    refine gs_iconst (w := 1) (pc := 146) C dX11_seem_146 rfl ?_
    refine gs_aload_n (pc := 147) C 0 dX11_seem_147 rfl rfl ?_
    refine gs_getq (pc := 148) C dX11_seem_148 gk_11 fl_X11_19 sh_0 rfl ?_
    obtain ⟨v1, e2, h⟩ := gs_o1 h
    refine gs_callVi (pc := 151) C [] dX11_seem_151 ml_X11_305 wy_X9_hours (a_X9_hours _ e2) (by decide) sh_3 (by decide) rfl rfl (Nat.le_of_ble_eq_true rfl) rfl ?_
    refine gs_ishl (pc := 154) C dX11_seem_154 ?_
    refine gs_icmp_ge (pc := 155) C 216 dX11_seem_155 rfl (fun c3 => ?_) (fun c3 => ?_)
    · replace h := gs_ift c3 h
      obtain ⟨rfl, rfl⟩ := gs_i2 h
      exact k
    · replace h := gs_iff c3 h
      refine gs_iload_n (pc := 158) C 3 dX11_seem_158 rfl rfl ?_
      refine gs_iconst (w := (-1)) (pc := 159) C dX11_seem_159 rfl ?_
      obtain ⟨y4, e5, h⟩ := gs_o1 h
      have j6 : gs_AW X 180 [(0, .ref 0), (1, .int x1), (2, .int x2), (3, .int x3), (4, .int x4), (5, .int x5)] [.int y4] M L := by
        refine gs_istore (ls' := [(6, .int y4), (0, .ref 0), (1, .int x1), (2, .int x2), (3, .int x3), (4, .int x4), (5, .int x5)]) (pc := 180) C dX11_seem_180 (by decide) rfl ?_
        refine gs_iload (pc := 182) C 0 dX11_seem_182 rfl ?_
        obtain ⟨y13, e14, h⟩ := gs_o1 h
        have j15 : gs_AW X 210 [(0, .ref 0), (1, .int x1), (2, .int x2), (3, .int y13), (4, .int x4), (5, .int x5), (6, .int y4)] [] M L := by
          refine gs_iinc (v := x5 + (1 : Int32)) (ls' := [(5, .int (x5 + (1 : Int32))), (0, .ref 0), (1, .int x1), (2, .int x2), (3, .int y13), (4, .int x4), (6, .int y4)]) (pc := 210) C 5 dX11_seem_210 rfl rfl (by decide) rfl ?_
          refine gs_goto (pc := 213) C 144 dX11_seem_213 rfl ?_
          exact gs_sub [1, 2, 3, 4, 5, 0] rfl (ih _ _ h)
        refine gs_if_eq (pc := 184) C 210 dX11_seem_184 rfl (fun c16 => ?_) (fun c16 => ?_)
        · replace e14 := gs_ift c16 e14
          obtain rfl := gs_i1 e14
          exact gs_sub [1, 2, 3, 4, 5, 6, 0] rfl (j15)
        · replace e14 := gs_iff c16 e14
          refine gs_iload (pc := 187) C 5 dX11_seem_187 rfl ?_
          refine gs_aload_n (pc := 189) C 1 dX11_seem_189 rfl rfl ?_
          refine gs_iload (pc := 190) C 6 dX11_seem_190 rfl ?_
          obtain ⟨v17, e18, e14⟩ := gs_o1 e14
          refine gs_callVi (pc := 192) C [.int x5] dX11_seem_192 ml_X11_323 wy_X11_changeBy (a_X11_changeBy _ e18) (by decide) sh_0 (by decide) rfl rfl (Nat.le_of_ble_eq_true rfl) rfl ?_
          refine gs_iadd (pc := 195) C dX11_seem_195 ?_
          refine gs_aload_n (pc := 196) C 1 dX11_seem_196 rfl rfl ?_
          refine gs_getq (pc := 197) C dX11_seem_197 gk_11 fl_X11_19 sh_0 rfl ?_
          refine gs_iconst (w := 1) (pc := 200) C dX11_seem_200 rfl ?_
          obtain ⟨v19, e20, e14⟩ := gs_o1 e14
          refine gs_callVi (pc := 201) C [.int (1 : Int32)] dX11_seem_201 ml_X11_175 wy_X9_ruled (a_X9_ruled _ e20) (by decide) sh_3 (by decide) rfl rfl (Nat.le_of_ble_eq_true rfl) rfl ?_
          refine gs_icmp_ge (pc := 204) C 210 dX11_seem_204 rfl (fun c21 => ?_) (fun c21 => ?_)
          · replace e14 := gs_ift c21 e14
            obtain rfl := gs_i1 e14
            exact gs_sub [1, 2, 3, 4, 5, 6, 0] rfl (j15)
          · replace e14 := gs_iff c21 e14
            refine gs_iload (pc := 207) C 6 dX11_seem_207 rfl ?_
            refine gs_istore_n (ls' := [(3, .int x5), (6, .int y4), (0, .ref 0), (1, .int x1), (2, .int x2), (4, .int x4), (5, .int x5)]) (pc := 209) C dX11_seem_209 rfl (by decide) rfl ?_
            obtain rfl := gs_i1 e14
            exact gs_sub [2, 3, 4, 0, 5, 6, 1] rfl (j15)
      refine gs_icmp_eq (pc := 160) C 175 dX11_seem_160 rfl (fun c7 => ?_) (fun c7 => ?_)
      · replace e5 := gs_ift c7 e5
        refine gs_iconst (w := 1) (pc := 175) C dX11_seem_175 rfl ?_
        refine gs_goto (pc := 176) C 180 dX11_seem_176 rfl ?_
        obtain rfl := gs_i1 e5
        exact j6
      · replace e5 := gs_iff c7 e5
        refine gs_iload (pc := 163) C 5 dX11_seem_163 rfl ?_
        obtain ⟨v8, e9, e5⟩ := gs_o1 e5
        refine gs_callSi (pc := 165) C [.int x5] dX11_seem_165 ml_X11_318 wy_J6_bitCount_0f7a4 (a_J6_bitCount_0f7a4 _ e9) (by decide) rfl (Nat.le_of_ble_eq_true rfl) rfl ?_
        refine gs_iload_n (pc := 168) C 3 dX11_seem_168 rfl rfl ?_
        obtain ⟨v10, e11, e5⟩ := gs_o1 e5
        refine gs_callSi (pc := 169) C [.int x3] dX11_seem_169 ml_X11_318 wy_J6_bitCount_0f7a4 (a_J6_bitCount_0f7a4 _ e11) (by decide) rfl (Nat.le_of_ble_eq_true rfl) rfl ?_
        refine gs_icmp_ge (pc := 172) C 179 dX11_seem_172 rfl (fun c12 => ?_) (fun c12 => ?_)
        · replace e5 := gs_ift c12 e5
          refine gs_iconst (w := 0) (pc := 179) C dX11_seem_179 rfl ?_
          obtain rfl := gs_i1 e5
          exact j6
        · replace e5 := gs_iff c12 e5
          refine gs_iconst (w := 1) (pc := 175) C dX11_seem_175 rfl ?_
          refine gs_goto (pc := 176) C 180 dX11_seem_176 rfl ?_
          obtain rfl := gs_i1 e5
          exact j6
set_option maxRecDepth 100000 in
set_option maxHeartbeats 4000000 in
theorem a_X11_seem (l : Launch) {M : gs_M} {L : gs_L} {x1 : Int32} {x2 : Int32} {rv : Int32} {Mz : gs_M} (h : f_X11_seem M x1 x2 = some (rv, Mz)) : gs_Met l 5 yX11_seem cX11_seem 8 (some .int) [.ref 0, .int x1, .int x2] M L (some (.int rv)) Mz L := by
  unfold f_X11_seem at h
  refine gs_of RX11 (by decide) rfl (Nat.le_of_ble_eq_true rfl) (fun X C E => ?_)
  show gs_AW X 0 [(0, .ref 0), (1, .int x1), (2, .int x2)] [] M L
  refine gs_aload_n (pc := 0) C 0 dX11_seem_0 rfl rfl ?_
  refine gs_iload_n (pc := 1) C 1 dX11_seem_1 rfl rfl ?_
  obtain ⟨v1, e2, h⟩ := gs_o1 h
  refine gs_callVi (pc := 2) C [.int x1] dX11_seem_2 ml_X11_178 wy_X11_isPerson (a_X11_isPerson _ e2) (by decide) sh_0 (by decide) rfl rfl (Nat.le_of_ble_eq_true rfl) rfl ?_
  refine gs_if_eq (pc := 5) C 19 dX11_seem_5 rfl (fun c3 => ?_) (fun c3 => ?_)
  · replace h := gs_ift c3 h
    refine gs_iconst (w := (-1)) (pc := 19) C dX11_seem_19 rfl ?_
    obtain ⟨rfl, rfl⟩ := gs_i2 h
    exact gs_iret (pc := 20) C dX11_seem_20 E
  · replace h := gs_iff c3 h
    refine gs_aload_n (pc := 8) C 0 dX11_seem_8 rfl rfl ?_
    refine gs_getq (pc := 9) C dX11_seem_9 gk_11 fl_X11_46 sh_0 rfl ?_
    refine gs_iload_n (pc := 12) C 2 dX11_seem_12 rfl rfl ?_
    obtain ⟨v4, e5, h⟩ := gs_o1 h
    refine gs_callVi (pc := 13) C [.int x2] dX11_seem_13 ml_X11_203 wy_X10_has (a_X10_has _ e5) (by decide) sh_95 (by decide) rfl rfl (Nat.le_of_ble_eq_true rfl) rfl ?_
    refine gs_if_ne (pc := 16) C 21 dX11_seem_16 rfl (fun c6 => ?_) (fun c6 => ?_)
    · replace h := gs_iff c6 h
      refine gs_iconst (w := (-1)) (pc := 21) C dX11_seem_21 rfl ?_
      refine gs_istore_n (ls' := [(3, .int (-1 : Int32)), (0, .ref 0), (1, .int x1), (2, .int x2)]) (pc := 22) C dX11_seem_22 rfl (by decide) rfl ?_
      refine gs_aload_n (pc := 23) C 1 dX11_seem_23 rfl rfl ?_
      refine gs_getq (pc := 24) C dX11_seem_24 gk_11 fl_X11_71 sh_0 rfl ?_
      refine gs_iload_n (pc := 27) C 2 dX11_seem_27 rfl rfl ?_
      refine gs_aload_n (pc := 28) C 1 dX11_seem_28 rfl rfl ?_
      refine gs_getq (pc := 29) C dX11_seem_29 gk_11 fl_X11_71 sh_0 rfl ?_
      obtain ⟨v7, e8, h⟩ := gs_o1 h
      refine gs_callVi (pc := 32) C [] dX11_seem_32 ml_X11_240 wy_X4_holding (a_X4_holding _ e8) (by decide) sh_105 (by decide) rfl rfl (Nat.le_of_ble_eq_true rfl) rfl ?_
      obtain ⟨v9, M10, e11, h⟩ := gs_o2 h
      refine gs_callVi (pc := 35) C [.int x1, .int v7] dX11_seem_35 ml_X11_243 wy_X4_caseOf (a_X4_caseOf _ e11) (by decide) sh_105 (by decide) rfl rfl (Nat.le_of_ble_eq_true rfl) rfl ?_
      refine gs_istore (ls' := [(4, .int v9), (3, .int (-1 : Int32)), (0, .ref 0), (1, .int x1), (2, .int x2)]) (pc := 38) C dX11_seem_38 (by decide) rfl ?_
      refine gs_iconst (w := 0) (pc := 40) C dX11_seem_40 rfl ?_
      refine gs_istore (ls' := [(5, .int (0 : Int32)), (4, .int v9), (3, .int (-1 : Int32)), (0, .ref 0), (1, .int x1), (2, .int x2)]) (pc := 41) C dX11_seem_41 (by decide) rfl ?_
      obtain ⟨y12, y13, M14, e15, h⟩ := gs_o3 h
      refine gs_sub [3, 4, 5, 2, 1, 0] rfl (t_X11_seem_43 C ?_ gs_FU _ _ _ e15)
      refine gs_iconst (w := 0) (pc := 141) C dX11_seem_141 rfl ?_
      refine gs_istore (ls' := [(5, .int (0 : Int32)), (0, .ref 0), (1, .int x1), (2, .int x2), (3, .int (-1 : Int32)), (4, .int y12)]) (pc := 142) C dX11_seem_142 (by decide) rfl ?_
      obtain ⟨y16, y17, e18, h⟩ := gs_o2 h
      refine gs_sub [1, 2, 3, 4, 5, 0] rfl (t_X11_seem_144 C ?_ gs_FU _ _ e18)
      refine gs_iload_n (pc := 216) C 3 dX11_seem_216 rfl rfl ?_
      obtain ⟨rfl, rfl⟩ := gs_i2 h
      exact gs_iret (pc := 217) C dX11_seem_217 E
    · replace h := gs_ift c6 h
      refine gs_iconst (w := (-1)) (pc := 19) C dX11_seem_19 rfl ?_
      obtain ⟨rfl, rfl⟩ := gs_i2 h
      exact gs_iret (pc := 20) C dX11_seem_20 E
