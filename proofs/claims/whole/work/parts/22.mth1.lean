set_option maxRecDepth 100000 in
set_option maxHeartbeats 4000000 in
theorem a_X4_holding (l : Launch) {M : gs_M} {L : gs_L} {rv : Int32} (h : f_X4_holding M = some (rv)) : gs_Met l 0 yX4_holding cX4_holding 1 (some .int) [.ref 105] M L (some (.int rv)) M L := by
  unfold f_X4_holding at h
  refine gs_of RX4 (by decide) rfl (Nat.le_of_ble_eq_true rfl) (fun X C E => ?_)
  show gs_AW X 0 [(0, .ref 105)] [] M L
  refine gs_aload_n (pc := 0) C 0 dX4_holding_0 rfl rfl ?_
  refine gs_geti (pc := 1) C dX4_holding_1 gk_4 fl_X4_21 sh_105 rfl ?_
  obtain rfl := gs_i1 h
  exact gs_iret (pc := 4) C dX4_holding_4 E
set_option maxRecDepth 100000 in
set_option maxHeartbeats 4000000 in
theorem a_X4_pointsNow (l : Launch) {M : gs_M} {L : gs_L} {x1 : Int32} {x2 : Int32} {x3 : Int32} {rv : Int32} {Mz : gs_M} (h : f_X4_pointsNow M x1 x2 x3 = some (rv, Mz)) : gs_Met l 4 yX4_pointsNow cX4_pointsNow 4 (some .int) [.ref 105, .int x1, .int x2, .int x3] M L (some (.int rv)) Mz L := by
  unfold f_X4_pointsNow at h
  refine gs_of RX4 (by decide) rfl (Nat.le_of_ble_eq_true rfl) (fun X C E => ?_)
  show gs_AW X 0 [(0, .ref 105), (1, .int x1), (2, .int x2), (3, .int x3)] [] M L
  refine gs_aload_n (pc := 0) C 0 dX4_pointsNow_0 rfl rfl ?_
  refine gs_aload_n (pc := 1) C 0 dX4_pointsNow_1 rfl rfl ?_
  refine gs_geti (pc := 2) C dX4_pointsNow_2 gk_4 fl_X4_21 sh_105 rfl ?_
  refine gs_iload_n (pc := 5) C 1 dX4_pointsNow_5 rfl rfl ?_
  refine gs_iload_n (pc := 6) C 2 dX4_pointsNow_6 rfl rfl ?_
  refine gs_iload_n (pc := 7) C 3 dX4_pointsNow_7 rfl rfl ?_
  refine gs_aload_n (pc := 8) C 0 dX4_pointsNow_8 rfl rfl ?_
  refine gs_getq (pc := 9) C dX4_pointsNow_9 gk_4 fl_X4_29 sh_105 rfl ?_
  refine gs_iload_n (pc := 12) C 1 dX4_pointsNow_12 rfl rfl ?_
  refine gs_iconst (w := 2) (pc := 13) C dX4_pointsNow_13 rfl ?_
  obtain ⟨v1, e2, h⟩ := gs_o1 h
  refine gs_callVi (pc := 14) C [.int x1, .int (2 : Int32)] dX4_pointsNow_14 ml_X4_47 wy_X6_of (a_X6_of _ e2) (by decide) sh_9 (by decide) rfl rfl (Nat.le_of_ble_eq_true rfl) rfl ?_
  obtain ⟨v3, M4, e5, h⟩ := gs_o2 h
  refine gs_callVi (pc := 17) C [.int (M 105 5), .int x1, .int x2, .int x3, .int v1] dX4_pointsNow_17 ml_X4_80 wy_X4_pointsBy (a_X4_pointsBy _ e5) (by decide) sh_105 (by decide) rfl rfl (Nat.le_of_ble_eq_true rfl) rfl ?_
  obtain ⟨rfl, rfl⟩ := gs_i2 h
  exact gs_iret (pc := 20) C dX4_pointsNow_20 E
set_option maxRecDepth 100000 in
set_option maxHeartbeats 4000000 in
theorem t_X11_lacking_30 {X : gs_X} (C : gs_C X RX11 cX11_lacking 5 (some .int) 5) {M : gs_M} {L : gs_L} {x1 : Int32} {x2 : Int32} {x3 : Int32} {rv : Int32} {Mz : gs_M} (E : gs_E X (some (.int rv)) Mz L) : ∀ (f : Nat) (x4 : Int32), l_X11_lacking_30 M x1 x2 x3 f x4 = some (rv, Mz) → gs_AW X 30 [(0, .ref 0), (1, .int x1), (2, .int x2), (3, .int x3), (4, .int x4)] [] M L := by
  intro f
  induction f with
  | zero =>
    intro x4 h
    cases h
  | succ f ih =>
    intro x4 h
    rw [l_X11_lacking_30] at h
    refine gs_iload (pc := 30) C 4 dX11_lacking_30 rfl ?_
    refine gs_bipush (w := 99) (pc := 32) C dX11_lacking_32 rfl ?_
    refine gs_icmp_gt (pc := 34) C 63 dX11_lacking_34 rfl (fun c1 => ?_) (fun c1 => ?_)
    · replace h := gs_ift c1 h
      refine gs_iconst (w := (-1)) (pc := 63) C dX11_lacking_63 rfl ?_
      obtain ⟨rfl, rfl⟩ := gs_i2 h
      exact gs_iret (pc := 64) C dX11_lacking_64 E
    · replace h := gs_iff c1 h
      refine gs_iload_n (pc := 37) C 2 dX11_lacking_37 rfl rfl ?_
      refine gs_iload (pc := 38) C 4 dX11_lacking_38 rfl ?_
      refine gs_iload_n (pc := 40) C 3 dX11_lacking_40 rfl rfl ?_
      refine gs_imul (pc := 41) C dX11_lacking_41 ?_
      refine gs_iadd (pc := 42) C dX11_lacking_42 ?_
      refine gs_aload_n (pc := 43) C 0 dX11_lacking_43 rfl rfl ?_
      refine gs_getq (pc := 44) C dX11_lacking_44 gk_11 fl_X11_19 sh_0 rfl ?_
      refine gs_iconst (w := 1) (pc := 47) C dX11_lacking_47 rfl ?_
      obtain ⟨v2, e3, h⟩ := gs_o1 h
      refine gs_callVi (pc := 48) C [.int (1 : Int32)] dX11_lacking_48 ml_X11_175 wy_X9_ruled (a_X9_ruled _ e3) (by decide) sh_3 (by decide) rfl rfl (Nat.le_of_ble_eq_true rfl) rfl ?_
      refine gs_icmp_lt (pc := 51) C 57 dX11_lacking_51 rfl (fun c4 => ?_) (fun c4 => ?_)
      · replace h := gs_ift c4 h
        refine gs_iinc (v := x4 + (1 : Int32)) (ls' := [(4, .int (x4 + (1 : Int32))), (0, .ref 0), (1, .int x1), (2, .int x2), (3, .int x3)]) (pc := 57) C 4 dX11_lacking_57 rfl rfl (by decide) rfl ?_
        refine gs_goto (pc := 60) C 30 dX11_lacking_60 rfl ?_
        exact gs_sub [1, 2, 3, 4, 0] rfl (ih _ h)
      · replace h := gs_iff c4 h
        refine gs_iload (pc := 54) C 4 dX11_lacking_54 rfl ?_
        obtain ⟨rfl, rfl⟩ := gs_i2 h
        exact gs_iret (pc := 56) C dX11_lacking_56 E
set_option maxRecDepth 100000 in
set_option maxHeartbeats 4000000 in
theorem a_X11_lacking (l : Launch) {M : gs_M} {L : gs_L} {x1 : Int32} {rv : Int32} {Mz : gs_M} (h : f_X11_lacking M x1 = some (rv, Mz)) : gs_Met l 5 yX11_lacking cX11_lacking 5 (some .int) [.ref 0, .int x1] M L (some (.int rv)) Mz L := by
  unfold f_X11_lacking at h
  refine gs_of RX11 (by decide) rfl (Nat.le_of_ble_eq_true rfl) (fun X C E => ?_)
  show gs_AW X 0 [(0, .ref 0), (1, .int x1)] [] M L
  refine gs_aload_n (pc := 0) C 0 dX11_lacking_0 rfl rfl ?_
  refine gs_getq (pc := 1) C dX11_lacking_1 gk_11 fl_X11_71 sh_0 rfl ?_
  refine gs_iload_n (pc := 4) C 1 dX11_lacking_4 rfl rfl ?_
  refine gs_aload_n (pc := 5) C 0 dX11_lacking_5 rfl rfl ?_
  refine gs_getq (pc := 6) C dX11_lacking_6 gk_11 fl_X11_71 sh_0 rfl ?_
  obtain ⟨v1, e2, h⟩ := gs_o1 h
  refine gs_callVi (pc := 9) C [] dX11_lacking_9 ml_X11_240 wy_X4_holding (a_X4_holding _ e2) (by decide) sh_105 (by decide) rfl rfl (Nat.le_of_ble_eq_true rfl) rfl ?_
  obtain ⟨v3, M4, e5, h⟩ := gs_o2 h
  refine gs_callVi (pc := 12) C [.int x1, .int v1] dX11_lacking_12 ml_X11_243 wy_X4_caseOf (a_X4_caseOf _ e5) (by decide) sh_105 (by decide) rfl rfl (Nat.le_of_ble_eq_true rfl) rfl ?_
  refine gs_istore_n (ls' := [(2, .int v3), (0, .ref 0), (1, .int x1)]) (pc := 15) C dX11_lacking_15 rfl (by decide) rfl ?_
  refine gs_aload_n (pc := 16) C 1 dX11_lacking_16 rfl rfl ?_
  refine gs_getq (pc := 17) C dX11_lacking_17 gk_11 fl_X11_71 sh_0 rfl ?_
  refine gs_iload_n (pc := 20) C 2 dX11_lacking_20 rfl rfl ?_
  refine gs_iconst (w := 0) (pc := 21) C dX11_lacking_21 rfl ?_
  refine gs_iconst (w := 0) (pc := 22) C dX11_lacking_22 rfl ?_
  obtain ⟨v6, M7, e8, h⟩ := gs_o2 h
  refine gs_callVi (pc := 23) C [.int x1, .int (0 : Int32), .int (0 : Int32)] dX11_lacking_23 ml_X11_314 wy_X4_pointsNow (a_X4_pointsNow _ e8) (by decide) sh_105 (by decide) rfl rfl (Nat.le_of_ble_eq_true rfl) rfl ?_
  refine gs_istore_n (ls' := [(3, .int v6), (2, .int v3), (0, .ref 0), (1, .int x1)]) (pc := 26) C dX11_lacking_26 rfl (by decide) rfl ?_
  refine gs_iconst (w := 0) (pc := 27) C dX11_lacking_27 rfl ?_
  refine gs_istore (ls' := [(4, .int (0 : Int32)), (3, .int v6), (2, .int v3), (0, .ref 0), (1, .int x1)]) (pc := 28) C dX11_lacking_28 (by decide) rfl ?_
  exact gs_sub [3, 4, 2, 1, 0] rfl (t_X11_lacking_30 C E gs_FU _ h)
set_option maxRecDepth 100000 in
set_option maxHeartbeats 4000000 in
theorem a_X11_booked (l : Launch) {M : gs_M} {L : gs_L} {x1 : Int32} {x2 : Int32} {rv : Int32} {Mz : gs_M} (h : f_X11_booked M x1 x2 = some (rv, Mz)) : gs_Met l 6 yX11_booked cX11_booked 3 (some .int) [.ref 0, .int x1, .int x2] M L (some (.int rv)) Mz L := by
  unfold f_X11_booked at h
  refine gs_of RX11 (by decide) rfl (Nat.le_of_ble_eq_true rfl) (fun X C E => ?_)
  show gs_AW X 0 [(0, .ref 0), (1, .int x1), (2, .int x2)] [] M L
  refine gs_aload_n (pc := 0) C 0 dX11_booked_0 rfl rfl ?_
  refine gs_iload_n (pc := 1) C 1 dX11_booked_1 rfl rfl ?_
  obtain ⟨v1, e2, h⟩ := gs_o1 h
  refine gs_callVi (pc := 2) C [.int x1] dX11_booked_2 ml_X11_178 wy_X11_isPerson (a_X11_isPerson _ e2) (by decide) sh_0 (by decide) rfl rfl (Nat.le_of_ble_eq_true rfl) rfl ?_
  refine gs_if_eq (pc := 5) C 17 dX11_booked_5 rfl (fun c3 => ?_) (fun c3 => ?_)
  · replace h := gs_ift c3 h
    refine gs_iconst (w := (-1)) (pc := 17) C dX11_booked_17 rfl ?_
    obtain ⟨rfl, rfl⟩ := gs_i2 h
    exact gs_iret (pc := 18) C dX11_booked_18 E
  · replace h := gs_iff c3 h
    refine gs_iload_n (pc := 8) C 2 dX11_booked_8 rfl rfl ?_
    refine gs_if_lt (pc := 9) C 17 dX11_booked_9 rfl (fun c4 => ?_) (fun c4 => ?_)
    · replace h := gs_ift c4 h
      refine gs_iconst (w := (-1)) (pc := 17) C dX11_booked_17 rfl ?_
      obtain ⟨rfl, rfl⟩ := gs_i2 h
      exact gs_iret (pc := 18) C dX11_booked_18 E
    · replace h := gs_iff c4 h
      refine gs_iload_n (pc := 12) C 2 dX11_booked_12 rfl rfl ?_
      refine gs_iconst (w := 1) (pc := 13) C dX11_booked_13 rfl ?_
      refine gs_icmp_le (pc := 14) C 19 dX11_booked_14 rfl (fun c5 => ?_) (fun c5 => ?_)
      · replace h := gs_ift c5 h
        refine gs_iload_n (pc := 19) C 2 dX11_booked_19 rfl rfl ?_
        obtain ⟨y6, M7, e8, h⟩ := gs_o2 h
        have j9 : gs_AW X 39 [(0, .ref 0), (1, .int x1), (2, .int x2)] [.int y6] M7 L := by
          obtain ⟨rfl, rfl⟩ := gs_i2 h
          exact gs_iret (pc := 39) C dX11_booked_39 E
        refine gs_if_ne (pc := 20) C 34 dX11_booked_20 rfl (fun c10 => ?_) (fun c10 => ?_)
        · replace e8 := gs_iff c10 e8
          refine gs_aload_n (pc := 34) C 0 dX11_booked_34 rfl rfl ?_
          refine gs_iload_n (pc := 35) C 1 dX11_booked_35 rfl rfl ?_
          obtain ⟨v11, M12, e13, e8⟩ := gs_o2 e8
          refine gs_callVi (pc := 36) C [.int x1] dX11_booked_36 ml_X11_393 wy_X11_lacking (a_X11_lacking _ e13) (by decide) sh_0 (by decide) rfl rfl (Nat.le_of_ble_eq_true rfl) rfl ?_
          obtain ⟨rfl, rfl⟩ := gs_i2 e8
          exact j9
        · replace e8 := gs_ift c10 e8
          refine gs_aload_n (pc := 23) C 0 dX11_booked_23 rfl rfl ?_
          refine gs_getq (pc := 24) C dX11_booked_24 gk_11 fl_X11_29 sh_0 rfl ?_
          refine gs_iload_n (pc := 27) C 1 dX11_booked_27 rfl rfl ?_
          obtain ⟨v14, e15, e8⟩ := gs_o1 e8
          refine gs_callVi (pc := 28) C [.int x1] dX11_booked_28 ml_X11_237 wy_X6_booksOf (a_X6_booksOf _ e15) (by decide) sh_9 (by decide) rfl rfl (Nat.le_of_ble_eq_true rfl) rfl ?_
          refine gs_goto (pc := 31) C 39 dX11_booked_31 rfl ?_
          obtain ⟨rfl, rfl⟩ := gs_i2 e8
          exact j9
      · replace h := gs_iff c5 h
        refine gs_iconst (w := (-1)) (pc := 17) C dX11_booked_17 rfl ?_
        obtain ⟨rfl, rfl⟩ := gs_i2 h
        exact gs_iret (pc := 18) C dX11_booked_18 E
set_option maxRecDepth 100000 in
set_option maxHeartbeats 4000000 in
theorem t_X1_light_12 {X : gs_X} (C : gs_C X RX1 cX1_light 3 none 5) {L : gs_L} {x1 : Int32} {o2 : Int32} {M' : gs_M} (k : gs_AW X 96 [(0, .ref 134), (1, .int x1), (2, .int o2)] [] M' L) : ∀ (f : Nat) (x2 : Int32) (M : gs_M), l_X1_light_12 x1 f x2 M = some (o2, M') → gs_AW X 12 [(0, .ref 134), (1, .int x1), (2, .int x2)] [] M L := by
  intro f
  induction f with
  | zero =>
    intro x2 M h
    cases h
  | succ f ih =>
    intro x2 M h
    rw [l_X1_light_12] at h
    refine gs_iload_n (pc := 12) C 2 dX1_light_12 rfl rfl ?_
    refine gs_aload_n (pc := 13) C 0 dX1_light_13 rfl rfl ?_
    refine gs_getq (pc := 14) C dX1_light_14 gk_1 fl_X1_29 sh_134 rfl ?_
    obtain ⟨v1, e2, h⟩ := gs_o1 h
    refine gs_callVi (pc := 17) C [] dX1_light_17 ml_X1_62 wy_X9_hours (a_X9_hours _ e2) (by decide) sh_3 (by decide) rfl rfl (Nat.le_of_ble_eq_true rfl) rfl ?_
    refine gs_icmp_ge (pc := 20) C 96 dX1_light_20 rfl (fun c3 => ?_) (fun c3 => ?_)
    · replace h := gs_ift c3 h
      obtain ⟨rfl, rfl⟩ := gs_i2 h
      exact k
    · replace h := gs_iff c3 h
      refine gs_aload_n (pc := 23) C 0 dX1_light_23 rfl rfl ?_
      refine gs_getq (pc := 24) C dX1_light_24 gk_1 fl_X1_26 sh_134 rfl ?_
      refine gs_iload_n (pc := 27) C 2 dX1_light_27 rfl rfl ?_
      refine gs_aload_n (pc := 28) C 0 dX1_light_28 rfl rfl ?_
      refine gs_getq (pc := 29) C dX1_light_29 gk_1 fl_X1_33 sh_134 rfl ?_
      refine gs_iload_n (pc := 32) C 1 dX1_light_32 rfl rfl ?_
      refine gs_iload_n (pc := 33) C 2 dX1_light_33 rfl rfl ?_
      obtain ⟨v4, M5, e6, h⟩ := gs_o2 h
      refine gs_callVi (pc := 34) C [.int x1, .int x2] dX1_light_34 ml_X1_80 wy_X4_wakesNow (a_X4_wakesNow _ e6) (by decide) sh_105 (by decide) rfl rfl (Nat.le_of_ble_eq_true rfl) rfl ?_
      obtain ⟨M8, e7, h⟩ := gs_o1 h
      refine gs_iast (pc := 37) C dX1_light_37 sh_139 e7 ?_
      refine gs_aload_n (pc := 38) C 0 dX1_light_38 rfl rfl ?_
      refine gs_dup (pc := 39) C dX1_light_39 rfl ?_
      refine gs_geti (pc := 40) C dX1_light_40 gk_1 fl_X1_74 sh_134 rfl ?_
      refine gs_aload_n (pc := 43) C 0 dX1_light_43 rfl rfl ?_
      refine gs_getq (pc := 44) C dX1_light_44 gk_1 fl_X1_26 sh_134 rfl ?_
      refine gs_iload_n (pc := 47) C 2 dX1_light_47 rfl rfl ?_
      obtain ⟨v9, e10, h⟩ := gs_o1 h
      refine gs_iald (pc := 48) C dX1_light_48 sh_139 e10 ?_
      refine gs_bipush (w := 10) (pc := 49) C dX1_light_49 rfl ?_
      have j19 : gs_AW X 61 [(0, .ref 134), (1, .int x1), (2, .int x2)] [.int (if v9 = (10 : Int32) then ((1 : Int32) <<< (x2 &&& 31)) else (0 : Int32) : Int32), .int (M8 134 8), .ref 134] M8 L := by
        refine gs_ior (pc := 61) C dX1_light_61 ?_
        obtain ⟨M12, e11, h⟩ := gs_o1 h
        refine gs_puti' (pc := 62) C dX1_light_62 gk_1 fp_X1_74 sh_134 rfl e11 ?_
        refine gs_aload_n (pc := 65) C 0 dX1_light_65 rfl rfl ?_
        refine gs_dup (pc := 66) C dX1_light_66 rfl ?_
        refine gs_geti (pc := 67) C dX1_light_67 gk_1 fl_X1_77 sh_134 rfl ?_
        refine gs_aload_n (pc := 70) C 0 dX1_light_70 rfl rfl ?_
        refine gs_getq (pc := 71) C dX1_light_71 gk_1 fl_X1_26 sh_134 rfl ?_
        refine gs_iload_n (pc := 74) C 2 dX1_light_74 rfl rfl ?_
        obtain ⟨v13, e14, h⟩ := gs_o1 h
        refine gs_iald (pc := 75) C dX1_light_75 sh_139 e14 ?_
        have j17 : gs_AW X 86 [(0, .ref 134), (1, .int x1), (2, .int x2)] [.int (if v13 = (0 : Int32) then ((1 : Int32) <<< (x2 &&& 31)) else (0 : Int32) : Int32), .int (M12 134 9), .ref 134] M12 L := by
          refine gs_ior (pc := 86) C dX1_light_86 ?_
          obtain ⟨M16, e15, h⟩ := gs_o1 h
          refine gs_puti' (pc := 87) C dX1_light_87 gk_1 fp_X1_77 sh_134 rfl e15 ?_
          refine gs_iinc (v := x2 + (1 : Int32)) (ls' := [(2, .int (x2 + (1 : Int32))), (0, .ref 134), (1, .int x1)]) (pc := 90) C 2 dX1_light_90 rfl rfl (by decide) rfl ?_
          refine gs_goto (pc := 93) C 12 dX1_light_93 rfl ?_
          exact gs_sub [1, 2, 0] rfl (ih _ _ h)
        refine gs_if_ne (pc := 76) C 85 dX1_light_76 rfl (fun c18 => ?_) (fun c18 => ?_)
        · refine gs_iconst (w := 0) (pc := 85) C dX1_light_85 rfl ?_
          simp only [if_neg c18] at j17
          exact j17
        · refine gs_iconst (w := 1) (pc := 79) C dX1_light_79 rfl ?_
          refine gs_iload_n (pc := 80) C 2 dX1_light_80 rfl rfl ?_
          refine gs_ishl (pc := 81) C dX1_light_81 ?_
          refine gs_goto (pc := 82) C 86 dX1_light_82 rfl ?_
          simp only [if_pos c18] at j17
          exact j17
      refine gs_icmp_ne (pc := 51) C 60 dX1_light_51 rfl (fun c20 => ?_) (fun c20 => ?_)
      · refine gs_iconst (w := 0) (pc := 60) C dX1_light_60 rfl ?_
        simp only [if_neg c20] at j19
        exact j19
      · refine gs_iconst (w := 1) (pc := 54) C dX1_light_54 rfl ?_
        refine gs_iload_n (pc := 55) C 2 dX1_light_55 rfl rfl ?_
        refine gs_ishl (pc := 56) C dX1_light_56 ?_
        refine gs_goto (pc := 57) C 61 dX1_light_57 rfl ?_
        simp only [if_pos c20] at j19
        exact j19
set_option maxRecDepth 100000 in
set_option maxHeartbeats 4000000 in
theorem t_X1_light_98 {X : gs_X} (C : gs_C X RX1 cX1_light 3 none 5) {L : gs_L} {x1 : Int32} {o2 : Int32} {M' : gs_M} (k : gs_AW X 182 [(0, .ref 134), (1, .int x1), (2, .int o2)] [] M' L) : ∀ (f : Nat) (x2 : Int32) (M : gs_M), l_X1_light_98 x1 f x2 M = some (o2, M') → gs_AW X 98 [(0, .ref 134), (1, .int x1), (2, .int x2)] [] M L := by
  intro f
  induction f with
  | zero =>
    intro x2 M h
    cases h
  | succ f ih =>
    intro x2 M h
    rw [l_X1_light_98] at h
    refine gs_iload_n (pc := 98) C 2 dX1_light_98 rfl rfl ?_
    refine gs_aload_n (pc := 99) C 0 dX1_light_99 rfl rfl ?_
    refine gs_geti (pc := 100) C dX1_light_100 gk_1 fl_X1_37 sh_134 rfl ?_
    refine gs_icmp_ge (pc := 103) C 182 dX1_light_103 rfl (fun c1 => ?_) (fun c1 => ?_)
    · replace h := gs_ift c1 h
      obtain ⟨rfl, rfl⟩ := gs_i2 h
      exact k
    · replace h := gs_iff c1 h
      refine gs_aload_n (pc := 106) C 0 dX1_light_106 rfl rfl ?_
      refine gs_getq (pc := 107) C dX1_light_107 gk_1 fl_X1_11 sh_134 rfl ?_
      refine gs_iload_n (pc := 110) C 2 dX1_light_110 rfl rfl ?_
      obtain ⟨v2, e3, h⟩ := gs_o1 h
      refine gs_iald (pc := 111) C dX1_light_111 sh_135 e3 ?_
      refine gs_iload_n (pc := 112) C 1 dX1_light_112 rfl rfl ?_
      obtain ⟨M4, e5, h⟩ := gs_o1 h
      have j6 : gs_AW X 176 [(0, .ref 134), (1, .int x1), (2, .int x2)] [] M4 L := by
        refine gs_iinc (v := x2 + (1 : Int32)) (ls' := [(2, .int (x2 + (1 : Int32))), (0, .ref 134), (1, .int x1)]) (pc := 176) C 2 dX1_light_176 rfl rfl (by decide) rfl ?_
        refine gs_goto (pc := 179) C 98 dX1_light_179 rfl ?_
        exact gs_sub [1, 2, 0] rfl (ih _ _ h)
      refine gs_icmp_ne (pc := 113) C 176 dX1_light_113 rfl (fun c7 => ?_) (fun c7 => ?_)
      · replace e5 := gs_iff c7 e5
        obtain rfl := gs_i1 e5
        exact j6
      · replace e5 := gs_ift c7 e5
        refine gs_aload_n (pc := 116) C 0 dX1_light_116 rfl rfl ?_
        refine gs_dup (pc := 117) C dX1_light_117 rfl ?_
        refine gs_geti (pc := 118) C dX1_light_118 gk_1 fl_X1_74 sh_134 rfl ?_
        refine gs_aload_n (pc := 121) C 0 dX1_light_121 rfl rfl ?_
        refine gs_getq (pc := 122) C dX1_light_122 gk_1 fl_X1_18 sh_134 rfl ?_
        refine gs_iload_n (pc := 125) C 2 dX1_light_125 rfl rfl ?_
        obtain ⟨v8, e9, e5⟩ := gs_o1 e5
        refine gs_zald (pc := 126) C dX1_light_126 sh_137 e9 ?_
        obtain ⟨y10, e11, e5⟩ := gs_o1 e5
        have j12 : gs_AW X 142 [(0, .ref 134), (1, .int x1), (2, .int x2)] [.int y10, .int (M 134 8), .ref 134] M L := by
          refine gs_ior (pc := 142) C dX1_light_142 ?_
          obtain ⟨M17, e16, e5⟩ := gs_o1 e5
          refine gs_puti' (pc := 143) C dX1_light_143 gk_1 fp_X1_74 sh_134 rfl e16 ?_
          refine gs_aload_n (pc := 146) C 0 dX1_light_146 rfl rfl ?_
          refine gs_dup (pc := 147) C dX1_light_147 rfl ?_
          refine gs_geti (pc := 148) C dX1_light_148 gk_1 fl_X1_77 sh_134 rfl ?_
          refine gs_aload_n (pc := 151) C 0 dX1_light_151 rfl rfl ?_
          refine gs_getq (pc := 152) C dX1_light_152 gk_1 fl_X1_18 sh_134 rfl ?_
          refine gs_iload_n (pc := 155) C 2 dX1_light_155 rfl rfl ?_
          obtain ⟨v18, e19, e5⟩ := gs_o1 e5
          refine gs_zald (pc := 156) C dX1_light_156 sh_137 e19 ?_
          obtain ⟨y20, e21, e5⟩ := gs_o1 e5
          have j22 : gs_AW X 172 [(0, .ref 134), (1, .int x1), (2, .int x2)] [.int y20, .int (M17 134 9), .ref 134] M17 L := by
            refine gs_ior (pc := 172) C dX1_light_172 ?_
            obtain ⟨M27, e26, e5⟩ := gs_o1 e5
            refine gs_puti' (pc := 173) C dX1_light_173 gk_1 fp_X1_77 sh_134 rfl e26 ?_
            obtain rfl := gs_i1 e5
            exact j6
          refine gs_if_eq (pc := 157) C 164 dX1_light_157 rfl (fun c23 => ?_) (fun c23 => ?_)
          · replace e21 := gs_ift c23 e21
            refine gs_iconst (w := 1) (pc := 164) C dX1_light_164 rfl ?_
            refine gs_aload_n (pc := 165) C 0 dX1_light_165 rfl rfl ?_
            refine gs_getq (pc := 166) C dX1_light_166 gk_1 fl_X1_15 sh_134 rfl ?_
            refine gs_iload_n (pc := 169) C 2 dX1_light_169 rfl rfl ?_
            obtain ⟨v24, e25, e21⟩ := gs_o1 e21
            refine gs_iald (pc := 170) C dX1_light_170 sh_136 e25 ?_
            refine gs_ishl (pc := 171) C dX1_light_171 ?_
            obtain rfl := gs_i1 e21
            exact j22
          · replace e21 := gs_iff c23 e21
            refine gs_iconst (w := 0) (pc := 160) C dX1_light_160 rfl ?_
            refine gs_goto (pc := 161) C 172 dX1_light_161 rfl ?_
            obtain rfl := gs_i1 e21
            exact j22
        refine gs_if_eq (pc := 127) C 141 dX1_light_127 rfl (fun c13 => ?_) (fun c13 => ?_)
        · replace e11 := gs_ift c13 e11
          refine gs_iconst (w := 0) (pc := 141) C dX1_light_141 rfl ?_
          obtain rfl := gs_i1 e11
          exact j12
        · replace e11 := gs_iff c13 e11
          refine gs_iconst (w := 1) (pc := 130) C dX1_light_130 rfl ?_
          refine gs_aload_n (pc := 131) C 0 dX1_light_131 rfl rfl ?_
          refine gs_getq (pc := 132) C dX1_light_132 gk_1 fl_X1_15 sh_134 rfl ?_
          refine gs_iload_n (pc := 135) C 2 dX1_light_135 rfl rfl ?_
          obtain ⟨v14, e15, e11⟩ := gs_o1 e11
          refine gs_iald (pc := 136) C dX1_light_136 sh_136 e15 ?_
          refine gs_ishl (pc := 137) C dX1_light_137 ?_
          refine gs_goto (pc := 138) C 142 dX1_light_138 rfl ?_
          obtain rfl := gs_i1 e11
          exact j12
set_option maxRecDepth 100000 in
set_option maxHeartbeats 4000000 in
theorem a_X1_light (l : Launch) {M : gs_M} {L : gs_L} {x1 : Int32} {Mz : gs_M} (h : f_X1_light M x1 = some (Mz)) : gs_Met l 5 yX1_light cX1_light 3 none [.ref 134, .int x1] M L none Mz L := by
  unfold f_X1_light at h
  refine gs_of RX1 (by decide) rfl (Nat.le_of_ble_eq_true rfl) (fun X C E => ?_)
  show gs_AW X 0 [(0, .ref 134), (1, .int x1)] [] M L
  refine gs_aload_n (pc := 0) C 0 dX1_light_0 rfl rfl ?_
  refine gs_iconst (w := 0) (pc := 1) C dX1_light_1 rfl ?_
  obtain ⟨M2, e1, h⟩ := gs_o1 h
  refine gs_puti' (pc := 2) C dX1_light_2 gk_1 fp_X1_74 sh_134 rfl e1 ?_
  refine gs_aload_n (pc := 5) C 0 dX1_light_5 rfl rfl ?_
  refine gs_iconst (w := 0) (pc := 6) C dX1_light_6 rfl ?_
  obtain ⟨M4, e3, h⟩ := gs_o1 h
  refine gs_puti' (pc := 7) C dX1_light_7 gk_1 fp_X1_77 sh_134 rfl e3 ?_
  refine gs_iconst (w := 0) (pc := 10) C dX1_light_10 rfl ?_
  refine gs_istore_n (ls' := [(2, .int (0 : Int32)), (0, .ref 134), (1, .int x1)]) (pc := 11) C dX1_light_11 rfl (by decide) rfl ?_
  obtain ⟨y5, M6, e7, h⟩ := gs_o2 h
  refine gs_sub [1, 2, 0] rfl (t_X1_light_12 C ?_ gs_FU _ _ e7)
  refine gs_iconst (w := 0) (pc := 96) C dX1_light_96 rfl ?_
  refine gs_istore_n (ls' := [(2, .int (0 : Int32)), (0, .ref 134), (1, .int x1)]) (pc := 97) C dX1_light_97 rfl (by decide) rfl ?_
  obtain ⟨y8, M9, e10, h⟩ := gs_o2 h
  refine gs_sub [1, 2, 0] rfl (t_X1_light_98 C ?_ gs_FU _ _ e10)
  obtain rfl := gs_i1 h
  exact gs_vret (pc := 182) C dX1_light_182 E
set_option maxRecDepth 100000 in
set_option maxHeartbeats 4000000 in
theorem a_J6_bitCount_0f7a4 (l : Launch) {M : gs_M} {L : gs_L} {x0 : Int32} {rv : Int32} (h : f_J6_bitCount_0f7a4 x0 = some (rv)) : gs_Met l 0 yJ6_bitCount_0f7a4 cJ6_bitCount_0f7a4 1 (some .int) [.int x0] M L (some (.int rv)) M L := by
  unfold f_J6_bitCount_0f7a4 at h
  refine gs_of RJ6 (by decide) rfl (Nat.le_of_ble_eq_true rfl) (fun X C E => ?_)
  show gs_AW X 0 [(0, .int x0)] [] M L
  refine gs_iload_n (pc := 0) C 0 dJ6_bitCount_0f7a4_0 rfl rfl ?_
  refine gs_iload_n (pc := 1) C 0 dJ6_bitCount_0f7a4_1 rfl rfl ?_
  refine gs_iconst (w := 1) (pc := 2) C dJ6_bitCount_0f7a4_2 rfl ?_
  refine gs_iushr (pc := 3) C dJ6_bitCount_0f7a4_3 ?_
  refine gs_ldcw (pc := 4) C dJ6_bitCount_0f7a4_4 wk_J6_265 ?_
  refine gs_iand (pc := 7) C dJ6_bitCount_0f7a4_7 ?_
  refine gs_isub (pc := 8) C dJ6_bitCount_0f7a4_8 ?_
  refine gs_istore_n (ls' := [(0, .int (x0 - (((Int32.toUInt32 x0 >>> (Int32.toUInt32 (1 : Int32) &&& Int32.toUInt32 31)).toInt32) &&& (1431655765 : Int32))))]) (pc := 9) C dJ6_bitCount_0f7a4_9 rfl (by decide) rfl ?_
  refine gs_iload_n (pc := 10) C 0 dJ6_bitCount_0f7a4_10 rfl rfl ?_
  refine gs_ldcw (pc := 11) C dJ6_bitCount_0f7a4_11 wk_J6_266 ?_
  refine gs_iand (pc := 14) C dJ6_bitCount_0f7a4_14 ?_
  refine gs_iload_n (pc := 15) C 0 dJ6_bitCount_0f7a4_15 rfl rfl ?_
  refine gs_iconst (w := 2) (pc := 16) C dJ6_bitCount_0f7a4_16 rfl ?_
  refine gs_iushr (pc := 17) C dJ6_bitCount_0f7a4_17 ?_
  refine gs_ldcw (pc := 18) C dJ6_bitCount_0f7a4_18 wk_J6_266 ?_
  refine gs_iand (pc := 21) C dJ6_bitCount_0f7a4_21 ?_
  refine gs_iadd (pc := 22) C dJ6_bitCount_0f7a4_22 ?_
  refine gs_istore_n (ls' := [(0, .int (((x0 - (((Int32.toUInt32 x0 >>> (Int32.toUInt32 (1 : Int32) &&& Int32.toUInt32 31)).toInt32) &&& (1431655765 : Int32))) &&& (858993459 : Int32)) + (((Int32.toUInt32 (x0 - (((Int32.toUInt32 x0 >>> (Int32.toUInt32 (1 : Int32) &&& Int32.toUInt32 31)).toInt32) &&& (1431655765 : Int32))) >>> (Int32.toUInt32 (2 : Int32) &&& Int32.toUInt32 31)).toInt32) &&& (858993459 : Int32))))]) (pc := 23) C dJ6_bitCount_0f7a4_23 rfl (by decide) rfl ?_
  refine gs_iload_n (pc := 24) C 0 dJ6_bitCount_0f7a4_24 rfl rfl ?_
  refine gs_iload_n (pc := 25) C 0 dJ6_bitCount_0f7a4_25 rfl rfl ?_
  refine gs_iconst (w := 4) (pc := 26) C dJ6_bitCount_0f7a4_26 rfl ?_
  refine gs_iushr (pc := 27) C dJ6_bitCount_0f7a4_27 ?_
  refine gs_iadd (pc := 28) C dJ6_bitCount_0f7a4_28 ?_
  refine gs_ldcw (pc := 29) C dJ6_bitCount_0f7a4_29 wk_J6_267 ?_
  refine gs_iand (pc := 32) C dJ6_bitCount_0f7a4_32 ?_
  refine gs_istore_n (ls' := [(0, .int (((((x0 - (((Int32.toUInt32 x0 >>> (Int32.toUInt32 (1 : Int32) &&& Int32.toUInt32 31)).toInt32) &&& (1431655765 : Int32))) &&& (858993459 : Int32)) + (((Int32.toUInt32 (x0 - (((Int32.toUInt32 x0 >>> (Int32.toUInt32 (1 : Int32) &&& Int32.toUInt32 31)).toInt32) &&& (1431655765 : Int32))) >>> (Int32.toUInt32 (2 : Int32) &&& Int32.toUInt32 31)).toInt32) &&& (858993459 : Int32))) + ((Int32.toUInt32 (((x0 - (((Int32.toUInt32 x0 >>> (Int32.toUInt32 (1 : Int32) &&& Int32.toUInt32 31)).toInt32) &&& (1431655765 : Int32))) &&& (858993459 : Int32)) + (((Int32.toUInt32 (x0 - (((Int32.toUInt32 x0 >>> (Int32.toUInt32 (1 : Int32) &&& Int32.toUInt32 31)).toInt32) &&& (1431655765 : Int32))) >>> (Int32.toUInt32 (2 : Int32) &&& Int32.toUInt32 31)).toInt32) &&& (858993459 : Int32))) >>> (Int32.toUInt32 (4 : Int32) &&& Int32.toUInt32 31)).toInt32)) &&& (252645135 : Int32)))]) (pc := 33) C dJ6_bitCount_0f7a4_33 rfl (by decide) rfl ?_
  refine gs_iload_n (pc := 34) C 0 dJ6_bitCount_0f7a4_34 rfl rfl ?_
  refine gs_iload_n (pc := 35) C 0 dJ6_bitCount_0f7a4_35 rfl rfl ?_
  refine gs_bipush (w := 8) (pc := 36) C dJ6_bitCount_0f7a4_36 rfl ?_
  refine gs_iushr (pc := 38) C dJ6_bitCount_0f7a4_38 ?_
  refine gs_iadd (pc := 39) C dJ6_bitCount_0f7a4_39 ?_
  refine gs_istore_n (ls' := [(0, .int ((((((x0 - (((Int32.toUInt32 x0 >>> (Int32.toUInt32 (1 : Int32) &&& Int32.toUInt32 31)).toInt32) &&& (1431655765 : Int32))) &&& (858993459 : Int32)) + (((Int32.toUInt32 (x0 - (((Int32.toUInt32 x0 >>> (Int32.toUInt32 (1 : Int32) &&& Int32.toUInt32 31)).toInt32) &&& (1431655765 : Int32))) >>> (Int32.toUInt32 (2 : Int32) &&& Int32.toUInt32 31)).toInt32) &&& (858993459 : Int32))) + ((Int32.toUInt32 (((x0 - (((Int32.toUInt32 x0 >>> (Int32.toUInt32 (1 : Int32) &&& Int32.toUInt32 31)).toInt32) &&& (1431655765 : Int32))) &&& (858993459 : Int32)) + (((Int32.toUInt32 (x0 - (((Int32.toUInt32 x0 >>> (Int32.toUInt32 (1 : Int32) &&& Int32.toUInt32 31)).toInt32) &&& (1431655765 : Int32))) >>> (Int32.toUInt32 (2 : Int32) &&& Int32.toUInt32 31)).toInt32) &&& (858993459 : Int32))) >>> (Int32.toUInt32 (4 : Int32) &&& Int32.toUInt32 31)).toInt32)) &&& (252645135 : Int32)) + ((Int32.toUInt32 (((((x0 - (((Int32.toUInt32 x0 >>> (Int32.toUInt32 (1 : Int32) &&& Int32.toUInt32 31)).toInt32) &&& (1431655765 : Int32))) &&& (858993459 : Int32)) + (((Int32.toUInt32 (x0 - (((Int32.toUInt32 x0 >>> (Int32.toUInt32 (1 : Int32) &&& Int32.toUInt32 31)).toInt32) &&& (1431655765 : Int32))) >>> (Int32.toUInt32 (2 : Int32) &&& Int32.toUInt32 31)).toInt32) &&& (858993459 : Int32))) + ((Int32.toUInt32 (((x0 - (((Int32.toUInt32 x0 >>> (Int32.toUInt32 (1 : Int32) &&& Int32.toUInt32 31)).toInt32) &&& (1431655765 : Int32))) &&& (858993459 : Int32)) + (((Int32.toUInt32 (x0 - (((Int32.toUInt32 x0 >>> (Int32.toUInt32 (1 : Int32) &&& Int32.toUInt32 31)).toInt32) &&& (1431655765 : Int32))) >>> (Int32.toUInt32 (2 : Int32) &&& Int32.toUInt32 31)).toInt32) &&& (858993459 : Int32))) >>> (Int32.toUInt32 (4 : Int32) &&& Int32.toUInt32 31)).toInt32)) &&& (252645135 : Int32)) >>> (Int32.toUInt32 (8 : Int32) &&& Int32.toUInt32 31)).toInt32)))]) (pc := 40) C dJ6_bitCount_0f7a4_40 rfl (by decide) rfl ?_
  refine gs_iload_n (pc := 41) C 0 dJ6_bitCount_0f7a4_41 rfl rfl ?_
  refine gs_iload_n (pc := 42) C 0 dJ6_bitCount_0f7a4_42 rfl rfl ?_
  refine gs_bipush (w := 16) (pc := 43) C dJ6_bitCount_0f7a4_43 rfl ?_
  refine gs_iushr (pc := 45) C dJ6_bitCount_0f7a4_45 ?_
  refine gs_iadd (pc := 46) C dJ6_bitCount_0f7a4_46 ?_
  refine gs_istore_n (ls' := [(0, .int (((((((x0 - (((Int32.toUInt32 x0 >>> (Int32.toUInt32 (1 : Int32) &&& Int32.toUInt32 31)).toInt32) &&& (1431655765 : Int32))) &&& (858993459 : Int32)) + (((Int32.toUInt32 (x0 - (((Int32.toUInt32 x0 >>> (Int32.toUInt32 (1 : Int32) &&& Int32.toUInt32 31)).toInt32) &&& (1431655765 : Int32))) >>> (Int32.toUInt32 (2 : Int32) &&& Int32.toUInt32 31)).toInt32) &&& (858993459 : Int32))) + ((Int32.toUInt32 (((x0 - (((Int32.toUInt32 x0 >>> (Int32.toUInt32 (1 : Int32) &&& Int32.toUInt32 31)).toInt32) &&& (1431655765 : Int32))) &&& (858993459 : Int32)) + (((Int32.toUInt32 (x0 - (((Int32.toUInt32 x0 >>> (Int32.toUInt32 (1 : Int32) &&& Int32.toUInt32 31)).toInt32) &&& (1431655765 : Int32))) >>> (Int32.toUInt32 (2 : Int32) &&& Int32.toUInt32 31)).toInt32) &&& (858993459 : Int32))) >>> (Int32.toUInt32 (4 : Int32) &&& Int32.toUInt32 31)).toInt32)) &&& (252645135 : Int32)) + ((Int32.toUInt32 (((((x0 - (((Int32.toUInt32 x0 >>> (Int32.toUInt32 (1 : Int32) &&& Int32.toUInt32 31)).toInt32) &&& (1431655765 : Int32))) &&& (858993459 : Int32)) + (((Int32.toUInt32 (x0 - (((Int32.toUInt32 x0 >>> (Int32.toUInt32 (1 : Int32) &&& Int32.toUInt32 31)).toInt32) &&& (1431655765 : Int32))) >>> (Int32.toUInt32 (2 : Int32) &&& Int32.toUInt32 31)).toInt32) &&& (858993459 : Int32))) + ((Int32.toUInt32 (((x0 - (((Int32.toUInt32 x0 >>> (Int32.toUInt32 (1 : Int32) &&& Int32.toUInt32 31)).toInt32) &&& (1431655765 : Int32))) &&& (858993459 : Int32)) + (((Int32.toUInt32 (x0 - (((Int32.toUInt32 x0 >>> (Int32.toUInt32 (1 : Int32) &&& Int32.toUInt32 31)).toInt32) &&& (1431655765 : Int32))) >>> (Int32.toUInt32 (2 : Int32) &&& Int32.toUInt32 31)).toInt32) &&& (858993459 : Int32))) >>> (Int32.toUInt32 (4 : Int32) &&& Int32.toUInt32 31)).toInt32)) &&& (252645135 : Int32)) >>> (Int32.toUInt32 (8 : Int32) &&& Int32.toUInt32 31)).toInt32)) + ((Int32.toUInt32 ((((((x0 - (((Int32.toUInt32 x0 >>> (Int32.toUInt32 (1 : Int32) &&& Int32.toUInt32 31)).toInt32) &&& (1431655765 : Int32))) &&& (858993459 : Int32)) + (((Int32.toUInt32 (x0 - (((Int32.toUInt32 x0 >>> (Int32.toUInt32 (1 : Int32) &&& Int32.toUInt32 31)).toInt32) &&& (1431655765 : Int32))) >>> (Int32.toUInt32 (2 : Int32) &&& Int32.toUInt32 31)).toInt32) &&& (858993459 : Int32))) + ((Int32.toUInt32 (((x0 - (((Int32.toUInt32 x0 >>> (Int32.toUInt32 (1 : Int32) &&& Int32.toUInt32 31)).toInt32) &&& (1431655765 : Int32))) &&& (858993459 : Int32)) + (((Int32.toUInt32 (x0 - (((Int32.toUInt32 x0 >>> (Int32.toUInt32 (1 : Int32) &&& Int32.toUInt32 31)).toInt32) &&& (1431655765 : Int32))) >>> (Int32.toUInt32 (2 : Int32) &&& Int32.toUInt32 31)).toInt32) &&& (858993459 : Int32))) >>> (Int32.toUInt32 (4 : Int32) &&& Int32.toUInt32 31)).toInt32)) &&& (252645135 : Int32)) + ((Int32.toUInt32 (((((x0 - (((Int32.toUInt32 x0 >>> (Int32.toUInt32 (1 : Int32) &&& Int32.toUInt32 31)).toInt32) &&& (1431655765 : Int32))) &&& (858993459 : Int32)) + (((Int32.toUInt32 (x0 - (((Int32.toUInt32 x0 >>> (Int32.toUInt32 (1 : Int32) &&& Int32.toUInt32 31)).toInt32) &&& (1431655765 : Int32))) >>> (Int32.toUInt32 (2 : Int32) &&& Int32.toUInt32 31)).toInt32) &&& (858993459 : Int32))) + ((Int32.toUInt32 (((x0 - (((Int32.toUInt32 x0 >>> (Int32.toUInt32 (1 : Int32) &&& Int32.toUInt32 31)).toInt32) &&& (1431655765 : Int32))) &&& (858993459 : Int32)) + (((Int32.toUInt32 (x0 - (((Int32.toUInt32 x0 >>> (Int32.toUInt32 (1 : Int32) &&& Int32.toUInt32 31)).toInt32) &&& (1431655765 : Int32))) >>> (Int32.toUInt32 (2 : Int32) &&& Int32.toUInt32 31)).toInt32) &&& (858993459 : Int32))) >>> (Int32.toUInt32 (4 : Int32) &&& Int32.toUInt32 31)).toInt32)) &&& (252645135 : Int32)) >>> (Int32.toUInt32 (8 : Int32) &&& Int32.toUInt32 31)).toInt32)) >>> (Int32.toUInt32 (16 : Int32) &&& Int32.toUInt32 31)).toInt32)))]) (pc := 47) C dJ6_bitCount_0f7a4_47 rfl (by decide) rfl ?_
  refine gs_iload_n (pc := 48) C 0 dJ6_bitCount_0f7a4_48 rfl rfl ?_
  refine gs_bipush (w := 63) (pc := 49) C dJ6_bitCount_0f7a4_49 rfl ?_
  refine gs_iand (pc := 51) C dJ6_bitCount_0f7a4_51 ?_
  obtain rfl := gs_i1 h
  exact gs_iret (pc := 52) C dJ6_bitCount_0f7a4_52 E
set_option maxRecDepth 100000 in
set_option maxHeartbeats 4000000 in
theorem a_X1_canBurn (l : Launch) {M : gs_M} {L : gs_L} {x1 : Int32} {x2 : Int32} {rv : Int32} (h : f_X1_canBurn M x1 x2 = some (rv)) : gs_Met l 1 yX1_canBurn cX1_canBurn 3 (some .boolean) [.ref 134, .int x1, .int x2] M L (some (.int rv)) M L := by
  unfold f_X1_canBurn at h
  refine gs_of RX1 (by decide) rfl (Nat.le_of_ble_eq_true rfl) (fun X C E => ?_)
  show gs_AW X 0 [(0, .ref 134), (1, .int x1), (2, .int x2)] [] M L
  refine gs_iload_n (pc := 0) C 1 dX1_canBurn_0 rfl rfl ?_
  obtain ⟨v1, e2, h⟩ := gs_o1 h
  refine gs_callSi (pc := 1) C [.int x1] dX1_canBurn_1 ml_X1_84 wy_J6_bitCount_0f7a4 (a_J6_bitCount_0f7a4 _ e2) (by decide) rfl (Nat.le_of_ble_eq_true rfl) rfl ?_
  refine gs_iload_n (pc := 4) C 2 dX1_canBurn_4 rfl rfl ?_
  have j5 : gs_AW X 35 [(0, .ref 134), (1, .int x1), (2, .int x2)] [.int (if v1 = x2 then if (x1 &&& (M 134 8)) = (M 134 8) then if (x1 &&& (M 134 9)) = (0 : Int32) then (1 : Int32) else (0 : Int32) else (0 : Int32) else (0 : Int32) : Int32)] M L := by
    obtain ⟨z3, e4, h⟩ := gs_o1 h
    obtain rfl := gs_i1 h
    exact gs_zret' (pc := 35) C dX1_canBurn_35 e4 E
  refine gs_icmp_ne (pc := 5) C 34 dX1_canBurn_5 rfl (fun c6 => ?_) (fun c6 => ?_)
  · refine gs_iconst (w := 0) (pc := 34) C dX1_canBurn_34 rfl ?_
    simp only [if_neg c6] at j5
    exact j5
  · refine gs_iload_n (pc := 8) C 1 dX1_canBurn_8 rfl rfl ?_
    refine gs_aload_n (pc := 9) C 0 dX1_canBurn_9 rfl rfl ?_
    refine gs_geti (pc := 10) C dX1_canBurn_10 gk_1 fl_X1_74 sh_134 rfl ?_
    refine gs_iand (pc := 13) C dX1_canBurn_13 ?_
    refine gs_aload_n (pc := 14) C 0 dX1_canBurn_14 rfl rfl ?_
    refine gs_geti (pc := 15) C dX1_canBurn_15 gk_1 fl_X1_74 sh_134 rfl ?_
    refine gs_icmp_ne (pc := 18) C 34 dX1_canBurn_18 rfl (fun c7 => ?_) (fun c7 => ?_)
    · refine gs_iconst (w := 0) (pc := 34) C dX1_canBurn_34 rfl ?_
      simp only [if_pos c6, if_neg c7] at j5
      exact j5
    · refine gs_iload_n (pc := 21) C 1 dX1_canBurn_21 rfl rfl ?_
      refine gs_aload_n (pc := 22) C 0 dX1_canBurn_22 rfl rfl ?_
      refine gs_geti (pc := 23) C dX1_canBurn_23 gk_1 fl_X1_77 sh_134 rfl ?_
      refine gs_iand (pc := 26) C dX1_canBurn_26 ?_
      refine gs_if_ne (pc := 27) C 34 dX1_canBurn_27 rfl (fun c8 => ?_) (fun c8 => ?_)
      · refine gs_iconst (w := 0) (pc := 34) C dX1_canBurn_34 rfl ?_
        simp only [if_pos c6, if_pos c7, if_neg c8] at j5
        exact j5
      · refine gs_iconst (w := 1) (pc := 30) C dX1_canBurn_30 rfl ?_
        refine gs_goto (pc := 31) C 35 dX1_canBurn_31 rfl ?_
        simp only [if_pos c6, if_pos c7, if_pos c8] at j5
        exact j5
set_option maxRecDepth 100000 in
set_option maxHeartbeats 4000000 in
theorem t_X11_candle_39 {X : gs_X} (C : gs_C X RX11 cX11_candle 6 (some .int) 6) {M : gs_M} {L : gs_L} {x1 : Int32} {x2 : Int32} {x3 : Int32} {rv : Int32} {Mz : gs_M} (E : gs_E X (some (.int rv)) Mz L) : ∀ (f : Nat) (x4 : Int32) (x5 : Int32), l_X11_candle_39 M x1 x2 x3 f x4 x5 = some (rv, Mz) → gs_AW X 39 [(0, .ref 0), (1, .int x1), (2, .int x2), (3, .int x3), (4, .int x4), (5, .int x5)] [] M L := by
  intro f
  induction f with
  | zero =>
    intro x4 x5 h
    cases h
  | succ f ih =>
    intro x4 x5 h
    rw [l_X11_candle_39] at h
    refine gs_iload (pc := 39) C 5 dX11_candle_39 rfl ?_
    refine gs_iconst (w := 1) (pc := 41) C dX11_candle_41 rfl ?_
    refine gs_aload_n (pc := 42) C 0 dX11_candle_42 rfl rfl ?_
    refine gs_getq (pc := 43) C dX11_candle_43 gk_11 fl_X11_19 sh_0 rfl ?_
    obtain ⟨v1, e2, h⟩ := gs_o1 h
    refine gs_callVi (pc := 46) C [] dX11_candle_46 ml_X11_305 wy_X9_hours (a_X9_hours _ e2) (by decide) sh_3 (by decide) rfl rfl (Nat.le_of_ble_eq_true rfl) rfl ?_
    refine gs_ishl (pc := 49) C dX11_candle_49 ?_
    refine gs_icmp_ge (pc := 50) C 84 dX11_candle_50 rfl (fun c3 => ?_) (fun c3 => ?_)
    · replace h := gs_ift c3 h
      refine gs_iload_n (pc := 84) C 3 dX11_candle_84 rfl rfl ?_
      refine gs_iconst (w := (-1)) (pc := 85) C dX11_candle_85 rfl ?_
      have j4 : gs_AW X 95 [(0, .ref 0), (1, .int x1), (2, .int x2), (3, .int x3), (4, .int x4), (5, .int x5)] [.int (if x3 = (-1 : Int32) then x4 else (-1 : Int32) : Int32)] M L := by
        obtain ⟨rfl, rfl⟩ := gs_i2 h
        exact gs_iret (pc := 95) C dX11_candle_95 E
      refine gs_icmp_ne (pc := 86) C 94 dX11_candle_86 rfl (fun c5 => ?_) (fun c5 => ?_)
      · refine gs_iconst (w := (-1)) (pc := 94) C dX11_candle_94 rfl ?_
        simp only [if_neg c5] at j4
        exact j4
      · refine gs_iload (pc := 89) C 4 dX11_candle_89 rfl ?_
        refine gs_goto (pc := 91) C 95 dX11_candle_91 rfl ?_
        simp only [if_pos c5] at j4
        exact j4
    · replace h := gs_iff c3 h
      refine gs_aload_n (pc := 53) C 0 dX11_candle_53 rfl rfl ?_
      refine gs_getq (pc := 54) C dX11_candle_54 gk_11 fl_X11_89 sh_0 rfl ?_
      refine gs_iload (pc := 57) C 5 dX11_candle_57 rfl ?_
      refine gs_iload_n (pc := 59) C 2 dX11_candle_59 rfl rfl ?_
      obtain ⟨v6, e7, h⟩ := gs_o1 h
      refine gs_callVi (pc := 60) C [.int x5, .int x2] dX11_candle_60 ml_X11_364 wy_X1_canBurn (a_X1_canBurn _ e7) (by decide) sh_134 (by decide) rfl rfl (Nat.le_of_ble_eq_true rfl) rfl ?_
      refine gs_if_eq (pc := 63) C 78 dX11_candle_63 rfl (fun c8 => ?_) (fun c8 => ?_)
      · replace h := gs_ift c8 h
        refine gs_iinc (v := x5 + (1 : Int32)) (ls' := [(5, .int (x5 + (1 : Int32))), (0, .ref 0), (1, .int x1), (2, .int x2), (3, .int x3), (4, .int x4)]) (pc := 78) C 5 dX11_candle_78 rfl rfl (by decide) rfl ?_
        refine gs_goto (pc := 81) C 39 dX11_candle_81 rfl ?_
        exact gs_sub [1, 2, 3, 4, 5, 0] rfl (ih _ _ h)
      · replace h := gs_iff c8 h
        refine gs_iload (pc := 66) C 4 dX11_candle_66 rfl ?_
        refine gs_iload_n (pc := 68) C 3 dX11_candle_68 rfl rfl ?_
        refine gs_icmp_ne (pc := 69) C 75 dX11_candle_69 rfl (fun c9 => ?_) (fun c9 => ?_)
        · replace h := gs_iff c9 h
          refine gs_iinc (v := x4 + (1 : Int32)) (ls' := [(4, .int (x4 + (1 : Int32))), (0, .ref 0), (1, .int x1), (2, .int x2), (3, .int x3), (5, .int x5)]) (pc := 75) C 4 dX11_candle_75 rfl rfl (by decide) rfl ?_
          refine gs_iinc (v := x5 + (1 : Int32)) (ls' := [(5, .int (x5 + (1 : Int32))), (4, .int (x4 + (1 : Int32))), (0, .ref 0), (1, .int x1), (2, .int x2), (3, .int x3)]) (pc := 78) C 5 dX11_candle_78 rfl rfl (by decide) rfl ?_
          refine gs_goto (pc := 81) C 39 dX11_candle_81 rfl ?_
          exact gs_sub [2, 3, 4, 5, 1, 0] rfl (ih _ _ h)
        · replace h := gs_ift c9 h
          refine gs_iload (pc := 72) C 5 dX11_candle_72 rfl ?_
          obtain ⟨rfl, rfl⟩ := gs_i2 h
          exact gs_iret (pc := 74) C dX11_candle_74 E
set_option maxRecDepth 100000 in
set_option maxHeartbeats 4000000 in
theorem a_X11_candle (l : Launch) {M : gs_M} {L : gs_L} {x1 : Int32} {x2 : Int32} {x3 : Int32} {rv : Int32} {Mz : gs_M} (h : f_X11_candle M x1 x2 x3 = some (rv, Mz)) : gs_Met l 6 yX11_candle cX11_candle 6 (some .int) [.ref 0, .int x1, .int x2, .int x3] M L (some (.int rv)) Mz L := by
  unfold f_X11_candle at h
  refine gs_of RX11 (by decide) rfl (Nat.le_of_ble_eq_true rfl) (fun X C E => ?_)
  show gs_AW X 0 [(0, .ref 0), (1, .int x1), (2, .int x2), (3, .int x3)] [] M L
  refine gs_aload_n (pc := 0) C 0 dX11_candle_0 rfl rfl ?_
  refine gs_iload_n (pc := 1) C 1 dX11_candle_1 rfl rfl ?_
  obtain ⟨v1, e2, h⟩ := gs_o1 h
  refine gs_callVi (pc := 2) C [.int x1] dX11_candle_2 ml_X11_178 wy_X11_isPerson (a_X11_isPerson _ e2) (by decide) sh_0 (by decide) rfl rfl (Nat.le_of_ble_eq_true rfl) rfl ?_
  refine gs_if_eq (pc := 5) C 23 dX11_candle_5 rfl (fun c3 => ?_) (fun c3 => ?_)
  · replace h := gs_ift c3 h
    refine gs_iconst (w := (-1)) (pc := 23) C dX11_candle_23 rfl ?_
    obtain ⟨rfl, rfl⟩ := gs_i2 h
    exact gs_iret (pc := 24) C dX11_candle_24 E
  · replace h := gs_iff c3 h
    refine gs_iload_n (pc := 8) C 2 dX11_candle_8 rfl rfl ?_
    refine gs_if_lt (pc := 9) C 23 dX11_candle_9 rfl (fun c4 => ?_) (fun c4 => ?_)
    · replace h := gs_ift c4 h
      refine gs_iconst (w := (-1)) (pc := 23) C dX11_candle_23 rfl ?_
      obtain ⟨rfl, rfl⟩ := gs_i2 h
      exact gs_iret (pc := 24) C dX11_candle_24 E
    · replace h := gs_iff c4 h
      refine gs_iload_n (pc := 12) C 2 dX11_candle_12 rfl rfl ?_
      refine gs_bipush (w := 9) (pc := 13) C dX11_candle_13 rfl ?_
      refine gs_icmp_gt (pc := 15) C 23 dX11_candle_15 rfl (fun c5 => ?_) (fun c5 => ?_)
      · replace h := gs_ift c5 h
        refine gs_iconst (w := (-1)) (pc := 23) C dX11_candle_23 rfl ?_
        obtain ⟨rfl, rfl⟩ := gs_i2 h
        exact gs_iret (pc := 24) C dX11_candle_24 E
      · replace h := gs_iff c5 h
        refine gs_iload_n (pc := 18) C 3 dX11_candle_18 rfl rfl ?_
        refine gs_iconst (w := (-1)) (pc := 19) C dX11_candle_19 rfl ?_
        refine gs_icmp_ge (pc := 20) C 25 dX11_candle_20 rfl (fun c6 => ?_) (fun c6 => ?_)
        · replace h := gs_ift c6 h
          refine gs_aload_n (pc := 25) C 0 dX11_candle_25 rfl rfl ?_
          refine gs_getq (pc := 26) C dX11_candle_26 gk_11 fl_X11_89 sh_0 rfl ?_
          refine gs_iload_n (pc := 29) C 1 dX11_candle_29 rfl rfl ?_
          obtain ⟨M7, e8, h⟩ := gs_o1 h
          refine gs_callVv (pc := 30) C [.int x1] dX11_candle_30 ml_X11_361 wy_X1_light (a_X1_light _ e8) (by decide) sh_134 (by decide) rfl rfl (Nat.le_of_ble_eq_true rfl) rfl ?_
          refine gs_iconst (w := 0) (pc := 33) C dX11_candle_33 rfl ?_
          refine gs_istore (ls' := [(4, .int (0 : Int32)), (0, .ref 0), (1, .int x1), (2, .int x2), (3, .int x3)]) (pc := 34) C dX11_candle_34 (by decide) rfl ?_
          refine gs_iconst (w := 0) (pc := 36) C dX11_candle_36 rfl ?_
          refine gs_istore (ls' := [(5, .int (0 : Int32)), (4, .int (0 : Int32)), (0, .ref 0), (1, .int x1), (2, .int x2), (3, .int x3)]) (pc := 37) C dX11_candle_37 (by decide) rfl ?_
          exact gs_sub [2, 3, 4, 5, 1, 0] rfl (t_X11_candle_39 C E gs_FU _ _ h)
        · replace h := gs_iff c6 h
          refine gs_iconst (w := (-1)) (pc := 23) C dX11_candle_23 rfl ?_
          obtain ⟨rfl, rfl⟩ := gs_i2 h
          exact gs_iret (pc := 24) C dX11_candle_24 E
set_option maxRecDepth 100000 in
set_option maxHeartbeats 4000000 in
theorem a_X0_keep (l : Launch) {M : gs_M} {L : gs_L} {Mz : gs_M} (h : f_X0_keep M = some (Mz)) : gs_Met l 1 yX0_keep cX0_keep 2 none [.ref 13, .ref 9] M L none Mz L := by
  unfold f_X0_keep at h
  refine gs_of RX0 (by decide) rfl (Nat.le_of_ble_eq_true rfl) (fun X C E => ?_)
  show gs_AW X 0 [(0, .ref 13), (1, .ref 9)] [] M L
  refine gs_aload_n (pc := 0) C 0 dX0_keep_0 rfl rfl ?_
  refine gs_getq (pc := 1) C dX0_keep_1 gk_0 fl_X0_13 sh_13 rfl ?_
  refine gs_aload_n (pc := 4) C 0 dX0_keep_4 rfl rfl ?_
  refine gs_geti (pc := 5) C dX0_keep_5 gk_0 fl_X0_22 sh_13 rfl ?_
  obtain ⟨r1, e2, h⟩ := gs_o1 h
  refine gs_aldS (pc := 8) C dX0_keep_8 sh_14 e2 ?_
  refine gs_aload_n (pc := 9) C 1 dX0_keep_9 rfl rfl ?_
  obtain ⟨M3, e4, h⟩ := gs_o1 h
  refine gs_callVv (pc := 10) C [.ref 9] dX0_keep_10 ml_X0_25 wy_X6_copyFrom (a_X6_copyFrom _ (gs_rdq_st e2) (Or.inl rfl) e4) (by decide) (gs_st_sh (gs_rdq_st e2)).1 (by decide) rfl rfl (Nat.le_of_ble_eq_true rfl) rfl ?_
  refine gs_aload_n (pc := 13) C 0 dX0_keep_13 rfl rfl ?_
  refine gs_aload_n (pc := 14) C 0 dX0_keep_14 rfl rfl ?_
  refine gs_geti (pc := 15) C dX0_keep_15 gk_0 fl_X0_22 sh_13 rfl ?_
  refine gs_iconst (w := 1) (pc := 18) C dX0_keep_18 rfl ?_
  refine gs_iadd (pc := 19) C dX0_keep_19 ?_
  refine gs_bipush (w := 40) (pc := 20) C dX0_keep_20 rfl ?_
  obtain ⟨v5, e6, h⟩ := gs_o1 h
  refine gs_irem' (pc := 22) C dX0_keep_22 e6 ?_
  obtain ⟨M8, e7, h⟩ := gs_o1 h
  refine gs_puti' (pc := 23) C dX0_keep_23 gk_0 fp_X0_22 sh_13 rfl e7 ?_
  refine gs_aload_n (pc := 26) C 0 dX0_keep_26 rfl rfl ?_
  refine gs_aload_n (pc := 27) C 0 dX0_keep_27 rfl rfl ?_
  refine gs_geti (pc := 28) C dX0_keep_28 gk_0 fl_X0_18 sh_13 rfl ?_
  refine gs_iconst (w := 1) (pc := 31) C dX0_keep_31 rfl ?_
  refine gs_iadd (pc := 32) C dX0_keep_32 ?_
  refine gs_bipush (w := 40) (pc := 33) C dX0_keep_33 rfl ?_
  refine gs_mmin (pc := 35) C dX0_keep_35 ml_X0_29 (Nat.le_of_ble_eq_true rfl) ?_
  obtain ⟨M10, e9, h⟩ := gs_o1 h
  refine gs_puti' (pc := 38) C dX0_keep_38 gk_0 fp_X0_18 sh_13 rfl e9 ?_
  obtain rfl := gs_i1 h
  exact gs_vret (pc := 41) C dX0_keep_41 E
set_option maxRecDepth 100000 in
set_option maxHeartbeats 4000000 in
theorem a_X6_set (l : Launch) {M : gs_M} {L : gs_L} {x1 : Int32} {x2 : Int32} {x3 : Int32} {Mz : gs_M} (h : f_X6_set M x1 x2 x3 = some (Mz)) : gs_Met l 0 yX6_set cX6_set 4 none [.ref 9, .int x1, .int x2, .int x3] M L none Mz L := by
  unfold f_X6_set at h
  refine gs_of RX6 (by decide) rfl (Nat.le_of_ble_eq_true rfl) (fun X C E => ?_)
  show gs_AW X 0 [(0, .ref 9), (1, .int x1), (2, .int x2), (3, .int x3)] [] M L
  refine gs_aload_n (pc := 0) C 0 dX6_set_0 rfl rfl ?_
  refine gs_getq (pc := 1) C dX6_set_1 gk_6 fl_X6_11 sh_9 rfl ?_
  refine gs_iload_n (pc := 4) C 1 dX6_set_4 rfl rfl ?_
  refine gs_bipush (w := 6) (pc := 5) C dX6_set_5 rfl ?_
  refine gs_imul (pc := 7) C dX6_set_7 ?_
  refine gs_iload_n (pc := 8) C 2 dX6_set_8 rfl rfl ?_
  refine gs_iadd (pc := 9) C dX6_set_9 ?_
  refine gs_iload_n (pc := 10) C 3 dX6_set_10 rfl rfl ?_
  obtain ⟨M2, e1, h⟩ := gs_o1 h
  refine gs_iast (pc := 11) C dX6_set_11 sh_10 e1 ?_
  obtain rfl := gs_i1 h
  exact gs_vret (pc := 12) C dX6_set_12 E
set_option maxRecDepth 100000 in
set_option maxHeartbeats 4000000 in
theorem a_X11_onceAhead (l : Launch) {M : gs_M} {L : gs_L} {x1 : Int32} {x2 : Int32} {rv : Int32} {Mz : gs_M} (h : f_X11_onceAhead M x1 x2 = some (rv, Mz)) : gs_Met l 2 yX11_onceAhead cX11_onceAhead 3 (some .boolean) [.ref 0, .int x1, .int x2] M L (some (.int rv)) Mz L := by
  unfold f_X11_onceAhead at h
  refine gs_of RX11 (by decide) rfl (Nat.le_of_ble_eq_true rfl) (fun X C E => ?_)
  show gs_AW X 0 [(0, .ref 0), (1, .int x1), (2, .int x2)] [] M L
  refine gs_aload_n (pc := 0) C 0 dX11_onceAhead_0 rfl rfl ?_
  refine gs_iload_n (pc := 1) C 1 dX11_onceAhead_1 rfl rfl ?_
  obtain ⟨v1, e2, h⟩ := gs_o1 h
  refine gs_callVi (pc := 2) C [.int x1] dX11_onceAhead_2 ml_X11_178 wy_X11_isPerson (a_X11_isPerson _ e2) (by decide) sh_0 (by decide) rfl rfl (Nat.le_of_ble_eq_true rfl) rfl ?_
  refine gs_if_eq (pc := 5) C 20 dX11_onceAhead_5 rfl (fun c3 => ?_) (fun c3 => ?_)
  · replace h := gs_ift c3 h
    refine gs_iconst (w := 0) (pc := 20) C dX11_onceAhead_20 rfl ?_
    obtain ⟨rfl, rfl⟩ := gs_i2 h
    exact gs_zret (pc := 21) C (by decide) dX11_onceAhead_21 E
  · replace h := gs_iff c3 h
    refine gs_aload_n (pc := 8) C 0 dX11_onceAhead_8 rfl rfl ?_
    refine gs_getq (pc := 9) C dX11_onceAhead_9 gk_11 fl_X11_29 sh_0 rfl ?_
    refine gs_iload_n (pc := 12) C 1 dX11_onceAhead_12 rfl rfl ?_
    refine gs_iload_n (pc := 13) C 2 dX11_onceAhead_13 rfl rfl ?_
    obtain ⟨v4, e5, h⟩ := gs_o1 h
    refine gs_callVi (pc := 14) C [.int x1, .int x2] dX11_onceAhead_14 ml_X11_188 wy_X6_of (a_X6_of _ e5) (by decide) sh_9 (by decide) rfl rfl (Nat.le_of_ble_eq_true rfl) rfl ?_
    refine gs_if_eq (pc := 17) C 22 dX11_onceAhead_17 rfl (fun c6 => ?_) (fun c6 => ?_)
    · replace h := gs_ift c6 h
      refine gs_aload_n (pc := 22) C 0 dX11_onceAhead_22 rfl rfl ?_
      refine gs_getq (pc := 23) C dX11_onceAhead_23 gk_11 fl_X11_39 sh_0 rfl ?_
      refine gs_aload_n (pc := 26) C 0 dX11_onceAhead_26 rfl rfl ?_
      refine gs_getq (pc := 27) C dX11_onceAhead_27 gk_11 fl_X11_29 sh_0 rfl ?_
      obtain ⟨M7, e8, h⟩ := gs_o1 h
      refine gs_callVv (pc := 30) C [.ref 9] dX11_onceAhead_30 ml_X11_216 wy_X0_keep (a_X0_keep _ e8) (by decide) sh_13 (by decide) rfl rfl (Nat.le_of_ble_eq_true rfl) rfl ?_
      refine gs_aload_n (pc := 33) C 0 dX11_onceAhead_33 rfl rfl ?_
      refine gs_getq (pc := 34) C dX11_onceAhead_34 gk_11 fl_X11_29 sh_0 rfl ?_
      refine gs_iload_n (pc := 37) C 1 dX11_onceAhead_37 rfl rfl ?_
      refine gs_iload_n (pc := 38) C 2 dX11_onceAhead_38 rfl rfl ?_
      refine gs_iconst (w := 1) (pc := 39) C dX11_onceAhead_39 rfl ?_
      obtain ⟨M9, e10, h⟩ := gs_o1 h
      refine gs_callVv (pc := 40) C [.int x1, .int x2, .int (1 : Int32)] dX11_onceAhead_40 ml_X11_219 wy_X6_set (a_X6_set _ e10) (by decide) sh_9 (by decide) rfl rfl (Nat.le_of_ble_eq_true rfl) rfl ?_
      refine gs_iconst (w := 1) (pc := 43) C dX11_onceAhead_43 rfl ?_
      obtain ⟨rfl, rfl⟩ := gs_i2 h
      exact gs_zret (pc := 44) C (by decide) dX11_onceAhead_44 E
    · replace h := gs_iff c6 h
      refine gs_iconst (w := 0) (pc := 20) C dX11_onceAhead_20 rfl ?_
      obtain ⟨rfl, rfl⟩ := gs_i2 h
      exact gs_zret (pc := 21) C (by decide) dX11_onceAhead_21 E
set_option maxRecDepth 100000 in
set_option maxHeartbeats 4000000 in
theorem a_X11_coffee (l : Launch) {M : gs_M} {L : gs_L} {x1 : Int32} {rv : Int32} {Mz : gs_M} (h : f_X11_coffee M x1 = some (rv, Mz)) : gs_Met l 3 yX11_coffee cX11_coffee 2 (some .boolean) [.ref 0, .int x1] M L (some (.int rv)) Mz L := by
  unfold f_X11_coffee at h
  refine gs_of RX11 (by decide) rfl (Nat.le_of_ble_eq_true rfl) (fun X C E => ?_)
  show gs_AW X 0 [(0, .ref 0), (1, .int x1)] [] M L
  refine gs_aload_n (pc := 0) C 0 dX11_coffee_0 rfl rfl ?_
  refine gs_iload_n (pc := 1) C 1 dX11_coffee_1 rfl rfl ?_
  refine gs_iconst (w := 3) (pc := 2) C dX11_coffee_2 rfl ?_
  obtain ⟨v1, M2, e3, h⟩ := gs_o2 h
  refine gs_callVi (pc := 3) C [.int x1, .int (3 : Int32)] dX11_coffee_3 ml_X11_223 wy_X11_onceAhead (a_X11_onceAhead _ e3) (by decide) sh_0 (by decide) rfl rfl (Nat.le_of_ble_eq_true rfl) rfl ?_
  obtain ⟨z4, e5, h⟩ := gs_o1 h
  obtain ⟨rfl, rfl⟩ := gs_i2 h
  exact gs_zret' (pc := 6) C dX11_coffee_6 e5 E
set_option maxRecDepth 100000 in
set_option maxHeartbeats 4000000 in
theorem a_X10_many (l : Launch) {M : gs_M} {L : gs_L} {rv : Int32} (h : f_X10_many M = some (rv)) : gs_Met l 0 yX10_many cX10_many 1 (some .int) [.ref 95] M L (some (.int rv)) M L := by
  unfold f_X10_many at h
  refine gs_of RX10 (by decide) rfl (Nat.le_of_ble_eq_true rfl) (fun X C E => ?_)
  show gs_AW X 0 [(0, .ref 95)] [] M L
  refine gs_aload_n (pc := 0) C 0 dX10_many_0 rfl rfl ?_
  refine gs_geti (pc := 1) C dX10_many_1 gk_10 fl_X10_22 sh_95 rfl ?_
  obtain rfl := gs_i1 h
  exact gs_iret (pc := 4) C dX10_many_4 E
set_option maxRecDepth 100000 in
set_option maxHeartbeats 4000000 in
theorem a_X7_size (l : Launch) {M : gs_M} {L : gs_L} {rv : Int32} (h : f_X7_size M = some (rv)) : gs_Met l 0 yX7_size cX7_size 1 (some .int) [.ref 1] M L (some (.int rv)) M L := by
  unfold f_X7_size at h
  refine gs_of RX7 (by decide) rfl (Nat.le_of_ble_eq_true rfl) (fun X C E => ?_)
  show gs_AW X 0 [(0, .ref 1)] [] M L
  refine gs_aload_n (pc := 0) C 0 dX7_size_0 rfl rfl ?_
  refine gs_geti (pc := 1) C dX7_size_1 gk_7 fl_X7_15 sh_1 rfl ?_
  obtain rfl := gs_i1 h
  exact gs_iret (pc := 4) C dX7_size_4 E
set_option maxRecDepth 100000 in
set_option maxHeartbeats 4000000 in
theorem a_X10_holding (l : Launch) {M : gs_M} {L : gs_L} {rv : Int32} (h : f_X10_holding M = some (rv)) : gs_Met l 0 yX10_holding cX10_holding 1 (some .int) [.ref 95] M L (some (.int rv)) M L := by
  unfold f_X10_holding at h
  refine gs_of RX10 (by decide) rfl (Nat.le_of_ble_eq_true rfl) (fun X C E => ?_)
  show gs_AW X 0 [(0, .ref 95)] [] M L
  refine gs_aload_n (pc := 0) C 0 dX10_holding_0 rfl rfl ?_
  refine gs_geti (pc := 1) C dX10_holding_1 gk_10 fl_X10_18 sh_95 rfl ?_
  obtain rfl := gs_i1 h
  exact gs_iret (pc := 4) C dX10_holding_4 E
set_option maxRecDepth 100000 in
set_option maxHeartbeats 4000000 in
theorem a_X6_rights (l : Launch) {M : gs_M} {L : gs_L} {rv : Int32} (h : f_X6_rights M = some (rv)) : gs_Met l 0 yX6_rights cX6_rights 1 (some .int) [.ref 9] M L (some (.int rv)) M L := by
  unfold f_X6_rights at h
  refine gs_of RX6 (by decide) rfl (Nat.le_of_ble_eq_true rfl) (fun X C E => ?_)
  show gs_AW X 0 [(0, .ref 9)] [] M L
  refine gs_aload_n (pc := 0) C 0 dX6_rights_0 rfl rfl ?_
  refine gs_getq (pc := 1) C dX6_rights_1 gk_6 fl_X6_11 sh_9 rfl ?_
  refine gs_bipush (w := 49) (pc := 4) C dX6_rights_4 rfl ?_
  obtain ⟨v1, e2, h⟩ := gs_o1 h
  refine gs_iald (pc := 6) C dX6_rights_6 sh_10 e2 ?_
  obtain rfl := gs_i1 h
  exact gs_iret (pc := 7) C dX6_rights_7 E
set_option maxRecDepth 100000 in
set_option maxHeartbeats 4000000 in
theorem a_X6_wrongs (l : Launch) {M : gs_M} {L : gs_L} {rv : Int32} (h : f_X6_wrongs M = some (rv)) : gs_Met l 0 yX6_wrongs cX6_wrongs 1 (some .int) [.ref 9] M L (some (.int rv)) M L := by
  unfold f_X6_wrongs at h
  refine gs_of RX6 (by decide) rfl (Nat.le_of_ble_eq_true rfl) (fun X C E => ?_)
  show gs_AW X 0 [(0, .ref 9)] [] M L
  refine gs_aload_n (pc := 0) C 0 dX6_wrongs_0 rfl rfl ?_
  refine gs_getq (pc := 1) C dX6_wrongs_1 gk_6 fl_X6_11 sh_9 rfl ?_
  refine gs_bipush (w := 50) (pc := 4) C dX6_wrongs_4 rfl ?_
  obtain ⟨v1, e2, h⟩ := gs_o1 h
  refine gs_iald (pc := 6) C dX6_wrongs_6 sh_10 e2 ?_
  obtain rfl := gs_i1 h
  exact gs_iret (pc := 7) C dX6_wrongs_7 E
set_option maxRecDepth 100000 in
set_option maxHeartbeats 4000000 in
theorem a_X1_many (l : Launch) {M : gs_M} {L : gs_L} {rv : Int32} (h : f_X1_many M = some (rv)) : gs_Met l 0 yX1_many cX1_many 1 (some .int) [.ref 134] M L (some (.int rv)) M L := by
  unfold f_X1_many at h
  refine gs_of RX1 (by decide) rfl (Nat.le_of_ble_eq_true rfl) (fun X C E => ?_)
  show gs_AW X 0 [(0, .ref 134)] [] M L
  refine gs_aload_n (pc := 0) C 0 dX1_many_0 rfl rfl ?_
  refine gs_geti (pc := 1) C dX1_many_1 gk_1 fl_X1_37 sh_134 rfl ?_
  obtain rfl := gs_i1 h
  exact gs_iret (pc := 4) C dX1_many_4 E
set_option maxRecDepth 100000 in
set_option maxHeartbeats 4000000 in
theorem a_X6_logs (l : Launch) {M : gs_M} {L : gs_L} {rv : Int32} (h : f_X6_logs M = some (rv)) : gs_Met l 0 yX6_logs cX6_logs 1 (some .int) [.ref 9] M L (some (.int rv)) M L := by
  unfold f_X6_logs at h
  refine gs_of RX6 (by decide) rfl (Nat.le_of_ble_eq_true rfl) (fun X C E => ?_)
  show gs_AW X 0 [(0, .ref 9)] [] M L
  refine gs_aload_n (pc := 0) C 0 dX6_logs_0 rfl rfl ?_
  refine gs_getq (pc := 1) C dX6_logs_1 gk_6 fl_X6_11 sh_9 rfl ?_
  refine gs_bipush (w := 52) (pc := 4) C dX6_logs_4 rfl ?_
  obtain ⟨v1, e2, h⟩ := gs_o1 h
  refine gs_iald (pc := 6) C dX6_logs_6 sh_10 e2 ?_
  obtain rfl := gs_i1 h
  exact gs_iret (pc := 7) C dX6_logs_7 E
set_option maxRecDepth 100000 in
set_option maxHeartbeats 4000000 in
theorem a_X0_many (l : Launch) {M : gs_M} {L : gs_L} {rv : Int32} (h : f_X0_many M = some (rv)) : gs_Met l 0 yX0_many cX0_many 1 (some .int) [.ref 13] M L (some (.int rv)) M L := by
  unfold f_X0_many at h
  refine gs_of RX0 (by decide) rfl (Nat.le_of_ble_eq_true rfl) (fun X C E => ?_)
  show gs_AW X 0 [(0, .ref 13)] [] M L
  refine gs_aload_n (pc := 0) C 0 dX0_many_0 rfl rfl ?_
  refine gs_geti (pc := 1) C dX0_many_1 gk_0 fl_X0_18 sh_13 rfl ?_
  obtain rfl := gs_i1 h
  exact gs_iret (pc := 4) C dX0_many_4 E
set_option maxRecDepth 100000 in
set_option maxHeartbeats 4000000 in
theorem a_X11_count (l : Launch) {M : gs_M} {L : gs_L} {x1 : Int32} {rv : Int32} (h : f_X11_count M x1 = some (rv)) : gs_Met l 1 yX11_count cX11_count 2 (some .int) [.ref 0, .int x1] M L (some (.int rv)) M L := by
  unfold f_X11_count at h
  refine gs_of RX11 (by decide) rfl (Nat.le_of_ble_eq_true rfl) (fun X C E => ?_)
  show gs_AW X 0 [(0, .ref 0), (1, .int x1)] [] M L
  refine gs_iload_n (pc := 0) C 1 dX11_count_0 rfl rfl ?_
  by_cases c1 : x1 = (0 : Int32)
  · replace h := gs_ift c1 h
    refine gs_tabIn (pc := 1) C 72 dX11_count_1 (by rw [c1]; decide) (by rw [c1]; decide) (off := 71) (by rw [c1]; decide) rfl ?_
    refine gs_aload_n (pc := 72) C 0 dX11_count_72 rfl rfl ?_
    refine gs_getq (pc := 73) C dX11_count_73 gk_11 fl_X11_19 sh_0 rfl ?_
    obtain ⟨v2, e3, h⟩ := gs_o1 h
    refine gs_callVi (pc := 76) C [] dX11_count_76 ml_X11_158 wy_X9_crowd (a_X9_crowd _ e3) (by decide) sh_3 (by decide) rfl rfl (Nat.le_of_ble_eq_true rfl) rfl ?_
    obtain rfl := gs_i1 h
    exact gs_iret (pc := 79) C dX11_count_79 E
  replace h := gs_iff c1 h
  by_cases c4 : x1 = (1 : Int32)
  · replace h := gs_ift c4 h
    refine gs_tabIn (pc := 1) C 80 dX11_count_1 (by rw [c4]; decide) (by rw [c4]; decide) (off := 79) (by rw [c4]; decide) rfl ?_
    refine gs_aload_n (pc := 80) C 0 dX11_count_80 rfl rfl ?_
    refine gs_getq (pc := 81) C dX11_count_81 gk_11 fl_X11_71 sh_0 rfl ?_
    obtain ⟨v5, e6, h⟩ := gs_o1 h
    refine gs_callVi (pc := 84) C [] dX11_count_84 ml_X11_390 wy_X4_laws (a_X4_laws _ e6) (by decide) sh_105 (by decide) rfl rfl (Nat.le_of_ble_eq_true rfl) rfl ?_
    obtain rfl := gs_i1 h
    exact gs_iret (pc := 87) C dX11_count_87 E
  replace h := gs_iff c4 h
  by_cases c7 : x1 = (2 : Int32)
  · replace h := gs_ift c7 h
    refine gs_tabIn (pc := 1) C 88 dX11_count_1 (by rw [c7]; decide) (by rw [c7]; decide) (off := 87) (by rw [c7]; decide) rfl ?_
    refine gs_aload_n (pc := 88) C 0 dX11_count_88 rfl rfl ?_
    refine gs_getq (pc := 89) C dX11_count_89 gk_11 fl_X11_46 sh_0 rfl ?_
    obtain ⟨v8, e9, h⟩ := gs_o1 h
    refine gs_callVi (pc := 92) C [] dX11_count_92 ml_X11_401 wy_X10_many (a_X10_many _ e9) (by decide) sh_95 (by decide) rfl rfl (Nat.le_of_ble_eq_true rfl) rfl ?_
    obtain rfl := gs_i1 h
    exact gs_iret (pc := 95) C dX11_count_95 E
  replace h := gs_iff c7 h
  by_cases c10 : x1 = (3 : Int32)
  · replace h := gs_ift c10 h
    refine gs_tabIn (pc := 1) C 96 dX11_count_1 (by rw [c10]; decide) (by rw [c10]; decide) (off := 95) (by rw [c10]; decide) rfl ?_
    refine gs_aload_n (pc := 96) C 0 dX11_count_96 rfl rfl ?_
    refine gs_getq (pc := 97) C dX11_count_97 gk_11 fl_X11_10 sh_0 rfl ?_
    obtain ⟨v11, e12, h⟩ := gs_o1 h
    refine gs_callVi (pc := 100) C [] dX11_count_100 ml_X11_118 wy_X7_size (a_X7_size _ e12) (by decide) sh_1 (by decide) rfl rfl (Nat.le_of_ble_eq_true rfl) rfl ?_
    obtain rfl := gs_i1 h
    exact gs_iret (pc := 103) C dX11_count_103 E
  replace h := gs_iff c10 h
  by_cases c13 : x1 = (4 : Int32)
  · replace h := gs_ift c13 h
    refine gs_tabIn (pc := 1) C 104 dX11_count_1 (by rw [c13]; decide) (by rw [c13]; decide) (off := 103) (by rw [c13]; decide) rfl ?_
    refine gs_aload_n (pc := 104) C 0 dX11_count_104 rfl rfl ?_
    refine gs_getq (pc := 105) C dX11_count_105 gk_11 fl_X11_71 sh_0 rfl ?_
    obtain ⟨v14, e15, h⟩ := gs_o1 h
    refine gs_callVi (pc := 108) C [] dX11_count_108 ml_X11_240 wy_X4_holding (a_X4_holding _ e15) (by decide) sh_105 (by decide) rfl rfl (Nat.le_of_ble_eq_true rfl) rfl ?_
    obtain rfl := gs_i1 h
    exact gs_iret (pc := 111) C dX11_count_111 E
  replace h := gs_iff c13 h
  by_cases c16 : x1 = (5 : Int32)
  · replace h := gs_ift c16 h
    refine gs_tabIn (pc := 1) C 112 dX11_count_1 (by rw [c16]; decide) (by rw [c16]; decide) (off := 111) (by rw [c16]; decide) rfl ?_
    refine gs_aload_n (pc := 112) C 0 dX11_count_112 rfl rfl ?_
    refine gs_getq (pc := 113) C dX11_count_113 gk_11 fl_X11_46 sh_0 rfl ?_
    obtain ⟨v17, e18, h⟩ := gs_o1 h
    refine gs_callVi (pc := 116) C [] dX11_count_116 ml_X11_404 wy_X10_holding (a_X10_holding _ e18) (by decide) sh_95 (by decide) rfl rfl (Nat.le_of_ble_eq_true rfl) rfl ?_
    obtain rfl := gs_i1 h
    exact gs_iret (pc := 119) C dX11_count_119 E
  replace h := gs_iff c16 h
  by_cases c19 : x1 = (6 : Int32)
  · replace h := gs_ift c19 h
    refine gs_tabIn (pc := 1) C 120 dX11_count_1 (by rw [c19]; decide) (by rw [c19]; decide) (off := 119) (by rw [c19]; decide) rfl ?_
    refine gs_aload_n (pc := 120) C 0 dX11_count_120 rfl rfl ?_
    refine gs_getq (pc := 121) C dX11_count_121 gk_11 fl_X11_29 sh_0 rfl ?_
    obtain ⟨v20, e21, h⟩ := gs_o1 h
    refine gs_callVi (pc := 124) C [] dX11_count_124 ml_X11_227 wy_X6_now (a_X6_now _ e21) (by decide) sh_9 (by decide) rfl rfl (Nat.le_of_ble_eq_true rfl) rfl ?_
    obtain rfl := gs_i1 h
    exact gs_iret (pc := 127) C dX11_count_127 E
  replace h := gs_iff c19 h
  by_cases c22 : x1 = (7 : Int32)
  · replace h := gs_ift c22 h
    refine gs_tabIn (pc := 1) C 128 dX11_count_1 (by rw [c22]; decide) (by rw [c22]; decide) (off := 127) (by rw [c22]; decide) rfl ?_
    refine gs_aload_n (pc := 128) C 0 dX11_count_128 rfl rfl ?_
    refine gs_getq (pc := 129) C dX11_count_129 gk_11 fl_X11_29 sh_0 rfl ?_
    obtain ⟨v23, e24, h⟩ := gs_o1 h
    refine gs_callVi (pc := 132) C [] dX11_count_132 ml_X11_405 wy_X6_rights (a_X6_rights _ e24) (by decide) sh_9 (by decide) rfl rfl (Nat.le_of_ble_eq_true rfl) rfl ?_
    obtain rfl := gs_i1 h
    exact gs_iret (pc := 135) C dX11_count_135 E
  replace h := gs_iff c22 h
  by_cases c25 : x1 = (8 : Int32)
  · replace h := gs_ift c25 h
    refine gs_tabIn (pc := 1) C 136 dX11_count_1 (by rw [c25]; decide) (by rw [c25]; decide) (off := 135) (by rw [c25]; decide) rfl ?_
    refine gs_aload_n (pc := 136) C 0 dX11_count_136 rfl rfl ?_
    refine gs_getq (pc := 137) C dX11_count_137 gk_11 fl_X11_29 sh_0 rfl ?_
    obtain ⟨v26, e27, h⟩ := gs_o1 h
    refine gs_callVi (pc := 140) C [] dX11_count_140 ml_X11_408 wy_X6_wrongs (a_X6_wrongs _ e27) (by decide) sh_9 (by decide) rfl rfl (Nat.le_of_ble_eq_true rfl) rfl ?_
    obtain rfl := gs_i1 h
    exact gs_iret (pc := 143) C dX11_count_143 E
  replace h := gs_iff c25 h
  by_cases c28 : x1 = (9 : Int32)
  · replace h := gs_ift c28 h
    refine gs_tabIn (pc := 1) C 144 dX11_count_1 (by rw [c28]; decide) (by rw [c28]; decide) (off := 143) (by rw [c28]; decide) rfl ?_
    refine gs_aload_n (pc := 144) C 0 dX11_count_144 rfl rfl ?_
    refine gs_geti (pc := 145) C dX11_count_145 gk_11 fl_X11_110 sh_0 rfl ?_
    obtain rfl := gs_i1 h
    exact gs_iret (pc := 148) C dX11_count_148 E
  replace h := gs_iff c28 h
  by_cases c29 : x1 = (10 : Int32)
  · replace h := gs_ift c29 h
    refine gs_tabIn (pc := 1) C 149 dX11_count_1 (by rw [c29]; decide) (by rw [c29]; decide) (off := 148) (by rw [c29]; decide) rfl ?_
    refine gs_aload_n (pc := 149) C 0 dX11_count_149 rfl rfl ?_
    refine gs_getq (pc := 150) C dX11_count_150 gk_11 fl_X11_89 sh_0 rfl ?_
    obtain ⟨v30, e31, h⟩ := gs_o1 h
    refine gs_callVi (pc := 153) C [] dX11_count_153 ml_X11_411 wy_X1_many (a_X1_many _ e31) (by decide) sh_134 (by decide) rfl rfl (Nat.le_of_ble_eq_true rfl) rfl ?_
    obtain rfl := gs_i1 h
    exact gs_iret (pc := 156) C dX11_count_156 E
  replace h := gs_iff c29 h
  by_cases c32 : x1 = (11 : Int32)
  · replace h := gs_ift c32 h
    refine gs_tabIn (pc := 1) C 157 dX11_count_1 (by rw [c32]; decide) (by rw [c32]; decide) (off := 156) (by rw [c32]; decide) rfl ?_
    refine gs_aload_n (pc := 157) C 0 dX11_count_157 rfl rfl ?_
    refine gs_getq (pc := 158) C dX11_count_158 gk_11 fl_X11_29 sh_0 rfl ?_
    obtain ⟨v33, e34, h⟩ := gs_o1 h
    refine gs_callVi (pc := 161) C [] dX11_count_161 ml_X11_279 wy_X6_books (a_X6_books _ e34) (by decide) sh_9 (by decide) rfl rfl (Nat.le_of_ble_eq_true rfl) rfl ?_
    obtain rfl := gs_i1 h
    exact gs_iret (pc := 164) C dX11_count_164 E
  replace h := gs_iff c32 h
  by_cases c35 : x1 = (12 : Int32)
  · replace h := gs_ift c35 h
    refine gs_tabIn (pc := 1) C 165 dX11_count_1 (by rw [c35]; decide) (by rw [c35]; decide) (off := 164) (by rw [c35]; decide) rfl ?_
    refine gs_aload_n (pc := 165) C 0 dX11_count_165 rfl rfl ?_
    refine gs_getq (pc := 166) C dX11_count_166 gk_11 fl_X11_29 sh_0 rfl ?_
    obtain ⟨v36, e37, h⟩ := gs_o1 h
    refine gs_callVi (pc := 169) C [] dX11_count_169 ml_X11_264 wy_X6_logs (a_X6_logs _ e37) (by decide) sh_9 (by decide) rfl rfl (Nat.le_of_ble_eq_true rfl) rfl ?_
    obtain rfl := gs_i1 h
    exact gs_iret (pc := 172) C dX11_count_172 E
  replace h := gs_iff c35 h
  by_cases c38 : x1 = (13 : Int32)
  · replace h := gs_ift c38 h
    refine gs_tabIn (pc := 1) C 173 dX11_count_1 (by rw [c38]; decide) (by rw [c38]; decide) (off := 172) (by rw [c38]; decide) rfl ?_
    refine gs_aload_n (pc := 173) C 0 dX11_count_173 rfl rfl ?_
    refine gs_getq (pc := 174) C dX11_count_174 gk_11 fl_X11_39 sh_0 rfl ?_
    obtain ⟨v39, e40, h⟩ := gs_o1 h
    refine gs_callVi (pc := 177) C [] dX11_count_177 ml_X11_412 wy_X0_many (a_X0_many _ e40) (by decide) sh_13 (by decide) rfl rfl (Nat.le_of_ble_eq_true rfl) rfl ?_
    obtain rfl := gs_i1 h
    exact gs_iret (pc := 180) C dX11_count_180 E
  replace h := gs_iff c38 h
  refine gs_tabOut (pc := 1) C 181 dX11_count_1 (gs_swOut (vs := [0, 1, 2, 3, 4, 5, 6, 7, 8, 9, 10, 11, 12, 13]) 0 14 (by decide) (List.forall_mem_cons.mpr ⟨c1, List.forall_mem_cons.mpr ⟨c4, List.forall_mem_cons.mpr ⟨c7, List.forall_mem_cons.mpr ⟨c10, List.forall_mem_cons.mpr ⟨c13, List.forall_mem_cons.mpr ⟨c16, List.forall_mem_cons.mpr ⟨c19, List.forall_mem_cons.mpr ⟨c22, List.forall_mem_cons.mpr ⟨c25, List.forall_mem_cons.mpr ⟨c28, List.forall_mem_cons.mpr ⟨c29, List.forall_mem_cons.mpr ⟨c32, List.forall_mem_cons.mpr ⟨c35, List.forall_mem_cons.mpr ⟨c38, fun _ h => absurd h List.not_mem_nil⟩⟩⟩⟩⟩⟩⟩⟩⟩⟩⟩⟩⟩⟩)) rfl ?_
  refine gs_ldc (pc := 181) C dX11_count_181 wk_X11_206 ?_
  obtain rfl := gs_i1 h
  exact gs_iret (pc := 183) C dX11_count_183 E
set_option maxRecDepth 100000 in
set_option maxHeartbeats 4000000 in
theorem a_X9_spouse (l : Launch) {M : gs_M} {L : gs_L} {x1 : Int32} {rv : Int32} (h : f_X9_spouse M x1 = some (rv)) : gs_Met l 0 yX9_spouse cX9_spouse 3 (some .int) [.ref 3, .int x1] M L (some (.int rv)) M L := by
  unfold f_X9_spouse at h
  refine gs_of RX9 (by decide) rfl (Nat.le_of_ble_eq_true rfl) (fun X C E => ?_)
  show gs_AW X 0 [(0, .ref 3), (1, .int x1)] [] M L
  refine gs_aload_n (pc := 0) C 0 dX9_spouse_0 rfl rfl ?_
  refine gs_getq (pc := 1) C dX9_spouse_1 gk_9 fl_X9_15 sh_3 rfl ?_
  refine gs_iload_n (pc := 4) C 1 dX9_spouse_4 rfl rfl ?_
  refine gs_iconst (w := 5) (pc := 5) C dX9_spouse_5 rfl ?_
  refine gs_imul (pc := 6) C dX9_spouse_6 ?_
  refine gs_iconst (w := 4) (pc := 7) C dX9_spouse_7 rfl ?_
  refine gs_iadd (pc := 8) C dX9_spouse_8 ?_
  obtain ⟨v1, e2, h⟩ := gs_o1 h
  refine gs_iald (pc := 9) C dX9_spouse_9 sh_5 e2 ?_
  refine gs_istore_n (ls' := [(2, .int v1), (0, .ref 3), (1, .int x1)]) (pc := 10) C dX9_spouse_10 rfl (by decide) rfl ?_
  refine gs_iload_n (pc := 11) C 0 dX9_spouse_11 rfl rfl ?_
  refine gs_aload_n (pc := 12) C 1 dX9_spouse_12 rfl rfl ?_
  refine gs_geti (pc := 13) C dX9_spouse_13 gk_9 fl_X9_18 sh_3 rfl ?_
  have j3 : gs_AW X 24 [(0, .ref 3), (1, .int x1), (2, .int v1)] [.int (if (M 3 2) ≤ v1 then (-1 : Int32) else v1 : Int32)] M L := by
    obtain rfl := gs_i1 h
    exact gs_iret (pc := 24) C dX9_spouse_24 E
  refine gs_icmp_ge (pc := 16) C 23 dX9_spouse_16 rfl (fun c4 => ?_) (fun c4 => ?_)
  · refine gs_iconst (w := (-1)) (pc := 23) C dX9_spouse_23 rfl ?_
    simp only [if_pos c4] at j3
    exact gs_sub [1, 2, 0] rfl (j3)
  · refine gs_iload_n (pc := 19) C 0 dX9_spouse_19 rfl rfl ?_
    refine gs_goto (pc := 20) C 24 dX9_spouse_20 rfl ?_
    simp only [if_neg c4] at j3
    exact gs_sub [1, 2, 0] rfl (j3)
set_option maxRecDepth 100000 in
set_option maxHeartbeats 4000000 in
theorem a_X11_isMarried (l : Launch) {M : gs_M} {L : gs_L} {x1 : Int32} {rv : Int32} (h : f_X11_isMarried M x1 = some (rv)) : gs_Met l 2 yX11_isMarried cX11_isMarried 2 (some .boolean) [.ref 0, .int x1] M L (some (.int rv)) M L := by
  unfold f_X11_isMarried at h
  refine gs_of RX11 (by decide) rfl (Nat.le_of_ble_eq_true rfl) (fun X C E => ?_)
  show gs_AW X 0 [(0, .ref 0), (1, .int x1)] [] M L
  refine gs_aload_n (pc := 0) C 0 dX11_isMarried_0 rfl rfl ?_
  refine gs_iload_n (pc := 1) C 1 dX11_isMarried_1 rfl rfl ?_
  obtain ⟨v1, e2, h⟩ := gs_o1 h
  refine gs_callVi (pc := 2) C [.int x1] dX11_isMarried_2 ml_X11_178 wy_X11_isPerson (a_X11_isPerson _ e2) (by decide) sh_0 (by decide) rfl rfl (Nat.le_of_ble_eq_true rfl) rfl ?_
  obtain ⟨y3, e4, h⟩ := gs_o1 h
  have j5 : gs_AW X 25 [(0, .ref 0), (1, .int x1)] [.int y3] M L := by
    obtain ⟨z10, e11, h⟩ := gs_o1 h
    obtain rfl := gs_i1 h
    exact gs_zret' (pc := 25) C dX11_isMarried_25 e11 E
  refine gs_if_eq (pc := 5) C 24 dX11_isMarried_5 rfl (fun c6 => ?_) (fun c6 => ?_)
  · replace e4 := gs_ift c6 e4
    refine gs_iconst (w := 0) (pc := 24) C dX11_isMarried_24 rfl ?_
    obtain rfl := gs_i1 e4
    exact j5
  · replace e4 := gs_iff c6 e4
    refine gs_aload_n (pc := 8) C 0 dX11_isMarried_8 rfl rfl ?_
    refine gs_getq (pc := 9) C dX11_isMarried_9 gk_11 fl_X11_19 sh_0 rfl ?_
    refine gs_iload_n (pc := 12) C 1 dX11_isMarried_12 rfl rfl ?_
    obtain ⟨v7, e8, e4⟩ := gs_o1 e4
    refine gs_callVi (pc := 13) C [.int x1] dX11_isMarried_13 ml_X11_194 wy_X9_spouse (a_X9_spouse _ e8) (by decide) sh_3 (by decide) rfl rfl (Nat.le_of_ble_eq_true rfl) rfl ?_
    refine gs_iconst (w := (-1)) (pc := 16) C dX11_isMarried_16 rfl ?_
    refine gs_icmp_eq (pc := 17) C 24 dX11_isMarried_17 rfl (fun c9 => ?_) (fun c9 => ?_)
    · replace e4 := gs_ift c9 e4
      refine gs_iconst (w := 0) (pc := 24) C dX11_isMarried_24 rfl ?_
      obtain rfl := gs_i1 e4
      exact j5
    · replace e4 := gs_iff c9 e4
      refine gs_iconst (w := 1) (pc := 20) C dX11_isMarried_20 rfl ?_
      refine gs_goto (pc := 21) C 25 dX11_isMarried_21 rfl ?_
      obtain rfl := gs_i1 e4
      exact j5
set_option maxRecDepth 100000 in
set_option maxHeartbeats 4000000 in
theorem a_X11_isBit (l : Launch) {M : gs_M} {L : gs_L} {x0 : Int32} {rv : Int32} (h : f_X11_isBit x0 = some (rv)) : gs_Met l 0 yX11_isBit cX11_isBit 1 (some .boolean) [.int x0] M L (some (.int rv)) M L := by
  unfold f_X11_isBit at h
  refine gs_of RX11 (by decide) rfl (Nat.le_of_ble_eq_true rfl) (fun X C E => ?_)
  show gs_AW X 0 [(0, .int x0)] [] M L
  refine gs_iload_n (pc := 0) C 0 dX11_isBit_0 rfl rfl ?_
  have j3 : gs_AW X 14 [(0, .int x0)] [.int (if x0 = (0 : Int32) then (1 : Int32) else if x0 = (1 : Int32) then (1 : Int32) else (0 : Int32) : Int32)] M L := by
    obtain ⟨z1, e2, h⟩ := gs_o1 h
    obtain rfl := gs_i1 h
    exact gs_zret' (pc := 14) C dX11_isBit_14 e2 E
  refine gs_if_eq (pc := 1) C 9 dX11_isBit_1 rfl (fun c4 => ?_) (fun c4 => ?_)
  · refine gs_iconst (w := 1) (pc := 9) C dX11_isBit_9 rfl ?_
    refine gs_goto (pc := 10) C 14 dX11_isBit_10 rfl ?_
    simp only [if_pos c4] at j3
    exact j3
  · refine gs_iload_n (pc := 4) C 0 dX11_isBit_4 rfl rfl ?_
    refine gs_iconst (w := 1) (pc := 5) C dX11_isBit_5 rfl ?_
    refine gs_icmp_ne (pc := 6) C 13 dX11_isBit_6 rfl (fun c5 => ?_) (fun c5 => ?_)
    · refine gs_iconst (w := 0) (pc := 13) C dX11_isBit_13 rfl ?_
      simp only [if_neg c4, if_neg c5] at j3
      exact j3
    · refine gs_iconst (w := 1) (pc := 9) C dX11_isBit_9 rfl ?_
      refine gs_goto (pc := 10) C 14 dX11_isBit_10 rfl ?_
      simp only [if_neg c4, if_pos c5] at j3
      exact j3
set_option maxRecDepth 100000 in
set_option maxHeartbeats 4000000 in
theorem a_X11_share (l : Launch) {M : gs_M} {L : gs_L} {x0 : Int32} {x1 : Int32} {x2 : Int32} {rv : Int32} (h : f_X11_share x0 x1 x2 = some (rv)) : gs_Met l 0 yX11_share cX11_share 4 (some .int) [.int x0, .int x1, .int x2] M L (some (.int rv)) M L := by
  unfold f_X11_share at h
  refine gs_of RX11 (by decide) rfl (Nat.le_of_ble_eq_true rfl) (fun X C E => ?_)
  show gs_AW X 0 [(0, .int x0), (1, .int x1), (2, .int x2)] [] M L
  refine gs_iload_n (pc := 0) C 0 dX11_share_0 rfl rfl ?_
  refine gs_iconst (w := 0) (pc := 1) C dX11_share_1 rfl ?_
  refine gs_mmax (pc := 2) C dX11_share_2 ml_X11_380 (Nat.le_of_ble_eq_true rfl) ?_
  refine gs_iconst (w := 2) (pc := 5) C dX11_share_5 rfl ?_
  obtain ⟨v1, e2, h⟩ := gs_o1 h
  refine gs_idiv' (pc := 6) C dX11_share_6 e2 ?_
  refine gs_ineg (pc := 7) C dX11_share_7 ?_
  refine gs_istore_n (ls' := [(3, .int (-v1)), (0, .int x0), (1, .int x1), (2, .int x2)]) (pc := 8) C dX11_share_8 rfl (by decide) rfl ?_
  refine gs_iload_n (pc := 9) C 3 dX11_share_9 rfl rfl ?_
  refine gs_iconst (w := 1) (pc := 10) C dX11_share_10 rfl ?_
  refine gs_icmp_ne (pc := 11) C 18 dX11_share_11 rfl (fun c3 => ?_) (fun c3 => ?_)
  · replace h := gs_iff c3 h
    refine gs_iload_n (pc := 18) C 2 dX11_share_18 rfl rfl ?_
    refine gs_iconst (w := 1) (pc := 19) C dX11_share_19 rfl ?_
    have j4 : gs_AW X 32 [(0, .int x0), (1, .int x1), (2, .int x2), (3, .int (-v1))] [.int (if x1 = (1 : Int32) then ((-v1) + (2 : Int32)) else ((-v1) + (1 : Int32)) : Int32)] M L := by
      obtain rfl := gs_i1 h
      exact gs_iret (pc := 32) C dX11_share_32 E
    refine gs_icmp_ne (pc := 20) C 29 dX11_share_20 rfl (fun c5 => ?_) (fun c5 => ?_)
    · refine gs_iload_n (pc := 29) C 0 dX11_share_29 rfl rfl ?_
      refine gs_iconst (w := 1) (pc := 30) C dX11_share_30 rfl ?_
      refine gs_iadd (pc := 31) C dX11_share_31 ?_
      simp only [if_neg c5] at j4
      exact gs_sub [1, 2, 3, 0] rfl (j4)
    · refine gs_iload_n (pc := 23) C 0 dX11_share_23 rfl rfl ?_
      refine gs_iconst (w := 2) (pc := 24) C dX11_share_24 rfl ?_
      refine gs_iadd (pc := 25) C dX11_share_25 ?_
      refine gs_goto (pc := 26) C 32 dX11_share_26 rfl ?_
      simp only [if_pos c5] at j4
      exact gs_sub [1, 2, 3, 0] rfl (j4)
  · replace h := gs_ift c3 h
    refine gs_iload_n (pc := 14) C 0 dX11_share_14 rfl rfl ?_
    refine gs_iconst (w := 4) (pc := 15) C dX11_share_15 rfl ?_
    refine gs_isub (pc := 16) C dX11_share_16 ?_
    obtain rfl := gs_i1 h
    exact gs_iret (pc := 17) C dX11_share_17 E
set_option maxRecDepth 100000 in
set_option maxHeartbeats 4000000 in
theorem a_X11_couple (l : Launch) {M : gs_M} {L : gs_L} {x1 : Int32} {x2 : Int32} {x3 : Int32} {x4 : Int32} {rv : Int32} {Mz : gs_M} (h : f_X11_couple M x1 x2 x3 x4 = some (rv, Mz)) : gs_Met l 5 yX11_couple cX11_couple 7 (some .int) [.ref 0, .int x1, .int x2, .int x3, .int x4] M L (some (.int rv)) Mz L := by
  unfold f_X11_couple at h
  refine gs_of RX11 (by decide) rfl (Nat.le_of_ble_eq_true rfl) (fun X C E => ?_)
  show gs_AW X 0 [(0, .ref 0), (1, .int x1), (2, .int x2), (3, .int x3), (4, .int x4)] [] M L
  refine gs_aload_n (pc := 0) C 0 dX11_couple_0 rfl rfl ?_
  refine gs_iload_n (pc := 1) C 1 dX11_couple_1 rfl rfl ?_
  obtain ⟨v1, e2, h⟩ := gs_o1 h
  refine gs_callVi (pc := 2) C [.int x1] dX11_couple_2 ml_X11_371 wy_X11_isMarried (a_X11_isMarried _ e2) (by decide) sh_0 (by decide) rfl rfl (Nat.le_of_ble_eq_true rfl) rfl ?_
  refine gs_if_eq (pc := 5) C 30 dX11_couple_5 rfl (fun c3 => ?_) (fun c3 => ?_)
  · replace h := gs_ift c3 h
    refine gs_ldc (pc := 30) C dX11_couple_30 wk_X11_206 ?_
    obtain ⟨rfl, rfl⟩ := gs_i2 h
    exact gs_iret (pc := 32) C dX11_couple_32 E
  · replace h := gs_iff c3 h
    refine gs_iload_n (pc := 8) C 2 dX11_couple_8 rfl rfl ?_
    obtain ⟨v4, e5, h⟩ := gs_o1 h
    refine gs_callSi (pc := 9) C [.int x2] dX11_couple_9 ml_X11_374 wy_X11_isBit (a_X11_isBit _ e5) (by decide) rfl (Nat.le_of_ble_eq_true rfl) rfl ?_
    refine gs_if_eq (pc := 12) C 30 dX11_couple_12 rfl (fun c6 => ?_) (fun c6 => ?_)
    · replace h := gs_ift c6 h
      refine gs_ldc (pc := 30) C dX11_couple_30 wk_X11_206 ?_
      obtain ⟨rfl, rfl⟩ := gs_i2 h
      exact gs_iret (pc := 32) C dX11_couple_32 E
    · replace h := gs_iff c6 h
      refine gs_iload_n (pc := 15) C 3 dX11_couple_15 rfl rfl ?_
      obtain ⟨v7, e8, h⟩ := gs_o1 h
      refine gs_callSi (pc := 16) C [.int x3] dX11_couple_16 ml_X11_374 wy_X11_isBit (a_X11_isBit _ e8) (by decide) rfl (Nat.le_of_ble_eq_true rfl) rfl ?_
      refine gs_if_eq (pc := 19) C 30 dX11_couple_19 rfl (fun c9 => ?_) (fun c9 => ?_)
      · replace h := gs_ift c9 h
        refine gs_ldc (pc := 30) C dX11_couple_30 wk_X11_206 ?_
        obtain ⟨rfl, rfl⟩ := gs_i2 h
        exact gs_iret (pc := 32) C dX11_couple_32 E
      · replace h := gs_iff c9 h
        refine gs_iload (pc := 22) C 4 dX11_couple_22 rfl ?_
        obtain ⟨v10, e11, h⟩ := gs_o1 h
        refine gs_callSi (pc := 24) C [.int x4] dX11_couple_24 ml_X11_374 wy_X11_isBit (a_X11_isBit _ e11) (by decide) rfl (Nat.le_of_ble_eq_true rfl) rfl ?_
        refine gs_if_ne (pc := 27) C 33 dX11_couple_27 rfl (fun c12 => ?_) (fun c12 => ?_)
        · replace h := gs_iff c12 h
          refine gs_iload (pc := 33) C 4 dX11_couple_33 rfl ?_
          obtain ⟨y13, e14, h⟩ := gs_o1 h
          have j15 : gs_AW X 50 [(0, .ref 0), (1, .int x1), (2, .int x2), (3, .int x3), (4, .int x4)] [.int y13] M L := by
            refine gs_istore (ls' := [(5, .int y13), (0, .ref 0), (1, .int x1), (2, .int x2), (3, .int x3), (4, .int x4)]) (pc := 50) C dX11_couple_50 (by decide) rfl ?_
            refine gs_aload_n (pc := 52) C 1 dX11_couple_52 rfl rfl ?_
            refine gs_getq (pc := 53) C dX11_couple_53 gk_11 fl_X11_71 sh_0 rfl ?_
            refine gs_iload (pc := 56) C 0 dX11_couple_56 rfl ?_
            refine gs_aload_n (pc := 58) C 1 dX11_couple_58 rfl rfl ?_
            refine gs_getq (pc := 59) C dX11_couple_59 gk_11 fl_X11_71 sh_0 rfl ?_
            obtain ⟨v19, e20, h⟩ := gs_o1 h
            refine gs_callVi (pc := 62) C [] dX11_couple_62 ml_X11_240 wy_X4_holding (a_X4_holding _ e20) (by decide) sh_105 (by decide) rfl rfl (Nat.le_of_ble_eq_true rfl) rfl ?_
            obtain ⟨v21, M22, e23, h⟩ := gs_o2 h
            refine gs_callVi (pc := 65) C [.int y13, .int v19] dX11_couple_65 ml_X11_243 wy_X4_caseOf (a_X4_caseOf _ e23) (by decide) sh_105 (by decide) rfl rfl (Nat.le_of_ble_eq_true rfl) rfl ?_
            refine gs_istore (ls' := [(6, .int v21), (5, .int y13), (0, .ref 0), (1, .int x1), (2, .int x2), (3, .int x3), (4, .int x4)]) (pc := 68) C dX11_couple_68 (by decide) rfl ?_
            refine gs_iload (pc := 70) C 6 dX11_couple_70 rfl ?_
            obtain ⟨y24, e25, h⟩ := gs_o1 h
            have j26 : gs_AW X 92 [(0, .ref 0), (1, .int x1), (2, .int x2), (3, .int x3), (4, .int x4), (5, .int y13), (6, .int v21)] [.int y24] M22 L := by
              obtain ⟨rfl, rfl⟩ := gs_i2 h
              exact gs_iret (pc := 92) C dX11_couple_92 E
            refine gs_if_ne (pc := 72) C 85 dX11_couple_72 rfl (fun c27 => ?_) (fun c27 => ?_)
            · replace e25 := gs_iff c27 e25
              refine gs_iload (pc := 85) C 0 dX11_couple_85 rfl ?_
              refine gs_iload_n (pc := 87) C 5 dX11_couple_87 rfl rfl ?_
              refine gs_iload_n (pc := 88) C 4 dX11_couple_88 rfl rfl ?_
              obtain ⟨v28, e29, e25⟩ := gs_o1 e25
              refine gs_callSi (pc := 89) C [.int v21, .int x3, .int x2] dX11_couple_89 ml_X11_377 wy_X11_share (a_X11_share _ e29) (by decide) rfl (Nat.le_of_ble_eq_true rfl) rfl ?_
              obtain rfl := gs_i1 e25
              exact gs_sub [2, 3, 4, 5, 6, 1, 0] rfl (j26)
            · replace e25 := gs_ift c27 e25
              refine gs_iload (pc := 75) C 0 dX11_couple_75 rfl ?_
              refine gs_iload_n (pc := 77) C 4 dX11_couple_77 rfl rfl ?_
              refine gs_iload_n (pc := 78) C 5 dX11_couple_78 rfl rfl ?_
              obtain ⟨v30, e31, e25⟩ := gs_o1 e25
              refine gs_callSi (pc := 79) C [.int v21, .int x2, .int x3] dX11_couple_79 ml_X11_377 wy_X11_share (a_X11_share _ e31) (by decide) rfl (Nat.le_of_ble_eq_true rfl) rfl ?_
              refine gs_goto (pc := 82) C 92 dX11_couple_82 rfl ?_
              obtain rfl := gs_i1 e25
              exact gs_sub [2, 3, 4, 5, 6, 1, 0] rfl (j26)
          refine gs_if_ne (pc := 35) C 42 dX11_couple_35 rfl (fun c16 => ?_) (fun c16 => ?_)
          · replace e14 := gs_iff c16 e14
            refine gs_aload_n (pc := 42) C 0 dX11_couple_42 rfl rfl ?_
            refine gs_getq (pc := 43) C dX11_couple_43 gk_11 fl_X11_19 sh_0 rfl ?_
            refine gs_iload_n (pc := 46) C 1 dX11_couple_46 rfl rfl ?_
            obtain ⟨v17, e18, e14⟩ := gs_o1 e14
            refine gs_callVi (pc := 47) C [.int x1] dX11_couple_47 ml_X11_194 wy_X9_spouse (a_X9_spouse _ e18) (by decide) sh_3 (by decide) rfl rfl (Nat.le_of_ble_eq_true rfl) rfl ?_
            obtain rfl := gs_i1 e14
            exact j15
          · replace e14 := gs_ift c16 e14
            refine gs_iload_n (pc := 38) C 1 dX11_couple_38 rfl rfl ?_
            refine gs_goto (pc := 39) C 50 dX11_couple_39 rfl ?_
            obtain rfl := gs_i1 e14
            exact j15
        · replace h := gs_ift c12 h
          refine gs_ldc (pc := 30) C dX11_couple_30 wk_X11_206 ?_
          obtain ⟨rfl, rfl⟩ := gs_i2 h
          exact gs_iret (pc := 32) C dX11_couple_32 E
set_option maxRecDepth 100000 in
set_option maxHeartbeats 4000000 in
theorem a_X11_isHour (l : Launch) {M : gs_M} {L : gs_L} {x1 : Int32} {rv : Int32} (h : f_X11_isHour M x1 = some (rv)) : gs_Met l 1 yX11_isHour cX11_isHour 2 (some .boolean) [.ref 0, .int x1] M L (some (.int rv)) M L := by
  unfold f_X11_isHour at h
  refine gs_of RX11 (by decide) rfl (Nat.le_of_ble_eq_true rfl) (fun X C E => ?_)
  show gs_AW X 0 [(0, .ref 0), (1, .int x1)] [] M L
  refine gs_iload_n (pc := 0) C 1 dX11_isHour_0 rfl rfl ?_
  obtain ⟨y1, e2, h⟩ := gs_o1 h
  have j3 : gs_AW X 20 [(0, .ref 0), (1, .int x1)] [.int y1] M L := by
    obtain ⟨z8, e9, h⟩ := gs_o1 h
    obtain rfl := gs_i1 h
    exact gs_zret' (pc := 20) C dX11_isHour_20 e9 E
  refine gs_if_lt (pc := 1) C 19 dX11_isHour_1 rfl (fun c4 => ?_) (fun c4 => ?_)
  · replace e2 := gs_ift c4 e2
    refine gs_iconst (w := 0) (pc := 19) C dX11_isHour_19 rfl ?_
    obtain rfl := gs_i1 e2
    exact j3
  · replace e2 := gs_iff c4 e2
    refine gs_iload_n (pc := 4) C 1 dX11_isHour_4 rfl rfl ?_
    refine gs_aload_n (pc := 5) C 0 dX11_isHour_5 rfl rfl ?_
    refine gs_getq (pc := 6) C dX11_isHour_6 gk_11 fl_X11_19 sh_0 rfl ?_
    obtain ⟨v5, e6, e2⟩ := gs_o1 e2
    refine gs_callVi (pc := 9) C [] dX11_isHour_9 ml_X11_305 wy_X9_hours (a_X9_hours _ e6) (by decide) sh_3 (by decide) rfl rfl (Nat.le_of_ble_eq_true rfl) rfl ?_
    refine gs_icmp_ge (pc := 12) C 19 dX11_isHour_12 rfl (fun c7 => ?_) (fun c7 => ?_)
    · replace e2 := gs_ift c7 e2
      refine gs_iconst (w := 0) (pc := 19) C dX11_isHour_19 rfl ?_
      obtain rfl := gs_i1 e2
      exact j3
    · replace e2 := gs_iff c7 e2
      refine gs_iconst (w := 1) (pc := 15) C dX11_isHour_15 rfl ?_
      refine gs_goto (pc := 16) C 20 dX11_isHour_16 rfl ?_
      obtain rfl := gs_i1 e2
      exact j3
set_option maxRecDepth 100000 in
set_option maxHeartbeats 4000000 in
theorem t_X11_cries_21 {X : gs_X} (C : gs_C X RX11 cX11_cries 4 (some .int) 5) {L : gs_L} {x1 : Int32} {o2 : Int32} {o3 : Int32} {M' : gs_M} (k : gs_AW X 50 [(0, .ref 0), (1, .int x1), (2, .int o2), (3, .int o3)] [] M' L) : ∀ (f : Nat) (x2 : Int32) (x3 : Int32) (M : gs_M), l_X11_cries_21 x1 f x2 x3 M = some (o2, o3, M') → gs_AW X 21 [(0, .ref 0), (1, .int x1), (2, .int x2), (3, .int x3)] [] M L := by
  intro f
  induction f with
  | zero =>
    intro x2 x3 M h
    cases h
  | succ f ih =>
    intro x2 x3 M h
    rw [l_X11_cries_21] at h
    refine gs_iload_n (pc := 21) C 3 dX11_cries_21 rfl rfl ?_
    refine gs_aload_n (pc := 22) C 0 dX11_cries_22 rfl rfl ?_
    refine gs_getq (pc := 23) C dX11_cries_23 gk_11 fl_X11_19 sh_0 rfl ?_
    obtain ⟨v1, e2, h⟩ := gs_o1 h
    refine gs_callVi (pc := 26) C [] dX11_cries_26 ml_X11_158 wy_X9_crowd (a_X9_crowd _ e2) (by decide) sh_3 (by decide) rfl rfl (Nat.le_of_ble_eq_true rfl) rfl ?_
    refine gs_icmp_ge (pc := 29) C 50 dX11_cries_29 rfl (fun c3 => ?_) (fun c3 => ?_)
    · replace h := gs_ift c3 h
      obtain ⟨rfl, rfl, rfl⟩ := gs_i3 h
      exact k
    · replace h := gs_iff c3 h
      refine gs_iload_n (pc := 32) C 2 dX11_cries_32 rfl rfl ?_
      refine gs_aload_n (pc := 33) C 0 dX11_cries_33 rfl rfl ?_
      refine gs_getq (pc := 34) C dX11_cries_34 gk_11 fl_X11_71 sh_0 rfl ?_
      refine gs_iload_n (pc := 37) C 3 dX11_cries_37 rfl rfl ?_
      refine gs_iload_n (pc := 38) C 1 dX11_cries_38 rfl rfl ?_
      obtain ⟨v4, M5, e6, h⟩ := gs_o2 h
      refine gs_callVi (pc := 39) C [.int x3, .int x1] dX11_cries_39 ml_X11_213 wy_X4_wakesNow (a_X4_wakesNow _ e6) (by decide) sh_105 (by decide) rfl rfl (Nat.le_of_ble_eq_true rfl) rfl ?_
      refine gs_iadd (pc := 42) C dX11_cries_42 ?_
      refine gs_istore_n (ls' := [(2, .int (x2 + v4)), (0, .ref 0), (1, .int x1), (3, .int x3)]) (pc := 43) C dX11_cries_43 rfl (by decide) rfl ?_
      refine gs_iinc (v := x3 + (1 : Int32)) (ls' := [(3, .int (x3 + (1 : Int32))), (2, .int (x2 + v4)), (0, .ref 0), (1, .int x1)]) (pc := 44) C 3 dX11_cries_44 rfl rfl (by decide) rfl ?_
      refine gs_goto (pc := 47) C 21 dX11_cries_47 rfl ?_
      exact gs_sub [2, 3, 1, 0] rfl (ih _ _ _ h)
set_option maxRecDepth 100000 in
set_option maxHeartbeats 4000000 in
theorem a_X11_cries (l : Launch) {M : gs_M} {L : gs_L} {x1 : Int32} {rv : Int32} {Mz : gs_M} (h : f_X11_cries M x1 = some (rv, Mz)) : gs_Met l 5 yX11_cries cX11_cries 4 (some .int) [.ref 0, .int x1] M L (some (.int rv)) Mz L := by
  unfold f_X11_cries at h
  refine gs_of RX11 (by decide) rfl (Nat.le_of_ble_eq_true rfl) (fun X C E => ?_)
  show gs_AW X 0 [(0, .ref 0), (1, .int x1)] [] M L
  refine gs_aload_n (pc := 0) C 0 dX11_cries_0 rfl rfl ?_
  obtain ⟨v1, e2, h⟩ := gs_o1 h
  refine gs_callVi (pc := 1) C [] dX11_cries_1 ml_X11_172 wy_X11_hasTown (a_X11_hasTown _ e2) (by decide) sh_0 (by decide) rfl rfl (Nat.le_of_ble_eq_true rfl) rfl ?_
  refine gs_if_eq (pc := 4) C 15 dX11_cries_4 rfl (fun c3 => ?_) (fun c3 => ?_)
  · replace h := gs_ift c3 h
    refine gs_iconst (w := (-1)) (pc := 15) C dX11_cries_15 rfl ?_
    obtain ⟨rfl, rfl⟩ := gs_i2 h
    exact gs_iret (pc := 16) C dX11_cries_16 E
  · replace h := gs_iff c3 h
    refine gs_aload_n (pc := 7) C 0 dX11_cries_7 rfl rfl ?_
    refine gs_iload_n (pc := 8) C 1 dX11_cries_8 rfl rfl ?_
    obtain ⟨v4, e5, h⟩ := gs_o1 h
    refine gs_callVi (pc := 9) C [.int x1] dX11_cries_9 ml_X11_210 wy_X11_isHour (a_X11_isHour _ e5) (by decide) sh_0 (by decide) rfl rfl (Nat.le_of_ble_eq_true rfl) rfl ?_
    refine gs_if_ne (pc := 12) C 17 dX11_cries_12 rfl (fun c6 => ?_) (fun c6 => ?_)
    · replace h := gs_iff c6 h
      refine gs_iconst (w := 0) (pc := 17) C dX11_cries_17 rfl ?_
      refine gs_istore_n (ls' := [(2, .int (0 : Int32)), (0, .ref 0), (1, .int x1)]) (pc := 18) C dX11_cries_18 rfl (by decide) rfl ?_
      refine gs_iconst (w := 0) (pc := 19) C dX11_cries_19 rfl ?_
      refine gs_istore_n (ls' := [(3, .int (0 : Int32)), (2, .int (0 : Int32)), (0, .ref 0), (1, .int x1)]) (pc := 20) C dX11_cries_20 rfl (by decide) rfl ?_
      obtain ⟨y7, y8, M9, e10, h⟩ := gs_o3 h
      refine gs_sub [2, 3, 1, 0] rfl (t_X11_cries_21 C ?_ gs_FU _ _ _ e10)
      refine gs_iload_n (pc := 50) C 2 dX11_cries_50 rfl rfl ?_
      obtain ⟨rfl, rfl⟩ := gs_i2 h
      exact gs_iret (pc := 51) C dX11_cries_51 E
    · replace h := gs_ift c6 h
      refine gs_iconst (w := (-1)) (pc := 15) C dX11_cries_15 rfl ?_
      obtain ⟨rfl, rfl⟩ := gs_i2 h
      exact gs_iret (pc := 16) C dX11_cries_16 E
set_option maxRecDepth 100000 in
set_option maxHeartbeats 4000000 in
theorem a_X11_crimes (l : Launch) {M : gs_M} {L : gs_L} {x1 : Int32} {rv : Int32} {Mz : gs_M} (h : f_X11_crimes M x1 = some (rv, Mz)) : gs_Met l 0 yX11_crimes cX11_crimes 2 (some .boolean) [.ref 0, .int x1] M L (some (.int rv)) Mz L := by
  unfold f_X11_crimes at h
  refine gs_of RX11 (by decide) rfl (Nat.le_of_ble_eq_true rfl) (fun X C E => ?_)
  show gs_AW X 0 [(0, .ref 0), (1, .int x1)] [] M L
  refine gs_iload_n (pc := 0) C 1 dX11_crimes_0 rfl rfl ?_
  refine gs_if_lt (pc := 1) C 18 dX11_crimes_1 rfl (fun c1 => ?_) (fun c1 => ?_)
  · replace h := gs_ift c1 h
    refine gs_iconst (w := 0) (pc := 18) C dX11_crimes_18 rfl ?_
    obtain ⟨rfl, rfl⟩ := gs_i2 h
    exact gs_zret (pc := 19) C (by decide) dX11_crimes_19 E
  · replace h := gs_iff c1 h
    refine gs_iload_n (pc := 4) C 1 dX11_crimes_4 rfl rfl ?_
    refine gs_bipush (w := 9) (pc := 5) C dX11_crimes_5 rfl ?_
    refine gs_icmp_gt (pc := 7) C 18 dX11_crimes_7 rfl (fun c2 => ?_) (fun c2 => ?_)
    · replace h := gs_ift c2 h
      refine gs_iconst (w := 0) (pc := 18) C dX11_crimes_18 rfl ?_
      obtain ⟨rfl, rfl⟩ := gs_i2 h
      exact gs_zret (pc := 19) C (by decide) dX11_crimes_19 E
    · replace h := gs_iff c2 h
      refine gs_iload_n (pc := 10) C 1 dX11_crimes_10 rfl rfl ?_
      refine gs_aload_n (pc := 11) C 0 dX11_crimes_11 rfl rfl ?_
      refine gs_geti (pc := 12) C dX11_crimes_12 gk_11 fl_X11_110 sh_0 rfl ?_
      refine gs_icmp_ne (pc := 15) C 20 dX11_crimes_15 rfl (fun c3 => ?_) (fun c3 => ?_)
      · replace h := gs_iff c3 h
        refine gs_aload_n (pc := 20) C 0 dX11_crimes_20 rfl rfl ?_
        refine gs_iload_n (pc := 21) C 1 dX11_crimes_21 rfl rfl ?_
        obtain ⟨M5, e4, h⟩ := gs_o1 h
        refine gs_puti' (pc := 22) C dX11_crimes_22 gk_11 fp_X11_110 sh_0 rfl e4 ?_
        refine gs_iconst (w := 1) (pc := 25) C dX11_crimes_25 rfl ?_
        obtain ⟨rfl, rfl⟩ := gs_i2 h
        exact gs_zret (pc := 26) C (by decide) dX11_crimes_26 E
      · replace h := gs_ift c3 h
        refine gs_iconst (w := 0) (pc := 18) C dX11_crimes_18 rfl ?_
        obtain ⟨rfl, rfl⟩ := gs_i2 h
        exact gs_zret (pc := 19) C (by decide) dX11_crimes_19 E
set_option maxRecDepth 100000 in
set_option maxHeartbeats 4000000 in
theorem a_X11_deed (l : Launch) {M : gs_M} {L : gs_L} {x1 : Int32} {x2 : Int32} {rv : Int32} {Mz : gs_M} (h : f_X11_deed M x1 x2 = some (rv, Mz)) : gs_Met l 2 yX11_deed cX11_deed 4 (some .int) [.ref 0, .int x1, .int x2] M L (some (.int rv)) Mz L := by
  unfold f_X11_deed at h
  refine gs_of RX11 (by decide) rfl (Nat.le_of_ble_eq_true rfl) (fun X C E => ?_)
  show gs_AW X 0 [(0, .ref 0), (1, .int x1), (2, .int x2)] [] M L
  refine gs_aload_n (pc := 0) C 0 dX11_deed_0 rfl rfl ?_
  refine gs_iload_n (pc := 1) C 1 dX11_deed_1 rfl rfl ?_
  obtain ⟨v1, e2, h⟩ := gs_o1 h
  refine gs_callVi (pc := 2) C [.int x1] dX11_deed_2 ml_X11_178 wy_X11_isPerson (a_X11_isPerson _ e2) (by decide) sh_0 (by decide) rfl rfl (Nat.le_of_ble_eq_true rfl) rfl ?_
  refine gs_if_eq (pc := 5) C 24 dX11_deed_5 rfl (fun c3 => ?_) (fun c3 => ?_)
  · replace h := gs_ift c3 h
    refine gs_iconst (w := (-1)) (pc := 24) C dX11_deed_24 rfl ?_
    obtain ⟨rfl, rfl⟩ := gs_i2 h
    exact gs_iret (pc := 25) C dX11_deed_25 E
  · replace h := gs_iff c3 h
    refine gs_iload_n (pc := 8) C 2 dX11_deed_8 rfl rfl ?_
    refine gs_bipush (w := (-9)) (pc := 9) C dX11_deed_9 rfl ?_
    refine gs_icmp_lt (pc := 11) C 24 dX11_deed_11 rfl (fun c4 => ?_) (fun c4 => ?_)
    · replace h := gs_ift c4 h
      refine gs_iconst (w := (-1)) (pc := 24) C dX11_deed_24 rfl ?_
      obtain ⟨rfl, rfl⟩ := gs_i2 h
      exact gs_iret (pc := 25) C dX11_deed_25 E
    · replace h := gs_iff c4 h
      refine gs_iload_n (pc := 14) C 2 dX11_deed_14 rfl rfl ?_
      refine gs_bipush (w := 9) (pc := 15) C dX11_deed_15 rfl ?_
      refine gs_icmp_gt (pc := 17) C 24 dX11_deed_17 rfl (fun c5 => ?_) (fun c5 => ?_)
      · replace h := gs_ift c5 h
        refine gs_iconst (w := (-1)) (pc := 24) C dX11_deed_24 rfl ?_
        obtain ⟨rfl, rfl⟩ := gs_i2 h
        exact gs_iret (pc := 25) C dX11_deed_25 E
      · replace h := gs_iff c5 h
        refine gs_iload_n (pc := 20) C 2 dX11_deed_20 rfl rfl ?_
        refine gs_if_ne (pc := 21) C 26 dX11_deed_21 rfl (fun c6 => ?_) (fun c6 => ?_)
        · replace h := gs_iff c6 h
          refine gs_aload_n (pc := 26) C 0 dX11_deed_26 rfl rfl ?_
          refine gs_getq (pc := 27) C dX11_deed_27 gk_11 fl_X11_29 sh_0 rfl ?_
          refine gs_iload_n (pc := 30) C 1 dX11_deed_30 rfl rfl ?_
          refine gs_iconst (w := 0) (pc := 31) C dX11_deed_31 rfl ?_
          obtain ⟨v7, e8, h⟩ := gs_o1 h
          refine gs_callVi (pc := 32) C [.int x1, .int (0 : Int32)] dX11_deed_32 ml_X11_188 wy_X6_of (a_X6_of _ e8) (by decide) sh_9 (by decide) rfl rfl (Nat.le_of_ble_eq_true rfl) rfl ?_
          refine gs_iload_n (pc := 35) C 2 dX11_deed_35 rfl rfl ?_
          refine gs_iadd (pc := 36) C dX11_deed_36 ?_
          refine gs_istore_n (ls' := [(3, .int (v7 + x2)), (0, .ref 0), (1, .int x1), (2, .int x2)]) (pc := 37) C dX11_deed_37 rfl (by decide) rfl ?_
          refine gs_iload_n (pc := 38) C 0 dX11_deed_38 rfl rfl ?_
          refine gs_if_lt (pc := 39) C 48 dX11_deed_39 rfl (fun c9 => ?_) (fun c9 => ?_)
          · replace h := gs_ift c9 h
            refine gs_iconst (w := (-1)) (pc := 48) C dX11_deed_48 rfl ?_
            obtain ⟨rfl, rfl⟩ := gs_i2 h
            exact gs_iret (pc := 49) C dX11_deed_49 E
          · replace h := gs_iff c9 h
            refine gs_iload_n (pc := 42) C 0 dX11_deed_42 rfl rfl ?_
            refine gs_bipush (w := 9) (pc := 43) C dX11_deed_43 rfl ?_
            refine gs_icmp_le (pc := 45) C 50 dX11_deed_45 rfl (fun c10 => ?_) (fun c10 => ?_)
            · replace h := gs_ift c10 h
              refine gs_aload_n (pc := 50) C 1 dX11_deed_50 rfl rfl ?_
              refine gs_getq (pc := 51) C dX11_deed_51 gk_11 fl_X11_39 sh_0 rfl ?_
              refine gs_aload_n (pc := 54) C 1 dX11_deed_54 rfl rfl ?_
              refine gs_getq (pc := 55) C dX11_deed_55 gk_11 fl_X11_29 sh_0 rfl ?_
              obtain ⟨M11, e12, h⟩ := gs_o1 h
              refine gs_callVv (pc := 58) C [.ref 9] dX11_deed_58 ml_X11_216 wy_X0_keep (a_X0_keep _ e12) (by decide) sh_13 (by decide) rfl rfl (Nat.le_of_ble_eq_true rfl) rfl ?_
              refine gs_aload_n (pc := 61) C 1 dX11_deed_61 rfl rfl ?_
              refine gs_getq (pc := 62) C dX11_deed_62 gk_11 fl_X11_29 sh_0 rfl ?_
              refine gs_iload_n (pc := 65) C 2 dX11_deed_65 rfl rfl ?_
              refine gs_iconst (w := 0) (pc := 66) C dX11_deed_66 rfl ?_
              refine gs_iload_n (pc := 67) C 0 dX11_deed_67 rfl rfl ?_
              obtain ⟨M13, e14, h⟩ := gs_o1 h
              refine gs_callVv (pc := 68) C [.int x1, .int (0 : Int32), .int (v7 + x2)] dX11_deed_68 ml_X11_219 wy_X6_set (a_X6_set _ e14) (by decide) sh_9 (by decide) rfl rfl (Nat.le_of_ble_eq_true rfl) rfl ?_
              refine gs_iload_n (pc := 71) C 0 dX11_deed_71 rfl rfl ?_
              obtain ⟨rfl, rfl⟩ := gs_i2 h
              exact gs_iret (pc := 72) C dX11_deed_72 E
            · replace h := gs_iff c10 h
              refine gs_iconst (w := (-1)) (pc := 48) C dX11_deed_48 rfl ?_
              obtain ⟨rfl, rfl⟩ := gs_i2 h
              exact gs_iret (pc := 49) C dX11_deed_49 E
        · replace h := gs_ift c6 h
          refine gs_iconst (w := (-1)) (pc := 24) C dX11_deed_24 rfl ?_
          obtain ⟨rfl, rfl⟩ := gs_i2 h
          exact gs_iret (pc := 25) C dX11_deed_25 E
set_option maxRecDepth 100000 in
set_option maxHeartbeats 4000000 in
theorem a_X7_keep (l : Launch) {M : gs_M} {L : gs_L} {x1 : Int32} {rv : Int32} {Mz : gs_M} (h : f_X7_keep M x1 = some (rv, Mz)) : gs_Met l 0 yX7_keep cX7_keep 2 (some .boolean) [.ref 1, .int x1] M L (some (.int rv)) Mz L := by
  unfold f_X7_keep at h
  refine gs_of RX7 (by decide) rfl (Nat.le_of_ble_eq_true rfl) (fun X C E => ?_)
  show gs_AW X 0 [(0, .ref 1), (1, .int x1)] [] M L
  refine gs_iload_n (pc := 0) C 1 dX7_keep_0 rfl rfl ?_
  refine gs_if_lt (pc := 1) C 12 dX7_keep_1 rfl (fun c1 => ?_) (fun c1 => ?_)
  · replace h := gs_ift c1 h
    refine gs_iconst (w := 0) (pc := 12) C dX7_keep_12 rfl ?_
    obtain ⟨rfl, rfl⟩ := gs_i2 h
    exact gs_zret (pc := 13) C (by decide) dX7_keep_13 E
  · replace h := gs_iff c1 h
    refine gs_iload_n (pc := 4) C 1 dX7_keep_4 rfl rfl ?_
    refine gs_aload_n (pc := 5) C 0 dX7_keep_5 rfl rfl ?_
    refine gs_geti (pc := 6) C dX7_keep_6 gk_7 fl_X7_15 sh_1 rfl ?_
    refine gs_icmp_le (pc := 9) C 14 dX7_keep_9 rfl (fun c2 => ?_) (fun c2 => ?_)
    · replace h := gs_ift c2 h
      refine gs_aload_n (pc := 14) C 0 dX7_keep_14 rfl rfl ?_
      refine gs_iload_n (pc := 15) C 1 dX7_keep_15 rfl rfl ?_
      obtain ⟨M4, e3, h⟩ := gs_o1 h
      refine gs_puti' (pc := 16) C dX7_keep_16 gk_7 fp_X7_15 sh_1 rfl e3 ?_
      refine gs_iconst (w := 1) (pc := 19) C dX7_keep_19 rfl ?_
      obtain ⟨rfl, rfl⟩ := gs_i2 h
      exact gs_zret (pc := 20) C (by decide) dX7_keep_20 E
    · replace h := gs_iff c2 h
      refine gs_iconst (w := 0) (pc := 12) C dX7_keep_12 rfl ?_
      obtain ⟨rfl, rfl⟩ := gs_i2 h
      exact gs_zret (pc := 13) C (by decide) dX7_keep_13 E
set_option maxRecDepth 100000 in
set_option maxHeartbeats 4000000 in
theorem a_X11_end (l : Launch) {M : gs_M} {L : gs_L} {x1 : Int32} {rv : Int32} {Mz : gs_M} (h : f_X11_end M x1 = some (rv, Mz)) : gs_Met l 1 yX11_end cX11_end 2 (some .boolean) [.ref 0, .int x1] M L (some (.int rv)) Mz L := by
  unfold f_X11_end at h
  refine gs_of RX11 (by decide) rfl (Nat.le_of_ble_eq_true rfl) (fun X C E => ?_)
  show gs_AW X 0 [(0, .ref 0), (1, .int x1)] [] M L
  refine gs_aload_n (pc := 0) C 0 dX11_end_0 rfl rfl ?_
  refine gs_getq (pc := 1) C dX11_end_1 gk_11 fl_X11_10 sh_0 rfl ?_
  refine gs_iload_n (pc := 4) C 1 dX11_end_4 rfl rfl ?_
  obtain ⟨v1, M2, e3, h⟩ := gs_o2 h
  refine gs_callVi (pc := 5) C [.int x1] dX11_end_5 ml_X11_126 wy_X7_keep (a_X7_keep _ e3) (by decide) sh_1 (by decide) rfl rfl (Nat.le_of_ble_eq_true rfl) rfl ?_
  obtain ⟨z4, e5, h⟩ := gs_o1 h
  obtain ⟨rfl, rfl⟩ := gs_i2 h
  exact gs_zret' (pc := 8) C dX11_end_8 e5 E
set_option maxRecDepth 100000 in
set_option maxHeartbeats 4000000 in
theorem a_X7_rewind (l : Launch) {M : gs_M} {L : gs_L} {Mz : gs_M} (h : f_X7_rewind M = some (Mz)) : gs_Met l 0 yX7_rewind cX7_rewind 1 none [.ref 1] M L none Mz L := by
  unfold f_X7_rewind at h
  refine gs_of RX7 (by decide) rfl (Nat.le_of_ble_eq_true rfl) (fun X C E => ?_)
  show gs_AW X 0 [(0, .ref 1)] [] M L
  refine gs_aload_n (pc := 0) C 0 dX7_rewind_0 rfl rfl ?_
  refine gs_iconst (w := 0) (pc := 1) C dX7_rewind_1 rfl ?_
  obtain ⟨M2, e1, h⟩ := gs_o1 h
  refine gs_puti' (pc := 2) C dX7_rewind_2 gk_7 fp_X7_19 sh_1 rfl e1 ?_
  refine gs_aload_n (pc := 5) C 0 dX7_rewind_5 rfl rfl ?_
  refine gs_iconst (w := (-1)) (pc := 6) C dX7_rewind_6 rfl ?_
  obtain ⟨M4, e3, h⟩ := gs_o1 h
  refine gs_puti' (pc := 7) C dX7_rewind_7 gk_7 fp_X7_22 sh_1 rfl e3 ?_
  obtain rfl := gs_i1 h
  exact gs_vret (pc := 10) C dX7_rewind_10 E
set_option maxRecDepth 100000 in
set_option maxHeartbeats 4000000 in
theorem t_X7_look_0 {X : gs_X} (C : gs_C X RX7 cX7_look 1 (some .int) 0) {L : gs_L} {M' : gs_M} (k : gs_AW X 38 [(0, .ref 1)] [] M' L) : ∀ (f : Nat) (M : gs_M), l_X7_look_0  f M = some (M') → gs_AW X 0 [(0, .ref 1)] [] M L := by
  intro f
  induction f with
  | zero =>
    intro M h
    cases h
  | succ f ih =>
    intro M h
    rw [l_X7_look_0] at h
    refine gs_aload_n (pc := 0) C 0 dX7_look_0 rfl rfl ?_
    refine gs_geti (pc := 1) C dX7_look_1 gk_7 fl_X7_19 sh_1 rfl ?_
    refine gs_aload_n (pc := 4) C 0 dX7_look_4 rfl rfl ?_
    refine gs_geti (pc := 5) C dX7_look_5 gk_7 fl_X7_15 sh_1 rfl ?_
    refine gs_icmp_ge (pc := 8) C 38 dX7_look_8 rfl (fun c1 => ?_) (fun c1 => ?_)
    · replace h := gs_ift c1 h
      obtain rfl := gs_i1 h
      exact k
    · replace h := gs_iff c1 h
      refine gs_aload_n (pc := 11) C 0 dX7_look_11 rfl rfl ?_
      refine gs_getq (pc := 12) C dX7_look_12 gk_7 fl_X7_11 sh_1 rfl ?_
      refine gs_aload_n (pc := 15) C 0 dX7_look_15 rfl rfl ?_
      refine gs_geti (pc := 16) C dX7_look_16 gk_7 fl_X7_19 sh_1 rfl ?_
      obtain ⟨v2, e3, h⟩ := gs_o1 h
      refine gs_iald (pc := 19) C dX7_look_19 sh_2 e3 ?_
      refine gs_bipush (w := 32) (pc := 20) C dX7_look_20 rfl ?_
      refine gs_icmp_ne (pc := 22) C 38 dX7_look_22 rfl (fun c4 => ?_) (fun c4 => ?_)
      · replace h := gs_iff c4 h
        obtain rfl := gs_i1 h
        exact k
      · replace h := gs_ift c4 h
        refine gs_aload_n (pc := 25) C 0 dX7_look_25 rfl rfl ?_
        refine gs_dup (pc := 26) C dX7_look_26 rfl ?_
        refine gs_geti (pc := 27) C dX7_look_27 gk_7 fl_X7_19 sh_1 rfl ?_
        refine gs_iconst (w := 1) (pc := 30) C dX7_look_30 rfl ?_
        refine gs_iadd (pc := 31) C dX7_look_31 ?_
        obtain ⟨M6, e5, h⟩ := gs_o1 h
        refine gs_puti' (pc := 32) C dX7_look_32 gk_7 fp_X7_19 sh_1 rfl e5 ?_
        refine gs_goto (pc := 35) C 0 dX7_look_35 rfl ?_
        exact ih _ h
set_option maxRecDepth 100000 in
set_option maxHeartbeats 4000000 in
theorem a_X7_look (l : Launch) {M : gs_M} {L : gs_L} {rv : Int32} {Mz : gs_M} (h : f_X7_look M = some (rv, Mz)) : gs_Met l 0 yX7_look cX7_look 1 (some .int) [.ref 1] M L (some (.int rv)) Mz L := by
  unfold f_X7_look at h
  refine gs_of RX7 (by decide) rfl (Nat.le_of_ble_eq_true rfl) (fun X C E => ?_)
  show gs_AW X 0 [(0, .ref 1)] [] M L
  obtain ⟨M1, e2, h⟩ := gs_o1 h
  refine t_X7_look_0 C ?_ gs_FU _ e2
  refine gs_aload_n (pc := 38) C 0 dX7_look_38 rfl rfl ?_
  refine gs_geti (pc := 39) C dX7_look_39 gk_7 fl_X7_19 sh_1 rfl ?_
  refine gs_aload_n (pc := 42) C 0 dX7_look_42 rfl rfl ?_
  refine gs_geti (pc := 43) C dX7_look_43 gk_7 fl_X7_15 sh_1 rfl ?_
  obtain ⟨y3, e4, h⟩ := gs_o1 h
  have j5 : gs_AW X 62 [(0, .ref 1)] [.int y3] M1 L := by
    obtain ⟨rfl, rfl⟩ := gs_i2 h
    exact gs_iret (pc := 62) C dX7_look_62 E
  refine gs_icmp_ge (pc := 46) C 61 dX7_look_46 rfl (fun c6 => ?_) (fun c6 => ?_)
  · replace e4 := gs_ift c6 e4
    refine gs_iconst (w := (-1)) (pc := 61) C dX7_look_61 rfl ?_
    obtain rfl := gs_i1 e4
    exact j5
  · replace e4 := gs_iff c6 e4
    refine gs_aload_n (pc := 49) C 0 dX7_look_49 rfl rfl ?_
    refine gs_getq (pc := 50) C dX7_look_50 gk_7 fl_X7_11 sh_1 rfl ?_
    refine gs_aload_n (pc := 53) C 0 dX7_look_53 rfl rfl ?_
    refine gs_geti (pc := 54) C dX7_look_54 gk_7 fl_X7_19 sh_1 rfl ?_
    obtain ⟨v7, e8, e4⟩ := gs_o1 e4
    refine gs_iald (pc := 57) C dX7_look_57 sh_2 e8 ?_
    refine gs_goto (pc := 58) C 62 dX7_look_58 rfl ?_
    obtain rfl := gs_i1 e4
    exact j5
set_option maxRecDepth 100000 in
set_option maxHeartbeats 4000000 in
theorem a_X7_fail (l : Launch) {M : gs_M} {L : gs_L} {rv : Int32} {Mz : gs_M} (h : f_X7_fail M = some (rv, Mz)) : gs_Met l 0 yX7_fail cX7_fail 1 (some .boolean) [.ref 1] M L (some (.int rv)) Mz L := by
  unfold f_X7_fail at h
  refine gs_of RX7 (by decide) rfl (Nat.le_of_ble_eq_true rfl) (fun X C E => ?_)
  show gs_AW X 0 [(0, .ref 1)] [] M L
  refine gs_aload_n (pc := 0) C 0 dX7_fail_0 rfl rfl ?_
  refine gs_geti (pc := 1) C dX7_fail_1 gk_7 fl_X7_22 sh_1 rfl ?_
  refine gs_iconst (w := (-1)) (pc := 4) C dX7_fail_4 rfl ?_
  obtain ⟨M1, e2, h⟩ := gs_o1 h
  have j3 : gs_AW X 16 [(0, .ref 1)] [] M1 L := by
    refine gs_iconst (w := 0) (pc := 16) C dX7_fail_16 rfl ?_
    obtain ⟨rfl, rfl⟩ := gs_i2 h
    exact gs_zret (pc := 17) C (by decide) dX7_fail_17 E
  refine gs_icmp_ne (pc := 5) C 16 dX7_fail_5 rfl (fun c4 => ?_) (fun c4 => ?_)
  · replace e2 := gs_iff c4 e2
    obtain rfl := gs_i1 e2
    exact j3
  · replace e2 := gs_ift c4 e2
    refine gs_aload_n (pc := 8) C 0 dX7_fail_8 rfl rfl ?_
    refine gs_aload_n (pc := 9) C 0 dX7_fail_9 rfl rfl ?_
    refine gs_geti (pc := 10) C dX7_fail_10 gk_7 fl_X7_19 sh_1 rfl ?_
    obtain ⟨M6, e5, e2⟩ := gs_o1 e2
    refine gs_puti' (pc := 13) C dX7_fail_13 gk_7 fp_X7_22 sh_1 rfl e5 ?_
    obtain rfl := gs_i1 e2
    exact j3
set_option maxRecDepth 100000 in
set_option maxHeartbeats 4000000 in
theorem a_X7_step (l : Launch) {M : gs_M} {L : gs_L} {Mz : gs_M} (h : f_X7_step M = some (Mz)) : gs_Met l 0 yX7_step cX7_step 1 none [.ref 1] M L none Mz L := by
  unfold f_X7_step at h
  refine gs_of RX7 (by decide) rfl (Nat.le_of_ble_eq_true rfl) (fun X C E => ?_)
  show gs_AW X 0 [(0, .ref 1)] [] M L
  refine gs_aload_n (pc := 0) C 0 dX7_step_0 rfl rfl ?_
  refine gs_geti (pc := 1) C dX7_step_1 gk_7 fl_X7_19 sh_1 rfl ?_
  refine gs_aload_n (pc := 4) C 0 dX7_step_4 rfl rfl ?_
  refine gs_geti (pc := 5) C dX7_step_5 gk_7 fl_X7_15 sh_1 rfl ?_
  obtain ⟨M1, e2, h⟩ := gs_o1 h
  have j3 : gs_AW X 21 [(0, .ref 1)] [] M1 L := by
    obtain rfl := gs_i1 h
    exact gs_vret (pc := 21) C dX7_step_21 E
  refine gs_icmp_ge (pc := 8) C 21 dX7_step_8 rfl (fun c4 => ?_) (fun c4 => ?_)
  · replace e2 := gs_ift c4 e2
    obtain rfl := gs_i1 e2
    exact j3
  · replace e2 := gs_iff c4 e2
    refine gs_aload_n (pc := 11) C 0 dX7_step_11 rfl rfl ?_
    refine gs_dup (pc := 12) C dX7_step_12 rfl ?_
    refine gs_geti (pc := 13) C dX7_step_13 gk_7 fl_X7_19 sh_1 rfl ?_
    refine gs_iconst (w := 1) (pc := 16) C dX7_step_16 rfl ?_
    refine gs_iadd (pc := 17) C dX7_step_17 ?_
    obtain ⟨M6, e5, e2⟩ := gs_o1 e2
    refine gs_puti' (pc := 18) C dX7_step_18 gk_7 fp_X7_19 sh_1 rfl e5 ?_
    obtain rfl := gs_i1 e2
    exact j3
set_option maxRecDepth 100000 in
set_option maxHeartbeats 4000000 in
theorem a_X9_endsClause (l : Launch) {M : gs_M} {L : gs_L} {rv : Int32} {Mz : gs_M} (h : f_X9_endsClause M = some (rv, Mz)) : gs_Met l 1 yX9_endsClause cX9_endsClause 2 (some .boolean) [.ref 1] M L (some (.int rv)) Mz L := by
  unfold f_X9_endsClause at h
  refine gs_of RX9 (by decide) rfl (Nat.le_of_ble_eq_true rfl) (fun X C E => ?_)
  show gs_AW X 0 [(0, .ref 1)] [] M L
  refine gs_aload_n (pc := 0) C 0 dX9_endsClause_0 rfl rfl ?_
  obtain ⟨v1, M2, e3, h⟩ := gs_o2 h
  refine gs_callVi (pc := 1) C [] dX9_endsClause_1 ml_X9_44 wy_X7_look (a_X7_look _ e3) (by decide) sh_1 (by decide) rfl rfl (Nat.le_of_ble_eq_true rfl) rfl ?_
  refine gs_istore_n (ls' := [(1, .int v1), (0, .ref 1)]) (pc := 4) C dX9_endsClause_4 rfl (by decide) rfl ?_
  refine gs_iload_n (pc := 5) C 0 dX9_endsClause_5 rfl rfl ?_
  refine gs_bipush (w := 59) (pc := 6) C dX9_endsClause_6 rfl ?_
  obtain ⟨y4, M5, e6, h⟩ := gs_o2 h
  have j7 : gs_AW X 28 [(0, .ref 1), (1, .int v1)] [.int y4] M5 L := by
    obtain ⟨z14, e15, h⟩ := gs_o1 h
    obtain ⟨rfl, rfl⟩ := gs_i2 h
    exact gs_zret' (pc := 28) C dX9_endsClause_28 e15 E
  refine gs_icmp_eq (pc := 8) C 23 dX9_endsClause_8 rfl (fun c8 => ?_) (fun c8 => ?_)
  · replace e6 := gs_ift c8 e6
    refine gs_iconst (w := 1) (pc := 23) C dX9_endsClause_23 rfl ?_
    refine gs_goto (pc := 24) C 28 dX9_endsClause_24 rfl ?_
    obtain ⟨rfl, rfl⟩ := gs_i2 e6
    exact gs_sub [1, 0] rfl (j7)
  · replace e6 := gs_iff c8 e6
    refine gs_iload_n (pc := 11) C 0 dX9_endsClause_11 rfl rfl ?_
    refine gs_iconst (w := (-1)) (pc := 12) C dX9_endsClause_12 rfl ?_
    refine gs_icmp_eq (pc := 13) C 23 dX9_endsClause_13 rfl (fun c9 => ?_) (fun c9 => ?_)
    · replace e6 := gs_ift c9 e6
      refine gs_iconst (w := 1) (pc := 23) C dX9_endsClause_23 rfl ?_
      refine gs_goto (pc := 24) C 28 dX9_endsClause_24 rfl ?_
      obtain ⟨rfl, rfl⟩ := gs_i2 e6
      exact gs_sub [1, 0] rfl (j7)
    · replace e6 := gs_iff c9 e6
      refine gs_aload_n (pc := 16) C 1 dX9_endsClause_16 rfl rfl ?_
      obtain ⟨v10, M11, e12, e6⟩ := gs_o2 e6
      refine gs_callVi (pc := 17) C [] dX9_endsClause_17 ml_X9_55 wy_X7_fail (a_X7_fail _ e12) (by decide) sh_1 (by decide) rfl rfl (Nat.le_of_ble_eq_true rfl) rfl ?_
      refine gs_if_eq (pc := 20) C 27 dX9_endsClause_20 rfl (fun c13 => ?_) (fun c13 => ?_)
      · replace e6 := gs_ift c13 e6
        refine gs_iconst (w := 0) (pc := 27) C dX9_endsClause_27 rfl ?_
        obtain ⟨rfl, rfl⟩ := gs_i2 e6
        exact gs_sub [1, 0] rfl (j7)
      · replace e6 := gs_iff c13 e6
        refine gs_iconst (w := 1) (pc := 23) C dX9_endsClause_23 rfl ?_
        refine gs_goto (pc := 24) C 28 dX9_endsClause_24 rfl ?_
        obtain ⟨rfl, rfl⟩ := gs_i2 e6
        exact gs_sub [1, 0] rfl (j7)
set_option maxRecDepth 100000 in
set_option maxHeartbeats 4000000 in
theorem a_X9_letterAt (l : Launch) {M : gs_M} {L : gs_L} {rv : Int32} {Mz : gs_M} (h : f_X9_letterAt M = some (rv, Mz)) : gs_Met l 9 yX9_letterAt cX9_letterAt 3 (some .int) [.ref 1, .ref 1001] M L (some (.int rv)) Mz L := by
  unfold f_X9_letterAt at h
  refine gs_of RX9 (by decide) rfl (Nat.le_of_ble_eq_true rfl) (fun X C E => ?_)
  show gs_AW X 0 [(0, .ref 1), (1, .ref 1001)] [] M L
  refine gs_aload_n (pc := 0) C 0 dX9_letterAt_0 rfl rfl ?_
  obtain ⟨v1, M2, e3, h⟩ := gs_o2 h
  refine gs_callVi (pc := 1) C [] dX9_letterAt_1 ml_X9_44 wy_X7_look (a_X7_look _ e3) (by decide) sh_1 (by decide) rfl rfl (Nat.le_of_ble_eq_true rfl) rfl ?_
  refine gs_istore_n (ls' := [(2, .int v1), (0, .ref 1), (1, .ref 1001)]) (pc := 4) C dX9_letterAt_4 rfl (by decide) rfl ?_
  refine gs_iload_n (pc := 5) C 0 dX9_letterAt_5 rfl rfl ?_
  refine gs_iconst (w := (-1)) (pc := 6) C dX9_letterAt_6 rfl ?_
  have j4 : gs_AW X 20 [(0, .ref 1), (1, .ref 1001), (2, .int v1)] [.int (if v1 = (-1 : Int32) then (-1 : Int32) else (gs_spot 1 ((Int32.toUInt32 v1 % 65536).toInt32)) : Int32)] M2 L := by
    obtain ⟨rfl, rfl⟩ := gs_i2 h
    exact gs_iret (pc := 20) C dX9_letterAt_20 E
  refine gs_icmp_ne (pc := 7) C 14 dX9_letterAt_7 rfl (fun c5 => ?_) (fun c5 => ?_)
  · refine gs_aload_n (pc := 14) C 2 dX9_letterAt_14 rfl rfl ?_
    refine gs_iload_n (pc := 15) C 0 dX9_letterAt_15 rfl rfl ?_
    refine gs_i2c (pc := 16) C dX9_letterAt_16 ?_
    refine gs_stridx (pc := 17) C 1 (by decide) dX9_letterAt_17 ml_X9_100 (by decide) (Nat.le_of_ble_eq_true rfl) ?_
    simp only [if_neg c5] at j4
    exact gs_sub [1, 2, 0] rfl (j4)
  · refine gs_iconst (w := (-1)) (pc := 10) C dX9_letterAt_10 rfl ?_
    refine gs_goto (pc := 11) C 20 dX9_letterAt_11 rfl ?_
    simp only [if_pos c5] at j4
    exact gs_sub [1, 2, 0] rfl (j4)
set_option maxRecDepth 100000 in
set_option maxHeartbeats 4000000 in
theorem a_X7_isDigit (l : Launch) {M : gs_M} {L : gs_L} {x0 : Int32} {rv : Int32} (h : f_X7_isDigit x0 = some (rv)) : gs_Met l 0 yX7_isDigit cX7_isDigit 1 (some .boolean) [.int x0] M L (some (.int rv)) M L := by
  unfold f_X7_isDigit at h
  refine gs_of RX7 (by decide) rfl (Nat.le_of_ble_eq_true rfl) (fun X C E => ?_)
  show gs_AW X 0 [(0, .int x0)] [] M L
  refine gs_iload_n (pc := 0) C 0 dX7_isDigit_0 rfl rfl ?_
  refine gs_bipush (w := 48) (pc := 1) C dX7_isDigit_1 rfl ?_
  have j3 : gs_AW X 17 [(0, .int x0)] [.int (if x0 < (48 : Int32) then (0 : Int32) else if (57 : Int32) < x0 then (0 : Int32) else (1 : Int32) : Int32)] M L := by
    obtain ⟨z1, e2, h⟩ := gs_o1 h
    obtain rfl := gs_i1 h
    exact gs_zret' (pc := 17) C dX7_isDigit_17 e2 E
  refine gs_icmp_lt (pc := 3) C 16 dX7_isDigit_3 rfl (fun c4 => ?_) (fun c4 => ?_)
  · refine gs_iconst (w := 0) (pc := 16) C dX7_isDigit_16 rfl ?_
    simp only [if_pos c4] at j3
    exact j3
  · refine gs_iload_n (pc := 6) C 0 dX7_isDigit_6 rfl rfl ?_
    refine gs_bipush (w := 57) (pc := 7) C dX7_isDigit_7 rfl ?_
    refine gs_icmp_gt (pc := 9) C 16 dX7_isDigit_9 rfl (fun c5 => ?_) (fun c5 => ?_)
    · refine gs_iconst (w := 0) (pc := 16) C dX7_isDigit_16 rfl ?_
      simp only [if_neg c4, if_pos c5] at j3
      exact j3
    · refine gs_iconst (w := 1) (pc := 12) C dX7_isDigit_12 rfl ?_
      refine gs_goto (pc := 13) C 17 dX7_isDigit_13 rfl ?_
      simp only [if_neg c4, if_neg c5] at j3
      exact j3
set_option maxRecDepth 100000 in
set_option maxHeartbeats 4000000 in
theorem t_X7_number_21 {X : gs_X} (C : gs_C X RX7 cX7_number 4 (some .int) 1) {L : gs_L} {x1 : Int32} {o2 : Int32} {o3 : Int32} {M' : gs_M} (k : gs_AW X 86 [(0, .ref 1), (1, .int x1), (2, .int o2), (3, .int o3)] [] M' L) : ∀ (f : Nat) (x2 : Int32) (x3 : Int32) (M : gs_M), l_X7_number_21 x1 f x2 x3 M = some (o2, o3, M') → gs_AW X 21 [(0, .ref 1), (1, .int x1), (2, .int x2), (3, .int x3)] [] M L := by
  intro f
  induction f with
  | zero =>
    intro x2 x3 M h
    cases h
  | succ f ih =>
    intro x2 x3 M h
    rw [l_X7_number_21] at h
    refine gs_iload_n (pc := 21) C 3 dX7_number_21 rfl rfl ?_
    refine gs_iload_n (pc := 22) C 1 dX7_number_22 rfl rfl ?_
    refine gs_icmp_ge (pc := 23) C 86 dX7_number_23 rfl (fun c1 => ?_) (fun c1 => ?_)
    · replace h := gs_ift c1 h
      obtain ⟨rfl, rfl, rfl⟩ := gs_i3 h
      exact k
    · replace h := gs_iff c1 h
      refine gs_aload_n (pc := 26) C 0 dX7_number_26 rfl rfl ?_
      refine gs_geti (pc := 27) C dX7_number_27 gk_7 fl_X7_19 sh_1 rfl ?_
      refine gs_aload_n (pc := 30) C 0 dX7_number_30 rfl rfl ?_
      refine gs_geti (pc := 31) C dX7_number_31 gk_7 fl_X7_15 sh_1 rfl ?_
      refine gs_icmp_ge (pc := 34) C 86 dX7_number_34 rfl (fun c2 => ?_) (fun c2 => ?_)
      · replace h := gs_ift c2 h
        obtain ⟨rfl, rfl, rfl⟩ := gs_i3 h
        exact k
      · replace h := gs_iff c2 h
        refine gs_aload_n (pc := 37) C 0 dX7_number_37 rfl rfl ?_
        refine gs_getq (pc := 38) C dX7_number_38 gk_7 fl_X7_11 sh_1 rfl ?_
        refine gs_aload_n (pc := 41) C 0 dX7_number_41 rfl rfl ?_
        refine gs_geti (pc := 42) C dX7_number_42 gk_7 fl_X7_19 sh_1 rfl ?_
        obtain ⟨v3, e4, h⟩ := gs_o1 h
        refine gs_iald (pc := 45) C dX7_number_45 sh_2 e4 ?_
        obtain ⟨v5, e6, h⟩ := gs_o1 h
        refine gs_callSi (pc := 46) C [.int v3] dX7_number_46 ml_X7_42 wy_X7_isDigit (a_X7_isDigit _ e6) (by decide) rfl (Nat.le_of_ble_eq_true rfl) rfl ?_
        refine gs_if_eq (pc := 49) C 86 dX7_number_49 rfl (fun c7 => ?_) (fun c7 => ?_)
        · replace h := gs_ift c7 h
          obtain ⟨rfl, rfl, rfl⟩ := gs_i3 h
          exact k
        · replace h := gs_iff c7 h
          refine gs_iload_n (pc := 52) C 2 dX7_number_52 rfl rfl ?_
          refine gs_bipush (w := 10) (pc := 53) C dX7_number_53 rfl ?_
          refine gs_imul (pc := 55) C dX7_number_55 ?_
          refine gs_aload_n (pc := 56) C 0 dX7_number_56 rfl rfl ?_
          refine gs_getq (pc := 57) C dX7_number_57 gk_7 fl_X7_11 sh_1 rfl ?_
          refine gs_aload_n (pc := 60) C 0 dX7_number_60 rfl rfl ?_
          refine gs_geti (pc := 61) C dX7_number_61 gk_7 fl_X7_19 sh_1 rfl ?_
          obtain ⟨v8, e9, h⟩ := gs_o1 h
          refine gs_iald (pc := 64) C dX7_number_64 sh_2 e9 ?_
          refine gs_iadd (pc := 65) C dX7_number_65 ?_
          refine gs_bipush (w := 48) (pc := 66) C dX7_number_66 rfl ?_
          refine gs_isub (pc := 68) C dX7_number_68 ?_
          refine gs_istore_n (ls' := [(2, .int (((x2 * (10 : Int32)) + v8) - (48 : Int32))), (0, .ref 1), (1, .int x1), (3, .int x3)]) (pc := 69) C dX7_number_69 rfl (by decide) rfl ?_
          refine gs_aload_n (pc := 70) C 1 dX7_number_70 rfl rfl ?_
          refine gs_dup (pc := 71) C dX7_number_71 rfl ?_
          refine gs_geti (pc := 72) C dX7_number_72 gk_7 fl_X7_19 sh_1 rfl ?_
          refine gs_iconst (w := 1) (pc := 75) C dX7_number_75 rfl ?_
          refine gs_iadd (pc := 76) C dX7_number_76 ?_
          obtain ⟨M11, e10, h⟩ := gs_o1 h
          refine gs_puti' (pc := 77) C dX7_number_77 gk_7 fp_X7_19 sh_1 rfl e10 ?_
          refine gs_iinc (v := x3 + (1 : Int32)) (ls' := [(3, .int (x3 + (1 : Int32))), (2, .int (((x2 * (10 : Int32)) + v8) - (48 : Int32))), (0, .ref 1), (1, .int x1)]) (pc := 80) C 3 dX7_number_80 rfl rfl (by decide) rfl ?_
          refine gs_goto (pc := 83) C 21 dX7_number_83 rfl ?_
          exact gs_sub [2, 3, 1, 0] rfl (ih _ _ _ h)
set_option maxRecDepth 100000 in
set_option maxHeartbeats 4000000 in
theorem a_X7_number (l : Launch) {M : gs_M} {L : gs_L} {x1 : Int32} {rv : Int32} {Mz : gs_M} (h : f_X7_number M x1 = some (rv, Mz)) : gs_Met l 1 yX7_number cX7_number 4 (some .int) [.ref 1, .int x1] M L (some (.int rv)) Mz L := by
  unfold f_X7_number at h
  refine gs_of RX7 (by decide) rfl (Nat.le_of_ble_eq_true rfl) (fun X C E => ?_)
  show gs_AW X 0 [(0, .ref 1), (1, .int x1)] [] M L
  refine gs_iconst (w := 0) (pc := 0) C dX7_number_0 rfl ?_
  refine gs_istore_n (ls' := [(2, .int (0 : Int32)), (0, .ref 1), (1, .int x1)]) (pc := 1) C dX7_number_1 rfl (by decide) rfl ?_
  refine gs_aload_n (pc := 2) C 1 dX7_number_2 rfl rfl ?_
  obtain ⟨v1, M2, e3, h⟩ := gs_o2 h
  refine gs_callVi (pc := 3) C [] dX7_number_3 ml_X7_25 wy_X7_look (a_X7_look _ e3) (by decide) sh_1 (by decide) rfl rfl (Nat.le_of_ble_eq_true rfl) rfl ?_
  obtain ⟨v4, e5, h⟩ := gs_o1 h
  refine gs_callSi (pc := 6) C [.int v1] dX7_number_6 ml_X7_42 wy_X7_isDigit (a_X7_isDigit _ e5) (by decide) rfl (Nat.le_of_ble_eq_true rfl) rfl ?_
  refine gs_if_ne (pc := 9) C 19 dX7_number_9 rfl (fun c6 => ?_) (fun c6 => ?_)
  · replace h := gs_iff c6 h
    refine gs_iconst (w := 0) (pc := 19) C dX7_number_19 rfl ?_
    refine gs_istore_n (ls' := [(3, .int (0 : Int32)), (2, .int (0 : Int32)), (0, .ref 1), (1, .int x1)]) (pc := 20) C dX7_number_20 rfl (by decide) rfl ?_
    obtain ⟨y7, y8, M9, e10, h⟩ := gs_o3 h
    refine gs_sub [2, 3, 1, 0] rfl (t_X7_number_21 C ?_ gs_FU _ _ _ e10)
    refine gs_aload_n (pc := 86) C 0 dX7_number_86 rfl rfl ?_
    refine gs_geti (pc := 87) C dX7_number_87 gk_7 fl_X7_19 sh_1 rfl ?_
    refine gs_aload_n (pc := 90) C 0 dX7_number_90 rfl rfl ?_
    refine gs_geti (pc := 91) C dX7_number_91 gk_7 fl_X7_15 sh_1 rfl ?_
    refine gs_icmp_ge (pc := 94) C 119 dX7_number_94 rfl (fun c11 => ?_) (fun c11 => ?_)
    · replace h := gs_ift c11 h
      refine gs_iload_n (pc := 119) C 2 dX7_number_119 rfl rfl ?_
      obtain ⟨rfl, rfl⟩ := gs_i2 h
      exact gs_iret (pc := 120) C dX7_number_120 E
    · replace h := gs_iff c11 h
      refine gs_aload_n (pc := 97) C 0 dX7_number_97 rfl rfl ?_
      refine gs_getq (pc := 98) C dX7_number_98 gk_7 fl_X7_11 sh_1 rfl ?_
      refine gs_aload_n (pc := 101) C 0 dX7_number_101 rfl rfl ?_
      refine gs_geti (pc := 102) C dX7_number_102 gk_7 fl_X7_19 sh_1 rfl ?_
      obtain ⟨v12, e13, h⟩ := gs_o1 h
      refine gs_iald (pc := 105) C dX7_number_105 sh_2 e13 ?_
      obtain ⟨v14, e15, h⟩ := gs_o1 h
      refine gs_callSi (pc := 106) C [.int v12] dX7_number_106 ml_X7_42 wy_X7_isDigit (a_X7_isDigit _ e15) (by decide) rfl (Nat.le_of_ble_eq_true rfl) rfl ?_
      refine gs_if_eq (pc := 109) C 119 dX7_number_109 rfl (fun c16 => ?_) (fun c16 => ?_)
      · replace h := gs_ift c16 h
        refine gs_iload_n (pc := 119) C 2 dX7_number_119 rfl rfl ?_
        obtain ⟨rfl, rfl⟩ := gs_i2 h
        exact gs_iret (pc := 120) C dX7_number_120 E
      · replace h := gs_iff c16 h
        refine gs_aload_n (pc := 112) C 0 dX7_number_112 rfl rfl ?_
        obtain ⟨v17, M18, e19, h⟩ := gs_o2 h
        refine gs_callVi (pc := 113) C [] dX7_number_113 ml_X7_29 wy_X7_fail (a_X7_fail _ e19) (by decide) sh_1 (by decide) rfl rfl (Nat.le_of_ble_eq_true rfl) rfl ?_
        refine gs_pop (pc := 116) C dX7_number_116 rfl ?_
        refine gs_iconst (w := (-1)) (pc := 117) C dX7_number_117 rfl ?_
        obtain ⟨rfl, rfl⟩ := gs_i2 h
        exact gs_iret (pc := 118) C dX7_number_118 E
  · replace h := gs_ift c6 h
    refine gs_aload_n (pc := 12) C 1 dX7_number_12 rfl rfl ?_
    obtain ⟨v20, M21, e22, h⟩ := gs_o2 h
    refine gs_callVi (pc := 13) C [] dX7_number_13 ml_X7_29 wy_X7_fail (a_X7_fail _ e22) (by decide) sh_1 (by decide) rfl rfl (Nat.le_of_ble_eq_true rfl) rfl ?_
    refine gs_pop (pc := 16) C dX7_number_16 rfl ?_
    refine gs_iconst (w := (-1)) (pc := 17) C dX7_number_17 rfl ?_
    obtain ⟨rfl, rfl⟩ := gs_i2 h
    exact gs_iret (pc := 18) C dX7_number_18 E
set_option maxRecDepth 100000 in
set_option maxHeartbeats 4000000 in
theorem a_X7_failAtDigit (l : Launch) {M : gs_M} {L : gs_L} {Mz : gs_M} (h : f_X7_failAtDigit M = some (Mz)) : gs_Met l 0 yX7_failAtDigit cX7_failAtDigit 1 none [.ref 1] M L none Mz L := by
  unfold f_X7_failAtDigit at h
  refine gs_of RX7 (by decide) rfl (Nat.le_of_ble_eq_true rfl) (fun X C E => ?_)
  show gs_AW X 0 [(0, .ref 1)] [] M L
  refine gs_aload_n (pc := 0) C 0 dX7_failAtDigit_0 rfl rfl ?_
  refine gs_geti (pc := 1) C dX7_failAtDigit_1 gk_7 fl_X7_22 sh_1 rfl ?_
  refine gs_iconst (w := (-1)) (pc := 4) C dX7_failAtDigit_4 rfl ?_
  obtain ⟨M1, e2, h⟩ := gs_o1 h
  have j3 : gs_AW X 22 [(0, .ref 1)] [] M1 L := by
    obtain rfl := gs_i1 h
    exact gs_vret (pc := 22) C dX7_failAtDigit_22 E
  refine gs_icmp_ne (pc := 5) C 22 dX7_failAtDigit_5 rfl (fun c4 => ?_) (fun c4 => ?_)
  · replace e2 := gs_iff c4 e2
    obtain rfl := gs_i1 e2
    exact j3
  · replace e2 := gs_ift c4 e2
    refine gs_aload_n (pc := 8) C 0 dX7_failAtDigit_8 rfl rfl ?_
    refine gs_aload_n (pc := 9) C 0 dX7_failAtDigit_9 rfl rfl ?_
    refine gs_geti (pc := 10) C dX7_failAtDigit_10 gk_7 fl_X7_19 sh_1 rfl ?_
    refine gs_iconst (w := 1) (pc := 13) C dX7_failAtDigit_13 rfl ?_
    refine gs_isub (pc := 14) C dX7_failAtDigit_14 ?_
    refine gs_iconst (w := 0) (pc := 15) C dX7_failAtDigit_15 rfl ?_
    refine gs_mmax (pc := 16) C dX7_failAtDigit_16 ml_X7_36 (Nat.le_of_ble_eq_true rfl) ?_
    obtain ⟨M6, e5, e2⟩ := gs_o1 e2
    refine gs_puti' (pc := 19) C dX7_failAtDigit_19 gk_7 fp_X7_22 sh_1 rfl e5 ?_
    obtain rfl := gs_i1 e2
    exact j3
