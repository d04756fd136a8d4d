set_option maxRecDepth 100000 in
set_option maxHeartbeats 4000000 in
theorem a_X11_sleeps (l : Launch) {M : gs_M} {L : gs_L} {x1 : Int32} {rv : Int32} {Mz : gs_M} (h : f_X11_sleeps M x1 = some (rv, Mz)) : gs_Met l 6 yX11_sleeps cX11_sleeps 2 (some .int) [.ref 0, .int x1] M L (some (.int rv)) Mz L := by
  unfold f_X11_sleeps at h
  refine gs_of RX11 (by decide) rfl (Nat.le_of_ble_eq_true rfl) (fun X C E => ?_)
  show gs_AW X 0 [(0, .ref 0), (1, .int x1)] [] M L
  refine gs_aload_n (pc := 0) C 0 dX11_sleeps_0 rfl rfl ?_
  refine gs_iload_n (pc := 1) C 1 dX11_sleeps_1 rfl rfl ?_
  obtain ⟨v1, e2, h⟩ := gs_o1 h
  refine gs_callVi (pc := 2) C [.int x1] dX11_sleeps_2 ml_X11_178 wy_X11_isPerson (a_X11_isPerson _ e2) (by decide) sh_0 (by decide) rfl rfl (Nat.le_of_ble_eq_true rfl) rfl ?_
  obtain ⟨y3, M4, e5, h⟩ := gs_o2 h
  have j6 : gs_AW X 17 [(0, .ref 0), (1, .int x1)] [.int y3] M4 L := by
    obtain ⟨rfl, rfl⟩ := gs_i2 h
    exact gs_iret (pc := 17) C dX11_sleeps_17 E
  refine gs_if_eq (pc := 5) C 16 dX11_sleeps_5 rfl (fun c7 => ?_) (fun c7 => ?_)
  · replace e5 := gs_ift c7 e5
    refine gs_iconst (w := (-1)) (pc := 16) C dX11_sleeps_16 rfl ?_
    obtain ⟨rfl, rfl⟩ := gs_i2 e5
    exact j6
  · replace e5 := gs_iff c7 e5
    refine gs_aload_n (pc := 8) C 0 dX11_sleeps_8 rfl rfl ?_
    refine gs_iload_n (pc := 9) C 1 dX11_sleeps_9 rfl rfl ?_
    obtain ⟨v8, M9, e10, e5⟩ := gs_o2 e5
    refine gs_callVi (pc := 10) C [.int x1] dX11_sleeps_10 ml_X11_300 wy_X11_partsAsleep (a_X11_partsAsleep _ e10) (by decide) sh_0 (by decide) rfl rfl (Nat.le_of_ble_eq_true rfl) rfl ?_
    refine gs_goto (pc := 13) C 17 dX11_sleeps_13 rfl ?_
    obtain ⟨rfl, rfl⟩ := gs_i2 e5
    exact j6
set_option maxRecDepth 100000 in
set_option maxHeartbeats 4000000 in
theorem a_X4_wakesWith (l : Launch) {M : gs_M} {L : gs_L} {x1 : Int32} {x2 : Int32} {x3 : Int32} {rv : Int32} {Mz : gs_M} (h : f_X4_wakesWith M x1 x2 x3 = some (rv, Mz)) : gs_Met l 4 yX4_wakesWith cX4_wakesWith 4 (some .int) [.ref 105, .int x1, .int x2, .int x3] M L (some (.int rv)) Mz L := by
  unfold f_X4_wakesWith at h
  refine gs_of RX4 (by decide) rfl (Nat.le_of_ble_eq_true rfl) (fun X C E => ?_)
  show gs_AW X 0 [(0, .ref 105), (1, .int x1), (2, .int x2), (3, .int x3)] [] M L
  refine gs_aload_n (pc := 0) C 0 dX4_wakesWith_0 rfl rfl ?_
  refine gs_iload_n (pc := 1) C 2 dX4_wakesWith_1 rfl rfl ?_
  refine gs_iload_n (pc := 2) C 3 dX4_wakesWith_2 rfl rfl ?_
  refine gs_iload_n (pc := 3) C 1 dX4_wakesWith_3 rfl rfl ?_
  refine gs_aload_n (pc := 4) C 0 dX4_wakesWith_4 rfl rfl ?_
  refine gs_getq (pc := 5) C dX4_wakesWith_5 gk_4 fl_X4_29 sh_105 rfl ?_
  refine gs_iload_n (pc := 8) C 2 dX4_wakesWith_8 rfl rfl ?_
  refine gs_iconst (w := 1) (pc := 9) C dX4_wakesWith_9 rfl ?_
  obtain ⟨v1, e2, h⟩ := gs_o1 h
  refine gs_callVi (pc := 10) C [.int x2, .int (1 : Int32)] dX4_wakesWith_10 ml_X4_47 wy_X6_of (a_X6_of _ e2) (by decide) sh_9 (by decide) rfl rfl (Nat.le_of_ble_eq_true rfl) rfl ?_
  obtain ⟨v3, M4, e5, h⟩ := gs_o2 h
  refine gs_callVi (pc := 13) C [.int x2, .int x3, .int x1, .int v1] dX4_wakesWith_13 ml_X4_51 wy_X4_wakesIf (a_X4_wakesIf _ e5) (by decide) sh_105 (by decide) rfl rfl (Nat.le_of_ble_eq_true rfl) rfl ?_
  obtain ⟨rfl, rfl⟩ := gs_i2 h
  exact gs_iret (pc := 16) C dX4_wakesWith_16 E
set_option maxRecDepth 100000 in
set_option maxHeartbeats 4000000 in
theorem t_X11_tells_27 {X : gs_X} (C : gs_C X RX11 cX11_tells 7 (some .int) 5) {L : gs_L} {x1 : Int32} {x2 : Int32} {o3 : Int32} {o4 : Int32} {o5 : Int32} {M' : gs_M} (k : gs_AW X 86 [(0, .ref 0), (1, .int x1), (2, .int x2), (3, .int o3), (4, .int o4), (5, .int o5)] [] M' L) : ∀ (f : Nat) (x3 : Int32) (x4 : Int32) (x5 : Int32) (M : gs_M), l_X11_tells_27 x1 x2 f x3 x4 x5 M = some (o3, o4, o5, M') → gs_AW X 27 [(0, .ref 0), (1, .int x1), (2, .int x2), (3, .int x3), (4, .int x4), (5, .int x5)] [] M L := by
  intro f
  induction f with
  | zero =>
    intro x3 x4 x5 M h
    cases h
  | succ f ih =>
    intro x3 x4 x5 M h
    rw [l_X11_tells_27] at h
    refine gs_iload (pc := 27) C 5 dX11_tells_27 rfl ?_
    refine gs_aload_n (pc := 29) C 0 dX11_tells_29 rfl rfl ?_
    refine gs_getq (pc := 30) C dX11_tells_30 gk_11 fl_X11_19 sh_0 rfl ?_
    obtain ⟨v1, e2, h⟩ := gs_o1 h
    refine gs_callVi (pc := 33) C [] dX11_tells_33 ml_X11_305 wy_X9_hours (a_X9_hours _ e2) (by decide) sh_3 (by decide) rfl rfl (Nat.le_of_ble_eq_true rfl) rfl ?_
    refine gs_icmp_ge (pc := 36) C 86 dX11_tells_36 rfl (fun c3 => ?_) (fun c3 => ?_)
    · replace h := gs_ift c3 h
      obtain ⟨rfl, rfl, rfl, rfl⟩ := gs_i4 h
      exact k
    · replace h := gs_iff c3 h
      refine gs_aload_n (pc := 39) C 0 dX11_tells_39 rfl rfl ?_
      refine gs_getq (pc := 40) C dX11_tells_40 gk_11 fl_X11_71 sh_0 rfl ?_
      refine gs_iload_n (pc := 43) C 1 dX11_tells_43 rfl rfl ?_
      refine gs_iload (pc := 44) C 5 dX11_tells_44 rfl ?_
      obtain ⟨v4, M5, e6, h⟩ := gs_o2 h
      refine gs_callVi (pc := 46) C [.int x1, .int x5] dX11_tells_46 ml_X11_213 wy_X4_wakesNow (a_X4_wakesNow _ e6) (by decide) sh_105 (by decide) rfl rfl (Nat.le_of_ble_eq_true rfl) rfl ?_
      refine gs_aload_n (pc := 49) C 0 dX11_tells_49 rfl rfl ?_
      refine gs_getq (pc := 50) C dX11_tells_50 gk_11 fl_X11_71 sh_0 rfl ?_
      refine gs_iconst (w := 0) (pc := 53) C dX11_tells_53 rfl ?_
      refine gs_iload_n (pc := 54) C 1 dX11_tells_54 rfl rfl ?_
      refine gs_iload (pc := 55) C 5 dX11_tells_55 rfl ?_
      obtain ⟨v7, M8, e9, h⟩ := gs_o2 h
      refine gs_callVi (pc := 57) C [.int (0 : Int32), .int x1, .int x5] dX11_tells_57 ml_X11_326 wy_X4_wakesWith (a_X4_wakesWith _ e9) (by decide) sh_105 (by decide) rfl rfl (Nat.le_of_ble_eq_true rfl) rfl ?_
      refine gs_isub (pc := 60) C dX11_tells_60 ?_
      refine gs_mabs (pc := 61) C dX11_tells_61 ml_X11_329 (Nat.le_of_ble_eq_true rfl) ?_
      refine gs_istore (ls' := [(6, .int (if 0 ≤ (v4 - v7) then (v4 - v7) else 0 - (v4 - v7) : Int32)), (0, .ref 0), (1, .int x1), (2, .int x2), (3, .int x3), (4, .int x4), (5, .int x5)]) (pc := 64) C dX11_tells_64 (by decide) rfl ?_
      refine gs_iload (pc := 66) C 0 dX11_tells_66 rfl ?_
      refine gs_iload (pc := 68) C 5 dX11_tells_68 rfl ?_
      have j10 : gs_AW X 80 [(0, .ref 0), (1, .int x1), (2, .int x2), (3, .int (if (if 0 ≤ (v4 - v7) then (v4 - v7) else 0 - (v4 - v7) : Int32) ≤ x4 then x3 else x5 : Int32)), (4, .int (if (if 0 ≤ (v4 - v7) then (v4 - v7) else 0 - (v4 - v7) : Int32) ≤ x4 then x4 else (if 0 ≤ (v4 - v7) then (v4 - v7) else 0 - (v4 - v7) : Int32) : Int32)), (5, .int x5), (6, .int (if 0 ≤ (v4 - v7) then (v4 - v7) else 0 - (v4 - v7) : Int32))] [] M8 L := by
        refine gs_iinc (v := x5 + (1 : Int32)) (ls' := [(5, .int (x5 + (1 : Int32))), (0, .ref 0), (1, .int x1), (2, .int x2), (3, .int (if (if 0 ≤ (v4 - v7) then (v4 - v7) else 0 - (v4 - v7) : Int32) ≤ x4 then x3 else x5 : Int32)), (4, .int (if (if 0 ≤ (v4 - v7) then (v4 - v7) else 0 - (v4 - v7) : Int32) ≤ x4 then x4 else (if 0 ≤ (v4 - v7) then (v4 - v7) else 0 - (v4 - v7) : Int32) : Int32)), (6, .int (if 0 ≤ (v4 - v7) then (v4 - v7) else 0 - (v4 - v7) : Int32))]) (pc := 80) C 5 dX11_tells_80 rfl rfl (by decide) rfl ?_
        refine gs_goto (pc := 83) C 27 dX11_tells_83 rfl ?_
        exact gs_sub [1, 2, 3, 4, 5, 0] rfl (ih _ _ _ _ h)
      refine gs_icmp_le (pc := 70) C 80 dX11_tells_70 rfl (fun c11 => ?_) (fun c11 => ?_)
      · simp only [if_pos c11] at j10
        exact gs_sub [1, 2, 3, 4, 5, 6, 0] rfl (j10)
      · refine gs_iload (pc := 73) C 0 dX11_tells_73 rfl ?_
        refine gs_istore (ls' := [(4, .int (if 0 ≤ (v4 - v7) then (v4 - v7) else 0 - (v4 - v7) : Int32)), (6, .int (if 0 ≤ (v4 - v7) then (v4 - v7) else 0 - (v4 - v7) : Int32)), (0, .ref 0), (1, .int x1), (2, .int x2), (3, .int x3), (5, .int x5)]) (pc := 75) C dX11_tells_75 (by decide) rfl ?_
        refine gs_iload (pc := 77) C 6 dX11_tells_77 rfl ?_
        refine gs_istore_n (ls' := [(3, .int x5), (4, .int (if 0 ≤ (v4 - v7) then (v4 - v7) else 0 - (v4 - v7) : Int32)), (6, .int (if 0 ≤ (v4 - v7) then (v4 - v7) else 0 - (v4 - v7) : Int32)), (0, .ref 0), (1, .int x1), (2, .int x2), (5, .int x5)]) (pc := 79) C dX11_tells_79 rfl (by decide) rfl ?_
        simp only [if_neg c11] at j10
        exact gs_sub [3, 4, 5, 0, 1, 6, 2] rfl (j10)
set_option maxRecDepth 100000 in
set_option maxHeartbeats 4000000 in
theorem a_X11_tells (l : Launch) {M : gs_M} {L : gs_L} {x1 : Int32} {x2 : Int32} {rv : Int32} {Mz : gs_M} (h : f_X11_tells M x1 x2 = some (rv, Mz)) : gs_Met l 5 yX11_tells cX11_tells 7 (some .int) [.ref 0, .int x1, .int x2] M L (some (.int rv)) Mz L := by
  unfold f_X11_tells at h
  refine gs_of RX11 (by decide) rfl (Nat.le_of_ble_eq_true rfl) (fun X C E => ?_)
  show gs_AW X 0 [(0, .ref 0), (1, .int x1), (2, .int x2)] [] M L
  refine gs_aload_n (pc := 0) C 0 dX11_tells_0 rfl rfl ?_
  refine gs_iload_n (pc := 1) C 1 dX11_tells_1 rfl rfl ?_
  obtain ⟨v1, e2, h⟩ := gs_o1 h
  refine gs_callVi (pc := 2) C [.int x1] dX11_tells_2 ml_X11_178 wy_X11_isPerson (a_X11_isPerson _ e2) (by decide) sh_0 (by decide) rfl rfl (Nat.le_of_ble_eq_true rfl) rfl ?_
  refine gs_if_eq (pc := 5) C 17 dX11_tells_5 rfl (fun c3 => ?_) (fun c3 => ?_)
  · replace h := gs_ift c3 h
    refine gs_iconst (w := (-1)) (pc := 17) C dX11_tells_17 rfl ?_
    obtain ⟨rfl, rfl⟩ := gs_i2 h
    exact gs_iret (pc := 18) C dX11_tells_18 E
  · replace h := gs_iff c3 h
    refine gs_iload_n (pc := 8) C 2 dX11_tells_8 rfl rfl ?_
    refine gs_if_lt (pc := 9) C 17 dX11_tells_9 rfl (fun c4 => ?_) (fun c4 => ?_)
    · replace h := gs_ift c4 h
      refine gs_iconst (w := (-1)) (pc := 17) C dX11_tells_17 rfl ?_
      obtain ⟨rfl, rfl⟩ := gs_i2 h
      exact gs_iret (pc := 18) C dX11_tells_18 E
    · replace h := gs_iff c4 h
      refine gs_iload_n (pc := 12) C 2 dX11_tells_12 rfl rfl ?_
      refine gs_iconst (w := 1) (pc := 13) C dX11_tells_13 rfl ?_
      refine gs_icmp_le (pc := 14) C 19 dX11_tells_14 rfl (fun c5 => ?_) (fun c5 => ?_)
      · replace h := gs_ift c5 h
        refine gs_iconst (w := 0) (pc := 19) C dX11_tells_19 rfl ?_
        refine gs_istore_n (ls' := [(3, .int (0 : Int32)), (0, .ref 0), (1, .int x1), (2, .int x2)]) (pc := 20) C dX11_tells_20 rfl (by decide) rfl ?_
        refine gs_iconst (w := (-1)) (pc := 21) C dX11_tells_21 rfl ?_
        refine gs_istore (ls' := [(4, .int (-1 : Int32)), (3, .int (0 : Int32)), (0, .ref 0), (1, .int x1), (2, .int x2)]) (pc := 22) C dX11_tells_22 (by decide) rfl ?_
        refine gs_iconst (w := 0) (pc := 24) C dX11_tells_24 rfl ?_
        refine gs_istore (ls' := [(5, .int (0 : Int32)), (4, .int (-1 : Int32)), (3, .int (0 : Int32)), (0, .ref 0), (1, .int x1), (2, .int x2)]) (pc := 25) C dX11_tells_25 (by decide) rfl ?_
        obtain ⟨y6, y7, y8, M9, e10, h⟩ := gs_o4 h
        refine gs_sub [3, 4, 5, 2, 1, 0] rfl (t_X11_tells_27 C ?_ gs_FU _ _ _ _ e10)
        refine gs_iload_n (pc := 86) C 2 dX11_tells_86 rfl rfl ?_
        have j11 : gs_AW X 96 [(0, .ref 0), (1, .int x1), (2, .int x2), (3, .int y6), (4, .int y7), (5, .int y8)] [.int (if x2 = (0 : Int32) then y6 else y7 : Int32)] M9 L := by
          obtain ⟨rfl, rfl⟩ := gs_i2 h
          exact gs_iret (pc := 96) C dX11_tells_96 E
        refine gs_if_ne (pc := 87) C 94 dX11_tells_87 rfl (fun c12 => ?_) (fun c12 => ?_)
        · refine gs_iload (pc := 94) C 4 dX11_tells_94 rfl ?_
          simp only [if_neg c12] at j11
          exact j11
        · refine gs_iload_n (pc := 90) C 3 dX11_tells_90 rfl rfl ?_
          refine gs_goto (pc := 91) C 96 dX11_tells_91 rfl ?_
          simp only [if_pos c12] at j11
          exact j11
      · replace h := gs_iff c5 h
        refine gs_iconst (w := (-1)) (pc := 17) C dX11_tells_17 rfl ?_
        obtain ⟨rfl, rfl⟩ := gs_i2 h
        exact gs_iret (pc := 18) C dX11_tells_18 E
set_option maxRecDepth 100000 in
set_option maxHeartbeats 4000000 in
theorem a_X10_add (l : Launch) {M : gs_M} {L : gs_L} {rv : Int32} {Mz : gs_M} (h : f_X10_add M = some (rv, Mz)) : gs_Met l 2 yX10_add cX10_add 2 (some .int) [.ref 95, .ref 1] M L (some (.int rv)) Mz L := by
  unfold f_X10_add at h
  refine gs_of RX10 (by decide) rfl (Nat.le_of_ble_eq_true rfl) (fun X C E => ?_)
  show gs_AW X 0 [(0, .ref 95), (1, .ref 1)] [] M L
  refine gs_aload_n (pc := 0) C 0 dX10_add_0 rfl rfl ?_
  refine gs_geti (pc := 1) C dX10_add_1 gk_10 fl_X10_22 sh_95 rfl ?_
  refine gs_iconst (w := 4) (pc := 4) C dX10_add_4 rfl ?_
  refine gs_icmp_ge (pc := 5) C 17 dX10_add_5 rfl (fun c1 => ?_) (fun c1 => ?_)
  · replace h := gs_ift c1 h
    refine gs_iconst (w := (-1)) (pc := 17) C dX10_add_17 rfl ?_
    obtain ⟨rfl, rfl⟩ := gs_i2 h
    exact gs_iret (pc := 18) C dX10_add_18 E
  · replace h := gs_iff c1 h
    refine gs_aload_n (pc := 8) C 0 dX10_add_8 rfl rfl ?_
    refine gs_aload_n (pc := 9) C 1 dX10_add_9 rfl rfl ?_
    obtain ⟨v2, M3, e4, h⟩ := gs_o2 h
    refine gs_callVi (pc := 10) C [.ref 1] dX10_add_10 ml_X10_55 wy_X10_read (a_X10_read _ e4) (by decide) sh_95 (by decide) rfl rfl (Nat.le_of_ble_eq_true rfl) rfl ?_
    refine gs_iconst (w := (-1)) (pc := 13) C dX10_add_13 rfl ?_
    refine gs_icmp_eq (pc := 14) C 19 dX10_add_14 rfl (fun c5 => ?_) (fun c5 => ?_)
    · replace h := gs_ift c5 h
      refine gs_aload_n (pc := 19) C 0 dX10_add_19 rfl rfl ?_
      refine gs_getq (pc := 20) C dX10_add_20 gk_10 fl_X10_15 sh_95 rfl ?_
      refine gs_iconst (w := 0) (pc := 23) C dX10_add_23 rfl ?_
      refine gs_aload_n (pc := 24) C 0 dX10_add_24 rfl rfl ?_
      refine gs_getq (pc := 25) C dX10_add_25 gk_10 fl_X10_9 sh_95 rfl ?_
      refine gs_aload_n (pc := 28) C 0 dX10_add_28 rfl rfl ?_
      refine gs_geti (pc := 29) C dX10_add_29 gk_10 fl_X10_22 sh_95 rfl ?_
      refine gs_bipush (w := 9) (pc := 32) C dX10_add_32 rfl ?_
      refine gs_imul (pc := 34) C dX10_add_34 ?_
      refine gs_bipush (w := 9) (pc := 35) C dX10_add_35 rfl ?_
      obtain ⟨M7, e6, h⟩ := gs_o1 h
      refine gs_acpy (pc := 37) C dX10_add_37 ml_X10_59 sh_97 sh_96 (Nat.le_of_ble_eq_true rfl) e6 ?_
      refine gs_aload_n (pc := 40) C 0 dX10_add_40 rfl rfl ?_
      refine gs_dup (pc := 41) C dX10_add_41 rfl ?_
      refine gs_geti (pc := 42) C dX10_add_42 gk_10 fl_X10_22 sh_95 rfl ?_
      refine gs_iconst (w := 1) (pc := 45) C dX10_add_45 rfl ?_
      refine gs_iadd (pc := 46) C dX10_add_46 ?_
      obtain ⟨M9, e8, h⟩ := gs_o1 h
      refine gs_puti' (pc := 47) C dX10_add_47 gk_10 fp_X10_22 sh_95 rfl e8 ?_
      refine gs_aload_n (pc := 50) C 0 dX10_add_50 rfl rfl ?_
      refine gs_geti (pc := 51) C dX10_add_51 gk_10 fl_X10_22 sh_95 rfl ?_
      refine gs_iconst (w := 1) (pc := 54) C dX10_add_54 rfl ?_
      refine gs_isub (pc := 55) C dX10_add_55 ?_
      obtain ⟨rfl, rfl⟩ := gs_i2 h
      exact gs_iret (pc := 56) C dX10_add_56 E
    · replace h := gs_iff c5 h
      refine gs_iconst (w := (-1)) (pc := 17) C dX10_add_17 rfl ?_
      obtain ⟨rfl, rfl⟩ := gs_i2 h
      exact gs_iret (pc := 18) C dX10_add_18 E
set_option maxRecDepth 100000 in
set_option maxHeartbeats 4000000 in
theorem a_X4_hasRoom (l : Launch) {M : gs_M} {L : gs_L} {rv : Int32} (h : f_X4_hasRoom M = some (rv)) : gs_Met l 0 yX4_hasRoom cX4_hasRoom 1 (some .boolean) [.ref 105] M L (some (.int rv)) M L := by
  unfold f_X4_hasRoom at h
  refine gs_of RX4 (by decide) rfl (Nat.le_of_ble_eq_true rfl) (fun X C E => ?_)
  show gs_AW X 0 [(0, .ref 105)] [] M L
  refine gs_aload_n (pc := 0) C 0 dX4_hasRoom_0 rfl rfl ?_
  refine gs_geti (pc := 1) C dX4_hasRoom_1 gk_4 fl_X4_34 sh_105 rfl ?_
  refine gs_iconst (w := 4) (pc := 4) C dX4_hasRoom_4 rfl ?_
  have j3 : gs_AW X 13 [(0, .ref 105)] [.int (if (4 : Int32) ≤ (M 105 4) then (0 : Int32) else (1 : Int32) : Int32)] M L := by
    obtain ⟨z1, e2, h⟩ := gs_o1 h
    obtain rfl := gs_i1 h
    exact gs_zret' (pc := 13) C dX4_hasRoom_13 e2 E
  refine gs_icmp_ge (pc := 5) C 12 dX4_hasRoom_5 rfl (fun c4 => ?_) (fun c4 => ?_)
  · refine gs_iconst (w := 0) (pc := 12) C dX4_hasRoom_12 rfl ?_
    simp only [if_pos c4] at j3
    exact j3
  · refine gs_iconst (w := 1) (pc := 8) C dX4_hasRoom_8 rfl ?_
    refine gs_goto (pc := 9) C 13 dX4_hasRoom_9 rfl ?_
    simp only [if_neg c4] at j3
    exact j3
set_option maxRecDepth 100000 in
set_option maxHeartbeats 4000000 in
theorem a_X4_nextLaw (l : Launch) {M : gs_M} {L : gs_L} {rv : Nat} (h : f_X4_nextLaw M = some (rv)) : gs_Met l 1 yX4_nextLaw cX4_nextLaw 1 (some (.object "GuiltySleep$Law")) [.ref 105] M L (some (.ref rv)) M L := by
  unfold f_X4_nextLaw at h
  refine gs_of RX4 (by decide) rfl (Nat.le_of_ble_eq_true rfl) (fun X C E => ?_)
  show gs_AW X 0 [(0, .ref 105)] [] M L
  refine gs_aload_n (pc := 0) C 0 dX4_nextLaw_0 rfl rfl ?_
  refine gs_getq (pc := 1) C dX4_nextLaw_1 gk_4 fl_X4_11 sh_105 rfl ?_
  refine gs_aload_n (pc := 4) C 0 dX4_nextLaw_4 rfl rfl ?_
  obtain ⟨v1, e2, h⟩ := gs_o1 h
  refine gs_callVi (pc := 5) C [] dX4_nextLaw_5 ml_X4_41 wy_X4_hasRoom (a_X4_hasRoom _ e2) (by decide) sh_105 (by decide) rfl rfl (Nat.le_of_ble_eq_true rfl) rfl ?_
  have j5 : gs_AW X 19 [(0, .ref 105)] [.int (if v1 = (0 : Int32) then (3 : Int32) else (M 105 4) : Int32), .ref 106] M L := by
    obtain ⟨r3, e4, h⟩ := gs_o1 h
    refine gs_aldW (pc := 19) C dX4_nextLaw_19 sh_106 e4 ?_
    obtain rfl := gs_i1 h
    exact gs_aret (pc := 20) C dX4_nextLaw_20 E
  refine gs_if_eq (pc := 8) C 18 dX4_nextLaw_8 rfl (fun c6 => ?_) (fun c6 => ?_)
  · refine gs_iconst (w := 3) (pc := 18) C dX4_nextLaw_18 rfl ?_
    simp only [if_pos c6] at j5
    exact j5
  · refine gs_aload_n (pc := 11) C 0 dX4_nextLaw_11 rfl rfl ?_
    refine gs_geti (pc := 12) C dX4_nextLaw_12 gk_4 fl_X4_34 sh_105 rfl ?_
    refine gs_goto (pc := 15) C 19 dX4_nextLaw_15 rfl ?_
    simp only [if_neg c6] at j5
    exact j5
theorem a_X4_nextLaw_law {M : gs_M} {rv : Nat} (h : f_X4_nextLaw M = some rv) : gs_law rv := by
  unfold f_X4_nextLaw at h
  obtain ⟨v1, -, h⟩ := gs_o1 h
  obtain ⟨r3, e, h⟩ := gs_o1 h
  obtain rfl := gs_i1 h
  exact gs_rdq_law e
set_option maxRecDepth 100000 in
set_option maxHeartbeats 4000000 in
theorem a_X4_addNext (l : Launch) {M : gs_M} {L : gs_L} {rv : Int32} {Mz : gs_M} (h : f_X4_addNext M = some (rv, Mz)) : gs_Met l 1 yX4_addNext cX4_addNext 1 (some .int) [.ref 105] M L (some (.int rv)) Mz L := by
  unfold f_X4_addNext at h
  refine gs_of RX4 (by decide) rfl (Nat.le_of_ble_eq_true rfl) (fun X C E => ?_)
  show gs_AW X 0 [(0, .ref 105)] [] M L
  refine gs_aload_n (pc := 0) C 0 dX4_addNext_0 rfl rfl ?_
  obtain ⟨v1, e2, h⟩ := gs_o1 h
  refine gs_callVi (pc := 1) C [] dX4_addNext_1 ml_X4_41 wy_X4_hasRoom (a_X4_hasRoom _ e2) (by decide) sh_105 (by decide) rfl rfl (Nat.le_of_ble_eq_true rfl) rfl ?_
  refine gs_if_ne (pc := 4) C 9 dX4_addNext_4 rfl (fun c3 => ?_) (fun c3 => ?_)
  · replace h := gs_iff c3 h
    refine gs_aload_n (pc := 9) C 0 dX4_addNext_9 rfl rfl ?_
    refine gs_dup (pc := 10) C dX4_addNext_10 rfl ?_
    refine gs_geti (pc := 11) C dX4_addNext_11 gk_4 fl_X4_34 sh_105 rfl ?_
    refine gs_iconst (w := 1) (pc := 14) C dX4_addNext_14 rfl ?_
    refine gs_iadd (pc := 15) C dX4_addNext_15 ?_
    obtain ⟨M5, e4, h⟩ := gs_o1 h
    refine gs_puti' (pc := 16) C dX4_addNext_16 gk_4 fp_X4_34 sh_105 rfl e4 ?_
    refine gs_aload_n (pc := 19) C 0 dX4_addNext_19 rfl rfl ?_
    refine gs_geti (pc := 20) C dX4_addNext_20 gk_4 fl_X4_34 sh_105 rfl ?_
    refine gs_iconst (w := 1) (pc := 23) C dX4_addNext_23 rfl ?_
    refine gs_isub (pc := 24) C dX4_addNext_24 ?_
    obtain ⟨rfl, rfl⟩ := gs_i2 h
    exact gs_iret (pc := 25) C dX4_addNext_25 E
  · replace h := gs_ift c3 h
    refine gs_iconst (w := (-1)) (pc := 7) C dX4_addNext_7 rfl ?_
    obtain ⟨rfl, rfl⟩ := gs_i2 h
    exact gs_iret (pc := 8) C dX4_addNext_8 E
set_option maxRecDepth 100000 in
set_option maxHeartbeats 4000000 in
theorem a_X11_enact (l : Launch) {M : gs_M} {L : gs_L} {rv : Int32} {Mz : gs_M} (h : f_X11_enact M = some (rv, Mz)) : gs_Met l 76 yX11_enact cX11_enact 1 (some .int) [.ref 0] M L (some (.int rv)) Mz L := by
  unfold f_X11_enact at h
  refine gs_of RX11 (by decide) rfl (Nat.le_of_ble_eq_true rfl) (fun X C E => ?_)
  show gs_AW X 0 [(0, .ref 0)] [] M L
  refine gs_aload_n (pc := 0) C 0 dX11_enact_0 rfl rfl ?_
  refine gs_getq (pc := 1) C dX11_enact_1 gk_11 fl_X11_71 sh_0 rfl ?_
  obtain ⟨v1, e2, h⟩ := gs_o1 h
  refine gs_callVi (pc := 4) C [] dX11_enact_4 ml_X11_161 wy_X4_hasRoom (a_X4_hasRoom _ e2) (by decide) sh_105 (by decide) rfl rfl (Nat.le_of_ble_eq_true rfl) rfl ?_
  refine gs_if_eq (pc := 7) C 28 dX11_enact_7 rfl (fun c3 => ?_) (fun c3 => ?_)
  · replace h := gs_ift c3 h
    refine gs_iconst (w := (-1)) (pc := 28) C dX11_enact_28 rfl ?_
    obtain ⟨rfl, rfl⟩ := gs_i2 h
    exact gs_iret (pc := 29) C dX11_enact_29 E
  · replace h := gs_iff c3 h
    refine gs_aload_n (pc := 10) C 0 dX11_enact_10 rfl rfl ?_
    refine gs_getq (pc := 11) C dX11_enact_11 gk_11 fl_X11_62 sh_0 rfl ?_
    refine gs_aload_n (pc := 14) C 0 dX11_enact_14 rfl rfl ?_
    refine gs_getq (pc := 15) C dX11_enact_15 gk_11 fl_X11_71 sh_0 rfl ?_
    obtain ⟨r4, e5, h⟩ := gs_o1 h
    refine gs_callVr (pc := 18) C [] dX11_enact_18 ml_X11_165 wy_X4_nextLaw (a_X4_nextLaw _ e5) (by decide) sh_105 (by decide) rfl rfl (Nat.le_of_ble_eq_true rfl) rfl ?_
    obtain ⟨v6, M7, e8, h⟩ := gs_o2 h
    refine gs_callVi (pc := 21) C [.ref r4] dX11_enact_21 ml_X11_134 wy_X3_read (a_X3_read _ (a_X4_nextLaw_law e5) e8) (by decide) sh_104 (by decide) rfl rfl (Nat.le_of_ble_eq_true rfl) rfl ?_
    refine gs_iconst (w := (-1)) (pc := 24) C dX11_enact_24 rfl ?_
    refine gs_icmp_eq (pc := 25) C 30 dX11_enact_25 rfl (fun c9 => ?_) (fun c9 => ?_)
    · replace h := gs_ift c9 h
      refine gs_aload_n (pc := 30) C 0 dX11_enact_30 rfl rfl ?_
      refine gs_getq (pc := 31) C dX11_enact_31 gk_11 fl_X11_71 sh_0 rfl ?_
      obtain ⟨v10, M11, e12, h⟩ := gs_o2 h
      refine gs_callVi (pc := 34) C [] dX11_enact_34 ml_X11_169 wy_X4_addNext (a_X4_addNext _ e12) (by decide) sh_105 (by decide) rfl rfl (Nat.le_of_ble_eq_true rfl) rfl ?_
      obtain ⟨rfl, rfl⟩ := gs_i2 h
      exact gs_iret (pc := 37) C dX11_enact_37 E
    · replace h := gs_iff c9 h
      refine gs_iconst (w := (-1)) (pc := 28) C dX11_enact_28 rfl ?_
      obtain ⟨rfl, rfl⟩ := gs_i2 h
      exact gs_iret (pc := 29) C dX11_enact_29 E
set_option maxRecDepth 100000 in
set_option maxHeartbeats 4000000 in
theorem a_X9_copyFrom (l : Launch) {M : gs_M} {L : gs_L} {Mz : gs_M} (h : f_X9_copyFrom M = some (Mz)) : gs_Met l 0 yX9_copyFrom cX9_copyFrom 2 none [.ref 3, .ref 6] M L none Mz L := by
  unfold f_X9_copyFrom at h
  refine gs_of RX9 (by decide) rfl (Nat.le_of_ble_eq_true rfl) (fun X C E => ?_)
  show gs_AW X 0 [(0, .ref 3), (1, .ref 6)] [] M L
  refine gs_aload_n (pc := 0) C 1 dX9_copyFrom_0 rfl rfl ?_
  refine gs_getq (pc := 1) C dX9_copyFrom_1 gk_9 fl_X9_11 sh_6 rfl ?_
  refine gs_iconst (w := 0) (pc := 4) C dX9_copyFrom_4 rfl ?_
  refine gs_aload_n (pc := 5) C 0 dX9_copyFrom_5 rfl rfl ?_
  refine gs_getq (pc := 6) C dX9_copyFrom_6 gk_9 fl_X9_11 sh_3 rfl ?_
  refine gs_iconst (w := 0) (pc := 9) C dX9_copyFrom_9 rfl ?_
  refine gs_iconst (w := 3) (pc := 10) C dX9_copyFrom_10 rfl ?_
  obtain ⟨M2, e1, h⟩ := gs_o1 h
  refine gs_acpy (pc := 11) C dX9_copyFrom_11 ml_X9_22 sh_7 sh_4 (Nat.le_of_ble_eq_true rfl) e1 ?_
  refine gs_aload_n (pc := 14) C 1 dX9_copyFrom_14 rfl rfl ?_
  refine gs_getq (pc := 15) C dX9_copyFrom_15 gk_9 fl_X9_15 sh_6 rfl ?_
  refine gs_iconst (w := 0) (pc := 18) C dX9_copyFrom_18 rfl ?_
  refine gs_aload_n (pc := 19) C 0 dX9_copyFrom_19 rfl rfl ?_
  refine gs_getq (pc := 20) C dX9_copyFrom_20 gk_9 fl_X9_15 sh_3 rfl ?_
  refine gs_iconst (w := 0) (pc := 23) C dX9_copyFrom_23 rfl ?_
  refine gs_aload_n (pc := 24) C 0 dX9_copyFrom_24 rfl rfl ?_
  refine gs_getq (pc := 25) C dX9_copyFrom_25 gk_9 fl_X9_15 sh_3 rfl ?_
  refine gs_alen (pc := 28) C (w := 40) dX9_copyFrom_28 sh_5 (by decide) rfl ?_
  obtain ⟨M4, e3, h⟩ := gs_o1 h
  refine gs_acpy (pc := 29) C dX9_copyFrom_29 ml_X9_22 sh_8 sh_5 (Nat.le_of_ble_eq_true rfl) e3 ?_
  refine gs_aload_n (pc := 32) C 0 dX9_copyFrom_32 rfl rfl ?_
  refine gs_aload_n (pc := 33) C 1 dX9_copyFrom_33 rfl rfl ?_
  refine gs_geti (pc := 34) C dX9_copyFrom_34 gk_9 fl_X9_18 sh_6 rfl ?_
  obtain ⟨M6, e5, h⟩ := gs_o1 h
  refine gs_puti' (pc := 37) C dX9_copyFrom_37 gk_9 fp_X9_18 sh_3 rfl e5 ?_
  obtain rfl := gs_i1 h
  exact gs_vret (pc := 40) C dX9_copyFrom_40 E
set_option maxRecDepth 100000 in
set_option maxHeartbeats 4000000 in
theorem t_X6_begin_2 {X : gs_X} (C : gs_C X RX6 cX6_begin 3 none 1) {L : gs_L} {o2 : Int32} {M' : gs_M} (k : gs_AW X 22 [(0, .ref 9), (1, .ref 3), (2, .int o2)] [] M' L) : ∀ (f : Nat) (x2 : Int32) (M : gs_M), l_X6_begin_2  f x2 M = some (o2, M') → gs_AW X 2 [(0, .ref 9), (1, .ref 3), (2, .int x2)] [] M L := by
  intro f
  induction f with
  | zero =>
    intro x2 M h
    cases h
  | succ f ih =>
    intro x2 M h
    rw [l_X6_begin_2] at h
    refine gs_iload_n (pc := 2) C 2 dX6_begin_2 rfl rfl ?_
    refine gs_sipush (w := 173) (pc := 3) C dX6_begin_3 rfl ?_
    refine gs_icmp_ge (pc := 6) C 22 dX6_begin_6 rfl (fun c1 => ?_) (fun c1 => ?_)
    · replace h := gs_ift c1 h
      obtain ⟨rfl, rfl⟩ := gs_i2 h
      exact k
    · replace h := gs_iff c1 h
      refine gs_aload_n (pc := 9) C 0 dX6_begin_9 rfl rfl ?_
      refine gs_getq (pc := 10) C dX6_begin_10 gk_6 fl_X6_11 sh_9 rfl ?_
      refine gs_iload_n (pc := 13) C 2 dX6_begin_13 rfl rfl ?_
      refine gs_iconst (w := 0) (pc := 14) C dX6_begin_14 rfl ?_
      obtain ⟨M3, e2, h⟩ := gs_o1 h
      refine gs_iast (pc := 15) C dX6_begin_15 sh_10 e2 ?_
      refine gs_iinc (v := x2 + (1 : Int32)) (ls' := [(2, .int (x2 + (1 : Int32))), (0, .ref 9), (1, .ref 3)]) (pc := 16) C 2 dX6_begin_16 rfl rfl (by decide) rfl ?_
      refine gs_goto (pc := 19) C 2 dX6_begin_19 rfl ?_
      exact gs_sub [1, 2, 0] rfl (ih _ _ h)
set_option maxRecDepth 100000 in
set_option maxHeartbeats 4000000 in
theorem t_X6_begin_24 {X : gs_X} (C : gs_C X RX6 cX6_begin 3 none 1) {L : gs_L} {o2 : Int32} {M' : gs_M} (k : gs_AW X 74 [(0, .ref 9), (1, .ref 3), (2, .int o2)] [] M' L) : ∀ (f : Nat) (x2 : Int32) (M : gs_M), l_X6_begin_24  f x2 M = some (o2, M') → gs_AW X 24 [(0, .ref 9), (1, .ref 3), (2, .int x2)] [] M L := by
  intro f
  induction f with
  | zero =>
    intro x2 M h
    cases h
  | succ f ih =>
    intro x2 M h
    rw [l_X6_begin_24] at h
    refine gs_iload_n (pc := 24) C 2 dX6_begin_24 rfl rfl ?_
    refine gs_aload_n (pc := 25) C 1 dX6_begin_25 rfl rfl ?_
    obtain ⟨v1, e2, h⟩ := gs_o1 h
    refine gs_callVi (pc := 26) C [] dX6_begin_26 ml_X6_21 wy_X9_crowd (a_X9_crowd _ e2) (by decide) sh_3 (by decide) rfl rfl (Nat.le_of_ble_eq_true rfl) rfl ?_
    refine gs_icmp_ge (pc := 29) C 74 dX6_begin_29 rfl (fun c3 => ?_) (fun c3 => ?_)
    · replace h := gs_ift c3 h
      obtain ⟨rfl, rfl⟩ := gs_i2 h
      exact k
    · replace h := gs_iff c3 h
      refine gs_aload_n (pc := 32) C 0 dX6_begin_32 rfl rfl ?_
      refine gs_iload_n (pc := 33) C 2 dX6_begin_33 rfl rfl ?_
      refine gs_iconst (w := 0) (pc := 34) C dX6_begin_34 rfl ?_
      refine gs_aload_n (pc := 35) C 1 dX6_begin_35 rfl rfl ?_
      refine gs_iload_n (pc := 36) C 2 dX6_begin_36 rfl rfl ?_
      refine gs_iconst (w := 0) (pc := 37) C dX6_begin_37 rfl ?_
      obtain ⟨v4, e5, h⟩ := gs_o1 h
      refine gs_callVi (pc := 38) C [.int x2, .int (0 : Int32)] dX6_begin_38 ml_X6_27 wy_X9_told (a_X9_told _ e5) (by decide) sh_3 (by decide) rfl rfl (Nat.le_of_ble_eq_true rfl) rfl ?_
      obtain ⟨M6, e7, h⟩ := gs_o1 h
      refine gs_callVv (pc := 41) C [.int x2, .int (0 : Int32), .int v4] dX6_begin_41 ml_X6_31 wy_X6_set (a_X6_set _ e7) (by decide) sh_9 (by decide) rfl rfl (Nat.le_of_ble_eq_true rfl) rfl ?_
      refine gs_aload_n (pc := 44) C 0 dX6_begin_44 rfl rfl ?_
      refine gs_iload_n (pc := 45) C 2 dX6_begin_45 rfl rfl ?_
      refine gs_iconst (w := 1) (pc := 46) C dX6_begin_46 rfl ?_
      refine gs_aload_n (pc := 47) C 1 dX6_begin_47 rfl rfl ?_
      refine gs_iload_n (pc := 48) C 2 dX6_begin_48 rfl rfl ?_
      refine gs_iconst (w := 2) (pc := 49) C dX6_begin_49 rfl ?_
      obtain ⟨v8, e9, h⟩ := gs_o1 h
      refine gs_callVi (pc := 50) C [.int x2, .int (2 : Int32)] dX6_begin_50 ml_X6_27 wy_X9_told (a_X9_told _ e9) (by decide) sh_3 (by decide) rfl rfl (Nat.le_of_ble_eq_true rfl) rfl ?_
      obtain ⟨M10, e11, h⟩ := gs_o1 h
      refine gs_callVv (pc := 53) C [.int x2, .int (1 : Int32), .int v8] dX6_begin_53 ml_X6_31 wy_X6_set (a_X6_set _ e11) (by decide) sh_9 (by decide) rfl rfl (Nat.le_of_ble_eq_true rfl) rfl ?_
      refine gs_aload_n (pc := 56) C 0 dX6_begin_56 rfl rfl ?_
      refine gs_iload_n (pc := 57) C 2 dX6_begin_57 rfl rfl ?_
      refine gs_iconst (w := 2) (pc := 58) C dX6_begin_58 rfl ?_
      refine gs_aload_n (pc := 59) C 1 dX6_begin_59 rfl rfl ?_
      refine gs_iload_n (pc := 60) C 2 dX6_begin_60 rfl rfl ?_
      refine gs_iconst (w := 3) (pc := 61) C dX6_begin_61 rfl ?_
      obtain ⟨v12, e13, h⟩ := gs_o1 h
      refine gs_callVi (pc := 62) C [.int x2, .int (3 : Int32)] dX6_begin_62 ml_X6_27 wy_X9_told (a_X9_told _ e13) (by decide) sh_3 (by decide) rfl rfl (Nat.le_of_ble_eq_true rfl) rfl ?_
      obtain ⟨M14, e15, h⟩ := gs_o1 h
      refine gs_callVv (pc := 65) C [.int x2, .int (2 : Int32), .int v12] dX6_begin_65 ml_X6_31 wy_X6_set (a_X6_set _ e15) (by decide) sh_9 (by decide) rfl rfl (Nat.le_of_ble_eq_true rfl) rfl ?_
      refine gs_iinc (v := x2 + (1 : Int32)) (ls' := [(2, .int (x2 + (1 : Int32))), (0, .ref 9), (1, .ref 3)]) (pc := 68) C 2 dX6_begin_68 rfl rfl (by decide) rfl ?_
      refine gs_goto (pc := 71) C 24 dX6_begin_71 rfl ?_
      exact gs_sub [1, 2, 0] rfl (ih _ _ h)
set_option maxRecDepth 100000 in
set_option maxHeartbeats 4000000 in
theorem a_X6_begin (l : Launch) {M : gs_M} {L : gs_L} {Mz : gs_M} (h : f_X6_begin M = some (Mz)) : gs_Met l 1 yX6_begin cX6_begin 3 none [.ref 9, .ref 3] M L none Mz L := by
  unfold f_X6_begin at h
  refine gs_of RX6 (by decide) rfl (Nat.le_of_ble_eq_true rfl) (fun X C E => ?_)
  show gs_AW X 0 [(0, .ref 9), (1, .ref 3)] [] M L
  refine gs_iconst (w := 0) (pc := 0) C dX6_begin_0 rfl ?_
  refine gs_istore_n (ls' := [(2, .int (0 : Int32)), (0, .ref 9), (1, .ref 3)]) (pc := 1) C dX6_begin_1 rfl (by decide) rfl ?_
  obtain ⟨y1, M2, e3, h⟩ := gs_o2 h
  refine gs_sub [1, 2, 0] rfl (t_X6_begin_2 C ?_ gs_FU _ _ e3)
  refine gs_iconst (w := 0) (pc := 22) C dX6_begin_22 rfl ?_
  refine gs_istore_n (ls' := [(2, .int (0 : Int32)), (0, .ref 9), (1, .ref 3)]) (pc := 23) C dX6_begin_23 rfl (by decide) rfl ?_
  obtain ⟨y4, M5, e6, h⟩ := gs_o2 h
  refine gs_sub [1, 2, 0] rfl (t_X6_begin_24 C ?_ gs_FU _ _ e6)
  obtain rfl := gs_i1 h
  exact gs_vret (pc := 74) C dX6_begin_74 E
set_option maxRecDepth 100000 in
set_option maxHeartbeats 4000000 in
theorem a_X1_forget (l : Launch) {M : gs_M} {L : gs_L} {Mz : gs_M} (h : f_X1_forget M = some (Mz)) : gs_Met l 0 yX1_forget cX1_forget 1 none [.ref 134] M L none Mz L := by
  unfold f_X1_forget at h
  refine gs_of RX1 (by decide) rfl (Nat.le_of_ble_eq_true rfl) (fun X C E => ?_)
  show gs_AW X 0 [(0, .ref 134)] [] M L
  refine gs_aload_n (pc := 0) C 0 dX1_forget_0 rfl rfl ?_
  refine gs_iconst (w := 0) (pc := 1) C dX1_forget_1 rfl ?_
  obtain ⟨M2, e1, h⟩ := gs_o1 h
  refine gs_puti' (pc := 2) C dX1_forget_2 gk_1 fp_X1_37 sh_134 rfl e1 ?_
  obtain rfl := gs_i1 h
  exact gs_vret (pc := 5) C dX1_forget_5 E
set_option maxRecDepth 100000 in
set_option maxHeartbeats 4000000 in
theorem a_X11_settle (l : Launch) {M : gs_M} {L : gs_L} {rv : Int32} {Mz : gs_M} (h : f_X11_settle M = some (rv, Mz)) : gs_Met l 13 yX11_settle cX11_settle 1 (some .int) [.ref 0] M L (some (.int rv)) Mz L := by
  unfold f_X11_settle at h
  refine gs_of RX11 (by decide) rfl (Nat.le_of_ble_eq_true rfl) (fun X C E => ?_)
  show gs_AW X 0 [(0, .ref 0)] [] M L
  refine gs_aload_n (pc := 0) C 0 dX11_settle_0 rfl rfl ?_
  refine gs_getq (pc := 1) C dX11_settle_1 gk_11 fl_X11_23 sh_0 rfl ?_
  refine gs_aload_n (pc := 4) C 0 dX11_settle_4 rfl rfl ?_
  refine gs_getq (pc := 5) C dX11_settle_5 gk_11 fl_X11_10 sh_0 rfl ?_
  obtain ⟨v1, M2, e3, h⟩ := gs_o2 h
  refine gs_callVi (pc := 8) C [.ref 1] dX11_settle_8 ml_X11_130 wy_X9_read (a_X9_read _ e3) (by decide) sh_6 (by decide) rfl rfl (Nat.le_of_ble_eq_true rfl) rfl ?_
  refine gs_iconst (w := (-1)) (pc := 11) C dX11_settle_11 rfl ?_
  refine gs_icmp_eq (pc := 12) C 17 dX11_settle_12 rfl (fun c4 => ?_) (fun c4 => ?_)
  · replace h := gs_ift c4 h
    refine gs_aload_n (pc := 17) C 0 dX11_settle_17 rfl rfl ?_
    refine gs_getq (pc := 18) C dX11_settle_18 gk_11 fl_X11_19 sh_0 rfl ?_
    refine gs_aload_n (pc := 21) C 0 dX11_settle_21 rfl rfl ?_
    refine gs_getq (pc := 22) C dX11_settle_22 gk_11 fl_X11_23 sh_0 rfl ?_
    obtain ⟨M5, e6, h⟩ := gs_o1 h
    refine gs_callVv (pc := 25) C [.ref 6] dX11_settle_25 ml_X11_147 wy_X9_copyFrom (a_X9_copyFrom _ e6) (by decide) sh_3 (by decide) rfl rfl (Nat.le_of_ble_eq_true rfl) rfl ?_
    refine gs_aload_n (pc := 28) C 0 dX11_settle_28 rfl rfl ?_
    refine gs_getq (pc := 29) C dX11_settle_29 gk_11 fl_X11_29 sh_0 rfl ?_
    refine gs_aload_n (pc := 32) C 0 dX11_settle_32 rfl rfl ?_
    refine gs_getq (pc := 33) C dX11_settle_33 gk_11 fl_X11_19 sh_0 rfl ?_
    obtain ⟨M7, e8, h⟩ := gs_o1 h
    refine gs_callVv (pc := 36) C [.ref 3] dX11_settle_36 ml_X11_151 wy_X6_begin (a_X6_begin _ e8) (by decide) sh_9 (by decide) rfl rfl (Nat.le_of_ble_eq_true rfl) rfl ?_
    refine gs_aload_n (pc := 39) C 0 dX11_settle_39 rfl rfl ?_
    refine gs_getq (pc := 40) C dX11_settle_40 gk_11 fl_X11_39 sh_0 rfl ?_
    obtain ⟨M9, e10, h⟩ := gs_o1 h
    refine gs_callVv (pc := 43) C [] dX11_settle_43 ml_X11_154 wy_X0_forget (a_X0_forget _ e10) (by decide) sh_13 (by decide) rfl rfl (Nat.le_of_ble_eq_true rfl) rfl ?_
    refine gs_aload_n (pc := 46) C 0 dX11_settle_46 rfl rfl ?_
    refine gs_getq (pc := 47) C dX11_settle_47 gk_11 fl_X11_89 sh_0 rfl ?_
    obtain ⟨M11, e12, h⟩ := gs_o1 h
    refine gs_callVv (pc := 50) C [] dX11_settle_50 ml_X11_157 wy_X1_forget (a_X1_forget _ e12) (by decide) sh_134 (by decide) rfl rfl (Nat.le_of_ble_eq_true rfl) rfl ?_
    refine gs_aload_n (pc := 53) C 0 dX11_settle_53 rfl rfl ?_
    refine gs_iconst (w := 0) (pc := 54) C dX11_settle_54 rfl ?_
    obtain ⟨M14, e13, h⟩ := gs_o1 h
    refine gs_putz' (pc := 55) C dX11_settle_55 gk_11 fp_X11_106 sh_0 rfl (by decide) e13 ?_
    refine gs_aload_n (pc := 58) C 0 dX11_settle_58 rfl rfl ?_
    refine gs_getq (pc := 59) C dX11_settle_59 gk_11 fl_X11_19 sh_0 rfl ?_
    obtain ⟨v15, e16, h⟩ := gs_o1 h
    refine gs_callVi (pc := 62) C [] dX11_settle_62 ml_X11_158 wy_X9_crowd (a_X9_crowd _ e16) (by decide) sh_3 (by decide) rfl rfl (Nat.le_of_ble_eq_true rfl) rfl ?_
    obtain ⟨rfl, rfl⟩ := gs_i2 h
    exact gs_iret (pc := 65) C dX11_settle_65 E
  · replace h := gs_iff c4 h
    refine gs_iconst (w := (-1)) (pc := 15) C dX11_settle_15 rfl ?_
    obtain ⟨rfl, rfl⟩ := gs_i2 h
    exact gs_iret (pc := 16) C dX11_settle_16 E
set_option maxRecDepth 100000 in
set_option maxHeartbeats 4000000 in
theorem a_X11_text (l : Launch) {M : gs_M} {L : gs_L} {x1 : Int32} {rv : Int32} {Mz : gs_M} (h : f_X11_text M x1 = some (rv, Mz)) : gs_Met l 77 yX11_text cX11_text 3 (some .int) [.ref 0, .int x1] M L (some (.int rv)) Mz L := by
  unfold f_X11_text at h
  refine gs_of RX11 (by decide) rfl (Nat.le_of_ble_eq_true rfl) (fun X C E => ?_)
  show gs_AW X 0 [(0, .ref 0), (1, .int x1)] [] M L
  refine gs_iconst (w := (-1)) (pc := 0) C dX11_text_0 rfl ?_
  refine gs_istore_n (ls' := [(2, .int (-1 : Int32)), (0, .ref 0), (1, .int x1)]) (pc := 1) C dX11_text_1 rfl (by decide) rfl ?_
  refine gs_iload_n (pc := 2) C 2 dX11_text_2 rfl rfl ?_
  obtain ⟨y1, M2, e3, h⟩ := gs_o2 h
  have j4 : gs_AW X 44 [(0, .ref 0), (1, .int x1), (2, .int y1)] [] M2 L := by
    refine gs_iload_n (pc := 44) C 2 dX11_text_44 rfl rfl ?_
    refine gs_iconst (w := (-1)) (pc := 45) C dX11_text_45 rfl ?_
    obtain ⟨M17, e18, h⟩ := gs_o1 h
    have j19 : gs_AW X 58 [(0, .ref 0), (1, .int x1), (2, .int y1)] [] M17 L := by
      refine gs_iload_n (pc := 58) C 2 dX11_text_58 rfl rfl ?_
      obtain ⟨rfl, rfl⟩ := gs_i2 h
      exact gs_iret (pc := 59) C dX11_text_59 E
    refine gs_icmp_eq (pc := 46) C 58 dX11_text_46 rfl (fun c20 => ?_) (fun c20 => ?_)
    · replace e18 := gs_ift c20 e18
      obtain rfl := gs_i1 e18
      exact j19
    · replace e18 := gs_iff c20 e18
      refine gs_aload_n (pc := 49) C 0 dX11_text_49 rfl rfl ?_
      refine gs_getq (pc := 50) C dX11_text_50 gk_11 fl_X11_10 sh_0 rfl ?_
      refine gs_iconst (w := 0) (pc := 53) C dX11_text_53 rfl ?_
      obtain ⟨v21, M22, e23, e18⟩ := gs_o2 e18
      refine gs_callVi (pc := 54) C [.int (0 : Int32)] dX11_text_54 ml_X11_126 wy_X7_keep (a_X7_keep _ e23) (by decide) sh_1 (by decide) rfl rfl (Nat.le_of_ble_eq_true rfl) rfl ?_
      refine gs_pop (pc := 57) C dX11_text_57 rfl ?_
      obtain rfl := gs_i1 e18
      exact j19
  refine gs_if_ne (pc := 3) C 14 dX11_text_3 rfl (fun c5 => ?_) (fun c5 => ?_)
  · replace e3 := gs_iff c5 e3
    refine gs_iload_n (pc := 14) C 2 dX11_text_14 rfl rfl ?_
    refine gs_iconst (w := 1) (pc := 15) C dX11_text_15 rfl ?_
    refine gs_icmp_ne (pc := 16) C 27 dX11_text_16 rfl (fun c6 => ?_) (fun c6 => ?_)
    · replace e3 := gs_iff c6 e3
      refine gs_iload_n (pc := 27) C 2 dX11_text_27 rfl rfl ?_
      refine gs_iconst (w := 2) (pc := 28) C dX11_text_28 rfl ?_
      refine gs_icmp_ne (pc := 29) C 44 dX11_text_29 rfl (fun c7 => ?_) (fun c7 => ?_)
      · replace e3 := gs_iff c7 e3
        obtain ⟨rfl, rfl⟩ := gs_i2 e3
        exact gs_sub [1, 2, 0] rfl (j4)
      · replace e3 := gs_ift c7 e3
        refine gs_aload_n (pc := 32) C 1 dX11_text_32 rfl rfl ?_
        refine gs_getq (pc := 33) C dX11_text_33 gk_11 fl_X11_46 sh_0 rfl ?_
        refine gs_aload_n (pc := 36) C 1 dX11_text_36 rfl rfl ?_
        refine gs_getq (pc := 37) C dX11_text_37 gk_11 fl_X11_10 sh_0 rfl ?_
        obtain ⟨v8, M9, e10, e3⟩ := gs_o2 e3
        refine gs_callVi (pc := 40) C [.ref 1] dX11_text_40 ml_X11_144 wy_X10_add (a_X10_add _ e10) (by decide) sh_95 (by decide) rfl rfl (Nat.le_of_ble_eq_true rfl) rfl ?_
        refine gs_istore_n (ls' := [(2, .int v8), (0, .ref 0), (1, .int x1)]) (pc := 43) C dX11_text_43 rfl (by decide) rfl ?_
        obtain ⟨rfl, rfl⟩ := gs_i2 e3
        exact gs_sub [1, 2, 0] rfl (j4)
    · replace e3 := gs_ift c6 e3
      refine gs_aload_n (pc := 19) C 1 dX11_text_19 rfl rfl ?_
      obtain ⟨v11, M12, e13, e3⟩ := gs_o2 e3
      refine gs_callVi (pc := 20) C [] dX11_text_20 ml_X11_141 wy_X11_enact (a_X11_enact _ e13) (by decide) sh_0 (by decide) rfl rfl (Nat.le_of_ble_eq_true rfl) rfl ?_
      refine gs_istore_n (ls' := [(2, .int v11), (0, .ref 0), (1, .int x1)]) (pc := 23) C dX11_text_23 rfl (by decide) rfl ?_
      refine gs_goto (pc := 24) C 44 dX11_text_24 rfl ?_
      obtain ⟨rfl, rfl⟩ := gs_i2 e3
      exact gs_sub [1, 2, 0] rfl (j4)
  · replace e3 := gs_ift c5 e3
    refine gs_aload_n (pc := 6) C 1 dX11_text_6 rfl rfl ?_
    obtain ⟨v14, M15, e16, e3⟩ := gs_o2 e3
    refine gs_callVi (pc := 7) C [] dX11_text_7 ml_X11_138 wy_X11_settle (a_X11_settle _ e16) (by decide) sh_0 (by decide) rfl rfl (Nat.le_of_ble_eq_true rfl) rfl ?_
    refine gs_istore_n (ls' := [(2, .int v14), (0, .ref 0), (1, .int x1)]) (pc := 10) C dX11_text_10 rfl (by decide) rfl ?_
    refine gs_goto (pc := 11) C 44 dX11_text_11 rfl ?_
    obtain ⟨rfl, rfl⟩ := gs_i2 e3
    exact gs_sub [1, 2, 0] rfl (j4)
set_option maxRecDepth 100000 in
set_option maxHeartbeats 4000000 in
theorem t_X8_gather_68 {X : gs_X} (C : gs_C X RX8 cX8_gather 4 (some .int) 5) {L : gs_L} {x1 : Int32} {x2 : Int32} {o3 : Int32} {M' : gs_M} (k : gs_AW X 111 [(0, .ref 140), (1, .int x1), (2, .int x2), (3, .int o3)] [] M' L) : ∀ (f : Nat) (x3 : Int32) (M : gs_M), l_X8_gather_68 x1 x2 f x3 M = some (o3, M') → gs_AW X 68 [(0, .ref 140), (1, .int x1), (2, .int x2), (3, .int x3)] [] M L := by
  intro f
  induction f with
  | zero =>
    intro x3 M h
    cases h
  | succ f ih =>
    intro x3 M h
    rw [l_X8_gather_68] at h
    refine gs_iload_n (pc := 68) C 3 dX8_gather_68 rfl rfl ?_
    refine gs_aload_n (pc := 69) C 0 dX8_gather_69 rfl rfl ?_
    refine gs_getq (pc := 70) C dX8_gather_70 gk_8 fl_X8_31 sh_140 rfl ?_
    obtain ⟨v1, e2, h⟩ := gs_o1 h
    refine gs_callVi (pc := 73) C [] dX8_gather_73 ml_X8_65 wy_X9_hours (a_X9_hours _ e2) (by decide) sh_3 (by decide) rfl rfl (Nat.le_of_ble_eq_true rfl) rfl ?_
    refine gs_icmp_ge (pc := 76) C 111 dX8_gather_76 rfl (fun c3 => ?_) (fun c3 => ?_)
    · replace h := gs_ift c3 h
      obtain ⟨rfl, rfl⟩ := gs_i2 h
      exact k
    · replace h := gs_iff c3 h
      refine gs_aload_n (pc := 79) C 0 dX8_gather_79 rfl rfl ?_
      refine gs_getq (pc := 80) C dX8_gather_80 gk_8 fl_X8_24 sh_140 rfl ?_
      refine gs_aload_n (pc := 83) C 0 dX8_gather_83 rfl rfl ?_
      refine gs_geti (pc := 84) C dX8_gather_84 gk_8 fl_X8_51 sh_140 rfl ?_
      refine gs_bipush (w := 9) (pc := 87) C dX8_gather_87 rfl ?_
      refine gs_imul (pc := 89) C dX8_gather_89 ?_
      refine gs_iload_n (pc := 90) C 3 dX8_gather_90 rfl rfl ?_
      refine gs_iadd (pc := 91) C dX8_gather_91 ?_
      refine gs_bipush (w := 10) (pc := 92) C dX8_gather_92 rfl ?_
      refine gs_aload_n (pc := 94) C 0 dX8_gather_94 rfl rfl ?_
      refine gs_getq (pc := 95) C dX8_gather_95 gk_8 fl_X8_39 sh_140 rfl ?_
      refine gs_iload_n (pc := 98) C 2 dX8_gather_98 rfl rfl ?_
      refine gs_iload_n (pc := 99) C 3 dX8_gather_99 rfl rfl ?_
      obtain ⟨v4, M5, e6, h⟩ := gs_o2 h
      refine gs_callVi (pc := 100) C [.int x2, .int x3] dX8_gather_100 ml_X8_68 wy_X4_wakesNow (a_X4_wakesNow _ e6) (by decide) sh_105 (by decide) rfl rfl (Nat.le_of_ble_eq_true rfl) rfl ?_
      refine gs_isub (pc := 103) C dX8_gather_103 ?_
      obtain ⟨M8, e7, h⟩ := gs_o1 h
      refine gs_iast (pc := 104) C dX8_gather_104 sh_145 e7 ?_
      refine gs_iinc (v := x3 + (1 : Int32)) (ls' := [(3, .int (x3 + (1 : Int32))), (0, .ref 140), (1, .int x1), (2, .int x2)]) (pc := 105) C 3 dX8_gather_105 rfl rfl (by decide) rfl ?_
      refine gs_goto (pc := 108) C 68 dX8_gather_108 rfl ?_
      exact gs_sub [1, 2, 3, 0] rfl (ih _ _ h)
set_option maxRecDepth 100000 in
set_option maxHeartbeats 4000000 in
theorem t_X8_gather_9 {X : gs_X} (C : gs_C X RX8 cX8_gather 4 (some .int) 5) {L : gs_L} {o1 : Int32} {o2 : Int32} {M' : gs_M} (k : gs_AW X 136 [(0, .ref 140), (1, .int o1), (2, .int o2)] [] M' L) : ∀ (f : Nat) (x1 : Int32) (x2 : Int32) (M : gs_M), l_X8_gather_9  f x1 x2 M = some (o1, o2, M') → gs_AW X 9 [(0, .ref 140), (1, .int x1), (2, .int x2)] [] M L := by
  intro f
  induction f with
  | zero =>
    intro x1 x2 M h
    cases h
  | succ f ih =>
    intro x1 x2 M h
    rw [l_X8_gather_9] at h
    refine gs_iload_n (pc := 9) C 2 dX8_gather_9 rfl rfl ?_
    refine gs_aload_n (pc := 10) C 0 dX8_gather_10 rfl rfl ?_
    refine gs_getq (pc := 11) C dX8_gather_11 gk_8 fl_X8_31 sh_140 rfl ?_
    obtain ⟨v1, e2, h⟩ := gs_o1 h
    refine gs_callVi (pc := 14) C [] dX8_gather_14 ml_X8_54 wy_X9_crowd (a_X9_crowd _ e2) (by decide) sh_3 (by decide) rfl rfl (Nat.le_of_ble_eq_true rfl) rfl ?_
    refine gs_icmp_ge (pc := 17) C 136 dX8_gather_17 rfl (fun c3 => ?_) (fun c3 => ?_)
    · replace h := gs_ift c3 h
      obtain ⟨rfl, rfl, rfl⟩ := gs_i3 h
      exact k
    · replace h := gs_iff c3 h
      refine gs_aload_n (pc := 20) C 0 dX8_gather_20 rfl rfl ?_
      refine gs_getq (pc := 21) C dX8_gather_21 gk_8 fl_X8_35 sh_140 rfl ?_
      refine gs_iload_n (pc := 24) C 2 dX8_gather_24 rfl rfl ?_
      refine gs_iconst (w := 5) (pc := 25) C dX8_gather_25 rfl ?_
      obtain ⟨v4, e5, h⟩ := gs_o1 h
      refine gs_callVi (pc := 26) C [.int x2, .int (5 : Int32)] dX8_gather_26 ml_X8_61 wy_X6_of (a_X6_of _ e5) (by decide) sh_9 (by decide) rfl rfl (Nat.le_of_ble_eq_true rfl) rfl ?_
      obtain ⟨y6, M7, e8, h⟩ := gs_o2 h
      have j9 : gs_AW X 130 [(0, .ref 140), (1, .int y6), (2, .int x2)] [] M7 L := by
        refine gs_iinc (v := x2 + (1 : Int32)) (ls' := [(2, .int (x2 + (1 : Int32))), (0, .ref 140), (1, .int y6)]) (pc := 130) C 2 dX8_gather_130 rfl rfl (by decide) rfl ?_
        refine gs_goto (pc := 133) C 9 dX8_gather_133 rfl ?_
        exact gs_sub [1, 2, 0] rfl (ih _ _ _ h)
      refine gs_if_ne (pc := 29) C 130 dX8_gather_29 rfl (fun c10 => ?_) (fun c10 => ?_)
      · replace e8 := gs_iff c10 e8
        obtain ⟨rfl, rfl⟩ := gs_i2 e8
        exact j9
      · replace e8 := gs_ift c10 e8
        refine gs_iload_n (pc := 32) C 1 dX8_gather_32 rfl rfl ?_
        refine gs_aload_n (pc := 33) C 0 dX8_gather_33 rfl rfl ?_
        refine gs_geti (pc := 34) C dX8_gather_34 gk_8 fl_X8_27 sh_140 rfl ?_
        refine gs_iconst (w := 1) (pc := 37) C dX8_gather_37 rfl ?_
        refine gs_iadd (pc := 38) C dX8_gather_38 ?_
        refine gs_imul (pc := 39) C dX8_gather_39 ?_
        refine gs_sipush (w := 6561) (pc := 40) C dX8_gather_40 rfl ?_
        refine gs_icmp_gt (pc := 43) C 130 dX8_gather_43 rfl (fun c11 => ?_) (fun c11 => ?_)
        · replace e8 := gs_ift c11 e8
          obtain ⟨rfl, rfl⟩ := gs_i2 e8
          exact j9
        · replace e8 := gs_iff c11 e8
          refine gs_aload_n (pc := 46) C 0 dX8_gather_46 rfl rfl ?_
          refine gs_getq (pc := 47) C dX8_gather_47 gk_8 fl_X8_18 sh_140 rfl ?_
          refine gs_aload_n (pc := 50) C 0 dX8_gather_50 rfl rfl ?_
          refine gs_geti (pc := 51) C dX8_gather_51 gk_8 fl_X8_51 sh_140 rfl ?_
          refine gs_iload_n (pc := 54) C 2 dX8_gather_54 rfl rfl ?_
          obtain ⟨M13, e12, e8⟩ := gs_o1 e8
          refine gs_iast (pc := 55) C dX8_gather_55 sh_143 e12 ?_
          refine gs_aload_n (pc := 56) C 0 dX8_gather_56 rfl rfl ?_
          refine gs_getq (pc := 57) C dX8_gather_57 gk_8 fl_X8_15 sh_140 rfl ?_
          refine gs_aload_n (pc := 60) C 0 dX8_gather_60 rfl rfl ?_
          refine gs_geti (pc := 61) C dX8_gather_61 gk_8 fl_X8_51 sh_140 rfl ?_
          refine gs_iload_n (pc := 64) C 1 dX8_gather_64 rfl rfl ?_
          obtain ⟨M15, e14, e8⟩ := gs_o1 e8
          refine gs_iast (pc := 65) C dX8_gather_65 sh_142 e14 ?_
          refine gs_iconst (w := 0) (pc := 66) C dX8_gather_66 rfl ?_
          refine gs_istore_n (ls' := [(3, .int (0 : Int32)), (0, .ref 140), (1, .int x1), (2, .int x2)]) (pc := 67) C dX8_gather_67 rfl (by decide) rfl ?_
          obtain ⟨y16, M17, e18, e8⟩ := gs_o2 e8
          refine gs_sub [1, 2, 3, 0] rfl (t_X8_gather_68 C ?_ gs_FU _ _ e18)
          refine gs_aload_n (pc := 111) C 0 dX8_gather_111 rfl rfl ?_
          refine gs_dup (pc := 112) C dX8_gather_112 rfl ?_
          refine gs_geti (pc := 113) C dX8_gather_113 gk_8 fl_X8_51 sh_140 rfl ?_
          refine gs_iconst (w := 1) (pc := 116) C dX8_gather_116 rfl ?_
          refine gs_iadd (pc := 117) C dX8_gather_117 ?_
          obtain ⟨M20, e19, e8⟩ := gs_o1 e8
          refine gs_puti' (pc := 118) C dX8_gather_118 gk_8 fp_X8_51 sh_140 rfl e19 ?_
          refine gs_iload_n (pc := 121) C 1 dX8_gather_121 rfl rfl ?_
          refine gs_aload_n (pc := 122) C 0 dX8_gather_122 rfl rfl ?_
          refine gs_geti (pc := 123) C dX8_gather_123 gk_8 fl_X8_27 sh_140 rfl ?_
          refine gs_iconst (w := 1) (pc := 126) C dX8_gather_126 rfl ?_
          refine gs_iadd (pc := 127) C dX8_gather_127 ?_
          refine gs_imul (pc := 128) C dX8_gather_128 ?_
          refine gs_istore_n (ls' := [(1, .int (x1 * ((M20 140 9) + (1 : Int32)))), (0, .ref 140), (2, .int x2), (3, .int y16)]) (pc := 129) C dX8_gather_129 rfl (by decide) rfl ?_
          obtain ⟨rfl, rfl⟩ := gs_i2 e8
          exact gs_sub [1, 0, 2] rfl (j9)
set_option maxRecDepth 100000 in
set_option maxHeartbeats 4000000 in
theorem a_X8_gather (l : Launch) {M : gs_M} {L : gs_L} {rv : Int32} {Mz : gs_M} (h : f_X8_gather M = some (rv, Mz)) : gs_Met l 5 yX8_gather cX8_gather 4 (some .int) [.ref 140] M L (some (.int rv)) Mz L := by
  unfold f_X8_gather at h
  refine gs_of RX8 (by decide) rfl (Nat.le_of_ble_eq_true rfl) (fun X C E => ?_)
  show gs_AW X 0 [(0, .ref 140)] [] M L
  refine gs_iconst (w := 1) (pc := 0) C dX8_gather_0 rfl ?_
  refine gs_istore_n (ls' := [(1, .int (1 : Int32)), (0, .ref 140)]) (pc := 1) C dX8_gather_1 rfl (by decide) rfl ?_
  refine gs_aload_n (pc := 2) C 1 dX8_gather_2 rfl rfl ?_
  refine gs_iconst (w := 0) (pc := 3) C dX8_gather_3 rfl ?_
  obtain ⟨M2, e1, h⟩ := gs_o1 h
  refine gs_puti' (pc := 4) C dX8_gather_4 gk_8 fp_X8_51 sh_140 rfl e1 ?_
  refine gs_iconst (w := 0) (pc := 7) C dX8_gather_7 rfl ?_
  refine gs_istore_n (ls' := [(2, .int (0 : Int32)), (1, .int (1 : Int32)), (0, .ref 140)]) (pc := 8) C dX8_gather_8 rfl (by decide) rfl ?_
  obtain ⟨y3, y4, M5, e6, h⟩ := gs_o3 h
  refine gs_sub [2, 1, 0] rfl (t_X8_gather_9 C ?_ gs_FU _ _ _ e6)
  refine gs_iload_n (pc := 136) C 1 dX8_gather_136 rfl rfl ?_
  obtain ⟨rfl, rfl⟩ := gs_i2 h
  exact gs_iret (pc := 137) C dX8_gather_137 E
set_option maxRecDepth 100000 in
set_option maxHeartbeats 4000000 in
theorem t_X8_spread_7 {X : gs_X} (C : gs_C X RX8 cX8_spread 5 (some .int) 0) {L : gs_L} {x1 : Int32} {o2 : Int32} {o3 : Int32} {o4 : Int32} {M' : gs_M} (k : gs_AW X 56 [(0, .ref 140), (1, .int x1), (2, .int o2), (3, .int o3), (4, .int o4)] [] M' L) : ∀ (f : Nat) (x2 : Int32) (x3 : Int32) (x4 : Int32) (M : gs_M), l_X8_spread_7 x1 f x2 x3 x4 M = some (o2, o3, o4, M') → gs_AW X 7 [(0, .ref 140), (1, .int x1), (2, .int x2), (3, .int x3), (4, .int x4)] [] M L := by
  intro f
  induction f with
  | zero =>
    intro x2 x3 x4 M h
    cases h
  | succ f ih =>
    intro x2 x3 x4 M h
    rw [l_X8_spread_7] at h
    refine gs_iload (pc := 7) C 4 dX8_spread_7 rfl ?_
    refine gs_aload_n (pc := 9) C 0 dX8_spread_9 rfl rfl ?_
    refine gs_geti (pc := 10) C dX8_spread_10 gk_8 fl_X8_51 sh_140 rfl ?_
    refine gs_icmp_ge (pc := 13) C 56 dX8_spread_13 rfl (fun c1 => ?_) (fun c1 => ?_)
    · replace h := gs_ift c1 h
      obtain ⟨rfl, rfl, rfl, rfl⟩ := gs_i4 h
      exact k
    · replace h := gs_iff c1 h
      refine gs_aload_n (pc := 16) C 0 dX8_spread_16 rfl rfl ?_
      refine gs_getq (pc := 17) C dX8_spread_17 gk_8 fl_X8_21 sh_140 rfl ?_
      refine gs_iload (pc := 20) C 4 dX8_spread_20 rfl ?_
      refine gs_iload_n (pc := 22) C 2 dX8_spread_22 rfl rfl ?_
      refine gs_aload_n (pc := 23) C 0 dX8_spread_23 rfl rfl ?_
      refine gs_geti (pc := 24) C dX8_spread_24 gk_8 fl_X8_27 sh_140 rfl ?_
      refine gs_iconst (w := 1) (pc := 27) C dX8_spread_27 rfl ?_
      refine gs_iadd (pc := 28) C dX8_spread_28 ?_
      obtain ⟨v2, e3, h⟩ := gs_o1 h
      refine gs_irem' (pc := 29) C dX8_spread_29 e3 ?_
      obtain ⟨M5, e4, h⟩ := gs_o1 h
      refine gs_iast (pc := 30) C dX8_spread_30 sh_144 e4 ?_
      refine gs_iload_n (pc := 31) C 2 dX8_spread_31 rfl rfl ?_
      refine gs_aload_n (pc := 32) C 0 dX8_spread_32 rfl rfl ?_
      refine gs_geti (pc := 33) C dX8_spread_33 gk_8 fl_X8_27 sh_140 rfl ?_
      refine gs_iconst (w := 1) (pc := 36) C dX8_spread_36 rfl ?_
      refine gs_iadd (pc := 37) C dX8_spread_37 ?_
      obtain ⟨v6, e7, h⟩ := gs_o1 h
      refine gs_idiv' (pc := 38) C dX8_spread_38 e7 ?_
      refine gs_istore_n (ls' := [(2, .int v6), (0, .ref 140), (1, .int x1), (3, .int x3), (4, .int x4)]) (pc := 39) C dX8_spread_39 rfl (by decide) rfl ?_
      refine gs_iload_n (pc := 40) C 3 dX8_spread_40 rfl rfl ?_
      refine gs_aload_n (pc := 41) C 1 dX8_spread_41 rfl rfl ?_
      refine gs_getq (pc := 42) C dX8_spread_42 gk_8 fl_X8_21 sh_140 rfl ?_
      refine gs_iload (pc := 45) C 4 dX8_spread_45 rfl ?_
      obtain ⟨v8, e9, h⟩ := gs_o1 h
      refine gs_iald (pc := 47) C dX8_spread_47 sh_144 e9 ?_
      refine gs_iadd (pc := 48) C dX8_spread_48 ?_
      refine gs_istore_n (ls' := [(3, .int (x3 + v8)), (2, .int v6), (0, .ref 140), (1, .int x1), (4, .int x4)]) (pc := 49) C dX8_spread_49 rfl (by decide) rfl ?_
      refine gs_iinc (v := x4 + (1 : Int32)) (ls' := [(4, .int (x4 + (1 : Int32))), (3, .int (x3 + v8)), (2, .int v6), (0, .ref 140), (1, .int x1)]) (pc := 50) C 4 dX8_spread_50 rfl rfl (by decide) rfl ?_
      refine gs_goto (pc := 53) C 7 dX8_spread_53 rfl ?_
      exact gs_sub [3, 4, 2, 1, 0] rfl (ih _ _ _ _ h)
set_option maxRecDepth 100000 in
set_option maxHeartbeats 4000000 in
theorem a_X8_spread (l : Launch) {M : gs_M} {L : gs_L} {x1 : Int32} {rv : Int32} {Mz : gs_M} (h : f_X8_spread M x1 = some (rv, Mz)) : gs_Met l 0 yX8_spread cX8_spread 5 (some .int) [.ref 140, .int x1] M L (some (.int rv)) Mz L := by
  unfold f_X8_spread at h
  refine gs_of RX8 (by decide) rfl (Nat.le_of_ble_eq_true rfl) (fun X C E => ?_)
  show gs_AW X 0 [(0, .ref 140), (1, .int x1)] [] M L
  refine gs_iload_n (pc := 0) C 1 dX8_spread_0 rfl rfl ?_
  refine gs_istore_n (ls' := [(2, .int x1), (0, .ref 140), (1, .int x1)]) (pc := 1) C dX8_spread_1 rfl (by decide) rfl ?_
  refine gs_iconst (w := 0) (pc := 2) C dX8_spread_2 rfl ?_
  refine gs_istore_n (ls' := [(3, .int (0 : Int32)), (2, .int x1), (0, .ref 140), (1, .int x1)]) (pc := 3) C dX8_spread_3 rfl (by decide) rfl ?_
  refine gs_iconst (w := 0) (pc := 4) C dX8_spread_4 rfl ?_
  refine gs_istore (ls' := [(4, .int (0 : Int32)), (3, .int (0 : Int32)), (2, .int x1), (0, .ref 140), (1, .int x1)]) (pc := 5) C dX8_spread_5 (by decide) rfl ?_
  obtain ⟨y1, y2, y3, M4, e5, h⟩ := gs_o4 h
  refine gs_sub [3, 4, 2, 1, 0] rfl (t_X8_spread_7 C ?_ gs_FU _ _ _ _ e5)
  refine gs_iload_n (pc := 56) C 3 dX8_spread_56 rfl rfl ?_
  obtain ⟨rfl, rfl⟩ := gs_i2 h
  exact gs_iret (pc := 57) C dX8_spread_57 E
set_option maxRecDepth 100000 in
set_option maxHeartbeats 4000000 in
theorem a_X8_gainBy (l : Launch) {M : gs_M} {L : gs_L} {x1 : Int32} {x2 : Int32} {x3 : Int32} {rv : Int32} (h : f_X8_gainBy M x1 x2 x3 = some (rv)) : gs_Met l 0 yX8_gainBy cX8_gainBy 4 (some .int) [.ref 140, .int x1, .int x2, .int x3] M L (some (.int rv)) M L := by
  unfold f_X8_gainBy at h
  refine gs_of RX8 (by decide) rfl (Nat.le_of_ble_eq_true rfl) (fun X C E => ?_)
  show gs_AW X 0 [(0, .ref 140), (1, .int x1), (2, .int x2), (3, .int x3)] [] M L
  refine gs_aload_n (pc := 0) C 0 dX8_gainBy_0 rfl rfl ?_
  refine gs_getq (pc := 1) C dX8_gainBy_1 gk_8 fl_X8_21 sh_140 rfl ?_
  refine gs_iload_n (pc := 4) C 2 dX8_gainBy_4 rfl rfl ?_
  obtain ⟨v1, e2, h⟩ := gs_o1 h
  refine gs_iald (pc := 5) C dX8_gainBy_5 sh_144 e2 ?_
  refine gs_aload_n (pc := 6) C 0 dX8_gainBy_6 rfl rfl ?_
  refine gs_geti (pc := 7) C dX8_gainBy_7 gk_8 fl_X8_27 sh_140 rfl ?_
  refine gs_icmp_ge (pc := 10) C 30 dX8_gainBy_10 rfl (fun c3 => ?_) (fun c3 => ?_)
  · replace h := gs_ift c3 h
    refine gs_iconst (w := (-1)) (pc := 30) C dX8_gainBy_30 rfl ?_
    obtain rfl := gs_i1 h
    exact gs_iret (pc := 31) C dX8_gainBy_31 E
  · replace h := gs_iff c3 h
    refine gs_aload_n (pc := 13) C 0 dX8_gainBy_13 rfl rfl ?_
    refine gs_getq (pc := 14) C dX8_gainBy_14 gk_8 fl_X8_11 sh_140 rfl ?_
    refine gs_iload_n (pc := 17) C 1 dX8_gainBy_17 rfl rfl ?_
    refine gs_aload_n (pc := 18) C 0 dX8_gainBy_18 rfl rfl ?_
    refine gs_getq (pc := 19) C dX8_gainBy_19 gk_8 fl_X8_15 sh_140 rfl ?_
    refine gs_iload_n (pc := 22) C 2 dX8_gainBy_22 rfl rfl ?_
    obtain ⟨v4, e5, h⟩ := gs_o1 h
    refine gs_iald (pc := 23) C dX8_gainBy_23 sh_142 e5 ?_
    refine gs_iadd (pc := 24) C dX8_gainBy_24 ?_
    obtain ⟨v6, e7, h⟩ := gs_o1 h
    refine gs_iald (pc := 25) C dX8_gainBy_25 sh_141 e7 ?_
    refine gs_iconst (w := (-1)) (pc := 26) C dX8_gainBy_26 rfl ?_
    refine gs_icmp_ne (pc := 27) C 32 dX8_gainBy_27 rfl (fun c8 => ?_) (fun c8 => ?_)
    · replace h := gs_iff c8 h
      refine gs_aload_n (pc := 32) C 0 dX8_gainBy_32 rfl rfl ?_
      refine gs_getq (pc := 33) C dX8_gainBy_33 gk_8 fl_X8_24 sh_140 rfl ?_
      refine gs_iload_n (pc := 36) C 2 dX8_gainBy_36 rfl rfl ?_
      refine gs_bipush (w := 9) (pc := 37) C dX8_gainBy_37 rfl ?_
      refine gs_imul (pc := 39) C dX8_gainBy_39 ?_
      refine gs_iload_n (pc := 40) C 3 dX8_gainBy_40 rfl rfl ?_
      refine gs_iadd (pc := 41) C dX8_gainBy_41 ?_
      obtain ⟨v9, e10, h⟩ := gs_o1 h
      refine gs_iald (pc := 42) C dX8_gainBy_42 sh_145 e10 ?_
      refine gs_aload_n (pc := 43) C 0 dX8_gainBy_43 rfl rfl ?_
      refine gs_getq (pc := 44) C dX8_gainBy_44 gk_8 fl_X8_11 sh_140 rfl ?_
      refine gs_iload_n (pc := 47) C 1 dX8_gainBy_47 rfl rfl ?_
      refine gs_aload_n (pc := 48) C 0 dX8_gainBy_48 rfl rfl ?_
      refine gs_getq (pc := 49) C dX8_gainBy_49 gk_8 fl_X8_15 sh_140 rfl ?_
      refine gs_iload_n (pc := 52) C 2 dX8_gainBy_52 rfl rfl ?_
      obtain ⟨v11, e12, h⟩ := gs_o1 h
      refine gs_iald (pc := 53) C dX8_gainBy_53 sh_142 e12 ?_
      refine gs_iadd (pc := 54) C dX8_gainBy_54 ?_
      obtain ⟨v13, e14, h⟩ := gs_o1 h
      refine gs_iald (pc := 55) C dX8_gainBy_55 sh_141 e14 ?_
      refine gs_iadd (pc := 56) C dX8_gainBy_56 ?_
      obtain rfl := gs_i1 h
      exact gs_iret (pc := 57) C dX8_gainBy_57 E
    · replace h := gs_ift c8 h
      refine gs_iconst (w := (-1)) (pc := 30) C dX8_gainBy_30 rfl ?_
      obtain rfl := gs_i1 h
      exact gs_iret (pc := 31) C dX8_gainBy_31 E
set_option maxRecDepth 100000 in
set_option maxHeartbeats 4000000 in
theorem t_X8_bestFrom_39 {X : gs_X} (C : gs_C X RX8 cX8_bestFrom 5 (some .int) 1) {M : gs_M} {L : gs_L} {x1 : Int32} {x2 : Int32} {o3 : Int32} {o4 : Int32} (k : gs_AW X 67 [(0, .ref 140), (1, .int x1), (2, .int x2), (3, .int o3), (4, .int o4)] [] M L) : ∀ (f : Nat) (x3 : Int32) (x4 : Int32), l_X8_bestFrom_39 M x1 x2 f x3 x4 = some (o3, o4) → gs_AW X 39 [(0, .ref 140), (1, .int x1), (2, .int x2), (3, .int x3), (4, .int x4)] [] M L := by
  intro f
  induction f with
  | zero =>
    intro x3 x4 h
    cases h
  | succ f ih =>
    intro x3 x4 h
    rw [l_X8_bestFrom_39] at h
    refine gs_iload (pc := 39) C 4 dX8_bestFrom_39 rfl ?_
    refine gs_aload_n (pc := 41) C 0 dX8_bestFrom_41 rfl rfl ?_
    refine gs_geti (pc := 42) C dX8_bestFrom_42 gk_8 fl_X8_51 sh_140 rfl ?_
    refine gs_icmp_ge (pc := 45) C 67 dX8_bestFrom_45 rfl (fun c1 => ?_) (fun c1 => ?_)
    · replace h := gs_ift c1 h
      obtain ⟨rfl, rfl⟩ := gs_i2 h
      exact k
    · replace h := gs_iff c1 h
      refine gs_iload_n (pc := 48) C 3 dX8_bestFrom_48 rfl rfl ?_
      refine gs_aload_n (pc := 49) C 0 dX8_bestFrom_49 rfl rfl ?_
      refine gs_iload_n (pc := 50) C 1 dX8_bestFrom_50 rfl rfl ?_
      refine gs_iload (pc := 51) C 4 dX8_bestFrom_51 rfl ?_
      refine gs_iload_n (pc := 53) C 2 dX8_bestFrom_53 rfl rfl ?_
      obtain ⟨v2, e3, h⟩ := gs_o1 h
      refine gs_callVi (pc := 54) C [.int x1, .int x4, .int x2] dX8_bestFrom_54 ml_X8_76 wy_X8_gainBy (a_X8_gainBy _ e3) (by decide) sh_140 (by decide) rfl rfl (Nat.le_of_ble_eq_true rfl) rfl ?_
      refine gs_mmax (pc := 57) C dX8_bestFrom_57 ml_X8_80 (Nat.le_of_ble_eq_true rfl) ?_
      refine gs_istore_n (ls' := [(3, .int (if x3 < v2 then v2 else x3 : Int32)), (0, .ref 140), (1, .int x1), (2, .int x2), (4, .int x4)]) (pc := 60) C dX8_bestFrom_60 rfl (by decide) rfl ?_
      refine gs_iinc (v := x4 + (1 : Int32)) (ls' := [(4, .int (x4 + (1 : Int32))), (3, .int (if x3 < v2 then v2 else x3 : Int32)), (0, .ref 140), (1, .int x1), (2, .int x2)]) (pc := 61) C 4 dX8_bestFrom_61 rfl rfl (by decide) rfl ?_
      refine gs_goto (pc := 64) C 39 dX8_bestFrom_64 rfl ?_
      exact gs_sub [2, 3, 4, 1, 0] rfl (ih _ _ h)
set_option maxRecDepth 100000 in
set_option maxHeartbeats 4000000 in
theorem a_X8_bestFrom (l : Launch) {M : gs_M} {L : gs_L} {x1 : Int32} {rv : Int32} {Mz : gs_M} (h : f_X8_bestFrom M x1 = some (rv, Mz)) : gs_Met l 1 yX8_bestFrom cX8_bestFrom 5 (some .int) [.ref 140, .int x1] M L (some (.int rv)) Mz L := by
  unfold f_X8_bestFrom at h
  refine gs_of RX8 (by decide) rfl (Nat.le_of_ble_eq_true rfl) (fun X C E => ?_)
  show gs_AW X 0 [(0, .ref 140), (1, .int x1)] [] M L
  refine gs_aload_n (pc := 0) C 0 dX8_bestFrom_0 rfl rfl ?_
  refine gs_iload_n (pc := 1) C 1 dX8_bestFrom_1 rfl rfl ?_
  obtain ⟨v1, M2, e3, h⟩ := gs_o2 h
  refine gs_callVi (pc := 2) C [.int x1] dX8_bestFrom_2 ml_X8_73 wy_X8_spread (a_X8_spread _ e3) (by decide) sh_140 (by decide) rfl rfl (Nat.le_of_ble_eq_true rfl) rfl ?_
  refine gs_istore_n (ls' := [(2, .int v1), (0, .ref 140), (1, .int x1)]) (pc := 5) C dX8_bestFrom_5 rfl (by decide) rfl ?_
  refine gs_iload_n (pc := 6) C 0 dX8_bestFrom_6 rfl rfl ?_
  refine gs_aload_n (pc := 7) C 1 dX8_bestFrom_7 rfl rfl ?_
  refine gs_getq (pc := 8) C dX8_bestFrom_8 gk_8 fl_X8_31 sh_140 rfl ?_
  obtain ⟨v4, e5, h⟩ := gs_o1 h
  refine gs_callVi (pc := 11) C [] dX8_bestFrom_11 ml_X8_65 wy_X9_hours (a_X9_hours _ e5) (by decide) sh_3 (by decide) rfl rfl (Nat.le_of_ble_eq_true rfl) rfl ?_
  refine gs_icmp_lt (pc := 14) C 34 dX8_bestFrom_14 rfl (fun c6 => ?_) (fun c6 => ?_)
  · replace h := gs_ift c6 h
    refine gs_iconst (w := (-1)) (pc := 34) C dX8_bestFrom_34 rfl ?_
    refine gs_istore_n (ls' := [(3, .int (-1 : Int32)), (2, .int v1), (0, .ref 140), (1, .int x1)]) (pc := 35) C dX8_bestFrom_35 rfl (by decide) rfl ?_
    refine gs_iconst (w := 0) (pc := 36) C dX8_bestFrom_36 rfl ?_
    refine gs_istore (ls' := [(4, .int (0 : Int32)), (3, .int (-1 : Int32)), (2, .int v1), (0, .ref 140), (1, .int x1)]) (pc := 37) C dX8_bestFrom_37 (by decide) rfl ?_
    obtain ⟨y7, y8, e9, h⟩ := gs_o2 h
    refine gs_sub [3, 4, 2, 1, 0] rfl (t_X8_bestFrom_39 C ?_ gs_FU _ _ e9)
    refine gs_iload_n (pc := 67) C 3 dX8_bestFrom_67 rfl rfl ?_
    obtain ⟨rfl, rfl⟩ := gs_i2 h
    exact gs_iret (pc := 68) C dX8_bestFrom_68 E
  · replace h := gs_iff c6 h
    refine gs_iload_n (pc := 17) C 0 dX8_bestFrom_17 rfl rfl ?_
    refine gs_aload_n (pc := 18) C 1 dX8_bestFrom_18 rfl rfl ?_
    refine gs_getq (pc := 19) C dX8_bestFrom_19 gk_8 fl_X8_31 sh_140 rfl ?_
    obtain ⟨v10, e11, h⟩ := gs_o1 h
    refine gs_callVi (pc := 22) C [] dX8_bestFrom_22 ml_X8_65 wy_X9_hours (a_X9_hours _ e11) (by decide) sh_3 (by decide) rfl rfl (Nat.le_of_ble_eq_true rfl) rfl ?_
    have j12 : gs_AW X 33 [(0, .ref 140), (1, .int x1), (2, .int v1)] [.int (if v1 = v10 then (0 : Int32) else (-1 : Int32) : Int32)] M2 L := by
      obtain ⟨rfl, rfl⟩ := gs_i2 h
      exact gs_iret (pc := 33) C dX8_bestFrom_33 E
    refine gs_icmp_ne (pc := 25) C 32 dX8_bestFrom_25 rfl (fun c13 => ?_) (fun c13 => ?_)
    · refine gs_iconst (w := (-1)) (pc := 32) C dX8_bestFrom_32 rfl ?_
      simp only [if_neg c13] at j12
      exact gs_sub [1, 2, 0] rfl (j12)
    · refine gs_iconst (w := 0) (pc := 28) C dX8_bestFrom_28 rfl ?_
      refine gs_goto (pc := 29) C 33 dX8_bestFrom_29 rfl ?_
      simp only [if_pos c13] at j12
      exact gs_sub [1, 2, 0] rfl (j12)
set_option maxRecDepth 100000 in
set_option maxHeartbeats 4000000 in
theorem t_X8_fill_14 {X : gs_X} (C : gs_C X RX8 cX8_fill 4 (some .int) 6) {L : gs_L} {x1 : Int32} {x2 : Int32} {o3 : Int32} {M' : gs_M} (k : gs_AW X 35 [(0, .ref 140), (1, .int x1), (2, .int x2), (3, .int o3)] [] M' L) : ∀ (f : Nat) (x3 : Int32) (M : gs_M), l_X8_fill_14 x1 x2 f x3 M = some (o3, M') → gs_AW X 14 [(0, .ref 140), (1, .int x1), (2, .int x2), (3, .int x3)] [] M L := by
  intro f
  induction f with
  | zero =>
    intro x3 M h
    cases h
  | succ f ih =>
    intro x3 M h
    rw [l_X8_fill_14] at h
    refine gs_iload_n (pc := 14) C 3 dX8_fill_14 rfl rfl ?_
    refine gs_if_lt (pc := 15) C 35 dX8_fill_15 rfl (fun c1 => ?_) (fun c1 => ?_)
    · replace h := gs_ift c1 h
      obtain ⟨rfl, rfl⟩ := gs_i2 h
      exact k
    · replace h := gs_iff c1 h
      refine gs_aload_n (pc := 18) C 0 dX8_fill_18 rfl rfl ?_
      refine gs_getq (pc := 19) C dX8_fill_19 gk_8 fl_X8_11 sh_140 rfl ?_
      refine gs_iload_n (pc := 22) C 3 dX8_fill_22 rfl rfl ?_
      refine gs_aload_n (pc := 23) C 0 dX8_fill_23 rfl rfl ?_
      refine gs_iload_n (pc := 24) C 3 dX8_fill_24 rfl rfl ?_
      obtain ⟨v2, M3, e4, h⟩ := gs_o2 h
      refine gs_callVi (pc := 25) C [.int x3] dX8_fill_25 ml_X8_47 wy_X8_bestFrom (a_X8_bestFrom _ e4) (by decide) sh_140 (by decide) rfl rfl (Nat.le_of_ble_eq_true rfl) rfl ?_
      obtain ⟨M6, e5, h⟩ := gs_o1 h
      refine gs_iast (pc := 28) C dX8_fill_28 sh_141 e5 ?_
      refine gs_iinc (v := x3 + (-1 : Int32)) (ls' := [(3, .int (x3 + (-1 : Int32))), (0, .ref 140), (1, .int x1), (2, .int x2)]) (pc := 29) C 3 dX8_fill_29 rfl rfl (by decide) rfl ?_
      refine gs_goto (pc := 32) C 14 dX8_fill_32 rfl ?_
      exact gs_sub [1, 2, 3, 0] rfl (ih _ _ h)
set_option maxRecDepth 100000 in
set_option maxHeartbeats 4000000 in
theorem a_X8_fill (l : Launch) {M : gs_M} {L : gs_L} {x1 : Int32} {rv : Int32} {Mz : gs_M} (h : f_X8_fill M x1 = some (rv, Mz)) : gs_Met l 6 yX8_fill cX8_fill 4 (some .int) [.ref 140, .int x1] M L (some (.int rv)) Mz L := by
  unfold f_X8_fill at h
  refine gs_of RX8 (by decide) rfl (Nat.le_of_ble_eq_true rfl) (fun X C E => ?_)
  show gs_AW X 0 [(0, .ref 140), (1, .int x1)] [] M L
  refine gs_aload_n (pc := 0) C 0 dX8_fill_0 rfl rfl ?_
  refine gs_iload_n (pc := 1) C 1 dX8_fill_1 rfl rfl ?_
  obtain ⟨M2, e1, h⟩ := gs_o1 h
  refine gs_puti' (pc := 2) C dX8_fill_2 gk_8 fp_X8_27 sh_140 rfl e1 ?_
  refine gs_aload_n (pc := 5) C 0 dX8_fill_5 rfl rfl ?_
  obtain ⟨v3, M4, e5, h⟩ := gs_o2 h
  refine gs_callVi (pc := 6) C [] dX8_fill_6 ml_X8_43 wy_X8_gather (a_X8_gather _ e5) (by decide) sh_140 (by decide) rfl rfl (Nat.le_of_ble_eq_true rfl) rfl ?_
  refine gs_istore_n (ls' := [(2, .int v3), (0, .ref 140), (1, .int x1)]) (pc := 9) C dX8_fill_9 rfl (by decide) rfl ?_
  refine gs_iload_n (pc := 10) C 0 dX8_fill_10 rfl rfl ?_
  refine gs_iconst (w := 1) (pc := 11) C dX8_fill_11 rfl ?_
  refine gs_isub (pc := 12) C dX8_fill_12 ?_
  refine gs_istore_n (ls' := [(3, .int (v3 - (1 : Int32))), (2, .int v3), (0, .ref 140), (1, .int x1)]) (pc := 13) C dX8_fill_13 rfl (by decide) rfl ?_
  obtain ⟨y6, M7, e8, h⟩ := gs_o2 h
  refine gs_sub [2, 3, 1, 0] rfl (t_X8_fill_14 C ?_ gs_FU _ _ e8)
  refine gs_aload_n (pc := 35) C 0 dX8_fill_35 rfl rfl ?_
  refine gs_getq (pc := 36) C dX8_fill_36 gk_8 fl_X8_11 sh_140 rfl ?_
  refine gs_iconst (w := 0) (pc := 39) C dX8_fill_39 rfl ?_
  obtain ⟨v9, e10, h⟩ := gs_o1 h
  refine gs_iald (pc := 40) C dX8_fill_40 sh_141 e10 ?_
  obtain ⟨rfl, rfl⟩ := gs_i2 h
  exact gs_iret (pc := 41) C dX8_fill_41 E
set_option maxRecDepth 100000 in
set_option maxHeartbeats 4000000 in
theorem t_X8_leastRow_26 {X : gs_X} (C : gs_C X RX8 cX8_leastRow 5 (some .int) 1) {M : gs_M} {L : gs_L} {x1 : Int32} {x2 : Int32} {x3 : Int32} {o4 : Int32} (k : gs_AW X 60 [(0, .ref 140), (1, .int x1), (2, .int x2), (3, .int x3), (4, .int o4)] [] M L) : ∀ (f : Nat) (x4 : Int32), l_X8_leastRow_26 M x1 x2 x3 f x4 = some (o4) → gs_AW X 26 [(0, .ref 140), (1, .int x1), (2, .int x2), (3, .int x3), (4, .int x4)] [] M L := by
  intro f
  induction f with
  | zero =>
    intro x4 h
    cases h
  | succ f ih =>
    intro x4 h
    rw [l_X8_leastRow_26] at h
    refine gs_iload (pc := 26) C 4 dX8_leastRow_26 rfl ?_
    refine gs_aload_n (pc := 28) C 0 dX8_leastRow_28 rfl rfl ?_
    refine gs_geti (pc := 29) C dX8_leastRow_29 gk_8 fl_X8_51 sh_140 rfl ?_
    refine gs_iconst (w := 1) (pc := 32) C dX8_leastRow_32 rfl ?_
    refine gs_isub (pc := 33) C dX8_leastRow_33 ?_
    refine gs_icmp_ge (pc := 34) C 60 dX8_leastRow_34 rfl (fun c1 => ?_) (fun c1 => ?_)
    · replace h := gs_ift c1 h
      obtain rfl := gs_i1 h
      exact k
    · replace h := gs_iff c1 h
      refine gs_aload_n (pc := 37) C 0 dX8_leastRow_37 rfl rfl ?_
      refine gs_iload_n (pc := 38) C 1 dX8_leastRow_38 rfl rfl ?_
      refine gs_iload (pc := 39) C 4 dX8_leastRow_39 rfl ?_
      refine gs_iload_n (pc := 41) C 3 dX8_leastRow_41 rfl rfl ?_
      obtain ⟨v2, e3, h⟩ := gs_o1 h
      refine gs_callVi (pc := 42) C [.int x1, .int x4, .int x3] dX8_leastRow_42 ml_X8_76 wy_X8_gainBy (a_X8_gainBy _ e3) (by decide) sh_140 (by decide) rfl rfl (Nat.le_of_ble_eq_true rfl) rfl ?_
      refine gs_aload_n (pc := 45) C 0 dX8_leastRow_45 rfl rfl ?_
      refine gs_getq (pc := 46) C dX8_leastRow_46 gk_8 fl_X8_11 sh_140 rfl ?_
      refine gs_iload_n (pc := 49) C 1 dX8_leastRow_49 rfl rfl ?_
      obtain ⟨v4, e5, h⟩ := gs_o1 h
      refine gs_iald (pc := 50) C dX8_leastRow_50 sh_141 e5 ?_
      refine gs_icmp_eq (pc := 51) C 60 dX8_leastRow_51 rfl (fun c6 => ?_) (fun c6 => ?_)
      · replace h := gs_ift c6 h
        obtain rfl := gs_i1 h
        exact k
      · replace h := gs_iff c6 h
        refine gs_iinc (v := x4 + (1 : Int32)) (ls' := [(4, .int (x4 + (1 : Int32))), (0, .ref 140), (1, .int x1), (2, .int x2), (3, .int x3)]) (pc := 54) C 4 dX8_leastRow_54 rfl rfl (by decide) rfl ?_
        refine gs_goto (pc := 57) C 26 dX8_leastRow_57 rfl ?_
        exact gs_sub [1, 2, 3, 4, 0] rfl (ih _ h)
set_option maxRecDepth 100000 in
set_option maxHeartbeats 4000000 in
theorem t_X8_leastRow_6 {X : gs_X} (C : gs_C X RX8 cX8_leastRow 5 (some .int) 1) {L : gs_L} {o1 : Int32} {o2 : Int32} {o3 : Int32} {M' : gs_M} (k : gs_AW X 89 [(0, .ref 140), (1, .int o1), (2, .int o2), (3, .int o3)] [] M' L) : ∀ (f : Nat) (x1 : Int32) (x2 : Int32) (x3 : Int32) (M : gs_M), l_X8_leastRow_6  f x1 x2 x3 M = some (o1, o2, o3, M') → gs_AW X 6 [(0, .ref 140), (1, .int x1), (2, .int x2), (3, .int x3)] [] M L := by
  intro f
  induction f with
  | zero =>
    intro x1 x2 x3 M h
    cases h
  | succ f ih =>
    intro x1 x2 x3 M h
    rw [l_X8_leastRow_6] at h
    refine gs_iload_n (pc := 6) C 3 dX8_leastRow_6 rfl rfl ?_
    refine gs_aload_n (pc := 7) C 0 dX8_leastRow_7 rfl rfl ?_
    refine gs_getq (pc := 8) C dX8_leastRow_8 gk_8 fl_X8_31 sh_140 rfl ?_
    obtain ⟨v1, e2, h⟩ := gs_o1 h
    refine gs_callVi (pc := 11) C [] dX8_leastRow_11 ml_X8_65 wy_X9_hours (a_X9_hours _ e2) (by decide) sh_3 (by decide) rfl rfl (Nat.le_of_ble_eq_true rfl) rfl ?_
    refine gs_icmp_ge (pc := 14) C 89 dX8_leastRow_14 rfl (fun c3 => ?_) (fun c3 => ?_)
    · replace h := gs_ift c3 h
      obtain ⟨rfl, rfl, rfl, rfl⟩ := gs_i4 h
      exact k
    · replace h := gs_iff c3 h
      refine gs_aload_n (pc := 17) C 0 dX8_leastRow_17 rfl rfl ?_
      refine gs_iload_n (pc := 18) C 1 dX8_leastRow_18 rfl rfl ?_
      obtain ⟨v4, M5, e6, h⟩ := gs_o2 h
      refine gs_callVi (pc := 19) C [.int x1] dX8_leastRow_19 ml_X8_73 wy_X8_spread (a_X8_spread _ e6) (by decide) sh_140 (by decide) rfl rfl (Nat.le_of_ble_eq_true rfl) rfl ?_
      refine gs_pop (pc := 22) C dX8_leastRow_22 rfl ?_
      refine gs_iconst (w := 0) (pc := 23) C dX8_leastRow_23 rfl ?_
      refine gs_istore (ls' := [(4, .int (0 : Int32)), (0, .ref 140), (1, .int x1), (2, .int x2), (3, .int x3)]) (pc := 24) C dX8_leastRow_24 (by decide) rfl ?_
      obtain ⟨y7, e8, h⟩ := gs_o1 h
      refine gs_sub [1, 2, 3, 4, 0] rfl (t_X8_leastRow_26 C ?_ gs_FU _ e8)
      refine gs_iload_n (pc := 60) C 2 dX8_leastRow_60 rfl rfl ?_
      refine gs_bipush (w := 10) (pc := 61) C dX8_leastRow_61 rfl ?_
      refine gs_imul (pc := 63) C dX8_leastRow_63 ?_
      refine gs_aload_n (pc := 64) C 0 dX8_leastRow_64 rfl rfl ?_
      refine gs_getq (pc := 65) C dX8_leastRow_65 gk_8 fl_X8_18 sh_140 rfl ?_
      refine gs_iload (pc := 68) C 4 dX8_leastRow_68 rfl ?_
      obtain ⟨v9, e10, h⟩ := gs_o1 h
      refine gs_iald (pc := 70) C dX8_leastRow_70 sh_143 e10 ?_
      refine gs_iadd (pc := 71) C dX8_leastRow_71 ?_
      refine gs_istore_n (ls' := [(2, .int ((x2 * (10 : Int32)) + v9)), (0, .ref 140), (1, .int x1), (3, .int x3), (4, .int y7)]) (pc := 72) C dX8_leastRow_72 rfl (by decide) rfl ?_
      refine gs_iload_n (pc := 73) C 2 dX8_leastRow_73 rfl rfl ?_
      refine gs_aload_n (pc := 74) C 1 dX8_leastRow_74 rfl rfl ?_
      refine gs_getq (pc := 75) C dX8_leastRow_75 gk_8 fl_X8_15 sh_140 rfl ?_
      refine gs_iload (pc := 78) C 4 dX8_leastRow_78 rfl ?_
      obtain ⟨v11, e12, h⟩ := gs_o1 h
      refine gs_iald (pc := 80) C dX8_leastRow_80 sh_142 e12 ?_
      refine gs_iadd (pc := 81) C dX8_leastRow_81 ?_
      refine gs_istore_n (ls' := [(1, .int (x1 + v11)), (2, .int ((x2 * (10 : Int32)) + v9)), (0, .ref 140), (3, .int x3), (4, .int y7)]) (pc := 82) C dX8_leastRow_82 rfl (by decide) rfl ?_
      refine gs_iinc (v := x3 + (1 : Int32)) (ls' := [(3, .int (x3 + (1 : Int32))), (1, .int (x1 + v11)), (2, .int ((x2 * (10 : Int32)) + v9)), (0, .ref 140), (4, .int y7)]) (pc := 83) C 3 dX8_leastRow_83 rfl rfl (by decide) rfl ?_
      refine gs_goto (pc := 86) C 6 dX8_leastRow_86 rfl ?_
      exact gs_sub [3, 1, 2, 0] rfl (ih _ _ _ _ h)
set_option maxRecDepth 100000 in
set_option maxHeartbeats 4000000 in
theorem a_X8_leastRow (l : Launch) {M : gs_M} {L : gs_L} {rv : Int32} {Mz : gs_M} (h : f_X8_leastRow M = some (rv, Mz)) : gs_Met l 1 yX8_leastRow cX8_leastRow 5 (some .int) [.ref 140] M L (some (.int rv)) Mz L := by
  unfold f_X8_leastRow at h
  refine gs_of RX8 (by decide) rfl (Nat.le_of_ble_eq_true rfl) (fun X C E => ?_)
  show gs_AW X 0 [(0, .ref 140)] [] M L
  refine gs_iconst (w := 0) (pc := 0) C dX8_leastRow_0 rfl ?_
  refine gs_istore_n (ls' := [(1, .int (0 : Int32)), (0, .ref 140)]) (pc := 1) C dX8_leastRow_1 rfl (by decide) rfl ?_
  refine gs_iconst (w := 0) (pc := 2) C dX8_leastRow_2 rfl ?_
  refine gs_istore_n (ls' := [(2, .int (0 : Int32)), (1, .int (0 : Int32)), (0, .ref 140)]) (pc := 3) C dX8_leastRow_3 rfl (by decide) rfl ?_
  refine gs_iconst (w := 0) (pc := 4) C dX8_leastRow_4 rfl ?_
  refine gs_istore_n (ls' := [(3, .int (0 : Int32)), (2, .int (0 : Int32)), (1, .int (0 : Int32)), (0, .ref 140)]) (pc := 5) C dX8_leastRow_5 rfl (by decide) rfl ?_
  obtain ⟨y1, y2, y3, M4, e5, h⟩ := gs_o4 h
  refine gs_sub [3, 2, 1, 0] rfl (t_X8_leastRow_6 C ?_ gs_FU _ _ _ _ e5)
  refine gs_iload_n (pc := 89) C 2 dX8_leastRow_89 rfl rfl ?_
  obtain ⟨rfl, rfl⟩ := gs_i2 h
  exact gs_iret (pc := 90) C dX8_leastRow_90 E
set_option maxRecDepth 100000 in
set_option maxHeartbeats 4000000 in
theorem a_X11_timetable (l : Launch) {M : gs_M} {L : gs_L} {x1 : Int32} {x2 : Int32} {rv : Int32} {Mz : gs_M} (h : f_X11_timetable M x1 x2 = some (rv, Mz)) : gs_Met l 7 yX11_timetable cX11_timetable 4 (some .int) [.ref 0, .int x1, .int x2] M L (some (.int rv)) Mz L := by
  unfold f_X11_timetable at h
  refine gs_of RX11 (by decide) rfl (Nat.le_of_ble_eq_true rfl) (fun X C E => ?_)
  show gs_AW X 0 [(0, .ref 0), (1, .int x1), (2, .int x2)] [] M L
  refine gs_aload_n (pc := 0) C 0 dX11_timetable_0 rfl rfl ?_
  obtain ⟨v1, e2, h⟩ := gs_o1 h
  refine gs_callVi (pc := 1) C [] dX11_timetable_1 ml_X11_172 wy_X11_hasTown (a_X11_hasTown _ e2) (by decide) sh_0 (by decide) rfl rfl (Nat.le_of_ble_eq_true rfl) rfl ?_
  refine gs_if_eq (pc := 4) C 26 dX11_timetable_4 rfl (fun c3 => ?_) (fun c3 => ?_)
  · replace h := gs_ift c3 h
    refine gs_iconst (w := (-1)) (pc := 26) C dX11_timetable_26 rfl ?_
    obtain ⟨rfl, rfl⟩ := gs_i2 h
    exact gs_iret (pc := 27) C dX11_timetable_27 E
  · replace h := gs_iff c3 h
    refine gs_iload_n (pc := 7) C 1 dX11_timetable_7 rfl rfl ?_
    refine gs_iconst (w := 1) (pc := 8) C dX11_timetable_8 rfl ?_
    refine gs_icmp_lt (pc := 9) C 26 dX11_timetable_9 rfl (fun c4 => ?_) (fun c4 => ?_)
    · replace h := gs_ift c4 h
      refine gs_iconst (w := (-1)) (pc := 26) C dX11_timetable_26 rfl ?_
      obtain ⟨rfl, rfl⟩ := gs_i2 h
      exact gs_iret (pc := 27) C dX11_timetable_27 E
    · replace h := gs_iff c4 h
      refine gs_iload_n (pc := 12) C 1 dX11_timetable_12 rfl rfl ?_
      refine gs_iconst (w := 2) (pc := 13) C dX11_timetable_13 rfl ?_
      refine gs_icmp_gt (pc := 14) C 26 dX11_timetable_14 rfl (fun c5 => ?_) (fun c5 => ?_)
      · replace h := gs_ift c5 h
        refine gs_iconst (w := (-1)) (pc := 26) C dX11_timetable_26 rfl ?_
        obtain ⟨rfl, rfl⟩ := gs_i2 h
        exact gs_iret (pc := 27) C dX11_timetable_27 E
      · replace h := gs_iff c5 h
        refine gs_iload_n (pc := 17) C 2 dX11_timetable_17 rfl rfl ?_
        refine gs_if_lt (pc := 18) C 26 dX11_timetable_18 rfl (fun c6 => ?_) (fun c6 => ?_)
        · replace h := gs_ift c6 h
          refine gs_iconst (w := (-1)) (pc := 26) C dX11_timetable_26 rfl ?_
          obtain ⟨rfl, rfl⟩ := gs_i2 h
          exact gs_iret (pc := 27) C dX11_timetable_27 E
        · replace h := gs_iff c6 h
          refine gs_iload_n (pc := 21) C 2 dX11_timetable_21 rfl rfl ?_
          refine gs_iconst (w := 1) (pc := 22) C dX11_timetable_22 rfl ?_
          refine gs_icmp_le (pc := 23) C 28 dX11_timetable_23 rfl (fun c7 => ?_) (fun c7 => ?_)
          · replace h := gs_ift c7 h
            refine gs_aload_n (pc := 28) C 0 dX11_timetable_28 rfl rfl ?_
            refine gs_getq (pc := 29) C dX11_timetable_29 gk_11 fl_X11_98 sh_0 rfl ?_
            refine gs_iload_n (pc := 32) C 1 dX11_timetable_32 rfl rfl ?_
            obtain ⟨v8, M9, e10, h⟩ := gs_o2 h
            refine gs_callVi (pc := 33) C [.int x1] dX11_timetable_33 ml_X11_355 wy_X8_fill (a_X8_fill _ e10) (by decide) sh_140 (by decide) rfl rfl (Nat.le_of_ble_eq_true rfl) rfl ?_
            refine gs_istore_n (ls' := [(3, .int v8), (0, .ref 0), (1, .int x1), (2, .int x2)]) (pc := 36) C dX11_timetable_36 rfl (by decide) rfl ?_
            refine gs_iload_n (pc := 37) C 0 dX11_timetable_37 rfl rfl ?_
            refine gs_iconst (w := (-1)) (pc := 38) C dX11_timetable_38 rfl ?_
            obtain ⟨y11, M12, e13, h⟩ := gs_o2 h
            have j14 : gs_AW X 58 [(0, .ref 0), (1, .int x1), (2, .int x2), (3, .int v8)] [.int y11] M12 L := by
              obtain ⟨rfl, rfl⟩ := gs_i2 h
              exact gs_iret (pc := 58) C dX11_timetable_58 E
            refine gs_icmp_eq (pc := 39) C 47 dX11_timetable_39 rfl (fun c15 => ?_) (fun c15 => ?_)
            · replace e13 := gs_ift c15 e13
              refine gs_iload_n (pc := 47) C 0 dX11_timetable_47 rfl rfl ?_
              refine gs_goto (pc := 48) C 58 dX11_timetable_48 rfl ?_
              obtain ⟨rfl, rfl⟩ := gs_i2 e13
              exact gs_sub [1, 2, 3, 0] rfl (j14)
            · replace e13 := gs_iff c15 e13
              refine gs_iload_n (pc := 42) C 3 dX11_timetable_42 rfl rfl ?_
              refine gs_iconst (w := 1) (pc := 43) C dX11_timetable_43 rfl ?_
              refine gs_icmp_ne (pc := 44) C 51 dX11_timetable_44 rfl (fun c16 => ?_) (fun c16 => ?_)
              · replace e13 := gs_iff c16 e13
                refine gs_aload_n (pc := 51) C 1 dX11_timetable_51 rfl rfl ?_
                refine gs_getq (pc := 52) C dX11_timetable_52 gk_11 fl_X11_98 sh_0 rfl ?_
                obtain ⟨v17, M18, e19, e13⟩ := gs_o2 e13
                refine gs_callVi (pc := 55) C [] dX11_timetable_55 ml_X11_358 wy_X8_leastRow (a_X8_leastRow _ e19) (by decide) sh_140 (by decide) rfl rfl (Nat.le_of_ble_eq_true rfl) rfl ?_
                obtain ⟨rfl, rfl⟩ := gs_i2 e13
                exact gs_sub [1, 2, 3, 0] rfl (j14)
              · replace e13 := gs_ift c16 e13
                refine gs_iload_n (pc := 47) C 0 dX11_timetable_47 rfl rfl ?_
                refine gs_goto (pc := 48) C 58 dX11_timetable_48 rfl ?_
                obtain ⟨rfl, rfl⟩ := gs_i2 e13
                exact gs_sub [1, 2, 3, 0] rfl (j14)
          · replace h := gs_iff c7 h
            refine gs_iconst (w := (-1)) (pc := 26) C dX11_timetable_26 rfl ?_
            obtain ⟨rfl, rfl⟩ := gs_i2 h
            exact gs_iret (pc := 27) C dX11_timetable_27 E
set_option maxRecDepth 100000 in
set_option maxHeartbeats 4000000 in
theorem a_X0_takeBack (l : Launch) {M : gs_M} {L : gs_L} {rv : Int32} {Mz : gs_M} (h : f_X0_takeBack M = some (rv, Mz)) : gs_Met l 1 yX0_takeBack cX0_takeBack 2 (some .int) [.ref 13, .ref 9] M L (some (.int rv)) Mz L := by
  unfold f_X0_takeBack at h
  refine gs_of RX0 (by decide) rfl (Nat.le_of_ble_eq_true rfl) (fun X C E => ?_)
  show gs_AW X 0 [(0, .ref 13), (1, .ref 9)] [] M L
  refine gs_aload_n (pc := 0) C 0 dX0_takeBack_0 rfl rfl ?_
  refine gs_geti (pc := 1) C dX0_takeBack_1 gk_0 fl_X0_18 sh_13 rfl ?_
  refine gs_if_ne (pc := 4) C 9 dX0_takeBack_4 rfl (fun c1 => ?_) (fun c1 => ?_)
  · replace h := gs_iff c1 h
    refine gs_aload_n (pc := 9) C 0 dX0_takeBack_9 rfl rfl ?_
    refine gs_aload_n (pc := 10) C 0 dX0_takeBack_10 rfl rfl ?_
    refine gs_geti (pc := 11) C dX0_takeBack_11 gk_0 fl_X0_22 sh_13 rfl ?_
    refine gs_bipush (w := 40) (pc := 14) C dX0_takeBack_14 rfl ?_
    refine gs_iadd (pc := 16) C dX0_takeBack_16 ?_
    refine gs_iconst (w := 1) (pc := 17) C dX0_takeBack_17 rfl ?_
    refine gs_isub (pc := 18) C dX0_takeBack_18 ?_
    refine gs_bipush (w := 40) (pc := 19) C dX0_takeBack_19 rfl ?_
    obtain ⟨v2, e3, h⟩ := gs_o1 h
    refine gs_irem' (pc := 21) C dX0_takeBack_21 e3 ?_
    obtain ⟨M5, e4, h⟩ := gs_o1 h
    refine gs_puti' (pc := 22) C dX0_takeBack_22 gk_0 fp_X0_22 sh_13 rfl e4 ?_
    refine gs_aload_n (pc := 25) C 1 dX0_takeBack_25 rfl rfl ?_
    refine gs_aload_n (pc := 26) C 0 dX0_takeBack_26 rfl rfl ?_
    refine gs_getq (pc := 27) C dX0_takeBack_27 gk_0 fl_X0_13 sh_13 rfl ?_
    refine gs_aload_n (pc := 30) C 0 dX0_takeBack_30 rfl rfl ?_
    refine gs_geti (pc := 31) C dX0_takeBack_31 gk_0 fl_X0_22 sh_13 rfl ?_
    obtain ⟨r6, e7, h⟩ := gs_o1 h
    refine gs_aldS (pc := 34) C dX0_takeBack_34 sh_14 e7 ?_
    obtain ⟨M8, e9, h⟩ := gs_o1 h
    refine gs_callVv (pc := 35) C [.ref r6] dX0_takeBack_35 ml_X0_25 wy_X6_copyFrom (a_X6_copyFrom _ (Or.inl rfl) (gs_rdq_st e7) e9) (by decide) sh_9 (by decide) rfl rfl (Nat.le_of_ble_eq_true rfl) rfl ?_
    refine gs_aload_n (pc := 38) C 0 dX0_takeBack_38 rfl rfl ?_
    refine gs_dup (pc := 39) C dX0_takeBack_39 rfl ?_
    refine gs_geti (pc := 40) C dX0_takeBack_40 gk_0 fl_X0_18 sh_13 rfl ?_
    refine gs_iconst (w := 1) (pc := 43) C dX0_takeBack_43 rfl ?_
    refine gs_isub (pc := 44) C dX0_takeBack_44 ?_
    obtain ⟨M11, e10, h⟩ := gs_o1 h
    refine gs_puti' (pc := 45) C dX0_takeBack_45 gk_0 fp_X0_18 sh_13 rfl e10 ?_
    refine gs_aload_n (pc := 48) C 0 dX0_takeBack_48 rfl rfl ?_
    refine gs_geti (pc := 49) C dX0_takeBack_49 gk_0 fl_X0_18 sh_13 rfl ?_
    obtain ⟨rfl, rfl⟩ := gs_i2 h
    exact gs_iret (pc := 52) C dX0_takeBack_52 E
  · replace h := gs_ift c1 h
    refine gs_iconst (w := (-1)) (pc := 7) C dX0_takeBack_7 rfl ?_
    obtain ⟨rfl, rfl⟩ := gs_i2 h
    exact gs_iret (pc := 8) C dX0_takeBack_8 E
set_option maxRecDepth 100000 in
set_option maxHeartbeats 4000000 in
theorem a_X11_undo (l : Launch) {M : gs_M} {L : gs_L} {rv : Int32} {Mz : gs_M} (h : f_X11_undo M = some (rv, Mz)) : gs_Met l 2 yX11_undo cX11_undo 1 (some .int) [.ref 0] M L (some (.int rv)) Mz L := by
  unfold f_X11_undo at h
  refine gs_of RX11 (by decide) rfl (Nat.le_of_ble_eq_true rfl) (fun X C E => ?_)
  show gs_AW X 0 [(0, .ref 0)] [] M L
  refine gs_aload_n (pc := 0) C 0 dX11_undo_0 rfl rfl ?_
  refine gs_getq (pc := 1) C dX11_undo_1 gk_11 fl_X11_39 sh_0 rfl ?_
  refine gs_aload_n (pc := 4) C 0 dX11_undo_4 rfl rfl ?_
  refine gs_getq (pc := 5) C dX11_undo_5 gk_11 fl_X11_29 sh_0 rfl ?_
  obtain ⟨v1, M2, e3, h⟩ := gs_o2 h
  refine gs_callVi (pc := 8) C [.ref 9] dX11_undo_8 ml_X11_260 wy_X0_takeBack (a_X0_takeBack _ e3) (by decide) sh_13 (by decide) rfl rfl (Nat.le_of_ble_eq_true rfl) rfl ?_
  obtain ⟨rfl, rfl⟩ := gs_i2 h
  exact gs_iret (pc := 11) C dX11_undo_11 E
set_option maxRecDepth 100000 in
set_option maxHeartbeats 4000000 in
theorem a_X11_wakes (l : Launch) {M : gs_M} {L : gs_L} {x1 : Int32} {x2 : Int32} {rv : Int32} {Mz : gs_M} (h : f_X11_wakes M x1 x2 = some (rv, Mz)) : gs_Met l 5 yX11_wakes cX11_wakes 3 (some .int) [.ref 0, .int x1, .int x2] M L (some (.int rv)) Mz L := by
  unfold f_X11_wakes at h
  refine gs_of RX11 (by decide) rfl (Nat.le_of_ble_eq_true rfl) (fun X C E => ?_)
  show gs_AW X 0 [(0, .ref 0), (1, .int x1), (2, .int x2)] [] M L
  refine gs_aload_n (pc := 0) C 0 dX11_wakes_0 rfl rfl ?_
  refine gs_iload_n (pc := 1) C 1 dX11_wakes_1 rfl rfl ?_
  obtain ⟨v1, e2, h⟩ := gs_o1 h
  refine gs_callVi (pc := 2) C [.int x1] dX11_wakes_2 ml_X11_178 wy_X11_isPerson (a_X11_isPerson _ e2) (by decide) sh_0 (by decide) rfl rfl (Nat.le_of_ble_eq_true rfl) rfl ?_
  obtain ⟨y3, M4, e5, h⟩ := gs_o2 h
  have j6 : gs_AW X 29 [(0, .ref 0), (1, .int x1), (2, .int x2)] [.int y3] M4 L := by
    obtain ⟨rfl, rfl⟩ := gs_i2 h
    exact gs_iret (pc := 29) C dX11_wakes_29 E
  refine gs_if_eq (pc := 5) C 28 dX11_wakes_5 rfl (fun c7 => ?_) (fun c7 => ?_)
  · replace e5 := gs_ift c7 e5
    refine gs_iconst (w := (-1)) (pc := 28) C dX11_wakes_28 rfl ?_
    obtain ⟨rfl, rfl⟩ := gs_i2 e5
    exact j6
  · replace e5 := gs_iff c7 e5
    refine gs_aload_n (pc := 8) C 0 dX11_wakes_8 rfl rfl ?_
    refine gs_iload_n (pc := 9) C 2 dX11_wakes_9 rfl rfl ?_
    obtain ⟨v8, e9, e5⟩ := gs_o1 e5
    refine gs_callVi (pc := 10) C [.int x2] dX11_wakes_10 ml_X11_210 wy_X11_isHour (a_X11_isHour _ e9) (by decide) sh_0 (by decide) rfl rfl (Nat.le_of_ble_eq_true rfl) rfl ?_
    refine gs_if_eq (pc := 13) C 28 dX11_wakes_13 rfl (fun c10 => ?_) (fun c10 => ?_)
    · replace e5 := gs_ift c10 e5
      refine gs_iconst (w := (-1)) (pc := 28) C dX11_wakes_28 rfl ?_
      obtain ⟨rfl, rfl⟩ := gs_i2 e5
      exact j6
    · replace e5 := gs_iff c10 e5
      refine gs_aload_n (pc := 16) C 0 dX11_wakes_16 rfl rfl ?_
      refine gs_getq (pc := 17) C dX11_wakes_17 gk_11 fl_X11_71 sh_0 rfl ?_
      refine gs_iload_n (pc := 20) C 1 dX11_wakes_20 rfl rfl ?_
      refine gs_iload_n (pc := 21) C 2 dX11_wakes_21 rfl rfl ?_
      obtain ⟨v11, M12, e13, e5⟩ := gs_o2 e5
      refine gs_callVi (pc := 22) C [.int x1, .int x2] dX11_wakes_22 ml_X11_213 wy_X4_wakesNow (a_X4_wakesNow _ e13) (by decide) sh_105 (by decide) rfl rfl (Nat.le_of_ble_eq_true rfl) rfl ?_
      refine gs_goto (pc := 25) C 29 dX11_wakes_25 rfl ?_
      obtain ⟨rfl, rfl⟩ := gs_i2 e5
      exact j6
set_option maxRecDepth 100000 in
set_option maxHeartbeats 4000000 in
theorem a_X10_hold (l : Launch) {M : gs_M} {L : gs_L} {x1 : Int32} {rv : Int32} {Mz : gs_M} (h : f_X10_hold M x1 = some (rv, Mz)) : gs_Met l 1 yX10_hold cX10_hold 2 (some .boolean) [.ref 95, .int x1] M L (some (.int rv)) Mz L := by
  unfold f_X10_hold at h
  refine gs_of RX10 (by decide) rfl (Nat.le_of_ble_eq_true rfl) (fun X C E => ?_)
  show gs_AW X 0 [(0, .ref 95), (1, .int x1)] [] M L
  refine gs_iload_n (pc := 0) C 1 dX10_hold_0 rfl rfl ?_
  refine gs_iconst (w := (-1)) (pc := 1) C dX10_hold_1 rfl ?_
  refine gs_icmp_eq (pc := 2) C 15 dX10_hold_2 rfl (fun c1 => ?_) (fun c1 => ?_)
  · replace h := gs_ift c1 h
    refine gs_aload_n (pc := 15) C 0 dX10_hold_15 rfl rfl ?_
    refine gs_iload_n (pc := 16) C 1 dX10_hold_16 rfl rfl ?_
    obtain ⟨M3, e2, h⟩ := gs_o1 h
    refine gs_puti' (pc := 17) C dX10_hold_17 gk_10 fp_X10_18 sh_95 rfl e2 ?_
    refine gs_iconst (w := 1) (pc := 20) C dX10_hold_20 rfl ?_
    obtain ⟨rfl, rfl⟩ := gs_i2 h
    exact gs_zret (pc := 21) C (by decide) dX10_hold_21 E
  · replace h := gs_iff c1 h
    refine gs_aload_n (pc := 5) C 0 dX10_hold_5 rfl rfl ?_
    refine gs_iload_n (pc := 6) C 1 dX10_hold_6 rfl rfl ?_
    obtain ⟨v4, e5, h⟩ := gs_o1 h
    refine gs_callVi (pc := 7) C [.int x1] dX10_hold_7 ml_X10_25 wy_X10_has (a_X10_has _ e5) (by decide) sh_95 (by decide) rfl rfl (Nat.le_of_ble_eq_true rfl) rfl ?_
    refine gs_if_ne (pc := 10) C 15 dX10_hold_10 rfl (fun c6 => ?_) (fun c6 => ?_)
    · replace h := gs_iff c6 h
      refine gs_aload_n (pc := 15) C 0 dX10_hold_15 rfl rfl ?_
      refine gs_iload_n (pc := 16) C 1 dX10_hold_16 rfl rfl ?_
      obtain ⟨M8, e7, h⟩ := gs_o1 h
      refine gs_puti' (pc := 17) C dX10_hold_17 gk_10 fp_X10_18 sh_95 rfl e7 ?_
      refine gs_iconst (w := 1) (pc := 20) C dX10_hold_20 rfl ?_
      obtain ⟨rfl, rfl⟩ := gs_i2 h
      exact gs_zret (pc := 21) C (by decide) dX10_hold_21 E
    · replace h := gs_ift c6 h
      refine gs_iconst (w := 0) (pc := 13) C dX10_hold_13 rfl ?_
      obtain ⟨rfl, rfl⟩ := gs_i2 h
      exact gs_zret (pc := 14) C (by decide) dX10_hold_14 E
set_option maxRecDepth 100000 in
set_option maxHeartbeats 4000000 in
theorem a_X11_watch (l : Launch) {M : gs_M} {L : gs_L} {x1 : Int32} {rv : Int32} {Mz : gs_M} (h : f_X11_watch M x1 = some (rv, Mz)) : gs_Met l 2 yX11_watch cX11_watch 2 (some .boolean) [.ref 0, .int x1] M L (some (.int rv)) Mz L := by
  unfold f_X11_watch at h
  refine gs_of RX11 (by decide) rfl (Nat.le_of_ble_eq_true rfl) (fun X C E => ?_)
  show gs_AW X 0 [(0, .ref 0), (1, .int x1)] [] M L
  refine gs_aload_n (pc := 0) C 0 dX11_watch_0 rfl rfl ?_
  refine gs_getq (pc := 1) C dX11_watch_1 gk_11 fl_X11_46 sh_0 rfl ?_
  refine gs_iload_n (pc := 4) C 1 dX11_watch_4 rfl rfl ?_
  obtain ⟨v1, M2, e3, h⟩ := gs_o2 h
  refine gs_callVi (pc := 5) C [.int x1] dX11_watch_5 ml_X11_202 wy_X10_hold (a_X10_hold _ e3) (by decide) sh_95 (by decide) rfl rfl (Nat.le_of_ble_eq_true rfl) rfl ?_
  obtain ⟨z4, e5, h⟩ := gs_o1 h
  obtain ⟨rfl, rfl⟩ := gs_i2 h
  exact gs_zret' (pc := 8) C dX11_watch_8 e5 E
set_option maxRecDepth 100000 in
set_option maxHeartbeats 4000000 in
theorem a_X11_watched (l : Launch) {M : gs_M} {L : gs_L} {x1 : Int32} {x2 : Int32} {rv : Int32} (h : f_X11_watched M x1 x2 = some (rv)) : gs_Met l 1 yX11_watched cX11_watched 3 (some .int) [.ref 0, .int x1, .int x2] M L (some (.int rv)) M L := by
  unfold f_X11_watched at h
  refine gs_of RX11 (by decide) rfl (Nat.le_of_ble_eq_true rfl) (fun X C E => ?_)
  show gs_AW X 0 [(0, .ref 0), (1, .int x1), (2, .int x2)] [] M L
  refine gs_aload_n (pc := 0) C 0 dX11_watched_0 rfl rfl ?_
  refine gs_getq (pc := 1) C dX11_watched_1 gk_11 fl_X11_46 sh_0 rfl ?_
  refine gs_iload_n (pc := 4) C 1 dX11_watched_4 rfl rfl ?_
  obtain ⟨v1, e2, h⟩ := gs_o1 h
  refine gs_callVi (pc := 5) C [.int x1] dX11_watched_5 ml_X11_203 wy_X10_has (a_X10_has _ e2) (by decide) sh_95 (by decide) rfl rfl (Nat.le_of_ble_eq_true rfl) rfl ?_
  refine gs_if_eq (pc := 8) C 21 dX11_watched_8 rfl (fun c3 => ?_) (fun c3 => ?_)
  · replace h := gs_ift c3 h
    refine gs_ldc (pc := 21) C dX11_watched_21 wk_X11_206 ?_
    obtain rfl := gs_i1 h
    exact gs_iret (pc := 23) C dX11_watched_23 E
  · replace h := gs_iff c3 h
    refine gs_iload_n (pc := 11) C 2 dX11_watched_11 rfl rfl ?_
    refine gs_if_lt (pc := 12) C 21 dX11_watched_12 rfl (fun c4 => ?_) (fun c4 => ?_)
    · replace h := gs_ift c4 h
      refine gs_ldc (pc := 21) C dX11_watched_21 wk_X11_206 ?_
      obtain rfl := gs_i1 h
      exact gs_iret (pc := 23) C dX11_watched_23 E
    · replace h := gs_iff c4 h
      refine gs_iload_n (pc := 15) C 2 dX11_watched_15 rfl rfl ?_
      refine gs_bipush (w := 9) (pc := 16) C dX11_watched_16 rfl ?_
      refine gs_icmp_lt (pc := 18) C 24 dX11_watched_18 rfl (fun c5 => ?_) (fun c5 => ?_)
      · replace h := gs_ift c5 h
        refine gs_aload_n (pc := 24) C 0 dX11_watched_24 rfl rfl ?_
        refine gs_getq (pc := 25) C dX11_watched_25 gk_11 fl_X11_46 sh_0 rfl ?_
        refine gs_iload_n (pc := 28) C 1 dX11_watched_28 rfl rfl ?_
        refine gs_iload_n (pc := 29) C 2 dX11_watched_29 rfl rfl ?_
        obtain ⟨v6, e7, h⟩ := gs_o1 h
        refine gs_callVi (pc := 30) C [.int x1, .int x2] dX11_watched_30 ml_X11_207 wy_X10_toldAt (a_X10_toldAt _ e7) (by decide) sh_95 (by decide) rfl rfl (Nat.le_of_ble_eq_true rfl) rfl ?_
        obtain rfl := gs_i1 h
        exact gs_iret (pc := 33) C dX11_watched_33 E
      · replace h := gs_iff c5 h
        refine gs_ldc (pc := 21) C dX11_watched_21 wk_X11_206 ?_
        obtain rfl := gs_i1 h
        exact gs_iret (pc := 23) C dX11_watched_23 E
set_option maxRecDepth 100000 in
set_option maxHeartbeats 4000000 in
theorem t_X1_heldOf_5 {X : gs_X} (C : gs_C X RX1 cX1_heldOf 7 (some .long) 5) {L : gs_L} {x1 : Int32} {x2 : Int32} {o3 : Int64} {o5 : Int32} {M' : gs_M} (k : gs_AW X 84 [(0, .ref 134), (1, .int x1), (2, .int x2), (3, .long o3), (5, .int o5)] [] M' L) : ∀ (f : Nat) (x3 : Int64) (x5 : Int32) (M : gs_M), l_X1_heldOf_5 x1 x2 f x3 x5 M = some (o3, o5, M') → gs_AW X 5 [(0, .ref 134), (1, .int x1), (2, .int x2), (3, .long x3), (5, .int x5)] [] M L := by
  intro f
  induction f with
  | zero =>
    intro x3 x5 M h
    cases h
  | succ f ih =>
    intro x3 x5 M h
    rw [l_X1_heldOf_5] at h
    refine gs_iload (pc := 5) C 4 dX1_heldOf_5 rfl ?_
    refine gs_aload_n (pc := 7) C 0 dX1_heldOf_7 rfl rfl ?_
    refine gs_geti (pc := 8) C dX1_heldOf_8 gk_1 fl_X1_37 sh_134 rfl ?_
    refine gs_icmp_ge (pc := 11) C 84 dX1_heldOf_11 rfl (fun c1 => ?_) (fun c1 => ?_)
    · replace h := gs_ift c1 h
      obtain ⟨rfl, rfl, rfl⟩ := gs_i3 h
      exact k
    · replace h := gs_iff c1 h
      refine gs_aload_n (pc := 14) C 0 dX1_heldOf_14 rfl rfl ?_
      refine gs_getq (pc := 15) C dX1_heldOf_15 gk_1 fl_X1_33 sh_134 rfl ?_
      refine gs_aload_n (pc := 18) C 0 dX1_heldOf_18 rfl rfl ?_
      refine gs_getq (pc := 19) C dX1_heldOf_19 gk_1 fl_X1_11 sh_134 rfl ?_
      refine gs_iload (pc := 22) C 4 dX1_heldOf_22 rfl ?_
      obtain ⟨v2, e3, h⟩ := gs_o1 h
      refine gs_iald (pc := 24) C dX1_heldOf_24 sh_135 e3 ?_
      refine gs_iload_n (pc := 25) C 1 dX1_heldOf_25 rfl rfl ?_
      have j15 : gs_AW X 34 [(0, .ref 134), (1, .int x1), (2, .int x2), (3, .long x3), (5, .int x5)] [.int (if v2 = x1 then x2 else (0 : Int32) : Int32), .ref 105] M L := by
        refine gs_aload_n (pc := 34) C 0 dX1_heldOf_34 rfl rfl ?_
        refine gs_getq (pc := 35) C dX1_heldOf_35 gk_1 fl_X1_11 sh_134 rfl ?_
        refine gs_iload (pc := 38) C 4 dX1_heldOf_38 rfl ?_
        obtain ⟨v4, e5, h⟩ := gs_o1 h
        refine gs_iald (pc := 40) C dX1_heldOf_40 sh_135 e5 ?_
        refine gs_aload_n (pc := 41) C 0 dX1_heldOf_41 rfl rfl ?_
        refine gs_getq (pc := 42) C dX1_heldOf_42 gk_1 fl_X1_15 sh_134 rfl ?_
        refine gs_iload (pc := 45) C 4 dX1_heldOf_45 rfl ?_
        obtain ⟨v6, e7, h⟩ := gs_o1 h
        refine gs_iald (pc := 47) C dX1_heldOf_47 sh_136 e7 ?_
        obtain ⟨v8, M9, e10, h⟩ := gs_o2 h
        refine gs_callVi (pc := 48) C [.int (if v2 = x1 then x2 else (0 : Int32) : Int32), .int v4, .int v6] dX1_heldOf_48 ml_X1_51 wy_X4_wakesWith (a_X4_wakesWith _ e10) (by decide) sh_105 (by decide) rfl rfl (Nat.le_of_ble_eq_true rfl) rfl ?_
        refine gs_istore (ls' := [(6, .int v8), (0, .ref 134), (1, .int x1), (2, .int x2), (3, .long x3), (5, .int x5)]) (pc := 51) C dX1_heldOf_51 (by decide) rfl ?_
        refine gs_lload_n (pc := 53) C 4 dX1_heldOf_53 rfl rfl ?_
        refine gs_aload_n (pc := 54) C 1 dX1_heldOf_54 rfl rfl ?_
        refine gs_getq (pc := 55) C dX1_heldOf_55 gk_1 fl_X1_18 sh_134 rfl ?_
        refine gs_iload (pc := 58) C 5 dX1_heldOf_58 rfl ?_
        obtain ⟨v11, e12, h⟩ := gs_o1 h
        refine gs_zald (pc := 60) C dX1_heldOf_60 sh_137 e12 ?_
        have j13 : gs_AW X 76 [(0, .ref 134), (1, .int x1), (2, .int x2), (3, .long x3), (5, .int x5), (6, .int v8)] [.long (if v11 = (0 : Int32) then (Int32.toInt64 ((10 : Int32) - v8)) else (Int32.toInt64 v8) : Int64), .long x3] M9 L := by
          refine gs_lmul (pc := 76) C dX1_heldOf_76 ?_
          refine gs_lstore_n (ls' := [(3, .long (x3 * (if v11 = (0 : Int32) then (Int32.toInt64 ((10 : Int32) - v8)) else (Int32.toInt64 v8) : Int64))), (0, .ref 134), (1, .int x1), (2, .int x2), (5, .int x5), (6, .int v8)]) (pc := 77) C dX1_heldOf_77 rfl (by decide) rfl ?_
          refine gs_iinc (v := x5 + (1 : Int32)) (ls' := [(5, .int (x5 + (1 : Int32))), (3, .long (x3 * (if v11 = (0 : Int32) then (Int32.toInt64 ((10 : Int32) - v8)) else (Int32.toInt64 v8) : Int64))), (0, .ref 134), (1, .int x1), (2, .int x2), (6, .int v8)]) (pc := 78) C 4 dX1_heldOf_78 rfl rfl (by decide) rfl ?_
          refine gs_goto (pc := 81) C 5 dX1_heldOf_81 rfl ?_
          exact gs_sub [2, 3, 4, 1, 0] rfl (ih _ _ _ h)
        refine gs_if_eq (pc := 61) C 70 dX1_heldOf_61 rfl (fun c14 => ?_) (fun c14 => ?_)
        · refine gs_bipush (w := 10) (pc := 70) C dX1_heldOf_70 rfl ?_
          refine gs_iload (pc := 72) C 0 dX1_heldOf_72 rfl ?_
          refine gs_isub (pc := 74) C dX1_heldOf_74 ?_
          refine gs_i2l (pc := 75) C dX1_heldOf_75 ?_
          simp only [if_pos c14] at j13
          exact gs_sub [1, 2, 3, 4, 5, 0] rfl (j13)
        · refine gs_iload (pc := 64) C 0 dX1_heldOf_64 rfl ?_
          refine gs_i2l (pc := 66) C dX1_heldOf_66 ?_
          refine gs_goto (pc := 67) C 76 dX1_heldOf_67 rfl ?_
          simp only [if_neg c14] at j13
          exact gs_sub [1, 2, 3, 4, 5, 0] rfl (j13)
      refine gs_icmp_ne (pc := 26) C 33 dX1_heldOf_26 rfl (fun c16 => ?_) (fun c16 => ?_)
      · refine gs_iconst (w := 0) (pc := 33) C dX1_heldOf_33 rfl ?_
        simp only [if_neg c16] at j15
        exact j15
      · refine gs_iload_n (pc := 29) C 2 dX1_heldOf_29 rfl rfl ?_
        refine gs_goto (pc := 30) C 34 dX1_heldOf_30 rfl ?_
        simp only [if_pos c16] at j15
        exact j15
set_option maxRecDepth 100000 in
set_option maxHeartbeats 4000000 in
theorem a_X1_heldOf (l : Launch) {M : gs_M} {L : gs_L} {x1 : Int32} {x2 : Int32} {rv : Int64} {Mz : gs_M} (h : f_X1_heldOf M x1 x2 = some (rv, Mz)) : gs_Met l 5 yX1_heldOf cX1_heldOf 7 (some .long) [.ref 134, .int x1, .int x2] M L (some (.long rv)) Mz L := by
  unfold f_X1_heldOf at h
  refine gs_of RX1 (by decide) rfl (Nat.le_of_ble_eq_true rfl) (fun X C E => ?_)
  show gs_AW X 0 [(0, .ref 134), (1, .int x1), (2, .int x2)] [] M L
  refine gs_lconst (w := 1) (pc := 0) C dX1_heldOf_0 rfl ?_
  refine gs_lstore_n (ls' := [(3, .long (1 : Int64)), (0, .ref 134), (1, .int x1), (2, .int x2)]) (pc := 1) C dX1_heldOf_1 rfl (by decide) rfl ?_
  refine gs_iconst (w := 0) (pc := 2) C dX1_heldOf_2 rfl ?_
  refine gs_istore (ls' := [(5, .int (0 : Int32)), (3, .long (1 : Int64)), (0, .ref 134), (1, .int x1), (2, .int x2)]) (pc := 3) C dX1_heldOf_3 (by decide) rfl ?_
  obtain ⟨y1, y2, M3, e4, h⟩ := gs_o3 h
  refine gs_sub [2, 3, 4, 1, 0] rfl (t_X1_heldOf_5 C ?_ gs_FU _ _ _ e4)
  refine gs_lload_n (pc := 84) C 3 dX1_heldOf_84 rfl rfl ?_
  obtain ⟨rfl, rfl⟩ := gs_i2 h
  exact gs_lret (pc := 85) C dX1_heldOf_85 E
set_option maxRecDepth 100000 in
set_option maxHeartbeats 4000000 in
theorem t_X1_weigh_2 {X : gs_X} (C : gs_C X RX1 cX1_weigh 3 none 6) {x1 : Int32} {o2 : Int32} {M' : gs_M} {L' : gs_L} (k : gs_AW X 31 [(0, .ref 134), (1, .int x1), (2, .int o2)] [] M' L') : ∀ (f : Nat) (x2 : Int32) (M : gs_M) (L : gs_L), l_X1_weigh_2 x1 f x2 M L = some (o2, M', L') → gs_AW X 2 [(0, .ref 134), (1, .int x1), (2, .int x2)] [] M L := by
  intro f
  induction f with
  | zero =>
    intro x2 M L h
    cases h
  | succ f ih =>
    intro x2 M L h
    rw [l_X1_weigh_2] at h
    refine gs_iload_n (pc := 2) C 2 dX1_weigh_2 rfl rfl ?_
    refine gs_aload_n (pc := 3) C 0 dX1_weigh_3 rfl rfl ?_
    refine gs_getq (pc := 4) C dX1_weigh_4 gk_1 fl_X1_29 sh_134 rfl ?_
    obtain ⟨v1, e2, h⟩ := gs_o1 h
    refine gs_callVi (pc := 7) C [] dX1_weigh_7 ml_X1_41 wy_X9_crowd (a_X9_crowd _ e2) (by decide) sh_3 (by decide) rfl rfl (Nat.le_of_ble_eq_true rfl) rfl ?_
    refine gs_icmp_ge (pc := 10) C 31 dX1_weigh_10 rfl (fun c3 => ?_) (fun c3 => ?_)
    · replace h := gs_ift c3 h
      obtain ⟨rfl, rfl, rfl⟩ := gs_i3 h
      exact k
    · replace h := gs_iff c3 h
      refine gs_aload_n (pc := 13) C 0 dX1_weigh_13 rfl rfl ?_
      refine gs_getq (pc := 14) C dX1_weigh_14 gk_1 fl_X1_22 sh_134 rfl ?_
      refine gs_iload_n (pc := 17) C 2 dX1_weigh_17 rfl rfl ?_
      refine gs_aload_n (pc := 18) C 0 dX1_weigh_18 rfl rfl ?_
      refine gs_iload_n (pc := 19) C 2 dX1_weigh_19 rfl rfl ?_
      refine gs_iload_n (pc := 20) C 1 dX1_weigh_20 rfl rfl ?_
      obtain ⟨v4, M5, e6, h⟩ := gs_o2 h
      refine gs_callVl (pc := 21) C [.int x2, .int x1] dX1_weigh_21 ml_X1_47 wy_X1_heldOf (a_X1_heldOf _ e6) (by decide) sh_134 (by decide) rfl rfl (Nat.le_of_ble_eq_true rfl) rfl ?_
      obtain ⟨L8, e7, h⟩ := gs_o1 h
      refine gs_last (pc := 24) C dX1_weigh_24 sh_138 e7 ?_
      refine gs_iinc (v := x2 + (1 : Int32)) (ls' := [(2, .int (x2 + (1 : Int32))), (0, .ref 134), (1, .int x1)]) (pc := 25) C 2 dX1_weigh_25 rfl rfl (by decide) rfl ?_
      refine gs_goto (pc := 28) C 2 dX1_weigh_28 rfl ?_
      exact gs_sub [1, 2, 0] rfl (ih _ _ _ h)
set_option maxRecDepth 100000 in
set_option maxHeartbeats 4000000 in
theorem a_X1_weigh (l : Launch) {M : gs_M} {L : gs_L} {x1 : Int32} {Mz : gs_M} {Lz : gs_L} (h : f_X1_weigh M L x1 = some (Mz, Lz)) : gs_Met l 6 yX1_weigh cX1_weigh 3 none [.ref 134, .int x1] M L none Mz Lz := by
  unfold f_X1_weigh at h
  refine gs_of RX1 (by decide) rfl (Nat.le_of_ble_eq_true rfl) (fun X C E => ?_)
  show gs_AW X 0 [(0, .ref 134), (1, .int x1)] [] M L
  refine gs_iconst (w := 0) (pc := 0) C dX1_weigh_0 rfl ?_
  refine gs_istore_n (ls' := [(2, .int (0 : Int32)), (0, .ref 134), (1, .int x1)]) (pc := 1) C dX1_weigh_1 rfl (by decide) rfl ?_
  obtain ⟨y1, M2, L3, e4, h⟩ := gs_o3 h
  refine gs_sub [1, 2, 0] rfl (t_X1_weigh_2 C ?_ gs_FU _ _ _ e4)
  obtain ⟨rfl, rfl⟩ := gs_i2 h
  exact gs_vret (pc := 31) C dX1_weigh_31 E
set_option maxRecDepth 100000 in
set_option maxHeartbeats 4000000 in
theorem a_X1_wakefulBy (l : Launch) {M : gs_M} {L : gs_L} {x1 : Int32} {x2 : Int32} {x3 : Int32} {x4 : Int32} {rv : Int32} {Mz : gs_M} (h : f_X1_wakefulBy M L x1 x2 x3 x4 = some (rv, Mz)) : gs_Met l 5 yX1_wakefulBy cX1_wakefulBy 7 (some .int) [.ref 134, .int x1, .int x2, .int x3, .int x4] M L (some (.int rv)) Mz L := by
  unfold f_X1_wakefulBy at h
  refine gs_of RX1 (by decide) rfl (Nat.le_of_ble_eq_true rfl) (fun X C E => ?_)
  show gs_AW X 0 [(0, .ref 134), (1, .int x1), (2, .int x2), (3, .int x3), (4, .int x4)] [] M L
  refine gs_aload_n (pc := 0) C 0 dX1_wakefulBy_0 rfl rfl ?_
  refine gs_getq (pc := 1) C dX1_wakefulBy_1 gk_1 fl_X1_22 sh_134 rfl ?_
  refine gs_iload_n (pc := 4) C 2 dX1_wakefulBy_4 rfl rfl ?_
  obtain ⟨v1, e2, h⟩ := gs_o1 h
  refine gs_lald (pc := 5) C dX1_wakefulBy_5 sh_138 e2 ?_
  refine gs_lconst (w := 0) (pc := 6) C dX1_wakefulBy_6 rfl ?_
  refine gs_lcmp (pc := 7) C dX1_wakefulBy_7 ?_
  have j13 : gs_AW X 16 [(0, .ref 134), (1, .int x1), (2, .int x2), (3, .int x3), (4, .int x4)] [.int (if (lg_cmp v1 (0 : Int64)) ≤ (0 : Int32) then (0 : Int32) else (1 : Int32) : Int32)] M L := by
    refine gs_istore (ls' := [(5, .int (if (lg_cmp v1 (0 : Int64)) ≤ (0 : Int32) then (0 : Int32) else (1 : Int32) : Int32)), (0, .ref 134), (1, .int x1), (2, .int x2), (3, .int x3), (4, .int x4)]) (pc := 16) C dX1_wakefulBy_16 (by decide) rfl ?_
    refine gs_aload_n (pc := 18) C 1 dX1_wakefulBy_18 rfl rfl ?_
    refine gs_getq (pc := 19) C dX1_wakefulBy_19 gk_1 fl_X1_33 sh_134 rfl ?_
    refine gs_iconst (w := 0) (pc := 22) C dX1_wakefulBy_22 rfl ?_
    refine gs_iload_n (pc := 23) C 3 dX1_wakefulBy_23 rfl rfl ?_
    refine gs_iload_n (pc := 24) C 4 dX1_wakefulBy_24 rfl rfl ?_
    obtain ⟨v3, M4, e5, h⟩ := gs_o2 h
    refine gs_callVi (pc := 25) C [.int (0 : Int32), .int x2, .int x3] dX1_wakefulBy_25 ml_X1_51 wy_X4_wakesWith (a_X4_wakesWith _ e5) (by decide) sh_105 (by decide) rfl rfl (Nat.le_of_ble_eq_true rfl) rfl ?_
    refine gs_iconst (w := 5) (pc := 28) C dX1_wakefulBy_28 rfl ?_
    have j11 : gs_AW X 41 [(0, .ref 134), (1, .int x1), (2, .int x2), (3, .int x3), (4, .int x4), (5, .int (if (lg_cmp v1 (0 : Int64)) ≤ (0 : Int32) then (0 : Int32) else (1 : Int32) : Int32))] [.int (if v3 < (5 : Int32) then (0 : Int32) else (x4 - (if (lg_cmp v1 (0 : Int64)) ≤ (0 : Int32) then (0 : Int32) else (1 : Int32) : Int32)) : Int32)] M4 L := by
      refine gs_istore (ls' := [(6, .int (if v3 < (5 : Int32) then (0 : Int32) else (x4 - (if (lg_cmp v1 (0 : Int64)) ≤ (0 : Int32) then (0 : Int32) else (1 : Int32) : Int32)) : Int32)), (0, .ref 134), (1, .int x1), (2, .int x2), (3, .int x3), (4, .int x4), (5, .int (if (lg_cmp v1 (0 : Int64)) ≤ (0 : Int32) then (0 : Int32) else (1 : Int32) : Int32))]) (pc := 41) C dX1_wakefulBy_41 (by decide) rfl ?_
      refine gs_aload_n (pc := 43) C 1 dX1_wakefulBy_43 rfl rfl ?_
      refine gs_getq (pc := 44) C dX1_wakefulBy_44 gk_1 fl_X1_33 sh_134 rfl ?_
      refine gs_iload_n (pc := 47) C 2 dX1_wakefulBy_47 rfl rfl ?_
      refine gs_iload_n (pc := 48) C 3 dX1_wakefulBy_48 rfl rfl ?_
      refine gs_iload_n (pc := 49) C 4 dX1_wakefulBy_49 rfl rfl ?_
      obtain ⟨v6, M7, e8, h⟩ := gs_o2 h
      refine gs_callVi (pc := 50) C [.int x1, .int x2, .int x3] dX1_wakefulBy_50 ml_X1_51 wy_X4_wakesWith (a_X4_wakesWith _ e8) (by decide) sh_105 (by decide) rfl rfl (Nat.le_of_ble_eq_true rfl) rfl ?_
      refine gs_iconst (w := 5) (pc := 53) C dX1_wakefulBy_53 rfl ?_
      have j9 : gs_AW X 67 [(0, .ref 134), (1, .int x1), (2, .int x2), (3, .int x3), (4, .int x4), (5, .int (if (lg_cmp v1 (0 : Int64)) ≤ (0 : Int32) then (0 : Int32) else (1 : Int32) : Int32)), (6, .int (if v3 < (5 : Int32) then (0 : Int32) else (x4 - (if (lg_cmp v1 (0 : Int64)) ≤ (0 : Int32) then (0 : Int32) else (1 : Int32) : Int32)) : Int32))] [.int (if v6 < (5 : Int32) then (if v3 < (5 : Int32) then (0 : Int32) else (x4 - (if (lg_cmp v1 (0 : Int64)) ≤ (0 : Int32) then (0 : Int32) else (1 : Int32) : Int32)) : Int32) else ((if v3 < (5 : Int32) then (0 : Int32) else (x4 - (if (lg_cmp v1 (0 : Int64)) ≤ (0 : Int32) then (0 : Int32) else (1 : Int32) : Int32)) : Int32) + (if (lg_cmp v1 (0 : Int64)) ≤ (0 : Int32) then (0 : Int32) else (1 : Int32) : Int32)) : Int32)] M7 L := by
        obtain ⟨rfl, rfl⟩ := gs_i2 h
        exact gs_iret (pc := 67) C dX1_wakefulBy_67 E
      refine gs_icmp_lt (pc := 54) C 65 dX1_wakefulBy_54 rfl (fun c10 => ?_) (fun c10 => ?_)
      · refine gs_iload (pc := 65) C 0 dX1_wakefulBy_65 rfl ?_
        simp only [if_pos c10] at j9
        exact gs_sub [1, 2, 3, 4, 5, 6, 0] rfl (j9)
      · refine gs_iload (pc := 57) C 0 dX1_wakefulBy_57 rfl ?_
        refine gs_iload (pc := 59) C 6 dX1_wakefulBy_59 rfl ?_
        refine gs_iadd (pc := 61) C dX1_wakefulBy_61 ?_
        refine gs_goto (pc := 62) C 67 dX1_wakefulBy_62 rfl ?_
        simp only [if_neg c10] at j9
        exact gs_sub [1, 2, 3, 4, 5, 6, 0] rfl (j9)
    refine gs_icmp_lt (pc := 29) C 40 dX1_wakefulBy_29 rfl (fun c12 => ?_) (fun c12 => ?_)
    · refine gs_iconst (w := 0) (pc := 40) C dX1_wakefulBy_40 rfl ?_
      simp only [if_pos c12] at j11
      exact gs_sub [1, 2, 3, 4, 5, 0] rfl (j11)
    · refine gs_iload (pc := 32) C 5 dX1_wakefulBy_32 rfl ?_
      refine gs_iload (pc := 34) C 0 dX1_wakefulBy_34 rfl ?_
      refine gs_isub (pc := 36) C dX1_wakefulBy_36 ?_
      refine gs_goto (pc := 37) C 41 dX1_wakefulBy_37 rfl ?_
      simp only [if_neg c12] at j11
      exact gs_sub [1, 2, 3, 4, 5, 0] rfl (j11)
  refine gs_if_le (pc := 8) C 15 dX1_wakefulBy_8 rfl (fun c14 => ?_) (fun c14 => ?_)
  · refine gs_iconst (w := 0) (pc := 15) C dX1_wakefulBy_15 rfl ?_
    simp only [if_pos c14] at j13
    exact j13
  · refine gs_iconst (w := 1) (pc := 11) C dX1_wakefulBy_11 rfl ?_
    refine gs_goto (pc := 12) C 16 dX1_wakefulBy_12 rfl ?_
    simp only [if_neg c14] at j13
    exact j13
set_option maxRecDepth 100000 in
set_option maxHeartbeats 4000000 in
theorem t_X1_nextLook_4 {X : gs_X} (C : gs_C X RX1 cX1_nextLook 8 (some .int) 6) {M : gs_M} {L : gs_L} {x1 : Int32} {o2 : Int32} {o3 : Int32} (k : gs_AW X 40 [(0, .ref 134), (1, .int x1), (2, .int o2), (3, .int o3)] [] M L) : ∀ (f : Nat) (x2 : Int32) (x3 : Int32), l_X1_nextLook_4 M L x1 f x2 x3 = some (o2, o3) → gs_AW X 4 [(0, .ref 134), (1, .int x1), (2, .int x2), (3, .int x3)] [] M L := by
  intro f
  induction f with
  | zero =>
    intro x2 x3 h
    cases h
  | succ f ih =>
    intro x2 x3 h
    rw [l_X1_nextLook_4] at h
    refine gs_iload_n (pc := 4) C 3 dX1_nextLook_4 rfl rfl ?_
    refine gs_aload_n (pc := 5) C 0 dX1_nextLook_5 rfl rfl ?_
    refine gs_getq (pc := 6) C dX1_nextLook_6 gk_1 fl_X1_29 sh_134 rfl ?_
    obtain ⟨v1, e2, h⟩ := gs_o1 h
    refine gs_callVi (pc := 9) C [] dX1_nextLook_9 ml_X1_41 wy_X9_crowd (a_X9_crowd _ e2) (by decide) sh_3 (by decide) rfl rfl (Nat.le_of_ble_eq_true rfl) rfl ?_
    refine gs_icmp_ge (pc := 12) C 40 dX1_nextLook_12 rfl (fun c3 => ?_) (fun c3 => ?_)
    · replace h := gs_ift c3 h
      obtain ⟨rfl, rfl⟩ := gs_i2 h
      exact k
    · replace h := gs_iff c3 h
      refine gs_iload_n (pc := 15) C 2 dX1_nextLook_15 rfl rfl ?_
      refine gs_aload_n (pc := 16) C 0 dX1_nextLook_16 rfl rfl ?_
      refine gs_getq (pc := 17) C dX1_nextLook_17 gk_1 fl_X1_22 sh_134 rfl ?_
      refine gs_iload_n (pc := 20) C 3 dX1_nextLook_20 rfl rfl ?_
      obtain ⟨v4, e5, h⟩ := gs_o1 h
      refine gs_lald (pc := 21) C dX1_nextLook_21 sh_138 e5 ?_
      refine gs_lconst (w := 0) (pc := 22) C dX1_nextLook_22 rfl ?_
      refine gs_lcmp (pc := 23) C dX1_nextLook_23 ?_
      have j6 : gs_AW X 32 [(0, .ref 134), (1, .int x1), (2, .int x2), (3, .int x3)] [.int (if (lg_cmp v4 (0 : Int64)) ≤ (0 : Int32) then (0 : Int32) else (1 : Int32) : Int32), .int x2] M L := by
        refine gs_iadd (pc := 32) C dX1_nextLook_32 ?_
        refine gs_istore_n (ls' := [(2, .int (x2 + (if (lg_cmp v4 (0 : Int64)) ≤ (0 : Int32) then (0 : Int32) else (1 : Int32) : Int32))), (0, .ref 134), (1, .int x1), (3, .int x3)]) (pc := 33) C dX1_nextLook_33 rfl (by decide) rfl ?_
        refine gs_iinc (v := x3 + (1 : Int32)) (ls' := [(3, .int (x3 + (1 : Int32))), (2, .int (x2 + (if (lg_cmp v4 (0 : Int64)) ≤ (0 : Int32) then (0 : Int32) else (1 : Int32) : Int32))), (0, .ref 134), (1, .int x1)]) (pc := 34) C 3 dX1_nextLook_34 rfl rfl (by decide) rfl ?_
        refine gs_goto (pc := 37) C 4 dX1_nextLook_37 rfl ?_
        exact gs_sub [2, 3, 1, 0] rfl (ih _ _ h)
      refine gs_if_le (pc := 24) C 31 dX1_nextLook_24 rfl (fun c7 => ?_) (fun c7 => ?_)
      · refine gs_iconst (w := 0) (pc := 31) C dX1_nextLook_31 rfl ?_
        simp only [if_pos c7] at j6
        exact j6
      · refine gs_iconst (w := 1) (pc := 27) C dX1_nextLook_27 rfl ?_
        refine gs_goto (pc := 28) C 32 dX1_nextLook_28 rfl ?_
        simp only [if_neg c7] at j6
        exact j6
set_option maxRecDepth 100000 in
set_option maxHeartbeats 4000000 in
theorem t_X1_nextLook_68 {X : gs_X} (C : gs_C X RX1 cX1_nextLook 8 (some .int) 6) {L : gs_L} {x1 : Int32} {x2 : Int32} {x5 : Int32} {o3 : Int32} {o4 : Int32} {o6 : Int32} {M' : gs_M} (k : gs_AW X 125 [(0, .ref 134), (1, .int x1), (2, .int x2), (3, .int o3), (4, .int o4), (5, .int x5), (6, .int o6)] [] M' L) : ∀ (f : Nat) (x3 : Int32) (x4 : Int32) (x6 : Int32) (M : gs_M), l_X1_nextLook_68 L x1 x2 x5 f x3 x4 x6 M = some (o3, o4, o6, M') → gs_AW X 68 [(0, .ref 134), (1, .int x1), (2, .int x2), (3, .int x3), (4, .int x4), (5, .int x5), (6, .int x6)] [] M L := by
  intro f
  induction f with
  | zero =>
    intro x3 x4 x6 M h
    cases h
  | succ f ih =>
    intro x3 x4 x6 M h
    rw [l_X1_nextLook_68] at h
    refine gs_iload (pc := 68) C 6 dX1_nextLook_68 rfl ?_
    refine gs_aload_n (pc := 70) C 0 dX1_nextLook_70 rfl rfl ?_
    refine gs_getq (pc := 71) C dX1_nextLook_71 gk_1 fl_X1_29 sh_134 rfl ?_
    obtain ⟨v1, e2, h⟩ := gs_o1 h
    refine gs_callVi (pc := 74) C [] dX1_nextLook_74 ml_X1_62 wy_X9_hours (a_X9_hours _ e2) (by decide) sh_3 (by decide) rfl rfl (Nat.le_of_ble_eq_true rfl) rfl ?_
    refine gs_icmp_ge (pc := 77) C 125 dX1_nextLook_77 rfl (fun c3 => ?_) (fun c3 => ?_)
    · replace h := gs_ift c3 h
      obtain ⟨rfl, rfl, rfl, rfl⟩ := gs_i4 h
      exact k
    · replace h := gs_iff c3 h
      refine gs_iload_n (pc := 80) C 2 dX1_nextLook_80 rfl rfl ?_
      refine gs_iconst (w := 2) (pc := 81) C dX1_nextLook_81 rfl ?_
      refine gs_aload_n (pc := 82) C 0 dX1_nextLook_82 rfl rfl ?_
      refine gs_iload_n (pc := 83) C 1 dX1_nextLook_83 rfl rfl ?_
      refine gs_iload (pc := 84) C 5 dX1_nextLook_84 rfl ?_
      refine gs_iload (pc := 86) C 6 dX1_nextLook_86 rfl ?_
      refine gs_iload_n (pc := 88) C 2 dX1_nextLook_88 rfl rfl ?_
      obtain ⟨v4, M5, e6, h⟩ := gs_o2 h
      refine gs_callVi (pc := 89) C [.int x1, .int x5, .int x6, .int x2] dX1_nextLook_89 ml_X1_64 wy_X1_wakefulBy (a_X1_wakefulBy _ e6) (by decide) sh_134 (by decide) rfl rfl (Nat.le_of_ble_eq_true rfl) rfl ?_
      refine gs_imul (pc := 92) C dX1_nextLook_92 ?_
      refine gs_isub (pc := 93) C dX1_nextLook_93 ?_
      refine gs_mabs (pc := 94) C dX1_nextLook_94 ml_X1_68 (Nat.le_of_ble_eq_true rfl) ?_
      refine gs_istore (ls' := [(7, .int (if 0 ≤ (x2 - ((2 : Int32) * v4)) then (x2 - ((2 : Int32) * v4)) else 0 - (x2 - ((2 : Int32) * v4)) : Int32)), (0, .ref 134), (1, .int x1), (2, .int x2), (3, .int x3), (4, .int x4), (5, .int x5), (6, .int x6)]) (pc := 97) C dX1_nextLook_97 (by decide) rfl ?_
      refine gs_iload (pc := 99) C 0 dX1_nextLook_99 rfl ?_
      refine gs_iload (pc := 101) C 5 dX1_nextLook_101 rfl ?_
      have j7 : gs_AW X 119 [(0, .ref 134), (1, .int x1), (2, .int x2), (3, .int (if x4 ≤ (if 0 ≤ (x2 - ((2 : Int32) * v4)) then (x2 - ((2 : Int32) * v4)) else 0 - (x2 - ((2 : Int32) * v4)) : Int32) then x3 else (((10 : Int32) * x5) + x6) : Int32)), (4, .int (if x4 ≤ (if 0 ≤ (x2 - ((2 : Int32) * v4)) then (x2 - ((2 : Int32) * v4)) else 0 - (x2 - ((2 : Int32) * v4)) : Int32) then x4 else (if 0 ≤ (x2 - ((2 : Int32) * v4)) then (x2 - ((2 : Int32) * v4)) else 0 - (x2 - ((2 : Int32) * v4)) : Int32) : Int32)), (5, .int x5), (6, .int x6), (7, .int (if 0 ≤ (x2 - ((2 : Int32) * v4)) then (x2 - ((2 : Int32) * v4)) else 0 - (x2 - ((2 : Int32) * v4)) : Int32))] [] M5 L := by
        refine gs_iinc (v := x6 + (1 : Int32)) (ls' := [(6, .int (x6 + (1 : Int32))), (0, .ref 134), (1, .int x1), (2, .int x2), (3, .int (if x4 ≤ (if 0 ≤ (x2 - ((2 : Int32) * v4)) then (x2 - ((2 : Int32) * v4)) else 0 - (x2 - ((2 : Int32) * v4)) : Int32) then x3 else (((10 : Int32) * x5) + x6) : Int32)), (4, .int (if x4 ≤ (if 0 ≤ (x2 - ((2 : Int32) * v4)) then (x2 - ((2 : Int32) * v4)) else 0 - (x2 - ((2 : Int32) * v4)) : Int32) then x4 else (if 0 ≤ (x2 - ((2 : Int32) * v4)) then (x2 - ((2 : Int32) * v4)) else 0 - (x2 - ((2 : Int32) * v4)) : Int32) : Int32)), (5, .int x5), (7, .int (if 0 ≤ (x2 - ((2 : Int32) * v4)) then (x2 - ((2 : Int32) * v4)) else 0 - (x2 - ((2 : Int32) * v4)) : Int32))]) (pc := 119) C 6 dX1_nextLook_119 rfl rfl (by decide) rfl ?_
        refine gs_goto (pc := 122) C 68 dX1_nextLook_122 rfl ?_
        exact gs_sub [1, 2, 3, 4, 5, 6, 0] rfl (ih _ _ _ _ h)
      refine gs_icmp_ge (pc := 103) C 119 dX1_nextLook_103 rfl (fun c8 => ?_) (fun c8 => ?_)
      · simp only [if_pos c8] at j7
        exact gs_sub [1, 2, 3, 4, 5, 6, 7, 0] rfl (j7)
      · refine gs_iload (pc := 106) C 0 dX1_nextLook_106 rfl ?_
        refine gs_istore (ls' := [(4, .int (if 0 ≤ (x2 - ((2 : Int32) * v4)) then (x2 - ((2 : Int32) * v4)) else 0 - (x2 - ((2 : Int32) * v4)) : Int32)), (7, .int (if 0 ≤ (x2 - ((2 : Int32) * v4)) then (x2 - ((2 : Int32) * v4)) else 0 - (x2 - ((2 : Int32) * v4)) : Int32)), (0, .ref 134), (1, .int x1), (2, .int x2), (3, .int x3), (5, .int x5), (6, .int x6)]) (pc := 108) C dX1_nextLook_108 (by decide) rfl ?_
        refine gs_bipush (w := 10) (pc := 110) C dX1_nextLook_110 rfl ?_
        refine gs_iload (pc := 112) C 6 dX1_nextLook_112 rfl ?_
        refine gs_imul (pc := 114) C dX1_nextLook_114 ?_
        refine gs_iload (pc := 115) C 7 dX1_nextLook_115 rfl ?_
        refine gs_iadd (pc := 117) C dX1_nextLook_117 ?_
        refine gs_istore_n (ls' := [(3, .int (((10 : Int32) * x5) + x6)), (4, .int (if 0 ≤ (x2 - ((2 : Int32) * v4)) then (x2 - ((2 : Int32) * v4)) else 0 - (x2 - ((2 : Int32) * v4)) : Int32)), (7, .int (if 0 ≤ (x2 - ((2 : Int32) * v4)) then (x2 - ((2 : Int32) * v4)) else 0 - (x2 - ((2 : Int32) * v4)) : Int32)), (0, .ref 134), (1, .int x1), (2, .int x2), (5, .int x5), (6, .int x6)]) (pc := 118) C dX1_nextLook_118 rfl (by decide) rfl ?_
        simp only [if_neg c8] at j7
        exact gs_sub [3, 4, 5, 0, 1, 6, 7, 2] rfl (j7)
set_option maxRecDepth 100000 in
set_option maxHeartbeats 4000000 in
theorem t_X1_nextLook_49 {X : gs_X} (C : gs_C X RX1 cX1_nextLook 8 (some .int) 6) {L : gs_L} {x1 : Int32} {x2 : Int32} {o3 : Int32} {o4 : Int32} {o5 : Int32} {M' : gs_M} (k : gs_AW X 131 [(0, .ref 134), (1, .int x1), (2, .int x2), (3, .int o3), (4, .int o4), (5, .int o5)] [] M' L) : ∀ (f : Nat) (x3 : Int32) (x4 : Int32) (x5 : Int32) (M : gs_M), l_X1_nextLook_49 L x1 x2 f x3 x4 x5 M = some (o3, o4, o5, M') → gs_AW X 49 [(0, .ref 134), (1, .int x1), (2, .int x2), (3, .int x3), (4, .int x4), (5, .int x5)] [] M L := by
  intro f
  induction f with
  | zero =>
    intro x3 x4 x5 M h
    cases h
  | succ f ih =>
    intro x3 x4 x5 M h
    rw [l_X1_nextLook_49] at h
    refine gs_iload (pc := 49) C 5 dX1_nextLook_49 rfl ?_
    refine gs_aload_n (pc := 51) C 0 dX1_nextLook_51 rfl rfl ?_
    refine gs_getq (pc := 52) C dX1_nextLook_52 gk_1 fl_X1_29 sh_134 rfl ?_
    obtain ⟨v1, e2, h⟩ := gs_o1 h
    refine gs_callVi (pc := 55) C [] dX1_nextLook_55 ml_X1_41 wy_X9_crowd (a_X9_crowd _ e2) (by decide) sh_3 (by decide) rfl rfl (Nat.le_of_ble_eq_true rfl) rfl ?_
    refine gs_icmp_ge (pc := 58) C 131 dX1_nextLook_58 rfl (fun c3 => ?_) (fun c3 => ?_)
    · replace h := gs_ift c3 h
      obtain ⟨rfl, rfl, rfl, rfl⟩ := gs_i4 h
      exact k
    · replace h := gs_iff c3 h
      refine gs_iload_n (pc := 61) C 2 dX1_nextLook_61 rfl rfl ?_
      refine gs_if_le (pc := 62) C 131 dX1_nextLook_62 rfl (fun c4 => ?_) (fun c4 => ?_)
      · replace h := gs_ift c4 h
        obtain ⟨rfl, rfl, rfl, rfl⟩ := gs_i4 h
        exact k
      · replace h := gs_iff c4 h
        refine gs_iconst (w := 0) (pc := 65) C dX1_nextLook_65 rfl ?_
        refine gs_istore (ls' := [(6, .int (0 : Int32)), (0, .ref 134), (1, .int x1), (2, .int x2), (3, .int x3), (4, .int x4), (5, .int x5)]) (pc := 66) C dX1_nextLook_66 (by decide) rfl ?_
        obtain ⟨y5, y6, y7, M8, e9, h⟩ := gs_o4 h
        refine gs_sub [1, 2, 3, 4, 5, 6, 0] rfl (t_X1_nextLook_68 C ?_ gs_FU _ _ _ _ e9)
        refine gs_iinc (v := x5 + (1 : Int32)) (ls' := [(5, .int (x5 + (1 : Int32))), (0, .ref 134), (1, .int x1), (2, .int x2), (3, .int y5), (4, .int y6), (6, .int y7)]) (pc := 125) C 5 dX1_nextLook_125 rfl rfl (by decide) rfl ?_
        refine gs_goto (pc := 128) C 49 dX1_nextLook_128 rfl ?_
        exact gs_sub [1, 2, 3, 4, 5, 0] rfl (ih _ _ _ _ h)
set_option maxRecDepth 100000 in
set_option maxHeartbeats 4000000 in
theorem a_X1_nextLook (l : Launch) {M : gs_M} {L : gs_L} {x1 : Int32} {rv : Int32} {Mz : gs_M} (h : f_X1_nextLook M L x1 = some (rv, Mz)) : gs_Met l 6 yX1_nextLook cX1_nextLook 8 (some .int) [.ref 134, .int x1] M L (some (.int rv)) Mz L := by
  unfold f_X1_nextLook at h
  refine gs_of RX1 (by decide) rfl (Nat.le_of_ble_eq_true rfl) (fun X C E => ?_)
  show gs_AW X 0 [(0, .ref 134), (1, .int x1)] [] M L
  refine gs_iconst (w := 0) (pc := 0) C dX1_nextLook_0 rfl ?_
  refine gs_istore_n (ls' := [(2, .int (0 : Int32)), (0, .ref 134), (1, .int x1)]) (pc := 1) C dX1_nextLook_1 rfl (by decide) rfl ?_
  refine gs_iconst (w := 0) (pc := 2) C dX1_nextLook_2 rfl ?_
  refine gs_istore_n (ls' := [(3, .int (0 : Int32)), (2, .int (0 : Int32)), (0, .ref 134), (1, .int x1)]) (pc := 3) C dX1_nextLook_3 rfl (by decide) rfl ?_
  obtain ⟨y1, y2, e3, h⟩ := gs_o2 h
  refine gs_sub [2, 3, 1, 0] rfl (t_X1_nextLook_4 C ?_ gs_FU _ _ e3)
  refine gs_iconst (w := (-1)) (pc := 40) C dX1_nextLook_40 rfl ?_
  refine gs_istore_n (ls' := [(3, .int (-1 : Int32)), (0, .ref 134), (1, .int x1), (2, .int y1)]) (pc := 41) C dX1_nextLook_41 rfl (by decide) rfl ?_
  refine gs_bipush (w := 9) (pc := 42) C dX1_nextLook_42 rfl ?_
  refine gs_istore (ls' := [(4, .int (9 : Int32)), (3, .int (-1 : Int32)), (0, .ref 134), (1, .int x1), (2, .int y1)]) (pc := 44) C dX1_nextLook_44 (by decide) rfl ?_
  refine gs_iconst (w := 0) (pc := 46) C dX1_nextLook_46 rfl ?_
  refine gs_istore (ls' := [(5, .int (0 : Int32)), (4, .int (9 : Int32)), (3, .int (-1 : Int32)), (0, .ref 134), (1, .int x1), (2, .int y1)]) (pc := 47) C dX1_nextLook_47 (by decide) rfl ?_
  obtain ⟨y4, y5, y6, M7, e8, h⟩ := gs_o4 h
  refine gs_sub [3, 4, 5, 2, 1, 0] rfl (t_X1_nextLook_49 C ?_ gs_FU _ _ _ _ e8)
  refine gs_iload_n (pc := 131) C 3 dX1_nextLook_131 rfl rfl ?_
  obtain ⟨rfl, rfl⟩ := gs_i2 h
  exact gs_iret (pc := 132) C dX1_nextLook_132 E
set_option maxRecDepth 100000 in
set_option maxHeartbeats 4000000 in
theorem t_X1_likeliestOne_4 {X : gs_X} (C : gs_C X RX1 cX1_likeliestOne 3 (some .int) 1) {M : gs_M} {L : gs_L} {o1 : Int32} {o2 : Int32} (k : gs_AW X 39 [(0, .ref 134), (1, .int o1), (2, .int o2)] [] M L) : ∀ (f : Nat) (x1 : Int32) (x2 : Int32), l_X1_likeliestOne_4 M L f x1 x2 = some (o1, o2) → gs_AW X 4 [(0, .ref 134), (1, .int x1), (2, .int x2)] [] M L := by
  intro f
  induction f with
  | zero =>
    intro x1 x2 h
    cases h
  | succ f ih =>
    intro x1 x2 h
    rw [l_X1_likeliestOne_4] at h
    refine gs_iload_n (pc := 4) C 2 dX1_likeliestOne_4 rfl rfl ?_
    refine gs_aload_n (pc := 5) C 0 dX1_likeliestOne_5 rfl rfl ?_
    refine gs_getq (pc := 6) C dX1_likeliestOne_6 gk_1 fl_X1_29 sh_134 rfl ?_
    obtain ⟨v1, e2, h⟩ := gs_o1 h
    refine gs_callVi (pc := 9) C [] dX1_likeliestOne_9 ml_X1_41 wy_X9_crowd (a_X9_crowd _ e2) (by decide) sh_3 (by decide) rfl rfl (Nat.le_of_ble_eq_true rfl) rfl ?_
    refine gs_icmp_ge (pc := 12) C 39 dX1_likeliestOne_12 rfl (fun c3 => ?_) (fun c3 => ?_)
    · replace h := gs_ift c3 h
      obtain ⟨rfl, rfl⟩ := gs_i2 h
      exact k
    · replace h := gs_iff c3 h
      refine gs_aload_n (pc := 15) C 0 dX1_likeliestOne_15 rfl rfl ?_
      refine gs_getq (pc := 16) C dX1_likeliestOne_16 gk_1 fl_X1_22 sh_134 rfl ?_
      refine gs_iload_n (pc := 19) C 2 dX1_likeliestOne_19 rfl rfl ?_
      obtain ⟨v4, e5, h⟩ := gs_o1 h
      refine gs_lald (pc := 20) C dX1_likeliestOne_20 sh_138 e5 ?_
      refine gs_aload_n (pc := 21) C 0 dX1_likeliestOne_21 rfl rfl ?_
      refine gs_getq (pc := 22) C dX1_likeliestOne_22 gk_1 fl_X1_22 sh_134 rfl ?_
      refine gs_iload_n (pc := 25) C 1 dX1_likeliestOne_25 rfl rfl ?_
      obtain ⟨v6, e7, h⟩ := gs_o1 h
      refine gs_lald (pc := 26) C dX1_likeliestOne_26 sh_138 e7 ?_
      refine gs_lcmp (pc := 27) C dX1_likeliestOne_27 ?_
      have j8 : gs_AW X 33 [(0, .ref 134), (1, .int (if (lg_cmp v4 v6) ≤ (0 : Int32) then x1 else x2 : Int32)), (2, .int x2)] [] M L := by
        refine gs_iinc (v := x2 + (1 : Int32)) (ls' := [(2, .int (x2 + (1 : Int32))), (0, .ref 134), (1, .int (if (lg_cmp v4 v6) ≤ (0 : Int32) then x1 else x2 : Int32))]) (pc := 33) C 2 dX1_likeliestOne_33 rfl rfl (by decide) rfl ?_
        refine gs_goto (pc := 36) C 4 dX1_likeliestOne_36 rfl ?_
        exact gs_sub [1, 2, 0] rfl (ih _ _ h)
      refine gs_if_le (pc := 28) C 33 dX1_likeliestOne_28 rfl (fun c9 => ?_) (fun c9 => ?_)
      · simp only [if_pos c9] at j8
        exact j8
      · refine gs_iload_n (pc := 31) C 2 dX1_likeliestOne_31 rfl rfl ?_
        refine gs_istore_n (ls' := [(1, .int x2), (0, .ref 134), (2, .int x2)]) (pc := 32) C dX1_likeliestOne_32 rfl (by decide) rfl ?_
        simp only [if_neg c9] at j8
        exact gs_sub [1, 0, 2] rfl (j8)
set_option maxRecDepth 100000 in
set_option maxHeartbeats 4000000 in
theorem a_X1_likeliestOne (l : Launch) {M : gs_M} {L : gs_L} {rv : Int32} (h : f_X1_likeliestOne M L = some (rv)) : gs_Met l 1 yX1_likeliestOne cX1_likeliestOne 3 (some .int) [.ref 134] M L (some (.int rv)) M L := by
  unfold f_X1_likeliestOne at h
  refine gs_of RX1 (by decide) rfl (Nat.le_of_ble_eq_true rfl) (fun X C E => ?_)
  show gs_AW X 0 [(0, .ref 134)] [] M L
  refine gs_iconst (w := 0) (pc := 0) C dX1_likeliestOne_0 rfl ?_
  refine gs_istore_n (ls' := [(1, .int (0 : Int32)), (0, .ref 134)]) (pc := 1) C dX1_likeliestOne_1 rfl (by decide) rfl ?_
  refine gs_iconst (w := 1) (pc := 2) C dX1_likeliestOne_2 rfl ?_
  refine gs_istore_n (ls' := [(2, .int (1 : Int32)), (1, .int (0 : Int32)), (0, .ref 134)]) (pc := 3) C dX1_likeliestOne_3 rfl (by decide) rfl ?_
  obtain ⟨y1, y2, e3, h⟩ := gs_o2 h
  refine gs_sub [2, 1, 0] rfl (t_X1_likeliestOne_4 C ?_ gs_FU _ _ e3)
  refine gs_iload_n (pc := 39) C 1 dX1_likeliestOne_39 rfl rfl ?_
  obtain rfl := gs_i1 h
  exact gs_iret (pc := 40) C dX1_likeliestOne_40 E
