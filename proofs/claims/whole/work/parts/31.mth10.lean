set_option maxRecDepth 100000 in
set_option maxHeartbeats 4000000 in
theorem a_X12_watchedBy (l : Launch) {M : gs_M} {L : gs_L} {x1 : Int32} {x2 : Int32} {rv : Int32} (h : f_X12_watchedBy M x1 x2 = some (rv)) : gs_Met l 0 yX12_watchedBy cX12_watchedBy 4 (some .int) [.ref 147, .int x1, .int x2] M L (some (.int rv)) M L := by
  unfold f_X12_watchedBy at h
  refine gs_of RX12 (by decide) rfl (Nat.le_of_ble_eq_true rfl) (fun X C E => ?_)
  show gs_AW X 0 [(0, .ref 147), (1, .int x1), (2, .int x2)] [] M L
  refine gs_iload_n (pc := 0) C 1 dX12_watchedBy_0 rfl rfl ?_
  refine gs_iconst (w := (-1)) (pc := 1) C dX12_watchedBy_1 rfl ?_
  refine gs_icmp_eq (pc := 2) C 15 dX12_watchedBy_2 rfl (fun c1 => ?_) (fun c1 => ?_)
  · replace h := gs_ift c1 h
    refine gs_iconst (w := (-1)) (pc := 15) C dX12_watchedBy_15 rfl ?_
    obtain rfl := gs_i1 h
    exact gs_iret (pc := 16) C dX12_watchedBy_16 E
  · replace h := gs_iff c1 h
    refine gs_iload_n (pc := 5) C 2 dX12_watchedBy_5 rfl rfl ?_
    refine gs_aload_n (pc := 6) C 0 dX12_watchedBy_6 rfl rfl ?_
    refine gs_getq (pc := 7) C dX12_watchedBy_7 gk_12 fl_X12_52 sh_147 rfl ?_
    refine gs_iload_n (pc := 10) C 1 dX12_watchedBy_10 rfl rfl ?_
    obtain ⟨v2, e3, h⟩ := gs_o1 h
    refine gs_iald (pc := 11) C dX12_watchedBy_11 sh_157 e3 ?_
    refine gs_icmp_lt (pc := 12) C 17 dX12_watchedBy_12 rfl (fun c4 => ?_) (fun c4 => ?_)
    · replace h := gs_ift c4 h
      refine gs_aload_n (pc := 17) C 0 dX12_watchedBy_17 rfl rfl ?_
      refine gs_getq (pc := 18) C dX12_watchedBy_18 gk_12 fl_X12_49 sh_147 rfl ?_
      refine gs_bipush (w := 9) (pc := 21) C dX12_watchedBy_21 rfl ?_
      refine gs_iload_n (pc := 23) C 1 dX12_watchedBy_23 rfl rfl ?_
      refine gs_imul (pc := 24) C dX12_watchedBy_24 ?_
      refine gs_iload_n (pc := 25) C 2 dX12_watchedBy_25 rfl rfl ?_
      refine gs_iadd (pc := 26) C dX12_watchedBy_26 ?_
      obtain ⟨v5, e6, h⟩ := gs_o1 h
      refine gs_iald (pc := 27) C dX12_watchedBy_27 sh_156 e6 ?_
      refine gs_istore_n (ls' := [(3, .int v5), (0, .ref 147), (1, .int x1), (2, .int x2)]) (pc := 28) C dX12_watchedBy_28 rfl (by decide) rfl ?_
      refine gs_iload_n (pc := 29) C 0 dX12_watchedBy_29 rfl rfl ?_
      refine gs_bipush (w := 9) (pc := 30) C dX12_watchedBy_30 rfl ?_
      have j7 : gs_AW X 40 [(0, .ref 147), (1, .int x1), (2, .int x2), (3, .int v5)] [.int (if v5 = (9 : Int32) then (-1 : Int32) else v5 : Int32)] M L := by
        obtain rfl := gs_i1 h
        exact gs_iret (pc := 40) C dX12_watchedBy_40 E
      refine gs_icmp_ne (pc := 32) C 39 dX12_watchedBy_32 rfl (fun c8 => ?_) (fun c8 => ?_)
      · refine gs_iload_n (pc := 39) C 0 dX12_watchedBy_39 rfl rfl ?_
        simp only [if_neg c8] at j7
        exact gs_sub [1, 2, 3, 0] rfl (j7)
      · refine gs_iconst (w := (-1)) (pc := 35) C dX12_watchedBy_35 rfl ?_
        refine gs_goto (pc := 36) C 40 dX12_watchedBy_36 rfl ?_
        simp only [if_pos c8] at j7
        exact gs_sub [1, 2, 3, 0] rfl (j7)
    · replace h := gs_iff c4 h
      refine gs_iconst (w := (-1)) (pc := 15) C dX12_watchedBy_15 rfl ?_
      obtain rfl := gs_i1 h
      exact gs_iret (pc := 16) C dX12_watchedBy_16 E
set_option maxRecDepth 100000 in
set_option maxHeartbeats 4000000 in
theorem a_X12_draw (l : Launch) {M : gs_M} {L : gs_L} {x1 : Int32} {rv : Int32} {Lz : gs_L} (h : f_X12_draw L x1 = some (rv, Lz)) : gs_Met l 0 yX12_draw cX12_draw 2 (some .int) [.ref 147, .int x1] M L (some (.int rv)) M Lz := by
  unfold f_X12_draw at h
  refine gs_of RX12 (by decide) rfl (Nat.le_of_ble_eq_true rfl) (fun X C E => ?_)
  show gs_AW X 0 [(0, .ref 147), (1, .int x1)] [] M L
  refine gs_aload_n (pc := 0) C 0 dX12_draw_0 rfl rfl ?_
  refine gs_aload_n (pc := 1) C 0 dX12_draw_1 rfl rfl ?_
  refine gs_getl (pc := 2) C dX12_draw_2 gk_12 fl_X12_326 sh_147 rfl ?_
  refine gs_ldc2 (pc := 5) C dX12_draw_5 wj_X12_330 ?_
  refine gs_lmul (pc := 8) C dX12_draw_8 ?_
  refine gs_ldc2 (pc := 9) C dX12_draw_9 wj_X12_332 ?_
  refine gs_ladd (pc := 12) C dX12_draw_12 ?_
  obtain ⟨L2, e1, h⟩ := gs_o1 h
  refine gs_putl' (pc := 13) C dX12_draw_13 gk_12 fp_X12_326 sh_147 rfl e1 ?_
  refine gs_aload_n (pc := 16) C 0 dX12_draw_16 rfl rfl ?_
  refine gs_getl (pc := 17) C dX12_draw_17 gk_12 fl_X12_326 sh_147 rfl ?_
  refine gs_bipush (w := 33) (pc := 20) C dX12_draw_20 rfl ?_
  refine gs_lushr (pc := 22) C dX12_draw_22 ?_
  refine gs_iload_n (pc := 23) C 1 dX12_draw_23 rfl rfl ?_
  refine gs_i2l (pc := 24) C dX12_draw_24 ?_
  obtain ⟨v3, e4, h⟩ := gs_o1 h
  refine gs_lrem' (pc := 25) C dX12_draw_25 e4 ?_
  refine gs_l2i (pc := 26) C dX12_draw_26 ?_
  obtain ⟨rfl, rfl⟩ := gs_i2 h
  exact gs_iret (pc := 27) C dX12_draw_27 E
set_option maxRecDepth 100000 in
set_option maxHeartbeats 4000000 in
theorem t_X12_write_15 {X : gs_X} (C : gs_C X RX12 cX12_write 5 none 1) {L : gs_L} {x1 : Int32} {x2 : Int32} {x3 : Int32} {o4 : Int32} {M' : gs_M} (k : gs_AW X 51 [(0, .ref 147), (1, .int x1), (2, .int x2), (3, .int x3), (4, .int o4)] [] M' L) : ∀ (f : Nat) (x4 : Int32) (M : gs_M), l_X12_write_15 x1 x2 x3 f x4 M = some (o4, M') → gs_AW X 15 [(0, .ref 147), (1, .int x1), (2, .int x2), (3, .int x3), (4, .int x4)] [] M L := by
  intro f
  induction f with
  | zero =>
    intro x4 M h
    cases h
  | succ f ih =>
    intro x4 M h
    rw [l_X12_write_15] at h
    refine gs_iload (pc := 15) C 4 dX12_write_15 rfl ?_
    refine gs_sipush (w := 295) (pc := 17) C dX12_write_17 rfl ?_
    refine gs_icmp_gt (pc := 20) C 51 dX12_write_20 rfl (fun c1 => ?_) (fun c1 => ?_)
    · replace h := gs_ift c1 h
      obtain ⟨rfl, rfl⟩ := gs_i2 h
      exact k
    · replace h := gs_iff c1 h
      refine gs_aload_n (pc := 23) C 0 dX12_write_23 rfl rfl ?_
      refine gs_getq (pc := 24) C dX12_write_24 gk_12 fl_X12_55 sh_147 rfl ?_
      refine gs_bipush (w := 51) (pc := 27) C dX12_write_27 rfl ?_
      refine gs_iload (pc := 29) C 4 dX12_write_29 rfl ?_
      refine gs_iadd (pc := 31) C dX12_write_31 ?_
      refine gs_aload_n (pc := 32) C 0 dX12_write_32 rfl rfl ?_
      refine gs_getq (pc := 33) C dX12_write_33 gk_12 fl_X12_55 sh_147 rfl ?_
      refine gs_bipush (w := 51) (pc := 36) C dX12_write_36 rfl ?_
      refine gs_iload (pc := 38) C 4 dX12_write_38 rfl ?_
      refine gs_iadd (pc := 40) C dX12_write_40 ?_
      refine gs_iconst (w := 5) (pc := 41) C dX12_write_41 rfl ?_
      refine gs_iadd (pc := 42) C dX12_write_42 ?_
      obtain ⟨v2, e3, h⟩ := gs_o1 h
      refine gs_iald (pc := 43) C dX12_write_43 sh_158 e3 ?_
      obtain ⟨M5, e4, h⟩ := gs_o1 h
      refine gs_iast (pc := 44) C dX12_write_44 sh_158 e4 ?_
      refine gs_iinc (v := x4 + (1 : Int32)) (ls' := [(4, .int (x4 + (1 : Int32))), (0, .ref 147), (1, .int x1), (2, .int x2), (3, .int x3)]) (pc := 45) C 4 dX12_write_45 rfl rfl (by decide) rfl ?_
      refine gs_goto (pc := 48) C 15 dX12_write_48 rfl ?_
      exact gs_sub [1, 2, 3, 4, 0] rfl (ih _ _ h)
set_option maxRecDepth 100000 in
set_option maxHeartbeats 4000000 in
theorem a_X12_write (l : Launch) {M : gs_M} {L : gs_L} {x1 : Int32} {x2 : Int32} {x3 : Int32} {Mz : gs_M} (h : f_X12_write M x1 x2 x3 = some (Mz)) : gs_Met l 1 yX12_write cX12_write 5 none [.ref 147, .int x1, .int x2, .int x3] M L none Mz L := by
  unfold f_X12_write at h
  refine gs_of RX12 (by decide) rfl (Nat.le_of_ble_eq_true rfl) (fun X C E => ?_)
  show gs_AW X 0 [(0, .ref 147), (1, .int x1), (2, .int x2), (3, .int x3)] [] M L
  refine gs_aload_n (pc := 0) C 0 dX12_write_0 rfl rfl ?_
  refine gs_getq (pc := 1) C dX12_write_1 gk_12 fl_X12_55 sh_147 rfl ?_
  refine gs_bipush (w := 51) (pc := 4) C dX12_write_4 rfl ?_
  obtain ⟨v1, e2, h⟩ := gs_o1 h
  refine gs_iald (pc := 6) C dX12_write_6 sh_158 e2 ?_
  refine gs_bipush (w := 60) (pc := 7) C dX12_write_7 rfl ?_
  obtain ⟨M3, e4, h⟩ := gs_o1 h
  have j5 : gs_AW X 62 [(0, .ref 147), (1, .int x1), (2, .int x2), (3, .int x3)] [] M3 L := by
    refine gs_bipush (w := 52) (pc := 62) C dX12_write_62 rfl ?_
    refine gs_iconst (w := 5) (pc := 64) C dX12_write_64 rfl ?_
    refine gs_aload_n (pc := 65) C 0 dX12_write_65 rfl rfl ?_
    refine gs_getq (pc := 66) C dX12_write_66 gk_12 fl_X12_55 sh_147 rfl ?_
    refine gs_bipush (w := 51) (pc := 69) C dX12_write_69 rfl ?_
    obtain ⟨v14, e15, h⟩ := gs_o1 h
    refine gs_iald (pc := 71) C dX12_write_71 sh_158 e15 ?_
    refine gs_imul (pc := 72) C dX12_write_72 ?_
    refine gs_iadd (pc := 73) C dX12_write_73 ?_
    refine gs_istore (ls' := [(4, .int ((52 : Int32) + ((5 : Int32) * v14))), (0, .ref 147), (1, .int x1), (2, .int x2), (3, .int x3)]) (pc := 74) C dX12_write_74 (by decide) rfl ?_
    refine gs_aload_n (pc := 76) C 1 dX12_write_76 rfl rfl ?_
    refine gs_getq (pc := 77) C dX12_write_77 gk_12 fl_X12_55 sh_147 rfl ?_
    refine gs_iload (pc := 80) C 0 dX12_write_80 rfl ?_
    refine gs_aload_n (pc := 82) C 1 dX12_write_82 rfl rfl ?_
    refine gs_getq (pc := 83) C dX12_write_83 gk_12 fl_X12_55 sh_147 rfl ?_
    refine gs_bipush (w := 48) (pc := 86) C dX12_write_86 rfl ?_
    obtain ⟨v16, e17, h⟩ := gs_o1 h
    refine gs_iald (pc := 88) C dX12_write_88 sh_158 e17 ?_
    obtain ⟨M19, e18, h⟩ := gs_o1 h
    refine gs_iast (pc := 89) C dX12_write_89 sh_158 e18 ?_
    refine gs_aload_n (pc := 90) C 1 dX12_write_90 rfl rfl ?_
    refine gs_getq (pc := 91) C dX12_write_91 gk_12 fl_X12_55 sh_147 rfl ?_
    refine gs_iload (pc := 94) C 0 dX12_write_94 rfl ?_
    refine gs_iconst (w := 1) (pc := 96) C dX12_write_96 rfl ?_
    refine gs_iadd (pc := 97) C dX12_write_97 ?_
    refine gs_iload_n (pc := 98) C 2 dX12_write_98 rfl rfl ?_
    obtain ⟨M21, e20, h⟩ := gs_o1 h
    refine gs_iast (pc := 99) C dX12_write_99 sh_158 e20 ?_
    refine gs_aload_n (pc := 100) C 1 dX12_write_100 rfl rfl ?_
    refine gs_getq (pc := 101) C dX12_write_101 gk_12 fl_X12_55 sh_147 rfl ?_
    refine gs_iload (pc := 104) C 0 dX12_write_104 rfl ?_
    refine gs_iconst (w := 2) (pc := 106) C dX12_write_106 rfl ?_
    refine gs_iadd (pc := 107) C dX12_write_107 ?_
    refine gs_iload_n (pc := 108) C 3 dX12_write_108 rfl rfl ?_
    obtain ⟨M23, e22, h⟩ := gs_o1 h
    refine gs_iast (pc := 109) C dX12_write_109 sh_158 e22 ?_
    refine gs_aload_n (pc := 110) C 1 dX12_write_110 rfl rfl ?_
    refine gs_getq (pc := 111) C dX12_write_111 gk_12 fl_X12_55 sh_147 rfl ?_
    refine gs_iload (pc := 114) C 0 dX12_write_114 rfl ?_
    refine gs_iconst (w := 3) (pc := 116) C dX12_write_116 rfl ?_
    refine gs_iadd (pc := 117) C dX12_write_117 ?_
    refine gs_iload_n (pc := 118) C 4 dX12_write_118 rfl rfl ?_
    obtain ⟨M25, e24, h⟩ := gs_o1 h
    refine gs_iast (pc := 119) C dX12_write_119 sh_158 e24 ?_
    refine gs_aload_n (pc := 120) C 1 dX12_write_120 rfl rfl ?_
    refine gs_getq (pc := 121) C dX12_write_121 gk_12 fl_X12_55 sh_147 rfl ?_
    refine gs_iload (pc := 124) C 0 dX12_write_124 rfl ?_
    refine gs_iconst (w := 4) (pc := 126) C dX12_write_126 rfl ?_
    refine gs_iadd (pc := 127) C dX12_write_127 ?_
    refine gs_aload_n (pc := 128) C 1 dX12_write_128 rfl rfl ?_
    refine gs_iload_n (pc := 129) C 3 dX12_write_129 rfl rfl ?_
    refine gs_iconst (w := 2) (pc := 130) C dX12_write_130 rfl ?_
    obtain ⟨v26, e27, h⟩ := gs_o1 h
    refine gs_callVi (pc := 131) C [.int x2, .int (2 : Int32)] dX12_write_131 ml_X12_301 wy_X12_of (a_X12_of _ e27) (by decide) sh_147 (by decide) rfl rfl (Nat.le_of_ble_eq_true rfl) rfl ?_
    obtain ⟨M29, e28, h⟩ := gs_o1 h
    refine gs_iast (pc := 134) C dX12_write_134 sh_158 e28 ?_
    refine gs_aload_n (pc := 135) C 1 dX12_write_135 rfl rfl ?_
    refine gs_getq (pc := 136) C dX12_write_136 gk_12 fl_X12_55 sh_147 rfl ?_
    refine gs_bipush (w := 51) (pc := 139) C dX12_write_139 rfl ?_
    refine gs_dup2 (pc := 141) C dX12_write_141 rfl rfl ?_
    obtain ⟨v30, e31, h⟩ := gs_o1 h
    refine gs_iald (pc := 142) C dX12_write_142 sh_158 e31 ?_
    refine gs_iconst (w := 1) (pc := 143) C dX12_write_143 rfl ?_
    refine gs_iadd (pc := 144) C dX12_write_144 ?_
    obtain ⟨M33, e32, h⟩ := gs_o1 h
    refine gs_iast (pc := 145) C dX12_write_145 sh_158 e32 ?_
    obtain rfl := gs_i1 h
    exact gs_vret (pc := 146) C dX12_write_146 E
  refine gs_icmp_ne (pc := 9) C 62 dX12_write_9 rfl (fun c6 => ?_) (fun c6 => ?_)
  · replace e4 := gs_iff c6 e4
    obtain rfl := gs_i1 e4
    exact j5
  · replace e4 := gs_ift c6 e4
    refine gs_iconst (w := 1) (pc := 12) C dX12_write_12 rfl ?_
    refine gs_istore (ls' := [(4, .int (1 : Int32)), (0, .ref 147), (1, .int x1), (2, .int x2), (3, .int x3)]) (pc := 13) C dX12_write_13 (by decide) rfl ?_
    obtain ⟨y7, M8, e9, e4⟩ := gs_o2 e4
    refine gs_sub [1, 2, 3, 4, 0] rfl (t_X12_write_15 C ?_ gs_FU _ _ e9)
    refine gs_aload_n (pc := 51) C 0 dX12_write_51 rfl rfl ?_
    refine gs_getq (pc := 52) C dX12_write_52 gk_12 fl_X12_55 sh_147 rfl ?_
    refine gs_bipush (w := 51) (pc := 55) C dX12_write_55 rfl ?_
    refine gs_dup2 (pc := 57) C dX12_write_57 rfl rfl ?_
    obtain ⟨v10, e11, e4⟩ := gs_o1 e4
    refine gs_iald (pc := 58) C dX12_write_58 sh_158 e11 ?_
    refine gs_iconst (w := 1) (pc := 59) C dX12_write_59 rfl ?_
    refine gs_isub (pc := 60) C dX12_write_60 ?_
    obtain ⟨M13, e12, e4⟩ := gs_o1 e4
    refine gs_iast (pc := 61) C dX12_write_61 sh_158 e12 ?_
    obtain rfl := gs_i1 e4
    exact gs_sub [0, 1, 2, 3] rfl (j5)
set_option maxRecDepth 100000 in
set_option maxHeartbeats 4000000 in
theorem t_X12_goNight_2 {X : gs_X} (C : gs_C X RX12 cX12_goNight 5 none 81) {L : gs_L} {o1 : Int32} {M' : gs_M} (k : gs_AW X 23 [(0, .ref 147), (1, .int o1)] [] M' L) : ∀ (f : Nat) (x1 : Int32) (M : gs_M), l_X12_goNight_2 L f x1 M = some (o1, M') → gs_AW X 2 [(0, .ref 147), (1, .int x1)] [] M L := by
  intro f
  induction f with
  | zero =>
    intro x1 M h
    cases h
  | succ f ih =>
    intro x1 M h
    rw [l_X12_goNight_2] at h
    refine gs_iload_n (pc := 2) C 1 dX12_goNight_2 rfl rfl ?_
    refine gs_aload_n (pc := 3) C 0 dX12_goNight_3 rfl rfl ?_
    refine gs_geti (pc := 4) C dX12_goNight_4 gk_12 fl_X12_286 sh_147 rfl ?_
    refine gs_icmp_ge (pc := 7) C 23 dX12_goNight_7 rfl (fun c1 => ?_) (fun c1 => ?_)
    · replace h := gs_ift c1 h
      obtain ⟨rfl, rfl⟩ := gs_i2 h
      exact k
    · replace h := gs_iff c1 h
      refine gs_aload_n (pc := 10) C 0 dX12_goNight_10 rfl rfl ?_
      refine gs_getq (pc := 11) C dX12_goNight_11 gk_12 fl_X12_65 sh_147 rfl ?_
      refine gs_iload_n (pc := 14) C 1 dX12_goNight_14 rfl rfl ?_
      refine gs_iconst (w := 0) (pc := 15) C dX12_goNight_15 rfl ?_
      obtain ⟨M3, e2, h⟩ := gs_o1 h
      refine gs_iast (pc := 16) C dX12_goNight_16 sh_159 e2 ?_
      refine gs_iinc (v := x1 + (1 : Int32)) (ls' := [(1, .int (x1 + (1 : Int32))), (0, .ref 147)]) (pc := 17) C 1 dX12_goNight_17 rfl rfl (by decide) rfl ?_
      refine gs_goto (pc := 20) C 2 dX12_goNight_20 rfl ?_
      exact gs_sub [1, 0] rfl (ih _ _ h)
set_option maxRecDepth 100000 in
set_option maxHeartbeats 4000000 in
theorem t_X12_goNight_47 {X : gs_X} (C : gs_C X RX12 cX12_goNight 5 none 81) {x1 : Int32} {x2 : Int32} {o3 : Int32} {M' : gs_M} {L' : gs_L} (k : gs_AW X 142 [(0, .ref 147), (1, .int x1), (2, .int x2), (3, .int o3)] [] M' L') : ∀ (f : Nat) (x3 : Int32) (M : gs_M) (L : gs_L), l_X12_goNight_47 x1 x2 f x3 M L = some (o3, M', L') → gs_AW X 47 [(0, .ref 147), (1, .int x1), (2, .int x2), (3, .int x3)] [] M L := by
  intro f
  induction f with
  | zero =>
    intro x3 M L h
    cases h
  | succ f ih =>
    intro x3 M L h
    rw [l_X12_goNight_47] at h
    refine gs_iload_n (pc := 47) C 3 dX12_goNight_47 rfl rfl ?_
    refine gs_aload_n (pc := 48) C 0 dX12_goNight_48 rfl rfl ?_
    refine gs_geti (pc := 49) C dX12_goNight_49 gk_12 fl_X12_286 sh_147 rfl ?_
    refine gs_icmp_ge (pc := 52) C 142 dX12_goNight_52 rfl (fun c1 => ?_) (fun c1 => ?_)
    · replace h := gs_ift c1 h
      obtain ⟨rfl, rfl, rfl⟩ := gs_i3 h
      exact k
    · replace h := gs_iff c1 h
      refine gs_aload_n (pc := 55) C 0 dX12_goNight_55 rfl rfl ?_
      refine gs_bipush (w := 10) (pc := 56) C dX12_goNight_56 rfl ?_
      obtain ⟨v2, L3, e4, h⟩ := gs_o2 h
      refine gs_callVi (pc := 58) C [.int (10 : Int32)] dX12_goNight_58 ml_X12_337 wy_X12_draw (a_X12_draw _ e4) (by decide) sh_147 (by decide) rfl rfl (Nat.le_of_ble_eq_true rfl) rfl ?_
      refine gs_aload_n (pc := 61) C 0 dX12_goNight_61 rfl rfl ?_
      refine gs_iload_n (pc := 62) C 3 dX12_goNight_62 rfl rfl ?_
      refine gs_iload_n (pc := 63) C 1 dX12_goNight_63 rfl rfl ?_
      obtain ⟨v5, M6, e7, h⟩ := gs_o2 h
      refine gs_callVi (pc := 64) C [.int x3, .int x1] dX12_goNight_64 ml_X12_340 wy_X12_wakesNow (a_X12_wakesNow _ e7) (by decide) sh_147 (by decide) rfl rfl (Nat.le_of_ble_eq_true rfl) rfl ?_
      have j30 : gs_AW X 75 [(0, .ref 147), (1, .int x1), (2, .int x2), (3, .int x3)] [.int (if v5 ≤ v2 then (0 : Int32) else (1 : Int32) : Int32)] M6 L3 := by
        refine gs_istore (ls' := [(4, .int (if v5 ≤ v2 then (0 : Int32) else (1 : Int32) : Int32)), (0, .ref 147), (1, .int x1), (2, .int x2), (3, .int x3)]) (pc := 75) C dX12_goNight_75 (by decide) rfl ?_
        refine gs_aload_n (pc := 77) C 1 dX12_goNight_77 rfl rfl ?_
        refine gs_getq (pc := 78) C dX12_goNight_78 gk_12 fl_X12_65 sh_147 rfl ?_
        refine gs_iload_n (pc := 81) C 4 dX12_goNight_81 rfl rfl ?_
        refine gs_dup2 (pc := 82) C dX12_goNight_82 rfl rfl ?_
        obtain ⟨v8, e9, h⟩ := gs_o1 h
        refine gs_iald (pc := 83) C dX12_goNight_83 sh_159 e9 ?_
        refine gs_iload (pc := 84) C 0 dX12_goNight_84 rfl ?_
        have j28 : gs_AW X 94 [(0, .ref 147), (1, .int x1), (2, .int x2), (3, .int x3), (4, .int (if v5 ≤ v2 then (0 : Int32) else (1 : Int32) : Int32))] [.int (if (if v5 ≤ v2 then (0 : Int32) else (1 : Int32) : Int32) = (0 : Int32) then (0 : Int32) else (1 : Int32) : Int32), .int v8, .int x3, .ref 159] M6 L3 := by
          refine gs_iadd (pc := 94) C dX12_goNight_94 ?_
          obtain ⟨M11, e10, h⟩ := gs_o1 h
          refine gs_iast (pc := 95) C dX12_goNight_95 sh_159 e10 ?_
          refine gs_iload_n (pc := 96) C 3 dX12_goNight_96 rfl rfl ?_
          refine gs_iload_n (pc := 97) C 2 dX12_goNight_97 rfl rfl ?_
          obtain ⟨M12, e13, h⟩ := gs_o1 h
          have j14 : gs_AW X 136 [(0, .ref 147), (1, .int x1), (2, .int x2), (3, .int x3), (4, .int (if v5 ≤ v2 then (0 : Int32) else (1 : Int32) : Int32))] [] M12 L3 := by
            refine gs_iinc (v := x3 + (1 : Int32)) (ls' := [(3, .int (x3 + (1 : Int32))), (0, .ref 147), (1, .int x1), (2, .int x2), (4, .int (if v5 ≤ v2 then (0 : Int32) else (1 : Int32) : Int32))]) (pc := 136) C 3 dX12_goNight_136 rfl rfl (by decide) rfl ?_
            refine gs_goto (pc := 139) C 47 dX12_goNight_139 rfl ?_
            exact gs_sub [1, 2, 3, 0] rfl (ih _ _ _ h)
          refine gs_icmp_ne (pc := 98) C 136 dX12_goNight_98 rfl (fun c15 => ?_) (fun c15 => ?_)
          · replace e13 := gs_iff c15 e13
            obtain rfl := gs_i1 e13
            exact j14
          · replace e13 := gs_ift c15 e13
            refine gs_aload_n (pc := 101) C 0 dX12_goNight_101 rfl rfl ?_
            refine gs_iload_n (pc := 102) C 3 dX12_goNight_102 rfl rfl ?_
            refine gs_iconst (w := 5) (pc := 103) C dX12_goNight_103 rfl ?_
            obtain ⟨v16, e17, e13⟩ := gs_o1 e13
            refine gs_callVi (pc := 104) C [.int x3, .int (5 : Int32)] dX12_goNight_104 ml_X12_301 wy_X12_of (a_X12_of _ e17) (by decide) sh_147 (by decide) rfl rfl (Nat.le_of_ble_eq_true rfl) rfl ?_
            refine gs_if_ne (pc := 107) C 136 dX12_goNight_107 rfl (fun c18 => ?_) (fun c18 => ?_)
            · replace e13 := gs_iff c18 e13
              obtain rfl := gs_i1 e13
              exact j14
            · replace e13 := gs_ift c18 e13
              refine gs_aload_n (pc := 110) C 0 dX12_goNight_110 rfl rfl ?_
              refine gs_iload_n (pc := 111) C 1 dX12_goNight_111 rfl rfl ?_
              refine gs_iload_n (pc := 112) C 3 dX12_goNight_112 rfl rfl ?_
              refine gs_iload (pc := 113) C 4 dX12_goNight_113 rfl ?_
              obtain ⟨y19, e20, e13⟩ := gs_o1 e13
              have j21 : gs_AW X 133 [(0, .ref 147), (1, .int x1), (2, .int x2), (3, .int x3), (4, .int (if v5 ≤ v2 then (0 : Int32) else (1 : Int32) : Int32))] [.int y19, .int x3, .int x1, .ref 147] M11 L3 := by
                obtain ⟨M26, e27, e13⟩ := gs_o1 e13
                refine gs_callVv (pc := 133) C [.int x1, .int x3, .int y19] dX12_goNight_133 ml_X12_343 wy_X12_write (a_X12_write _ e27) (by decide) sh_147 (by decide) rfl rfl (Nat.le_of_ble_eq_true rfl) rfl ?_
                obtain rfl := gs_i1 e13
                exact j14
              refine gs_if_ne (pc := 115) C 128 dX12_goNight_115 rfl (fun c22 => ?_) (fun c22 => ?_)
              · replace e20 := gs_iff c22 e20
                refine gs_iconst (w := 1) (pc := 128) C dX12_goNight_128 rfl ?_
                refine gs_goto (pc := 129) C 133 dX12_goNight_129 rfl ?_
                obtain rfl := gs_i1 e20
                exact j21
              · replace e20 := gs_ift c22 e20
                refine gs_aload_n (pc := 118) C 0 dX12_goNight_118 rfl rfl ?_
                refine gs_iload_n (pc := 119) C 3 dX12_goNight_119 rfl rfl ?_
                refine gs_iconst (w := 4) (pc := 120) C dX12_goNight_120 rfl ?_
                obtain ⟨v23, e24, e20⟩ := gs_o1 e20
                refine gs_callVi (pc := 121) C [.int x3, .int (4 : Int32)] dX12_goNight_121 ml_X12_301 wy_X12_of (a_X12_of _ e24) (by decide) sh_147 (by decide) rfl rfl (Nat.le_of_ble_eq_true rfl) rfl ?_
                refine gs_iconst (w := 1) (pc := 124) C dX12_goNight_124 rfl ?_
                refine gs_icmp_ne (pc := 125) C 132 dX12_goNight_125 rfl (fun c25 => ?_) (fun c25 => ?_)
                · replace e20 := gs_iff c25 e20
                  refine gs_iconst (w := 0) (pc := 132) C dX12_goNight_132 rfl ?_
                  obtain rfl := gs_i1 e20
                  exact j21
                · replace e20 := gs_ift c25 e20
                  refine gs_iconst (w := 1) (pc := 128) C dX12_goNight_128 rfl ?_
                  refine gs_goto (pc := 129) C 133 dX12_goNight_129 rfl ?_
                  obtain rfl := gs_i1 e20
                  exact j21
        refine gs_if_eq (pc := 86) C 93 dX12_goNight_86 rfl (fun c29 => ?_) (fun c29 => ?_)
        · refine gs_iconst (w := 0) (pc := 93) C dX12_goNight_93 rfl ?_
          simp only [if_pos c29] at j28
          exact gs_sub [1, 2, 3, 4, 0] rfl (j28)
        · refine gs_iconst (w := 1) (pc := 89) C dX12_goNight_89 rfl ?_
          refine gs_goto (pc := 90) C 94 dX12_goNight_90 rfl ?_
          simp only [if_neg c29] at j28
          exact gs_sub [1, 2, 3, 4, 0] rfl (j28)
      refine gs_icmp_ge (pc := 67) C 74 dX12_goNight_67 rfl (fun c31 => ?_) (fun c31 => ?_)
      · refine gs_iconst (w := 0) (pc := 74) C dX12_goNight_74 rfl ?_
        simp only [if_pos c31] at j30
        exact j30
      · refine gs_iconst (w := 1) (pc := 70) C dX12_goNight_70 rfl ?_
        refine gs_goto (pc := 71) C 75 dX12_goNight_71 rfl ?_
        simp only [if_neg c31] at j30
        exact j30
set_option maxRecDepth 100000 in
set_option maxHeartbeats 4000000 in
theorem t_X12_goNight_25 {X : gs_X} (C : gs_C X RX12 cX12_goNight 5 none 81) {o1 : Int32} {M' : gs_M} {L' : gs_L} (k : gs_AW X 148 [(0, .ref 147), (1, .int o1)] [] M' L') : ∀ (f : Nat) (x1 : Int32) (M : gs_M) (L : gs_L), l_X12_goNight_25  f x1 M L = some (o1, M', L') → gs_AW X 25 [(0, .ref 147), (1, .int x1)] [] M L := by
  intro f
  induction f with
  | zero =>
    intro x1 M L h
    cases h
  | succ f ih =>
    intro x1 M L h
    rw [l_X12_goNight_25] at h
    refine gs_iload_n (pc := 25) C 1 dX12_goNight_25 rfl rfl ?_
    refine gs_aload_n (pc := 26) C 0 dX12_goNight_26 rfl rfl ?_
    refine gs_getq (pc := 27) C dX12_goNight_27 gk_12 fl_X12_37 sh_147 rfl ?_
    refine gs_iconst (w := 0) (pc := 30) C dX12_goNight_30 rfl ?_
    obtain ⟨v1, e2, h⟩ := gs_o1 h
    refine gs_iald (pc := 31) C dX12_goNight_31 sh_152 e2 ?_
    refine gs_icmp_ge (pc := 32) C 148 dX12_goNight_32 rfl (fun c3 => ?_) (fun c3 => ?_)
    · replace h := gs_ift c3 h
      obtain ⟨rfl, rfl, rfl⟩ := gs_i3 h
      exact k
    · replace h := gs_iff c3 h
      refine gs_aload_n (pc := 35) C 0 dX12_goNight_35 rfl rfl ?_
      refine gs_aload_n (pc := 36) C 0 dX12_goNight_36 rfl rfl ?_
      refine gs_geti (pc := 37) C dX12_goNight_37 gk_12 fl_X12_62 sh_147 rfl ?_
      refine gs_iload_n (pc := 40) C 1 dX12_goNight_40 rfl rfl ?_
      obtain ⟨v4, e5, h⟩ := gs_o1 h
      refine gs_callVi (pc := 41) C [.int (M 147 30), .int x1] dX12_goNight_41 ml_X12_334 wy_X12_watchedBy (a_X12_watchedBy _ e5) (by decide) sh_147 (by decide) rfl rfl (Nat.le_of_ble_eq_true rfl) rfl ?_
      refine gs_istore_n (ls' := [(2, .int v4), (0, .ref 147), (1, .int x1)]) (pc := 44) C dX12_goNight_44 rfl (by decide) rfl ?_
      refine gs_iconst (w := 0) (pc := 45) C dX12_goNight_45 rfl ?_
      refine gs_istore_n (ls' := [(3, .int (0 : Int32)), (2, .int v4), (0, .ref 147), (1, .int x1)]) (pc := 46) C dX12_goNight_46 rfl (by decide) rfl ?_
      obtain ⟨y6, M7, L8, e9, h⟩ := gs_o3 h
      refine gs_sub [2, 3, 1, 0] rfl (t_X12_goNight_47 C ?_ gs_FU _ _ _ e9)
      refine gs_iinc (v := x1 + (1 : Int32)) (ls' := [(1, .int (x1 + (1 : Int32))), (0, .ref 147), (2, .int v4), (3, .int y6)]) (pc := 142) C 1 dX12_goNight_142 rfl rfl (by decide) rfl ?_
      refine gs_goto (pc := 145) C 25 dX12_goNight_145 rfl ?_
      exact gs_sub [1, 0] rfl (ih _ _ _ h)
set_option maxRecDepth 100000 in
set_option maxHeartbeats 4000000 in
theorem t_X12_goNight_150 {X : gs_X} (C : gs_C X RX12 cX12_goNight 5 none 81) {L : gs_L} {o1 : Int32} {M' : gs_M} (k : gs_AW X 210 [(0, .ref 147), (1, .int o1)] [] M' L) : ∀ (f : Nat) (x1 : Int32) (M : gs_M), l_X12_goNight_150 L f x1 M = some (o1, M') → gs_AW X 150 [(0, .ref 147), (1, .int x1)] [] M L := by
  intro f
  induction f with
  | zero =>
    intro x1 M h
    cases h
  | succ f ih =>
    intro x1 M h
    rw [l_X12_goNight_150] at h
    refine gs_iload_n (pc := 150) C 1 dX12_goNight_150 rfl rfl ?_
    refine gs_aload_n (pc := 151) C 0 dX12_goNight_151 rfl rfl ?_
    refine gs_geti (pc := 152) C dX12_goNight_152 gk_12 fl_X12_286 sh_147 rfl ?_
    refine gs_icmp_ge (pc := 155) C 210 dX12_goNight_155 rfl (fun c1 => ?_) (fun c1 => ?_)
    · replace h := gs_ift c1 h
      obtain ⟨rfl, rfl⟩ := gs_i2 h
      exact k
    · replace h := gs_iff c1 h
      refine gs_aload_n (pc := 158) C 0 dX12_goNight_158 rfl rfl ?_
      refine gs_getq (pc := 159) C dX12_goNight_159 gk_12 fl_X12_55 sh_147 rfl ?_
      refine gs_bipush (w := 6) (pc := 162) C dX12_goNight_162 rfl ?_
      refine gs_iload_n (pc := 164) C 1 dX12_goNight_164 rfl rfl ?_
      refine gs_imul (pc := 165) C dX12_goNight_165 ?_
      refine gs_iconst (w := 2) (pc := 166) C dX12_goNight_166 rfl ?_
      refine gs_iadd (pc := 167) C dX12_goNight_167 ?_
      refine gs_bipush (w := 9) (pc := 168) C dX12_goNight_168 rfl ?_
      refine gs_aload_n (pc := 170) C 0 dX12_goNight_170 rfl rfl ?_
      refine gs_getq (pc := 171) C dX12_goNight_171 gk_12 fl_X12_65 sh_147 rfl ?_
      refine gs_iload_n (pc := 174) C 1 dX12_goNight_174 rfl rfl ?_
      obtain ⟨v2, e3, h⟩ := gs_o1 h
      refine gs_iald (pc := 175) C dX12_goNight_175 sh_159 e3 ?_
      refine gs_mmin (pc := 176) C dX12_goNight_176 ml_X12_308 (Nat.le_of_ble_eq_true rfl) ?_
      obtain ⟨M5, e4, h⟩ := gs_o1 h
      refine gs_iast (pc := 179) C dX12_goNight_179 sh_158 e4 ?_
      refine gs_aload_n (pc := 180) C 0 dX12_goNight_180 rfl rfl ?_
      refine gs_getq (pc := 181) C dX12_goNight_181 gk_12 fl_X12_55 sh_147 rfl ?_
      refine gs_bipush (w := 6) (pc := 184) C dX12_goNight_184 rfl ?_
      refine gs_iload_n (pc := 186) C 1 dX12_goNight_186 rfl rfl ?_
      refine gs_imul (pc := 187) C dX12_goNight_187 ?_
      refine gs_iconst (w := 3) (pc := 188) C dX12_goNight_188 rfl ?_
      refine gs_iadd (pc := 189) C dX12_goNight_189 ?_
      refine gs_iconst (w := 0) (pc := 190) C dX12_goNight_190 rfl ?_
      obtain ⟨M7, e6, h⟩ := gs_o1 h
      refine gs_iast (pc := 191) C dX12_goNight_191 sh_158 e6 ?_
      refine gs_aload_n (pc := 192) C 0 dX12_goNight_192 rfl rfl ?_
      refine gs_getq (pc := 193) C dX12_goNight_193 gk_12 fl_X12_55 sh_147 rfl ?_
      refine gs_bipush (w := 6) (pc := 196) C dX12_goNight_196 rfl ?_
      refine gs_iload_n (pc := 198) C 1 dX12_goNight_198 rfl rfl ?_
      refine gs_imul (pc := 199) C dX12_goNight_199 ?_
      refine gs_iconst (w := 4) (pc := 200) C dX12_goNight_200 rfl ?_
      refine gs_iadd (pc := 201) C dX12_goNight_201 ?_
      refine gs_iconst (w := 0) (pc := 202) C dX12_goNight_202 rfl ?_
      obtain ⟨M9, e8, h⟩ := gs_o1 h
      refine gs_iast (pc := 203) C dX12_goNight_203 sh_158 e8 ?_
      refine gs_iinc (v := x1 + (1 : Int32)) (ls' := [(1, .int (x1 + (1 : Int32))), (0, .ref 147)]) (pc := 204) C 1 dX12_goNight_204 rfl rfl (by decide) rfl ?_
      refine gs_goto (pc := 207) C 150 dX12_goNight_207 rfl ?_
      exact gs_sub [1, 0] rfl (ih _ _ h)
set_option maxRecDepth 100000 in
set_option maxHeartbeats 4000000 in
theorem a_X12_goNight (l : Launch) {M : gs_M} {L : gs_L} {Mz : gs_M} {Lz : gs_L} (h : f_X12_goNight M L = some (Mz, Lz)) : gs_Met l 81 yX12_goNight cX12_goNight 5 none [.ref 147] M L none Mz Lz := by
  unfold f_X12_goNight at h
  refine gs_of RX12 (by decide) rfl (Nat.le_of_ble_eq_true rfl) (fun X C E => ?_)
  show gs_AW X 0 [(0, .ref 147)] [] M L
  refine gs_iconst (w := 0) (pc := 0) C dX12_goNight_0 rfl ?_
  refine gs_istore_n (ls' := [(1, .int (0 : Int32)), (0, .ref 147)]) (pc := 1) C dX12_goNight_1 rfl (by decide) rfl ?_
  obtain ⟨y1, M2, e3, h⟩ := gs_o2 h
  refine gs_sub [1, 0] rfl (t_X12_goNight_2 C ?_ gs_FU _ _ e3)
  refine gs_iconst (w := 0) (pc := 23) C dX12_goNight_23 rfl ?_
  refine gs_istore_n (ls' := [(1, .int (0 : Int32)), (0, .ref 147)]) (pc := 24) C dX12_goNight_24 rfl (by decide) rfl ?_
  obtain ⟨y4, M5, L6, e7, h⟩ := gs_o3 h
  refine gs_sub [1, 0] rfl (t_X12_goNight_25 C ?_ gs_FU _ _ _ e7)
  refine gs_iconst (w := 0) (pc := 148) C dX12_goNight_148 rfl ?_
  refine gs_istore_n (ls' := [(1, .int (0 : Int32)), (0, .ref 147)]) (pc := 149) C dX12_goNight_149 rfl (by decide) rfl ?_
  obtain ⟨y8, M9, e10, h⟩ := gs_o2 h
  refine gs_sub [1, 0] rfl (t_X12_goNight_150 C ?_ gs_FU _ _ e10)
  refine gs_aload_n (pc := 210) C 0 dX12_goNight_210 rfl rfl ?_
  refine gs_getq (pc := 211) C dX12_goNight_211 gk_12 fl_X12_55 sh_147 rfl ?_
  refine gs_bipush (w := 48) (pc := 214) C dX12_goNight_214 rfl ?_
  refine gs_dup2 (pc := 216) C dX12_goNight_216 rfl rfl ?_
  obtain ⟨v11, e12, h⟩ := gs_o1 h
  refine gs_iald (pc := 217) C dX12_goNight_217 sh_158 e12 ?_
  refine gs_iconst (w := 1) (pc := 218) C dX12_goNight_218 rfl ?_
  refine gs_iadd (pc := 219) C dX12_goNight_219 ?_
  obtain ⟨M14, e13, h⟩ := gs_o1 h
  refine gs_iast (pc := 220) C dX12_goNight_220 sh_158 e13 ?_
  obtain ⟨rfl, rfl⟩ := gs_i2 h
  exact gs_vret (pc := 221) C dX12_goNight_221 E
set_option maxRecDepth 100000 in
set_option maxHeartbeats 4000000 in
theorem a_X12_night (l : Launch) {M : gs_M} {L : gs_L} {x1 : Int64} {rv : Int32} {Mz : gs_M} {Lz : gs_L} (h : f_X12_night M L x1 = some (rv, Mz, Lz)) : gs_Met l 82 yX12_night cX12_night 3 (some .int) [.ref 147, .long x1] M L (some (.int rv)) Mz Lz := by
  unfold f_X12_night at h
  refine gs_of RX12 (by decide) rfl (Nat.le_of_ble_eq_true rfl) (fun X C E => ?_)
  show gs_AW X 0 [(0, .ref 147), (1, .long x1)] [] M L
  refine gs_aload_n (pc := 0) C 0 dX12_night_0 rfl rfl ?_
  refine gs_iconst (w := 0) (pc := 1) C dX12_night_1 rfl ?_
  obtain ⟨M2, e1, h⟩ := gs_o1 h
  refine gs_puti' (pc := 2) C dX12_night_2 gk_12 fp_X12_100 sh_147 rfl e1 ?_
  refine gs_aload_n (pc := 5) C 0 dX12_night_5 rfl rfl ?_
  refine gs_geti (pc := 6) C dX12_night_6 gk_12 fl_X12_286 sh_147 rfl ?_
  refine gs_if_eq (pc := 9) C 25 dX12_night_9 rfl (fun c3 => ?_) (fun c3 => ?_)
  · replace h := gs_ift c3 h
    refine gs_iconst (w := (-1)) (pc := 25) C dX12_night_25 rfl ?_
    obtain ⟨rfl, rfl, rfl⟩ := gs_i3 h
    exact gs_iret (pc := 26) C dX12_night_26 E
  · replace h := gs_iff c3 h
    refine gs_aload_n (pc := 12) C 0 dX12_night_12 rfl rfl ?_
    refine gs_getq (pc := 13) C dX12_night_13 gk_12 fl_X12_55 sh_147 rfl ?_
    refine gs_bipush (w := 48) (pc := 16) C dX12_night_16 rfl ?_
    obtain ⟨v4, e5, h⟩ := gs_o1 h
    refine gs_iald (pc := 18) C dX12_night_18 sh_158 e5 ?_
    refine gs_sipush (w := 999) (pc := 19) C dX12_night_19 rfl ?_
    refine gs_icmp_ne (pc := 22) C 27 dX12_night_22 rfl (fun c6 => ?_) (fun c6 => ?_)
    · replace h := gs_iff c6 h
      refine gs_aload_n (pc := 27) C 0 dX12_night_27 rfl rfl ?_
      obtain ⟨M7, e8, h⟩ := gs_o1 h
      refine gs_callVv (pc := 28) C [] dX12_night_28 ml_X12_371 wy_X12_remember (a_X12_remember _ e8) (by decide) sh_147 (by decide) rfl rfl (Nat.le_of_ble_eq_true rfl) rfl ?_
      refine gs_aload_n (pc := 31) C 0 dX12_night_31 rfl rfl ?_
      refine gs_lload_n (pc := 32) C 1 dX12_night_32 rfl rfl ?_
      obtain ⟨L10, e9, h⟩ := gs_o1 h
      refine gs_putl' (pc := 33) C dX12_night_33 gk_12 fp_X12_326 sh_147 rfl e9 ?_
      refine gs_aload_n (pc := 36) C 0 dX12_night_36 rfl rfl ?_
      obtain ⟨M11, L12, e13, h⟩ := gs_o2 h
      refine gs_callVv (pc := 37) C [] dX12_night_37 ml_X12_377 wy_X12_goNight (a_X12_goNight _ e13) (by decide) sh_147 (by decide) rfl rfl (Nat.le_of_ble_eq_true rfl) rfl ?_
      refine gs_aload_n (pc := 40) C 0 dX12_night_40 rfl rfl ?_
      refine gs_getq (pc := 41) C dX12_night_41 gk_12 fl_X12_55 sh_147 rfl ?_
      refine gs_bipush (w := 48) (pc := 44) C dX12_night_44 rfl ?_
      obtain ⟨v14, e15, h⟩ := gs_o1 h
      refine gs_iald (pc := 46) C dX12_night_46 sh_158 e15 ?_
      obtain ⟨rfl, rfl, rfl⟩ := gs_i3 h
      exact gs_iret (pc := 47) C dX12_night_47 E
    · replace h := gs_ift c6 h
      refine gs_iconst (w := (-1)) (pc := 25) C dX12_night_25 rfl ?_
      obtain ⟨rfl, rfl, rfl⟩ := gs_i3 h
      exact gs_iret (pc := 26) C dX12_night_26 E
set_option maxRecDepth 100000 in
set_option maxHeartbeats 4000000 in
theorem t_X12_people_30 {X : gs_X} (C : gs_C X RX12 cX12_people 5 (some .int) 82) {L : gs_L} {x1 : Int32} {o2 : Int32} {o3 : Int32} {M' : gs_M} (k : gs_AW X 123 [(0, .ref 147), (1, .int x1), (2, .int o2), (3, .int o3)] [] M' L) : ∀ (f : Nat) (x2 : Int32) (x3 : Int32) (M : gs_M), l_X12_people_30 x1 f x2 x3 M = some (o2, o3, M') → gs_AW X 30 [(0, .ref 147), (1, .int x1), (2, .int x2), (3, .int x3)] [] M L := by
  intro f
  induction f with
  | zero =>
    intro x2 x3 M h
    cases h
  | succ f ih =>
    intro x2 x3 M h
    rw [l_X12_people_30] at h
    refine gs_iload_n (pc := 30) C 3 dX12_people_30 rfl rfl ?_
    refine gs_aload_n (pc := 31) C 0 dX12_people_31 rfl rfl ?_
    refine gs_geti (pc := 32) C dX12_people_32 gk_12 fl_X12_286 sh_147 rfl ?_
    refine gs_icmp_ge (pc := 35) C 123 dX12_people_35 rfl (fun c1 => ?_) (fun c1 => ?_)
    · replace h := gs_ift c1 h
      obtain ⟨rfl, rfl, rfl⟩ := gs_i3 h
      exact k
    · replace h := gs_iff c1 h
      refine gs_iload_n (pc := 38) C 1 dX12_people_38 rfl rfl ?_
      obtain ⟨y2, M3, e4, h⟩ := gs_o2 h
      have j5 : gs_AW X 100 [(0, .ref 147), (1, .int x1), (2, .int x2), (3, .int x3)] [.int y2] M3 L := by
        refine gs_istore (ls' := [(4, .int y2), (0, .ref 147), (1, .int x1), (2, .int x2), (3, .int x3)]) (pc := 100) C dX12_people_100 (by decide) rfl ?_
        refine gs_iload_n (pc := 102) C 3 dX12_people_102 rfl rfl ?_
        refine gs_iload (pc := 103) C 0 dX12_people_103 rfl ?_
        have j20 : gs_AW X 115 [(0, .ref 147), (1, .int x1), (2, .int x2), (3, .int x3), (4, .int y2)] [.int (if y2 = (0 : Int32) then (0 : Int32) else ((1 : Int32) <<< (x3 &&& 31)) : Int32), .int x2] M3 L := by
          refine gs_ior (pc := 115) C dX12_people_115 ?_
          refine gs_istore_n (ls' := [(2, .int (x2 ||| (if y2 = (0 : Int32) then (0 : Int32) else ((1 : Int32) <<< (x3 &&& 31)) : Int32))), (0, .ref 147), (1, .int x1), (3, .int x3), (4, .int y2)]) (pc := 116) C dX12_people_116 rfl (by decide) rfl ?_
          refine gs_iinc (v := x3 + (1 : Int32)) (ls' := [(3, .int (x3 + (1 : Int32))), (2, .int (x2 ||| (if y2 = (0 : Int32) then (0 : Int32) else ((1 : Int32) <<< (x3 &&& 31)) : Int32))), (0, .ref 147), (1, .int x1), (4, .int y2)]) (pc := 117) C 3 dX12_people_117 rfl rfl (by decide) rfl ?_
          refine gs_goto (pc := 120) C 30 dX12_people_120 rfl ?_
          exact gs_sub [2, 3, 1, 0] rfl (ih _ _ _ h)
        refine gs_if_eq (pc := 105) C 114 dX12_people_105 rfl (fun c21 => ?_) (fun c21 => ?_)
        · refine gs_iconst (w := 0) (pc := 114) C dX12_people_114 rfl ?_
          simp only [if_pos c21] at j20
          exact gs_sub [1, 2, 3, 4, 0] rfl (j20)
        · refine gs_iconst (w := 1) (pc := 108) C dX12_people_108 rfl ?_
          refine gs_iload_n (pc := 109) C 4 dX12_people_109 rfl rfl ?_
          refine gs_ishl (pc := 110) C dX12_people_110 ?_
          refine gs_goto (pc := 111) C 115 dX12_people_111 rfl ?_
          simp only [if_neg c21] at j20
          exact gs_sub [1, 2, 3, 4, 0] rfl (j20)
      refine gs_if_ne (pc := 39) C 59 dX12_people_39 rfl (fun c6 => ?_) (fun c6 => ?_)
      · replace e4 := gs_iff c6 e4
        refine gs_iload_n (pc := 59) C 1 dX12_people_59 rfl rfl ?_
        refine gs_iconst (w := 1) (pc := 60) C dX12_people_60 rfl ?_
        refine gs_icmp_ne (pc := 61) C 81 dX12_people_61 rfl (fun c7 => ?_) (fun c7 => ?_)
        · replace e4 := gs_iff c7 e4
          refine gs_aload_n (pc := 81) C 0 dX12_people_81 rfl rfl ?_
          refine gs_iload_n (pc := 82) C 3 dX12_people_82 rfl rfl ?_
          obtain ⟨v8, M9, e10, e4⟩ := gs_o2 e4
          refine gs_callVi (pc := 83) C [.int x3] dX12_people_83 ml_X12_383 wy_X12_caseOf (a_X12_caseOf _ e10) (by decide) sh_147 (by decide) rfl rfl (Nat.le_of_ble_eq_true rfl) rfl ?_
          refine gs_aload_n (pc := 86) C 0 dX12_people_86 rfl rfl ?_
          refine gs_getq (pc := 87) C dX12_people_87 gk_12 fl_X12_37 sh_147 rfl ?_
          refine gs_iconst (w := 1) (pc := 90) C dX12_people_90 rfl ?_
          obtain ⟨v11, e12, e4⟩ := gs_o1 e4
          refine gs_iald (pc := 91) C dX12_people_91 sh_152 e12 ?_
          refine gs_icmp_lt (pc := 92) C 99 dX12_people_92 rfl (fun c13 => ?_) (fun c13 => ?_)
          · replace e4 := gs_ift c13 e4
            refine gs_iconst (w := 0) (pc := 99) C dX12_people_99 rfl ?_
            obtain ⟨rfl, rfl⟩ := gs_i2 e4
            exact j5
          · replace e4 := gs_iff c13 e4
            refine gs_iconst (w := 1) (pc := 95) C dX12_people_95 rfl ?_
            refine gs_goto (pc := 96) C 100 dX12_people_96 rfl ?_
            obtain ⟨rfl, rfl⟩ := gs_i2 e4
            exact j5
        · replace e4 := gs_ift c7 e4
          refine gs_aload_n (pc := 64) C 0 dX12_people_64 rfl rfl ?_
          refine gs_iload_n (pc := 65) C 3 dX12_people_65 rfl rfl ?_
          refine gs_iconst (w := 0) (pc := 66) C dX12_people_66 rfl ?_
          obtain ⟨v14, e15, e4⟩ := gs_o1 e4
          refine gs_callVi (pc := 67) C [.int x3, .int (0 : Int32)] dX12_people_67 ml_X12_301 wy_X12_of (a_X12_of _ e15) (by decide) sh_147 (by decide) rfl rfl (Nat.le_of_ble_eq_true rfl) rfl ?_
          refine gs_if_ne (pc := 70) C 77 dX12_people_70 rfl (fun c16 => ?_) (fun c16 => ?_)
          · replace e4 := gs_iff c16 e4
            refine gs_iconst (w := 0) (pc := 77) C dX12_people_77 rfl ?_
            refine gs_goto (pc := 78) C 100 dX12_people_78 rfl ?_
            obtain ⟨rfl, rfl⟩ := gs_i2 e4
            exact j5
          · replace e4 := gs_ift c16 e4
            refine gs_iconst (w := 1) (pc := 73) C dX12_people_73 rfl ?_
            refine gs_goto (pc := 74) C 100 dX12_people_74 rfl ?_
            obtain ⟨rfl, rfl⟩ := gs_i2 e4
            exact j5
      · replace e4 := gs_ift c6 e4
        refine gs_aload_n (pc := 42) C 0 dX12_people_42 rfl rfl ?_
        refine gs_iload_n (pc := 43) C 3 dX12_people_43 rfl rfl ?_
        refine gs_iconst (w := 5) (pc := 44) C dX12_people_44 rfl ?_
        obtain ⟨v17, e18, e4⟩ := gs_o1 e4
        refine gs_callVi (pc := 45) C [.int x3, .int (5 : Int32)] dX12_people_45 ml_X12_301 wy_X12_of (a_X12_of _ e18) (by decide) sh_147 (by decide) rfl rfl (Nat.le_of_ble_eq_true rfl) rfl ?_
        refine gs_if_ne (pc := 48) C 55 dX12_people_48 rfl (fun c19 => ?_) (fun c19 => ?_)
        · replace e4 := gs_iff c19 e4
          refine gs_iconst (w := 0) (pc := 55) C dX12_people_55 rfl ?_
          refine gs_goto (pc := 56) C 100 dX12_people_56 rfl ?_
          obtain ⟨rfl, rfl⟩ := gs_i2 e4
          exact j5
        · replace e4 := gs_ift c19 e4
          refine gs_iconst (w := 1) (pc := 51) C dX12_people_51 rfl ?_
          refine gs_goto (pc := 52) C 100 dX12_people_52 rfl ?_
          obtain ⟨rfl, rfl⟩ := gs_i2 e4
          exact j5
set_option maxRecDepth 100000 in
set_option maxHeartbeats 4000000 in
theorem a_X12_people (l : Launch) {M : gs_M} {L : gs_L} {x1 : Int32} {rv : Int32} {Mz : gs_M} (h : f_X12_people M x1 = some (rv, Mz)) : gs_Met l 82 yX12_people cX12_people 5 (some .int) [.ref 147, .int x1] M L (some (.int rv)) Mz L := by
  unfold f_X12_people at h
  refine gs_of RX12 (by decide) rfl (Nat.le_of_ble_eq_true rfl) (fun X C E => ?_)
  show gs_AW X 0 [(0, .ref 147), (1, .int x1)] [] M L
  refine gs_aload_n (pc := 0) C 0 dX12_people_0 rfl rfl ?_
  refine gs_iconst (w := 0) (pc := 1) C dX12_people_1 rfl ?_
  obtain ⟨M2, e1, h⟩ := gs_o1 h
  refine gs_puti' (pc := 2) C dX12_people_2 gk_12 fp_X12_100 sh_147 rfl e1 ?_
  refine gs_aload_n (pc := 5) C 0 dX12_people_5 rfl rfl ?_
  refine gs_geti (pc := 6) C dX12_people_6 gk_12 fl_X12_286 sh_147 rfl ?_
  refine gs_if_eq (pc := 9) C 24 dX12_people_9 rfl (fun c3 => ?_) (fun c3 => ?_)
  · replace h := gs_ift c3 h
    refine gs_iconst (w := (-1)) (pc := 24) C dX12_people_24 rfl ?_
    obtain ⟨rfl, rfl⟩ := gs_i2 h
    exact gs_iret (pc := 25) C dX12_people_25 E
  · replace h := gs_iff c3 h
    refine gs_iload_n (pc := 12) C 1 dX12_people_12 rfl rfl ?_
    refine gs_i2l (pc := 13) C dX12_people_13 ?_
    refine gs_lconst (w := 0) (pc := 14) C dX12_people_14 rfl ?_
    refine gs_ldc2 (pc := 15) C dX12_people_15 wj_X12_266 ?_
    obtain ⟨v4, e5, h⟩ := gs_o1 h
    refine gs_callSi (pc := 18) C [.long (Int32.toInt64 x1), .long (0 : Int64), .long (2 : Int64)] dX12_people_18 ml_X12_221 wy_X12_isIn (a_X12_isIn _ e5) (by decide) rfl (Nat.le_of_ble_eq_true rfl) rfl ?_
    refine gs_if_ne (pc := 21) C 26 dX12_people_21 rfl (fun c6 => ?_) (fun c6 => ?_)
    · replace h := gs_iff c6 h
      refine gs_iconst (w := 0) (pc := 26) C dX12_people_26 rfl ?_
      refine gs_istore_n (ls' := [(2, .int (0 : Int32)), (0, .ref 147), (1, .int x1)]) (pc := 27) C dX12_people_27 rfl (by decide) rfl ?_
      refine gs_iconst (w := 0) (pc := 28) C dX12_people_28 rfl ?_
      refine gs_istore_n (ls' := [(3, .int (0 : Int32)), (2, .int (0 : Int32)), (0, .ref 147), (1, .int x1)]) (pc := 29) C dX12_people_29 rfl (by decide) rfl ?_
      obtain ⟨y7, y8, M9, e10, h⟩ := gs_o3 h
      refine gs_sub [2, 3, 1, 0] rfl (t_X12_people_30 C ?_ gs_FU _ _ _ e10)
      refine gs_iload_n (pc := 123) C 2 dX12_people_123 rfl rfl ?_
      obtain ⟨rfl, rfl⟩ := gs_i2 h
      exact gs_iret (pc := 124) C dX12_people_124 E
    · replace h := gs_ift c6 h
      refine gs_iconst (w := (-1)) (pc := 24) C dX12_people_24 rfl ?_
      obtain ⟨rfl, rfl⟩ := gs_i2 h
      exact gs_iret (pc := 25) C dX12_people_25 E
set_option maxRecDepth 100000 in
set_option maxHeartbeats 4000000 in
theorem a_X12_person (l : Launch) {M : gs_M} {L : gs_L} {x1 : Int32} {x2 : Int32} {rv : Int32} {Mz : gs_M} (h : f_X12_person M x1 x2 = some (rv, Mz)) : gs_Met l 1 yX12_person cX12_person 3 (some .int) [.ref 147, .int x1, .int x2] M L (some (.int rv)) Mz L := by
  unfold f_X12_person at h
  refine gs_of RX12 (by decide) rfl (Nat.le_of_ble_eq_true rfl) (fun X C E => ?_)
  show gs_AW X 0 [(0, .ref 147), (1, .int x1), (2, .int x2)] [] M L
  refine gs_aload_n (pc := 0) C 0 dX12_person_0 rfl rfl ?_
  refine gs_aload_n (pc := 1) C 0 dX12_person_1 rfl rfl ?_
  refine gs_iload_n (pc := 2) C 1 dX12_person_2 rfl rfl ?_
  obtain ⟨v1, e2, h⟩ := gs_o1 h
  refine gs_callVi (pc := 3) C [.int x1] dX12_person_3 ml_X12_347 wy_X12_isPerson (a_X12_isPerson _ e2) (by decide) sh_147 (by decide) rfl rfl (Nat.le_of_ble_eq_true rfl) rfl ?_
  obtain ⟨y3, e4, h⟩ := gs_o1 h
  have j5 : gs_AW X 26 [(0, .ref 147), (1, .int x1), (2, .int x2)] [.int y3, .ref 147] M L := by
    obtain ⟨M11, e10, h⟩ := gs_o1 h
    refine gs_puti' (pc := 26) C dX12_person_26 gk_12 fp_X12_100 sh_147 rfl e10 ?_
    refine gs_aload_n (pc := 29) C 0 dX12_person_29 rfl rfl ?_
    refine gs_geti (pc := 30) C dX12_person_30 gk_12 fl_X12_100 sh_147 rfl ?_
    refine gs_if_le (pc := 33) C 38 dX12_person_33 rfl (fun c12 => ?_) (fun c12 => ?_)
    · replace h := gs_ift c12 h
      refine gs_iload_n (pc := 38) C 2 dX12_person_38 rfl rfl ?_
      by_cases c13 : x2 = (0 : Int32)
      · replace h := gs_ift c13 h
        refine gs_tabIn (pc := 39) C 72 dX12_person_39 (by rw [c13]; decide) (by rw [c13]; decide) (off := 33) (by rw [c13]; decide) rfl ?_
        refine gs_aload_n (pc := 72) C 0 dX12_person_72 rfl rfl ?_
        refine gs_iload_n (pc := 73) C 1 dX12_person_73 rfl rfl ?_
        refine gs_iconst (w := 0) (pc := 74) C dX12_person_74 rfl ?_
        obtain ⟨v14, e15, h⟩ := gs_o1 h
        refine gs_callVi (pc := 75) C [.int x1, .int (0 : Int32)] dX12_person_75 ml_X12_301 wy_X12_of (a_X12_of _ e15) (by decide) sh_147 (by decide) rfl rfl (Nat.le_of_ble_eq_true rfl) rfl ?_
        obtain ⟨rfl, rfl⟩ := gs_i2 h
        exact gs_iret (pc := 78) C dX12_person_78 E
      replace h := gs_iff c13 h
      by_cases c16 : x2 = (1 : Int32)
      · replace h := gs_ift c16 h
        refine gs_tabIn (pc := 39) C 79 dX12_person_39 (by rw [c16]; decide) (by rw [c16]; decide) (off := 40) (by rw [c16]; decide) rfl ?_
        refine gs_aload_n (pc := 79) C 0 dX12_person_79 rfl rfl ?_
        refine gs_iload_n (pc := 80) C 1 dX12_person_80 rfl rfl ?_
        obtain ⟨v17, e18, h⟩ := gs_o1 h
        refine gs_callVi (pc := 81) C [.int x1] dX12_person_81 ml_X12_298 wy_X12_conscience (a_X12_conscience _ e18) (by decide) sh_147 (by decide) rfl rfl (Nat.le_of_ble_eq_true rfl) rfl ?_
        obtain ⟨rfl, rfl⟩ := gs_i2 h
        exact gs_iret (pc := 84) C dX12_person_84 E
      replace h := gs_iff c16 h
      by_cases c19 : x2 = (2 : Int32)
      · replace h := gs_ift c19 h
        refine gs_tabIn (pc := 39) C 85 dX12_person_39 (by rw [c19]; decide) (by rw [c19]; decide) (off := 46) (by rw [c19]; decide) rfl ?_
        refine gs_aload_n (pc := 85) C 0 dX12_person_85 rfl rfl ?_
        refine gs_iload_n (pc := 86) C 1 dX12_person_86 rfl rfl ?_
        refine gs_iconst (w := 1) (pc := 87) C dX12_person_87 rfl ?_
        obtain ⟨v20, e21, h⟩ := gs_o1 h
        refine gs_callVi (pc := 88) C [.int x1, .int (1 : Int32)] dX12_person_88 ml_X12_301 wy_X12_of (a_X12_of _ e21) (by decide) sh_147 (by decide) rfl rfl (Nat.le_of_ble_eq_true rfl) rfl ?_
        obtain ⟨rfl, rfl⟩ := gs_i2 h
        exact gs_iret (pc := 91) C dX12_person_91 E
      replace h := gs_iff c19 h
      by_cases c22 : x2 = (3 : Int32)
      · replace h := gs_ift c22 h
        refine gs_tabIn (pc := 39) C 92 dX12_person_39 (by rw [c22]; decide) (by rw [c22]; decide) (off := 53) (by rw [c22]; decide) rfl ?_
        refine gs_aload_n (pc := 92) C 0 dX12_person_92 rfl rfl ?_
        refine gs_iload_n (pc := 93) C 1 dX12_person_93 rfl rfl ?_
        refine gs_iconst (w := 2) (pc := 94) C dX12_person_94 rfl ?_
        obtain ⟨v23, e24, h⟩ := gs_o1 h
        refine gs_callVi (pc := 95) C [.int x1, .int (2 : Int32)] dX12_person_95 ml_X12_301 wy_X12_of (a_X12_of _ e24) (by decide) sh_147 (by decide) rfl rfl (Nat.le_of_ble_eq_true rfl) rfl ?_
        obtain ⟨rfl, rfl⟩ := gs_i2 h
        exact gs_iret (pc := 98) C dX12_person_98 E
      replace h := gs_iff c22 h
      by_cases c25 : x2 = (4 : Int32)
      · replace h := gs_ift c25 h
        refine gs_tabIn (pc := 39) C 99 dX12_person_39 (by rw [c25]; decide) (by rw [c25]; decide) (off := 60) (by rw [c25]; decide) rfl ?_
        refine gs_aload_n (pc := 99) C 0 dX12_person_99 rfl rfl ?_
        refine gs_iload_n (pc := 100) C 1 dX12_person_100 rfl rfl ?_
        obtain ⟨v26, e27, h⟩ := gs_o1 h
        refine gs_callVi (pc := 101) C [.int x1] dX12_person_101 ml_X12_352 wy_X12_married (a_X12_married _ e27) (by decide) sh_147 (by decide) rfl rfl (Nat.le_of_ble_eq_true rfl) rfl ?_
        obtain ⟨rfl, rfl⟩ := gs_i2 h
        exact gs_iret (pc := 104) C dX12_person_104 E
      replace h := gs_iff c25 h
      refine gs_tabOut (pc := 39) C 105 dX12_person_39 (gs_swOut (vs := [0, 1, 2, 3, 4]) 0 5 (by decide) (List.forall_mem_cons.mpr ⟨c13, List.forall_mem_cons.mpr ⟨c16, List.forall_mem_cons.mpr ⟨c19, List.forall_mem_cons.mpr ⟨c22, List.forall_mem_cons.mpr ⟨c25, fun _ h => absurd h List.not_mem_nil⟩⟩⟩⟩⟩)) rfl ?_
      refine gs_aload_n (pc := 105) C 0 dX12_person_105 rfl rfl ?_
      refine gs_iload_n (pc := 106) C 1 dX12_person_106 rfl rfl ?_
      refine gs_iload_n (pc := 107) C 2 dX12_person_107 rfl rfl ?_
      refine gs_iconst (w := 2) (pc := 108) C dX12_person_108 rfl ?_
      refine gs_isub (pc := 109) C dX12_person_109 ?_
      obtain ⟨v30, e31, h⟩ := gs_o1 h
      refine gs_callVi (pc := 110) C [.int x1, .int (x2 - (2 : Int32))] dX12_person_110 ml_X12_301 wy_X12_of (a_X12_of _ e31) (by decide) sh_147 (by decide) rfl rfl (Nat.le_of_ble_eq_true rfl) rfl ?_
      obtain ⟨rfl, rfl⟩ := gs_i2 h
      exact gs_iret (pc := 113) C dX12_person_113 E
    · replace h := gs_iff c12 h
      refine gs_iconst (w := 0) (pc := 36) C dX12_person_36 rfl ?_
      obtain ⟨rfl, rfl⟩ := gs_i2 h
      exact gs_iret (pc := 37) C dX12_person_37 E
  refine gs_if_eq (pc := 6) C 25 dX12_person_6 rfl (fun c6 => ?_) (fun c6 => ?_)
  · replace e4 := gs_ift c6 e4
    refine gs_iconst (w := 1) (pc := 25) C dX12_person_25 rfl ?_
    obtain rfl := gs_i1 e4
    exact j5
  · replace e4 := gs_iff c6 e4
    refine gs_iload_n (pc := 9) C 2 dX12_person_9 rfl rfl ?_
    refine gs_i2l (pc := 10) C dX12_person_10 ?_
    refine gs_lconst (w := 0) (pc := 11) C dX12_person_11 rfl ?_
    refine gs_ldc2 (pc := 12) C dX12_person_12 wj_X12_350 ?_
    obtain ⟨v7, e8, e4⟩ := gs_o1 e4
    refine gs_callSi (pc := 15) C [.long (Int32.toInt64 x2), .long (0 : Int64), .long (7 : Int64)] dX12_person_15 ml_X12_221 wy_X12_isIn (a_X12_isIn _ e8) (by decide) rfl (Nat.le_of_ble_eq_true rfl) rfl ?_
    refine gs_if_eq (pc := 18) C 25 dX12_person_18 rfl (fun c9 => ?_) (fun c9 => ?_)
    · replace e4 := gs_ift c9 e4
      refine gs_iconst (w := 1) (pc := 25) C dX12_person_25 rfl ?_
      obtain rfl := gs_i1 e4
      exact j5
    · replace e4 := gs_iff c9 e4
      refine gs_iconst (w := 0) (pc := 21) C dX12_person_21 rfl ?_
      refine gs_goto (pc := 22) C 26 dX12_person_22 rfl ?_
      obtain rfl := gs_i1 e4
      exact j5
set_option maxRecDepth 100000 in
set_option maxHeartbeats 4000000 in
theorem a_X12_points (l : Launch) {M : gs_M} {L : gs_L} {x1 : Int32} {rv : Int32} {Mz : gs_M} (h : f_X12_points M x1 = some (rv, Mz)) : gs_Met l 82 yX12_points cX12_points 2 (some .int) [.ref 147, .int x1] M L (some (.int rv)) Mz L := by
  unfold f_X12_points at h
  refine gs_of RX12 (by decide) rfl (Nat.le_of_ble_eq_true rfl) (fun X C E => ?_)
  show gs_AW X 0 [(0, .ref 147), (1, .int x1)] [] M L
  refine gs_aload_n (pc := 0) C 0 dX12_points_0 rfl rfl ?_
  refine gs_iconst (w := 0) (pc := 1) C dX12_points_1 rfl ?_
  obtain ⟨M2, e1, h⟩ := gs_o1 h
  refine gs_puti' (pc := 2) C dX12_points_2 gk_12 fp_X12_100 sh_147 rfl e1 ?_
  refine gs_aload_n (pc := 5) C 0 dX12_points_5 rfl rfl ?_
  refine gs_iload_n (pc := 6) C 1 dX12_points_6 rfl rfl ?_
  obtain ⟨v3, e4, h⟩ := gs_o1 h
  refine gs_callVi (pc := 7) C [.int x1] dX12_points_7 ml_X12_347 wy_X12_isPerson (a_X12_isPerson _ e4) (by decide) sh_147 (by decide) rfl rfl (Nat.le_of_ble_eq_true rfl) rfl ?_
  obtain ⟨y5, M6, e7, h⟩ := gs_o2 h
  have j8 : gs_AW X 24 [(0, .ref 147), (1, .int x1)] [.int y5] M6 L := by
    obtain ⟨rfl, rfl⟩ := gs_i2 h
    exact gs_iret (pc := 24) C dX12_points_24 E
  refine gs_if_eq (pc := 10) C 21 dX12_points_10 rfl (fun c9 => ?_) (fun c9 => ?_)
  · replace e7 := gs_ift c9 e7
    refine gs_ldcw (pc := 21) C dX12_points_21 wk_X12_360 ?_
    obtain ⟨rfl, rfl⟩ := gs_i2 e7
    exact j8
  · replace e7 := gs_iff c9 e7
    refine gs_aload_n (pc := 13) C 0 dX12_points_13 rfl rfl ?_
    refine gs_iload_n (pc := 14) C 1 dX12_points_14 rfl rfl ?_
    obtain ⟨v10, M11, e12, e7⟩ := gs_o2 e7
    refine gs_callVi (pc := 15) C [.int x1] dX12_points_15 ml_X12_383 wy_X12_caseOf (a_X12_caseOf _ e12) (by decide) sh_147 (by decide) rfl rfl (Nat.le_of_ble_eq_true rfl) rfl ?_
    refine gs_goto (pc := 18) C 24 dX12_points_18 rfl ?_
    obtain ⟨rfl, rfl⟩ := gs_i2 e7
    exact j8
set_option maxRecDepth 100000 in
set_option maxHeartbeats 4000000 in
theorem t_X12_rests_32 {X : gs_X} (C : gs_C X RX12 cX12_rests 8 (some .int) 83) {L : gs_L} {x1 : Int32} {x2 : Int32} {x3 : Int32} {rv : Int32} {Mz : gs_M} (E : gs_E X (some (.int rv)) Mz L) : ∀ (f : Nat) (x4 : Int32) (x5 : Int32) (M : gs_M), l_X12_rests_32 x1 x2 x3 f x4 x5 M = some (rv, Mz) → gs_AW X 32 [(0, .ref 147), (1, .int x1), (2, .int x2), (3, .int x3), (4, .int x4), (5, .int x5)] [] M L := by
  intro f
  induction f with
  | zero =>
    intro x4 x5 M h
    cases h
  | succ f ih =>
    intro x4 x5 M h
    rw [l_X12_rests_32] at h
    refine gs_iload (pc := 32) C 5 dX12_rests_32 rfl ?_
    refine gs_iconst (w := 4) (pc := 34) C dX12_rests_34 rfl ?_
    refine gs_icmp_ge (pc := 35) C 123 dX12_rests_35 rfl (fun c1 => ?_) (fun c1 => ?_)
    · replace h := gs_ift c1 h
      refine gs_iload_n (pc := 123) C 2 dX12_rests_123 rfl rfl ?_
      refine gs_iconst (w := (-1)) (pc := 124) C dX12_rests_124 rfl ?_
      have j2 : gs_AW X 134 [(0, .ref 147), (1, .int x1), (2, .int x2), (3, .int x3), (4, .int x4), (5, .int x5)] [.int (if x2 = (-1 : Int32) then x4 else (-1 : Int32) : Int32)] M L := by
        obtain ⟨rfl, rfl⟩ := gs_i2 h
        exact gs_iret (pc := 134) C dX12_rests_134 E
      refine gs_icmp_ne (pc := 125) C 133 dX12_rests_125 rfl (fun c3 => ?_) (fun c3 => ?_)
      · refine gs_iconst (w := (-1)) (pc := 133) C dX12_rests_133 rfl ?_
        simp only [if_neg c3] at j2
        exact j2
      · refine gs_iload (pc := 128) C 4 dX12_rests_128 rfl ?_
        refine gs_goto (pc := 130) C 134 dX12_rests_130 rfl ?_
        simp only [if_pos c3] at j2
        exact j2
    · replace h := gs_iff c1 h
      refine gs_iload (pc := 38) C 5 dX12_rests_38 rfl ?_
      refine gs_iconst (w := 2) (pc := 40) C dX12_rests_40 rfl ?_
      obtain ⟨v4, e5, h⟩ := gs_o1 h
      refine gs_idiv' (pc := 41) C dX12_rests_41 e5 ?_
      refine gs_istore (ls' := [(6, .int v4), (0, .ref 147), (1, .int x1), (2, .int x2), (3, .int x3), (4, .int x4), (5, .int x5)]) (pc := 42) C dX12_rests_42 (by decide) rfl ?_
      refine gs_iload (pc := 44) C 6 dX12_rests_44 rfl ?_
      refine gs_iconst (w := 2) (pc := 46) C dX12_rests_46 rfl ?_
      obtain ⟨v6, e7, h⟩ := gs_o1 h
      refine gs_irem' (pc := 47) C dX12_rests_47 e7 ?_
      refine gs_istore (ls' := [(7, .int v6), (6, .int v4), (0, .ref 147), (1, .int x1), (2, .int x2), (3, .int x3), (4, .int x4), (5, .int x5)]) (pc := 48) C dX12_rests_48 (by decide) rfl ?_
      refine gs_aload_n (pc := 50) C 2 dX12_rests_50 rfl rfl ?_
      refine gs_iload_n (pc := 51) C 3 dX12_rests_51 rfl rfl ?_
      refine gs_iconst (w := 1) (pc := 52) C dX12_rests_52 rfl ?_
      refine gs_iload (pc := 53) C 1 dX12_rests_53 rfl ?_
      refine gs_isub (pc := 55) C dX12_rests_55 ?_
      refine gs_iload (pc := 56) C 0 dX12_rests_56 rfl ?_
      obtain ⟨v8, M9, e10, h⟩ := gs_o2 h
      refine gs_callVi (pc := 58) C [.int x1, .int ((1 : Int32) - v4), .int v6] dX12_rests_58 ml_X12_429 wy_X12_coupleOf (a_X12_coupleOf _ e10) (by decide) sh_147 (by decide) rfl rfl (Nat.le_of_ble_eq_true rfl) rfl ?_
      refine gs_aload_n (pc := 61) C 2 dX12_rests_61 rfl rfl ?_
      refine gs_iload_n (pc := 62) C 3 dX12_rests_62 rfl rfl ?_
      refine gs_iload (pc := 63) C 1 dX12_rests_63 rfl ?_
      refine gs_iload (pc := 65) C 0 dX12_rests_65 rfl ?_
      obtain ⟨v11, M12, e13, h⟩ := gs_o2 h
      refine gs_callVi (pc := 67) C [.int x1, .int v4, .int v6] dX12_rests_67 ml_X12_429 wy_X12_coupleOf (a_X12_coupleOf _ e13) (by decide) sh_147 (by decide) rfl rfl (Nat.le_of_ble_eq_true rfl) rfl ?_
      refine gs_icmp_gt (pc := 70) C 117 dX12_rests_70 rfl (fun c14 => ?_) (fun c14 => ?_)
      · replace h := gs_ift c14 h
        refine gs_iinc (v := x5 + (1 : Int32)) (ls' := [(5, .int (x5 + (1 : Int32))), (7, .int v6), (6, .int v4), (0, .ref 147), (1, .int x1), (2, .int x2), (3, .int x3), (4, .int x4)]) (pc := 117) C 7 dX12_rests_117 rfl rfl (by decide) rfl ?_
        refine gs_goto (pc := 120) C 32 dX12_rests_120 rfl ?_
        exact gs_sub [3, 4, 5, 6, 7, 0] rfl (ih _ _ _ h)
      · replace h := gs_iff c14 h
        refine gs_aload_n (pc := 73) C 2 dX12_rests_73 rfl rfl ?_
        refine gs_iload_n (pc := 74) C 5 dX12_rests_74 rfl rfl ?_
        refine gs_iconst (w := 1) (pc := 75) C dX12_rests_75 rfl ?_
        refine gs_iload (pc := 76) C 0 dX12_rests_76 rfl ?_
        refine gs_isub (pc := 78) C dX12_rests_78 ?_
        refine gs_iload (pc := 79) C 1 dX12_rests_79 rfl ?_
        obtain ⟨v15, M16, e17, h⟩ := gs_o2 h
        refine gs_callVi (pc := 81) C [.int x3, .int ((1 : Int32) - v6), .int v4] dX12_rests_81 ml_X12_429 wy_X12_coupleOf (a_X12_coupleOf _ e17) (by decide) sh_147 (by decide) rfl rfl (Nat.le_of_ble_eq_true rfl) rfl ?_
        refine gs_aload_n (pc := 84) C 2 dX12_rests_84 rfl rfl ?_
        refine gs_iload_n (pc := 85) C 5 dX12_rests_85 rfl rfl ?_
        refine gs_iload (pc := 86) C 0 dX12_rests_86 rfl ?_
        refine gs_iload (pc := 88) C 1 dX12_rests_88 rfl ?_
        obtain ⟨v18, M19, e20, h⟩ := gs_o2 h
        refine gs_callVi (pc := 90) C [.int x3, .int v6, .int v4] dX12_rests_90 ml_X12_429 wy_X12_coupleOf (a_X12_coupleOf _ e20) (by decide) sh_147 (by decide) rfl rfl (Nat.le_of_ble_eq_true rfl) rfl ?_
        refine gs_icmp_le (pc := 93) C 99 dX12_rests_93 rfl (fun c21 => ?_) (fun c21 => ?_)
        · replace h := gs_ift c21 h
          refine gs_iload (pc := 99) C 6 dX12_rests_99 rfl ?_
          refine gs_iload_n (pc := 101) C 4 dX12_rests_101 rfl rfl ?_
          refine gs_icmp_ne (pc := 102) C 114 dX12_rests_102 rfl (fun c22 => ?_) (fun c22 => ?_)
          · replace h := gs_iff c22 h
            refine gs_iinc (v := x4 + (1 : Int32)) (ls' := [(4, .int (x4 + (1 : Int32))), (7, .int v6), (6, .int v4), (0, .ref 147), (1, .int x1), (2, .int x2), (3, .int x3), (5, .int x5)]) (pc := 114) C 6 dX12_rests_114 rfl rfl (by decide) rfl ?_
            refine gs_iinc (v := x5 + (1 : Int32)) (ls' := [(5, .int (x5 + (1 : Int32))), (4, .int (x4 + (1 : Int32))), (7, .int v6), (6, .int v4), (0, .ref 147), (1, .int x1), (2, .int x2), (3, .int x3)]) (pc := 117) C 7 dX12_rests_117 rfl rfl (by decide) rfl ?_
            refine gs_goto (pc := 120) C 32 dX12_rests_120 rfl ?_
            exact gs_sub [4, 5, 6, 7, 1, 0] rfl (ih _ _ _ h)
          · replace h := gs_ift c22 h
            refine gs_bipush (w := 10) (pc := 105) C dX12_rests_105 rfl ?_
            refine gs_iload (pc := 107) C 1 dX12_rests_107 rfl ?_
            refine gs_imul (pc := 109) C dX12_rests_109 ?_
            refine gs_iload (pc := 110) C 0 dX12_rests_110 rfl ?_
            refine gs_iadd (pc := 112) C dX12_rests_112 ?_
            obtain ⟨rfl, rfl⟩ := gs_i2 h
            exact gs_iret (pc := 113) C dX12_rests_113 E
        · replace h := gs_iff c21 h
          refine gs_goto (pc := 96) C 117 dX12_rests_96 rfl ?_
          refine gs_iinc (v := x5 + (1 : Int32)) (ls' := [(5, .int (x5 + (1 : Int32))), (7, .int v6), (6, .int v4), (0, .ref 147), (1, .int x1), (2, .int x2), (3, .int x3), (4, .int x4)]) (pc := 117) C 7 dX12_rests_117 rfl rfl (by decide) rfl ?_
          refine gs_goto (pc := 120) C 32 dX12_rests_120 rfl ?_
          exact gs_sub [3, 4, 5, 6, 7, 0] rfl (ih _ _ _ h)
set_option maxRecDepth 100000 in
set_option maxHeartbeats 4000000 in
theorem a_X12_rests (l : Launch) {M : gs_M} {L : gs_L} {x1 : Int32} {x2 : Int32} {rv : Int32} {Mz : gs_M} (h : f_X12_rests M x1 x2 = some (rv, Mz)) : gs_Met l 83 yX12_rests cX12_rests 8 (some .int) [.ref 147, .int x1, .int x2] M L (some (.int rv)) Mz L := by
  unfold f_X12_rests at h
  refine gs_of RX12 (by decide) rfl (Nat.le_of_ble_eq_true rfl) (fun X C E => ?_)
  show gs_AW X 0 [(0, .ref 147), (1, .int x1), (2, .int x2)] [] M L
  refine gs_aload_n (pc := 0) C 0 dX12_rests_0 rfl rfl ?_
  refine gs_iconst (w := 0) (pc := 1) C dX12_rests_1 rfl ?_
  obtain ⟨M2, e1, h⟩ := gs_o1 h
  refine gs_puti' (pc := 2) C dX12_rests_2 gk_12 fp_X12_100 sh_147 rfl e1 ?_
  refine gs_aload_n (pc := 5) C 0 dX12_rests_5 rfl rfl ?_
  refine gs_iload_n (pc := 6) C 1 dX12_rests_6 rfl rfl ?_
  obtain ⟨v3, e4, h⟩ := gs_o1 h
  refine gs_callVi (pc := 7) C [.int x1] dX12_rests_7 ml_X12_426 wy_X12_isCouple (a_X12_isCouple _ e4) (by decide) sh_147 (by decide) rfl rfl (Nat.le_of_ble_eq_true rfl) rfl ?_
  refine gs_if_eq (pc := 10) C 18 dX12_rests_10 rfl (fun c5 => ?_) (fun c5 => ?_)
  · replace h := gs_ift c5 h
    refine gs_iconst (w := (-1)) (pc := 18) C dX12_rests_18 rfl ?_
    obtain ⟨rfl, rfl⟩ := gs_i2 h
    exact gs_iret (pc := 19) C dX12_rests_19 E
  · replace h := gs_iff c5 h
    refine gs_iload_n (pc := 13) C 2 dX12_rests_13 rfl rfl ?_
    refine gs_iconst (w := (-1)) (pc := 14) C dX12_rests_14 rfl ?_
    refine gs_icmp_ge (pc := 15) C 20 dX12_rests_15 rfl (fun c6 => ?_) (fun c6 => ?_)
    · replace h := gs_ift c6 h
      refine gs_aload_n (pc := 20) C 0 dX12_rests_20 rfl rfl ?_
      refine gs_iload_n (pc := 21) C 1 dX12_rests_21 rfl rfl ?_
      obtain ⟨v7, e8, h⟩ := gs_o1 h
      refine gs_callVi (pc := 22) C [.int x1] dX12_rests_22 ml_X12_352 wy_X12_married (a_X12_married _ e8) (by decide) sh_147 (by decide) rfl rfl (Nat.le_of_ble_eq_true rfl) rfl ?_
      refine gs_istore_n (ls' := [(3, .int v7), (0, .ref 147), (1, .int x1), (2, .int x2)]) (pc := 25) C dX12_rests_25 rfl (by decide) rfl ?_
      refine gs_iconst (w := 0) (pc := 26) C dX12_rests_26 rfl ?_
      refine gs_istore (ls' := [(4, .int (0 : Int32)), (3, .int v7), (0, .ref 147), (1, .int x1), (2, .int x2)]) (pc := 27) C dX12_rests_27 (by decide) rfl ?_
      refine gs_iconst (w := 0) (pc := 29) C dX12_rests_29 rfl ?_
      refine gs_istore (ls' := [(5, .int (0 : Int32)), (4, .int (0 : Int32)), (3, .int v7), (0, .ref 147), (1, .int x1), (2, .int x2)]) (pc := 30) C dX12_rests_30 (by decide) rfl ?_
      exact gs_sub [3, 4, 5, 2, 1, 0] rfl (t_X12_rests_32 C E gs_FU _ _ _ h)
    · replace h := gs_iff c6 h
      refine gs_iconst (w := (-1)) (pc := 18) C dX12_rests_18 rfl ?_
      obtain ⟨rfl, rfl⟩ := gs_i2 h
      exact gs_iret (pc := 19) C dX12_rests_19 E
set_option maxRecDepth 100000 in
set_option maxHeartbeats 4000000 in
theorem a_X12_rule (l : Launch) {M : gs_M} {L : gs_L} {x1 : Int32} {rv : Int32} {Mz : gs_M} (h : f_X12_rule M x1 = some (rv, Mz)) : gs_Met l 1 yX12_rule cX12_rule 2 (some .int) [.ref 147, .int x1] M L (some (.int rv)) Mz L := by
  unfold f_X12_rule at h
  refine gs_of RX12 (by decide) rfl (Nat.le_of_ble_eq_true rfl) (fun X C E => ?_)
  show gs_AW X 0 [(0, .ref 147), (1, .int x1)] [] M L
  refine gs_aload_n (pc := 0) C 0 dX12_rule_0 rfl rfl ?_
  refine gs_iconst (w := 0) (pc := 1) C dX12_rule_1 rfl ?_
  obtain ⟨M2, e1, h⟩ := gs_o1 h
  refine gs_puti' (pc := 2) C dX12_rule_2 gk_12 fp_X12_100 sh_147 rfl e1 ?_
  refine gs_aload_n (pc := 5) C 0 dX12_rule_5 rfl rfl ?_
  refine gs_geti (pc := 6) C dX12_rule_6 gk_12 fl_X12_286 sh_147 rfl ?_
  obtain ⟨y3, e4, h⟩ := gs_o1 h
  have j5 : gs_AW X 34 [(0, .ref 147), (1, .int x1)] [.int y3] M2 L := by
    obtain ⟨rfl, rfl⟩ := gs_i2 h
    exact gs_iret (pc := 34) C dX12_rule_34 E
  refine gs_if_le (pc := 9) C 33 dX12_rule_9 rfl (fun c6 => ?_) (fun c6 => ?_)
  · replace e4 := gs_ift c6 e4
    refine gs_iconst (w := (-1)) (pc := 33) C dX12_rule_33 rfl ?_
    obtain rfl := gs_i1 e4
    exact j5
  · replace e4 := gs_iff c6 e4
    refine gs_iload_n (pc := 12) C 1 dX12_rule_12 rfl rfl ?_
    refine gs_i2l (pc := 13) C dX12_rule_13 ?_
    refine gs_lconst (w := 0) (pc := 14) C dX12_rule_14 rfl ?_
    refine gs_ldc2 (pc := 15) C dX12_rule_15 wj_X12_266 ?_
    obtain ⟨v7, e8, e4⟩ := gs_o1 e4
    refine gs_callSi (pc := 18) C [.long (Int32.toInt64 x1), .long (0 : Int64), .long (2 : Int64)] dX12_rule_18 ml_X12_221 wy_X12_isIn (a_X12_isIn _ e8) (by decide) rfl (Nat.le_of_ble_eq_true rfl) rfl ?_
    refine gs_if_eq (pc := 21) C 33 dX12_rule_21 rfl (fun c9 => ?_) (fun c9 => ?_)
    · replace e4 := gs_ift c9 e4
      refine gs_iconst (w := (-1)) (pc := 33) C dX12_rule_33 rfl ?_
      obtain rfl := gs_i1 e4
      exact j5
    · replace e4 := gs_iff c9 e4
      refine gs_aload_n (pc := 24) C 0 dX12_rule_24 rfl rfl ?_
      refine gs_getq (pc := 25) C dX12_rule_25 gk_12 fl_X12_37 sh_147 rfl ?_
      refine gs_iload_n (pc := 28) C 1 dX12_rule_28 rfl rfl ?_
      obtain ⟨v10, e11, e4⟩ := gs_o1 e4
      refine gs_iald (pc := 29) C dX12_rule_29 sh_152 e11 ?_
      refine gs_goto (pc := 30) C 34 dX12_rule_30 rfl ?_
      obtain rfl := gs_i1 e4
      exact j5
set_option maxRecDepth 100000 in
set_option maxHeartbeats 4000000 in
theorem a_X12_isWatch (l : Launch) {M : gs_M} {L : gs_L} {x1 : Int32} {rv : Int32} (h : f_X12_isWatch M x1 = some (rv)) : gs_Met l 0 yX12_isWatch cX12_isWatch 2 (some .boolean) [.ref 147, .int x1] M L (some (.int rv)) M L := by
  unfold f_X12_isWatch at h
  refine gs_of RX12 (by decide) rfl (Nat.le_of_ble_eq_true rfl) (fun X C E => ?_)
  show gs_AW X 0 [(0, .ref 147), (1, .int x1)] [] M L
  refine gs_iload_n (pc := 0) C 1 dX12_isWatch_0 rfl rfl ?_
  have j3 : gs_AW X 17 [(0, .ref 147), (1, .int x1)] [.int (if x1 < (0 : Int32) then (0 : Int32) else if (M 147 26) ≤ x1 then (0 : Int32) else (1 : Int32) : Int32)] M L := by
    obtain ⟨z1, e2, h⟩ := gs_o1 h
    obtain rfl := gs_i1 h
    exact gs_zret' (pc := 17) C dX12_isWatch_17 e2 E
  refine gs_if_lt (pc := 1) C 16 dX12_isWatch_1 rfl (fun c4 => ?_) (fun c4 => ?_)
  · refine gs_iconst (w := 0) (pc := 16) C dX12_isWatch_16 rfl ?_
    simp only [if_pos c4] at j3
    exact j3
  · refine gs_iload_n (pc := 4) C 1 dX12_isWatch_4 rfl rfl ?_
    refine gs_aload_n (pc := 5) C 0 dX12_isWatch_5 rfl rfl ?_
    refine gs_geti (pc := 6) C dX12_isWatch_6 gk_12 fl_X12_281 sh_147 rfl ?_
    refine gs_icmp_ge (pc := 9) C 16 dX12_isWatch_9 rfl (fun c5 => ?_) (fun c5 => ?_)
    · refine gs_iconst (w := 0) (pc := 16) C dX12_isWatch_16 rfl ?_
      simp only [if_neg c4, if_pos c5] at j3
      exact j3
    · refine gs_iconst (w := 1) (pc := 12) C dX12_isWatch_12 rfl ?_
      refine gs_goto (pc := 13) C 17 dX12_isWatch_13 rfl ?_
      simp only [if_neg c4, if_neg c5] at j3
      exact j3
set_option maxRecDepth 100000 in
set_option maxHeartbeats 4000000 in
theorem t_X12_seem_75 {X : gs_X} (C : gs_C X RX12 cX12_seem 8 (some .int) 82) {L : gs_L} {x1 : Int32} {x2 : Int32} {x3 : Int32} {x4 : Int32} {x5 : Int32} {o6 : Int32} {o7 : Int32} {M' : gs_M} (k : gs_AW X 132 [(0, .ref 147), (1, .int x1), (2, .int x2), (3, .int x3), (4, .int x4), (5, .int x5), (6, .int o6), (7, .int o7)] [] M' L) : ∀ (f : Nat) (x6 : Int32) (x7 : Int32) (M : gs_M), l_X12_seem_75 x1 x2 x3 x4 x5 f x6 x7 M = some (o6, o7, M') → gs_AW X 75 [(0, .ref 147), (1, .int x1), (2, .int x2), (3, .int x3), (4, .int x4), (5, .int x5), (6, .int x6), (7, .int x7)] [] M L := by
  intro f
  induction f with
  | zero =>
    intro x6 x7 M h
    cases h
  | succ f ih =>
    intro x6 x7 M h
    rw [l_X12_seem_75] at h
    refine gs_iload (pc := 75) C 7 dX12_seem_75 rfl ?_
    refine gs_aload_n (pc := 77) C 0 dX12_seem_77 rfl rfl ?_
    refine gs_getq (pc := 78) C dX12_seem_78 gk_12 fl_X12_37 sh_147 rfl ?_
    refine gs_iconst (w := 0) (pc := 81) C dX12_seem_81 rfl ?_
    obtain ⟨v1, e2, h⟩ := gs_o1 h
    refine gs_iald (pc := 82) C dX12_seem_82 sh_152 e2 ?_
    refine gs_icmp_ge (pc := 83) C 132 dX12_seem_83 rfl (fun c3 => ?_) (fun c3 => ?_)
    · replace h := gs_ift c3 h
      obtain ⟨rfl, rfl, rfl⟩ := gs_i3 h
      exact k
    · replace h := gs_iff c3 h
      refine gs_aload_n (pc := 86) C 0 dX12_seem_86 rfl rfl ?_
      refine gs_iload_n (pc := 87) C 2 dX12_seem_87 rfl rfl ?_
      refine gs_iload (pc := 88) C 7 dX12_seem_88 rfl ?_
      obtain ⟨v4, e5, h⟩ := gs_o1 h
      refine gs_callVi (pc := 90) C [.int x2, .int x7] dX12_seem_90 ml_X12_334 wy_X12_watchedBy (a_X12_watchedBy _ e5) (by decide) sh_147 (by decide) rfl rfl (Nat.le_of_ble_eq_true rfl) rfl ?_
      refine gs_iload_n (pc := 93) C 1 dX12_seem_93 rfl rfl ?_
      obtain ⟨y6, M7, e8, h⟩ := gs_o2 h
      have j9 : gs_AW X 126 [(0, .ref 147), (1, .int x1), (2, .int x2), (3, .int x3), (4, .int x4), (5, .int x5), (6, .int y6), (7, .int x7)] [] M7 L := by
        refine gs_iinc (v := x7 + (1 : Int32)) (ls' := [(7, .int (x7 + (1 : Int32))), (0, .ref 147), (1, .int x1), (2, .int x2), (3, .int x3), (4, .int x4), (5, .int x5), (6, .int y6)]) (pc := 126) C 7 dX12_seem_126 rfl rfl (by decide) rfl ?_
        refine gs_goto (pc := 129) C 75 dX12_seem_129 rfl ?_
        exact gs_sub [1, 2, 3, 4, 5, 6, 7, 0] rfl (ih _ _ _ h)
      refine gs_icmp_ne (pc := 94) C 126 dX12_seem_94 rfl (fun c10 => ?_) (fun c10 => ?_)
      · replace e8 := gs_iff c10 e8
        obtain ⟨rfl, rfl⟩ := gs_i2 e8
        exact j9
      · replace e8 := gs_ift c10 e8
        refine gs_iload (pc := 97) C 6 dX12_seem_97 rfl ?_
        refine gs_aload_n (pc := 99) C 0 dX12_seem_99 rfl rfl ?_
        refine gs_aload_n (pc := 100) C 0 dX12_seem_100 rfl rfl ?_
        refine gs_geti (pc := 101) C dX12_seem_101 gk_12 fl_X12_58 sh_147 rfl ?_
        refine gs_iload_n (pc := 104) C 1 dX12_seem_104 rfl rfl ?_
        refine gs_aload_n (pc := 105) C 0 dX12_seem_105 rfl rfl ?_
        refine gs_iload_n (pc := 106) C 1 dX12_seem_106 rfl rfl ?_
        refine gs_iconst (w := 2) (pc := 107) C dX12_seem_107 rfl ?_
        obtain ⟨v11, e12, e8⟩ := gs_o1 e8
        refine gs_callVi (pc := 108) C [.int x1, .int (2 : Int32)] dX12_seem_108 ml_X12_301 wy_X12_of (a_X12_of _ e12) (by decide) sh_147 (by decide) rfl rfl (Nat.le_of_ble_eq_true rfl) rfl ?_
        refine gs_iload (pc := 111) C 7 dX12_seem_111 rfl ?_
        refine gs_iload (pc := 113) C 5 dX12_seem_113 rfl ?_
        refine gs_iload (pc := 115) C 7 dX12_seem_115 rfl ?_
        refine gs_ishr (pc := 117) C dX12_seem_117 ?_
        refine gs_iconst (w := 1) (pc := 118) C dX12_seem_118 rfl ?_
        refine gs_iand (pc := 119) C dX12_seem_119 ?_
        obtain ⟨v13, M14, e15, e8⟩ := gs_o2 e8
        refine gs_callVi (pc := 120) C [.int (M 147 29), .int x1, .int v11, .int x7, .int ((x5 >>> (x7 &&& 31)) &&& (1 : Int32))] dX12_seem_120 ml_X12_319 wy_X12_pointsBy (a_X12_pointsBy _ e15) (by decide) sh_147 (by decide) rfl rfl (Nat.le_of_ble_eq_true rfl) rfl ?_
        refine gs_iadd (pc := 123) C dX12_seem_123 ?_
        refine gs_istore (ls' := [(6, .int (x6 + v13)), (0, .ref 147), (1, .int x1), (2, .int x2), (3, .int x3), (4, .int x4), (5, .int x5), (7, .int x7)]) (pc := 124) C dX12_seem_124 (by decide) rfl ?_
        obtain ⟨rfl, rfl⟩ := gs_i2 e8
        exact gs_sub [1, 2, 3, 4, 5, 6, 0, 7] rfl (j9)
set_option maxRecDepth 100000 in
set_option maxHeartbeats 4000000 in
theorem t_X12_seem_35 {X : gs_X} (C : gs_C X RX12 cX12_seem 8 (some .int) 82) {L : gs_L} {x1 : Int32} {x2 : Int32} {x4 : Int32} {o3 : Int32} {o5 : Int32} {M' : gs_M} (k : gs_AW X 152 [(0, .ref 147), (1, .int x1), (2, .int x2), (3, .int o3), (4, .int x4), (5, .int o5)] [] M' L) : ∀ (f : Nat) (x3 : Int32) (x5 : Int32) (M : gs_M), l_X12_seem_35 x1 x2 x4 f x3 x5 M = some (o3, o5, M') → gs_AW X 35 [(0, .ref 147), (1, .int x1), (2, .int x2), (3, .int x3), (4, .int x4), (5, .int x5)] [] M L := by
  intro f
  induction f with
  | zero =>
    intro x3 x5 M h
    cases h
  | succ f ih =>
    intro x3 x5 M h
    rw [l_X12_seem_35] at h
    refine gs_iload (pc := 35) C 5 dX12_seem_35 rfl ?_
    refine gs_iconst (w := 1) (pc := 37) C dX12_seem_37 rfl ?_
    refine gs_aload_n (pc := 38) C 0 dX12_seem_38 rfl rfl ?_
    refine gs_getq (pc := 39) C dX12_seem_39 gk_12 fl_X12_37 sh_147 rfl ?_
    refine gs_iconst (w := 0) (pc := 42) C dX12_seem_42 rfl ?_
    obtain ⟨v1, e2, h⟩ := gs_o1 h
    refine gs_iald (pc := 43) C dX12_seem_43 sh_152 e2 ?_
    refine gs_ishl (pc := 44) C dX12_seem_44 ?_
    refine gs_icmp_ge (pc := 45) C 152 dX12_seem_45 rfl (fun c3 => ?_) (fun c3 => ?_)
    · replace h := gs_ift c3 h
      obtain ⟨rfl, rfl, rfl⟩ := gs_i3 h
      exact k
    · replace h := gs_iff c3 h
      refine gs_iload_n (pc := 48) C 3 dX12_seem_48 rfl rfl ?_
      refine gs_iconst (w := (-1)) (pc := 49) C dX12_seem_49 rfl ?_
      obtain ⟨y4, M5, e6, h⟩ := gs_o2 h
      have j7 : gs_AW X 146 [(0, .ref 147), (1, .int x1), (2, .int x2), (3, .int y4), (4, .int x4), (5, .int x5)] [] M5 L := by
        refine gs_iinc (v := x5 + (1 : Int32)) (ls' := [(5, .int (x5 + (1 : Int32))), (0, .ref 147), (1, .int x1), (2, .int x2), (3, .int y4), (4, .int x4)]) (pc := 146) C 5 dX12_seem_146 rfl rfl (by decide) rfl ?_
        refine gs_goto (pc := 149) C 35 dX12_seem_149 rfl ?_
        exact gs_sub [1, 2, 3, 4, 5, 0] rfl (ih _ _ _ h)
      refine gs_icmp_eq (pc := 50) C 68 dX12_seem_50 rfl (fun c8 => ?_) (fun c8 => ?_)
      · replace e6 := gs_ift c8 e6
        refine gs_iload (pc := 68) C 4 dX12_seem_68 rfl ?_
        refine gs_istore (ls' := [(6, .int x4), (0, .ref 147), (1, .int x1), (2, .int x2), (3, .int x3), (4, .int x4), (5, .int x5)]) (pc := 70) C dX12_seem_70 (by decide) rfl ?_
        refine gs_iconst (w := 0) (pc := 72) C dX12_seem_72 rfl ?_
        refine gs_istore (ls' := [(7, .int (0 : Int32)), (6, .int x4), (0, .ref 147), (1, .int x1), (2, .int x2), (3, .int x3), (4, .int x4), (5, .int x5)]) (pc := 73) C dX12_seem_73 (by decide) rfl ?_
        obtain ⟨y9, y10, M11, e12, e6⟩ := gs_o3 e6
        refine gs_sub [2, 3, 4, 5, 6, 7, 1, 0] rfl (t_X12_seem_75 C ?_ gs_FU _ _ _ e12)
        refine gs_iload (pc := 132) C 6 dX12_seem_132 rfl ?_
        refine gs_aload_n (pc := 134) C 0 dX12_seem_134 rfl rfl ?_
        refine gs_getq (pc := 135) C dX12_seem_135 gk_12 fl_X12_37 sh_147 rfl ?_
        refine gs_iconst (w := 1) (pc := 138) C dX12_seem_138 rfl ?_
        obtain ⟨v13, e14, e6⟩ := gs_o1 e6
        refine gs_iald (pc := 139) C dX12_seem_139 sh_152 e14 ?_
        refine gs_icmp_ge (pc := 140) C 146 dX12_seem_140 rfl (fun c15 => ?_) (fun c15 => ?_)
        · replace e6 := gs_ift c15 e6
          obtain ⟨rfl, rfl⟩ := gs_i2 e6
          exact gs_sub [0, 1, 2, 3, 4, 5] rfl (j7)
        · replace e6 := gs_iff c15 e6
          refine gs_iload (pc := 143) C 5 dX12_seem_143 rfl ?_
          refine gs_istore_n (ls' := [(3, .int x5), (0, .ref 147), (1, .int x1), (2, .int x2), (4, .int x4), (5, .int x5), (6, .int y9), (7, .int y10)]) (pc := 145) C dX12_seem_145 rfl (by decide) rfl ?_
          obtain ⟨rfl, rfl⟩ := gs_i2 e6
          exact gs_sub [1, 2, 3, 0, 4, 5] rfl (j7)
      · replace e6 := gs_iff c8 e6
        refine gs_iload (pc := 53) C 5 dX12_seem_53 rfl ?_
        obtain ⟨v16, e17, e6⟩ := gs_o1 e6
        refine gs_callSi (pc := 55) C [.int x5] dX12_seem_55 ml_X12_400 wy_J6_bitCount_0f7a4 (a_J6_bitCount_0f7a4 _ e17) (by decide) rfl (Nat.le_of_ble_eq_true rfl) rfl ?_
        refine gs_iload_n (pc := 58) C 3 dX12_seem_58 rfl rfl ?_
        obtain ⟨v18, e19, e6⟩ := gs_o1 e6
        refine gs_callSi (pc := 59) C [.int x3] dX12_seem_59 ml_X12_400 wy_J6_bitCount_0f7a4 (a_J6_bitCount_0f7a4 _ e19) (by decide) rfl (Nat.le_of_ble_eq_true rfl) rfl ?_
        refine gs_icmp_lt (pc := 62) C 68 dX12_seem_62 rfl (fun c20 => ?_) (fun c20 => ?_)
        · replace e6 := gs_ift c20 e6
          refine gs_iload (pc := 68) C 4 dX12_seem_68 rfl ?_
          refine gs_istore (ls' := [(6, .int x4), (0, .ref 147), (1, .int x1), (2, .int x2), (3, .int x3), (4, .int x4), (5, .int x5)]) (pc := 70) C dX12_seem_70 (by decide) rfl ?_
          refine gs_iconst (w := 0) (pc := 72) C dX12_seem_72 rfl ?_
          refine gs_istore (ls' := [(7, .int (0 : Int32)), (6, .int x4), (0, .ref 147), (1, .int x1), (2, .int x2), (3, .int x3), (4, .int x4), (5, .int x5)]) (pc := 73) C dX12_seem_73 (by decide) rfl ?_
          obtain ⟨y21, y22, M23, e24, e6⟩ := gs_o3 e6
          refine gs_sub [2, 3, 4, 5, 6, 7, 1, 0] rfl (t_X12_seem_75 C ?_ gs_FU _ _ _ e24)
          refine gs_iload (pc := 132) C 6 dX12_seem_132 rfl ?_
          refine gs_aload_n (pc := 134) C 0 dX12_seem_134 rfl rfl ?_
          refine gs_getq (pc := 135) C dX12_seem_135 gk_12 fl_X12_37 sh_147 rfl ?_
          refine gs_iconst (w := 1) (pc := 138) C dX12_seem_138 rfl ?_
          obtain ⟨v25, e26, e6⟩ := gs_o1 e6
          refine gs_iald (pc := 139) C dX12_seem_139 sh_152 e26 ?_
          refine gs_icmp_ge (pc := 140) C 146 dX12_seem_140 rfl (fun c27 => ?_) (fun c27 => ?_)
          · replace e6 := gs_ift c27 e6
            obtain ⟨rfl, rfl⟩ := gs_i2 e6
            exact gs_sub [0, 1, 2, 3, 4, 5] rfl (j7)
          · replace e6 := gs_iff c27 e6
            refine gs_iload (pc := 143) C 5 dX12_seem_143 rfl ?_
            refine gs_istore_n (ls' := [(3, .int x5), (0, .ref 147), (1, .int x1), (2, .int x2), (4, .int x4), (5, .int x5), (6, .int y21), (7, .int y22)]) (pc := 145) C dX12_seem_145 rfl (by decide) rfl ?_
            obtain ⟨rfl, rfl⟩ := gs_i2 e6
            exact gs_sub [1, 2, 3, 0, 4, 5] rfl (j7)
        · replace e6 := gs_iff c20 e6
          refine gs_goto (pc := 65) C 146 dX12_seem_65 rfl ?_
          obtain ⟨rfl, rfl⟩ := gs_i2 e6
          exact j7
set_option maxRecDepth 100000 in
set_option maxHeartbeats 4000000 in
theorem a_X12_seem (l : Launch) {M : gs_M} {L : gs_L} {x1 : Int32} {x2 : Int32} {rv : Int32} {Mz : gs_M} (h : f_X12_seem M x1 x2 = some (rv, Mz)) : gs_Met l 82 yX12_seem cX12_seem 8 (some .int) [.ref 147, .int x1, .int x2] M L (some (.int rv)) Mz L := by
  unfold f_X12_seem at h
  refine gs_of RX12 (by decide) rfl (Nat.le_of_ble_eq_true rfl) (fun X C E => ?_)
  show gs_AW X 0 [(0, .ref 147), (1, .int x1), (2, .int x2)] [] M L
  refine gs_aload_n (pc := 0) C 0 dX12_seem_0 rfl rfl ?_
  refine gs_iconst (w := 0) (pc := 1) C dX12_seem_1 rfl ?_
  obtain ⟨M2, e1, h⟩ := gs_o1 h
  refine gs_puti' (pc := 2) C dX12_seem_2 gk_12 fp_X12_100 sh_147 rfl e1 ?_
  refine gs_aload_n (pc := 5) C 0 dX12_seem_5 rfl rfl ?_
  refine gs_iload_n (pc := 6) C 1 dX12_seem_6 rfl rfl ?_
  obtain ⟨v3, e4, h⟩ := gs_o1 h
  refine gs_callVi (pc := 7) C [.int x1] dX12_seem_7 ml_X12_347 wy_X12_isPerson (a_X12_isPerson _ e4) (by decide) sh_147 (by decide) rfl rfl (Nat.le_of_ble_eq_true rfl) rfl ?_
  refine gs_if_eq (pc := 10) C 21 dX12_seem_10 rfl (fun c5 => ?_) (fun c5 => ?_)
  · replace h := gs_ift c5 h
    refine gs_iconst (w := (-1)) (pc := 21) C dX12_seem_21 rfl ?_
    obtain ⟨rfl, rfl⟩ := gs_i2 h
    exact gs_iret (pc := 22) C dX12_seem_22 E
  · replace h := gs_iff c5 h
    refine gs_aload_n (pc := 13) C 0 dX12_seem_13 rfl rfl ?_
    refine gs_iload_n (pc := 14) C 2 dX12_seem_14 rfl rfl ?_
    obtain ⟨v6, e7, h⟩ := gs_o1 h
    refine gs_callVi (pc := 15) C [.int x2] dX12_seem_15 ml_X12_355 wy_X12_isWatch (a_X12_isWatch _ e7) (by decide) sh_147 (by decide) rfl rfl (Nat.le_of_ble_eq_true rfl) rfl ?_
    refine gs_if_ne (pc := 18) C 23 dX12_seem_18 rfl (fun c8 => ?_) (fun c8 => ?_)
    · replace h := gs_iff c8 h
      refine gs_iconst (w := (-1)) (pc := 23) C dX12_seem_23 rfl ?_
      refine gs_istore_n (ls' := [(3, .int (-1 : Int32)), (0, .ref 147), (1, .int x1), (2, .int x2)]) (pc := 24) C dX12_seem_24 rfl (by decide) rfl ?_
      refine gs_aload_n (pc := 25) C 1 dX12_seem_25 rfl rfl ?_
      refine gs_iload_n (pc := 26) C 2 dX12_seem_26 rfl rfl ?_
      obtain ⟨v9, M10, e11, h⟩ := gs_o2 h
      refine gs_callVi (pc := 27) C [.int x1] dX12_seem_27 ml_X12_383 wy_X12_caseOf (a_X12_caseOf _ e11) (by decide) sh_147 (by decide) rfl rfl (Nat.le_of_ble_eq_true rfl) rfl ?_
      refine gs_istore (ls' := [(4, .int v9), (3, .int (-1 : Int32)), (0, .ref 147), (1, .int x1), (2, .int x2)]) (pc := 30) C dX12_seem_30 (by decide) rfl ?_
      refine gs_iconst (w := 0) (pc := 32) C dX12_seem_32 rfl ?_
      refine gs_istore (ls' := [(5, .int (0 : Int32)), (4, .int v9), (3, .int (-1 : Int32)), (0, .ref 147), (1, .int x1), (2, .int x2)]) (pc := 33) C dX12_seem_33 (by decide) rfl ?_
      obtain ⟨y12, y13, M14, e15, h⟩ := gs_o3 h
      refine gs_sub [3, 4, 5, 2, 1, 0] rfl (t_X12_seem_35 C ?_ gs_FU _ _ _ e15)
      refine gs_iload_n (pc := 152) C 3 dX12_seem_152 rfl rfl ?_
      obtain ⟨rfl, rfl⟩ := gs_i2 h
      exact gs_iret (pc := 153) C dX12_seem_153 E
    · replace h := gs_ift c8 h
      refine gs_iconst (w := (-1)) (pc := 21) C dX12_seem_21 rfl ?_
      obtain ⟨rfl, rfl⟩ := gs_i2 h
      exact gs_iret (pc := 22) C dX12_seem_22 E
set_option maxRecDepth 100000 in
set_option maxHeartbeats 4000000 in
theorem a_X12_sleeps (l : Launch) {M : gs_M} {L : gs_L} {x1 : Int32} {rv : Int32} {Mz : gs_M} (h : f_X12_sleeps M x1 = some (rv, Mz)) : gs_Met l 82 yX12_sleeps cX12_sleeps 2 (some .int) [.ref 147, .int x1] M L (some (.int rv)) Mz L := by
  unfold f_X12_sleeps at h
  refine gs_of RX12 (by decide) rfl (Nat.le_of_ble_eq_true rfl) (fun X C E => ?_)
  show gs_AW X 0 [(0, .ref 147), (1, .int x1)] [] M L
  refine gs_aload_n (pc := 0) C 0 dX12_sleeps_0 rfl rfl ?_
  refine gs_iconst (w := 0) (pc := 1) C dX12_sleeps_1 rfl ?_
  obtain ⟨M2, e1, h⟩ := gs_o1 h
  refine gs_puti' (pc := 2) C dX12_sleeps_2 gk_12 fp_X12_100 sh_147 rfl e1 ?_
  refine gs_aload_n (pc := 5) C 0 dX12_sleeps_5 rfl rfl ?_
  refine gs_iload_n (pc := 6) C 1 dX12_sleeps_6 rfl rfl ?_
  obtain ⟨v3, e4, h⟩ := gs_o1 h
  refine gs_callVi (pc := 7) C [.int x1] dX12_sleeps_7 ml_X12_347 wy_X12_isPerson (a_X12_isPerson _ e4) (by decide) sh_147 (by decide) rfl rfl (Nat.le_of_ble_eq_true rfl) rfl ?_
  obtain ⟨y5, M6, e7, h⟩ := gs_o2 h
  have j8 : gs_AW X 22 [(0, .ref 147), (1, .int x1)] [.int y5] M6 L := by
    obtain ⟨rfl, rfl⟩ := gs_i2 h
    exact gs_iret (pc := 22) C dX12_sleeps_22 E
  refine gs_if_eq (pc := 10) C 21 dX12_sleeps_10 rfl (fun c9 => ?_) (fun c9 => ?_)
  · replace e7 := gs_ift c9 e7
    refine gs_iconst (w := (-1)) (pc := 21) C dX12_sleeps_21 rfl ?_
    obtain ⟨rfl, rfl⟩ := gs_i2 e7
    exact j8
  · replace e7 := gs_iff c9 e7
    refine gs_aload_n (pc := 13) C 0 dX12_sleeps_13 rfl rfl ?_
    refine gs_iload_n (pc := 14) C 1 dX12_sleeps_14 rfl rfl ?_
    obtain ⟨v10, M11, e12, e7⟩ := gs_o2 e7
    refine gs_callVi (pc := 15) C [.int x1] dX12_sleeps_15 ml_X12_397 wy_X12_sleepsOf (a_X12_sleepsOf _ e12) (by decide) sh_147 (by decide) rfl rfl (Nat.le_of_ble_eq_true rfl) rfl ?_
    refine gs_goto (pc := 18) C 22 dX12_sleeps_18 rfl ?_
    obtain ⟨rfl, rfl⟩ := gs_i2 e7
    exact j8
set_option maxRecDepth 100000 in
set_option maxHeartbeats 4000000 in
theorem t_X12_tells_33 {X : gs_X} (C : gs_C X RX12 cX12_tells 7 (some .int) 81) {L : gs_L} {x1 : Int32} {x2 : Int32} {o3 : Int32} {o4 : Int32} {o5 : Int32} {M' : gs_M} (k : gs_AW X 88 [(0, .ref 147), (1, .int x1), (2, .int x2), (3, .int o3), (4, .int o4), (5, .int o5)] [] M' L) : ∀ (f : Nat) (x3 : Int32) (x4 : Int32) (x5 : Int32) (M : gs_M), l_X12_tells_33 x1 x2 f x3 x4 x5 M = some (o3, o4, o5, M') → gs_AW X 33 [(0, .ref 147), (1, .int x1), (2, .int x2), (3, .int x3), (4, .int x4), (5, .int x5)] [] M L := by
  intro f
  induction f with
  | zero =>
    intro x3 x4 x5 M h
    cases h
  | succ f ih =>
    intro x3 x4 x5 M h
    rw [l_X12_tells_33] at h
    refine gs_iload (pc := 33) C 5 dX12_tells_33 rfl ?_
    refine gs_aload_n (pc := 35) C 0 dX12_tells_35 rfl rfl ?_
    refine gs_getq (pc := 36) C dX12_tells_36 gk_12 fl_X12_37 sh_147 rfl ?_
    refine gs_iconst (w := 0) (pc := 39) C dX12_tells_39 rfl ?_
    obtain ⟨v1, e2, h⟩ := gs_o1 h
    refine gs_iald (pc := 40) C dX12_tells_40 sh_152 e2 ?_
    refine gs_icmp_ge (pc := 41) C 88 dX12_tells_41 rfl (fun c3 => ?_) (fun c3 => ?_)
    · replace h := gs_ift c3 h
      obtain ⟨rfl, rfl, rfl, rfl⟩ := gs_i4 h
      exact k
    · replace h := gs_iff c3 h
      refine gs_aload_n (pc := 44) C 0 dX12_tells_44 rfl rfl ?_
      refine gs_iload_n (pc := 45) C 1 dX12_tells_45 rfl rfl ?_
      refine gs_iload (pc := 46) C 5 dX12_tells_46 rfl ?_
      obtain ⟨v4, M5, e6, h⟩ := gs_o2 h
      refine gs_callVi (pc := 48) C [.int x1, .int x5] dX12_tells_48 ml_X12_340 wy_X12_wakesNow (a_X12_wakesNow _ e6) (by decide) sh_147 (by decide) rfl rfl (Nat.le_of_ble_eq_true rfl) rfl ?_
      refine gs_aload_n (pc := 51) C 0 dX12_tells_51 rfl rfl ?_
      refine gs_iconst (w := 0) (pc := 52) C dX12_tells_52 rfl ?_
      refine gs_iload_n (pc := 53) C 1 dX12_tells_53 rfl rfl ?_
      refine gs_iload (pc := 54) C 5 dX12_tells_54 rfl ?_
      obtain ⟨v7, M8, e9, h⟩ := gs_o2 h
      refine gs_callVi (pc := 56) C [.int (0 : Int32), .int x1, .int x5] dX12_tells_56 ml_X12_312 wy_X12_wakesBy (a_X12_wakesBy _ e9) (by decide) sh_147 (by decide) rfl rfl (Nat.le_of_ble_eq_true rfl) rfl ?_
      refine gs_isub (pc := 59) C dX12_tells_59 ?_
      refine gs_mabs (pc := 60) C dX12_tells_60 ml_X12_405 (Nat.le_of_ble_eq_true rfl) ?_
      refine gs_istore (ls' := [(6, .int (if 0 ≤ (v4 - v7) then (v4 - v7) else 0 - (v4 - v7) : Int32)), (0, .ref 147), (1, .int x1), (2, .int x2), (3, .int x3), (4, .int x4), (5, .int x5)]) (pc := 63) C dX12_tells_63 (by decide) rfl ?_
      refine gs_iload (pc := 65) C 0 dX12_tells_65 rfl ?_
      refine gs_iload (pc := 67) C 5 dX12_tells_67 rfl ?_
      have j10 : gs_AW X 82 [(0, .ref 147), (1, .int x1), (2, .int x2), (3, .int (if x4 < (if 0 ≤ (v4 - v7) then (v4 - v7) else 0 - (v4 - v7) : Int32) then x5 else x3 : Int32)), (4, .int (if x4 < (if 0 ≤ (v4 - v7) then (v4 - v7) else 0 - (v4 - v7) : Int32) then (if 0 ≤ (v4 - v7) then (v4 - v7) else 0 - (v4 - v7) : Int32) else x4 : Int32)), (5, .int x5), (6, .int (if 0 ≤ (v4 - v7) then (v4 - v7) else 0 - (v4 - v7) : Int32))] [] M8 L := by
        refine gs_iinc (v := x5 + (1 : Int32)) (ls' := [(5, .int (x5 + (1 : Int32))), (0, .ref 147), (1, .int x1), (2, .int x2), (3, .int (if x4 < (if 0 ≤ (v4 - v7) then (v4 - v7) else 0 - (v4 - v7) : Int32) then x5 else x3 : Int32)), (4, .int (if x4 < (if 0 ≤ (v4 - v7) then (v4 - v7) else 0 - (v4 - v7) : Int32) then (if 0 ≤ (v4 - v7) then (v4 - v7) else 0 - (v4 - v7) : Int32) else x4 : Int32)), (6, .int (if 0 ≤ (v4 - v7) then (v4 - v7) else 0 - (v4 - v7) : Int32))]) (pc := 82) C 5 dX12_tells_82 rfl rfl (by decide) rfl ?_
        refine gs_goto (pc := 85) C 33 dX12_tells_85 rfl ?_
        exact gs_sub [1, 2, 3, 4, 5, 0] rfl (ih _ _ _ _ h)
      refine gs_icmp_gt (pc := 69) C 75 dX12_tells_69 rfl (fun c11 => ?_) (fun c11 => ?_)
      · refine gs_iload (pc := 75) C 6 dX12_tells_75 rfl ?_
        refine gs_istore_n (ls' := [(3, .int x5), (6, .int (if 0 ≤ (v4 - v7) then (v4 - v7) else 0 - (v4 - v7) : Int32)), (0, .ref 147), (1, .int x1), (2, .int x2), (4, .int x4), (5, .int x5)]) (pc := 77) C dX12_tells_77 rfl (by decide) rfl ?_
        refine gs_iload (pc := 78) C 1 dX12_tells_78 rfl ?_
        refine gs_istore (ls' := [(4, .int (if 0 ≤ (v4 - v7) then (v4 - v7) else 0 - (v4 - v7) : Int32)), (3, .int x5), (6, .int (if 0 ≤ (v4 - v7) then (v4 - v7) else 0 - (v4 - v7) : Int32)), (0, .ref 147), (1, .int x1), (2, .int x2), (5, .int x5)]) (pc := 80) C dX12_tells_80 (by decide) rfl ?_
        simp only [if_pos c11] at j10
        exact gs_sub [3, 4, 5, 1, 0, 6, 2] rfl (j10)
      · refine gs_goto (pc := 72) C 82 dX12_tells_72 rfl ?_
        simp only [if_neg c11] at j10
        exact gs_sub [1, 2, 3, 4, 5, 6, 0] rfl (j10)
set_option maxRecDepth 100000 in
set_option maxHeartbeats 4000000 in
theorem a_X12_tells (l : Launch) {M : gs_M} {L : gs_L} {x1 : Int32} {x2 : Int32} {rv : Int32} {Mz : gs_M} (h : f_X12_tells M x1 x2 = some (rv, Mz)) : gs_Met l 81 yX12_tells cX12_tells 7 (some .int) [.ref 147, .int x1, .int x2] M L (some (.int rv)) Mz L := by
  unfold f_X12_tells at h
  refine gs_of RX12 (by decide) rfl (Nat.le_of_ble_eq_true rfl) (fun X C E => ?_)
  show gs_AW X 0 [(0, .ref 147), (1, .int x1), (2, .int x2)] [] M L
  refine gs_aload_n (pc := 0) C 0 dX12_tells_0 rfl rfl ?_
  refine gs_iconst (w := 0) (pc := 1) C dX12_tells_1 rfl ?_
  obtain ⟨M2, e1, h⟩ := gs_o1 h
  refine gs_puti' (pc := 2) C dX12_tells_2 gk_12 fp_X12_100 sh_147 rfl e1 ?_
  refine gs_aload_n (pc := 5) C 0 dX12_tells_5 rfl rfl ?_
  refine gs_iload_n (pc := 6) C 1 dX12_tells_6 rfl rfl ?_
  obtain ⟨v3, e4, h⟩ := gs_o1 h
  refine gs_callVi (pc := 7) C [.int x1] dX12_tells_7 ml_X12_347 wy_X12_isPerson (a_X12_isPerson _ e4) (by decide) sh_147 (by decide) rfl rfl (Nat.le_of_ble_eq_true rfl) rfl ?_
  refine gs_if_eq (pc := 10) C 23 dX12_tells_10 rfl (fun c5 => ?_) (fun c5 => ?_)
  · replace h := gs_ift c5 h
    refine gs_iconst (w := (-1)) (pc := 23) C dX12_tells_23 rfl ?_
    obtain ⟨rfl, rfl⟩ := gs_i2 h
    exact gs_iret (pc := 24) C dX12_tells_24 E
  · replace h := gs_iff c5 h
    refine gs_iload_n (pc := 13) C 2 dX12_tells_13 rfl rfl ?_
    refine gs_i2l (pc := 14) C dX12_tells_14 ?_
    refine gs_lconst (w := 0) (pc := 15) C dX12_tells_15 rfl ?_
    refine gs_lconst (w := 1) (pc := 16) C dX12_tells_16 rfl ?_
    obtain ⟨v6, e7, h⟩ := gs_o1 h
    refine gs_callSi (pc := 17) C [.long (Int32.toInt64 x2), .long (0 : Int64), .long (1 : Int64)] dX12_tells_17 ml_X12_221 wy_X12_isIn (a_X12_isIn _ e7) (by decide) rfl (Nat.le_of_ble_eq_true rfl) rfl ?_
    refine gs_if_ne (pc := 20) C 25 dX12_tells_20 rfl (fun c8 => ?_) (fun c8 => ?_)
    · replace h := gs_iff c8 h
      refine gs_iconst (w := 0) (pc := 25) C dX12_tells_25 rfl ?_
      refine gs_istore_n (ls' := [(3, .int (0 : Int32)), (0, .ref 147), (1, .int x1), (2, .int x2)]) (pc := 26) C dX12_tells_26 rfl (by decide) rfl ?_
      refine gs_iconst (w := (-1)) (pc := 27) C dX12_tells_27 rfl ?_
      refine gs_istore (ls' := [(4, .int (-1 : Int32)), (3, .int (0 : Int32)), (0, .ref 147), (1, .int x1), (2, .int x2)]) (pc := 28) C dX12_tells_28 (by decide) rfl ?_
      refine gs_iconst (w := 0) (pc := 30) C dX12_tells_30 rfl ?_
      refine gs_istore (ls' := [(5, .int (0 : Int32)), (4, .int (-1 : Int32)), (3, .int (0 : Int32)), (0, .ref 147), (1, .int x1), (2, .int x2)]) (pc := 31) C dX12_tells_31 (by decide) rfl ?_
      obtain ⟨y9, y10, y11, M12, e13, h⟩ := gs_o4 h
      refine gs_sub [3, 4, 5, 2, 1, 0] rfl (t_X12_tells_33 C ?_ gs_FU _ _ _ _ e13)
      refine gs_iload_n (pc := 88) C 2 dX12_tells_88 rfl rfl ?_
      have j14 : gs_AW X 98 [(0, .ref 147), (1, .int x1), (2, .int x2), (3, .int y9), (4, .int y10), (5, .int y11)] [.int (if x2 = (0 : Int32) then y9 else y10 : Int32)] M12 L := by
        obtain ⟨rfl, rfl⟩ := gs_i2 h
        exact gs_iret (pc := 98) C dX12_tells_98 E
      refine gs_if_ne (pc := 89) C 96 dX12_tells_89 rfl (fun c15 => ?_) (fun c15 => ?_)
      · refine gs_iload (pc := 96) C 4 dX12_tells_96 rfl ?_
        simp only [if_neg c15] at j14
        exact j14
      · refine gs_iload_n (pc := 92) C 3 dX12_tells_92 rfl rfl ?_
        refine gs_goto (pc := 93) C 98 dX12_tells_93 rfl ?_
        simp only [if_pos c15] at j14
        exact j14
    · replace h := gs_ift c8 h
      refine gs_iconst (w := (-1)) (pc := 23) C dX12_tells_23 rfl ?_
      obtain ⟨rfl, rfl⟩ := gs_i2 h
      exact gs_iret (pc := 24) C dX12_tells_24 E
set_option maxRecDepth 100000 in
set_option maxHeartbeats 4000000 in
theorem t_X12_text_214 {X : gs_X} (C : gs_C X RX12 cX12_text 4 (some .int) 80) {L : gs_L} {x1 : Int32} {x2 : Int32} {o3 : Int32} {M' : gs_M} (k : gs_AW X 237 [(0, .ref 147), (1, .int x1), (2, .int x2), (3, .int o3)] [] M' L) : ∀ (f : Nat) (x3 : Int32) (M : gs_M), l_X12_text_214 x1 x2 f x3 M = some (o3, M') → gs_AW X 214 [(0, .ref 147), (1, .int x1), (2, .int x2), (3, .int x3)] [] M L := by
  intro f
  induction f with
  | zero =>
    intro x3 M h
    cases h
  | succ f ih =>
    intro x3 M h
    rw [l_X12_text_214] at h
    refine gs_iload_n (pc := 214) C 3 dX12_text_214 rfl rfl ?_
    refine gs_iconst (w := 3) (pc := 215) C dX12_text_215 rfl ?_
    refine gs_icmp_ge (pc := 216) C 237 dX12_text_216 rfl (fun c1 => ?_) (fun c1 => ?_)
    · replace h := gs_ift c1 h
      obtain ⟨rfl, rfl⟩ := gs_i2 h
      exact k
    · replace h := gs_iff c1 h
      refine gs_aload_n (pc := 219) C 0 dX12_text_219 rfl rfl ?_
      refine gs_getq (pc := 220) C dX12_text_220 gk_12 fl_X12_37 sh_147 rfl ?_
      refine gs_iload_n (pc := 223) C 3 dX12_text_223 rfl rfl ?_
      refine gs_aload_n (pc := 224) C 0 dX12_text_224 rfl rfl ?_
      refine gs_getq (pc := 225) C dX12_text_225 gk_12 fl_X12_40 sh_147 rfl ?_
      refine gs_iload_n (pc := 228) C 3 dX12_text_228 rfl rfl ?_
      obtain ⟨v2, e3, h⟩ := gs_o1 h
      refine gs_iald (pc := 229) C dX12_text_229 sh_153 e3 ?_
      obtain ⟨M5, e4, h⟩ := gs_o1 h
      refine gs_iast (pc := 230) C dX12_text_230 sh_152 e4 ?_
      refine gs_iinc (v := x3 + (1 : Int32)) (ls' := [(3, .int (x3 + (1 : Int32))), (0, .ref 147), (1, .int x1), (2, .int x2)]) (pc := 231) C 3 dX12_text_231 rfl rfl (by decide) rfl ?_
      refine gs_goto (pc := 234) C 214 dX12_text_234 rfl ?_
      exact gs_sub [1, 2, 3, 0] rfl (ih _ _ h)
set_option maxRecDepth 100000 in
set_option maxHeartbeats 4000000 in
theorem t_X12_text_239 {X : gs_X} (C : gs_C X RX12 cX12_text 4 (some .int) 80) {L : gs_L} {x1 : Int32} {x2 : Int32} {o3 : Int32} {M' : gs_M} (k : gs_AW X 263 [(0, .ref 147), (1, .int x1), (2, .int x2), (3, .int o3)] [] M' L) : ∀ (f : Nat) (x3 : Int32) (M : gs_M), l_X12_text_239 x1 x2 f x3 M = some (o3, M') → gs_AW X 239 [(0, .ref 147), (1, .int x1), (2, .int x2), (3, .int x3)] [] M L := by
  intro f
  induction f with
  | zero =>
    intro x3 M h
    cases h
  | succ f ih =>
    intro x3 M h
    rw [l_X12_text_239] at h
    refine gs_iload_n (pc := 239) C 3 dX12_text_239 rfl rfl ?_
    refine gs_bipush (w := 40) (pc := 240) C dX12_text_240 rfl ?_
    refine gs_icmp_ge (pc := 242) C 263 dX12_text_242 rfl (fun c1 => ?_) (fun c1 => ?_)
    · replace h := gs_ift c1 h
      obtain ⟨rfl, rfl⟩ := gs_i2 h
      exact k
    · replace h := gs_iff c1 h
      refine gs_aload_n (pc := 245) C 0 dX12_text_245 rfl rfl ?_
      refine gs_getq (pc := 246) C dX12_text_246 gk_12 fl_X12_43 sh_147 rfl ?_
      refine gs_iload_n (pc := 249) C 3 dX12_text_249 rfl rfl ?_
      refine gs_aload_n (pc := 250) C 0 dX12_text_250 rfl rfl ?_
      refine gs_getq (pc := 251) C dX12_text_251 gk_12 fl_X12_46 sh_147 rfl ?_
      refine gs_iload_n (pc := 254) C 3 dX12_text_254 rfl rfl ?_
      obtain ⟨v2, e3, h⟩ := gs_o1 h
      refine gs_iald (pc := 255) C dX12_text_255 sh_155 e3 ?_
      obtain ⟨M5, e4, h⟩ := gs_o1 h
      refine gs_iast (pc := 256) C dX12_text_256 sh_154 e4 ?_
      refine gs_iinc (v := x3 + (1 : Int32)) (ls' := [(3, .int (x3 + (1 : Int32))), (0, .ref 147), (1, .int x1), (2, .int x2)]) (pc := 257) C 3 dX12_text_257 rfl rfl (by decide) rfl ?_
      refine gs_goto (pc := 260) C 239 dX12_text_260 rfl ?_
      exact gs_sub [1, 2, 3, 0] rfl (ih _ _ h)
set_option maxRecDepth 100000 in
set_option maxHeartbeats 4000000 in
theorem t_X12_text_265 {X : gs_X} (C : gs_C X RX12 cX12_text 4 (some .int) 80) {L : gs_L} {x1 : Int32} {x2 : Int32} {o3 : Int32} {M' : gs_M} (k : gs_AW X 285 [(0, .ref 147), (1, .int x1), (2, .int x2), (3, .int o3)] [] M' L) : ∀ (f : Nat) (x3 : Int32) (M : gs_M), l_X12_text_265 x1 x2 f x3 M = some (o3, M') → gs_AW X 265 [(0, .ref 147), (1, .int x1), (2, .int x2), (3, .int x3)] [] M L := by
  intro f
  induction f with
  | zero =>
    intro x3 M h
    cases h
  | succ f ih =>
    intro x3 M h
    rw [l_X12_text_265] at h
    refine gs_iload_n (pc := 265) C 3 dX12_text_265 rfl rfl ?_
    refine gs_sipush (w := 533) (pc := 266) C dX12_text_266 rfl ?_
    refine gs_icmp_ge (pc := 269) C 285 dX12_text_269 rfl (fun c1 => ?_) (fun c1 => ?_)
    · replace h := gs_ift c1 h
      obtain ⟨rfl, rfl⟩ := gs_i2 h
      exact k
    · replace h := gs_iff c1 h
      refine gs_aload_n (pc := 272) C 0 dX12_text_272 rfl rfl ?_
      refine gs_getq (pc := 273) C dX12_text_273 gk_12 fl_X12_55 sh_147 rfl ?_
      refine gs_iload_n (pc := 276) C 3 dX12_text_276 rfl rfl ?_
      refine gs_iconst (w := 0) (pc := 277) C dX12_text_277 rfl ?_
      obtain ⟨M3, e2, h⟩ := gs_o1 h
      refine gs_iast (pc := 278) C dX12_text_278 sh_158 e2 ?_
      refine gs_iinc (v := x3 + (1 : Int32)) (ls' := [(3, .int (x3 + (1 : Int32))), (0, .ref 147), (1, .int x1), (2, .int x2)]) (pc := 279) C 3 dX12_text_279 rfl rfl (by decide) rfl ?_
      refine gs_goto (pc := 282) C 265 dX12_text_282 rfl ?_
      exact gs_sub [1, 2, 3, 0] rfl (ih _ _ h)
set_option maxRecDepth 100000 in
set_option maxHeartbeats 4000000 in
theorem t_X12_text_287 {X : gs_X} (C : gs_C X RX12 cX12_text 4 (some .int) 80) {L : gs_L} {x1 : Int32} {x2 : Int32} {o3 : Int32} {M' : gs_M} (k : gs_AW X 362 [(0, .ref 147), (1, .int x1), (2, .int x2), (3, .int o3)] [] M' L) : ∀ (f : Nat) (x3 : Int32) (M : gs_M), l_X12_text_287 x1 x2 f x3 M = some (o3, M') → gs_AW X 287 [(0, .ref 147), (1, .int x1), (2, .int x2), (3, .int x3)] [] M L := by
  intro f
  induction f with
  | zero =>
    intro x3 M h
    cases h
  | succ f ih =>
    intro x3 M h
    rw [l_X12_text_287] at h
    refine gs_iload_n (pc := 287) C 3 dX12_text_287 rfl rfl ?_
    refine gs_aload_n (pc := 288) C 0 dX12_text_288 rfl rfl ?_
    refine gs_geti (pc := 289) C dX12_text_289 gk_12 fl_X12_286 sh_147 rfl ?_
    refine gs_icmp_ge (pc := 292) C 362 dX12_text_292 rfl (fun c1 => ?_) (fun c1 => ?_)
    · replace h := gs_ift c1 h
      obtain ⟨rfl, rfl⟩ := gs_i2 h
      exact k
    · replace h := gs_iff c1 h
      refine gs_aload_n (pc := 295) C 0 dX12_text_295 rfl rfl ?_
      refine gs_getq (pc := 296) C dX12_text_296 gk_12 fl_X12_55 sh_147 rfl ?_
      refine gs_bipush (w := 6) (pc := 299) C dX12_text_299 rfl ?_
      refine gs_iload_n (pc := 301) C 3 dX12_text_301 rfl rfl ?_
      refine gs_imul (pc := 302) C dX12_text_302 ?_
      refine gs_iconst (w := 0) (pc := 303) C dX12_text_303 rfl ?_
      refine gs_iadd (pc := 304) C dX12_text_304 ?_
      refine gs_aload_n (pc := 305) C 0 dX12_text_305 rfl rfl ?_
      refine gs_getq (pc := 306) C dX12_text_306 gk_12 fl_X12_43 sh_147 rfl ?_
      refine gs_iconst (w := 5) (pc := 309) C dX12_text_309 rfl ?_
      refine gs_iload_n (pc := 310) C 3 dX12_text_310 rfl rfl ?_
      refine gs_imul (pc := 311) C dX12_text_311 ?_
      obtain ⟨v2, e3, h⟩ := gs_o1 h
      refine gs_iald (pc := 312) C dX12_text_312 sh_154 e3 ?_
      obtain ⟨M5, e4, h⟩ := gs_o1 h
      refine gs_iast (pc := 313) C dX12_text_313 sh_158 e4 ?_
      refine gs_aload_n (pc := 314) C 0 dX12_text_314 rfl rfl ?_
      refine gs_getq (pc := 315) C dX12_text_315 gk_12 fl_X12_55 sh_147 rfl ?_
      refine gs_bipush (w := 6) (pc := 318) C dX12_text_318 rfl ?_
      refine gs_iload_n (pc := 320) C 3 dX12_text_320 rfl rfl ?_
      refine gs_imul (pc := 321) C dX12_text_321 ?_
      refine gs_iconst (w := 1) (pc := 322) C dX12_text_322 rfl ?_
      refine gs_iadd (pc := 323) C dX12_text_323 ?_
      refine gs_aload_n (pc := 324) C 0 dX12_text_324 rfl rfl ?_
      refine gs_getq (pc := 325) C dX12_text_325 gk_12 fl_X12_43 sh_147 rfl ?_
      refine gs_iconst (w := 5) (pc := 328) C dX12_text_328 rfl ?_
      refine gs_iload_n (pc := 329) C 3 dX12_text_329 rfl rfl ?_
      refine gs_imul (pc := 330) C dX12_text_330 ?_
      refine gs_iconst (w := 2) (pc := 331) C dX12_text_331 rfl ?_
      refine gs_iadd (pc := 332) C dX12_text_332 ?_
      obtain ⟨v6, e7, h⟩ := gs_o1 h
      refine gs_iald (pc := 333) C dX12_text_333 sh_154 e7 ?_
      obtain ⟨M9, e8, h⟩ := gs_o1 h
      refine gs_iast (pc := 334) C dX12_text_334 sh_158 e8 ?_
      refine gs_aload_n (pc := 335) C 0 dX12_text_335 rfl rfl ?_
      refine gs_getq (pc := 336) C dX12_text_336 gk_12 fl_X12_55 sh_147 rfl ?_
      refine gs_bipush (w := 6) (pc := 339) C dX12_text_339 rfl ?_
      refine gs_iload_n (pc := 341) C 3 dX12_text_341 rfl rfl ?_
      refine gs_imul (pc := 342) C dX12_text_342 ?_
      refine gs_iconst (w := 2) (pc := 343) C dX12_text_343 rfl ?_
      refine gs_iadd (pc := 344) C dX12_text_344 ?_
      refine gs_aload_n (pc := 345) C 0 dX12_text_345 rfl rfl ?_
      refine gs_getq (pc := 346) C dX12_text_346 gk_12 fl_X12_43 sh_147 rfl ?_
      refine gs_iconst (w := 5) (pc := 349) C dX12_text_349 rfl ?_
      refine gs_iload_n (pc := 350) C 3 dX12_text_350 rfl rfl ?_
      refine gs_imul (pc := 351) C dX12_text_351 ?_
      refine gs_iconst (w := 3) (pc := 352) C dX12_text_352 rfl ?_
      refine gs_iadd (pc := 353) C dX12_text_353 ?_
      obtain ⟨v10, e11, h⟩ := gs_o1 h
      refine gs_iald (pc := 354) C dX12_text_354 sh_154 e11 ?_
      obtain ⟨M13, e12, h⟩ := gs_o1 h
      refine gs_iast (pc := 355) C dX12_text_355 sh_158 e12 ?_
      refine gs_iinc (v := x3 + (1 : Int32)) (ls' := [(3, .int (x3 + (1 : Int32))), (0, .ref 147), (1, .int x1), (2, .int x2)]) (pc := 356) C 3 dX12_text_356 rfl rfl (by decide) rfl ?_
      refine gs_goto (pc := 359) C 287 dX12_text_359 rfl ?_
      exact gs_sub [1, 2, 3, 0] rfl (ih _ _ h)
set_option maxRecDepth 100000 in
set_option maxHeartbeats 4000000 in
theorem t_X12_text_137 {X : gs_X} (C : gs_C X RX12 cX12_text 4 (some .int) 80) {L : gs_L} {x1 : Int32} {x2 : Int32} {o3 : Int32} {M' : gs_M} (k : gs_AW X 172 [(0, .ref 147), (1, .int x1), (2, .int x2), (3, .int o3)] [] M' L) : ∀ (f : Nat) (x3 : Int32) (M : gs_M), l_X12_text_137 x1 x2 f x3 M = some (o3, M') → gs_AW X 137 [(0, .ref 147), (1, .int x1), (2, .int x2), (3, .int x3)] [] M L := by
  intro f
  induction f with
  | zero =>
    intro x3 M h
    cases h
  | succ f ih =>
    intro x3 M h
    rw [l_X12_text_137] at h
    refine gs_iload_n (pc := 137) C 3 dX12_text_137 rfl rfl ?_
    refine gs_bipush (w := 9) (pc := 138) C dX12_text_138 rfl ?_
    refine gs_icmp_ge (pc := 140) C 172 dX12_text_140 rfl (fun c1 => ?_) (fun c1 => ?_)
    · replace h := gs_ift c1 h
      obtain ⟨rfl, rfl⟩ := gs_i2 h
      exact k
    · replace h := gs_iff c1 h
      refine gs_aload_n (pc := 143) C 0 dX12_text_143 rfl rfl ?_
      refine gs_getq (pc := 144) C dX12_text_144 gk_12 fl_X12_49 sh_147 rfl ?_
      refine gs_bipush (w := 9) (pc := 147) C dX12_text_147 rfl ?_
      refine gs_aload_n (pc := 149) C 0 dX12_text_149 rfl rfl ?_
      refine gs_geti (pc := 150) C dX12_text_150 gk_12 fl_X12_281 sh_147 rfl ?_
      refine gs_imul (pc := 153) C dX12_text_153 ?_
      refine gs_iload_n (pc := 154) C 3 dX12_text_154 rfl rfl ?_
      refine gs_iadd (pc := 155) C dX12_text_155 ?_
      refine gs_aload_n (pc := 156) C 0 dX12_text_156 rfl rfl ?_
      refine gs_getq (pc := 157) C dX12_text_157 gk_12 fl_X12_49 sh_147 rfl ?_
      refine gs_bipush (w := 36) (pc := 160) C dX12_text_160 rfl ?_
      refine gs_iload_n (pc := 162) C 3 dX12_text_162 rfl rfl ?_
      refine gs_iadd (pc := 163) C dX12_text_163 ?_
      obtain ⟨v2, e3, h⟩ := gs_o1 h
      refine gs_iald (pc := 164) C dX12_text_164 sh_156 e3 ?_
      obtain ⟨M5, e4, h⟩ := gs_o1 h
      refine gs_iast (pc := 165) C dX12_text_165 sh_156 e4 ?_
      refine gs_iinc (v := x3 + (1 : Int32)) (ls' := [(3, .int (x3 + (1 : Int32))), (0, .ref 147), (1, .int x1), (2, .int x2)]) (pc := 166) C 3 dX12_text_166 rfl rfl (by decide) rfl ?_
      refine gs_goto (pc := 169) C 137 dX12_text_169 rfl ?_
      exact gs_sub [1, 2, 3, 0] rfl (ih _ _ h)
set_option maxRecDepth 100000 in
set_option maxHeartbeats 4000000 in
theorem t_X12_text_71 {X : gs_X} (C : gs_C X RX12 cX12_text 4 (some .int) 80) {L : gs_L} {x1 : Int32} {x2 : Int32} {o3 : Int32} {M' : gs_M} (k : gs_AW X 103 [(0, .ref 147), (1, .int x1), (2, .int x2), (3, .int o3)] [] M' L) : ∀ (f : Nat) (x3 : Int32) (M : gs_M), l_X12_text_71 x1 x2 f x3 M = some (o3, M') → gs_AW X 71 [(0, .ref 147), (1, .int x1), (2, .int x2), (3, .int x3)] [] M L := by
  intro f
  induction f with
  | zero =>
    intro x3 M h
    cases h
  | succ f ih =>
    intro x3 M h
    rw [l_X12_text_71] at h
    refine gs_iload_n (pc := 71) C 3 dX12_text_71 rfl rfl ?_
    refine gs_iload_n (pc := 72) C 2 dX12_text_72 rfl rfl ?_
    refine gs_icmp_ge (pc := 73) C 103 dX12_text_73 rfl (fun c1 => ?_) (fun c1 => ?_)
    · replace h := gs_ift c1 h
      obtain ⟨rfl, rfl⟩ := gs_i2 h
      exact k
    · replace h := gs_iff c1 h
      refine gs_aload_n (pc := 76) C 0 dX12_text_76 rfl rfl ?_
      refine gs_getq (pc := 77) C dX12_text_77 gk_12 fl_X12_13 sh_147 rfl ?_
      refine gs_sipush (w := 240) (pc := 80) C dX12_text_80 rfl ?_
      refine gs_aload_n (pc := 83) C 0 dX12_text_83 rfl rfl ?_
      refine gs_geti (pc := 84) C dX12_text_84 gk_12 fl_X12_278 sh_147 rfl ?_
      refine gs_imul (pc := 87) C dX12_text_87 ?_
      refine gs_iload_n (pc := 88) C 3 dX12_text_88 rfl rfl ?_
      refine gs_iadd (pc := 89) C dX12_text_89 ?_
      refine gs_aload_n (pc := 90) C 0 dX12_text_90 rfl rfl ?_
      refine gs_getq (pc := 91) C dX12_text_91 gk_12 fl_X12_9 sh_147 rfl ?_
      refine gs_iload_n (pc := 94) C 3 dX12_text_94 rfl rfl ?_
      obtain ⟨v2, e3, h⟩ := gs_o1 h
      refine gs_bald (pc := 95) C dX12_text_95 sh_148 e3 ?_
      obtain ⟨M5, e4, h⟩ := gs_o1 h
      refine gs_bast (pc := 96) C dX12_text_96 sh_149 e4 ?_
      refine gs_iinc (v := x3 + (1 : Int32)) (ls' := [(3, .int (x3 + (1 : Int32))), (0, .ref 147), (1, .int x1), (2, .int x2)]) (pc := 97) C 3 dX12_text_97 rfl rfl (by decide) rfl ?_
      refine gs_goto (pc := 100) C 71 dX12_text_100 rfl ?_
      exact gs_sub [1, 2, 3, 0] rfl (ih _ _ h)
set_option maxRecDepth 100000 in
set_option maxHeartbeats 4000000 in
theorem a_X12_text (l : Launch) {M : gs_M} {L : gs_L} {x1 : Int32} {rv : Int32} {Mz : gs_M} (h : f_X12_text M x1 = some (rv, Mz)) : gs_Met l 80 yX12_text cX12_text 4 (some .int) [.ref 147, .int x1] M L (some (.int rv)) Mz L := by
  unfold f_X12_text at h
  refine gs_of RX12 (by decide) rfl (Nat.le_of_ble_eq_true rfl) (fun X C E => ?_)
  show gs_AW X 0 [(0, .ref 147), (1, .int x1)] [] M L
  refine gs_aload_n (pc := 0) C 0 dX12_text_0 rfl rfl ?_
  refine gs_iconst (w := 0) (pc := 1) C dX12_text_1 rfl ?_
  obtain ⟨M2, e1, h⟩ := gs_o1 h
  refine gs_puti' (pc := 2) C dX12_text_2 gk_12 fp_X12_100 sh_147 rfl e1 ?_
  refine gs_iload_n (pc := 5) C 1 dX12_text_5 rfl rfl ?_
  refine gs_i2l (pc := 6) C dX12_text_6 ?_
  refine gs_lconst (w := 0) (pc := 7) C dX12_text_7 rfl ?_
  refine gs_ldc2 (pc := 8) C dX12_text_8 wj_X12_266 ?_
  obtain ⟨v3, e4, h⟩ := gs_o1 h
  refine gs_callSi (pc := 11) C [.long (Int32.toInt64 x1), .long (0 : Int64), .long (2 : Int64)] dX12_text_11 ml_X12_221 wy_X12_isIn (a_X12_isIn _ e4) (by decide) rfl (Nat.le_of_ble_eq_true rfl) rfl ?_
  refine gs_if_eq (pc := 14) C 52 dX12_text_14 rfl (fun c5 => ?_) (fun c5 => ?_)
  · replace h := gs_ift c5 h
    refine gs_iconst (w := (-1)) (pc := 52) C dX12_text_52 rfl ?_
    obtain ⟨rfl, rfl⟩ := gs_i2 h
    exact gs_iret (pc := 53) C dX12_text_53 E
  · replace h := gs_iff c5 h
    refine gs_iload_n (pc := 17) C 1 dX12_text_17 rfl rfl ?_
    refine gs_iconst (w := 1) (pc := 18) C dX12_text_18 rfl ?_
    refine gs_icmp_ne (pc := 19) C 30 dX12_text_19 rfl (fun c6 => ?_) (fun c6 => ?_)
    · replace h := gs_iff c6 h
      refine gs_iload_n (pc := 30) C 1 dX12_text_30 rfl rfl ?_
      refine gs_iconst (w := 2) (pc := 31) C dX12_text_31 rfl ?_
      refine gs_icmp_ne (pc := 32) C 43 dX12_text_32 rfl (fun c7 => ?_) (fun c7 => ?_)
      · replace h := gs_iff c7 h
        refine gs_aload_n (pc := 43) C 0 dX12_text_43 rfl rfl ?_
        refine gs_iload_n (pc := 44) C 1 dX12_text_44 rfl rfl ?_
        obtain ⟨v8, M9, e10, h⟩ := gs_o2 h
        refine gs_callVi (pc := 45) C [.int x1] dX12_text_45 ml_X12_284 wy_X12_fault (a_X12_fault _ e10) (by decide) sh_147 (by decide) rfl rfl (Nat.le_of_ble_eq_true rfl) rfl ?_
        refine gs_iconst (w := (-1)) (pc := 48) C dX12_text_48 rfl ?_
        refine gs_icmp_eq (pc := 49) C 54 dX12_text_49 rfl (fun c11 => ?_) (fun c11 => ?_)
        · replace h := gs_ift c11 h
          refine gs_aload_n (pc := 54) C 0 dX12_text_54 rfl rfl ?_
          refine gs_geti (pc := 55) C dX12_text_55 gk_12 fl_X12_113 sh_147 rfl ?_
          refine gs_istore_n (ls' := [(2, .int (M9 147 6)), (0, .ref 147), (1, .int x1)]) (pc := 58) C dX12_text_58 rfl (by decide) rfl ?_
          refine gs_aload_n (pc := 59) C 1 dX12_text_59 rfl rfl ?_
          refine gs_iconst (w := 0) (pc := 60) C dX12_text_60 rfl ?_
          obtain ⟨M13, e12, h⟩ := gs_o1 h
          refine gs_puti' (pc := 61) C dX12_text_61 gk_12 fp_X12_113 sh_147 rfl e12 ?_
          refine gs_iload_n (pc := 64) C 2 dX12_text_64 rfl rfl ?_
          refine gs_iconst (w := 1) (pc := 65) C dX12_text_65 rfl ?_
          refine gs_icmp_ne (pc := 66) C 130 dX12_text_66 rfl (fun c14 => ?_) (fun c14 => ?_)
          · replace h := gs_iff c14 h
            refine gs_iload_n (pc := 130) C 2 dX12_text_130 rfl rfl ?_
            refine gs_iconst (w := 2) (pc := 131) C dX12_text_131 rfl ?_
            refine gs_icmp_ne (pc := 132) C 204 dX12_text_132 rfl (fun c15 => ?_) (fun c15 => ?_)
            · replace h := gs_iff c15 h
              refine gs_aload_n (pc := 204) C 1 dX12_text_204 rfl rfl ?_
              refine gs_aload_n (pc := 205) C 1 dX12_text_205 rfl rfl ?_
              refine gs_geti (pc := 206) C dX12_text_206 gk_12 fl_X12_249 sh_147 rfl ?_
              obtain ⟨M17, e16, h⟩ := gs_o1 h
              refine gs_puti' (pc := 209) C dX12_text_209 gk_12 fp_X12_286 sh_147 rfl e16 ?_
              refine gs_iconst (w := 0) (pc := 212) C dX12_text_212 rfl ?_
              refine gs_istore_n (ls' := [(3, .int (0 : Int32)), (2, .int (M9 147 6)), (0, .ref 147), (1, .int x1)]) (pc := 213) C dX12_text_213 rfl (by decide) rfl ?_
              obtain ⟨y18, M19, e20, h⟩ := gs_o2 h
              refine gs_sub [2, 3, 1, 0] rfl (t_X12_text_214 C ?_ gs_FU _ _ e20)
              refine gs_iconst (w := 0) (pc := 237) C dX12_text_237 rfl ?_
              refine gs_istore_n (ls' := [(3, .int (0 : Int32)), (0, .ref 147), (1, .int x1), (2, .int (M9 147 6))]) (pc := 238) C dX12_text_238 rfl (by decide) rfl ?_
              obtain ⟨y21, M22, e23, h⟩ := gs_o2 h
              refine gs_sub [1, 2, 3, 0] rfl (t_X12_text_239 C ?_ gs_FU _ _ e23)
              refine gs_iconst (w := 0) (pc := 263) C dX12_text_263 rfl ?_
              refine gs_istore_n (ls' := [(3, .int (0 : Int32)), (0, .ref 147), (1, .int x1), (2, .int (M9 147 6))]) (pc := 264) C dX12_text_264 rfl (by decide) rfl ?_
              obtain ⟨y24, M25, e26, h⟩ := gs_o2 h
              refine gs_sub [1, 2, 3, 0] rfl (t_X12_text_265 C ?_ gs_FU _ _ e26)
              refine gs_iconst (w := 0) (pc := 285) C dX12_text_285 rfl ?_
              refine gs_istore_n (ls' := [(3, .int (0 : Int32)), (0, .ref 147), (1, .int x1), (2, .int (M9 147 6))]) (pc := 286) C dX12_text_286 rfl (by decide) rfl ?_
              obtain ⟨y27, M28, e29, h⟩ := gs_o2 h
              refine gs_sub [1, 2, 3, 0] rfl (t_X12_text_287 C ?_ gs_FU _ _ e29)
              refine gs_aload_n (pc := 362) C 0 dX12_text_362 rfl rfl ?_
              refine gs_iconst (w := 0) (pc := 363) C dX12_text_363 rfl ?_
              obtain ⟨M31, e30, h⟩ := gs_o1 h
              refine gs_puti' (pc := 364) C dX12_text_364 gk_12 fp_X12_289 sh_147 rfl e30 ?_
              refine gs_aload_n (pc := 367) C 0 dX12_text_367 rfl rfl ?_
              refine gs_iconst (w := 0) (pc := 368) C dX12_text_368 rfl ?_
              obtain ⟨M33, e32, h⟩ := gs_o1 h
              refine gs_puti' (pc := 369) C dX12_text_369 gk_12 fp_X12_292 sh_147 rfl e32 ?_
              refine gs_aload_n (pc := 372) C 0 dX12_text_372 rfl rfl ?_
              refine gs_iconst (w := 0) (pc := 373) C dX12_text_373 rfl ?_
              obtain ⟨M35, e34, h⟩ := gs_o1 h
              refine gs_putz' (pc := 374) C dX12_text_374 gk_12 fp_X12_295 sh_147 rfl (by decide) e34 ?_
              refine gs_aload_n (pc := 377) C 0 dX12_text_377 rfl rfl ?_
              refine gs_geti (pc := 378) C dX12_text_378 gk_12 fl_X12_286 sh_147 rfl ?_
              obtain ⟨rfl, rfl⟩ := gs_i2 h
              exact gs_iret (pc := 381) C dX12_text_381 E
            · replace h := gs_ift c15 h
              refine gs_iconst (w := 0) (pc := 135) C dX12_text_135 rfl ?_
              refine gs_istore_n (ls' := [(3, .int (0 : Int32)), (2, .int (M9 147 6)), (0, .ref 147), (1, .int x1)]) (pc := 136) C dX12_text_136 rfl (by decide) rfl ?_
              obtain ⟨y36, M37, e38, h⟩ := gs_o2 h
              refine gs_sub [2, 3, 1, 0] rfl (t_X12_text_137 C ?_ gs_FU _ _ e38)
              refine gs_aload_n (pc := 172) C 0 dX12_text_172 rfl rfl ?_
              refine gs_getq (pc := 173) C dX12_text_173 gk_12 fl_X12_52 sh_147 rfl ?_
              refine gs_aload_n (pc := 176) C 0 dX12_text_176 rfl rfl ?_
              refine gs_geti (pc := 177) C dX12_text_177 gk_12 fl_X12_281 sh_147 rfl ?_
              refine gs_aload_n (pc := 180) C 0 dX12_text_180 rfl rfl ?_
              refine gs_getq (pc := 181) C dX12_text_181 gk_12 fl_X12_52 sh_147 rfl ?_
              refine gs_iconst (w := 4) (pc := 184) C dX12_text_184 rfl ?_
              obtain ⟨v39, e40, h⟩ := gs_o1 h
              refine gs_iald (pc := 185) C dX12_text_185 sh_157 e40 ?_
              obtain ⟨M42, e41, h⟩ := gs_o1 h
              refine gs_iast (pc := 186) C dX12_text_186 sh_157 e41 ?_
              refine gs_aload_n (pc := 187) C 0 dX12_text_187 rfl rfl ?_
              refine gs_dup (pc := 188) C dX12_text_188 rfl ?_
              refine gs_geti (pc := 189) C dX12_text_189 gk_12 fl_X12_281 sh_147 rfl ?_
              refine gs_iconst (w := 1) (pc := 192) C dX12_text_192 rfl ?_
              refine gs_iadd (pc := 193) C dX12_text_193 ?_
              obtain ⟨M44, e43, h⟩ := gs_o1 h
              refine gs_puti' (pc := 194) C dX12_text_194 gk_12 fp_X12_281 sh_147 rfl e43 ?_
              refine gs_aload_n (pc := 197) C 0 dX12_text_197 rfl rfl ?_
              refine gs_geti (pc := 198) C dX12_text_198 gk_12 fl_X12_281 sh_147 rfl ?_
              refine gs_iconst (w := 1) (pc := 201) C dX12_text_201 rfl ?_
              refine gs_isub (pc := 202) C dX12_text_202 ?_
              obtain ⟨rfl, rfl⟩ := gs_i2 h
              exact gs_iret (pc := 203) C dX12_text_203 E
          · replace h := gs_ift c14 h
            refine gs_iconst (w := 0) (pc := 69) C dX12_text_69 rfl ?_
            refine gs_istore_n (ls' := [(3, .int (0 : Int32)), (2, .int (M9 147 6)), (0, .ref 147), (1, .int x1)]) (pc := 70) C dX12_text_70 rfl (by decide) rfl ?_
            obtain ⟨y45, M46, e47, h⟩ := gs_o2 h
            refine gs_sub [2, 3, 1, 0] rfl (t_X12_text_71 C ?_ gs_FU _ _ e47)
            refine gs_aload_n (pc := 103) C 0 dX12_text_103 rfl rfl ?_
            refine gs_getq (pc := 104) C dX12_text_104 gk_12 fl_X12_16 sh_147 rfl ?_
            refine gs_aload_n (pc := 107) C 0 dX12_text_107 rfl rfl ?_
            refine gs_geti (pc := 108) C dX12_text_108 gk_12 fl_X12_278 sh_147 rfl ?_
            refine gs_iload_n (pc := 111) C 2 dX12_text_111 rfl rfl ?_
            obtain ⟨M49, e48, h⟩ := gs_o1 h
            refine gs_iast (pc := 112) C dX12_text_112 sh_150 e48 ?_
            refine gs_aload_n (pc := 113) C 0 dX12_text_113 rfl rfl ?_
            refine gs_dup (pc := 114) C dX12_text_114 rfl ?_
            refine gs_geti (pc := 115) C dX12_text_115 gk_12 fl_X12_278 sh_147 rfl ?_
            refine gs_iconst (w := 1) (pc := 118) C dX12_text_118 rfl ?_
            refine gs_iadd (pc := 119) C dX12_text_119 ?_
            obtain ⟨M51, e50, h⟩ := gs_o1 h
            refine gs_puti' (pc := 120) C dX12_text_120 gk_12 fp_X12_278 sh_147 rfl e50 ?_
            refine gs_aload_n (pc := 123) C 0 dX12_text_123 rfl rfl ?_
            refine gs_geti (pc := 124) C dX12_text_124 gk_12 fl_X12_278 sh_147 rfl ?_
            refine gs_iconst (w := 1) (pc := 127) C dX12_text_127 rfl ?_
            refine gs_isub (pc := 128) C dX12_text_128 ?_
            obtain ⟨rfl, rfl⟩ := gs_i2 h
            exact gs_iret (pc := 129) C dX12_text_129 E
        · replace h := gs_iff c11 h
          refine gs_iconst (w := (-1)) (pc := 52) C dX12_text_52 rfl ?_
          obtain ⟨rfl, rfl⟩ := gs_i2 h
          exact gs_iret (pc := 53) C dX12_text_53 E
      · replace h := gs_ift c7 h
        refine gs_aload_n (pc := 35) C 0 dX12_text_35 rfl rfl ?_
        refine gs_geti (pc := 36) C dX12_text_36 gk_12 fl_X12_281 sh_147 rfl ?_
        refine gs_iconst (w := 4) (pc := 39) C dX12_text_39 rfl ?_
        refine gs_icmp_eq (pc := 40) C 52 dX12_text_40 rfl (fun c52 => ?_) (fun c52 => ?_)
        · replace h := gs_ift c52 h
          refine gs_iconst (w := (-1)) (pc := 52) C dX12_text_52 rfl ?_
          obtain ⟨rfl, rfl⟩ := gs_i2 h
          exact gs_iret (pc := 53) C dX12_text_53 E
        · replace h := gs_iff c52 h
          refine gs_aload_n (pc := 43) C 0 dX12_text_43 rfl rfl ?_
          refine gs_iload_n (pc := 44) C 1 dX12_text_44 rfl rfl ?_
          obtain ⟨v53, M54, e55, h⟩ := gs_o2 h
          refine gs_callVi (pc := 45) C [.int x1] dX12_text_45 ml_X12_284 wy_X12_fault (a_X12_fault _ e55) (by decide) sh_147 (by decide) rfl rfl (Nat.le_of_ble_eq_true rfl) rfl ?_
          refine gs_iconst (w := (-1)) (pc := 48) C dX12_text_48 rfl ?_
          refine gs_icmp_eq (pc := 49) C 54 dX12_text_49 rfl (fun c56 => ?_) (fun c56 => ?_)
          · replace h := gs_ift c56 h
            refine gs_aload_n (pc := 54) C 0 dX12_text_54 rfl rfl ?_
            refine gs_geti (pc := 55) C dX12_text_55 gk_12 fl_X12_113 sh_147 rfl ?_
            refine gs_istore_n (ls' := [(2, .int (M54 147 6)), (0, .ref 147), (1, .int x1)]) (pc := 58) C dX12_text_58 rfl (by decide) rfl ?_
            refine gs_aload_n (pc := 59) C 1 dX12_text_59 rfl rfl ?_
            refine gs_iconst (w := 0) (pc := 60) C dX12_text_60 rfl ?_
            obtain ⟨M58, e57, h⟩ := gs_o1 h
            refine gs_puti' (pc := 61) C dX12_text_61 gk_12 fp_X12_113 sh_147 rfl e57 ?_
            refine gs_iload_n (pc := 64) C 2 dX12_text_64 rfl rfl ?_
            refine gs_iconst (w := 1) (pc := 65) C dX12_text_65 rfl ?_
            refine gs_icmp_ne (pc := 66) C 130 dX12_text_66 rfl (fun c59 => ?_) (fun c59 => ?_)
            · replace h := gs_iff c59 h
              refine gs_iload_n (pc := 130) C 2 dX12_text_130 rfl rfl ?_
              refine gs_iconst (w := 2) (pc := 131) C dX12_text_131 rfl ?_
              refine gs_icmp_ne (pc := 132) C 204 dX12_text_132 rfl (fun c60 => ?_) (fun c60 => ?_)
              · replace h := gs_iff c60 h
                refine gs_aload_n (pc := 204) C 1 dX12_text_204 rfl rfl ?_
                refine gs_aload_n (pc := 205) C 1 dX12_text_205 rfl rfl ?_
                refine gs_geti (pc := 206) C dX12_text_206 gk_12 fl_X12_249 sh_147 rfl ?_
                obtain ⟨M62, e61, h⟩ := gs_o1 h
                refine gs_puti' (pc := 209) C dX12_text_209 gk_12 fp_X12_286 sh_147 rfl e61 ?_
                refine gs_iconst (w := 0) (pc := 212) C dX12_text_212 rfl ?_
                refine gs_istore_n (ls' := [(3, .int (0 : Int32)), (2, .int (M54 147 6)), (0, .ref 147), (1, .int x1)]) (pc := 213) C dX12_text_213 rfl (by decide) rfl ?_
                obtain ⟨y63, M64, e65, h⟩ := gs_o2 h
                refine gs_sub [2, 3, 1, 0] rfl (t_X12_text_214 C ?_ gs_FU _ _ e65)
                refine gs_iconst (w := 0) (pc := 237) C dX12_text_237 rfl ?_
                refine gs_istore_n (ls' := [(3, .int (0 : Int32)), (0, .ref 147), (1, .int x1), (2, .int (M54 147 6))]) (pc := 238) C dX12_text_238 rfl (by decide) rfl ?_
                obtain ⟨y66, M67, e68, h⟩ := gs_o2 h
                refine gs_sub [1, 2, 3, 0] rfl (t_X12_text_239 C ?_ gs_FU _ _ e68)
                refine gs_iconst (w := 0) (pc := 263) C dX12_text_263 rfl ?_
                refine gs_istore_n (ls' := [(3, .int (0 : Int32)), (0, .ref 147), (1, .int x1), (2, .int (M54 147 6))]) (pc := 264) C dX12_text_264 rfl (by decide) rfl ?_
                obtain ⟨y69, M70, e71, h⟩ := gs_o2 h
                refine gs_sub [1, 2, 3, 0] rfl (t_X12_text_265 C ?_ gs_FU _ _ e71)
                refine gs_iconst (w := 0) (pc := 285) C dX12_text_285 rfl ?_
                refine gs_istore_n (ls' := [(3, .int (0 : Int32)), (0, .ref 147), (1, .int x1), (2, .int (M54 147 6))]) (pc := 286) C dX12_text_286 rfl (by decide) rfl ?_
                obtain ⟨y72, M73, e74, h⟩ := gs_o2 h
                refine gs_sub [1, 2, 3, 0] rfl (t_X12_text_287 C ?_ gs_FU _ _ e74)
                refine gs_aload_n (pc := 362) C 0 dX12_text_362 rfl rfl ?_
                refine gs_iconst (w := 0) (pc := 363) C dX12_text_363 rfl ?_
                obtain ⟨M76, e75, h⟩ := gs_o1 h
                refine gs_puti' (pc := 364) C dX12_text_364 gk_12 fp_X12_289 sh_147 rfl e75 ?_
                refine gs_aload_n (pc := 367) C 0 dX12_text_367 rfl rfl ?_
                refine gs_iconst (w := 0) (pc := 368) C dX12_text_368 rfl ?_
                obtain ⟨M78, e77, h⟩ := gs_o1 h
                refine gs_puti' (pc := 369) C dX12_text_369 gk_12 fp_X12_292 sh_147 rfl e77 ?_
                refine gs_aload_n (pc := 372) C 0 dX12_text_372 rfl rfl ?_
                refine gs_iconst (w := 0) (pc := 373) C dX12_text_373 rfl ?_
                obtain ⟨M80, e79, h⟩ := gs_o1 h
                refine gs_putz' (pc := 374) C dX12_text_374 gk_12 fp_X12_295 sh_147 rfl (by decide) e79 ?_
                refine gs_aload_n (pc := 377) C 0 dX12_text_377 rfl rfl ?_
                refine gs_geti (pc := 378) C dX12_text_378 gk_12 fl_X12_286 sh_147 rfl ?_
                obtain ⟨rfl, rfl⟩ := gs_i2 h
                exact gs_iret (pc := 381) C dX12_text_381 E
              · replace h := gs_ift c60 h
                refine gs_iconst (w := 0) (pc := 135) C dX12_text_135 rfl ?_
                refine gs_istore_n (ls' := [(3, .int (0 : Int32)), (2, .int (M54 147 6)), (0, .ref 147), (1, .int x1)]) (pc := 136) C dX12_text_136 rfl (by decide) rfl ?_
                obtain ⟨y81, M82, e83, h⟩ := gs_o2 h
                refine gs_sub [2, 3, 1, 0] rfl (t_X12_text_137 C ?_ gs_FU _ _ e83)
                refine gs_aload_n (pc := 172) C 0 dX12_text_172 rfl rfl ?_
                refine gs_getq (pc := 173) C dX12_text_173 gk_12 fl_X12_52 sh_147 rfl ?_
                refine gs_aload_n (pc := 176) C 0 dX12_text_176 rfl rfl ?_
                refine gs_geti (pc := 177) C dX12_text_177 gk_12 fl_X12_281 sh_147 rfl ?_
                refine gs_aload_n (pc := 180) C 0 dX12_text_180 rfl rfl ?_
                refine gs_getq (pc := 181) C dX12_text_181 gk_12 fl_X12_52 sh_147 rfl ?_
                refine gs_iconst (w := 4) (pc := 184) C dX12_text_184 rfl ?_
                obtain ⟨v84, e85, h⟩ := gs_o1 h
                refine gs_iald (pc := 185) C dX12_text_185 sh_157 e85 ?_
                obtain ⟨M87, e86, h⟩ := gs_o1 h
                refine gs_iast (pc := 186) C dX12_text_186 sh_157 e86 ?_
                refine gs_aload_n (pc := 187) C 0 dX12_text_187 rfl rfl ?_
                refine gs_dup (pc := 188) C dX12_text_188 rfl ?_
                refine gs_geti (pc := 189) C dX12_text_189 gk_12 fl_X12_281 sh_147 rfl ?_
                refine gs_iconst (w := 1) (pc := 192) C dX12_text_192 rfl ?_
                refine gs_iadd (pc := 193) C dX12_text_193 ?_
                obtain ⟨M89, e88, h⟩ := gs_o1 h
                refine gs_puti' (pc := 194) C dX12_text_194 gk_12 fp_X12_281 sh_147 rfl e88 ?_
                refine gs_aload_n (pc := 197) C 0 dX12_text_197 rfl rfl ?_
                refine gs_geti (pc := 198) C dX12_text_198 gk_12 fl_X12_281 sh_147 rfl ?_
                refine gs_iconst (w := 1) (pc := 201) C dX12_text_201 rfl ?_
                refine gs_isub (pc := 202) C dX12_text_202 ?_
                obtain ⟨rfl, rfl⟩ := gs_i2 h
                exact gs_iret (pc := 203) C dX12_text_203 E
            · replace h := gs_ift c59 h
              refine gs_iconst (w := 0) (pc := 69) C dX12_text_69 rfl ?_
              refine gs_istore_n (ls' := [(3, .int (0 : Int32)), (2, .int (M54 147 6)), (0, .ref 147), (1, .int x1)]) (pc := 70) C dX12_text_70 rfl (by decide) rfl ?_
              obtain ⟨y90, M91, e92, h⟩ := gs_o2 h
              refine gs_sub [2, 3, 1, 0] rfl (t_X12_text_71 C ?_ gs_FU _ _ e92)
              refine gs_aload_n (pc := 103) C 0 dX12_text_103 rfl rfl ?_
              refine gs_getq (pc := 104) C dX12_text_104 gk_12 fl_X12_16 sh_147 rfl ?_
              refine gs_aload_n (pc := 107) C 0 dX12_text_107 rfl rfl ?_
              refine gs_geti (pc := 108) C dX12_text_108 gk_12 fl_X12_278 sh_147 rfl ?_
              refine gs_iload_n (pc := 111) C 2 dX12_text_111 rfl rfl ?_
              obtain ⟨M94, e93, h⟩ := gs_o1 h
              refine gs_iast (pc := 112) C dX12_text_112 sh_150 e93 ?_
              refine gs_aload_n (pc := 113) C 0 dX12_text_113 rfl rfl ?_
              refine gs_dup (pc := 114) C dX12_text_114 rfl ?_
              refine gs_geti (pc := 115) C dX12_text_115 gk_12 fl_X12_278 sh_147 rfl ?_
              refine gs_iconst (w := 1) (pc := 118) C dX12_text_118 rfl ?_
              refine gs_iadd (pc := 119) C dX12_text_119 ?_
              obtain ⟨M96, e95, h⟩ := gs_o1 h
              refine gs_puti' (pc := 120) C dX12_text_120 gk_12 fp_X12_278 sh_147 rfl e95 ?_
              refine gs_aload_n (pc := 123) C 0 dX12_text_123 rfl rfl ?_
              refine gs_geti (pc := 124) C dX12_text_124 gk_12 fl_X12_278 sh_147 rfl ?_
              refine gs_iconst (w := 1) (pc := 127) C dX12_text_127 rfl ?_
              refine gs_isub (pc := 128) C dX12_text_128 ?_
              obtain ⟨rfl, rfl⟩ := gs_i2 h
              exact gs_iret (pc := 129) C dX12_text_129 E
          · replace h := gs_iff c56 h
            refine gs_iconst (w := (-1)) (pc := 52) C dX12_text_52 rfl ?_
            obtain ⟨rfl, rfl⟩ := gs_i2 h
            exact gs_iret (pc := 53) C dX12_text_53 E
    · replace h := gs_ift c6 h
      refine gs_aload_n (pc := 22) C 0 dX12_text_22 rfl rfl ?_
      refine gs_geti (pc := 23) C dX12_text_23 gk_12 fl_X12_278 sh_147 rfl ?_
      refine gs_iconst (w := 4) (pc := 26) C dX12_text_26 rfl ?_
      refine gs_icmp_eq (pc := 27) C 52 dX12_text_27 rfl (fun c97 => ?_) (fun c97 => ?_)
      · replace h := gs_ift c97 h
        refine gs_iconst (w := (-1)) (pc := 52) C dX12_text_52 rfl ?_
        obtain ⟨rfl, rfl⟩ := gs_i2 h
        exact gs_iret (pc := 53) C dX12_text_53 E
      · replace h := gs_iff c97 h
        refine gs_iload_n (pc := 30) C 1 dX12_text_30 rfl rfl ?_
        refine gs_iconst (w := 2) (pc := 31) C dX12_text_31 rfl ?_
        refine gs_icmp_ne (pc := 32) C 43 dX12_text_32 rfl (fun c98 => ?_) (fun c98 => ?_)
        · replace h := gs_iff c98 h
          refine gs_aload_n (pc := 43) C 0 dX12_text_43 rfl rfl ?_
          refine gs_iload_n (pc := 44) C 1 dX12_text_44 rfl rfl ?_
          obtain ⟨v99, M100, e101, h⟩ := gs_o2 h
          refine gs_callVi (pc := 45) C [.int x1] dX12_text_45 ml_X12_284 wy_X12_fault (a_X12_fault _ e101) (by decide) sh_147 (by decide) rfl rfl (Nat.le_of_ble_eq_true rfl) rfl ?_
          refine gs_iconst (w := (-1)) (pc := 48) C dX12_text_48 rfl ?_
          refine gs_icmp_eq (pc := 49) C 54 dX12_text_49 rfl (fun c102 => ?_) (fun c102 => ?_)
          · replace h := gs_ift c102 h
            refine gs_aload_n (pc := 54) C 0 dX12_text_54 rfl rfl ?_
            refine gs_geti (pc := 55) C dX12_text_55 gk_12 fl_X12_113 sh_147 rfl ?_
            refine gs_istore_n (ls' := [(2, .int (M100 147 6)), (0, .ref 147), (1, .int x1)]) (pc := 58) C dX12_text_58 rfl (by decide) rfl ?_
            refine gs_aload_n (pc := 59) C 1 dX12_text_59 rfl rfl ?_
            refine gs_iconst (w := 0) (pc := 60) C dX12_text_60 rfl ?_
            obtain ⟨M104, e103, h⟩ := gs_o1 h
            refine gs_puti' (pc := 61) C dX12_text_61 gk_12 fp_X12_113 sh_147 rfl e103 ?_
            refine gs_iload_n (pc := 64) C 2 dX12_text_64 rfl rfl ?_
            refine gs_iconst (w := 1) (pc := 65) C dX12_text_65 rfl ?_
            refine gs_icmp_ne (pc := 66) C 130 dX12_text_66 rfl (fun c105 => ?_) (fun c105 => ?_)
            · replace h := gs_iff c105 h
              refine gs_iload_n (pc := 130) C 2 dX12_text_130 rfl rfl ?_
              refine gs_iconst (w := 2) (pc := 131) C dX12_text_131 rfl ?_
              refine gs_icmp_ne (pc := 132) C 204 dX12_text_132 rfl (fun c106 => ?_) (fun c106 => ?_)
              · replace h := gs_iff c106 h
                refine gs_aload_n (pc := 204) C 1 dX12_text_204 rfl rfl ?_
                refine gs_aload_n (pc := 205) C 1 dX12_text_205 rfl rfl ?_
                refine gs_geti (pc := 206) C dX12_text_206 gk_12 fl_X12_249 sh_147 rfl ?_
                obtain ⟨M108, e107, h⟩ := gs_o1 h
                refine gs_puti' (pc := 209) C dX12_text_209 gk_12 fp_X12_286 sh_147 rfl e107 ?_
                refine gs_iconst (w := 0) (pc := 212) C dX12_text_212 rfl ?_
                refine gs_istore_n (ls' := [(3, .int (0 : Int32)), (2, .int (M100 147 6)), (0, .ref 147), (1, .int x1)]) (pc := 213) C dX12_text_213 rfl (by decide) rfl ?_
                obtain ⟨y109, M110, e111, h⟩ := gs_o2 h
                refine gs_sub [2, 3, 1, 0] rfl (t_X12_text_214 C ?_ gs_FU _ _ e111)
                refine gs_iconst (w := 0) (pc := 237) C dX12_text_237 rfl ?_
                refine gs_istore_n (ls' := [(3, .int (0 : Int32)), (0, .ref 147), (1, .int x1), (2, .int (M100 147 6))]) (pc := 238) C dX12_text_238 rfl (by decide) rfl ?_
                obtain ⟨y112, M113, e114, h⟩ := gs_o2 h
                refine gs_sub [1, 2, 3, 0] rfl (t_X12_text_239 C ?_ gs_FU _ _ e114)
                refine gs_iconst (w := 0) (pc := 263) C dX12_text_263 rfl ?_
                refine gs_istore_n (ls' := [(3, .int (0 : Int32)), (0, .ref 147), (1, .int x1), (2, .int (M100 147 6))]) (pc := 264) C dX12_text_264 rfl (by decide) rfl ?_
                obtain ⟨y115, M116, e117, h⟩ := gs_o2 h
                refine gs_sub [1, 2, 3, 0] rfl (t_X12_text_265 C ?_ gs_FU _ _ e117)
                refine gs_iconst (w := 0) (pc := 285) C dX12_text_285 rfl ?_
                refine gs_istore_n (ls' := [(3, .int (0 : Int32)), (0, .ref 147), (1, .int x1), (2, .int (M100 147 6))]) (pc := 286) C dX12_text_286 rfl (by decide) rfl ?_
                obtain ⟨y118, M119, e120, h⟩ := gs_o2 h
                refine gs_sub [1, 2, 3, 0] rfl (t_X12_text_287 C ?_ gs_FU _ _ e120)
                refine gs_aload_n (pc := 362) C 0 dX12_text_362 rfl rfl ?_
                refine gs_iconst (w := 0) (pc := 363) C dX12_text_363 rfl ?_
                obtain ⟨M122, e121, h⟩ := gs_o1 h
                refine gs_puti' (pc := 364) C dX12_text_364 gk_12 fp_X12_289 sh_147 rfl e121 ?_
                refine gs_aload_n (pc := 367) C 0 dX12_text_367 rfl rfl ?_
                refine gs_iconst (w := 0) (pc := 368) C dX12_text_368 rfl ?_
                obtain ⟨M124, e123, h⟩ := gs_o1 h
                refine gs_puti' (pc := 369) C dX12_text_369 gk_12 fp_X12_292 sh_147 rfl e123 ?_
                refine gs_aload_n (pc := 372) C 0 dX12_text_372 rfl rfl ?_
                refine gs_iconst (w := 0) (pc := 373) C dX12_text_373 rfl ?_
                obtain ⟨M126, e125, h⟩ := gs_o1 h
                refine gs_putz' (pc := 374) C dX12_text_374 gk_12 fp_X12_295 sh_147 rfl (by decide) e125 ?_
                refine gs_aload_n (pc := 377) C 0 dX12_text_377 rfl rfl ?_
                refine gs_geti (pc := 378) C dX12_text_378 gk_12 fl_X12_286 sh_147 rfl ?_
                obtain ⟨rfl, rfl⟩ := gs_i2 h
                exact gs_iret (pc := 381) C dX12_text_381 E
              · replace h := gs_ift c106 h
                refine gs_iconst (w := 0) (pc := 135) C dX12_text_135 rfl ?_
                refine gs_istore_n (ls' := [(3, .int (0 : Int32)), (2, .int (M100 147 6)), (0, .ref 147), (1, .int x1)]) (pc := 136) C dX12_text_136 rfl (by decide) rfl ?_
                obtain ⟨y127, M128, e129, h⟩ := gs_o2 h
                refine gs_sub [2, 3, 1, 0] rfl (t_X12_text_137 C ?_ gs_FU _ _ e129)
                refine gs_aload_n (pc := 172) C 0 dX12_text_172 rfl rfl ?_
                refine gs_getq (pc := 173) C dX12_text_173 gk_12 fl_X12_52 sh_147 rfl ?_
                refine gs_aload_n (pc := 176) C 0 dX12_text_176 rfl rfl ?_
                refine gs_geti (pc := 177) C dX12_text_177 gk_12 fl_X12_281 sh_147 rfl ?_
                refine gs_aload_n (pc := 180) C 0 dX12_text_180 rfl rfl ?_
                refine gs_getq (pc := 181) C dX12_text_181 gk_12 fl_X12_52 sh_147 rfl ?_
                refine gs_iconst (w := 4) (pc := 184) C dX12_text_184 rfl ?_
                obtain ⟨v130, e131, h⟩ := gs_o1 h
                refine gs_iald (pc := 185) C dX12_text_185 sh_157 e131 ?_
                obtain ⟨M133, e132, h⟩ := gs_o1 h
                refine gs_iast (pc := 186) C dX12_text_186 sh_157 e132 ?_
                refine gs_aload_n (pc := 187) C 0 dX12_text_187 rfl rfl ?_
                refine gs_dup (pc := 188) C dX12_text_188 rfl ?_
                refine gs_geti (pc := 189) C dX12_text_189 gk_12 fl_X12_281 sh_147 rfl ?_
                refine gs_iconst (w := 1) (pc := 192) C dX12_text_192 rfl ?_
                refine gs_iadd (pc := 193) C dX12_text_193 ?_
                obtain ⟨M135, e134, h⟩ := gs_o1 h
                refine gs_puti' (pc := 194) C dX12_text_194 gk_12 fp_X12_281 sh_147 rfl e134 ?_
                refine gs_aload_n (pc := 197) C 0 dX12_text_197 rfl rfl ?_
                refine gs_geti (pc := 198) C dX12_text_198 gk_12 fl_X12_281 sh_147 rfl ?_
                refine gs_iconst (w := 1) (pc := 201) C dX12_text_201 rfl ?_
                refine gs_isub (pc := 202) C dX12_text_202 ?_
                obtain ⟨rfl, rfl⟩ := gs_i2 h
                exact gs_iret (pc := 203) C dX12_text_203 E
            · replace h := gs_ift c105 h
              refine gs_iconst (w := 0) (pc := 69) C dX12_text_69 rfl ?_
              refine gs_istore_n (ls' := [(3, .int (0 : Int32)), (2, .int (M100 147 6)), (0, .ref 147), (1, .int x1)]) (pc := 70) C dX12_text_70 rfl (by decide) rfl ?_
              obtain ⟨y136, M137, e138, h⟩ := gs_o2 h
              refine gs_sub [2, 3, 1, 0] rfl (t_X12_text_71 C ?_ gs_FU _ _ e138)
              refine gs_aload_n (pc := 103) C 0 dX12_text_103 rfl rfl ?_
              refine gs_getq (pc := 104) C dX12_text_104 gk_12 fl_X12_16 sh_147 rfl ?_
              refine gs_aload_n (pc := 107) C 0 dX12_text_107 rfl rfl ?_
              refine gs_geti (pc := 108) C dX12_text_108 gk_12 fl_X12_278 sh_147 rfl ?_
              refine gs_iload_n (pc := 111) C 2 dX12_text_111 rfl rfl ?_
              obtain ⟨M140, e139, h⟩ := gs_o1 h
              refine gs_iast (pc := 112) C dX12_text_112 sh_150 e139 ?_
              refine gs_aload_n (pc := 113) C 0 dX12_text_113 rfl rfl ?_
              refine gs_dup (pc := 114) C dX12_text_114 rfl ?_
              refine gs_geti (pc := 115) C dX12_text_115 gk_12 fl_X12_278 sh_147 rfl ?_
              refine gs_iconst (w := 1) (pc := 118) C dX12_text_118 rfl ?_
              refine gs_iadd (pc := 119) C dX12_text_119 ?_
              obtain ⟨M142, e141, h⟩ := gs_o1 h
              refine gs_puti' (pc := 120) C dX12_text_120 gk_12 fp_X12_278 sh_147 rfl e141 ?_
              refine gs_aload_n (pc := 123) C 0 dX12_text_123 rfl rfl ?_
              refine gs_geti (pc := 124) C dX12_text_124 gk_12 fl_X12_278 sh_147 rfl ?_
              refine gs_iconst (w := 1) (pc := 127) C dX12_text_127 rfl ?_
              refine gs_isub (pc := 128) C dX12_text_128 ?_
              obtain ⟨rfl, rfl⟩ := gs_i2 h
              exact gs_iret (pc := 129) C dX12_text_129 E
          · replace h := gs_iff c102 h
            refine gs_iconst (w := (-1)) (pc := 52) C dX12_text_52 rfl ?_
            obtain ⟨rfl, rfl⟩ := gs_i2 h
            exact gs_iret (pc := 53) C dX12_text_53 E
        · replace h := gs_ift c98 h
          refine gs_aload_n (pc := 35) C 0 dX12_text_35 rfl rfl ?_
          refine gs_geti (pc := 36) C dX12_text_36 gk_12 fl_X12_281 sh_147 rfl ?_
          refine gs_iconst (w := 4) (pc := 39) C dX12_text_39 rfl ?_
          refine gs_icmp_eq (pc := 40) C 52 dX12_text_40 rfl (fun c143 => ?_) (fun c143 => ?_)
          · replace h := gs_ift c143 h
            refine gs_iconst (w := (-1)) (pc := 52) C dX12_text_52 rfl ?_
            obtain ⟨rfl, rfl⟩ := gs_i2 h
            exact gs_iret (pc := 53) C dX12_text_53 E
          · replace h := gs_iff c143 h
            refine gs_aload_n (pc := 43) C 0 dX12_text_43 rfl rfl ?_
            refine gs_iload_n (pc := 44) C 1 dX12_text_44 rfl rfl ?_
            obtain ⟨v144, M145, e146, h⟩ := gs_o2 h
            refine gs_callVi (pc := 45) C [.int x1] dX12_text_45 ml_X12_284 wy_X12_fault (a_X12_fault _ e146) (by decide) sh_147 (by decide) rfl rfl (Nat.le_of_ble_eq_true rfl) rfl ?_
            refine gs_iconst (w := (-1)) (pc := 48) C dX12_text_48 rfl ?_
            refine gs_icmp_eq (pc := 49) C 54 dX12_text_49 rfl (fun c147 => ?_) (fun c147 => ?_)
            · replace h := gs_ift c147 h
              refine gs_aload_n (pc := 54) C 0 dX12_text_54 rfl rfl ?_
              refine gs_geti (pc := 55) C dX12_text_55 gk_12 fl_X12_113 sh_147 rfl ?_
              refine gs_istore_n (ls' := [(2, .int (M145 147 6)), (0, .ref 147), (1, .int x1)]) (pc := 58) C dX12_text_58 rfl (by decide) rfl ?_
              refine gs_aload_n (pc := 59) C 1 dX12_text_59 rfl rfl ?_
              refine gs_iconst (w := 0) (pc := 60) C dX12_text_60 rfl ?_
              obtain ⟨M149, e148, h⟩ := gs_o1 h
              refine gs_puti' (pc := 61) C dX12_text_61 gk_12 fp_X12_113 sh_147 rfl e148 ?_
              refine gs_iload_n (pc := 64) C 2 dX12_text_64 rfl rfl ?_
              refine gs_iconst (w := 1) (pc := 65) C dX12_text_65 rfl ?_
              refine gs_icmp_ne (pc := 66) C 130 dX12_text_66 rfl (fun c150 => ?_) (fun c150 => ?_)
              · replace h := gs_iff c150 h
                refine gs_iload_n (pc := 130) C 2 dX12_text_130 rfl rfl ?_
                refine gs_iconst (w := 2) (pc := 131) C dX12_text_131 rfl ?_
                refine gs_icmp_ne (pc := 132) C 204 dX12_text_132 rfl (fun c151 => ?_) (fun c151 => ?_)
                · replace h := gs_iff c151 h
                  refine gs_aload_n (pc := 204) C 1 dX12_text_204 rfl rfl ?_
                  refine gs_aload_n (pc := 205) C 1 dX12_text_205 rfl rfl ?_
                  refine gs_geti (pc := 206) C dX12_text_206 gk_12 fl_X12_249 sh_147 rfl ?_
                  obtain ⟨M153, e152, h⟩ := gs_o1 h
                  refine gs_puti' (pc := 209) C dX12_text_209 gk_12 fp_X12_286 sh_147 rfl e152 ?_
                  refine gs_iconst (w := 0) (pc := 212) C dX12_text_212 rfl ?_
                  refine gs_istore_n (ls' := [(3, .int (0 : Int32)), (2, .int (M145 147 6)), (0, .ref 147), (1, .int x1)]) (pc := 213) C dX12_text_213 rfl (by decide) rfl ?_
                  obtain ⟨y154, M155, e156, h⟩ := gs_o2 h
                  refine gs_sub [2, 3, 1, 0] rfl (t_X12_text_214 C ?_ gs_FU _ _ e156)
                  refine gs_iconst (w := 0) (pc := 237) C dX12_text_237 rfl ?_
                  refine gs_istore_n (ls' := [(3, .int (0 : Int32)), (0, .ref 147), (1, .int x1), (2, .int (M145 147 6))]) (pc := 238) C dX12_text_238 rfl (by decide) rfl ?_
                  obtain ⟨y157, M158, e159, h⟩ := gs_o2 h
                  refine gs_sub [1, 2, 3, 0] rfl (t_X12_text_239 C ?_ gs_FU _ _ e159)
                  refine gs_iconst (w := 0) (pc := 263) C dX12_text_263 rfl ?_
                  refine gs_istore_n (ls' := [(3, .int (0 : Int32)), (0, .ref 147), (1, .int x1), (2, .int (M145 147 6))]) (pc := 264) C dX12_text_264 rfl (by decide) rfl ?_
                  obtain ⟨y160, M161, e162, h⟩ := gs_o2 h
                  refine gs_sub [1, 2, 3, 0] rfl (t_X12_text_265 C ?_ gs_FU _ _ e162)
                  refine gs_iconst (w := 0) (pc := 285) C dX12_text_285 rfl ?_
                  refine gs_istore_n (ls' := [(3, .int (0 : Int32)), (0, .ref 147), (1, .int x1), (2, .int (M145 147 6))]) (pc := 286) C dX12_text_286 rfl (by decide) rfl ?_
                  obtain ⟨y163, M164, e165, h⟩ := gs_o2 h
                  refine gs_sub [1, 2, 3, 0] rfl (t_X12_text_287 C ?_ gs_FU _ _ e165)
                  refine gs_aload_n (pc := 362) C 0 dX12_text_362 rfl rfl ?_
                  refine gs_iconst (w := 0) (pc := 363) C dX12_text_363 rfl ?_
                  obtain ⟨M167, e166, h⟩ := gs_o1 h
                  refine gs_puti' (pc := 364) C dX12_text_364 gk_12 fp_X12_289 sh_147 rfl e166 ?_
                  refine gs_aload_n (pc := 367) C 0 dX12_text_367 rfl rfl ?_
                  refine gs_iconst (w := 0) (pc := 368) C dX12_text_368 rfl ?_
                  obtain ⟨M169, e168, h⟩ := gs_o1 h
                  refine gs_puti' (pc := 369) C dX12_text_369 gk_12 fp_X12_292 sh_147 rfl e168 ?_
                  refine gs_aload_n (pc := 372) C 0 dX12_text_372 rfl rfl ?_
                  refine gs_iconst (w := 0) (pc := 373) C dX12_text_373 rfl ?_
                  obtain ⟨M171, e170, h⟩ := gs_o1 h
                  refine gs_putz' (pc := 374) C dX12_text_374 gk_12 fp_X12_295 sh_147 rfl (by decide) e170 ?_
                  refine gs_aload_n (pc := 377) C 0 dX12_text_377 rfl rfl ?_
                  refine gs_geti (pc := 378) C dX12_text_378 gk_12 fl_X12_286 sh_147 rfl ?_
                  obtain ⟨rfl, rfl⟩ := gs_i2 h
                  exact gs_iret (pc := 381) C dX12_text_381 E
                · replace h := gs_ift c151 h
                  refine gs_iconst (w := 0) (pc := 135) C dX12_text_135 rfl ?_
                  refine gs_istore_n (ls' := [(3, .int (0 : Int32)), (2, .int (M145 147 6)), (0, .ref 147), (1, .int x1)]) (pc := 136) C dX12_text_136 rfl (by decide) rfl ?_
                  obtain ⟨y172, M173, e174, h⟩ := gs_o2 h
                  refine gs_sub [2, 3, 1, 0] rfl (t_X12_text_137 C ?_ gs_FU _ _ e174)
                  refine gs_aload_n (pc := 172) C 0 dX12_text_172 rfl rfl ?_
                  refine gs_getq (pc := 173) C dX12_text_173 gk_12 fl_X12_52 sh_147 rfl ?_
                  refine gs_aload_n (pc := 176) C 0 dX12_text_176 rfl rfl ?_
                  refine gs_geti (pc := 177) C dX12_text_177 gk_12 fl_X12_281 sh_147 rfl ?_
                  refine gs_aload_n (pc := 180) C 0 dX12_text_180 rfl rfl ?_
                  refine gs_getq (pc := 181) C dX12_text_181 gk_12 fl_X12_52 sh_147 rfl ?_
                  refine gs_iconst (w := 4) (pc := 184) C dX12_text_184 rfl ?_
                  obtain ⟨v175, e176, h⟩ := gs_o1 h
                  refine gs_iald (pc := 185) C dX12_text_185 sh_157 e176 ?_
                  obtain ⟨M178, e177, h⟩ := gs_o1 h
                  refine gs_iast (pc := 186) C dX12_text_186 sh_157 e177 ?_
                  refine gs_aload_n (pc := 187) C 0 dX12_text_187 rfl rfl ?_
                  refine gs_dup (pc := 188) C dX12_text_188 rfl ?_
                  refine gs_geti (pc := 189) C dX12_text_189 gk_12 fl_X12_281 sh_147 rfl ?_
                  refine gs_iconst (w := 1) (pc := 192) C dX12_text_192 rfl ?_
                  refine gs_iadd (pc := 193) C dX12_text_193 ?_
                  obtain ⟨M180, e179, h⟩ := gs_o1 h
                  refine gs_puti' (pc := 194) C dX12_text_194 gk_12 fp_X12_281 sh_147 rfl e179 ?_
                  refine gs_aload_n (pc := 197) C 0 dX12_text_197 rfl rfl ?_
                  refine gs_geti (pc := 198) C dX12_text_198 gk_12 fl_X12_281 sh_147 rfl ?_
                  refine gs_iconst (w := 1) (pc := 201) C dX12_text_201 rfl ?_
                  refine gs_isub (pc := 202) C dX12_text_202 ?_
                  obtain ⟨rfl, rfl⟩ := gs_i2 h
                  exact gs_iret (pc := 203) C dX12_text_203 E
              · replace h := gs_ift c150 h
                refine gs_iconst (w := 0) (pc := 69) C dX12_text_69 rfl ?_
                refine gs_istore_n (ls' := [(3, .int (0 : Int32)), (2, .int (M145 147 6)), (0, .ref 147), (1, .int x1)]) (pc := 70) C dX12_text_70 rfl (by decide) rfl ?_
                obtain ⟨y181, M182, e183, h⟩ := gs_o2 h
                refine gs_sub [2, 3, 1, 0] rfl (t_X12_text_71 C ?_ gs_FU _ _ e183)
                refine gs_aload_n (pc := 103) C 0 dX12_text_103 rfl rfl ?_
                refine gs_getq (pc := 104) C dX12_text_104 gk_12 fl_X12_16 sh_147 rfl ?_
                refine gs_aload_n (pc := 107) C 0 dX12_text_107 rfl rfl ?_
                refine gs_geti (pc := 108) C dX12_text_108 gk_12 fl_X12_278 sh_147 rfl ?_
                refine gs_iload_n (pc := 111) C 2 dX12_text_111 rfl rfl ?_
                obtain ⟨M185, e184, h⟩ := gs_o1 h
                refine gs_iast (pc := 112) C dX12_text_112 sh_150 e184 ?_
                refine gs_aload_n (pc := 113) C 0 dX12_text_113 rfl rfl ?_
                refine gs_dup (pc := 114) C dX12_text_114 rfl ?_
                refine gs_geti (pc := 115) C dX12_text_115 gk_12 fl_X12_278 sh_147 rfl ?_
                refine gs_iconst (w := 1) (pc := 118) C dX12_text_118 rfl ?_
                refine gs_iadd (pc := 119) C dX12_text_119 ?_
                obtain ⟨M187, e186, h⟩ := gs_o1 h
                refine gs_puti' (pc := 120) C dX12_text_120 gk_12 fp_X12_278 sh_147 rfl e186 ?_
                refine gs_aload_n (pc := 123) C 0 dX12_text_123 rfl rfl ?_
                refine gs_geti (pc := 124) C dX12_text_124 gk_12 fl_X12_278 sh_147 rfl ?_
                refine gs_iconst (w := 1) (pc := 127) C dX12_text_127 rfl ?_
                refine gs_isub (pc := 128) C dX12_text_128 ?_
                obtain ⟨rfl, rfl⟩ := gs_i2 h
                exact gs_iret (pc := 129) C dX12_text_129 E
            · replace h := gs_iff c147 h
              refine gs_iconst (w := (-1)) (pc := 52) C dX12_text_52 rfl ?_
              obtain ⟨rfl, rfl⟩ := gs_i2 h
              exact gs_iret (pc := 53) C dX12_text_53 E
