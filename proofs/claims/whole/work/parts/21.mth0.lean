set_option maxRecDepth 100000 in
set_option maxHeartbeats 4000000 in
theorem a_X9_crowd (l : Launch) {M : gs_M} {L : gs_L} {rv : Int32} (h : f_X9_crowd M = some (rv)) : gs_Met l 0 yX9_crowd cX9_crowd 1 (some .int) [.ref 3] M L (some (.int rv)) M L := by
  unfold f_X9_crowd at h
  refine gs_of RX9 (by decide) rfl (Nat.le_of_ble_eq_true rfl) (fun X C E => ?_)
  show gs_AW X 0 [(0, .ref 3)] [] M L
  refine gs_aload_n (pc := 0) C 0 dX9_crowd_0 rfl rfl ?_
  refine gs_geti (pc := 1) C dX9_crowd_1 gk_9 fl_X9_18 sh_3 rfl ?_
  obtain rfl := gs_i1 h
  exact gs_iret (pc := 4) C dX9_crowd_4 E
set_option maxRecDepth 100000 in
set_option maxHeartbeats 4000000 in
theorem a_X11_isPerson (l : Launch) {M : gs_M} {L : gs_L} {x1 : Int32} {rv : Int32} (h : f_X11_isPerson M x1 = some (rv)) : gs_Met l 1 yX11_isPerson cX11_isPerson 2 (some .boolean) [.ref 0, .int x1] M L (some (.int rv)) M L := by
  unfold f_X11_isPerson at h
  refine gs_of RX11 (by decide) rfl (Nat.le_of_ble_eq_true rfl) (fun X C E => ?_)
  show gs_AW X 0 [(0, .ref 0), (1, .int x1)] [] M L
  refine gs_iload_n (pc := 0) C 1 dX11_isPerson_0 rfl rfl ?_
  obtain ⟨y1, e2, h⟩ := gs_o1 h
  have j3 : gs_AW X 20 [(0, .ref 0), (1, .int x1)] [.int y1] M L := by
    obtain ⟨z8, e9, h⟩ := gs_o1 h
    obtain rfl := gs_i1 h
    exact gs_zret' (pc := 20) C dX11_isPerson_20 e9 E
  refine gs_if_lt (pc := 1) C 19 dX11_isPerson_1 rfl (fun c4 => ?_) (fun c4 => ?_)
  · replace e2 := gs_ift c4 e2
    refine gs_iconst (w := 0) (pc := 19) C dX11_isPerson_19 rfl ?_
    obtain rfl := gs_i1 e2
    exact j3
  · replace e2 := gs_iff c4 e2
    refine gs_iload_n (pc := 4) C 1 dX11_isPerson_4 rfl rfl ?_
    refine gs_aload_n (pc := 5) C 0 dX11_isPerson_5 rfl rfl ?_
    refine gs_getq (pc := 6) C dX11_isPerson_6 gk_11 fl_X11_19 sh_0 rfl ?_
    obtain ⟨v5, e6, e2⟩ := gs_o1 e2
    refine gs_callVi (pc := 9) C [] dX11_isPerson_9 ml_X11_158 wy_X9_crowd (a_X9_crowd _ e6) (by decide) sh_3 (by decide) rfl rfl (Nat.le_of_ble_eq_true rfl) rfl ?_
    refine gs_icmp_ge (pc := 12) C 19 dX11_isPerson_12 rfl (fun c7 => ?_) (fun c7 => ?_)
    · replace e2 := gs_ift c7 e2
      refine gs_iconst (w := 0) (pc := 19) C dX11_isPerson_19 rfl ?_
      obtain rfl := gs_i1 e2
      exact j3
    · replace e2 := gs_iff c7 e2
      refine gs_iconst (w := 1) (pc := 15) C dX11_isPerson_15 rfl ?_
      refine gs_goto (pc := 16) C 20 dX11_isPerson_16 rfl ?_
      obtain rfl := gs_i1 e2
      exact j3
set_option maxRecDepth 100000 in
set_option maxHeartbeats 4000000 in
theorem a_X9_hours (l : Launch) {M : gs_M} {L : gs_L} {rv : Int32} (h : f_X9_hours M = some (rv)) : gs_Met l 0 yX9_hours cX9_hours 1 (some .int) [.ref 3] M L (some (.int rv)) M L := by
  unfold f_X9_hours at h
  refine gs_of RX9 (by decide) rfl (Nat.le_of_ble_eq_true rfl) (fun X C E => ?_)
  show gs_AW X 0 [(0, .ref 3)] [] M L
  refine gs_aload_n (pc := 0) C 0 dX9_hours_0 rfl rfl ?_
  refine gs_getq (pc := 1) C dX9_hours_1 gk_9 fl_X9_11 sh_3 rfl ?_
  refine gs_iconst (w := 0) (pc := 4) C dX9_hours_4 rfl ?_
  obtain ⟨v1, e2, h⟩ := gs_o1 h
  refine gs_iald (pc := 5) C dX9_hours_5 sh_4 e2 ?_
  obtain rfl := gs_i1 h
  exact gs_iret (pc := 6) C dX9_hours_6 E
set_option maxRecDepth 100000 in
set_option maxHeartbeats 4000000 in
theorem a_X6_of (l : Launch) {M : gs_M} {L : gs_L} {x1 : Int32} {x2 : Int32} {rv : Int32} (h : f_X6_of M x1 x2 = some (rv)) : gs_Met l 0 yX6_of cX6_of 3 (some .int) [.ref 9, .int x1, .int x2] M L (some (.int rv)) M L := by
  unfold f_X6_of at h
  refine gs_of RX6 (by decide) rfl (Nat.le_of_ble_eq_true rfl) (fun X C E => ?_)
  show gs_AW X 0 [(0, .ref 9), (1, .int x1), (2, .int x2)] [] M L
  refine gs_aload_n (pc := 0) C 0 dX6_of_0 rfl rfl ?_
  refine gs_getq (pc := 1) C dX6_of_1 gk_6 fl_X6_11 sh_9 rfl ?_
  refine gs_iload_n (pc := 4) C 1 dX6_of_4 rfl rfl ?_
  refine gs_bipush (w := 6) (pc := 5) C dX6_of_5 rfl ?_
  refine gs_imul (pc := 7) C dX6_of_7 ?_
  refine gs_iload_n (pc := 8) C 2 dX6_of_8 rfl rfl ?_
  refine gs_iadd (pc := 9) C dX6_of_9 ?_
  obtain ⟨v1, e2, h⟩ := gs_o1 h
  refine gs_iald (pc := 10) C dX6_of_10 sh_10 e2 ?_
  obtain rfl := gs_i1 h
  exact gs_iret (pc := 11) C dX6_of_11 E
set_option maxRecDepth 100000 in
set_option maxHeartbeats 4000000 in
theorem a_X9_told (l : Launch) {M : gs_M} {L : gs_L} {x1 : Int32} {x2 : Int32} {rv : Int32} (h : f_X9_told M x1 x2 = some (rv)) : gs_Met l 0 yX9_told cX9_told 3 (some .int) [.ref 3, .int x1, .int x2] M L (some (.int rv)) M L := by
  unfold f_X9_told at h
  refine gs_of RX9 (by decide) rfl (Nat.le_of_ble_eq_true rfl) (fun X C E => ?_)
  show gs_AW X 0 [(0, .ref 3), (1, .int x1), (2, .int x2)] [] M L
  refine gs_aload_n (pc := 0) C 0 dX9_told_0 rfl rfl ?_
  refine gs_getq (pc := 1) C dX9_told_1 gk_9 fl_X9_15 sh_3 rfl ?_
  refine gs_iload_n (pc := 4) C 1 dX9_told_4 rfl rfl ?_
  refine gs_iconst (w := 5) (pc := 5) C dX9_told_5 rfl ?_
  refine gs_imul (pc := 6) C dX9_told_6 ?_
  refine gs_iload_n (pc := 7) C 2 dX9_told_7 rfl rfl ?_
  refine gs_iadd (pc := 8) C dX9_told_8 ?_
  obtain ⟨v1, e2, h⟩ := gs_o1 h
  refine gs_iald (pc := 9) C dX9_told_9 sh_5 e2 ?_
  obtain rfl := gs_i1 h
  exact gs_iret (pc := 10) C dX9_told_10 E
set_option maxRecDepth 100000 in
set_option maxHeartbeats 4000000 in
theorem a_X4_has (l : Launch) {M : gs_M} {L : gs_L} {x1 : Int32} {rv : Int32} (h : f_X4_has M x1 = some (rv)) : gs_Met l 0 yX4_has cX4_has 2 (some .boolean) [.ref 105, .int x1] M L (some (.int rv)) M L := by
  unfold f_X4_has at h
  refine gs_of RX4 (by decide) rfl (Nat.le_of_ble_eq_true rfl) (fun X C E => ?_)
  show gs_AW X 0 [(0, .ref 105), (1, .int x1)] [] M L
  refine gs_iload_n (pc := 0) C 1 dX4_has_0 rfl rfl ?_
  have j3 : gs_AW X 17 [(0, .ref 105), (1, .int x1)] [.int (if x1 < (0 : Int32) then (0 : Int32) else if (M 105 4) ≤ x1 then (0 : Int32) else (1 : Int32) : Int32)] M L := by
    obtain ⟨z1, e2, h⟩ := gs_o1 h
    obtain rfl := gs_i1 h
    exact gs_zret' (pc := 17) C dX4_has_17 e2 E
  refine gs_if_lt (pc := 1) C 16 dX4_has_1 rfl (fun c4 => ?_) (fun c4 => ?_)
  · refine gs_iconst (w := 0) (pc := 16) C dX4_has_16 rfl ?_
    simp only [if_pos c4] at j3
    exact j3
  · refine gs_iload_n (pc := 4) C 1 dX4_has_4 rfl rfl ?_
    refine gs_aload_n (pc := 5) C 0 dX4_has_5 rfl rfl ?_
    refine gs_geti (pc := 6) C dX4_has_6 gk_4 fl_X4_34 sh_105 rfl ?_
    refine gs_icmp_ge (pc := 9) C 16 dX4_has_9 rfl (fun c5 => ?_) (fun c5 => ?_)
    · refine gs_iconst (w := 0) (pc := 16) C dX4_has_16 rfl ?_
      simp only [if_neg c4, if_pos c5] at j3
      exact j3
    · refine gs_iconst (w := 1) (pc := 12) C dX4_has_12 rfl ?_
      refine gs_goto (pc := 13) C 17 dX4_has_13 rfl ?_
      simp only [if_neg c4, if_neg c5] at j3
      exact j3
set_option maxRecDepth 100000 in
set_option maxHeartbeats 4000000 in
theorem a_X4_spell (l : Launch) {M : gs_M} {L : gs_L} {x1 : Int32} {x2 : Int32} {x3 : Int32} {x4 : Int32} {x5 : Int32} {x6 : Int32} {Mz : gs_M} (h : f_X4_spell M x1 x2 x3 x4 x5 x6 = some (Mz)) : gs_Met l 0 yX4_spell cX4_spell 7 none [.ref 105, .int x1, .int x2, .int x3, .int x4, .int x5, .int x6] M L none Mz L := by
  unfold f_X4_spell at h
  refine gs_of RX4 (by decide) rfl (Nat.le_of_ble_eq_true rfl) (fun X C E => ?_)
  show gs_AW X 0 [(0, .ref 105), (1, .int x1), (2, .int x2), (3, .int x3), (4, .int x4), (5, .int x5), (6, .int x6)] [] M L
  refine gs_aload_n (pc := 0) C 0 dX4_spell_0 rfl rfl ?_
  refine gs_getq (pc := 1) C dX4_spell_1 gk_4 fl_X4_17 sh_105 rfl ?_
  refine gs_iconst (w := 0) (pc := 4) C dX4_spell_4 rfl ?_
  refine gs_iload_n (pc := 5) C 1 dX4_spell_5 rfl rfl ?_
  obtain ⟨M2, e1, h⟩ := gs_o1 h
  refine gs_iast (pc := 6) C dX4_spell_6 sh_107 e1 ?_
  refine gs_aload_n (pc := 7) C 0 dX4_spell_7 rfl rfl ?_
  refine gs_getq (pc := 8) C dX4_spell_8 gk_4 fl_X4_17 sh_105 rfl ?_
  refine gs_iconst (w := 1) (pc := 11) C dX4_spell_11 rfl ?_
  refine gs_iload_n (pc := 12) C 2 dX4_spell_12 rfl rfl ?_
  obtain ⟨M4, e3, h⟩ := gs_o1 h
  refine gs_iast (pc := 13) C dX4_spell_13 sh_107 e3 ?_
  refine gs_aload_n (pc := 14) C 0 dX4_spell_14 rfl rfl ?_
  refine gs_getq (pc := 15) C dX4_spell_15 gk_4 fl_X4_17 sh_105 rfl ?_
  refine gs_iconst (w := 2) (pc := 18) C dX4_spell_18 rfl ?_
  refine gs_iload_n (pc := 19) C 3 dX4_spell_19 rfl rfl ?_
  obtain ⟨M6, e5, h⟩ := gs_o1 h
  refine gs_iast (pc := 20) C dX4_spell_20 sh_107 e5 ?_
  refine gs_aload_n (pc := 21) C 0 dX4_spell_21 rfl rfl ?_
  refine gs_getq (pc := 22) C dX4_spell_22 gk_4 fl_X4_17 sh_105 rfl ?_
  refine gs_iconst (w := 3) (pc := 25) C dX4_spell_25 rfl ?_
  refine gs_iload (pc := 26) C 4 dX4_spell_26 rfl ?_
  obtain ⟨M8, e7, h⟩ := gs_o1 h
  refine gs_iast (pc := 28) C dX4_spell_28 sh_107 e7 ?_
  refine gs_aload_n (pc := 29) C 0 dX4_spell_29 rfl rfl ?_
  refine gs_getq (pc := 30) C dX4_spell_30 gk_4 fl_X4_17 sh_105 rfl ?_
  refine gs_iconst (w := 4) (pc := 33) C dX4_spell_33 rfl ?_
  refine gs_iload (pc := 34) C 5 dX4_spell_34 rfl ?_
  obtain ⟨M10, e9, h⟩ := gs_o1 h
  refine gs_iast (pc := 36) C dX4_spell_36 sh_107 e9 ?_
  refine gs_aload_n (pc := 37) C 0 dX4_spell_37 rfl rfl ?_
  refine gs_getq (pc := 38) C dX4_spell_38 gk_4 fl_X4_17 sh_105 rfl ?_
  refine gs_iconst (w := 5) (pc := 41) C dX4_spell_41 rfl ?_
  refine gs_iload (pc := 42) C 6 dX4_spell_42 rfl ?_
  obtain ⟨M12, e11, h⟩ := gs_o1 h
  refine gs_iast (pc := 44) C dX4_spell_44 sh_107 e11 ?_
  obtain rfl := gs_i1 h
  exact gs_vret (pc := 45) C dX4_spell_45 E
set_option maxRecDepth 100000 in
set_option maxHeartbeats 4000000 in
theorem a_X2_reckon (l : Launch) {M : gs_M} {L : gs_L} {x0 : Int32} {x1 : Int32} {x2 : Int32} {rv : Int32} (h : f_X2_reckon x0 x1 x2 = some (rv)) : gs_Met l 0 yX2_reckon cX2_reckon 5 (some .int) [.int x0, .int x1, .int x2] M L (some (.int rv)) M L := by
  unfold f_X2_reckon at h
  refine gs_of RX2 (by decide) rfl (Nat.le_of_ble_eq_true rfl) (fun X C E => ?_)
  show gs_AW X 0 [(0, .int x0), (1, .int x1), (2, .int x2)] [] M L
  refine gs_iload_n (pc := 0) C 0 dX2_reckon_0 rfl rfl ?_
  by_cases c1 : x0 = (38 : Int32)
  · replace h := gs_ift c1 h
    refine gs_tabIn (pc := 1) C 192 dX2_reckon_1 (by rw [c1]; decide) (by rw [c1]; decide) (off := 191) (by rw [c1]; decide) rfl ?_
    refine gs_iload_n (pc := 192) C 1 dX2_reckon_192 rfl rfl ?_
    refine gs_iload_n (pc := 193) C 2 dX2_reckon_193 rfl rfl ?_
    refine gs_iand (pc := 194) C dX2_reckon_194 ?_
    obtain rfl := gs_i1 h
    exact gs_iret (pc := 195) C dX2_reckon_195 E
  replace h := gs_iff c1 h
  by_cases c2 : x0 = (42 : Int32)
  · replace h := gs_ift c2 h
    refine gs_tabIn (pc := 1) C 134 dX2_reckon_1 (by rw [c2]; decide) (by rw [c2]; decide) (off := 133) (by rw [c2]; decide) rfl ?_
    refine gs_iload_n (pc := 134) C 1 dX2_reckon_134 rfl rfl ?_
    refine gs_i2l (pc := 135) C dX2_reckon_135 ?_
    refine gs_iload_n (pc := 136) C 2 dX2_reckon_136 rfl rfl ?_
    refine gs_i2l (pc := 137) C dX2_reckon_137 ?_
    refine gs_lmul (pc := 138) C dX2_reckon_138 ?_
    refine gs_lstore_n (ls' := [(3, .long ((Int32.toInt64 x1) * (Int32.toInt64 x2))), (0, .int x0), (1, .int x1), (2, .int x2)]) (pc := 139) C dX2_reckon_139 rfl (by decide) rfl ?_
    refine gs_goto (pc := 140) C 200 dX2_reckon_140 rfl ?_
    refine gs_lload_n (pc := 200) C 0 dX2_reckon_200 rfl rfl ?_
    refine gs_ldc2 (pc := 201) C dX2_reckon_201 wj_X2_42 ?_
    refine gs_lcmp (pc := 204) C dX2_reckon_204 ?_
    refine gs_if_le (pc := 205) C 211 dX2_reckon_205 rfl (fun c3 => ?_) (fun c3 => ?_)
    · replace h := gs_ift c3 h
      refine gs_lload_n (pc := 211) C 0 dX2_reckon_211 rfl rfl ?_
      refine gs_ldc2 (pc := 212) C dX2_reckon_212 wj_X2_45 ?_
      refine gs_lcmp (pc := 215) C dX2_reckon_215 ?_
      have j4 : gs_AW X 226 [(0, .int x0), (1, .int x1), (2, .int x2), (3, .long ((Int32.toInt64 x1) * (Int32.toInt64 x2)))] [.int (if (0 : Int32) ≤ (lg_cmp ((Int32.toInt64 x1) * (Int32.toInt64 x2)) (-1000000 : Int64)) then (Int64.toInt32 ((Int32.toInt64 x1) * (Int32.toInt64 x2))) else (-1000000 : Int32) : Int32)] M L := by
        obtain rfl := gs_i1 h
        exact gs_iret (pc := 226) C dX2_reckon_226 E
      refine gs_if_ge (pc := 216) C 224 dX2_reckon_216 rfl (fun c5 => ?_) (fun c5 => ?_)
      · refine gs_lload_n (pc := 224) C 0 dX2_reckon_224 rfl rfl ?_
        refine gs_l2i (pc := 225) C dX2_reckon_225 ?_
        simp only [if_pos c5] at j4
        exact gs_sub [1, 2, 3, 0] rfl (j4)
      · refine gs_ldc (pc := 219) C dX2_reckon_219 wk_X2_47 ?_
        refine gs_goto (pc := 221) C 226 dX2_reckon_221 rfl ?_
        simp only [if_neg c5] at j4
        exact gs_sub [1, 2, 3, 0] rfl (j4)
    · replace h := gs_iff c3 h
      refine gs_ldc (pc := 208) C dX2_reckon_208 wk_X2_44 ?_
      obtain rfl := gs_i1 h
      exact gs_iret (pc := 210) C dX2_reckon_210 E
  replace h := gs_iff c2 h
  by_cases c6 : x0 = (43 : Int32)
  · replace h := gs_ift c6 h
    refine gs_tabIn (pc := 1) C 116 dX2_reckon_1 (by rw [c6]; decide) (by rw [c6]; decide) (off := 115) (by rw [c6]; decide) rfl ?_
    refine gs_iload_n (pc := 116) C 1 dX2_reckon_116 rfl rfl ?_
    refine gs_i2l (pc := 117) C dX2_reckon_117 ?_
    refine gs_iload_n (pc := 118) C 2 dX2_reckon_118 rfl rfl ?_
    refine gs_i2l (pc := 119) C dX2_reckon_119 ?_
    refine gs_ladd (pc := 120) C dX2_reckon_120 ?_
    refine gs_lstore_n (ls' := [(3, .long ((Int32.toInt64 x1) + (Int32.toInt64 x2))), (0, .int x0), (1, .int x1), (2, .int x2)]) (pc := 121) C dX2_reckon_121 rfl (by decide) rfl ?_
    refine gs_goto (pc := 122) C 200 dX2_reckon_122 rfl ?_
    refine gs_lload_n (pc := 200) C 0 dX2_reckon_200 rfl rfl ?_
    refine gs_ldc2 (pc := 201) C dX2_reckon_201 wj_X2_42 ?_
    refine gs_lcmp (pc := 204) C dX2_reckon_204 ?_
    refine gs_if_le (pc := 205) C 211 dX2_reckon_205 rfl (fun c7 => ?_) (fun c7 => ?_)
    · replace h := gs_ift c7 h
      refine gs_lload_n (pc := 211) C 0 dX2_reckon_211 rfl rfl ?_
      refine gs_ldc2 (pc := 212) C dX2_reckon_212 wj_X2_45 ?_
      refine gs_lcmp (pc := 215) C dX2_reckon_215 ?_
      have j8 : gs_AW X 226 [(0, .int x0), (1, .int x1), (2, .int x2), (3, .long ((Int32.toInt64 x1) + (Int32.toInt64 x2)))] [.int (if (0 : Int32) ≤ (lg_cmp ((Int32.toInt64 x1) + (Int32.toInt64 x2)) (-1000000 : Int64)) then (Int64.toInt32 ((Int32.toInt64 x1) + (Int32.toInt64 x2))) else (-1000000 : Int32) : Int32)] M L := by
        obtain rfl := gs_i1 h
        exact gs_iret (pc := 226) C dX2_reckon_226 E
      refine gs_if_ge (pc := 216) C 224 dX2_reckon_216 rfl (fun c9 => ?_) (fun c9 => ?_)
      · refine gs_lload_n (pc := 224) C 0 dX2_reckon_224 rfl rfl ?_
        refine gs_l2i (pc := 225) C dX2_reckon_225 ?_
        simp only [if_pos c9] at j8
        exact gs_sub [1, 2, 3, 0] rfl (j8)
      · refine gs_ldc (pc := 219) C dX2_reckon_219 wk_X2_47 ?_
        refine gs_goto (pc := 221) C 226 dX2_reckon_221 rfl ?_
        simp only [if_neg c9] at j8
        exact gs_sub [1, 2, 3, 0] rfl (j8)
    · replace h := gs_iff c7 h
      refine gs_ldc (pc := 208) C dX2_reckon_208 wk_X2_44 ?_
      obtain rfl := gs_i1 h
      exact gs_iret (pc := 210) C dX2_reckon_210 E
  replace h := gs_iff c6 h
  by_cases c10 : x0 = (45 : Int32)
  · replace h := gs_ift c10 h
    refine gs_tabIn (pc := 1) C 125 dX2_reckon_1 (by rw [c10]; decide) (by rw [c10]; decide) (off := 124) (by rw [c10]; decide) rfl ?_
    refine gs_iload_n (pc := 125) C 1 dX2_reckon_125 rfl rfl ?_
    refine gs_i2l (pc := 126) C dX2_reckon_126 ?_
    refine gs_iload_n (pc := 127) C 2 dX2_reckon_127 rfl rfl ?_
    refine gs_i2l (pc := 128) C dX2_reckon_128 ?_
    refine gs_lsub (pc := 129) C dX2_reckon_129 ?_
    refine gs_lstore_n (ls' := [(3, .long ((Int32.toInt64 x1) - (Int32.toInt64 x2))), (0, .int x0), (1, .int x1), (2, .int x2)]) (pc := 130) C dX2_reckon_130 rfl (by decide) rfl ?_
    refine gs_goto (pc := 131) C 200 dX2_reckon_131 rfl ?_
    refine gs_lload_n (pc := 200) C 0 dX2_reckon_200 rfl rfl ?_
    refine gs_ldc2 (pc := 201) C dX2_reckon_201 wj_X2_42 ?_
    refine gs_lcmp (pc := 204) C dX2_reckon_204 ?_
    refine gs_if_le (pc := 205) C 211 dX2_reckon_205 rfl (fun c11 => ?_) (fun c11 => ?_)
    · replace h := gs_ift c11 h
      refine gs_lload_n (pc := 211) C 0 dX2_reckon_211 rfl rfl ?_
      refine gs_ldc2 (pc := 212) C dX2_reckon_212 wj_X2_45 ?_
      refine gs_lcmp (pc := 215) C dX2_reckon_215 ?_
      have j12 : gs_AW X 226 [(0, .int x0), (1, .int x1), (2, .int x2), (3, .long ((Int32.toInt64 x1) - (Int32.toInt64 x2)))] [.int (if (0 : Int32) ≤ (lg_cmp ((Int32.toInt64 x1) - (Int32.toInt64 x2)) (-1000000 : Int64)) then (Int64.toInt32 ((Int32.toInt64 x1) - (Int32.toInt64 x2))) else (-1000000 : Int32) : Int32)] M L := by
        obtain rfl := gs_i1 h
        exact gs_iret (pc := 226) C dX2_reckon_226 E
      refine gs_if_ge (pc := 216) C 224 dX2_reckon_216 rfl (fun c13 => ?_) (fun c13 => ?_)
      · refine gs_lload_n (pc := 224) C 0 dX2_reckon_224 rfl rfl ?_
        refine gs_l2i (pc := 225) C dX2_reckon_225 ?_
        simp only [if_pos c13] at j12
        exact gs_sub [1, 2, 3, 0] rfl (j12)
      · refine gs_ldc (pc := 219) C dX2_reckon_219 wk_X2_47 ?_
        refine gs_goto (pc := 221) C 226 dX2_reckon_221 rfl ?_
        simp only [if_neg c13] at j12
        exact gs_sub [1, 2, 3, 0] rfl (j12)
    · replace h := gs_iff c11 h
      refine gs_ldc (pc := 208) C dX2_reckon_208 wk_X2_44 ?_
      obtain rfl := gs_i1 h
      exact gs_iret (pc := 210) C dX2_reckon_210 E
  replace h := gs_iff c10 h
  by_cases c14 : x0 = (47 : Int32)
  · replace h := gs_ift c14 h
    refine gs_tabIn (pc := 1) C 143 dX2_reckon_1 (by rw [c14]; decide) (by rw [c14]; decide) (off := 142) (by rw [c14]; decide) rfl ?_
    refine gs_iload_n (pc := 143) C 2 dX2_reckon_143 rfl rfl ?_
    obtain ⟨y15, e16, h⟩ := gs_o1 h
    have j17 : gs_AW X 155 [(0, .int x0), (1, .int x1), (2, .int x2)] [.long y15] M L := by
      refine gs_lstore_n (ls' := [(3, .long y15), (0, .int x0), (1, .int x1), (2, .int x2)]) (pc := 155) C dX2_reckon_155 rfl (by decide) rfl ?_
      refine gs_goto (pc := 156) C 200 dX2_reckon_156 rfl ?_
      refine gs_lload_n (pc := 200) C 0 dX2_reckon_200 rfl rfl ?_
      refine gs_ldc2 (pc := 201) C dX2_reckon_201 wj_X2_42 ?_
      refine gs_lcmp (pc := 204) C dX2_reckon_204 ?_
      refine gs_if_le (pc := 205) C 211 dX2_reckon_205 rfl (fun c21 => ?_) (fun c21 => ?_)
      · replace h := gs_ift c21 h
        refine gs_lload_n (pc := 211) C 0 dX2_reckon_211 rfl rfl ?_
        refine gs_ldc2 (pc := 212) C dX2_reckon_212 wj_X2_45 ?_
        refine gs_lcmp (pc := 215) C dX2_reckon_215 ?_
        have j22 : gs_AW X 226 [(0, .int x0), (1, .int x1), (2, .int x2), (3, .long y15)] [.int (if (0 : Int32) ≤ (lg_cmp y15 (-1000000 : Int64)) then (Int64.toInt32 y15) else (-1000000 : Int32) : Int32)] M L := by
          obtain rfl := gs_i1 h
          exact gs_iret (pc := 226) C dX2_reckon_226 E
        refine gs_if_ge (pc := 216) C 224 dX2_reckon_216 rfl (fun c23 => ?_) (fun c23 => ?_)
        · refine gs_lload_n (pc := 224) C 0 dX2_reckon_224 rfl rfl ?_
          refine gs_l2i (pc := 225) C dX2_reckon_225 ?_
          simp only [if_pos c23] at j22
          exact gs_sub [1, 2, 3, 0] rfl (j22)
        · refine gs_ldc (pc := 219) C dX2_reckon_219 wk_X2_47 ?_
          refine gs_goto (pc := 221) C 226 dX2_reckon_221 rfl ?_
          simp only [if_neg c23] at j22
          exact gs_sub [1, 2, 3, 0] rfl (j22)
      · replace h := gs_iff c21 h
        refine gs_ldc (pc := 208) C dX2_reckon_208 wk_X2_44 ?_
        obtain rfl := gs_i1 h
        exact gs_iret (pc := 210) C dX2_reckon_210 E
    refine gs_if_ne (pc := 144) C 151 dX2_reckon_144 rfl (fun c18 => ?_) (fun c18 => ?_)
    · replace e16 := gs_iff c18 e16
      refine gs_iload_n (pc := 151) C 1 dX2_reckon_151 rfl rfl ?_
      refine gs_iload_n (pc := 152) C 2 dX2_reckon_152 rfl rfl ?_
      obtain ⟨v19, e20, e16⟩ := gs_o1 e16
      refine gs_idiv' (pc := 153) C dX2_reckon_153 e20 ?_
      refine gs_i2l (pc := 154) C dX2_reckon_154 ?_
      obtain rfl := gs_i1 e16
      exact j17
    · replace e16 := gs_ift c18 e16
      refine gs_lconst (w := 0) (pc := 147) C dX2_reckon_147 rfl ?_
      refine gs_goto (pc := 148) C 155 dX2_reckon_148 rfl ?_
      obtain rfl := gs_i1 e16
      exact j17
  replace h := gs_iff c14 h
  by_cases c24 : x0 = (60 : Int32)
  · replace h := gs_ift c24 h
    refine gs_tabIn (pc := 1) C 170 dX2_reckon_1 (by rw [c24]; decide) (by rw [c24]; decide) (off := 169) (by rw [c24]; decide) rfl ?_
    refine gs_iload_n (pc := 170) C 1 dX2_reckon_170 rfl rfl ?_
    refine gs_iload_n (pc := 171) C 2 dX2_reckon_171 rfl rfl ?_
    have j25 : gs_AW X 180 [(0, .int x0), (1, .int x1), (2, .int x2)] [.int (if x2 ≤ x1 then (0 : Int32) else (1 : Int32) : Int32)] M L := by
      obtain rfl := gs_i1 h
      exact gs_iret (pc := 180) C dX2_reckon_180 E
    refine gs_icmp_ge (pc := 172) C 179 dX2_reckon_172 rfl (fun c26 => ?_) (fun c26 => ?_)
    · refine gs_iconst (w := 0) (pc := 179) C dX2_reckon_179 rfl ?_
      simp only [if_pos c26] at j25
      exact j25
    · refine gs_iconst (w := 1) (pc := 175) C dX2_reckon_175 rfl ?_
      refine gs_goto (pc := 176) C 180 dX2_reckon_176 rfl ?_
      simp only [if_neg c26] at j25
      exact j25
  replace h := gs_iff c24 h
  by_cases c27 : x0 = (61 : Int32)
  · replace h := gs_ift c27 h
    refine gs_tabIn (pc := 1) C 159 dX2_reckon_1 (by rw [c27]; decide) (by rw [c27]; decide) (off := 158) (by rw [c27]; decide) rfl ?_
    refine gs_iload_n (pc := 159) C 1 dX2_reckon_159 rfl rfl ?_
    refine gs_iload_n (pc := 160) C 2 dX2_reckon_160 rfl rfl ?_
    have j28 : gs_AW X 169 [(0, .int x0), (1, .int x1), (2, .int x2)] [.int (if x1 = x2 then (1 : Int32) else (0 : Int32) : Int32)] M L := by
      obtain rfl := gs_i1 h
      exact gs_iret (pc := 169) C dX2_reckon_169 E
    refine gs_icmp_ne (pc := 161) C 168 dX2_reckon_161 rfl (fun c29 => ?_) (fun c29 => ?_)
    · refine gs_iconst (w := 0) (pc := 168) C dX2_reckon_168 rfl ?_
      simp only [if_neg c29] at j28
      exact j28
    · refine gs_iconst (w := 1) (pc := 164) C dX2_reckon_164 rfl ?_
      refine gs_goto (pc := 165) C 169 dX2_reckon_165 rfl ?_
      simp only [if_pos c29] at j28
      exact j28
  replace h := gs_iff c27 h
  by_cases c30 : x0 = (62 : Int32)
  · replace h := gs_ift c30 h
    refine gs_tabIn (pc := 1) C 181 dX2_reckon_1 (by rw [c30]; decide) (by rw [c30]; decide) (off := 180) (by rw [c30]; decide) rfl ?_
    refine gs_iload_n (pc := 181) C 1 dX2_reckon_181 rfl rfl ?_
    refine gs_iload_n (pc := 182) C 2 dX2_reckon_182 rfl rfl ?_
    have j31 : gs_AW X 191 [(0, .int x0), (1, .int x1), (2, .int x2)] [.int (if x1 ≤ x2 then (0 : Int32) else (1 : Int32) : Int32)] M L := by
      obtain rfl := gs_i1 h
      exact gs_iret (pc := 191) C dX2_reckon_191 E
    refine gs_icmp_le (pc := 183) C 190 dX2_reckon_183 rfl (fun c32 => ?_) (fun c32 => ?_)
    · refine gs_iconst (w := 0) (pc := 190) C dX2_reckon_190 rfl ?_
      simp only [if_pos c32] at j31
      exact j31
    · refine gs_iconst (w := 1) (pc := 186) C dX2_reckon_186 rfl ?_
      refine gs_goto (pc := 187) C 191 dX2_reckon_187 rfl ?_
      simp only [if_neg c32] at j31
      exact j31
  replace h := gs_iff c30 h
  by_cases c33 : x0 = (39 : Int32)
  · refine gs_tabIn (pc := 1) C 196 dX2_reckon_1 (by rw [c33]; decide) (by rw [c33]; decide) (off := 195) (by rw [c33]; decide) rfl ?_
    refine gs_iload_n (pc := 196) C 1 dX2_reckon_196 rfl rfl ?_
    refine gs_iload_n (pc := 197) C 2 dX2_reckon_197 rfl rfl ?_
    refine gs_ior (pc := 198) C dX2_reckon_198 ?_
    obtain rfl := gs_i1 h
    exact gs_iret (pc := 199) C dX2_reckon_199 E
  by_cases c34 : x0 = (40 : Int32)
  · refine gs_tabIn (pc := 1) C 196 dX2_reckon_1 (by rw [c34]; decide) (by rw [c34]; decide) (off := 195) (by rw [c34]; decide) rfl ?_
    refine gs_iload_n (pc := 196) C 1 dX2_reckon_196 rfl rfl ?_
    refine gs_iload_n (pc := 197) C 2 dX2_reckon_197 rfl rfl ?_
    refine gs_ior (pc := 198) C dX2_reckon_198 ?_
    obtain rfl := gs_i1 h
    exact gs_iret (pc := 199) C dX2_reckon_199 E
  by_cases c35 : x0 = (41 : Int32)
  · refine gs_tabIn (pc := 1) C 196 dX2_reckon_1 (by rw [c35]; decide) (by rw [c35]; decide) (off := 195) (by rw [c35]; decide) rfl ?_
    refine gs_iload_n (pc := 196) C 1 dX2_reckon_196 rfl rfl ?_
    refine gs_iload_n (pc := 197) C 2 dX2_reckon_197 rfl rfl ?_
    refine gs_ior (pc := 198) C dX2_reckon_198 ?_
    obtain rfl := gs_i1 h
    exact gs_iret (pc := 199) C dX2_reckon_199 E
  by_cases c36 : x0 = (44 : Int32)
  · refine gs_tabIn (pc := 1) C 196 dX2_reckon_1 (by rw [c36]; decide) (by rw [c36]; decide) (off := 195) (by rw [c36]; decide) rfl ?_
    refine gs_iload_n (pc := 196) C 1 dX2_reckon_196 rfl rfl ?_
    refine gs_iload_n (pc := 197) C 2 dX2_reckon_197 rfl rfl ?_
    refine gs_ior (pc := 198) C dX2_reckon_198 ?_
    obtain rfl := gs_i1 h
    exact gs_iret (pc := 199) C dX2_reckon_199 E
  by_cases c37 : x0 = (46 : Int32)
  · refine gs_tabIn (pc := 1) C 196 dX2_reckon_1 (by rw [c37]; decide) (by rw [c37]; decide) (off := 195) (by rw [c37]; decide) rfl ?_
    refine gs_iload_n (pc := 196) C 1 dX2_reckon_196 rfl rfl ?_
    refine gs_iload_n (pc := 197) C 2 dX2_reckon_197 rfl rfl ?_
    refine gs_ior (pc := 198) C dX2_reckon_198 ?_
    obtain rfl := gs_i1 h
    exact gs_iret (pc := 199) C dX2_reckon_199 E
  by_cases c38 : x0 = (48 : Int32)
  · refine gs_tabIn (pc := 1) C 196 dX2_reckon_1 (by rw [c38]; decide) (by rw [c38]; decide) (off := 195) (by rw [c38]; decide) rfl ?_
    refine gs_iload_n (pc := 196) C 1 dX2_reckon_196 rfl rfl ?_
    refine gs_iload_n (pc := 197) C 2 dX2_reckon_197 rfl rfl ?_
    refine gs_ior (pc := 198) C dX2_reckon_198 ?_
    obtain rfl := gs_i1 h
    exact gs_iret (pc := 199) C dX2_reckon_199 E
  by_cases c39 : x0 = (49 : Int32)
  · refine gs_tabIn (pc := 1) C 196 dX2_reckon_1 (by rw [c39]; decide) (by rw [c39]; decide) (off := 195) (by rw [c39]; decide) rfl ?_
    refine gs_iload_n (pc := 196) C 1 dX2_reckon_196 rfl rfl ?_
    refine gs_iload_n (pc := 197) C 2 dX2_reckon_197 rfl rfl ?_
    refine gs_ior (pc := 198) C dX2_reckon_198 ?_
    obtain rfl := gs_i1 h
    exact gs_iret (pc := 199) C dX2_reckon_199 E
  by_cases c40 : x0 = (50 : Int32)
  · refine gs_tabIn (pc := 1) C 196 dX2_reckon_1 (by rw [c40]; decide) (by rw [c40]; decide) (off := 195) (by rw [c40]; decide) rfl ?_
    refine gs_iload_n (pc := 196) C 1 dX2_reckon_196 rfl rfl ?_
    refine gs_iload_n (pc := 197) C 2 dX2_reckon_197 rfl rfl ?_
    refine gs_ior (pc := 198) C dX2_reckon_198 ?_
    obtain rfl := gs_i1 h
    exact gs_iret (pc := 199) C dX2_reckon_199 E
  by_cases c41 : x0 = (51 : Int32)
  · refine gs_tabIn (pc := 1) C 196 dX2_reckon_1 (by rw [c41]; decide) (by rw [c41]; decide) (off := 195) (by rw [c41]; decide) rfl ?_
    refine gs_iload_n (pc := 196) C 1 dX2_reckon_196 rfl rfl ?_
    refine gs_iload_n (pc := 197) C 2 dX2_reckon_197 rfl rfl ?_
    refine gs_ior (pc := 198) C dX2_reckon_198 ?_
    obtain rfl := gs_i1 h
    exact gs_iret (pc := 199) C dX2_reckon_199 E
  by_cases c42 : x0 = (52 : Int32)
  · refine gs_tabIn (pc := 1) C 196 dX2_reckon_1 (by rw [c42]; decide) (by rw [c42]; decide) (off := 195) (by rw [c42]; decide) rfl ?_
    refine gs_iload_n (pc := 196) C 1 dX2_reckon_196 rfl rfl ?_
    refine gs_iload_n (pc := 197) C 2 dX2_reckon_197 rfl rfl ?_
    refine gs_ior (pc := 198) C dX2_reckon_198 ?_
    obtain rfl := gs_i1 h
    exact gs_iret (pc := 199) C dX2_reckon_199 E
  by_cases c43 : x0 = (53 : Int32)
  · refine gs_tabIn (pc := 1) C 196 dX2_reckon_1 (by rw [c43]; decide) (by rw [c43]; decide) (off := 195) (by rw [c43]; decide) rfl ?_
    refine gs_iload_n (pc := 196) C 1 dX2_reckon_196 rfl rfl ?_
    refine gs_iload_n (pc := 197) C 2 dX2_reckon_197 rfl rfl ?_
    refine gs_ior (pc := 198) C dX2_reckon_198 ?_
    obtain rfl := gs_i1 h
    exact gs_iret (pc := 199) C dX2_reckon_199 E
  by_cases c44 : x0 = (54 : Int32)
  · refine gs_tabIn (pc := 1) C 196 dX2_reckon_1 (by rw [c44]; decide) (by rw [c44]; decide) (off := 195) (by rw [c44]; decide) rfl ?_
    refine gs_iload_n (pc := 196) C 1 dX2_reckon_196 rfl rfl ?_
    refine gs_iload_n (pc := 197) C 2 dX2_reckon_197 rfl rfl ?_
    refine gs_ior (pc := 198) C dX2_reckon_198 ?_
    obtain rfl := gs_i1 h
    exact gs_iret (pc := 199) C dX2_reckon_199 E
  by_cases c45 : x0 = (55 : Int32)
  · refine gs_tabIn (pc := 1) C 196 dX2_reckon_1 (by rw [c45]; decide) (by rw [c45]; decide) (off := 195) (by rw [c45]; decide) rfl ?_
    refine gs_iload_n (pc := 196) C 1 dX2_reckon_196 rfl rfl ?_
    refine gs_iload_n (pc := 197) C 2 dX2_reckon_197 rfl rfl ?_
    refine gs_ior (pc := 198) C dX2_reckon_198 ?_
    obtain rfl := gs_i1 h
    exact gs_iret (pc := 199) C dX2_reckon_199 E
  by_cases c46 : x0 = (56 : Int32)
  · refine gs_tabIn (pc := 1) C 196 dX2_reckon_1 (by rw [c46]; decide) (by rw [c46]; decide) (off := 195) (by rw [c46]; decide) rfl ?_
    refine gs_iload_n (pc := 196) C 1 dX2_reckon_196 rfl rfl ?_
    refine gs_iload_n (pc := 197) C 2 dX2_reckon_197 rfl rfl ?_
    refine gs_ior (pc := 198) C dX2_reckon_198 ?_
    obtain rfl := gs_i1 h
    exact gs_iret (pc := 199) C dX2_reckon_199 E
  by_cases c47 : x0 = (57 : Int32)
  · refine gs_tabIn (pc := 1) C 196 dX2_reckon_1 (by rw [c47]; decide) (by rw [c47]; decide) (off := 195) (by rw [c47]; decide) rfl ?_
    refine gs_iload_n (pc := 196) C 1 dX2_reckon_196 rfl rfl ?_
    refine gs_iload_n (pc := 197) C 2 dX2_reckon_197 rfl rfl ?_
    refine gs_ior (pc := 198) C dX2_reckon_198 ?_
    obtain rfl := gs_i1 h
    exact gs_iret (pc := 199) C dX2_reckon_199 E
  by_cases c48 : x0 = (58 : Int32)
  · refine gs_tabIn (pc := 1) C 196 dX2_reckon_1 (by rw [c48]; decide) (by rw [c48]; decide) (off := 195) (by rw [c48]; decide) rfl ?_
    refine gs_iload_n (pc := 196) C 1 dX2_reckon_196 rfl rfl ?_
    refine gs_iload_n (pc := 197) C 2 dX2_reckon_197 rfl rfl ?_
    refine gs_ior (pc := 198) C dX2_reckon_198 ?_
    obtain rfl := gs_i1 h
    exact gs_iret (pc := 199) C dX2_reckon_199 E
  by_cases c49 : x0 = (59 : Int32)
  · refine gs_tabIn (pc := 1) C 196 dX2_reckon_1 (by rw [c49]; decide) (by rw [c49]; decide) (off := 195) (by rw [c49]; decide) rfl ?_
    refine gs_iload_n (pc := 196) C 1 dX2_reckon_196 rfl rfl ?_
    refine gs_iload_n (pc := 197) C 2 dX2_reckon_197 rfl rfl ?_
    refine gs_ior (pc := 198) C dX2_reckon_198 ?_
    obtain rfl := gs_i1 h
    exact gs_iret (pc := 199) C dX2_reckon_199 E
  refine gs_tabOut (pc := 1) C 196 dX2_reckon_1 (gs_swOut (vs := [38, 39, 40, 41, 42, 43, 44, 45, 46, 47, 48, 49, 50, 51, 52, 53, 54, 55, 56, 57, 58, 59, 60, 61, 62]) 38 25 (by decide) (List.forall_mem_cons.mpr ⟨c1, List.forall_mem_cons.mpr ⟨c33, List.forall_mem_cons.mpr ⟨c34, List.forall_mem_cons.mpr ⟨c35, List.forall_mem_cons.mpr ⟨c2, List.forall_mem_cons.mpr ⟨c6, List.forall_mem_cons.mpr ⟨c36, List.forall_mem_cons.mpr ⟨c10, List.forall_mem_cons.mpr ⟨c37, List.forall_mem_cons.mpr ⟨c14, List.forall_mem_cons.mpr ⟨c38, List.forall_mem_cons.mpr ⟨c39, List.forall_mem_cons.mpr ⟨c40, List.forall_mem_cons.mpr ⟨c41, List.forall_mem_cons.mpr ⟨c42, List.forall_mem_cons.mpr ⟨c43, List.forall_mem_cons.mpr ⟨c44, List.forall_mem_cons.mpr ⟨c45, List.forall_mem_cons.mpr ⟨c46, List.forall_mem_cons.mpr ⟨c47, List.forall_mem_cons.mpr ⟨c48, List.forall_mem_cons.mpr ⟨c49, List.forall_mem_cons.mpr ⟨c24, List.forall_mem_cons.mpr ⟨c27, List.forall_mem_cons.mpr ⟨c30, fun _ h => absurd h List.not_mem_nil⟩⟩⟩⟩⟩⟩⟩⟩⟩⟩⟩⟩⟩⟩⟩⟩⟩⟩⟩⟩⟩⟩⟩⟩⟩)) rfl ?_
  refine gs_iload_n (pc := 196) C 1 dX2_reckon_196 rfl rfl ?_
  refine gs_iload_n (pc := 197) C 2 dX2_reckon_197 rfl rfl ?_
  refine gs_ior (pc := 198) C dX2_reckon_198 ?_
  obtain rfl := gs_i1 h
  exact gs_iret (pc := 199) C dX2_reckon_199 E
set_option maxRecDepth 100000 in
set_option maxHeartbeats 4000000 in
theorem t_X2_run_6 {X : gs_X} (C : gs_C X RX2 cX2_run 7 (some .int) 1) {L : gs_L} {r0 : Nat} (h_r0 : gs_law r0) {x1 : Int32} {x2 : Int32} {o4 : Int32} {o5 : Int32} {M' : gs_M} (k : gs_AW X 148 [(0, .ref r0), (1, .int x1), (2, .int x2), (3, .ref 107), (4, .int o4), (5, .int o5)] [] M' L) : ∀ (f : Nat) (x4 : Int32) (x5 : Int32) (M : gs_M), l_X2_run_6 r0 x1 x2 f x4 x5 M = some (o4, o5, M') → gs_AW X 6 [(0, .ref r0), (1, .int x1), (2, .int x2), (3, .ref 107), (4, .int x4), (5, .int x5)] [] M L := by
  intro f
  induction f with
  | zero =>
    intro x4 x5 M h
    cases h
  | succ f ih =>
    intro x4 x5 M h
    rw [l_X2_run_6] at h
    refine gs_iload (pc := 6) C 5 dX2_run_6 rfl ?_
    refine gs_iload_n (pc := 8) C 2 dX2_run_8 rfl rfl ?_
    refine gs_icmp_ge (pc := 9) C 148 dX2_run_9 rfl (fun c1 => ?_) (fun c1 => ?_)
    · replace h := gs_ift c1 h
      obtain ⟨rfl, rfl, rfl⟩ := gs_i3 h
      exact k
    · replace h := gs_iff c1 h
      refine gs_aload_n (pc := 12) C 0 dX2_run_12 rfl rfl ?_
      refine gs_getq (pc := 13) C dX2_run_13 gk_2 fl_X2_9 (gs_law_sh h_r0).1 rfl ?_
      refine gs_iload (pc := 16) C 5 dX2_run_16 rfl ?_
      obtain ⟨v2, e3, h⟩ := gs_o1 h
      refine gs_iald (pc := 18) C dX2_run_18 (gs_law_sh h_r0).2.1 e3 ?_
      refine gs_istore (ls' := [(6, .int v2), (0, .ref r0), (1, .int x1), (2, .int x2), (3, .ref 107), (4, .int x4), (5, .int x5)]) (pc := 19) C dX2_run_19 (by decide) rfl ?_
      refine gs_iload (pc := 21) C 0 dX2_run_21 rfl ?_
      obtain ⟨y4, M5, e6, h⟩ := gs_o2 h
      have j7 : gs_AW X 142 [(0, .ref r0), (1, .int x1), (2, .int x2), (3, .ref 107), (4, .int y4), (5, .int x5), (6, .int v2)] [] M5 L := by
        refine gs_iinc (v := x5 + (1 : Int32)) (ls' := [(5, .int (x5 + (1 : Int32))), (0, .ref r0), (1, .int x1), (2, .int x2), (3, .ref 107), (4, .int y4), (6, .int v2)]) (pc := 142) C 5 dX2_run_142 rfl rfl (by decide) rfl ?_
        refine gs_goto (pc := 145) C 6 dX2_run_145 rfl ?_
        exact gs_sub [1, 2, 3, 4, 5, 0] rfl (ih _ _ _ h)
      refine gs_if_lt (pc := 23) C 67 dX2_run_23 rfl (fun c8 => ?_) (fun c8 => ?_)
      · replace e6 := gs_ift c8 e6
        refine gs_iload (pc := 67) C 0 dX2_run_67 rfl ?_
        refine gs_bipush (w := (-33)) (pc := 69) C dX2_run_69 rfl ?_
        refine gs_icmp_ne (pc := 71) C 102 dX2_run_71 rfl (fun c9 => ?_) (fun c9 => ?_)
        · replace e6 := gs_iff c9 e6
          refine gs_iload (pc := 102) C 5 dX2_run_102 rfl ?_
          refine gs_iconst (w := 1) (pc := 104) C dX2_run_104 rfl ?_
          refine gs_icmp_le (pc := 105) C 142 dX2_run_105 rfl (fun c10 => ?_) (fun c10 => ?_)
          · replace e6 := gs_ift c10 e6
            obtain ⟨rfl, rfl⟩ := gs_i2 e6
            exact gs_sub [1, 2, 3, 4, 5, 6, 0] rfl (j7)
          · replace e6 := gs_iff c10 e6
            refine gs_iinc (v := x4 + (-1 : Int32)) (ls' := [(4, .int (x4 + (-1 : Int32))), (6, .int v2), (0, .ref r0), (1, .int x1), (2, .int x2), (3, .ref 107), (5, .int x5)]) (pc := 108) C 5 dX2_run_108 rfl rfl (by decide) rfl ?_
            refine gs_aload_n (pc := 111) C 2 dX2_run_111 rfl rfl ?_
            refine gs_getq (pc := 112) C dX2_run_112 gk_2 fl_X2_24 (gs_law_sh h_r0).1 rfl ?_
            refine gs_iload (pc := 115) C 0 dX2_run_115 rfl ?_
            refine gs_iconst (w := 1) (pc := 117) C dX2_run_117 rfl ?_
            refine gs_isub (pc := 118) C dX2_run_118 ?_
            refine gs_iload (pc := 119) C 1 dX2_run_119 rfl ?_
            refine gs_ineg (pc := 121) C dX2_run_121 ?_
            refine gs_aload_n (pc := 122) C 2 dX2_run_122 rfl rfl ?_
            refine gs_getq (pc := 123) C dX2_run_123 gk_2 fl_X2_24 (gs_law_sh h_r0).1 rfl ?_
            refine gs_iload (pc := 126) C 0 dX2_run_126 rfl ?_
            refine gs_iconst (w := 1) (pc := 128) C dX2_run_128 rfl ?_
            refine gs_isub (pc := 129) C dX2_run_129 ?_
            obtain ⟨v11, e12, e6⟩ := gs_o1 e6
            refine gs_iald (pc := 130) C dX2_run_130 (gs_law_sh h_r0).2.2.2.2.2.1 e12 ?_
            refine gs_aload_n (pc := 131) C 2 dX2_run_131 rfl rfl ?_
            refine gs_getq (pc := 132) C dX2_run_132 gk_2 fl_X2_24 (gs_law_sh h_r0).1 rfl ?_
            refine gs_iload (pc := 135) C 0 dX2_run_135 rfl ?_
            obtain ⟨v13, e14, e6⟩ := gs_o1 e6
            refine gs_iald (pc := 137) C dX2_run_137 (gs_law_sh h_r0).2.2.2.2.2.1 e14 ?_
            obtain ⟨v15, e16, e6⟩ := gs_o1 e6
            refine gs_callSi (pc := 138) C [.int (-v2), .int v11, .int v13] dX2_run_138 ml_X2_38 wy_X2_reckon (a_X2_reckon _ e16) (by decide) rfl (Nat.le_of_ble_eq_true rfl) rfl ?_
            obtain ⟨M18, e17, e6⟩ := gs_o1 e6
            refine gs_iast (pc := 141) C dX2_run_141 (gs_law_sh h_r0).2.2.2.2.2.1 e17 ?_
            obtain ⟨rfl, rfl⟩ := gs_i2 e6
            exact gs_sub [2, 3, 4, 5, 0, 6, 1] rfl (j7)
        · replace e6 := gs_ift c9 e6
          refine gs_iload (pc := 74) C 5 dX2_run_74 rfl ?_
          refine gs_if_le (pc := 76) C 142 dX2_run_76 rfl (fun c19 => ?_) (fun c19 => ?_)
          · replace e6 := gs_ift c19 e6
            obtain ⟨rfl, rfl⟩ := gs_i2 e6
            exact gs_sub [1, 2, 3, 4, 5, 6, 0] rfl (j7)
          · replace e6 := gs_iff c19 e6
            refine gs_aload_n (pc := 79) C 1 dX2_run_79 rfl rfl ?_
            refine gs_getq (pc := 80) C dX2_run_80 gk_2 fl_X2_24 (gs_law_sh h_r0).1 rfl ?_
            refine gs_iload (pc := 83) C 5 dX2_run_83 rfl ?_
            refine gs_iconst (w := 1) (pc := 85) C dX2_run_85 rfl ?_
            refine gs_isub (pc := 86) C dX2_run_86 ?_
            refine gs_iconst (w := 1) (pc := 87) C dX2_run_87 rfl ?_
            refine gs_aload_n (pc := 88) C 1 dX2_run_88 rfl rfl ?_
            refine gs_getq (pc := 89) C dX2_run_89 gk_2 fl_X2_24 (gs_law_sh h_r0).1 rfl ?_
            refine gs_iload (pc := 92) C 5 dX2_run_92 rfl ?_
            refine gs_iconst (w := 1) (pc := 94) C dX2_run_94 rfl ?_
            refine gs_isub (pc := 95) C dX2_run_95 ?_
            obtain ⟨v20, e21, e6⟩ := gs_o1 e6
            refine gs_iald (pc := 96) C dX2_run_96 (gs_law_sh h_r0).2.2.2.2.2.1 e21 ?_
            refine gs_isub (pc := 97) C dX2_run_97 ?_
            obtain ⟨M23, e22, e6⟩ := gs_o1 e6
            refine gs_iast (pc := 98) C dX2_run_98 (gs_law_sh h_r0).2.2.2.2.2.1 e22 ?_
            refine gs_goto (pc := 99) C 142 dX2_run_99 rfl ?_
            obtain ⟨rfl, rfl⟩ := gs_i2 e6
            exact gs_sub [1, 2, 3, 4, 5, 6, 0] rfl (j7)
      · replace e6 := gs_iff c8 e6
        refine gs_iload (pc := 26) C 5 dX2_run_26 rfl ?_
        refine gs_bipush (w := 32) (pc := 28) C dX2_run_28 rfl ?_
        refine gs_icmp_ge (pc := 30) C 142 dX2_run_30 rfl (fun c24 => ?_) (fun c24 => ?_)
        · replace e6 := gs_ift c24 e6
          obtain ⟨rfl, rfl⟩ := gs_i2 e6
          exact gs_sub [1, 2, 3, 4, 5, 6, 0] rfl (j7)
        · replace e6 := gs_iff c24 e6
          refine gs_aload_n (pc := 33) C 1 dX2_run_33 rfl rfl ?_
          refine gs_getq (pc := 34) C dX2_run_34 gk_2 fl_X2_24 (gs_law_sh h_r0).1 rfl ?_
          refine gs_iload (pc := 37) C 5 dX2_run_37 rfl ?_
          refine gs_iload (pc := 39) C 0 dX2_run_39 rfl ?_
          refine gs_sipush (w := 10000) (pc := 41) C dX2_run_41 rfl ?_
          obtain ⟨y25, e26, e6⟩ := gs_o1 e6
          have j27 : gs_AW X 60 [(0, .ref r0), (1, .int x1), (2, .int x2), (3, .ref 107), (4, .int x4), (5, .int x5), (6, .int v2)] [.int y25, .int x4, .ref (r0 + 5)] M L := by
            obtain ⟨M32, e31, e6⟩ := gs_o1 e6
            refine gs_iast (pc := 60) C dX2_run_60 (gs_law_sh h_r0).2.2.2.2.2.1 e31 ?_
            refine gs_iinc (v := x4 + (1 : Int32)) (ls' := [(4, .int (x4 + (1 : Int32))), (0, .ref r0), (1, .int x1), (2, .int x2), (3, .ref 107), (5, .int x5), (6, .int v2)]) (pc := 61) C 4 dX2_run_61 rfl rfl (by decide) rfl ?_
            refine gs_goto (pc := 64) C 142 dX2_run_64 rfl ?_
            obtain ⟨rfl, rfl⟩ := gs_i2 e6
            exact gs_sub [1, 2, 3, 4, 0, 5, 6] rfl (j7)
          refine gs_icmp_ge (pc := 44) C 52 dX2_run_44 rfl (fun c28 => ?_) (fun c28 => ?_)
          · replace e26 := gs_ift c28 e26
            refine gs_aload_n (pc := 52) C 4 dX2_run_52 rfl rfl ?_
            refine gs_iload (pc := 53) C 0 dX2_run_53 rfl ?_
            refine gs_sipush (w := 10000) (pc := 55) C dX2_run_55 rfl ?_
            refine gs_isub (pc := 58) C dX2_run_58 ?_
            obtain ⟨v29, e30, e26⟩ := gs_o1 e26
            refine gs_iald (pc := 59) C dX2_run_59 sh_107 e30 ?_
            obtain rfl := gs_i1 e26
            exact gs_sub [1, 2, 3, 4, 5, 6, 0] rfl (j27)
          · replace e26 := gs_iff c28 e26
            refine gs_iload (pc := 47) C 0 dX2_run_47 rfl ?_
            refine gs_goto (pc := 49) C 60 dX2_run_49 rfl ?_
            obtain rfl := gs_i1 e26
            exact gs_sub [1, 2, 3, 4, 5, 6, 0] rfl (j27)
set_option maxRecDepth 100000 in
set_option maxHeartbeats 4000000 in
theorem a_X2_run (l : Launch) {M : gs_M} {L : gs_L} {r0 : Nat} {x1 : Int32} {x2 : Int32} {rv : Int32} {Mz : gs_M} (h_r0 : gs_law r0) (h : f_X2_run M r0 x1 x2 = some (rv, Mz)) : gs_Met l 1 yX2_run cX2_run 7 (some .int) [.ref r0, .int x1, .int x2, .ref 107] M L (some (.int rv)) Mz L := by
  unfold f_X2_run at h
  refine gs_of RX2 (by decide) rfl (Nat.le_of_ble_eq_true rfl) (fun X C E => ?_)
  show gs_AW X 0 [(0, .ref r0), (1, .int x1), (2, .int x2), (3, .ref 107)] [] M L
  refine gs_iconst (w := 0) (pc := 0) C dX2_run_0 rfl ?_
  refine gs_istore (ls' := [(4, .int (0 : Int32)), (0, .ref r0), (1, .int x1), (2, .int x2), (3, .ref 107)]) (pc := 1) C dX2_run_1 (by decide) rfl ?_
  refine gs_iload_n (pc := 3) C 2 dX2_run_3 rfl rfl ?_
  refine gs_istore (ls' := [(5, .int x1), (4, .int (0 : Int32)), (0, .ref r0), (1, .int x1), (2, .int x2), (3, .ref 107)]) (pc := 4) C dX2_run_4 (by decide) rfl ?_
  obtain ⟨y1, y2, M3, e4, h⟩ := gs_o3 h
  refine gs_sub [2, 3, 4, 5, 1, 0] rfl (t_X2_run_6 C h_r0 ?_ gs_FU _ _ _ e4)
  refine gs_iload (pc := 148) C 4 dX2_run_148 rfl ?_
  obtain ⟨y5, e6, h⟩ := gs_o1 h
  have j7 : gs_AW X 163 [(0, .ref r0), (1, .int x1), (2, .int x2), (3, .ref 107), (4, .int y1), (5, .int y2)] [.int y5] M3 L := by
    obtain ⟨rfl, rfl⟩ := gs_i2 h
    exact gs_iret (pc := 163) C dX2_run_163 E
  refine gs_if_le (pc := 150) C 162 dX2_run_150 rfl (fun c8 => ?_) (fun c8 => ?_)
  · replace e6 := gs_ift c8 e6
    refine gs_iconst (w := 0) (pc := 162) C dX2_run_162 rfl ?_
    obtain rfl := gs_i1 e6
    exact j7
  · replace e6 := gs_iff c8 e6
    refine gs_aload_n (pc := 153) C 0 dX2_run_153 rfl rfl ?_
    refine gs_getq (pc := 154) C dX2_run_154 gk_2 fl_X2_24 (gs_law_sh h_r0).1 rfl ?_
    refine gs_iconst (w := 0) (pc := 157) C dX2_run_157 rfl ?_
    obtain ⟨v9, e10, e6⟩ := gs_o1 e6
    refine gs_iald (pc := 158) C dX2_run_158 (gs_law_sh h_r0).2.2.2.2.2.1 e10 ?_
    refine gs_goto (pc := 159) C 163 dX2_run_159 rfl ?_
    obtain rfl := gs_i1 e6
    exact j7
set_option maxRecDepth 100000 in
set_option maxHeartbeats 4000000 in
theorem t_X2_worth_2 {X : gs_X} (C : gs_C X RX2 cX2_worth 5 (some .int) 2) {L : gs_L} {r0 : Nat} (h_r0 : gs_law r0) {x1 : Int32} {rv : Int32} {Mz : gs_M} (E : gs_E X (some (.int rv)) Mz L) : ∀ (f : Nat) (x3 : Int32) (M : gs_M), l_X2_worth_2 r0 x1 f x3 M = some (rv, Mz) → gs_AW X 2 [(0, .ref r0), (1, .int x1), (2, .ref 107), (3, .int x3)] [] M L := by
  intro f
  induction f with
  | zero =>
    intro x3 M h
    cases h
  | succ f ih =>
    intro x3 M h
    rw [l_X2_worth_2] at h
    refine gs_iload_n (pc := 2) C 3 dX2_worth_2 rfl rfl ?_
    refine gs_aload_n (pc := 3) C 0 dX2_worth_3 rfl rfl ?_
    refine gs_geti (pc := 4) C dX2_worth_4 gk_2 fl_X2_31 (gs_law_sh h_r0).1 rfl ?_
    refine gs_icmp_ge (pc := 7) C 110 dX2_worth_7 rfl (fun c1 => ?_) (fun c1 => ?_)
    · replace h := gs_ift c1 h
      refine gs_iconst (w := 0) (pc := 110) C dX2_worth_110 rfl ?_
      obtain ⟨rfl, rfl⟩ := gs_i2 h
      exact gs_iret (pc := 111) C dX2_worth_111 E
    · replace h := gs_iff c1 h
      refine gs_aload_n (pc := 10) C 0 dX2_worth_10 rfl rfl ?_
      refine gs_getq (pc := 11) C dX2_worth_11 gk_2 fl_X2_21 (gs_law_sh h_r0).1 rfl ?_
      refine gs_iload_n (pc := 14) C 3 dX2_worth_14 rfl rfl ?_
      obtain ⟨v2, e3, h⟩ := gs_o1 h
      refine gs_iald (pc := 15) C dX2_worth_15 (gs_law_sh h_r0).2.2.2.2.1 e3 ?_
      refine gs_iload_n (pc := 16) C 1 dX2_worth_16 rfl rfl ?_
      refine gs_icmp_ne (pc := 17) C 104 dX2_worth_17 rfl (fun c4 => ?_) (fun c4 => ?_)
      · replace h := gs_iff c4 h
        refine gs_iinc (v := x3 + (1 : Int32)) (ls' := [(3, .int (x3 + (1 : Int32))), (0, .ref r0), (1, .int x1), (2, .ref 107)]) (pc := 104) C 3 dX2_worth_104 rfl rfl (by decide) rfl ?_
        refine gs_goto (pc := 107) C 2 dX2_worth_107 rfl ?_
        exact gs_sub [1, 2, 3, 0] rfl (ih _ _ h)
      · replace h := gs_ift c4 h
        refine gs_aload_n (pc := 20) C 0 dX2_worth_20 rfl rfl ?_
        refine gs_getq (pc := 21) C dX2_worth_21 gk_2 fl_X2_18 (gs_law_sh h_r0).1 rfl ?_
        refine gs_iload_n (pc := 24) C 3 dX2_worth_24 rfl rfl ?_
        obtain ⟨v5, e6, h⟩ := gs_o1 h
        refine gs_iald (pc := 25) C dX2_worth_25 (gs_law_sh h_r0).2.2.2.1 e6 ?_
        refine gs_aload_n (pc := 26) C 0 dX2_worth_26 rfl rfl ?_
        refine gs_getq (pc := 27) C dX2_worth_27 gk_2 fl_X2_15 (gs_law_sh h_r0).1 rfl ?_
        refine gs_iload_n (pc := 30) C 3 dX2_worth_30 rfl rfl ?_
        obtain ⟨v7, e8, h⟩ := gs_o1 h
        refine gs_iald (pc := 31) C dX2_worth_31 (gs_law_sh h_r0).2.2.1 e8 ?_
        obtain ⟨y9, M10, e11, h⟩ := gs_o2 h
        have j12 : gs_AW X 60 [(0, .ref r0), (1, .int x1), (2, .ref 107), (3, .int x3)] [.int y9] M10 L := by
          refine gs_istore (ls' := [(4, .int y9), (0, .ref r0), (1, .int x1), (2, .ref 107), (3, .int x3)]) (pc := 60) C dX2_worth_60 (by decide) rfl ?_
          refine gs_iload (pc := 62) C 0 dX2_worth_62 rfl ?_
          refine gs_if_eq (pc := 64) C 104 dX2_worth_64 rfl (fun c22 => ?_) (fun c22 => ?_)
          · replace h := gs_ift c22 h
            refine gs_iinc (v := x3 + (1 : Int32)) (ls' := [(3, .int (x3 + (1 : Int32))), (4, .int y9), (0, .ref r0), (1, .int x1), (2, .ref 107)]) (pc := 104) C 4 dX2_worth_104 rfl rfl (by decide) rfl ?_
            refine gs_goto (pc := 107) C 2 dX2_worth_107 rfl ?_
            exact gs_sub [2, 3, 4, 0] rfl (ih _ _ h)
          · replace h := gs_iff c22 h
            refine gs_aload_n (pc := 67) C 1 dX2_worth_67 rfl rfl ?_
            refine gs_aload_n (pc := 68) C 1 dX2_worth_68 rfl rfl ?_
            refine gs_getq (pc := 69) C dX2_worth_69 gk_2 fl_X2_18 (gs_law_sh h_r0).1 rfl ?_
            refine gs_iload_n (pc := 72) C 4 dX2_worth_72 rfl rfl ?_
            obtain ⟨v23, e24, h⟩ := gs_o1 h
            refine gs_iald (pc := 73) C dX2_worth_73 (gs_law_sh h_r0).2.2.2.1 e24 ?_
            refine gs_iload_n (pc := 74) C 4 dX2_worth_74 rfl rfl ?_
            refine gs_iconst (w := 1) (pc := 75) C dX2_worth_75 rfl ?_
            refine gs_iadd (pc := 76) C dX2_worth_76 ?_
            refine gs_aload_n (pc := 77) C 1 dX2_worth_77 rfl rfl ?_
            refine gs_geti (pc := 78) C dX2_worth_78 gk_2 fl_X2_31 (gs_law_sh h_r0).1 rfl ?_
            obtain ⟨y25, e26, h⟩ := gs_o1 h
            have j27 : gs_AW X 99 [(0, .ref r0), (1, .int x1), (2, .ref 107), (3, .int x3), (4, .int y9)] [.int y25, .int v23, .ref r0] M10 L := by
              refine gs_aload_n (pc := 99) C 2 dX2_worth_99 rfl rfl ?_
              obtain ⟨v31, M32, e33, h⟩ := gs_o2 h
              refine gs_callVi (pc := 100) C [.int v23, .int y25, .ref 107] dX2_worth_100 ml_X2_34 wy_X2_run (a_X2_run _ h_r0 e33) (by decide) (gs_law_sh h_r0).1 (by decide) rfl rfl (Nat.le_of_ble_eq_true rfl) rfl ?_
              obtain ⟨rfl, rfl⟩ := gs_i2 h
              exact gs_iret (pc := 103) C dX2_worth_103 E
            refine gs_icmp_ge (pc := 81) C 95 dX2_worth_81 rfl (fun c28 => ?_) (fun c28 => ?_)
            · replace e26 := gs_ift c28 e26
              refine gs_aload_n (pc := 95) C 1 dX2_worth_95 rfl rfl ?_
              refine gs_geti (pc := 96) C dX2_worth_96 gk_2 fl_X2_27 (gs_law_sh h_r0).1 rfl ?_
              obtain rfl := gs_i1 e26
              exact gs_sub [1, 2, 3, 4, 0] rfl (j27)
            · replace e26 := gs_iff c28 e26
              refine gs_aload_n (pc := 84) C 1 dX2_worth_84 rfl rfl ?_
              refine gs_getq (pc := 85) C dX2_worth_85 gk_2 fl_X2_15 (gs_law_sh h_r0).1 rfl ?_
              refine gs_iload_n (pc := 88) C 4 dX2_worth_88 rfl rfl ?_
              refine gs_iconst (w := 1) (pc := 89) C dX2_worth_89 rfl ?_
              refine gs_iadd (pc := 90) C dX2_worth_90 ?_
              obtain ⟨v29, e30, e26⟩ := gs_o1 e26
              refine gs_iald (pc := 91) C dX2_worth_91 (gs_law_sh h_r0).2.2.1 e30 ?_
              refine gs_goto (pc := 92) C 99 dX2_worth_92 rfl ?_
              obtain rfl := gs_i1 e26
              exact gs_sub [1, 2, 3, 4, 0] rfl (j27)
        refine gs_icmp_eq (pc := 32) C 55 dX2_worth_32 rfl (fun c13 => ?_) (fun c13 => ?_)
        · replace e11 := gs_ift c13 e11
          refine gs_iconst (w := 1) (pc := 55) C dX2_worth_55 rfl ?_
          refine gs_goto (pc := 56) C 60 dX2_worth_56 rfl ?_
          obtain ⟨rfl, rfl⟩ := gs_i2 e11
          exact j12
        · replace e11 := gs_iff c13 e11
          refine gs_aload_n (pc := 35) C 0 dX2_worth_35 rfl rfl ?_
          refine gs_aload_n (pc := 36) C 0 dX2_worth_36 rfl rfl ?_
          refine gs_getq (pc := 37) C dX2_worth_37 gk_2 fl_X2_15 (gs_law_sh h_r0).1 rfl ?_
          refine gs_iload_n (pc := 40) C 3 dX2_worth_40 rfl rfl ?_
          obtain ⟨v14, e15, e11⟩ := gs_o1 e11
          refine gs_iald (pc := 41) C dX2_worth_41 (gs_law_sh h_r0).2.2.1 e15 ?_
          refine gs_aload_n (pc := 42) C 0 dX2_worth_42 rfl rfl ?_
          refine gs_getq (pc := 43) C dX2_worth_43 gk_2 fl_X2_18 (gs_law_sh h_r0).1 rfl ?_
          refine gs_iload_n (pc := 46) C 3 dX2_worth_46 rfl rfl ?_
          obtain ⟨v16, e17, e11⟩ := gs_o1 e11
          refine gs_iald (pc := 47) C dX2_worth_47 (gs_law_sh h_r0).2.2.2.1 e17 ?_
          refine gs_aload_n (pc := 48) C 2 dX2_worth_48 rfl rfl ?_
          obtain ⟨v18, M19, e20, e11⟩ := gs_o2 e11
          refine gs_callVi (pc := 49) C [.int v14, .int v16, .ref 107] dX2_worth_49 ml_X2_34 wy_X2_run (a_X2_run _ h_r0 e20) (by decide) (gs_law_sh h_r0).1 (by decide) rfl rfl (Nat.le_of_ble_eq_true rfl) rfl ?_
          refine gs_if_eq (pc := 52) C 59 dX2_worth_52 rfl (fun c21 => ?_) (fun c21 => ?_)
          · replace e11 := gs_ift c21 e11
            refine gs_iconst (w := 0) (pc := 59) C dX2_worth_59 rfl ?_
            obtain ⟨rfl, rfl⟩ := gs_i2 e11
            exact j12
          · replace e11 := gs_iff c21 e11
            refine gs_iconst (w := 1) (pc := 55) C dX2_worth_55 rfl ?_
            refine gs_goto (pc := 56) C 60 dX2_worth_56 rfl ?_
            obtain ⟨rfl, rfl⟩ := gs_i2 e11
            exact j12
set_option maxRecDepth 100000 in
set_option maxHeartbeats 4000000 in
theorem a_X2_worth (l : Launch) {M : gs_M} {L : gs_L} {r0 : Nat} {x1 : Int32} {rv : Int32} {Mz : gs_M} (h_r0 : gs_law r0) (h : f_X2_worth M r0 x1 = some (rv, Mz)) : gs_Met l 2 yX2_worth cX2_worth 5 (some .int) [.ref r0, .int x1, .ref 107] M L (some (.int rv)) Mz L := by
  unfold f_X2_worth at h
  refine gs_of RX2 (by decide) rfl (Nat.le_of_ble_eq_true rfl) (fun X C E => ?_)
  show gs_AW X 0 [(0, .ref r0), (1, .int x1), (2, .ref 107)] [] M L
  refine gs_iconst (w := 0) (pc := 0) C dX2_worth_0 rfl ?_
  refine gs_istore_n (ls' := [(3, .int (0 : Int32)), (0, .ref r0), (1, .int x1), (2, .ref 107)]) (pc := 1) C dX2_worth_1 rfl (by decide) rfl ?_
  exact gs_sub [1, 2, 3, 0] rfl (t_X2_worth_2 C h_r0 E gs_FU _ _ h)
set_option maxRecDepth 100000 in
set_option maxHeartbeats 4000000 in
theorem a_X9_ruled (l : Launch) {M : gs_M} {L : gs_L} {x1 : Int32} {rv : Int32} (h : f_X9_ruled M x1 = some (rv)) : gs_Met l 0 yX9_ruled cX9_ruled 2 (some .int) [.ref 3, .int x1] M L (some (.int rv)) M L := by
  unfold f_X9_ruled at h
  refine gs_of RX9 (by decide) rfl (Nat.le_of_ble_eq_true rfl) (fun X C E => ?_)
  show gs_AW X 0 [(0, .ref 3), (1, .int x1)] [] M L
  refine gs_aload_n (pc := 0) C 0 dX9_ruled_0 rfl rfl ?_
  refine gs_getq (pc := 1) C dX9_ruled_1 gk_9 fl_X9_11 sh_3 rfl ?_
  refine gs_iload_n (pc := 4) C 1 dX9_ruled_4 rfl rfl ?_
  obtain ⟨v1, e2, h⟩ := gs_o1 h
  refine gs_iald (pc := 5) C dX9_ruled_5 sh_4 e2 ?_
  obtain rfl := gs_i1 h
  exact gs_iret (pc := 6) C dX9_ruled_6 E
set_option maxRecDepth 100000 in
set_option maxHeartbeats 4000000 in
theorem a_X4_wakesIf (l : Launch) {M : gs_M} {L : gs_L} {x1 : Int32} {x2 : Int32} {x3 : Int32} {x4 : Int32} {rv : Int32} {Mz : gs_M} (h : f_X4_wakesIf M x1 x2 x3 x4 = some (rv, Mz)) : gs_Met l 3 yX4_wakesIf cX4_wakesIf 8 (some .int) [.ref 105, .int x1, .int x2, .int x3, .int x4] M L (some (.int rv)) Mz L := by
  unfold f_X4_wakesIf at h
  refine gs_of RX4 (by decide) rfl (Nat.le_of_ble_eq_true rfl) (fun X C E => ?_)
  show gs_AW X 0 [(0, .ref 105), (1, .int x1), (2, .int x2), (3, .int x3), (4, .int x4)] [] M L
  refine gs_aload_n (pc := 0) C 0 dX4_wakesIf_0 rfl rfl ?_
  refine gs_getq (pc := 1) C dX4_wakesIf_1 gk_4 fl_X4_25 sh_105 rfl ?_
  refine gs_iload_n (pc := 4) C 1 dX4_wakesIf_4 rfl rfl ?_
  refine gs_iconst (w := 1) (pc := 5) C dX4_wakesIf_5 rfl ?_
  obtain ⟨v1, e2, h⟩ := gs_o1 h
  refine gs_callVi (pc := 6) C [.int x1, .int (1 : Int32)] dX4_wakesIf_6 ml_X4_57 wy_X9_told (a_X9_told _ e2) (by decide) sh_3 (by decide) rfl rfl (Nat.le_of_ble_eq_true rfl) rfl ?_
  refine gs_istore (ls' := [(5, .int v1), (0, .ref 105), (1, .int x1), (2, .int x2), (3, .int x3), (4, .int x4)]) (pc := 9) C dX4_wakesIf_9 (by decide) rfl ?_
  refine gs_aload_n (pc := 11) C 1 dX4_wakesIf_11 rfl rfl ?_
  refine gs_getq (pc := 12) C dX4_wakesIf_12 gk_4 fl_X4_29 sh_105 rfl ?_
  refine gs_iload_n (pc := 15) C 2 dX4_wakesIf_15 rfl rfl ?_
  refine gs_iconst (w := 2) (pc := 16) C dX4_wakesIf_16 rfl ?_
  obtain ⟨v3, e4, h⟩ := gs_o1 h
  refine gs_callVi (pc := 17) C [.int x1, .int (2 : Int32)] dX4_wakesIf_17 ml_X4_47 wy_X6_of (a_X6_of _ e4) (by decide) sh_9 (by decide) rfl rfl (Nat.le_of_ble_eq_true rfl) rfl ?_
  refine gs_istore (ls' := [(6, .int v3), (5, .int v1), (0, .ref 105), (1, .int x1), (2, .int x2), (3, .int x3), (4, .int x4)]) (pc := 20) C dX4_wakesIf_20 (by decide) rfl ?_
  refine gs_iload (pc := 22) C 1 dX4_wakesIf_22 rfl ?_
  refine gs_iload (pc := 24) C 6 dX4_wakesIf_24 rfl ?_
  refine gs_iadd (pc := 26) C dX4_wakesIf_26 ?_
  refine gs_iload_n (pc := 27) C 5 dX4_wakesIf_27 rfl rfl ?_
  refine gs_isub (pc := 28) C dX4_wakesIf_28 ?_
  refine gs_iload (pc := 29) C 0 dX4_wakesIf_29 rfl ?_
  refine gs_isub (pc := 31) C dX4_wakesIf_31 ?_
  refine gs_istore (ls' := [(7, .int (((v1 + x4) - x3) - v3)), (6, .int v3), (5, .int v1), (0, .ref 105), (1, .int x1), (2, .int x2), (3, .int x3), (4, .int x4)]) (pc := 32) C dX4_wakesIf_32 (by decide) rfl ?_
  refine gs_aload_n (pc := 34) C 3 dX4_wakesIf_34 rfl rfl ?_
  refine gs_aload_n (pc := 35) C 3 dX4_wakesIf_35 rfl rfl ?_
  refine gs_geti (pc := 36) C dX4_wakesIf_36 gk_4 fl_X4_21 sh_105 rfl ?_
  obtain ⟨v5, e6, h⟩ := gs_o1 h
  refine gs_callVi (pc := 39) C [.int (M 105 5)] dX4_wakesIf_39 ml_X4_37 wy_X4_has (a_X4_has _ e6) (by decide) sh_105 (by decide) rfl rfl (Nat.le_of_ble_eq_true rfl) rfl ?_
  obtain ⟨y7, M8, e9, h⟩ := gs_o2 h
  have j10 : gs_AW X 78 [(0, .ref 105), (1, .int x1), (2, .int x2), (3, .int x3), (4, .int x4), (5, .int v1), (6, .int v3), (7, .int y7)] [] M8 L := by
    refine gs_aload_n (pc := 78) C 0 dX4_wakesIf_78 rfl rfl ?_
    refine gs_getq (pc := 79) C dX4_wakesIf_79 gk_4 fl_X4_29 sh_105 rfl ?_
    refine gs_iload_n (pc := 82) C 1 dX4_wakesIf_82 rfl rfl ?_
    refine gs_iconst (w := 3) (pc := 83) C dX4_wakesIf_83 rfl ?_
    obtain ⟨v19, e20, h⟩ := gs_o1 h
    refine gs_callVi (pc := 84) C [.int x1, .int (3 : Int32)] dX4_wakesIf_84 ml_X4_47 wy_X6_of (a_X6_of _ e20) (by decide) sh_9 (by decide) rfl rfl (Nat.le_of_ble_eq_true rfl) rfl ?_
    obtain ⟨y21, e22, h⟩ := gs_o1 h
    have j23 : gs_AW X 103 [(0, .ref 105), (1, .int x1), (2, .int x2), (3, .int x3), (4, .int x4), (5, .int v1), (6, .int v3), (7, .int y21)] [] M8 L := by
      refine gs_iconst (w := 0) (pc := 103) C dX4_wakesIf_103 rfl ?_
      refine gs_iload (pc := 104) C 7 dX4_wakesIf_104 rfl ?_
      refine gs_bipush (w := 10) (pc := 106) C dX4_wakesIf_106 rfl ?_
      refine gs_mmin (pc := 108) C dX4_wakesIf_108 ml_X4_72 (Nat.le_of_ble_eq_true rfl) ?_
      refine gs_mmax (pc := 111) C dX4_wakesIf_111 ml_X4_77 (Nat.le_of_ble_eq_true rfl) ?_
      obtain ⟨rfl, rfl⟩ := gs_i2 h
      exact gs_iret (pc := 114) C dX4_wakesIf_114 E
    refine gs_if_eq (pc := 87) C 103 dX4_wakesIf_87 rfl (fun c24 => ?_) (fun c24 => ?_)
    · replace e22 := gs_ift c24 e22
      obtain rfl := gs_i1 e22
      exact j23
    · replace e22 := gs_iff c24 e22
      refine gs_iload (pc := 90) C 7 dX4_wakesIf_90 rfl ?_
      refine gs_aload_n (pc := 92) C 0 dX4_wakesIf_92 rfl rfl ?_
      refine gs_getq (pc := 93) C dX4_wakesIf_93 gk_4 fl_X4_25 sh_105 rfl ?_
      refine gs_iconst (w := 2) (pc := 96) C dX4_wakesIf_96 rfl ?_
      obtain ⟨v25, e26, e22⟩ := gs_o1 e22
      refine gs_callVi (pc := 97) C [.int (2 : Int32)] dX4_wakesIf_97 ml_X4_68 wy_X9_ruled (a_X9_ruled _ e26) (by decide) sh_3 (by decide) rfl rfl (Nat.le_of_ble_eq_true rfl) rfl ?_
      refine gs_iadd (pc := 100) C dX4_wakesIf_100 ?_
      refine gs_istore (ls' := [(7, .int (y7 + v25)), (0, .ref 105), (1, .int x1), (2, .int x2), (3, .int x3), (4, .int x4), (5, .int v1), (6, .int v3)]) (pc := 101) C dX4_wakesIf_101 (by decide) rfl ?_
      obtain rfl := gs_i1 e22
      exact gs_sub [1, 2, 3, 4, 5, 6, 7, 0] rfl (j23)
  refine gs_if_eq (pc := 42) C 78 dX4_wakesIf_42 rfl (fun c11 => ?_) (fun c11 => ?_)
  · replace e9 := gs_ift c11 e9
    obtain ⟨rfl, rfl⟩ := gs_i2 e9
    exact gs_sub [3, 4, 5, 6, 7, 2, 1, 0] rfl (j10)
  · replace e9 := gs_iff c11 e9
    refine gs_aload_n (pc := 45) C 3 dX4_wakesIf_45 rfl rfl ?_
    refine gs_iload_n (pc := 46) C 6 dX4_wakesIf_46 rfl rfl ?_
    refine gs_iload (pc := 47) C 2 dX4_wakesIf_47 rfl ?_
    refine gs_iload (pc := 49) C 7 dX4_wakesIf_49 rfl ?_
    refine gs_iload (pc := 51) C 1 dX4_wakesIf_51 rfl ?_
    refine gs_iload_n (pc := 53) C 5 dX4_wakesIf_53 rfl rfl ?_
    refine gs_iconst (w := 0) (pc := 54) C dX4_wakesIf_54 rfl ?_
    obtain ⟨M12, e13, e9⟩ := gs_o1 e9
    refine gs_callVv (pc := 55) C [.int x3, .int v1, .int x4, .int v3, .int x2, .int (0 : Int32)] dX4_wakesIf_55 ml_X4_60 wy_X4_spell (a_X4_spell _ e13) (by decide) sh_105 (by decide) rfl rfl (Nat.le_of_ble_eq_true rfl) rfl ?_
    refine gs_aload_n (pc := 58) C 3 dX4_wakesIf_58 rfl rfl ?_
    refine gs_getq (pc := 59) C dX4_wakesIf_59 gk_4 fl_X4_11 sh_105 rfl ?_
    refine gs_aload_n (pc := 62) C 3 dX4_wakesIf_62 rfl rfl ?_
    refine gs_geti (pc := 63) C dX4_wakesIf_63 gk_4 fl_X4_21 sh_105 rfl ?_
    obtain ⟨r14, e15, e9⟩ := gs_o1 e9
    refine gs_aldW (pc := 66) C dX4_wakesIf_66 sh_106 e15 ?_
    refine gs_bipush (w := 121) (pc := 67) C dX4_wakesIf_67 rfl ?_
    refine gs_aload_n (pc := 69) C 3 dX4_wakesIf_69 rfl rfl ?_
    refine gs_getq (pc := 70) C dX4_wakesIf_70 gk_4 fl_X4_17 sh_105 rfl ?_
    obtain ⟨v16, M17, e18, e9⟩ := gs_o2 e9
    refine gs_callVi (pc := 73) C [.int (121 : Int32), .ref 107] dX4_wakesIf_73 ml_X4_64 wy_X2_worth (a_X2_worth _ (gs_rdq_law e15) e18) (by decide) (gs_law_sh (gs_rdq_law e15)).1 (by decide) rfl rfl (Nat.le_of_ble_eq_true rfl) rfl ?_
    refine gs_istore (ls' := [(7, .int v16), (6, .int v3), (5, .int v1), (0, .ref 105), (1, .int x1), (2, .int x2), (3, .int x3), (4, .int x4)]) (pc := 76) C dX4_wakesIf_76 (by decide) rfl ?_
    obtain ⟨rfl, rfl⟩ := gs_i2 e9
    exact gs_sub [3, 4, 5, 6, 7, 2, 1, 0] rfl (j10)
set_option maxRecDepth 100000 in
set_option maxHeartbeats 4000000 in
theorem a_X4_wakesNow (l : Launch) {M : gs_M} {L : gs_L} {x1 : Int32} {x2 : Int32} {rv : Int32} {Mz : gs_M} (h : f_X4_wakesNow M x1 x2 = some (rv, Mz)) : gs_Met l 4 yX4_wakesNow cX4_wakesNow 3 (some .int) [.ref 105, .int x1, .int x2] M L (some (.int rv)) Mz L := by
  unfold f_X4_wakesNow at h
  refine gs_of RX4 (by decide) rfl (Nat.le_of_ble_eq_true rfl) (fun X C E => ?_)
  show gs_AW X 0 [(0, .ref 105), (1, .int x1), (2, .int x2)] [] M L
  refine gs_aload_n (pc := 0) C 0 dX4_wakesNow_0 rfl rfl ?_
  refine gs_iload_n (pc := 1) C 1 dX4_wakesNow_1 rfl rfl ?_
  refine gs_iload_n (pc := 2) C 2 dX4_wakesNow_2 rfl rfl ?_
  refine gs_aload_n (pc := 3) C 0 dX4_wakesNow_3 rfl rfl ?_
  refine gs_getq (pc := 4) C dX4_wakesNow_4 gk_4 fl_X4_29 sh_105 rfl ?_
  refine gs_iload_n (pc := 7) C 1 dX4_wakesNow_7 rfl rfl ?_
  refine gs_iconst (w := 0) (pc := 8) C dX4_wakesNow_8 rfl ?_
  obtain ⟨v1, e2, h⟩ := gs_o1 h
  refine gs_callVi (pc := 9) C [.int x1, .int (0 : Int32)] dX4_wakesNow_9 ml_X4_47 wy_X6_of (a_X6_of _ e2) (by decide) sh_9 (by decide) rfl rfl (Nat.le_of_ble_eq_true rfl) rfl ?_
  refine gs_aload_n (pc := 12) C 0 dX4_wakesNow_12 rfl rfl ?_
  refine gs_getq (pc := 13) C dX4_wakesNow_13 gk_4 fl_X4_29 sh_105 rfl ?_
  refine gs_iload_n (pc := 16) C 1 dX4_wakesNow_16 rfl rfl ?_
  refine gs_iconst (w := 1) (pc := 17) C dX4_wakesNow_17 rfl ?_
  obtain ⟨v3, e4, h⟩ := gs_o1 h
  refine gs_callVi (pc := 18) C [.int x1, .int (1 : Int32)] dX4_wakesNow_18 ml_X4_47 wy_X6_of (a_X6_of _ e4) (by decide) sh_9 (by decide) rfl rfl (Nat.le_of_ble_eq_true rfl) rfl ?_
  obtain ⟨v5, M6, e7, h⟩ := gs_o2 h
  refine gs_callVi (pc := 21) C [.int x1, .int x2, .int v1, .int v3] dX4_wakesNow_21 ml_X4_51 wy_X4_wakesIf (a_X4_wakesIf _ e7) (by decide) sh_105 (by decide) rfl rfl (Nat.le_of_ble_eq_true rfl) rfl ?_
  obtain ⟨rfl, rfl⟩ := gs_i2 h
  exact gs_iret (pc := 24) C dX4_wakesNow_24 E
set_option maxRecDepth 100000 in
set_option maxHeartbeats 4000000 in
theorem t_X11_sharePartsOf_2 {X : gs_X} (C : gs_C X RX11 cX11_sharePartsOf 6 none 5) {L : gs_L} {x1 : Int32} {o2 : Int32} {M' : gs_M} (k : gs_AW X 21 [(0, .ref 0), (1, .int x1), (2, .int o2)] [] M' L) : ∀ (f : Nat) (x2 : Int32) (M : gs_M), l_X11_sharePartsOf_2 x1 f x2 M = some (o2, M') → gs_AW X 2 [(0, .ref 0), (1, .int x1), (2, .int x2)] [] M L := by
  intro f
  induction f with
  | zero =>
    intro x2 M h
    cases h
  | succ f ih =>
    intro x2 M h
    rw [l_X11_sharePartsOf_2] at h
    refine gs_iload_n (pc := 2) C 2 dX11_sharePartsOf_2 rfl rfl ?_
    refine gs_bipush (w := 9) (pc := 3) C dX11_sharePartsOf_3 rfl ?_
    refine gs_icmp_gt (pc := 5) C 21 dX11_sharePartsOf_5 rfl (fun c1 => ?_) (fun c1 => ?_)
    · replace h := gs_ift c1 h
      obtain ⟨rfl, rfl⟩ := gs_i2 h
      exact k
    · replace h := gs_iff c1 h
      refine gs_aload_n (pc := 8) C 0 dX11_sharePartsOf_8 rfl rfl ?_
      refine gs_getq (pc := 9) C dX11_sharePartsOf_9 gk_11 fl_X11_102 sh_0 rfl ?_
      refine gs_iload_n (pc := 12) C 2 dX11_sharePartsOf_12 rfl rfl ?_
      refine gs_iconst (w := 0) (pc := 13) C dX11_sharePartsOf_13 rfl ?_
      obtain ⟨M3, e2, h⟩ := gs_o1 h
      refine gs_iast (pc := 14) C dX11_sharePartsOf_14 sh_146 e2 ?_
      refine gs_iinc (v := x2 + (1 : Int32)) (ls' := [(2, .int (x2 + (1 : Int32))), (0, .ref 0), (1, .int x1)]) (pc := 15) C 2 dX11_sharePartsOf_15 rfl rfl (by decide) rfl ?_
      refine gs_goto (pc := 18) C 2 dX11_sharePartsOf_18 rfl ?_
      exact gs_sub [1, 2, 0] rfl (ih _ _ h)
set_option maxRecDepth 100000 in
set_option maxHeartbeats 4000000 in
theorem t_X11_sharePartsOf_56 {X : gs_X} (C : gs_C X RX11 cX11_sharePartsOf 6 none 5) {L : gs_L} {x1 : Int32} {x2 : Int32} {x3 : Int32} {o4 : Int32} {M' : gs_M} (k : gs_AW X 111 [(0, .ref 0), (1, .int x1), (2, .int x2), (3, .int x3), (4, .int o4)] [] M' L) : ∀ (f : Nat) (x4 : Int32) (M : gs_M), l_X11_sharePartsOf_56 x1 x2 x3 f x4 M = some (o4, M') → gs_AW X 56 [(0, .ref 0), (1, .int x1), (2, .int x2), (3, .int x3), (4, .int x4)] [] M L := by
  intro f
  induction f with
  | zero =>
    intro x4 M h
    cases h
  | succ f ih =>
    intro x4 M h
    rw [l_X11_sharePartsOf_56] at h
    refine gs_iload (pc := 56) C 4 dX11_sharePartsOf_56 rfl ?_
    refine gs_if_lt (pc := 58) C 111 dX11_sharePartsOf_58 rfl (fun c1 => ?_) (fun c1 => ?_)
    · replace h := gs_ift c1 h
      obtain ⟨rfl, rfl⟩ := gs_i2 h
      exact k
    · replace h := gs_iff c1 h
      refine gs_aload_n (pc := 61) C 0 dX11_sharePartsOf_61 rfl rfl ?_
      refine gs_getq (pc := 62) C dX11_sharePartsOf_62 gk_11 fl_X11_102 sh_0 rfl ?_
      refine gs_iload (pc := 65) C 4 dX11_sharePartsOf_65 rfl ?_
      obtain ⟨v2, e3, h⟩ := gs_o1 h
      refine gs_iald (pc := 67) C dX11_sharePartsOf_67 sh_146 e3 ?_
      refine gs_i2l (pc := 68) C dX11_sharePartsOf_68 ?_
      refine gs_iload_n (pc := 69) C 3 dX11_sharePartsOf_69 rfl rfl ?_
      refine gs_i2l (pc := 70) C dX11_sharePartsOf_70 ?_
      refine gs_lmul (pc := 71) C dX11_sharePartsOf_71 ?_
      refine gs_ldc2 (pc := 72) C dX11_sharePartsOf_72 wj_X11_308 ?_
      obtain ⟨v4, e5, h⟩ := gs_o1 h
      refine gs_ldiv' (pc := 75) C dX11_sharePartsOf_75 e5 ?_
      refine gs_l2i (pc := 76) C dX11_sharePartsOf_76 ?_
      refine gs_istore (ls' := [(5, .int (Int64.toInt32 v4)), (0, .ref 0), (1, .int x1), (2, .int x2), (3, .int x3), (4, .int x4)]) (pc := 77) C dX11_sharePartsOf_77 (by decide) rfl ?_
      refine gs_aload_n (pc := 79) C 1 dX11_sharePartsOf_79 rfl rfl ?_
      refine gs_getq (pc := 80) C dX11_sharePartsOf_80 gk_11 fl_X11_102 sh_0 rfl ?_
      refine gs_iload (pc := 83) C 5 dX11_sharePartsOf_83 rfl ?_
      refine gs_dup2 (pc := 85) C dX11_sharePartsOf_85 rfl rfl ?_
      obtain ⟨v6, e7, h⟩ := gs_o1 h
      refine gs_iald (pc := 86) C dX11_sharePartsOf_86 sh_146 e7 ?_
      refine gs_iload (pc := 87) C 0 dX11_sharePartsOf_87 rfl ?_
      refine gs_isub (pc := 89) C dX11_sharePartsOf_89 ?_
      obtain ⟨M9, e8, h⟩ := gs_o1 h
      refine gs_iast (pc := 90) C dX11_sharePartsOf_90 sh_146 e8 ?_
      refine gs_aload_n (pc := 91) C 1 dX11_sharePartsOf_91 rfl rfl ?_
      refine gs_getq (pc := 92) C dX11_sharePartsOf_92 gk_11 fl_X11_102 sh_0 rfl ?_
      refine gs_iload (pc := 95) C 5 dX11_sharePartsOf_95 rfl ?_
      refine gs_iconst (w := 1) (pc := 97) C dX11_sharePartsOf_97 rfl ?_
      refine gs_iadd (pc := 98) C dX11_sharePartsOf_98 ?_
      refine gs_dup2 (pc := 99) C dX11_sharePartsOf_99 rfl rfl ?_
      obtain ⟨v10, e11, h⟩ := gs_o1 h
      refine gs_iald (pc := 100) C dX11_sharePartsOf_100 sh_146 e11 ?_
      refine gs_iload (pc := 101) C 0 dX11_sharePartsOf_101 rfl ?_
      refine gs_iadd (pc := 103) C dX11_sharePartsOf_103 ?_
      obtain ⟨M13, e12, h⟩ := gs_o1 h
      refine gs_iast (pc := 104) C dX11_sharePartsOf_104 sh_146 e12 ?_
      refine gs_iinc (v := x4 + (-1 : Int32)) (ls' := [(4, .int (x4 + (-1 : Int32))), (5, .int (Int64.toInt32 v4)), (0, .ref 0), (1, .int x1), (2, .int x2), (3, .int x3)]) (pc := 105) C 5 dX11_sharePartsOf_105 rfl rfl (by decide) rfl ?_
      refine gs_goto (pc := 108) C 56 dX11_sharePartsOf_108 rfl ?_
      exact gs_sub [2, 3, 4, 5, 0] rfl (ih _ _ h)
set_option maxRecDepth 100000 in
set_option maxHeartbeats 4000000 in
theorem t_X11_sharePartsOf_32 {X : gs_X} (C : gs_C X RX11 cX11_sharePartsOf 6 none 5) {L : gs_L} {x1 : Int32} {o2 : Int32} {M' : gs_M} (k : gs_AW X 117 [(0, .ref 0), (1, .int x1), (2, .int o2)] [] M' L) : ∀ (f : Nat) (x2 : Int32) (M : gs_M), l_X11_sharePartsOf_32 x1 f x2 M = some (o2, M') → gs_AW X 32 [(0, .ref 0), (1, .int x1), (2, .int x2)] [] M L := by
  intro f
  induction f with
  | zero =>
    intro x2 M h
    cases h
  | succ f ih =>
    intro x2 M h
    rw [l_X11_sharePartsOf_32] at h
    refine gs_iload_n (pc := 32) C 2 dX11_sharePartsOf_32 rfl rfl ?_
    refine gs_aload_n (pc := 33) C 0 dX11_sharePartsOf_33 rfl rfl ?_
    refine gs_getq (pc := 34) C dX11_sharePartsOf_34 gk_11 fl_X11_19 sh_0 rfl ?_
    obtain ⟨v1, e2, h⟩ := gs_o1 h
    refine gs_callVi (pc := 37) C [] dX11_sharePartsOf_37 ml_X11_305 wy_X9_hours (a_X9_hours _ e2) (by decide) sh_3 (by decide) rfl rfl (Nat.le_of_ble_eq_true rfl) rfl ?_
    refine gs_icmp_ge (pc := 40) C 117 dX11_sharePartsOf_40 rfl (fun c3 => ?_) (fun c3 => ?_)
    · replace h := gs_ift c3 h
      obtain ⟨rfl, rfl⟩ := gs_i2 h
      exact k
    · replace h := gs_iff c3 h
      refine gs_aload_n (pc := 43) C 0 dX11_sharePartsOf_43 rfl rfl ?_
      refine gs_getq (pc := 44) C dX11_sharePartsOf_44 gk_11 fl_X11_71 sh_0 rfl ?_
      refine gs_iload_n (pc := 47) C 1 dX11_sharePartsOf_47 rfl rfl ?_
      refine gs_iload_n (pc := 48) C 2 dX11_sharePartsOf_48 rfl rfl ?_
      obtain ⟨v4, M5, e6, h⟩ := gs_o2 h
      refine gs_callVi (pc := 49) C [.int x1, .int x2] dX11_sharePartsOf_49 ml_X11_213 wy_X4_wakesNow (a_X4_wakesNow _ e6) (by decide) sh_105 (by decide) rfl rfl (Nat.le_of_ble_eq_true rfl) rfl ?_
      refine gs_istore_n (ls' := [(3, .int v4), (0, .ref 0), (1, .int x1), (2, .int x2)]) (pc := 52) C dX11_sharePartsOf_52 rfl (by decide) rfl ?_
      refine gs_iload_n (pc := 53) C 3 dX11_sharePartsOf_53 rfl rfl ?_
      refine gs_istore (ls' := [(4, .int x2), (3, .int v4), (0, .ref 0), (1, .int x1), (2, .int x2)]) (pc := 54) C dX11_sharePartsOf_54 (by decide) rfl ?_
      obtain ⟨y7, M8, e9, h⟩ := gs_o2 h
      refine gs_sub [2, 3, 4, 1, 0] rfl (t_X11_sharePartsOf_56 C ?_ gs_FU _ _ e9)
      refine gs_iinc (v := x2 + (1 : Int32)) (ls' := [(2, .int (x2 + (1 : Int32))), (0, .ref 0), (1, .int x1), (3, .int v4), (4, .int y7)]) (pc := 111) C 2 dX11_sharePartsOf_111 rfl rfl (by decide) rfl ?_
      refine gs_goto (pc := 114) C 32 dX11_sharePartsOf_114 rfl ?_
      exact gs_sub [1, 2, 0] rfl (ih _ _ h)
set_option maxRecDepth 100000 in
set_option maxHeartbeats 4000000 in
theorem a_X11_sharePartsOf (l : Launch) {M : gs_M} {L : gs_L} {x1 : Int32} {Mz : gs_M} (h : f_X11_sharePartsOf M x1 = some (Mz)) : gs_Met l 5 yX11_sharePartsOf cX11_sharePartsOf 6 none [.ref 0, .int x1] M L none Mz L := by
  unfold f_X11_sharePartsOf at h
  refine gs_of RX11 (by decide) rfl (Nat.le_of_ble_eq_true rfl) (fun X C E => ?_)
  show gs_AW X 0 [(0, .ref 0), (1, .int x1)] [] M L
  refine gs_iconst (w := 0) (pc := 0) C dX11_sharePartsOf_0 rfl ?_
  refine gs_istore_n (ls' := [(2, .int (0 : Int32)), (0, .ref 0), (1, .int x1)]) (pc := 1) C dX11_sharePartsOf_1 rfl (by decide) rfl ?_
  obtain ⟨y1, M2, e3, h⟩ := gs_o2 h
  refine gs_sub [1, 2, 0] rfl (t_X11_sharePartsOf_2 C ?_ gs_FU _ _ e3)
  refine gs_aload_n (pc := 21) C 0 dX11_sharePartsOf_21 rfl rfl ?_
  refine gs_getq (pc := 22) C dX11_sharePartsOf_22 gk_11 fl_X11_102 sh_0 rfl ?_
  refine gs_iconst (w := 0) (pc := 25) C dX11_sharePartsOf_25 rfl ?_
  refine gs_ldcw (pc := 26) C dX11_sharePartsOf_26 wk_X11_313 ?_
  obtain ⟨M5, e4, h⟩ := gs_o1 h
  refine gs_iast (pc := 29) C dX11_sharePartsOf_29 sh_146 e4 ?_
  refine gs_iconst (w := 0) (pc := 30) C dX11_sharePartsOf_30 rfl ?_
  refine gs_istore_n (ls' := [(2, .int (0 : Int32)), (0, .ref 0), (1, .int x1)]) (pc := 31) C dX11_sharePartsOf_31 rfl (by decide) rfl ?_
  obtain ⟨y6, M7, e8, h⟩ := gs_o2 h
  refine gs_sub [1, 2, 0] rfl (t_X11_sharePartsOf_32 C ?_ gs_FU _ _ e8)
  obtain rfl := gs_i1 h
  exact gs_vret (pc := 117) C dX11_sharePartsOf_117 E
set_option maxRecDepth 100000 in
set_option maxHeartbeats 4000000 in
theorem t_X11_awake_30 {X : gs_X} (C : gs_C X RX11 cX11_awake 5 (some .int) 6) {M : gs_M} {L : gs_L} {x1 : Int32} {x2 : Int32} {o3 : Int32} {o4 : Int32} (k : gs_AW X 53 [(0, .ref 0), (1, .int x1), (2, .int x2), (3, .int o3), (4, .int o4)] [] M L) : ∀ (f : Nat) (x3 : Int32) (x4 : Int32), l_X11_awake_30 M x1 x2 f x3 x4 = some (o3, o4) → gs_AW X 30 [(0, .ref 0), (1, .int x1), (2, .int x2), (3, .int x3), (4, .int x4)] [] M L := by
  intro f
  induction f with
  | zero =>
    intro x3 x4 h
    cases h
  | succ f ih =>
    intro x3 x4 h
    rw [l_X11_awake_30] at h
    refine gs_iload (pc := 30) C 4 dX11_awake_30 rfl ?_
    refine gs_bipush (w := 9) (pc := 32) C dX11_awake_32 rfl ?_
    refine gs_icmp_gt (pc := 34) C 53 dX11_awake_34 rfl (fun c1 => ?_) (fun c1 => ?_)
    · replace h := gs_ift c1 h
      obtain ⟨rfl, rfl⟩ := gs_i2 h
      exact k
    · replace h := gs_iff c1 h
      refine gs_iload_n (pc := 37) C 3 dX11_awake_37 rfl rfl ?_
      refine gs_aload_n (pc := 38) C 0 dX11_awake_38 rfl rfl ?_
      refine gs_getq (pc := 39) C dX11_awake_39 gk_11 fl_X11_102 sh_0 rfl ?_
      refine gs_iload (pc := 42) C 4 dX11_awake_42 rfl ?_
      obtain ⟨v2, e3, h⟩ := gs_o1 h
      refine gs_iald (pc := 44) C dX11_awake_44 sh_146 e3 ?_
      refine gs_iadd (pc := 45) C dX11_awake_45 ?_
      refine gs_istore_n (ls' := [(3, .int (x3 + v2)), (0, .ref 0), (1, .int x1), (2, .int x2), (4, .int x4)]) (pc := 46) C dX11_awake_46 rfl (by decide) rfl ?_
      refine gs_iinc (v := x4 + (1 : Int32)) (ls' := [(4, .int (x4 + (1 : Int32))), (3, .int (x3 + v2)), (0, .ref 0), (1, .int x1), (2, .int x2)]) (pc := 47) C 4 dX11_awake_47 rfl rfl (by decide) rfl ?_
      refine gs_goto (pc := 50) C 30 dX11_awake_50 rfl ?_
      exact gs_sub [2, 3, 4, 1, 0] rfl (ih _ _ h)
set_option maxRecDepth 100000 in
set_option maxHeartbeats 4000000 in
theorem a_X11_awake (l : Launch) {M : gs_M} {L : gs_L} {x1 : Int32} {x2 : Int32} {rv : Int32} {Mz : gs_M} (h : f_X11_awake M x1 x2 = some (rv, Mz)) : gs_Met l 6 yX11_awake cX11_awake 5 (some .int) [.ref 0, .int x1, .int x2] M L (some (.int rv)) Mz L := by
  unfold f_X11_awake at h
  refine gs_of RX11 (by decide) rfl (Nat.le_of_ble_eq_true rfl) (fun X C E => ?_)
  show gs_AW X 0 [(0, .ref 0), (1, .int x1), (2, .int x2)] [] M L
  refine gs_aload_n (pc := 0) C 0 dX11_awake_0 rfl rfl ?_
  refine gs_iload_n (pc := 1) C 1 dX11_awake_1 rfl rfl ?_
  obtain ⟨v1, e2, h⟩ := gs_o1 h
  refine gs_callVi (pc := 2) C [.int x1] dX11_awake_2 ml_X11_178 wy_X11_isPerson (a_X11_isPerson _ e2) (by decide) sh_0 (by decide) rfl rfl (Nat.le_of_ble_eq_true rfl) rfl ?_
  refine gs_if_eq (pc := 5) C 18 dX11_awake_5 rfl (fun c3 => ?_) (fun c3 => ?_)
  · replace h := gs_ift c3 h
    refine gs_iconst (w := (-1)) (pc := 18) C dX11_awake_18 rfl ?_
    obtain ⟨rfl, rfl⟩ := gs_i2 h
    exact gs_iret (pc := 19) C dX11_awake_19 E
  · replace h := gs_iff c3 h
    refine gs_iload_n (pc := 8) C 2 dX11_awake_8 rfl rfl ?_
    refine gs_if_lt (pc := 9) C 18 dX11_awake_9 rfl (fun c4 => ?_) (fun c4 => ?_)
    · replace h := gs_ift c4 h
      refine gs_iconst (w := (-1)) (pc := 18) C dX11_awake_18 rfl ?_
      obtain ⟨rfl, rfl⟩ := gs_i2 h
      exact gs_iret (pc := 19) C dX11_awake_19 E
    · replace h := gs_iff c4 h
      refine gs_iload_n (pc := 12) C 2 dX11_awake_12 rfl rfl ?_
      refine gs_bipush (w := 9) (pc := 13) C dX11_awake_13 rfl ?_
      refine gs_icmp_le (pc := 15) C 20 dX11_awake_15 rfl (fun c5 => ?_) (fun c5 => ?_)
      · replace h := gs_ift c5 h
        refine gs_aload_n (pc := 20) C 0 dX11_awake_20 rfl rfl ?_
        refine gs_iload_n (pc := 21) C 1 dX11_awake_21 rfl rfl ?_
        obtain ⟨M6, e7, h⟩ := gs_o1 h
        refine gs_callVv (pc := 22) C [.int x1] dX11_awake_22 ml_X11_310 wy_X11_sharePartsOf (a_X11_sharePartsOf _ e7) (by decide) sh_0 (by decide) rfl rfl (Nat.le_of_ble_eq_true rfl) rfl ?_
        refine gs_iconst (w := 0) (pc := 25) C dX11_awake_25 rfl ?_
        refine gs_istore_n (ls' := [(3, .int (0 : Int32)), (0, .ref 0), (1, .int x1), (2, .int x2)]) (pc := 26) C dX11_awake_26 rfl (by decide) rfl ?_
        refine gs_iload_n (pc := 27) C 3 dX11_awake_27 rfl rfl ?_
        refine gs_istore (ls' := [(4, .int x2), (3, .int (0 : Int32)), (0, .ref 0), (1, .int x1), (2, .int x2)]) (pc := 28) C dX11_awake_28 (by decide) rfl ?_
        obtain ⟨y8, y9, e10, h⟩ := gs_o2 h
        refine gs_sub [2, 3, 4, 1, 0] rfl (t_X11_awake_30 C ?_ gs_FU _ _ e10)
        refine gs_iload_n (pc := 53) C 3 dX11_awake_53 rfl rfl ?_
        obtain ⟨rfl, rfl⟩ := gs_i2 h
        exact gs_iret (pc := 54) C dX11_awake_54 E
      · replace h := gs_iff c5 h
        refine gs_iconst (w := (-1)) (pc := 18) C dX11_awake_18 rfl ?_
        obtain ⟨rfl, rfl⟩ := gs_i2 h
        exact gs_iret (pc := 19) C dX11_awake_19 E
set_option maxRecDepth 100000 in
set_option maxHeartbeats 4000000 in
theorem a_X6_copyFrom (l : Launch) {M : gs_M} {L : gs_L} {r0 : Nat} {r1 : Nat} {Mz : gs_M} (h_r0 : gs_st r0) (h_r1 : gs_st r1) (h : f_X6_copyFrom M r0 r1 = some (Mz)) : gs_Met l 0 yX6_copyFrom cX6_copyFrom 2 none [.ref r0, .ref r1] M L none Mz L := by
  unfold f_X6_copyFrom at h
  refine gs_of RX6 (by decide) rfl (Nat.le_of_ble_eq_true rfl) (fun X C E => ?_)
  show gs_AW X 0 [(0, .ref r0), (1, .ref r1)] [] M L
  refine gs_aload_n (pc := 0) C 1 dX6_copyFrom_0 rfl rfl ?_
  refine gs_getq (pc := 1) C dX6_copyFrom_1 gk_6 fl_X6_11 (gs_st_sh h_r1).1 rfl ?_
  refine gs_iconst (w := 0) (pc := 4) C dX6_copyFrom_4 rfl ?_
  refine gs_aload_n (pc := 5) C 0 dX6_copyFrom_5 rfl rfl ?_
  refine gs_getq (pc := 6) C dX6_copyFrom_6 gk_6 fl_X6_11 (gs_st_sh h_r0).1 rfl ?_
  refine gs_iconst (w := 0) (pc := 9) C dX6_copyFrom_9 rfl ?_
  refine gs_sipush (w := 173) (pc := 10) C dX6_copyFrom_10 rfl ?_
  obtain ⟨M2, e1, h⟩ := gs_o1 h
  refine gs_acpy (pc := 13) C dX6_copyFrom_13 ml_X6_15 (gs_st_sh h_r1).2 (gs_st_sh h_r0).2 (Nat.le_of_ble_eq_true rfl) e1 ?_
  obtain rfl := gs_i1 h
  exact gs_vret (pc := 16) C dX6_copyFrom_16 E
set_option maxRecDepth 100000 in
set_option maxHeartbeats 4000000 in
theorem a_X0_forget (l : Launch) {M : gs_M} {L : gs_L} {Mz : gs_M} (h : f_X0_forget M = some (Mz)) : gs_Met l 0 yX0_forget cX0_forget 1 none [.ref 13] M L none Mz L := by
  unfold f_X0_forget at h
  refine gs_of RX0 (by decide) rfl (Nat.le_of_ble_eq_true rfl) (fun X C E => ?_)
  show gs_AW X 0 [(0, .ref 13)] [] M L
  refine gs_aload_n (pc := 0) C 0 dX0_forget_0 rfl rfl ?_
  refine gs_iconst (w := 0) (pc := 1) C dX0_forget_1 rfl ?_
  obtain ⟨M2, e1, h⟩ := gs_o1 h
  refine gs_puti' (pc := 2) C dX0_forget_2 gk_0 fp_X0_18 sh_13 rfl e1 ?_
  obtain rfl := gs_i1 h
  exact gs_vret (pc := 5) C dX0_forget_5 E
set_option maxRecDepth 100000 in
set_option maxHeartbeats 4000000 in
theorem a_X6_now (l : Launch) {M : gs_M} {L : gs_L} {rv : Int32} (h : f_X6_now M = some (rv)) : gs_Met l 0 yX6_now cX6_now 1 (some .int) [.ref 9] M L (some (.int rv)) M L := by
  unfold f_X6_now at h
  refine gs_of RX6 (by decide) rfl (Nat.le_of_ble_eq_true rfl) (fun X C E => ?_)
  show gs_AW X 0 [(0, .ref 9)] [] M L
  refine gs_aload_n (pc := 0) C 0 dX6_now_0 rfl rfl ?_
  refine gs_getq (pc := 1) C dX6_now_1 gk_6 fl_X6_11 sh_9 rfl ?_
  refine gs_bipush (w := 48) (pc := 4) C dX6_now_4 rfl ?_
  obtain ⟨v1, e2, h⟩ := gs_o1 h
  refine gs_iald (pc := 6) C dX6_now_6 sh_10 e2 ?_
  obtain rfl := gs_i1 h
  exact gs_iret (pc := 7) C dX6_now_7 E
set_option maxRecDepth 100000 in
set_option maxHeartbeats 4000000 in
theorem a_X11_back (l : Launch) {M : gs_M} {L : gs_L} {rv : Int32} {Mz : gs_M} (h : f_X11_back M = some (rv, Mz)) : gs_Met l 1 yX11_back cX11_back 1 (some .int) [.ref 0] M L (some (.int rv)) Mz L := by
  unfold f_X11_back at h
  refine gs_of RX11 (by decide) rfl (Nat.le_of_ble_eq_true rfl) (fun X C E => ?_)
  show gs_AW X 0 [(0, .ref 0)] [] M L
  refine gs_aload_n (pc := 0) C 0 dX11_back_0 rfl rfl ?_
  refine gs_geti (pc := 1) C dX11_back_1 gk_11 fl_X11_106 sh_0 rfl ?_
  refine gs_if_ne (pc := 4) C 9 dX11_back_4 rfl (fun c1 => ?_) (fun c1 => ?_)
  · replace h := gs_iff c1 h
    refine gs_aload_n (pc := 9) C 0 dX11_back_9 rfl rfl ?_
    refine gs_getq (pc := 10) C dX11_back_10 gk_11 fl_X11_29 sh_0 rfl ?_
    refine gs_aload_n (pc := 13) C 0 dX11_back_13 rfl rfl ?_
    refine gs_getq (pc := 14) C dX11_back_14 gk_11 fl_X11_33 sh_0 rfl ?_
    obtain ⟨M2, e3, h⟩ := gs_o1 h
    refine gs_callVv (pc := 17) C [.ref 11] dX11_back_17 ml_X11_399 wy_X6_copyFrom (a_X6_copyFrom _ (Or.inl rfl) (Or.inr (Or.inl rfl)) e3) (by decide) sh_9 (by decide) rfl rfl (Nat.le_of_ble_eq_true rfl) rfl ?_
    refine gs_aload_n (pc := 20) C 0 dX11_back_20 rfl rfl ?_
    refine gs_getq (pc := 21) C dX11_back_21 gk_11 fl_X11_39 sh_0 rfl ?_
    obtain ⟨M4, e5, h⟩ := gs_o1 h
    refine gs_callVv (pc := 24) C [] dX11_back_24 ml_X11_154 wy_X0_forget (a_X0_forget _ e5) (by decide) sh_13 (by decide) rfl rfl (Nat.le_of_ble_eq_true rfl) rfl ?_
    refine gs_aload_n (pc := 27) C 0 dX11_back_27 rfl rfl ?_
    refine gs_getq (pc := 28) C dX11_back_28 gk_11 fl_X11_29 sh_0 rfl ?_
    obtain ⟨v6, e7, h⟩ := gs_o1 h
    refine gs_callVi (pc := 31) C [] dX11_back_31 ml_X11_227 wy_X6_now (a_X6_now _ e7) (by decide) sh_9 (by decide) rfl rfl (Nat.le_of_ble_eq_true rfl) rfl ?_
    obtain ⟨rfl, rfl⟩ := gs_i2 h
    exact gs_iret (pc := 34) C dX11_back_34 E
  · replace h := gs_ift c1 h
    refine gs_iconst (w := (-1)) (pc := 7) C dX11_back_7 rfl ?_
    obtain ⟨rfl, rfl⟩ := gs_i2 h
    exact gs_iret (pc := 8) C dX11_back_8 E
set_option maxRecDepth 100000 in
set_option maxHeartbeats 4000000 in
theorem a_X11_hasTown (l : Launch) {M : gs_M} {L : gs_L} {rv : Int32} (h : f_X11_hasTown M = some (rv)) : gs_Met l 1 yX11_hasTown cX11_hasTown 1 (some .boolean) [.ref 0] M L (some (.int rv)) M L := by
  unfold f_X11_hasTown at h
  refine gs_of RX11 (by decide) rfl (Nat.le_of_ble_eq_true rfl) (fun X C E => ?_)
  show gs_AW X 0 [(0, .ref 0)] [] M L
  refine gs_aload_n (pc := 0) C 0 dX11_hasTown_0 rfl rfl ?_
  refine gs_getq (pc := 1) C dX11_hasTown_1 gk_11 fl_X11_19 sh_0 rfl ?_
  obtain ⟨v1, e2, h⟩ := gs_o1 h
  refine gs_callVi (pc := 4) C [] dX11_hasTown_4 ml_X11_158 wy_X9_crowd (a_X9_crowd _ e2) (by decide) sh_3 (by decide) rfl rfl (Nat.le_of_ble_eq_true rfl) rfl ?_
  have j5 : gs_AW X 15 [(0, .ref 0)] [.int (if v1 ≤ (0 : Int32) then (0 : Int32) else (1 : Int32) : Int32)] M L := by
    obtain ⟨z3, e4, h⟩ := gs_o1 h
    obtain rfl := gs_i1 h
    exact gs_zret' (pc := 15) C dX11_hasTown_15 e4 E
  refine gs_if_le (pc := 7) C 14 dX11_hasTown_7 rfl (fun c6 => ?_) (fun c6 => ?_)
  · refine gs_iconst (w := 0) (pc := 14) C dX11_hasTown_14 rfl ?_
    simp only [if_pos c6] at j5
    exact j5
  · refine gs_iconst (w := 1) (pc := 10) C dX11_hasTown_10 rfl ?_
    refine gs_goto (pc := 11) C 15 dX11_hasTown_11 rfl ?_
    simp only [if_neg c6] at j5
    exact j5
set_option maxRecDepth 100000 in
set_option maxHeartbeats 4000000 in
theorem a_X4_laws (l : Launch) {M : gs_M} {L : gs_L} {rv : Int32} (h : f_X4_laws M = some (rv)) : gs_Met l 0 yX4_laws cX4_laws 1 (some .int) [.ref 105] M L (some (.int rv)) M L := by
  unfold f_X4_laws at h
  refine gs_of RX4 (by decide) rfl (Nat.le_of_ble_eq_true rfl) (fun X C E => ?_)
  show gs_AW X 0 [(0, .ref 105)] [] M L
  refine gs_aload_n (pc := 0) C 0 dX4_laws_0 rfl rfl ?_
  refine gs_geti (pc := 1) C dX4_laws_1 gk_4 fl_X4_34 sh_105 rfl ?_
  obtain rfl := gs_i1 h
  exact gs_iret (pc := 4) C dX4_laws_4 E
set_option maxRecDepth 100000 in
set_option maxHeartbeats 4000000 in
theorem a_X6_books (l : Launch) {M : gs_M} {L : gs_L} {rv : Int32} (h : f_X6_books M = some (rv)) : gs_Met l 0 yX6_books cX6_books 1 (some .int) [.ref 9] M L (some (.int rv)) M L := by
  unfold f_X6_books at h
  refine gs_of RX6 (by decide) rfl (Nat.le_of_ble_eq_true rfl) (fun X C E => ?_)
  show gs_AW X 0 [(0, .ref 9)] [] M L
  refine gs_aload_n (pc := 0) C 0 dX6_books_0 rfl rfl ?_
  refine gs_getq (pc := 1) C dX6_books_1 gk_6 fl_X6_11 sh_9 rfl ?_
  refine gs_bipush (w := 51) (pc := 4) C dX6_books_4 rfl ?_
  obtain ⟨v1, e2, h⟩ := gs_o1 h
  refine gs_iald (pc := 6) C dX6_books_6 sh_10 e2 ?_
  obtain rfl := gs_i1 h
  exact gs_iret (pc := 7) C dX6_books_7 E
set_option maxRecDepth 100000 in
set_option maxHeartbeats 4000000 in
theorem a_X6_bookAt (l : Launch) {M : gs_M} {L : gs_L} {x1 : Int32} {rv : Int32} (h : f_X6_bookAt M x1 = some (rv)) : gs_Met l 0 yX6_bookAt cX6_bookAt 2 (some .int) [.ref 9, .int x1] M L (some (.int rv)) M L := by
  unfold f_X6_bookAt at h
  refine gs_of RX6 (by decide) rfl (Nat.le_of_ble_eq_true rfl) (fun X C E => ?_)
  show gs_AW X 0 [(0, .ref 9), (1, .int x1)] [] M L
  refine gs_aload_n (pc := 0) C 0 dX6_bookAt_0 rfl rfl ?_
  refine gs_getq (pc := 1) C dX6_bookAt_1 gk_6 fl_X6_11 sh_9 rfl ?_
  refine gs_bipush (w := 53) (pc := 4) C dX6_bookAt_4 rfl ?_
  refine gs_iload_n (pc := 6) C 1 dX6_bookAt_6 rfl rfl ?_
  refine gs_iadd (pc := 7) C dX6_bookAt_7 ?_
  obtain ⟨v1, e2, h⟩ := gs_o1 h
  refine gs_iald (pc := 8) C dX6_bookAt_8 sh_10 e2 ?_
  obtain rfl := gs_i1 h
  exact gs_iret (pc := 9) C dX6_bookAt_9 E
set_option maxRecDepth 100000 in
set_option maxHeartbeats 4000000 in
theorem a_X6_personOf (l : Launch) {M : gs_M} {L : gs_L} {x0 : Int32} {rv : Int32} (h : f_X6_personOf x0 = some (rv)) : gs_Met l 0 yX6_personOf cX6_personOf 1 (some .int) [.int x0] M L (some (.int rv)) M L := by
  unfold f_X6_personOf at h
  refine gs_of RX6 (by decide) rfl (Nat.le_of_ble_eq_true rfl) (fun X C E => ?_)
  show gs_AW X 0 [(0, .int x0)] [] M L
  refine gs_iload_n (pc := 0) C 0 dX6_personOf_0 rfl rfl ?_
  refine gs_bipush (w := 14) (pc := 1) C dX6_personOf_1 rfl ?_
  refine gs_ishr (pc := 3) C dX6_personOf_3 ?_
  refine gs_bipush (w := 7) (pc := 4) C dX6_personOf_4 rfl ?_
  refine gs_iand (pc := 6) C dX6_personOf_6 ?_
  obtain rfl := gs_i1 h
  exact gs_iret (pc := 7) C dX6_personOf_7 E
set_option maxRecDepth 100000 in
set_option maxHeartbeats 4000000 in
theorem t_X6_booksOf_4 {X : gs_X} (C : gs_C X RX6 cX6_booksOf 4 (some .int) 1) {M : gs_M} {L : gs_L} {x1 : Int32} {o2 : Int32} {o3 : Int32} (k : gs_AW X 38 [(0, .ref 9), (1, .int x1), (2, .int o2), (3, .int o3)] [] M L) : ∀ (f : Nat) (x2 : Int32) (x3 : Int32), l_X6_booksOf_4 M x1 f x2 x3 = some (o2, o3) → gs_AW X 4 [(0, .ref 9), (1, .int x1), (2, .int x2), (3, .int x3)] [] M L := by
  intro f
  induction f with
  | zero =>
    intro x2 x3 h
    cases h
  | succ f ih =>
    intro x2 x3 h
    rw [l_X6_booksOf_4] at h
    refine gs_iload_n (pc := 4) C 3 dX6_booksOf_4 rfl rfl ?_
    refine gs_aload_n (pc := 5) C 0 dX6_booksOf_5 rfl rfl ?_
    obtain ⟨v1, e2, h⟩ := gs_o1 h
    refine gs_callVi (pc := 6) C [] dX6_booksOf_6 ml_X6_47 wy_X6_books (a_X6_books _ e2) (by decide) sh_9 (by decide) rfl rfl (Nat.le_of_ble_eq_true rfl) rfl ?_
    refine gs_icmp_ge (pc := 9) C 38 dX6_booksOf_9 rfl (fun c3 => ?_) (fun c3 => ?_)
    · replace h := gs_ift c3 h
      obtain ⟨rfl, rfl⟩ := gs_i2 h
      exact k
    · replace h := gs_iff c3 h
      refine gs_iload_n (pc := 12) C 2 dX6_booksOf_12 rfl rfl ?_
      refine gs_aload_n (pc := 13) C 0 dX6_booksOf_13 rfl rfl ?_
      refine gs_iload_n (pc := 14) C 3 dX6_booksOf_14 rfl rfl ?_
      obtain ⟨v4, e5, h⟩ := gs_o1 h
      refine gs_callVi (pc := 15) C [.int x3] dX6_booksOf_15 ml_X6_50 wy_X6_bookAt (a_X6_bookAt _ e5) (by decide) sh_9 (by decide) rfl rfl (Nat.le_of_ble_eq_true rfl) rfl ?_
      obtain ⟨v6, e7, h⟩ := gs_o1 h
      refine gs_callSi (pc := 18) C [.int v4] dX6_booksOf_18 ml_X6_54 wy_X6_personOf (a_X6_personOf _ e7) (by decide) rfl (Nat.le_of_ble_eq_true rfl) rfl ?_
      refine gs_iload_n (pc := 21) C 1 dX6_booksOf_21 rfl rfl ?_
      have j8 : gs_AW X 30 [(0, .ref 9), (1, .int x1), (2, .int x2), (3, .int x3)] [.int (if v6 = x1 then (1 : Int32) else (0 : Int32) : Int32), .int x2] M L := by
        refine gs_iadd (pc := 30) C dX6_booksOf_30 ?_
        refine gs_istore_n (ls' := [(2, .int (x2 + (if v6 = x1 then (1 : Int32) else (0 : Int32) : Int32))), (0, .ref 9), (1, .int x1), (3, .int x3)]) (pc := 31) C dX6_booksOf_31 rfl (by decide) rfl ?_
        refine gs_iinc (v := x3 + (1 : Int32)) (ls' := [(3, .int (x3 + (1 : Int32))), (2, .int (x2 + (if v6 = x1 then (1 : Int32) else (0 : Int32) : Int32))), (0, .ref 9), (1, .int x1)]) (pc := 32) C 3 dX6_booksOf_32 rfl rfl (by decide) rfl ?_
        refine gs_goto (pc := 35) C 4 dX6_booksOf_35 rfl ?_
        exact gs_sub [2, 3, 1, 0] rfl (ih _ _ h)
      refine gs_icmp_ne (pc := 22) C 29 dX6_booksOf_22 rfl (fun c9 => ?_) (fun c9 => ?_)
      · refine gs_iconst (w := 0) (pc := 29) C dX6_booksOf_29 rfl ?_
        simp only [if_neg c9] at j8
        exact j8
      · refine gs_iconst (w := 1) (pc := 25) C dX6_booksOf_25 rfl ?_
        refine gs_goto (pc := 26) C 30 dX6_booksOf_26 rfl ?_
        simp only [if_pos c9] at j8
        exact j8
set_option maxRecDepth 100000 in
set_option maxHeartbeats 4000000 in
theorem a_X6_booksOf (l : Launch) {M : gs_M} {L : gs_L} {x1 : Int32} {rv : Int32} (h : f_X6_booksOf M x1 = some (rv)) : gs_Met l 1 yX6_booksOf cX6_booksOf 4 (some .int) [.ref 9, .int x1] M L (some (.int rv)) M L := by
  unfold f_X6_booksOf at h
  refine gs_of RX6 (by decide) rfl (Nat.le_of_ble_eq_true rfl) (fun X C E => ?_)
  show gs_AW X 0 [(0, .ref 9), (1, .int x1)] [] M L
  refine gs_iconst (w := 0) (pc := 0) C dX6_booksOf_0 rfl ?_
  refine gs_istore_n (ls' := [(2, .int (0 : Int32)), (0, .ref 9), (1, .int x1)]) (pc := 1) C dX6_booksOf_1 rfl (by decide) rfl ?_
  refine gs_iconst (w := 0) (pc := 2) C dX6_booksOf_2 rfl ?_
  refine gs_istore_n (ls' := [(3, .int (0 : Int32)), (2, .int (0 : Int32)), (0, .ref 9), (1, .int x1)]) (pc := 3) C dX6_booksOf_3 rfl (by decide) rfl ?_
  obtain ⟨y1, y2, e3, h⟩ := gs_o2 h
  refine gs_sub [2, 3, 1, 0] rfl (t_X6_booksOf_4 C ?_ gs_FU _ _ e3)
  refine gs_iload_n (pc := 38) C 2 dX6_booksOf_38 rfl rfl ?_
  obtain rfl := gs_i1 h
  exact gs_iret (pc := 39) C dX6_booksOf_39 E
set_option maxRecDepth 100000 in
set_option maxHeartbeats 4000000 in
theorem a_X6_hourOf (l : Launch) {M : gs_M} {L : gs_L} {x0 : Int32} {rv : Int32} (h : f_X6_hourOf x0 = some (rv)) : gs_Met l 0 yX6_hourOf cX6_hourOf 1 (some .int) [.int x0] M L (some (.int rv)) M L := by
  unfold f_X6_hourOf at h
  refine gs_of RX6 (by decide) rfl (Nat.le_of_ble_eq_true rfl) (fun X C E => ?_)
  show gs_AW X 0 [(0, .int x0)] [] M L
  refine gs_iload_n (pc := 0) C 0 dX6_hourOf_0 rfl rfl ?_
  refine gs_bipush (w := 10) (pc := 1) C dX6_hourOf_1 rfl ?_
  refine gs_ishr (pc := 3) C dX6_hourOf_3 ?_
  refine gs_bipush (w := 15) (pc := 4) C dX6_hourOf_4 rfl ?_
  refine gs_iand (pc := 6) C dX6_hourOf_6 ?_
  obtain rfl := gs_i1 h
  exact gs_iret (pc := 7) C dX6_hourOf_7 E
set_option maxRecDepth 100000 in
set_option maxHeartbeats 4000000 in
theorem a_X6_lampOf (l : Launch) {M : gs_M} {L : gs_L} {x0 : Int32} {rv : Int32} (h : f_X6_lampOf x0 = some (rv)) : gs_Met l 0 yX6_lampOf cX6_lampOf 1 (some .int) [.int x0] M L (some (.int rv)) M L := by
  unfold f_X6_lampOf at h
  refine gs_of RX6 (by decide) rfl (Nat.le_of_ble_eq_true rfl) (fun X C E => ?_)
  show gs_AW X 0 [(0, .int x0)] [] M L
  refine gs_iload_n (pc := 0) C 0 dX6_lampOf_0 rfl rfl ?_
  refine gs_bipush (w := 17) (pc := 1) C dX6_lampOf_1 rfl ?_
  refine gs_ishr (pc := 3) C dX6_lampOf_3 ?_
  refine gs_iconst (w := 1) (pc := 4) C dX6_lampOf_4 rfl ?_
  refine gs_iand (pc := 5) C dX6_lampOf_5 ?_
  obtain rfl := gs_i1 h
  exact gs_iret (pc := 6) C dX6_lampOf_6 E
set_option maxRecDepth 100000 in
set_option maxHeartbeats 4000000 in
theorem a_X6_tiredOf (l : Launch) {M : gs_M} {L : gs_L} {x0 : Int32} {rv : Int32} (h : f_X6_tiredOf x0 = some (rv)) : gs_Met l 0 yX6_tiredOf cX6_tiredOf 1 (some .int) [.int x0] M L (some (.int rv)) M L := by
  unfold f_X6_tiredOf at h
  refine gs_of RX6 (by decide) rfl (Nat.le_of_ble_eq_true rfl) (fun X C E => ?_)
  show gs_AW X 0 [(0, .int x0)] [] M L
  refine gs_iload_n (pc := 0) C 0 dX6_tiredOf_0 rfl rfl ?_
  refine gs_bipush (w := 18) (pc := 1) C dX6_tiredOf_1 rfl ?_
  refine gs_ishr (pc := 3) C dX6_tiredOf_3 ?_
  refine gs_bipush (w := 15) (pc := 4) C dX6_tiredOf_4 rfl ?_
  refine gs_iand (pc := 6) C dX6_tiredOf_6 ?_
  obtain rfl := gs_i1 h
  exact gs_iret (pc := 7) C dX6_tiredOf_7 E
set_option maxRecDepth 100000 in
set_option maxHeartbeats 4000000 in
theorem a_X4_pointsBy (l : Launch) {M : gs_M} {L : gs_L} {x1 : Int32} {x2 : Int32} {x3 : Int32} {x4 : Int32} {x5 : Int32} {rv : Int32} {Mz : gs_M} (h : f_X4_pointsBy M x1 x2 x3 x4 x5 = some (rv, Mz)) : gs_Met l 3 yX4_pointsBy cX4_pointsBy 7 (some .int) [.ref 105, .int x1, .int x2, .int x3, .int x4, .int x5] M L (some (.int rv)) Mz L := by
  unfold f_X4_pointsBy at h
  refine gs_of RX4 (by decide) rfl (Nat.le_of_ble_eq_true rfl) (fun X C E => ?_)
  show gs_AW X 0 [(0, .ref 105), (1, .int x1), (2, .int x2), (3, .int x3), (4, .int x4), (5, .int x5)] [] M L
  refine gs_aload_n (pc := 0) C 0 dX4_pointsBy_0 rfl rfl ?_
  refine gs_iload_n (pc := 1) C 1 dX4_pointsBy_1 rfl rfl ?_
  obtain ⟨v1, e2, h⟩ := gs_o1 h
  refine gs_callVi (pc := 2) C [.int x1] dX4_pointsBy_2 ml_X4_37 wy_X4_has (a_X4_has _ e2) (by decide) sh_105 (by decide) rfl rfl (Nat.le_of_ble_eq_true rfl) rfl ?_
  refine gs_if_ne (pc := 5) C 19 dX4_pointsBy_5 rfl (fun c3 => ?_) (fun c3 => ?_)
  · replace h := gs_iff c3 h
    refine gs_aload_n (pc := 19) C 0 dX4_pointsBy_19 rfl rfl ?_
    refine gs_aload_n (pc := 20) C 0 dX4_pointsBy_20 rfl rfl ?_
    refine gs_getq (pc := 21) C dX4_pointsBy_21 gk_4 fl_X4_29 sh_105 rfl ?_
    refine gs_iload_n (pc := 24) C 2 dX4_pointsBy_24 rfl rfl ?_
    refine gs_iconst (w := 0) (pc := 25) C dX4_pointsBy_25 rfl ?_
    obtain ⟨v4, e5, h⟩ := gs_o1 h
    refine gs_callVi (pc := 26) C [.int x2, .int (0 : Int32)] dX4_pointsBy_26 ml_X4_47 wy_X6_of (a_X6_of _ e5) (by decide) sh_9 (by decide) rfl rfl (Nat.le_of_ble_eq_true rfl) rfl ?_
    refine gs_aload_n (pc := 29) C 0 dX4_pointsBy_29 rfl rfl ?_
    refine gs_getq (pc := 30) C dX4_pointsBy_30 gk_4 fl_X4_25 sh_105 rfl ?_
    refine gs_iload_n (pc := 33) C 2 dX4_pointsBy_33 rfl rfl ?_
    refine gs_iconst (w := 1) (pc := 34) C dX4_pointsBy_34 rfl ?_
    obtain ⟨v6, e7, h⟩ := gs_o1 h
    refine gs_callVi (pc := 35) C [.int x2, .int (1 : Int32)] dX4_pointsBy_35 ml_X4_57 wy_X9_told (a_X9_told _ e7) (by decide) sh_3 (by decide) rfl rfl (Nat.le_of_ble_eq_true rfl) rfl ?_
    refine gs_aload_n (pc := 38) C 0 dX4_pointsBy_38 rfl rfl ?_
    refine gs_getq (pc := 39) C dX4_pointsBy_39 gk_4 fl_X4_29 sh_105 rfl ?_
    refine gs_iload_n (pc := 42) C 2 dX4_pointsBy_42 rfl rfl ?_
    refine gs_iconst (w := 1) (pc := 43) C dX4_pointsBy_43 rfl ?_
    obtain ⟨v8, e9, h⟩ := gs_o1 h
    refine gs_callVi (pc := 44) C [.int x2, .int (1 : Int32)] dX4_pointsBy_44 ml_X4_47 wy_X6_of (a_X6_of _ e9) (by decide) sh_9 (by decide) rfl rfl (Nat.le_of_ble_eq_true rfl) rfl ?_
    refine gs_iload (pc := 47) C 5 dX4_pointsBy_47 rfl ?_
    refine gs_iload_n (pc := 49) C 3 dX4_pointsBy_49 rfl rfl ?_
    refine gs_iload (pc := 50) C 4 dX4_pointsBy_50 rfl ?_
    obtain ⟨M10, e11, h⟩ := gs_o1 h
    refine gs_callVv (pc := 52) C [.int v4, .int v6, .int v8, .int x5, .int x3, .int x4] dX4_pointsBy_52 ml_X4_60 wy_X4_spell (a_X4_spell _ e11) (by decide) sh_105 (by decide) rfl rfl (Nat.le_of_ble_eq_true rfl) rfl ?_
    refine gs_aload_n (pc := 55) C 0 dX4_pointsBy_55 rfl rfl ?_
    refine gs_getq (pc := 56) C dX4_pointsBy_56 gk_4 fl_X4_11 sh_105 rfl ?_
    refine gs_iload_n (pc := 59) C 1 dX4_pointsBy_59 rfl rfl ?_
    obtain ⟨r12, e13, h⟩ := gs_o1 h
    refine gs_aldW (pc := 60) C dX4_pointsBy_60 sh_106 e13 ?_
    refine gs_bipush (w := 118) (pc := 61) C dX4_pointsBy_61 rfl ?_
    refine gs_aload_n (pc := 63) C 0 dX4_pointsBy_63 rfl rfl ?_
    refine gs_getq (pc := 64) C dX4_pointsBy_64 gk_4 fl_X4_17 sh_105 rfl ?_
    obtain ⟨v14, M15, e16, h⟩ := gs_o2 h
    refine gs_callVi (pc := 67) C [.int (118 : Int32), .ref 107] dX4_pointsBy_67 ml_X4_64 wy_X2_worth (a_X2_worth _ (gs_rdq_law e13) e16) (by decide) (gs_law_sh (gs_rdq_law e13)).1 (by decide) rfl rfl (Nat.le_of_ble_eq_true rfl) rfl ?_
    refine gs_istore (ls' := [(6, .int v14), (0, .ref 105), (1, .int x1), (2, .int x2), (3, .int x3), (4, .int x4), (5, .int x5)]) (pc := 70) C dX4_pointsBy_70 (by decide) rfl ?_
    refine gs_bipush (w := (-9)) (pc := 72) C dX4_pointsBy_72 rfl ?_
    refine gs_iload (pc := 74) C 0 dX4_pointsBy_74 rfl ?_
    refine gs_bipush (w := 9) (pc := 76) C dX4_pointsBy_76 rfl ?_
    refine gs_mmin (pc := 78) C dX4_pointsBy_78 ml_X4_72 (Nat.le_of_ble_eq_true rfl) ?_
    refine gs_mmax (pc := 81) C dX4_pointsBy_81 ml_X4_77 (Nat.le_of_ble_eq_true rfl) ?_
    obtain ⟨rfl, rfl⟩ := gs_i2 h
    exact gs_iret (pc := 84) C dX4_pointsBy_84 E
  · replace h := gs_ift c3 h
    refine gs_iload (pc := 8) C 4 dX4_pointsBy_8 rfl ?_
    have j17 : gs_AW X 18 [(0, .ref 105), (1, .int x1), (2, .int x2), (3, .int x3), (4, .int x4), (5, .int x5)] [.int (if x4 = (0 : Int32) then (1 : Int32) else (-1 : Int32) : Int32)] M L := by
      obtain ⟨rfl, rfl⟩ := gs_i2 h
      exact gs_iret (pc := 18) C dX4_pointsBy_18 E
    refine gs_if_ne (pc := 10) C 17 dX4_pointsBy_10 rfl (fun c18 => ?_) (fun c18 => ?_)
    · refine gs_iconst (w := (-1)) (pc := 17) C dX4_pointsBy_17 rfl ?_
      simp only [if_neg c18] at j17
      exact j17
    · refine gs_iconst (w := 1) (pc := 13) C dX4_pointsBy_13 rfl ?_
      refine gs_goto (pc := 14) C 18 dX4_pointsBy_14 rfl ?_
      simp only [if_pos c18] at j17
      exact j17
set_option maxRecDepth 100000 in
set_option maxHeartbeats 4000000 in
theorem t_X4_caseOf_5 {X : gs_X} (C : gs_C X RX4 cX4_caseOf 6 (some .int) 4) {L : gs_L} {x1 : Int32} {x2 : Int32} {o3 : Int32} {o4 : Int32} {M' : gs_M} (k : gs_AW X 67 [(0, .ref 105), (1, .int x1), (2, .int x2), (3, .int o3), (4, .int o4)] [] M' L) : ∀ (f : Nat) (x3 : Int32) (x4 : Int32) (M : gs_M), l_X4_caseOf_5 x1 x2 f x3 x4 M = some (o3, o4, M') → gs_AW X 5 [(0, .ref 105), (1, .int x1), (2, .int x2), (3, .int x3), (4, .int x4)] [] M L := by
  intro f
  induction f with
  | zero =>
    intro x3 x4 M h
    cases h
  | succ f ih =>
    intro x3 x4 M h
    rw [l_X4_caseOf_5] at h
    refine gs_iload (pc := 5) C 4 dX4_caseOf_5 rfl ?_
    refine gs_aload_n (pc := 7) C 0 dX4_caseOf_7 rfl rfl ?_
    refine gs_getq (pc := 8) C dX4_caseOf_8 gk_4 fl_X4_29 sh_105 rfl ?_
    obtain ⟨v1, e2, h⟩ := gs_o1 h
    refine gs_callVi (pc := 11) C [] dX4_caseOf_11 ml_X4_84 wy_X6_books (a_X6_books _ e2) (by decide) sh_9 (by decide) rfl rfl (Nat.le_of_ble_eq_true rfl) rfl ?_
    refine gs_icmp_ge (pc := 14) C 67 dX4_caseOf_14 rfl (fun c3 => ?_) (fun c3 => ?_)
    · replace h := gs_ift c3 h
      obtain ⟨rfl, rfl, rfl⟩ := gs_i3 h
      exact k
    · replace h := gs_iff c3 h
      refine gs_aload_n (pc := 17) C 0 dX4_caseOf_17 rfl rfl ?_
      refine gs_getq (pc := 18) C dX4_caseOf_18 gk_4 fl_X4_29 sh_105 rfl ?_
      refine gs_iload (pc := 21) C 4 dX4_caseOf_21 rfl ?_
      obtain ⟨v4, e5, h⟩ := gs_o1 h
      refine gs_callVi (pc := 23) C [.int x4] dX4_caseOf_23 ml_X4_88 wy_X6_bookAt (a_X6_bookAt _ e5) (by decide) sh_9 (by decide) rfl rfl (Nat.le_of_ble_eq_true rfl) rfl ?_
      refine gs_istore (ls' := [(5, .int v4), (0, .ref 105), (1, .int x1), (2, .int x2), (3, .int x3), (4, .int x4)]) (pc := 26) C dX4_caseOf_26 (by decide) rfl ?_
      refine gs_iload (pc := 28) C 0 dX4_caseOf_28 rfl ?_
      obtain ⟨v6, e7, h⟩ := gs_o1 h
      refine gs_callSi (pc := 30) C [.int v4] dX4_caseOf_30 ml_X4_91 wy_X6_personOf (a_X6_personOf _ e7) (by decide) rfl (Nat.le_of_ble_eq_true rfl) rfl ?_
      refine gs_iload_n (pc := 33) C 2 dX4_caseOf_33 rfl rfl ?_
      obtain ⟨y8, M9, e10, h⟩ := gs_o2 h
      have j11 : gs_AW X 61 [(0, .ref 105), (1, .int x1), (2, .int x2), (3, .int y8), (4, .int x4), (5, .int v4)] [] M9 L := by
        refine gs_iinc (v := x4 + (1 : Int32)) (ls' := [(4, .int (x4 + (1 : Int32))), (0, .ref 105), (1, .int x1), (2, .int x2), (3, .int y8), (5, .int v4)]) (pc := 61) C 4 dX4_caseOf_61 rfl rfl (by decide) rfl ?_
        refine gs_goto (pc := 64) C 5 dX4_caseOf_64 rfl ?_
        exact gs_sub [1, 2, 3, 4, 0] rfl (ih _ _ _ h)
      refine gs_icmp_ne (pc := 34) C 61 dX4_caseOf_34 rfl (fun c12 => ?_) (fun c12 => ?_)
      · replace e10 := gs_iff c12 e10
        obtain ⟨rfl, rfl⟩ := gs_i2 e10
        exact gs_sub [1, 2, 3, 4, 5, 0] rfl (j11)
      · replace e10 := gs_ift c12 e10
        refine gs_iload_n (pc := 37) C 4 dX4_caseOf_37 rfl rfl ?_
        refine gs_aload_n (pc := 38) C 1 dX4_caseOf_38 rfl rfl ?_
        refine gs_iload_n (pc := 39) C 3 dX4_caseOf_39 rfl rfl ?_
        refine gs_iload_n (pc := 40) C 2 dX4_caseOf_40 rfl rfl ?_
        refine gs_iload (pc := 41) C 0 dX4_caseOf_41 rfl ?_
        obtain ⟨v13, e14, e10⟩ := gs_o1 e10
        refine gs_callSi (pc := 43) C [.int v4] dX4_caseOf_43 ml_X4_94 wy_X6_hourOf (a_X6_hourOf _ e14) (by decide) rfl (Nat.le_of_ble_eq_true rfl) rfl ?_
        refine gs_iload (pc := 46) C 0 dX4_caseOf_46 rfl ?_
        obtain ⟨v15, e16, e10⟩ := gs_o1 e10
        refine gs_callSi (pc := 48) C [.int v4] dX4_caseOf_48 ml_X4_97 wy_X6_lampOf (a_X6_lampOf _ e16) (by decide) rfl (Nat.le_of_ble_eq_true rfl) rfl ?_
        refine gs_iload (pc := 51) C 0 dX4_caseOf_51 rfl ?_
        obtain ⟨v17, e18, e10⟩ := gs_o1 e10
        refine gs_callSi (pc := 53) C [.int v4] dX4_caseOf_53 ml_X4_100 wy_X6_tiredOf (a_X6_tiredOf _ e18) (by decide) rfl (Nat.le_of_ble_eq_true rfl) rfl ?_
        obtain ⟨v19, M20, e21, e10⟩ := gs_o2 e10
        refine gs_callVi (pc := 56) C [.int x2, .int x1, .int v13, .int v15, .int v17] dX4_caseOf_56 ml_X4_80 wy_X4_pointsBy (a_X4_pointsBy _ e21) (by decide) sh_105 (by decide) rfl rfl (Nat.le_of_ble_eq_true rfl) rfl ?_
        refine gs_iadd (pc := 59) C dX4_caseOf_59 ?_
        refine gs_istore_n (ls' := [(3, .int (x3 + v19)), (5, .int v4), (0, .ref 105), (1, .int x1), (2, .int x2), (4, .int x4)]) (pc := 60) C dX4_caseOf_60 rfl (by decide) rfl ?_
        obtain ⟨rfl, rfl⟩ := gs_i2 e10
        exact gs_sub [2, 3, 4, 0, 5, 1] rfl (j11)
set_option maxRecDepth 100000 in
set_option maxHeartbeats 4000000 in
theorem a_X4_caseOf (l : Launch) {M : gs_M} {L : gs_L} {x1 : Int32} {x2 : Int32} {rv : Int32} {Mz : gs_M} (h : f_X4_caseOf M x1 x2 = some (rv, Mz)) : gs_Met l 4 yX4_caseOf cX4_caseOf 6 (some .int) [.ref 105, .int x1, .int x2] M L (some (.int rv)) Mz L := by
  unfold f_X4_caseOf at h
  refine gs_of RX4 (by decide) rfl (Nat.le_of_ble_eq_true rfl) (fun X C E => ?_)
  show gs_AW X 0 [(0, .ref 105), (1, .int x1), (2, .int x2)] [] M L
  refine gs_iconst (w := 0) (pc := 0) C dX4_caseOf_0 rfl ?_
  refine gs_istore_n (ls' := [(3, .int (0 : Int32)), (0, .ref 105), (1, .int x1), (2, .int x2)]) (pc := 1) C dX4_caseOf_1 rfl (by decide) rfl ?_
  refine gs_iconst (w := 0) (pc := 2) C dX4_caseOf_2 rfl ?_
  refine gs_istore (ls' := [(4, .int (0 : Int32)), (3, .int (0 : Int32)), (0, .ref 105), (1, .int x1), (2, .int x2)]) (pc := 3) C dX4_caseOf_3 (by decide) rfl ?_
  obtain ⟨y1, y2, M3, e4, h⟩ := gs_o3 h
  refine gs_sub [2, 3, 4, 1, 0] rfl (t_X4_caseOf_5 C ?_ gs_FU _ _ _ e4)
  refine gs_iload_n (pc := 67) C 3 dX4_caseOf_67 rfl rfl ?_
  obtain ⟨rfl, rfl⟩ := gs_i2 h
  exact gs_iret (pc := 68) C dX4_caseOf_68 E
set_option maxRecDepth 100000 in
set_option maxHeartbeats 4000000 in
theorem a_X11_wouldBeGuilty (l : Launch) {M : gs_M} {L : gs_L} {x1 : Int32} {x2 : Int32} {rv : Int32} {Mz : gs_M} (h : f_X11_wouldBeGuilty M x1 x2 = some (rv, Mz)) : gs_Met l 5 yX11_wouldBeGuilty cX11_wouldBeGuilty 3 (some .boolean) [.ref 0, .int x1, .int x2] M L (some (.int rv)) Mz L := by
  unfold f_X11_wouldBeGuilty at h
  refine gs_of RX11 (by decide) rfl (Nat.le_of_ble_eq_true rfl) (fun X C E => ?_)
  show gs_AW X 0 [(0, .ref 0), (1, .int x1), (2, .int x2)] [] M L
  refine gs_aload_n (pc := 0) C 0 dX11_wouldBeGuilty_0 rfl rfl ?_
  refine gs_getq (pc := 1) C dX11_wouldBeGuilty_1 gk_11 fl_X11_71 sh_0 rfl ?_
  refine gs_iload_n (pc := 4) C 1 dX11_wouldBeGuilty_4 rfl rfl ?_
  refine gs_iload_n (pc := 5) C 2 dX11_wouldBeGuilty_5 rfl rfl ?_
  obtain ⟨v1, M2, e3, h⟩ := gs_o2 h
  refine gs_callVi (pc := 6) C [.int x1, .int x2] dX11_wouldBeGuilty_6 ml_X11_243 wy_X4_caseOf (a_X4_caseOf _ e3) (by decide) sh_105 (by decide) rfl rfl (Nat.le_of_ble_eq_true rfl) rfl ?_
  refine gs_aload_n (pc := 9) C 0 dX11_wouldBeGuilty_9 rfl rfl ?_
  refine gs_getq (pc := 10) C dX11_wouldBeGuilty_10 gk_11 fl_X11_19 sh_0 rfl ?_
  refine gs_iconst (w := 1) (pc := 13) C dX11_wouldBeGuilty_13 rfl ?_
  obtain ⟨v4, e5, h⟩ := gs_o1 h
  refine gs_callVi (pc := 14) C [.int (1 : Int32)] dX11_wouldBeGuilty_14 ml_X11_175 wy_X9_ruled (a_X9_ruled _ e5) (by decide) sh_3 (by decide) rfl rfl (Nat.le_of_ble_eq_true rfl) rfl ?_
  have j8 : gs_AW X 25 [(0, .ref 0), (1, .int x1), (2, .int x2)] [.int (if v1 < v4 then (0 : Int32) else (1 : Int32) : Int32)] M2 L := by
    obtain ⟨z6, e7, h⟩ := gs_o1 h
    obtain ⟨rfl, rfl⟩ := gs_i2 h
    exact gs_zret' (pc := 25) C dX11_wouldBeGuilty_25 e7 E
  refine gs_icmp_lt (pc := 17) C 24 dX11_wouldBeGuilty_17 rfl (fun c9 => ?_) (fun c9 => ?_)
  · refine gs_iconst (w := 0) (pc := 24) C dX11_wouldBeGuilty_24 rfl ?_
    simp only [if_pos c9] at j8
    exact j8
  · refine gs_iconst (w := 1) (pc := 20) C dX11_wouldBeGuilty_20 rfl ?_
    refine gs_goto (pc := 21) C 25 dX11_wouldBeGuilty_21 rfl ?_
    simp only [if_neg c9] at j8
    exact j8
set_option maxRecDepth 100000 in
set_option maxHeartbeats 4000000 in
theorem t_X11_wrongedBy_4 {X : gs_X} (C : gs_C X RX11 cX11_wrongedBy 5 (some .int) 6) {L : gs_L} {x1 : Int32} {o2 : Int32} {o3 : Int32} {M' : gs_M} (k : gs_AW X 65 [(0, .ref 0), (1, .int x1), (2, .int o2), (3, .int o3)] [] M' L) : ∀ (f : Nat) (x2 : Int32) (x3 : Int32) (M : gs_M), l_X11_wrongedBy_4 x1 f x2 x3 M = some (o2, o3, M') → gs_AW X 4 [(0, .ref 0), (1, .int x1), (2, .int x2), (3, .int x3)] [] M L := by
  intro f
  induction f with
  | zero =>
    intro x2 x3 M h
    cases h
  | succ f ih =>
    intro x2 x3 M h
    rw [l_X11_wrongedBy_4] at h
    refine gs_iload_n (pc := 4) C 3 dX11_wrongedBy_4 rfl rfl ?_
    refine gs_aload_n (pc := 5) C 0 dX11_wrongedBy_5 rfl rfl ?_
    refine gs_getq (pc := 6) C dX11_wrongedBy_6 gk_11 fl_X11_19 sh_0 rfl ?_
    obtain ⟨v1, e2, h⟩ := gs_o1 h
    refine gs_callVi (pc := 9) C [] dX11_wrongedBy_9 ml_X11_158 wy_X9_crowd (a_X9_crowd _ e2) (by decide) sh_3 (by decide) rfl rfl (Nat.le_of_ble_eq_true rfl) rfl ?_
    refine gs_icmp_ge (pc := 12) C 65 dX11_wrongedBy_12 rfl (fun c3 => ?_) (fun c3 => ?_)
    · replace h := gs_ift c3 h
      obtain ⟨rfl, rfl, rfl⟩ := gs_i3 h
      exact k
    · replace h := gs_iff c3 h
      refine gs_aload_n (pc := 15) C 0 dX11_wrongedBy_15 rfl rfl ?_
      refine gs_getq (pc := 16) C dX11_wrongedBy_16 gk_11 fl_X11_29 sh_0 rfl ?_
      refine gs_iload_n (pc := 19) C 3 dX11_wrongedBy_19 rfl rfl ?_
      refine gs_iconst (w := 0) (pc := 20) C dX11_wrongedBy_20 rfl ?_
      obtain ⟨v4, e5, h⟩ := gs_o1 h
      refine gs_callVi (pc := 21) C [.int x3, .int (0 : Int32)] dX11_wrongedBy_21 ml_X11_188 wy_X6_of (a_X6_of _ e5) (by decide) sh_9 (by decide) rfl rfl (Nat.le_of_ble_eq_true rfl) rfl ?_
      have j17 : gs_AW X 32 [(0, .ref 0), (1, .int x1), (2, .int x2), (3, .int x3)] [.int (if v4 ≤ (0 : Int32) then (0 : Int32) else (1 : Int32) : Int32)] M L := by
        refine gs_istore (ls' := [(4, .int (if v4 ≤ (0 : Int32) then (0 : Int32) else (1 : Int32) : Int32)), (0, .ref 0), (1, .int x1), (2, .int x2), (3, .int x3)]) (pc := 32) C dX11_wrongedBy_32 (by decide) rfl ?_
        refine gs_aload_n (pc := 34) C 1 dX11_wrongedBy_34 rfl rfl ?_
        refine gs_getq (pc := 35) C dX11_wrongedBy_35 gk_11 fl_X11_29 sh_0 rfl ?_
        refine gs_iload_n (pc := 38) C 4 dX11_wrongedBy_38 rfl rfl ?_
        obtain ⟨v6, e7, h⟩ := gs_o1 h
        refine gs_callVi (pc := 39) C [.int x3] dX11_wrongedBy_39 ml_X11_237 wy_X6_booksOf (a_X6_booksOf _ e7) (by decide) sh_9 (by decide) rfl rfl (Nat.le_of_ble_eq_true rfl) rfl ?_
        obtain ⟨y8, M9, e10, h⟩ := gs_o2 h
        have j11 : gs_AW X 59 [(0, .ref 0), (1, .int x1), (2, .int y8), (3, .int x3), (4, .int (if v4 ≤ (0 : Int32) then (0 : Int32) else (1 : Int32) : Int32))] [] M9 L := by
          refine gs_iinc (v := x3 + (1 : Int32)) (ls' := [(3, .int (x3 + (1 : Int32))), (0, .ref 0), (1, .int x1), (2, .int y8), (4, .int (if v4 ≤ (0 : Int32) then (0 : Int32) else (1 : Int32) : Int32))]) (pc := 59) C 3 dX11_wrongedBy_59 rfl rfl (by decide) rfl ?_
          refine gs_goto (pc := 62) C 4 dX11_wrongedBy_62 rfl ?_
          exact gs_sub [1, 2, 3, 0] rfl (ih _ _ _ h)
        refine gs_if_le (pc := 42) C 59 dX11_wrongedBy_42 rfl (fun c12 => ?_) (fun c12 => ?_)
        · replace e10 := gs_ift c12 e10
          obtain ⟨rfl, rfl⟩ := gs_i2 e10
          exact gs_sub [1, 2, 3, 4, 0] rfl (j11)
        · replace e10 := gs_iff c12 e10
          refine gs_iload (pc := 45) C 0 dX11_wrongedBy_45 rfl ?_
          refine gs_aload_n (pc := 47) C 1 dX11_wrongedBy_47 rfl rfl ?_
          refine gs_iload_n (pc := 48) C 4 dX11_wrongedBy_48 rfl rfl ?_
          refine gs_iload_n (pc := 49) C 2 dX11_wrongedBy_49 rfl rfl ?_
          obtain ⟨v13, M14, e15, e10⟩ := gs_o2 e10
          refine gs_callVi (pc := 50) C [.int x3, .int x1] dX11_wrongedBy_50 ml_X11_387 wy_X11_wouldBeGuilty (a_X11_wouldBeGuilty _ e15) (by decide) sh_0 (by decide) rfl rfl (Nat.le_of_ble_eq_true rfl) rfl ?_
          refine gs_icmp_eq (pc := 53) C 59 dX11_wrongedBy_53 rfl (fun c16 => ?_) (fun c16 => ?_)
          · replace e10 := gs_ift c16 e10
            obtain ⟨rfl, rfl⟩ := gs_i2 e10
            exact gs_sub [1, 2, 3, 4, 0] rfl (j11)
          · replace e10 := gs_iff c16 e10
            refine gs_iinc (v := x2 + (1 : Int32)) (ls' := [(2, .int (x2 + (1 : Int32))), (4, .int (if v4 ≤ (0 : Int32) then (0 : Int32) else (1 : Int32) : Int32)), (0, .ref 0), (1, .int x1), (3, .int x3)]) (pc := 56) C 3 dX11_wrongedBy_56 rfl rfl (by decide) rfl ?_
            obtain ⟨rfl, rfl⟩ := gs_i2 e10
            exact gs_sub [2, 3, 0, 4, 1] rfl (j11)
      refine gs_if_le (pc := 24) C 31 dX11_wrongedBy_24 rfl (fun c18 => ?_) (fun c18 => ?_)
      · refine gs_iconst (w := 0) (pc := 31) C dX11_wrongedBy_31 rfl ?_
        simp only [if_pos c18] at j17
        exact j17
      · refine gs_iconst (w := 1) (pc := 27) C dX11_wrongedBy_27 rfl ?_
        refine gs_goto (pc := 28) C 32 dX11_wrongedBy_28 rfl ?_
        simp only [if_neg c18] at j17
        exact j17
set_option maxRecDepth 100000 in
set_option maxHeartbeats 4000000 in
theorem a_X11_wrongedBy (l : Launch) {M : gs_M} {L : gs_L} {x1 : Int32} {rv : Int32} {Mz : gs_M} (h : f_X11_wrongedBy M x1 = some (rv, Mz)) : gs_Met l 6 yX11_wrongedBy cX11_wrongedBy 5 (some .int) [.ref 0, .int x1] M L (some (.int rv)) Mz L := by
  unfold f_X11_wrongedBy at h
  refine gs_of RX11 (by decide) rfl (Nat.le_of_ble_eq_true rfl) (fun X C E => ?_)
  show gs_AW X 0 [(0, .ref 0), (1, .int x1)] [] M L
  refine gs_iconst (w := 0) (pc := 0) C dX11_wrongedBy_0 rfl ?_
  refine gs_istore_n (ls' := [(2, .int (0 : Int32)), (0, .ref 0), (1, .int x1)]) (pc := 1) C dX11_wrongedBy_1 rfl (by decide) rfl ?_
  refine gs_iconst (w := 0) (pc := 2) C dX11_wrongedBy_2 rfl ?_
  refine gs_istore_n (ls' := [(3, .int (0 : Int32)), (2, .int (0 : Int32)), (0, .ref 0), (1, .int x1)]) (pc := 3) C dX11_wrongedBy_3 rfl (by decide) rfl ?_
  obtain ⟨y1, y2, M3, e4, h⟩ := gs_o3 h
  refine gs_sub [2, 3, 1, 0] rfl (t_X11_wrongedBy_4 C ?_ gs_FU _ _ _ e4)
  refine gs_iload_n (pc := 65) C 2 dX11_wrongedBy_65 rfl rfl ?_
  obtain ⟨rfl, rfl⟩ := gs_i2 h
  exact gs_iret (pc := 66) C dX11_wrongedBy_66 E
set_option maxRecDepth 100000 in
set_option maxHeartbeats 4000000 in
theorem t_X11_better_15 {X : gs_X} (C : gs_C X RX11 cX11_better 5 (some .int) 7) {L : gs_L} {o1 : Int32} {o2 : Int32} {o3 : Int32} {M' : gs_M} (k : gs_AW X 55 [(0, .ref 0), (1, .int o1), (2, .int o2), (3, .int o3)] [] M' L) : ∀ (f : Nat) (x1 : Int32) (x2 : Int32) (x3 : Int32) (M : gs_M), l_X11_better_15  f x1 x2 x3 M = some (o1, o2, o3, M') → gs_AW X 15 [(0, .ref 0), (1, .int x1), (2, .int x2), (3, .int x3)] [] M L := by
  intro f
  induction f with
  | zero =>
    intro x1 x2 x3 M h
    cases h
  | succ f ih =>
    intro x1 x2 x3 M h
    rw [l_X11_better_15] at h
    refine gs_iload_n (pc := 15) C 3 dX11_better_15 rfl rfl ?_
    refine gs_aload_n (pc := 16) C 0 dX11_better_16 rfl rfl ?_
    refine gs_getq (pc := 17) C dX11_better_17 gk_11 fl_X11_71 sh_0 rfl ?_
    obtain ⟨v1, e2, h⟩ := gs_o1 h
    refine gs_callVi (pc := 20) C [] dX11_better_20 ml_X11_390 wy_X4_laws (a_X4_laws _ e2) (by decide) sh_105 (by decide) rfl rfl (Nat.le_of_ble_eq_true rfl) rfl ?_
    refine gs_icmp_ge (pc := 23) C 55 dX11_better_23 rfl (fun c3 => ?_) (fun c3 => ?_)
    · replace h := gs_ift c3 h
      obtain ⟨rfl, rfl, rfl, rfl⟩ := gs_i4 h
      exact k
    · replace h := gs_iff c3 h
      refine gs_aload_n (pc := 26) C 0 dX11_better_26 rfl rfl ?_
      refine gs_iload_n (pc := 27) C 3 dX11_better_27 rfl rfl ?_
      obtain ⟨v4, M5, e6, h⟩ := gs_o2 h
      refine gs_callVi (pc := 28) C [.int x3] dX11_better_28 ml_X11_384 wy_X11_wrongedBy (a_X11_wrongedBy _ e6) (by decide) sh_0 (by decide) rfl rfl (Nat.le_of_ble_eq_true rfl) rfl ?_
      refine gs_istore (ls' := [(4, .int v4), (0, .ref 0), (1, .int x1), (2, .int x2), (3, .int x3)]) (pc := 31) C dX11_better_31 (by decide) rfl ?_
      refine gs_iload_n (pc := 33) C 2 dX11_better_33 rfl rfl ?_
      refine gs_iconst (w := (-1)) (pc := 34) C dX11_better_34 rfl ?_
      have j7 : gs_AW X 49 [(0, .ref 0), (1, .int (if x1 = (-1 : Int32) then x3 else if x2 ≤ v4 then x1 else x3 : Int32)), (2, .int (if x1 = (-1 : Int32) then v4 else if x2 ≤ v4 then x2 else v4 : Int32)), (3, .int x3), (4, .int v4)] [] M5 L := by
        refine gs_iinc (v := x3 + (1 : Int32)) (ls' := [(3, .int (x3 + (1 : Int32))), (0, .ref 0), (1, .int (if x1 = (-1 : Int32) then x3 else if x2 ≤ v4 then x1 else x3 : Int32)), (2, .int (if x1 = (-1 : Int32) then v4 else if x2 ≤ v4 then x2 else v4 : Int32)), (4, .int v4)]) (pc := 49) C 3 dX11_better_49 rfl rfl (by decide) rfl ?_
        refine gs_goto (pc := 52) C 15 dX11_better_52 rfl ?_
        exact gs_sub [1, 2, 3, 0] rfl (ih _ _ _ _ h)
      refine gs_icmp_eq (pc := 35) C 44 dX11_better_35 rfl (fun c8 => ?_) (fun c8 => ?_)
      · refine gs_iload_n (pc := 44) C 4 dX11_better_44 rfl rfl ?_
        refine gs_istore_n (ls' := [(1, .int x3), (4, .int v4), (0, .ref 0), (2, .int x2), (3, .int x3)]) (pc := 45) C dX11_better_45 rfl (by decide) rfl ?_
        refine gs_iload (pc := 46) C 1 dX11_better_46 rfl ?_
        refine gs_istore_n (ls' := [(2, .int v4), (1, .int x3), (4, .int v4), (0, .ref 0), (3, .int x3)]) (pc := 48) C dX11_better_48 rfl (by decide) rfl ?_
        simp only [if_pos c8] at j7
        exact gs_sub [3, 1, 0, 4, 2] rfl (j7)
      · refine gs_iload (pc := 38) C 0 dX11_better_38 rfl ?_
        refine gs_iload_n (pc := 40) C 3 dX11_better_40 rfl rfl ?_
        refine gs_icmp_ge (pc := 41) C 49 dX11_better_41 rfl (fun c9 => ?_) (fun c9 => ?_)
        · simp only [if_neg c8, if_pos c9] at j7
          exact gs_sub [1, 2, 3, 4, 0] rfl (j7)
        · refine gs_iload_n (pc := 44) C 4 dX11_better_44 rfl rfl ?_
          refine gs_istore_n (ls' := [(1, .int x3), (4, .int v4), (0, .ref 0), (2, .int x2), (3, .int x3)]) (pc := 45) C dX11_better_45 rfl (by decide) rfl ?_
          refine gs_iload (pc := 46) C 1 dX11_better_46 rfl ?_
          refine gs_istore_n (ls' := [(2, .int v4), (1, .int x3), (4, .int v4), (0, .ref 0), (3, .int x3)]) (pc := 48) C dX11_better_48 rfl (by decide) rfl ?_
          simp only [if_neg c8, if_neg c9] at j7
          exact gs_sub [3, 1, 0, 4, 2] rfl (j7)
set_option maxRecDepth 100000 in
set_option maxHeartbeats 4000000 in
theorem a_X11_better (l : Launch) {M : gs_M} {L : gs_L} {rv : Int32} {Mz : gs_M} (h : f_X11_better M = some (rv, Mz)) : gs_Met l 7 yX11_better cX11_better 5 (some .int) [.ref 0] M L (some (.int rv)) Mz L := by
  unfold f_X11_better at h
  refine gs_of RX11 (by decide) rfl (Nat.le_of_ble_eq_true rfl) (fun X C E => ?_)
  show gs_AW X 0 [(0, .ref 0)] [] M L
  refine gs_aload_n (pc := 0) C 0 dX11_better_0 rfl rfl ?_
  obtain ⟨v1, e2, h⟩ := gs_o1 h
  refine gs_callVi (pc := 1) C [] dX11_better_1 ml_X11_172 wy_X11_hasTown (a_X11_hasTown _ e2) (by decide) sh_0 (by decide) rfl rfl (Nat.le_of_ble_eq_true rfl) rfl ?_
  refine gs_if_ne (pc := 4) C 9 dX11_better_4 rfl (fun c3 => ?_) (fun c3 => ?_)
  · replace h := gs_iff c3 h
    refine gs_iconst (w := (-1)) (pc := 9) C dX11_better_9 rfl ?_
    refine gs_istore_n (ls' := [(1, .int (-1 : Int32)), (0, .ref 0)]) (pc := 10) C dX11_better_10 rfl (by decide) rfl ?_
    refine gs_iconst (w := 0) (pc := 11) C dX11_better_11 rfl ?_
    refine gs_istore_n (ls' := [(2, .int (0 : Int32)), (1, .int (-1 : Int32)), (0, .ref 0)]) (pc := 12) C dX11_better_12 rfl (by decide) rfl ?_
    refine gs_iconst (w := 0) (pc := 13) C dX11_better_13 rfl ?_
    refine gs_istore_n (ls' := [(3, .int (0 : Int32)), (2, .int (0 : Int32)), (1, .int (-1 : Int32)), (0, .ref 0)]) (pc := 14) C dX11_better_14 rfl (by decide) rfl ?_
    obtain ⟨y4, y5, y6, M7, e8, h⟩ := gs_o4 h
    refine gs_sub [3, 2, 1, 0] rfl (t_X11_better_15 C ?_ gs_FU _ _ _ _ e8)
    refine gs_iload_n (pc := 55) C 1 dX11_better_55 rfl rfl ?_
    obtain ⟨rfl, rfl⟩ := gs_i2 h
    exact gs_iret (pc := 56) C dX11_better_56 E
  · replace h := gs_ift c3 h
    refine gs_iconst (w := (-1)) (pc := 7) C dX11_better_7 rfl ?_
    obtain ⟨rfl, rfl⟩ := gs_i2 h
    exact gs_iret (pc := 8) C dX11_better_8 E
set_option maxRecDepth 100000 in
set_option maxHeartbeats 4000000 in
theorem a_X6_nightOf (l : Launch) {M : gs_M} {L : gs_L} {x0 : Int32} {rv : Int32} (h : f_X6_nightOf x0 = some (rv)) : gs_Met l 0 yX6_nightOf cX6_nightOf 1 (some .int) [.int x0] M L (some (.int rv)) M L := by
  unfold f_X6_nightOf at h
  refine gs_of RX6 (by decide) rfl (Nat.le_of_ble_eq_true rfl) (fun X C E => ?_)
  show gs_AW X 0 [(0, .int x0)] [] M L
  refine gs_iload_n (pc := 0) C 0 dX6_nightOf_0 rfl rfl ?_
  refine gs_sipush (w := 1023) (pc := 1) C dX6_nightOf_1 rfl ?_
  refine gs_iand (pc := 4) C dX6_nightOf_4 ?_
  obtain rfl := gs_i1 h
  exact gs_iret (pc := 5) C dX6_nightOf_5 E
set_option maxRecDepth 100000 in
set_option maxHeartbeats 4000000 in
theorem a_X11_book (l : Launch) {M : gs_M} {L : gs_L} {x1 : Int32} {x2 : Int32} {rv : Int32} (h : f_X11_book M x1 x2 = some (rv)) : gs_Met l 1 yX11_book cX11_book 4 (some .int) [.ref 0, .int x1, .int x2] M L (some (.int rv)) M L := by
  unfold f_X11_book at h
  refine gs_of RX11 (by decide) rfl (Nat.le_of_ble_eq_true rfl) (fun X C E => ?_)
  show gs_AW X 0 [(0, .ref 0), (1, .int x1), (2, .int x2)] [] M L
  refine gs_iload_n (pc := 0) C 1 dX11_book_0 rfl rfl ?_
  refine gs_if_lt (pc := 1) C 15 dX11_book_1 rfl (fun c1 => ?_) (fun c1 => ?_)
  · replace h := gs_ift c1 h
    refine gs_iconst (w := (-1)) (pc := 15) C dX11_book_15 rfl ?_
    obtain rfl := gs_i1 h
    exact gs_iret (pc := 16) C dX11_book_16 E
  · replace h := gs_iff c1 h
    refine gs_iload_n (pc := 4) C 1 dX11_book_4 rfl rfl ?_
    refine gs_aload_n (pc := 5) C 0 dX11_book_5 rfl rfl ?_
    refine gs_getq (pc := 6) C dX11_book_6 gk_11 fl_X11_29 sh_0 rfl ?_
    obtain ⟨v2, e3, h⟩ := gs_o1 h
    refine gs_callVi (pc := 9) C [] dX11_book_9 ml_X11_279 wy_X6_books (a_X6_books _ e3) (by decide) sh_9 (by decide) rfl rfl (Nat.le_of_ble_eq_true rfl) rfl ?_
    refine gs_icmp_lt (pc := 12) C 17 dX11_book_12 rfl (fun c4 => ?_) (fun c4 => ?_)
    · replace h := gs_ift c4 h
      refine gs_aload_n (pc := 17) C 0 dX11_book_17 rfl rfl ?_
      refine gs_getq (pc := 18) C dX11_book_18 gk_11 fl_X11_29 sh_0 rfl ?_
      refine gs_aload_n (pc := 21) C 0 dX11_book_21 rfl rfl ?_
      refine gs_getq (pc := 22) C dX11_book_22 gk_11 fl_X11_29 sh_0 rfl ?_
      obtain ⟨v5, e6, h⟩ := gs_o1 h
      refine gs_callVi (pc := 25) C [] dX11_book_25 ml_X11_279 wy_X6_books (a_X6_books _ e6) (by decide) sh_9 (by decide) rfl rfl (Nat.le_of_ble_eq_true rfl) rfl ?_
      refine gs_iconst (w := 1) (pc := 28) C dX11_book_28 rfl ?_
      refine gs_isub (pc := 29) C dX11_book_29 ?_
      refine gs_iload_n (pc := 30) C 1 dX11_book_30 rfl rfl ?_
      refine gs_isub (pc := 31) C dX11_book_31 ?_
      obtain ⟨v7, e8, h⟩ := gs_o1 h
      refine gs_callVi (pc := 32) C [.int ((v5 - (1 : Int32)) - x1)] dX11_book_32 ml_X11_282 wy_X6_bookAt (a_X6_bookAt _ e8) (by decide) sh_9 (by decide) rfl rfl (Nat.le_of_ble_eq_true rfl) rfl ?_
      refine gs_istore_n (ls' := [(3, .int v7), (0, .ref 0), (1, .int x1), (2, .int x2)]) (pc := 35) C dX11_book_35 rfl (by decide) rfl ?_
      refine gs_iload_n (pc := 36) C 3 dX11_book_36 rfl rfl ?_
      by_cases c9 : x2 = (0 : Int32)
      · replace h := gs_ift c9 h
        refine gs_tabIn (pc := 37) C 72 dX11_book_37 (by rw [c9]; decide) (by rw [c9]; decide) (off := 35) (by rw [c9]; decide) rfl ?_
        refine gs_iload_n (pc := 72) C 0 dX11_book_72 rfl rfl ?_
        obtain ⟨v10, e11, h⟩ := gs_o1 h
        refine gs_callSi (pc := 73) C [.int v7] dX11_book_73 ml_X11_285 wy_X6_nightOf (a_X6_nightOf _ e11) (by decide) rfl (Nat.le_of_ble_eq_true rfl) rfl ?_
        obtain rfl := gs_i1 h
        exact gs_iret (pc := 76) C dX11_book_76 E
      replace h := gs_iff c9 h
      by_cases c12 : x2 = (1 : Int32)
      · replace h := gs_ift c12 h
        refine gs_tabIn (pc := 37) C 77 dX11_book_37 (by rw [c12]; decide) (by rw [c12]; decide) (off := 40) (by rw [c12]; decide) rfl ?_
        refine gs_iload_n (pc := 77) C 0 dX11_book_77 rfl rfl ?_
        obtain ⟨v13, e14, h⟩ := gs_o1 h
        refine gs_callSi (pc := 78) C [.int v7] dX11_book_78 ml_X11_288 wy_X6_hourOf (a_X6_hourOf _ e14) (by decide) rfl (Nat.le_of_ble_eq_true rfl) rfl ?_
        obtain rfl := gs_i1 h
        exact gs_iret (pc := 81) C dX11_book_81 E
      replace h := gs_iff c12 h
      by_cases c15 : x2 = (2 : Int32)
      · replace h := gs_ift c15 h
        refine gs_tabIn (pc := 37) C 82 dX11_book_37 (by rw [c15]; decide) (by rw [c15]; decide) (off := 45) (by rw [c15]; decide) rfl ?_
        refine gs_iload_n (pc := 82) C 0 dX11_book_82 rfl rfl ?_
        obtain ⟨v16, e17, h⟩ := gs_o1 h
        refine gs_callSi (pc := 83) C [.int v7] dX11_book_83 ml_X11_291 wy_X6_personOf (a_X6_personOf _ e17) (by decide) rfl (Nat.le_of_ble_eq_true rfl) rfl ?_
        obtain rfl := gs_i1 h
        exact gs_iret (pc := 86) C dX11_book_86 E
      replace h := gs_iff c15 h
      by_cases c18 : x2 = (3 : Int32)
      · replace h := gs_ift c18 h
        refine gs_tabIn (pc := 37) C 87 dX11_book_37 (by rw [c18]; decide) (by rw [c18]; decide) (off := 50) (by rw [c18]; decide) rfl ?_
        refine gs_iload_n (pc := 87) C 0 dX11_book_87 rfl rfl ?_
        obtain ⟨v19, e20, h⟩ := gs_o1 h
        refine gs_callSi (pc := 88) C [.int v7] dX11_book_88 ml_X11_294 wy_X6_lampOf (a_X6_lampOf _ e20) (by decide) rfl (Nat.le_of_ble_eq_true rfl) rfl ?_
        obtain rfl := gs_i1 h
        exact gs_iret (pc := 91) C dX11_book_91 E
      replace h := gs_iff c18 h
      by_cases c21 : x2 = (4 : Int32)
      · replace h := gs_ift c21 h
        refine gs_tabIn (pc := 37) C 92 dX11_book_37 (by rw [c21]; decide) (by rw [c21]; decide) (off := 55) (by rw [c21]; decide) rfl ?_
        refine gs_iload_n (pc := 92) C 0 dX11_book_92 rfl rfl ?_
        obtain ⟨v22, e23, h⟩ := gs_o1 h
        refine gs_callSi (pc := 93) C [.int v7] dX11_book_93 ml_X11_297 wy_X6_tiredOf (a_X6_tiredOf _ e23) (by decide) rfl (Nat.le_of_ble_eq_true rfl) rfl ?_
        obtain rfl := gs_i1 h
        exact gs_iret (pc := 96) C dX11_book_96 E
      replace h := gs_iff c21 h
      refine gs_tabOut (pc := 37) C 97 dX11_book_37 (gs_swOut (vs := [0, 1, 2, 3, 4]) 0 5 (by decide) (List.forall_mem_cons.mpr ⟨c9, List.forall_mem_cons.mpr ⟨c12, List.forall_mem_cons.mpr ⟨c15, List.forall_mem_cons.mpr ⟨c18, List.forall_mem_cons.mpr ⟨c21, fun _ h => absurd h List.not_mem_nil⟩⟩⟩⟩⟩)) rfl ?_
      refine gs_iconst (w := (-1)) (pc := 97) C dX11_book_97 rfl ?_
      obtain rfl := gs_i1 h
      exact gs_iret (pc := 98) C dX11_book_98 E
    · replace h := gs_iff c4 h
      refine gs_iconst (w := (-1)) (pc := 15) C dX11_book_15 rfl ?_
      obtain rfl := gs_i1 h
      exact gs_iret (pc := 16) C dX11_book_16 E
