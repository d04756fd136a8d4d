set_option maxRecDepth 100000 in
set_option maxHeartbeats 4000000 in
theorem a_X12_thrown (l : Launch) {M : gs_M} {L : gs_L} {rv : Int32} (h : f_X12_thrown M = some (rv)) : gs_Met l 0 yX12_thrown cX12_thrown 1 (some .int) [.ref 147] M L (some (.int rv)) M L := by
  unfold f_X12_thrown at h
  refine gs_of RX12 (by decide) rfl (Nat.le_of_ble_eq_true rfl) (fun X C E => ?_)
  show gs_AW X 0 [(0, .ref 147)] [] M L
  refine gs_aload_n (pc := 0) C 0 dX12_thrown_0 rfl rfl ?_
  refine gs_geti (pc := 1) C dX12_thrown_1 gk_12 fl_X12_100 sh_147 rfl ?_
  obtain rfl := gs_i1 h
  exact gs_iret (pc := 4) C dX12_thrown_4 E
set_option maxRecDepth 100000 in
set_option maxHeartbeats 4000000 in
theorem t_X12_gainOf_5 {X : gs_X} (C : gs_C X RX12 cX12_gainOf 5 (some .int) 1) {M : gs_M} {L : gs_L} {x1 : Int32} {x2 : Int32} {rv : Int32} (E : gs_E X (some (.int rv)) M L) : ∀ (f : Nat) (x3 : Int32) (x4 : Int32), l_X12_gainOf_5 M x1 x2 f x3 x4 = some (rv) → gs_AW X 5 [(0, .ref 147), (1, .int x1), (2, .int x2), (3, .int x3), (4, .int x4)] [] M L := by
  intro f
  induction f with
  | zero =>
    intro x3 x4 h
    cases h
  | succ f ih =>
    intro x3 x4 h
    rw [l_X12_gainOf_5] at h
    refine gs_iload (pc := 5) C 4 dX12_gainOf_5 rfl ?_
    refine gs_aload_n (pc := 7) C 0 dX12_gainOf_7 rfl rfl ?_
    refine gs_getq (pc := 8) C dX12_gainOf_8 gk_12 fl_X12_37 sh_147 rfl ?_
    refine gs_iconst (w := 0) (pc := 11) C dX12_gainOf_11 rfl ?_
    obtain ⟨v1, e2, h⟩ := gs_o1 h
    refine gs_iald (pc := 12) C dX12_gainOf_12 sh_152 e2 ?_
    refine gs_icmp_ge (pc := 13) C 75 dX12_gainOf_13 rfl (fun c3 => ?_) (fun c3 => ?_)
    · replace h := gs_ift c3 h
      refine gs_iload_n (pc := 75) C 3 dX12_gainOf_75 rfl rfl ?_
      obtain rfl := gs_i1 h
      exact gs_iret (pc := 76) C dX12_gainOf_76 E
    · replace h := gs_iff c3 h
      refine gs_iload_n (pc := 16) C 2 dX12_gainOf_16 rfl rfl ?_
      refine gs_iload (pc := 17) C 4 dX12_gainOf_17 rfl ?_
      obtain ⟨v4, e5, h⟩ := gs_o1 h
      refine gs_callSi (pc := 19) C [.int x2, .int x4] dX12_gainOf_19 ml_X12_233 wy_X12_has (a_X12_has _ e5) (by decide) rfl (Nat.le_of_ble_eq_true rfl) rfl ?_
      refine gs_if_ne (pc := 22) C 28 dX12_gainOf_22 rfl (fun c6 => ?_) (fun c6 => ?_)
      · replace h := gs_iff c6 h
        refine gs_aload_n (pc := 28) C 0 dX12_gainOf_28 rfl rfl ?_
        refine gs_getq (pc := 29) C dX12_gainOf_29 gk_12 fl_X12_94 sh_147 rfl ?_
        refine gs_iload (pc := 32) C 4 dX12_gainOf_32 rfl ?_
        obtain ⟨v7, e8, h⟩ := gs_o1 h
        refine gs_iald (pc := 34) C dX12_gainOf_34 sh_168 e8 ?_
        refine gs_iconst (w := (-1)) (pc := 35) C dX12_gainOf_35 rfl ?_
        refine gs_icmp_eq (pc := 36) C 54 dX12_gainOf_36 rfl (fun c9 => ?_) (fun c9 => ?_)
        · replace h := gs_ift c9 h
          refine gs_iload_n (pc := 54) C 3 dX12_gainOf_54 rfl rfl ?_
          refine gs_aload_n (pc := 55) C 0 dX12_gainOf_55 rfl rfl ?_
          refine gs_getq (pc := 56) C dX12_gainOf_56 gk_12 fl_X12_91 sh_147 rfl ?_
          refine gs_bipush (w := 9) (pc := 59) C dX12_gainOf_59 rfl ?_
          refine gs_iload_n (pc := 61) C 1 dX12_gainOf_61 rfl rfl ?_
          refine gs_imul (pc := 62) C dX12_gainOf_62 ?_
          refine gs_iload (pc := 63) C 4 dX12_gainOf_63 rfl ?_
          refine gs_iadd (pc := 65) C dX12_gainOf_65 ?_
          obtain ⟨v10, e11, h⟩ := gs_o1 h
          refine gs_iald (pc := 66) C dX12_gainOf_66 sh_167 e11 ?_
          refine gs_iadd (pc := 67) C dX12_gainOf_67 ?_
          refine gs_istore_n (ls' := [(3, .int (x3 + v10)), (0, .ref 147), (1, .int x1), (2, .int x2), (4, .int x4)]) (pc := 68) C dX12_gainOf_68 rfl (by decide) rfl ?_
          refine gs_iinc (v := x4 + (1 : Int32)) (ls' := [(4, .int (x4 + (1 : Int32))), (3, .int (x3 + v10)), (0, .ref 147), (1, .int x1), (2, .int x2)]) (pc := 69) C 4 dX12_gainOf_69 rfl rfl (by decide) rfl ?_
          refine gs_goto (pc := 72) C 5 dX12_gainOf_72 rfl ?_
          exact gs_sub [2, 3, 4, 1, 0] rfl (ih _ _ h)
        · replace h := gs_iff c9 h
          refine gs_aload_n (pc := 39) C 0 dX12_gainOf_39 rfl rfl ?_
          refine gs_getq (pc := 40) C dX12_gainOf_40 gk_12 fl_X12_94 sh_147 rfl ?_
          refine gs_iload (pc := 43) C 4 dX12_gainOf_43 rfl ?_
          obtain ⟨v12, e13, h⟩ := gs_o1 h
          refine gs_iald (pc := 45) C dX12_gainOf_45 sh_168 e13 ?_
          refine gs_iload_n (pc := 46) C 1 dX12_gainOf_46 rfl rfl ?_
          refine gs_icmp_eq (pc := 47) C 54 dX12_gainOf_47 rfl (fun c14 => ?_) (fun c14 => ?_)
          · replace h := gs_ift c14 h
            refine gs_iload_n (pc := 54) C 3 dX12_gainOf_54 rfl rfl ?_
            refine gs_aload_n (pc := 55) C 0 dX12_gainOf_55 rfl rfl ?_
            refine gs_getq (pc := 56) C dX12_gainOf_56 gk_12 fl_X12_91 sh_147 rfl ?_
            refine gs_bipush (w := 9) (pc := 59) C dX12_gainOf_59 rfl ?_
            refine gs_iload_n (pc := 61) C 1 dX12_gainOf_61 rfl rfl ?_
            refine gs_imul (pc := 62) C dX12_gainOf_62 ?_
            refine gs_iload (pc := 63) C 4 dX12_gainOf_63 rfl ?_
            refine gs_iadd (pc := 65) C dX12_gainOf_65 ?_
            obtain ⟨v15, e16, h⟩ := gs_o1 h
            refine gs_iald (pc := 66) C dX12_gainOf_66 sh_167 e16 ?_
            refine gs_iadd (pc := 67) C dX12_gainOf_67 ?_
            refine gs_istore_n (ls' := [(3, .int (x3 + v15)), (0, .ref 147), (1, .int x1), (2, .int x2), (4, .int x4)]) (pc := 68) C dX12_gainOf_68 rfl (by decide) rfl ?_
            refine gs_iinc (v := x4 + (1 : Int32)) (ls' := [(4, .int (x4 + (1 : Int32))), (3, .int (x3 + v15)), (0, .ref 147), (1, .int x1), (2, .int x2)]) (pc := 69) C 4 dX12_gainOf_69 rfl rfl (by decide) rfl ?_
            refine gs_goto (pc := 72) C 5 dX12_gainOf_72 rfl ?_
            exact gs_sub [2, 3, 4, 1, 0] rfl (ih _ _ h)
          · replace h := gs_iff c14 h
            refine gs_ldcw (pc := 50) C dX12_gainOf_50 wk_X12_360 ?_
            obtain rfl := gs_i1 h
            exact gs_iret (pc := 53) C dX12_gainOf_53 E
      · replace h := gs_ift c6 h
        refine gs_goto (pc := 25) C 69 dX12_gainOf_25 rfl ?_
        refine gs_iinc (v := x4 + (1 : Int32)) (ls' := [(4, .int (x4 + (1 : Int32))), (0, .ref 147), (1, .int x1), (2, .int x2), (3, .int x3)]) (pc := 69) C 4 dX12_gainOf_69 rfl rfl (by decide) rfl ?_
        refine gs_goto (pc := 72) C 5 dX12_gainOf_72 rfl ?_
        exact gs_sub [1, 2, 3, 4, 0] rfl (ih _ _ h)
set_option maxRecDepth 100000 in
set_option maxHeartbeats 4000000 in
theorem a_X12_gainOf (l : Launch) {M : gs_M} {L : gs_L} {x1 : Int32} {x2 : Int32} {rv : Int32} (h : f_X12_gainOf M x1 x2 = some (rv)) : gs_Met l 1 yX12_gainOf cX12_gainOf 5 (some .int) [.ref 147, .int x1, .int x2] M L (some (.int rv)) M L := by
  unfold f_X12_gainOf at h
  refine gs_of RX12 (by decide) rfl (Nat.le_of_ble_eq_true rfl) (fun X C E => ?_)
  show gs_AW X 0 [(0, .ref 147), (1, .int x1), (2, .int x2)] [] M L
  refine gs_iconst (w := 0) (pc := 0) C dX12_gainOf_0 rfl ?_
  refine gs_istore_n (ls' := [(3, .int (0 : Int32)), (0, .ref 147), (1, .int x1), (2, .int x2)]) (pc := 1) C dX12_gainOf_1 rfl (by decide) rfl ?_
  refine gs_iconst (w := 0) (pc := 2) C dX12_gainOf_2 rfl ?_
  refine gs_istore (ls' := [(4, .int (0 : Int32)), (3, .int (0 : Int32)), (0, .ref 147), (1, .int x1), (2, .int x2)]) (pc := 3) C dX12_gainOf_3 (by decide) rfl ?_
  exact gs_sub [2, 3, 4, 1, 0] rfl (t_X12_gainOf_5 C E gs_FU _ _ h)
set_option maxRecDepth 100000 in
set_option maxHeartbeats 4000000 in
theorem t_X12_mostBy_13 {X : gs_X} (C : gs_C X RX12 cX12_mostBy 7 (some .int) 2) {L : gs_L} {x1 : Int32} {x2 : Int32} {o3 : Int32} {M' : gs_M} (k : gs_AW X 41 [(0, .ref 147), (1, .int x1), (2, .int x2), (3, .int o3)] [] M' L) : ∀ (f : Nat) (x3 : Int32) (M : gs_M), l_X12_mostBy_13 x1 x2 f x3 M = some (o3, M') → gs_AW X 13 [(0, .ref 147), (1, .int x1), (2, .int x2), (3, .int x3)] [] M L := by
  intro f
  induction f with
  | zero =>
    intro x3 M h
    cases h
  | succ f ih =>
    intro x3 M h
    rw [l_X12_mostBy_13] at h
    refine gs_iload_n (pc := 13) C 3 dX12_mostBy_13 rfl rfl ?_
    refine gs_iload_n (pc := 14) C 2 dX12_mostBy_14 rfl rfl ?_
    refine gs_icmp_gt (pc := 15) C 41 dX12_mostBy_15 rfl (fun c1 => ?_) (fun c1 => ?_)
    · replace h := gs_ift c1 h
      obtain ⟨rfl, rfl⟩ := gs_i2 h
      exact k
    · replace h := gs_iff c1 h
      refine gs_aload_n (pc := 18) C 0 dX12_mostBy_18 rfl rfl ?_
      refine gs_getq (pc := 19) C dX12_mostBy_19 gk_12 fl_X12_85 sh_147 rfl ?_
      refine gs_iload_n (pc := 22) C 3 dX12_mostBy_22 rfl rfl ?_
      refine gs_iload_n (pc := 23) C 3 dX12_mostBy_23 rfl rfl ?_
      have j4 : gs_AW X 34 [(0, .ref 147), (1, .int x1), (2, .int x2), (3, .int x3)] [.int (if x3 = (0 : Int32) then (0 : Int32) else (-1000000 : Int32) : Int32), .int x3, .ref 165] M L := by
        obtain ⟨M3, e2, h⟩ := gs_o1 h
        refine gs_iast (pc := 34) C dX12_mostBy_34 sh_165 e2 ?_
        refine gs_iinc (v := x3 + (1 : Int32)) (ls' := [(3, .int (x3 + (1 : Int32))), (0, .ref 147), (1, .int x1), (2, .int x2)]) (pc := 35) C 3 dX12_mostBy_35 rfl rfl (by decide) rfl ?_
        refine gs_goto (pc := 38) C 13 dX12_mostBy_38 rfl ?_
        exact gs_sub [1, 2, 3, 0] rfl (ih _ _ h)
      refine gs_if_ne (pc := 24) C 31 dX12_mostBy_24 rfl (fun c5 => ?_) (fun c5 => ?_)
      · refine gs_ldcw (pc := 31) C dX12_mostBy_31 wk_X12_360 ?_
        simp only [if_neg c5] at j4
        exact j4
      · refine gs_iconst (w := 0) (pc := 27) C dX12_mostBy_27 rfl ?_
        refine gs_goto (pc := 28) C 34 dX12_mostBy_28 rfl ?_
        simp only [if_pos c5] at j4
        exact j4
set_option maxRecDepth 100000 in
set_option maxHeartbeats 4000000 in
theorem t_X12_mostBy_67 {X : gs_X} (C : gs_C X RX12 cX12_mostBy 7 (some .int) 2) {L : gs_L} {x1 : Int32} {x2 : Int32} {x3 : Int32} {o4 : Int32} {M' : gs_M} (k : gs_AW X 89 [(0, .ref 147), (1, .int x1), (2, .int x2), (3, .int x3), (4, .int o4)] [] M' L) : ∀ (f : Nat) (x4 : Int32) (M : gs_M), l_X12_mostBy_67 x1 x2 x3 f x4 M = some (o4, M') → gs_AW X 67 [(0, .ref 147), (1, .int x1), (2, .int x2), (3, .int x3), (4, .int x4)] [] M L := by
  intro f
  induction f with
  | zero =>
    intro x4 M h
    cases h
  | succ f ih =>
    intro x4 M h
    rw [l_X12_mostBy_67] at h
    refine gs_iload (pc := 67) C 4 dX12_mostBy_67 rfl ?_
    refine gs_iload_n (pc := 69) C 2 dX12_mostBy_69 rfl rfl ?_
    refine gs_icmp_gt (pc := 70) C 89 dX12_mostBy_70 rfl (fun c1 => ?_) (fun c1 => ?_)
    · replace h := gs_ift c1 h
      obtain ⟨rfl, rfl⟩ := gs_i2 h
      exact k
    · replace h := gs_iff c1 h
      refine gs_aload_n (pc := 73) C 0 dX12_mostBy_73 rfl rfl ?_
      refine gs_getq (pc := 74) C dX12_mostBy_74 gk_12 fl_X12_88 sh_147 rfl ?_
      refine gs_iload (pc := 77) C 4 dX12_mostBy_77 rfl ?_
      refine gs_ldcw (pc := 79) C dX12_mostBy_79 wk_X12_360 ?_
      obtain ⟨M3, e2, h⟩ := gs_o1 h
      refine gs_iast (pc := 82) C dX12_mostBy_82 sh_166 e2 ?_
      refine gs_iinc (v := x4 + (1 : Int32)) (ls' := [(4, .int (x4 + (1 : Int32))), (0, .ref 147), (1, .int x1), (2, .int x2), (3, .int x3)]) (pc := 83) C 4 dX12_mostBy_83 rfl rfl (by decide) rfl ?_
      refine gs_goto (pc := 86) C 67 dX12_mostBy_86 rfl ?_
      exact gs_sub [1, 2, 3, 4, 0] rfl (ih _ _ h)
set_option maxRecDepth 100000 in
set_option maxHeartbeats 4000000 in
theorem t_X12_mostBy_122 {X : gs_X} (C : gs_C X RX12 cX12_mostBy 7 (some .int) 2) {L : gs_L} {x1 : Int32} {x2 : Int32} {x3 : Int32} {x4 : Int32} {x5 : Int32} {o6 : Int32} {M' : gs_M} (k : gs_AW X 190 [(0, .ref 147), (1, .int x1), (2, .int x2), (3, .int x3), (4, .int x4), (5, .int x5), (6, .int o6)] [] M' L) : ∀ (f : Nat) (x6 : Int32) (M : gs_M), l_X12_mostBy_122 x1 x2 x3 x4 x5 f x6 M = some (o6, M') → gs_AW X 122 [(0, .ref 147), (1, .int x1), (2, .int x2), (3, .int x3), (4, .int x4), (5, .int x5), (6, .int x6)] [] M L := by
  intro f
  induction f with
  | zero =>
    intro x6 M h
    cases h
  | succ f ih =>
    intro x6 M h
    rw [l_X12_mostBy_122] at h
    refine gs_iload (pc := 122) C 6 dX12_mostBy_122 rfl ?_
    refine gs_iload_n (pc := 124) C 2 dX12_mostBy_124 rfl rfl ?_
    refine gs_icmp_gt (pc := 125) C 190 dX12_mostBy_125 rfl (fun c1 => ?_) (fun c1 => ?_)
    · replace h := gs_ift c1 h
      obtain ⟨rfl, rfl⟩ := gs_i2 h
      exact k
    · replace h := gs_iff c1 h
      refine gs_iload (pc := 128) C 5 dX12_mostBy_128 rfl ?_
      refine gs_if_lt (pc := 130) C 190 dX12_mostBy_130 rfl (fun c2 => ?_) (fun c2 => ?_)
      · replace h := gs_ift c2 h
        obtain ⟨rfl, rfl⟩ := gs_i2 h
        exact k
      · replace h := gs_iff c2 h
        refine gs_iload (pc := 133) C 6 dX12_mostBy_133 rfl ?_
        refine gs_iload (pc := 135) C 4 dX12_mostBy_135 rfl ?_
        refine gs_iand (pc := 137) C dX12_mostBy_137 ?_
        obtain ⟨M3, e4, h⟩ := gs_o1 h
        have j5 : gs_AW X 184 [(0, .ref 147), (1, .int x1), (2, .int x2), (3, .int x3), (4, .int x4), (5, .int x5), (6, .int x6)] [] M3 L := by
          refine gs_iinc (v := x6 + (1 : Int32)) (ls' := [(6, .int (x6 + (1 : Int32))), (0, .ref 147), (1, .int x1), (2, .int x2), (3, .int x3), (4, .int x4), (5, .int x5)]) (pc := 184) C 6 dX12_mostBy_184 rfl rfl (by decide) rfl ?_
          refine gs_goto (pc := 187) C 122 dX12_mostBy_187 rfl ?_
          exact gs_sub [1, 2, 3, 4, 5, 6, 0] rfl (ih _ _ h)
        refine gs_if_ne (pc := 138) C 184 dX12_mostBy_138 rfl (fun c6 => ?_) (fun c6 => ?_)
        · replace e4 := gs_iff c6 e4
          obtain rfl := gs_i1 e4
          exact j5
        · replace e4 := gs_ift c6 e4
          refine gs_aload_n (pc := 141) C 0 dX12_mostBy_141 rfl rfl ?_
          refine gs_getq (pc := 142) C dX12_mostBy_142 gk_12 fl_X12_85 sh_147 rfl ?_
          refine gs_iload (pc := 145) C 6 dX12_mostBy_145 rfl ?_
          obtain ⟨v7, e8, e4⟩ := gs_o1 e4
          refine gs_iald (pc := 147) C dX12_mostBy_147 sh_165 e8 ?_
          refine gs_if_lt (pc := 148) C 184 dX12_mostBy_148 rfl (fun c9 => ?_) (fun c9 => ?_)
          · replace e4 := gs_ift c9 e4
            obtain rfl := gs_i1 e4
            exact j5
          · replace e4 := gs_iff c9 e4
            refine gs_aload_n (pc := 151) C 0 dX12_mostBy_151 rfl rfl ?_
            refine gs_getq (pc := 152) C dX12_mostBy_152 gk_12 fl_X12_88 sh_147 rfl ?_
            refine gs_iload (pc := 155) C 6 dX12_mostBy_155 rfl ?_
            refine gs_iload (pc := 157) C 4 dX12_mostBy_157 rfl ?_
            refine gs_ior (pc := 159) C dX12_mostBy_159 ?_
            refine gs_aload_n (pc := 160) C 0 dX12_mostBy_160 rfl rfl ?_
            refine gs_getq (pc := 161) C dX12_mostBy_161 gk_12 fl_X12_88 sh_147 rfl ?_
            refine gs_iload (pc := 164) C 6 dX12_mostBy_164 rfl ?_
            refine gs_iload (pc := 166) C 4 dX12_mostBy_166 rfl ?_
            refine gs_ior (pc := 168) C dX12_mostBy_168 ?_
            obtain ⟨v10, e11, e4⟩ := gs_o1 e4
            refine gs_iald (pc := 169) C dX12_mostBy_169 sh_166 e11 ?_
            refine gs_aload_n (pc := 170) C 0 dX12_mostBy_170 rfl rfl ?_
            refine gs_getq (pc := 171) C dX12_mostBy_171 gk_12 fl_X12_85 sh_147 rfl ?_
            refine gs_iload (pc := 174) C 6 dX12_mostBy_174 rfl ?_
            obtain ⟨v12, e13, e4⟩ := gs_o1 e4
            refine gs_iald (pc := 176) C dX12_mostBy_176 sh_165 e13 ?_
            refine gs_iload (pc := 177) C 5 dX12_mostBy_177 rfl ?_
            refine gs_iadd (pc := 179) C dX12_mostBy_179 ?_
            refine gs_mmax (pc := 180) C dX12_mostBy_180 ml_X12_310 (Nat.le_of_ble_eq_true rfl) ?_
            obtain ⟨M15, e14, e4⟩ := gs_o1 e4
            refine gs_iast (pc := 183) C dX12_mostBy_183 sh_166 e14 ?_
            obtain rfl := gs_i1 e4
            exact j5
set_option maxRecDepth 100000 in
set_option maxHeartbeats 4000000 in
theorem t_X12_mostBy_92 {X : gs_X} (C : gs_C X RX12 cX12_mostBy 7 (some .int) 2) {L : gs_L} {x1 : Int32} {x2 : Int32} {x3 : Int32} {o4 : Int32} {M' : gs_M} (k : gs_AW X 196 [(0, .ref 147), (1, .int x1), (2, .int x2), (3, .int x3), (4, .int o4)] [] M' L) : ∀ (f : Nat) (x4 : Int32) (M : gs_M), l_X12_mostBy_92 x1 x2 x3 f x4 M = some (o4, M') → gs_AW X 92 [(0, .ref 147), (1, .int x1), (2, .int x2), (3, .int x3), (4, .int x4)] [] M L := by
  intro f
  induction f with
  | zero =>
    intro x4 M h
    cases h
  | succ f ih =>
    intro x4 M h
    rw [l_X12_mostBy_92] at h
    refine gs_iload (pc := 92) C 4 dX12_mostBy_92 rfl ?_
    refine gs_iload_n (pc := 94) C 2 dX12_mostBy_94 rfl rfl ?_
    refine gs_icmp_gt (pc := 95) C 196 dX12_mostBy_95 rfl (fun c1 => ?_) (fun c1 => ?_)
    · replace h := gs_ift c1 h
      obtain ⟨rfl, rfl⟩ := gs_i2 h
      exact k
    · replace h := gs_iff c1 h
      refine gs_iload (pc := 98) C 4 dX12_mostBy_98 rfl ?_
      obtain ⟨v2, e3, h⟩ := gs_o1 h
      refine gs_callSi (pc := 100) C [.int x4] dX12_mostBy_100 ml_X12_400 wy_J6_bitCount_0f7a4 (a_J6_bitCount_0f7a4 _ e3) (by decide) rfl (Nat.le_of_ble_eq_true rfl) rfl ?_
      refine gs_iload_n (pc := 103) C 1 dX12_mostBy_103 rfl rfl ?_
      obtain ⟨M4, e5, h⟩ := gs_o1 h
      have j6 : gs_AW X 190 [(0, .ref 147), (1, .int x1), (2, .int x2), (3, .int x3), (4, .int x4)] [] M4 L := by
        refine gs_iinc (v := x4 + (1 : Int32)) (ls' := [(4, .int (x4 + (1 : Int32))), (0, .ref 147), (1, .int x1), (2, .int x2), (3, .int x3)]) (pc := 190) C 4 dX12_mostBy_190 rfl rfl (by decide) rfl ?_
        refine gs_goto (pc := 193) C 92 dX12_mostBy_193 rfl ?_
        exact gs_sub [1, 2, 3, 4, 0] rfl (ih _ _ h)
      refine gs_icmp_le (pc := 104) C 110 dX12_mostBy_104 rfl (fun c7 => ?_) (fun c7 => ?_)
      · replace e5 := gs_ift c7 e5
        refine gs_aload_n (pc := 110) C 0 dX12_mostBy_110 rfl rfl ?_
        refine gs_iload_n (pc := 111) C 3 dX12_mostBy_111 rfl rfl ?_
        refine gs_iload (pc := 112) C 4 dX12_mostBy_112 rfl ?_
        obtain ⟨v8, e9, e5⟩ := gs_o1 e5
        refine gs_callVi (pc := 114) C [.int x3, .int x4] dX12_mostBy_114 ml_X12_420 wy_X12_gainOf (a_X12_gainOf _ e9) (by decide) sh_147 (by decide) rfl rfl (Nat.le_of_ble_eq_true rfl) rfl ?_
        refine gs_istore (ls' := [(5, .int v8), (0, .ref 147), (1, .int x1), (2, .int x2), (3, .int x3), (4, .int x4)]) (pc := 117) C dX12_mostBy_117 (by decide) rfl ?_
        refine gs_iconst (w := 0) (pc := 119) C dX12_mostBy_119 rfl ?_
        refine gs_istore (ls' := [(6, .int (0 : Int32)), (5, .int v8), (0, .ref 147), (1, .int x1), (2, .int x2), (3, .int x3), (4, .int x4)]) (pc := 120) C dX12_mostBy_120 (by decide) rfl ?_
        obtain ⟨y10, M11, e12, e5⟩ := gs_o2 e5
        refine gs_sub [2, 3, 4, 5, 6, 1, 0] rfl (t_X12_mostBy_122 C ?_ gs_FU _ _ e12)
        obtain rfl := gs_i1 e5
        exact gs_sub [0, 1, 2, 3, 4] rfl (j6)
      · replace e5 := gs_iff c7 e5
        refine gs_goto (pc := 107) C 190 dX12_mostBy_107 rfl ?_
        obtain rfl := gs_i1 e5
        exact j6
set_option maxRecDepth 100000 in
set_option maxHeartbeats 4000000 in
theorem t_X12_mostBy_199 {X : gs_X} (C : gs_C X RX12 cX12_mostBy 7 (some .int) 2) {L : gs_L} {x1 : Int32} {x2 : Int32} {x3 : Int32} {o4 : Int32} {M' : gs_M} (k : gs_AW X 225 [(0, .ref 147), (1, .int x1), (2, .int x2), (3, .int x3), (4, .int o4)] [] M' L) : ∀ (f : Nat) (x4 : Int32) (M : gs_M), l_X12_mostBy_199 x1 x2 x3 f x4 M = some (o4, M') → gs_AW X 199 [(0, .ref 147), (1, .int x1), (2, .int x2), (3, .int x3), (4, .int x4)] [] M L := by
  intro f
  induction f with
  | zero =>
    intro x4 M h
    cases h
  | succ f ih =>
    intro x4 M h
    rw [l_X12_mostBy_199] at h
    refine gs_iload (pc := 199) C 4 dX12_mostBy_199 rfl ?_
    refine gs_iload_n (pc := 201) C 2 dX12_mostBy_201 rfl rfl ?_
    refine gs_icmp_gt (pc := 202) C 225 dX12_mostBy_202 rfl (fun c1 => ?_) (fun c1 => ?_)
    · replace h := gs_ift c1 h
      obtain ⟨rfl, rfl⟩ := gs_i2 h
      exact k
    · replace h := gs_iff c1 h
      refine gs_aload_n (pc := 205) C 0 dX12_mostBy_205 rfl rfl ?_
      refine gs_getq (pc := 206) C dX12_mostBy_206 gk_12 fl_X12_85 sh_147 rfl ?_
      refine gs_iload (pc := 209) C 4 dX12_mostBy_209 rfl ?_
      refine gs_aload_n (pc := 211) C 0 dX12_mostBy_211 rfl rfl ?_
      refine gs_getq (pc := 212) C dX12_mostBy_212 gk_12 fl_X12_88 sh_147 rfl ?_
      refine gs_iload (pc := 215) C 4 dX12_mostBy_215 rfl ?_
      obtain ⟨v2, e3, h⟩ := gs_o1 h
      refine gs_iald (pc := 217) C dX12_mostBy_217 sh_166 e3 ?_
      obtain ⟨M5, e4, h⟩ := gs_o1 h
      refine gs_iast (pc := 218) C dX12_mostBy_218 sh_165 e4 ?_
      refine gs_iinc (v := x4 + (1 : Int32)) (ls' := [(4, .int (x4 + (1 : Int32))), (0, .ref 147), (1, .int x1), (2, .int x2), (3, .int x3)]) (pc := 219) C 4 dX12_mostBy_219 rfl rfl (by decide) rfl ?_
      refine gs_goto (pc := 222) C 199 dX12_mostBy_222 rfl ?_
      exact gs_sub [1, 2, 3, 4, 0] rfl (ih _ _ h)
set_option maxRecDepth 100000 in
set_option maxHeartbeats 4000000 in
theorem t_X12_mostBy_43 {X : gs_X} (C : gs_C X RX12 cX12_mostBy 7 (some .int) 2) {L : gs_L} {x1 : Int32} {x2 : Int32} {o3 : Int32} {M' : gs_M} (k : gs_AW X 231 [(0, .ref 147), (1, .int x1), (2, .int x2), (3, .int o3)] [] M' L) : ∀ (f : Nat) (x3 : Int32) (M : gs_M), l_X12_mostBy_43 x1 x2 f x3 M = some (o3, M') → gs_AW X 43 [(0, .ref 147), (1, .int x1), (2, .int x2), (3, .int x3)] [] M L := by
  intro f
  induction f with
  | zero =>
    intro x3 M h
    cases h
  | succ f ih =>
    intro x3 M h
    rw [l_X12_mostBy_43] at h
    refine gs_iload_n (pc := 43) C 3 dX12_mostBy_43 rfl rfl ?_
    refine gs_aload_n (pc := 44) C 0 dX12_mostBy_44 rfl rfl ?_
    refine gs_geti (pc := 45) C dX12_mostBy_45 gk_12 fl_X12_286 sh_147 rfl ?_
    refine gs_icmp_ge (pc := 48) C 231 dX12_mostBy_48 rfl (fun c1 => ?_) (fun c1 => ?_)
    · replace h := gs_ift c1 h
      obtain ⟨rfl, rfl⟩ := gs_i2 h
      exact k
    · replace h := gs_iff c1 h
      refine gs_aload_n (pc := 51) C 0 dX12_mostBy_51 rfl rfl ?_
      refine gs_iload_n (pc := 52) C 3 dX12_mostBy_52 rfl rfl ?_
      refine gs_iconst (w := 5) (pc := 53) C dX12_mostBy_53 rfl ?_
      obtain ⟨v2, e3, h⟩ := gs_o1 h
      refine gs_callVi (pc := 54) C [.int x3, .int (5 : Int32)] dX12_mostBy_54 ml_X12_301 wy_X12_of (a_X12_of _ e3) (by decide) sh_147 (by decide) rfl rfl (Nat.le_of_ble_eq_true rfl) rfl ?_
      refine gs_iconst (w := 1) (pc := 57) C dX12_mostBy_57 rfl ?_
      obtain ⟨M4, e5, h⟩ := gs_o1 h
      have j6 : gs_AW X 225 [(0, .ref 147), (1, .int x1), (2, .int x2), (3, .int x3)] [] M4 L := by
        refine gs_iinc (v := x3 + (1 : Int32)) (ls' := [(3, .int (x3 + (1 : Int32))), (0, .ref 147), (1, .int x1), (2, .int x2)]) (pc := 225) C 3 dX12_mostBy_225 rfl rfl (by decide) rfl ?_
        refine gs_goto (pc := 228) C 43 dX12_mostBy_228 rfl ?_
        exact gs_sub [1, 2, 3, 0] rfl (ih _ _ h)
      refine gs_icmp_ne (pc := 58) C 64 dX12_mostBy_58 rfl (fun c7 => ?_) (fun c7 => ?_)
      · replace e5 := gs_iff c7 e5
        refine gs_iconst (w := 0) (pc := 64) C dX12_mostBy_64 rfl ?_
        refine gs_istore (ls' := [(4, .int (0 : Int32)), (0, .ref 147), (1, .int x1), (2, .int x2), (3, .int x3)]) (pc := 65) C dX12_mostBy_65 (by decide) rfl ?_
        obtain ⟨y8, M9, e10, e5⟩ := gs_o2 e5
        refine gs_sub [1, 2, 3, 4, 0] rfl (t_X12_mostBy_67 C ?_ gs_FU _ _ e10)
        refine gs_iconst (w := 0) (pc := 89) C dX12_mostBy_89 rfl ?_
        refine gs_istore (ls' := [(4, .int (0 : Int32)), (0, .ref 147), (1, .int x1), (2, .int x2), (3, .int x3)]) (pc := 90) C dX12_mostBy_90 (by decide) rfl ?_
        obtain ⟨y11, M12, e13, e5⟩ := gs_o2 e5
        refine gs_sub [1, 2, 3, 4, 0] rfl (t_X12_mostBy_92 C ?_ gs_FU _ _ e13)
        refine gs_iconst (w := 0) (pc := 196) C dX12_mostBy_196 rfl ?_
        refine gs_istore (ls' := [(4, .int (0 : Int32)), (0, .ref 147), (1, .int x1), (2, .int x2), (3, .int x3)]) (pc := 197) C dX12_mostBy_197 (by decide) rfl ?_
        obtain ⟨y14, M15, e16, e5⟩ := gs_o2 e5
        refine gs_sub [1, 2, 3, 4, 0] rfl (t_X12_mostBy_199 C ?_ gs_FU _ _ e16)
        obtain rfl := gs_i1 e5
        exact gs_sub [0, 1, 2, 3] rfl (j6)
      · replace e5 := gs_ift c7 e5
        refine gs_goto (pc := 61) C 225 dX12_mostBy_61 rfl ?_
        obtain rfl := gs_i1 e5
        exact j6
set_option maxRecDepth 100000 in
set_option maxHeartbeats 4000000 in
theorem a_X12_mostBy (l : Launch) {M : gs_M} {L : gs_L} {x1 : Int32} {rv : Int32} {Mz : gs_M} (h : f_X12_mostBy M x1 = some (rv, Mz)) : gs_Met l 2 yX12_mostBy cX12_mostBy 7 (some .int) [.ref 147, .int x1] M L (some (.int rv)) Mz L := by
  unfold f_X12_mostBy at h
  refine gs_of RX12 (by decide) rfl (Nat.le_of_ble_eq_true rfl) (fun X C E => ?_)
  show gs_AW X 0 [(0, .ref 147), (1, .int x1)] [] M L
  refine gs_iconst (w := 1) (pc := 0) C dX12_mostBy_0 rfl ?_
  refine gs_aload_n (pc := 1) C 0 dX12_mostBy_1 rfl rfl ?_
  refine gs_getq (pc := 2) C dX12_mostBy_2 gk_12 fl_X12_37 sh_147 rfl ?_
  refine gs_iconst (w := 0) (pc := 5) C dX12_mostBy_5 rfl ?_
  obtain ⟨v1, e2, h⟩ := gs_o1 h
  refine gs_iald (pc := 6) C dX12_mostBy_6 sh_152 e2 ?_
  refine gs_ishl (pc := 7) C dX12_mostBy_7 ?_
  refine gs_iconst (w := 1) (pc := 8) C dX12_mostBy_8 rfl ?_
  refine gs_isub (pc := 9) C dX12_mostBy_9 ?_
  refine gs_istore_n (ls' := [(2, .int (((1 : Int32) <<< (v1 &&& 31)) - (1 : Int32))), (0, .ref 147), (1, .int x1)]) (pc := 10) C dX12_mostBy_10 rfl (by decide) rfl ?_
  refine gs_iconst (w := 0) (pc := 11) C dX12_mostBy_11 rfl ?_
  refine gs_istore_n (ls' := [(3, .int (0 : Int32)), (2, .int (((1 : Int32) <<< (v1 &&& 31)) - (1 : Int32))), (0, .ref 147), (1, .int x1)]) (pc := 12) C dX12_mostBy_12 rfl (by decide) rfl ?_
  obtain ⟨y3, M4, e5, h⟩ := gs_o2 h
  refine gs_sub [2, 3, 1, 0] rfl (t_X12_mostBy_13 C ?_ gs_FU _ _ e5)
  refine gs_iconst (w := 0) (pc := 41) C dX12_mostBy_41 rfl ?_
  refine gs_istore_n (ls' := [(3, .int (0 : Int32)), (0, .ref 147), (1, .int x1), (2, .int (((1 : Int32) <<< (v1 &&& 31)) - (1 : Int32)))]) (pc := 42) C dX12_mostBy_42 rfl (by decide) rfl ?_
  obtain ⟨y6, M7, e8, h⟩ := gs_o2 h
  refine gs_sub [1, 2, 3, 0] rfl (t_X12_mostBy_43 C ?_ gs_FU _ _ e8)
  refine gs_aload_n (pc := 231) C 0 dX12_mostBy_231 rfl rfl ?_
  refine gs_getq (pc := 232) C dX12_mostBy_232 gk_12 fl_X12_85 sh_147 rfl ?_
  refine gs_iload_n (pc := 235) C 2 dX12_mostBy_235 rfl rfl ?_
  obtain ⟨v9, e10, h⟩ := gs_o1 h
  refine gs_iald (pc := 236) C dX12_mostBy_236 sh_165 e10 ?_
  obtain ⟨rfl, rfl⟩ := gs_i2 h
  exact gs_iret (pc := 237) C dX12_mostBy_237 E
set_option maxRecDepth 100000 in
set_option maxHeartbeats 4000000 in
theorem t_X12_timetable_49 {X : gs_X} (C : gs_C X RX12 cX12_timetable 6 (some .int) 81) {L : gs_L} {x1 : Int32} {x2 : Int32} {x3 : Int32} {o4 : Int32} {M' : gs_M} (k : gs_AW X 88 [(0, .ref 147), (1, .int x1), (2, .int x2), (3, .int x3), (4, .int o4)] [] M' L) : ∀ (f : Nat) (x4 : Int32) (M : gs_M), l_X12_timetable_49 x1 x2 x3 f x4 M = some (o4, M') → gs_AW X 49 [(0, .ref 147), (1, .int x1), (2, .int x2), (3, .int x3), (4, .int x4)] [] M L := by
  intro f
  induction f with
  | zero =>
    intro x4 M h
    cases h
  | succ f ih =>
    intro x4 M h
    rw [l_X12_timetable_49] at h
    refine gs_iload (pc := 49) C 4 dX12_timetable_49 rfl ?_
    refine gs_aload_n (pc := 51) C 0 dX12_timetable_51 rfl rfl ?_
    refine gs_getq (pc := 52) C dX12_timetable_52 gk_12 fl_X12_37 sh_147 rfl ?_
    refine gs_iconst (w := 0) (pc := 55) C dX12_timetable_55 rfl ?_
    obtain ⟨v1, e2, h⟩ := gs_o1 h
    refine gs_iald (pc := 56) C dX12_timetable_56 sh_152 e2 ?_
    refine gs_icmp_ge (pc := 57) C 88 dX12_timetable_57 rfl (fun c3 => ?_) (fun c3 => ?_)
    · replace h := gs_ift c3 h
      obtain ⟨rfl, rfl⟩ := gs_i2 h
      exact k
    · replace h := gs_iff c3 h
      refine gs_aload_n (pc := 60) C 0 dX12_timetable_60 rfl rfl ?_
      refine gs_getq (pc := 61) C dX12_timetable_61 gk_12 fl_X12_91 sh_147 rfl ?_
      refine gs_bipush (w := 9) (pc := 64) C dX12_timetable_64 rfl ?_
      refine gs_iload_n (pc := 66) C 3 dX12_timetable_66 rfl rfl ?_
      refine gs_imul (pc := 67) C dX12_timetable_67 ?_
      refine gs_iload (pc := 68) C 4 dX12_timetable_68 rfl ?_
      refine gs_iadd (pc := 70) C dX12_timetable_70 ?_
      refine gs_bipush (w := 10) (pc := 71) C dX12_timetable_71 rfl ?_
      refine gs_aload_n (pc := 73) C 0 dX12_timetable_73 rfl rfl ?_
      refine gs_iload_n (pc := 74) C 3 dX12_timetable_74 rfl rfl ?_
      refine gs_iload (pc := 75) C 4 dX12_timetable_75 rfl ?_
      obtain ⟨v4, M5, e6, h⟩ := gs_o2 h
      refine gs_callVi (pc := 77) C [.int x3, .int x4] dX12_timetable_77 ml_X12_340 wy_X12_wakesNow (a_X12_wakesNow _ e6) (by decide) sh_147 (by decide) rfl rfl (Nat.le_of_ble_eq_true rfl) rfl ?_
      refine gs_isub (pc := 80) C dX12_timetable_80 ?_
      obtain ⟨M8, e7, h⟩ := gs_o1 h
      refine gs_iast (pc := 81) C dX12_timetable_81 sh_167 e7 ?_
      refine gs_iinc (v := x4 + (1 : Int32)) (ls' := [(4, .int (x4 + (1 : Int32))), (0, .ref 147), (1, .int x1), (2, .int x2), (3, .int x3)]) (pc := 82) C 4 dX12_timetable_82 rfl rfl (by decide) rfl ?_
      refine gs_goto (pc := 85) C 49 dX12_timetable_85 rfl ?_
      exact gs_sub [1, 2, 3, 4, 0] rfl (ih _ _ h)
set_option maxRecDepth 100000 in
set_option maxHeartbeats 4000000 in
theorem t_X12_timetable_38 {X : gs_X} (C : gs_C X RX12 cX12_timetable 6 (some .int) 81) {L : gs_L} {x1 : Int32} {x2 : Int32} {o3 : Int32} {M' : gs_M} (k : gs_AW X 94 [(0, .ref 147), (1, .int x1), (2, .int x2), (3, .int o3)] [] M' L) : ∀ (f : Nat) (x3 : Int32) (M : gs_M), l_X12_timetable_38 x1 x2 f x3 M = some (o3, M') → gs_AW X 38 [(0, .ref 147), (1, .int x1), (2, .int x2), (3, .int x3)] [] M L := by
  intro f
  induction f with
  | zero =>
    intro x3 M h
    cases h
  | succ f ih =>
    intro x3 M h
    rw [l_X12_timetable_38] at h
    refine gs_iload_n (pc := 38) C 3 dX12_timetable_38 rfl rfl ?_
    refine gs_aload_n (pc := 39) C 0 dX12_timetable_39 rfl rfl ?_
    refine gs_geti (pc := 40) C dX12_timetable_40 gk_12 fl_X12_286 sh_147 rfl ?_
    refine gs_icmp_ge (pc := 43) C 94 dX12_timetable_43 rfl (fun c1 => ?_) (fun c1 => ?_)
    · replace h := gs_ift c1 h
      obtain ⟨rfl, rfl⟩ := gs_i2 h
      exact k
    · replace h := gs_iff c1 h
      refine gs_iconst (w := 0) (pc := 46) C dX12_timetable_46 rfl ?_
      refine gs_istore (ls' := [(4, .int (0 : Int32)), (0, .ref 147), (1, .int x1), (2, .int x2), (3, .int x3)]) (pc := 47) C dX12_timetable_47 (by decide) rfl ?_
      obtain ⟨y2, M3, e4, h⟩ := gs_o2 h
      refine gs_sub [1, 2, 3, 4, 0] rfl (t_X12_timetable_49 C ?_ gs_FU _ _ e4)
      refine gs_iinc (v := x3 + (1 : Int32)) (ls' := [(3, .int (x3 + (1 : Int32))), (0, .ref 147), (1, .int x1), (2, .int x2), (4, .int y2)]) (pc := 88) C 3 dX12_timetable_88 rfl rfl (by decide) rfl ?_
      refine gs_goto (pc := 91) C 38 dX12_timetable_91 rfl ?_
      exact gs_sub [1, 2, 3, 0] rfl (ih _ _ h)
set_option maxRecDepth 100000 in
set_option maxHeartbeats 4000000 in
theorem t_X12_timetable_96 {X : gs_X} (C : gs_C X RX12 cX12_timetable 6 (some .int) 81) {L : gs_L} {x1 : Int32} {x2 : Int32} {o3 : Int32} {M' : gs_M} (k : gs_AW X 115 [(0, .ref 147), (1, .int x1), (2, .int x2), (3, .int o3)] [] M' L) : ∀ (f : Nat) (x3 : Int32) (M : gs_M), l_X12_timetable_96 x1 x2 f x3 M = some (o3, M') → gs_AW X 96 [(0, .ref 147), (1, .int x1), (2, .int x2), (3, .int x3)] [] M L := by
  intro f
  induction f with
  | zero =>
    intro x3 M h
    cases h
  | succ f ih =>
    intro x3 M h
    rw [l_X12_timetable_96] at h
    refine gs_iload_n (pc := 96) C 3 dX12_timetable_96 rfl rfl ?_
    refine gs_bipush (w := 9) (pc := 97) C dX12_timetable_97 rfl ?_
    refine gs_icmp_ge (pc := 99) C 115 dX12_timetable_99 rfl (fun c1 => ?_) (fun c1 => ?_)
    · replace h := gs_ift c1 h
      obtain ⟨rfl, rfl⟩ := gs_i2 h
      exact k
    · replace h := gs_iff c1 h
      refine gs_aload_n (pc := 102) C 0 dX12_timetable_102 rfl rfl ?_
      refine gs_getq (pc := 103) C dX12_timetable_103 gk_12 fl_X12_94 sh_147 rfl ?_
      refine gs_iload_n (pc := 106) C 3 dX12_timetable_106 rfl rfl ?_
      refine gs_iconst (w := (-1)) (pc := 107) C dX12_timetable_107 rfl ?_
      obtain ⟨M3, e2, h⟩ := gs_o1 h
      refine gs_iast (pc := 108) C dX12_timetable_108 sh_168 e2 ?_
      refine gs_iinc (v := x3 + (1 : Int32)) (ls' := [(3, .int (x3 + (1 : Int32))), (0, .ref 147), (1, .int x1), (2, .int x2)]) (pc := 109) C 3 dX12_timetable_109 rfl rfl (by decide) rfl ?_
      refine gs_goto (pc := 112) C 96 dX12_timetable_112 rfl ?_
      exact gs_sub [1, 2, 3, 0] rfl (ih _ _ h)
set_option maxRecDepth 100000 in
set_option maxHeartbeats 4000000 in
theorem t_X12_timetable_159 {X : gs_X} (C : gs_C X RX12 cX12_timetable 6 (some .int) 81) {L : gs_L} {x1 : Int32} {x2 : Int32} {x3 : Int32} {x4 : Int32} {x5 : Int32} {M' : gs_M} (k : gs_AW X 182 [(0, .ref 147), (1, .int x1), (2, .int x2), (3, .int x3), (4, .int x4), (5, .int x5)] [] M' L) : ∀ (f : Nat) (M : gs_M), l_X12_timetable_159 x1 x2 x3 x4 x5 f M = some (M') → gs_AW X 159 [(0, .ref 147), (1, .int x1), (2, .int x2), (3, .int x3), (4, .int x4), (5, .int x5)] [] M L := by
  intro f
  induction f with
  | zero =>
    intro M h
    cases h
  | succ f ih =>
    intro M h
    rw [l_X12_timetable_159] at h
    refine gs_aload_n (pc := 159) C 0 dX12_timetable_159 rfl rfl ?_
    refine gs_iload_n (pc := 160) C 1 dX12_timetable_160 rfl rfl ?_
    obtain ⟨v1, M2, e3, h⟩ := gs_o2 h
    refine gs_callVi (pc := 161) C [.int x1] dX12_timetable_161 ml_X12_423 wy_X12_mostBy (a_X12_mostBy _ e3) (by decide) sh_147 (by decide) rfl rfl (Nat.le_of_ble_eq_true rfl) rfl ?_
    refine gs_iload_n (pc := 164) C 3 dX12_timetable_164 rfl rfl ?_
    refine gs_icmp_eq (pc := 165) C 182 dX12_timetable_165 rfl (fun c4 => ?_) (fun c4 => ?_)
    · replace h := gs_ift c4 h
      obtain rfl := gs_i1 h
      exact k
    · replace h := gs_iff c4 h
      refine gs_aload_n (pc := 168) C 0 dX12_timetable_168 rfl rfl ?_
      refine gs_getq (pc := 169) C dX12_timetable_169 gk_12 fl_X12_94 sh_147 rfl ?_
      refine gs_iload (pc := 172) C 5 dX12_timetable_172 rfl ?_
      refine gs_dup2 (pc := 174) C dX12_timetable_174 rfl rfl ?_
      obtain ⟨v5, e6, h⟩ := gs_o1 h
      refine gs_iald (pc := 175) C dX12_timetable_175 sh_168 e6 ?_
      refine gs_iconst (w := 1) (pc := 176) C dX12_timetable_176 rfl ?_
      refine gs_iadd (pc := 177) C dX12_timetable_177 ?_
      obtain ⟨M8, e7, h⟩ := gs_o1 h
      refine gs_iast (pc := 178) C dX12_timetable_178 sh_168 e7 ?_
      refine gs_goto (pc := 179) C 159 dX12_timetable_179 rfl ?_
      exact ih _ h
set_option maxRecDepth 100000 in
set_option maxHeartbeats 4000000 in
theorem t_X12_timetable_140 {X : gs_X} (C : gs_C X RX12 cX12_timetable 6 (some .int) 81) {L : gs_L} {x1 : Int32} {x2 : Int32} {x3 : Int32} {o4 : Int32} {o5 : Int32} {M' : gs_M} (k : gs_AW X 203 [(0, .ref 147), (1, .int x1), (2, .int x2), (3, .int x3), (4, .int o4), (5, .int o5)] [] M' L) : ∀ (f : Nat) (x4 : Int32) (x5 : Int32) (M : gs_M), l_X12_timetable_140 x1 x2 x3 f x4 x5 M = some (o4, o5, M') → gs_AW X 140 [(0, .ref 147), (1, .int x1), (2, .int x2), (3, .int x3), (4, .int x4), (5, .int x5)] [] M L := by
  intro f
  induction f with
  | zero =>
    intro x4 x5 M h
    cases h
  | succ f ih =>
    intro x4 x5 M h
    rw [l_X12_timetable_140] at h
    refine gs_iload (pc := 140) C 5 dX12_timetable_140 rfl ?_
    refine gs_aload_n (pc := 142) C 0 dX12_timetable_142 rfl rfl ?_
    refine gs_getq (pc := 143) C dX12_timetable_143 gk_12 fl_X12_37 sh_147 rfl ?_
    refine gs_iconst (w := 0) (pc := 146) C dX12_timetable_146 rfl ?_
    obtain ⟨v1, e2, h⟩ := gs_o1 h
    refine gs_iald (pc := 147) C dX12_timetable_147 sh_152 e2 ?_
    refine gs_icmp_ge (pc := 148) C 203 dX12_timetable_148 rfl (fun c3 => ?_) (fun c3 => ?_)
    · replace h := gs_ift c3 h
      obtain ⟨rfl, rfl, rfl⟩ := gs_i3 h
      exact k
    · replace h := gs_iff c3 h
      refine gs_aload_n (pc := 151) C 0 dX12_timetable_151 rfl rfl ?_
      refine gs_getq (pc := 152) C dX12_timetable_152 gk_12 fl_X12_94 sh_147 rfl ?_
      refine gs_iload (pc := 155) C 5 dX12_timetable_155 rfl ?_
      refine gs_iconst (w := 0) (pc := 157) C dX12_timetable_157 rfl ?_
      obtain ⟨M5, e4, h⟩ := gs_o1 h
      refine gs_iast (pc := 158) C dX12_timetable_158 sh_168 e4 ?_
      obtain ⟨M6, e7, h⟩ := gs_o1 h
      refine t_X12_timetable_159 C ?_ gs_FU _ e7
      refine gs_bipush (w := 10) (pc := 182) C dX12_timetable_182 rfl ?_
      refine gs_iload (pc := 184) C 4 dX12_timetable_184 rfl ?_
      refine gs_imul (pc := 186) C dX12_timetable_186 ?_
      refine gs_aload_n (pc := 187) C 0 dX12_timetable_187 rfl rfl ?_
      refine gs_getq (pc := 188) C dX12_timetable_188 gk_12 fl_X12_94 sh_147 rfl ?_
      refine gs_iload (pc := 191) C 5 dX12_timetable_191 rfl ?_
      obtain ⟨v8, e9, h⟩ := gs_o1 h
      refine gs_iald (pc := 193) C dX12_timetable_193 sh_168 e9 ?_
      refine gs_iadd (pc := 194) C dX12_timetable_194 ?_
      refine gs_istore (ls' := [(4, .int (((10 : Int32) * x4) + v8)), (0, .ref 147), (1, .int x1), (2, .int x2), (3, .int x3), (5, .int x5)]) (pc := 195) C dX12_timetable_195 (by decide) rfl ?_
      refine gs_iinc (v := x5 + (1 : Int32)) (ls' := [(5, .int (x5 + (1 : Int32))), (4, .int (((10 : Int32) * x4) + v8)), (0, .ref 147), (1, .int x1), (2, .int x2), (3, .int x3)]) (pc := 197) C 5 dX12_timetable_197 rfl rfl (by decide) rfl ?_
      refine gs_goto (pc := 200) C 140 dX12_timetable_200 rfl ?_
      exact gs_sub [2, 3, 4, 5, 1, 0] rfl (ih _ _ _ h)
set_option maxRecDepth 100000 in
set_option maxHeartbeats 4000000 in
theorem a_X12_timetable (l : Launch) {M : gs_M} {L : gs_L} {x1 : Int32} {x2 : Int32} {rv : Int32} {Mz : gs_M} (h : f_X12_timetable M x1 x2 = some (rv, Mz)) : gs_Met l 81 yX12_timetable cX12_timetable 6 (some .int) [.ref 147, .int x1, .int x2] M L (some (.int rv)) Mz L := by
  unfold f_X12_timetable at h
  refine gs_of RX12 (by decide) rfl (Nat.le_of_ble_eq_true rfl) (fun X C E => ?_)
  show gs_AW X 0 [(0, .ref 147), (1, .int x1), (2, .int x2)] [] M L
  refine gs_aload_n (pc := 0) C 0 dX12_timetable_0 rfl rfl ?_
  refine gs_iconst (w := 0) (pc := 1) C dX12_timetable_1 rfl ?_
  obtain ⟨M2, e1, h⟩ := gs_o1 h
  refine gs_puti' (pc := 2) C dX12_timetable_2 gk_12 fp_X12_100 sh_147 rfl e1 ?_
  refine gs_aload_n (pc := 5) C 0 dX12_timetable_5 rfl rfl ?_
  refine gs_geti (pc := 6) C dX12_timetable_6 gk_12 fl_X12_286 sh_147 rfl ?_
  refine gs_if_eq (pc := 9) C 34 dX12_timetable_9 rfl (fun c3 => ?_) (fun c3 => ?_)
  · replace h := gs_ift c3 h
    refine gs_iconst (w := (-1)) (pc := 34) C dX12_timetable_34 rfl ?_
    obtain ⟨rfl, rfl⟩ := gs_i2 h
    exact gs_iret (pc := 35) C dX12_timetable_35 E
  · replace h := gs_iff c3 h
    refine gs_iload_n (pc := 12) C 1 dX12_timetable_12 rfl rfl ?_
    refine gs_i2l (pc := 13) C dX12_timetable_13 ?_
    refine gs_lconst (w := 1) (pc := 14) C dX12_timetable_14 rfl ?_
    refine gs_ldc2 (pc := 15) C dX12_timetable_15 wj_X12_266 ?_
    obtain ⟨v4, e5, h⟩ := gs_o1 h
    refine gs_callSi (pc := 18) C [.long (Int32.toInt64 x1), .long (1 : Int64), .long (2 : Int64)] dX12_timetable_18 ml_X12_221 wy_X12_isIn (a_X12_isIn _ e5) (by decide) rfl (Nat.le_of_ble_eq_true rfl) rfl ?_
    refine gs_if_eq (pc := 21) C 34 dX12_timetable_21 rfl (fun c6 => ?_) (fun c6 => ?_)
    · replace h := gs_ift c6 h
      refine gs_iconst (w := (-1)) (pc := 34) C dX12_timetable_34 rfl ?_
      obtain ⟨rfl, rfl⟩ := gs_i2 h
      exact gs_iret (pc := 35) C dX12_timetable_35 E
    · replace h := gs_iff c6 h
      refine gs_iload_n (pc := 24) C 2 dX12_timetable_24 rfl rfl ?_
      refine gs_i2l (pc := 25) C dX12_timetable_25 ?_
      refine gs_lconst (w := 0) (pc := 26) C dX12_timetable_26 rfl ?_
      refine gs_lconst (w := 1) (pc := 27) C dX12_timetable_27 rfl ?_
      obtain ⟨v7, e8, h⟩ := gs_o1 h
      refine gs_callSi (pc := 28) C [.long (Int32.toInt64 x2), .long (0 : Int64), .long (1 : Int64)] dX12_timetable_28 ml_X12_221 wy_X12_isIn (a_X12_isIn _ e8) (by decide) rfl (Nat.le_of_ble_eq_true rfl) rfl ?_
      refine gs_if_ne (pc := 31) C 36 dX12_timetable_31 rfl (fun c9 => ?_) (fun c9 => ?_)
      · replace h := gs_iff c9 h
        refine gs_iconst (w := 0) (pc := 36) C dX12_timetable_36 rfl ?_
        refine gs_istore_n (ls' := [(3, .int (0 : Int32)), (0, .ref 147), (1, .int x1), (2, .int x2)]) (pc := 37) C dX12_timetable_37 rfl (by decide) rfl ?_
        obtain ⟨y10, M11, e12, h⟩ := gs_o2 h
        refine gs_sub [1, 2, 3, 0] rfl (t_X12_timetable_38 C ?_ gs_FU _ _ e12)
        refine gs_iconst (w := 0) (pc := 94) C dX12_timetable_94 rfl ?_
        refine gs_istore_n (ls' := [(3, .int (0 : Int32)), (0, .ref 147), (1, .int x1), (2, .int x2)]) (pc := 95) C dX12_timetable_95 rfl (by decide) rfl ?_
        obtain ⟨y13, M14, e15, h⟩ := gs_o2 h
        refine gs_sub [1, 2, 3, 0] rfl (t_X12_timetable_96 C ?_ gs_FU _ _ e15)
        refine gs_aload_n (pc := 115) C 0 dX12_timetable_115 rfl rfl ?_
        refine gs_iload_n (pc := 116) C 1 dX12_timetable_116 rfl rfl ?_
        obtain ⟨v16, M17, e18, h⟩ := gs_o2 h
        refine gs_callVi (pc := 117) C [.int x1] dX12_timetable_117 ml_X12_423 wy_X12_mostBy (a_X12_mostBy _ e18) (by decide) sh_147 (by decide) rfl rfl (Nat.le_of_ble_eq_true rfl) rfl ?_
        refine gs_istore_n (ls' := [(3, .int v16), (0, .ref 147), (1, .int x1), (2, .int x2)]) (pc := 120) C dX12_timetable_120 rfl (by decide) rfl ?_
        refine gs_iload_n (pc := 121) C 0 dX12_timetable_121 rfl rfl ?_
        refine gs_if_ge (pc := 122) C 127 dX12_timetable_122 rfl (fun c19 => ?_) (fun c19 => ?_)
        · replace h := gs_ift c19 h
          refine gs_iload_n (pc := 127) C 3 dX12_timetable_127 rfl rfl ?_
          refine gs_iconst (w := 1) (pc := 128) C dX12_timetable_128 rfl ?_
          refine gs_icmp_ne (pc := 129) C 134 dX12_timetable_129 rfl (fun c20 => ?_) (fun c20 => ?_)
          · replace h := gs_iff c20 h
            refine gs_iconst (w := 0) (pc := 134) C dX12_timetable_134 rfl ?_
            refine gs_istore (ls' := [(4, .int (0 : Int32)), (3, .int v16), (0, .ref 147), (1, .int x1), (2, .int x2)]) (pc := 135) C dX12_timetable_135 (by decide) rfl ?_
            refine gs_iconst (w := 0) (pc := 137) C dX12_timetable_137 rfl ?_
            refine gs_istore (ls' := [(5, .int (0 : Int32)), (4, .int (0 : Int32)), (3, .int v16), (0, .ref 147), (1, .int x1), (2, .int x2)]) (pc := 138) C dX12_timetable_138 (by decide) rfl ?_
            obtain ⟨y21, y22, M23, e24, h⟩ := gs_o3 h
            refine gs_sub [3, 4, 5, 2, 1, 0] rfl (t_X12_timetable_140 C ?_ gs_FU _ _ _ e24)
            refine gs_iload (pc := 203) C 4 dX12_timetable_203 rfl ?_
            obtain ⟨rfl, rfl⟩ := gs_i2 h
            exact gs_iret (pc := 205) C dX12_timetable_205 E
          · replace h := gs_ift c20 h
            refine gs_iload_n (pc := 132) C 0 dX12_timetable_132 rfl rfl ?_
            obtain ⟨rfl, rfl⟩ := gs_i2 h
            exact gs_iret (pc := 133) C dX12_timetable_133 E
        · replace h := gs_iff c19 h
          refine gs_iconst (w := (-1)) (pc := 125) C dX12_timetable_125 rfl ?_
          obtain ⟨rfl, rfl⟩ := gs_i2 h
          exact gs_iret (pc := 126) C dX12_timetable_126 E
      · replace h := gs_ift c9 h
        refine gs_iconst (w := (-1)) (pc := 34) C dX12_timetable_34 rfl ?_
        obtain ⟨rfl, rfl⟩ := gs_i2 h
        exact gs_iret (pc := 35) C dX12_timetable_35 E
set_option maxRecDepth 100000 in
set_option maxHeartbeats 4000000 in
theorem t_X12_undo_26 {X : gs_X} (C : gs_C X RX12 cX12_undo 2 (some .int) 0) {L : gs_L} {o1 : Int32} {M' : gs_M} (k : gs_AW X 60 [(0, .ref 147), (1, .int o1)] [] M' L) : ∀ (f : Nat) (x1 : Int32) (M : gs_M), l_X12_undo_26  f x1 M = some (o1, M') → gs_AW X 26 [(0, .ref 147), (1, .int x1)] [] M L := by
  intro f
  induction f with
  | zero =>
    intro x1 M h
    cases h
  | succ f ih =>
    intro x1 M h
    rw [l_X12_undo_26] at h
    refine gs_iload_n (pc := 26) C 1 dX12_undo_26 rfl rfl ?_
    refine gs_sipush (w := 533) (pc := 27) C dX12_undo_27 rfl ?_
    refine gs_icmp_ge (pc := 30) C 60 dX12_undo_30 rfl (fun c1 => ?_) (fun c1 => ?_)
    · replace h := gs_ift c1 h
      obtain ⟨rfl, rfl⟩ := gs_i2 h
      exact k
    · replace h := gs_iff c1 h
      refine gs_aload_n (pc := 33) C 0 dX12_undo_33 rfl rfl ?_
      refine gs_getq (pc := 34) C dX12_undo_34 gk_12 fl_X12_55 sh_147 rfl ?_
      refine gs_iload_n (pc := 37) C 1 dX12_undo_37 rfl rfl ?_
      refine gs_aload_n (pc := 38) C 0 dX12_undo_38 rfl rfl ?_
      refine gs_getq (pc := 39) C dX12_undo_39 gk_12 fl_X12_68 sh_147 rfl ?_
      refine gs_sipush (w := 533) (pc := 42) C dX12_undo_42 rfl ?_
      refine gs_aload_n (pc := 45) C 0 dX12_undo_45 rfl rfl ?_
      refine gs_geti (pc := 46) C dX12_undo_46 gk_12 fl_X12_292 sh_147 rfl ?_
      refine gs_imul (pc := 49) C dX12_undo_49 ?_
      refine gs_iload_n (pc := 50) C 1 dX12_undo_50 rfl rfl ?_
      refine gs_iadd (pc := 51) C dX12_undo_51 ?_
      obtain ⟨v2, e3, h⟩ := gs_o1 h
      refine gs_iald (pc := 52) C dX12_undo_52 sh_160 e3 ?_
      obtain ⟨M5, e4, h⟩ := gs_o1 h
      refine gs_iast (pc := 53) C dX12_undo_53 sh_158 e4 ?_
      refine gs_iinc (v := x1 + (1 : Int32)) (ls' := [(1, .int (x1 + (1 : Int32))), (0, .ref 147)]) (pc := 54) C 1 dX12_undo_54 rfl rfl (by decide) rfl ?_
      refine gs_goto (pc := 57) C 26 dX12_undo_57 rfl ?_
      exact gs_sub [1, 0] rfl (ih _ _ h)
set_option maxRecDepth 100000 in
set_option maxHeartbeats 4000000 in
theorem a_X12_undo (l : Launch) {M : gs_M} {L : gs_L} {rv : Int32} {Mz : gs_M} (h : f_X12_undo M = some (rv, Mz)) : gs_Met l 0 yX12_undo cX12_undo 2 (some .int) [.ref 147] M L (some (.int rv)) Mz L := by
  unfold f_X12_undo at h
  refine gs_of RX12 (by decide) rfl (Nat.le_of_ble_eq_true rfl) (fun X C E => ?_)
  show gs_AW X 0 [(0, .ref 147)] [] M L
  refine gs_aload_n (pc := 0) C 0 dX12_undo_0 rfl rfl ?_
  refine gs_iconst (w := 0) (pc := 1) C dX12_undo_1 rfl ?_
  obtain ⟨M2, e1, h⟩ := gs_o1 h
  refine gs_puti' (pc := 2) C dX12_undo_2 gk_12 fp_X12_100 sh_147 rfl e1 ?_
  refine gs_aload_n (pc := 5) C 0 dX12_undo_5 rfl rfl ?_
  refine gs_geti (pc := 6) C dX12_undo_6 gk_12 fl_X12_292 sh_147 rfl ?_
  refine gs_if_ne (pc := 9) C 14 dX12_undo_9 rfl (fun c3 => ?_) (fun c3 => ?_)
  · replace h := gs_iff c3 h
    refine gs_aload_n (pc := 14) C 0 dX12_undo_14 rfl rfl ?_
    refine gs_dup (pc := 15) C dX12_undo_15 rfl ?_
    refine gs_geti (pc := 16) C dX12_undo_16 gk_12 fl_X12_292 sh_147 rfl ?_
    refine gs_iconst (w := 1) (pc := 19) C dX12_undo_19 rfl ?_
    refine gs_isub (pc := 20) C dX12_undo_20 ?_
    obtain ⟨M5, e4, h⟩ := gs_o1 h
    refine gs_puti' (pc := 21) C dX12_undo_21 gk_12 fp_X12_292 sh_147 rfl e4 ?_
    refine gs_iconst (w := 0) (pc := 24) C dX12_undo_24 rfl ?_
    refine gs_istore_n (ls' := [(1, .int (0 : Int32)), (0, .ref 147)]) (pc := 25) C dX12_undo_25 rfl (by decide) rfl ?_
    obtain ⟨y6, M7, e8, h⟩ := gs_o2 h
    refine gs_sub [1, 0] rfl (t_X12_undo_26 C ?_ gs_FU _ _ e8)
    refine gs_aload_n (pc := 60) C 0 dX12_undo_60 rfl rfl ?_
    refine gs_geti (pc := 61) C dX12_undo_61 gk_12 fl_X12_292 sh_147 rfl ?_
    obtain ⟨rfl, rfl⟩ := gs_i2 h
    exact gs_iret (pc := 64) C dX12_undo_64 E
  · replace h := gs_ift c3 h
    refine gs_iconst (w := (-1)) (pc := 12) C dX12_undo_12 rfl ?_
    obtain ⟨rfl, rfl⟩ := gs_i2 h
    exact gs_iret (pc := 13) C dX12_undo_13 E
set_option maxRecDepth 100000 in
set_option maxHeartbeats 4000000 in
theorem a_X12_wakes (l : Launch) {M : gs_M} {L : gs_L} {x1 : Int32} {x2 : Int32} {rv : Int32} {Mz : gs_M} (h : f_X12_wakes M x1 x2 = some (rv, Mz)) : gs_Met l 81 yX12_wakes cX12_wakes 3 (some .int) [.ref 147, .int x1, .int x2] M L (some (.int rv)) Mz L := by
  unfold f_X12_wakes at h
  refine gs_of RX12 (by decide) rfl (Nat.le_of_ble_eq_true rfl) (fun X C E => ?_)
  show gs_AW X 0 [(0, .ref 147), (1, .int x1), (2, .int x2)] [] M L
  refine gs_aload_n (pc := 0) C 0 dX12_wakes_0 rfl rfl ?_
  refine gs_iconst (w := 0) (pc := 1) C dX12_wakes_1 rfl ?_
  obtain ⟨M2, e1, h⟩ := gs_o1 h
  refine gs_puti' (pc := 2) C dX12_wakes_2 gk_12 fp_X12_100 sh_147 rfl e1 ?_
  refine gs_aload_n (pc := 5) C 0 dX12_wakes_5 rfl rfl ?_
  refine gs_iload_n (pc := 6) C 1 dX12_wakes_6 rfl rfl ?_
  obtain ⟨v3, e4, h⟩ := gs_o1 h
  refine gs_callVi (pc := 7) C [.int x1] dX12_wakes_7 ml_X12_347 wy_X12_isPerson (a_X12_isPerson _ e4) (by decide) sh_147 (by decide) rfl rfl (Nat.le_of_ble_eq_true rfl) rfl ?_
  obtain ⟨y5, M6, e7, h⟩ := gs_o2 h
  have j8 : gs_AW X 31 [(0, .ref 147), (1, .int x1), (2, .int x2)] [.int y5] M6 L := by
    obtain ⟨rfl, rfl⟩ := gs_i2 h
    exact gs_iret (pc := 31) C dX12_wakes_31 E
  refine gs_if_eq (pc := 10) C 30 dX12_wakes_10 rfl (fun c9 => ?_) (fun c9 => ?_)
  · replace e7 := gs_ift c9 e7
    refine gs_iconst (w := (-1)) (pc := 30) C dX12_wakes_30 rfl ?_
    obtain ⟨rfl, rfl⟩ := gs_i2 e7
    exact j8
  · replace e7 := gs_iff c9 e7
    refine gs_aload_n (pc := 13) C 0 dX12_wakes_13 rfl rfl ?_
    refine gs_iload_n (pc := 14) C 2 dX12_wakes_14 rfl rfl ?_
    obtain ⟨v10, e11, e7⟩ := gs_o1 e7
    refine gs_callVi (pc := 15) C [.int x2] dX12_wakes_15 ml_X12_366 wy_X12_isHour (a_X12_isHour _ e11) (by decide) sh_147 (by decide) rfl rfl (Nat.le_of_ble_eq_true rfl) rfl ?_
    refine gs_if_eq (pc := 18) C 30 dX12_wakes_18 rfl (fun c12 => ?_) (fun c12 => ?_)
    · replace e7 := gs_ift c12 e7
      refine gs_iconst (w := (-1)) (pc := 30) C dX12_wakes_30 rfl ?_
      obtain ⟨rfl, rfl⟩ := gs_i2 e7
      exact j8
    · replace e7 := gs_iff c12 e7
      refine gs_aload_n (pc := 21) C 0 dX12_wakes_21 rfl rfl ?_
      refine gs_iload_n (pc := 22) C 1 dX12_wakes_22 rfl rfl ?_
      refine gs_iload_n (pc := 23) C 2 dX12_wakes_23 rfl rfl ?_
      obtain ⟨v13, M14, e15, e7⟩ := gs_o2 e7
      refine gs_callVi (pc := 24) C [.int x1, .int x2] dX12_wakes_24 ml_X12_340 wy_X12_wakesNow (a_X12_wakesNow _ e15) (by decide) sh_147 (by decide) rfl rfl (Nat.le_of_ble_eq_true rfl) rfl ?_
      refine gs_goto (pc := 27) C 31 dX12_wakes_27 rfl ?_
      obtain ⟨rfl, rfl⟩ := gs_i2 e7
      exact j8
set_option maxRecDepth 100000 in
set_option maxHeartbeats 4000000 in
theorem a_X12_watch (l : Launch) {M : gs_M} {L : gs_L} {x1 : Int32} {rv : Int32} {Mz : gs_M} (h : f_X12_watch M x1 = some (rv, Mz)) : gs_Met l 1 yX12_watch cX12_watch 2 (some .boolean) [.ref 147, .int x1] M L (some (.int rv)) Mz L := by
  unfold f_X12_watch at h
  refine gs_of RX12 (by decide) rfl (Nat.le_of_ble_eq_true rfl) (fun X C E => ?_)
  show gs_AW X 0 [(0, .ref 147), (1, .int x1)] [] M L
  refine gs_aload_n (pc := 0) C 0 dX12_watch_0 rfl rfl ?_
  refine gs_iconst (w := 0) (pc := 1) C dX12_watch_1 rfl ?_
  obtain ⟨M2, e1, h⟩ := gs_o1 h
  refine gs_puti' (pc := 2) C dX12_watch_2 gk_12 fp_X12_100 sh_147 rfl e1 ?_
  refine gs_iload_n (pc := 5) C 1 dX12_watch_5 rfl rfl ?_
  refine gs_iconst (w := (-1)) (pc := 6) C dX12_watch_6 rfl ?_
  refine gs_icmp_eq (pc := 7) C 28 dX12_watch_7 rfl (fun c3 => ?_) (fun c3 => ?_)
  · replace h := gs_ift c3 h
    refine gs_aload_n (pc := 28) C 0 dX12_watch_28 rfl rfl ?_
    refine gs_iload_n (pc := 29) C 1 dX12_watch_29 rfl rfl ?_
    obtain ⟨M5, e4, h⟩ := gs_o1 h
    refine gs_puti' (pc := 30) C dX12_watch_30 gk_12 fp_X12_62 sh_147 rfl e4 ?_
    refine gs_iconst (w := 1) (pc := 33) C dX12_watch_33 rfl ?_
    obtain ⟨rfl, rfl⟩ := gs_i2 h
    exact gs_zret (pc := 34) C (by decide) dX12_watch_34 E
  · replace h := gs_iff c3 h
    refine gs_iload_n (pc := 10) C 1 dX12_watch_10 rfl rfl ?_
    refine gs_i2l (pc := 11) C dX12_watch_11 ?_
    refine gs_lconst (w := 0) (pc := 12) C dX12_watch_12 rfl ?_
    refine gs_aload_n (pc := 13) C 0 dX12_watch_13 rfl rfl ?_
    refine gs_geti (pc := 14) C dX12_watch_14 gk_12 fl_X12_281 sh_147 rfl ?_
    refine gs_iconst (w := 1) (pc := 17) C dX12_watch_17 rfl ?_
    refine gs_isub (pc := 18) C dX12_watch_18 ?_
    refine gs_i2l (pc := 19) C dX12_watch_19 ?_
    obtain ⟨v6, e7, h⟩ := gs_o1 h
    refine gs_callSi (pc := 20) C [.long (Int32.toInt64 x1), .long (0 : Int64), .long (Int32.toInt64 ((M2 147 26) - (1 : Int32)))] dX12_watch_20 ml_X12_221 wy_X12_isIn (a_X12_isIn _ e7) (by decide) rfl (Nat.le_of_ble_eq_true rfl) rfl ?_
    refine gs_if_ne (pc := 23) C 28 dX12_watch_23 rfl (fun c8 => ?_) (fun c8 => ?_)
    · replace h := gs_iff c8 h
      refine gs_aload_n (pc := 28) C 0 dX12_watch_28 rfl rfl ?_
      refine gs_iload_n (pc := 29) C 1 dX12_watch_29 rfl rfl ?_
      obtain ⟨M10, e9, h⟩ := gs_o1 h
      refine gs_puti' (pc := 30) C dX12_watch_30 gk_12 fp_X12_62 sh_147 rfl e9 ?_
      refine gs_iconst (w := 1) (pc := 33) C dX12_watch_33 rfl ?_
      obtain ⟨rfl, rfl⟩ := gs_i2 h
      exact gs_zret (pc := 34) C (by decide) dX12_watch_34 E
    · replace h := gs_ift c8 h
      refine gs_iconst (w := 0) (pc := 26) C dX12_watch_26 rfl ?_
      obtain ⟨rfl, rfl⟩ := gs_i2 h
      exact gs_zret (pc := 27) C (by decide) dX12_watch_27 E
set_option maxRecDepth 100000 in
set_option maxHeartbeats 4000000 in
theorem a_X12_watched (l : Launch) {M : gs_M} {L : gs_L} {x1 : Int32} {x2 : Int32} {rv : Int32} {Mz : gs_M} (h : f_X12_watched M x1 x2 = some (rv, Mz)) : gs_Met l 1 yX12_watched cX12_watched 3 (some .int) [.ref 147, .int x1, .int x2] M L (some (.int rv)) Mz L := by
  unfold f_X12_watched at h
  refine gs_of RX12 (by decide) rfl (Nat.le_of_ble_eq_true rfl) (fun X C E => ?_)
  show gs_AW X 0 [(0, .ref 147), (1, .int x1), (2, .int x2)] [] M L
  refine gs_aload_n (pc := 0) C 0 dX12_watched_0 rfl rfl ?_
  refine gs_iconst (w := 0) (pc := 1) C dX12_watched_1 rfl ?_
  obtain ⟨M2, e1, h⟩ := gs_o1 h
  refine gs_puti' (pc := 2) C dX12_watched_2 gk_12 fp_X12_100 sh_147 rfl e1 ?_
  refine gs_aload_n (pc := 5) C 0 dX12_watched_5 rfl rfl ?_
  refine gs_iload_n (pc := 6) C 1 dX12_watched_6 rfl rfl ?_
  obtain ⟨v3, e4, h⟩ := gs_o1 h
  refine gs_callVi (pc := 7) C [.int x1] dX12_watched_7 ml_X12_355 wy_X12_isWatch (a_X12_isWatch _ e4) (by decide) sh_147 (by decide) rfl rfl (Nat.le_of_ble_eq_true rfl) rfl ?_
  obtain ⟨y5, e6, h⟩ := gs_o1 h
  have j7 : gs_AW X 37 [(0, .ref 147), (1, .int x1), (2, .int x2)] [.int y5] M2 L := by
    obtain ⟨rfl, rfl⟩ := gs_i2 h
    exact gs_iret (pc := 37) C dX12_watched_37 E
  refine gs_if_eq (pc := 10) C 34 dX12_watched_10 rfl (fun c8 => ?_) (fun c8 => ?_)
  · replace e6 := gs_ift c8 e6
    refine gs_ldcw (pc := 34) C dX12_watched_34 wk_X12_360 ?_
    obtain rfl := gs_i1 e6
    exact j7
  · replace e6 := gs_iff c8 e6
    refine gs_iload_n (pc := 13) C 2 dX12_watched_13 rfl rfl ?_
    refine gs_i2l (pc := 14) C dX12_watched_14 ?_
    refine gs_lconst (w := 0) (pc := 15) C dX12_watched_15 rfl ?_
    refine gs_ldc2 (pc := 16) C dX12_watched_16 wj_X12_358 ?_
    obtain ⟨v9, e10, e6⟩ := gs_o1 e6
    refine gs_callSi (pc := 19) C [.long (Int32.toInt64 x2), .long (0 : Int64), .long (8 : Int64)] dX12_watched_19 ml_X12_221 wy_X12_isIn (a_X12_isIn _ e10) (by decide) rfl (Nat.le_of_ble_eq_true rfl) rfl ?_
    refine gs_if_eq (pc := 22) C 34 dX12_watched_22 rfl (fun c11 => ?_) (fun c11 => ?_)
    · replace e6 := gs_ift c11 e6
      refine gs_ldcw (pc := 34) C dX12_watched_34 wk_X12_360 ?_
      obtain rfl := gs_i1 e6
      exact j7
    · replace e6 := gs_iff c11 e6
      refine gs_aload_n (pc := 25) C 0 dX12_watched_25 rfl rfl ?_
      refine gs_iload_n (pc := 26) C 1 dX12_watched_26 rfl rfl ?_
      refine gs_iload_n (pc := 27) C 2 dX12_watched_27 rfl rfl ?_
      obtain ⟨v12, e13, e6⟩ := gs_o1 e6
      refine gs_callVi (pc := 28) C [.int x1, .int x2] dX12_watched_28 ml_X12_334 wy_X12_watchedBy (a_X12_watchedBy _ e13) (by decide) sh_147 (by decide) rfl rfl (Nat.le_of_ble_eq_true rfl) rfl ?_
      refine gs_goto (pc := 31) C 37 dX12_watched_31 rfl ?_
      obtain rfl := gs_i1 e6
      exact j7
set_option maxRecDepth 100000 in
set_option maxHeartbeats 4000000 in
theorem t_X12_held_5 {X : gs_X} (C : gs_C X RX12 cX12_held 7 (some .long) 80) {L : gs_L} {x1 : Int32} {x2 : Int32} {o3 : Int64} {o5 : Int32} {M' : gs_M} (k : gs_AW X 81 [(0, .ref 147), (1, .int x1), (2, .int x2), (3, .long o3), (5, .int o5)] [] M' L) : ∀ (f : Nat) (x3 : Int64) (x5 : Int32) (M : gs_M), l_X12_held_5 x1 x2 f x3 x5 M = some (o3, o5, M') → gs_AW X 5 [(0, .ref 147), (1, .int x1), (2, .int x2), (3, .long x3), (5, .int x5)] [] M L := by
  intro f
  induction f with
  | zero =>
    intro x3 x5 M h
    cases h
  | succ f ih =>
    intro x3 x5 M h
    rw [l_X12_held_5] at h
    refine gs_iload (pc := 5) C 4 dX12_held_5 rfl ?_
    refine gs_aload_n (pc := 7) C 0 dX12_held_7 rfl rfl ?_
    refine gs_geti (pc := 8) C dX12_held_8 gk_12 fl_X12_289 sh_147 rfl ?_
    refine gs_icmp_ge (pc := 11) C 81 dX12_held_11 rfl (fun c1 => ?_) (fun c1 => ?_)
    · replace h := gs_ift c1 h
      obtain ⟨rfl, rfl, rfl⟩ := gs_i3 h
      exact k
    · replace h := gs_iff c1 h
      refine gs_aload_n (pc := 14) C 0 dX12_held_14 rfl rfl ?_
      refine gs_aload_n (pc := 15) C 0 dX12_held_15 rfl rfl ?_
      refine gs_getq (pc := 16) C dX12_held_16 gk_12 fl_X12_75 sh_147 rfl ?_
      refine gs_iload (pc := 19) C 4 dX12_held_19 rfl ?_
      obtain ⟨v2, e3, h⟩ := gs_o1 h
      refine gs_iald (pc := 21) C dX12_held_21 sh_162 e3 ?_
      refine gs_iload_n (pc := 22) C 1 dX12_held_22 rfl rfl ?_
      have j15 : gs_AW X 31 [(0, .ref 147), (1, .int x1), (2, .int x2), (3, .long x3), (5, .int x5)] [.int (if v2 = x1 then x2 else (0 : Int32) : Int32), .ref 147] M L := by
        refine gs_aload_n (pc := 31) C 0 dX12_held_31 rfl rfl ?_
        refine gs_getq (pc := 32) C dX12_held_32 gk_12 fl_X12_75 sh_147 rfl ?_
        refine gs_iload (pc := 35) C 4 dX12_held_35 rfl ?_
        obtain ⟨v4, e5, h⟩ := gs_o1 h
        refine gs_iald (pc := 37) C dX12_held_37 sh_162 e5 ?_
        refine gs_aload_n (pc := 38) C 0 dX12_held_38 rfl rfl ?_
        refine gs_getq (pc := 39) C dX12_held_39 gk_12 fl_X12_78 sh_147 rfl ?_
        refine gs_iload (pc := 42) C 4 dX12_held_42 rfl ?_
        obtain ⟨v6, e7, h⟩ := gs_o1 h
        refine gs_iald (pc := 44) C dX12_held_44 sh_163 e7 ?_
        obtain ⟨v8, M9, e10, h⟩ := gs_o2 h
        refine gs_callVi (pc := 45) C [.int (if v2 = x1 then x2 else (0 : Int32) : Int32), .int v4, .int v6] dX12_held_45 ml_X12_312 wy_X12_wakesBy (a_X12_wakesBy _ e10) (by decide) sh_147 (by decide) rfl rfl (Nat.le_of_ble_eq_true rfl) rfl ?_
        refine gs_istore (ls' := [(6, .int v8), (0, .ref 147), (1, .int x1), (2, .int x2), (3, .long x3), (5, .int x5)]) (pc := 48) C dX12_held_48 (by decide) rfl ?_
        refine gs_lload_n (pc := 50) C 4 dX12_held_50 rfl rfl ?_
        refine gs_aload_n (pc := 51) C 1 dX12_held_51 rfl rfl ?_
        refine gs_getq (pc := 52) C dX12_held_52 gk_12 fl_X12_81 sh_147 rfl ?_
        refine gs_iload (pc := 55) C 5 dX12_held_55 rfl ?_
        obtain ⟨v11, e12, h⟩ := gs_o1 h
        refine gs_zald (pc := 57) C dX12_held_57 sh_164 e12 ?_
        have j13 : gs_AW X 73 [(0, .ref 147), (1, .int x1), (2, .int x2), (3, .long x3), (5, .int x5), (6, .int v8)] [.long (if v11 = (0 : Int32) then (Int32.toInt64 ((10 : Int32) - v8)) else (Int32.toInt64 v8) : Int64), .long x3] M9 L := by
          refine gs_lmul (pc := 73) C dX12_held_73 ?_
          refine gs_lstore_n (ls' := [(3, .long (x3 * (if v11 = (0 : Int32) then (Int32.toInt64 ((10 : Int32) - v8)) else (Int32.toInt64 v8) : Int64))), (0, .ref 147), (1, .int x1), (2, .int x2), (5, .int x5), (6, .int v8)]) (pc := 74) C dX12_held_74 rfl (by decide) rfl ?_
          refine gs_iinc (v := x5 + (1 : Int32)) (ls' := [(5, .int (x5 + (1 : Int32))), (3, .long (x3 * (if v11 = (0 : Int32) then (Int32.toInt64 ((10 : Int32) - v8)) else (Int32.toInt64 v8) : Int64))), (0, .ref 147), (1, .int x1), (2, .int x2), (6, .int v8)]) (pc := 75) C 4 dX12_held_75 rfl rfl (by decide) rfl ?_
          refine gs_goto (pc := 78) C 5 dX12_held_78 rfl ?_
          exact gs_sub [2, 3, 4, 1, 0] rfl (ih _ _ _ h)
        refine gs_if_eq (pc := 58) C 67 dX12_held_58 rfl (fun c14 => ?_) (fun c14 => ?_)
        · refine gs_bipush (w := 10) (pc := 67) C dX12_held_67 rfl ?_
          refine gs_iload (pc := 69) C 0 dX12_held_69 rfl ?_
          refine gs_isub (pc := 71) C dX12_held_71 ?_
          refine gs_i2l (pc := 72) C dX12_held_72 ?_
          simp only [if_pos c14] at j13
          exact gs_sub [1, 2, 3, 4, 5, 0] rfl (j13)
        · refine gs_iload (pc := 61) C 0 dX12_held_61 rfl ?_
          refine gs_i2l (pc := 63) C dX12_held_63 ?_
          refine gs_goto (pc := 64) C 73 dX12_held_64 rfl ?_
          simp only [if_neg c14] at j13
          exact gs_sub [1, 2, 3, 4, 5, 0] rfl (j13)
      refine gs_icmp_ne (pc := 23) C 30 dX12_held_23 rfl (fun c16 => ?_) (fun c16 => ?_)
      · refine gs_iconst (w := 0) (pc := 30) C dX12_held_30 rfl ?_
        simp only [if_neg c16] at j15
        exact j15
      · refine gs_iload_n (pc := 26) C 2 dX12_held_26 rfl rfl ?_
        refine gs_goto (pc := 27) C 31 dX12_held_27 rfl ?_
        simp only [if_pos c16] at j15
        exact j15
set_option maxRecDepth 100000 in
set_option maxHeartbeats 4000000 in
theorem a_X12_held (l : Launch) {M : gs_M} {L : gs_L} {x1 : Int32} {x2 : Int32} {rv : Int64} {Mz : gs_M} (h : f_X12_held M x1 x2 = some (rv, Mz)) : gs_Met l 80 yX12_held cX12_held 7 (some .long) [.ref 147, .int x1, .int x2] M L (some (.long rv)) Mz L := by
  unfold f_X12_held at h
  refine gs_of RX12 (by decide) rfl (Nat.le_of_ble_eq_true rfl) (fun X C E => ?_)
  show gs_AW X 0 [(0, .ref 147), (1, .int x1), (2, .int x2)] [] M L
  refine gs_lconst (w := 1) (pc := 0) C dX12_held_0 rfl ?_
  refine gs_lstore_n (ls' := [(3, .long (1 : Int64)), (0, .ref 147), (1, .int x1), (2, .int x2)]) (pc := 1) C dX12_held_1 rfl (by decide) rfl ?_
  refine gs_iconst (w := 0) (pc := 2) C dX12_held_2 rfl ?_
  refine gs_istore (ls' := [(5, .int (0 : Int32)), (3, .long (1 : Int64)), (0, .ref 147), (1, .int x1), (2, .int x2)]) (pc := 3) C dX12_held_3 (by decide) rfl ?_
  obtain ⟨y1, y2, M3, e4, h⟩ := gs_o3 h
  refine gs_sub [2, 3, 4, 1, 0] rfl (t_X12_held_5 C ?_ gs_FU _ _ _ e4)
  refine gs_lload_n (pc := 81) C 3 dX12_held_81 rfl rfl ?_
  obtain ⟨rfl, rfl⟩ := gs_i2 h
  exact gs_lret (pc := 82) C dX12_held_82 E
set_option maxRecDepth 100000 in
set_option maxHeartbeats 4000000 in
theorem t_X12_whoBy_4 {X : gs_X} (C : gs_C X RX12 cX12_whoBy 4 (some .int) 81) {L : gs_L} {x1 : Int32} {o2 : Int32} {o3 : Int32} {M' : gs_M} (k : gs_AW X 36 [(0, .ref 147), (1, .int x1), (2, .int o2), (3, .int o3)] [] M' L) : ∀ (f : Nat) (x2 : Int32) (x3 : Int32) (M : gs_M), l_X12_whoBy_4 x1 f x2 x3 M = some (o2, o3, M') → gs_AW X 4 [(0, .ref 147), (1, .int x1), (2, .int x2), (3, .int x3)] [] M L := by
  intro f
  induction f with
  | zero =>
    intro x2 x3 M h
    cases h
  | succ f ih =>
    intro x2 x3 M h
    rw [l_X12_whoBy_4] at h
    refine gs_iload_n (pc := 4) C 3 dX12_whoBy_4 rfl rfl ?_
    refine gs_aload_n (pc := 5) C 0 dX12_whoBy_5 rfl rfl ?_
    refine gs_geti (pc := 6) C dX12_whoBy_6 gk_12 fl_X12_286 sh_147 rfl ?_
    refine gs_icmp_ge (pc := 9) C 36 dX12_whoBy_9 rfl (fun c1 => ?_) (fun c1 => ?_)
    · replace h := gs_ift c1 h
      obtain ⟨rfl, rfl, rfl⟩ := gs_i3 h
      exact k
    · replace h := gs_iff c1 h
      refine gs_aload_n (pc := 12) C 0 dX12_whoBy_12 rfl rfl ?_
      refine gs_iload_n (pc := 13) C 3 dX12_whoBy_13 rfl rfl ?_
      refine gs_iload_n (pc := 14) C 1 dX12_whoBy_14 rfl rfl ?_
      obtain ⟨v2, M3, e4, h⟩ := gs_o2 h
      refine gs_callVl (pc := 15) C [.int x3, .int x1] dX12_whoBy_15 ml_X12_408 wy_X12_held (a_X12_held _ e4) (by decide) sh_147 (by decide) rfl rfl (Nat.le_of_ble_eq_true rfl) rfl ?_
      refine gs_aload_n (pc := 18) C 0 dX12_whoBy_18 rfl rfl ?_
      refine gs_iload_n (pc := 19) C 2 dX12_whoBy_19 rfl rfl ?_
      refine gs_iload_n (pc := 20) C 1 dX12_whoBy_20 rfl rfl ?_
      obtain ⟨v5, M6, e7, h⟩ := gs_o2 h
      refine gs_callVl (pc := 21) C [.int x2, .int x1] dX12_whoBy_21 ml_X12_408 wy_X12_held (a_X12_held _ e7) (by decide) sh_147 (by decide) rfl rfl (Nat.le_of_ble_eq_true rfl) rfl ?_
      refine gs_lcmp (pc := 24) C dX12_whoBy_24 ?_
      have j8 : gs_AW X 30 [(0, .ref 147), (1, .int x1), (2, .int (if (lg_cmp v2 v5) ≤ (0 : Int32) then x2 else x3 : Int32)), (3, .int x3)] [] M6 L := by
        refine gs_iinc (v := x3 + (1 : Int32)) (ls' := [(3, .int (x3 + (1 : Int32))), (0, .ref 147), (1, .int x1), (2, .int (if (lg_cmp v2 v5) ≤ (0 : Int32) then x2 else x3 : Int32))]) (pc := 30) C 3 dX12_whoBy_30 rfl rfl (by decide) rfl ?_
        refine gs_goto (pc := 33) C 4 dX12_whoBy_33 rfl ?_
        exact gs_sub [1, 2, 3, 0] rfl (ih _ _ _ h)
      refine gs_if_le (pc := 25) C 30 dX12_whoBy_25 rfl (fun c9 => ?_) (fun c9 => ?_)
      · simp only [if_pos c9] at j8
        exact j8
      · refine gs_iload_n (pc := 28) C 3 dX12_whoBy_28 rfl rfl ?_
        refine gs_istore_n (ls' := [(2, .int x3), (0, .ref 147), (1, .int x1), (3, .int x3)]) (pc := 29) C dX12_whoBy_29 rfl (by decide) rfl ?_
        simp only [if_neg c9] at j8
        exact gs_sub [1, 2, 0, 3] rfl (j8)
set_option maxRecDepth 100000 in
set_option maxHeartbeats 4000000 in
theorem a_X12_whoBy (l : Launch) {M : gs_M} {L : gs_L} {x1 : Int32} {rv : Int32} {Mz : gs_M} (h : f_X12_whoBy M x1 = some (rv, Mz)) : gs_Met l 81 yX12_whoBy cX12_whoBy 4 (some .int) [.ref 147, .int x1] M L (some (.int rv)) Mz L := by
  unfold f_X12_whoBy at h
  refine gs_of RX12 (by decide) rfl (Nat.le_of_ble_eq_true rfl) (fun X C E => ?_)
  show gs_AW X 0 [(0, .ref 147), (1, .int x1)] [] M L
  refine gs_iconst (w := 0) (pc := 0) C dX12_whoBy_0 rfl ?_
  refine gs_istore_n (ls' := [(2, .int (0 : Int32)), (0, .ref 147), (1, .int x1)]) (pc := 1) C dX12_whoBy_1 rfl (by decide) rfl ?_
  refine gs_iconst (w := 1) (pc := 2) C dX12_whoBy_2 rfl ?_
  refine gs_istore_n (ls' := [(3, .int (1 : Int32)), (2, .int (0 : Int32)), (0, .ref 147), (1, .int x1)]) (pc := 3) C dX12_whoBy_3 rfl (by decide) rfl ?_
  obtain ⟨y1, y2, M3, e4, h⟩ := gs_o3 h
  refine gs_sub [2, 3, 1, 0] rfl (t_X12_whoBy_4 C ?_ gs_FU _ _ _ e4)
  refine gs_iload_n (pc := 36) C 2 dX12_whoBy_36 rfl rfl ?_
  obtain ⟨rfl, rfl⟩ := gs_i2 h
  exact gs_iret (pc := 37) C dX12_whoBy_37 E
set_option maxRecDepth 100000 in
set_option maxHeartbeats 4000000 in
theorem t_X12_askBy_4 {X : gs_X} (C : gs_C X RX12 cX12_askBy 9 (some .int) 81) {L : gs_L} {x1 : Int32} {o2 : Int32} {o3 : Int32} {M' : gs_M} (k : gs_AW X 39 [(0, .ref 147), (1, .int x1), (2, .int o2), (3, .int o3)] [] M' L) : ∀ (f : Nat) (x2 : Int32) (x3 : Int32) (M : gs_M), l_X12_askBy_4 x1 f x2 x3 M = some (o2, o3, M') → gs_AW X 4 [(0, .ref 147), (1, .int x1), (2, .int x2), (3, .int x3)] [] M L := by
  intro f
  induction f with
  | zero =>
    intro x2 x3 M h
    cases h
  | succ f ih =>
    intro x2 x3 M h
    rw [l_X12_askBy_4] at h
    refine gs_iload_n (pc := 4) C 3 dX12_askBy_4 rfl rfl ?_
    refine gs_aload_n (pc := 5) C 0 dX12_askBy_5 rfl rfl ?_
    refine gs_geti (pc := 6) C dX12_askBy_6 gk_12 fl_X12_286 sh_147 rfl ?_
    refine gs_icmp_ge (pc := 9) C 39 dX12_askBy_9 rfl (fun c1 => ?_) (fun c1 => ?_)
    · replace h := gs_ift c1 h
      obtain ⟨rfl, rfl, rfl⟩ := gs_i3 h
      exact k
    · replace h := gs_iff c1 h
      refine gs_iload_n (pc := 12) C 2 dX12_askBy_12 rfl rfl ?_
      refine gs_aload_n (pc := 13) C 0 dX12_askBy_13 rfl rfl ?_
      refine gs_iload_n (pc := 14) C 3 dX12_askBy_14 rfl rfl ?_
      refine gs_iload_n (pc := 15) C 1 dX12_askBy_15 rfl rfl ?_
      obtain ⟨v2, M3, e4, h⟩ := gs_o2 h
      refine gs_callVl (pc := 16) C [.int x3, .int x1] dX12_askBy_16 ml_X12_408 wy_X12_held (a_X12_held _ e4) (by decide) sh_147 (by decide) rfl rfl (Nat.le_of_ble_eq_true rfl) rfl ?_
      refine gs_lconst (w := 0) (pc := 19) C dX12_askBy_19 rfl ?_
      refine gs_lcmp (pc := 20) C dX12_askBy_20 ?_
      have j5 : gs_AW X 31 [(0, .ref 147), (1, .int x1), (2, .int x2), (3, .int x3)] [.int (if (lg_cmp v2 (0 : Int64)) ≤ (0 : Int32) then (0 : Int32) else ((1 : Int32) <<< (x3 &&& 31)) : Int32), .int x2] M3 L := by
        refine gs_ior (pc := 31) C dX12_askBy_31 ?_
        refine gs_istore_n (ls' := [(2, .int (x2 ||| (if (lg_cmp v2 (0 : Int64)) ≤ (0 : Int32) then (0 : Int32) else ((1 : Int32) <<< (x3 &&& 31)) : Int32))), (0, .ref 147), (1, .int x1), (3, .int x3)]) (pc := 32) C dX12_askBy_32 rfl (by decide) rfl ?_
        refine gs_iinc (v := x3 + (1 : Int32)) (ls' := [(3, .int (x3 + (1 : Int32))), (2, .int (x2 ||| (if (lg_cmp v2 (0 : Int64)) ≤ (0 : Int32) then (0 : Int32) else ((1 : Int32) <<< (x3 &&& 31)) : Int32))), (0, .ref 147), (1, .int x1)]) (pc := 33) C 3 dX12_askBy_33 rfl rfl (by decide) rfl ?_
        refine gs_goto (pc := 36) C 4 dX12_askBy_36 rfl ?_
        exact gs_sub [2, 3, 1, 0] rfl (ih _ _ _ h)
      refine gs_if_le (pc := 21) C 30 dX12_askBy_21 rfl (fun c6 => ?_) (fun c6 => ?_)
      · refine gs_iconst (w := 0) (pc := 30) C dX12_askBy_30 rfl ?_
        simp only [if_pos c6] at j5
        exact j5
      · refine gs_iconst (w := 1) (pc := 24) C dX12_askBy_24 rfl ?_
        refine gs_iload_n (pc := 25) C 3 dX12_askBy_25 rfl rfl ?_
        refine gs_ishl (pc := 26) C dX12_askBy_26 ?_
        refine gs_goto (pc := 27) C 31 dX12_askBy_27 rfl ?_
        simp only [if_neg c6] at j5
        exact j5
set_option maxRecDepth 100000 in
set_option maxHeartbeats 4000000 in
theorem t_X12_askBy_82 {X : gs_X} (C : gs_C X RX12 cX12_askBy 9 (some .int) 81) {L : gs_L} {x1 : Int32} {x2 : Int32} {x3 : Int32} {x4 : Int32} {x5 : Int32} {x6 : Int32} {o7 : Int32} {o8 : Int32} {M' : gs_M} (k : gs_AW X 140 [(0, .ref 147), (1, .int x1), (2, .int x2), (3, .int x3), (4, .int x4), (5, .int x5), (6, .int x6), (7, .int o7), (8, .int o8)] [] M' L) : ∀ (f : Nat) (x7 : Int32) (x8 : Int32) (M : gs_M), l_X12_askBy_82 x1 x2 x3 x4 x5 x6 f x7 x8 M = some (o7, o8, M') → gs_AW X 82 [(0, .ref 147), (1, .int x1), (2, .int x2), (3, .int x3), (4, .int x4), (5, .int x5), (6, .int x6), (7, .int x7), (8, .int x8)] [] M L := by
  intro f
  induction f with
  | zero =>
    intro x7 x8 M h
    cases h
  | succ f ih =>
    intro x7 x8 M h
    rw [l_X12_askBy_82] at h
    refine gs_iload (pc := 82) C 8 dX12_askBy_82 rfl ?_
    refine gs_aload_n (pc := 84) C 0 dX12_askBy_84 rfl rfl ?_
    refine gs_geti (pc := 85) C dX12_askBy_85 gk_12 fl_X12_286 sh_147 rfl ?_
    refine gs_icmp_ge (pc := 88) C 140 dX12_askBy_88 rfl (fun c1 => ?_) (fun c1 => ?_)
    · replace h := gs_ift c1 h
      obtain ⟨rfl, rfl, rfl⟩ := gs_i3 h
      exact k
    · replace h := gs_iff c1 h
      refine gs_iload_n (pc := 91) C 2 dX12_askBy_91 rfl rfl ?_
      refine gs_iload (pc := 92) C 8 dX12_askBy_92 rfl ?_
      obtain ⟨v2, e3, h⟩ := gs_o1 h
      refine gs_callSi (pc := 94) C [.int x2, .int x8] dX12_askBy_94 ml_X12_233 wy_X12_has (a_X12_has _ e3) (by decide) rfl (Nat.le_of_ble_eq_true rfl) rfl ?_
      obtain ⟨y4, M5, e6, h⟩ := gs_o2 h
      have j7 : gs_AW X 134 [(0, .ref 147), (1, .int x1), (2, .int x2), (3, .int x3), (4, .int x4), (5, .int x5), (6, .int x6), (7, .int y4), (8, .int x8)] [] M5 L := by
        refine gs_iinc (v := x8 + (1 : Int32)) (ls' := [(8, .int (x8 + (1 : Int32))), (0, .ref 147), (1, .int x1), (2, .int x2), (3, .int x3), (4, .int x4), (5, .int x5), (6, .int x6), (7, .int y4)]) (pc := 134) C 8 dX12_askBy_134 rfl rfl (by decide) rfl ?_
        refine gs_goto (pc := 137) C 82 dX12_askBy_137 rfl ?_
        exact gs_sub [1, 2, 3, 4, 5, 6, 7, 8, 0] rfl (ih _ _ _ h)
      refine gs_if_eq (pc := 97) C 134 dX12_askBy_97 rfl (fun c8 => ?_) (fun c8 => ?_)
      · replace e6 := gs_ift c8 e6
        obtain ⟨rfl, rfl⟩ := gs_i2 e6
        exact j7
      · replace e6 := gs_iff c8 e6
        refine gs_iload (pc := 100) C 7 dX12_askBy_100 rfl ?_
        refine gs_aload_n (pc := 102) C 0 dX12_askBy_102 rfl rfl ?_
        refine gs_iload (pc := 103) C 8 dX12_askBy_103 rfl ?_
        refine gs_iload (pc := 105) C 5 dX12_askBy_105 rfl ?_
        have j14 : gs_AW X 115 [(0, .ref 147), (1, .int x1), (2, .int x2), (3, .int x3), (4, .int x4), (5, .int x5), (6, .int x6), (7, .int x7), (8, .int x8)] [.int (if x8 = x5 then x1 else (0 : Int32) : Int32), .ref 147, .int x7] M L := by
          refine gs_iload (pc := 115) C 5 dX12_askBy_115 rfl ?_
          refine gs_iload (pc := 117) C 6 dX12_askBy_117 rfl ?_
          obtain ⟨v9, M10, e11, e6⟩ := gs_o2 e6
          refine gs_callVi (pc := 119) C [.int (if x8 = x5 then x1 else (0 : Int32) : Int32), .int x5, .int x6] dX12_askBy_119 ml_X12_312 wy_X12_wakesBy (a_X12_wakesBy _ e11) (by decide) sh_147 (by decide) rfl rfl (Nat.le_of_ble_eq_true rfl) rfl ?_
          refine gs_iconst (w := 5) (pc := 122) C dX12_askBy_122 rfl ?_
          have j12 : gs_AW X 131 [(0, .ref 147), (1, .int x1), (2, .int x2), (3, .int x3), (4, .int x4), (5, .int x5), (6, .int x6), (7, .int x7), (8, .int x8)] [.int (if v9 < (5 : Int32) then (-1 : Int32) else (1 : Int32) : Int32), .int x7] M10 L := by
            refine gs_iadd (pc := 131) C dX12_askBy_131 ?_
            refine gs_istore (ls' := [(7, .int (x7 + (if v9 < (5 : Int32) then (-1 : Int32) else (1 : Int32) : Int32))), (0, .ref 147), (1, .int x1), (2, .int x2), (3, .int x3), (4, .int x4), (5, .int x5), (6, .int x6), (8, .int x8)]) (pc := 132) C dX12_askBy_132 (by decide) rfl ?_
            obtain ⟨rfl, rfl⟩ := gs_i2 e6
            exact gs_sub [1, 2, 3, 4, 5, 6, 7, 0, 8] rfl (j7)
          refine gs_icmp_lt (pc := 123) C 130 dX12_askBy_123 rfl (fun c13 => ?_) (fun c13 => ?_)
          · refine gs_iconst (w := (-1)) (pc := 130) C dX12_askBy_130 rfl ?_
            simp only [if_pos c13] at j12
            exact j12
          · refine gs_iconst (w := 1) (pc := 126) C dX12_askBy_126 rfl ?_
            refine gs_goto (pc := 127) C 131 dX12_askBy_127 rfl ?_
            simp only [if_neg c13] at j12
            exact j12
        refine gs_icmp_ne (pc := 107) C 114 dX12_askBy_107 rfl (fun c15 => ?_) (fun c15 => ?_)
        · refine gs_iconst (w := 0) (pc := 114) C dX12_askBy_114 rfl ?_
          simp only [if_neg c15] at j14
          exact j14
        · refine gs_iload_n (pc := 110) C 1 dX12_askBy_110 rfl rfl ?_
          refine gs_goto (pc := 111) C 115 dX12_askBy_111 rfl ?_
          simp only [if_pos c15] at j14
          exact j14
set_option maxRecDepth 100000 in
set_option maxHeartbeats 4000000 in
theorem t_X12_askBy_65 {X : gs_X} (C : gs_C X RX12 cX12_askBy 9 (some .int) 81) {L : gs_L} {x1 : Int32} {x2 : Int32} {x5 : Int32} {o3 : Int32} {o4 : Int32} {o6 : Int32} {M' : gs_M} (k : gs_AW X 181 [(0, .ref 147), (1, .int x1), (2, .int x2), (3, .int o3), (4, .int o4), (5, .int x5), (6, .int o6)] [] M' L) : ∀ (f : Nat) (x3 : Int32) (x4 : Int32) (x6 : Int32) (M : gs_M), l_X12_askBy_65 x1 x2 x5 f x3 x4 x6 M = some (o3, o4, o6, M') → gs_AW X 65 [(0, .ref 147), (1, .int x1), (2, .int x2), (3, .int x3), (4, .int x4), (5, .int x5), (6, .int x6)] [] M L := by
  intro f
  induction f with
  | zero =>
    intro x3 x4 x6 M h
    cases h
  | succ f ih =>
    intro x3 x4 x6 M h
    rw [l_X12_askBy_65] at h
    refine gs_iload (pc := 65) C 6 dX12_askBy_65 rfl ?_
    refine gs_aload_n (pc := 67) C 0 dX12_askBy_67 rfl rfl ?_
    refine gs_getq (pc := 68) C dX12_askBy_68 gk_12 fl_X12_37 sh_147 rfl ?_
    refine gs_iconst (w := 0) (pc := 71) C dX12_askBy_71 rfl ?_
    obtain ⟨v1, e2, h⟩ := gs_o1 h
    refine gs_iald (pc := 72) C dX12_askBy_72 sh_152 e2 ?_
    refine gs_icmp_ge (pc := 73) C 181 dX12_askBy_73 rfl (fun c3 => ?_) (fun c3 => ?_)
    · replace h := gs_ift c3 h
      obtain ⟨rfl, rfl, rfl, rfl⟩ := gs_i4 h
      exact k
    · replace h := gs_iff c3 h
      refine gs_iconst (w := 0) (pc := 76) C dX12_askBy_76 rfl ?_
      refine gs_istore (ls' := [(7, .int (0 : Int32)), (0, .ref 147), (1, .int x1), (2, .int x2), (3, .int x3), (4, .int x4), (5, .int x5), (6, .int x6)]) (pc := 77) C dX12_askBy_77 (by decide) rfl ?_
      refine gs_iconst (w := 0) (pc := 79) C dX12_askBy_79 rfl ?_
      refine gs_istore (ls' := [(8, .int (0 : Int32)), (7, .int (0 : Int32)), (0, .ref 147), (1, .int x1), (2, .int x2), (3, .int x3), (4, .int x4), (5, .int x5), (6, .int x6)]) (pc := 80) C dX12_askBy_80 (by decide) rfl ?_
      obtain ⟨y4, y5, M6, e7, h⟩ := gs_o3 h
      refine gs_sub [2, 3, 4, 5, 6, 7, 8, 1, 0] rfl (t_X12_askBy_82 C ?_ gs_FU _ _ _ e7)
      refine gs_iload (pc := 140) C 7 dX12_askBy_140 rfl ?_
      refine gs_mabs (pc := 142) C dX12_askBy_142 ml_X12_405 (Nat.le_of_ble_eq_true rfl) ?_
      refine gs_istore (ls' := [(7, .int (if 0 ≤ y4 then y4 else 0 - y4 : Int32)), (0, .ref 147), (1, .int x1), (2, .int x2), (3, .int x3), (4, .int x4), (5, .int x5), (6, .int x6), (8, .int y5)]) (pc := 145) C dX12_askBy_145 (by decide) rfl ?_
      refine gs_iload_n (pc := 147) C 4 dX12_askBy_147 rfl rfl ?_
      refine gs_iconst (w := (-1)) (pc := 148) C dX12_askBy_148 rfl ?_
      have j8 : gs_AW X 175 [(0, .ref 147), (1, .int x1), (2, .int x2), (3, .int (if x3 = (-1 : Int32) then (((10 : Int32) * x5) + x6) else if (if 0 ≤ y4 then y4 else 0 - y4 : Int32) < x4 then (((10 : Int32) * x5) + x6) else x3 : Int32)), (4, .int (if x3 = (-1 : Int32) then (if 0 ≤ y4 then y4 else 0 - y4 : Int32) else if (if 0 ≤ y4 then y4 else 0 - y4 : Int32) < x4 then (if 0 ≤ y4 then y4 else 0 - y4 : Int32) else x4 : Int32)), (5, .int x5), (6, .int x6), (7, .int (if 0 ≤ y4 then y4 else 0 - y4 : Int32)), (8, .int y5)] [] M6 L := by
        refine gs_iinc (v := x6 + (1 : Int32)) (ls' := [(6, .int (x6 + (1 : Int32))), (0, .ref 147), (1, .int x1), (2, .int x2), (3, .int (if x3 = (-1 : Int32) then (((10 : Int32) * x5) + x6) else if (if 0 ≤ y4 then y4 else 0 - y4 : Int32) < x4 then (((10 : Int32) * x5) + x6) else x3 : Int32)), (4, .int (if x3 = (-1 : Int32) then (if 0 ≤ y4 then y4 else 0 - y4 : Int32) else if (if 0 ≤ y4 then y4 else 0 - y4 : Int32) < x4 then (if 0 ≤ y4 then y4 else 0 - y4 : Int32) else x4 : Int32)), (5, .int x5), (7, .int (if 0 ≤ y4 then y4 else 0 - y4 : Int32)), (8, .int y5)]) (pc := 175) C 6 dX12_askBy_175 rfl rfl (by decide) rfl ?_
        refine gs_goto (pc := 178) C 65 dX12_askBy_178 rfl ?_
        exact gs_sub [1, 2, 3, 4, 5, 6, 0] rfl (ih _ _ _ _ h)
      refine gs_icmp_eq (pc := 149) C 162 dX12_askBy_149 rfl (fun c9 => ?_) (fun c9 => ?_)
      · refine gs_bipush (w := 10) (pc := 162) C dX12_askBy_162 rfl ?_
        refine gs_iload (pc := 164) C 6 dX12_askBy_164 rfl ?_
        refine gs_imul (pc := 166) C dX12_askBy_166 ?_
        refine gs_iload (pc := 167) C 7 dX12_askBy_167 rfl ?_
        refine gs_iadd (pc := 169) C dX12_askBy_169 ?_
        refine gs_istore_n (ls' := [(3, .int (((10 : Int32) * x5) + x6)), (7, .int (if 0 ≤ y4 then y4 else 0 - y4 : Int32)), (0, .ref 147), (1, .int x1), (2, .int x2), (4, .int x4), (5, .int x5), (6, .int x6), (8, .int y5)]) (pc := 170) C dX12_askBy_170 rfl (by decide) rfl ?_
        refine gs_iload (pc := 171) C 1 dX12_askBy_171 rfl ?_
        refine gs_istore (ls' := [(4, .int (if 0 ≤ y4 then y4 else 0 - y4 : Int32)), (3, .int (((10 : Int32) * x5) + x6)), (7, .int (if 0 ≤ y4 then y4 else 0 - y4 : Int32)), (0, .ref 147), (1, .int x1), (2, .int x2), (5, .int x5), (6, .int x6), (8, .int y5)]) (pc := 173) C dX12_askBy_173 (by decide) rfl ?_
        simp only [if_pos c9] at j8
        exact gs_sub [3, 4, 5, 1, 0, 6, 7, 2, 8] rfl (j8)
      · refine gs_iload (pc := 152) C 0 dX12_askBy_152 rfl ?_
        refine gs_iload (pc := 154) C 5 dX12_askBy_154 rfl ?_
        refine gs_icmp_lt (pc := 156) C 162 dX12_askBy_156 rfl (fun c10 => ?_) (fun c10 => ?_)
        · refine gs_bipush (w := 10) (pc := 162) C dX12_askBy_162 rfl ?_
          refine gs_iload (pc := 164) C 6 dX12_askBy_164 rfl ?_
          refine gs_imul (pc := 166) C dX12_askBy_166 ?_
          refine gs_iload (pc := 167) C 7 dX12_askBy_167 rfl ?_
          refine gs_iadd (pc := 169) C dX12_askBy_169 ?_
          refine gs_istore_n (ls' := [(3, .int (((10 : Int32) * x5) + x6)), (7, .int (if 0 ≤ y4 then y4 else 0 - y4 : Int32)), (0, .ref 147), (1, .int x1), (2, .int x2), (4, .int x4), (5, .int x5), (6, .int x6), (8, .int y5)]) (pc := 170) C dX12_askBy_170 rfl (by decide) rfl ?_
          refine gs_iload (pc := 171) C 1 dX12_askBy_171 rfl ?_
          refine gs_istore (ls' := [(4, .int (if 0 ≤ y4 then y4 else 0 - y4 : Int32)), (3, .int (((10 : Int32) * x5) + x6)), (7, .int (if 0 ≤ y4 then y4 else 0 - y4 : Int32)), (0, .ref 147), (1, .int x1), (2, .int x2), (5, .int x5), (6, .int x6), (8, .int y5)]) (pc := 173) C dX12_askBy_173 (by decide) rfl ?_
          simp only [if_neg c9, if_pos c10] at j8
          exact gs_sub [3, 4, 5, 1, 0, 6, 7, 2, 8] rfl (j8)
        · refine gs_goto (pc := 159) C 175 dX12_askBy_159 rfl ?_
          simp only [if_neg c9, if_neg c10] at j8
          exact gs_sub [1, 2, 3, 4, 5, 6, 7, 0, 8] rfl (j8)
set_option maxRecDepth 100000 in
set_option maxHeartbeats 4000000 in
theorem t_X12_askBy_53 {X : gs_X} (C : gs_C X RX12 cX12_askBy 9 (some .int) 81) {L : gs_L} {x1 : Int32} {x2 : Int32} {o3 : Int32} {o4 : Int32} {o5 : Int32} {M' : gs_M} (k : gs_AW X 187 [(0, .ref 147), (1, .int x1), (2, .int x2), (3, .int o3), (4, .int o4), (5, .int o5)] [] M' L) : ∀ (f : Nat) (x3 : Int32) (x4 : Int32) (x5 : Int32) (M : gs_M), l_X12_askBy_53 x1 x2 f x3 x4 x5 M = some (o3, o4, o5, M') → gs_AW X 53 [(0, .ref 147), (1, .int x1), (2, .int x2), (3, .int x3), (4, .int x4), (5, .int x5)] [] M L := by
  intro f
  induction f with
  | zero =>
    intro x3 x4 x5 M h
    cases h
  | succ f ih =>
    intro x3 x4 x5 M h
    rw [l_X12_askBy_53] at h
    refine gs_iload (pc := 53) C 5 dX12_askBy_53 rfl ?_
    refine gs_aload_n (pc := 55) C 0 dX12_askBy_55 rfl rfl ?_
    refine gs_geti (pc := 56) C dX12_askBy_56 gk_12 fl_X12_286 sh_147 rfl ?_
    refine gs_icmp_ge (pc := 59) C 187 dX12_askBy_59 rfl (fun c1 => ?_) (fun c1 => ?_)
    · replace h := gs_ift c1 h
      obtain ⟨rfl, rfl, rfl, rfl⟩ := gs_i4 h
      exact k
    · replace h := gs_iff c1 h
      refine gs_iconst (w := 0) (pc := 62) C dX12_askBy_62 rfl ?_
      refine gs_istore (ls' := [(6, .int (0 : Int32)), (0, .ref 147), (1, .int x1), (2, .int x2), (3, .int x3), (4, .int x4), (5, .int x5)]) (pc := 63) C dX12_askBy_63 (by decide) rfl ?_
      obtain ⟨y2, y3, y4, M5, e6, h⟩ := gs_o4 h
      refine gs_sub [1, 2, 3, 4, 5, 6, 0] rfl (t_X12_askBy_65 C ?_ gs_FU _ _ _ _ e6)
      refine gs_iinc (v := x5 + (1 : Int32)) (ls' := [(5, .int (x5 + (1 : Int32))), (0, .ref 147), (1, .int x1), (2, .int x2), (3, .int y2), (4, .int y3), (6, .int y4)]) (pc := 181) C 5 dX12_askBy_181 rfl rfl (by decide) rfl ?_
      refine gs_goto (pc := 184) C 53 dX12_askBy_184 rfl ?_
      exact gs_sub [1, 2, 3, 4, 5, 0] rfl (ih _ _ _ _ h)
set_option maxRecDepth 100000 in
set_option maxHeartbeats 4000000 in
theorem a_X12_askBy (l : Launch) {M : gs_M} {L : gs_L} {x1 : Int32} {rv : Int32} {Mz : gs_M} (h : f_X12_askBy M x1 = some (rv, Mz)) : gs_Met l 81 yX12_askBy cX12_askBy 9 (some .int) [.ref 147, .int x1] M L (some (.int rv)) Mz L := by
  unfold f_X12_askBy at h
  refine gs_of RX12 (by decide) rfl (Nat.le_of_ble_eq_true rfl) (fun X C E => ?_)
  show gs_AW X 0 [(0, .ref 147), (1, .int x1)] [] M L
  refine gs_iconst (w := 0) (pc := 0) C dX12_askBy_0 rfl ?_
  refine gs_istore_n (ls' := [(2, .int (0 : Int32)), (0, .ref 147), (1, .int x1)]) (pc := 1) C dX12_askBy_1 rfl (by decide) rfl ?_
  refine gs_iconst (w := 0) (pc := 2) C dX12_askBy_2 rfl ?_
  refine gs_istore_n (ls' := [(3, .int (0 : Int32)), (2, .int (0 : Int32)), (0, .ref 147), (1, .int x1)]) (pc := 3) C dX12_askBy_3 rfl (by decide) rfl ?_
  obtain ⟨y1, y2, M3, e4, h⟩ := gs_o3 h
  refine gs_sub [2, 3, 1, 0] rfl (t_X12_askBy_4 C ?_ gs_FU _ _ _ e4)
  refine gs_iload_n (pc := 39) C 2 dX12_askBy_39 rfl rfl ?_
  refine gs_if_ne (pc := 40) C 45 dX12_askBy_40 rfl (fun c5 => ?_) (fun c5 => ?_)
  · replace h := gs_iff c5 h
    refine gs_iconst (w := (-1)) (pc := 45) C dX12_askBy_45 rfl ?_
    refine gs_istore_n (ls' := [(3, .int (-1 : Int32)), (0, .ref 147), (1, .int x1), (2, .int y1)]) (pc := 46) C dX12_askBy_46 rfl (by decide) rfl ?_
    refine gs_iconst (w := 0) (pc := 47) C dX12_askBy_47 rfl ?_
    refine gs_istore (ls' := [(4, .int (0 : Int32)), (3, .int (-1 : Int32)), (0, .ref 147), (1, .int x1), (2, .int y1)]) (pc := 48) C dX12_askBy_48 (by decide) rfl ?_
    refine gs_iconst (w := 0) (pc := 50) C dX12_askBy_50 rfl ?_
    refine gs_istore (ls' := [(5, .int (0 : Int32)), (4, .int (0 : Int32)), (3, .int (-1 : Int32)), (0, .ref 147), (1, .int x1), (2, .int y1)]) (pc := 51) C dX12_askBy_51 (by decide) rfl ?_
    obtain ⟨y6, y7, y8, M9, e10, h⟩ := gs_o4 h
    refine gs_sub [3, 4, 5, 2, 1, 0] rfl (t_X12_askBy_53 C ?_ gs_FU _ _ _ _ e10)
    refine gs_iload_n (pc := 187) C 3 dX12_askBy_187 rfl rfl ?_
    obtain ⟨rfl, rfl⟩ := gs_i2 h
    exact gs_iret (pc := 188) C dX12_askBy_188 E
  · replace h := gs_ift c5 h
    refine gs_iconst (w := (-1)) (pc := 43) C dX12_askBy_43 rfl ?_
    obtain ⟨rfl, rfl⟩ := gs_i2 h
    exact gs_iret (pc := 44) C dX12_askBy_44 E
set_option maxRecDepth 100000 in
set_option maxHeartbeats 4000000 in
theorem t_X12_who_67 {X : gs_X} (C : gs_C X RX12 cX12_who 7 (some .int) 82) {L : gs_L} {x1 : Int32} {x2 : Int32} {x3 : Int32} {o4 : Int64} {o6 : Int32} {M' : gs_M} (k : gs_AW X 94 [(0, .ref 147), (1, .int x1), (2, .int x2), (3, .int x3), (4, .long o4), (6, .int o6)] [] M' L) : ∀ (f : Nat) (x4 : Int64) (x6 : Int32) (M : gs_M), l_X12_who_67 x1 x2 x3 f x4 x6 M = some (o4, o6, M') → gs_AW X 67 [(0, .ref 147), (1, .int x1), (2, .int x2), (3, .int x3), (4, .long x4), (6, .int x6)] [] M L := by
  intro f
  induction f with
  | zero =>
    intro x4 x6 M h
    cases h
  | succ f ih =>
    intro x4 x6 M h
    rw [l_X12_who_67] at h
    refine gs_iload (pc := 67) C 5 dX12_who_67 rfl ?_
    refine gs_aload_n (pc := 69) C 0 dX12_who_69 rfl rfl ?_
    refine gs_geti (pc := 70) C dX12_who_70 gk_12 fl_X12_286 sh_147 rfl ?_
    refine gs_icmp_ge (pc := 73) C 94 dX12_who_73 rfl (fun c1 => ?_) (fun c1 => ?_)
    · replace h := gs_ift c1 h
      obtain ⟨rfl, rfl, rfl⟩ := gs_i3 h
      exact k
    · replace h := gs_iff c1 h
      refine gs_lload (pc := 76) C 4 dX12_who_76 rfl ?_
      refine gs_aload_n (pc := 78) C 0 dX12_who_78 rfl rfl ?_
      refine gs_iload (pc := 79) C 5 dX12_who_79 rfl ?_
      refine gs_iload_n (pc := 81) C 1 dX12_who_81 rfl rfl ?_
      obtain ⟨v2, M3, e4, h⟩ := gs_o2 h
      refine gs_callVl (pc := 82) C [.int x6, .int x1] dX12_who_82 ml_X12_408 wy_X12_held (a_X12_held _ e4) (by decide) sh_147 (by decide) rfl rfl (Nat.le_of_ble_eq_true rfl) rfl ?_
      refine gs_ladd (pc := 85) C dX12_who_85 ?_
      refine gs_lstore (ls' := [(4, .long (x4 + v2)), (0, .ref 147), (1, .int x1), (2, .int x2), (3, .int x3), (6, .int x6)]) (pc := 86) C dX12_who_86 (by decide) rfl ?_
      refine gs_iinc (v := x6 + (1 : Int32)) (ls' := [(6, .int (x6 + (1 : Int32))), (4, .long (x4 + v2)), (0, .ref 147), (1, .int x1), (2, .int x2), (3, .int x3)]) (pc := 88) C 5 dX12_who_88 rfl rfl (by decide) rfl ?_
      refine gs_goto (pc := 91) C 67 dX12_who_91 rfl ?_
      exact gs_sub [2, 3, 4, 5, 1, 0] rfl (ih _ _ _ h)
set_option maxRecDepth 100000 in
set_option maxHeartbeats 4000000 in
theorem a_X12_who (l : Launch) {M : gs_M} {L : gs_L} {x1 : Int32} {x2 : Int32} {rv : Int32} {Mz : gs_M} (h : f_X12_who M x1 x2 = some (rv, Mz)) : gs_Met l 82 yX12_who cX12_who 7 (some .int) [.ref 147, .int x1, .int x2] M L (some (.int rv)) Mz L := by
  unfold f_X12_who at h
  refine gs_of RX12 (by decide) rfl (Nat.le_of_ble_eq_true rfl) (fun X C E => ?_)
  show gs_AW X 0 [(0, .ref 147), (1, .int x1), (2, .int x2)] [] M L
  refine gs_aload_n (pc := 0) C 0 dX12_who_0 rfl rfl ?_
  refine gs_iconst (w := 0) (pc := 1) C dX12_who_1 rfl ?_
  obtain ⟨M2, e1, h⟩ := gs_o1 h
  refine gs_puti' (pc := 2) C dX12_who_2 gk_12 fp_X12_100 sh_147 rfl e1 ?_
  refine gs_aload_n (pc := 5) C 0 dX12_who_5 rfl rfl ?_
  refine gs_geti (pc := 6) C dX12_who_6 gk_12 fl_X12_286 sh_147 rfl ?_
  refine gs_if_eq (pc := 9) C 36 dX12_who_9 rfl (fun c3 => ?_) (fun c3 => ?_)
  · replace h := gs_ift c3 h
    refine gs_iconst (w := (-1)) (pc := 36) C dX12_who_36 rfl ?_
    obtain ⟨rfl, rfl⟩ := gs_i2 h
    exact gs_iret (pc := 37) C dX12_who_37 E
  · replace h := gs_iff c3 h
    refine gs_iload_n (pc := 12) C 1 dX12_who_12 rfl rfl ?_
    refine gs_i2l (pc := 13) C dX12_who_13 ?_
    refine gs_lconst (w := 1) (pc := 14) C dX12_who_14 rfl ?_
    refine gs_ldc2 (pc := 15) C dX12_who_15 wj_X12_361 ?_
    obtain ⟨v4, e5, h⟩ := gs_o1 h
    refine gs_callSi (pc := 18) C [.long (Int32.toInt64 x1), .long (1 : Int64), .long (9 : Int64)] dX12_who_18 ml_X12_221 wy_X12_isIn (a_X12_isIn _ e5) (by decide) rfl (Nat.le_of_ble_eq_true rfl) rfl ?_
    refine gs_if_eq (pc := 21) C 36 dX12_who_21 rfl (fun c6 => ?_) (fun c6 => ?_)
    · replace h := gs_ift c6 h
      refine gs_iconst (w := (-1)) (pc := 36) C dX12_who_36 rfl ?_
      obtain ⟨rfl, rfl⟩ := gs_i2 h
      exact gs_iret (pc := 37) C dX12_who_37 E
    · replace h := gs_iff c6 h
      refine gs_iload_n (pc := 24) C 2 dX12_who_24 rfl rfl ?_
      refine gs_i2l (pc := 25) C dX12_who_25 ?_
      refine gs_lconst (w := 0) (pc := 26) C dX12_who_26 rfl ?_
      refine gs_ldc2 (pc := 27) C dX12_who_27 wj_X12_266 ?_
      obtain ⟨v7, e8, h⟩ := gs_o1 h
      refine gs_callSi (pc := 30) C [.long (Int32.toInt64 x2), .long (0 : Int64), .long (2 : Int64)] dX12_who_30 ml_X12_221 wy_X12_isIn (a_X12_isIn _ e8) (by decide) rfl (Nat.le_of_ble_eq_true rfl) rfl ?_
      refine gs_if_ne (pc := 33) C 38 dX12_who_33 rfl (fun c9 => ?_) (fun c9 => ?_)
      · replace h := gs_iff c9 h
        refine gs_iload_n (pc := 38) C 2 dX12_who_38 rfl rfl ?_
        refine gs_iconst (w := 2) (pc := 39) C dX12_who_39 rfl ?_
        refine gs_icmp_ne (pc := 40) C 49 dX12_who_40 rfl (fun c10 => ?_) (fun c10 => ?_)
        · replace h := gs_iff c10 h
          refine gs_aload_n (pc := 49) C 0 dX12_who_49 rfl rfl ?_
          refine gs_iload_n (pc := 50) C 1 dX12_who_50 rfl rfl ?_
          obtain ⟨v11, M12, e13, h⟩ := gs_o2 h
          refine gs_callVi (pc := 51) C [.int x1] dX12_who_51 ml_X12_415 wy_X12_whoBy (a_X12_whoBy _ e13) (by decide) sh_147 (by decide) rfl rfl (Nat.le_of_ble_eq_true rfl) rfl ?_
          refine gs_istore_n (ls' := [(3, .int v11), (0, .ref 147), (1, .int x1), (2, .int x2)]) (pc := 54) C dX12_who_54 rfl (by decide) rfl ?_
          refine gs_iload_n (pc := 55) C 3 dX12_who_55 rfl rfl ?_
          refine gs_if_ne (pc := 56) C 61 dX12_who_56 rfl (fun c14 => ?_) (fun c14 => ?_)
          · replace h := gs_iff c14 h
            refine gs_lconst (w := 0) (pc := 61) C dX12_who_61 rfl ?_
            refine gs_lstore (ls' := [(4, .long (0 : Int64)), (3, .int v11), (0, .ref 147), (1, .int x1), (2, .int x2)]) (pc := 62) C dX12_who_62 (by decide) rfl ?_
            refine gs_iconst (w := 0) (pc := 64) C dX12_who_64 rfl ?_
            refine gs_istore (ls' := [(6, .int (0 : Int32)), (4, .long (0 : Int64)), (3, .int v11), (0, .ref 147), (1, .int x1), (2, .int x2)]) (pc := 65) C dX12_who_65 (by decide) rfl ?_
            obtain ⟨y15, y16, M17, e18, h⟩ := gs_o3 h
            refine gs_sub [3, 4, 5, 2, 1, 0] rfl (t_X12_who_67 C ?_ gs_FU _ _ _ e18)
            refine gs_lload (pc := 94) C 4 dX12_who_94 rfl ?_
            refine gs_lconst (w := 0) (pc := 96) C dX12_who_96 rfl ?_
            refine gs_lcmp (pc := 97) C dX12_who_97 ?_
            obtain ⟨y19, M20, e21, h⟩ := gs_o2 h
            have j22 : gs_AW X 119 [(0, .ref 147), (1, .int x1), (2, .int x2), (3, .int v11), (4, .long y15), (6, .int y16)] [.int y19] M20 L := by
              obtain ⟨rfl, rfl⟩ := gs_i2 h
              exact gs_iret (pc := 119) C dX12_who_119 E
            refine gs_if_ne (pc := 98) C 105 dX12_who_98 rfl (fun c23 => ?_) (fun c23 => ?_)
            · replace e21 := gs_iff c23 e21
              refine gs_ldc2 (pc := 105) C dX12_who_105 wj_X12_418 ?_
              refine gs_aload_n (pc := 108) C 0 dX12_who_108 rfl rfl ?_
              refine gs_iload_n (pc := 109) C 3 dX12_who_109 rfl rfl ?_
              refine gs_iload_n (pc := 110) C 1 dX12_who_110 rfl rfl ?_
              obtain ⟨v24, M25, e26, e21⟩ := gs_o2 e21
              refine gs_callVl (pc := 111) C [.int v11, .int x1] dX12_who_111 ml_X12_408 wy_X12_held (a_X12_held _ e26) (by decide) sh_147 (by decide) rfl rfl (Nat.le_of_ble_eq_true rfl) rfl ?_
              refine gs_lmul (pc := 114) C dX12_who_114 ?_
              refine gs_lload (pc := 115) C 4 dX12_who_115 rfl ?_
              obtain ⟨v27, e28, e21⟩ := gs_o1 e21
              refine gs_ldiv' (pc := 117) C dX12_who_117 e28 ?_
              refine gs_l2i (pc := 118) C dX12_who_118 ?_
              obtain ⟨rfl, rfl⟩ := gs_i2 e21
              exact j22
            · replace e21 := gs_ift c23 e21
              refine gs_iconst (w := 0) (pc := 101) C dX12_who_101 rfl ?_
              refine gs_goto (pc := 102) C 119 dX12_who_102 rfl ?_
              obtain ⟨rfl, rfl⟩ := gs_i2 e21
              exact j22
          · replace h := gs_ift c14 h
            refine gs_iload_n (pc := 59) C 0 dX12_who_59 rfl rfl ?_
            obtain ⟨rfl, rfl⟩ := gs_i2 h
            exact gs_iret (pc := 60) C dX12_who_60 E
        · replace h := gs_ift c10 h
          refine gs_aload_n (pc := 43) C 0 dX12_who_43 rfl rfl ?_
          refine gs_iload_n (pc := 44) C 1 dX12_who_44 rfl rfl ?_
          obtain ⟨v29, M30, e31, h⟩ := gs_o2 h
          refine gs_callVi (pc := 45) C [.int x1] dX12_who_45 ml_X12_412 wy_X12_askBy (a_X12_askBy _ e31) (by decide) sh_147 (by decide) rfl rfl (Nat.le_of_ble_eq_true rfl) rfl ?_
          obtain ⟨rfl, rfl⟩ := gs_i2 h
          exact gs_iret (pc := 48) C dX12_who_48 E
      · replace h := gs_ift c9 h
        refine gs_iconst (w := (-1)) (pc := 36) C dX12_who_36 rfl ?_
        obtain ⟨rfl, rfl⟩ := gs_i2 h
        exact gs_iret (pc := 37) C dX12_who_37 E
set_option maxRecDepth 100000 in
set_option maxHeartbeats 4000000 in
theorem a_X12_worry (l : Launch) {M : gs_M} {L : gs_L} {x1 : Int32} {x2 : Int32} {rv : Int32} {Mz : gs_M} (h : f_X12_worry M x1 x2 = some (rv, Mz)) : gs_Met l 1 yX12_worry cX12_worry 4 (some .int) [.ref 147, .int x1, .int x2] M L (some (.int rv)) Mz L := by
  unfold f_X12_worry at h
  refine gs_of RX12 (by decide) rfl (Nat.le_of_ble_eq_true rfl) (fun X C E => ?_)
  show gs_AW X 0 [(0, .ref 147), (1, .int x1), (2, .int x2)] [] M L
  refine gs_aload_n (pc := 0) C 0 dX12_worry_0 rfl rfl ?_
  refine gs_iconst (w := 0) (pc := 1) C dX12_worry_1 rfl ?_
  obtain ⟨M2, e1, h⟩ := gs_o1 h
  refine gs_puti' (pc := 2) C dX12_worry_2 gk_12 fp_X12_100 sh_147 rfl e1 ?_
  refine gs_aload_n (pc := 5) C 0 dX12_worry_5 rfl rfl ?_
  refine gs_iload_n (pc := 6) C 1 dX12_worry_6 rfl rfl ?_
  obtain ⟨v3, e4, h⟩ := gs_o1 h
  refine gs_callVi (pc := 7) C [.int x1] dX12_worry_7 ml_X12_347 wy_X12_isPerson (a_X12_isPerson _ e4) (by decide) sh_147 (by decide) rfl rfl (Nat.le_of_ble_eq_true rfl) rfl ?_
  refine gs_if_eq (pc := 10) C 35 dX12_worry_10 rfl (fun c5 => ?_) (fun c5 => ?_)
  · replace h := gs_ift c5 h
    refine gs_iconst (w := (-1)) (pc := 35) C dX12_worry_35 rfl ?_
    obtain ⟨rfl, rfl⟩ := gs_i2 h
    exact gs_iret (pc := 36) C dX12_worry_36 E
  · replace h := gs_iff c5 h
    refine gs_iload_n (pc := 13) C 2 dX12_worry_13 rfl rfl ?_
    refine gs_i2l (pc := 14) C dX12_worry_14 ?_
    refine gs_lconst (w := 0) (pc := 15) C dX12_worry_15 rfl ?_
    refine gs_ldc2 (pc := 16) C dX12_worry_16 wj_X12_361 ?_
    obtain ⟨v6, e7, h⟩ := gs_o1 h
    refine gs_callSi (pc := 19) C [.long (Int32.toInt64 x2), .long (0 : Int64), .long (9 : Int64)] dX12_worry_19 ml_X12_221 wy_X12_isIn (a_X12_isIn _ e7) (by decide) rfl (Nat.le_of_ble_eq_true rfl) rfl ?_
    refine gs_if_eq (pc := 22) C 35 dX12_worry_22 rfl (fun c8 => ?_) (fun c8 => ?_)
    · replace h := gs_ift c8 h
      refine gs_iconst (w := (-1)) (pc := 35) C dX12_worry_35 rfl ?_
      obtain ⟨rfl, rfl⟩ := gs_i2 h
      exact gs_iret (pc := 36) C dX12_worry_36 E
    · replace h := gs_iff c8 h
      refine gs_aload_n (pc := 25) C 0 dX12_worry_25 rfl rfl ?_
      refine gs_iload_n (pc := 26) C 1 dX12_worry_26 rfl rfl ?_
      refine gs_iconst (w := 1) (pc := 27) C dX12_worry_27 rfl ?_
      obtain ⟨v9, e10, h⟩ := gs_o1 h
      refine gs_callVi (pc := 28) C [.int x1, .int (1 : Int32)] dX12_worry_28 ml_X12_301 wy_X12_of (a_X12_of _ e10) (by decide) sh_147 (by decide) rfl rfl (Nat.le_of_ble_eq_true rfl) rfl ?_
      refine gs_iload_n (pc := 31) C 2 dX12_worry_31 rfl rfl ?_
      refine gs_icmp_ne (pc := 32) C 37 dX12_worry_32 rfl (fun c11 => ?_) (fun c11 => ?_)
      · replace h := gs_iff c11 h
        refine gs_aload_n (pc := 37) C 0 dX12_worry_37 rfl rfl ?_
        obtain ⟨M12, e13, h⟩ := gs_o1 h
        refine gs_callVv (pc := 38) C [] dX12_worry_38 ml_X12_371 wy_X12_remember (a_X12_remember _ e13) (by decide) sh_147 (by decide) rfl rfl (Nat.le_of_ble_eq_true rfl) rfl ?_
        refine gs_aload_n (pc := 41) C 0 dX12_worry_41 rfl rfl ?_
        refine gs_iload_n (pc := 42) C 1 dX12_worry_42 rfl rfl ?_
        refine gs_iconst (w := 1) (pc := 43) C dX12_worry_43 rfl ?_
        obtain ⟨v14, e15, h⟩ := gs_o1 h
        refine gs_callVi (pc := 44) C [.int x1, .int (1 : Int32)] dX12_worry_44 ml_X12_301 wy_X12_of (a_X12_of _ e15) (by decide) sh_147 (by decide) rfl rfl (Nat.le_of_ble_eq_true rfl) rfl ?_
        refine gs_istore_n (ls' := [(3, .int v14), (0, .ref 147), (1, .int x1), (2, .int x2)]) (pc := 47) C dX12_worry_47 rfl (by decide) rfl ?_
        refine gs_aload_n (pc := 48) C 1 dX12_worry_48 rfl rfl ?_
        refine gs_getq (pc := 49) C dX12_worry_49 gk_12 fl_X12_55 sh_147 rfl ?_
        refine gs_bipush (w := 6) (pc := 52) C dX12_worry_52 rfl ?_
        refine gs_iload_n (pc := 54) C 2 dX12_worry_54 rfl rfl ?_
        refine gs_imul (pc := 55) C dX12_worry_55 ?_
        refine gs_iconst (w := 1) (pc := 56) C dX12_worry_56 rfl ?_
        refine gs_iadd (pc := 57) C dX12_worry_57 ?_
        refine gs_iload_n (pc := 58) C 3 dX12_worry_58 rfl rfl ?_
        obtain ⟨M17, e16, h⟩ := gs_o1 h
        refine gs_iast (pc := 59) C dX12_worry_59 sh_158 e16 ?_
        refine gs_iload_n (pc := 60) C 0 dX12_worry_60 rfl rfl ?_
        obtain ⟨rfl, rfl⟩ := gs_i2 h
        exact gs_iret (pc := 61) C dX12_worry_61 E
      · replace h := gs_ift c11 h
        refine gs_iconst (w := (-1)) (pc := 35) C dX12_worry_35 rfl ?_
        obtain ⟨rfl, rfl⟩ := gs_i2 h
        exact gs_iret (pc := 36) C dX12_worry_36 E
set_option maxRecDepth 100000 in
set_option maxHeartbeats 4000000 in
theorem a_X12_wronged (l : Launch) {M : gs_M} {L : gs_L} {x1 : Int32} {rv : Int32} {Mz : gs_M} (h : f_X12_wronged M x1 = some (rv, Mz)) : gs_Met l 82 yX12_wronged cX12_wronged 2 (some .int) [.ref 147, .int x1] M L (some (.int rv)) Mz L := by
  unfold f_X12_wronged at h
  refine gs_of RX12 (by decide) rfl (Nat.le_of_ble_eq_true rfl) (fun X C E => ?_)
  show gs_AW X 0 [(0, .ref 147), (1, .int x1)] [] M L
  refine gs_aload_n (pc := 0) C 0 dX12_wronged_0 rfl rfl ?_
  refine gs_iconst (w := 0) (pc := 1) C dX12_wronged_1 rfl ?_
  obtain ⟨M2, e1, h⟩ := gs_o1 h
  refine gs_puti' (pc := 2) C dX12_wronged_2 gk_12 fp_X12_100 sh_147 rfl e1 ?_
  refine gs_aload_n (pc := 5) C 0 dX12_wronged_5 rfl rfl ?_
  refine gs_geti (pc := 6) C dX12_wronged_6 gk_12 fl_X12_286 sh_147 rfl ?_
  obtain ⟨y3, M4, e5, h⟩ := gs_o2 h
  have j6 : gs_AW X 39 [(0, .ref 147), (1, .int x1)] [.int y3] M4 L := by
    obtain ⟨rfl, rfl⟩ := gs_i2 h
    exact gs_iret (pc := 39) C dX12_wronged_39 E
  refine gs_if_le (pc := 9) C 38 dX12_wronged_9 rfl (fun c7 => ?_) (fun c7 => ?_)
  · replace e5 := gs_ift c7 e5
    refine gs_iconst (w := (-1)) (pc := 38) C dX12_wronged_38 rfl ?_
    obtain ⟨rfl, rfl⟩ := gs_i2 e5
    exact j6
  · replace e5 := gs_iff c7 e5
    refine gs_iload_n (pc := 12) C 1 dX12_wronged_12 rfl rfl ?_
    refine gs_i2l (pc := 13) C dX12_wronged_13 ?_
    refine gs_ldc2 (pc := 14) C dX12_wronged_14 wj_X12_439 ?_
    refine gs_aload_n (pc := 17) C 0 dX12_wronged_17 rfl rfl ?_
    refine gs_geti (pc := 18) C dX12_wronged_18 gk_12 fl_X12_278 sh_147 rfl ?_
    refine gs_iconst (w := 1) (pc := 21) C dX12_wronged_21 rfl ?_
    refine gs_isub (pc := 22) C dX12_wronged_22 ?_
    refine gs_i2l (pc := 23) C dX12_wronged_23 ?_
    obtain ⟨v8, e9, e5⟩ := gs_o1 e5
    refine gs_callSi (pc := 24) C [.long (Int32.toInt64 x1), .long (-1 : Int64), .long (Int32.toInt64 ((M2 147 7) - (1 : Int32)))] dX12_wronged_24 ml_X12_221 wy_X12_isIn (a_X12_isIn _ e9) (by decide) rfl (Nat.le_of_ble_eq_true rfl) rfl ?_
    refine gs_if_eq (pc := 27) C 38 dX12_wronged_27 rfl (fun c10 => ?_) (fun c10 => ?_)
    · replace e5 := gs_ift c10 e5
      refine gs_iconst (w := (-1)) (pc := 38) C dX12_wronged_38 rfl ?_
      obtain ⟨rfl, rfl⟩ := gs_i2 e5
      exact j6
    · replace e5 := gs_iff c10 e5
      refine gs_aload_n (pc := 30) C 0 dX12_wronged_30 rfl rfl ?_
      refine gs_iload_n (pc := 31) C 1 dX12_wronged_31 rfl rfl ?_
      obtain ⟨v11, M12, e13, e5⟩ := gs_o2 e5
      refine gs_callVi (pc := 32) C [.int x1] dX12_wronged_32 ml_X12_441 wy_X12_wrongBy (a_X12_wrongBy _ e13) (by decide) sh_147 (by decide) rfl rfl (Nat.le_of_ble_eq_true rfl) rfl ?_
      refine gs_goto (pc := 35) C 39 dX12_wronged_35 rfl ?_
      obtain ⟨rfl, rfl⟩ := gs_i2 e5
      exact j6
set_option maxRecDepth 100000 in
set_option maxHeartbeats 4000000 in
theorem t_X12_years_49 {X : gs_X} (C : gs_C X RX12 cX12_years 7 (some .int) 82) {x1 : Int32} {x2 : Int64} {o4 : Int32} {M' : gs_M} {L' : gs_L} (k : gs_AW X 146 [(0, .ref 147), (1, .int x1), (2, .long x2), (4, .int o4)] [] M' L') : ∀ (f : Nat) (x4 : Int32) (M : gs_M) (L : gs_L), l_X12_years_49 x1 x2 f x4 M L = some (o4, M', L') → gs_AW X 49 [(0, .ref 147), (1, .int x1), (2, .long x2), (4, .int x4)] [] M L := by
  intro f
  induction f with
  | zero =>
    intro x4 M L h
    cases h
  | succ f ih =>
    intro x4 M L h
    rw [l_X12_years_49] at h
    refine gs_iload (pc := 49) C 3 dX12_years_49 rfl ?_
    refine gs_iload_n (pc := 51) C 1 dX12_years_51 rfl rfl ?_
    refine gs_icmp_ge (pc := 52) C 146 dX12_years_52 rfl (fun c1 => ?_) (fun c1 => ?_)
    · replace h := gs_ift c1 h
      obtain ⟨rfl, rfl, rfl⟩ := gs_i3 h
      exact k
    · replace h := gs_iff c1 h
      refine gs_aload_n (pc := 55) C 0 dX12_years_55 rfl rfl ?_
      obtain ⟨M2, e3, h⟩ := gs_o1 h
      refine gs_callVv (pc := 56) C [] dX12_years_56 ml_X12_371 wy_X12_remember (a_X12_remember _ e3) (by decide) sh_147 (by decide) rfl rfl (Nat.le_of_ble_eq_true rfl) rfl ?_
      refine gs_aload_n (pc := 59) C 0 dX12_years_59 rfl rfl ?_
      refine gs_aload_n (pc := 60) C 0 dX12_years_60 rfl rfl ?_
      refine gs_geti (pc := 61) C dX12_years_61 gk_12 fl_X12_286 sh_147 rfl ?_
      obtain ⟨v4, L5, e6, h⟩ := gs_o2 h
      refine gs_callVi (pc := 64) C [.int (M2 147 24)] dX12_years_64 ml_X12_337 wy_X12_draw (a_X12_draw _ e6) (by decide) sh_147 (by decide) rfl rfl (Nat.le_of_ble_eq_true rfl) rfl ?_
      refine gs_istore (ls' := [(5, .int v4), (0, .ref 147), (1, .int x1), (2, .long x2), (4, .int x4)]) (pc := 67) C dX12_years_67 (by decide) rfl ?_
      refine gs_aload_n (pc := 69) C 1 dX12_years_69 rfl rfl ?_
      refine gs_getq (pc := 70) C dX12_years_70 gk_12 fl_X12_55 sh_147 rfl ?_
      refine gs_bipush (w := 6) (pc := 73) C dX12_years_73 rfl ?_
      refine gs_iload (pc := 75) C 0 dX12_years_75 rfl ?_
      refine gs_imul (pc := 77) C dX12_years_77 ?_
      refine gs_iconst (w := 1) (pc := 78) C dX12_years_78 rfl ?_
      refine gs_iadd (pc := 79) C dX12_years_79 ?_
      refine gs_aload_n (pc := 80) C 1 dX12_years_80 rfl rfl ?_
      refine gs_bipush (w := 10) (pc := 81) C dX12_years_81 rfl ?_
      obtain ⟨v7, L8, e9, h⟩ := gs_o2 h
      refine gs_callVi (pc := 83) C [.int (10 : Int32)] dX12_years_83 ml_X12_337 wy_X12_draw (a_X12_draw _ e9) (by decide) sh_147 (by decide) rfl rfl (Nat.le_of_ble_eq_true rfl) rfl ?_
      obtain ⟨M11, e10, h⟩ := gs_o1 h
      refine gs_iast (pc := 86) C dX12_years_86 sh_158 e10 ?_
      refine gs_aload_n (pc := 87) C 1 dX12_years_87 rfl rfl ?_
      refine gs_bipush (w := 10) (pc := 88) C dX12_years_88 rfl ?_
      obtain ⟨v12, L13, e14, h⟩ := gs_o2 h
      refine gs_callVi (pc := 90) C [.int (10 : Int32)] dX12_years_90 ml_X12_337 wy_X12_draw (a_X12_draw _ e14) (by decide) sh_147 (by decide) rfl rfl (Nat.le_of_ble_eq_true rfl) rfl ?_
      refine gs_aload_n (pc := 93) C 1 dX12_years_93 rfl rfl ?_
      refine gs_geti (pc := 94) C dX12_years_94 gk_12 fl_X12_363 sh_147 rfl ?_
      obtain ⟨M15, L16, e17, h⟩ := gs_o2 h
      have j18 : gs_AW X 136 [(0, .ref 147), (1, .int x1), (2, .long x2), (4, .int x4), (5, .int v4)] [] M15 L16 := by
        refine gs_aload_n (pc := 136) C 0 dX12_years_136 rfl rfl ?_
        obtain ⟨M27, L28, e29, h⟩ := gs_o2 h
        refine gs_callVv (pc := 137) C [] dX12_years_137 ml_X12_377 wy_X12_goNight (a_X12_goNight _ e29) (by decide) sh_147 (by decide) rfl rfl (Nat.le_of_ble_eq_true rfl) rfl ?_
        refine gs_iinc (v := x4 + (1 : Int32)) (ls' := [(4, .int (x4 + (1 : Int32))), (0, .ref 147), (1, .int x1), (2, .long x2), (5, .int v4)]) (pc := 140) C 3 dX12_years_140 rfl rfl (by decide) rfl ?_
        refine gs_goto (pc := 143) C 49 dX12_years_143 rfl ?_
        exact gs_sub [1, 2, 3, 0] rfl (ih _ _ _ h)
      refine gs_icmp_ge (pc := 97) C 136 dX12_years_97 rfl (fun c19 => ?_) (fun c19 => ?_)
      · replace e17 := gs_ift c19 e17
        obtain ⟨rfl, rfl⟩ := gs_i2 e17
        exact gs_sub [1, 2, 3, 4, 0] rfl (j18)
      · replace e17 := gs_iff c19 e17
        refine gs_aload_n (pc := 100) C 1 dX12_years_100 rfl rfl ?_
        refine gs_aload_n (pc := 101) C 1 dX12_years_101 rfl rfl ?_
        refine gs_geti (pc := 102) C dX12_years_102 gk_12 fl_X12_286 sh_147 rfl ?_
        obtain ⟨v20, L21, e22, e17⟩ := gs_o2 e17
        refine gs_callVi (pc := 105) C [.int (M11 147 24)] dX12_years_105 ml_X12_337 wy_X12_draw (a_X12_draw _ e22) (by decide) sh_147 (by decide) rfl rfl (Nat.le_of_ble_eq_true rfl) rfl ?_
        refine gs_istore (ls' := [(6, .int v20), (5, .int v4), (0, .ref 147), (1, .int x1), (2, .long x2), (4, .int x4)]) (pc := 108) C dX12_years_108 (by decide) rfl ?_
        refine gs_aload_n (pc := 110) C 2 dX12_years_110 rfl rfl ?_
        refine gs_getq (pc := 111) C dX12_years_111 gk_12 fl_X12_55 sh_147 rfl ?_
        refine gs_bipush (w := 6) (pc := 114) C dX12_years_114 rfl ?_
        refine gs_iload (pc := 116) C 0 dX12_years_116 rfl ?_
        refine gs_imul (pc := 118) C dX12_years_118 ?_
        refine gs_iconst (w := 0) (pc := 119) C dX12_years_119 rfl ?_
        refine gs_iadd (pc := 120) C dX12_years_120 ?_
        refine gs_bipush (w := 9) (pc := 121) C dX12_years_121 rfl ?_
        refine gs_aload_n (pc := 123) C 2 dX12_years_123 rfl rfl ?_
        refine gs_iload (pc := 124) C 0 dX12_years_124 rfl ?_
        refine gs_iconst (w := 0) (pc := 126) C dX12_years_126 rfl ?_
        obtain ⟨v23, e24, e17⟩ := gs_o1 e17
        refine gs_callVi (pc := 127) C [.int v20, .int (0 : Int32)] dX12_years_127 ml_X12_301 wy_X12_of (a_X12_of _ e24) (by decide) sh_147 (by decide) rfl rfl (Nat.le_of_ble_eq_true rfl) rfl ?_
        refine gs_iconst (w := 3) (pc := 130) C dX12_years_130 rfl ?_
        refine gs_iadd (pc := 131) C dX12_years_131 ?_
        refine gs_mmin (pc := 132) C dX12_years_132 ml_X12_308 (Nat.le_of_ble_eq_true rfl) ?_
        obtain ⟨M26, e25, e17⟩ := gs_o1 e17
        refine gs_iast (pc := 135) C dX12_years_135 sh_158 e25 ?_
        obtain ⟨rfl, rfl⟩ := gs_i2 e17
        exact gs_sub [2, 3, 4, 5, 1] rfl (j18)
set_option maxRecDepth 100000 in
set_option maxHeartbeats 4000000 in
theorem a_X12_years (l : Launch) {M : gs_M} {L : gs_L} {x1 : Int32} {x2 : Int64} {rv : Int32} {Mz : gs_M} {Lz : gs_L} (h : f_X12_years M L x1 x2 = some (rv, Mz, Lz)) : gs_Met l 82 yX12_years cX12_years 7 (some .int) [.ref 147, .int x1, .long x2] M L (some (.int rv)) Mz Lz := by
  unfold f_X12_years at h
  refine gs_of RX12 (by decide) rfl (Nat.le_of_ble_eq_true rfl) (fun X C E => ?_)
  show gs_AW X 0 [(0, .ref 147), (1, .int x1), (2, .long x2)] [] M L
  refine gs_aload_n (pc := 0) C 0 dX12_years_0 rfl rfl ?_
  refine gs_iconst (w := 0) (pc := 1) C dX12_years_1 rfl ?_
  obtain ⟨M2, e1, h⟩ := gs_o1 h
  refine gs_puti' (pc := 2) C dX12_years_2 gk_12 fp_X12_100 sh_147 rfl e1 ?_
  refine gs_aload_n (pc := 5) C 0 dX12_years_5 rfl rfl ?_
  refine gs_geti (pc := 6) C dX12_years_6 gk_12 fl_X12_286 sh_147 rfl ?_
  refine gs_if_eq (pc := 9) C 39 dX12_years_9 rfl (fun c3 => ?_) (fun c3 => ?_)
  · replace h := gs_ift c3 h
    refine gs_iconst (w := (-1)) (pc := 39) C dX12_years_39 rfl ?_
    obtain ⟨rfl, rfl, rfl⟩ := gs_i3 h
    exact gs_iret (pc := 40) C dX12_years_40 E
  · replace h := gs_iff c3 h
    refine gs_iload_n (pc := 12) C 1 dX12_years_12 rfl rfl ?_
    refine gs_i2l (pc := 13) C dX12_years_13 ?_
    refine gs_lconst (w := 1) (pc := 14) C dX12_years_14 rfl ?_
    refine gs_ldc2 (pc := 15) C dX12_years_15 wj_X12_389 ?_
    obtain ⟨v4, e5, h⟩ := gs_o1 h
    refine gs_callSi (pc := 18) C [.long (Int32.toInt64 x1), .long (1 : Int64), .long (30 : Int64)] dX12_years_18 ml_X12_221 wy_X12_isIn (a_X12_isIn _ e5) (by decide) rfl (Nat.le_of_ble_eq_true rfl) rfl ?_
    refine gs_if_eq (pc := 21) C 39 dX12_years_21 rfl (fun c6 => ?_) (fun c6 => ?_)
    · replace h := gs_ift c6 h
      refine gs_iconst (w := (-1)) (pc := 39) C dX12_years_39 rfl ?_
      obtain ⟨rfl, rfl, rfl⟩ := gs_i3 h
      exact gs_iret (pc := 40) C dX12_years_40 E
    · replace h := gs_iff c6 h
      refine gs_aload_n (pc := 24) C 0 dX12_years_24 rfl rfl ?_
      refine gs_getq (pc := 25) C dX12_years_25 gk_12 fl_X12_55 sh_147 rfl ?_
      refine gs_bipush (w := 48) (pc := 28) C dX12_years_28 rfl ?_
      obtain ⟨v7, e8, h⟩ := gs_o1 h
      refine gs_iald (pc := 30) C dX12_years_30 sh_158 e8 ?_
      refine gs_iload_n (pc := 31) C 1 dX12_years_31 rfl rfl ?_
      refine gs_iadd (pc := 32) C dX12_years_32 ?_
      refine gs_sipush (w := 999) (pc := 33) C dX12_years_33 rfl ?_
      refine gs_icmp_le (pc := 36) C 41 dX12_years_36 rfl (fun c9 => ?_) (fun c9 => ?_)
      · replace h := gs_ift c9 h
        refine gs_aload_n (pc := 41) C 0 dX12_years_41 rfl rfl ?_
        refine gs_lload_n (pc := 42) C 2 dX12_years_42 rfl rfl ?_
        obtain ⟨L11, e10, h⟩ := gs_o1 h
        refine gs_putl' (pc := 43) C dX12_years_43 gk_12 fp_X12_326 sh_147 rfl e10 ?_
        refine gs_iconst (w := 0) (pc := 46) C dX12_years_46 rfl ?_
        refine gs_istore (ls' := [(4, .int (0 : Int32)), (0, .ref 147), (1, .int x1), (2, .long x2)]) (pc := 47) C dX12_years_47 (by decide) rfl ?_
        obtain ⟨y12, M13, L14, e15, h⟩ := gs_o3 h
        refine gs_sub [1, 2, 3, 0] rfl (t_X12_years_49 C ?_ gs_FU _ _ _ e15)
        refine gs_aload_n (pc := 146) C 0 dX12_years_146 rfl rfl ?_
        refine gs_getq (pc := 147) C dX12_years_147 gk_12 fl_X12_55 sh_147 rfl ?_
        refine gs_bipush (w := 48) (pc := 150) C dX12_years_150 rfl ?_
        obtain ⟨v16, e17, h⟩ := gs_o1 h
        refine gs_iald (pc := 152) C dX12_years_152 sh_158 e17 ?_
        obtain ⟨rfl, rfl, rfl⟩ := gs_i3 h
        exact gs_iret (pc := 153) C dX12_years_153 E
      · replace h := gs_iff c9 h
        refine gs_iconst (w := (-1)) (pc := 39) C dX12_years_39 rfl ?_
        obtain ⟨rfl, rfl, rfl⟩ := gs_i3 h
        exact gs_iret (pc := 40) C dX12_years_40 E
