set_option maxRecDepth 100000 in
set_option maxHeartbeats 4000000 in
theorem t_X12_goThrough_2_32 {X : gs_X} (C : gs_C X RX12 cX12_goThrough 5 none 78) {L : gs_L} {x2 : Int32} {x3 : Int32} {x4 : Int32} {M' : gs_M} (k : gs_AW X 66 [(0, .ref 147), (1, .ref 148), (2, .int x2), (3, .int x3), (4, .int x4)] [] M' L) : ∀ (f : Nat) (M : gs_M), l_X12_goThrough_2_32 x2 x3 x4 f M = some (M') → gs_AW X 32 [(0, .ref 147), (1, .ref 148), (2, .int x2), (3, .int x3), (4, .int x4)] [] M L := by
  intro f
  induction f with
  | zero =>
    intro M h
    cases h
  | succ f ih =>
    intro M h
    rw [l_X12_goThrough_2_32] at h
    refine gs_aload_n (pc := 32) C 0 dX12_goThrough_32 rfl rfl ?_
    refine gs_geti (pc := 33) C dX12_goThrough_33 gk_12 fl_X12_132 sh_147 rfl ?_
    refine gs_iconst (w := (-1)) (pc := 36) C dX12_goThrough_36 rfl ?_
    refine gs_icmp_ne (pc := 37) C 66 dX12_goThrough_37 rfl (fun c1 => ?_) (fun c1 => ?_)
    · replace h := gs_iff c1 h
      obtain rfl := gs_i1 h
      exact k
    · replace h := gs_ift c1 h
      refine gs_aload_n (pc := 40) C 0 dX12_goThrough_40 rfl rfl ?_
      obtain ⟨v2, M3, e4, h⟩ := gs_o2 h
      refine gs_callVi (pc := 41) C [] dX12_goThrough_41 ml_X12_142 wy_X12_look (a_X12_look _ e4) (by decide) sh_147 (by decide) rfl rfl (Nat.le_of_ble_eq_true rfl) rfl ?_
      refine gs_bipush (w := 59) (pc := 44) C dX12_goThrough_44 rfl ?_
      refine gs_icmp_ne (pc := 46) C 66 dX12_goThrough_46 rfl (fun c5 => ?_) (fun c5 => ?_)
      · replace h := gs_iff c5 h
        obtain rfl := gs_i1 h
        exact k
      · replace h := gs_ift c5 h
        refine gs_aload_n (pc := 49) C 0 dX12_goThrough_49 rfl rfl ?_
        refine gs_dup (pc := 50) C dX12_goThrough_50 rfl ?_
        refine gs_geti (pc := 51) C dX12_goThrough_51 gk_12 fl_X12_123 sh_147 rfl ?_
        refine gs_iconst (w := 1) (pc := 54) C dX12_goThrough_54 rfl ?_
        refine gs_iadd (pc := 55) C dX12_goThrough_55 ?_
        obtain ⟨M7, e6, h⟩ := gs_o1 h
        refine gs_puti' (pc := 56) C dX12_goThrough_56 gk_12 fp_X12_123 sh_147 rfl e6 ?_
        refine gs_aload_n (pc := 59) C 0 dX12_goThrough_59 rfl rfl ?_
        obtain ⟨M8, e9, h⟩ := gs_o1 h
        refine gs_callVv (pc := 60) C [] dX12_goThrough_60 ml_X12_215 wy_X12_clause (a_X12_clause _ e9) (by decide) sh_147 (by decide) rfl rfl (Nat.le_of_ble_eq_true rfl) rfl ?_
        refine gs_goto (pc := 63) C 32 dX12_goThrough_63 rfl ?_
        exact ih _ h
set_option maxRecDepth 100000 in
set_option maxHeartbeats 4000000 in
theorem a_X12_goThrough_2 (l : Launch) {M : gs_M} {L : gs_L} {x2 : Int32} {x3 : Int32} {x4 : Int32} {Mz : gs_M} (h : f_X12_goThrough_2 M x2 x3 x4 = some (Mz)) : gs_Met l 78 yX12_goThrough cX12_goThrough 5 none [.ref 147, .ref 148, .int x2, .int x3, .int x4] M L none Mz L := by
  unfold f_X12_goThrough_2 at h
  refine gs_of RX12 (by decide) rfl (Nat.le_of_ble_eq_true rfl) (fun X C E => ?_)
  show gs_AW X 0 [(0, .ref 147), (1, .ref 148), (2, .int x2), (3, .int x3), (4, .int x4)] [] M L
  refine gs_aload_n (pc := 0) C 0 dX12_goThrough_0 rfl rfl ?_
  refine gs_aload_n (pc := 1) C 1 dX12_goThrough_1 rfl rfl ?_
  refine gs_iload_n (pc := 2) C 2 dX12_goThrough_2 rfl rfl ?_
  refine gs_iload_n (pc := 3) C 3 dX12_goThrough_3 rfl rfl ?_
  obtain ⟨M1, e2, h⟩ := gs_o1 h
  refine gs_callVv (pc := 4) C [.ref 148, .int x2, .int x3] dX12_goThrough_4 ml_X12_211 wy_X12_starts (a_X12_starts_2 _ e2) (by decide) sh_147 (by decide) rfl rfl (Nat.le_of_ble_eq_true rfl) rfl ?_
  refine gs_aload_n (pc := 7) C 0 dX12_goThrough_7 rfl rfl ?_
  refine gs_iload (pc := 8) C 4 dX12_goThrough_8 rfl ?_
  obtain ⟨M4, e3, h⟩ := gs_o1 h
  refine gs_puti' (pc := 10) C dX12_goThrough_10 gk_12 fp_X12_205 sh_147 rfl e3 ?_
  refine gs_aload_n (pc := 13) C 0 dX12_goThrough_13 rfl rfl ?_
  refine gs_iconst (w := 0) (pc := 14) C dX12_goThrough_14 rfl ?_
  obtain ⟨M6, e5, h⟩ := gs_o1 h
  refine gs_puti' (pc := 15) C dX12_goThrough_15 gk_12 fp_X12_135 sh_147 rfl e5 ?_
  refine gs_aload_n (pc := 18) C 0 dX12_goThrough_18 rfl rfl ?_
  refine gs_iconst (w := 0) (pc := 19) C dX12_goThrough_19 rfl ?_
  obtain ⟨M8, e7, h⟩ := gs_o1 h
  refine gs_putz' (pc := 20) C dX12_goThrough_20 gk_12 fp_X12_201 sh_147 rfl (by decide) e7 ?_
  refine gs_aload_n (pc := 23) C 0 dX12_goThrough_23 rfl rfl ?_
  refine gs_iconst (w := 0) (pc := 24) C dX12_goThrough_24 rfl ?_
  obtain ⟨M10, e9, h⟩ := gs_o1 h
  refine gs_puti' (pc := 25) C dX12_goThrough_25 gk_12 fp_X12_208 sh_147 rfl e9 ?_
  refine gs_aload_n (pc := 28) C 0 dX12_goThrough_28 rfl rfl ?_
  obtain ⟨M11, e12, h⟩ := gs_o1 h
  refine gs_callVv (pc := 29) C [] dX12_goThrough_29 ml_X12_215 wy_X12_clause (a_X12_clause _ e12) (by decide) sh_147 (by decide) rfl rfl (Nat.le_of_ble_eq_true rfl) rfl ?_
  obtain ⟨M13, e14, h⟩ := gs_o1 h
  refine t_X12_goThrough_2_32 C ?_ gs_FU _ e14
  refine gs_aload_n (pc := 66) C 0 dX12_goThrough_66 rfl rfl ?_
  refine gs_geti (pc := 67) C dX12_goThrough_67 gk_12 fl_X12_132 sh_147 rfl ?_
  refine gs_iconst (w := (-1)) (pc := 70) C dX12_goThrough_70 rfl ?_
  obtain ⟨M15, e16, h⟩ := gs_o1 h
  have j17 : gs_AW X 87 [(0, .ref 147), (1, .ref 148), (2, .int x2), (3, .int x3), (4, .int x4)] [] M15 L := by
    obtain rfl := gs_i1 h
    exact gs_vret (pc := 87) C dX12_goThrough_87 E
  refine gs_icmp_ne (pc := 71) C 87 dX12_goThrough_71 rfl (fun c18 => ?_) (fun c18 => ?_)
  · replace e16 := gs_iff c18 e16
    obtain rfl := gs_i1 e16
    exact j17
  · replace e16 := gs_ift c18 e16
    refine gs_aload_n (pc := 74) C 0 dX12_goThrough_74 rfl rfl ?_
    obtain ⟨v19, M20, e21, e16⟩ := gs_o2 e16
    refine gs_callVi (pc := 75) C [] dX12_goThrough_75 ml_X12_142 wy_X12_look (a_X12_look _ e21) (by decide) sh_147 (by decide) rfl rfl (Nat.le_of_ble_eq_true rfl) rfl ?_
    refine gs_iconst (w := (-1)) (pc := 78) C dX12_goThrough_78 rfl ?_
    refine gs_icmp_eq (pc := 79) C 87 dX12_goThrough_79 rfl (fun c22 => ?_) (fun c22 => ?_)
    · replace e16 := gs_ift c22 e16
      obtain rfl := gs_i1 e16
      exact j17
    · replace e16 := gs_iff c22 e16
      refine gs_aload_n (pc := 82) C 0 dX12_goThrough_82 rfl rfl ?_
      obtain ⟨v23, M24, e25, e16⟩ := gs_o2 e16
      refine gs_callVi (pc := 83) C [] dX12_goThrough_83 ml_X12_138 wy_X12_fails (a_X12_fails _ e25) (by decide) sh_147 (by decide) rfl rfl (Nat.le_of_ble_eq_true rfl) rfl ?_
      refine gs_pop (pc := 86) C dX12_goThrough_86 rfl ?_
      obtain rfl := gs_i1 e16
      exact j17
set_option maxRecDepth 100000 in
set_option maxHeartbeats 4000000 in
theorem t_X12_readWatch_15 {X : gs_X} (C : gs_C X RX12 cX12_readWatch 3 none 1) {L : gs_L} {Mz : gs_M} (E : gs_E X none Mz L) : ∀ (f : Nat) (x1 : Int32) (M : gs_M), l_X12_readWatch_15  f x1 M = some (Mz) → gs_AW X 15 [(0, .ref 147), (1, .int x1)] [] M L := by
  intro f
  induction f with
  | zero =>
    intro x1 M h
    cases h
  | succ f ih =>
    intro x1 M h
    rw [l_X12_readWatch_15] at h
    refine gs_aload_n (pc := 15) C 0 dX12_readWatch_15 rfl rfl ?_
    refine gs_geti (pc := 16) C dX12_readWatch_16 gk_12 fl_X12_132 sh_147 rfl ?_
    refine gs_iconst (w := (-1)) (pc := 19) C dX12_readWatch_19 rfl ?_
    refine gs_icmp_ne (pc := 20) C 88 dX12_readWatch_20 rfl (fun c1 => ?_) (fun c1 => ?_)
    · replace h := gs_iff c1 h
      refine gs_aload_n (pc := 88) C 0 dX12_readWatch_88 rfl rfl ?_
      refine gs_getq (pc := 89) C dX12_readWatch_89 gk_12 fl_X12_52 sh_147 rfl ?_
      refine gs_iconst (w := 4) (pc := 92) C dX12_readWatch_92 rfl ?_
      refine gs_iload_n (pc := 93) C 1 dX12_readWatch_93 rfl rfl ?_
      obtain ⟨M3, e2, h⟩ := gs_o1 h
      refine gs_iast (pc := 94) C dX12_readWatch_94 sh_157 e2 ?_
      obtain rfl := gs_i1 h
      exact gs_vret (pc := 95) C dX12_readWatch_95 E
    · replace h := gs_ift c1 h
      refine gs_iload_n (pc := 23) C 1 dX12_readWatch_23 rfl rfl ?_
      refine gs_if_eq (pc := 24) C 35 dX12_readWatch_24 rfl (fun c4 => ?_) (fun c4 => ?_)
      · replace h := gs_ift c4 h
        refine gs_aload_n (pc := 35) C 0 dX12_readWatch_35 rfl rfl ?_
        obtain ⟨v5, M6, e7, h⟩ := gs_o2 h
        refine gs_callVi (pc := 36) C [] dX12_readWatch_36 ml_X12_142 wy_X12_look (a_X12_look _ e7) (by decide) sh_147 (by decide) rfl rfl (Nat.le_of_ble_eq_true rfl) rfl ?_
        refine gs_istore_n (ls' := [(2, .int v5), (0, .ref 147), (1, .int x1)]) (pc := 39) C dX12_readWatch_39 rfl (by decide) rfl ?_
        refine gs_aload_n (pc := 40) C 1 dX12_readWatch_40 rfl rfl ?_
        obtain ⟨v8, e9, h⟩ := gs_o1 h
        refine gs_callVi (pc := 41) C [] dX12_readWatch_41 ml_X12_172 wy_X12_isDigit (a_X12_isDigit _ e9) (by decide) sh_147 (by decide) rfl rfl (Nat.le_of_ble_eq_true rfl) rfl ?_
        refine gs_if_eq (pc := 44) C 53 dX12_readWatch_44 rfl (fun c10 => ?_) (fun c10 => ?_)
        · replace h := gs_ift c10 h
          refine gs_aload_n (pc := 53) C 1 dX12_readWatch_53 rfl rfl ?_
          obtain ⟨v11, M12, e13, h⟩ := gs_o2 h
          refine gs_callVi (pc := 54) C [] dX12_readWatch_54 ml_X12_138 wy_X12_fails (a_X12_fails _ e13) (by decide) sh_147 (by decide) rfl rfl (Nat.le_of_ble_eq_true rfl) rfl ?_
          refine gs_pop (pc := 57) C dX12_readWatch_57 rfl ?_
          obtain rfl := gs_i1 h
          exact gs_vret (pc := 58) C dX12_readWatch_58 E
        · replace h := gs_iff c10 h
          refine gs_iload_n (pc := 47) C 2 dX12_readWatch_47 rfl rfl ?_
          refine gs_bipush (w := 9) (pc := 48) C dX12_readWatch_48 rfl ?_
          refine gs_icmp_ne (pc := 50) C 59 dX12_readWatch_50 rfl (fun c14 => ?_) (fun c14 => ?_)
          · replace h := gs_iff c14 h
            refine gs_aload_n (pc := 59) C 1 dX12_readWatch_59 rfl rfl ?_
            refine gs_getq (pc := 60) C dX12_readWatch_60 gk_12 fl_X12_49 sh_147 rfl ?_
            refine gs_bipush (w := 36) (pc := 63) C dX12_readWatch_63 rfl ?_
            refine gs_iload_n (pc := 65) C 2 dX12_readWatch_65 rfl rfl ?_
            refine gs_iadd (pc := 66) C dX12_readWatch_66 ?_
            refine gs_iload_n (pc := 67) C 0 dX12_readWatch_67 rfl rfl ?_
            refine gs_bipush (w := 48) (pc := 68) C dX12_readWatch_68 rfl ?_
            refine gs_isub (pc := 70) C dX12_readWatch_70 ?_
            obtain ⟨M16, e15, h⟩ := gs_o1 h
            refine gs_iast (pc := 71) C dX12_readWatch_71 sh_156 e15 ?_
            refine gs_aload_n (pc := 72) C 1 dX12_readWatch_72 rfl rfl ?_
            refine gs_dup (pc := 73) C dX12_readWatch_73 rfl ?_
            refine gs_geti (pc := 74) C dX12_readWatch_74 gk_12 fl_X12_123 sh_147 rfl ?_
            refine gs_iconst (w := 1) (pc := 77) C dX12_readWatch_77 rfl ?_
            refine gs_iadd (pc := 78) C dX12_readWatch_78 ?_
            obtain ⟨M18, e17, h⟩ := gs_o1 h
            refine gs_puti' (pc := 79) C dX12_readWatch_79 gk_12 fp_X12_123 sh_147 rfl e17 ?_
            refine gs_iinc (v := x1 + (1 : Int32)) (ls' := [(1, .int (x1 + (1 : Int32))), (2, .int v5), (0, .ref 147)]) (pc := 82) C 2 dX12_readWatch_82 rfl rfl (by decide) rfl ?_
            refine gs_goto (pc := 85) C 15 dX12_readWatch_85 rfl ?_
            exact gs_sub [2, 0] rfl (ih _ _ h)
          · replace h := gs_ift c14 h
            refine gs_aload_n (pc := 53) C 1 dX12_readWatch_53 rfl rfl ?_
            obtain ⟨v19, M20, e21, h⟩ := gs_o2 h
            refine gs_callVi (pc := 54) C [] dX12_readWatch_54 ml_X12_138 wy_X12_fails (a_X12_fails _ e21) (by decide) sh_147 (by decide) rfl rfl (Nat.le_of_ble_eq_true rfl) rfl ?_
            refine gs_pop (pc := 57) C dX12_readWatch_57 rfl ?_
            obtain rfl := gs_i1 h
            exact gs_vret (pc := 58) C dX12_readWatch_58 E
      · replace h := gs_iff c4 h
        refine gs_aload_n (pc := 27) C 0 dX12_readWatch_27 rfl rfl ?_
        obtain ⟨v22, M23, e24, h⟩ := gs_o2 h
        refine gs_callVi (pc := 28) C [] dX12_readWatch_28 ml_X12_142 wy_X12_look (a_X12_look _ e24) (by decide) sh_147 (by decide) rfl rfl (Nat.le_of_ble_eq_true rfl) rfl ?_
        refine gs_iconst (w := (-1)) (pc := 31) C dX12_readWatch_31 rfl ?_
        refine gs_icmp_eq (pc := 32) C 88 dX12_readWatch_32 rfl (fun c25 => ?_) (fun c25 => ?_)
        · replace h := gs_ift c25 h
          refine gs_aload_n (pc := 88) C 0 dX12_readWatch_88 rfl rfl ?_
          refine gs_getq (pc := 89) C dX12_readWatch_89 gk_12 fl_X12_52 sh_147 rfl ?_
          refine gs_iconst (w := 4) (pc := 92) C dX12_readWatch_92 rfl ?_
          refine gs_iload_n (pc := 93) C 1 dX12_readWatch_93 rfl rfl ?_
          obtain ⟨M27, e26, h⟩ := gs_o1 h
          refine gs_iast (pc := 94) C dX12_readWatch_94 sh_157 e26 ?_
          obtain rfl := gs_i1 h
          exact gs_vret (pc := 95) C dX12_readWatch_95 E
        · replace h := gs_iff c25 h
          refine gs_aload_n (pc := 35) C 0 dX12_readWatch_35 rfl rfl ?_
          obtain ⟨v28, M29, e30, h⟩ := gs_o2 h
          refine gs_callVi (pc := 36) C [] dX12_readWatch_36 ml_X12_142 wy_X12_look (a_X12_look _ e30) (by decide) sh_147 (by decide) rfl rfl (Nat.le_of_ble_eq_true rfl) rfl ?_
          refine gs_istore_n (ls' := [(2, .int v28), (0, .ref 147), (1, .int x1)]) (pc := 39) C dX12_readWatch_39 rfl (by decide) rfl ?_
          refine gs_aload_n (pc := 40) C 1 dX12_readWatch_40 rfl rfl ?_
          obtain ⟨v31, e32, h⟩ := gs_o1 h
          refine gs_callVi (pc := 41) C [] dX12_readWatch_41 ml_X12_172 wy_X12_isDigit (a_X12_isDigit _ e32) (by decide) sh_147 (by decide) rfl rfl (Nat.le_of_ble_eq_true rfl) rfl ?_
          refine gs_if_eq (pc := 44) C 53 dX12_readWatch_44 rfl (fun c33 => ?_) (fun c33 => ?_)
          · replace h := gs_ift c33 h
            refine gs_aload_n (pc := 53) C 1 dX12_readWatch_53 rfl rfl ?_
            obtain ⟨v34, M35, e36, h⟩ := gs_o2 h
            refine gs_callVi (pc := 54) C [] dX12_readWatch_54 ml_X12_138 wy_X12_fails (a_X12_fails _ e36) (by decide) sh_147 (by decide) rfl rfl (Nat.le_of_ble_eq_true rfl) rfl ?_
            refine gs_pop (pc := 57) C dX12_readWatch_57 rfl ?_
            obtain rfl := gs_i1 h
            exact gs_vret (pc := 58) C dX12_readWatch_58 E
          · replace h := gs_iff c33 h
            refine gs_iload_n (pc := 47) C 2 dX12_readWatch_47 rfl rfl ?_
            refine gs_bipush (w := 9) (pc := 48) C dX12_readWatch_48 rfl ?_
            refine gs_icmp_ne (pc := 50) C 59 dX12_readWatch_50 rfl (fun c37 => ?_) (fun c37 => ?_)
            · replace h := gs_iff c37 h
              refine gs_aload_n (pc := 59) C 1 dX12_readWatch_59 rfl rfl ?_
              refine gs_getq (pc := 60) C dX12_readWatch_60 gk_12 fl_X12_49 sh_147 rfl ?_
              refine gs_bipush (w := 36) (pc := 63) C dX12_readWatch_63 rfl ?_
              refine gs_iload_n (pc := 65) C 2 dX12_readWatch_65 rfl rfl ?_
              refine gs_iadd (pc := 66) C dX12_readWatch_66 ?_
              refine gs_iload_n (pc := 67) C 0 dX12_readWatch_67 rfl rfl ?_
              refine gs_bipush (w := 48) (pc := 68) C dX12_readWatch_68 rfl ?_
              refine gs_isub (pc := 70) C dX12_readWatch_70 ?_
              obtain ⟨M39, e38, h⟩ := gs_o1 h
              refine gs_iast (pc := 71) C dX12_readWatch_71 sh_156 e38 ?_
              refine gs_aload_n (pc := 72) C 1 dX12_readWatch_72 rfl rfl ?_
              refine gs_dup (pc := 73) C dX12_readWatch_73 rfl ?_
              refine gs_geti (pc := 74) C dX12_readWatch_74 gk_12 fl_X12_123 sh_147 rfl ?_
              refine gs_iconst (w := 1) (pc := 77) C dX12_readWatch_77 rfl ?_
              refine gs_iadd (pc := 78) C dX12_readWatch_78 ?_
              obtain ⟨M41, e40, h⟩ := gs_o1 h
              refine gs_puti' (pc := 79) C dX12_readWatch_79 gk_12 fp_X12_123 sh_147 rfl e40 ?_
              refine gs_iinc (v := x1 + (1 : Int32)) (ls' := [(1, .int (x1 + (1 : Int32))), (2, .int v28), (0, .ref 147)]) (pc := 82) C 2 dX12_readWatch_82 rfl rfl (by decide) rfl ?_
              refine gs_goto (pc := 85) C 15 dX12_readWatch_85 rfl ?_
              exact gs_sub [2, 0] rfl (ih _ _ h)
            · replace h := gs_ift c37 h
              refine gs_aload_n (pc := 53) C 1 dX12_readWatch_53 rfl rfl ?_
              obtain ⟨v42, M43, e44, h⟩ := gs_o2 h
              refine gs_callVi (pc := 54) C [] dX12_readWatch_54 ml_X12_138 wy_X12_fails (a_X12_fails _ e44) (by decide) sh_147 (by decide) rfl rfl (Nat.le_of_ble_eq_true rfl) rfl ?_
              refine gs_pop (pc := 57) C dX12_readWatch_57 rfl ?_
              obtain rfl := gs_i1 h
              exact gs_vret (pc := 58) C dX12_readWatch_58 E
set_option maxRecDepth 100000 in
set_option maxHeartbeats 4000000 in
theorem a_X12_readWatch (l : Launch) {M : gs_M} {L : gs_L} {Mz : gs_M} (h : f_X12_readWatch M = some (Mz)) : gs_Met l 1 yX12_readWatch cX12_readWatch 3 none [.ref 147] M L none Mz L := by
  unfold f_X12_readWatch at h
  refine gs_of RX12 (by decide) rfl (Nat.le_of_ble_eq_true rfl) (fun X C E => ?_)
  show gs_AW X 0 [(0, .ref 147)] [] M L
  refine gs_aload_n (pc := 0) C 0 dX12_readWatch_0 rfl rfl ?_
  refine gs_aload_n (pc := 1) C 0 dX12_readWatch_1 rfl rfl ?_
  refine gs_getq (pc := 2) C dX12_readWatch_2 gk_12 fl_X12_9 sh_147 rfl ?_
  refine gs_iconst (w := 0) (pc := 5) C dX12_readWatch_5 rfl ?_
  refine gs_aload_n (pc := 6) C 0 dX12_readWatch_6 rfl rfl ?_
  refine gs_geti (pc := 7) C dX12_readWatch_7 gk_12 fl_X12_113 sh_147 rfl ?_
  obtain ⟨M1, e2, h⟩ := gs_o1 h
  refine gs_callVv (pc := 10) C [.ref 148, .int (0 : Int32), .int (M 147 6)] dX12_readWatch_10 ml_X12_211 wy_X12_starts (a_X12_starts_2 _ e2) (by decide) sh_147 (by decide) rfl rfl (Nat.le_of_ble_eq_true rfl) rfl ?_
  refine gs_iconst (w := 0) (pc := 13) C dX12_readWatch_13 rfl ?_
  refine gs_istore_n (ls' := [(1, .int (0 : Int32)), (0, .ref 147)]) (pc := 14) C dX12_readWatch_14 rfl (by decide) rfl ?_
  exact gs_sub [1, 0] rfl (t_X12_readWatch_15 C E gs_FU _ _ h)
set_option maxRecDepth 100000 in
set_option maxHeartbeats 4000000 in
theorem a_X12_fault (l : Launch) {M : gs_M} {L : gs_L} {x1 : Int32} {rv : Int32} {Mz : gs_M} (h : f_X12_fault M x1 = some (rv, Mz)) : gs_Met l 79 yX12_fault cX12_fault 2 (some .int) [.ref 147, .int x1] M L (some (.int rv)) Mz L := by
  unfold f_X12_fault at h
  refine gs_of RX12 (by decide) rfl (Nat.le_of_ble_eq_true rfl) (fun X C E => ?_)
  show gs_AW X 0 [(0, .ref 147), (1, .int x1)] [] M L
  refine gs_aload_n (pc := 0) C 0 dX12_fault_0 rfl rfl ?_
  refine gs_iconst (w := 0) (pc := 1) C dX12_fault_1 rfl ?_
  obtain ⟨M2, e1, h⟩ := gs_o1 h
  refine gs_puti' (pc := 2) C dX12_fault_2 gk_12 fp_X12_100 sh_147 rfl e1 ?_
  refine gs_iload_n (pc := 5) C 1 dX12_fault_5 rfl rfl ?_
  refine gs_i2l (pc := 6) C dX12_fault_6 ?_
  refine gs_lconst (w := 0) (pc := 7) C dX12_fault_7 rfl ?_
  refine gs_ldc2 (pc := 8) C dX12_fault_8 wj_X12_266 ?_
  obtain ⟨v3, e4, h⟩ := gs_o1 h
  refine gs_callSi (pc := 11) C [.long (Int32.toInt64 x1), .long (0 : Int64), .long (2 : Int64)] dX12_fault_11 ml_X12_221 wy_X12_isIn (a_X12_isIn _ e4) (by decide) rfl (Nat.le_of_ble_eq_true rfl) rfl ?_
  refine gs_if_ne (pc := 14) C 20 dX12_fault_14 rfl (fun c5 => ?_) (fun c5 => ?_)
  · replace h := gs_iff c5 h
    refine gs_iload_n (pc := 20) C 1 dX12_fault_20 rfl rfl ?_
    obtain ⟨M6, e7, h⟩ := gs_o1 h
    have j8 : gs_AW X 28 [(0, .ref 147), (1, .int x1)] [] M6 L := by
      refine gs_iload_n (pc := 28) C 1 dX12_fault_28 rfl rfl ?_
      refine gs_iconst (w := 1) (pc := 29) C dX12_fault_29 rfl ?_
      obtain ⟨M12, e13, h⟩ := gs_o1 h
      have j14 : gs_AW X 48 [(0, .ref 147), (1, .int x1)] [] M12 L := by
        refine gs_iload_n (pc := 48) C 1 dX12_fault_48 rfl rfl ?_
        refine gs_iconst (w := 2) (pc := 49) C dX12_fault_49 rfl ?_
        obtain ⟨M18, e19, h⟩ := gs_o1 h
        have j20 : gs_AW X 57 [(0, .ref 147), (1, .int x1)] [] M18 L := by
          refine gs_aload_n (pc := 57) C 0 dX12_fault_57 rfl rfl ?_
          refine gs_geti (pc := 58) C dX12_fault_58 gk_12 fl_X12_132 sh_147 rfl ?_
          obtain ⟨rfl, rfl⟩ := gs_i2 h
          exact gs_iret (pc := 61) C dX12_fault_61 E
        refine gs_icmp_ne (pc := 50) C 57 dX12_fault_50 rfl (fun c21 => ?_) (fun c21 => ?_)
        · replace e19 := gs_iff c21 e19
          obtain rfl := gs_i1 e19
          exact j20
        · replace e19 := gs_ift c21 e19
          refine gs_aload_n (pc := 53) C 0 dX12_fault_53 rfl rfl ?_
          obtain ⟨M22, e23, e19⟩ := gs_o1 e19
          refine gs_callVv (pc := 54) C [] dX12_fault_54 ml_X12_275 wy_X12_readWatch (a_X12_readWatch _ e23) (by decide) sh_147 (by decide) rfl rfl (Nat.le_of_ble_eq_true rfl) rfl ?_
          obtain rfl := gs_i1 e19
          exact j20
      refine gs_icmp_ne (pc := 30) C 48 dX12_fault_30 rfl (fun c15 => ?_) (fun c15 => ?_)
      · replace e13 := gs_iff c15 e13
        obtain rfl := gs_i1 e13
        exact j14
      · replace e13 := gs_ift c15 e13
        refine gs_aload_n (pc := 33) C 0 dX12_fault_33 rfl rfl ?_
        refine gs_aload_n (pc := 34) C 0 dX12_fault_34 rfl rfl ?_
        refine gs_getq (pc := 35) C dX12_fault_35 gk_12 fl_X12_9 sh_147 rfl ?_
        refine gs_iconst (w := 0) (pc := 38) C dX12_fault_38 rfl ?_
        refine gs_aload_n (pc := 39) C 0 dX12_fault_39 rfl rfl ?_
        refine gs_geti (pc := 40) C dX12_fault_40 gk_12 fl_X12_113 sh_147 rfl ?_
        refine gs_bipush (w := 121) (pc := 43) C dX12_fault_43 rfl ?_
        obtain ⟨M16, e17, e13⟩ := gs_o1 e13
        refine gs_callVv (pc := 45) C [.ref 148, .int (0 : Int32), .int (M6 147 6), .int (121 : Int32)] dX12_fault_45 ml_X12_271 wy_X12_goThrough (a_X12_goThrough_2 _ e17) (by decide) sh_147 (by decide) rfl rfl (Nat.le_of_ble_eq_true rfl) rfl ?_
        obtain rfl := gs_i1 e13
        exact j14
    refine gs_if_ne (pc := 21) C 28 dX12_fault_21 rfl (fun c9 => ?_) (fun c9 => ?_)
    · replace e7 := gs_iff c9 e7
      obtain rfl := gs_i1 e7
      exact j8
    · replace e7 := gs_ift c9 e7
      refine gs_aload_n (pc := 24) C 0 dX12_fault_24 rfl rfl ?_
      obtain ⟨M10, e11, e7⟩ := gs_o1 e7
      refine gs_callVv (pc := 25) C [] dX12_fault_25 ml_X12_268 wy_X12_readTown (a_X12_readTown _ e11) (by decide) sh_147 (by decide) rfl rfl (Nat.le_of_ble_eq_true rfl) rfl ?_
      obtain rfl := gs_i1 e7
      exact j8
  · replace h := gs_ift c5 h
    refine gs_bipush (w := (-2)) (pc := 17) C dX12_fault_17 rfl ?_
    obtain ⟨rfl, rfl⟩ := gs_i2 h
    exact gs_iret (pc := 19) C dX12_fault_19 E
set_option maxRecDepth 100000 in
set_option maxHeartbeats 4000000 in
theorem t_X12_bytesIn_5 {X : gs_X} (C : gs_C X RX12 cX12_bytesIn 3 (some .int) 0) {M : gs_M} {L : gs_L} {x0 : Int32} {o1 : Int32} {o2 : Int32} (k : gs_AW X 33 [(0, .int x0), (1, .int o1), (2, .int o2)] [] M L) : ∀ (f : Nat) (x1 : Int32) (x2 : Int32), l_X12_bytesIn_5 x0 f x1 x2 = some (o1, o2) → gs_AW X 5 [(0, .int x0), (1, .int x1), (2, .int x2)] [] M L := by
  intro f
  induction f with
  | zero =>
    intro x1 x2 h
    cases h
  | succ f ih =>
    intro x1 x2 h
    rw [l_X12_bytesIn_5] at h
    refine gs_iload_n (pc := 5) C 2 dX12_bytesIn_5 rfl rfl ?_
    refine gs_if_lt (pc := 6) C 33 dX12_bytesIn_6 rfl (fun c1 => ?_) (fun c1 => ?_)
    · replace h := gs_ift c1 h
      obtain ⟨rfl, rfl⟩ := gs_i2 h
      exact k
    · replace h := gs_iff c1 h
      refine gs_iload_n (pc := 9) C 1 dX12_bytesIn_9 rfl rfl ?_
      refine gs_iload_n (pc := 10) C 0 dX12_bytesIn_10 rfl rfl ?_
      refine gs_iload_n (pc := 11) C 2 dX12_bytesIn_11 rfl rfl ?_
      refine gs_ishr (pc := 12) C dX12_bytesIn_12 ?_
      refine gs_sipush (w := 255) (pc := 13) C dX12_bytesIn_13 rfl ?_
      refine gs_iand (pc := 16) C dX12_bytesIn_16 ?_
      have j2 : gs_AW X 25 [(0, .int x0), (1, .int x1), (2, .int x2)] [.int (if ((x0 >>> (x2 &&& 31)) &&& (255 : Int32)) = (0 : Int32) then (0 : Int32) else (1 : Int32) : Int32), .int x1] M L := by
        refine gs_iadd (pc := 25) C dX12_bytesIn_25 ?_
        refine gs_istore_n (ls' := [(1, .int (x1 + (if ((x0 >>> (x2 &&& 31)) &&& (255 : Int32)) = (0 : Int32) then (0 : Int32) else (1 : Int32) : Int32))), (0, .int x0), (2, .int x2)]) (pc := 26) C dX12_bytesIn_26 rfl (by decide) rfl ?_
        refine gs_iinc (v := x2 + (-8 : Int32)) (ls' := [(2, .int (x2 + (-8 : Int32))), (1, .int (x1 + (if ((x0 >>> (x2 &&& 31)) &&& (255 : Int32)) = (0 : Int32) then (0 : Int32) else (1 : Int32) : Int32))), (0, .int x0)]) (pc := 27) C 2 dX12_bytesIn_27 rfl rfl (by decide) rfl ?_
        refine gs_goto (pc := 30) C 5 dX12_bytesIn_30 rfl ?_
        exact gs_sub [2, 1, 0] rfl (ih _ _ h)
      refine gs_if_eq (pc := 17) C 24 dX12_bytesIn_17 rfl (fun c3 => ?_) (fun c3 => ?_)
      · refine gs_iconst (w := 0) (pc := 24) C dX12_bytesIn_24 rfl ?_
        simp only [if_pos c3] at j2
        exact j2
      · refine gs_iconst (w := 1) (pc := 20) C dX12_bytesIn_20 rfl ?_
        refine gs_goto (pc := 21) C 25 dX12_bytesIn_21 rfl ?_
        simp only [if_neg c3] at j2
        exact j2
set_option maxRecDepth 100000 in
set_option maxHeartbeats 4000000 in
theorem a_X12_bytesIn (l : Launch) {M : gs_M} {L : gs_L} {x0 : Int32} {rv : Int32} (h : f_X12_bytesIn x0 = some (rv)) : gs_Met l 0 yX12_bytesIn cX12_bytesIn 3 (some .int) [.int x0] M L (some (.int rv)) M L := by
  unfold f_X12_bytesIn at h
  refine gs_of RX12 (by decide) rfl (Nat.le_of_ble_eq_true rfl) (fun X C E => ?_)
  show gs_AW X 0 [(0, .int x0)] [] M L
  refine gs_iconst (w := 0) (pc := 0) C dX12_bytesIn_0 rfl ?_
  refine gs_istore_n (ls' := [(1, .int (0 : Int32)), (0, .int x0)]) (pc := 1) C dX12_bytesIn_1 rfl (by decide) rfl ?_
  refine gs_bipush (w := 24) (pc := 2) C dX12_bytesIn_2 rfl ?_
  refine gs_istore_n (ls' := [(2, .int (24 : Int32)), (1, .int (0 : Int32)), (0, .int x0)]) (pc := 4) C dX12_bytesIn_4 rfl (by decide) rfl ?_
  obtain ⟨y1, y2, e3, h⟩ := gs_o2 h
  refine gs_sub [2, 1, 0] rfl (t_X12_bytesIn_5 C ?_ gs_FU _ _ e3)
  refine gs_iload_n (pc := 33) C 1 dX12_bytesIn_33 rfl rfl ?_
  obtain rfl := gs_i1 h
  exact gs_iret (pc := 34) C dX12_bytesIn_34 E
set_option maxRecDepth 100000 in
set_option maxHeartbeats 4000000 in
theorem t_X12_put_3 {X : gs_X} (C : gs_C X RX12 cX12_put 3 none 0) {L : gs_L} {x1 : Int32} {o2 : Int32} {M' : gs_M} (k : gs_AW X 49 [(0, .ref 147), (1, .int x1), (2, .int o2)] [] M' L) : ∀ (f : Nat) (x2 : Int32) (M : gs_M), l_X12_put_3 x1 f x2 M = some (o2, M') → gs_AW X 3 [(0, .ref 147), (1, .int x1), (2, .int x2)] [] M L := by
  intro f
  induction f with
  | zero =>
    intro x2 M h
    cases h
  | succ f ih =>
    intro x2 M h
    rw [l_X12_put_3] at h
    refine gs_iload_n (pc := 3) C 2 dX12_put_3 rfl rfl ?_
    refine gs_if_lt (pc := 4) C 49 dX12_put_4 rfl (fun c1 => ?_) (fun c1 => ?_)
    · replace h := gs_ift c1 h
      obtain ⟨rfl, rfl⟩ := gs_i2 h
      exact k
    · replace h := gs_iff c1 h
      refine gs_iload_n (pc := 7) C 1 dX12_put_7 rfl rfl ?_
      refine gs_iload_n (pc := 8) C 2 dX12_put_8 rfl rfl ?_
      refine gs_ishr (pc := 9) C dX12_put_9 ?_
      refine gs_sipush (w := 255) (pc := 10) C dX12_put_10 rfl ?_
      refine gs_iand (pc := 13) C dX12_put_13 ?_
      obtain ⟨M2, e3, h⟩ := gs_o1 h
      have j4 : gs_AW X 43 [(0, .ref 147), (1, .int x1), (2, .int x2)] [] M2 L := by
        refine gs_iinc (v := x2 + (-8 : Int32)) (ls' := [(2, .int (x2 + (-8 : Int32))), (0, .ref 147), (1, .int x1)]) (pc := 43) C 2 dX12_put_43 rfl rfl (by decide) rfl ?_
        refine gs_goto (pc := 46) C 3 dX12_put_46 rfl ?_
        exact gs_sub [1, 2, 0] rfl (ih _ _ h)
      refine gs_if_ne (pc := 14) C 20 dX12_put_14 rfl (fun c5 => ?_) (fun c5 => ?_)
      · replace e3 := gs_iff c5 e3
        refine gs_aload_n (pc := 20) C 0 dX12_put_20 rfl rfl ?_
        refine gs_getq (pc := 21) C dX12_put_21 gk_12 fl_X12_9 sh_147 rfl ?_
        refine gs_aload_n (pc := 24) C 0 dX12_put_24 rfl rfl ?_
        refine gs_geti (pc := 25) C dX12_put_25 gk_12 fl_X12_113 sh_147 rfl ?_
        refine gs_iload_n (pc := 28) C 1 dX12_put_28 rfl rfl ?_
        refine gs_iload_n (pc := 29) C 2 dX12_put_29 rfl rfl ?_
        refine gs_ishr (pc := 30) C dX12_put_30 ?_
        refine gs_i2b (pc := 31) C dX12_put_31 ?_
        obtain ⟨M7, e6, e3⟩ := gs_o1 e3
        refine gs_bast (pc := 32) C dX12_put_32 sh_148 e6 ?_
        refine gs_aload_n (pc := 33) C 0 dX12_put_33 rfl rfl ?_
        refine gs_dup (pc := 34) C dX12_put_34 rfl ?_
        refine gs_geti (pc := 35) C dX12_put_35 gk_12 fl_X12_113 sh_147 rfl ?_
        refine gs_iconst (w := 1) (pc := 38) C dX12_put_38 rfl ?_
        refine gs_iadd (pc := 39) C dX12_put_39 ?_
        obtain ⟨M9, e8, e3⟩ := gs_o1 e3
        refine gs_puti' (pc := 40) C dX12_put_40 gk_12 fp_X12_113 sh_147 rfl e8 ?_
        obtain rfl := gs_i1 e3
        exact j4
      · replace e3 := gs_ift c5 e3
        refine gs_goto (pc := 17) C 43 dX12_put_17 rfl ?_
        obtain rfl := gs_i1 e3
        exact j4
set_option maxRecDepth 100000 in
set_option maxHeartbeats 4000000 in
theorem a_X12_put (l : Launch) {M : gs_M} {L : gs_L} {x1 : Int32} {Mz : gs_M} (h : f_X12_put M x1 = some (Mz)) : gs_Met l 0 yX12_put cX12_put 3 none [.ref 147, .int x1] M L none Mz L := by
  unfold f_X12_put at h
  refine gs_of RX12 (by decide) rfl (Nat.le_of_ble_eq_true rfl) (fun X C E => ?_)
  show gs_AW X 0 [(0, .ref 147), (1, .int x1)] [] M L
  refine gs_bipush (w := 24) (pc := 0) C dX12_put_0 rfl ?_
  refine gs_istore_n (ls' := [(2, .int (24 : Int32)), (0, .ref 147), (1, .int x1)]) (pc := 2) C dX12_put_2 rfl (by decide) rfl ?_
  obtain ⟨y1, M2, e3, h⟩ := gs_o2 h
  refine gs_sub [1, 2, 0] rfl (t_X12_put_3 C ?_ gs_FU _ _ e3)
  obtain rfl := gs_i1 h
  exact gs_vret (pc := 49) C dX12_put_49 E
set_option maxRecDepth 100000 in
set_option maxHeartbeats 4000000 in
theorem a_X12_feed (l : Launch) {M : gs_M} {L : gs_L} {x1 : Int32} {x2 : Int32} {x3 : Int32} {x4 : Int32} {x5 : Int32} {rv : Int32} {Mz : gs_M} (h : f_X12_feed M x1 x2 x3 x4 x5 = some (rv, Mz)) : gs_Met l 1 yX12_feed cX12_feed 6 (some .int) [.ref 147, .int x1, .int x2, .int x3, .int x4, .int x5] M L (some (.int rv)) Mz L := by
  unfold f_X12_feed at h
  refine gs_of RX12 (by decide) rfl (Nat.le_of_ble_eq_true rfl) (fun X C E => ?_)
  show gs_AW X 0 [(0, .ref 147), (1, .int x1), (2, .int x2), (3, .int x3), (4, .int x4), (5, .int x5)] [] M L
  refine gs_aload_n (pc := 0) C 0 dX12_feed_0 rfl rfl ?_
  refine gs_iconst (w := 0) (pc := 1) C dX12_feed_1 rfl ?_
  obtain ⟨M2, e1, h⟩ := gs_o1 h
  refine gs_puti' (pc := 2) C dX12_feed_2 gk_12 fp_X12_100 sh_147 rfl e1 ?_
  refine gs_aload_n (pc := 5) C 0 dX12_feed_5 rfl rfl ?_
  refine gs_geti (pc := 6) C dX12_feed_6 gk_12 fl_X12_113 sh_147 rfl ?_
  refine gs_iload_n (pc := 9) C 1 dX12_feed_9 rfl rfl ?_
  obtain ⟨v3, e4, h⟩ := gs_o1 h
  refine gs_callSi (pc := 10) C [.int x1] dX12_feed_10 ml_X12_115 wy_X12_bytesIn (a_X12_bytesIn _ e4) (by decide) rfl (Nat.le_of_ble_eq_true rfl) rfl ?_
  refine gs_iadd (pc := 13) C dX12_feed_13 ?_
  refine gs_iload_n (pc := 14) C 2 dX12_feed_14 rfl rfl ?_
  obtain ⟨v5, e6, h⟩ := gs_o1 h
  refine gs_callSi (pc := 15) C [.int x2] dX12_feed_15 ml_X12_115 wy_X12_bytesIn (a_X12_bytesIn _ e6) (by decide) rfl (Nat.le_of_ble_eq_true rfl) rfl ?_
  refine gs_iadd (pc := 18) C dX12_feed_18 ?_
  refine gs_iload_n (pc := 19) C 3 dX12_feed_19 rfl rfl ?_
  obtain ⟨v7, e8, h⟩ := gs_o1 h
  refine gs_callSi (pc := 20) C [.int x3] dX12_feed_20 ml_X12_115 wy_X12_bytesIn (a_X12_bytesIn _ e8) (by decide) rfl (Nat.le_of_ble_eq_true rfl) rfl ?_
  refine gs_iadd (pc := 23) C dX12_feed_23 ?_
  refine gs_iload (pc := 24) C 4 dX12_feed_24 rfl ?_
  obtain ⟨v9, e10, h⟩ := gs_o1 h
  refine gs_callSi (pc := 26) C [.int x4] dX12_feed_26 ml_X12_115 wy_X12_bytesIn (a_X12_bytesIn _ e10) (by decide) rfl (Nat.le_of_ble_eq_true rfl) rfl ?_
  refine gs_iadd (pc := 29) C dX12_feed_29 ?_
  refine gs_iload (pc := 30) C 5 dX12_feed_30 rfl ?_
  obtain ⟨v11, e12, h⟩ := gs_o1 h
  refine gs_callSi (pc := 32) C [.int x5] dX12_feed_32 ml_X12_115 wy_X12_bytesIn (a_X12_bytesIn _ e12) (by decide) rfl (Nat.le_of_ble_eq_true rfl) rfl ?_
  refine gs_iadd (pc := 35) C dX12_feed_35 ?_
  refine gs_sipush (w := 240) (pc := 36) C dX12_feed_36 rfl ?_
  refine gs_icmp_le (pc := 39) C 44 dX12_feed_39 rfl (fun c13 => ?_) (fun c13 => ?_)
  · replace h := gs_ift c13 h
    refine gs_aload_n (pc := 44) C 0 dX12_feed_44 rfl rfl ?_
    refine gs_iload_n (pc := 45) C 1 dX12_feed_45 rfl rfl ?_
    obtain ⟨M14, e15, h⟩ := gs_o1 h
    refine gs_callVv (pc := 46) C [.int x1] dX12_feed_46 ml_X12_119 wy_X12_put (a_X12_put _ e15) (by decide) sh_147 (by decide) rfl rfl (Nat.le_of_ble_eq_true rfl) rfl ?_
    refine gs_aload_n (pc := 49) C 0 dX12_feed_49 rfl rfl ?_
    refine gs_iload_n (pc := 50) C 2 dX12_feed_50 rfl rfl ?_
    obtain ⟨M16, e17, h⟩ := gs_o1 h
    refine gs_callVv (pc := 51) C [.int x2] dX12_feed_51 ml_X12_119 wy_X12_put (a_X12_put _ e17) (by decide) sh_147 (by decide) rfl rfl (Nat.le_of_ble_eq_true rfl) rfl ?_
    refine gs_aload_n (pc := 54) C 0 dX12_feed_54 rfl rfl ?_
    refine gs_iload_n (pc := 55) C 3 dX12_feed_55 rfl rfl ?_
    obtain ⟨M18, e19, h⟩ := gs_o1 h
    refine gs_callVv (pc := 56) C [.int x3] dX12_feed_56 ml_X12_119 wy_X12_put (a_X12_put _ e19) (by decide) sh_147 (by decide) rfl rfl (Nat.le_of_ble_eq_true rfl) rfl ?_
    refine gs_aload_n (pc := 59) C 0 dX12_feed_59 rfl rfl ?_
    refine gs_iload (pc := 60) C 4 dX12_feed_60 rfl ?_
    obtain ⟨M20, e21, h⟩ := gs_o1 h
    refine gs_callVv (pc := 62) C [.int x4] dX12_feed_62 ml_X12_119 wy_X12_put (a_X12_put _ e21) (by decide) sh_147 (by decide) rfl rfl (Nat.le_of_ble_eq_true rfl) rfl ?_
    refine gs_aload_n (pc := 65) C 0 dX12_feed_65 rfl rfl ?_
    refine gs_iload (pc := 66) C 5 dX12_feed_66 rfl ?_
    obtain ⟨M22, e23, h⟩ := gs_o1 h
    refine gs_callVv (pc := 68) C [.int x5] dX12_feed_68 ml_X12_119 wy_X12_put (a_X12_put _ e23) (by decide) sh_147 (by decide) rfl rfl (Nat.le_of_ble_eq_true rfl) rfl ?_
    refine gs_aload_n (pc := 71) C 0 dX12_feed_71 rfl rfl ?_
    refine gs_geti (pc := 72) C dX12_feed_72 gk_12 fl_X12_113 sh_147 rfl ?_
    obtain ⟨rfl, rfl⟩ := gs_i2 h
    exact gs_iret (pc := 75) C dX12_feed_75 E
  · replace h := gs_iff c13 h
    refine gs_iconst (w := (-1)) (pc := 42) C dX12_feed_42 rfl ?_
    obtain ⟨rfl, rfl⟩ := gs_i2 h
    exact gs_iret (pc := 43) C dX12_feed_43 E
set_option maxRecDepth 100000 in
set_option maxHeartbeats 4000000 in
theorem a_X12_forge (l : Launch) {M : gs_M} {L : gs_L} {x1 : Int32} {rv : Int32} {Mz : gs_M} (h : f_X12_forge M x1 = some (rv, Mz)) : gs_Met l 2 yX12_forge cX12_forge 2 (some .boolean) [.ref 147, .int x1] M L (some (.int rv)) Mz L := by
  unfold f_X12_forge at h
  refine gs_of RX12 (by decide) rfl (Nat.le_of_ble_eq_true rfl) (fun X C E => ?_)
  show gs_AW X 0 [(0, .ref 147), (1, .int x1)] [] M L
  refine gs_aload_n (pc := 0) C 0 dX12_forge_0 rfl rfl ?_
  refine gs_iconst (w := 0) (pc := 1) C dX12_forge_1 rfl ?_
  obtain ⟨M2, e1, h⟩ := gs_o1 h
  refine gs_puti' (pc := 2) C dX12_forge_2 gk_12 fp_X12_100 sh_147 rfl e1 ?_
  refine gs_aload_n (pc := 5) C 0 dX12_forge_5 rfl rfl ?_
  refine gs_iload_n (pc := 6) C 1 dX12_forge_6 rfl rfl ?_
  refine gs_iconst (w := 4) (pc := 7) C dX12_forge_7 rfl ?_
  obtain ⟨v3, M4, e5, h⟩ := gs_o2 h
  refine gs_callVi (pc := 8) C [.int x1, .int (4 : Int32)] dX12_forge_8 ml_X12_374 wy_X12_marks (a_X12_marks _ e5) (by decide) sh_147 (by decide) rfl rfl (Nat.le_of_ble_eq_true rfl) rfl ?_
  obtain ⟨z6, e7, h⟩ := gs_o1 h
  obtain ⟨rfl, rfl⟩ := gs_i2 h
  exact gs_zret' (pc := 11) C dX12_forge_11 e7 E
set_option maxRecDepth 100000 in
set_option maxHeartbeats 4000000 in
theorem t_X12_image_16 {X : gs_X} (C : gs_C X RX12 cX12_image 2 (some .int) 0) {L : gs_L} {o1 : Int32} {M' : gs_M} (k : gs_AW X 41 [(0, .ref 147), (1, .int o1)] [] M' L) : ∀ (f : Nat) (x1 : Int32) (M : gs_M), l_X12_image_16  f x1 M = some (o1, M') → gs_AW X 16 [(0, .ref 147), (1, .int x1)] [] M L := by
  intro f
  induction f with
  | zero =>
    intro x1 M h
    cases h
  | succ f ih =>
    intro x1 M h
    rw [l_X12_image_16] at h
    refine gs_iload_n (pc := 16) C 1 dX12_image_16 rfl rfl ?_
    refine gs_sipush (w := 533) (pc := 17) C dX12_image_17 rfl ?_
    refine gs_icmp_ge (pc := 20) C 41 dX12_image_20 rfl (fun c1 => ?_) (fun c1 => ?_)
    · replace h := gs_ift c1 h
      obtain ⟨rfl, rfl⟩ := gs_i2 h
      exact k
    · replace h := gs_iff c1 h
      refine gs_aload_n (pc := 23) C 0 dX12_image_23 rfl rfl ?_
      refine gs_getq (pc := 24) C dX12_image_24 gk_12 fl_X12_97 sh_147 rfl ?_
      refine gs_iload_n (pc := 27) C 1 dX12_image_27 rfl rfl ?_
      refine gs_aload_n (pc := 28) C 0 dX12_image_28 rfl rfl ?_
      refine gs_getq (pc := 29) C dX12_image_29 gk_12 fl_X12_55 sh_147 rfl ?_
      refine gs_iload_n (pc := 32) C 1 dX12_image_32 rfl rfl ?_
      obtain ⟨v2, e3, h⟩ := gs_o1 h
      refine gs_iald (pc := 33) C dX12_image_33 sh_158 e3 ?_
      obtain ⟨M5, e4, h⟩ := gs_o1 h
      refine gs_iast (pc := 34) C dX12_image_34 sh_169 e4 ?_
      refine gs_iinc (v := x1 + (1 : Int32)) (ls' := [(1, .int (x1 + (1 : Int32))), (0, .ref 147)]) (pc := 35) C 1 dX12_image_35 rfl rfl (by decide) rfl ?_
      refine gs_goto (pc := 38) C 16 dX12_image_38 rfl ?_
      exact gs_sub [1, 0] rfl (ih _ _ h)
set_option maxRecDepth 100000 in
set_option maxHeartbeats 4000000 in
theorem a_X12_image (l : Launch) {M : gs_M} {L : gs_L} {rv : Int32} {Mz : gs_M} (h : f_X12_image M = some (rv, Mz)) : gs_Met l 0 yX12_image cX12_image 2 (some .int) [.ref 147] M L (some (.int rv)) Mz L := by
  unfold f_X12_image at h
  refine gs_of RX12 (by decide) rfl (Nat.le_of_ble_eq_true rfl) (fun X C E => ?_)
  show gs_AW X 0 [(0, .ref 147)] [] M L
  refine gs_aload_n (pc := 0) C 0 dX12_image_0 rfl rfl ?_
  refine gs_iconst (w := 0) (pc := 1) C dX12_image_1 rfl ?_
  obtain ⟨M2, e1, h⟩ := gs_o1 h
  refine gs_puti' (pc := 2) C dX12_image_2 gk_12 fp_X12_100 sh_147 rfl e1 ?_
  refine gs_aload_n (pc := 5) C 0 dX12_image_5 rfl rfl ?_
  refine gs_geti (pc := 6) C dX12_image_6 gk_12 fl_X12_286 sh_147 rfl ?_
  refine gs_if_ne (pc := 9) C 14 dX12_image_9 rfl (fun c3 => ?_) (fun c3 => ?_)
  · replace h := gs_iff c3 h
    refine gs_iconst (w := 0) (pc := 14) C dX12_image_14 rfl ?_
    refine gs_istore_n (ls' := [(1, .int (0 : Int32)), (0, .ref 147)]) (pc := 15) C dX12_image_15 rfl (by decide) rfl ?_
    obtain ⟨y4, M5, e6, h⟩ := gs_o2 h
    refine gs_sub [1, 0] rfl (t_X12_image_16 C ?_ gs_FU _ _ e6)
    refine gs_aload_n (pc := 41) C 0 dX12_image_41 rfl rfl ?_
    refine gs_iconst (w := 1) (pc := 42) C dX12_image_42 rfl ?_
    obtain ⟨M8, e7, h⟩ := gs_o1 h
    refine gs_putz' (pc := 43) C dX12_image_43 gk_12 fp_X12_295 sh_147 rfl (by decide) e7 ?_
    refine gs_aload_n (pc := 46) C 0 dX12_image_46 rfl rfl ?_
    refine gs_getq (pc := 47) C dX12_image_47 gk_12 fl_X12_55 sh_147 rfl ?_
    refine gs_bipush (w := 48) (pc := 50) C dX12_image_50 rfl ?_
    obtain ⟨v9, e10, h⟩ := gs_o1 h
    refine gs_iald (pc := 52) C dX12_image_52 sh_158 e10 ?_
    obtain ⟨rfl, rfl⟩ := gs_i2 h
    exact gs_iret (pc := 53) C dX12_image_53 E
  · replace h := gs_ift c3 h
    refine gs_iconst (w := (-1)) (pc := 12) C dX12_image_12 rfl ?_
    obtain ⟨rfl, rfl⟩ := gs_i2 h
    exact gs_iret (pc := 13) C dX12_image_13 E
set_option maxRecDepth 100000 in
set_option maxHeartbeats 4000000 in
theorem t_X12_leaveBook_31 {X : gs_X} (C : gs_C X RX12 cX12_leaveBook 5 none 1) {L : gs_L} {x1 : Int32} {x2 : Int32} {x3 : Int32} {o4 : Int32} {M' : gs_M} (k : gs_AW X 64 [(0, .ref 147), (1, .int x1), (2, .int x2), (3, .int x3), (4, .int o4)] [] M' L) : ∀ (f : Nat) (x4 : Int32) (M : gs_M), l_X12_leaveBook_31 x1 x2 x3 f x4 M = some (o4, M') → gs_AW X 31 [(0, .ref 147), (1, .int x1), (2, .int x2), (3, .int x3), (4, .int x4)] [] M L := by
  intro f
  induction f with
  | zero =>
    intro x4 M h
    cases h
  | succ f ih =>
    intro x4 M h
    rw [l_X12_leaveBook_31] at h
    refine gs_iload (pc := 31) C 4 dX12_leaveBook_31 rfl ?_
    refine gs_iconst (w := 5) (pc := 33) C dX12_leaveBook_33 rfl ?_
    refine gs_icmp_ge (pc := 34) C 64 dX12_leaveBook_34 rfl (fun c1 => ?_) (fun c1 => ?_)
    · replace h := gs_ift c1 h
      obtain ⟨rfl, rfl⟩ := gs_i2 h
      exact k
    · replace h := gs_iff c1 h
      refine gs_aload_n (pc := 37) C 0 dX12_leaveBook_37 rfl rfl ?_
      refine gs_getq (pc := 38) C dX12_leaveBook_38 gk_12 fl_X12_55 sh_147 rfl ?_
      refine gs_bipush (w := 52) (pc := 41) C dX12_leaveBook_41 rfl ?_
      refine gs_iconst (w := 5) (pc := 43) C dX12_leaveBook_43 rfl ?_
      refine gs_iload_n (pc := 44) C 2 dX12_leaveBook_44 rfl rfl ?_
      refine gs_imul (pc := 45) C dX12_leaveBook_45 ?_
      refine gs_iadd (pc := 46) C dX12_leaveBook_46 ?_
      refine gs_iload (pc := 47) C 4 dX12_leaveBook_47 rfl ?_
      refine gs_iadd (pc := 49) C dX12_leaveBook_49 ?_
      refine gs_aload_n (pc := 50) C 0 dX12_leaveBook_50 rfl rfl ?_
      refine gs_iload_n (pc := 51) C 3 dX12_leaveBook_51 rfl rfl ?_
      refine gs_iload (pc := 52) C 4 dX12_leaveBook_52 rfl ?_
      obtain ⟨v2, e3, h⟩ := gs_o1 h
      refine gs_callVi (pc := 54) C [.int x3, .int x4] dX12_leaveBook_54 ml_X12_316 wy_X12_page (a_X12_page _ e3) (by decide) sh_147 (by decide) rfl rfl (Nat.le_of_ble_eq_true rfl) rfl ?_
      obtain ⟨M5, e4, h⟩ := gs_o1 h
      refine gs_iast (pc := 57) C dX12_leaveBook_57 sh_158 e4 ?_
      refine gs_iinc (v := x4 + (1 : Int32)) (ls' := [(4, .int (x4 + (1 : Int32))), (0, .ref 147), (1, .int x1), (2, .int x2), (3, .int x3)]) (pc := 58) C 4 dX12_leaveBook_58 rfl rfl (by decide) rfl ?_
      refine gs_goto (pc := 61) C 31 dX12_leaveBook_61 rfl ?_
      exact gs_sub [1, 2, 3, 4, 0] rfl (ih _ _ h)
set_option maxRecDepth 100000 in
set_option maxHeartbeats 4000000 in
theorem t_X12_leaveBook_4 {X : gs_X} (C : gs_C X RX12 cX12_leaveBook 5 none 1) {L : gs_L} {x1 : Int32} {o2 : Int32} {o3 : Int32} {M' : gs_M} (k : gs_AW X 73 [(0, .ref 147), (1, .int x1), (2, .int o2), (3, .int o3)] [] M' L) : ∀ (f : Nat) (x2 : Int32) (x3 : Int32) (M : gs_M), l_X12_leaveBook_4 x1 f x2 x3 M = some (o2, o3, M') → gs_AW X 4 [(0, .ref 147), (1, .int x1), (2, .int x2), (3, .int x3)] [] M L := by
  intro f
  induction f with
  | zero =>
    intro x2 x3 M h
    cases h
  | succ f ih =>
    intro x2 x3 M h
    rw [l_X12_leaveBook_4] at h
    refine gs_iload_n (pc := 4) C 3 dX12_leaveBook_4 rfl rfl ?_
    refine gs_aload_n (pc := 5) C 0 dX12_leaveBook_5 rfl rfl ?_
    refine gs_getq (pc := 6) C dX12_leaveBook_6 gk_12 fl_X12_55 sh_147 rfl ?_
    refine gs_bipush (w := 51) (pc := 9) C dX12_leaveBook_9 rfl ?_
    obtain ⟨v1, e2, h⟩ := gs_o1 h
    refine gs_iald (pc := 11) C dX12_leaveBook_11 sh_158 e2 ?_
    refine gs_icmp_ge (pc := 12) C 73 dX12_leaveBook_12 rfl (fun c3 => ?_) (fun c3 => ?_)
    · replace h := gs_ift c3 h
      obtain ⟨rfl, rfl, rfl⟩ := gs_i3 h
      exact k
    · replace h := gs_iff c3 h
      refine gs_aload_n (pc := 15) C 0 dX12_leaveBook_15 rfl rfl ?_
      refine gs_iload_n (pc := 16) C 3 dX12_leaveBook_16 rfl rfl ?_
      refine gs_iconst (w := 2) (pc := 17) C dX12_leaveBook_17 rfl ?_
      obtain ⟨v4, e5, h⟩ := gs_o1 h
      refine gs_callVi (pc := 18) C [.int x3, .int (2 : Int32)] dX12_leaveBook_18 ml_X12_316 wy_X12_page (a_X12_page _ e5) (by decide) sh_147 (by decide) rfl rfl (Nat.le_of_ble_eq_true rfl) rfl ?_
      refine gs_iload_n (pc := 21) C 1 dX12_leaveBook_21 rfl rfl ?_
      obtain ⟨y6, M7, e8, h⟩ := gs_o2 h
      have j9 : gs_AW X 67 [(0, .ref 147), (1, .int x1), (2, .int y6), (3, .int x3)] [] M7 L := by
        refine gs_iinc (v := x3 + (1 : Int32)) (ls' := [(3, .int (x3 + (1 : Int32))), (0, .ref 147), (1, .int x1), (2, .int y6)]) (pc := 67) C 3 dX12_leaveBook_67 rfl rfl (by decide) rfl ?_
        refine gs_goto (pc := 70) C 4 dX12_leaveBook_70 rfl ?_
        exact gs_sub [1, 2, 3, 0] rfl (ih _ _ _ h)
      refine gs_icmp_ne (pc := 22) C 28 dX12_leaveBook_22 rfl (fun c10 => ?_) (fun c10 => ?_)
      · replace e8 := gs_iff c10 e8
        refine gs_iconst (w := 0) (pc := 28) C dX12_leaveBook_28 rfl ?_
        refine gs_istore (ls' := [(4, .int (0 : Int32)), (0, .ref 147), (1, .int x1), (2, .int x2), (3, .int x3)]) (pc := 29) C dX12_leaveBook_29 (by decide) rfl ?_
        obtain ⟨y11, M12, e13, e8⟩ := gs_o2 e8
        refine gs_sub [1, 2, 3, 4, 0] rfl (t_X12_leaveBook_31 C ?_ gs_FU _ _ e13)
        refine gs_iinc (v := x2 + (1 : Int32)) (ls' := [(2, .int (x2 + (1 : Int32))), (0, .ref 147), (1, .int x1), (3, .int x3), (4, .int y11)]) (pc := 64) C 2 dX12_leaveBook_64 rfl rfl (by decide) rfl ?_
        obtain ⟨rfl, rfl⟩ := gs_i2 e8
        exact gs_sub [1, 2, 0, 3] rfl (j9)
      · replace e8 := gs_ift c10 e8
        refine gs_goto (pc := 25) C 67 dX12_leaveBook_25 rfl ?_
        obtain ⟨rfl, rfl⟩ := gs_i2 e8
        exact j9
set_option maxRecDepth 100000 in
set_option maxHeartbeats 4000000 in
theorem a_X12_leaveBook (l : Launch) {M : gs_M} {L : gs_L} {x1 : Int32} {Mz : gs_M} (h : f_X12_leaveBook M x1 = some (Mz)) : gs_Met l 1 yX12_leaveBook cX12_leaveBook 5 none [.ref 147, .int x1] M L none Mz L := by
  unfold f_X12_leaveBook at h
  refine gs_of RX12 (by decide) rfl (Nat.le_of_ble_eq_true rfl) (fun X C E => ?_)
  show gs_AW X 0 [(0, .ref 147), (1, .int x1)] [] M L
  refine gs_iconst (w := 0) (pc := 0) C dX12_leaveBook_0 rfl ?_
  refine gs_istore_n (ls' := [(2, .int (0 : Int32)), (0, .ref 147), (1, .int x1)]) (pc := 1) C dX12_leaveBook_1 rfl (by decide) rfl ?_
  refine gs_iconst (w := 0) (pc := 2) C dX12_leaveBook_2 rfl ?_
  refine gs_istore_n (ls' := [(3, .int (0 : Int32)), (2, .int (0 : Int32)), (0, .ref 147), (1, .int x1)]) (pc := 3) C dX12_leaveBook_3 rfl (by decide) rfl ?_
  obtain ⟨y1, y2, M3, e4, h⟩ := gs_o3 h
  refine gs_sub [2, 3, 1, 0] rfl (t_X12_leaveBook_4 C ?_ gs_FU _ _ _ e4)
  refine gs_aload_n (pc := 73) C 0 dX12_leaveBook_73 rfl rfl ?_
  refine gs_getq (pc := 74) C dX12_leaveBook_74 gk_12 fl_X12_55 sh_147 rfl ?_
  refine gs_bipush (w := 51) (pc := 77) C dX12_leaveBook_77 rfl ?_
  refine gs_iload_n (pc := 79) C 2 dX12_leaveBook_79 rfl rfl ?_
  obtain ⟨M6, e5, h⟩ := gs_o1 h
  refine gs_iast (pc := 80) C dX12_leaveBook_80 sh_158 e5 ?_
  obtain rfl := gs_i1 h
  exact gs_vret (pc := 81) C dX12_leaveBook_81 E
set_option maxRecDepth 100000 in
set_option maxHeartbeats 4000000 in
theorem t_X12_judge_135 {X : gs_X} (C : gs_C X RX12 cX12_judge 5 (some .int) 82) {L : gs_L} {x1 : Int32} {x2 : Int32} {x3 : Int32} {o4 : Int32} {M' : gs_M} (k : gs_AW X 173 [(0, .ref 147), (1, .int x1), (2, .int x2), (3, .int x3), (4, .int o4)] [] M' L) : ∀ (f : Nat) (x4 : Int32) (M : gs_M), l_X12_judge_135 x1 x2 x3 f x4 M = some (o4, M') → gs_AW X 135 [(0, .ref 147), (1, .int x1), (2, .int x2), (3, .int x3), (4, .int x4)] [] M L := by
  intro f
  induction f with
  | zero =>
    intro x4 M h
    cases h
  | succ f ih =>
    intro x4 M h
    rw [l_X12_judge_135] at h
    refine gs_iload (pc := 135) C 4 dX12_judge_135 rfl ?_
    refine gs_sipush (w := 177) (pc := 137) C dX12_judge_137 rfl ?_
    refine gs_icmp_gt (pc := 140) C 173 dX12_judge_140 rfl (fun c1 => ?_) (fun c1 => ?_)
    · replace h := gs_ift c1 h
      obtain ⟨rfl, rfl⟩ := gs_i2 h
      exact k
    · replace h := gs_iff c1 h
      refine gs_aload_n (pc := 143) C 0 dX12_judge_143 rfl rfl ?_
      refine gs_getq (pc := 144) C dX12_judge_144 gk_12 fl_X12_55 sh_147 rfl ?_
      refine gs_sipush (w := 352) (pc := 147) C dX12_judge_147 rfl ?_
      refine gs_iload (pc := 150) C 4 dX12_judge_150 rfl ?_
      refine gs_iadd (pc := 152) C dX12_judge_152 ?_
      refine gs_aload_n (pc := 153) C 0 dX12_judge_153 rfl rfl ?_
      refine gs_getq (pc := 154) C dX12_judge_154 gk_12 fl_X12_55 sh_147 rfl ?_
      refine gs_sipush (w := 352) (pc := 157) C dX12_judge_157 rfl ?_
      refine gs_iload (pc := 160) C 4 dX12_judge_160 rfl ?_
      refine gs_iadd (pc := 162) C dX12_judge_162 ?_
      refine gs_iconst (w := 3) (pc := 163) C dX12_judge_163 rfl ?_
      refine gs_iadd (pc := 164) C dX12_judge_164 ?_
      obtain ⟨v2, e3, h⟩ := gs_o1 h
      refine gs_iald (pc := 165) C dX12_judge_165 sh_158 e3 ?_
      obtain ⟨M5, e4, h⟩ := gs_o1 h
      refine gs_iast (pc := 166) C dX12_judge_166 sh_158 e4 ?_
      refine gs_iinc (v := x4 + (1 : Int32)) (ls' := [(4, .int (x4 + (1 : Int32))), (0, .ref 147), (1, .int x1), (2, .int x2), (3, .int x3)]) (pc := 167) C 4 dX12_judge_167 rfl rfl (by decide) rfl ?_
      refine gs_goto (pc := 170) C 135 dX12_judge_170 rfl ?_
      exact gs_sub [1, 2, 3, 4, 0] rfl (ih _ _ h)
set_option maxRecDepth 100000 in
set_option maxHeartbeats 4000000 in
theorem a_X12_judge (l : Launch) {M : gs_M} {L : gs_L} {x1 : Int32} {rv : Int32} {Mz : gs_M} (h : f_X12_judge M x1 = some (rv, Mz)) : gs_Met l 82 yX12_judge cX12_judge 5 (some .int) [.ref 147, .int x1] M L (some (.int rv)) Mz L := by
  unfold f_X12_judge at h
  refine gs_of RX12 (by decide) rfl (Nat.le_of_ble_eq_true rfl) (fun X C E => ?_)
  show gs_AW X 0 [(0, .ref 147), (1, .int x1)] [] M L
  refine gs_aload_n (pc := 0) C 0 dX12_judge_0 rfl rfl ?_
  refine gs_iconst (w := 0) (pc := 1) C dX12_judge_1 rfl ?_
  obtain ⟨M2, e1, h⟩ := gs_o1 h
  refine gs_puti' (pc := 2) C dX12_judge_2 gk_12 fp_X12_100 sh_147 rfl e1 ?_
  refine gs_aload_n (pc := 5) C 0 dX12_judge_5 rfl rfl ?_
  refine gs_iload_n (pc := 6) C 1 dX12_judge_6 rfl rfl ?_
  obtain ⟨v3, e4, h⟩ := gs_o1 h
  refine gs_callVi (pc := 7) C [.int x1] dX12_judge_7 ml_X12_347 wy_X12_isPerson (a_X12_isPerson _ e4) (by decide) sh_147 (by decide) rfl rfl (Nat.le_of_ble_eq_true rfl) rfl ?_
  refine gs_if_eq (pc := 10) C 31 dX12_judge_10 rfl (fun c5 => ?_) (fun c5 => ?_)
  · replace h := gs_ift c5 h
    refine gs_iconst (w := (-1)) (pc := 31) C dX12_judge_31 rfl ?_
    obtain ⟨rfl, rfl⟩ := gs_i2 h
    exact gs_iret (pc := 32) C dX12_judge_32 E
  · replace h := gs_iff c5 h
    refine gs_aload_n (pc := 13) C 0 dX12_judge_13 rfl rfl ?_
    refine gs_iload_n (pc := 14) C 1 dX12_judge_14 rfl rfl ?_
    refine gs_iconst (w := 5) (pc := 15) C dX12_judge_15 rfl ?_
    obtain ⟨v6, e7, h⟩ := gs_o1 h
    refine gs_callVi (pc := 16) C [.int x1, .int (5 : Int32)] dX12_judge_16 ml_X12_301 wy_X12_of (a_X12_of _ e7) (by decide) sh_147 (by decide) rfl rfl (Nat.le_of_ble_eq_true rfl) rfl ?_
    refine gs_iconst (w := 1) (pc := 19) C dX12_judge_19 rfl ?_
    refine gs_icmp_eq (pc := 20) C 31 dX12_judge_20 rfl (fun c8 => ?_) (fun c8 => ?_)
    · replace h := gs_ift c8 h
      refine gs_iconst (w := (-1)) (pc := 31) C dX12_judge_31 rfl ?_
      obtain ⟨rfl, rfl⟩ := gs_i2 h
      exact gs_iret (pc := 32) C dX12_judge_32 E
    · replace h := gs_iff c8 h
      refine gs_aload_n (pc := 23) C 0 dX12_judge_23 rfl rfl ?_
      refine gs_iload_n (pc := 24) C 1 dX12_judge_24 rfl rfl ?_
      obtain ⟨v9, e10, h⟩ := gs_o1 h
      refine gs_callVi (pc := 25) C [.int x1] dX12_judge_25 ml_X12_380 wy_X12_pagesOf (a_X12_pagesOf _ e10) (by decide) sh_147 (by decide) rfl rfl (Nat.le_of_ble_eq_true rfl) rfl ?_
      refine gs_if_ne (pc := 28) C 33 dX12_judge_28 rfl (fun c11 => ?_) (fun c11 => ?_)
      · replace h := gs_iff c11 h
        refine gs_aload_n (pc := 33) C 0 dX12_judge_33 rfl rfl ?_
        obtain ⟨M12, e13, h⟩ := gs_o1 h
        refine gs_callVv (pc := 34) C [] dX12_judge_34 ml_X12_371 wy_X12_remember (a_X12_remember _ e13) (by decide) sh_147 (by decide) rfl rfl (Nat.le_of_ble_eq_true rfl) rfl ?_
        refine gs_aload_n (pc := 37) C 0 dX12_judge_37 rfl rfl ?_
        refine gs_iload_n (pc := 38) C 1 dX12_judge_38 rfl rfl ?_
        obtain ⟨v14, M15, e16, h⟩ := gs_o2 h
        refine gs_callVi (pc := 39) C [.int x1] dX12_judge_39 ml_X12_383 wy_X12_caseOf (a_X12_caseOf _ e16) (by decide) sh_147 (by decide) rfl rfl (Nat.le_of_ble_eq_true rfl) rfl ?_
        refine gs_istore_n (ls' := [(2, .int v14), (0, .ref 147), (1, .int x1)]) (pc := 42) C dX12_judge_42 rfl (by decide) rfl ?_
        refine gs_iload_n (pc := 43) C 0 dX12_judge_43 rfl rfl ?_
        refine gs_aload_n (pc := 44) C 1 dX12_judge_44 rfl rfl ?_
        refine gs_getq (pc := 45) C dX12_judge_45 gk_12 fl_X12_37 sh_147 rfl ?_
        refine gs_iconst (w := 1) (pc := 48) C dX12_judge_48 rfl ?_
        obtain ⟨v17, e18, h⟩ := gs_o1 h
        refine gs_iald (pc := 49) C dX12_judge_49 sh_152 e18 ?_
        have j60 : gs_AW X 58 [(0, .ref 147), (1, .int x1), (2, .int v14)] [.int (if v14 < v17 then (0 : Int32) else (1 : Int32) : Int32)] M15 L := by
          refine gs_istore_n (ls' := [(3, .int (if v14 < v17 then (0 : Int32) else (1 : Int32) : Int32)), (0, .ref 147), (1, .int x1), (2, .int v14)]) (pc := 58) C dX12_judge_58 rfl (by decide) rfl ?_
          refine gs_aload_n (pc := 59) C 1 dX12_judge_59 rfl rfl ?_
          refine gs_getq (pc := 60) C dX12_judge_60 gk_12 fl_X12_55 sh_147 rfl ?_
          refine gs_bipush (w := 6) (pc := 63) C dX12_judge_63 rfl ?_
          refine gs_iload_n (pc := 65) C 2 dX12_judge_65 rfl rfl ?_
          refine gs_imul (pc := 66) C dX12_judge_66 ?_
          refine gs_iconst (w := 5) (pc := 67) C dX12_judge_67 rfl ?_
          refine gs_iadd (pc := 68) C dX12_judge_68 ?_
          refine gs_iload_n (pc := 69) C 0 dX12_judge_69 rfl rfl ?_
          obtain ⟨M20, e19, h⟩ := gs_o1 h
          refine gs_iast (pc := 70) C dX12_judge_70 sh_158 e19 ?_
          refine gs_aload_n (pc := 71) C 1 dX12_judge_71 rfl rfl ?_
          refine gs_getq (pc := 72) C dX12_judge_72 gk_12 fl_X12_55 sh_147 rfl ?_
          refine gs_aload_n (pc := 75) C 1 dX12_judge_75 rfl rfl ?_
          refine gs_iload_n (pc := 76) C 2 dX12_judge_76 rfl rfl ?_
          refine gs_iconst (w := 0) (pc := 77) C dX12_judge_77 rfl ?_
          obtain ⟨v21, e22, h⟩ := gs_o1 h
          refine gs_callVi (pc := 78) C [.int x1, .int (0 : Int32)] dX12_judge_78 ml_X12_301 wy_X12_of (a_X12_of _ e22) (by decide) sh_147 (by decide) rfl rfl (Nat.le_of_ble_eq_true rfl) rfl ?_
          have j58 : gs_AW X 89 [(0, .ref 147), (1, .int x1), (2, .int v14), (3, .int (if v14 < v17 then (0 : Int32) else (1 : Int32) : Int32))] [.int (if v21 ≤ (0 : Int32) then (0 : Int32) else (1 : Int32) : Int32), .ref 158] M20 L := by
            refine gs_iload_n (pc := 89) C 3 dX12_judge_89 rfl rfl ?_
            refine gs_iconst (w := 1) (pc := 90) C dX12_judge_90 rfl ?_
            have j56 : gs_AW X 99 [(0, .ref 147), (1, .int x1), (2, .int v14), (3, .int (if v14 < v17 then (0 : Int32) else (1 : Int32) : Int32))] [.int (if (if v14 < v17 then (0 : Int32) else (1 : Int32) : Int32) = (1 : Int32) then (1 : Int32) else (0 : Int32) : Int32), .int (if v21 ≤ (0 : Int32) then (0 : Int32) else (1 : Int32) : Int32), .ref 158] M20 L := by
              have j54 : gs_AW X 109 [(0, .ref 147), (1, .int x1), (2, .int v14), (3, .int (if v14 < v17 then (0 : Int32) else (1 : Int32) : Int32))] [.int (if (if v21 ≤ (0 : Int32) then (0 : Int32) else (1 : Int32) : Int32) = (if (if v14 < v17 then (0 : Int32) else (1 : Int32) : Int32) = (1 : Int32) then (1 : Int32) else (0 : Int32) : Int32) then (49 : Int32) else (50 : Int32) : Int32), .ref 158] M20 L := by
                refine gs_dup2 (pc := 109) C dX12_judge_109 rfl rfl ?_
                obtain ⟨v23, e24, h⟩ := gs_o1 h
                refine gs_iald (pc := 110) C dX12_judge_110 sh_158 e24 ?_
                refine gs_iconst (w := 1) (pc := 111) C dX12_judge_111 rfl ?_
                refine gs_iadd (pc := 112) C dX12_judge_112 ?_
                obtain ⟨M26, e25, h⟩ := gs_o1 h
                refine gs_iast (pc := 113) C dX12_judge_113 sh_158 e25 ?_
                refine gs_aload_n (pc := 114) C 0 dX12_judge_114 rfl rfl ?_
                refine gs_iload_n (pc := 115) C 1 dX12_judge_115 rfl rfl ?_
                obtain ⟨M27, e28, h⟩ := gs_o1 h
                refine gs_callVv (pc := 116) C [.int x1] dX12_judge_116 ml_X12_386 wy_X12_leaveBook (a_X12_leaveBook _ e28) (by decide) sh_147 (by decide) rfl rfl (Nat.le_of_ble_eq_true rfl) rfl ?_
                refine gs_aload_n (pc := 119) C 0 dX12_judge_119 rfl rfl ?_
                refine gs_getq (pc := 120) C dX12_judge_120 gk_12 fl_X12_55 sh_147 rfl ?_
                refine gs_sipush (w := 352) (pc := 123) C dX12_judge_123 rfl ?_
                obtain ⟨v29, e30, h⟩ := gs_o1 h
                refine gs_iald (pc := 126) C dX12_judge_126 sh_158 e30 ?_
                refine gs_bipush (w := 60) (pc := 127) C dX12_judge_127 rfl ?_
                obtain ⟨M31, e32, h⟩ := gs_o1 h
                have j33 : gs_AW X 185 [(0, .ref 147), (1, .int x1), (2, .int v14), (3, .int (if v14 < v17 then (0 : Int32) else (1 : Int32) : Int32))] [] M31 L := by
                  refine gs_sipush (w := 353) (pc := 185) C dX12_judge_185 rfl ?_
                  refine gs_iconst (w := 3) (pc := 188) C dX12_judge_188 rfl ?_
                  refine gs_aload_n (pc := 189) C 0 dX12_judge_189 rfl rfl ?_
                  refine gs_getq (pc := 190) C dX12_judge_190 gk_12 fl_X12_55 sh_147 rfl ?_
                  refine gs_sipush (w := 352) (pc := 193) C dX12_judge_193 rfl ?_
                  obtain ⟨v42, e43, h⟩ := gs_o1 h
                  refine gs_iald (pc := 196) C dX12_judge_196 sh_158 e43 ?_
                  refine gs_imul (pc := 197) C dX12_judge_197 ?_
                  refine gs_iadd (pc := 198) C dX12_judge_198 ?_
                  refine gs_istore (ls' := [(4, .int ((353 : Int32) + ((3 : Int32) * v42))), (0, .ref 147), (1, .int x1), (2, .int v14), (3, .int (if v14 < v17 then (0 : Int32) else (1 : Int32) : Int32))]) (pc := 199) C dX12_judge_199 (by decide) rfl ?_
                  refine gs_aload_n (pc := 201) C 1 dX12_judge_201 rfl rfl ?_
                  refine gs_getq (pc := 202) C dX12_judge_202 gk_12 fl_X12_55 sh_147 rfl ?_
                  refine gs_iload (pc := 205) C 0 dX12_judge_205 rfl ?_
                  refine gs_iload_n (pc := 207) C 2 dX12_judge_207 rfl rfl ?_
                  obtain ⟨M45, e44, h⟩ := gs_o1 h
                  refine gs_iast (pc := 208) C dX12_judge_208 sh_158 e44 ?_
                  refine gs_aload_n (pc := 209) C 1 dX12_judge_209 rfl rfl ?_
                  refine gs_getq (pc := 210) C dX12_judge_210 gk_12 fl_X12_55 sh_147 rfl ?_
                  refine gs_iload (pc := 213) C 0 dX12_judge_213 rfl ?_
                  refine gs_iconst (w := 1) (pc := 215) C dX12_judge_215 rfl ?_
                  refine gs_iadd (pc := 216) C dX12_judge_216 ?_
                  refine gs_iload_n (pc := 217) C 4 dX12_judge_217 rfl rfl ?_
                  obtain ⟨M47, e46, h⟩ := gs_o1 h
                  refine gs_iast (pc := 218) C dX12_judge_218 sh_158 e46 ?_
                  refine gs_aload_n (pc := 219) C 1 dX12_judge_219 rfl rfl ?_
                  refine gs_getq (pc := 220) C dX12_judge_220 gk_12 fl_X12_55 sh_147 rfl ?_
                  refine gs_iload (pc := 223) C 0 dX12_judge_223 rfl ?_
                  refine gs_iconst (w := 2) (pc := 225) C dX12_judge_225 rfl ?_
                  refine gs_iadd (pc := 226) C dX12_judge_226 ?_
                  refine gs_iload_n (pc := 227) C 3 dX12_judge_227 rfl rfl ?_
                  obtain ⟨M49, e48, h⟩ := gs_o1 h
                  refine gs_iast (pc := 228) C dX12_judge_228 sh_158 e48 ?_
                  refine gs_aload_n (pc := 229) C 1 dX12_judge_229 rfl rfl ?_
                  refine gs_getq (pc := 230) C dX12_judge_230 gk_12 fl_X12_55 sh_147 rfl ?_
                  refine gs_sipush (w := 352) (pc := 233) C dX12_judge_233 rfl ?_
                  refine gs_dup2 (pc := 236) C dX12_judge_236 rfl rfl ?_
                  obtain ⟨v50, e51, h⟩ := gs_o1 h
                  refine gs_iald (pc := 237) C dX12_judge_237 sh_158 e51 ?_
                  refine gs_iconst (w := 1) (pc := 238) C dX12_judge_238 rfl ?_
                  refine gs_iadd (pc := 239) C dX12_judge_239 ?_
                  obtain ⟨M53, e52, h⟩ := gs_o1 h
                  refine gs_iast (pc := 240) C dX12_judge_240 sh_158 e52 ?_
                  refine gs_iload_n (pc := 241) C 4 dX12_judge_241 rfl rfl ?_
                  obtain ⟨rfl, rfl⟩ := gs_i2 h
                  exact gs_iret (pc := 242) C dX12_judge_242 E
                refine gs_icmp_ne (pc := 129) C 185 dX12_judge_129 rfl (fun c34 => ?_) (fun c34 => ?_)
                · replace e32 := gs_iff c34 e32
                  obtain rfl := gs_i1 e32
                  exact j33
                · replace e32 := gs_ift c34 e32
                  refine gs_iconst (w := 1) (pc := 132) C dX12_judge_132 rfl ?_
                  refine gs_istore (ls' := [(4, .int (1 : Int32)), (0, .ref 147), (1, .int x1), (2, .int v14), (3, .int (if v14 < v17 then (0 : Int32) else (1 : Int32) : Int32))]) (pc := 133) C dX12_judge_133 (by decide) rfl ?_
                  obtain ⟨y35, M36, e37, e32⟩ := gs_o2 e32
                  refine gs_sub [1, 2, 3, 4, 0] rfl (t_X12_judge_135 C ?_ gs_FU _ _ e37)
                  refine gs_aload_n (pc := 173) C 0 dX12_judge_173 rfl rfl ?_
                  refine gs_getq (pc := 174) C dX12_judge_174 gk_12 fl_X12_55 sh_147 rfl ?_
                  refine gs_sipush (w := 352) (pc := 177) C dX12_judge_177 rfl ?_
                  refine gs_dup2 (pc := 180) C dX12_judge_180 rfl rfl ?_
                  obtain ⟨v38, e39, e32⟩ := gs_o1 e32
                  refine gs_iald (pc := 181) C dX12_judge_181 sh_158 e39 ?_
                  refine gs_iconst (w := 1) (pc := 182) C dX12_judge_182 rfl ?_
                  refine gs_isub (pc := 183) C dX12_judge_183 ?_
                  obtain ⟨M41, e40, e32⟩ := gs_o1 e32
                  refine gs_iast (pc := 184) C dX12_judge_184 sh_158 e40 ?_
                  obtain rfl := gs_i1 e32
                  exact gs_sub [0, 1, 2, 3] rfl (j33)
              refine gs_icmp_ne (pc := 99) C 107 dX12_judge_99 rfl (fun c55 => ?_) (fun c55 => ?_)
              · refine gs_bipush (w := 50) (pc := 107) C dX12_judge_107 rfl ?_
                simp only [if_neg c55] at j54
                exact j54
              · refine gs_bipush (w := 49) (pc := 102) C dX12_judge_102 rfl ?_
                refine gs_goto (pc := 104) C 109 dX12_judge_104 rfl ?_
                simp only [if_pos c55] at j54
                exact j54
            refine gs_icmp_ne (pc := 91) C 98 dX12_judge_91 rfl (fun c57 => ?_) (fun c57 => ?_)
            · refine gs_iconst (w := 0) (pc := 98) C dX12_judge_98 rfl ?_
              simp only [if_neg c57] at j56
              exact j56
            · refine gs_iconst (w := 1) (pc := 94) C dX12_judge_94 rfl ?_
              refine gs_goto (pc := 95) C 99 dX12_judge_95 rfl ?_
              simp only [if_pos c57] at j56
              exact j56
          refine gs_if_le (pc := 81) C 88 dX12_judge_81 rfl (fun c59 => ?_) (fun c59 => ?_)
          · refine gs_iconst (w := 0) (pc := 88) C dX12_judge_88 rfl ?_
            simp only [if_pos c59] at j58
            exact gs_sub [1, 2, 3, 0] rfl (j58)
          · refine gs_iconst (w := 1) (pc := 84) C dX12_judge_84 rfl ?_
            refine gs_goto (pc := 85) C 89 dX12_judge_85 rfl ?_
            simp only [if_neg c59] at j58
            exact gs_sub [1, 2, 3, 0] rfl (j58)
        refine gs_icmp_lt (pc := 50) C 57 dX12_judge_50 rfl (fun c61 => ?_) (fun c61 => ?_)
        · refine gs_iconst (w := 0) (pc := 57) C dX12_judge_57 rfl ?_
          simp only [if_pos c61] at j60
          exact gs_sub [1, 2, 0] rfl (j60)
        · refine gs_iconst (w := 1) (pc := 53) C dX12_judge_53 rfl ?_
          refine gs_goto (pc := 54) C 58 dX12_judge_54 rfl ?_
          simp only [if_neg c61] at j60
          exact gs_sub [1, 2, 0] rfl (j60)
      · replace h := gs_ift c11 h
        refine gs_iconst (w := (-1)) (pc := 31) C dX12_judge_31 rfl ?_
        obtain ⟨rfl, rfl⟩ := gs_i2 h
        exact gs_iret (pc := 32) C dX12_judge_32 E
set_option maxRecDepth 100000 in
set_option maxHeartbeats 4000000 in
theorem a_X12_lamp (l : Launch) {M : gs_M} {L : gs_L} {x1 : Int32} {x2 : Int32} {x3 : Int32} {rv : Int32} {Mz : gs_M} (h : f_X12_lamp M x1 x2 x3 = some (rv, Mz)) : gs_Met l 1 yX12_lamp cX12_lamp 4 (some .int) [.ref 147, .int x1, .int x2, .int x3] M L (some (.int rv)) Mz L := by
  unfold f_X12_lamp at h
  refine gs_of RX12 (by decide) rfl (Nat.le_of_ble_eq_true rfl) (fun X C E => ?_)
  show gs_AW X 0 [(0, .ref 147), (1, .int x1), (2, .int x2), (3, .int x3)] [] M L
  refine gs_aload_n (pc := 0) C 0 dX12_lamp_0 rfl rfl ?_
  refine gs_iconst (w := 0) (pc := 1) C dX12_lamp_1 rfl ?_
  obtain ⟨M2, e1, h⟩ := gs_o1 h
  refine gs_puti' (pc := 2) C dX12_lamp_2 gk_12 fp_X12_100 sh_147 rfl e1 ?_
  refine gs_aload_n (pc := 5) C 0 dX12_lamp_5 rfl rfl ?_
  refine gs_iload_n (pc := 6) C 1 dX12_lamp_6 rfl rfl ?_
  obtain ⟨v3, e4, h⟩ := gs_o1 h
  refine gs_callVi (pc := 7) C [.int x1] dX12_lamp_7 ml_X12_347 wy_X12_isPerson (a_X12_isPerson _ e4) (by decide) sh_147 (by decide) rfl rfl (Nat.le_of_ble_eq_true rfl) rfl ?_
  refine gs_if_eq (pc := 10) C 30 dX12_lamp_10 rfl (fun c5 => ?_) (fun c5 => ?_)
  · replace h := gs_ift c5 h
    refine gs_iconst (w := (-1)) (pc := 30) C dX12_lamp_30 rfl ?_
    obtain ⟨rfl, rfl⟩ := gs_i2 h
    exact gs_iret (pc := 31) C dX12_lamp_31 E
  · replace h := gs_iff c5 h
    refine gs_aload_n (pc := 13) C 0 dX12_lamp_13 rfl rfl ?_
    refine gs_iload_n (pc := 14) C 2 dX12_lamp_14 rfl rfl ?_
    obtain ⟨v6, e7, h⟩ := gs_o1 h
    refine gs_callVi (pc := 15) C [.int x2] dX12_lamp_15 ml_X12_366 wy_X12_isHour (a_X12_isHour _ e7) (by decide) sh_147 (by decide) rfl rfl (Nat.le_of_ble_eq_true rfl) rfl ?_
    refine gs_if_eq (pc := 18) C 30 dX12_lamp_18 rfl (fun c8 => ?_) (fun c8 => ?_)
    · replace h := gs_ift c8 h
      refine gs_iconst (w := (-1)) (pc := 30) C dX12_lamp_30 rfl ?_
      obtain ⟨rfl, rfl⟩ := gs_i2 h
      exact gs_iret (pc := 31) C dX12_lamp_31 E
    · replace h := gs_iff c8 h
      refine gs_aload_n (pc := 21) C 0 dX12_lamp_21 rfl rfl ?_
      refine gs_geti (pc := 22) C dX12_lamp_22 gk_12 fl_X12_289 sh_147 rfl ?_
      refine gs_bipush (w := 12) (pc := 25) C dX12_lamp_25 rfl ?_
      refine gs_icmp_ne (pc := 27) C 32 dX12_lamp_27 rfl (fun c9 => ?_) (fun c9 => ?_)
      · replace h := gs_iff c9 h
        refine gs_aload_n (pc := 32) C 0 dX12_lamp_32 rfl rfl ?_
        refine gs_getq (pc := 33) C dX12_lamp_33 gk_12 fl_X12_75 sh_147 rfl ?_
        refine gs_aload_n (pc := 36) C 0 dX12_lamp_36 rfl rfl ?_
        refine gs_geti (pc := 37) C dX12_lamp_37 gk_12 fl_X12_289 sh_147 rfl ?_
        refine gs_iload_n (pc := 40) C 1 dX12_lamp_40 rfl rfl ?_
        obtain ⟨M11, e10, h⟩ := gs_o1 h
        refine gs_iast (pc := 41) C dX12_lamp_41 sh_162 e10 ?_
        refine gs_aload_n (pc := 42) C 0 dX12_lamp_42 rfl rfl ?_
        refine gs_getq (pc := 43) C dX12_lamp_43 gk_12 fl_X12_78 sh_147 rfl ?_
        refine gs_aload_n (pc := 46) C 0 dX12_lamp_46 rfl rfl ?_
        refine gs_geti (pc := 47) C dX12_lamp_47 gk_12 fl_X12_289 sh_147 rfl ?_
        refine gs_iload_n (pc := 50) C 2 dX12_lamp_50 rfl rfl ?_
        obtain ⟨M13, e12, h⟩ := gs_o1 h
        refine gs_iast (pc := 51) C dX12_lamp_51 sh_163 e12 ?_
        refine gs_aload_n (pc := 52) C 0 dX12_lamp_52 rfl rfl ?_
        refine gs_getq (pc := 53) C dX12_lamp_53 gk_12 fl_X12_81 sh_147 rfl ?_
        refine gs_aload_n (pc := 56) C 0 dX12_lamp_56 rfl rfl ?_
        refine gs_geti (pc := 57) C dX12_lamp_57 gk_12 fl_X12_289 sh_147 rfl ?_
        refine gs_iload_n (pc := 60) C 3 dX12_lamp_60 rfl rfl ?_
        obtain ⟨M15, e14, h⟩ := gs_o1 h
        refine gs_zast (pc := 61) C dX12_lamp_61 sh_164 e14 ?_
        refine gs_aload_n (pc := 62) C 0 dX12_lamp_62 rfl rfl ?_
        refine gs_dup (pc := 63) C dX12_lamp_63 rfl ?_
        refine gs_geti (pc := 64) C dX12_lamp_64 gk_12 fl_X12_289 sh_147 rfl ?_
        refine gs_iconst (w := 1) (pc := 67) C dX12_lamp_67 rfl ?_
        refine gs_iadd (pc := 68) C dX12_lamp_68 ?_
        obtain ⟨M17, e16, h⟩ := gs_o1 h
        refine gs_puti' (pc := 69) C dX12_lamp_69 gk_12 fp_X12_289 sh_147 rfl e16 ?_
        refine gs_aload_n (pc := 72) C 0 dX12_lamp_72 rfl rfl ?_
        refine gs_geti (pc := 73) C dX12_lamp_73 gk_12 fl_X12_289 sh_147 rfl ?_
        obtain ⟨rfl, rfl⟩ := gs_i2 h
        exact gs_iret (pc := 76) C dX12_lamp_76 E
      · replace h := gs_ift c9 h
        refine gs_iconst (w := (-1)) (pc := 30) C dX12_lamp_30 rfl ?_
        obtain ⟨rfl, rfl⟩ := gs_i2 h
        exact gs_iret (pc := 31) C dX12_lamp_31 E
set_option maxRecDepth 100000 in
set_option maxHeartbeats 4000000 in
theorem a_X12_law (l : Launch) {M : gs_M} {L : gs_L} {x1 : Int32} {rv : Int32} {Mz : gs_M} (h : f_X12_law M x1 = some (rv, Mz)) : gs_Met l 1 yX12_law cX12_law 2 (some .boolean) [.ref 147, .int x1] M L (some (.int rv)) Mz L := by
  unfold f_X12_law at h
  refine gs_of RX12 (by decide) rfl (Nat.le_of_ble_eq_true rfl) (fun X C E => ?_)
  show gs_AW X 0 [(0, .ref 147), (1, .int x1)] [] M L
  refine gs_aload_n (pc := 0) C 0 dX12_law_0 rfl rfl ?_
  refine gs_iconst (w := 0) (pc := 1) C dX12_law_1 rfl ?_
  obtain ⟨M2, e1, h⟩ := gs_o1 h
  refine gs_puti' (pc := 2) C dX12_law_2 gk_12 fp_X12_100 sh_147 rfl e1 ?_
  refine gs_iload_n (pc := 5) C 1 dX12_law_5 rfl rfl ?_
  refine gs_iconst (w := (-1)) (pc := 6) C dX12_law_6 rfl ?_
  refine gs_icmp_eq (pc := 7) C 28 dX12_law_7 rfl (fun c3 => ?_) (fun c3 => ?_)
  · replace h := gs_ift c3 h
    refine gs_aload_n (pc := 28) C 0 dX12_law_28 rfl rfl ?_
    refine gs_iload_n (pc := 29) C 1 dX12_law_29 rfl rfl ?_
    obtain ⟨M5, e4, h⟩ := gs_o1 h
    refine gs_puti' (pc := 30) C dX12_law_30 gk_12 fp_X12_58 sh_147 rfl e4 ?_
    refine gs_iconst (w := 1) (pc := 33) C dX12_law_33 rfl ?_
    obtain ⟨rfl, rfl⟩ := gs_i2 h
    exact gs_zret (pc := 34) C (by decide) dX12_law_34 E
  · replace h := gs_iff c3 h
    refine gs_iload_n (pc := 10) C 1 dX12_law_10 rfl rfl ?_
    refine gs_i2l (pc := 11) C dX12_law_11 ?_
    refine gs_lconst (w := 0) (pc := 12) C dX12_law_12 rfl ?_
    refine gs_aload_n (pc := 13) C 0 dX12_law_13 rfl rfl ?_
    refine gs_geti (pc := 14) C dX12_law_14 gk_12 fl_X12_278 sh_147 rfl ?_
    refine gs_iconst (w := 1) (pc := 17) C dX12_law_17 rfl ?_
    refine gs_isub (pc := 18) C dX12_law_18 ?_
    refine gs_i2l (pc := 19) C dX12_law_19 ?_
    obtain ⟨v6, e7, h⟩ := gs_o1 h
    refine gs_callSi (pc := 20) C [.long (Int32.toInt64 x1), .long (0 : Int64), .long (Int32.toInt64 ((M2 147 7) - (1 : Int32)))] dX12_law_20 ml_X12_221 wy_X12_isIn (a_X12_isIn _ e7) (by decide) rfl (Nat.le_of_ble_eq_true rfl) rfl ?_
    refine gs_if_ne (pc := 23) C 28 dX12_law_23 rfl (fun c8 => ?_) (fun c8 => ?_)
    · replace h := gs_iff c8 h
      refine gs_aload_n (pc := 28) C 0 dX12_law_28 rfl rfl ?_
      refine gs_iload_n (pc := 29) C 1 dX12_law_29 rfl rfl ?_
      obtain ⟨M10, e9, h⟩ := gs_o1 h
      refine gs_puti' (pc := 30) C dX12_law_30 gk_12 fp_X12_58 sh_147 rfl e9 ?_
      refine gs_iconst (w := 1) (pc := 33) C dX12_law_33 rfl ?_
      obtain ⟨rfl, rfl⟩ := gs_i2 h
      exact gs_zret (pc := 34) C (by decide) dX12_law_34 E
    · replace h := gs_ift c8 h
      refine gs_iconst (w := 0) (pc := 26) C dX12_law_26 rfl ?_
      obtain ⟨rfl, rfl⟩ := gs_i2 h
      exact gs_zret (pc := 27) C (by decide) dX12_law_27 E
set_option maxRecDepth 100000 in
set_option maxHeartbeats 4000000 in
theorem t_X12_likeliest_57 {X : gs_X} (C : gs_C X RX12 cX12_likeliest 10 (some .int) 82) {L : gs_L} {x1 : Int32} {x2 : Int32} {x3 : Int32} {x4 : Int64} {x6 : Int32} {o7 : Int64} {o9 : Int32} {M' : gs_M} (k : gs_AW X 111 [(0, .ref 147), (1, .int x1), (2, .int x2), (3, .int x3), (4, .long x4), (6, .int x6), (7, .long o7), (9, .int o9)] [] M' L) : ∀ (f : Nat) (x7 : Int64) (x9 : Int32) (M : gs_M), l_X12_likeliest_57 x1 x2 x3 x4 x6 f x7 x9 M = some (o7, o9, M') → gs_AW X 57 [(0, .ref 147), (1, .int x1), (2, .int x2), (3, .int x3), (4, .long x4), (6, .int x6), (7, .long x7), (9, .int x9)] [] M L := by
  intro f
  induction f with
  | zero =>
    intro x7 x9 M h
    cases h
  | succ f ih =>
    intro x7 x9 M h
    rw [l_X12_likeliest_57] at h
    refine gs_iload (pc := 57) C 7 dX12_likeliest_57 rfl ?_
    refine gs_aload_n (pc := 59) C 0 dX12_likeliest_59 rfl rfl ?_
    refine gs_getq (pc := 60) C dX12_likeliest_60 gk_12 fl_X12_37 sh_147 rfl ?_
    refine gs_iconst (w := 0) (pc := 63) C dX12_likeliest_63 rfl ?_
    obtain ⟨v1, e2, h⟩ := gs_o1 h
    refine gs_iald (pc := 64) C dX12_likeliest_64 sh_152 e2 ?_
    refine gs_icmp_ge (pc := 65) C 111 dX12_likeliest_65 rfl (fun c3 => ?_) (fun c3 => ?_)
    · replace h := gs_ift c3 h
      obtain ⟨rfl, rfl, rfl⟩ := gs_i3 h
      exact k
    · replace h := gs_iff c3 h
      refine gs_lload (pc := 68) C 6 dX12_likeliest_68 rfl ?_
      refine gs_iload (pc := 70) C 5 dX12_likeliest_70 rfl ?_
      refine gs_iload (pc := 72) C 7 dX12_likeliest_72 rfl ?_
      obtain ⟨v4, e5, h⟩ := gs_o1 h
      refine gs_callSi (pc := 74) C [.int x6, .int x9] dX12_likeliest_74 ml_X12_233 wy_X12_has (a_X12_has _ e5) (by decide) rfl (Nat.le_of_ble_eq_true rfl) rfl ?_
      obtain ⟨y6, M7, e8, h⟩ := gs_o2 h
      have j9 : gs_AW X 102 [(0, .ref 147), (1, .int x1), (2, .int x2), (3, .int x3), (4, .long x4), (6, .int x6), (7, .long x7), (9, .int x9)] [.long y6, .long x7] M7 L := by
        refine gs_lmul (pc := 102) C dX12_likeliest_102 ?_
        refine gs_lstore (ls' := [(7, .long (x7 * y6)), (0, .ref 147), (1, .int x1), (2, .int x2), (3, .int x3), (4, .long x4), (6, .int x6), (9, .int x9)]) (pc := 103) C dX12_likeliest_103 (by decide) rfl ?_
        refine gs_iinc (v := x9 + (1 : Int32)) (ls' := [(9, .int (x9 + (1 : Int32))), (7, .long (x7 * y6)), (0, .ref 147), (1, .int x1), (2, .int x2), (3, .int x3), (4, .long x4), (6, .int x6)]) (pc := 105) C 7 dX12_likeliest_105 rfl rfl (by decide) rfl ?_
        refine gs_goto (pc := 108) C 57 dX12_likeliest_108 rfl ?_
        exact gs_sub [2, 3, 4, 5, 6, 7, 1, 0] rfl (ih _ _ _ h)
      refine gs_if_eq (pc := 77) C 91 dX12_likeliest_77 rfl (fun c10 => ?_) (fun c10 => ?_)
      · replace e8 := gs_ift c10 e8
        refine gs_bipush (w := 10) (pc := 91) C dX12_likeliest_91 rfl ?_
        refine gs_aload_n (pc := 93) C 0 dX12_likeliest_93 rfl rfl ?_
        refine gs_iload_n (pc := 94) C 1 dX12_likeliest_94 rfl rfl ?_
        refine gs_iload (pc := 95) C 7 dX12_likeliest_95 rfl ?_
        obtain ⟨v11, M12, e13, e8⟩ := gs_o2 e8
        refine gs_callVi (pc := 97) C [.int x1, .int x9] dX12_likeliest_97 ml_X12_340 wy_X12_wakesNow (a_X12_wakesNow _ e13) (by decide) sh_147 (by decide) rfl rfl (Nat.le_of_ble_eq_true rfl) rfl ?_
        refine gs_isub (pc := 100) C dX12_likeliest_100 ?_
        refine gs_i2l (pc := 101) C dX12_likeliest_101 ?_
        obtain ⟨rfl, rfl⟩ := gs_i2 e8
        exact j9
      · replace e8 := gs_iff c10 e8
        refine gs_aload_n (pc := 80) C 0 dX12_likeliest_80 rfl rfl ?_
        refine gs_iload_n (pc := 81) C 1 dX12_likeliest_81 rfl rfl ?_
        refine gs_iload (pc := 82) C 7 dX12_likeliest_82 rfl ?_
        obtain ⟨v14, M15, e16, e8⟩ := gs_o2 e8
        refine gs_callVi (pc := 84) C [.int x1, .int x9] dX12_likeliest_84 ml_X12_340 wy_X12_wakesNow (a_X12_wakesNow _ e16) (by decide) sh_147 (by decide) rfl rfl (Nat.le_of_ble_eq_true rfl) rfl ?_
        refine gs_i2l (pc := 87) C dX12_likeliest_87 ?_
        refine gs_goto (pc := 88) C 102 dX12_likeliest_88 rfl ?_
        obtain ⟨rfl, rfl⟩ := gs_i2 e8
        exact j9
set_option maxRecDepth 100000 in
set_option maxHeartbeats 4000000 in
theorem t_X12_likeliest_24 {X : gs_X} (C : gs_C X RX12 cX12_likeliest 10 (some .int) 82) {L : gs_L} {x1 : Int32} {x2 : Int32} {o3 : Int32} {o4 : Int64} {o6 : Int32} {M' : gs_M} (k : gs_AW X 140 [(0, .ref 147), (1, .int x1), (2, .int x2), (3, .int o3), (4, .long o4), (6, .int o6)] [] M' L) : ∀ (f : Nat) (x3 : Int32) (x4 : Int64) (x6 : Int32) (M : gs_M), l_X12_likeliest_24 x1 x2 f x3 x4 x6 M = some (o3, o4, o6, M') → gs_AW X 24 [(0, .ref 147), (1, .int x1), (2, .int x2), (3, .int x3), (4, .long x4), (6, .int x6)] [] M L := by
  intro f
  induction f with
  | zero =>
    intro x3 x4 x6 M h
    cases h
  | succ f ih =>
    intro x3 x4 x6 M h
    rw [l_X12_likeliest_24] at h
    refine gs_iload (pc := 24) C 5 dX12_likeliest_24 rfl ?_
    refine gs_iconst (w := 1) (pc := 26) C dX12_likeliest_26 rfl ?_
    refine gs_aload_n (pc := 27) C 0 dX12_likeliest_27 rfl rfl ?_
    refine gs_getq (pc := 28) C dX12_likeliest_28 gk_12 fl_X12_37 sh_147 rfl ?_
    refine gs_iconst (w := 0) (pc := 31) C dX12_likeliest_31 rfl ?_
    obtain ⟨v1, e2, h⟩ := gs_o1 h
    refine gs_iald (pc := 32) C dX12_likeliest_32 sh_152 e2 ?_
    refine gs_ishl (pc := 33) C dX12_likeliest_33 ?_
    refine gs_icmp_ge (pc := 34) C 140 dX12_likeliest_34 rfl (fun c3 => ?_) (fun c3 => ?_)
    · replace h := gs_ift c3 h
      obtain ⟨rfl, rfl, rfl, rfl⟩ := gs_i4 h
      exact k
    · replace h := gs_iff c3 h
      refine gs_aload_n (pc := 37) C 0 dX12_likeliest_37 rfl rfl ?_
      refine gs_iload_n (pc := 38) C 1 dX12_likeliest_38 rfl rfl ?_
      refine gs_iload_n (pc := 39) C 2 dX12_likeliest_39 rfl rfl ?_
      refine gs_iload (pc := 40) C 5 dX12_likeliest_40 rfl ?_
      obtain ⟨v4, M5, e6, h⟩ := gs_o2 h
      refine gs_callVi (pc := 42) C [.int x1, .int x2, .int x6] dX12_likeliest_42 ml_X12_435 wy_X12_canBurn (a_X12_canBurn _ e6) (by decide) sh_147 (by decide) rfl rfl (Nat.le_of_ble_eq_true rfl) rfl ?_
      obtain ⟨y7, y8, M9, e10, h⟩ := gs_o3 h
      have j11 : gs_AW X 134 [(0, .ref 147), (1, .int x1), (2, .int x2), (3, .int y7), (4, .long y8), (6, .int x6)] [] M9 L := by
        refine gs_iinc (v := x6 + (1 : Int32)) (ls' := [(6, .int (x6 + (1 : Int32))), (0, .ref 147), (1, .int x1), (2, .int x2), (3, .int y7), (4, .long y8)]) (pc := 134) C 5 dX12_likeliest_134 rfl rfl (by decide) rfl ?_
        refine gs_goto (pc := 137) C 24 dX12_likeliest_137 rfl ?_
        exact gs_sub [1, 2, 3, 4, 5, 0] rfl (ih _ _ _ _ h)
      refine gs_if_ne (pc := 45) C 51 dX12_likeliest_45 rfl (fun c12 => ?_) (fun c12 => ?_)
      · replace e10 := gs_iff c12 e10
        refine gs_lconst (w := 1) (pc := 51) C dX12_likeliest_51 rfl ?_
        refine gs_lstore (ls' := [(7, .long (1 : Int64)), (0, .ref 147), (1, .int x1), (2, .int x2), (3, .int x3), (4, .long x4), (6, .int x6)]) (pc := 52) C dX12_likeliest_52 (by decide) rfl ?_
        refine gs_iconst (w := 0) (pc := 54) C dX12_likeliest_54 rfl ?_
        refine gs_istore (ls' := [(9, .int (0 : Int32)), (7, .long (1 : Int64)), (0, .ref 147), (1, .int x1), (2, .int x2), (3, .int x3), (4, .long x4), (6, .int x6)]) (pc := 55) C dX12_likeliest_55 (by decide) rfl ?_
        obtain ⟨y13, y14, M15, e16, e10⟩ := gs_o3 e10
        refine gs_sub [2, 3, 4, 5, 6, 7, 1, 0] rfl (t_X12_likeliest_57 C ?_ gs_FU _ _ _ e16)
        refine gs_iload_n (pc := 111) C 3 dX12_likeliest_111 rfl rfl ?_
        refine gs_iconst (w := (-1)) (pc := 112) C dX12_likeliest_112 rfl ?_
        refine gs_icmp_eq (pc := 113) C 127 dX12_likeliest_113 rfl (fun c17 => ?_) (fun c17 => ?_)
        · replace e10 := gs_ift c17 e10
          refine gs_iload (pc := 127) C 5 dX12_likeliest_127 rfl ?_
          refine gs_istore_n (ls' := [(3, .int x6), (0, .ref 147), (1, .int x1), (2, .int x2), (4, .long x4), (6, .int x6), (7, .long y13), (9, .int y14)]) (pc := 129) C dX12_likeliest_129 rfl (by decide) rfl ?_
          refine gs_lload (pc := 130) C 6 dX12_likeliest_130 rfl ?_
          refine gs_lstore (ls' := [(4, .long y13), (3, .int x6), (0, .ref 147), (1, .int x1), (2, .int x2), (6, .int x6), (7, .long y13), (9, .int y14)]) (pc := 132) C dX12_likeliest_132 (by decide) rfl ?_
          obtain ⟨rfl, rfl, rfl⟩ := gs_i3 e10
          exact gs_sub [2, 3, 4, 1, 0, 5] rfl (j11)
        · replace e10 := gs_iff c17 e10
          refine gs_lload (pc := 116) C 6 dX12_likeliest_116 rfl ?_
          refine gs_lload (pc := 118) C 4 dX12_likeliest_118 rfl ?_
          refine gs_lcmp (pc := 120) C dX12_likeliest_120 ?_
          refine gs_if_gt (pc := 121) C 127 dX12_likeliest_121 rfl (fun c18 => ?_) (fun c18 => ?_)
          · replace e10 := gs_ift c18 e10
            refine gs_iload (pc := 127) C 5 dX12_likeliest_127 rfl ?_
            refine gs_istore_n (ls' := [(3, .int x6), (0, .ref 147), (1, .int x1), (2, .int x2), (4, .long x4), (6, .int x6), (7, .long y13), (9, .int y14)]) (pc := 129) C dX12_likeliest_129 rfl (by decide) rfl ?_
            refine gs_lload (pc := 130) C 6 dX12_likeliest_130 rfl ?_
            refine gs_lstore (ls' := [(4, .long y13), (3, .int x6), (0, .ref 147), (1, .int x1), (2, .int x2), (6, .int x6), (7, .long y13), (9, .int y14)]) (pc := 132) C dX12_likeliest_132 (by decide) rfl ?_
            obtain ⟨rfl, rfl, rfl⟩ := gs_i3 e10
            exact gs_sub [2, 3, 4, 1, 0, 5] rfl (j11)
          · replace e10 := gs_iff c18 e10
            refine gs_goto (pc := 124) C 134 dX12_likeliest_124 rfl ?_
            obtain ⟨rfl, rfl, rfl⟩ := gs_i3 e10
            exact gs_sub [0, 1, 2, 3, 4, 5] rfl (j11)
      · replace e10 := gs_ift c12 e10
        refine gs_goto (pc := 48) C 134 dX12_likeliest_48 rfl ?_
        obtain ⟨rfl, rfl, rfl⟩ := gs_i3 e10
        exact j11
set_option maxRecDepth 100000 in
set_option maxHeartbeats 4000000 in
theorem a_X12_likeliest (l : Launch) {M : gs_M} {L : gs_L} {x1 : Int32} {x2 : Int32} {rv : Int32} {Mz : gs_M} (h : f_X12_likeliest M x1 x2 = some (rv, Mz)) : gs_Met l 82 yX12_likeliest cX12_likeliest 10 (some .int) [.ref 147, .int x1, .int x2] M L (some (.int rv)) Mz L := by
  unfold f_X12_likeliest at h
  refine gs_of RX12 (by decide) rfl (Nat.le_of_ble_eq_true rfl) (fun X C E => ?_)
  show gs_AW X 0 [(0, .ref 147), (1, .int x1), (2, .int x2)] [] M L
  refine gs_aload_n (pc := 0) C 0 dX12_likeliest_0 rfl rfl ?_
  refine gs_iconst (w := 0) (pc := 1) C dX12_likeliest_1 rfl ?_
  obtain ⟨M2, e1, h⟩ := gs_o1 h
  refine gs_puti' (pc := 2) C dX12_likeliest_2 gk_12 fp_X12_100 sh_147 rfl e1 ?_
  refine gs_aload_n (pc := 5) C 0 dX12_likeliest_5 rfl rfl ?_
  refine gs_iload_n (pc := 6) C 1 dX12_likeliest_6 rfl rfl ?_
  refine gs_iload_n (pc := 7) C 2 dX12_likeliest_7 rfl rfl ?_
  obtain ⟨v3, e4, h⟩ := gs_o1 h
  refine gs_callVi (pc := 8) C [.int x1, .int x2] dX12_likeliest_8 ml_X12_432 wy_X12_isCandle (a_X12_isCandle _ e4) (by decide) sh_147 (by decide) rfl rfl (Nat.le_of_ble_eq_true rfl) rfl ?_
  refine gs_if_ne (pc := 11) C 16 dX12_likeliest_11 rfl (fun c5 => ?_) (fun c5 => ?_)
  · replace h := gs_iff c5 h
    refine gs_iconst (w := (-1)) (pc := 16) C dX12_likeliest_16 rfl ?_
    refine gs_istore_n (ls' := [(3, .int (-1 : Int32)), (0, .ref 147), (1, .int x1), (2, .int x2)]) (pc := 17) C dX12_likeliest_17 rfl (by decide) rfl ?_
    refine gs_lconst (w := 0) (pc := 18) C dX12_likeliest_18 rfl ?_
    refine gs_lstore (ls' := [(4, .long (0 : Int64)), (3, .int (-1 : Int32)), (0, .ref 147), (1, .int x1), (2, .int x2)]) (pc := 19) C dX12_likeliest_19 (by decide) rfl ?_
    refine gs_iconst (w := 0) (pc := 21) C dX12_likeliest_21 rfl ?_
    refine gs_istore (ls' := [(6, .int (0 : Int32)), (4, .long (0 : Int64)), (3, .int (-1 : Int32)), (0, .ref 147), (1, .int x1), (2, .int x2)]) (pc := 22) C dX12_likeliest_22 (by decide) rfl ?_
    obtain ⟨y6, y7, y8, M9, e10, h⟩ := gs_o4 h
    refine gs_sub [3, 4, 5, 2, 1, 0] rfl (t_X12_likeliest_24 C ?_ gs_FU _ _ _ _ e10)
    refine gs_iload_n (pc := 140) C 3 dX12_likeliest_140 rfl rfl ?_
    obtain ⟨rfl, rfl⟩ := gs_i2 h
    exact gs_iret (pc := 141) C dX12_likeliest_141 E
  · replace h := gs_ift c5 h
    refine gs_iconst (w := (-1)) (pc := 14) C dX12_likeliest_14 rfl ?_
    obtain ⟨rfl, rfl⟩ := gs_i2 h
    exact gs_iret (pc := 15) C dX12_likeliest_15 E
set_option maxRecDepth 100000 in
set_option maxHeartbeats 4000000 in
theorem t_X12_line_34 {X : gs_X} (C : gs_C X RX12 cX12_line 6 (some .int) 82) {L : gs_L} {x1 : Int32} {x2 : Int32} {x3 : Int32} {o4 : Int32} {o5 : Int32} {M' : gs_M} (k : gs_AW X 83 [(0, .ref 147), (1, .int x1), (2, .int x2), (3, .int x3), (4, .int o4), (5, .int o5)] [] M' L) : ∀ (f : Nat) (x4 : Int32) (x5 : Int32) (M : gs_M), l_X12_line_34 x1 x2 x3 f x4 x5 M = some (o4, o5, M') → gs_AW X 34 [(0, .ref 147), (1, .int x1), (2, .int x2), (3, .int x3), (4, .int x4), (5, .int x5)] [] M L := by
  intro f
  induction f with
  | zero =>
    intro x4 x5 M h
    cases h
  | succ f ih =>
    intro x4 x5 M h
    rw [l_X12_line_34] at h
    refine gs_iload (pc := 34) C 5 dX12_line_34 rfl ?_
    refine gs_aload_n (pc := 36) C 0 dX12_line_36 rfl rfl ?_
    refine gs_geti (pc := 37) C dX12_line_37 gk_12 fl_X12_286 sh_147 rfl ?_
    refine gs_icmp_ge (pc := 40) C 83 dX12_line_40 rfl (fun c1 => ?_) (fun c1 => ?_)
    · replace h := gs_ift c1 h
      obtain ⟨rfl, rfl, rfl⟩ := gs_i3 h
      exact k
    · replace h := gs_iff c1 h
      refine gs_iload_n (pc := 43) C 2 dX12_line_43 rfl rfl ?_
      refine gs_iload (pc := 44) C 5 dX12_line_44 rfl ?_
      obtain ⟨v2, e3, h⟩ := gs_o1 h
      refine gs_callSi (pc := 46) C [.int x2, .int x5] dX12_line_46 ml_X12_233 wy_X12_has (a_X12_has _ e3) (by decide) rfl (Nat.le_of_ble_eq_true rfl) rfl ?_
      obtain ⟨y4, M5, e6, h⟩ := gs_o2 h
      have j7 : gs_AW X 77 [(0, .ref 147), (1, .int x1), (2, .int x2), (3, .int x3), (4, .int y4), (5, .int x5)] [] M5 L := by
        refine gs_iinc (v := x5 + (1 : Int32)) (ls' := [(5, .int (x5 + (1 : Int32))), (0, .ref 147), (1, .int x1), (2, .int x2), (3, .int x3), (4, .int y4)]) (pc := 77) C 5 dX12_line_77 rfl rfl (by decide) rfl ?_
        refine gs_goto (pc := 80) C 34 dX12_line_80 rfl ?_
        exact gs_sub [1, 2, 3, 4, 5, 0] rfl (ih _ _ _ h)
      refine gs_if_ne (pc := 49) C 77 dX12_line_49 rfl (fun c8 => ?_) (fun c8 => ?_)
      · replace e6 := gs_iff c8 e6
        obtain ⟨rfl, rfl⟩ := gs_i2 e6
        exact j7
      · replace e6 := gs_ift c8 e6
        refine gs_iload (pc := 52) C 4 dX12_line_52 rfl ?_
        refine gs_iconst (w := (-1)) (pc := 54) C dX12_line_54 rfl ?_
        refine gs_icmp_eq (pc := 55) C 73 dX12_line_55 rfl (fun c9 => ?_) (fun c9 => ?_)
        · replace e6 := gs_ift c9 e6
          refine gs_iload (pc := 73) C 5 dX12_line_73 rfl ?_
          refine gs_istore (ls' := [(4, .int x5), (0, .ref 147), (1, .int x1), (2, .int x2), (3, .int x3), (5, .int x5)]) (pc := 75) C dX12_line_75 (by decide) rfl ?_
          obtain ⟨rfl, rfl⟩ := gs_i2 e6
          exact gs_sub [1, 2, 3, 4, 0, 5] rfl (j7)
        · replace e6 := gs_iff c9 e6
          refine gs_aload_n (pc := 58) C 0 dX12_line_58 rfl rfl ?_
          refine gs_iload (pc := 59) C 5 dX12_line_59 rfl ?_
          obtain ⟨v10, M11, e12, e6⟩ := gs_o2 e6
          refine gs_callVi (pc := 61) C [.int x5] dX12_line_61 ml_X12_383 wy_X12_caseOf (a_X12_caseOf _ e12) (by decide) sh_147 (by decide) rfl rfl (Nat.le_of_ble_eq_true rfl) rfl ?_
          refine gs_aload_n (pc := 64) C 0 dX12_line_64 rfl rfl ?_
          refine gs_iload (pc := 65) C 4 dX12_line_65 rfl ?_
          obtain ⟨v13, M14, e15, e6⟩ := gs_o2 e6
          refine gs_callVi (pc := 67) C [.int x4] dX12_line_67 ml_X12_383 wy_X12_caseOf (a_X12_caseOf _ e15) (by decide) sh_147 (by decide) rfl rfl (Nat.le_of_ble_eq_true rfl) rfl ?_
          refine gs_icmp_le (pc := 70) C 77 dX12_line_70 rfl (fun c16 => ?_) (fun c16 => ?_)
          · replace e6 := gs_ift c16 e6
            obtain ⟨rfl, rfl⟩ := gs_i2 e6
            exact j7
          · replace e6 := gs_iff c16 e6
            refine gs_iload (pc := 73) C 5 dX12_line_73 rfl ?_
            refine gs_istore (ls' := [(4, .int x5), (0, .ref 147), (1, .int x1), (2, .int x2), (3, .int x3), (5, .int x5)]) (pc := 75) C dX12_line_75 (by decide) rfl ?_
            obtain ⟨rfl, rfl⟩ := gs_i2 e6
            exact gs_sub [1, 2, 3, 4, 0, 5] rfl (j7)
set_option maxRecDepth 100000 in
set_option maxHeartbeats 4000000 in
theorem t_X12_line_20 {X : gs_X} (C : gs_C X RX12 cX12_line 6 (some .int) 82) {L : gs_L} {o1 : Int32} {o2 : Int32} {o3 : Int32} {M' : gs_M} (k : gs_AW X 104 [(0, .ref 147), (1, .int o1), (2, .int o2), (3, .int o3)] [] M' L) : ∀ (f : Nat) (x1 : Int32) (x2 : Int32) (x3 : Int32) (M : gs_M), l_X12_line_20  f x1 x2 x3 M = some (o1, o2, o3, M') → gs_AW X 20 [(0, .ref 147), (1, .int x1), (2, .int x2), (3, .int x3)] [] M L := by
  intro f
  induction f with
  | zero =>
    intro x1 x2 x3 M h
    cases h
  | succ f ih =>
    intro x1 x2 x3 M h
    rw [l_X12_line_20] at h
    refine gs_iload_n (pc := 20) C 3 dX12_line_20 rfl rfl ?_
    refine gs_aload_n (pc := 21) C 0 dX12_line_21 rfl rfl ?_
    refine gs_geti (pc := 22) C dX12_line_22 gk_12 fl_X12_286 sh_147 rfl ?_
    refine gs_icmp_ge (pc := 25) C 104 dX12_line_25 rfl (fun c1 => ?_) (fun c1 => ?_)
    · replace h := gs_ift c1 h
      obtain ⟨rfl, rfl, rfl, rfl⟩ := gs_i4 h
      exact k
    · replace h := gs_iff c1 h
      refine gs_iconst (w := (-1)) (pc := 28) C dX12_line_28 rfl ?_
      refine gs_istore (ls' := [(4, .int (-1 : Int32)), (0, .ref 147), (1, .int x1), (2, .int x2), (3, .int x3)]) (pc := 29) C dX12_line_29 (by decide) rfl ?_
      refine gs_iconst (w := 0) (pc := 31) C dX12_line_31 rfl ?_
      refine gs_istore (ls' := [(5, .int (0 : Int32)), (4, .int (-1 : Int32)), (0, .ref 147), (1, .int x1), (2, .int x2), (3, .int x3)]) (pc := 32) C dX12_line_32 (by decide) rfl ?_
      obtain ⟨y2, y3, M4, e5, h⟩ := gs_o3 h
      refine gs_sub [2, 3, 4, 5, 1, 0] rfl (t_X12_line_34 C ?_ gs_FU _ _ _ e5)
      refine gs_iload_n (pc := 83) C 2 dX12_line_83 rfl rfl ?_
      refine gs_iconst (w := 1) (pc := 84) C dX12_line_84 rfl ?_
      refine gs_iload (pc := 85) C 4 dX12_line_85 rfl ?_
      refine gs_ishl (pc := 87) C dX12_line_87 ?_
      refine gs_ior (pc := 88) C dX12_line_88 ?_
      refine gs_istore_n (ls' := [(2, .int (x2 ||| ((1 : Int32) <<< (y2 &&& 31)))), (0, .ref 147), (1, .int x1), (3, .int x3), (4, .int y2), (5, .int y3)]) (pc := 89) C dX12_line_89 rfl (by decide) rfl ?_
      refine gs_bipush (w := 10) (pc := 90) C dX12_line_90 rfl ?_
      refine gs_iload_n (pc := 92) C 2 dX12_line_92 rfl rfl ?_
      refine gs_imul (pc := 93) C dX12_line_93 ?_
      refine gs_iload (pc := 94) C 4 dX12_line_94 rfl ?_
      refine gs_iadd (pc := 96) C dX12_line_96 ?_
      refine gs_istore_n (ls' := [(1, .int (((10 : Int32) * x1) + y2)), (2, .int (x2 ||| ((1 : Int32) <<< (y2 &&& 31)))), (0, .ref 147), (3, .int x3), (4, .int y2), (5, .int y3)]) (pc := 97) C dX12_line_97 rfl (by decide) rfl ?_
      refine gs_iinc (v := x3 + (1 : Int32)) (ls' := [(3, .int (x3 + (1 : Int32))), (1, .int (((10 : Int32) * x1) + y2)), (2, .int (x2 ||| ((1 : Int32) <<< (y2 &&& 31)))), (0, .ref 147), (4, .int y2), (5, .int y3)]) (pc := 98) C 3 dX12_line_98 rfl rfl (by decide) rfl ?_
      refine gs_goto (pc := 101) C 20 dX12_line_101 rfl ?_
      exact gs_sub [3, 1, 2, 0] rfl (ih _ _ _ _ h)
set_option maxRecDepth 100000 in
set_option maxHeartbeats 4000000 in
theorem a_X12_line (l : Launch) {M : gs_M} {L : gs_L} {rv : Int32} {Mz : gs_M} (h : f_X12_line M = some (rv, Mz)) : gs_Met l 82 yX12_line cX12_line 6 (some .int) [.ref 147] M L (some (.int rv)) Mz L := by
  unfold f_X12_line at h
  refine gs_of RX12 (by decide) rfl (Nat.le_of_ble_eq_true rfl) (fun X C E => ?_)
  show gs_AW X 0 [(0, .ref 147)] [] M L
  refine gs_aload_n (pc := 0) C 0 dX12_line_0 rfl rfl ?_
  refine gs_iconst (w := 0) (pc := 1) C dX12_line_1 rfl ?_
  obtain ⟨M2, e1, h⟩ := gs_o1 h
  refine gs_puti' (pc := 2) C dX12_line_2 gk_12 fp_X12_100 sh_147 rfl e1 ?_
  refine gs_aload_n (pc := 5) C 0 dX12_line_5 rfl rfl ?_
  refine gs_geti (pc := 6) C dX12_line_6 gk_12 fl_X12_286 sh_147 rfl ?_
  refine gs_if_ne (pc := 9) C 14 dX12_line_9 rfl (fun c3 => ?_) (fun c3 => ?_)
  · replace h := gs_iff c3 h
    refine gs_iconst (w := 0) (pc := 14) C dX12_line_14 rfl ?_
    refine gs_istore_n (ls' := [(1, .int (0 : Int32)), (0, .ref 147)]) (pc := 15) C dX12_line_15 rfl (by decide) rfl ?_
    refine gs_iconst (w := 0) (pc := 16) C dX12_line_16 rfl ?_
    refine gs_istore_n (ls' := [(2, .int (0 : Int32)), (1, .int (0 : Int32)), (0, .ref 147)]) (pc := 17) C dX12_line_17 rfl (by decide) rfl ?_
    refine gs_iconst (w := 0) (pc := 18) C dX12_line_18 rfl ?_
    refine gs_istore_n (ls' := [(3, .int (0 : Int32)), (2, .int (0 : Int32)), (1, .int (0 : Int32)), (0, .ref 147)]) (pc := 19) C dX12_line_19 rfl (by decide) rfl ?_
    obtain ⟨y4, y5, y6, M7, e8, h⟩ := gs_o4 h
    refine gs_sub [3, 2, 1, 0] rfl (t_X12_line_20 C ?_ gs_FU _ _ _ _ e8)
    refine gs_iload_n (pc := 104) C 1 dX12_line_104 rfl rfl ?_
    obtain ⟨rfl, rfl⟩ := gs_i2 h
    exact gs_iret (pc := 105) C dX12_line_105 E
  · replace h := gs_ift c3 h
    refine gs_iconst (w := (-1)) (pc := 12) C dX12_line_12 rfl ?_
    obtain ⟨rfl, rfl⟩ := gs_i2 h
    exact gs_iret (pc := 13) C dX12_line_13 E
set_option maxRecDepth 100000 in
set_option maxHeartbeats 4000000 in
theorem a_X12_log (l : Launch) {M : gs_M} {L : gs_L} {x1 : Int32} {x2 : Int32} {rv : Int32} {Mz : gs_M} (h : f_X12_log M x1 x2 = some (rv, Mz)) : gs_Met l 1 yX12_log cX12_log 3 (some .int) [.ref 147, .int x1, .int x2] M L (some (.int rv)) Mz L := by
  unfold f_X12_log at h
  refine gs_of RX12 (by decide) rfl (Nat.le_of_ble_eq_true rfl) (fun X C E => ?_)
  show gs_AW X 0 [(0, .ref 147), (1, .int x1), (2, .int x2)] [] M L
  refine gs_aload_n (pc := 0) C 0 dX12_log_0 rfl rfl ?_
  refine gs_iconst (w := 0) (pc := 1) C dX12_log_1 rfl ?_
  obtain ⟨M2, e1, h⟩ := gs_o1 h
  refine gs_puti' (pc := 2) C dX12_log_2 gk_12 fp_X12_100 sh_147 rfl e1 ?_
  refine gs_iload_n (pc := 5) C 1 dX12_log_5 rfl rfl ?_
  refine gs_i2l (pc := 6) C dX12_log_6 ?_
  refine gs_lconst (w := 0) (pc := 7) C dX12_log_7 rfl ?_
  refine gs_aload_n (pc := 8) C 0 dX12_log_8 rfl rfl ?_
  refine gs_getq (pc := 9) C dX12_log_9 gk_12 fl_X12_55 sh_147 rfl ?_
  refine gs_sipush (w := 352) (pc := 12) C dX12_log_12 rfl ?_
  obtain ⟨v3, e4, h⟩ := gs_o1 h
  refine gs_iald (pc := 15) C dX12_log_15 sh_158 e4 ?_
  refine gs_iconst (w := 1) (pc := 16) C dX12_log_16 rfl ?_
  refine gs_isub (pc := 17) C dX12_log_17 ?_
  refine gs_i2l (pc := 18) C dX12_log_18 ?_
  obtain ⟨v5, e6, h⟩ := gs_o1 h
  refine gs_callSi (pc := 19) C [.long (Int32.toInt64 x1), .long (0 : Int64), .long (Int32.toInt64 (v3 - (1 : Int32)))] dX12_log_19 ml_X12_221 wy_X12_isIn (a_X12_isIn _ e6) (by decide) rfl (Nat.le_of_ble_eq_true rfl) rfl ?_
  obtain ⟨y7, e8, h⟩ := gs_o1 h
  have j9 : gs_AW X 68 [(0, .ref 147), (1, .int x1), (2, .int x2)] [.int y7] M2 L := by
    obtain ⟨rfl, rfl⟩ := gs_i2 h
    exact gs_iret (pc := 68) C dX12_log_68 E
  refine gs_if_eq (pc := 22) C 65 dX12_log_22 rfl (fun c10 => ?_) (fun c10 => ?_)
  · replace e8 := gs_ift c10 e8
    refine gs_ldcw (pc := 65) C dX12_log_65 wk_X12_360 ?_
    obtain rfl := gs_i1 e8
    exact j9
  · replace e8 := gs_iff c10 e8
    refine gs_iload_n (pc := 25) C 2 dX12_log_25 rfl rfl ?_
    refine gs_i2l (pc := 26) C dX12_log_26 ?_
    refine gs_lconst (w := 0) (pc := 27) C dX12_log_27 rfl ?_
    refine gs_ldc2 (pc := 28) C dX12_log_28 wj_X12_266 ?_
    obtain ⟨v11, e12, e8⟩ := gs_o1 e8
    refine gs_callSi (pc := 31) C [.long (Int32.toInt64 x2), .long (0 : Int64), .long (2 : Int64)] dX12_log_31 ml_X12_221 wy_X12_isIn (a_X12_isIn _ e12) (by decide) rfl (Nat.le_of_ble_eq_true rfl) rfl ?_
    refine gs_if_eq (pc := 34) C 65 dX12_log_34 rfl (fun c13 => ?_) (fun c13 => ?_)
    · replace e8 := gs_ift c13 e8
      refine gs_ldcw (pc := 65) C dX12_log_65 wk_X12_360 ?_
      obtain rfl := gs_i1 e8
      exact j9
    · replace e8 := gs_iff c13 e8
      refine gs_aload_n (pc := 37) C 0 dX12_log_37 rfl rfl ?_
      refine gs_getq (pc := 38) C dX12_log_38 gk_12 fl_X12_55 sh_147 rfl ?_
      refine gs_sipush (w := 353) (pc := 41) C dX12_log_41 rfl ?_
      refine gs_iconst (w := 3) (pc := 44) C dX12_log_44 rfl ?_
      refine gs_aload_n (pc := 45) C 0 dX12_log_45 rfl rfl ?_
      refine gs_getq (pc := 46) C dX12_log_46 gk_12 fl_X12_55 sh_147 rfl ?_
      refine gs_sipush (w := 352) (pc := 49) C dX12_log_49 rfl ?_
      obtain ⟨v14, e15, e8⟩ := gs_o1 e8
      refine gs_iald (pc := 52) C dX12_log_52 sh_158 e15 ?_
      refine gs_iconst (w := 1) (pc := 53) C dX12_log_53 rfl ?_
      refine gs_isub (pc := 54) C dX12_log_54 ?_
      refine gs_iload_n (pc := 55) C 1 dX12_log_55 rfl rfl ?_
      refine gs_isub (pc := 56) C dX12_log_56 ?_
      refine gs_imul (pc := 57) C dX12_log_57 ?_
      refine gs_iadd (pc := 58) C dX12_log_58 ?_
      refine gs_iload_n (pc := 59) C 2 dX12_log_59 rfl rfl ?_
      refine gs_iadd (pc := 60) C dX12_log_60 ?_
      obtain ⟨v16, e17, e8⟩ := gs_o1 e8
      refine gs_iald (pc := 61) C dX12_log_61 sh_158 e17 ?_
      refine gs_goto (pc := 62) C 68 dX12_log_62 rfl ?_
      obtain rfl := gs_i1 e8
      exact j9
set_option maxRecDepth 100000 in
set_option maxHeartbeats 4000000 in
theorem t_X12_meet_35 {X : gs_X} (C : gs_C X RX12 cX12_meet 6 (some .int) 81) {L : gs_L} {x1 : Int32} {x2 : Int32} {o3 : Int64} {o5 : Int32} {M' : gs_M} (k : gs_AW X 78 [(0, .ref 147), (1, .int x1), (2, .int x2), (3, .long o3), (5, .int o5)] [] M' L) : ∀ (f : Nat) (x3 : Int64) (x5 : Int32) (M : gs_M), l_X12_meet_35 x1 x2 f x3 x5 M = some (o3, o5, M') → gs_AW X 35 [(0, .ref 147), (1, .int x1), (2, .int x2), (3, .long x3), (5, .int x5)] [] M L := by
  intro f
  induction f with
  | zero =>
    intro x3 x5 M h
    cases h
  | succ f ih =>
    intro x3 x5 M h
    rw [l_X12_meet_35] at h
    refine gs_iload (pc := 35) C 4 dX12_meet_35 rfl ?_
    refine gs_aload_n (pc := 37) C 0 dX12_meet_37 rfl rfl ?_
    refine gs_getq (pc := 38) C dX12_meet_38 gk_12 fl_X12_37 sh_147 rfl ?_
    refine gs_iconst (w := 0) (pc := 41) C dX12_meet_41 rfl ?_
    obtain ⟨v1, e2, h⟩ := gs_o1 h
    refine gs_iald (pc := 42) C dX12_meet_42 sh_152 e2 ?_
    refine gs_icmp_ge (pc := 43) C 78 dX12_meet_43 rfl (fun c3 => ?_) (fun c3 => ?_)
    · replace h := gs_ift c3 h
      obtain ⟨rfl, rfl, rfl⟩ := gs_i3 h
      exact k
    · replace h := gs_iff c3 h
      refine gs_lload_n (pc := 46) C 3 dX12_meet_46 rfl rfl ?_
      refine gs_lload_n (pc := 47) C 3 dX12_meet_47 rfl rfl ?_
      refine gs_aload_n (pc := 48) C 0 dX12_meet_48 rfl rfl ?_
      refine gs_iload_n (pc := 49) C 1 dX12_meet_49 rfl rfl ?_
      refine gs_iload (pc := 50) C 4 dX12_meet_50 rfl ?_
      obtain ⟨v4, M5, e6, h⟩ := gs_o2 h
      refine gs_callVi (pc := 52) C [.int x1, .int x5] dX12_meet_52 ml_X12_340 wy_X12_wakesNow (a_X12_wakesNow _ e6) (by decide) sh_147 (by decide) rfl rfl (Nat.le_of_ble_eq_true rfl) rfl ?_
      refine gs_i2l (pc := 55) C dX12_meet_55 ?_
      refine gs_lmul (pc := 56) C dX12_meet_56 ?_
      refine gs_aload_n (pc := 57) C 0 dX12_meet_57 rfl rfl ?_
      refine gs_iload_n (pc := 58) C 2 dX12_meet_58 rfl rfl ?_
      refine gs_iload (pc := 59) C 4 dX12_meet_59 rfl ?_
      obtain ⟨v7, M8, e9, h⟩ := gs_o2 h
      refine gs_callVi (pc := 61) C [.int x2, .int x5] dX12_meet_61 ml_X12_340 wy_X12_wakesNow (a_X12_wakesNow _ e9) (by decide) sh_147 (by decide) rfl rfl (Nat.le_of_ble_eq_true rfl) rfl ?_
      refine gs_i2l (pc := 64) C dX12_meet_64 ?_
      refine gs_lmul (pc := 65) C dX12_meet_65 ?_
      refine gs_ldc2 (pc := 66) C dX12_meet_66 wj_X12_444 ?_
      obtain ⟨v10, e11, h⟩ := gs_o1 h
      refine gs_ldiv' (pc := 69) C dX12_meet_69 e11 ?_
      refine gs_lsub (pc := 70) C dX12_meet_70 ?_
      refine gs_lstore_n (ls' := [(3, .long (x3 - v10)), (0, .ref 147), (1, .int x1), (2, .int x2), (5, .int x5)]) (pc := 71) C dX12_meet_71 rfl (by decide) rfl ?_
      refine gs_iinc (v := x5 + (1 : Int32)) (ls' := [(5, .int (x5 + (1 : Int32))), (3, .long (x3 - v10)), (0, .ref 147), (1, .int x1), (2, .int x2)]) (pc := 72) C 4 dX12_meet_72 rfl rfl (by decide) rfl ?_
      refine gs_goto (pc := 75) C 35 dX12_meet_75 rfl ?_
      exact gs_sub [2, 3, 4, 1, 0] rfl (ih _ _ _ h)
set_option maxRecDepth 100000 in
set_option maxHeartbeats 4000000 in
theorem a_X12_meet (l : Launch) {M : gs_M} {L : gs_L} {x1 : Int32} {x2 : Int32} {rv : Int32} {Mz : gs_M} (h : f_X12_meet M x1 x2 = some (rv, Mz)) : gs_Met l 81 yX12_meet cX12_meet 6 (some .int) [.ref 147, .int x1, .int x2] M L (some (.int rv)) Mz L := by
  unfold f_X12_meet at h
  refine gs_of RX12 (by decide) rfl (Nat.le_of_ble_eq_true rfl) (fun X C E => ?_)
  show gs_AW X 0 [(0, .ref 147), (1, .int x1), (2, .int x2)] [] M L
  refine gs_aload_n (pc := 0) C 0 dX12_meet_0 rfl rfl ?_
  refine gs_iconst (w := 0) (pc := 1) C dX12_meet_1 rfl ?_
  obtain ⟨M2, e1, h⟩ := gs_o1 h
  refine gs_puti' (pc := 2) C dX12_meet_2 gk_12 fp_X12_100 sh_147 rfl e1 ?_
  refine gs_aload_n (pc := 5) C 0 dX12_meet_5 rfl rfl ?_
  refine gs_iload_n (pc := 6) C 1 dX12_meet_6 rfl rfl ?_
  obtain ⟨v3, e4, h⟩ := gs_o1 h
  refine gs_callVi (pc := 7) C [.int x1] dX12_meet_7 ml_X12_347 wy_X12_isPerson (a_X12_isPerson _ e4) (by decide) sh_147 (by decide) rfl rfl (Nat.le_of_ble_eq_true rfl) rfl ?_
  refine gs_if_eq (pc := 10) C 26 dX12_meet_10 rfl (fun c5 => ?_) (fun c5 => ?_)
  · replace h := gs_ift c5 h
    refine gs_iconst (w := (-1)) (pc := 26) C dX12_meet_26 rfl ?_
    obtain ⟨rfl, rfl⟩ := gs_i2 h
    exact gs_iret (pc := 27) C dX12_meet_27 E
  · replace h := gs_iff c5 h
    refine gs_aload_n (pc := 13) C 0 dX12_meet_13 rfl rfl ?_
    refine gs_iload_n (pc := 14) C 2 dX12_meet_14 rfl rfl ?_
    obtain ⟨v6, e7, h⟩ := gs_o1 h
    refine gs_callVi (pc := 15) C [.int x2] dX12_meet_15 ml_X12_347 wy_X12_isPerson (a_X12_isPerson _ e7) (by decide) sh_147 (by decide) rfl rfl (Nat.le_of_ble_eq_true rfl) rfl ?_
    refine gs_if_eq (pc := 18) C 26 dX12_meet_18 rfl (fun c8 => ?_) (fun c8 => ?_)
    · replace h := gs_ift c8 h
      refine gs_iconst (w := (-1)) (pc := 26) C dX12_meet_26 rfl ?_
      obtain ⟨rfl, rfl⟩ := gs_i2 h
      exact gs_iret (pc := 27) C dX12_meet_27 E
    · replace h := gs_iff c8 h
      refine gs_iload_n (pc := 21) C 1 dX12_meet_21 rfl rfl ?_
      refine gs_iload_n (pc := 22) C 2 dX12_meet_22 rfl rfl ?_
      refine gs_icmp_ne (pc := 23) C 28 dX12_meet_23 rfl (fun c9 => ?_) (fun c9 => ?_)
      · replace h := gs_iff c9 h
        refine gs_ldc2 (pc := 28) C dX12_meet_28 wj_X12_393 ?_
        refine gs_lstore_n (ls' := [(3, .long (1000000000 : Int64)), (0, .ref 147), (1, .int x1), (2, .int x2)]) (pc := 31) C dX12_meet_31 rfl (by decide) rfl ?_
        refine gs_iconst (w := 0) (pc := 32) C dX12_meet_32 rfl ?_
        refine gs_istore (ls' := [(5, .int (0 : Int32)), (3, .long (1000000000 : Int64)), (0, .ref 147), (1, .int x1), (2, .int x2)]) (pc := 33) C dX12_meet_33 (by decide) rfl ?_
        obtain ⟨y10, y11, M12, e13, h⟩ := gs_o3 h
        refine gs_sub [2, 3, 4, 1, 0] rfl (t_X12_meet_35 C ?_ gs_FU _ _ _ e13)
        refine gs_ldc2 (pc := 78) C dX12_meet_78 wj_X12_393 ?_
        refine gs_lload_n (pc := 81) C 3 dX12_meet_81 rfl rfl ?_
        refine gs_lsub (pc := 82) C dX12_meet_82 ?_
        refine gs_l2i (pc := 83) C dX12_meet_83 ?_
        obtain ⟨rfl, rfl⟩ := gs_i2 h
        exact gs_iret (pc := 84) C dX12_meet_84 E
      · replace h := gs_ift c9 h
        refine gs_iconst (w := (-1)) (pc := 26) C dX12_meet_26 rfl ?_
        obtain ⟨rfl, rfl⟩ := gs_i2 h
        exact gs_iret (pc := 27) C dX12_meet_27 E
set_option maxRecDepth 100000 in
set_option maxHeartbeats 4000000 in
theorem t_X12_sleepsOf_7 {X : gs_X} (C : gs_C X RX12 cX12_sleepsOf 5 (some .int) 81) {L : gs_L} {x1 : Int32} {o2 : Int64} {o4 : Int32} {M' : gs_M} (k : gs_AW X 42 [(0, .ref 147), (1, .int x1), (2, .long o2), (4, .int o4)] [] M' L) : ∀ (f : Nat) (x2 : Int64) (x4 : Int32) (M : gs_M), l_X12_sleepsOf_7 x1 f x2 x4 M = some (o2, o4, M') → gs_AW X 7 [(0, .ref 147), (1, .int x1), (2, .long x2), (4, .int x4)] [] M L := by
  intro f
  induction f with
  | zero =>
    intro x2 x4 M h
    cases h
  | succ f ih =>
    intro x2 x4 M h
    rw [l_X12_sleepsOf_7] at h
    refine gs_iload (pc := 7) C 3 dX12_sleepsOf_7 rfl ?_
    refine gs_aload_n (pc := 9) C 0 dX12_sleepsOf_9 rfl rfl ?_
    refine gs_getq (pc := 10) C dX12_sleepsOf_10 gk_12 fl_X12_37 sh_147 rfl ?_
    refine gs_iconst (w := 0) (pc := 13) C dX12_sleepsOf_13 rfl ?_
    obtain ⟨v1, e2, h⟩ := gs_o1 h
    refine gs_iald (pc := 14) C dX12_sleepsOf_14 sh_152 e2 ?_
    refine gs_icmp_ge (pc := 15) C 42 dX12_sleepsOf_15 rfl (fun c3 => ?_) (fun c3 => ?_)
    · replace h := gs_ift c3 h
      obtain ⟨rfl, rfl, rfl⟩ := gs_i3 h
      exact k
    · replace h := gs_iff c3 h
      refine gs_lload_n (pc := 18) C 2 dX12_sleepsOf_18 rfl rfl ?_
      refine gs_bipush (w := 10) (pc := 19) C dX12_sleepsOf_19 rfl ?_
      refine gs_aload_n (pc := 21) C 0 dX12_sleepsOf_21 rfl rfl ?_
      refine gs_iload_n (pc := 22) C 1 dX12_sleepsOf_22 rfl rfl ?_
      refine gs_iload (pc := 23) C 3 dX12_sleepsOf_23 rfl ?_
      obtain ⟨v4, M5, e6, h⟩ := gs_o2 h
      refine gs_callVi (pc := 25) C [.int x1, .int x4] dX12_sleepsOf_25 ml_X12_340 wy_X12_wakesNow (a_X12_wakesNow _ e6) (by decide) sh_147 (by decide) rfl rfl (Nat.le_of_ble_eq_true rfl) rfl ?_
      refine gs_isub (pc := 28) C dX12_sleepsOf_28 ?_
      refine gs_i2l (pc := 29) C dX12_sleepsOf_29 ?_
      refine gs_lmul (pc := 30) C dX12_sleepsOf_30 ?_
      refine gs_ldc2 (pc := 31) C dX12_sleepsOf_31 wj_X12_395 ?_
      obtain ⟨v7, e8, h⟩ := gs_o1 h
      refine gs_ldiv' (pc := 34) C dX12_sleepsOf_34 e8 ?_
      refine gs_lstore_n (ls' := [(2, .long v7), (0, .ref 147), (1, .int x1), (4, .int x4)]) (pc := 35) C dX12_sleepsOf_35 rfl (by decide) rfl ?_
      refine gs_iinc (v := x4 + (1 : Int32)) (ls' := [(4, .int (x4 + (1 : Int32))), (2, .long v7), (0, .ref 147), (1, .int x1)]) (pc := 36) C 3 dX12_sleepsOf_36 rfl rfl (by decide) rfl ?_
      refine gs_goto (pc := 39) C 7 dX12_sleepsOf_39 rfl ?_
      exact gs_sub [2, 3, 1, 0] rfl (ih _ _ _ h)
set_option maxRecDepth 100000 in
set_option maxHeartbeats 4000000 in
theorem a_X12_sleepsOf (l : Launch) {M : gs_M} {L : gs_L} {x1 : Int32} {rv : Int32} {Mz : gs_M} (h : f_X12_sleepsOf M x1 = some (rv, Mz)) : gs_Met l 81 yX12_sleepsOf cX12_sleepsOf 5 (some .int) [.ref 147, .int x1] M L (some (.int rv)) Mz L := by
  unfold f_X12_sleepsOf at h
  refine gs_of RX12 (by decide) rfl (Nat.le_of_ble_eq_true rfl) (fun X C E => ?_)
  show gs_AW X 0 [(0, .ref 147), (1, .int x1)] [] M L
  refine gs_ldc2 (pc := 0) C dX12_sleepsOf_0 wj_X12_393 ?_
  refine gs_lstore_n (ls' := [(2, .long (1000000000 : Int64)), (0, .ref 147), (1, .int x1)]) (pc := 3) C dX12_sleepsOf_3 rfl (by decide) rfl ?_
  refine gs_iconst (w := 0) (pc := 4) C dX12_sleepsOf_4 rfl ?_
  refine gs_istore (ls' := [(4, .int (0 : Int32)), (2, .long (1000000000 : Int64)), (0, .ref 147), (1, .int x1)]) (pc := 5) C dX12_sleepsOf_5 (by decide) rfl ?_
  obtain ⟨y1, y2, M3, e4, h⟩ := gs_o3 h
  refine gs_sub [2, 3, 1, 0] rfl (t_X12_sleepsOf_7 C ?_ gs_FU _ _ _ e4)
  refine gs_lload_n (pc := 42) C 2 dX12_sleepsOf_42 rfl rfl ?_
  refine gs_l2i (pc := 43) C dX12_sleepsOf_43 ?_
  obtain ⟨rfl, rfl⟩ := gs_i2 h
  exact gs_iret (pc := 44) C dX12_sleepsOf_44 E
set_option maxRecDepth 100000 in
set_option maxHeartbeats 4000000 in
theorem t_X12_most_28 {X : gs_X} (C : gs_C X RX12 cX12_most 5 (some .int) 82) {L : gs_L} {x1 : Int32} {o2 : Int32} {o3 : Int32} {M' : gs_M} (k : gs_AW X 96 [(0, .ref 147), (1, .int x1), (2, .int o2), (3, .int o3)] [] M' L) : ∀ (f : Nat) (x2 : Int32) (x3 : Int32) (M : gs_M), l_X12_most_28 x1 f x2 x3 M = some (o2, o3, M') → gs_AW X 28 [(0, .ref 147), (1, .int x1), (2, .int x2), (3, .int x3)] [] M L := by
  intro f
  induction f with
  | zero =>
    intro x2 x3 M h
    cases h
  | succ f ih =>
    intro x2 x3 M h
    rw [l_X12_most_28] at h
    refine gs_iload_n (pc := 28) C 3 dX12_most_28 rfl rfl ?_
    refine gs_aload_n (pc := 29) C 0 dX12_most_29 rfl rfl ?_
    refine gs_geti (pc := 30) C dX12_most_30 gk_12 fl_X12_286 sh_147 rfl ?_
    refine gs_icmp_ge (pc := 33) C 96 dX12_most_33 rfl (fun c1 => ?_) (fun c1 => ?_)
    · replace h := gs_ift c1 h
      obtain ⟨rfl, rfl, rfl⟩ := gs_i3 h
      exact k
    · replace h := gs_iff c1 h
      refine gs_iload_n (pc := 36) C 1 dX12_most_36 rfl rfl ?_
      obtain ⟨y2, M3, e4, h⟩ := gs_o2 h
      have j5 : gs_AW X 81 [(0, .ref 147), (1, .int x1), (2, .int x2), (3, .int x3)] [.int y2] M3 L := by
        refine gs_istore (ls' := [(4, .int y2), (0, .ref 147), (1, .int x1), (2, .int x2), (3, .int x3)]) (pc := 81) C dX12_most_81 (by decide) rfl ?_
        refine gs_iload (pc := 83) C 0 dX12_most_83 rfl ?_
        have j19 : gs_AW X 90 [(0, .ref 147), (1, .int x1), (2, .int (if y2 = (0 : Int32) then x2 else x3 : Int32)), (3, .int x3), (4, .int y2)] [] M3 L := by
          refine gs_iinc (v := x3 + (1 : Int32)) (ls' := [(3, .int (x3 + (1 : Int32))), (0, .ref 147), (1, .int x1), (2, .int (if y2 = (0 : Int32) then x2 else x3 : Int32)), (4, .int y2)]) (pc := 90) C 3 dX12_most_90 rfl rfl (by decide) rfl ?_
          refine gs_goto (pc := 93) C 28 dX12_most_93 rfl ?_
          exact gs_sub [1, 2, 3, 0] rfl (ih _ _ _ h)
        refine gs_if_eq (pc := 85) C 90 dX12_most_85 rfl (fun c20 => ?_) (fun c20 => ?_)
        · simp only [if_pos c20] at j19
          exact gs_sub [1, 2, 3, 4, 0] rfl (j19)
        · refine gs_iload_n (pc := 88) C 4 dX12_most_88 rfl rfl ?_
          refine gs_istore_n (ls' := [(2, .int x3), (4, .int y2), (0, .ref 147), (1, .int x1), (3, .int x3)]) (pc := 89) C dX12_most_89 rfl (by decide) rfl ?_
          simp only [if_neg c20] at j19
          exact gs_sub [2, 3, 0, 4, 1] rfl (j19)
      refine gs_if_ne (pc := 37) C 63 dX12_most_37 rfl (fun c6 => ?_) (fun c6 => ?_)
      · replace e4 := gs_iff c6 e4
        refine gs_aload_n (pc := 63) C 0 dX12_most_63 rfl rfl ?_
        refine gs_iload_n (pc := 64) C 3 dX12_most_64 rfl rfl ?_
        obtain ⟨v7, M8, e9, e4⟩ := gs_o2 e4
        refine gs_callVi (pc := 65) C [.int x3] dX12_most_65 ml_X12_397 wy_X12_sleepsOf (a_X12_sleepsOf _ e9) (by decide) sh_147 (by decide) rfl rfl (Nat.le_of_ble_eq_true rfl) rfl ?_
        refine gs_aload_n (pc := 68) C 0 dX12_most_68 rfl rfl ?_
        refine gs_iload_n (pc := 69) C 2 dX12_most_69 rfl rfl ?_
        obtain ⟨v10, M11, e12, e4⟩ := gs_o2 e4
        refine gs_callVi (pc := 70) C [.int x2] dX12_most_70 ml_X12_397 wy_X12_sleepsOf (a_X12_sleepsOf _ e12) (by decide) sh_147 (by decide) rfl rfl (Nat.le_of_ble_eq_true rfl) rfl ?_
        refine gs_icmp_le (pc := 73) C 80 dX12_most_73 rfl (fun c13 => ?_) (fun c13 => ?_)
        · replace e4 := gs_ift c13 e4
          refine gs_iconst (w := 0) (pc := 80) C dX12_most_80 rfl ?_
          obtain ⟨rfl, rfl⟩ := gs_i2 e4
          exact j5
        · replace e4 := gs_iff c13 e4
          refine gs_iconst (w := 1) (pc := 76) C dX12_most_76 rfl ?_
          refine gs_goto (pc := 77) C 81 dX12_most_77 rfl ?_
          obtain ⟨rfl, rfl⟩ := gs_i2 e4
          exact j5
      · replace e4 := gs_ift c6 e4
        refine gs_aload_n (pc := 40) C 0 dX12_most_40 rfl rfl ?_
        refine gs_iload_n (pc := 41) C 3 dX12_most_41 rfl rfl ?_
        refine gs_iconst (w := 2) (pc := 42) C dX12_most_42 rfl ?_
        obtain ⟨v14, e15, e4⟩ := gs_o1 e4
        refine gs_callVi (pc := 43) C [.int x3, .int (2 : Int32)] dX12_most_43 ml_X12_301 wy_X12_of (a_X12_of _ e15) (by decide) sh_147 (by decide) rfl rfl (Nat.le_of_ble_eq_true rfl) rfl ?_
        refine gs_aload_n (pc := 46) C 0 dX12_most_46 rfl rfl ?_
        refine gs_iload_n (pc := 47) C 2 dX12_most_47 rfl rfl ?_
        refine gs_iconst (w := 2) (pc := 48) C dX12_most_48 rfl ?_
        obtain ⟨v16, e17, e4⟩ := gs_o1 e4
        refine gs_callVi (pc := 49) C [.int x2, .int (2 : Int32)] dX12_most_49 ml_X12_301 wy_X12_of (a_X12_of _ e17) (by decide) sh_147 (by decide) rfl rfl (Nat.le_of_ble_eq_true rfl) rfl ?_
        refine gs_icmp_le (pc := 52) C 59 dX12_most_52 rfl (fun c18 => ?_) (fun c18 => ?_)
        · replace e4 := gs_ift c18 e4
          refine gs_iconst (w := 0) (pc := 59) C dX12_most_59 rfl ?_
          refine gs_goto (pc := 60) C 81 dX12_most_60 rfl ?_
          obtain ⟨rfl, rfl⟩ := gs_i2 e4
          exact j5
        · replace e4 := gs_iff c18 e4
          refine gs_iconst (w := 1) (pc := 55) C dX12_most_55 rfl ?_
          refine gs_goto (pc := 56) C 81 dX12_most_56 rfl ?_
          obtain ⟨rfl, rfl⟩ := gs_i2 e4
          exact j5
set_option maxRecDepth 100000 in
set_option maxHeartbeats 4000000 in
theorem a_X12_most (l : Launch) {M : gs_M} {L : gs_L} {x1 : Int32} {rv : Int32} {Mz : gs_M} (h : f_X12_most M x1 = some (rv, Mz)) : gs_Met l 82 yX12_most cX12_most 5 (some .int) [.ref 147, .int x1] M L (some (.int rv)) Mz L := by
  unfold f_X12_most at h
  refine gs_of RX12 (by decide) rfl (Nat.le_of_ble_eq_true rfl) (fun X C E => ?_)
  show gs_AW X 0 [(0, .ref 147), (1, .int x1)] [] M L
  refine gs_aload_n (pc := 0) C 0 dX12_most_0 rfl rfl ?_
  refine gs_iconst (w := 0) (pc := 1) C dX12_most_1 rfl ?_
  obtain ⟨M2, e1, h⟩ := gs_o1 h
  refine gs_puti' (pc := 2) C dX12_most_2 gk_12 fp_X12_100 sh_147 rfl e1 ?_
  refine gs_aload_n (pc := 5) C 0 dX12_most_5 rfl rfl ?_
  refine gs_geti (pc := 6) C dX12_most_6 gk_12 fl_X12_286 sh_147 rfl ?_
  refine gs_if_eq (pc := 9) C 22 dX12_most_9 rfl (fun c3 => ?_) (fun c3 => ?_)
  · replace h := gs_ift c3 h
    refine gs_iconst (w := (-1)) (pc := 22) C dX12_most_22 rfl ?_
    obtain ⟨rfl, rfl⟩ := gs_i2 h
    exact gs_iret (pc := 23) C dX12_most_23 E
  · replace h := gs_iff c3 h
    refine gs_iload_n (pc := 12) C 1 dX12_most_12 rfl rfl ?_
    refine gs_i2l (pc := 13) C dX12_most_13 ?_
    refine gs_lconst (w := 0) (pc := 14) C dX12_most_14 rfl ?_
    refine gs_lconst (w := 1) (pc := 15) C dX12_most_15 rfl ?_
    obtain ⟨v4, e5, h⟩ := gs_o1 h
    refine gs_callSi (pc := 16) C [.long (Int32.toInt64 x1), .long (0 : Int64), .long (1 : Int64)] dX12_most_16 ml_X12_221 wy_X12_isIn (a_X12_isIn _ e5) (by decide) rfl (Nat.le_of_ble_eq_true rfl) rfl ?_
    refine gs_if_ne (pc := 19) C 24 dX12_most_19 rfl (fun c6 => ?_) (fun c6 => ?_)
    · replace h := gs_iff c6 h
      refine gs_iconst (w := 0) (pc := 24) C dX12_most_24 rfl ?_
      refine gs_istore_n (ls' := [(2, .int (0 : Int32)), (0, .ref 147), (1, .int x1)]) (pc := 25) C dX12_most_25 rfl (by decide) rfl ?_
      refine gs_iconst (w := 1) (pc := 26) C dX12_most_26 rfl ?_
      refine gs_istore_n (ls' := [(3, .int (1 : Int32)), (2, .int (0 : Int32)), (0, .ref 147), (1, .int x1)]) (pc := 27) C dX12_most_27 rfl (by decide) rfl ?_
      obtain ⟨y7, y8, M9, e10, h⟩ := gs_o3 h
      refine gs_sub [2, 3, 1, 0] rfl (t_X12_most_28 C ?_ gs_FU _ _ _ e10)
      refine gs_iload_n (pc := 96) C 2 dX12_most_96 rfl rfl ?_
      obtain ⟨rfl, rfl⟩ := gs_i2 h
      exact gs_iret (pc := 97) C dX12_most_97 E
    · replace h := gs_ift c6 h
      refine gs_iconst (w := (-1)) (pc := 22) C dX12_most_22 rfl ?_
      obtain ⟨rfl, rfl⟩ := gs_i2 h
      exact gs_iret (pc := 23) C dX12_most_23 E
set_option maxRecDepth 100000 in
set_option maxHeartbeats 4000000 in
theorem t_X12_needs_50 {X : gs_X} (C : gs_C X RX12 cX12_needs 7 (some .int) 81) {L : gs_L} {x1 : Int32} {x2 : Int32} {x3 : Int32} {x4 : Int32} {o5 : Int32} {o6 : Int32} {M' : gs_M} (k : gs_AW X 88 [(0, .ref 147), (1, .int x1), (2, .int x2), (3, .int x3), (4, .int x4), (5, .int o5), (6, .int o6)] [] M' L) : ∀ (f : Nat) (x5 : Int32) (x6 : Int32) (M : gs_M), l_X12_needs_50 x1 x2 x3 x4 f x5 x6 M = some (o5, o6, M') → gs_AW X 50 [(0, .ref 147), (1, .int x1), (2, .int x2), (3, .int x3), (4, .int x4), (5, .int x5), (6, .int x6)] [] M L := by
  intro f
  induction f with
  | zero =>
    intro x5 x6 M h
    cases h
  | succ f ih =>
    intro x5 x6 M h
    rw [l_X12_needs_50] at h
    refine gs_iload (pc := 50) C 6 dX12_needs_50 rfl ?_
    refine gs_if_lt (pc := 52) C 88 dX12_needs_52 rfl (fun c1 => ?_) (fun c1 => ?_)
    · replace h := gs_ift c1 h
      obtain ⟨rfl, rfl, rfl⟩ := gs_i3 h
      exact k
    · replace h := gs_iff c1 h
      refine gs_aload_n (pc := 55) C 0 dX12_needs_55 rfl rfl ?_
      refine gs_getq (pc := 56) C dX12_needs_56 gk_12 fl_X12_55 sh_147 rfl ?_
      refine gs_bipush (w := 6) (pc := 59) C dX12_needs_59 rfl ?_
      refine gs_iload_n (pc := 61) C 1 dX12_needs_61 rfl rfl ?_
      refine gs_imul (pc := 62) C dX12_needs_62 ?_
      refine gs_iconst (w := 1) (pc := 63) C dX12_needs_63 rfl ?_
      refine gs_iadd (pc := 64) C dX12_needs_64 ?_
      refine gs_iload (pc := 65) C 6 dX12_needs_65 rfl ?_
      obtain ⟨M3, e2, h⟩ := gs_o1 h
      refine gs_iast (pc := 67) C dX12_needs_67 sh_158 e2 ?_
      refine gs_aload_n (pc := 68) C 0 dX12_needs_68 rfl rfl ?_
      refine gs_iload_n (pc := 69) C 1 dX12_needs_69 rfl rfl ?_
      refine gs_iload_n (pc := 70) C 2 dX12_needs_70 rfl rfl ?_
      obtain ⟨v4, M5, e6, h⟩ := gs_o2 h
      refine gs_callVi (pc := 71) C [.int x1, .int x2] dX12_needs_71 ml_X12_340 wy_X12_wakesNow (a_X12_wakesNow _ e6) (by decide) sh_147 (by decide) rfl rfl (Nat.le_of_ble_eq_true rfl) rfl ?_
      refine gs_iload_n (pc := 74) C 3 dX12_needs_74 rfl rfl ?_
      have j7 : gs_AW X 82 [(0, .ref 147), (1, .int x1), (2, .int x2), (3, .int x3), (4, .int x4), (5, .int (if v4 < x3 then x5 else x6 : Int32)), (6, .int x6)] [] M5 L := by
        refine gs_iinc (v := x6 + (-1 : Int32)) (ls' := [(6, .int (x6 + (-1 : Int32))), (0, .ref 147), (1, .int x1), (2, .int x2), (3, .int x3), (4, .int x4), (5, .int (if v4 < x3 then x5 else x6 : Int32))]) (pc := 82) C 6 dX12_needs_82 rfl rfl (by decide) rfl ?_
        refine gs_goto (pc := 85) C 50 dX12_needs_85 rfl ?_
        exact gs_sub [1, 2, 3, 4, 5, 6, 0] rfl (ih _ _ _ h)
      refine gs_icmp_lt (pc := 75) C 82 dX12_needs_75 rfl (fun c8 => ?_) (fun c8 => ?_)
      · simp only [if_pos c8] at j7
        exact j7
      · refine gs_iload (pc := 78) C 6 dX12_needs_78 rfl ?_
        refine gs_istore (ls' := [(5, .int x6), (0, .ref 147), (1, .int x1), (2, .int x2), (3, .int x3), (4, .int x4), (6, .int x6)]) (pc := 80) C dX12_needs_80 (by decide) rfl ?_
        simp only [if_neg c8] at j7
        exact gs_sub [1, 2, 3, 4, 5, 0, 6] rfl (j7)
set_option maxRecDepth 100000 in
set_option maxHeartbeats 4000000 in
theorem a_X12_needs (l : Launch) {M : gs_M} {L : gs_L} {x1 : Int32} {x2 : Int32} {x3 : Int32} {rv : Int32} {Mz : gs_M} (h : f_X12_needs M x1 x2 x3 = some (rv, Mz)) : gs_Met l 81 yX12_needs cX12_needs 7 (some .int) [.ref 147, .int x1, .int x2, .int x3] M L (some (.int rv)) Mz L := by
  unfold f_X12_needs at h
  refine gs_of RX12 (by decide) rfl (Nat.le_of_ble_eq_true rfl) (fun X C E => ?_)
  show gs_AW X 0 [(0, .ref 147), (1, .int x1), (2, .int x2), (3, .int x3)] [] M L
  refine gs_aload_n (pc := 0) C 0 dX12_needs_0 rfl rfl ?_
  refine gs_iconst (w := 0) (pc := 1) C dX12_needs_1 rfl ?_
  obtain ⟨M2, e1, h⟩ := gs_o1 h
  refine gs_puti' (pc := 2) C dX12_needs_2 gk_12 fp_X12_100 sh_147 rfl e1 ?_
  refine gs_aload_n (pc := 5) C 0 dX12_needs_5 rfl rfl ?_
  refine gs_iload_n (pc := 6) C 1 dX12_needs_6 rfl rfl ?_
  obtain ⟨v3, e4, h⟩ := gs_o1 h
  refine gs_callVi (pc := 7) C [.int x1] dX12_needs_7 ml_X12_347 wy_X12_isPerson (a_X12_isPerson _ e4) (by decide) sh_147 (by decide) rfl rfl (Nat.le_of_ble_eq_true rfl) rfl ?_
  refine gs_if_eq (pc := 10) C 33 dX12_needs_10 rfl (fun c5 => ?_) (fun c5 => ?_)
  · replace h := gs_ift c5 h
    refine gs_iconst (w := (-1)) (pc := 33) C dX12_needs_33 rfl ?_
    obtain ⟨rfl, rfl⟩ := gs_i2 h
    exact gs_iret (pc := 34) C dX12_needs_34 E
  · replace h := gs_iff c5 h
    refine gs_aload_n (pc := 13) C 0 dX12_needs_13 rfl rfl ?_
    refine gs_iload_n (pc := 14) C 2 dX12_needs_14 rfl rfl ?_
    obtain ⟨v6, e7, h⟩ := gs_o1 h
    refine gs_callVi (pc := 15) C [.int x2] dX12_needs_15 ml_X12_366 wy_X12_isHour (a_X12_isHour _ e7) (by decide) sh_147 (by decide) rfl rfl (Nat.le_of_ble_eq_true rfl) rfl ?_
    refine gs_if_eq (pc := 18) C 33 dX12_needs_18 rfl (fun c8 => ?_) (fun c8 => ?_)
    · replace h := gs_ift c8 h
      refine gs_iconst (w := (-1)) (pc := 33) C dX12_needs_33 rfl ?_
      obtain ⟨rfl, rfl⟩ := gs_i2 h
      exact gs_iret (pc := 34) C dX12_needs_34 E
    · replace h := gs_iff c8 h
      refine gs_iload_n (pc := 21) C 3 dX12_needs_21 rfl rfl ?_
      refine gs_i2l (pc := 22) C dX12_needs_22 ?_
      refine gs_lconst (w := 0) (pc := 23) C dX12_needs_23 rfl ?_
      refine gs_ldc2 (pc := 24) C dX12_needs_24 wj_X12_395 ?_
      obtain ⟨v9, e10, h⟩ := gs_o1 h
      refine gs_callSi (pc := 27) C [.long (Int32.toInt64 x3), .long (0 : Int64), .long (10 : Int64)] dX12_needs_27 ml_X12_221 wy_X12_isIn (a_X12_isIn _ e10) (by decide) rfl (Nat.le_of_ble_eq_true rfl) rfl ?_
      refine gs_if_ne (pc := 30) C 35 dX12_needs_30 rfl (fun c11 => ?_) (fun c11 => ?_)
      · replace h := gs_iff c11 h
        refine gs_aload_n (pc := 35) C 0 dX12_needs_35 rfl rfl ?_
        refine gs_iload_n (pc := 36) C 1 dX12_needs_36 rfl rfl ?_
        refine gs_iconst (w := 1) (pc := 37) C dX12_needs_37 rfl ?_
        obtain ⟨v12, e13, h⟩ := gs_o1 h
        refine gs_callVi (pc := 38) C [.int x1, .int (1 : Int32)] dX12_needs_38 ml_X12_301 wy_X12_of (a_X12_of _ e13) (by decide) sh_147 (by decide) rfl rfl (Nat.le_of_ble_eq_true rfl) rfl ?_
        refine gs_istore (ls' := [(4, .int v12), (0, .ref 147), (1, .int x1), (2, .int x2), (3, .int x3)]) (pc := 41) C dX12_needs_41 (by decide) rfl ?_
        refine gs_iconst (w := (-1)) (pc := 43) C dX12_needs_43 rfl ?_
        refine gs_istore (ls' := [(5, .int (-1 : Int32)), (4, .int v12), (0, .ref 147), (1, .int x1), (2, .int x2), (3, .int x3)]) (pc := 44) C dX12_needs_44 (by decide) rfl ?_
        refine gs_bipush (w := 9) (pc := 46) C dX12_needs_46 rfl ?_
        refine gs_istore (ls' := [(6, .int (9 : Int32)), (5, .int (-1 : Int32)), (4, .int v12), (0, .ref 147), (1, .int x1), (2, .int x2), (3, .int x3)]) (pc := 48) C dX12_needs_48 (by decide) rfl ?_
        obtain ⟨y14, y15, M16, e17, h⟩ := gs_o3 h
        refine gs_sub [3, 4, 5, 6, 2, 1, 0] rfl (t_X12_needs_50 C ?_ gs_FU _ _ _ e17)
        refine gs_aload_n (pc := 88) C 0 dX12_needs_88 rfl rfl ?_
        refine gs_getq (pc := 89) C dX12_needs_89 gk_12 fl_X12_55 sh_147 rfl ?_
        refine gs_bipush (w := 6) (pc := 92) C dX12_needs_92 rfl ?_
        refine gs_iload_n (pc := 94) C 1 dX12_needs_94 rfl rfl ?_
        refine gs_imul (pc := 95) C dX12_needs_95 ?_
        refine gs_iconst (w := 1) (pc := 96) C dX12_needs_96 rfl ?_
        refine gs_iadd (pc := 97) C dX12_needs_97 ?_
        refine gs_iload (pc := 98) C 4 dX12_needs_98 rfl ?_
        obtain ⟨M19, e18, h⟩ := gs_o1 h
        refine gs_iast (pc := 100) C dX12_needs_100 sh_158 e18 ?_
        refine gs_iload (pc := 101) C 5 dX12_needs_101 rfl ?_
        obtain ⟨rfl, rfl⟩ := gs_i2 h
        exact gs_iret (pc := 103) C dX12_needs_103 E
      · replace h := gs_ift c11 h
        refine gs_iconst (w := (-1)) (pc := 33) C dX12_needs_33 rfl ?_
        obtain ⟨rfl, rfl⟩ := gs_i2 h
        exact gs_iret (pc := 34) C dX12_needs_34 E
