set_option maxRecDepth 100000 in
set_option maxHeartbeats 4000000 in
theorem a_X9_readItem (l : Launch) {M : gs_M} {L : gs_L} {x1 : Int32} {x2 : Int32} {rv : Int32} {Mz : gs_M} (h : f_X9_readItem M x1 x2 = some (rv, Mz)) : gs_Met l 2 yX9_readItem cX9_readItem 4 (some .int) [.ref 1, .int x1, .int x2] M L (some (.int rv)) Mz L := by
  unfold f_X9_readItem at h
  refine gs_of RX9 (by decide) rfl (Nat.le_of_ble_eq_true rfl) (fun X C E => ?_)
  show gs_AW X 0 [(0, .ref 1), (1, .int x1), (2, .int x2)] [] M L
  refine gs_aload_n (pc := 0) C 0 dX9_readItem_0 rfl rfl ?_
  obtain ⟨M1, e2, h⟩ := gs_o1 h
  refine gs_callVv (pc := 1) C [] dX9_readItem_1 ml_X9_48 wy_X7_step (a_X7_step _ e2) (by decide) sh_1 (by decide) rfl rfl (Nat.le_of_ble_eq_true rfl) rfl ?_
  refine gs_aload_n (pc := 4) C 0 dX9_readItem_4 rfl rfl ?_
  refine gs_iconst (w := 2) (pc := 5) C dX9_readItem_5 rfl ?_
  obtain ⟨v3, M4, e5, h⟩ := gs_o2 h
  refine gs_callVi (pc := 6) C [.int (2 : Int32)] dX9_readItem_6 ml_X9_104 wy_X7_number (a_X7_number _ e5) (by decide) sh_1 (by decide) rfl rfl (Nat.le_of_ble_eq_true rfl) rfl ?_
  refine gs_istore_n (ls' := [(3, .int v3), (0, .ref 1), (1, .int x1), (2, .int x2)]) (pc := 9) C dX9_readItem_9 rfl (by decide) rfl ?_
  refine gs_iload_n (pc := 10) C 0 dX9_readItem_10 rfl rfl ?_
  refine gs_iconst (w := (-1)) (pc := 11) C dX9_readItem_11 rfl ?_
  refine gs_icmp_eq (pc := 12) C 31 dX9_readItem_12 rfl (fun c6 => ?_) (fun c6 => ?_)
  · replace h := gs_ift c6 h
    refine gs_iload_n (pc := 31) C 0 dX9_readItem_31 rfl rfl ?_
    obtain ⟨rfl, rfl⟩ := gs_i2 h
    exact gs_iret (pc := 32) C dX9_readItem_32 E
  · replace h := gs_iff c6 h
    refine gs_iload_n (pc := 15) C 0 dX9_readItem_15 rfl rfl ?_
    refine gs_iload_n (pc := 16) C 2 dX9_readItem_16 rfl rfl ?_
    refine gs_icmp_lt (pc := 17) C 25 dX9_readItem_17 rfl (fun c7 => ?_) (fun c7 => ?_)
    · replace h := gs_ift c7 h
      refine gs_aload_n (pc := 25) C 1 dX9_readItem_25 rfl rfl ?_
      obtain ⟨M8, e9, h⟩ := gs_o1 h
      refine gs_callVv (pc := 26) C [] dX9_readItem_26 ml_X9_107 wy_X7_failAtDigit (a_X7_failAtDigit _ e9) (by decide) sh_1 (by decide) rfl rfl (Nat.le_of_ble_eq_true rfl) rfl ?_
      refine gs_iconst (w := (-1)) (pc := 29) C dX9_readItem_29 rfl ?_
      obtain ⟨rfl, rfl⟩ := gs_i2 h
      exact gs_iret (pc := 30) C dX9_readItem_30 E
    · replace h := gs_iff c7 h
      refine gs_iload_n (pc := 20) C 0 dX9_readItem_20 rfl rfl ?_
      refine gs_iload_n (pc := 21) C 3 dX9_readItem_21 rfl rfl ?_
      refine gs_icmp_le (pc := 22) C 31 dX9_readItem_22 rfl (fun c10 => ?_) (fun c10 => ?_)
      · replace h := gs_ift c10 h
        refine gs_iload_n (pc := 31) C 0 dX9_readItem_31 rfl rfl ?_
        obtain ⟨rfl, rfl⟩ := gs_i2 h
        exact gs_iret (pc := 32) C dX9_readItem_32 E
      · replace h := gs_iff c10 h
        refine gs_aload_n (pc := 25) C 1 dX9_readItem_25 rfl rfl ?_
        obtain ⟨M11, e12, h⟩ := gs_o1 h
        refine gs_callVv (pc := 26) C [] dX9_readItem_26 ml_X9_107 wy_X7_failAtDigit (a_X7_failAtDigit _ e12) (by decide) sh_1 (by decide) rfl rfl (Nat.le_of_ble_eq_true rfl) rfl ?_
        refine gs_iconst (w := (-1)) (pc := 29) C dX9_readItem_29 rfl ?_
        obtain ⟨rfl, rfl⟩ := gs_i2 h
        exact gs_iret (pc := 30) C dX9_readItem_30 E
set_option maxRecDepth 100000 in
set_option maxHeartbeats 4000000 in
theorem t_X9_readItems_6 {X : gs_X} (C : gs_C X RX9 cX9_readItems 10 (some .boolean) 10) {L : gs_L} {x5 : Int32} {rv : Int32} {Mz : gs_M} (E : gs_E X (some (.int rv)) Mz L) : ∀ (f : Nat) (x6 : Int32) (x7 : Int32) (M : gs_M), l_X9_readItems_6 x5 f x6 x7 M = some (rv, Mz) → gs_AW X 6 [(0, .ref 1), (1, .ref 1001), (2, .ref 1013), (3, .ref 1014), (4, .ref 8), (5, .int x5), (6, .int x6), (7, .int x7)] [] M L := by
  intro f
  induction f with
  | zero =>
    intro x6 x7 M h
    cases h
  | succ f ih =>
    intro x6 x7 M h
    rw [l_X9_readItems_6] at h
    refine gs_iload (pc := 6) C 7 dX9_readItems_6 rfl ?_
    refine gs_aload_n (pc := 8) C 1 dX9_readItems_8 rfl rfl ?_
    refine gs_strlen (pc := 9) C 1 (by decide) dX9_readItems_9 ml_X9_84 (by decide) (Nat.le_of_ble_eq_true rfl) ?_
    refine gs_icmp_ge (pc := 12) C 91 dX9_readItems_12 rfl (fun c1 => ?_) (fun c1 => ?_)
    · replace h := gs_ift c1 h
      refine gs_aload_n (pc := 91) C 0 dX9_readItems_91 rfl rfl ?_
      obtain ⟨v2, M3, e4, h⟩ := gs_o2 h
      refine gs_callSi (pc := 92) C [.ref 1] dX9_readItems_92 ml_X9_93 wy_X9_endsClause (a_X9_endsClause _ e4) (by decide) rfl (Nat.le_of_ble_eq_true rfl) rfl ?_
      obtain ⟨z1, e2, h⟩ := gs_o1 h
      obtain ⟨rfl, rfl⟩ := gs_i2 h
      exact gs_zret' (pc := 95) C dX9_readItems_95 e2 E
    · replace h := gs_iff c1 h
      refine gs_aload_n (pc := 15) C 0 dX9_readItems_15 rfl rfl ?_
      refine gs_aload_n (pc := 16) C 1 dX9_readItems_16 rfl rfl ?_
      obtain ⟨v5, M6, e7, h⟩ := gs_o2 h
      refine gs_callSi (pc := 17) C [.ref 1, .ref 1001] dX9_readItems_17 ml_X9_89 wy_X9_letterAt (a_X9_letterAt _ e7) (by decide) rfl (Nat.le_of_ble_eq_true rfl) rfl ?_
      refine gs_istore (ls' := [(8, .int v5), (0, .ref 1), (1, .ref 1001), (2, .ref 1013), (3, .ref 1014), (4, .ref 8), (5, .int x5), (6, .int x6), (7, .int x7)]) (pc := 20) C dX9_readItems_20 (by decide) rfl ?_
      refine gs_iload (pc := 22) C 0 dX9_readItems_22 rfl ?_
      refine gs_iconst (w := (-1)) (pc := 24) C dX9_readItems_24 rfl ?_
      refine gs_icmp_eq (pc := 25) C 39 dX9_readItems_25 rfl (fun c8 => ?_) (fun c8 => ?_)
      · replace h := gs_ift c8 h
        refine gs_aload_n (pc := 39) C 1 dX9_readItems_39 rfl rfl ?_
        obtain ⟨v9, M10, e11, h⟩ := gs_o2 h
        refine gs_callSi (pc := 40) C [.ref 1] dX9_readItems_40 ml_X9_93 wy_X9_endsClause (a_X9_endsClause _ e11) (by decide) rfl (Nat.le_of_ble_eq_true rfl) rfl ?_
        obtain ⟨z3, e4, h⟩ := gs_o1 h
        obtain ⟨rfl, rfl⟩ := gs_i2 h
        exact gs_zret' (pc := 43) C dX9_readItems_43 e4 E
      · replace h := gs_iff c8 h
        refine gs_iload (pc := 28) C 7 dX9_readItems_28 rfl ?_
        refine gs_iload (pc := 30) C 0 dX9_readItems_30 rfl ?_
        refine gs_ishr (pc := 32) C dX9_readItems_32 ?_
        refine gs_iconst (w := 1) (pc := 33) C dX9_readItems_33 rfl ?_
        refine gs_iand (pc := 34) C dX9_readItems_34 ?_
        refine gs_iconst (w := 1) (pc := 35) C dX9_readItems_35 rfl ?_
        refine gs_icmp_ne (pc := 36) C 44 dX9_readItems_36 rfl (fun c12 => ?_) (fun c12 => ?_)
        · replace h := gs_iff c12 h
          refine gs_iload (pc := 44) C 7 dX9_readItems_44 rfl ?_
          refine gs_iconst (w := 1) (pc := 46) C dX9_readItems_46 rfl ?_
          refine gs_iload (pc := 47) C 0 dX9_readItems_47 rfl ?_
          refine gs_ishl (pc := 49) C dX9_readItems_49 ?_
          refine gs_ior (pc := 50) C dX9_readItems_50 ?_
          refine gs_istore (ls' := [(6, .int (x6 ||| ((1 : Int32) <<< (v5 &&& 31)))), (8, .int v5), (0, .ref 1), (1, .ref 1001), (2, .ref 1013), (3, .ref 1014), (4, .ref 8), (5, .int x5), (7, .int x7)]) (pc := 51) C dX9_readItems_51 (by decide) rfl ?_
          refine gs_aload_n (pc := 53) C 2 dX9_readItems_53 rfl rfl ?_
          refine gs_aload_n (pc := 54) C 4 dX9_readItems_54 rfl rfl ?_
          refine gs_iload (pc := 55) C 1 dX9_readItems_55 rfl ?_
          obtain ⟨v13, e14, h⟩ := gs_o1 h
          refine gs_ialdX (pc := 57) C 3 (by decide) dX9_readItems_57 e14 ?_
          refine gs_aload_n (pc := 58) C 5 dX9_readItems_58 rfl rfl ?_
          refine gs_iload (pc := 59) C 1 dX9_readItems_59 rfl ?_
          obtain ⟨v15, e16, h⟩ := gs_o1 h
          refine gs_ialdX (pc := 61) C 4 (by decide) dX9_readItems_61 e16 ?_
          obtain ⟨v17, M18, e19, h⟩ := gs_o2 h
          refine gs_callSi (pc := 62) C [.ref 1, .int v13, .int v15] dX9_readItems_62 ml_X9_96 wy_X9_readItem (a_X9_readItem _ e19) (by decide) rfl (Nat.le_of_ble_eq_true rfl) rfl ?_
          refine gs_istore (ls' := [(9, .int v17), (6, .int (x6 ||| ((1 : Int32) <<< (v5 &&& 31)))), (8, .int v5), (0, .ref 1), (1, .ref 1001), (2, .ref 1013), (3, .ref 1014), (4, .ref 8), (5, .int x5), (7, .int x7)]) (pc := 65) C dX9_readItems_65 (by decide) rfl ?_
          refine gs_iload (pc := 67) C 0 dX9_readItems_67 rfl ?_
          refine gs_iconst (w := (-1)) (pc := 69) C dX9_readItems_69 rfl ?_
          refine gs_icmp_ne (pc := 70) C 75 dX9_readItems_70 rfl (fun c20 => ?_) (fun c20 => ?_)
          · replace h := gs_iff c20 h
            refine gs_aload (pc := 75) C 7 dX9_readItems_75 rfl ?_
            refine gs_iload (pc := 77) C 8 dX9_readItems_77 rfl ?_
            refine gs_iload (pc := 79) C 2 dX9_readItems_79 rfl ?_
            refine gs_iadd (pc := 81) C dX9_readItems_81 ?_
            refine gs_iload (pc := 82) C 0 dX9_readItems_82 rfl ?_
            obtain ⟨M22, e21, h⟩ := gs_o1 h
            refine gs_iast (pc := 84) C dX9_readItems_84 sh_8 e21 ?_
            refine gs_iinc (v := x7 + (1 : Int32)) (ls' := [(7, .int (x7 + (1 : Int32))), (9, .int v17), (6, .int (x6 ||| ((1 : Int32) <<< (v5 &&& 31)))), (8, .int v5), (0, .ref 1), (1, .ref 1001), (2, .ref 1013), (3, .ref 1014), (4, .ref 8), (5, .int x5)]) (pc := 85) C 9 dX9_readItems_85 rfl rfl (by decide) rfl ?_
            refine gs_goto (pc := 88) C 6 dX9_readItems_88 rfl ?_
            exact gs_sub [4, 5, 6, 7, 8, 9, 2, 0] rfl (ih _ _ _ h)
          · replace h := gs_ift c20 h
            refine gs_iconst (w := 0) (pc := 73) C dX9_readItems_73 rfl ?_
            obtain ⟨rfl, rfl⟩ := gs_i2 h
            exact gs_zret (pc := 74) C (by decide) dX9_readItems_74 E
        · replace h := gs_ift c12 h
          refine gs_aload_n (pc := 39) C 1 dX9_readItems_39 rfl rfl ?_
          obtain ⟨v23, M24, e25, h⟩ := gs_o2 h
          refine gs_callSi (pc := 40) C [.ref 1] dX9_readItems_40 ml_X9_93 wy_X9_endsClause (a_X9_endsClause _ e25) (by decide) rfl (Nat.le_of_ble_eq_true rfl) rfl ?_
          obtain ⟨z5, e6, h⟩ := gs_o1 h
          obtain ⟨rfl, rfl⟩ := gs_i2 h
          exact gs_zret' (pc := 43) C dX9_readItems_43 e6 E
set_option maxRecDepth 100000 in
set_option maxHeartbeats 4000000 in
theorem a_X9_readItems (l : Launch) {M : gs_M} {L : gs_L} {x5 : Int32} {rv : Int32} {Mz : gs_M} (h : f_X9_readItems M x5 = some (rv, Mz)) : gs_Met l 10 yX9_readItems cX9_readItems 10 (some .boolean) [.ref 1, .ref 1001, .ref 1013, .ref 1014, .ref 8, .int x5] M L (some (.int rv)) Mz L := by
  unfold f_X9_readItems at h
  refine gs_of RX9 (by decide) rfl (Nat.le_of_ble_eq_true rfl) (fun X C E => ?_)
  show gs_AW X 0 [(0, .ref 1), (1, .ref 1001), (2, .ref 1013), (3, .ref 1014), (4, .ref 8), (5, .int x5)] [] M L
  refine gs_iconst (w := 0) (pc := 0) C dX9_readItems_0 rfl ?_
  refine gs_istore (ls' := [(6, .int (0 : Int32)), (0, .ref 1), (1, .ref 1001), (2, .ref 1013), (3, .ref 1014), (4, .ref 8), (5, .int x5)]) (pc := 1) C dX9_readItems_1 (by decide) rfl ?_
  refine gs_iconst (w := 0) (pc := 3) C dX9_readItems_3 rfl ?_
  refine gs_istore (ls' := [(7, .int (0 : Int32)), (6, .int (0 : Int32)), (0, .ref 1), (1, .ref 1001), (2, .ref 1013), (3, .ref 1014), (4, .ref 8), (5, .int x5)]) (pc := 4) C dX9_readItems_4 (by decide) rfl ?_
  exact gs_sub [2, 3, 4, 5, 6, 7, 1, 0] rfl (t_X9_readItems_6 C E gs_FU _ _ _ h)
set_option maxRecDepth 100000 in
set_option maxHeartbeats 4000000 in
theorem a_X9_letterAt_2 (l : Launch) {M : gs_M} {L : gs_L} {rv : Int32} {Mz : gs_M} (h : f_X9_letterAt_2 M = some (rv, Mz)) : gs_Met l 9 yX9_letterAt cX9_letterAt 3 (some .int) [.ref 1, .ref 1000] M L (some (.int rv)) Mz L := by
  unfold f_X9_letterAt_2 at h
  refine gs_of RX9 (by decide) rfl (Nat.le_of_ble_eq_true rfl) (fun X C E => ?_)
  show gs_AW X 0 [(0, .ref 1), (1, .ref 1000)] [] M L
  refine gs_aload_n (pc := 0) C 0 dX9_letterAt_0 rfl rfl ?_
  obtain ⟨v1, M2, e3, h⟩ := gs_o2 h
  refine gs_callVi (pc := 1) C [] dX9_letterAt_1 ml_X9_44 wy_X7_look (a_X7_look _ e3) (by decide) sh_1 (by decide) rfl rfl (Nat.le_of_ble_eq_true rfl) rfl ?_
  refine gs_istore_n (ls' := [(2, .int v1), (0, .ref 1), (1, .ref 1000)]) (pc := 4) C dX9_letterAt_4 rfl (by decide) rfl ?_
  refine gs_iload_n (pc := 5) C 0 dX9_letterAt_5 rfl rfl ?_
  refine gs_iconst (w := (-1)) (pc := 6) C dX9_letterAt_6 rfl ?_
  have j4 : gs_AW X 20 [(0, .ref 1), (1, .ref 1000), (2, .int v1)] [.int (if v1 = (-1 : Int32) then (-1 : Int32) else (gs_spot 0 ((Int32.toUInt32 v1 % 65536).toInt32)) : Int32)] M2 L := by
    obtain ⟨rfl, rfl⟩ := gs_i2 h
    exact gs_iret (pc := 20) C dX9_letterAt_20 E
  refine gs_icmp_ne (pc := 7) C 14 dX9_letterAt_7 rfl (fun c5 => ?_) (fun c5 => ?_)
  · refine gs_aload_n (pc := 14) C 2 dX9_letterAt_14 rfl rfl ?_
    refine gs_iload_n (pc := 15) C 0 dX9_letterAt_15 rfl rfl ?_
    refine gs_i2c (pc := 16) C dX9_letterAt_16 ?_
    refine gs_stridx (pc := 17) C 0 (by decide) dX9_letterAt_17 ml_X9_100 (by decide) (Nat.le_of_ble_eq_true rfl) ?_
    simp only [if_neg c5] at j4
    exact gs_sub [1, 2, 0] rfl (j4)
  · refine gs_iconst (w := (-1)) (pc := 10) C dX9_letterAt_10 rfl ?_
    refine gs_goto (pc := 11) C 20 dX9_letterAt_11 rfl ?_
    simp only [if_pos c5] at j4
    exact gs_sub [1, 2, 0] rfl (j4)
set_option maxRecDepth 100000 in
set_option maxHeartbeats 4000000 in
theorem t_X9_readItems_2_6 {X : gs_X} (C : gs_C X RX9 cX9_readItems 10 (some .boolean) 10) {L : gs_L} {x5 : Int32} {rv : Int32} {Mz : gs_M} (E : gs_E X (some (.int rv)) Mz L) : ∀ (f : Nat) (x6 : Int32) (x7 : Int32) (M : gs_M), l_X9_readItems_2_6 x5 f x6 x7 M = some (rv, Mz) → gs_AW X 6 [(0, .ref 1), (1, .ref 1000), (2, .ref 1010), (3, .ref 1011), (4, .ref 7), (5, .int x5), (6, .int x6), (7, .int x7)] [] M L := by
  intro f
  induction f with
  | zero =>
    intro x6 x7 M h
    cases h
  | succ f ih =>
    intro x6 x7 M h
    rw [l_X9_readItems_2_6] at h
    refine gs_iload (pc := 6) C 7 dX9_readItems_6 rfl ?_
    refine gs_aload_n (pc := 8) C 1 dX9_readItems_8 rfl rfl ?_
    refine gs_strlen (pc := 9) C 0 (by decide) dX9_readItems_9 ml_X9_84 (by decide) (Nat.le_of_ble_eq_true rfl) ?_
    refine gs_icmp_ge (pc := 12) C 91 dX9_readItems_12 rfl (fun c1 => ?_) (fun c1 => ?_)
    · replace h := gs_ift c1 h
      refine gs_aload_n (pc := 91) C 0 dX9_readItems_91 rfl rfl ?_
      obtain ⟨v2, M3, e4, h⟩ := gs_o2 h
      refine gs_callSi (pc := 92) C [.ref 1] dX9_readItems_92 ml_X9_93 wy_X9_endsClause (a_X9_endsClause _ e4) (by decide) rfl (Nat.le_of_ble_eq_true rfl) rfl ?_
      obtain ⟨z1, e2, h⟩ := gs_o1 h
      obtain ⟨rfl, rfl⟩ := gs_i2 h
      exact gs_zret' (pc := 95) C dX9_readItems_95 e2 E
    · replace h := gs_iff c1 h
      refine gs_aload_n (pc := 15) C 0 dX9_readItems_15 rfl rfl ?_
      refine gs_aload_n (pc := 16) C 1 dX9_readItems_16 rfl rfl ?_
      obtain ⟨v5, M6, e7, h⟩ := gs_o2 h
      refine gs_callSi (pc := 17) C [.ref 1, .ref 1000] dX9_readItems_17 ml_X9_89 wy_X9_letterAt (a_X9_letterAt_2 _ e7) (by decide) rfl (Nat.le_of_ble_eq_true rfl) rfl ?_
      refine gs_istore (ls' := [(8, .int v5), (0, .ref 1), (1, .ref 1000), (2, .ref 1010), (3, .ref 1011), (4, .ref 7), (5, .int x5), (6, .int x6), (7, .int x7)]) (pc := 20) C dX9_readItems_20 (by decide) rfl ?_
      refine gs_iload (pc := 22) C 0 dX9_readItems_22 rfl ?_
      refine gs_iconst (w := (-1)) (pc := 24) C dX9_readItems_24 rfl ?_
      refine gs_icmp_eq (pc := 25) C 39 dX9_readItems_25 rfl (fun c8 => ?_) (fun c8 => ?_)
      · replace h := gs_ift c8 h
        refine gs_aload_n (pc := 39) C 1 dX9_readItems_39 rfl rfl ?_
        obtain ⟨v9, M10, e11, h⟩ := gs_o2 h
        refine gs_callSi (pc := 40) C [.ref 1] dX9_readItems_40 ml_X9_93 wy_X9_endsClause (a_X9_endsClause _ e11) (by decide) rfl (Nat.le_of_ble_eq_true rfl) rfl ?_
        obtain ⟨z3, e4, h⟩ := gs_o1 h
        obtain ⟨rfl, rfl⟩ := gs_i2 h
        exact gs_zret' (pc := 43) C dX9_readItems_43 e4 E
      · replace h := gs_iff c8 h
        refine gs_iload (pc := 28) C 7 dX9_readItems_28 rfl ?_
        refine gs_iload (pc := 30) C 0 dX9_readItems_30 rfl ?_
        refine gs_ishr (pc := 32) C dX9_readItems_32 ?_
        refine gs_iconst (w := 1) (pc := 33) C dX9_readItems_33 rfl ?_
        refine gs_iand (pc := 34) C dX9_readItems_34 ?_
        refine gs_iconst (w := 1) (pc := 35) C dX9_readItems_35 rfl ?_
        refine gs_icmp_ne (pc := 36) C 44 dX9_readItems_36 rfl (fun c12 => ?_) (fun c12 => ?_)
        · replace h := gs_iff c12 h
          refine gs_iload (pc := 44) C 7 dX9_readItems_44 rfl ?_
          refine gs_iconst (w := 1) (pc := 46) C dX9_readItems_46 rfl ?_
          refine gs_iload (pc := 47) C 0 dX9_readItems_47 rfl ?_
          refine gs_ishl (pc := 49) C dX9_readItems_49 ?_
          refine gs_ior (pc := 50) C dX9_readItems_50 ?_
          refine gs_istore (ls' := [(6, .int (x6 ||| ((1 : Int32) <<< (v5 &&& 31)))), (8, .int v5), (0, .ref 1), (1, .ref 1000), (2, .ref 1010), (3, .ref 1011), (4, .ref 7), (5, .int x5), (7, .int x7)]) (pc := 51) C dX9_readItems_51 (by decide) rfl ?_
          refine gs_aload_n (pc := 53) C 2 dX9_readItems_53 rfl rfl ?_
          refine gs_aload_n (pc := 54) C 4 dX9_readItems_54 rfl rfl ?_
          refine gs_iload (pc := 55) C 1 dX9_readItems_55 rfl ?_
          obtain ⟨v13, e14, h⟩ := gs_o1 h
          refine gs_ialdX (pc := 57) C 0 (by decide) dX9_readItems_57 e14 ?_
          refine gs_aload_n (pc := 58) C 5 dX9_readItems_58 rfl rfl ?_
          refine gs_iload (pc := 59) C 1 dX9_readItems_59 rfl ?_
          obtain ⟨v15, e16, h⟩ := gs_o1 h
          refine gs_ialdX (pc := 61) C 1 (by decide) dX9_readItems_61 e16 ?_
          obtain ⟨v17, M18, e19, h⟩ := gs_o2 h
          refine gs_callSi (pc := 62) C [.ref 1, .int v13, .int v15] dX9_readItems_62 ml_X9_96 wy_X9_readItem (a_X9_readItem _ e19) (by decide) rfl (Nat.le_of_ble_eq_true rfl) rfl ?_
          refine gs_istore (ls' := [(9, .int v17), (6, .int (x6 ||| ((1 : Int32) <<< (v5 &&& 31)))), (8, .int v5), (0, .ref 1), (1, .ref 1000), (2, .ref 1010), (3, .ref 1011), (4, .ref 7), (5, .int x5), (7, .int x7)]) (pc := 65) C dX9_readItems_65 (by decide) rfl ?_
          refine gs_iload (pc := 67) C 0 dX9_readItems_67 rfl ?_
          refine gs_iconst (w := (-1)) (pc := 69) C dX9_readItems_69 rfl ?_
          refine gs_icmp_ne (pc := 70) C 75 dX9_readItems_70 rfl (fun c20 => ?_) (fun c20 => ?_)
          · replace h := gs_iff c20 h
            refine gs_aload (pc := 75) C 7 dX9_readItems_75 rfl ?_
            refine gs_iload (pc := 77) C 8 dX9_readItems_77 rfl ?_
            refine gs_iload (pc := 79) C 2 dX9_readItems_79 rfl ?_
            refine gs_iadd (pc := 81) C dX9_readItems_81 ?_
            refine gs_iload (pc := 82) C 0 dX9_readItems_82 rfl ?_
            obtain ⟨M22, e21, h⟩ := gs_o1 h
            refine gs_iast (pc := 84) C dX9_readItems_84 sh_7 e21 ?_
            refine gs_iinc (v := x7 + (1 : Int32)) (ls' := [(7, .int (x7 + (1 : Int32))), (9, .int v17), (6, .int (x6 ||| ((1 : Int32) <<< (v5 &&& 31)))), (8, .int v5), (0, .ref 1), (1, .ref 1000), (2, .ref 1010), (3, .ref 1011), (4, .ref 7), (5, .int x5)]) (pc := 85) C 9 dX9_readItems_85 rfl rfl (by decide) rfl ?_
            refine gs_goto (pc := 88) C 6 dX9_readItems_88 rfl ?_
            exact gs_sub [4, 5, 6, 7, 8, 9, 2, 0] rfl (ih _ _ _ h)
          · replace h := gs_ift c20 h
            refine gs_iconst (w := 0) (pc := 73) C dX9_readItems_73 rfl ?_
            obtain ⟨rfl, rfl⟩ := gs_i2 h
            exact gs_zret (pc := 74) C (by decide) dX9_readItems_74 E
        · replace h := gs_ift c12 h
          refine gs_aload_n (pc := 39) C 1 dX9_readItems_39 rfl rfl ?_
          obtain ⟨v23, M24, e25, h⟩ := gs_o2 h
          refine gs_callSi (pc := 40) C [.ref 1] dX9_readItems_40 ml_X9_93 wy_X9_endsClause (a_X9_endsClause _ e25) (by decide) rfl (Nat.le_of_ble_eq_true rfl) rfl ?_
          obtain ⟨z5, e6, h⟩ := gs_o1 h
          obtain ⟨rfl, rfl⟩ := gs_i2 h
          exact gs_zret' (pc := 43) C dX9_readItems_43 e6 E
set_option maxRecDepth 100000 in
set_option maxHeartbeats 4000000 in
theorem a_X9_readItems_2 (l : Launch) {M : gs_M} {L : gs_L} {x5 : Int32} {rv : Int32} {Mz : gs_M} (h : f_X9_readItems_2 M x5 = some (rv, Mz)) : gs_Met l 10 yX9_readItems cX9_readItems 10 (some .boolean) [.ref 1, .ref 1000, .ref 1010, .ref 1011, .ref 7, .int x5] M L (some (.int rv)) Mz L := by
  unfold f_X9_readItems_2 at h
  refine gs_of RX9 (by decide) rfl (Nat.le_of_ble_eq_true rfl) (fun X C E => ?_)
  show gs_AW X 0 [(0, .ref 1), (1, .ref 1000), (2, .ref 1010), (3, .ref 1011), (4, .ref 7), (5, .int x5)] [] M L
  refine gs_iconst (w := 0) (pc := 0) C dX9_readItems_0 rfl ?_
  refine gs_istore (ls' := [(6, .int (0 : Int32)), (0, .ref 1), (1, .ref 1000), (2, .ref 1010), (3, .ref 1011), (4, .ref 7), (5, .int x5)]) (pc := 1) C dX9_readItems_1 (by decide) rfl ?_
  refine gs_iconst (w := 0) (pc := 3) C dX9_readItems_3 rfl ?_
  refine gs_istore (ls' := [(7, .int (0 : Int32)), (6, .int (0 : Int32)), (0, .ref 1), (1, .ref 1000), (2, .ref 1010), (3, .ref 1011), (4, .ref 7), (5, .int x5)]) (pc := 4) C dX9_readItems_4 (by decide) rfl ?_
  exact gs_sub [2, 3, 4, 5, 6, 7, 1, 0] rfl (t_X9_readItems_2_6 C E gs_FU _ _ _ h)
set_option maxRecDepth 100000 in
set_option maxHeartbeats 4000000 in
theorem a_X9_readClause (l : Launch) {M : gs_M} {L : gs_L} {rv : Int32} {Mz : gs_M} (h : f_X9_readClause M = some (rv, Mz)) : gs_Met l 11 yX9_readClause cX9_readClause 4 (some .boolean) [.ref 6, .ref 1] M L (some (.int rv)) Mz L := by
  unfold f_X9_readClause at h
  refine gs_of RX9 (by decide) rfl (Nat.le_of_ble_eq_true rfl) (fun X C E => ?_)
  show gs_AW X 0 [(0, .ref 6), (1, .ref 1)] [] M L
  refine gs_aload_n (pc := 0) C 1 dX9_readClause_0 rfl rfl ?_
  obtain ⟨v1, M2, e3, h⟩ := gs_o2 h
  refine gs_callVi (pc := 1) C [] dX9_readClause_1 ml_X9_44 wy_X7_look (a_X7_look _ e3) (by decide) sh_1 (by decide) rfl rfl (Nat.le_of_ble_eq_true rfl) rfl ?_
  refine gs_istore_n (ls' := [(2, .int v1), (0, .ref 6), (1, .ref 1)]) (pc := 4) C dX9_readClause_4 rfl (by decide) rfl ?_
  refine gs_iload_n (pc := 5) C 0 dX9_readClause_5 rfl rfl ?_
  refine gs_bipush (w := 115) (pc := 6) C dX9_readClause_6 rfl ?_
  refine gs_icmp_ne (pc := 8) C 45 dX9_readClause_8 rfl (fun c4 => ?_) (fun c4 => ?_)
  · replace h := gs_iff c4 h
    refine gs_iload_n (pc := 45) C 0 dX9_readClause_45 rfl rfl ?_
    refine gs_bipush (w := 112) (pc := 46) C dX9_readClause_46 rfl ?_
    refine gs_icmp_ne (pc := 48) C 112 dX9_readClause_48 rfl (fun c5 => ?_) (fun c5 => ?_)
    · replace h := gs_iff c5 h
      refine gs_aload_n (pc := 112) C 2 dX9_readClause_112 rfl rfl ?_
      obtain ⟨v6, M7, e8, h⟩ := gs_o2 h
      refine gs_callVi (pc := 113) C [] dX9_readClause_113 ml_X9_55 wy_X7_fail (a_X7_fail _ e8) (by decide) sh_1 (by decide) rfl rfl (Nat.le_of_ble_eq_true rfl) rfl ?_
      obtain ⟨z9, e10, h⟩ := gs_o1 h
      obtain ⟨rfl, rfl⟩ := gs_i2 h
      exact gs_zret' (pc := 116) C dX9_readClause_116 e10 E
    · replace h := gs_ift c5 h
      refine gs_aload_n (pc := 51) C 1 dX9_readClause_51 rfl rfl ?_
      refine gs_geti (pc := 52) C dX9_readClause_52 gk_9 fl_X9_18 sh_6 rfl ?_
      refine gs_bipush (w := 8) (pc := 55) C dX9_readClause_55 rfl ?_
      refine gs_icmp_ge (pc := 57) C 112 dX9_readClause_57 rfl (fun c11 => ?_) (fun c11 => ?_)
      · replace h := gs_ift c11 h
        refine gs_aload_n (pc := 112) C 2 dX9_readClause_112 rfl rfl ?_
        obtain ⟨v12, M13, e14, h⟩ := gs_o2 h
        refine gs_callVi (pc := 113) C [] dX9_readClause_113 ml_X9_55 wy_X7_fail (a_X7_fail _ e14) (by decide) sh_1 (by decide) rfl rfl (Nat.le_of_ble_eq_true rfl) rfl ?_
        obtain ⟨z15, e16, h⟩ := gs_o1 h
        obtain ⟨rfl, rfl⟩ := gs_i2 h
        exact gs_zret' (pc := 116) C dX9_readClause_116 e16 E
      · replace h := gs_iff c11 h
        refine gs_aload_n (pc := 60) C 2 dX9_readClause_60 rfl rfl ?_
        obtain ⟨M17, e18, h⟩ := gs_o1 h
        refine gs_callVv (pc := 61) C [] dX9_readClause_61 ml_X9_48 wy_X7_step (a_X7_step _ e18) (by decide) sh_1 (by decide) rfl rfl (Nat.le_of_ble_eq_true rfl) rfl ?_
        refine gs_aload_n (pc := 64) C 1 dX9_readClause_64 rfl rfl ?_
        refine gs_geti (pc := 65) C dX9_readClause_65 gk_9 fl_X9_18 sh_6 rfl ?_
        refine gs_iconst (w := 5) (pc := 68) C dX9_readClause_68 rfl ?_
        refine gs_imul (pc := 69) C dX9_readClause_69 ?_
        refine gs_istore_n (ls' := [(3, .int ((M17 6 2) * (5 : Int32))), (2, .int v1), (0, .ref 6), (1, .ref 1)]) (pc := 70) C dX9_readClause_70 rfl (by decide) rfl ?_
        refine gs_aload_n (pc := 71) C 2 dX9_readClause_71 rfl rfl ?_
        refine gs_dup (pc := 72) C dX9_readClause_72 rfl ?_
        refine gs_geti (pc := 73) C dX9_readClause_73 gk_9 fl_X9_18 sh_6 rfl ?_
        refine gs_iconst (w := 1) (pc := 76) C dX9_readClause_76 rfl ?_
        refine gs_iadd (pc := 77) C dX9_readClause_77 ?_
        obtain ⟨M20, e19, h⟩ := gs_o1 h
        refine gs_puti' (pc := 78) C dX9_readClause_78 gk_9 fp_X9_18 sh_6 rfl e19 ?_
        refine gs_gets (pc := 81) C 5 (by decide) dX9_readClause_81 gw_st_73 ?_
        refine gs_iconst (w := 0) (pc := 84) C dX9_readClause_84 rfl ?_
        refine gs_aload_n (pc := 85) C 2 dX9_readClause_85 rfl rfl ?_
        refine gs_getq (pc := 86) C dX9_readClause_86 gk_9 fl_X9_15 sh_6 rfl ?_
        refine gs_iload_n (pc := 89) C 0 dX9_readClause_89 rfl rfl ?_
        refine gs_iconst (w := 5) (pc := 90) C dX9_readClause_90 rfl ?_
        obtain ⟨M22, e21, h⟩ := gs_o1 h
        refine gs_acpyX (pc := 91) C 5 (by decide) dX9_readClause_91 ml_X9_22 sh_8 (Nat.le_of_ble_eq_true rfl) e21 ?_
        refine gs_aload_n (pc := 94) C 3 dX9_readClause_94 rfl rfl ?_
        refine gs_ldcS (pc := 95) C (q := 1001) (tx := "gcwtm") dX9_readClause_95 (by decide) ?_
        refine gs_gets (pc := 97) C 3 (by decide) dX9_readClause_97 gw_st_78 ?_
        refine gs_gets (pc := 100) C 4 (by decide) dX9_readClause_100 gw_st_81 ?_
        refine gs_aload_n (pc := 103) C 2 dX9_readClause_103 rfl rfl ?_
        refine gs_getq (pc := 104) C dX9_readClause_104 gk_9 fl_X9_15 sh_6 rfl ?_
        refine gs_iload_n (pc := 107) C 0 dX9_readClause_107 rfl rfl ?_
        obtain ⟨v23, M24, e25, h⟩ := gs_o2 h
        refine gs_callSi (pc := 108) C [.ref 1, .ref 1001, .ref 1013, .ref 1014, .ref 8, .int ((M17 6 2) * (5 : Int32))] dX9_readClause_108 ml_X9_69 wy_X9_readItems (a_X9_readItems _ e25) (by decide) rfl (Nat.le_of_ble_eq_true rfl) rfl ?_
        obtain ⟨z26, e27, h⟩ := gs_o1 h
        obtain ⟨rfl, rfl⟩ := gs_i2 h
        exact gs_zret' (pc := 111) C dX9_readClause_111 e27 E
  · replace h := gs_ift c4 h
    refine gs_aload_n (pc := 11) C 1 dX9_readClause_11 rfl rfl ?_
    refine gs_geti (pc := 12) C dX9_readClause_12 gk_9 fl_X9_33 sh_6 rfl ?_
    refine gs_if_ne (pc := 15) C 45 dX9_readClause_15 rfl (fun c28 => ?_) (fun c28 => ?_)
    · replace h := gs_iff c28 h
      refine gs_iload_n (pc := 45) C 0 dX9_readClause_45 rfl rfl ?_
      refine gs_bipush (w := 112) (pc := 46) C dX9_readClause_46 rfl ?_
      refine gs_icmp_ne (pc := 48) C 112 dX9_readClause_48 rfl (fun c29 => ?_) (fun c29 => ?_)
      · replace h := gs_iff c29 h
        refine gs_aload_n (pc := 112) C 2 dX9_readClause_112 rfl rfl ?_
        obtain ⟨v30, M31, e32, h⟩ := gs_o2 h
        refine gs_callVi (pc := 113) C [] dX9_readClause_113 ml_X9_55 wy_X7_fail (a_X7_fail _ e32) (by decide) sh_1 (by decide) rfl rfl (Nat.le_of_ble_eq_true rfl) rfl ?_
        obtain ⟨z33, e34, h⟩ := gs_o1 h
        obtain ⟨rfl, rfl⟩ := gs_i2 h
        exact gs_zret' (pc := 116) C dX9_readClause_116 e34 E
      · replace h := gs_ift c29 h
        refine gs_aload_n (pc := 51) C 1 dX9_readClause_51 rfl rfl ?_
        refine gs_geti (pc := 52) C dX9_readClause_52 gk_9 fl_X9_18 sh_6 rfl ?_
        refine gs_bipush (w := 8) (pc := 55) C dX9_readClause_55 rfl ?_
        refine gs_icmp_ge (pc := 57) C 112 dX9_readClause_57 rfl (fun c35 => ?_) (fun c35 => ?_)
        · replace h := gs_ift c35 h
          refine gs_aload_n (pc := 112) C 2 dX9_readClause_112 rfl rfl ?_
          obtain ⟨v36, M37, e38, h⟩ := gs_o2 h
          refine gs_callVi (pc := 113) C [] dX9_readClause_113 ml_X9_55 wy_X7_fail (a_X7_fail _ e38) (by decide) sh_1 (by decide) rfl rfl (Nat.le_of_ble_eq_true rfl) rfl ?_
          obtain ⟨z39, e40, h⟩ := gs_o1 h
          obtain ⟨rfl, rfl⟩ := gs_i2 h
          exact gs_zret' (pc := 116) C dX9_readClause_116 e40 E
        · replace h := gs_iff c35 h
          refine gs_aload_n (pc := 60) C 2 dX9_readClause_60 rfl rfl ?_
          obtain ⟨M41, e42, h⟩ := gs_o1 h
          refine gs_callVv (pc := 61) C [] dX9_readClause_61 ml_X9_48 wy_X7_step (a_X7_step _ e42) (by decide) sh_1 (by decide) rfl rfl (Nat.le_of_ble_eq_true rfl) rfl ?_
          refine gs_aload_n (pc := 64) C 1 dX9_readClause_64 rfl rfl ?_
          refine gs_geti (pc := 65) C dX9_readClause_65 gk_9 fl_X9_18 sh_6 rfl ?_
          refine gs_iconst (w := 5) (pc := 68) C dX9_readClause_68 rfl ?_
          refine gs_imul (pc := 69) C dX9_readClause_69 ?_
          refine gs_istore_n (ls' := [(3, .int ((M41 6 2) * (5 : Int32))), (2, .int v1), (0, .ref 6), (1, .ref 1)]) (pc := 70) C dX9_readClause_70 rfl (by decide) rfl ?_
          refine gs_aload_n (pc := 71) C 2 dX9_readClause_71 rfl rfl ?_
          refine gs_dup (pc := 72) C dX9_readClause_72 rfl ?_
          refine gs_geti (pc := 73) C dX9_readClause_73 gk_9 fl_X9_18 sh_6 rfl ?_
          refine gs_iconst (w := 1) (pc := 76) C dX9_readClause_76 rfl ?_
          refine gs_iadd (pc := 77) C dX9_readClause_77 ?_
          obtain ⟨M44, e43, h⟩ := gs_o1 h
          refine gs_puti' (pc := 78) C dX9_readClause_78 gk_9 fp_X9_18 sh_6 rfl e43 ?_
          refine gs_gets (pc := 81) C 5 (by decide) dX9_readClause_81 gw_st_73 ?_
          refine gs_iconst (w := 0) (pc := 84) C dX9_readClause_84 rfl ?_
          refine gs_aload_n (pc := 85) C 2 dX9_readClause_85 rfl rfl ?_
          refine gs_getq (pc := 86) C dX9_readClause_86 gk_9 fl_X9_15 sh_6 rfl ?_
          refine gs_iload_n (pc := 89) C 0 dX9_readClause_89 rfl rfl ?_
          refine gs_iconst (w := 5) (pc := 90) C dX9_readClause_90 rfl ?_
          obtain ⟨M46, e45, h⟩ := gs_o1 h
          refine gs_acpyX (pc := 91) C 5 (by decide) dX9_readClause_91 ml_X9_22 sh_8 (Nat.le_of_ble_eq_true rfl) e45 ?_
          refine gs_aload_n (pc := 94) C 3 dX9_readClause_94 rfl rfl ?_
          refine gs_ldcS (pc := 95) C (q := 1001) (tx := "gcwtm") dX9_readClause_95 (by decide) ?_
          refine gs_gets (pc := 97) C 3 (by decide) dX9_readClause_97 gw_st_78 ?_
          refine gs_gets (pc := 100) C 4 (by decide) dX9_readClause_100 gw_st_81 ?_
          refine gs_aload_n (pc := 103) C 2 dX9_readClause_103 rfl rfl ?_
          refine gs_getq (pc := 104) C dX9_readClause_104 gk_9 fl_X9_15 sh_6 rfl ?_
          refine gs_iload_n (pc := 107) C 0 dX9_readClause_107 rfl rfl ?_
          obtain ⟨v47, M48, e49, h⟩ := gs_o2 h
          refine gs_callSi (pc := 108) C [.ref 1, .ref 1001, .ref 1013, .ref 1014, .ref 8, .int ((M41 6 2) * (5 : Int32))] dX9_readClause_108 ml_X9_69 wy_X9_readItems (a_X9_readItems _ e49) (by decide) rfl (Nat.le_of_ble_eq_true rfl) rfl ?_
          obtain ⟨z50, e51, h⟩ := gs_o1 h
          obtain ⟨rfl, rfl⟩ := gs_i2 h
          exact gs_zret' (pc := 111) C dX9_readClause_111 e51 E
    · replace h := gs_ift c28 h
      refine gs_aload_n (pc := 18) C 2 dX9_readClause_18 rfl rfl ?_
      obtain ⟨M52, e53, h⟩ := gs_o1 h
      refine gs_callVv (pc := 19) C [] dX9_readClause_19 ml_X9_48 wy_X7_step (a_X7_step _ e53) (by decide) sh_1 (by decide) rfl rfl (Nat.le_of_ble_eq_true rfl) rfl ?_
      refine gs_aload_n (pc := 22) C 1 dX9_readClause_22 rfl rfl ?_
      refine gs_iconst (w := 1) (pc := 23) C dX9_readClause_23 rfl ?_
      obtain ⟨M55, e54, h⟩ := gs_o1 h
      refine gs_putz' (pc := 24) C dX9_readClause_24 gk_9 fp_X9_33 sh_6 rfl (by decide) e54 ?_
      refine gs_aload_n (pc := 27) C 2 dX9_readClause_27 rfl rfl ?_
      refine gs_ldcS (pc := 28) C (q := 1000) (tx := "hkc") dX9_readClause_28 (by decide) ?_
      refine gs_gets (pc := 30) C 0 (by decide) dX9_readClause_30 gw_st_63 ?_
      refine gs_gets (pc := 33) C 1 (by decide) dX9_readClause_33 gw_st_66 ?_
      refine gs_aload_n (pc := 36) C 1 dX9_readClause_36 rfl rfl ?_
      refine gs_getq (pc := 37) C dX9_readClause_37 gk_9 fl_X9_11 sh_6 rfl ?_
      refine gs_iconst (w := 0) (pc := 40) C dX9_readClause_40 rfl ?_
      obtain ⟨v56, M57, e58, h⟩ := gs_o2 h
      refine gs_callSi (pc := 41) C [.ref 1, .ref 1000, .ref 1010, .ref 1011, .ref 7, .int (0 : Int32)] dX9_readClause_41 ml_X9_69 wy_X9_readItems (a_X9_readItems_2 _ e58) (by decide) rfl (Nat.le_of_ble_eq_true rfl) rfl ?_
      obtain ⟨z59, e60, h⟩ := gs_o1 h
      obtain ⟨rfl, rfl⟩ := gs_i2 h
      exact gs_zret' (pc := 44) C dX9_readClause_44 e60 E
set_option maxRecDepth 100000 in
set_option maxHeartbeats 4000000 in
theorem t_X9_couplesAgree_2 {X : gs_X} (C : gs_C X RX9 cX9_couplesAgree 3 (some .boolean) 0) {M : gs_M} {L : gs_L} {rv : Int32} (E : gs_E X (some (.int rv)) M L) : ∀ (f : Nat) (x1 : Int32), l_X9_couplesAgree_2 M f x1 = some (rv) → gs_AW X 2 [(0, .ref 6), (1, .int x1)] [] M L := by
  intro f
  induction f with
  | zero =>
    intro x1 h
    cases h
  | succ f ih =>
    intro x1 h
    rw [l_X9_couplesAgree_2] at h
    refine gs_iload_n (pc := 2) C 1 dX9_couplesAgree_2 rfl rfl ?_
    refine gs_aload_n (pc := 3) C 0 dX9_couplesAgree_3 rfl rfl ?_
    refine gs_geti (pc := 4) C dX9_couplesAgree_4 gk_9 fl_X9_18 sh_6 rfl ?_
    refine gs_icmp_ge (pc := 7) C 62 dX9_couplesAgree_7 rfl (fun c1 => ?_) (fun c1 => ?_)
    · replace h := gs_ift c1 h
      refine gs_iconst (w := 1) (pc := 62) C dX9_couplesAgree_62 rfl ?_
      obtain rfl := gs_i1 h
      exact gs_zret (pc := 63) C (by decide) dX9_couplesAgree_63 E
    · replace h := gs_iff c1 h
      refine gs_aload_n (pc := 10) C 0 dX9_couplesAgree_10 rfl rfl ?_
      refine gs_getq (pc := 11) C dX9_couplesAgree_11 gk_9 fl_X9_15 sh_6 rfl ?_
      refine gs_iload_n (pc := 14) C 1 dX9_couplesAgree_14 rfl rfl ?_
      refine gs_iconst (w := 5) (pc := 15) C dX9_couplesAgree_15 rfl ?_
      refine gs_imul (pc := 16) C dX9_couplesAgree_16 ?_
      refine gs_iconst (w := 4) (pc := 17) C dX9_couplesAgree_17 rfl ?_
      refine gs_iadd (pc := 18) C dX9_couplesAgree_18 ?_
      obtain ⟨v2, e3, h⟩ := gs_o1 h
      refine gs_iald (pc := 19) C dX9_couplesAgree_19 sh_8 e3 ?_
      refine gs_istore_n (ls' := [(2, .int v2), (0, .ref 6), (1, .int x1)]) (pc := 20) C dX9_couplesAgree_20 rfl (by decide) rfl ?_
      refine gs_iload_n (pc := 21) C 0 dX9_couplesAgree_21 rfl rfl ?_
      refine gs_bipush (w := 8) (pc := 22) C dX9_couplesAgree_22 rfl ?_
      refine gs_icmp_eq (pc := 24) C 56 dX9_couplesAgree_24 rfl (fun c4 => ?_) (fun c4 => ?_)
      · replace h := gs_ift c4 h
        refine gs_iinc (v := x1 + (1 : Int32)) (ls' := [(1, .int (x1 + (1 : Int32))), (2, .int v2), (0, .ref 6)]) (pc := 56) C 2 dX9_couplesAgree_56 rfl rfl (by decide) rfl ?_
        refine gs_goto (pc := 59) C 2 dX9_couplesAgree_59 rfl ?_
        exact gs_sub [2, 0] rfl (ih _ h)
      · replace h := gs_iff c4 h
        refine gs_iload_n (pc := 27) C 0 dX9_couplesAgree_27 rfl rfl ?_
        refine gs_iload_n (pc := 28) C 2 dX9_couplesAgree_28 rfl rfl ?_
        refine gs_icmp_eq (pc := 29) C 54 dX9_couplesAgree_29 rfl (fun c5 => ?_) (fun c5 => ?_)
        · replace h := gs_ift c5 h
          refine gs_iconst (w := 0) (pc := 54) C dX9_couplesAgree_54 rfl ?_
          obtain rfl := gs_i1 h
          exact gs_zret (pc := 55) C (by decide) dX9_couplesAgree_55 E
        · replace h := gs_iff c5 h
          refine gs_iload_n (pc := 32) C 0 dX9_couplesAgree_32 rfl rfl ?_
          refine gs_aload_n (pc := 33) C 1 dX9_couplesAgree_33 rfl rfl ?_
          refine gs_geti (pc := 34) C dX9_couplesAgree_34 gk_9 fl_X9_18 sh_6 rfl ?_
          refine gs_icmp_ge (pc := 37) C 54 dX9_couplesAgree_37 rfl (fun c6 => ?_) (fun c6 => ?_)
          · replace h := gs_ift c6 h
            refine gs_iconst (w := 0) (pc := 54) C dX9_couplesAgree_54 rfl ?_
            obtain rfl := gs_i1 h
            exact gs_zret (pc := 55) C (by decide) dX9_couplesAgree_55 E
          · replace h := gs_iff c6 h
            refine gs_aload_n (pc := 40) C 1 dX9_couplesAgree_40 rfl rfl ?_
            refine gs_getq (pc := 41) C dX9_couplesAgree_41 gk_9 fl_X9_15 sh_6 rfl ?_
            refine gs_iload_n (pc := 44) C 0 dX9_couplesAgree_44 rfl rfl ?_
            refine gs_iconst (w := 5) (pc := 45) C dX9_couplesAgree_45 rfl ?_
            refine gs_imul (pc := 46) C dX9_couplesAgree_46 ?_
            refine gs_iconst (w := 4) (pc := 47) C dX9_couplesAgree_47 rfl ?_
            refine gs_iadd (pc := 48) C dX9_couplesAgree_48 ?_
            obtain ⟨v7, e8, h⟩ := gs_o1 h
            refine gs_iald (pc := 49) C dX9_couplesAgree_49 sh_8 e8 ?_
            refine gs_iload_n (pc := 50) C 2 dX9_couplesAgree_50 rfl rfl ?_
            refine gs_icmp_eq (pc := 51) C 56 dX9_couplesAgree_51 rfl (fun c9 => ?_) (fun c9 => ?_)
            · replace h := gs_ift c9 h
              refine gs_iinc (v := x1 + (1 : Int32)) (ls' := [(1, .int (x1 + (1 : Int32))), (2, .int v2), (0, .ref 6)]) (pc := 56) C 2 dX9_couplesAgree_56 rfl rfl (by decide) rfl ?_
              refine gs_goto (pc := 59) C 2 dX9_couplesAgree_59 rfl ?_
              exact gs_sub [2, 0] rfl (ih _ h)
            · replace h := gs_iff c9 h
              refine gs_iconst (w := 0) (pc := 54) C dX9_couplesAgree_54 rfl ?_
              obtain rfl := gs_i1 h
              exact gs_zret (pc := 55) C (by decide) dX9_couplesAgree_55 E
set_option maxRecDepth 100000 in
set_option maxHeartbeats 4000000 in
theorem a_X9_couplesAgree (l : Launch) {M : gs_M} {L : gs_L} {rv : Int32} (h : f_X9_couplesAgree M = some (rv)) : gs_Met l 0 yX9_couplesAgree cX9_couplesAgree 3 (some .boolean) [.ref 6] M L (some (.int rv)) M L := by
  unfold f_X9_couplesAgree at h
  refine gs_of RX9 (by decide) rfl (Nat.le_of_ble_eq_true rfl) (fun X C E => ?_)
  show gs_AW X 0 [(0, .ref 6)] [] M L
  refine gs_iconst (w := 0) (pc := 0) C dX9_couplesAgree_0 rfl ?_
  refine gs_istore_n (ls' := [(1, .int (0 : Int32)), (0, .ref 6)]) (pc := 1) C dX9_couplesAgree_1 rfl (by decide) rfl ?_
  exact gs_sub [1, 0] rfl (t_X9_couplesAgree_2 C E gs_FU _ h)
set_option maxRecDepth 100000 in
set_option maxHeartbeats 4000000 in
theorem a_X7_firstFault (l : Launch) {M : gs_M} {L : gs_L} {rv : Int32} (h : f_X7_firstFault M = some (rv)) : gs_Met l 0 yX7_firstFault cX7_firstFault 1 (some .int) [.ref 1] M L (some (.int rv)) M L := by
  unfold f_X7_firstFault at h
  refine gs_of RX7 (by decide) rfl (Nat.le_of_ble_eq_true rfl) (fun X C E => ?_)
  show gs_AW X 0 [(0, .ref 1)] [] M L
  refine gs_aload_n (pc := 0) C 0 dX7_firstFault_0 rfl rfl ?_
  refine gs_geti (pc := 1) C dX7_firstFault_1 gk_7 fl_X7_22 sh_1 rfl ?_
  obtain rfl := gs_i1 h
  exact gs_iret (pc := 4) C dX7_firstFault_4 E
set_option maxRecDepth 100000 in
set_option maxHeartbeats 4000000 in
theorem t_X9_read_35 {X : gs_X} (C : gs_C X RX9 cX9_read 4 (some .int) 12) {L : gs_L} {o2 : Int32} {o3 : Int32} {M' : gs_M} (k : gs_AW X 71 [(0, .ref 6), (1, .ref 1), (2, .int o2), (3, .int o3)] [] M' L) : ∀ (f : Nat) (x2 : Int32) (x3 : Int32) (M : gs_M), l_X9_read_35  f x2 x3 M = some (o2, o3, M') → gs_AW X 35 [(0, .ref 6), (1, .ref 1), (2, .int x2), (3, .int x3)] [] M L := by
  intro f
  induction f with
  | zero =>
    intro x2 x3 M h
    cases h
  | succ f ih =>
    intro x2 x3 M h
    rw [l_X9_read_35] at h
    refine gs_iload_n (pc := 35) C 3 dX9_read_35 rfl rfl ?_
    refine gs_sipush (w := 240) (pc := 36) C dX9_read_36 rfl ?_
    refine gs_icmp_ge (pc := 39) C 71 dX9_read_39 rfl (fun c1 => ?_) (fun c1 => ?_)
    · replace h := gs_ift c1 h
      obtain ⟨rfl, rfl, rfl⟩ := gs_i3 h
      exact k
    · replace h := gs_iff c1 h
      refine gs_iload_n (pc := 42) C 2 dX9_read_42 rfl rfl ?_
      refine gs_if_eq (pc := 43) C 71 dX9_read_43 rfl (fun c2 => ?_) (fun c2 => ?_)
      · replace h := gs_ift c2 h
        obtain ⟨rfl, rfl, rfl⟩ := gs_i3 h
        exact k
      · replace h := gs_iff c2 h
        refine gs_aload_n (pc := 46) C 1 dX9_read_46 rfl rfl ?_
        obtain ⟨v3, M4, e5, h⟩ := gs_o2 h
        refine gs_callVi (pc := 47) C [] dX9_read_47 ml_X9_44 wy_X7_look (a_X7_look _ e5) (by decide) sh_1 (by decide) rfl rfl (Nat.le_of_ble_eq_true rfl) rfl ?_
        refine gs_bipush (w := 59) (pc := 50) C dX9_read_50 rfl ?_
        refine gs_icmp_ne (pc := 52) C 71 dX9_read_52 rfl (fun c6 => ?_) (fun c6 => ?_)
        · replace h := gs_iff c6 h
          obtain ⟨rfl, rfl, rfl⟩ := gs_i3 h
          exact k
        · replace h := gs_ift c6 h
          refine gs_aload_n (pc := 55) C 1 dX9_read_55 rfl rfl ?_
          obtain ⟨M7, e8, h⟩ := gs_o1 h
          refine gs_callVv (pc := 56) C [] dX9_read_56 ml_X9_48 wy_X7_step (a_X7_step _ e8) (by decide) sh_1 (by decide) rfl rfl (Nat.le_of_ble_eq_true rfl) rfl ?_
          refine gs_aload_n (pc := 59) C 0 dX9_read_59 rfl rfl ?_
          refine gs_aload_n (pc := 60) C 1 dX9_read_60 rfl rfl ?_
          obtain ⟨v9, M10, e11, h⟩ := gs_o2 h
          refine gs_callVi (pc := 61) C [.ref 1] dX9_read_61 ml_X9_40 wy_X9_readClause (a_X9_readClause _ e11) (by decide) sh_6 (by decide) rfl rfl (Nat.le_of_ble_eq_true rfl) rfl ?_
          refine gs_istore_n (ls' := [(2, .int v9), (0, .ref 6), (1, .ref 1), (3, .int x3)]) (pc := 64) C dX9_read_64 rfl (by decide) rfl ?_
          refine gs_iinc (v := x3 + (1 : Int32)) (ls' := [(3, .int (x3 + (1 : Int32))), (2, .int v9), (0, .ref 6), (1, .ref 1)]) (pc := 65) C 3 dX9_read_65 rfl rfl (by decide) rfl ?_
          refine gs_goto (pc := 68) C 35 dX9_read_68 rfl ?_
          exact gs_sub [2, 3, 1, 0] rfl (ih _ _ _ h)
set_option maxRecDepth 100000 in
set_option maxHeartbeats 4000000 in
theorem a_X9_read (l : Launch) {M : gs_M} {L : gs_L} {rv : Int32} {Mz : gs_M} (h : f_X9_read M = some (rv, Mz)) : gs_Met l 12 yX9_read cX9_read 4 (some .int) [.ref 6, .ref 1] M L (some (.int rv)) Mz L := by
  unfold f_X9_read at h
  refine gs_of RX9 (by decide) rfl (Nat.le_of_ble_eq_true rfl) (fun X C E => ?_)
  show gs_AW X 0 [(0, .ref 6), (1, .ref 1)] [] M L
  refine gs_aload_n (pc := 0) C 1 dX9_read_0 rfl rfl ?_
  obtain ⟨M1, e2, h⟩ := gs_o1 h
  refine gs_callVv (pc := 1) C [] dX9_read_1 ml_X9_28 wy_X7_rewind (a_X7_rewind _ e2) (by decide) sh_1 (by decide) rfl rfl (Nat.le_of_ble_eq_true rfl) rfl ?_
  refine gs_aload_n (pc := 4) C 0 dX9_read_4 rfl rfl ?_
  refine gs_iconst (w := 0) (pc := 5) C dX9_read_5 rfl ?_
  obtain ⟨M4, e3, h⟩ := gs_o1 h
  refine gs_puti' (pc := 6) C dX9_read_6 gk_9 fp_X9_18 sh_6 rfl e3 ?_
  refine gs_aload_n (pc := 9) C 0 dX9_read_9 rfl rfl ?_
  refine gs_iconst (w := 0) (pc := 10) C dX9_read_10 rfl ?_
  obtain ⟨M6, e5, h⟩ := gs_o1 h
  refine gs_putz' (pc := 11) C dX9_read_11 gk_9 fp_X9_33 sh_6 rfl (by decide) e5 ?_
  refine gs_gets (pc := 14) C 2 (by decide) dX9_read_14 gw_st_37 ?_
  refine gs_iconst (w := 0) (pc := 17) C dX9_read_17 rfl ?_
  refine gs_aload_n (pc := 18) C 0 dX9_read_18 rfl rfl ?_
  refine gs_getq (pc := 19) C dX9_read_19 gk_9 fl_X9_11 sh_6 rfl ?_
  refine gs_iconst (w := 0) (pc := 22) C dX9_read_22 rfl ?_
  refine gs_iconst (w := 3) (pc := 23) C dX9_read_23 rfl ?_
  obtain ⟨M8, e7, h⟩ := gs_o1 h
  refine gs_acpyX (pc := 24) C 2 (by decide) dX9_read_24 ml_X9_22 sh_7 (Nat.le_of_ble_eq_true rfl) e7 ?_
  refine gs_aload_n (pc := 27) C 0 dX9_read_27 rfl rfl ?_
  refine gs_aload_n (pc := 28) C 1 dX9_read_28 rfl rfl ?_
  obtain ⟨v9, M10, e11, h⟩ := gs_o2 h
  refine gs_callVi (pc := 29) C [.ref 1] dX9_read_29 ml_X9_40 wy_X9_readClause (a_X9_readClause _ e11) (by decide) sh_6 (by decide) rfl rfl (Nat.le_of_ble_eq_true rfl) rfl ?_
  refine gs_istore_n (ls' := [(2, .int v9), (0, .ref 6), (1, .ref 1)]) (pc := 32) C dX9_read_32 rfl (by decide) rfl ?_
  refine gs_iconst (w := 0) (pc := 33) C dX9_read_33 rfl ?_
  refine gs_istore_n (ls' := [(3, .int (0 : Int32)), (2, .int v9), (0, .ref 6), (1, .ref 1)]) (pc := 34) C dX9_read_34 rfl (by decide) rfl ?_
  obtain ⟨y12, y13, M14, e15, h⟩ := gs_o3 h
  refine gs_sub [2, 3, 1, 0] rfl (t_X9_read_35 C ?_ gs_FU _ _ _ e15)
  refine gs_iload_n (pc := 71) C 2 dX9_read_71 rfl rfl ?_
  obtain ⟨M16, e17, h⟩ := gs_o1 h
  have j18 : gs_AW X 102 [(0, .ref 6), (1, .ref 1), (2, .int y12), (3, .int y13)] [] M16 L := by
    refine gs_aload_n (pc := 102) C 1 dX9_read_102 rfl rfl ?_
    obtain ⟨v37, e38, h⟩ := gs_o1 h
    refine gs_callVi (pc := 103) C [] dX9_read_103 ml_X9_58 wy_X7_firstFault (a_X7_firstFault _ e38) (by decide) sh_1 (by decide) rfl rfl (Nat.le_of_ble_eq_true rfl) rfl ?_
    obtain ⟨rfl, rfl⟩ := gs_i2 h
    exact gs_iret (pc := 106) C dX9_read_106 E
  refine gs_if_eq (pc := 72) C 102 dX9_read_72 rfl (fun c19 => ?_) (fun c19 => ?_)
  · replace e17 := gs_ift c19 e17
    obtain rfl := gs_i1 e17
    exact j18
  · replace e17 := gs_iff c19 e17
    refine gs_aload_n (pc := 75) C 1 dX9_read_75 rfl rfl ?_
    obtain ⟨v20, M21, e22, e17⟩ := gs_o2 e17
    refine gs_callVi (pc := 76) C [] dX9_read_76 ml_X9_44 wy_X7_look (a_X7_look _ e22) (by decide) sh_1 (by decide) rfl rfl (Nat.le_of_ble_eq_true rfl) rfl ?_
    refine gs_iconst (w := (-1)) (pc := 79) C dX9_read_79 rfl ?_
    refine gs_icmp_ne (pc := 80) C 97 dX9_read_80 rfl (fun c23 => ?_) (fun c23 => ?_)
    · replace e17 := gs_iff c23 e17
      refine gs_aload_n (pc := 97) C 1 dX9_read_97 rfl rfl ?_
      obtain ⟨v24, M25, e26, e17⟩ := gs_o2 e17
      refine gs_callVi (pc := 98) C [] dX9_read_98 ml_X9_55 wy_X7_fail (a_X7_fail _ e26) (by decide) sh_1 (by decide) rfl rfl (Nat.le_of_ble_eq_true rfl) rfl ?_
      refine gs_pop (pc := 101) C dX9_read_101 rfl ?_
      obtain rfl := gs_i1 e17
      exact j18
    · replace e17 := gs_ift c23 e17
      refine gs_aload_n (pc := 83) C 0 dX9_read_83 rfl rfl ?_
      refine gs_geti (pc := 84) C dX9_read_84 gk_9 fl_X9_18 sh_6 rfl ?_
      refine gs_if_eq (pc := 87) C 97 dX9_read_87 rfl (fun c27 => ?_) (fun c27 => ?_)
      · replace e17 := gs_ift c27 e17
        refine gs_aload_n (pc := 97) C 1 dX9_read_97 rfl rfl ?_
        obtain ⟨v28, M29, e30, e17⟩ := gs_o2 e17
        refine gs_callVi (pc := 98) C [] dX9_read_98 ml_X9_55 wy_X7_fail (a_X7_fail _ e30) (by decide) sh_1 (by decide) rfl rfl (Nat.le_of_ble_eq_true rfl) rfl ?_
        refine gs_pop (pc := 101) C dX9_read_101 rfl ?_
        obtain rfl := gs_i1 e17
        exact j18
      · replace e17 := gs_iff c27 e17
        refine gs_aload_n (pc := 90) C 0 dX9_read_90 rfl rfl ?_
        obtain ⟨v31, e32, e17⟩ := gs_o1 e17
        refine gs_callVi (pc := 91) C [] dX9_read_91 ml_X9_51 wy_X9_couplesAgree (a_X9_couplesAgree _ e32) (by decide) sh_6 (by decide) rfl rfl (Nat.le_of_ble_eq_true rfl) rfl ?_
        refine gs_if_ne (pc := 94) C 102 dX9_read_94 rfl (fun c33 => ?_) (fun c33 => ?_)
        · replace e17 := gs_iff c33 e17
          obtain rfl := gs_i1 e17
          exact j18
        · replace e17 := gs_ift c33 e17
          refine gs_aload_n (pc := 97) C 1 dX9_read_97 rfl rfl ?_
          obtain ⟨v34, M35, e36, e17⟩ := gs_o2 e17
          refine gs_callVi (pc := 98) C [] dX9_read_98 ml_X9_55 wy_X7_fail (a_X7_fail _ e36) (by decide) sh_1 (by decide) rfl rfl (Nat.le_of_ble_eq_true rfl) rfl ?_
          refine gs_pop (pc := 101) C dX9_read_101 rfl ?_
          obtain rfl := gs_i1 e17
          exact j18
set_option maxRecDepth 100000 in
set_option maxHeartbeats 4000000 in
theorem a_X2_clear (l : Launch) {M : gs_M} {L : gs_L} {r0 : Nat} {Mz : gs_M} (h_r0 : gs_law r0) (h : f_X2_clear M r0 = some (Mz)) : gs_Met l 0 yX2_clear cX2_clear 1 none [.ref r0] M L none Mz L := by
  unfold f_X2_clear at h
  refine gs_of RX2 (by decide) rfl (Nat.le_of_ble_eq_true rfl) (fun X C E => ?_)
  show gs_AW X 0 [(0, .ref r0)] [] M L
  refine gs_aload_n (pc := 0) C 0 dX2_clear_0 rfl rfl ?_
  refine gs_iconst (w := 0) (pc := 1) C dX2_clear_1 rfl ?_
  obtain ⟨M2, e1, h⟩ := gs_o1 h
  refine gs_puti' (pc := 2) C dX2_clear_2 gk_2 fp_X2_27 (gs_law_sh h_r0).1 rfl e1 ?_
  refine gs_aload_n (pc := 5) C 0 dX2_clear_5 rfl rfl ?_
  refine gs_iconst (w := 0) (pc := 6) C dX2_clear_6 rfl ?_
  obtain ⟨M4, e3, h⟩ := gs_o1 h
  refine gs_puti' (pc := 7) C dX2_clear_7 gk_2 fp_X2_31 (gs_law_sh h_r0).1 rfl e3 ?_
  obtain rfl := gs_i1 h
  exact gs_vret (pc := 10) C dX2_clear_10 E
set_option maxRecDepth 100000 in
set_option maxHeartbeats 4000000 in
theorem a_X7_take (l : Launch) {M : gs_M} {L : gs_L} {x1 : Int32} {rv : Int32} {Mz : gs_M} (h : f_X7_take M x1 = some (rv, Mz)) : gs_Met l 1 yX7_take cX7_take 2 (some .boolean) [.ref 1, .int x1] M L (some (.int rv)) Mz L := by
  unfold f_X7_take at h
  refine gs_of RX7 (by decide) rfl (Nat.le_of_ble_eq_true rfl) (fun X C E => ?_)
  show gs_AW X 0 [(0, .ref 1), (1, .int x1)] [] M L
  refine gs_aload_n (pc := 0) C 0 dX7_take_0 rfl rfl ?_
  obtain ⟨v1, M2, e3, h⟩ := gs_o2 h
  refine gs_callVi (pc := 1) C [] dX7_take_1 ml_X7_25 wy_X7_look (a_X7_look _ e3) (by decide) sh_1 (by decide) rfl rfl (Nat.le_of_ble_eq_true rfl) rfl ?_
  refine gs_iload_n (pc := 4) C 1 dX7_take_4 rfl rfl ?_
  refine gs_icmp_eq (pc := 5) C 13 dX7_take_5 rfl (fun c4 => ?_) (fun c4 => ?_)
  · replace h := gs_ift c4 h
    refine gs_aload_n (pc := 13) C 0 dX7_take_13 rfl rfl ?_
    obtain ⟨M5, e6, h⟩ := gs_o1 h
    refine gs_callVv (pc := 14) C [] dX7_take_14 ml_X7_33 wy_X7_step (a_X7_step _ e6) (by decide) sh_1 (by decide) rfl rfl (Nat.le_of_ble_eq_true rfl) rfl ?_
    refine gs_iconst (w := 1) (pc := 17) C dX7_take_17 rfl ?_
    obtain ⟨rfl, rfl⟩ := gs_i2 h
    exact gs_zret (pc := 18) C (by decide) dX7_take_18 E
  · replace h := gs_iff c4 h
    refine gs_aload_n (pc := 8) C 0 dX7_take_8 rfl rfl ?_
    obtain ⟨v7, M8, e9, h⟩ := gs_o2 h
    refine gs_callVi (pc := 9) C [] dX7_take_9 ml_X7_29 wy_X7_fail (a_X7_fail _ e9) (by decide) sh_1 (by decide) rfl rfl (Nat.le_of_ble_eq_true rfl) rfl ?_
    obtain ⟨z10, e11, h⟩ := gs_o1 h
    obtain ⟨rfl, rfl⟩ := gs_i2 h
    exact gs_zret' (pc := 12) C dX7_take_12 e11 E
set_option maxRecDepth 100000 in
set_option maxHeartbeats 4000000 in
theorem a_X2_open (l : Launch) {M : gs_M} {L : gs_L} {r0 : Nat} {x1 : Int32} {Mz : gs_M} (h_r0 : gs_law r0) (h : f_X2_open M r0 x1 = some (Mz)) : gs_Met l 0 yX2_open cX2_open 2 none [.ref r0, .int x1] M L none Mz L := by
  unfold f_X2_open at h
  refine gs_of RX2 (by decide) rfl (Nat.le_of_ble_eq_true rfl) (fun X C E => ?_)
  show gs_AW X 0 [(0, .ref r0), (1, .int x1)] [] M L
  refine gs_aload_n (pc := 0) C 0 dX2_open_0 rfl rfl ?_
  refine gs_geti (pc := 1) C dX2_open_1 gk_2 fl_X2_31 (gs_law_sh h_r0).1 rfl ?_
  refine gs_bipush (w := 61) (pc := 4) C dX2_open_4 rfl ?_
  obtain ⟨M1, e2, h⟩ := gs_o1 h
  have j3 : gs_AW X 55 [(0, .ref r0), (1, .int x1)] [] M1 L := by
    obtain rfl := gs_i1 h
    exact gs_vret (pc := 55) C dX2_open_55 E
  refine gs_icmp_ge (pc := 6) C 55 dX2_open_6 rfl (fun c4 => ?_) (fun c4 => ?_)
  · replace e2 := gs_ift c4 e2
    obtain rfl := gs_i1 e2
    exact j3
  · replace e2 := gs_iff c4 e2
    refine gs_aload_n (pc := 9) C 0 dX2_open_9 rfl rfl ?_
    refine gs_getq (pc := 10) C dX2_open_10 gk_2 fl_X2_21 (gs_law_sh h_r0).1 rfl ?_
    refine gs_aload_n (pc := 13) C 0 dX2_open_13 rfl rfl ?_
    refine gs_geti (pc := 14) C dX2_open_14 gk_2 fl_X2_31 (gs_law_sh h_r0).1 rfl ?_
    refine gs_iload_n (pc := 17) C 1 dX2_open_17 rfl rfl ?_
    obtain ⟨M6, e5, e2⟩ := gs_o1 e2
    refine gs_iast (pc := 18) C dX2_open_18 (gs_law_sh h_r0).2.2.2.2.1 e5 ?_
    refine gs_aload_n (pc := 19) C 0 dX2_open_19 rfl rfl ?_
    refine gs_getq (pc := 20) C dX2_open_20 gk_2 fl_X2_15 (gs_law_sh h_r0).1 rfl ?_
    refine gs_aload_n (pc := 23) C 0 dX2_open_23 rfl rfl ?_
    refine gs_geti (pc := 24) C dX2_open_24 gk_2 fl_X2_31 (gs_law_sh h_r0).1 rfl ?_
    refine gs_aload_n (pc := 27) C 0 dX2_open_27 rfl rfl ?_
    refine gs_geti (pc := 28) C dX2_open_28 gk_2 fl_X2_27 (gs_law_sh h_r0).1 rfl ?_
    obtain ⟨M8, e7, e2⟩ := gs_o1 e2
    refine gs_iast (pc := 31) C dX2_open_31 (gs_law_sh h_r0).2.2.1 e7 ?_
    refine gs_aload_n (pc := 32) C 0 dX2_open_32 rfl rfl ?_
    refine gs_getq (pc := 33) C dX2_open_33 gk_2 fl_X2_18 (gs_law_sh h_r0).1 rfl ?_
    refine gs_aload_n (pc := 36) C 0 dX2_open_36 rfl rfl ?_
    refine gs_geti (pc := 37) C dX2_open_37 gk_2 fl_X2_31 (gs_law_sh h_r0).1 rfl ?_
    refine gs_aload_n (pc := 40) C 0 dX2_open_40 rfl rfl ?_
    refine gs_geti (pc := 41) C dX2_open_41 gk_2 fl_X2_27 (gs_law_sh h_r0).1 rfl ?_
    obtain ⟨M10, e9, e2⟩ := gs_o1 e2
    refine gs_iast (pc := 44) C dX2_open_44 (gs_law_sh h_r0).2.2.2.1 e9 ?_
    refine gs_aload_n (pc := 45) C 0 dX2_open_45 rfl rfl ?_
    refine gs_dup (pc := 46) C dX2_open_46 rfl ?_
    refine gs_geti (pc := 47) C dX2_open_47 gk_2 fl_X2_31 (gs_law_sh h_r0).1 rfl ?_
    refine gs_iconst (w := 1) (pc := 50) C dX2_open_50 rfl ?_
    refine gs_iadd (pc := 51) C dX2_open_51 ?_
    obtain ⟨M12, e11, e2⟩ := gs_o1 e2
    refine gs_puti' (pc := 52) C dX2_open_52 gk_2 fp_X2_31 (gs_law_sh h_r0).1 rfl e11 ?_
    obtain rfl := gs_i1 e2
    exact j3
set_option maxRecDepth 100000 in
set_option maxHeartbeats 4000000 in
theorem a_X2_put (l : Launch) {M : gs_M} {L : gs_L} {r0 : Nat} {x1 : Int32} {Mz : gs_M} (h_r0 : gs_law r0) (h : f_X2_put M r0 x1 = some (Mz)) : gs_Met l 0 yX2_put cX2_put 2 none [.ref r0, .int x1] M L none Mz L := by
  unfold f_X2_put at h
  refine gs_of RX2 (by decide) rfl (Nat.le_of_ble_eq_true rfl) (fun X C E => ?_)
  show gs_AW X 0 [(0, .ref r0), (1, .int x1)] [] M L
  refine gs_aload_n (pc := 0) C 0 dX2_put_0 rfl rfl ?_
  refine gs_geti (pc := 1) C dX2_put_1 gk_2 fl_X2_27 (gs_law_sh h_r0).1 rfl ?_
  refine gs_sipush (w := 240) (pc := 4) C dX2_put_4 rfl ?_
  obtain ⟨M1, e2, h⟩ := gs_o1 h
  have j3 : gs_AW X 30 [(0, .ref r0), (1, .int x1)] [] M1 L := by
    obtain rfl := gs_i1 h
    exact gs_vret (pc := 30) C dX2_put_30 E
  refine gs_icmp_ge (pc := 7) C 30 dX2_put_7 rfl (fun c4 => ?_) (fun c4 => ?_)
  · replace e2 := gs_ift c4 e2
    obtain rfl := gs_i1 e2
    exact j3
  · replace e2 := gs_iff c4 e2
    refine gs_aload_n (pc := 10) C 0 dX2_put_10 rfl rfl ?_
    refine gs_getq (pc := 11) C dX2_put_11 gk_2 fl_X2_9 (gs_law_sh h_r0).1 rfl ?_
    refine gs_aload_n (pc := 14) C 0 dX2_put_14 rfl rfl ?_
    refine gs_geti (pc := 15) C dX2_put_15 gk_2 fl_X2_27 (gs_law_sh h_r0).1 rfl ?_
    refine gs_iload_n (pc := 18) C 1 dX2_put_18 rfl rfl ?_
    obtain ⟨M6, e5, e2⟩ := gs_o1 e2
    refine gs_iast (pc := 19) C dX2_put_19 (gs_law_sh h_r0).2.1 e5 ?_
    refine gs_aload_n (pc := 20) C 0 dX2_put_20 rfl rfl ?_
    refine gs_dup (pc := 21) C dX2_put_21 rfl ?_
    refine gs_geti (pc := 22) C dX2_put_22 gk_2 fl_X2_27 (gs_law_sh h_r0).1 rfl ?_
    refine gs_iconst (w := 1) (pc := 25) C dX2_put_25 rfl ?_
    refine gs_iadd (pc := 26) C dX2_put_26 ?_
    obtain ⟨M8, e7, e2⟩ := gs_o1 e2
    refine gs_puti' (pc := 27) C dX2_put_27 gk_2 fp_X2_27 (gs_law_sh h_r0).1 rfl e7 ?_
    obtain rfl := gs_i1 e2
    exact j3
set_option maxRecDepth 100000 in
set_option maxHeartbeats 4000000 in
theorem t_X3_readSum_8 {X : gs_X} {G : Nat → Int32 → gs_M → Option (Int32 × gs_M)} {n : Nat} (hnb : 8 ≤ n) (hG0 : ∀ (l : Launch) {x1 v : Int32} {M M1 : gs_M} {L : gs_L}, G 0 x1 M = some (v, M1) → gs_Met l n yX3_readSum cX3_readSum 5 (some .boolean) [.ref 104, .int x1] M L (some (.int v)) M1 L) (hG1 : ∀ (l : Launch) {x1 v : Int32} {M M1 : gs_M} {L : gs_L}, G 1 x1 M = some (v, M1) → gs_Met l n yX3_readTerm cX3_readTerm 5 (some .boolean) [.ref 104, .int x1] M L (some (.int v)) M1 L) (hG2 : ∀ (l : Launch) {x1 v : Int32} {M M1 : gs_M} {L : gs_L}, G 2 x1 M = some (v, M1) → gs_Met l n yX3_readAtom cX3_readAtom 5 (some .boolean) [.ref 104, .int x1] M L (some (.int v)) M1 L) (hG3 : ∀ (l : Launch) {x1 v : Int32} {M M1 : gs_M} {L : gs_L}, G 3 x1 M = some (v, M1) → gs_Met l n yX3_readCondition cX3_readCondition 2 (some .boolean) [.ref 104, .int x1] M L (some (.int v)) M1 L) (hG4 : ∀ (l : Launch) {x1 v : Int32} {M M1 : gs_M} {L : gs_L}, G 4 x1 M = some (v, M1) → gs_Met l n yX3_readTail cX3_readTail 4 (some .boolean) [.ref 104, .int x1] M L (some (.int v)) M1 L) (hG5 : ∀ (l : Launch) {x1 v : Int32} {M M1 : gs_M} {L : gs_L}, G 5 x1 M = some (v, M1) → gs_Met l n yX3_readTruthTail cX3_readTruthTail 4 (some .boolean) [.ref 104, .int x1] M L (some (.int v)) M1 L) (hG6 : ∀ (l : Launch) {x1 v : Int32} {M M1 : gs_M} {L : gs_L}, G 6 x1 M = some (v, M1) → gs_Met l n yX3_readUnit cX3_readUnit 4 (some .boolean) [.ref 104, .int x1] M L (some (.int v)) M1 L) (hG7 : ∀ (l : Launch) {x1 v : Int32} {M M1 : gs_M} {L : gs_L}, G 7 x1 M = some (v, M1) → gs_Met l n yX3_readComparison cX3_readComparison 4 (some .boolean) [.ref 104, .int x1] M L (some (.int v)) M1 L) (C : gs_C X RX3 cX3_readSum 5 (some .boolean) (n + 1)) {L : gs_L} {x1 : Int32} {rv : Int32} {Mz : gs_M} (E : gs_E X (some (.int rv)) Mz L) : ∀ (f : Nat) (x2 : Int32) (x3 : Int32) (M : gs_M), l_X3_readSum_8 G x1 f x2 x3 M = some (rv, Mz) → gs_AW X 8 [(0, .ref 104), (1, .int x1), (2, .int x2), (3, .int x3)] [] M L := by
  intro f
  induction f with
  | zero =>
    intro x2 x3 M h
    cases h
  | succ f ih =>
    intro x2 x3 M h
    rw [l_X3_readSum_8] at h
    refine gs_iload_n (pc := 8) C 3 dX3_readSum_8 rfl rfl ?_
    refine gs_sipush (w := 240) (pc := 9) C dX3_readSum_9 rfl ?_
    refine gs_icmp_ge (pc := 12) C 73 dX3_readSum_12 rfl (fun c1 => ?_) (fun c1 => ?_)
    · replace h := gs_ift c1 h
      refine gs_iload_n (pc := 73) C 2 dX3_readSum_73 rfl rfl ?_
      obtain ⟨z4, e5, h⟩ := gs_o1 h
      obtain ⟨rfl, rfl⟩ := gs_i2 h
      exact gs_zret' (pc := 74) C dX3_readSum_74 e5 E
    · replace h := gs_iff c1 h
      refine gs_iload_n (pc := 15) C 2 dX3_readSum_15 rfl rfl ?_
      refine gs_if_eq (pc := 16) C 73 dX3_readSum_16 rfl (fun c2 => ?_) (fun c2 => ?_)
      · replace h := gs_ift c2 h
        refine gs_iload_n (pc := 73) C 2 dX3_readSum_73 rfl rfl ?_
        obtain ⟨z6, e7, h⟩ := gs_o1 h
        obtain ⟨rfl, rfl⟩ := gs_i2 h
        exact gs_zret' (pc := 74) C dX3_readSum_74 e7 E
      · replace h := gs_iff c2 h
        refine gs_aload_n (pc := 19) C 0 dX3_readSum_19 rfl rfl ?_
        refine gs_getq (pc := 20) C dX3_readSum_20 gk_3 fl_X3_9 sh_104 rfl ?_
        obtain ⟨v3, M4, e5, h⟩ := gs_o2 h
        refine gs_callVi (pc := 23) C [] dX3_readSum_23 ml_X3_33 wy_X7_look (a_X7_look _ e5) (by omega) sh_1 (by decide) rfl rfl (Nat.le_of_ble_eq_true rfl) rfl ?_
        refine gs_istore (ls' := [(4, .int v3), (0, .ref 104), (1, .int x1), (2, .int x2), (3, .int x3)]) (pc := 26) C dX3_readSum_26 (by decide) rfl ?_
        refine gs_iload (pc := 28) C 0 dX3_readSum_28 rfl ?_
        refine gs_bipush (w := 43) (pc := 30) C dX3_readSum_30 rfl ?_
        refine gs_icmp_eq (pc := 32) C 44 dX3_readSum_32 rfl (fun c6 => ?_) (fun c6 => ?_)
        · replace h := gs_ift c6 h
          refine gs_aload_n (pc := 44) C 1 dX3_readSum_44 rfl rfl ?_
          refine gs_getq (pc := 45) C dX3_readSum_45 gk_3 fl_X3_9 sh_104 rfl ?_
          obtain ⟨M7, e8, h⟩ := gs_o1 h
          refine gs_callVv (pc := 48) C [] dX3_readSum_48 ml_X3_37 wy_X7_step (a_X7_step _ e8) (by omega) sh_1 (by decide) rfl rfl (Nat.le_of_ble_eq_true rfl) rfl ?_
          refine gs_aload_n (pc := 51) C 1 dX3_readSum_51 rfl rfl ?_
          refine gs_iload_n (pc := 52) C 2 dX3_readSum_52 rfl rfl ?_
          obtain ⟨v9, M10, e11, h⟩ := gs_o2 h
          refine gs_callVi (pc := 53) C [.int x1] dX3_readSum_53 ml_X3_84 wy_X3_readTerm (hG1 _ e11) (by omega) sh_104 (by decide) rfl rfl (Nat.le_of_ble_eq_true rfl) rfl ?_
          refine gs_istore_n (ls' := [(2, .int v9), (4, .int v3), (0, .ref 104), (1, .int x1), (3, .int x3)]) (pc := 56) C dX3_readSum_56 rfl (by decide) rfl ?_
          refine gs_aload_n (pc := 57) C 2 dX3_readSum_57 rfl rfl ?_
          obtain ⟨r12, e13, h⟩ := gs_o1 h
          refine gs_getmW (pc := 58) C dX3_readSum_58 gk_3 fl_X3_15 sh_104 rfl e13 ?_
          refine gs_iload (pc := 61) C 1 dX3_readSum_61 rfl ?_
          refine gs_ineg (pc := 63) C dX3_readSum_63 ?_
          obtain ⟨M14, e15, h⟩ := gs_o1 h
          refine gs_callVv (pc := 64) C [.int (-v3)] dX3_readSum_64 ml_X3_81 wy_X2_put (a_X2_put _ (gs_ckW_law e13) e15) (by omega) (gs_law_sh (gs_ckW_law e13)).1 (by decide) rfl rfl (Nat.le_of_ble_eq_true rfl) rfl ?_
          refine gs_iinc (v := x3 + (1 : Int32)) (ls' := [(3, .int (x3 + (1 : Int32))), (2, .int v9), (4, .int v3), (0, .ref 104), (1, .int x1)]) (pc := 67) C 4 dX3_readSum_67 rfl rfl (by decide) rfl ?_
          refine gs_goto (pc := 70) C 8 dX3_readSum_70 rfl ?_
          exact gs_sub [3, 4, 1, 0] rfl (ih _ _ _ h)
        · replace h := gs_iff c6 h
          refine gs_iload (pc := 35) C 0 dX3_readSum_35 rfl ?_
          refine gs_bipush (w := 45) (pc := 37) C dX3_readSum_37 rfl ?_
          refine gs_icmp_eq (pc := 39) C 44 dX3_readSum_39 rfl (fun c16 => ?_) (fun c16 => ?_)
          · replace h := gs_ift c16 h
            refine gs_aload_n (pc := 44) C 1 dX3_readSum_44 rfl rfl ?_
            refine gs_getq (pc := 45) C dX3_readSum_45 gk_3 fl_X3_9 sh_104 rfl ?_
            obtain ⟨M17, e18, h⟩ := gs_o1 h
            refine gs_callVv (pc := 48) C [] dX3_readSum_48 ml_X3_37 wy_X7_step (a_X7_step _ e18) (by omega) sh_1 (by decide) rfl rfl (Nat.le_of_ble_eq_true rfl) rfl ?_
            refine gs_aload_n (pc := 51) C 1 dX3_readSum_51 rfl rfl ?_
            refine gs_iload_n (pc := 52) C 2 dX3_readSum_52 rfl rfl ?_
            obtain ⟨v19, M20, e21, h⟩ := gs_o2 h
            refine gs_callVi (pc := 53) C [.int x1] dX3_readSum_53 ml_X3_84 wy_X3_readTerm (hG1 _ e21) (by omega) sh_104 (by decide) rfl rfl (Nat.le_of_ble_eq_true rfl) rfl ?_
            refine gs_istore_n (ls' := [(2, .int v19), (4, .int v3), (0, .ref 104), (1, .int x1), (3, .int x3)]) (pc := 56) C dX3_readSum_56 rfl (by decide) rfl ?_
            refine gs_aload_n (pc := 57) C 2 dX3_readSum_57 rfl rfl ?_
            obtain ⟨r22, e23, h⟩ := gs_o1 h
            refine gs_getmW (pc := 58) C dX3_readSum_58 gk_3 fl_X3_15 sh_104 rfl e23 ?_
            refine gs_iload (pc := 61) C 1 dX3_readSum_61 rfl ?_
            refine gs_ineg (pc := 63) C dX3_readSum_63 ?_
            obtain ⟨M24, e25, h⟩ := gs_o1 h
            refine gs_callVv (pc := 64) C [.int (-v3)] dX3_readSum_64 ml_X3_81 wy_X2_put (a_X2_put _ (gs_ckW_law e23) e25) (by omega) (gs_law_sh (gs_ckW_law e23)).1 (by decide) rfl rfl (Nat.le_of_ble_eq_true rfl) rfl ?_
            refine gs_iinc (v := x3 + (1 : Int32)) (ls' := [(3, .int (x3 + (1 : Int32))), (2, .int v19), (4, .int v3), (0, .ref 104), (1, .int x1)]) (pc := 67) C 4 dX3_readSum_67 rfl rfl (by decide) rfl ?_
            refine gs_goto (pc := 70) C 8 dX3_readSum_70 rfl ?_
            exact gs_sub [3, 4, 1, 0] rfl (ih _ _ _ h)
          · replace h := gs_iff c16 h
            refine gs_iconst (w := 1) (pc := 42) C dX3_readSum_42 rfl ?_
            obtain ⟨rfl, rfl⟩ := gs_i2 h
            exact gs_zret (pc := 43) C (by decide) dX3_readSum_43 E
set_option maxRecDepth 100000 in
set_option maxHeartbeats 4000000 in
theorem a_X3_readSum (l : Launch) {G : Nat → Int32 → gs_M → Option (Int32 × gs_M)} {n : Nat} (hnb : 8 ≤ n) (hG0 : ∀ (l : Launch) {x1 v : Int32} {M M1 : gs_M} {L : gs_L}, G 0 x1 M = some (v, M1) → gs_Met l n yX3_readSum cX3_readSum 5 (some .boolean) [.ref 104, .int x1] M L (some (.int v)) M1 L) (hG1 : ∀ (l : Launch) {x1 v : Int32} {M M1 : gs_M} {L : gs_L}, G 1 x1 M = some (v, M1) → gs_Met l n yX3_readTerm cX3_readTerm 5 (some .boolean) [.ref 104, .int x1] M L (some (.int v)) M1 L) (hG2 : ∀ (l : Launch) {x1 v : Int32} {M M1 : gs_M} {L : gs_L}, G 2 x1 M = some (v, M1) → gs_Met l n yX3_readAtom cX3_readAtom 5 (some .boolean) [.ref 104, .int x1] M L (some (.int v)) M1 L) (hG3 : ∀ (l : Launch) {x1 v : Int32} {M M1 : gs_M} {L : gs_L}, G 3 x1 M = some (v, M1) → gs_Met l n yX3_readCondition cX3_readCondition 2 (some .boolean) [.ref 104, .int x1] M L (some (.int v)) M1 L) (hG4 : ∀ (l : Launch) {x1 v : Int32} {M M1 : gs_M} {L : gs_L}, G 4 x1 M = some (v, M1) → gs_Met l n yX3_readTail cX3_readTail 4 (some .boolean) [.ref 104, .int x1] M L (some (.int v)) M1 L) (hG5 : ∀ (l : Launch) {x1 v : Int32} {M M1 : gs_M} {L : gs_L}, G 5 x1 M = some (v, M1) → gs_Met l n yX3_readTruthTail cX3_readTruthTail 4 (some .boolean) [.ref 104, .int x1] M L (some (.int v)) M1 L) (hG6 : ∀ (l : Launch) {x1 v : Int32} {M M1 : gs_M} {L : gs_L}, G 6 x1 M = some (v, M1) → gs_Met l n yX3_readUnit cX3_readUnit 4 (some .boolean) [.ref 104, .int x1] M L (some (.int v)) M1 L) (hG7 : ∀ (l : Launch) {x1 v : Int32} {M M1 : gs_M} {L : gs_L}, G 7 x1 M = some (v, M1) → gs_Met l n yX3_readComparison cX3_readComparison 4 (some .boolean) [.ref 104, .int x1] M L (some (.int v)) M1 L) {M : gs_M} {L : gs_L} {x1 : Int32} {rv : Int32} {Mz : gs_M} (h : f_X3_readSum G M x1 = some (rv, Mz)) : gs_Met l (n + 1) yX3_readSum cX3_readSum 5 (some .boolean) [.ref 104, .int x1] M L (some (.int rv)) Mz L := by
  unfold f_X3_readSum at h
  refine gs_of RX3 (by decide) rfl (Nat.le_of_ble_eq_true rfl) (fun X C E => ?_)
  show gs_AW X 0 [(0, .ref 104), (1, .int x1)] [] M L
  refine gs_aload_n (pc := 0) C 0 dX3_readSum_0 rfl rfl ?_
  refine gs_iload_n (pc := 1) C 1 dX3_readSum_1 rfl rfl ?_
  obtain ⟨v1, M2, e3, h⟩ := gs_o2 h
  refine gs_callVi (pc := 2) C [.int x1] dX3_readSum_2 ml_X3_84 wy_X3_readTerm (hG1 _ e3) (by omega) sh_104 (by decide) rfl rfl (Nat.le_of_ble_eq_true rfl) rfl ?_
  refine gs_istore_n (ls' := [(2, .int v1), (0, .ref 104), (1, .int x1)]) (pc := 5) C dX3_readSum_5 rfl (by decide) rfl ?_
  refine gs_iconst (w := 0) (pc := 6) C dX3_readSum_6 rfl ?_
  refine gs_istore_n (ls' := [(3, .int (0 : Int32)), (2, .int v1), (0, .ref 104), (1, .int x1)]) (pc := 7) C dX3_readSum_7 rfl (by decide) rfl ?_
  exact gs_sub [2, 3, 1, 0] rfl (t_X3_readSum_8 hnb hG0 hG1 hG2 hG3 hG4 hG5 hG6 hG7 C E gs_FU _ _ _ h)
set_option maxRecDepth 100000 in
set_option maxHeartbeats 4000000 in
theorem t_X3_readTerm_8 {X : gs_X} {G : Nat → Int32 → gs_M → Option (Int32 × gs_M)} {n : Nat} (hnb : 8 ≤ n) (hG0 : ∀ (l : Launch) {x1 v : Int32} {M M1 : gs_M} {L : gs_L}, G 0 x1 M = some (v, M1) → gs_Met l n yX3_readSum cX3_readSum 5 (some .boolean) [.ref 104, .int x1] M L (some (.int v)) M1 L) (hG1 : ∀ (l : Launch) {x1 v : Int32} {M M1 : gs_M} {L : gs_L}, G 1 x1 M = some (v, M1) → gs_Met l n yX3_readTerm cX3_readTerm 5 (some .boolean) [.ref 104, .int x1] M L (some (.int v)) M1 L) (hG2 : ∀ (l : Launch) {x1 v : Int32} {M M1 : gs_M} {L : gs_L}, G 2 x1 M = some (v, M1) → gs_Met l n yX3_readAtom cX3_readAtom 5 (some .boolean) [.ref 104, .int x1] M L (some (.int v)) M1 L) (hG3 : ∀ (l : Launch) {x1 v : Int32} {M M1 : gs_M} {L : gs_L}, G 3 x1 M = some (v, M1) → gs_Met l n yX3_readCondition cX3_readCondition 2 (some .boolean) [.ref 104, .int x1] M L (some (.int v)) M1 L) (hG4 : ∀ (l : Launch) {x1 v : Int32} {M M1 : gs_M} {L : gs_L}, G 4 x1 M = some (v, M1) → gs_Met l n yX3_readTail cX3_readTail 4 (some .boolean) [.ref 104, .int x1] M L (some (.int v)) M1 L) (hG5 : ∀ (l : Launch) {x1 v : Int32} {M M1 : gs_M} {L : gs_L}, G 5 x1 M = some (v, M1) → gs_Met l n yX3_readTruthTail cX3_readTruthTail 4 (some .boolean) [.ref 104, .int x1] M L (some (.int v)) M1 L) (hG6 : ∀ (l : Launch) {x1 v : Int32} {M M1 : gs_M} {L : gs_L}, G 6 x1 M = some (v, M1) → gs_Met l n yX3_readUnit cX3_readUnit 4 (some .boolean) [.ref 104, .int x1] M L (some (.int v)) M1 L) (hG7 : ∀ (l : Launch) {x1 v : Int32} {M M1 : gs_M} {L : gs_L}, G 7 x1 M = some (v, M1) → gs_Met l n yX3_readComparison cX3_readComparison 4 (some .boolean) [.ref 104, .int x1] M L (some (.int v)) M1 L) (C : gs_C X RX3 cX3_readTerm 5 (some .boolean) (n + 1)) {L : gs_L} {x1 : Int32} {rv : Int32} {Mz : gs_M} (E : gs_E X (some (.int rv)) Mz L) : ∀ (f : Nat) (x2 : Int32) (x3 : Int32) (M : gs_M), l_X3_readTerm_8 G x1 f x2 x3 M = some (rv, Mz) → gs_AW X 8 [(0, .ref 104), (1, .int x1), (2, .int x2), (3, .int x3)] [] M L := by
  intro f
  induction f with
  | zero =>
    intro x2 x3 M h
    cases h
  | succ f ih =>
    intro x2 x3 M h
    rw [l_X3_readTerm_8] at h
    refine gs_iload_n (pc := 8) C 3 dX3_readTerm_8 rfl rfl ?_
    refine gs_sipush (w := 240) (pc := 9) C dX3_readTerm_9 rfl ?_
    refine gs_icmp_ge (pc := 12) C 73 dX3_readTerm_12 rfl (fun c1 => ?_) (fun c1 => ?_)
    · replace h := gs_ift c1 h
      refine gs_iload_n (pc := 73) C 2 dX3_readTerm_73 rfl rfl ?_
      obtain ⟨z4, e5, h⟩ := gs_o1 h
      obtain ⟨rfl, rfl⟩ := gs_i2 h
      exact gs_zret' (pc := 74) C dX3_readTerm_74 e5 E
    · replace h := gs_iff c1 h
      refine gs_iload_n (pc := 15) C 2 dX3_readTerm_15 rfl rfl ?_
      refine gs_if_eq (pc := 16) C 73 dX3_readTerm_16 rfl (fun c2 => ?_) (fun c2 => ?_)
      · replace h := gs_ift c2 h
        refine gs_iload_n (pc := 73) C 2 dX3_readTerm_73 rfl rfl ?_
        obtain ⟨z6, e7, h⟩ := gs_o1 h
        obtain ⟨rfl, rfl⟩ := gs_i2 h
        exact gs_zret' (pc := 74) C dX3_readTerm_74 e7 E
      · replace h := gs_iff c2 h
        refine gs_aload_n (pc := 19) C 0 dX3_readTerm_19 rfl rfl ?_
        refine gs_getq (pc := 20) C dX3_readTerm_20 gk_3 fl_X3_9 sh_104 rfl ?_
        obtain ⟨v3, M4, e5, h⟩ := gs_o2 h
        refine gs_callVi (pc := 23) C [] dX3_readTerm_23 ml_X3_33 wy_X7_look (a_X7_look _ e5) (by omega) sh_1 (by decide) rfl rfl (Nat.le_of_ble_eq_true rfl) rfl ?_
        refine gs_istore (ls' := [(4, .int v3), (0, .ref 104), (1, .int x1), (2, .int x2), (3, .int x3)]) (pc := 26) C dX3_readTerm_26 (by decide) rfl ?_
        refine gs_iload (pc := 28) C 0 dX3_readTerm_28 rfl ?_
        refine gs_bipush (w := 42) (pc := 30) C dX3_readTerm_30 rfl ?_
        refine gs_icmp_eq (pc := 32) C 44 dX3_readTerm_32 rfl (fun c6 => ?_) (fun c6 => ?_)
        · replace h := gs_ift c6 h
          refine gs_aload_n (pc := 44) C 1 dX3_readTerm_44 rfl rfl ?_
          refine gs_getq (pc := 45) C dX3_readTerm_45 gk_3 fl_X3_9 sh_104 rfl ?_
          obtain ⟨M7, e8, h⟩ := gs_o1 h
          refine gs_callVv (pc := 48) C [] dX3_readTerm_48 ml_X3_37 wy_X7_step (a_X7_step _ e8) (by omega) sh_1 (by decide) rfl rfl (Nat.le_of_ble_eq_true rfl) rfl ?_
          refine gs_aload_n (pc := 51) C 1 dX3_readTerm_51 rfl rfl ?_
          refine gs_iload_n (pc := 52) C 2 dX3_readTerm_52 rfl rfl ?_
          obtain ⟨v9, M10, e11, h⟩ := gs_o2 h
          refine gs_callVi (pc := 53) C [.int x1] dX3_readTerm_53 ml_X3_87 wy_X3_readAtom (hG2 _ e11) (by omega) sh_104 (by decide) rfl rfl (Nat.le_of_ble_eq_true rfl) rfl ?_
          refine gs_istore_n (ls' := [(2, .int v9), (4, .int v3), (0, .ref 104), (1, .int x1), (3, .int x3)]) (pc := 56) C dX3_readTerm_56 rfl (by decide) rfl ?_
          refine gs_aload_n (pc := 57) C 2 dX3_readTerm_57 rfl rfl ?_
          obtain ⟨r12, e13, h⟩ := gs_o1 h
          refine gs_getmW (pc := 58) C dX3_readTerm_58 gk_3 fl_X3_15 sh_104 rfl e13 ?_
          refine gs_iload (pc := 61) C 1 dX3_readTerm_61 rfl ?_
          refine gs_ineg (pc := 63) C dX3_readTerm_63 ?_
          obtain ⟨M14, e15, h⟩ := gs_o1 h
          refine gs_callVv (pc := 64) C [.int (-v3)] dX3_readTerm_64 ml_X3_81 wy_X2_put (a_X2_put _ (gs_ckW_law e13) e15) (by omega) (gs_law_sh (gs_ckW_law e13)).1 (by decide) rfl rfl (Nat.le_of_ble_eq_true rfl) rfl ?_
          refine gs_iinc (v := x3 + (1 : Int32)) (ls' := [(3, .int (x3 + (1 : Int32))), (2, .int v9), (4, .int v3), (0, .ref 104), (1, .int x1)]) (pc := 67) C 4 dX3_readTerm_67 rfl rfl (by decide) rfl ?_
          refine gs_goto (pc := 70) C 8 dX3_readTerm_70 rfl ?_
          exact gs_sub [3, 4, 1, 0] rfl (ih _ _ _ h)
        · replace h := gs_iff c6 h
          refine gs_iload (pc := 35) C 0 dX3_readTerm_35 rfl ?_
          refine gs_bipush (w := 47) (pc := 37) C dX3_readTerm_37 rfl ?_
          refine gs_icmp_eq (pc := 39) C 44 dX3_readTerm_39 rfl (fun c16 => ?_) (fun c16 => ?_)
          · replace h := gs_ift c16 h
            refine gs_aload_n (pc := 44) C 1 dX3_readTerm_44 rfl rfl ?_
            refine gs_getq (pc := 45) C dX3_readTerm_45 gk_3 fl_X3_9 sh_104 rfl ?_
            obtain ⟨M17, e18, h⟩ := gs_o1 h
            refine gs_callVv (pc := 48) C [] dX3_readTerm_48 ml_X3_37 wy_X7_step (a_X7_step _ e18) (by omega) sh_1 (by decide) rfl rfl (Nat.le_of_ble_eq_true rfl) rfl ?_
            refine gs_aload_n (pc := 51) C 1 dX3_readTerm_51 rfl rfl ?_
            refine gs_iload_n (pc := 52) C 2 dX3_readTerm_52 rfl rfl ?_
            obtain ⟨v19, M20, e21, h⟩ := gs_o2 h
            refine gs_callVi (pc := 53) C [.int x1] dX3_readTerm_53 ml_X3_87 wy_X3_readAtom (hG2 _ e21) (by omega) sh_104 (by decide) rfl rfl (Nat.le_of_ble_eq_true rfl) rfl ?_
            refine gs_istore_n (ls' := [(2, .int v19), (4, .int v3), (0, .ref 104), (1, .int x1), (3, .int x3)]) (pc := 56) C dX3_readTerm_56 rfl (by decide) rfl ?_
            refine gs_aload_n (pc := 57) C 2 dX3_readTerm_57 rfl rfl ?_
            obtain ⟨r22, e23, h⟩ := gs_o1 h
            refine gs_getmW (pc := 58) C dX3_readTerm_58 gk_3 fl_X3_15 sh_104 rfl e23 ?_
            refine gs_iload (pc := 61) C 1 dX3_readTerm_61 rfl ?_
            refine gs_ineg (pc := 63) C dX3_readTerm_63 ?_
            obtain ⟨M24, e25, h⟩ := gs_o1 h
            refine gs_callVv (pc := 64) C [.int (-v3)] dX3_readTerm_64 ml_X3_81 wy_X2_put (a_X2_put _ (gs_ckW_law e23) e25) (by omega) (gs_law_sh (gs_ckW_law e23)).1 (by decide) rfl rfl (Nat.le_of_ble_eq_true rfl) rfl ?_
            refine gs_iinc (v := x3 + (1 : Int32)) (ls' := [(3, .int (x3 + (1 : Int32))), (2, .int v19), (4, .int v3), (0, .ref 104), (1, .int x1)]) (pc := 67) C 4 dX3_readTerm_67 rfl rfl (by decide) rfl ?_
            refine gs_goto (pc := 70) C 8 dX3_readTerm_70 rfl ?_
            exact gs_sub [3, 4, 1, 0] rfl (ih _ _ _ h)
          · replace h := gs_iff c16 h
            refine gs_iconst (w := 1) (pc := 42) C dX3_readTerm_42 rfl ?_
            obtain ⟨rfl, rfl⟩ := gs_i2 h
            exact gs_zret (pc := 43) C (by decide) dX3_readTerm_43 E
set_option maxRecDepth 100000 in
set_option maxHeartbeats 4000000 in
theorem a_X3_readTerm (l : Launch) {G : Nat → Int32 → gs_M → Option (Int32 × gs_M)} {n : Nat} (hnb : 8 ≤ n) (hG0 : ∀ (l : Launch) {x1 v : Int32} {M M1 : gs_M} {L : gs_L}, G 0 x1 M = some (v, M1) → gs_Met l n yX3_readSum cX3_readSum 5 (some .boolean) [.ref 104, .int x1] M L (some (.int v)) M1 L) (hG1 : ∀ (l : Launch) {x1 v : Int32} {M M1 : gs_M} {L : gs_L}, G 1 x1 M = some (v, M1) → gs_Met l n yX3_readTerm cX3_readTerm 5 (some .boolean) [.ref 104, .int x1] M L (some (.int v)) M1 L) (hG2 : ∀ (l : Launch) {x1 v : Int32} {M M1 : gs_M} {L : gs_L}, G 2 x1 M = some (v, M1) → gs_Met l n yX3_readAtom cX3_readAtom 5 (some .boolean) [.ref 104, .int x1] M L (some (.int v)) M1 L) (hG3 : ∀ (l : Launch) {x1 v : Int32} {M M1 : gs_M} {L : gs_L}, G 3 x1 M = some (v, M1) → gs_Met l n yX3_readCondition cX3_readCondition 2 (some .boolean) [.ref 104, .int x1] M L (some (.int v)) M1 L) (hG4 : ∀ (l : Launch) {x1 v : Int32} {M M1 : gs_M} {L : gs_L}, G 4 x1 M = some (v, M1) → gs_Met l n yX3_readTail cX3_readTail 4 (some .boolean) [.ref 104, .int x1] M L (some (.int v)) M1 L) (hG5 : ∀ (l : Launch) {x1 v : Int32} {M M1 : gs_M} {L : gs_L}, G 5 x1 M = some (v, M1) → gs_Met l n yX3_readTruthTail cX3_readTruthTail 4 (some .boolean) [.ref 104, .int x1] M L (some (.int v)) M1 L) (hG6 : ∀ (l : Launch) {x1 v : Int32} {M M1 : gs_M} {L : gs_L}, G 6 x1 M = some (v, M1) → gs_Met l n yX3_readUnit cX3_readUnit 4 (some .boolean) [.ref 104, .int x1] M L (some (.int v)) M1 L) (hG7 : ∀ (l : Launch) {x1 v : Int32} {M M1 : gs_M} {L : gs_L}, G 7 x1 M = some (v, M1) → gs_Met l n yX3_readComparison cX3_readComparison 4 (some .boolean) [.ref 104, .int x1] M L (some (.int v)) M1 L) {M : gs_M} {L : gs_L} {x1 : Int32} {rv : Int32} {Mz : gs_M} (h : f_X3_readTerm G M x1 = some (rv, Mz)) : gs_Met l (n + 1) yX3_readTerm cX3_readTerm 5 (some .boolean) [.ref 104, .int x1] M L (some (.int rv)) Mz L := by
  unfold f_X3_readTerm at h
  refine gs_of RX3 (by decide) rfl (Nat.le_of_ble_eq_true rfl) (fun X C E => ?_)
  show gs_AW X 0 [(0, .ref 104), (1, .int x1)] [] M L
  refine gs_aload_n (pc := 0) C 0 dX3_readTerm_0 rfl rfl ?_
  refine gs_iload_n (pc := 1) C 1 dX3_readTerm_1 rfl rfl ?_
  obtain ⟨v1, M2, e3, h⟩ := gs_o2 h
  refine gs_callVi (pc := 2) C [.int x1] dX3_readTerm_2 ml_X3_87 wy_X3_readAtom (hG2 _ e3) (by omega) sh_104 (by decide) rfl rfl (Nat.le_of_ble_eq_true rfl) rfl ?_
  refine gs_istore_n (ls' := [(2, .int v1), (0, .ref 104), (1, .int x1)]) (pc := 5) C dX3_readTerm_5 rfl (by decide) rfl ?_
  refine gs_iconst (w := 0) (pc := 6) C dX3_readTerm_6 rfl ?_
  refine gs_istore_n (ls' := [(3, .int (0 : Int32)), (2, .int v1), (0, .ref 104), (1, .int x1)]) (pc := 7) C dX3_readTerm_7 rfl (by decide) rfl ?_
  exact gs_sub [2, 3, 1, 0] rfl (t_X3_readTerm_8 hnb hG0 hG1 hG2 hG3 hG4 hG5 hG6 hG7 C E gs_FU _ _ _ h)
set_option maxRecDepth 100000 in
set_option maxHeartbeats 4000000 in
theorem a_X3_readAtom (l : Launch) {G : Nat → Int32 → gs_M → Option (Int32 × gs_M)} {n : Nat} (hnb : 8 ≤ n) (hG0 : ∀ (l : Launch) {x1 v : Int32} {M M1 : gs_M} {L : gs_L}, G 0 x1 M = some (v, M1) → gs_Met l n yX3_readSum cX3_readSum 5 (some .boolean) [.ref 104, .int x1] M L (some (.int v)) M1 L) (hG1 : ∀ (l : Launch) {x1 v : Int32} {M M1 : gs_M} {L : gs_L}, G 1 x1 M = some (v, M1) → gs_Met l n yX3_readTerm cX3_readTerm 5 (some .boolean) [.ref 104, .int x1] M L (some (.int v)) M1 L) (hG2 : ∀ (l : Launch) {x1 v : Int32} {M M1 : gs_M} {L : gs_L}, G 2 x1 M = some (v, M1) → gs_Met l n yX3_readAtom cX3_readAtom 5 (some .boolean) [.ref 104, .int x1] M L (some (.int v)) M1 L) (hG3 : ∀ (l : Launch) {x1 v : Int32} {M M1 : gs_M} {L : gs_L}, G 3 x1 M = some (v, M1) → gs_Met l n yX3_readCondition cX3_readCondition 2 (some .boolean) [.ref 104, .int x1] M L (some (.int v)) M1 L) (hG4 : ∀ (l : Launch) {x1 v : Int32} {M M1 : gs_M} {L : gs_L}, G 4 x1 M = some (v, M1) → gs_Met l n yX3_readTail cX3_readTail 4 (some .boolean) [.ref 104, .int x1] M L (some (.int v)) M1 L) (hG5 : ∀ (l : Launch) {x1 v : Int32} {M M1 : gs_M} {L : gs_L}, G 5 x1 M = some (v, M1) → gs_Met l n yX3_readTruthTail cX3_readTruthTail 4 (some .boolean) [.ref 104, .int x1] M L (some (.int v)) M1 L) (hG6 : ∀ (l : Launch) {x1 v : Int32} {M M1 : gs_M} {L : gs_L}, G 6 x1 M = some (v, M1) → gs_Met l n yX3_readUnit cX3_readUnit 4 (some .boolean) [.ref 104, .int x1] M L (some (.int v)) M1 L) (hG7 : ∀ (l : Launch) {x1 v : Int32} {M M1 : gs_M} {L : gs_L}, G 7 x1 M = some (v, M1) → gs_Met l n yX3_readComparison cX3_readComparison 4 (some .boolean) [.ref 104, .int x1] M L (some (.int v)) M1 L) {M : gs_M} {L : gs_L} {x1 : Int32} {rv : Int32} {Mz : gs_M} (h : f_X3_readAtom G M x1 = some (rv, Mz)) : gs_Met l (n + 1) yX3_readAtom cX3_readAtom 5 (some .boolean) [.ref 104, .int x1] M L (some (.int rv)) Mz L := by
  unfold f_X3_readAtom at h
  refine gs_of RX3 (by decide) rfl (Nat.le_of_ble_eq_true rfl) (fun X C E => ?_)
  show gs_AW X 0 [(0, .ref 104), (1, .int x1)] [] M L
  refine gs_aload_n (pc := 0) C 0 dX3_readAtom_0 rfl rfl ?_
  refine gs_getq (pc := 1) C dX3_readAtom_1 gk_3 fl_X3_9 sh_104 rfl ?_
  obtain ⟨v1, M2, e3, h⟩ := gs_o2 h
  refine gs_callVi (pc := 4) C [] dX3_readAtom_4 ml_X3_33 wy_X7_look (a_X7_look _ e3) (by omega) sh_1 (by decide) rfl rfl (Nat.le_of_ble_eq_true rfl) rfl ?_
  refine gs_istore_n (ls' := [(2, .int v1), (0, .ref 104), (1, .int x1)]) (pc := 7) C dX3_readAtom_7 rfl (by decide) rfl ?_
  refine gs_iload_n (pc := 8) C 0 dX3_readAtom_8 rfl rfl ?_
  refine gs_iconst (w := (-1)) (pc := 9) C dX3_readAtom_9 rfl ?_
  refine gs_icmp_ne (pc := 10) C 21 dX3_readAtom_10 rfl (fun c4 => ?_) (fun c4 => ?_)
  · replace h := gs_iff c4 h
    refine gs_iload_n (pc := 21) C 0 dX3_readAtom_21 rfl rfl ?_
    refine gs_bipush (w := 91) (pc := 22) C dX3_readAtom_22 rfl ?_
    refine gs_icmp_ne (pc := 24) C 76 dX3_readAtom_24 rfl (fun c5 => ?_) (fun c5 => ?_)
    · replace h := gs_iff c5 h
      refine gs_ldcS (pc := 76) C (q := 1002) (tx := "gcwtha") dX3_readAtom_76 (by decide) ?_
      refine gs_iload_n (pc := 78) C 0 dX3_readAtom_78 rfl rfl ?_
      refine gs_i2c (pc := 79) C dX3_readAtom_79 ?_
      refine gs_stridx (pc := 80) C 2 (by decide) dX3_readAtom_80 ml_X3_92 (by omega) (Nat.le_of_ble_eq_true rfl) ?_
      refine gs_istore_n (ls' := [(3, .int (gs_spot 2 ((Int32.toUInt32 v1 % 65536).toInt32))), (2, .int v1), (0, .ref 104), (1, .int x1)]) (pc := 83) C dX3_readAtom_83 rfl (by decide) rfl ?_
      refine gs_iload_n (pc := 84) C 0 dX3_readAtom_84 rfl rfl ?_
      refine gs_if_lt (pc := 85) C 109 dX3_readAtom_85 rfl (fun c6 => ?_) (fun c6 => ?_)
      · replace h := gs_ift c6 h
        refine gs_aload_n (pc := 109) C 2 dX3_readAtom_109 rfl rfl ?_
        refine gs_getq (pc := 110) C dX3_readAtom_110 gk_3 fl_X3_9 sh_104 rfl ?_
        refine gs_iconst (w := 4) (pc := 113) C dX3_readAtom_113 rfl ?_
        obtain ⟨v7, M8, e9, h⟩ := gs_o2 h
        refine gs_callVi (pc := 114) C [.int (4 : Int32)] dX3_readAtom_114 ml_X3_98 wy_X7_number (a_X7_number _ e9) (by omega) sh_1 (by decide) rfl rfl (Nat.le_of_ble_eq_true rfl) rfl ?_
        refine gs_istore (ls' := [(4, .int v7), (3, .int (gs_spot 2 ((Int32.toUInt32 v1 % 65536).toInt32))), (2, .int v1), (0, .ref 104), (1, .int x1)]) (pc := 117) C dX3_readAtom_117 (by decide) rfl ?_
        refine gs_iload (pc := 119) C 0 dX3_readAtom_119 rfl ?_
        refine gs_iconst (w := (-1)) (pc := 121) C dX3_readAtom_121 rfl ?_
        refine gs_icmp_ne (pc := 122) C 127 dX3_readAtom_122 rfl (fun c10 => ?_) (fun c10 => ?_)
        · replace h := gs_iff c10 h
          refine gs_aload_n (pc := 127) C 3 dX3_readAtom_127 rfl rfl ?_
          obtain ⟨r11, e12, h⟩ := gs_o1 h
          refine gs_getmW (pc := 128) C dX3_readAtom_128 gk_3 fl_X3_15 sh_104 rfl e12 ?_
          refine gs_iload (pc := 131) C 0 dX3_readAtom_131 rfl ?_
          obtain ⟨M13, e14, h⟩ := gs_o1 h
          refine gs_callVv (pc := 133) C [.int v7] dX3_readAtom_133 ml_X3_81 wy_X2_put (a_X2_put _ (gs_ckW_law e12) e14) (by omega) (gs_law_sh (gs_ckW_law e12)).1 (by decide) rfl rfl (Nat.le_of_ble_eq_true rfl) rfl ?_
          refine gs_iconst (w := 1) (pc := 136) C dX3_readAtom_136 rfl ?_
          obtain ⟨rfl, rfl⟩ := gs_i2 h
          exact gs_zret (pc := 137) C (by decide) dX3_readAtom_137 E
        · replace h := gs_ift c10 h
          refine gs_iconst (w := 0) (pc := 125) C dX3_readAtom_125 rfl ?_
          obtain ⟨rfl, rfl⟩ := gs_i2 h
          exact gs_zret (pc := 126) C (by decide) dX3_readAtom_126 E
      · replace h := gs_iff c6 h
        refine gs_aload_n (pc := 88) C 2 dX3_readAtom_88 rfl rfl ?_
        refine gs_getq (pc := 89) C dX3_readAtom_89 gk_3 fl_X3_9 sh_104 rfl ?_
        obtain ⟨M15, e16, h⟩ := gs_o1 h
        refine gs_callVv (pc := 92) C [] dX3_readAtom_92 ml_X3_37 wy_X7_step (a_X7_step _ e16) (by omega) sh_1 (by decide) rfl rfl (Nat.le_of_ble_eq_true rfl) rfl ?_
        refine gs_aload_n (pc := 95) C 2 dX3_readAtom_95 rfl rfl ?_
        obtain ⟨r17, e18, h⟩ := gs_o1 h
        refine gs_getmW (pc := 96) C dX3_readAtom_96 gk_3 fl_X3_15 sh_104 rfl e18 ?_
        refine gs_sipush (w := 10000) (pc := 99) C dX3_readAtom_99 rfl ?_
        refine gs_iload_n (pc := 102) C 0 dX3_readAtom_102 rfl rfl ?_
        refine gs_iadd (pc := 103) C dX3_readAtom_103 ?_
        obtain ⟨M19, e20, h⟩ := gs_o1 h
        refine gs_callVv (pc := 104) C [.int ((10000 : Int32) + (gs_spot 2 ((Int32.toUInt32 v1 % 65536).toInt32)))] dX3_readAtom_104 ml_X3_81 wy_X2_put (a_X2_put _ (gs_ckW_law e18) e20) (by omega) (gs_law_sh (gs_ckW_law e18)).1 (by decide) rfl rfl (Nat.le_of_ble_eq_true rfl) rfl ?_
        refine gs_iconst (w := 1) (pc := 107) C dX3_readAtom_107 rfl ?_
        obtain ⟨rfl, rfl⟩ := gs_i2 h
        exact gs_zret (pc := 108) C (by decide) dX3_readAtom_108 E
    · replace h := gs_ift c5 h
      refine gs_iload_n (pc := 27) C 2 dX3_readAtom_27 rfl rfl ?_
      refine gs_bipush (w := 6) (pc := 28) C dX3_readAtom_28 rfl ?_
      refine gs_icmp_lt (pc := 30) C 41 dX3_readAtom_30 rfl (fun c21 => ?_) (fun c21 => ?_)
      · replace h := gs_ift c21 h
        refine gs_aload_n (pc := 41) C 1 dX3_readAtom_41 rfl rfl ?_
        refine gs_getq (pc := 42) C dX3_readAtom_42 gk_3 fl_X3_9 sh_104 rfl ?_
        obtain ⟨M22, e23, h⟩ := gs_o1 h
        refine gs_callVv (pc := 45) C [] dX3_readAtom_45 ml_X3_37 wy_X7_step (a_X7_step _ e23) (by omega) sh_1 (by decide) rfl rfl (Nat.le_of_ble_eq_true rfl) rfl ?_
        refine gs_aload_n (pc := 48) C 1 dX3_readAtom_48 rfl rfl ?_
        refine gs_iload_n (pc := 49) C 2 dX3_readAtom_49 rfl rfl ?_
        refine gs_iconst (w := 1) (pc := 50) C dX3_readAtom_50 rfl ?_
        refine gs_iadd (pc := 51) C dX3_readAtom_51 ?_
        obtain ⟨v24, M25, e26, h⟩ := gs_o2 h
        refine gs_callVi (pc := 52) C [.int (x1 + (1 : Int32))] dX3_readAtom_52 ml_X3_60 wy_X3_readSum (hG0 _ e26) (by omega) sh_104 (by decide) rfl rfl (Nat.le_of_ble_eq_true rfl) rfl ?_
        obtain ⟨y27, M28, e29, h⟩ := gs_o2 h
        have j30 : gs_AW X 75 [(0, .ref 104), (1, .int x1), (2, .int v1)] [.int y27] M28 L := by
          obtain ⟨z36, e37, h⟩ := gs_o1 h
          obtain ⟨rfl, rfl⟩ := gs_i2 h
          exact gs_zret' (pc := 75) C dX3_readAtom_75 e37 E
        refine gs_if_eq (pc := 55) C 74 dX3_readAtom_55 rfl (fun c31 => ?_) (fun c31 => ?_)
        · replace e29 := gs_ift c31 e29
          refine gs_iconst (w := 0) (pc := 74) C dX3_readAtom_74 rfl ?_
          obtain ⟨rfl, rfl⟩ := gs_i2 e29
          exact gs_sub [1, 2, 0] rfl (j30)
        · replace e29 := gs_iff c31 e29
          refine gs_aload_n (pc := 58) C 1 dX3_readAtom_58 rfl rfl ?_
          refine gs_getq (pc := 59) C dX3_readAtom_59 gk_3 fl_X3_9 sh_104 rfl ?_
          refine gs_bipush (w := 93) (pc := 62) C dX3_readAtom_62 rfl ?_
          obtain ⟨v32, M33, e34, e29⟩ := gs_o2 e29
          refine gs_callVi (pc := 64) C [.int (93 : Int32)] dX3_readAtom_64 ml_X3_46 wy_X7_take (a_X7_take _ e34) (by omega) sh_1 (by decide) rfl rfl (Nat.le_of_ble_eq_true rfl) rfl ?_
          refine gs_if_eq (pc := 67) C 74 dX3_readAtom_67 rfl (fun c35 => ?_) (fun c35 => ?_)
          · replace e29 := gs_ift c35 e29
            refine gs_iconst (w := 0) (pc := 74) C dX3_readAtom_74 rfl ?_
            obtain ⟨rfl, rfl⟩ := gs_i2 e29
            exact gs_sub [1, 2, 0] rfl (j30)
          · replace e29 := gs_iff c35 e29
            refine gs_iconst (w := 1) (pc := 70) C dX3_readAtom_70 rfl ?_
            refine gs_goto (pc := 71) C 75 dX3_readAtom_71 rfl ?_
            obtain ⟨rfl, rfl⟩ := gs_i2 e29
            exact gs_sub [1, 2, 0] rfl (j30)
      · replace h := gs_iff c21 h
        refine gs_aload_n (pc := 33) C 1 dX3_readAtom_33 rfl rfl ?_
        refine gs_getq (pc := 34) C dX3_readAtom_34 gk_3 fl_X3_9 sh_104 rfl ?_
        obtain ⟨v38, M39, e40, h⟩ := gs_o2 h
        refine gs_callVi (pc := 37) C [] dX3_readAtom_37 ml_X3_40 wy_X7_fail (a_X7_fail _ e40) (by omega) sh_1 (by decide) rfl rfl (Nat.le_of_ble_eq_true rfl) rfl ?_
        obtain ⟨z41, e42, h⟩ := gs_o1 h
        obtain ⟨rfl, rfl⟩ := gs_i2 h
        exact gs_zret' (pc := 40) C dX3_readAtom_40 e42 E
  · replace h := gs_ift c4 h
    refine gs_aload_n (pc := 13) C 1 dX3_readAtom_13 rfl rfl ?_
    refine gs_getq (pc := 14) C dX3_readAtom_14 gk_3 fl_X3_9 sh_104 rfl ?_
    obtain ⟨v43, M44, e45, h⟩ := gs_o2 h
    refine gs_callVi (pc := 17) C [] dX3_readAtom_17 ml_X3_40 wy_X7_fail (a_X7_fail _ e45) (by omega) sh_1 (by decide) rfl rfl (Nat.le_of_ble_eq_true rfl) rfl ?_
    obtain ⟨z46, e47, h⟩ := gs_o1 h
    obtain ⟨rfl, rfl⟩ := gs_i2 h
    exact gs_zret' (pc := 20) C dX3_readAtom_20 e47 E
set_option maxRecDepth 100000 in
set_option maxHeartbeats 4000000 in
theorem a_X3_readCondition (l : Launch) {G : Nat → Int32 → gs_M → Option (Int32 × gs_M)} {n : Nat} (hnb : 8 ≤ n) (hG0 : ∀ (l : Launch) {x1 v : Int32} {M M1 : gs_M} {L : gs_L}, G 0 x1 M = some (v, M1) → gs_Met l n yX3_readSum cX3_readSum 5 (some .boolean) [.ref 104, .int x1] M L (some (.int v)) M1 L) (hG1 : ∀ (l : Launch) {x1 v : Int32} {M M1 : gs_M} {L : gs_L}, G 1 x1 M = some (v, M1) → gs_Met l n yX3_readTerm cX3_readTerm 5 (some .boolean) [.ref 104, .int x1] M L (some (.int v)) M1 L) (hG2 : ∀ (l : Launch) {x1 v : Int32} {M M1 : gs_M} {L : gs_L}, G 2 x1 M = some (v, M1) → gs_Met l n yX3_readAtom cX3_readAtom 5 (some .boolean) [.ref 104, .int x1] M L (some (.int v)) M1 L) (hG3 : ∀ (l : Launch) {x1 v : Int32} {M M1 : gs_M} {L : gs_L}, G 3 x1 M = some (v, M1) → gs_Met l n yX3_readCondition cX3_readCondition 2 (some .boolean) [.ref 104, .int x1] M L (some (.int v)) M1 L) (hG4 : ∀ (l : Launch) {x1 v : Int32} {M M1 : gs_M} {L : gs_L}, G 4 x1 M = some (v, M1) → gs_Met l n yX3_readTail cX3_readTail 4 (some .boolean) [.ref 104, .int x1] M L (some (.int v)) M1 L) (hG5 : ∀ (l : Launch) {x1 v : Int32} {M M1 : gs_M} {L : gs_L}, G 5 x1 M = some (v, M1) → gs_Met l n yX3_readTruthTail cX3_readTruthTail 4 (some .boolean) [.ref 104, .int x1] M L (some (.int v)) M1 L) (hG6 : ∀ (l : Launch) {x1 v : Int32} {M M1 : gs_M} {L : gs_L}, G 6 x1 M = some (v, M1) → gs_Met l n yX3_readUnit cX3_readUnit 4 (some .boolean) [.ref 104, .int x1] M L (some (.int v)) M1 L) (hG7 : ∀ (l : Launch) {x1 v : Int32} {M M1 : gs_M} {L : gs_L}, G 7 x1 M = some (v, M1) → gs_Met l n yX3_readComparison cX3_readComparison 4 (some .boolean) [.ref 104, .int x1] M L (some (.int v)) M1 L) {M : gs_M} {L : gs_L} {x1 : Int32} {rv : Int32} {Mz : gs_M} (h : f_X3_readCondition G M x1 = some (rv, Mz)) : gs_Met l (n + 1) yX3_readCondition cX3_readCondition 2 (some .boolean) [.ref 104, .int x1] M L (some (.int rv)) Mz L := by
  unfold f_X3_readCondition at h
  refine gs_of RX3 (by decide) rfl (Nat.le_of_ble_eq_true rfl) (fun X C E => ?_)
  show gs_AW X 0 [(0, .ref 104), (1, .int x1)] [] M L
  refine gs_aload_n (pc := 0) C 0 dX3_readCondition_0 rfl rfl ?_
  refine gs_iload_n (pc := 1) C 1 dX3_readCondition_1 rfl rfl ?_
  obtain ⟨v1, M2, e3, h⟩ := gs_o2 h
  refine gs_callVi (pc := 2) C [.int x1] dX3_readCondition_2 ml_X3_75 wy_X3_readUnit (hG6 _ e3) (by omega) sh_104 (by decide) rfl rfl (Nat.le_of_ble_eq_true rfl) rfl ?_
  obtain ⟨y4, M5, e6, h⟩ := gs_o2 h
  have j7 : gs_AW X 21 [(0, .ref 104), (1, .int x1)] [.int y4] M5 L := by
    obtain ⟨z13, e14, h⟩ := gs_o1 h
    obtain ⟨rfl, rfl⟩ := gs_i2 h
    exact gs_zret' (pc := 21) C dX3_readCondition_21 e14 E
  refine gs_if_eq (pc := 5) C 20 dX3_readCondition_5 rfl (fun c8 => ?_) (fun c8 => ?_)
  · replace e6 := gs_ift c8 e6
    refine gs_iconst (w := 0) (pc := 20) C dX3_readCondition_20 rfl ?_
    obtain ⟨rfl, rfl⟩ := gs_i2 e6
    exact j7
  · replace e6 := gs_iff c8 e6
    refine gs_aload_n (pc := 8) C 0 dX3_readCondition_8 rfl rfl ?_
    refine gs_iload_n (pc := 9) C 1 dX3_readCondition_9 rfl rfl ?_
    obtain ⟨v9, M10, e11, e6⟩ := gs_o2 e6
    refine gs_callVi (pc := 10) C [.int x1] dX3_readCondition_10 ml_X3_69 wy_X3_readTail (hG4 _ e11) (by omega) sh_104 (by decide) rfl rfl (Nat.le_of_ble_eq_true rfl) rfl ?_
    refine gs_if_eq (pc := 13) C 20 dX3_readCondition_13 rfl (fun c12 => ?_) (fun c12 => ?_)
    · replace e6 := gs_ift c12 e6
      refine gs_iconst (w := 0) (pc := 20) C dX3_readCondition_20 rfl ?_
      obtain ⟨rfl, rfl⟩ := gs_i2 e6
      exact j7
    · replace e6 := gs_iff c12 e6
      refine gs_iconst (w := 1) (pc := 16) C dX3_readCondition_16 rfl ?_
      refine gs_goto (pc := 17) C 21 dX3_readCondition_17 rfl ?_
      obtain ⟨rfl, rfl⟩ := gs_i2 e6
      exact j7
set_option maxRecDepth 100000 in
set_option maxHeartbeats 4000000 in
theorem t_X3_readTail_8 {X : gs_X} {G : Nat → Int32 → gs_M → Option (Int32 × gs_M)} {n : Nat} (hnb : 8 ≤ n) (hG0 : ∀ (l : Launch) {x1 v : Int32} {M M1 : gs_M} {L : gs_L}, G 0 x1 M = some (v, M1) → gs_Met l n yX3_readSum cX3_readSum 5 (some .boolean) [.ref 104, .int x1] M L (some (.int v)) M1 L) (hG1 : ∀ (l : Launch) {x1 v : Int32} {M M1 : gs_M} {L : gs_L}, G 1 x1 M = some (v, M1) → gs_Met l n yX3_readTerm cX3_readTerm 5 (some .boolean) [.ref 104, .int x1] M L (some (.int v)) M1 L) (hG2 : ∀ (l : Launch) {x1 v : Int32} {M M1 : gs_M} {L : gs_L}, G 2 x1 M = some (v, M1) → gs_Met l n yX3_readAtom cX3_readAtom 5 (some .boolean) [.ref 104, .int x1] M L (some (.int v)) M1 L) (hG3 : ∀ (l : Launch) {x1 v : Int32} {M M1 : gs_M} {L : gs_L}, G 3 x1 M = some (v, M1) → gs_Met l n yX3_readCondition cX3_readCondition 2 (some .boolean) [.ref 104, .int x1] M L (some (.int v)) M1 L) (hG4 : ∀ (l : Launch) {x1 v : Int32} {M M1 : gs_M} {L : gs_L}, G 4 x1 M = some (v, M1) → gs_Met l n yX3_readTail cX3_readTail 4 (some .boolean) [.ref 104, .int x1] M L (some (.int v)) M1 L) (hG5 : ∀ (l : Launch) {x1 v : Int32} {M M1 : gs_M} {L : gs_L}, G 5 x1 M = some (v, M1) → gs_Met l n yX3_readTruthTail cX3_readTruthTail 4 (some .boolean) [.ref 104, .int x1] M L (some (.int v)) M1 L) (hG6 : ∀ (l : Launch) {x1 v : Int32} {M M1 : gs_M} {L : gs_L}, G 6 x1 M = some (v, M1) → gs_Met l n yX3_readUnit cX3_readUnit 4 (some .boolean) [.ref 104, .int x1] M L (some (.int v)) M1 L) (hG7 : ∀ (l : Launch) {x1 v : Int32} {M M1 : gs_M} {L : gs_L}, G 7 x1 M = some (v, M1) → gs_Met l n yX3_readComparison cX3_readComparison 4 (some .boolean) [.ref 104, .int x1] M L (some (.int v)) M1 L) (C : gs_C X RX3 cX3_readTail 4 (some .boolean) (n + 1)) {L : gs_L} {x1 : Int32} {o2 : Int32} {o3 : Int32} {M' : gs_M} (k : gs_AW X 75 [(0, .ref 104), (1, .int x1), (2, .int o2), (3, .int o3)] [] M' L) : ∀ (f : Nat) (x2 : Int32) (x3 : Int32) (M : gs_M), l_X3_readTail_8 G x1 f x2 x3 M = some (o2, o3, M') → gs_AW X 8 [(0, .ref 104), (1, .int x1), (2, .int x2), (3, .int x3)] [] M L := by
  intro f
  induction f with
  | zero =>
    intro x2 x3 M h
    cases h
  | succ f ih =>
    intro x2 x3 M h
    rw [l_X3_readTail_8] at h
    refine gs_iload_n (pc := 8) C 3 dX3_readTail_8 rfl rfl ?_
    refine gs_sipush (w := 240) (pc := 9) C dX3_readTail_9 rfl ?_
    refine gs_icmp_ge (pc := 12) C 75 dX3_readTail_12 rfl (fun c1 => ?_) (fun c1 => ?_)
    · replace h := gs_ift c1 h
      obtain ⟨rfl, rfl, rfl⟩ := gs_i3 h
      exact k
    · replace h := gs_iff c1 h
      refine gs_iload_n (pc := 15) C 2 dX3_readTail_15 rfl rfl ?_
      refine gs_if_eq (pc := 16) C 75 dX3_readTail_16 rfl (fun c2 => ?_) (fun c2 => ?_)
      · replace h := gs_ift c2 h
        obtain ⟨rfl, rfl, rfl⟩ := gs_i3 h
        exact k
      · replace h := gs_iff c2 h
        refine gs_aload_n (pc := 19) C 0 dX3_readTail_19 rfl rfl ?_
        refine gs_getq (pc := 20) C dX3_readTail_20 gk_3 fl_X3_9 sh_104 rfl ?_
        obtain ⟨v3, M4, e5, h⟩ := gs_o2 h
        refine gs_callVi (pc := 23) C [] dX3_readTail_23 ml_X3_33 wy_X7_look (a_X7_look _ e5) (by omega) sh_1 (by decide) rfl rfl (Nat.le_of_ble_eq_true rfl) rfl ?_
        refine gs_bipush (w := 124) (pc := 26) C dX3_readTail_26 rfl ?_
        refine gs_icmp_ne (pc := 28) C 75 dX3_readTail_28 rfl (fun c6 => ?_) (fun c6 => ?_)
        · replace h := gs_iff c6 h
          obtain ⟨rfl, rfl, rfl⟩ := gs_i3 h
          exact k
        · replace h := gs_ift c6 h
          refine gs_aload_n (pc := 31) C 0 dX3_readTail_31 rfl rfl ?_
          refine gs_getq (pc := 32) C dX3_readTail_32 gk_3 fl_X3_9 sh_104 rfl ?_
          obtain ⟨M7, e8, h⟩ := gs_o1 h
          refine gs_callVv (pc := 35) C [] dX3_readTail_35 ml_X3_37 wy_X7_step (a_X7_step _ e8) (by omega) sh_1 (by decide) rfl rfl (Nat.le_of_ble_eq_true rfl) rfl ?_
          refine gs_aload_n (pc := 38) C 0 dX3_readTail_38 rfl rfl ?_
          refine gs_iload_n (pc := 39) C 1 dX3_readTail_39 rfl rfl ?_
          obtain ⟨v9, M10, e11, h⟩ := gs_o2 h
          refine gs_callVi (pc := 40) C [.int x1] dX3_readTail_40 ml_X3_75 wy_X3_readUnit (hG6 _ e11) (by omega) sh_104 (by decide) rfl rfl (Nat.le_of_ble_eq_true rfl) rfl ?_
          obtain ⟨y12, M13, e14, h⟩ := gs_o2 h
          have j15 : gs_AW X 59 [(0, .ref 104), (1, .int x1), (2, .int x2), (3, .int x3)] [.int y12] M13 L := by
            refine gs_istore_n (ls' := [(2, .int y12), (0, .ref 104), (1, .int x1), (3, .int x3)]) (pc := 59) C dX3_readTail_59 rfl (by decide) rfl ?_
            refine gs_aload_n (pc := 60) C 1 dX3_readTail_60 rfl rfl ?_
            obtain ⟨r21, e22, h⟩ := gs_o1 h
            refine gs_getmW (pc := 61) C dX3_readTail_61 gk_3 fl_X3_15 sh_104 rfl e22 ?_
            refine gs_bipush (w := (-124)) (pc := 64) C dX3_readTail_64 rfl ?_
            obtain ⟨M23, e24, h⟩ := gs_o1 h
            refine gs_callVv (pc := 66) C [.int (-124 : Int32)] dX3_readTail_66 ml_X3_81 wy_X2_put (a_X2_put _ (gs_ckW_law e22) e24) (by omega) (gs_law_sh (gs_ckW_law e22)).1 (by decide) rfl rfl (Nat.le_of_ble_eq_true rfl) rfl ?_
            refine gs_iinc (v := x3 + (1 : Int32)) (ls' := [(3, .int (x3 + (1 : Int32))), (2, .int y12), (0, .ref 104), (1, .int x1)]) (pc := 69) C 3 dX3_readTail_69 rfl rfl (by decide) rfl ?_
            refine gs_goto (pc := 72) C 8 dX3_readTail_72 rfl ?_
            exact gs_sub [2, 3, 1, 0] rfl (ih _ _ _ h)
          refine gs_if_eq (pc := 43) C 58 dX3_readTail_43 rfl (fun c16 => ?_) (fun c16 => ?_)
          · replace e14 := gs_ift c16 e14
            refine gs_iconst (w := 0) (pc := 58) C dX3_readTail_58 rfl ?_
            obtain ⟨rfl, rfl⟩ := gs_i2 e14
            exact j15
          · replace e14 := gs_iff c16 e14
            refine gs_aload_n (pc := 46) C 0 dX3_readTail_46 rfl rfl ?_
            refine gs_iload_n (pc := 47) C 1 dX3_readTail_47 rfl rfl ?_
            obtain ⟨v17, M18, e19, e14⟩ := gs_o2 e14
            refine gs_callVi (pc := 48) C [.int x1] dX3_readTail_48 ml_X3_78 wy_X3_readTruthTail (hG5 _ e19) (by omega) sh_104 (by decide) rfl rfl (Nat.le_of_ble_eq_true rfl) rfl ?_
            refine gs_if_eq (pc := 51) C 58 dX3_readTail_51 rfl (fun c20 => ?_) (fun c20 => ?_)
            · replace e14 := gs_ift c20 e14
              refine gs_iconst (w := 0) (pc := 58) C dX3_readTail_58 rfl ?_
              obtain ⟨rfl, rfl⟩ := gs_i2 e14
              exact j15
            · replace e14 := gs_iff c20 e14
              refine gs_iconst (w := 1) (pc := 54) C dX3_readTail_54 rfl ?_
              refine gs_goto (pc := 55) C 59 dX3_readTail_55 rfl ?_
              obtain ⟨rfl, rfl⟩ := gs_i2 e14
              exact j15
set_option maxRecDepth 100000 in
set_option maxHeartbeats 4000000 in
theorem a_X3_readTail (l : Launch) {G : Nat → Int32 → gs_M → Option (Int32 × gs_M)} {n : Nat} (hnb : 8 ≤ n) (hG0 : ∀ (l : Launch) {x1 v : Int32} {M M1 : gs_M} {L : gs_L}, G 0 x1 M = some (v, M1) → gs_Met l n yX3_readSum cX3_readSum 5 (some .boolean) [.ref 104, .int x1] M L (some (.int v)) M1 L) (hG1 : ∀ (l : Launch) {x1 v : Int32} {M M1 : gs_M} {L : gs_L}, G 1 x1 M = some (v, M1) → gs_Met l n yX3_readTerm cX3_readTerm 5 (some .boolean) [.ref 104, .int x1] M L (some (.int v)) M1 L) (hG2 : ∀ (l : Launch) {x1 v : Int32} {M M1 : gs_M} {L : gs_L}, G 2 x1 M = some (v, M1) → gs_Met l n yX3_readAtom cX3_readAtom 5 (some .boolean) [.ref 104, .int x1] M L (some (.int v)) M1 L) (hG3 : ∀ (l : Launch) {x1 v : Int32} {M M1 : gs_M} {L : gs_L}, G 3 x1 M = some (v, M1) → gs_Met l n yX3_readCondition cX3_readCondition 2 (some .boolean) [.ref 104, .int x1] M L (some (.int v)) M1 L) (hG4 : ∀ (l : Launch) {x1 v : Int32} {M M1 : gs_M} {L : gs_L}, G 4 x1 M = some (v, M1) → gs_Met l n yX3_readTail cX3_readTail 4 (some .boolean) [.ref 104, .int x1] M L (some (.int v)) M1 L) (hG5 : ∀ (l : Launch) {x1 v : Int32} {M M1 : gs_M} {L : gs_L}, G 5 x1 M = some (v, M1) → gs_Met l n yX3_readTruthTail cX3_readTruthTail 4 (some .boolean) [.ref 104, .int x1] M L (some (.int v)) M1 L) (hG6 : ∀ (l : Launch) {x1 v : Int32} {M M1 : gs_M} {L : gs_L}, G 6 x1 M = some (v, M1) → gs_Met l n yX3_readUnit cX3_readUnit 4 (some .boolean) [.ref 104, .int x1] M L (some (.int v)) M1 L) (hG7 : ∀ (l : Launch) {x1 v : Int32} {M M1 : gs_M} {L : gs_L}, G 7 x1 M = some (v, M1) → gs_Met l n yX3_readComparison cX3_readComparison 4 (some .boolean) [.ref 104, .int x1] M L (some (.int v)) M1 L) {M : gs_M} {L : gs_L} {x1 : Int32} {rv : Int32} {Mz : gs_M} (h : f_X3_readTail G M x1 = some (rv, Mz)) : gs_Met l (n + 1) yX3_readTail cX3_readTail 4 (some .boolean) [.ref 104, .int x1] M L (some (.int rv)) Mz L := by
  unfold f_X3_readTail at h
  refine gs_of RX3 (by decide) rfl (Nat.le_of_ble_eq_true rfl) (fun X C E => ?_)
  show gs_AW X 0 [(0, .ref 104), (1, .int x1)] [] M L
  refine gs_aload_n (pc := 0) C 0 dX3_readTail_0 rfl rfl ?_
  refine gs_iload_n (pc := 1) C 1 dX3_readTail_1 rfl rfl ?_
  obtain ⟨v1, M2, e3, h⟩ := gs_o2 h
  refine gs_callVi (pc := 2) C [.int x1] dX3_readTail_2 ml_X3_78 wy_X3_readTruthTail (hG5 _ e3) (by omega) sh_104 (by decide) rfl rfl (Nat.le_of_ble_eq_true rfl) rfl ?_
  refine gs_istore_n (ls' := [(2, .int v1), (0, .ref 104), (1, .int x1)]) (pc := 5) C dX3_readTail_5 rfl (by decide) rfl ?_
  refine gs_iconst (w := 0) (pc := 6) C dX3_readTail_6 rfl ?_
  refine gs_istore_n (ls' := [(3, .int (0 : Int32)), (2, .int v1), (0, .ref 104), (1, .int x1)]) (pc := 7) C dX3_readTail_7 rfl (by decide) rfl ?_
  obtain ⟨y4, y5, M6, e7, h⟩ := gs_o3 h
  refine gs_sub [2, 3, 1, 0] rfl (t_X3_readTail_8 hnb hG0 hG1 hG2 hG3 hG4 hG5 hG6 hG7 C ?_ gs_FU _ _ _ e7)
  refine gs_iload_n (pc := 75) C 2 dX3_readTail_75 rfl rfl ?_
  obtain ⟨z8, e9, h⟩ := gs_o1 h
  obtain ⟨rfl, rfl⟩ := gs_i2 h
  exact gs_zret' (pc := 76) C dX3_readTail_76 e9 E
set_option maxRecDepth 100000 in
set_option maxHeartbeats 4000000 in
theorem t_X3_readTruthTail_4 {X : gs_X} {G : Nat → Int32 → gs_M → Option (Int32 × gs_M)} {n : Nat} (hnb : 8 ≤ n) (hG0 : ∀ (l : Launch) {x1 v : Int32} {M M1 : gs_M} {L : gs_L}, G 0 x1 M = some (v, M1) → gs_Met l n yX3_readSum cX3_readSum 5 (some .boolean) [.ref 104, .int x1] M L (some (.int v)) M1 L) (hG1 : ∀ (l : Launch) {x1 v : Int32} {M M1 : gs_M} {L : gs_L}, G 1 x1 M = some (v, M1) → gs_Met l n yX3_readTerm cX3_readTerm 5 (some .boolean) [.ref 104, .int x1] M L (some (.int v)) M1 L) (hG2 : ∀ (l : Launch) {x1 v : Int32} {M M1 : gs_M} {L : gs_L}, G 2 x1 M = some (v, M1) → gs_Met l n yX3_readAtom cX3_readAtom 5 (some .boolean) [.ref 104, .int x1] M L (some (.int v)) M1 L) (hG3 : ∀ (l : Launch) {x1 v : Int32} {M M1 : gs_M} {L : gs_L}, G 3 x1 M = some (v, M1) → gs_Met l n yX3_readCondition cX3_readCondition 2 (some .boolean) [.ref 104, .int x1] M L (some (.int v)) M1 L) (hG4 : ∀ (l : Launch) {x1 v : Int32} {M M1 : gs_M} {L : gs_L}, G 4 x1 M = some (v, M1) → gs_Met l n yX3_readTail cX3_readTail 4 (some .boolean) [.ref 104, .int x1] M L (some (.int v)) M1 L) (hG5 : ∀ (l : Launch) {x1 v : Int32} {M M1 : gs_M} {L : gs_L}, G 5 x1 M = some (v, M1) → gs_Met l n yX3_readTruthTail cX3_readTruthTail 4 (some .boolean) [.ref 104, .int x1] M L (some (.int v)) M1 L) (hG6 : ∀ (l : Launch) {x1 v : Int32} {M M1 : gs_M} {L : gs_L}, G 6 x1 M = some (v, M1) → gs_Met l n yX3_readUnit cX3_readUnit 4 (some .boolean) [.ref 104, .int x1] M L (some (.int v)) M1 L) (hG7 : ∀ (l : Launch) {x1 v : Int32} {M M1 : gs_M} {L : gs_L}, G 7 x1 M = some (v, M1) → gs_Met l n yX3_readComparison cX3_readComparison 4 (some .boolean) [.ref 104, .int x1] M L (some (.int v)) M1 L) (C : gs_C X RX3 cX3_readTruthTail 4 (some .boolean) (n + 1)) {L : gs_L} {x1 : Int32} {o2 : Int32} {o3 : Int32} {M' : gs_M} (k : gs_AW X 55 [(0, .ref 104), (1, .int x1), (2, .int o2), (3, .int o3)] [] M' L) : ∀ (f : Nat) (x2 : Int32) (x3 : Int32) (M : gs_M), l_X3_readTruthTail_4 G x1 f x2 x3 M = some (o2, o3, M') → gs_AW X 4 [(0, .ref 104), (1, .int x1), (2, .int x2), (3, .int x3)] [] M L := by
  intro f
  induction f with
  | zero =>
    intro x2 x3 M h
    cases h
  | succ f ih =>
    intro x2 x3 M h
    rw [l_X3_readTruthTail_4] at h
    refine gs_iload_n (pc := 4) C 3 dX3_readTruthTail_4 rfl rfl ?_
    refine gs_sipush (w := 240) (pc := 5) C dX3_readTruthTail_5 rfl ?_
    refine gs_icmp_ge (pc := 8) C 55 dX3_readTruthTail_8 rfl (fun c1 => ?_) (fun c1 => ?_)
    · replace h := gs_ift c1 h
      obtain ⟨rfl, rfl, rfl⟩ := gs_i3 h
      exact k
    · replace h := gs_iff c1 h
      refine gs_iload_n (pc := 11) C 2 dX3_readTruthTail_11 rfl rfl ?_
      refine gs_if_eq (pc := 12) C 55 dX3_readTruthTail_12 rfl (fun c2 => ?_) (fun c2 => ?_)
      · replace h := gs_ift c2 h
        obtain ⟨rfl, rfl, rfl⟩ := gs_i3 h
        exact k
      · replace h := gs_iff c2 h
        refine gs_aload_n (pc := 15) C 0 dX3_readTruthTail_15 rfl rfl ?_
        refine gs_getq (pc := 16) C dX3_readTruthTail_16 gk_3 fl_X3_9 sh_104 rfl ?_
        obtain ⟨v3, M4, e5, h⟩ := gs_o2 h
        refine gs_callVi (pc := 19) C [] dX3_readTruthTail_19 ml_X3_33 wy_X7_look (a_X7_look _ e5) (by omega) sh_1 (by decide) rfl rfl (Nat.le_of_ble_eq_true rfl) rfl ?_
        refine gs_bipush (w := 38) (pc := 22) C dX3_readTruthTail_22 rfl ?_
        refine gs_icmp_ne (pc := 24) C 55 dX3_readTruthTail_24 rfl (fun c6 => ?_) (fun c6 => ?_)
        · replace h := gs_iff c6 h
          obtain ⟨rfl, rfl, rfl⟩ := gs_i3 h
          exact k
        · replace h := gs_ift c6 h
          refine gs_aload_n (pc := 27) C 0 dX3_readTruthTail_27 rfl rfl ?_
          refine gs_getq (pc := 28) C dX3_readTruthTail_28 gk_3 fl_X3_9 sh_104 rfl ?_
          obtain ⟨M7, e8, h⟩ := gs_o1 h
          refine gs_callVv (pc := 31) C [] dX3_readTruthTail_31 ml_X3_37 wy_X7_step (a_X7_step _ e8) (by omega) sh_1 (by decide) rfl rfl (Nat.le_of_ble_eq_true rfl) rfl ?_
          refine gs_aload_n (pc := 34) C 0 dX3_readTruthTail_34 rfl rfl ?_
          refine gs_iload_n (pc := 35) C 1 dX3_readTruthTail_35 rfl rfl ?_
          obtain ⟨v9, M10, e11, h⟩ := gs_o2 h
          refine gs_callVi (pc := 36) C [.int x1] dX3_readTruthTail_36 ml_X3_75 wy_X3_readUnit (hG6 _ e11) (by omega) sh_104 (by decide) rfl rfl (Nat.le_of_ble_eq_true rfl) rfl ?_
          refine gs_istore_n (ls' := [(2, .int v9), (0, .ref 104), (1, .int x1), (3, .int x3)]) (pc := 39) C dX3_readTruthTail_39 rfl (by decide) rfl ?_
          refine gs_aload_n (pc := 40) C 1 dX3_readTruthTail_40 rfl rfl ?_
          obtain ⟨r12, e13, h⟩ := gs_o1 h
          refine gs_getmW (pc := 41) C dX3_readTruthTail_41 gk_3 fl_X3_15 sh_104 rfl e13 ?_
          refine gs_bipush (w := (-38)) (pc := 44) C dX3_readTruthTail_44 rfl ?_
          obtain ⟨M14, e15, h⟩ := gs_o1 h
          refine gs_callVv (pc := 46) C [.int (-38 : Int32)] dX3_readTruthTail_46 ml_X3_81 wy_X2_put (a_X2_put _ (gs_ckW_law e13) e15) (by omega) (gs_law_sh (gs_ckW_law e13)).1 (by decide) rfl rfl (Nat.le_of_ble_eq_true rfl) rfl ?_
          refine gs_iinc (v := x3 + (1 : Int32)) (ls' := [(3, .int (x3 + (1 : Int32))), (2, .int v9), (0, .ref 104), (1, .int x1)]) (pc := 49) C 3 dX3_readTruthTail_49 rfl rfl (by decide) rfl ?_
          refine gs_goto (pc := 52) C 4 dX3_readTruthTail_52 rfl ?_
          exact gs_sub [2, 3, 1, 0] rfl (ih _ _ _ h)
set_option maxRecDepth 100000 in
set_option maxHeartbeats 4000000 in
theorem a_X3_readTruthTail (l : Launch) {G : Nat → Int32 → gs_M → Option (Int32 × gs_M)} {n : Nat} (hnb : 8 ≤ n) (hG0 : ∀ (l : Launch) {x1 v : Int32} {M M1 : gs_M} {L : gs_L}, G 0 x1 M = some (v, M1) → gs_Met l n yX3_readSum cX3_readSum 5 (some .boolean) [.ref 104, .int x1] M L (some (.int v)) M1 L) (hG1 : ∀ (l : Launch) {x1 v : Int32} {M M1 : gs_M} {L : gs_L}, G 1 x1 M = some (v, M1) → gs_Met l n yX3_readTerm cX3_readTerm 5 (some .boolean) [.ref 104, .int x1] M L (some (.int v)) M1 L) (hG2 : ∀ (l : Launch) {x1 v : Int32} {M M1 : gs_M} {L : gs_L}, G 2 x1 M = some (v, M1) → gs_Met l n yX3_readAtom cX3_readAtom 5 (some .boolean) [.ref 104, .int x1] M L (some (.int v)) M1 L) (hG3 : ∀ (l : Launch) {x1 v : Int32} {M M1 : gs_M} {L : gs_L}, G 3 x1 M = some (v, M1) → gs_Met l n yX3_readCondition cX3_readCondition 2 (some .boolean) [.ref 104, .int x1] M L (some (.int v)) M1 L) (hG4 : ∀ (l : Launch) {x1 v : Int32} {M M1 : gs_M} {L : gs_L}, G 4 x1 M = some (v, M1) → gs_Met l n yX3_readTail cX3_readTail 4 (some .boolean) [.ref 104, .int x1] M L (some (.int v)) M1 L) (hG5 : ∀ (l : Launch) {x1 v : Int32} {M M1 : gs_M} {L : gs_L}, G 5 x1 M = some (v, M1) → gs_Met l n yX3_readTruthTail cX3_readTruthTail 4 (some .boolean) [.ref 104, .int x1] M L (some (.int v)) M1 L) (hG6 : ∀ (l : Launch) {x1 v : Int32} {M M1 : gs_M} {L : gs_L}, G 6 x1 M = some (v, M1) → gs_Met l n yX3_readUnit cX3_readUnit 4 (some .boolean) [.ref 104, .int x1] M L (some (.int v)) M1 L) (hG7 : ∀ (l : Launch) {x1 v : Int32} {M M1 : gs_M} {L : gs_L}, G 7 x1 M = some (v, M1) → gs_Met l n yX3_readComparison cX3_readComparison 4 (some .boolean) [.ref 104, .int x1] M L (some (.int v)) M1 L) {M : gs_M} {L : gs_L} {x1 : Int32} {rv : Int32} {Mz : gs_M} (h : f_X3_readTruthTail G M x1 = some (rv, Mz)) : gs_Met l (n + 1) yX3_readTruthTail cX3_readTruthTail 4 (some .boolean) [.ref 104, .int x1] M L (some (.int rv)) Mz L := by
  unfold f_X3_readTruthTail at h
  refine gs_of RX3 (by decide) rfl (Nat.le_of_ble_eq_true rfl) (fun X C E => ?_)
  show gs_AW X 0 [(0, .ref 104), (1, .int x1)] [] M L
  refine gs_iconst (w := 1) (pc := 0) C dX3_readTruthTail_0 rfl ?_
  refine gs_istore_n (ls' := [(2, .int (1 : Int32)), (0, .ref 104), (1, .int x1)]) (pc := 1) C dX3_readTruthTail_1 rfl (by decide) rfl ?_
  refine gs_iconst (w := 0) (pc := 2) C dX3_readTruthTail_2 rfl ?_
  refine gs_istore_n (ls' := [(3, .int (0 : Int32)), (2, .int (1 : Int32)), (0, .ref 104), (1, .int x1)]) (pc := 3) C dX3_readTruthTail_3 rfl (by decide) rfl ?_
  obtain ⟨y1, y2, M3, e4, h⟩ := gs_o3 h
  refine gs_sub [2, 3, 1, 0] rfl (t_X3_readTruthTail_4 hnb hG0 hG1 hG2 hG3 hG4 hG5 hG6 hG7 C ?_ gs_FU _ _ _ e4)
  refine gs_iload_n (pc := 55) C 2 dX3_readTruthTail_55 rfl rfl ?_
  obtain ⟨z5, e6, h⟩ := gs_o1 h
  obtain ⟨rfl, rfl⟩ := gs_i2 h
  exact gs_zret' (pc := 56) C dX3_readTruthTail_56 e6 E
set_option maxRecDepth 100000 in
set_option maxHeartbeats 4000000 in
theorem a_X3_readUnit (l : Launch) {G : Nat → Int32 → gs_M → Option (Int32 × gs_M)} {n : Nat} (hnb : 8 ≤ n) (hG0 : ∀ (l : Launch) {x1 v : Int32} {M M1 : gs_M} {L : gs_L}, G 0 x1 M = some (v, M1) → gs_Met l n yX3_readSum cX3_readSum 5 (some .boolean) [.ref 104, .int x1] M L (some (.int v)) M1 L) (hG1 : ∀ (l : Launch) {x1 v : Int32} {M M1 : gs_M} {L : gs_L}, G 1 x1 M = some (v, M1) → gs_Met l n yX3_readTerm cX3_readTerm 5 (some .boolean) [.ref 104, .int x1] M L (some (.int v)) M1 L) (hG2 : ∀ (l : Launch) {x1 v : Int32} {M M1 : gs_M} {L : gs_L}, G 2 x1 M = some (v, M1) → gs_Met l n yX3_readAtom cX3_readAtom 5 (some .boolean) [.ref 104, .int x1] M L (some (.int v)) M1 L) (hG3 : ∀ (l : Launch) {x1 v : Int32} {M M1 : gs_M} {L : gs_L}, G 3 x1 M = some (v, M1) → gs_Met l n yX3_readCondition cX3_readCondition 2 (some .boolean) [.ref 104, .int x1] M L (some (.int v)) M1 L) (hG4 : ∀ (l : Launch) {x1 v : Int32} {M M1 : gs_M} {L : gs_L}, G 4 x1 M = some (v, M1) → gs_Met l n yX3_readTail cX3_readTail 4 (some .boolean) [.ref 104, .int x1] M L (some (.int v)) M1 L) (hG5 : ∀ (l : Launch) {x1 v : Int32} {M M1 : gs_M} {L : gs_L}, G 5 x1 M = some (v, M1) → gs_Met l n yX3_readTruthTail cX3_readTruthTail 4 (some .boolean) [.ref 104, .int x1] M L (some (.int v)) M1 L) (hG6 : ∀ (l : Launch) {x1 v : Int32} {M M1 : gs_M} {L : gs_L}, G 6 x1 M = some (v, M1) → gs_Met l n yX3_readUnit cX3_readUnit 4 (some .boolean) [.ref 104, .int x1] M L (some (.int v)) M1 L) (hG7 : ∀ (l : Launch) {x1 v : Int32} {M M1 : gs_M} {L : gs_L}, G 7 x1 M = some (v, M1) → gs_Met l n yX3_readComparison cX3_readComparison 4 (some .boolean) [.ref 104, .int x1] M L (some (.int v)) M1 L) {M : gs_M} {L : gs_L} {x1 : Int32} {rv : Int32} {Mz : gs_M} (h : f_X3_readUnit G M x1 = some (rv, Mz)) : gs_Met l (n + 1) yX3_readUnit cX3_readUnit 4 (some .boolean) [.ref 104, .int x1] M L (some (.int rv)) Mz L := by
  unfold f_X3_readUnit at h
  refine gs_of RX3 (by decide) rfl (Nat.le_of_ble_eq_true rfl) (fun X C E => ?_)
  show gs_AW X 0 [(0, .ref 104), (1, .int x1)] [] M L
  refine gs_aload_n (pc := 0) C 0 dX3_readUnit_0 rfl rfl ?_
  refine gs_getq (pc := 1) C dX3_readUnit_1 gk_3 fl_X3_9 sh_104 rfl ?_
  obtain ⟨v1, M2, e3, h⟩ := gs_o2 h
  refine gs_callVi (pc := 4) C [] dX3_readUnit_4 ml_X3_33 wy_X7_look (a_X7_look _ e3) (by omega) sh_1 (by decide) rfl rfl (Nat.le_of_ble_eq_true rfl) rfl ?_
  refine gs_istore_n (ls' := [(2, .int v1), (0, .ref 104), (1, .int x1)]) (pc := 7) C dX3_readUnit_7 rfl (by decide) rfl ?_
  refine gs_iload_n (pc := 8) C 0 dX3_readUnit_8 rfl rfl ?_
  refine gs_bipush (w := 33) (pc := 9) C dX3_readUnit_9 rfl ?_
  refine gs_icmp_eq (pc := 11) C 42 dX3_readUnit_11 rfl (fun c4 => ?_) (fun c4 => ?_)
  · replace h := gs_ift c4 h
    refine gs_iload_n (pc := 42) C 2 dX3_readUnit_42 rfl rfl ?_
    refine gs_bipush (w := 6) (pc := 43) C dX3_readUnit_43 rfl ?_
    refine gs_icmp_lt (pc := 45) C 56 dX3_readUnit_45 rfl (fun c5 => ?_) (fun c5 => ?_)
    · replace h := gs_ift c5 h
      refine gs_aload_n (pc := 56) C 1 dX3_readUnit_56 rfl rfl ?_
      refine gs_getq (pc := 57) C dX3_readUnit_57 gk_3 fl_X3_9 sh_104 rfl ?_
      obtain ⟨M6, e7, h⟩ := gs_o1 h
      refine gs_callVv (pc := 60) C [] dX3_readUnit_60 ml_X3_37 wy_X7_step (a_X7_step _ e7) (by omega) sh_1 (by decide) rfl rfl (Nat.le_of_ble_eq_true rfl) rfl ?_
      refine gs_iload_n (pc := 63) C 0 dX3_readUnit_63 rfl rfl ?_
      refine gs_bipush (w := 40) (pc := 64) C dX3_readUnit_64 rfl ?_
      refine gs_icmp_ne (pc := 66) C 97 dX3_readUnit_66 rfl (fun c8 => ?_) (fun c8 => ?_)
      · replace h := gs_iff c8 h
        refine gs_aload_n (pc := 97) C 1 dX3_readUnit_97 rfl rfl ?_
        refine gs_iload_n (pc := 98) C 2 dX3_readUnit_98 rfl rfl ?_
        refine gs_iconst (w := 1) (pc := 99) C dX3_readUnit_99 rfl ?_
        refine gs_iadd (pc := 100) C dX3_readUnit_100 ?_
        obtain ⟨v9, M10, e11, h⟩ := gs_o2 h
        refine gs_callVi (pc := 101) C [.int (x1 + (1 : Int32))] dX3_readUnit_101 ml_X3_75 wy_X3_readUnit (hG6 _ e11) (by omega) sh_104 (by decide) rfl rfl (Nat.le_of_ble_eq_true rfl) rfl ?_
        refine gs_istore_n (ls' := [(3, .int v9), (2, .int v1), (0, .ref 104), (1, .int x1)]) (pc := 104) C dX3_readUnit_104 rfl (by decide) rfl ?_
        refine gs_aload_n (pc := 105) C 2 dX3_readUnit_105 rfl rfl ?_
        obtain ⟨r12, e13, h⟩ := gs_o1 h
        refine gs_getmW (pc := 106) C dX3_readUnit_106 gk_3 fl_X3_15 sh_104 rfl e13 ?_
        refine gs_bipush (w := (-33)) (pc := 109) C dX3_readUnit_109 rfl ?_
        obtain ⟨M14, e15, h⟩ := gs_o1 h
        refine gs_callVv (pc := 111) C [.int (-33 : Int32)] dX3_readUnit_111 ml_X3_81 wy_X2_put (a_X2_put _ (gs_ckW_law e13) e15) (by omega) (gs_law_sh (gs_ckW_law e13)).1 (by decide) rfl rfl (Nat.le_of_ble_eq_true rfl) rfl ?_
        refine gs_iload_n (pc := 114) C 0 dX3_readUnit_114 rfl rfl ?_
        obtain ⟨z16, e17, h⟩ := gs_o1 h
        obtain ⟨rfl, rfl⟩ := gs_i2 h
        exact gs_zret' (pc := 115) C dX3_readUnit_115 e17 E
      · replace h := gs_ift c8 h
        refine gs_aload_n (pc := 69) C 1 dX3_readUnit_69 rfl rfl ?_
        refine gs_iload_n (pc := 70) C 2 dX3_readUnit_70 rfl rfl ?_
        refine gs_iconst (w := 1) (pc := 71) C dX3_readUnit_71 rfl ?_
        refine gs_iadd (pc := 72) C dX3_readUnit_72 ?_
        obtain ⟨v18, M19, e20, h⟩ := gs_o2 h
        refine gs_callVi (pc := 73) C [.int (x1 + (1 : Int32))] dX3_readUnit_73 ml_X3_54 wy_X3_readCondition (hG3 _ e20) (by omega) sh_104 (by decide) rfl rfl (Nat.le_of_ble_eq_true rfl) rfl ?_
        obtain ⟨y21, M22, e23, h⟩ := gs_o2 h
        have j24 : gs_AW X 96 [(0, .ref 104), (1, .int x1), (2, .int v1)] [.int y21] M22 L := by
          obtain ⟨z30, e31, h⟩ := gs_o1 h
          obtain ⟨rfl, rfl⟩ := gs_i2 h
          exact gs_zret' (pc := 96) C dX3_readUnit_96 e31 E
        refine gs_if_eq (pc := 76) C 95 dX3_readUnit_76 rfl (fun c25 => ?_) (fun c25 => ?_)
        · replace e23 := gs_ift c25 e23
          refine gs_iconst (w := 0) (pc := 95) C dX3_readUnit_95 rfl ?_
          obtain ⟨rfl, rfl⟩ := gs_i2 e23
          exact gs_sub [1, 2, 0] rfl (j24)
        · replace e23 := gs_iff c25 e23
          refine gs_aload_n (pc := 79) C 1 dX3_readUnit_79 rfl rfl ?_
          refine gs_getq (pc := 80) C dX3_readUnit_80 gk_3 fl_X3_9 sh_104 rfl ?_
          refine gs_bipush (w := 41) (pc := 83) C dX3_readUnit_83 rfl ?_
          obtain ⟨v26, M27, e28, e23⟩ := gs_o2 e23
          refine gs_callVi (pc := 85) C [.int (41 : Int32)] dX3_readUnit_85 ml_X3_46 wy_X7_take (a_X7_take _ e28) (by omega) sh_1 (by decide) rfl rfl (Nat.le_of_ble_eq_true rfl) rfl ?_
          refine gs_if_eq (pc := 88) C 95 dX3_readUnit_88 rfl (fun c29 => ?_) (fun c29 => ?_)
          · replace e23 := gs_ift c29 e23
            refine gs_iconst (w := 0) (pc := 95) C dX3_readUnit_95 rfl ?_
            obtain ⟨rfl, rfl⟩ := gs_i2 e23
            exact gs_sub [1, 2, 0] rfl (j24)
          · replace e23 := gs_iff c29 e23
            refine gs_iconst (w := 1) (pc := 91) C dX3_readUnit_91 rfl ?_
            refine gs_goto (pc := 92) C 96 dX3_readUnit_92 rfl ?_
            obtain ⟨rfl, rfl⟩ := gs_i2 e23
            exact gs_sub [1, 2, 0] rfl (j24)
    · replace h := gs_iff c5 h
      refine gs_aload_n (pc := 48) C 1 dX3_readUnit_48 rfl rfl ?_
      refine gs_getq (pc := 49) C dX3_readUnit_49 gk_3 fl_X3_9 sh_104 rfl ?_
      obtain ⟨v32, M33, e34, h⟩ := gs_o2 h
      refine gs_callVi (pc := 52) C [] dX3_readUnit_52 ml_X3_40 wy_X7_fail (a_X7_fail _ e34) (by omega) sh_1 (by decide) rfl rfl (Nat.le_of_ble_eq_true rfl) rfl ?_
      obtain ⟨z35, e36, h⟩ := gs_o1 h
      obtain ⟨rfl, rfl⟩ := gs_i2 h
      exact gs_zret' (pc := 55) C dX3_readUnit_55 e36 E
  · replace h := gs_iff c4 h
    refine gs_iload_n (pc := 14) C 0 dX3_readUnit_14 rfl rfl ?_
    refine gs_bipush (w := 40) (pc := 15) C dX3_readUnit_15 rfl ?_
    refine gs_icmp_eq (pc := 17) C 42 dX3_readUnit_17 rfl (fun c37 => ?_) (fun c37 => ?_)
    · replace h := gs_ift c37 h
      refine gs_iload_n (pc := 42) C 2 dX3_readUnit_42 rfl rfl ?_
      refine gs_bipush (w := 6) (pc := 43) C dX3_readUnit_43 rfl ?_
      refine gs_icmp_lt (pc := 45) C 56 dX3_readUnit_45 rfl (fun c38 => ?_) (fun c38 => ?_)
      · replace h := gs_ift c38 h
        refine gs_aload_n (pc := 56) C 1 dX3_readUnit_56 rfl rfl ?_
        refine gs_getq (pc := 57) C dX3_readUnit_57 gk_3 fl_X3_9 sh_104 rfl ?_
        obtain ⟨M39, e40, h⟩ := gs_o1 h
        refine gs_callVv (pc := 60) C [] dX3_readUnit_60 ml_X3_37 wy_X7_step (a_X7_step _ e40) (by omega) sh_1 (by decide) rfl rfl (Nat.le_of_ble_eq_true rfl) rfl ?_
        refine gs_iload_n (pc := 63) C 0 dX3_readUnit_63 rfl rfl ?_
        refine gs_bipush (w := 40) (pc := 64) C dX3_readUnit_64 rfl ?_
        refine gs_icmp_ne (pc := 66) C 97 dX3_readUnit_66 rfl (fun c41 => ?_) (fun c41 => ?_)
        · replace h := gs_iff c41 h
          refine gs_aload_n (pc := 97) C 1 dX3_readUnit_97 rfl rfl ?_
          refine gs_iload_n (pc := 98) C 2 dX3_readUnit_98 rfl rfl ?_
          refine gs_iconst (w := 1) (pc := 99) C dX3_readUnit_99 rfl ?_
          refine gs_iadd (pc := 100) C dX3_readUnit_100 ?_
          obtain ⟨v42, M43, e44, h⟩ := gs_o2 h
          refine gs_callVi (pc := 101) C [.int (x1 + (1 : Int32))] dX3_readUnit_101 ml_X3_75 wy_X3_readUnit (hG6 _ e44) (by omega) sh_104 (by decide) rfl rfl (Nat.le_of_ble_eq_true rfl) rfl ?_
          refine gs_istore_n (ls' := [(3, .int v42), (2, .int v1), (0, .ref 104), (1, .int x1)]) (pc := 104) C dX3_readUnit_104 rfl (by decide) rfl ?_
          refine gs_aload_n (pc := 105) C 2 dX3_readUnit_105 rfl rfl ?_
          obtain ⟨r45, e46, h⟩ := gs_o1 h
          refine gs_getmW (pc := 106) C dX3_readUnit_106 gk_3 fl_X3_15 sh_104 rfl e46 ?_
          refine gs_bipush (w := (-33)) (pc := 109) C dX3_readUnit_109 rfl ?_
          obtain ⟨M47, e48, h⟩ := gs_o1 h
          refine gs_callVv (pc := 111) C [.int (-33 : Int32)] dX3_readUnit_111 ml_X3_81 wy_X2_put (a_X2_put _ (gs_ckW_law e46) e48) (by omega) (gs_law_sh (gs_ckW_law e46)).1 (by decide) rfl rfl (Nat.le_of_ble_eq_true rfl) rfl ?_
          refine gs_iload_n (pc := 114) C 0 dX3_readUnit_114 rfl rfl ?_
          obtain ⟨z49, e50, h⟩ := gs_o1 h
          obtain ⟨rfl, rfl⟩ := gs_i2 h
          exact gs_zret' (pc := 115) C dX3_readUnit_115 e50 E
        · replace h := gs_ift c41 h
          refine gs_aload_n (pc := 69) C 1 dX3_readUnit_69 rfl rfl ?_
          refine gs_iload_n (pc := 70) C 2 dX3_readUnit_70 rfl rfl ?_
          refine gs_iconst (w := 1) (pc := 71) C dX3_readUnit_71 rfl ?_
          refine gs_iadd (pc := 72) C dX3_readUnit_72 ?_
          obtain ⟨v51, M52, e53, h⟩ := gs_o2 h
          refine gs_callVi (pc := 73) C [.int (x1 + (1 : Int32))] dX3_readUnit_73 ml_X3_54 wy_X3_readCondition (hG3 _ e53) (by omega) sh_104 (by decide) rfl rfl (Nat.le_of_ble_eq_true rfl) rfl ?_
          obtain ⟨y54, M55, e56, h⟩ := gs_o2 h
          have j57 : gs_AW X 96 [(0, .ref 104), (1, .int x1), (2, .int v1)] [.int y54] M55 L := by
            obtain ⟨z63, e64, h⟩ := gs_o1 h
            obtain ⟨rfl, rfl⟩ := gs_i2 h
            exact gs_zret' (pc := 96) C dX3_readUnit_96 e64 E
          refine gs_if_eq (pc := 76) C 95 dX3_readUnit_76 rfl (fun c58 => ?_) (fun c58 => ?_)
          · replace e56 := gs_ift c58 e56
            refine gs_iconst (w := 0) (pc := 95) C dX3_readUnit_95 rfl ?_
            obtain ⟨rfl, rfl⟩ := gs_i2 e56
            exact gs_sub [1, 2, 0] rfl (j57)
          · replace e56 := gs_iff c58 e56
            refine gs_aload_n (pc := 79) C 1 dX3_readUnit_79 rfl rfl ?_
            refine gs_getq (pc := 80) C dX3_readUnit_80 gk_3 fl_X3_9 sh_104 rfl ?_
            refine gs_bipush (w := 41) (pc := 83) C dX3_readUnit_83 rfl ?_
            obtain ⟨v59, M60, e61, e56⟩ := gs_o2 e56
            refine gs_callVi (pc := 85) C [.int (41 : Int32)] dX3_readUnit_85 ml_X3_46 wy_X7_take (a_X7_take _ e61) (by omega) sh_1 (by decide) rfl rfl (Nat.le_of_ble_eq_true rfl) rfl ?_
            refine gs_if_eq (pc := 88) C 95 dX3_readUnit_88 rfl (fun c62 => ?_) (fun c62 => ?_)
            · replace e56 := gs_ift c62 e56
              refine gs_iconst (w := 0) (pc := 95) C dX3_readUnit_95 rfl ?_
              obtain ⟨rfl, rfl⟩ := gs_i2 e56
              exact gs_sub [1, 2, 0] rfl (j57)
            · replace e56 := gs_iff c62 e56
              refine gs_iconst (w := 1) (pc := 91) C dX3_readUnit_91 rfl ?_
              refine gs_goto (pc := 92) C 96 dX3_readUnit_92 rfl ?_
              obtain ⟨rfl, rfl⟩ := gs_i2 e56
              exact gs_sub [1, 2, 0] rfl (j57)
      · replace h := gs_iff c38 h
        refine gs_aload_n (pc := 48) C 1 dX3_readUnit_48 rfl rfl ?_
        refine gs_getq (pc := 49) C dX3_readUnit_49 gk_3 fl_X3_9 sh_104 rfl ?_
        obtain ⟨v65, M66, e67, h⟩ := gs_o2 h
        refine gs_callVi (pc := 52) C [] dX3_readUnit_52 ml_X3_40 wy_X7_fail (a_X7_fail _ e67) (by omega) sh_1 (by decide) rfl rfl (Nat.le_of_ble_eq_true rfl) rfl ?_
        obtain ⟨z68, e69, h⟩ := gs_o1 h
        obtain ⟨rfl, rfl⟩ := gs_i2 h
        exact gs_zret' (pc := 55) C dX3_readUnit_55 e69 E
    · replace h := gs_iff c37 h
      refine gs_aload_n (pc := 20) C 1 dX3_readUnit_20 rfl rfl ?_
      refine gs_iload_n (pc := 21) C 2 dX3_readUnit_21 rfl rfl ?_
      obtain ⟨v70, M71, e72, h⟩ := gs_o2 h
      refine gs_callVi (pc := 22) C [.int x1] dX3_readUnit_22 ml_X3_60 wy_X3_readSum (hG0 _ e72) (by omega) sh_104 (by decide) rfl rfl (Nat.le_of_ble_eq_true rfl) rfl ?_
      obtain ⟨y73, M74, e75, h⟩ := gs_o2 h
      have j76 : gs_AW X 41 [(0, .ref 104), (1, .int x1), (2, .int v1)] [.int y73] M74 L := by
        obtain ⟨z82, e83, h⟩ := gs_o1 h
        obtain ⟨rfl, rfl⟩ := gs_i2 h
        exact gs_zret' (pc := 41) C dX3_readUnit_41 e83 E
      refine gs_if_eq (pc := 25) C 40 dX3_readUnit_25 rfl (fun c77 => ?_) (fun c77 => ?_)
      · replace e75 := gs_ift c77 e75
        refine gs_iconst (w := 0) (pc := 40) C dX3_readUnit_40 rfl ?_
        obtain ⟨rfl, rfl⟩ := gs_i2 e75
        exact gs_sub [1, 2, 0] rfl (j76)
      · replace e75 := gs_iff c77 e75
        refine gs_aload_n (pc := 28) C 1 dX3_readUnit_28 rfl rfl ?_
        refine gs_iload_n (pc := 29) C 2 dX3_readUnit_29 rfl rfl ?_
        obtain ⟨v78, M79, e80, e75⟩ := gs_o2 e75
        refine gs_callVi (pc := 30) C [.int x1] dX3_readUnit_30 ml_X3_66 wy_X3_readComparison (hG7 _ e80) (by omega) sh_104 (by decide) rfl rfl (Nat.le_of_ble_eq_true rfl) rfl ?_
        refine gs_if_eq (pc := 33) C 40 dX3_readUnit_33 rfl (fun c81 => ?_) (fun c81 => ?_)
        · replace e75 := gs_ift c81 e75
          refine gs_iconst (w := 0) (pc := 40) C dX3_readUnit_40 rfl ?_
          obtain ⟨rfl, rfl⟩ := gs_i2 e75
          exact gs_sub [1, 2, 0] rfl (j76)
        · replace e75 := gs_iff c81 e75
          refine gs_iconst (w := 1) (pc := 36) C dX3_readUnit_36 rfl ?_
          refine gs_goto (pc := 37) C 41 dX3_readUnit_37 rfl ?_
          obtain ⟨rfl, rfl⟩ := gs_i2 e75
          exact gs_sub [1, 2, 0] rfl (j76)
