set_option maxRecDepth 100000 in
set_option maxHeartbeats 4000000 in
theorem a_X3_compares (l : Launch) {M : gs_M} {L : gs_L} {x0 : Int32} {rv : Int32} (h : f_X3_compares x0 = some (rv)) : gs_Met l 0 yX3_compares cX3_compares 1 (some .boolean) [.int x0] M L (some (.int rv)) M L := by
  unfold f_X3_compares at h
  refine gs_of RX3 (by decide) rfl (Nat.le_of_ble_eq_true rfl) (fun X C E => ?_)
  show gs_AW X 0 [(0, .int x0)] [] M L
  refine gs_iload_n (pc := 0) C 0 dX3_compares_0 rfl rfl ?_
  refine gs_bipush (w := 61) (pc := 1) C dX3_compares_1 rfl ?_
  have j3 : gs_AW X 23 [(0, .int x0)] [.int (if x0 = (61 : Int32) then (1 : Int32) else if x0 = (60 : Int32) then (1 : Int32) else if x0 = (62 : Int32) then (1 : Int32) else (0 : Int32) : Int32)] M L := by
    obtain ⟨z1, e2, h⟩ := gs_o1 h
    obtain rfl := gs_i1 h
    exact gs_zret' (pc := 23) C dX3_compares_23 e2 E
  refine gs_icmp_eq (pc := 3) C 18 dX3_compares_3 rfl (fun c4 => ?_) (fun c4 => ?_)
  · refine gs_iconst (w := 1) (pc := 18) C dX3_compares_18 rfl ?_
    refine gs_goto (pc := 19) C 23 dX3_compares_19 rfl ?_
    simp only [if_pos c4] at j3
    exact j3
  · refine gs_iload_n (pc := 6) C 0 dX3_compares_6 rfl rfl ?_
    refine gs_bipush (w := 60) (pc := 7) C dX3_compares_7 rfl ?_
    refine gs_icmp_eq (pc := 9) C 18 dX3_compares_9 rfl (fun c5 => ?_) (fun c5 => ?_)
    · refine gs_iconst (w := 1) (pc := 18) C dX3_compares_18 rfl ?_
      refine gs_goto (pc := 19) C 23 dX3_compares_19 rfl ?_
      simp only [if_neg c4, if_pos c5] at j3
      exact j3
    · refine gs_iload_n (pc := 12) C 0 dX3_compares_12 rfl rfl ?_
      refine gs_bipush (w := 62) (pc := 13) C dX3_compares_13 rfl ?_
      refine gs_icmp_ne (pc := 15) C 22 dX3_compares_15 rfl (fun c6 => ?_) (fun c6 => ?_)
      · refine gs_iconst (w := 0) (pc := 22) C dX3_compares_22 rfl ?_
        simp only [if_neg c4, if_neg c5, if_neg c6] at j3
        exact j3
      · refine gs_iconst (w := 1) (pc := 18) C dX3_compares_18 rfl ?_
        refine gs_goto (pc := 19) C 23 dX3_compares_19 rfl ?_
        simp only [if_neg c4, if_neg c5, if_pos c6] at j3
        exact j3
set_option maxRecDepth 100000 in
set_option maxHeartbeats 4000000 in
theorem a_X3_readComparison (l : Launch) {G : Nat → Int32 → gs_M → Option (Int32 × gs_M)} {n : Nat} (hnb : 8 ≤ n) (hG0 : ∀ (l : Launch) {x1 v : Int32} {M M1 : gs_M} {L : gs_L}, G 0 x1 M = some (v, M1) → gs_Met l n yX3_readSum cX3_readSum 5 (some .boolean) [.ref 104, .int x1] M L (some (.int v)) M1 L) (hG1 : ∀ (l : Launch) {x1 v : Int32} {M M1 : gs_M} {L : gs_L}, G 1 x1 M = some (v, M1) → gs_Met l n yX3_readTerm cX3_readTerm 5 (some .boolean) [.ref 104, .int x1] M L (some (.int v)) M1 L) (hG2 : ∀ (l : Launch) {x1 v : Int32} {M M1 : gs_M} {L : gs_L}, G 2 x1 M = some (v, M1) → gs_Met l n yX3_readAtom cX3_readAtom 5 (some .boolean) [.ref 104, .int x1] M L (some (.int v)) M1 L) (hG3 : ∀ (l : Launch) {x1 v : Int32} {M M1 : gs_M} {L : gs_L}, G 3 x1 M = some (v, M1) → gs_Met l n yX3_readCondition cX3_readCondition 2 (some .boolean) [.ref 104, .int x1] M L (some (.int v)) M1 L) (hG4 : ∀ (l : Launch) {x1 v : Int32} {M M1 : gs_M} {L : gs_L}, G 4 x1 M = some (v, M1) → gs_Met l n yX3_readTail cX3_readTail 4 (some .boolean) [.ref 104, .int x1] M L (some (.int v)) M1 L) (hG5 : ∀ (l : Launch) {x1 v : Int32} {M M1 : gs_M} {L : gs_L}, G 5 x1 M = some (v, M1) → gs_Met l n yX3_readTruthTail cX3_readTruthTail 4 (some .boolean) [.ref 104, .int x1] M L (some (.int v)) M1 L) (hG6 : ∀ (l : Launch) {x1 v : Int32} {M M1 : gs_M} {L : gs_L}, G 6 x1 M = some (v, M1) → gs_Met l n yX3_readUnit cX3_readUnit 4 (some .boolean) [.ref 104, .int x1] M L (some (.int v)) M1 L) (hG7 : ∀ (l : Launch) {x1 v : Int32} {M M1 : gs_M} {L : gs_L}, G 7 x1 M = some (v, M1) → gs_Met l n yX3_readComparison cX3_readComparison 4 (some .boolean) [.ref 104, .int x1] M L (some (.int v)) M1 L) {M : gs_M} {L : gs_L} {x1 : Int32} {rv : Int32} {Mz : gs_M} (h : f_X3_readComparison G M x1 = some (rv, Mz)) : gs_Met l (n + 1) yX3_readComparison cX3_readComparison 4 (some .boolean) [.ref 104, .int x1] M L (some (.int rv)) Mz L := by
  unfold f_X3_readComparison at h
  refine gs_of RX3 (by decide) rfl (Nat.le_of_ble_eq_true rfl) (fun X C E => ?_)
  show gs_AW X 0 [(0, .ref 104), (1, .int x1)] [] M L
  refine gs_aload_n (pc := 0) C 0 dX3_readComparison_0 rfl rfl ?_
  refine gs_getq (pc := 1) C dX3_readComparison_1 gk_3 fl_X3_9 sh_104 rfl ?_
  obtain ⟨v1, M2, e3, h⟩ := gs_o2 h
  refine gs_callVi (pc := 4) C [] dX3_readComparison_4 ml_X3_33 wy_X7_look (a_X7_look _ e3) (by omega) sh_1 (by decide) rfl rfl (Nat.le_of_ble_eq_true rfl) rfl ?_
  refine gs_istore_n (ls' := [(2, .int v1), (0, .ref 104), (1, .int x1)]) (pc := 7) C dX3_readComparison_7 rfl (by decide) rfl ?_
  refine gs_iload_n (pc := 8) C 0 dX3_readComparison_8 rfl rfl ?_
  obtain ⟨v4, e5, h⟩ := gs_o1 h
  refine gs_callSi (pc := 9) C [.int v1] dX3_readComparison_9 ml_X3_63 wy_X3_compares (a_X3_compares _ e5) (by omega) rfl (Nat.le_of_ble_eq_true rfl) rfl ?_
  refine gs_if_ne (pc := 12) C 23 dX3_readComparison_12 rfl (fun c6 => ?_) (fun c6 => ?_)
  · replace h := gs_iff c6 h
    refine gs_aload_n (pc := 23) C 1 dX3_readComparison_23 rfl rfl ?_
    refine gs_getq (pc := 24) C dX3_readComparison_24 gk_3 fl_X3_9 sh_104 rfl ?_
    obtain ⟨M7, e8, h⟩ := gs_o1 h
    refine gs_callVv (pc := 27) C [] dX3_readComparison_27 ml_X3_37 wy_X7_step (a_X7_step _ e8) (by omega) sh_1 (by decide) rfl rfl (Nat.le_of_ble_eq_true rfl) rfl ?_
    refine gs_aload_n (pc := 30) C 1 dX3_readComparison_30 rfl rfl ?_
    refine gs_iload_n (pc := 31) C 2 dX3_readComparison_31 rfl rfl ?_
    obtain ⟨v9, M10, e11, h⟩ := gs_o2 h
    refine gs_callVi (pc := 32) C [.int x1] dX3_readComparison_32 ml_X3_60 wy_X3_readSum (hG0 _ e11) (by omega) sh_104 (by decide) rfl rfl (Nat.le_of_ble_eq_true rfl) rfl ?_
    refine gs_istore_n (ls' := [(3, .int v9), (2, .int v1), (0, .ref 104), (1, .int x1)]) (pc := 35) C dX3_readComparison_35 rfl (by decide) rfl ?_
    refine gs_aload_n (pc := 36) C 2 dX3_readComparison_36 rfl rfl ?_
    obtain ⟨r12, e13, h⟩ := gs_o1 h
    refine gs_getmW (pc := 37) C dX3_readComparison_37 gk_3 fl_X3_15 sh_104 rfl e13 ?_
    refine gs_iload_n (pc := 40) C 1 dX3_readComparison_40 rfl rfl ?_
    refine gs_ineg (pc := 41) C dX3_readComparison_41 ?_
    obtain ⟨M14, e15, h⟩ := gs_o1 h
    refine gs_callVv (pc := 42) C [.int (-v1)] dX3_readComparison_42 ml_X3_81 wy_X2_put (a_X2_put _ (gs_ckW_law e13) e15) (by omega) (gs_law_sh (gs_ckW_law e13)).1 (by decide) rfl rfl (Nat.le_of_ble_eq_true rfl) rfl ?_
    refine gs_iload_n (pc := 45) C 0 dX3_readComparison_45 rfl rfl ?_
    obtain ⟨z16, e17, h⟩ := gs_o1 h
    obtain ⟨rfl, rfl⟩ := gs_i2 h
    exact gs_zret' (pc := 46) C dX3_readComparison_46 e17 E
  · replace h := gs_ift c6 h
    refine gs_aload_n (pc := 15) C 1 dX3_readComparison_15 rfl rfl ?_
    refine gs_getq (pc := 16) C dX3_readComparison_16 gk_3 fl_X3_9 sh_104 rfl ?_
    obtain ⟨v18, M19, e20, h⟩ := gs_o2 h
    refine gs_callVi (pc := 19) C [] dX3_readComparison_19 ml_X3_40 wy_X7_fail (a_X7_fail _ e20) (by omega) sh_1 (by decide) rfl rfl (Nat.le_of_ble_eq_true rfl) rfl ?_
    obtain ⟨z21, e22, h⟩ := gs_o1 h
    obtain ⟨rfl, rfl⟩ := gs_i2 h
    exact gs_zret' (pc := 22) C dX3_readComparison_22 e22 E
set_option maxRecDepth 100000 in
theorem a_g0 (d : Nat) : (∀ (l : Launch) {x1 v : Int32} {M M1 : gs_M} {L : gs_L}, g_0 d 0 x1 M = some (v, M1) → gs_Met l (8 + d) yX3_readSum cX3_readSum 5 (some .boolean) [.ref 104, .int x1] M L (some (.int v)) M1 L) ∧ (∀ (l : Launch) {x1 v : Int32} {M M1 : gs_M} {L : gs_L}, g_0 d 1 x1 M = some (v, M1) → gs_Met l (8 + d) yX3_readTerm cX3_readTerm 5 (some .boolean) [.ref 104, .int x1] M L (some (.int v)) M1 L) ∧ (∀ (l : Launch) {x1 v : Int32} {M M1 : gs_M} {L : gs_L}, g_0 d 2 x1 M = some (v, M1) → gs_Met l (8 + d) yX3_readAtom cX3_readAtom 5 (some .boolean) [.ref 104, .int x1] M L (some (.int v)) M1 L) ∧ (∀ (l : Launch) {x1 v : Int32} {M M1 : gs_M} {L : gs_L}, g_0 d 3 x1 M = some (v, M1) → gs_Met l (8 + d) yX3_readCondition cX3_readCondition 2 (some .boolean) [.ref 104, .int x1] M L (some (.int v)) M1 L) ∧ (∀ (l : Launch) {x1 v : Int32} {M M1 : gs_M} {L : gs_L}, g_0 d 4 x1 M = some (v, M1) → gs_Met l (8 + d) yX3_readTail cX3_readTail 4 (some .boolean) [.ref 104, .int x1] M L (some (.int v)) M1 L) ∧ (∀ (l : Launch) {x1 v : Int32} {M M1 : gs_M} {L : gs_L}, g_0 d 5 x1 M = some (v, M1) → gs_Met l (8 + d) yX3_readTruthTail cX3_readTruthTail 4 (some .boolean) [.ref 104, .int x1] M L (some (.int v)) M1 L) ∧ (∀ (l : Launch) {x1 v : Int32} {M M1 : gs_M} {L : gs_L}, g_0 d 6 x1 M = some (v, M1) → gs_Met l (8 + d) yX3_readUnit cX3_readUnit 4 (some .boolean) [.ref 104, .int x1] M L (some (.int v)) M1 L) ∧ (∀ (l : Launch) {x1 v : Int32} {M M1 : gs_M} {L : gs_L}, g_0 d 7 x1 M = some (v, M1) → gs_Met l (8 + d) yX3_readComparison cX3_readComparison 4 (some .boolean) [.ref 104, .int x1] M L (some (.int v)) M1 L) := by
  induction d with
  | zero => refine ⟨?_, ?_, ?_, ?_, ?_, ?_, ?_, ?_⟩ <;> (intro l x1 v M M1 L h; cases h)
  | succ d ih =>
    obtain ⟨i0, i1, i2, i3, i4, i5, i6, i7⟩ := ih
    refine ⟨?_, ?_, ?_, ?_, ?_, ?_, ?_, ?_⟩
    · intro l x1 v M M1 L h; exact a_X3_readSum l (n := 8 + d) (by omega) i0 i1 i2 i3 i4 i5 i6 i7 h
    · intro l x1 v M M1 L h; exact a_X3_readTerm l (n := 8 + d) (by omega) i0 i1 i2 i3 i4 i5 i6 i7 h
    · intro l x1 v M M1 L h; exact a_X3_readAtom l (n := 8 + d) (by omega) i0 i1 i2 i3 i4 i5 i6 i7 h
    · intro l x1 v M M1 L h; exact a_X3_readCondition l (n := 8 + d) (by omega) i0 i1 i2 i3 i4 i5 i6 i7 h
    · intro l x1 v M M1 L h; exact a_X3_readTail l (n := 8 + d) (by omega) i0 i1 i2 i3 i4 i5 i6 i7 h
    · intro l x1 v M M1 L h; exact a_X3_readTruthTail l (n := 8 + d) (by omega) i0 i1 i2 i3 i4 i5 i6 i7 h
    · intro l x1 v M M1 L h; exact a_X3_readUnit l (n := 8 + d) (by omega) i0 i1 i2 i3 i4 i5 i6 i7 h
    · intro l x1 v M M1 L h; exact a_X3_readComparison l (n := 8 + d) (by omega) i0 i1 i2 i3 i4 i5 i6 i7 h
theorem a_g0_0 (d : Nat) (l : Launch) {x1 v : Int32} {M M1 : gs_M} {L : gs_L} (h : g_0 d 0 x1 M = some (v, M1)) : gs_Met l (8 + d) yX3_readSum cX3_readSum 5 (some .boolean) [.ref 104, .int x1] M L (some (.int v)) M1 L := (a_g0 d).1 l h
theorem a_g0_1 (d : Nat) (l : Launch) {x1 v : Int32} {M M1 : gs_M} {L : gs_L} (h : g_0 d 1 x1 M = some (v, M1)) : gs_Met l (8 + d) yX3_readTerm cX3_readTerm 5 (some .boolean) [.ref 104, .int x1] M L (some (.int v)) M1 L := (a_g0 d).2.1 l h
theorem a_g0_2 (d : Nat) (l : Launch) {x1 v : Int32} {M M1 : gs_M} {L : gs_L} (h : g_0 d 2 x1 M = some (v, M1)) : gs_Met l (8 + d) yX3_readAtom cX3_readAtom 5 (some .boolean) [.ref 104, .int x1] M L (some (.int v)) M1 L := (a_g0 d).2.2.1 l h
theorem a_g0_3 (d : Nat) (l : Launch) {x1 v : Int32} {M M1 : gs_M} {L : gs_L} (h : g_0 d 3 x1 M = some (v, M1)) : gs_Met l (8 + d) yX3_readCondition cX3_readCondition 2 (some .boolean) [.ref 104, .int x1] M L (some (.int v)) M1 L := (a_g0 d).2.2.2.1 l h
theorem a_g0_4 (d : Nat) (l : Launch) {x1 v : Int32} {M M1 : gs_M} {L : gs_L} (h : g_0 d 4 x1 M = some (v, M1)) : gs_Met l (8 + d) yX3_readTail cX3_readTail 4 (some .boolean) [.ref 104, .int x1] M L (some (.int v)) M1 L := (a_g0 d).2.2.2.2.1 l h
theorem a_g0_5 (d : Nat) (l : Launch) {x1 v : Int32} {M M1 : gs_M} {L : gs_L} (h : g_0 d 5 x1 M = some (v, M1)) : gs_Met l (8 + d) yX3_readTruthTail cX3_readTruthTail 4 (some .boolean) [.ref 104, .int x1] M L (some (.int v)) M1 L := (a_g0 d).2.2.2.2.2.1 l h
theorem a_g0_6 (d : Nat) (l : Launch) {x1 v : Int32} {M M1 : gs_M} {L : gs_L} (h : g_0 d 6 x1 M = some (v, M1)) : gs_Met l (8 + d) yX3_readUnit cX3_readUnit 4 (some .boolean) [.ref 104, .int x1] M L (some (.int v)) M1 L := (a_g0 d).2.2.2.2.2.2.1 l h
theorem a_g0_7 (d : Nat) (l : Launch) {x1 v : Int32} {M M1 : gs_M} {L : gs_L} (h : g_0 d 7 x1 M = some (v, M1)) : gs_Met l (8 + d) yX3_readComparison cX3_readComparison 4 (some .boolean) [.ref 104, .int x1] M L (some (.int v)) M1 L := (a_g0 d).2.2.2.2.2.2.2 l h
set_option maxRecDepth 100000 in
set_option maxHeartbeats 4000000 in
theorem a_X2_endCondition (l : Launch) {M : gs_M} {L : gs_L} {r0 : Nat} {Mz : gs_M} (h_r0 : gs_law r0) (h : f_X2_endCondition M r0 = some (Mz)) : gs_Met l 0 yX2_endCondition cX2_endCondition 1 none [.ref r0] M L none Mz L := by
  unfold f_X2_endCondition at h
  refine gs_of RX2 (by decide) rfl (Nat.le_of_ble_eq_true rfl) (fun X C E => ?_)
  show gs_AW X 0 [(0, .ref r0)] [] M L
  refine gs_aload_n (pc := 0) C 0 dX2_endCondition_0 rfl rfl ?_
  refine gs_geti (pc := 1) C dX2_endCondition_1 gk_2 fl_X2_31 (gs_law_sh h_r0).1 rfl ?_
  obtain ⟨M1, e2, h⟩ := gs_o1 h
  have j3 : gs_AW X 22 [(0, .ref r0)] [] M1 L := by
    obtain rfl := gs_i1 h
    exact gs_vret (pc := 22) C dX2_endCondition_22 E
  refine gs_if_le (pc := 4) C 22 dX2_endCondition_4 rfl (fun c4 => ?_) (fun c4 => ?_)
  · replace e2 := gs_ift c4 e2
    obtain rfl := gs_i1 e2
    exact j3
  · replace e2 := gs_iff c4 e2
    refine gs_aload_n (pc := 7) C 0 dX2_endCondition_7 rfl rfl ?_
    refine gs_getq (pc := 8) C dX2_endCondition_8 gk_2 fl_X2_18 (gs_law_sh h_r0).1 rfl ?_
    refine gs_aload_n (pc := 11) C 0 dX2_endCondition_11 rfl rfl ?_
    refine gs_geti (pc := 12) C dX2_endCondition_12 gk_2 fl_X2_31 (gs_law_sh h_r0).1 rfl ?_
    refine gs_iconst (w := 1) (pc := 15) C dX2_endCondition_15 rfl ?_
    refine gs_isub (pc := 16) C dX2_endCondition_16 ?_
    refine gs_aload_n (pc := 17) C 0 dX2_endCondition_17 rfl rfl ?_
    refine gs_geti (pc := 18) C dX2_endCondition_18 gk_2 fl_X2_27 (gs_law_sh h_r0).1 rfl ?_
    obtain ⟨M6, e5, e2⟩ := gs_o1 e2
    refine gs_iast (pc := 21) C dX2_endCondition_21 (gs_law_sh h_r0).2.2.2.1 e5 ?_
    obtain rfl := gs_i1 e2
    exact j3
set_option maxRecDepth 100000 in
set_option maxHeartbeats 4000000 in
theorem a_X3_readRuling (l : Launch) {M : gs_M} {L : gs_L} {rv : Int32} {Mz : gs_M} (h : f_X3_readRuling M = some (rv, Mz)) : gs_Met l 73 yX3_readRuling cX3_readRuling 1 (some .boolean) [.ref 104] M L (some (.int rv)) Mz L := by
  unfold f_X3_readRuling at h
  refine gs_of RX3 (by decide) rfl (Nat.le_of_ble_eq_true rfl) (fun X C E => ?_)
  show gs_AW X 0 [(0, .ref 104)] [] M L
  refine gs_aload_n (pc := 0) C 0 dX3_readRuling_0 rfl rfl ?_
  refine gs_getq (pc := 1) C dX3_readRuling_1 gk_3 fl_X3_9 sh_104 rfl ?_
  refine gs_bipush (w := 63) (pc := 4) C dX3_readRuling_4 rfl ?_
  obtain ⟨v1, M2, e3, h⟩ := gs_o2 h
  refine gs_callVi (pc := 6) C [.int (63 : Int32)] dX3_readRuling_6 ml_X3_46 wy_X7_take (a_X7_take _ e3) (by decide) sh_1 (by decide) rfl rfl (Nat.le_of_ble_eq_true rfl) rfl ?_
  refine gs_if_ne (pc := 9) C 14 dX3_readRuling_9 rfl (fun c4 => ?_) (fun c4 => ?_)
  · replace h := gs_iff c4 h
    refine gs_aload_n (pc := 14) C 0 dX3_readRuling_14 rfl rfl ?_
    obtain ⟨r5, e6, h⟩ := gs_o1 h
    refine gs_getmW (pc := 15) C dX3_readRuling_15 gk_3 fl_X3_15 sh_104 rfl e6 ?_
    obtain ⟨M7, e8, h⟩ := gs_o1 h
    refine gs_callVv (pc := 18) C [] dX3_readRuling_18 ml_X3_72 wy_X2_endCondition (a_X2_endCondition _ (gs_ckW_law e6) e8) (by decide) (gs_law_sh (gs_ckW_law e6)).1 (by decide) rfl rfl (Nat.le_of_ble_eq_true rfl) rfl ?_
    refine gs_aload_n (pc := 21) C 0 dX3_readRuling_21 rfl rfl ?_
    refine gs_iconst (w := 0) (pc := 22) C dX3_readRuling_22 rfl ?_
    obtain ⟨v9, M10, e11, h⟩ := gs_o2 h
    refine gs_callVi (pc := 23) C [.int (0 : Int32)] dX3_readRuling_23 ml_X3_60 wy_X3_readSum (a_g0_0 64 _ e11) (by decide) sh_104 (by decide) rfl rfl (Nat.le_of_ble_eq_true rfl) rfl ?_
    obtain ⟨z12, e13, h⟩ := gs_o1 h
    obtain ⟨rfl, rfl⟩ := gs_i2 h
    exact gs_zret' (pc := 26) C dX3_readRuling_26 e13 E
  · replace h := gs_ift c4 h
    refine gs_iconst (w := 0) (pc := 12) C dX3_readRuling_12 rfl ?_
    obtain ⟨rfl, rfl⟩ := gs_i2 h
    exact gs_zret (pc := 13) C (by decide) dX3_readRuling_13 E
set_option maxRecDepth 100000 in
set_option maxHeartbeats 4000000 in
theorem a_X3_readClause (l : Launch) {M : gs_M} {L : gs_L} {rv : Int32} {Mz : gs_M} (h : f_X3_readClause M = some (rv, Mz)) : gs_Met l 74 yX3_readClause cX3_readClause 3 (some .boolean) [.ref 104] M L (some (.int rv)) Mz L := by
  unfold f_X3_readClause at h
  refine gs_of RX3 (by decide) rfl (Nat.le_of_ble_eq_true rfl) (fun X C E => ?_)
  show gs_AW X 0 [(0, .ref 104)] [] M L
  refine gs_aload_n (pc := 0) C 0 dX3_readClause_0 rfl rfl ?_
  refine gs_getq (pc := 1) C dX3_readClause_1 gk_3 fl_X3_9 sh_104 rfl ?_
  obtain ⟨v1, M2, e3, h⟩ := gs_o2 h
  refine gs_callVi (pc := 4) C [] dX3_readClause_4 ml_X3_33 wy_X7_look (a_X7_look _ e3) (by decide) sh_1 (by decide) rfl rfl (Nat.le_of_ble_eq_true rfl) rfl ?_
  refine gs_istore_n (ls' := [(1, .int v1), (0, .ref 104)]) (pc := 7) C dX3_readClause_7 rfl (by decide) rfl ?_
  refine gs_iload_n (pc := 8) C 0 dX3_readClause_8 rfl rfl ?_
  refine gs_bipush (w := 121) (pc := 9) C dX3_readClause_9 rfl ?_
  refine gs_icmp_eq (pc := 11) C 28 dX3_readClause_11 rfl (fun c4 => ?_) (fun c4 => ?_)
  · replace h := gs_ift c4 h
    refine gs_aload_n (pc := 28) C 1 dX3_readClause_28 rfl rfl ?_
    refine gs_getq (pc := 29) C dX3_readClause_29 gk_3 fl_X3_9 sh_104 rfl ?_
    obtain ⟨M5, e6, h⟩ := gs_o1 h
    refine gs_callVv (pc := 32) C [] dX3_readClause_32 ml_X3_37 wy_X7_step (a_X7_step _ e6) (by decide) sh_1 (by decide) rfl rfl (Nat.le_of_ble_eq_true rfl) rfl ?_
    refine gs_aload_n (pc := 35) C 1 dX3_readClause_35 rfl rfl ?_
    refine gs_getq (pc := 36) C dX3_readClause_36 gk_3 fl_X3_9 sh_104 rfl ?_
    refine gs_bipush (w := 58) (pc := 39) C dX3_readClause_39 rfl ?_
    obtain ⟨v7, M8, e9, h⟩ := gs_o2 h
    refine gs_callVi (pc := 41) C [.int (58 : Int32)] dX3_readClause_41 ml_X3_46 wy_X7_take (a_X7_take _ e9) (by decide) sh_1 (by decide) rfl rfl (Nat.le_of_ble_eq_true rfl) rfl ?_
    refine gs_if_ne (pc := 44) C 49 dX3_readClause_44 rfl (fun c10 => ?_) (fun c10 => ?_)
    · replace h := gs_iff c10 h
      refine gs_aload_n (pc := 49) C 1 dX3_readClause_49 rfl rfl ?_
      obtain ⟨r11, e12, h⟩ := gs_o1 h
      refine gs_getmW (pc := 50) C dX3_readClause_50 gk_3 fl_X3_15 sh_104 rfl e12 ?_
      refine gs_iload_n (pc := 53) C 0 dX3_readClause_53 rfl rfl ?_
      obtain ⟨M13, e14, h⟩ := gs_o1 h
      refine gs_callVv (pc := 54) C [.int v1] dX3_readClause_54 ml_X3_50 wy_X2_open (a_X2_open _ (gs_ckW_law e12) e14) (by decide) (gs_law_sh (gs_ckW_law e12)).1 (by decide) rfl rfl (Nat.le_of_ble_eq_true rfl) rfl ?_
      refine gs_aload_n (pc := 57) C 1 dX3_readClause_57 rfl rfl ?_
      refine gs_getq (pc := 58) C dX3_readClause_58 gk_3 fl_X3_9 sh_104 rfl ?_
      obtain ⟨v15, M16, e17, h⟩ := gs_o2 h
      refine gs_callVi (pc := 61) C [] dX3_readClause_61 ml_X3_33 wy_X7_look (a_X7_look _ e17) (by decide) sh_1 (by decide) rfl rfl (Nat.le_of_ble_eq_true rfl) rfl ?_
      refine gs_istore_n (ls' := [(2, .int v15), (1, .int v1), (0, .ref 104)]) (pc := 64) C dX3_readClause_64 rfl (by decide) rfl ?_
      refine gs_iload_n (pc := 65) C 0 dX3_readClause_65 rfl rfl ?_
      refine gs_bipush (w := 33) (pc := 66) C dX3_readClause_66 rfl ?_
      refine gs_icmp_eq (pc := 68) C 77 dX3_readClause_68 rfl (fun c18 => ?_) (fun c18 => ?_)
      · replace h := gs_ift c18 h
        refine gs_aload_n (pc := 77) C 2 dX3_readClause_77 rfl rfl ?_
        refine gs_iconst (w := 0) (pc := 78) C dX3_readClause_78 rfl ?_
        obtain ⟨v19, M20, e21, h⟩ := gs_o2 h
        refine gs_callVi (pc := 79) C [.int (0 : Int32)] dX3_readClause_79 ml_X3_54 wy_X3_readCondition (a_g0_3 64 _ e21) (by decide) sh_104 (by decide) rfl rfl (Nat.le_of_ble_eq_true rfl) rfl ?_
        obtain ⟨y22, M23, e24, h⟩ := gs_o2 h
        have j25 : gs_AW X 97 [(0, .ref 104), (1, .int v1), (2, .int v15)] [.int y22] M23 L := by
          obtain ⟨z31, e32, h⟩ := gs_o1 h
          obtain ⟨rfl, rfl⟩ := gs_i2 h
          exact gs_zret' (pc := 97) C dX3_readClause_97 e32 E
        refine gs_if_eq (pc := 82) C 96 dX3_readClause_82 rfl (fun c26 => ?_) (fun c26 => ?_)
        · replace e24 := gs_ift c26 e24
          refine gs_iconst (w := 0) (pc := 96) C dX3_readClause_96 rfl ?_
          obtain ⟨rfl, rfl⟩ := gs_i2 e24
          exact gs_sub [2, 1, 0] rfl (j25)
        · replace e24 := gs_iff c26 e24
          refine gs_aload_n (pc := 85) C 2 dX3_readClause_85 rfl rfl ?_
          obtain ⟨v27, M28, e29, e24⟩ := gs_o2 e24
          refine gs_callVi (pc := 86) C [] dX3_readClause_86 ml_X3_57 wy_X3_readRuling (a_X3_readRuling _ e29) (by decide) sh_104 (by decide) rfl rfl (Nat.le_of_ble_eq_true rfl) rfl ?_
          refine gs_if_eq (pc := 89) C 96 dX3_readClause_89 rfl (fun c30 => ?_) (fun c30 => ?_)
          · replace e24 := gs_ift c30 e24
            refine gs_iconst (w := 0) (pc := 96) C dX3_readClause_96 rfl ?_
            obtain ⟨rfl, rfl⟩ := gs_i2 e24
            exact gs_sub [2, 1, 0] rfl (j25)
          · replace e24 := gs_iff c30 e24
            refine gs_iconst (w := 1) (pc := 92) C dX3_readClause_92 rfl ?_
            refine gs_goto (pc := 93) C 97 dX3_readClause_93 rfl ?_
            obtain ⟨rfl, rfl⟩ := gs_i2 e24
            exact gs_sub [2, 1, 0] rfl (j25)
      · replace h := gs_iff c18 h
        refine gs_iload_n (pc := 71) C 0 dX3_readClause_71 rfl rfl ?_
        refine gs_bipush (w := 40) (pc := 72) C dX3_readClause_72 rfl ?_
        refine gs_icmp_ne (pc := 74) C 98 dX3_readClause_74 rfl (fun c33 => ?_) (fun c33 => ?_)
        · replace h := gs_iff c33 h
          refine gs_aload_n (pc := 98) C 2 dX3_readClause_98 rfl rfl ?_
          refine gs_iconst (w := 0) (pc := 99) C dX3_readClause_99 rfl ?_
          obtain ⟨v34, M35, e36, h⟩ := gs_o2 h
          refine gs_callVi (pc := 100) C [.int (0 : Int32)] dX3_readClause_100 ml_X3_60 wy_X3_readSum (a_g0_0 64 _ e36) (by decide) sh_104 (by decide) rfl rfl (Nat.le_of_ble_eq_true rfl) rfl ?_
          refine gs_if_ne (pc := 103) C 108 dX3_readClause_103 rfl (fun c37 => ?_) (fun c37 => ?_)
          · replace h := gs_iff c37 h
            refine gs_aload_n (pc := 108) C 2 dX3_readClause_108 rfl rfl ?_
            refine gs_getq (pc := 109) C dX3_readClause_109 gk_3 fl_X3_9 sh_104 rfl ?_
            obtain ⟨v38, M39, e40, h⟩ := gs_o2 h
            refine gs_callVi (pc := 112) C [] dX3_readClause_112 ml_X3_33 wy_X7_look (a_X7_look _ e40) (by decide) sh_1 (by decide) rfl rfl (Nat.le_of_ble_eq_true rfl) rfl ?_
            obtain ⟨v41, e42, h⟩ := gs_o1 h
            refine gs_callSi (pc := 115) C [.int v38] dX3_readClause_115 ml_X3_63 wy_X3_compares (a_X3_compares _ e42) (by decide) rfl (Nat.le_of_ble_eq_true rfl) rfl ?_
            obtain ⟨y43, M44, e45, h⟩ := gs_o2 h
            have j46 : gs_AW X 149 [(0, .ref 104), (1, .int v1), (2, .int v15)] [.int y43] M44 L := by
              obtain ⟨z60, e61, h⟩ := gs_o1 h
              obtain ⟨rfl, rfl⟩ := gs_i2 h
              exact gs_zret' (pc := 149) C dX3_readClause_149 e61 E
            refine gs_if_eq (pc := 118) C 144 dX3_readClause_118 rfl (fun c47 => ?_) (fun c47 => ?_)
            · replace e45 := gs_ift c47 e45
              refine gs_iconst (w := 1) (pc := 144) C dX3_readClause_144 rfl ?_
              refine gs_goto (pc := 145) C 149 dX3_readClause_145 rfl ?_
              obtain ⟨rfl, rfl⟩ := gs_i2 e45
              exact gs_sub [2, 1, 0] rfl (j46)
            · replace e45 := gs_iff c47 e45
              refine gs_aload_n (pc := 121) C 2 dX3_readClause_121 rfl rfl ?_
              refine gs_iconst (w := 0) (pc := 122) C dX3_readClause_122 rfl ?_
              obtain ⟨v48, M49, e50, e45⟩ := gs_o2 e45
              refine gs_callVi (pc := 123) C [.int (0 : Int32)] dX3_readClause_123 ml_X3_66 wy_X3_readComparison (a_g0_7 64 _ e50) (by decide) sh_104 (by decide) rfl rfl (Nat.le_of_ble_eq_true rfl) rfl ?_
              refine gs_if_eq (pc := 126) C 148 dX3_readClause_126 rfl (fun c51 => ?_) (fun c51 => ?_)
              · replace e45 := gs_ift c51 e45
                refine gs_iconst (w := 0) (pc := 148) C dX3_readClause_148 rfl ?_
                obtain ⟨rfl, rfl⟩ := gs_i2 e45
                exact gs_sub [2, 1, 0] rfl (j46)
              · replace e45 := gs_iff c51 e45
                refine gs_aload_n (pc := 129) C 2 dX3_readClause_129 rfl rfl ?_
                refine gs_iconst (w := 0) (pc := 130) C dX3_readClause_130 rfl ?_
                obtain ⟨v52, M53, e54, e45⟩ := gs_o2 e45
                refine gs_callVi (pc := 131) C [.int (0 : Int32)] dX3_readClause_131 ml_X3_69 wy_X3_readTail (a_g0_4 64 _ e54) (by decide) sh_104 (by decide) rfl rfl (Nat.le_of_ble_eq_true rfl) rfl ?_
                refine gs_if_eq (pc := 134) C 148 dX3_readClause_134 rfl (fun c55 => ?_) (fun c55 => ?_)
                · replace e45 := gs_ift c55 e45
                  refine gs_iconst (w := 0) (pc := 148) C dX3_readClause_148 rfl ?_
                  obtain ⟨rfl, rfl⟩ := gs_i2 e45
                  exact gs_sub [2, 1, 0] rfl (j46)
                · replace e45 := gs_iff c55 e45
                  refine gs_aload_n (pc := 137) C 2 dX3_readClause_137 rfl rfl ?_
                  obtain ⟨v56, M57, e58, e45⟩ := gs_o2 e45
                  refine gs_callVi (pc := 138) C [] dX3_readClause_138 ml_X3_57 wy_X3_readRuling (a_X3_readRuling _ e58) (by decide) sh_104 (by decide) rfl rfl (Nat.le_of_ble_eq_true rfl) rfl ?_
                  refine gs_if_eq (pc := 141) C 148 dX3_readClause_141 rfl (fun c59 => ?_) (fun c59 => ?_)
                  · replace e45 := gs_ift c59 e45
                    refine gs_iconst (w := 0) (pc := 148) C dX3_readClause_148 rfl ?_
                    obtain ⟨rfl, rfl⟩ := gs_i2 e45
                    exact gs_sub [2, 1, 0] rfl (j46)
                  · replace e45 := gs_iff c59 e45
                    refine gs_iconst (w := 1) (pc := 144) C dX3_readClause_144 rfl ?_
                    refine gs_goto (pc := 145) C 149 dX3_readClause_145 rfl ?_
                    obtain ⟨rfl, rfl⟩ := gs_i2 e45
                    exact gs_sub [2, 1, 0] rfl (j46)
          · replace h := gs_ift c37 h
            refine gs_iconst (w := 0) (pc := 106) C dX3_readClause_106 rfl ?_
            obtain ⟨rfl, rfl⟩ := gs_i2 h
            exact gs_zret (pc := 107) C (by decide) dX3_readClause_107 E
        · replace h := gs_ift c33 h
          refine gs_aload_n (pc := 77) C 2 dX3_readClause_77 rfl rfl ?_
          refine gs_iconst (w := 0) (pc := 78) C dX3_readClause_78 rfl ?_
          obtain ⟨v62, M63, e64, h⟩ := gs_o2 h
          refine gs_callVi (pc := 79) C [.int (0 : Int32)] dX3_readClause_79 ml_X3_54 wy_X3_readCondition (a_g0_3 64 _ e64) (by decide) sh_104 (by decide) rfl rfl (Nat.le_of_ble_eq_true rfl) rfl ?_
          obtain ⟨y65, M66, e67, h⟩ := gs_o2 h
          have j68 : gs_AW X 97 [(0, .ref 104), (1, .int v1), (2, .int v15)] [.int y65] M66 L := by
            obtain ⟨z74, e75, h⟩ := gs_o1 h
            obtain ⟨rfl, rfl⟩ := gs_i2 h
            exact gs_zret' (pc := 97) C dX3_readClause_97 e75 E
          refine gs_if_eq (pc := 82) C 96 dX3_readClause_82 rfl (fun c69 => ?_) (fun c69 => ?_)
          · replace e67 := gs_ift c69 e67
            refine gs_iconst (w := 0) (pc := 96) C dX3_readClause_96 rfl ?_
            obtain ⟨rfl, rfl⟩ := gs_i2 e67
            exact gs_sub [2, 1, 0] rfl (j68)
          · replace e67 := gs_iff c69 e67
            refine gs_aload_n (pc := 85) C 2 dX3_readClause_85 rfl rfl ?_
            obtain ⟨v70, M71, e72, e67⟩ := gs_o2 e67
            refine gs_callVi (pc := 86) C [] dX3_readClause_86 ml_X3_57 wy_X3_readRuling (a_X3_readRuling _ e72) (by decide) sh_104 (by decide) rfl rfl (Nat.le_of_ble_eq_true rfl) rfl ?_
            refine gs_if_eq (pc := 89) C 96 dX3_readClause_89 rfl (fun c73 => ?_) (fun c73 => ?_)
            · replace e67 := gs_ift c73 e67
              refine gs_iconst (w := 0) (pc := 96) C dX3_readClause_96 rfl ?_
              obtain ⟨rfl, rfl⟩ := gs_i2 e67
              exact gs_sub [2, 1, 0] rfl (j68)
            · replace e67 := gs_iff c73 e67
              refine gs_iconst (w := 1) (pc := 92) C dX3_readClause_92 rfl ?_
              refine gs_goto (pc := 93) C 97 dX3_readClause_93 rfl ?_
              obtain ⟨rfl, rfl⟩ := gs_i2 e67
              exact gs_sub [2, 1, 0] rfl (j68)
    · replace h := gs_ift c10 h
      refine gs_iconst (w := 0) (pc := 47) C dX3_readClause_47 rfl ?_
      obtain ⟨rfl, rfl⟩ := gs_i2 h
      exact gs_zret (pc := 48) C (by decide) dX3_readClause_48 E
  · replace h := gs_iff c4 h
    refine gs_iload_n (pc := 14) C 0 dX3_readClause_14 rfl rfl ?_
    refine gs_bipush (w := 118) (pc := 15) C dX3_readClause_15 rfl ?_
    refine gs_icmp_eq (pc := 17) C 28 dX3_readClause_17 rfl (fun c76 => ?_) (fun c76 => ?_)
    · replace h := gs_ift c76 h
      refine gs_aload_n (pc := 28) C 1 dX3_readClause_28 rfl rfl ?_
      refine gs_getq (pc := 29) C dX3_readClause_29 gk_3 fl_X3_9 sh_104 rfl ?_
      obtain ⟨M77, e78, h⟩ := gs_o1 h
      refine gs_callVv (pc := 32) C [] dX3_readClause_32 ml_X3_37 wy_X7_step (a_X7_step _ e78) (by decide) sh_1 (by decide) rfl rfl (Nat.le_of_ble_eq_true rfl) rfl ?_
      refine gs_aload_n (pc := 35) C 1 dX3_readClause_35 rfl rfl ?_
      refine gs_getq (pc := 36) C dX3_readClause_36 gk_3 fl_X3_9 sh_104 rfl ?_
      refine gs_bipush (w := 58) (pc := 39) C dX3_readClause_39 rfl ?_
      obtain ⟨v79, M80, e81, h⟩ := gs_o2 h
      refine gs_callVi (pc := 41) C [.int (58 : Int32)] dX3_readClause_41 ml_X3_46 wy_X7_take (a_X7_take _ e81) (by decide) sh_1 (by decide) rfl rfl (Nat.le_of_ble_eq_true rfl) rfl ?_
      refine gs_if_ne (pc := 44) C 49 dX3_readClause_44 rfl (fun c82 => ?_) (fun c82 => ?_)
      · replace h := gs_iff c82 h
        refine gs_aload_n (pc := 49) C 1 dX3_readClause_49 rfl rfl ?_
        obtain ⟨r83, e84, h⟩ := gs_o1 h
        refine gs_getmW (pc := 50) C dX3_readClause_50 gk_3 fl_X3_15 sh_104 rfl e84 ?_
        refine gs_iload_n (pc := 53) C 0 dX3_readClause_53 rfl rfl ?_
        obtain ⟨M85, e86, h⟩ := gs_o1 h
        refine gs_callVv (pc := 54) C [.int v1] dX3_readClause_54 ml_X3_50 wy_X2_open (a_X2_open _ (gs_ckW_law e84) e86) (by decide) (gs_law_sh (gs_ckW_law e84)).1 (by decide) rfl rfl (Nat.le_of_ble_eq_true rfl) rfl ?_
        refine gs_aload_n (pc := 57) C 1 dX3_readClause_57 rfl rfl ?_
        refine gs_getq (pc := 58) C dX3_readClause_58 gk_3 fl_X3_9 sh_104 rfl ?_
        obtain ⟨v87, M88, e89, h⟩ := gs_o2 h
        refine gs_callVi (pc := 61) C [] dX3_readClause_61 ml_X3_33 wy_X7_look (a_X7_look _ e89) (by decide) sh_1 (by decide) rfl rfl (Nat.le_of_ble_eq_true rfl) rfl ?_
        refine gs_istore_n (ls' := [(2, .int v87), (1, .int v1), (0, .ref 104)]) (pc := 64) C dX3_readClause_64 rfl (by decide) rfl ?_
        refine gs_iload_n (pc := 65) C 0 dX3_readClause_65 rfl rfl ?_
        refine gs_bipush (w := 33) (pc := 66) C dX3_readClause_66 rfl ?_
        refine gs_icmp_eq (pc := 68) C 77 dX3_readClause_68 rfl (fun c90 => ?_) (fun c90 => ?_)
        · replace h := gs_ift c90 h
          refine gs_aload_n (pc := 77) C 2 dX3_readClause_77 rfl rfl ?_
          refine gs_iconst (w := 0) (pc := 78) C dX3_readClause_78 rfl ?_
          obtain ⟨v91, M92, e93, h⟩ := gs_o2 h
          refine gs_callVi (pc := 79) C [.int (0 : Int32)] dX3_readClause_79 ml_X3_54 wy_X3_readCondition (a_g0_3 64 _ e93) (by decide) sh_104 (by decide) rfl rfl (Nat.le_of_ble_eq_true rfl) rfl ?_
          obtain ⟨y94, M95, e96, h⟩ := gs_o2 h
          have j97 : gs_AW X 97 [(0, .ref 104), (1, .int v1), (2, .int v87)] [.int y94] M95 L := by
            obtain ⟨z103, e104, h⟩ := gs_o1 h
            obtain ⟨rfl, rfl⟩ := gs_i2 h
            exact gs_zret' (pc := 97) C dX3_readClause_97 e104 E
          refine gs_if_eq (pc := 82) C 96 dX3_readClause_82 rfl (fun c98 => ?_) (fun c98 => ?_)
          · replace e96 := gs_ift c98 e96
            refine gs_iconst (w := 0) (pc := 96) C dX3_readClause_96 rfl ?_
            obtain ⟨rfl, rfl⟩ := gs_i2 e96
            exact gs_sub [2, 1, 0] rfl (j97)
          · replace e96 := gs_iff c98 e96
            refine gs_aload_n (pc := 85) C 2 dX3_readClause_85 rfl rfl ?_
            obtain ⟨v99, M100, e101, e96⟩ := gs_o2 e96
            refine gs_callVi (pc := 86) C [] dX3_readClause_86 ml_X3_57 wy_X3_readRuling (a_X3_readRuling _ e101) (by decide) sh_104 (by decide) rfl rfl (Nat.le_of_ble_eq_true rfl) rfl ?_
            refine gs_if_eq (pc := 89) C 96 dX3_readClause_89 rfl (fun c102 => ?_) (fun c102 => ?_)
            · replace e96 := gs_ift c102 e96
              refine gs_iconst (w := 0) (pc := 96) C dX3_readClause_96 rfl ?_
              obtain ⟨rfl, rfl⟩ := gs_i2 e96
              exact gs_sub [2, 1, 0] rfl (j97)
            · replace e96 := gs_iff c102 e96
              refine gs_iconst (w := 1) (pc := 92) C dX3_readClause_92 rfl ?_
              refine gs_goto (pc := 93) C 97 dX3_readClause_93 rfl ?_
              obtain ⟨rfl, rfl⟩ := gs_i2 e96
              exact gs_sub [2, 1, 0] rfl (j97)
        · replace h := gs_iff c90 h
          refine gs_iload_n (pc := 71) C 0 dX3_readClause_71 rfl rfl ?_
          refine gs_bipush (w := 40) (pc := 72) C dX3_readClause_72 rfl ?_
          refine gs_icmp_ne (pc := 74) C 98 dX3_readClause_74 rfl (fun c105 => ?_) (fun c105 => ?_)
          · replace h := gs_iff c105 h
            refine gs_aload_n (pc := 98) C 2 dX3_readClause_98 rfl rfl ?_
            refine gs_iconst (w := 0) (pc := 99) C dX3_readClause_99 rfl ?_
            obtain ⟨v106, M107, e108, h⟩ := gs_o2 h
            refine gs_callVi (pc := 100) C [.int (0 : Int32)] dX3_readClause_100 ml_X3_60 wy_X3_readSum (a_g0_0 64 _ e108) (by decide) sh_104 (by decide) rfl rfl (Nat.le_of_ble_eq_true rfl) rfl ?_
            refine gs_if_ne (pc := 103) C 108 dX3_readClause_103 rfl (fun c109 => ?_) (fun c109 => ?_)
            · replace h := gs_iff c109 h
              refine gs_aload_n (pc := 108) C 2 dX3_readClause_108 rfl rfl ?_
              refine gs_getq (pc := 109) C dX3_readClause_109 gk_3 fl_X3_9 sh_104 rfl ?_
              obtain ⟨v110, M111, e112, h⟩ := gs_o2 h
              refine gs_callVi (pc := 112) C [] dX3_readClause_112 ml_X3_33 wy_X7_look (a_X7_look _ e112) (by decide) sh_1 (by decide) rfl rfl (Nat.le_of_ble_eq_true rfl) rfl ?_
              obtain ⟨v113, e114, h⟩ := gs_o1 h
              refine gs_callSi (pc := 115) C [.int v110] dX3_readClause_115 ml_X3_63 wy_X3_compares (a_X3_compares _ e114) (by decide) rfl (Nat.le_of_ble_eq_true rfl) rfl ?_
              obtain ⟨y115, M116, e117, h⟩ := gs_o2 h
              have j118 : gs_AW X 149 [(0, .ref 104), (1, .int v1), (2, .int v87)] [.int y115] M116 L := by
                obtain ⟨z132, e133, h⟩ := gs_o1 h
                obtain ⟨rfl, rfl⟩ := gs_i2 h
                exact gs_zret' (pc := 149) C dX3_readClause_149 e133 E
              refine gs_if_eq (pc := 118) C 144 dX3_readClause_118 rfl (fun c119 => ?_) (fun c119 => ?_)
              · replace e117 := gs_ift c119 e117
                refine gs_iconst (w := 1) (pc := 144) C dX3_readClause_144 rfl ?_
                refine gs_goto (pc := 145) C 149 dX3_readClause_145 rfl ?_
                obtain ⟨rfl, rfl⟩ := gs_i2 e117
                exact gs_sub [2, 1, 0] rfl (j118)
              · replace e117 := gs_iff c119 e117
                refine gs_aload_n (pc := 121) C 2 dX3_readClause_121 rfl rfl ?_
                refine gs_iconst (w := 0) (pc := 122) C dX3_readClause_122 rfl ?_
                obtain ⟨v120, M121, e122, e117⟩ := gs_o2 e117
                refine gs_callVi (pc := 123) C [.int (0 : Int32)] dX3_readClause_123 ml_X3_66 wy_X3_readComparison (a_g0_7 64 _ e122) (by decide) sh_104 (by decide) rfl rfl (Nat.le_of_ble_eq_true rfl) rfl ?_
                refine gs_if_eq (pc := 126) C 148 dX3_readClause_126 rfl (fun c123 => ?_) (fun c123 => ?_)
                · replace e117 := gs_ift c123 e117
                  refine gs_iconst (w := 0) (pc := 148) C dX3_readClause_148 rfl ?_
                  obtain ⟨rfl, rfl⟩ := gs_i2 e117
                  exact gs_sub [2, 1, 0] rfl (j118)
                · replace e117 := gs_iff c123 e117
                  refine gs_aload_n (pc := 129) C 2 dX3_readClause_129 rfl rfl ?_
                  refine gs_iconst (w := 0) (pc := 130) C dX3_readClause_130 rfl ?_
                  obtain ⟨v124, M125, e126, e117⟩ := gs_o2 e117
                  refine gs_callVi (pc := 131) C [.int (0 : Int32)] dX3_readClause_131 ml_X3_69 wy_X3_readTail (a_g0_4 64 _ e126) (by decide) sh_104 (by decide) rfl rfl (Nat.le_of_ble_eq_true rfl) rfl ?_
                  refine gs_if_eq (pc := 134) C 148 dX3_readClause_134 rfl (fun c127 => ?_) (fun c127 => ?_)
                  · replace e117 := gs_ift c127 e117
                    refine gs_iconst (w := 0) (pc := 148) C dX3_readClause_148 rfl ?_
                    obtain ⟨rfl, rfl⟩ := gs_i2 e117
                    exact gs_sub [2, 1, 0] rfl (j118)
                  · replace e117 := gs_iff c127 e117
                    refine gs_aload_n (pc := 137) C 2 dX3_readClause_137 rfl rfl ?_
                    obtain ⟨v128, M129, e130, e117⟩ := gs_o2 e117
                    refine gs_callVi (pc := 138) C [] dX3_readClause_138 ml_X3_57 wy_X3_readRuling (a_X3_readRuling _ e130) (by decide) sh_104 (by decide) rfl rfl (Nat.le_of_ble_eq_true rfl) rfl ?_
                    refine gs_if_eq (pc := 141) C 148 dX3_readClause_141 rfl (fun c131 => ?_) (fun c131 => ?_)
                    · replace e117 := gs_ift c131 e117
                      refine gs_iconst (w := 0) (pc := 148) C dX3_readClause_148 rfl ?_
                      obtain ⟨rfl, rfl⟩ := gs_i2 e117
                      exact gs_sub [2, 1, 0] rfl (j118)
                    · replace e117 := gs_iff c131 e117
                      refine gs_iconst (w := 1) (pc := 144) C dX3_readClause_144 rfl ?_
                      refine gs_goto (pc := 145) C 149 dX3_readClause_145 rfl ?_
                      obtain ⟨rfl, rfl⟩ := gs_i2 e117
                      exact gs_sub [2, 1, 0] rfl (j118)
            · replace h := gs_ift c109 h
              refine gs_iconst (w := 0) (pc := 106) C dX3_readClause_106 rfl ?_
              obtain ⟨rfl, rfl⟩ := gs_i2 h
              exact gs_zret (pc := 107) C (by decide) dX3_readClause_107 E
          · replace h := gs_ift c105 h
            refine gs_aload_n (pc := 77) C 2 dX3_readClause_77 rfl rfl ?_
            refine gs_iconst (w := 0) (pc := 78) C dX3_readClause_78 rfl ?_
            obtain ⟨v134, M135, e136, h⟩ := gs_o2 h
            refine gs_callVi (pc := 79) C [.int (0 : Int32)] dX3_readClause_79 ml_X3_54 wy_X3_readCondition (a_g0_3 64 _ e136) (by decide) sh_104 (by decide) rfl rfl (Nat.le_of_ble_eq_true rfl) rfl ?_
            obtain ⟨y137, M138, e139, h⟩ := gs_o2 h
            have j140 : gs_AW X 97 [(0, .ref 104), (1, .int v1), (2, .int v87)] [.int y137] M138 L := by
              obtain ⟨z146, e147, h⟩ := gs_o1 h
              obtain ⟨rfl, rfl⟩ := gs_i2 h
              exact gs_zret' (pc := 97) C dX3_readClause_97 e147 E
            refine gs_if_eq (pc := 82) C 96 dX3_readClause_82 rfl (fun c141 => ?_) (fun c141 => ?_)
            · replace e139 := gs_ift c141 e139
              refine gs_iconst (w := 0) (pc := 96) C dX3_readClause_96 rfl ?_
              obtain ⟨rfl, rfl⟩ := gs_i2 e139
              exact gs_sub [2, 1, 0] rfl (j140)
            · replace e139 := gs_iff c141 e139
              refine gs_aload_n (pc := 85) C 2 dX3_readClause_85 rfl rfl ?_
              obtain ⟨v142, M143, e144, e139⟩ := gs_o2 e139
              refine gs_callVi (pc := 86) C [] dX3_readClause_86 ml_X3_57 wy_X3_readRuling (a_X3_readRuling _ e144) (by decide) sh_104 (by decide) rfl rfl (Nat.le_of_ble_eq_true rfl) rfl ?_
              refine gs_if_eq (pc := 89) C 96 dX3_readClause_89 rfl (fun c145 => ?_) (fun c145 => ?_)
              · replace e139 := gs_ift c145 e139
                refine gs_iconst (w := 0) (pc := 96) C dX3_readClause_96 rfl ?_
                obtain ⟨rfl, rfl⟩ := gs_i2 e139
                exact gs_sub [2, 1, 0] rfl (j140)
              · replace e139 := gs_iff c145 e139
                refine gs_iconst (w := 1) (pc := 92) C dX3_readClause_92 rfl ?_
                refine gs_goto (pc := 93) C 97 dX3_readClause_93 rfl ?_
                obtain ⟨rfl, rfl⟩ := gs_i2 e139
                exact gs_sub [2, 1, 0] rfl (j140)
      · replace h := gs_ift c82 h
        refine gs_iconst (w := 0) (pc := 47) C dX3_readClause_47 rfl ?_
        obtain ⟨rfl, rfl⟩ := gs_i2 h
        exact gs_zret (pc := 48) C (by decide) dX3_readClause_48 E
    · replace h := gs_iff c76 h
      refine gs_aload_n (pc := 20) C 1 dX3_readClause_20 rfl rfl ?_
      refine gs_getq (pc := 21) C dX3_readClause_21 gk_3 fl_X3_9 sh_104 rfl ?_
      obtain ⟨v148, M149, e150, h⟩ := gs_o2 h
      refine gs_callVi (pc := 24) C [] dX3_readClause_24 ml_X3_40 wy_X7_fail (a_X7_fail _ e150) (by decide) sh_1 (by decide) rfl rfl (Nat.le_of_ble_eq_true rfl) rfl ?_
      obtain ⟨z151, e152, h⟩ := gs_o1 h
      obtain ⟨rfl, rfl⟩ := gs_i2 h
      exact gs_zret' (pc := 27) C dX3_readClause_27 e152 E
set_option maxRecDepth 100000 in
set_option maxHeartbeats 4000000 in
theorem t_X3_read_26 {X : gs_X} (C : gs_C X RX3 cX3_read 4 (some .int) 75) {L : gs_L} {r1 : Nat} (h_r1 : gs_law r1) {o2 : Int32} {o3 : Int32} {M' : gs_M} (k : gs_AW X 67 [(0, .ref 104), (1, .ref r1), (2, .int o2), (3, .int o3)] [] M' L) : ∀ (f : Nat) (x2 : Int32) (x3 : Int32) (M : gs_M), l_X3_read_26 r1 f x2 x3 M = some (o2, o3, M') → gs_AW X 26 [(0, .ref 104), (1, .ref r1), (2, .int x2), (3, .int x3)] [] M L := by
  intro f
  induction f with
  | zero =>
    intro x2 x3 M h
    cases h
  | succ f ih =>
    intro x2 x3 M h
    rw [l_X3_read_26] at h
    refine gs_iload_n (pc := 26) C 3 dX3_read_26 rfl rfl ?_
    refine gs_sipush (w := 240) (pc := 27) C dX3_read_27 rfl ?_
    refine gs_icmp_ge (pc := 30) C 67 dX3_read_30 rfl (fun c1 => ?_) (fun c1 => ?_)
    · replace h := gs_ift c1 h
      obtain ⟨rfl, rfl, rfl⟩ := gs_i3 h
      exact k
    · replace h := gs_iff c1 h
      refine gs_iload_n (pc := 33) C 2 dX3_read_33 rfl rfl ?_
      refine gs_if_eq (pc := 34) C 67 dX3_read_34 rfl (fun c2 => ?_) (fun c2 => ?_)
      · replace h := gs_ift c2 h
        obtain ⟨rfl, rfl, rfl⟩ := gs_i3 h
        exact k
      · replace h := gs_iff c2 h
        refine gs_aload_n (pc := 37) C 0 dX3_read_37 rfl rfl ?_
        refine gs_getq (pc := 38) C dX3_read_38 gk_3 fl_X3_9 sh_104 rfl ?_
        obtain ⟨v3, M4, e5, h⟩ := gs_o2 h
        refine gs_callVi (pc := 41) C [] dX3_read_41 ml_X3_33 wy_X7_look (a_X7_look _ e5) (by decide) sh_1 (by decide) rfl rfl (Nat.le_of_ble_eq_true rfl) rfl ?_
        refine gs_bipush (w := 59) (pc := 44) C dX3_read_44 rfl ?_
        refine gs_icmp_ne (pc := 46) C 67 dX3_read_46 rfl (fun c6 => ?_) (fun c6 => ?_)
        · replace h := gs_iff c6 h
          obtain ⟨rfl, rfl, rfl⟩ := gs_i3 h
          exact k
        · replace h := gs_ift c6 h
          refine gs_aload_n (pc := 49) C 0 dX3_read_49 rfl rfl ?_
          refine gs_getq (pc := 50) C dX3_read_50 gk_3 fl_X3_9 sh_104 rfl ?_
          obtain ⟨M7, e8, h⟩ := gs_o1 h
          refine gs_callVv (pc := 53) C [] dX3_read_53 ml_X3_37 wy_X7_step (a_X7_step _ e8) (by decide) sh_1 (by decide) rfl rfl (Nat.le_of_ble_eq_true rfl) rfl ?_
          refine gs_aload_n (pc := 56) C 0 dX3_read_56 rfl rfl ?_
          obtain ⟨v9, M10, e11, h⟩ := gs_o2 h
          refine gs_callVi (pc := 57) C [] dX3_read_57 ml_X3_29 wy_X3_readClause (a_X3_readClause _ e11) (by decide) sh_104 (by decide) rfl rfl (Nat.le_of_ble_eq_true rfl) rfl ?_
          refine gs_istore_n (ls' := [(2, .int v9), (0, .ref 104), (1, .ref r1), (3, .int x3)]) (pc := 60) C dX3_read_60 rfl (by decide) rfl ?_
          refine gs_iinc (v := x3 + (1 : Int32)) (ls' := [(3, .int (x3 + (1 : Int32))), (2, .int v9), (0, .ref 104), (1, .ref r1)]) (pc := 61) C 3 dX3_read_61 rfl rfl (by decide) rfl ?_
          refine gs_goto (pc := 64) C 26 dX3_read_64 rfl ?_
          exact gs_sub [2, 3, 1, 0] rfl (ih _ _ _ h)
set_option maxRecDepth 100000 in
set_option maxHeartbeats 4000000 in
theorem a_X3_read (l : Launch) {M : gs_M} {L : gs_L} {r1 : Nat} {rv : Int32} {Mz : gs_M} (h_r1 : gs_law r1) (h : f_X3_read M r1 = some (rv, Mz)) : gs_Met l 75 yX3_read cX3_read 4 (some .int) [.ref 104, .ref r1] M L (some (.int rv)) Mz L := by
  unfold f_X3_read at h
  refine gs_of RX3 (by decide) rfl (Nat.le_of_ble_eq_true rfl) (fun X C E => ?_)
  show gs_AW X 0 [(0, .ref 104), (1, .ref r1)] [] M L
  refine gs_aload_n (pc := 0) C 0 dX3_read_0 rfl rfl ?_
  refine gs_aload_n (pc := 1) C 1 dX3_read_1 rfl rfl ?_
  obtain ⟨M2, e1, h⟩ := gs_o1 h
  refine gs_putr' (pc := 2) C (Or.inl ⟨_, rfl⟩) (gs_law_sh h_r1).2.2.2.2.2.2 dX3_read_2 gk_3 fp_X3_15 sh_104 rfl e1 ?_
  refine gs_aload_n (pc := 5) C 0 dX3_read_5 rfl rfl ?_
  obtain ⟨r3, e4, h⟩ := gs_o1 h
  refine gs_getmW (pc := 6) C dX3_read_6 gk_3 fl_X3_15 sh_104 rfl e4 ?_
  obtain ⟨M5, e6, h⟩ := gs_o1 h
  refine gs_callVv (pc := 9) C [] dX3_read_9 ml_X3_19 wy_X2_clear (a_X2_clear _ (gs_ckW_law e4) e6) (by decide) (gs_law_sh (gs_ckW_law e4)).1 (by decide) rfl rfl (Nat.le_of_ble_eq_true rfl) rfl ?_
  refine gs_aload_n (pc := 12) C 0 dX3_read_12 rfl rfl ?_
  refine gs_getq (pc := 13) C dX3_read_13 gk_3 fl_X3_9 sh_104 rfl ?_
  obtain ⟨M7, e8, h⟩ := gs_o1 h
  refine gs_callVv (pc := 16) C [] dX3_read_16 ml_X3_24 wy_X7_rewind (a_X7_rewind _ e8) (by decide) sh_1 (by decide) rfl rfl (Nat.le_of_ble_eq_true rfl) rfl ?_
  refine gs_aload_n (pc := 19) C 0 dX3_read_19 rfl rfl ?_
  obtain ⟨v9, M10, e11, h⟩ := gs_o2 h
  refine gs_callVi (pc := 20) C [] dX3_read_20 ml_X3_29 wy_X3_readClause (a_X3_readClause _ e11) (by decide) sh_104 (by decide) rfl rfl (Nat.le_of_ble_eq_true rfl) rfl ?_
  refine gs_istore_n (ls' := [(2, .int v9), (0, .ref 104), (1, .ref r1)]) (pc := 23) C dX3_read_23 rfl (by decide) rfl ?_
  refine gs_iconst (w := 0) (pc := 24) C dX3_read_24 rfl ?_
  refine gs_istore_n (ls' := [(3, .int (0 : Int32)), (2, .int v9), (0, .ref 104), (1, .ref r1)]) (pc := 25) C dX3_read_25 rfl (by decide) rfl ?_
  obtain ⟨y12, y13, M14, e15, h⟩ := gs_o3 h
  refine gs_sub [2, 3, 1, 0] rfl (t_X3_read_26 C h_r1 ?_ gs_FU _ _ _ e15)
  refine gs_iload_n (pc := 67) C 2 dX3_read_67 rfl rfl ?_
  obtain ⟨M16, e17, h⟩ := gs_o1 h
  have j18 : gs_AW X 90 [(0, .ref 104), (1, .ref r1), (2, .int y12), (3, .int y13)] [] M16 L := by
    refine gs_aload_n (pc := 90) C 0 dX3_read_90 rfl rfl ?_
    refine gs_getq (pc := 91) C dX3_read_91 gk_3 fl_X3_9 sh_104 rfl ?_
    obtain ⟨v27, e28, h⟩ := gs_o1 h
    refine gs_callVi (pc := 94) C [] dX3_read_94 ml_X3_43 wy_X7_firstFault (a_X7_firstFault _ e28) (by decide) sh_1 (by decide) rfl rfl (Nat.le_of_ble_eq_true rfl) rfl ?_
    obtain ⟨rfl, rfl⟩ := gs_i2 h
    exact gs_iret (pc := 97) C dX3_read_97 E
  refine gs_if_eq (pc := 68) C 90 dX3_read_68 rfl (fun c19 => ?_) (fun c19 => ?_)
  · replace e17 := gs_ift c19 e17
    obtain rfl := gs_i1 e17
    exact j18
  · replace e17 := gs_iff c19 e17
    refine gs_aload_n (pc := 71) C 0 dX3_read_71 rfl rfl ?_
    refine gs_getq (pc := 72) C dX3_read_72 gk_3 fl_X3_9 sh_104 rfl ?_
    obtain ⟨v20, M21, e22, e17⟩ := gs_o2 e17
    refine gs_callVi (pc := 75) C [] dX3_read_75 ml_X3_33 wy_X7_look (a_X7_look _ e22) (by decide) sh_1 (by decide) rfl rfl (Nat.le_of_ble_eq_true rfl) rfl ?_
    refine gs_iconst (w := (-1)) (pc := 78) C dX3_read_78 rfl ?_
    refine gs_icmp_eq (pc := 79) C 90 dX3_read_79 rfl (fun c23 => ?_) (fun c23 => ?_)
    · replace e17 := gs_ift c23 e17
      obtain rfl := gs_i1 e17
      exact j18
    · replace e17 := gs_iff c23 e17
      refine gs_aload_n (pc := 82) C 0 dX3_read_82 rfl rfl ?_
      refine gs_getq (pc := 83) C dX3_read_83 gk_3 fl_X3_9 sh_104 rfl ?_
      obtain ⟨v24, M25, e26, e17⟩ := gs_o2 e17
      refine gs_callVi (pc := 86) C [] dX3_read_86 ml_X3_40 wy_X7_fail (a_X7_fail _ e26) (by decide) sh_1 (by decide) rfl rfl (Nat.le_of_ble_eq_true rfl) rfl ?_
      refine gs_pop (pc := 89) C dX3_read_89 rfl ?_
      obtain rfl := gs_i1 e17
      exact j18
set_option maxRecDepth 100000 in
set_option maxHeartbeats 4000000 in
theorem t_X10_read_6 {X : gs_X} (C : gs_C X RX10 cX10_read 4 (some .int) 1) {L : gs_L} {o2 : Int32} {M' : gs_M} (k : gs_AW X 25 [(0, .ref 95), (1, .ref 1), (2, .int o2)] [] M' L) : ∀ (f : Nat) (x2 : Int32) (M : gs_M), l_X10_read_6  f x2 M = some (o2, M') → gs_AW X 6 [(0, .ref 95), (1, .ref 1), (2, .int x2)] [] M L := by
  intro f
  induction f with
  | zero =>
    intro x2 M h
    cases h
  | succ f ih =>
    intro x2 M h
    rw [l_X10_read_6] at h
    refine gs_iload_n (pc := 6) C 2 dX10_read_6 rfl rfl ?_
    refine gs_bipush (w := 9) (pc := 7) C dX10_read_7 rfl ?_
    refine gs_icmp_ge (pc := 9) C 25 dX10_read_9 rfl (fun c1 => ?_) (fun c1 => ?_)
    · replace h := gs_ift c1 h
      obtain ⟨rfl, rfl⟩ := gs_i2 h
      exact k
    · replace h := gs_iff c1 h
      refine gs_aload_n (pc := 12) C 0 dX10_read_12 rfl rfl ?_
      refine gs_getq (pc := 13) C dX10_read_13 gk_10 fl_X10_15 sh_95 rfl ?_
      refine gs_iload_n (pc := 16) C 2 dX10_read_16 rfl rfl ?_
      refine gs_iconst (w := (-1)) (pc := 17) C dX10_read_17 rfl ?_
      obtain ⟨M3, e2, h⟩ := gs_o1 h
      refine gs_iast (pc := 18) C dX10_read_18 sh_97 e2 ?_
      refine gs_iinc (v := x2 + (1 : Int32)) (ls' := [(2, .int (x2 + (1 : Int32))), (0, .ref 95), (1, .ref 1)]) (pc := 19) C 2 dX10_read_19 rfl rfl (by decide) rfl ?_
      refine gs_goto (pc := 22) C 6 dX10_read_22 rfl ?_
      exact gs_sub [1, 2, 0] rfl (ih _ _ h)
set_option maxRecDepth 100000 in
set_option maxHeartbeats 4000000 in
theorem t_X10_read_27 {X : gs_X} (C : gs_C X RX10 cX10_read 4 (some .int) 1) {L : gs_L} {o2 : Int32} {M' : gs_M} (k : gs_AW X 78 [(0, .ref 95), (1, .ref 1), (2, .int o2)] [] M' L) : ∀ (f : Nat) (x2 : Int32) (M : gs_M), l_X10_read_27  f x2 M = some (o2, M') → gs_AW X 27 [(0, .ref 95), (1, .ref 1), (2, .int x2)] [] M L := by
  intro f
  induction f with
  | zero =>
    intro x2 M h
    cases h
  | succ f ih =>
    intro x2 M h
    rw [l_X10_read_27] at h
    refine gs_iload_n (pc := 27) C 2 dX10_read_27 rfl rfl ?_
    refine gs_bipush (w := 9) (pc := 28) C dX10_read_28 rfl ?_
    refine gs_icmp_ge (pc := 30) C 78 dX10_read_30 rfl (fun c1 => ?_) (fun c1 => ?_)
    · replace h := gs_ift c1 h
      obtain ⟨rfl, rfl⟩ := gs_i2 h
      exact k
    · replace h := gs_iff c1 h
      refine gs_aload_n (pc := 33) C 1 dX10_read_33 rfl rfl ?_
      obtain ⟨v2, M3, e4, h⟩ := gs_o2 h
      refine gs_callVi (pc := 34) C [] dX10_read_34 ml_X10_38 wy_X7_look (a_X7_look _ e4) (by decide) sh_1 (by decide) rfl rfl (Nat.le_of_ble_eq_true rfl) rfl ?_
      obtain ⟨v5, e6, h⟩ := gs_o1 h
      refine gs_callSi (pc := 37) C [.int v2] dX10_read_37 ml_X10_42 wy_X7_isDigit (a_X7_isDigit _ e6) (by decide) rfl (Nat.le_of_ble_eq_true rfl) rfl ?_
      refine gs_if_eq (pc := 40) C 78 dX10_read_40 rfl (fun c7 => ?_) (fun c7 => ?_)
      · replace h := gs_ift c7 h
        obtain ⟨rfl, rfl⟩ := gs_i2 h
        exact k
      · replace h := gs_iff c7 h
        refine gs_aload_n (pc := 43) C 1 dX10_read_43 rfl rfl ?_
        obtain ⟨v8, M9, e10, h⟩ := gs_o2 h
        refine gs_callVi (pc := 44) C [] dX10_read_44 ml_X10_38 wy_X7_look (a_X7_look _ e10) (by decide) sh_1 (by decide) rfl rfl (Nat.le_of_ble_eq_true rfl) rfl ?_
        refine gs_bipush (w := 48) (pc := 47) C dX10_read_47 rfl ?_
        refine gs_isub (pc := 49) C dX10_read_49 ?_
        refine gs_istore_n (ls' := [(3, .int (v8 - (48 : Int32))), (0, .ref 95), (1, .ref 1), (2, .int x2)]) (pc := 50) C dX10_read_50 rfl (by decide) rfl ?_
        refine gs_aload_n (pc := 51) C 1 dX10_read_51 rfl rfl ?_
        refine gs_getq (pc := 52) C dX10_read_52 gk_10 fl_X10_15 sh_95 rfl ?_
        refine gs_iload_n (pc := 55) C 3 dX10_read_55 rfl rfl ?_
        refine gs_iload_n (pc := 56) C 0 dX10_read_56 rfl rfl ?_
        refine gs_bipush (w := 9) (pc := 57) C dX10_read_57 rfl ?_
        have j15 : gs_AW X 67 [(0, .ref 95), (1, .ref 1), (2, .int x2), (3, .int (v8 - (48 : Int32)))] [.int (if (v8 - (48 : Int32)) = (9 : Int32) then (-1 : Int32) else (v8 - (48 : Int32)) : Int32), .int x2, .ref 97] M9 L := by
          obtain ⟨M12, e11, h⟩ := gs_o1 h
          refine gs_iast (pc := 67) C dX10_read_67 sh_97 e11 ?_
          refine gs_iinc (v := x2 + (1 : Int32)) (ls' := [(2, .int (x2 + (1 : Int32))), (0, .ref 95), (1, .ref 1), (3, .int (v8 - (48 : Int32)))]) (pc := 68) C 2 dX10_read_68 rfl rfl (by decide) rfl ?_
          refine gs_aload_n (pc := 71) C 2 dX10_read_71 rfl rfl ?_
          obtain ⟨M13, e14, h⟩ := gs_o1 h
          refine gs_callVv (pc := 72) C [] dX10_read_72 ml_X10_45 wy_X7_step (a_X7_step _ e14) (by decide) sh_1 (by decide) rfl rfl (Nat.le_of_ble_eq_true rfl) rfl ?_
          refine gs_goto (pc := 75) C 27 dX10_read_75 rfl ?_
          exact gs_sub [1, 2, 0] rfl (ih _ _ h)
        refine gs_icmp_ne (pc := 59) C 66 dX10_read_59 rfl (fun c16 => ?_) (fun c16 => ?_)
        · refine gs_iload_n (pc := 66) C 0 dX10_read_66 rfl rfl ?_
          simp only [if_neg c16] at j15
          exact gs_sub [1, 2, 3, 0] rfl (j15)
        · refine gs_iconst (w := (-1)) (pc := 62) C dX10_read_62 rfl ?_
          refine gs_goto (pc := 63) C 67 dX10_read_63 rfl ?_
          simp only [if_pos c16] at j15
          exact gs_sub [1, 2, 3, 0] rfl (j15)
set_option maxRecDepth 100000 in
set_option maxHeartbeats 4000000 in
theorem a_X10_read (l : Launch) {M : gs_M} {L : gs_L} {rv : Int32} {Mz : gs_M} (h : f_X10_read M = some (rv, Mz)) : gs_Met l 1 yX10_read cX10_read 4 (some .int) [.ref 95, .ref 1] M L (some (.int rv)) Mz L := by
  unfold f_X10_read at h
  refine gs_of RX10 (by decide) rfl (Nat.le_of_ble_eq_true rfl) (fun X C E => ?_)
  show gs_AW X 0 [(0, .ref 95), (1, .ref 1)] [] M L
  refine gs_aload_n (pc := 0) C 1 dX10_read_0 rfl rfl ?_
  obtain ⟨M1, e2, h⟩ := gs_o1 h
  refine gs_callVv (pc := 1) C [] dX10_read_1 ml_X10_33 wy_X7_rewind (a_X7_rewind _ e2) (by decide) sh_1 (by decide) rfl rfl (Nat.le_of_ble_eq_true rfl) rfl ?_
  refine gs_iconst (w := 0) (pc := 4) C dX10_read_4 rfl ?_
  refine gs_istore_n (ls' := [(2, .int (0 : Int32)), (0, .ref 95), (1, .ref 1)]) (pc := 5) C dX10_read_5 rfl (by decide) rfl ?_
  obtain ⟨y3, M4, e5, h⟩ := gs_o2 h
  refine gs_sub [1, 2, 0] rfl (t_X10_read_6 C ?_ gs_FU _ _ e5)
  refine gs_iconst (w := 0) (pc := 25) C dX10_read_25 rfl ?_
  refine gs_istore_n (ls' := [(2, .int (0 : Int32)), (0, .ref 95), (1, .ref 1)]) (pc := 26) C dX10_read_26 rfl (by decide) rfl ?_
  obtain ⟨y6, M7, e8, h⟩ := gs_o2 h
  refine gs_sub [1, 2, 0] rfl (t_X10_read_27 C ?_ gs_FU _ _ e8)
  refine gs_iload_n (pc := 78) C 2 dX10_read_78 rfl rfl ?_
  obtain ⟨M9, e10, h⟩ := gs_o1 h
  have j11 : gs_AW X 95 [(0, .ref 95), (1, .ref 1), (2, .int y6)] [] M9 L := by
    refine gs_aload_n (pc := 95) C 1 dX10_read_95 rfl rfl ?_
    obtain ⟨v23, e24, h⟩ := gs_o1 h
    refine gs_callVi (pc := 96) C [] dX10_read_96 ml_X10_52 wy_X7_firstFault (a_X7_firstFault _ e24) (by decide) sh_1 (by decide) rfl rfl (Nat.le_of_ble_eq_true rfl) rfl ?_
    obtain ⟨rfl, rfl⟩ := gs_i2 h
    exact gs_iret (pc := 99) C dX10_read_99 E
  refine gs_if_eq (pc := 79) C 90 dX10_read_79 rfl (fun c12 => ?_) (fun c12 => ?_)
  · replace e10 := gs_ift c12 e10
    refine gs_aload_n (pc := 90) C 1 dX10_read_90 rfl rfl ?_
    obtain ⟨v13, M14, e15, e10⟩ := gs_o2 e10
    refine gs_callVi (pc := 91) C [] dX10_read_91 ml_X10_48 wy_X7_fail (a_X7_fail _ e15) (by decide) sh_1 (by decide) rfl rfl (Nat.le_of_ble_eq_true rfl) rfl ?_
    refine gs_pop (pc := 94) C dX10_read_94 rfl ?_
    obtain rfl := gs_i1 e10
    exact j11
  · replace e10 := gs_iff c12 e10
    refine gs_aload_n (pc := 82) C 1 dX10_read_82 rfl rfl ?_
    obtain ⟨v16, M17, e18, e10⟩ := gs_o2 e10
    refine gs_callVi (pc := 83) C [] dX10_read_83 ml_X10_38 wy_X7_look (a_X7_look _ e18) (by decide) sh_1 (by decide) rfl rfl (Nat.le_of_ble_eq_true rfl) rfl ?_
    refine gs_iconst (w := (-1)) (pc := 86) C dX10_read_86 rfl ?_
    refine gs_icmp_eq (pc := 87) C 95 dX10_read_87 rfl (fun c19 => ?_) (fun c19 => ?_)
    · replace e10 := gs_ift c19 e10
      obtain rfl := gs_i1 e10
      exact j11
    · replace e10 := gs_iff c19 e10
      refine gs_aload_n (pc := 90) C 1 dX10_read_90 rfl rfl ?_
      obtain ⟨v20, M21, e22, e10⟩ := gs_o2 e10
      refine gs_callVi (pc := 91) C [] dX10_read_91 ml_X10_48 wy_X7_fail (a_X7_fail _ e22) (by decide) sh_1 (by decide) rfl rfl (Nat.le_of_ble_eq_true rfl) rfl ?_
      refine gs_pop (pc := 94) C dX10_read_94 rfl ?_
      obtain rfl := gs_i1 e10
      exact j11
set_option maxRecDepth 100000 in
set_option maxHeartbeats 4000000 in
theorem a_X11_fault (l : Launch) {M : gs_M} {L : gs_L} {x1 : Int32} {rv : Int32} {Mz : gs_M} (h : f_X11_fault M x1 = some (rv, Mz)) : gs_Met l 76 yX11_fault cX11_fault 2 (some .int) [.ref 0, .int x1] M L (some (.int rv)) Mz L := by
  unfold f_X11_fault at h
  refine gs_of RX11 (by decide) rfl (Nat.le_of_ble_eq_true rfl) (fun X C E => ?_)
  show gs_AW X 0 [(0, .ref 0), (1, .int x1)] [] M L
  refine gs_iload_n (pc := 0) C 1 dX11_fault_0 rfl rfl ?_
  by_cases c1 : x1 = (0 : Int32)
  · replace h := gs_ift c1 h
    refine gs_tabIn (pc := 1) C 28 dX11_fault_1 (by rw [c1]; decide) (by rw [c1]; decide) (off := 27) (by rw [c1]; decide) rfl ?_
    refine gs_aload_n (pc := 28) C 0 dX11_fault_28 rfl rfl ?_
    refine gs_getq (pc := 29) C dX11_fault_29 gk_11 fl_X11_23 sh_0 rfl ?_
    refine gs_aload_n (pc := 32) C 0 dX11_fault_32 rfl rfl ?_
    refine gs_getq (pc := 33) C dX11_fault_33 gk_11 fl_X11_10 sh_0 rfl ?_
    obtain ⟨v2, M3, e4, h⟩ := gs_o2 h
    refine gs_callVi (pc := 36) C [.ref 1] dX11_fault_36 ml_X11_130 wy_X9_read (a_X9_read _ e4) (by decide) sh_6 (by decide) rfl rfl (Nat.le_of_ble_eq_true rfl) rfl ?_
    obtain ⟨rfl, rfl⟩ := gs_i2 h
    exact gs_iret (pc := 39) C dX11_fault_39 E
  replace h := gs_iff c1 h
  by_cases c5 : x1 = (1 : Int32)
  · replace h := gs_ift c5 h
    refine gs_tabIn (pc := 1) C 40 dX11_fault_1 (by rw [c5]; decide) (by rw [c5]; decide) (off := 39) (by rw [c5]; decide) rfl ?_
    refine gs_aload_n (pc := 40) C 0 dX11_fault_40 rfl rfl ?_
    refine gs_getq (pc := 41) C dX11_fault_41 gk_11 fl_X11_62 sh_0 rfl ?_
    refine gs_aload_n (pc := 44) C 0 dX11_fault_44 rfl rfl ?_
    refine gs_getq (pc := 45) C dX11_fault_45 gk_11 fl_X11_53 sh_0 rfl ?_
    obtain ⟨v6, M7, e8, h⟩ := gs_o2 h
    refine gs_callVi (pc := 48) C [.ref 98] dX11_fault_48 ml_X11_134 wy_X3_read (a_X3_read _ (Or.inl rfl) e8) (by decide) sh_104 (by decide) rfl rfl (Nat.le_of_ble_eq_true rfl) rfl ?_
    obtain ⟨rfl, rfl⟩ := gs_i2 h
    exact gs_iret (pc := 51) C dX11_fault_51 E
  replace h := gs_iff c5 h
  by_cases c9 : x1 = (2 : Int32)
  · replace h := gs_ift c9 h
    refine gs_tabIn (pc := 1) C 52 dX11_fault_1 (by rw [c9]; decide) (by rw [c9]; decide) (off := 51) (by rw [c9]; decide) rfl ?_
    refine gs_aload_n (pc := 52) C 0 dX11_fault_52 rfl rfl ?_
    refine gs_getq (pc := 53) C dX11_fault_53 gk_11 fl_X11_46 sh_0 rfl ?_
    refine gs_aload_n (pc := 56) C 0 dX11_fault_56 rfl rfl ?_
    refine gs_getq (pc := 57) C dX11_fault_57 gk_11 fl_X11_10 sh_0 rfl ?_
    obtain ⟨v10, M11, e12, h⟩ := gs_o2 h
    refine gs_callVi (pc := 60) C [.ref 1] dX11_fault_60 ml_X11_137 wy_X10_read (a_X10_read _ e12) (by decide) sh_95 (by decide) rfl rfl (Nat.le_of_ble_eq_true rfl) rfl ?_
    obtain ⟨rfl, rfl⟩ := gs_i2 h
    exact gs_iret (pc := 63) C dX11_fault_63 E
  replace h := gs_iff c9 h
  refine gs_tabOut (pc := 1) C 64 dX11_fault_1 (gs_swOut (vs := [0, 1, 2]) 0 3 (by decide) (List.forall_mem_cons.mpr ⟨c1, List.forall_mem_cons.mpr ⟨c5, List.forall_mem_cons.mpr ⟨c9, fun _ h => absurd h List.not_mem_nil⟩⟩⟩)) rfl ?_
  refine gs_bipush (w := (-2)) (pc := 64) C dX11_fault_64 rfl ?_
  obtain ⟨rfl, rfl⟩ := gs_i2 h
  exact gs_iret (pc := 66) C dX11_fault_66 E
set_option maxRecDepth 100000 in
set_option maxHeartbeats 4000000 in
theorem t_X7_told_5 {X : gs_X} (C : gs_C X RX7 cX7_told 3 (some .int) 0) {M : gs_M} {L : gs_L} {x0 : Int32} {o1 : Int32} {o2 : Int32} (k : gs_AW X 33 [(0, .int x0), (1, .int o1), (2, .int o2)] [] M L) : ∀ (f : Nat) (x1 : Int32) (x2 : Int32), l_X7_told_5 x0 f x1 x2 = some (o1, o2) → gs_AW X 5 [(0, .int x0), (1, .int x1), (2, .int x2)] [] M L := by
  intro f
  induction f with
  | zero =>
    intro x1 x2 h
    cases h
  | succ f ih =>
    intro x1 x2 h
    rw [l_X7_told_5] at h
    refine gs_iload_n (pc := 5) C 2 dX7_told_5 rfl rfl ?_
    refine gs_if_lt (pc := 6) C 33 dX7_told_6 rfl (fun c1 => ?_) (fun c1 => ?_)
    · replace h := gs_ift c1 h
      obtain ⟨rfl, rfl⟩ := gs_i2 h
      exact k
    · replace h := gs_iff c1 h
      refine gs_iload_n (pc := 9) C 1 dX7_told_9 rfl rfl ?_
      refine gs_iload_n (pc := 10) C 0 dX7_told_10 rfl rfl ?_
      refine gs_iload_n (pc := 11) C 2 dX7_told_11 rfl rfl ?_
      refine gs_iushr (pc := 12) C dX7_told_12 ?_
      refine gs_sipush (w := 255) (pc := 13) C dX7_told_13 rfl ?_
      refine gs_iand (pc := 16) C dX7_told_16 ?_
      have j2 : gs_AW X 25 [(0, .int x0), (1, .int x1), (2, .int x2)] [.int (if (((Int32.toUInt32 x0 >>> (Int32.toUInt32 x2 &&& Int32.toUInt32 31)).toInt32) &&& (255 : Int32)) = (0 : Int32) then (0 : Int32) else (1 : Int32) : Int32), .int x1] M L := by
        refine gs_iadd (pc := 25) C dX7_told_25 ?_
        refine gs_istore_n (ls' := [(1, .int (x1 + (if (((Int32.toUInt32 x0 >>> (Int32.toUInt32 x2 &&& Int32.toUInt32 31)).toInt32) &&& (255 : Int32)) = (0 : Int32) then (0 : Int32) else (1 : Int32) : Int32))), (0, .int x0), (2, .int x2)]) (pc := 26) C dX7_told_26 rfl (by decide) rfl ?_
        refine gs_iinc (v := x2 + (-8 : Int32)) (ls' := [(2, .int (x2 + (-8 : Int32))), (1, .int (x1 + (if (((Int32.toUInt32 x0 >>> (Int32.toUInt32 x2 &&& Int32.toUInt32 31)).toInt32) &&& (255 : Int32)) = (0 : Int32) then (0 : Int32) else (1 : Int32) : Int32))), (0, .int x0)]) (pc := 27) C 2 dX7_told_27 rfl rfl (by decide) rfl ?_
        refine gs_goto (pc := 30) C 5 dX7_told_30 rfl ?_
        exact gs_sub [2, 1, 0] rfl (ih _ _ h)
      refine gs_if_ne (pc := 17) C 24 dX7_told_17 rfl (fun c3 => ?_) (fun c3 => ?_)
      · refine gs_iconst (w := 1) (pc := 24) C dX7_told_24 rfl ?_
        simp only [if_neg c3] at j2
        exact j2
      · refine gs_iconst (w := 0) (pc := 20) C dX7_told_20 rfl ?_
        refine gs_goto (pc := 21) C 25 dX7_told_21 rfl ?_
        simp only [if_pos c3] at j2
        exact j2
set_option maxRecDepth 100000 in
set_option maxHeartbeats 4000000 in
theorem a_X7_told (l : Launch) {M : gs_M} {L : gs_L} {x0 : Int32} {rv : Int32} (h : f_X7_told x0 = some (rv)) : gs_Met l 0 yX7_told cX7_told 3 (some .int) [.int x0] M L (some (.int rv)) M L := by
  unfold f_X7_told at h
  refine gs_of RX7 (by decide) rfl (Nat.le_of_ble_eq_true rfl) (fun X C E => ?_)
  show gs_AW X 0 [(0, .int x0)] [] M L
  refine gs_iconst (w := 0) (pc := 0) C dX7_told_0 rfl ?_
  refine gs_istore_n (ls' := [(1, .int (0 : Int32)), (0, .int x0)]) (pc := 1) C dX7_told_1 rfl (by decide) rfl ?_
  refine gs_bipush (w := 24) (pc := 2) C dX7_told_2 rfl ?_
  refine gs_istore_n (ls' := [(2, .int (24 : Int32)), (1, .int (0 : Int32)), (0, .int x0)]) (pc := 4) C dX7_told_4 rfl (by decide) rfl ?_
  obtain ⟨y1, y2, e3, h⟩ := gs_o2 h
  refine gs_sub [2, 1, 0] rfl (t_X7_told_5 C ?_ gs_FU _ _ e3)
  refine gs_iload_n (pc := 33) C 1 dX7_told_33 rfl rfl ?_
  obtain rfl := gs_i1 h
  exact gs_iret (pc := 34) C dX7_told_34 E
set_option maxRecDepth 100000 in
set_option maxHeartbeats 4000000 in
theorem t_X7_put_3 {X : gs_X} (C : gs_C X RX7 cX7_put 4 none 0) {L : gs_L} {x1 : Int32} {o2 : Int32} {M' : gs_M} (k : gs_AW X 55 [(0, .ref 1), (1, .int x1), (2, .int o2)] [] M' L) : ∀ (f : Nat) (x2 : Int32) (M : gs_M), l_X7_put_3 x1 f x2 M = some (o2, M') → gs_AW X 3 [(0, .ref 1), (1, .int x1), (2, .int x2)] [] M L := by
  intro f
  induction f with
  | zero =>
    intro x2 M h
    cases h
  | succ f ih =>
    intro x2 M h
    rw [l_X7_put_3] at h
    refine gs_iload_n (pc := 3) C 2 dX7_put_3 rfl rfl ?_
    refine gs_if_lt (pc := 4) C 55 dX7_put_4 rfl (fun c1 => ?_) (fun c1 => ?_)
    · replace h := gs_ift c1 h
      obtain ⟨rfl, rfl⟩ := gs_i2 h
      exact k
    · replace h := gs_iff c1 h
      refine gs_iload_n (pc := 7) C 1 dX7_put_7 rfl rfl ?_
      refine gs_iload_n (pc := 8) C 2 dX7_put_8 rfl rfl ?_
      refine gs_iushr (pc := 9) C dX7_put_9 ?_
      refine gs_sipush (w := 255) (pc := 10) C dX7_put_10 rfl ?_
      refine gs_iand (pc := 13) C dX7_put_13 ?_
      refine gs_istore_n (ls' := [(3, .int (((Int32.toUInt32 x1 >>> (Int32.toUInt32 x2 &&& Int32.toUInt32 31)).toInt32) &&& (255 : Int32))), (0, .ref 1), (1, .int x1), (2, .int x2)]) (pc := 14) C dX7_put_14 rfl (by decide) rfl ?_
      refine gs_iload_n (pc := 15) C 0 dX7_put_15 rfl rfl ?_
      obtain ⟨M2, e3, h⟩ := gs_o1 h
      have j4 : gs_AW X 49 [(0, .ref 1), (1, .int x1), (2, .int x2), (3, .int (((Int32.toUInt32 x1 >>> (Int32.toUInt32 x2 &&& Int32.toUInt32 31)).toInt32) &&& (255 : Int32)))] [] M2 L := by
        refine gs_iinc (v := x2 + (-8 : Int32)) (ls' := [(2, .int (x2 + (-8 : Int32))), (0, .ref 1), (1, .int x1), (3, .int (((Int32.toUInt32 x1 >>> (Int32.toUInt32 x2 &&& Int32.toUInt32 31)).toInt32) &&& (255 : Int32)))]) (pc := 49) C 2 dX7_put_49 rfl rfl (by decide) rfl ?_
        refine gs_goto (pc := 52) C 3 dX7_put_52 rfl ?_
        exact gs_sub [1, 2, 0] rfl (ih _ _ h)
      refine gs_if_eq (pc := 16) C 49 dX7_put_16 rfl (fun c5 => ?_) (fun c5 => ?_)
      · replace e3 := gs_ift c5 e3
        obtain rfl := gs_i1 e3
        exact gs_sub [1, 2, 3, 0] rfl (j4)
      · replace e3 := gs_iff c5 e3
        refine gs_aload_n (pc := 19) C 1 dX7_put_19 rfl rfl ?_
        refine gs_geti (pc := 20) C dX7_put_20 gk_7 fl_X7_15 sh_1 rfl ?_
        refine gs_sipush (w := 240) (pc := 23) C dX7_put_23 rfl ?_
        refine gs_icmp_ge (pc := 26) C 49 dX7_put_26 rfl (fun c6 => ?_) (fun c6 => ?_)
        · replace e3 := gs_ift c6 e3
          obtain rfl := gs_i1 e3
          exact gs_sub [1, 2, 3, 0] rfl (j4)
        · replace e3 := gs_iff c6 e3
          refine gs_aload_n (pc := 29) C 1 dX7_put_29 rfl rfl ?_
          refine gs_getq (pc := 30) C dX7_put_30 gk_7 fl_X7_11 sh_1 rfl ?_
          refine gs_aload_n (pc := 33) C 1 dX7_put_33 rfl rfl ?_
          refine gs_geti (pc := 34) C dX7_put_34 gk_7 fl_X7_15 sh_1 rfl ?_
          refine gs_iload_n (pc := 37) C 0 dX7_put_37 rfl rfl ?_
          obtain ⟨M8, e7, e3⟩ := gs_o1 e3
          refine gs_iast (pc := 38) C dX7_put_38 sh_2 e7 ?_
          refine gs_aload_n (pc := 39) C 1 dX7_put_39 rfl rfl ?_
          refine gs_dup (pc := 40) C dX7_put_40 rfl ?_
          refine gs_geti (pc := 41) C dX7_put_41 gk_7 fl_X7_15 sh_1 rfl ?_
          refine gs_iconst (w := 1) (pc := 44) C dX7_put_44 rfl ?_
          refine gs_iadd (pc := 45) C dX7_put_45 ?_
          obtain ⟨M10, e9, e3⟩ := gs_o1 e3
          refine gs_puti' (pc := 46) C dX7_put_46 gk_7 fp_X7_15 sh_1 rfl e9 ?_
          obtain rfl := gs_i1 e3
          exact gs_sub [1, 2, 3, 0] rfl (j4)
set_option maxRecDepth 100000 in
set_option maxHeartbeats 4000000 in
theorem a_X7_put (l : Launch) {M : gs_M} {L : gs_L} {x1 : Int32} {Mz : gs_M} (h : f_X7_put M x1 = some (Mz)) : gs_Met l 0 yX7_put cX7_put 4 none [.ref 1, .int x1] M L none Mz L := by
  unfold f_X7_put at h
  refine gs_of RX7 (by decide) rfl (Nat.le_of_ble_eq_true rfl) (fun X C E => ?_)
  show gs_AW X 0 [(0, .ref 1), (1, .int x1)] [] M L
  refine gs_bipush (w := 24) (pc := 0) C dX7_put_0 rfl ?_
  refine gs_istore_n (ls' := [(2, .int (24 : Int32)), (0, .ref 1), (1, .int x1)]) (pc := 2) C dX7_put_2 rfl (by decide) rfl ?_
  obtain ⟨y1, M2, e3, h⟩ := gs_o2 h
  refine gs_sub [1, 2, 0] rfl (t_X7_put_3 C ?_ gs_FU _ _ e3)
  obtain rfl := gs_i1 h
  exact gs_vret (pc := 55) C dX7_put_55 E
set_option maxRecDepth 100000 in
set_option maxHeartbeats 4000000 in
theorem a_X11_feed (l : Launch) {M : gs_M} {L : gs_L} {x1 : Int32} {x2 : Int32} {x3 : Int32} {x4 : Int32} {x5 : Int32} {rv : Int32} {Mz : gs_M} (h : f_X11_feed M x1 x2 x3 x4 x5 = some (rv, Mz)) : gs_Met l 1 yX11_feed cX11_feed 7 (some .int) [.ref 0, .int x1, .int x2, .int x3, .int x4, .int x5] M L (some (.int rv)) Mz L := by
  unfold f_X11_feed at h
  refine gs_of RX11 (by decide) rfl (Nat.le_of_ble_eq_true rfl) (fun X C E => ?_)
  show gs_AW X 0 [(0, .ref 0), (1, .int x1), (2, .int x2), (3, .int x3), (4, .int x4), (5, .int x5)] [] M L
  refine gs_iload_n (pc := 0) C 1 dX11_feed_0 rfl rfl ?_
  obtain ⟨v1, e2, h⟩ := gs_o1 h
  refine gs_callSi (pc := 1) C [.int x1] dX11_feed_1 ml_X11_114 wy_X7_told (a_X7_told _ e2) (by decide) rfl (Nat.le_of_ble_eq_true rfl) rfl ?_
  refine gs_iload_n (pc := 4) C 2 dX11_feed_4 rfl rfl ?_
  obtain ⟨v3, e4, h⟩ := gs_o1 h
  refine gs_callSi (pc := 5) C [.int x2] dX11_feed_5 ml_X11_114 wy_X7_told (a_X7_told _ e4) (by decide) rfl (Nat.le_of_ble_eq_true rfl) rfl ?_
  refine gs_iadd (pc := 8) C dX11_feed_8 ?_
  refine gs_iload_n (pc := 9) C 3 dX11_feed_9 rfl rfl ?_
  obtain ⟨v5, e6, h⟩ := gs_o1 h
  refine gs_callSi (pc := 10) C [.int x3] dX11_feed_10 ml_X11_114 wy_X7_told (a_X7_told _ e6) (by decide) rfl (Nat.le_of_ble_eq_true rfl) rfl ?_
  refine gs_iadd (pc := 13) C dX11_feed_13 ?_
  refine gs_iload (pc := 14) C 4 dX11_feed_14 rfl ?_
  obtain ⟨v7, e8, h⟩ := gs_o1 h
  refine gs_callSi (pc := 16) C [.int x4] dX11_feed_16 ml_X11_114 wy_X7_told (a_X7_told _ e8) (by decide) rfl (Nat.le_of_ble_eq_true rfl) rfl ?_
  refine gs_iadd (pc := 19) C dX11_feed_19 ?_
  refine gs_iload (pc := 20) C 5 dX11_feed_20 rfl ?_
  obtain ⟨v9, e10, h⟩ := gs_o1 h
  refine gs_callSi (pc := 22) C [.int x5] dX11_feed_22 ml_X11_114 wy_X7_told (a_X7_told _ e10) (by decide) rfl (Nat.le_of_ble_eq_true rfl) rfl ?_
  refine gs_iadd (pc := 25) C dX11_feed_25 ?_
  refine gs_istore (ls' := [(6, .int ((((v1 + v3) + v5) + v7) + v9)), (0, .ref 0), (1, .int x1), (2, .int x2), (3, .int x3), (4, .int x4), (5, .int x5)]) (pc := 26) C dX11_feed_26 (by decide) rfl ?_
  refine gs_aload_n (pc := 28) C 1 dX11_feed_28 rfl rfl ?_
  refine gs_getq (pc := 29) C dX11_feed_29 gk_11 fl_X11_10 sh_0 rfl ?_
  obtain ⟨v11, e12, h⟩ := gs_o1 h
  refine gs_callVi (pc := 32) C [] dX11_feed_32 ml_X11_118 wy_X7_size (a_X7_size _ e12) (by decide) sh_1 (by decide) rfl rfl (Nat.le_of_ble_eq_true rfl) rfl ?_
  refine gs_iload (pc := 35) C 0 dX11_feed_35 rfl ?_
  refine gs_iadd (pc := 37) C dX11_feed_37 ?_
  refine gs_sipush (w := 240) (pc := 38) C dX11_feed_38 rfl ?_
  refine gs_icmp_le (pc := 41) C 46 dX11_feed_41 rfl (fun c13 => ?_) (fun c13 => ?_)
  · replace h := gs_ift c13 h
    refine gs_aload_n (pc := 46) C 1 dX11_feed_46 rfl rfl ?_
    refine gs_getq (pc := 47) C dX11_feed_47 gk_11 fl_X11_10 sh_0 rfl ?_
    refine gs_iload_n (pc := 50) C 2 dX11_feed_50 rfl rfl ?_
    obtain ⟨M14, e15, h⟩ := gs_o1 h
    refine gs_callVv (pc := 51) C [.int x1] dX11_feed_51 ml_X11_122 wy_X7_put (a_X7_put _ e15) (by decide) sh_1 (by decide) rfl rfl (Nat.le_of_ble_eq_true rfl) rfl ?_
    refine gs_aload_n (pc := 54) C 1 dX11_feed_54 rfl rfl ?_
    refine gs_getq (pc := 55) C dX11_feed_55 gk_11 fl_X11_10 sh_0 rfl ?_
    refine gs_iload_n (pc := 58) C 3 dX11_feed_58 rfl rfl ?_
    obtain ⟨M16, e17, h⟩ := gs_o1 h
    refine gs_callVv (pc := 59) C [.int x2] dX11_feed_59 ml_X11_122 wy_X7_put (a_X7_put _ e17) (by decide) sh_1 (by decide) rfl rfl (Nat.le_of_ble_eq_true rfl) rfl ?_
    refine gs_aload_n (pc := 62) C 1 dX11_feed_62 rfl rfl ?_
    refine gs_getq (pc := 63) C dX11_feed_63 gk_11 fl_X11_10 sh_0 rfl ?_
    refine gs_iload_n (pc := 66) C 4 dX11_feed_66 rfl rfl ?_
    obtain ⟨M18, e19, h⟩ := gs_o1 h
    refine gs_callVv (pc := 67) C [.int x3] dX11_feed_67 ml_X11_122 wy_X7_put (a_X7_put _ e19) (by decide) sh_1 (by decide) rfl rfl (Nat.le_of_ble_eq_true rfl) rfl ?_
    refine gs_aload_n (pc := 70) C 1 dX11_feed_70 rfl rfl ?_
    refine gs_getq (pc := 71) C dX11_feed_71 gk_11 fl_X11_10 sh_0 rfl ?_
    refine gs_iload (pc := 74) C 5 dX11_feed_74 rfl ?_
    obtain ⟨M20, e21, h⟩ := gs_o1 h
    refine gs_callVv (pc := 76) C [.int x4] dX11_feed_76 ml_X11_122 wy_X7_put (a_X7_put _ e21) (by decide) sh_1 (by decide) rfl rfl (Nat.le_of_ble_eq_true rfl) rfl ?_
    refine gs_aload_n (pc := 79) C 1 dX11_feed_79 rfl rfl ?_
    refine gs_getq (pc := 80) C dX11_feed_80 gk_11 fl_X11_10 sh_0 rfl ?_
    refine gs_iload (pc := 83) C 6 dX11_feed_83 rfl ?_
    obtain ⟨M22, e23, h⟩ := gs_o1 h
    refine gs_callVv (pc := 85) C [.int x5] dX11_feed_85 ml_X11_122 wy_X7_put (a_X7_put _ e23) (by decide) sh_1 (by decide) rfl rfl (Nat.le_of_ble_eq_true rfl) rfl ?_
    refine gs_aload_n (pc := 88) C 1 dX11_feed_88 rfl rfl ?_
    refine gs_getq (pc := 89) C dX11_feed_89 gk_11 fl_X11_10 sh_0 rfl ?_
    obtain ⟨v24, e25, h⟩ := gs_o1 h
    refine gs_callVi (pc := 92) C [] dX11_feed_92 ml_X11_118 wy_X7_size (a_X7_size _ e25) (by decide) sh_1 (by decide) rfl rfl (Nat.le_of_ble_eq_true rfl) rfl ?_
    obtain ⟨rfl, rfl⟩ := gs_i2 h
    exact gs_iret (pc := 95) C dX11_feed_95 E
  · replace h := gs_iff c13 h
    refine gs_iconst (w := (-1)) (pc := 44) C dX11_feed_44 rfl ?_
    obtain ⟨rfl, rfl⟩ := gs_i2 h
    exact gs_iret (pc := 45) C dX11_feed_45 E
set_option maxRecDepth 100000 in
set_option maxHeartbeats 4000000 in
theorem a_X11_forge (l : Launch) {M : gs_M} {L : gs_L} {x1 : Int32} {rv : Int32} {Mz : gs_M} (h : f_X11_forge M x1 = some (rv, Mz)) : gs_Met l 3 yX11_forge cX11_forge 2 (some .boolean) [.ref 0, .int x1] M L (some (.int rv)) Mz L := by
  unfold f_X11_forge at h
  refine gs_of RX11 (by decide) rfl (Nat.le_of_ble_eq_true rfl) (fun X C E => ?_)
  show gs_AW X 0 [(0, .ref 0), (1, .int x1)] [] M L
  refine gs_aload_n (pc := 0) C 0 dX11_forge_0 rfl rfl ?_
  refine gs_iload_n (pc := 1) C 1 dX11_forge_1 rfl rfl ?_
  refine gs_iconst (w := 4) (pc := 2) C dX11_forge_2 rfl ?_
  obtain ⟨v1, M2, e3, h⟩ := gs_o2 h
  refine gs_callVi (pc := 3) C [.int x1, .int (4 : Int32)] dX11_forge_3 ml_X11_223 wy_X11_onceAhead (a_X11_onceAhead _ e3) (by decide) sh_0 (by decide) rfl rfl (Nat.le_of_ble_eq_true rfl) rfl ?_
  obtain ⟨z4, e5, h⟩ := gs_o1 h
  obtain ⟨rfl, rfl⟩ := gs_i2 h
  exact gs_zret' (pc := 6) C dX11_forge_6 e5 E
set_option maxRecDepth 100000 in
set_option maxHeartbeats 4000000 in
theorem a_X11_image (l : Launch) {M : gs_M} {L : gs_L} {rv : Int32} {Mz : gs_M} (h : f_X11_image M = some (rv, Mz)) : gs_Met l 2 yX11_image cX11_image 1 (some .int) [.ref 0] M L (some (.int rv)) Mz L := by
  unfold f_X11_image at h
  refine gs_of RX11 (by decide) rfl (Nat.le_of_ble_eq_true rfl) (fun X C E => ?_)
  show gs_AW X 0 [(0, .ref 0)] [] M L
  refine gs_aload_n (pc := 0) C 0 dX11_image_0 rfl rfl ?_
  obtain ⟨v1, e2, h⟩ := gs_o1 h
  refine gs_callVi (pc := 1) C [] dX11_image_1 ml_X11_172 wy_X11_hasTown (a_X11_hasTown _ e2) (by decide) sh_0 (by decide) rfl rfl (Nat.le_of_ble_eq_true rfl) rfl ?_
  refine gs_if_ne (pc := 4) C 9 dX11_image_4 rfl (fun c3 => ?_) (fun c3 => ?_)
  · replace h := gs_iff c3 h
    refine gs_aload_n (pc := 9) C 0 dX11_image_9 rfl rfl ?_
    refine gs_getq (pc := 10) C dX11_image_10 gk_11 fl_X11_33 sh_0 rfl ?_
    refine gs_aload_n (pc := 13) C 0 dX11_image_13 rfl rfl ?_
    refine gs_getq (pc := 14) C dX11_image_14 gk_11 fl_X11_29 sh_0 rfl ?_
    obtain ⟨M4, e5, h⟩ := gs_o1 h
    refine gs_callVv (pc := 17) C [.ref 9] dX11_image_17 ml_X11_399 wy_X6_copyFrom (a_X6_copyFrom _ (Or.inr (Or.inl rfl)) (Or.inl rfl) e5) (by decide) sh_11 (by decide) rfl rfl (Nat.le_of_ble_eq_true rfl) rfl ?_
    refine gs_aload_n (pc := 20) C 0 dX11_image_20 rfl rfl ?_
    refine gs_iconst (w := 1) (pc := 21) C dX11_image_21 rfl ?_
    obtain ⟨M7, e6, h⟩ := gs_o1 h
    refine gs_putz' (pc := 22) C dX11_image_22 gk_11 fp_X11_106 sh_0 rfl (by decide) e6 ?_
    refine gs_aload_n (pc := 25) C 0 dX11_image_25 rfl rfl ?_
    refine gs_getq (pc := 26) C dX11_image_26 gk_11 fl_X11_29 sh_0 rfl ?_
    obtain ⟨v8, e9, h⟩ := gs_o1 h
    refine gs_callVi (pc := 29) C [] dX11_image_29 ml_X11_227 wy_X6_now (a_X6_now _ e9) (by decide) sh_9 (by decide) rfl rfl (Nat.le_of_ble_eq_true rfl) rfl ?_
    obtain ⟨rfl, rfl⟩ := gs_i2 h
    exact gs_iret (pc := 32) C dX11_image_32 E
  · replace h := gs_ift c3 h
    refine gs_iconst (w := (-1)) (pc := 7) C dX11_image_7 rfl ?_
    obtain ⟨rfl, rfl⟩ := gs_i2 h
    exact gs_iret (pc := 8) C dX11_image_8 E
set_option maxRecDepth 100000 in
set_option maxHeartbeats 4000000 in
theorem a_X6_decide (l : Launch) {M : gs_M} {L : gs_L} {x1 : Int32} {x2 : Int32} {x3 : Int32} {Mz : gs_M} (h : f_X6_decide M x1 x2 x3 = some (Mz)) : gs_Met l 1 yX6_decide cX6_decide 4 none [.ref 9, .int x1, .int x2, .int x3] M L none Mz L := by
  unfold f_X6_decide at h
  refine gs_of RX6 (by decide) rfl (Nat.le_of_ble_eq_true rfl) (fun X C E => ?_)
  show gs_AW X 0 [(0, .ref 9), (1, .int x1), (2, .int x2), (3, .int x3)] [] M L
  refine gs_aload_n (pc := 0) C 0 dX6_decide_0 rfl rfl ?_
  refine gs_iload_n (pc := 1) C 1 dX6_decide_1 rfl rfl ?_
  refine gs_iconst (w := 5) (pc := 2) C dX6_decide_2 rfl ?_
  refine gs_iload_n (pc := 3) C 2 dX6_decide_3 rfl rfl ?_
  have j9 : gs_AW X 12 [(0, .ref 9), (1, .int x1), (2, .int x2), (3, .int x3)] [.int (if x2 = (0 : Int32) then (0 : Int32) else (1 : Int32) : Int32), .int (5 : Int32), .int x1, .ref 9] M L := by
    obtain ⟨M1, e2, h⟩ := gs_o1 h
    refine gs_callVv (pc := 12) C [.int x1, .int (5 : Int32), .int (if x2 = (0 : Int32) then (0 : Int32) else (1 : Int32) : Int32)] dX6_decide_12 ml_X6_31 wy_X6_set (a_X6_set _ e2) (by decide) sh_9 (by decide) rfl rfl (Nat.le_of_ble_eq_true rfl) rfl ?_
    refine gs_aload_n (pc := 15) C 0 dX6_decide_15 rfl rfl ?_
    refine gs_getq (pc := 16) C dX6_decide_16 gk_6 fl_X6_11 sh_9 rfl ?_
    refine gs_iload_n (pc := 19) C 3 dX6_decide_19 rfl rfl ?_
    have j7 : gs_AW X 30 [(0, .ref 9), (1, .int x1), (2, .int x2), (3, .int x3)] [.int (if x3 = (0 : Int32) then (50 : Int32) else (49 : Int32) : Int32), .ref 10] M1 L := by
      refine gs_dup2 (pc := 30) C dX6_decide_30 rfl rfl ?_
      obtain ⟨v3, e4, h⟩ := gs_o1 h
      refine gs_iald (pc := 31) C dX6_decide_31 sh_10 e4 ?_
      refine gs_iconst (w := 1) (pc := 32) C dX6_decide_32 rfl ?_
      refine gs_iadd (pc := 33) C dX6_decide_33 ?_
      obtain ⟨M6, e5, h⟩ := gs_o1 h
      refine gs_iast (pc := 34) C dX6_decide_34 sh_10 e5 ?_
      obtain rfl := gs_i1 h
      exact gs_vret (pc := 35) C dX6_decide_35 E
    refine gs_if_eq (pc := 20) C 28 dX6_decide_20 rfl (fun c8 => ?_) (fun c8 => ?_)
    · refine gs_bipush (w := 50) (pc := 28) C dX6_decide_28 rfl ?_
      simp only [if_pos c8] at j7
      exact j7
    · refine gs_bipush (w := 49) (pc := 23) C dX6_decide_23 rfl ?_
      refine gs_goto (pc := 25) C 30 dX6_decide_25 rfl ?_
      simp only [if_neg c8] at j7
      exact j7
  refine gs_if_eq (pc := 4) C 11 dX6_decide_4 rfl (fun c10 => ?_) (fun c10 => ?_)
  · refine gs_iconst (w := 0) (pc := 11) C dX6_decide_11 rfl ?_
    simp only [if_pos c10] at j9
    exact j9
  · refine gs_iconst (w := 1) (pc := 7) C dX6_decide_7 rfl ?_
    refine gs_goto (pc := 8) C 12 dX6_decide_8 rfl ?_
    simp only [if_neg c10] at j9
    exact j9
set_option maxRecDepth 100000 in
set_option maxHeartbeats 4000000 in
theorem a_X6_append (l : Launch) {M : gs_M} {L : gs_L} {x1 : Int32} {x2 : Int32} {x3 : Int32} {Mz : gs_M} (h : f_X6_append M x1 x2 x3 = some (Mz)) : gs_Met l 0 yX6_append cX6_append 4 none [.ref 9, .int x1, .int x2, .int x3] M L none Mz L := by
  unfold f_X6_append at h
  refine gs_of RX6 (by decide) rfl (Nat.le_of_ble_eq_true rfl) (fun X C E => ?_)
  show gs_AW X 0 [(0, .ref 9), (1, .int x1), (2, .int x2), (3, .int x3)] [] M L
  refine gs_aload_n (pc := 0) C 0 dX6_append_0 rfl rfl ?_
  refine gs_getq (pc := 1) C dX6_append_1 gk_6 fl_X6_11 sh_9 rfl ?_
  refine gs_iload_n (pc := 4) C 2 dX6_append_4 rfl rfl ?_
  obtain ⟨v1, e2, h⟩ := gs_o1 h
  refine gs_iald (pc := 5) C dX6_append_5 sh_10 e2 ?_
  refine gs_bipush (w := 60) (pc := 6) C dX6_append_6 rfl ?_
  obtain ⟨M3, e4, h⟩ := gs_o1 h
  have j5 : gs_AW X 36 [(0, .ref 9), (1, .int x1), (2, .int x2), (3, .int x3)] [] M3 L := by
    refine gs_aload_n (pc := 36) C 0 dX6_append_36 rfl rfl ?_
    refine gs_getq (pc := 37) C dX6_append_37 gk_6 fl_X6_11 sh_9 rfl ?_
    refine gs_iload_n (pc := 40) C 1 dX6_append_40 rfl rfl ?_
    refine gs_aload_n (pc := 41) C 0 dX6_append_41 rfl rfl ?_
    refine gs_getq (pc := 42) C dX6_append_42 gk_6 fl_X6_11 sh_9 rfl ?_
    refine gs_iload_n (pc := 45) C 2 dX6_append_45 rfl rfl ?_
    obtain ⟨v11, e12, h⟩ := gs_o1 h
    refine gs_iald (pc := 46) C dX6_append_46 sh_10 e12 ?_
    refine gs_iadd (pc := 47) C dX6_append_47 ?_
    refine gs_iload_n (pc := 48) C 3 dX6_append_48 rfl rfl ?_
    obtain ⟨M14, e13, h⟩ := gs_o1 h
    refine gs_iast (pc := 49) C dX6_append_49 sh_10 e13 ?_
    refine gs_aload_n (pc := 50) C 0 dX6_append_50 rfl rfl ?_
    refine gs_getq (pc := 51) C dX6_append_51 gk_6 fl_X6_11 sh_9 rfl ?_
    refine gs_iload_n (pc := 54) C 2 dX6_append_54 rfl rfl ?_
    refine gs_dup2 (pc := 55) C dX6_append_55 rfl rfl ?_
    obtain ⟨v15, e16, h⟩ := gs_o1 h
    refine gs_iald (pc := 56) C dX6_append_56 sh_10 e16 ?_
    refine gs_iconst (w := 1) (pc := 57) C dX6_append_57 rfl ?_
    refine gs_iadd (pc := 58) C dX6_append_58 ?_
    obtain ⟨M18, e17, h⟩ := gs_o1 h
    refine gs_iast (pc := 59) C dX6_append_59 sh_10 e17 ?_
    obtain rfl := gs_i1 h
    exact gs_vret (pc := 60) C dX6_append_60 E
  refine gs_icmp_lt (pc := 8) C 36 dX6_append_8 rfl (fun c6 => ?_) (fun c6 => ?_)
  · replace e4 := gs_ift c6 e4
    obtain rfl := gs_i1 e4
    exact j5
  · replace e4 := gs_iff c6 e4
    refine gs_aload_n (pc := 11) C 0 dX6_append_11 rfl rfl ?_
    refine gs_getq (pc := 12) C dX6_append_12 gk_6 fl_X6_11 sh_9 rfl ?_
    refine gs_iload_n (pc := 15) C 1 dX6_append_15 rfl rfl ?_
    refine gs_iconst (w := 1) (pc := 16) C dX6_append_16 rfl ?_
    refine gs_iadd (pc := 17) C dX6_append_17 ?_
    refine gs_aload_n (pc := 18) C 0 dX6_append_18 rfl rfl ?_
    refine gs_getq (pc := 19) C dX6_append_19 gk_6 fl_X6_11 sh_9 rfl ?_
    refine gs_iload_n (pc := 22) C 1 dX6_append_22 rfl rfl ?_
    refine gs_bipush (w := 59) (pc := 23) C dX6_append_23 rfl ?_
    obtain ⟨M8, e7, e4⟩ := gs_o1 e4
    refine gs_acpy (pc := 25) C dX6_append_25 ml_X6_15 sh_10 sh_10 (Nat.le_of_ble_eq_true rfl) e7 ?_
    refine gs_aload_n (pc := 28) C 0 dX6_append_28 rfl rfl ?_
    refine gs_getq (pc := 29) C dX6_append_29 gk_6 fl_X6_11 sh_9 rfl ?_
    refine gs_iload_n (pc := 32) C 2 dX6_append_32 rfl rfl ?_
    refine gs_bipush (w := 59) (pc := 33) C dX6_append_33 rfl ?_
    obtain ⟨M10, e9, e4⟩ := gs_o1 e4
    refine gs_iast (pc := 35) C dX6_append_35 sh_10 e9 ?_
    obtain rfl := gs_i1 e4
    exact j5
set_option maxRecDepth 100000 in
set_option maxHeartbeats 4000000 in
theorem a_X6_writeLog (l : Launch) {M : gs_M} {L : gs_L} {x1 : Int32} {x2 : Int32} {x3 : Int32} {Mz : gs_M} (h : f_X6_writeLog M x1 x2 x3 = some (Mz)) : gs_Met l 1 yX6_writeLog cX6_writeLog 4 none [.ref 9, .int x1, .int x2, .int x3] M L none Mz L := by
  unfold f_X6_writeLog at h
  refine gs_of RX6 (by decide) rfl (Nat.le_of_ble_eq_true rfl) (fun X C E => ?_)
  show gs_AW X 0 [(0, .ref 9), (1, .int x1), (2, .int x2), (3, .int x3)] [] M L
  refine gs_aload_n (pc := 0) C 0 dX6_writeLog_0 rfl rfl ?_
  refine gs_bipush (w := 113) (pc := 1) C dX6_writeLog_1 rfl ?_
  refine gs_bipush (w := 52) (pc := 3) C dX6_writeLog_3 rfl ?_
  refine gs_iload_n (pc := 5) C 1 dX6_writeLog_5 rfl rfl ?_
  refine gs_iload_n (pc := 6) C 2 dX6_writeLog_6 rfl rfl ?_
  have j3 : gs_AW X 15 [(0, .ref 9), (1, .int x1), (2, .int x2), (3, .int x3)] [.int (if x2 = (0 : Int32) then (0 : Int32) else (1 : Int32) : Int32), .int x1, .int (52 : Int32), .int (113 : Int32), .ref 9] M L := by
    refine gs_iconst (w := 3) (pc := 15) C dX6_writeLog_15 rfl ?_
    refine gs_ishl (pc := 16) C dX6_writeLog_16 ?_
    refine gs_ior (pc := 17) C dX6_writeLog_17 ?_
    refine gs_iload_n (pc := 18) C 3 dX6_writeLog_18 rfl rfl ?_
    refine gs_sipush (w := 1000) (pc := 19) C dX6_writeLog_19 rfl ?_
    refine gs_iadd (pc := 22) C dX6_writeLog_22 ?_
    refine gs_iconst (w := 4) (pc := 23) C dX6_writeLog_23 rfl ?_
    refine gs_ishl (pc := 24) C dX6_writeLog_24 ?_
    refine gs_ior (pc := 25) C dX6_writeLog_25 ?_
    obtain ⟨M1, e2, h⟩ := gs_o1 h
    refine gs_callVv (pc := 26) C [.int (113 : Int32), .int (52 : Int32), .int ((x1 ||| ((if x2 = (0 : Int32) then (0 : Int32) else (1 : Int32) : Int32) <<< ((3 : Int32) &&& 31))) ||| ((x3 + (1000 : Int32)) <<< ((4 : Int32) &&& 31)))] dX6_writeLog_26 ml_X6_41 wy_X6_append (a_X6_append _ e2) (by decide) sh_9 (by decide) rfl rfl (Nat.le_of_ble_eq_true rfl) rfl ?_
    obtain rfl := gs_i1 h
    exact gs_vret (pc := 29) C dX6_writeLog_29 E
  refine gs_if_eq (pc := 7) C 14 dX6_writeLog_7 rfl (fun c4 => ?_) (fun c4 => ?_)
  · refine gs_iconst (w := 0) (pc := 14) C dX6_writeLog_14 rfl ?_
    simp only [if_pos c4] at j3
    exact j3
  · refine gs_iconst (w := 1) (pc := 10) C dX6_writeLog_10 rfl ?_
    refine gs_goto (pc := 11) C 15 dX6_writeLog_11 rfl ?_
    simp only [if_neg c4] at j3
    exact j3
set_option maxRecDepth 100000 in
set_option maxHeartbeats 4000000 in
theorem t_X6_strike_4 {X : gs_X} (C : gs_C X RX6 cX6_strike 5 none 1) {L : gs_L} {x1 : Int32} {o2 : Int32} {o3 : Int32} {M' : gs_M} (k : gs_AW X 48 [(0, .ref 9), (1, .int x1), (2, .int o2), (3, .int o3)] [] M' L) : ∀ (f : Nat) (x2 : Int32) (x3 : Int32) (M : gs_M), l_X6_strike_4 x1 f x2 x3 M = some (o2, o3, M') → gs_AW X 4 [(0, .ref 9), (1, .int x1), (2, .int x2), (3, .int x3)] [] M L := by
  intro f
  induction f with
  | zero =>
    intro x2 x3 M h
    cases h
  | succ f ih =>
    intro x2 x3 M h
    rw [l_X6_strike_4] at h
    refine gs_iload_n (pc := 4) C 3 dX6_strike_4 rfl rfl ?_
    refine gs_aload_n (pc := 5) C 0 dX6_strike_5 rfl rfl ?_
    obtain ⟨v1, e2, h⟩ := gs_o1 h
    refine gs_callVi (pc := 6) C [] dX6_strike_6 ml_X6_47 wy_X6_books (a_X6_books _ e2) (by decide) sh_9 (by decide) rfl rfl (Nat.le_of_ble_eq_true rfl) rfl ?_
    refine gs_icmp_ge (pc := 9) C 48 dX6_strike_9 rfl (fun c3 => ?_) (fun c3 => ?_)
    · replace h := gs_ift c3 h
      obtain ⟨rfl, rfl, rfl⟩ := gs_i3 h
      exact k
    · replace h := gs_iff c3 h
      refine gs_aload_n (pc := 12) C 0 dX6_strike_12 rfl rfl ?_
      refine gs_iload_n (pc := 13) C 3 dX6_strike_13 rfl rfl ?_
      obtain ⟨v4, e5, h⟩ := gs_o1 h
      refine gs_callVi (pc := 14) C [.int x3] dX6_strike_14 ml_X6_50 wy_X6_bookAt (a_X6_bookAt _ e5) (by decide) sh_9 (by decide) rfl rfl (Nat.le_of_ble_eq_true rfl) rfl ?_
      refine gs_istore (ls' := [(4, .int v4), (0, .ref 9), (1, .int x1), (2, .int x2), (3, .int x3)]) (pc := 17) C dX6_strike_17 (by decide) rfl ?_
      refine gs_iload (pc := 19) C 0 dX6_strike_19 rfl ?_
      obtain ⟨v6, e7, h⟩ := gs_o1 h
      refine gs_callSi (pc := 21) C [.int v4] dX6_strike_21 ml_X6_54 wy_X6_personOf (a_X6_personOf _ e7) (by decide) rfl (Nat.le_of_ble_eq_true rfl) rfl ?_
      refine gs_iload_n (pc := 24) C 2 dX6_strike_24 rfl rfl ?_
      obtain ⟨y8, M9, e10, h⟩ := gs_o2 h
      have j11 : gs_AW X 42 [(0, .ref 9), (1, .int x1), (2, .int y8), (3, .int x3), (4, .int v4)] [] M9 L := by
        refine gs_iinc (v := x3 + (1 : Int32)) (ls' := [(3, .int (x3 + (1 : Int32))), (0, .ref 9), (1, .int x1), (2, .int y8), (4, .int v4)]) (pc := 42) C 3 dX6_strike_42 rfl rfl (by decide) rfl ?_
        refine gs_goto (pc := 45) C 4 dX6_strike_45 rfl ?_
        exact gs_sub [1, 2, 3, 0] rfl (ih _ _ _ h)
      refine gs_icmp_eq (pc := 25) C 42 dX6_strike_25 rfl (fun c12 => ?_) (fun c12 => ?_)
      · replace e10 := gs_ift c12 e10
        obtain ⟨rfl, rfl⟩ := gs_i2 e10
        exact gs_sub [1, 2, 3, 4, 0] rfl (j11)
      · replace e10 := gs_iff c12 e10
        refine gs_aload_n (pc := 28) C 1 dX6_strike_28 rfl rfl ?_
        refine gs_getq (pc := 29) C dX6_strike_29 gk_6 fl_X6_11 sh_9 rfl ?_
        refine gs_bipush (w := 53) (pc := 32) C dX6_strike_32 rfl ?_
        refine gs_iload_n (pc := 34) C 3 dX6_strike_34 rfl rfl ?_
        refine gs_iadd (pc := 35) C dX6_strike_35 ?_
        refine gs_iload (pc := 36) C 0 dX6_strike_36 rfl ?_
        obtain ⟨M14, e13, e10⟩ := gs_o1 e10
        refine gs_iast (pc := 38) C dX6_strike_38 sh_10 e13 ?_
        refine gs_iinc (v := x2 + (1 : Int32)) (ls' := [(2, .int (x2 + (1 : Int32))), (4, .int v4), (0, .ref 9), (1, .int x1), (3, .int x3)]) (pc := 39) C 3 dX6_strike_39 rfl rfl (by decide) rfl ?_
        obtain ⟨rfl, rfl⟩ := gs_i2 e10
        exact gs_sub [2, 3, 0, 4, 1] rfl (j11)
set_option maxRecDepth 100000 in
set_option maxHeartbeats 4000000 in
theorem a_X6_strike (l : Launch) {M : gs_M} {L : gs_L} {x1 : Int32} {Mz : gs_M} (h : f_X6_strike M x1 = some (Mz)) : gs_Met l 1 yX6_strike cX6_strike 5 none [.ref 9, .int x1] M L none Mz L := by
  unfold f_X6_strike at h
  refine gs_of RX6 (by decide) rfl (Nat.le_of_ble_eq_true rfl) (fun X C E => ?_)
  show gs_AW X 0 [(0, .ref 9), (1, .int x1)] [] M L
  refine gs_iconst (w := 0) (pc := 0) C dX6_strike_0 rfl ?_
  refine gs_istore_n (ls' := [(2, .int (0 : Int32)), (0, .ref 9), (1, .int x1)]) (pc := 1) C dX6_strike_1 rfl (by decide) rfl ?_
  refine gs_iconst (w := 0) (pc := 2) C dX6_strike_2 rfl ?_
  refine gs_istore_n (ls' := [(3, .int (0 : Int32)), (2, .int (0 : Int32)), (0, .ref 9), (1, .int x1)]) (pc := 3) C dX6_strike_3 rfl (by decide) rfl ?_
  obtain ⟨y1, y2, M3, e4, h⟩ := gs_o3 h
  refine gs_sub [2, 3, 1, 0] rfl (t_X6_strike_4 C ?_ gs_FU _ _ _ e4)
  refine gs_aload_n (pc := 48) C 0 dX6_strike_48 rfl rfl ?_
  refine gs_getq (pc := 49) C dX6_strike_49 gk_6 fl_X6_11 sh_9 rfl ?_
  refine gs_bipush (w := 51) (pc := 52) C dX6_strike_52 rfl ?_
  refine gs_iload_n (pc := 54) C 2 dX6_strike_54 rfl rfl ?_
  obtain ⟨M6, e5, h⟩ := gs_o1 h
  refine gs_iast (pc := 55) C dX6_strike_55 sh_10 e5 ?_
  obtain rfl := gs_i1 h
  exact gs_vret (pc := 56) C dX6_strike_56 E
set_option maxRecDepth 100000 in
set_option maxHeartbeats 4000000 in
theorem a_X11_judge (l : Launch) {M : gs_M} {L : gs_L} {x1 : Int32} {rv : Int32} {Mz : gs_M} (h : f_X11_judge M x1 = some (rv, Mz)) : gs_Met l 5 yX11_judge cX11_judge 5 (some .int) [.ref 0, .int x1] M L (some (.int rv)) Mz L := by
  unfold f_X11_judge at h
  refine gs_of RX11 (by decide) rfl (Nat.le_of_ble_eq_true rfl) (fun X C E => ?_)
  show gs_AW X 0 [(0, .ref 0), (1, .int x1)] [] M L
  refine gs_aload_n (pc := 0) C 0 dX11_judge_0 rfl rfl ?_
  refine gs_iload_n (pc := 1) C 1 dX11_judge_1 rfl rfl ?_
  obtain ⟨v1, e2, h⟩ := gs_o1 h
  refine gs_callVi (pc := 2) C [.int x1] dX11_judge_2 ml_X11_178 wy_X11_isPerson (a_X11_isPerson _ e2) (by decide) sh_0 (by decide) rfl rfl (Nat.le_of_ble_eq_true rfl) rfl ?_
  refine gs_if_eq (pc := 5) C 31 dX11_judge_5 rfl (fun c3 => ?_) (fun c3 => ?_)
  · replace h := gs_ift c3 h
    refine gs_iconst (w := (-1)) (pc := 31) C dX11_judge_31 rfl ?_
    obtain ⟨rfl, rfl⟩ := gs_i2 h
    exact gs_iret (pc := 32) C dX11_judge_32 E
  · replace h := gs_iff c3 h
    refine gs_aload_n (pc := 8) C 0 dX11_judge_8 rfl rfl ?_
    refine gs_getq (pc := 9) C dX11_judge_9 gk_11 fl_X11_29 sh_0 rfl ?_
    refine gs_iload_n (pc := 12) C 1 dX11_judge_12 rfl rfl ?_
    refine gs_iconst (w := 5) (pc := 13) C dX11_judge_13 rfl ?_
    obtain ⟨v4, e5, h⟩ := gs_o1 h
    refine gs_callVi (pc := 14) C [.int x1, .int (5 : Int32)] dX11_judge_14 ml_X11_188 wy_X6_of (a_X6_of _ e5) (by decide) sh_9 (by decide) rfl rfl (Nat.le_of_ble_eq_true rfl) rfl ?_
    refine gs_if_ne (pc := 17) C 31 dX11_judge_17 rfl (fun c6 => ?_) (fun c6 => ?_)
    · replace h := gs_iff c6 h
      refine gs_iconst (w := (-1)) (pc := 31) C dX11_judge_31 rfl ?_
      obtain ⟨rfl, rfl⟩ := gs_i2 h
      exact gs_iret (pc := 32) C dX11_judge_32 E
    · replace h := gs_ift c6 h
      refine gs_aload_n (pc := 20) C 0 dX11_judge_20 rfl rfl ?_
      refine gs_getq (pc := 21) C dX11_judge_21 gk_11 fl_X11_29 sh_0 rfl ?_
      refine gs_iload_n (pc := 24) C 1 dX11_judge_24 rfl rfl ?_
      obtain ⟨v7, e8, h⟩ := gs_o1 h
      refine gs_callVi (pc := 25) C [.int x1] dX11_judge_25 ml_X11_237 wy_X6_booksOf (a_X6_booksOf _ e8) (by decide) sh_9 (by decide) rfl rfl (Nat.le_of_ble_eq_true rfl) rfl ?_
      refine gs_if_ne (pc := 28) C 33 dX11_judge_28 rfl (fun c9 => ?_) (fun c9 => ?_)
      · replace h := gs_iff c9 h
        refine gs_aload_n (pc := 33) C 0 dX11_judge_33 rfl rfl ?_
        refine gs_getq (pc := 34) C dX11_judge_34 gk_11 fl_X11_39 sh_0 rfl ?_
        refine gs_aload_n (pc := 37) C 0 dX11_judge_37 rfl rfl ?_
        refine gs_getq (pc := 38) C dX11_judge_38 gk_11 fl_X11_29 sh_0 rfl ?_
        obtain ⟨M10, e11, h⟩ := gs_o1 h
        refine gs_callVv (pc := 41) C [.ref 9] dX11_judge_41 ml_X11_216 wy_X0_keep (a_X0_keep _ e11) (by decide) sh_13 (by decide) rfl rfl (Nat.le_of_ble_eq_true rfl) rfl ?_
        refine gs_aload_n (pc := 44) C 0 dX11_judge_44 rfl rfl ?_
        refine gs_getq (pc := 45) C dX11_judge_45 gk_11 fl_X11_71 sh_0 rfl ?_
        refine gs_iload_n (pc := 48) C 1 dX11_judge_48 rfl rfl ?_
        refine gs_aload_n (pc := 49) C 0 dX11_judge_49 rfl rfl ?_
        refine gs_getq (pc := 50) C dX11_judge_50 gk_11 fl_X11_71 sh_0 rfl ?_
        obtain ⟨v12, e13, h⟩ := gs_o1 h
        refine gs_callVi (pc := 53) C [] dX11_judge_53 ml_X11_240 wy_X4_holding (a_X4_holding _ e13) (by decide) sh_105 (by decide) rfl rfl (Nat.le_of_ble_eq_true rfl) rfl ?_
        obtain ⟨v14, M15, e16, h⟩ := gs_o2 h
        refine gs_callVi (pc := 56) C [.int x1, .int v12] dX11_judge_56 ml_X11_243 wy_X4_caseOf (a_X4_caseOf _ e16) (by decide) sh_105 (by decide) rfl rfl (Nat.le_of_ble_eq_true rfl) rfl ?_
        refine gs_istore_n (ls' := [(2, .int v14), (0, .ref 0), (1, .int x1)]) (pc := 59) C dX11_judge_59 rfl (by decide) rfl ?_
        refine gs_iload_n (pc := 60) C 0 dX11_judge_60 rfl rfl ?_
        refine gs_aload_n (pc := 61) C 1 dX11_judge_61 rfl rfl ?_
        refine gs_getq (pc := 62) C dX11_judge_62 gk_11 fl_X11_19 sh_0 rfl ?_
        refine gs_iconst (w := 1) (pc := 65) C dX11_judge_65 rfl ?_
        obtain ⟨v17, e18, h⟩ := gs_o1 h
        refine gs_callVi (pc := 66) C [.int (1 : Int32)] dX11_judge_66 ml_X11_175 wy_X9_ruled (a_X9_ruled _ e18) (by decide) sh_3 (by decide) rfl rfl (Nat.le_of_ble_eq_true rfl) rfl ?_
        have j33 : gs_AW X 77 [(0, .ref 0), (1, .int x1), (2, .int v14)] [.int (if v14 < v17 then (0 : Int32) else (1 : Int32) : Int32)] M15 L := by
          refine gs_istore_n (ls' := [(3, .int (if v14 < v17 then (0 : Int32) else (1 : Int32) : Int32)), (0, .ref 0), (1, .int x1), (2, .int v14)]) (pc := 77) C dX11_judge_77 rfl (by decide) rfl ?_
          refine gs_aload_n (pc := 78) C 1 dX11_judge_78 rfl rfl ?_
          refine gs_getq (pc := 79) C dX11_judge_79 gk_11 fl_X11_29 sh_0 rfl ?_
          refine gs_iload_n (pc := 82) C 2 dX11_judge_82 rfl rfl ?_
          refine gs_iconst (w := 0) (pc := 83) C dX11_judge_83 rfl ?_
          obtain ⟨v19, e20, h⟩ := gs_o1 h
          refine gs_callVi (pc := 84) C [.int x1, .int (0 : Int32)] dX11_judge_84 ml_X11_188 wy_X6_of (a_X6_of _ e20) (by decide) sh_9 (by decide) rfl rfl (Nat.le_of_ble_eq_true rfl) rfl ?_
          have j31 : gs_AW X 95 [(0, .ref 0), (1, .int x1), (2, .int v14), (3, .int (if v14 < v17 then (0 : Int32) else (1 : Int32) : Int32))] [.int (if v19 ≤ (0 : Int32) then (0 : Int32) else (1 : Int32) : Int32)] M15 L := by
            refine gs_istore (ls' := [(4, .int (if v19 ≤ (0 : Int32) then (0 : Int32) else (1 : Int32) : Int32)), (0, .ref 0), (1, .int x1), (2, .int v14), (3, .int (if v14 < v17 then (0 : Int32) else (1 : Int32) : Int32))]) (pc := 95) C dX11_judge_95 (by decide) rfl ?_
            refine gs_aload_n (pc := 97) C 1 dX11_judge_97 rfl rfl ?_
            refine gs_getq (pc := 98) C dX11_judge_98 gk_11 fl_X11_29 sh_0 rfl ?_
            refine gs_iload_n (pc := 101) C 2 dX11_judge_101 rfl rfl ?_
            refine gs_iload_n (pc := 102) C 4 dX11_judge_102 rfl rfl ?_
            refine gs_iload (pc := 103) C 0 dX11_judge_103 rfl ?_
            refine gs_iload_n (pc := 105) C 4 dX11_judge_105 rfl rfl ?_
            have j29 : gs_AW X 114 [(0, .ref 0), (1, .int x1), (2, .int v14), (3, .int (if v14 < v17 then (0 : Int32) else (1 : Int32) : Int32)), (4, .int (if v19 ≤ (0 : Int32) then (0 : Int32) else (1 : Int32) : Int32))] [.int (if (if v19 ≤ (0 : Int32) then (0 : Int32) else (1 : Int32) : Int32) = (if v14 < v17 then (0 : Int32) else (1 : Int32) : Int32) then (1 : Int32) else (0 : Int32) : Int32), .int (if v14 < v17 then (0 : Int32) else (1 : Int32) : Int32), .int x1, .ref 9] M15 L := by
              obtain ⟨M21, e22, h⟩ := gs_o1 h
              refine gs_callVv (pc := 114) C [.int x1, .int (if v14 < v17 then (0 : Int32) else (1 : Int32) : Int32), .int (if (if v19 ≤ (0 : Int32) then (0 : Int32) else (1 : Int32) : Int32) = (if v14 < v17 then (0 : Int32) else (1 : Int32) : Int32) then (1 : Int32) else (0 : Int32) : Int32)] dX11_judge_114 ml_X11_246 wy_X6_decide (a_X6_decide _ e22) (by decide) sh_9 (by decide) rfl rfl (Nat.le_of_ble_eq_true rfl) rfl ?_
              refine gs_aload_n (pc := 117) C 0 dX11_judge_117 rfl rfl ?_
              refine gs_getq (pc := 118) C dX11_judge_118 gk_11 fl_X11_29 sh_0 rfl ?_
              refine gs_iload_n (pc := 121) C 1 dX11_judge_121 rfl rfl ?_
              refine gs_iload_n (pc := 122) C 3 dX11_judge_122 rfl rfl ?_
              refine gs_iload_n (pc := 123) C 2 dX11_judge_123 rfl rfl ?_
              obtain ⟨M23, e24, h⟩ := gs_o1 h
              refine gs_callVv (pc := 124) C [.int x1, .int (if v14 < v17 then (0 : Int32) else (1 : Int32) : Int32), .int v14] dX11_judge_124 ml_X11_250 wy_X6_writeLog (a_X6_writeLog _ e24) (by decide) sh_9 (by decide) rfl rfl (Nat.le_of_ble_eq_true rfl) rfl ?_
              refine gs_aload_n (pc := 127) C 0 dX11_judge_127 rfl rfl ?_
              refine gs_getq (pc := 128) C dX11_judge_128 gk_11 fl_X11_29 sh_0 rfl ?_
              refine gs_iload_n (pc := 131) C 1 dX11_judge_131 rfl rfl ?_
              obtain ⟨M25, e26, h⟩ := gs_o1 h
              refine gs_callVv (pc := 132) C [.int x1] dX11_judge_132 ml_X11_254 wy_X6_strike (a_X6_strike _ e26) (by decide) sh_9 (by decide) rfl rfl (Nat.le_of_ble_eq_true rfl) rfl ?_
              refine gs_iload_n (pc := 135) C 3 dX11_judge_135 rfl rfl ?_
              have j27 : gs_AW X 144 [(0, .ref 0), (1, .int x1), (2, .int v14), (3, .int (if v14 < v17 then (0 : Int32) else (1 : Int32) : Int32)), (4, .int (if v19 ≤ (0 : Int32) then (0 : Int32) else (1 : Int32) : Int32))] [.int (if (if v14 < v17 then (0 : Int32) else (1 : Int32) : Int32) = (0 : Int32) then (0 : Int32) else (1 : Int32) : Int32)] M25 L := by
                obtain ⟨rfl, rfl⟩ := gs_i2 h
                exact gs_iret (pc := 144) C dX11_judge_144 E
              refine gs_if_eq (pc := 136) C 143 dX11_judge_136 rfl (fun c28 => ?_) (fun c28 => ?_)
              · refine gs_iconst (w := 0) (pc := 143) C dX11_judge_143 rfl ?_
                simp only [if_pos c28] at j27
                exact j27
              · refine gs_iconst (w := 1) (pc := 139) C dX11_judge_139 rfl ?_
                refine gs_goto (pc := 140) C 144 dX11_judge_140 rfl ?_
                simp only [if_neg c28] at j27
                exact j27
            refine gs_icmp_ne (pc := 106) C 113 dX11_judge_106 rfl (fun c30 => ?_) (fun c30 => ?_)
            · refine gs_iconst (w := 0) (pc := 113) C dX11_judge_113 rfl ?_
              simp only [if_neg c30] at j29
              exact gs_sub [1, 2, 3, 4, 0] rfl (j29)
            · refine gs_iconst (w := 1) (pc := 109) C dX11_judge_109 rfl ?_
              refine gs_goto (pc := 110) C 114 dX11_judge_110 rfl ?_
              simp only [if_pos c30] at j29
              exact gs_sub [1, 2, 3, 4, 0] rfl (j29)
          refine gs_if_le (pc := 87) C 94 dX11_judge_87 rfl (fun c32 => ?_) (fun c32 => ?_)
          · refine gs_iconst (w := 0) (pc := 94) C dX11_judge_94 rfl ?_
            simp only [if_pos c32] at j31
            exact gs_sub [1, 2, 3, 0] rfl (j31)
          · refine gs_iconst (w := 1) (pc := 90) C dX11_judge_90 rfl ?_
            refine gs_goto (pc := 91) C 95 dX11_judge_91 rfl ?_
            simp only [if_neg c32] at j31
            exact gs_sub [1, 2, 3, 0] rfl (j31)
        refine gs_icmp_lt (pc := 69) C 76 dX11_judge_69 rfl (fun c34 => ?_) (fun c34 => ?_)
        · refine gs_iconst (w := 0) (pc := 76) C dX11_judge_76 rfl ?_
          simp only [if_pos c34] at j33
          exact gs_sub [1, 2, 0] rfl (j33)
        · refine gs_iconst (w := 1) (pc := 72) C dX11_judge_72 rfl ?_
          refine gs_goto (pc := 73) C 77 dX11_judge_73 rfl ?_
          simp only [if_neg c34] at j33
          exact gs_sub [1, 2, 0] rfl (j33)
      · replace h := gs_ift c9 h
        refine gs_iconst (w := (-1)) (pc := 31) C dX11_judge_31 rfl ?_
        obtain ⟨rfl, rfl⟩ := gs_i2 h
        exact gs_iret (pc := 32) C dX11_judge_32 E
set_option maxRecDepth 100000 in
set_option maxHeartbeats 4000000 in
theorem a_X1_add (l : Launch) {M : gs_M} {L : gs_L} {x1 : Int32} {x2 : Int32} {x3 : Int32} {rv : Int32} {Mz : gs_M} (h : f_X1_add M x1 x2 x3 = some (rv, Mz)) : gs_Met l 0 yX1_add cX1_add 4 (some .int) [.ref 134, .int x1, .int x2, .int x3] M L (some (.int rv)) Mz L := by
  unfold f_X1_add at h
  refine gs_of RX1 (by decide) rfl (Nat.le_of_ble_eq_true rfl) (fun X C E => ?_)
  show gs_AW X 0 [(0, .ref 134), (1, .int x1), (2, .int x2), (3, .int x3)] [] M L
  refine gs_aload_n (pc := 0) C 0 dX1_add_0 rfl rfl ?_
  refine gs_geti (pc := 1) C dX1_add_1 gk_1 fl_X1_37 sh_134 rfl ?_
  refine gs_bipush (w := 12) (pc := 4) C dX1_add_4 rfl ?_
  refine gs_icmp_lt (pc := 6) C 11 dX1_add_6 rfl (fun c1 => ?_) (fun c1 => ?_)
  · replace h := gs_ift c1 h
    refine gs_aload_n (pc := 11) C 0 dX1_add_11 rfl rfl ?_
    refine gs_getq (pc := 12) C dX1_add_12 gk_1 fl_X1_11 sh_134 rfl ?_
    refine gs_aload_n (pc := 15) C 0 dX1_add_15 rfl rfl ?_
    refine gs_geti (pc := 16) C dX1_add_16 gk_1 fl_X1_37 sh_134 rfl ?_
    refine gs_iload_n (pc := 19) C 1 dX1_add_19 rfl rfl ?_
    obtain ⟨M3, e2, h⟩ := gs_o1 h
    refine gs_iast (pc := 20) C dX1_add_20 sh_135 e2 ?_
    refine gs_aload_n (pc := 21) C 0 dX1_add_21 rfl rfl ?_
    refine gs_getq (pc := 22) C dX1_add_22 gk_1 fl_X1_15 sh_134 rfl ?_
    refine gs_aload_n (pc := 25) C 0 dX1_add_25 rfl rfl ?_
    refine gs_geti (pc := 26) C dX1_add_26 gk_1 fl_X1_37 sh_134 rfl ?_
    refine gs_iload_n (pc := 29) C 2 dX1_add_29 rfl rfl ?_
    obtain ⟨M5, e4, h⟩ := gs_o1 h
    refine gs_iast (pc := 30) C dX1_add_30 sh_136 e4 ?_
    refine gs_aload_n (pc := 31) C 0 dX1_add_31 rfl rfl ?_
    refine gs_getq (pc := 32) C dX1_add_32 gk_1 fl_X1_18 sh_134 rfl ?_
    refine gs_aload_n (pc := 35) C 0 dX1_add_35 rfl rfl ?_
    refine gs_geti (pc := 36) C dX1_add_36 gk_1 fl_X1_37 sh_134 rfl ?_
    refine gs_iload_n (pc := 39) C 3 dX1_add_39 rfl rfl ?_
    obtain ⟨M7, e6, h⟩ := gs_o1 h
    refine gs_zast (pc := 40) C dX1_add_40 sh_137 e6 ?_
    refine gs_aload_n (pc := 41) C 0 dX1_add_41 rfl rfl ?_
    refine gs_dup (pc := 42) C dX1_add_42 rfl ?_
    refine gs_geti (pc := 43) C dX1_add_43 gk_1 fl_X1_37 sh_134 rfl ?_
    refine gs_iconst (w := 1) (pc := 46) C dX1_add_46 rfl ?_
    refine gs_iadd (pc := 47) C dX1_add_47 ?_
    obtain ⟨M9, e8, h⟩ := gs_o1 h
    refine gs_puti' (pc := 48) C dX1_add_48 gk_1 fp_X1_37 sh_134 rfl e8 ?_
    refine gs_aload_n (pc := 51) C 0 dX1_add_51 rfl rfl ?_
    refine gs_geti (pc := 52) C dX1_add_52 gk_1 fl_X1_37 sh_134 rfl ?_
    obtain ⟨rfl, rfl⟩ := gs_i2 h
    exact gs_iret (pc := 55) C dX1_add_55 E
  · replace h := gs_iff c1 h
    refine gs_iconst (w := (-1)) (pc := 9) C dX1_add_9 rfl ?_
    obtain ⟨rfl, rfl⟩ := gs_i2 h
    exact gs_iret (pc := 10) C dX1_add_10 E
set_option maxRecDepth 100000 in
set_option maxHeartbeats 4000000 in
theorem a_X11_lamp (l : Launch) {M : gs_M} {L : gs_L} {x1 : Int32} {x2 : Int32} {x3 : Int32} {rv : Int32} {Mz : gs_M} (h : f_X11_lamp M x1 x2 x3 = some (rv, Mz)) : gs_Met l 2 yX11_lamp cX11_lamp 4 (some .int) [.ref 0, .int x1, .int x2, .int x3] M L (some (.int rv)) Mz L := by
  unfold f_X11_lamp at h
  refine gs_of RX11 (by decide) rfl (Nat.le_of_ble_eq_true rfl) (fun X C E => ?_)
  show gs_AW X 0 [(0, .ref 0), (1, .int x1), (2, .int x2), (3, .int x3)] [] M L
  refine gs_aload_n (pc := 0) C 0 dX11_lamp_0 rfl rfl ?_
  refine gs_iload_n (pc := 1) C 1 dX11_lamp_1 rfl rfl ?_
  obtain ⟨v1, e2, h⟩ := gs_o1 h
  refine gs_callVi (pc := 2) C [.int x1] dX11_lamp_2 ml_X11_178 wy_X11_isPerson (a_X11_isPerson _ e2) (by decide) sh_0 (by decide) rfl rfl (Nat.le_of_ble_eq_true rfl) rfl ?_
  obtain ⟨y3, M4, e5, h⟩ := gs_o2 h
  have j6 : gs_AW X 30 [(0, .ref 0), (1, .int x1), (2, .int x2), (3, .int x3)] [.int y3] M4 L := by
    obtain ⟨rfl, rfl⟩ := gs_i2 h
    exact gs_iret (pc := 30) C dX11_lamp_30 E
  refine gs_if_eq (pc := 5) C 29 dX11_lamp_5 rfl (fun c7 => ?_) (fun c7 => ?_)
  · replace e5 := gs_ift c7 e5
    refine gs_iconst (w := (-1)) (pc := 29) C dX11_lamp_29 rfl ?_
    obtain ⟨rfl, rfl⟩ := gs_i2 e5
    exact j6
  · replace e5 := gs_iff c7 e5
    refine gs_aload_n (pc := 8) C 0 dX11_lamp_8 rfl rfl ?_
    refine gs_iload_n (pc := 9) C 2 dX11_lamp_9 rfl rfl ?_
    obtain ⟨v8, e9, e5⟩ := gs_o1 e5
    refine gs_callVi (pc := 10) C [.int x2] dX11_lamp_10 ml_X11_210 wy_X11_isHour (a_X11_isHour _ e9) (by decide) sh_0 (by decide) rfl rfl (Nat.le_of_ble_eq_true rfl) rfl ?_
    refine gs_if_eq (pc := 13) C 29 dX11_lamp_13 rfl (fun c10 => ?_) (fun c10 => ?_)
    · replace e5 := gs_ift c10 e5
      refine gs_iconst (w := (-1)) (pc := 29) C dX11_lamp_29 rfl ?_
      obtain ⟨rfl, rfl⟩ := gs_i2 e5
      exact j6
    · replace e5 := gs_iff c10 e5
      refine gs_aload_n (pc := 16) C 0 dX11_lamp_16 rfl rfl ?_
      refine gs_getq (pc := 17) C dX11_lamp_17 gk_11 fl_X11_89 sh_0 rfl ?_
      refine gs_iload_n (pc := 20) C 1 dX11_lamp_20 rfl rfl ?_
      refine gs_iload_n (pc := 21) C 2 dX11_lamp_21 rfl rfl ?_
      refine gs_iload_n (pc := 22) C 3 dX11_lamp_22 rfl rfl ?_
      obtain ⟨v11, M12, e13, e5⟩ := gs_o2 e5
      refine gs_callVi (pc := 23) C [.int x1, .int x2, .int x3] dX11_lamp_23 ml_X11_340 wy_X1_add (a_X1_add _ e13) (by decide) sh_134 (by decide) rfl rfl (Nat.le_of_ble_eq_true rfl) rfl ?_
      refine gs_goto (pc := 26) C 30 dX11_lamp_26 rfl ?_
      obtain ⟨rfl, rfl⟩ := gs_i2 e5
      exact j6
set_option maxRecDepth 100000 in
set_option maxHeartbeats 4000000 in
theorem a_X4_hold (l : Launch) {M : gs_M} {L : gs_L} {x1 : Int32} {rv : Int32} {Mz : gs_M} (h : f_X4_hold M x1 = some (rv, Mz)) : gs_Met l 1 yX4_hold cX4_hold 2 (some .boolean) [.ref 105, .int x1] M L (some (.int rv)) Mz L := by
  unfold f_X4_hold at h
  refine gs_of RX4 (by decide) rfl (Nat.le_of_ble_eq_true rfl) (fun X C E => ?_)
  show gs_AW X 0 [(0, .ref 105), (1, .int x1)] [] M L
  refine gs_iload_n (pc := 0) C 1 dX4_hold_0 rfl rfl ?_
  refine gs_iconst (w := (-1)) (pc := 1) C dX4_hold_1 rfl ?_
  refine gs_icmp_eq (pc := 2) C 15 dX4_hold_2 rfl (fun c1 => ?_) (fun c1 => ?_)
  · replace h := gs_ift c1 h
    refine gs_aload_n (pc := 15) C 0 dX4_hold_15 rfl rfl ?_
    refine gs_iload_n (pc := 16) C 1 dX4_hold_16 rfl rfl ?_
    obtain ⟨M3, e2, h⟩ := gs_o1 h
    refine gs_puti' (pc := 17) C dX4_hold_17 gk_4 fp_X4_21 sh_105 rfl e2 ?_
    refine gs_iconst (w := 1) (pc := 20) C dX4_hold_20 rfl ?_
    obtain ⟨rfl, rfl⟩ := gs_i2 h
    exact gs_zret (pc := 21) C (by decide) dX4_hold_21 E
  · replace h := gs_iff c1 h
    refine gs_aload_n (pc := 5) C 0 dX4_hold_5 rfl rfl ?_
    refine gs_iload_n (pc := 6) C 1 dX4_hold_6 rfl rfl ?_
    obtain ⟨v4, e5, h⟩ := gs_o1 h
    refine gs_callVi (pc := 7) C [.int x1] dX4_hold_7 ml_X4_37 wy_X4_has (a_X4_has _ e5) (by decide) sh_105 (by decide) rfl rfl (Nat.le_of_ble_eq_true rfl) rfl ?_
    refine gs_if_ne (pc := 10) C 15 dX4_hold_10 rfl (fun c6 => ?_) (fun c6 => ?_)
    · replace h := gs_iff c6 h
      refine gs_aload_n (pc := 15) C 0 dX4_hold_15 rfl rfl ?_
      refine gs_iload_n (pc := 16) C 1 dX4_hold_16 rfl rfl ?_
      obtain ⟨M8, e7, h⟩ := gs_o1 h
      refine gs_puti' (pc := 17) C dX4_hold_17 gk_4 fp_X4_21 sh_105 rfl e7 ?_
      refine gs_iconst (w := 1) (pc := 20) C dX4_hold_20 rfl ?_
      obtain ⟨rfl, rfl⟩ := gs_i2 h
      exact gs_zret (pc := 21) C (by decide) dX4_hold_21 E
    · replace h := gs_ift c6 h
      refine gs_iconst (w := 0) (pc := 13) C dX4_hold_13 rfl ?_
      obtain ⟨rfl, rfl⟩ := gs_i2 h
      exact gs_zret (pc := 14) C (by decide) dX4_hold_14 E
set_option maxRecDepth 100000 in
set_option maxHeartbeats 4000000 in
theorem a_X11_law (l : Launch) {M : gs_M} {L : gs_L} {x1 : Int32} {rv : Int32} {Mz : gs_M} (h : f_X11_law M x1 = some (rv, Mz)) : gs_Met l 2 yX11_law cX11_law 2 (some .boolean) [.ref 0, .int x1] M L (some (.int rv)) Mz L := by
  unfold f_X11_law at h
  refine gs_of RX11 (by decide) rfl (Nat.le_of_ble_eq_true rfl) (fun X C E => ?_)
  show gs_AW X 0 [(0, .ref 0), (1, .int x1)] [] M L
  refine gs_aload_n (pc := 0) C 0 dX11_law_0 rfl rfl ?_
  refine gs_getq (pc := 1) C dX11_law_1 gk_11 fl_X11_71 sh_0 rfl ?_
  refine gs_iload_n (pc := 4) C 1 dX11_law_4 rfl rfl ?_
  obtain ⟨v1, M2, e3, h⟩ := gs_o2 h
  refine gs_callVi (pc := 5) C [.int x1] dX11_law_5 ml_X11_199 wy_X4_hold (a_X4_hold _ e3) (by decide) sh_105 (by decide) rfl rfl (Nat.le_of_ble_eq_true rfl) rfl ?_
  obtain ⟨z4, e5, h⟩ := gs_o1 h
  obtain ⟨rfl, rfl⟩ := gs_i2 h
  exact gs_zret' (pc := 8) C dX11_law_8 e5 E
set_option maxRecDepth 100000 in
set_option maxHeartbeats 4000000 in
theorem t_X1_oddsOf_5 {X : gs_X} (C : gs_C X RX1 cX1_oddsOf 5 (some .long) 1) {M : gs_M} {L : gs_L} {x1 : Int32} {o2 : Int64} {o4 : Int32} (k : gs_AW X 58 [(0, .ref 134), (1, .int x1), (2, .long o2), (4, .int o4)] [] M L) : ∀ (f : Nat) (x2 : Int64) (x4 : Int32), l_X1_oddsOf_5 M x1 f x2 x4 = some (o2, o4) → gs_AW X 5 [(0, .ref 134), (1, .int x1), (2, .long x2), (4, .int x4)] [] M L := by
  intro f
  induction f with
  | zero =>
    intro x2 x4 h
    cases h
  | succ f ih =>
    intro x2 x4 h
    rw [l_X1_oddsOf_5] at h
    refine gs_iload (pc := 5) C 3 dX1_oddsOf_5 rfl ?_
    refine gs_aload_n (pc := 7) C 0 dX1_oddsOf_7 rfl rfl ?_
    refine gs_getq (pc := 8) C dX1_oddsOf_8 gk_1 fl_X1_29 sh_134 rfl ?_
    obtain ⟨v1, e2, h⟩ := gs_o1 h
    refine gs_callVi (pc := 11) C [] dX1_oddsOf_11 ml_X1_62 wy_X9_hours (a_X9_hours _ e2) (by decide) sh_3 (by decide) rfl rfl (Nat.le_of_ble_eq_true rfl) rfl ?_
    refine gs_icmp_ge (pc := 14) C 58 dX1_oddsOf_14 rfl (fun c3 => ?_) (fun c3 => ?_)
    · replace h := gs_ift c3 h
      obtain ⟨rfl, rfl⟩ := gs_i2 h
      exact k
    · replace h := gs_iff c3 h
      refine gs_lload_n (pc := 17) C 2 dX1_oddsOf_17 rfl rfl ?_
      refine gs_iload_n (pc := 18) C 1 dX1_oddsOf_18 rfl rfl ?_
      refine gs_iload (pc := 19) C 3 dX1_oddsOf_19 rfl ?_
      refine gs_ishr (pc := 21) C dX1_oddsOf_21 ?_
      refine gs_iconst (w := 1) (pc := 22) C dX1_oddsOf_22 rfl ?_
      refine gs_iand (pc := 23) C dX1_oddsOf_23 ?_
      refine gs_iconst (w := 1) (pc := 24) C dX1_oddsOf_24 rfl ?_
      obtain ⟨y4, e5, h⟩ := gs_o1 h
      have j6 : gs_AW X 50 [(0, .ref 134), (1, .int x1), (2, .long x2), (4, .int x4)] [.long y4, .long x2] M L := by
        refine gs_lmul (pc := 50) C dX1_oddsOf_50 ?_
        refine gs_lstore_n (ls' := [(2, .long (x2 * y4)), (0, .ref 134), (1, .int x1), (4, .int x4)]) (pc := 51) C dX1_oddsOf_51 rfl (by decide) rfl ?_
        refine gs_iinc (v := x4 + (1 : Int32)) (ls' := [(4, .int (x4 + (1 : Int32))), (2, .long (x2 * y4)), (0, .ref 134), (1, .int x1)]) (pc := 52) C 3 dX1_oddsOf_52 rfl rfl (by decide) rfl ?_
        refine gs_goto (pc := 55) C 5 dX1_oddsOf_55 rfl ?_
        exact gs_sub [2, 3, 1, 0] rfl (ih _ _ h)
      refine gs_icmp_ne (pc := 25) C 39 dX1_oddsOf_25 rfl (fun c7 => ?_) (fun c7 => ?_)
      · replace e5 := gs_iff c7 e5
        refine gs_bipush (w := 10) (pc := 39) C dX1_oddsOf_39 rfl ?_
        refine gs_aload_n (pc := 41) C 0 dX1_oddsOf_41 rfl rfl ?_
        refine gs_getq (pc := 42) C dX1_oddsOf_42 gk_1 fl_X1_26 sh_134 rfl ?_
        refine gs_iload (pc := 45) C 3 dX1_oddsOf_45 rfl ?_
        obtain ⟨v8, e9, e5⟩ := gs_o1 e5
        refine gs_iald (pc := 47) C dX1_oddsOf_47 sh_139 e9 ?_
        refine gs_isub (pc := 48) C dX1_oddsOf_48 ?_
        refine gs_i2l (pc := 49) C dX1_oddsOf_49 ?_
        obtain rfl := gs_i1 e5
        exact j6
      · replace e5 := gs_ift c7 e5
        refine gs_aload_n (pc := 28) C 0 dX1_oddsOf_28 rfl rfl ?_
        refine gs_getq (pc := 29) C dX1_oddsOf_29 gk_1 fl_X1_26 sh_134 rfl ?_
        refine gs_iload (pc := 32) C 3 dX1_oddsOf_32 rfl ?_
        obtain ⟨v10, e11, e5⟩ := gs_o1 e5
        refine gs_iald (pc := 34) C dX1_oddsOf_34 sh_139 e11 ?_
        refine gs_i2l (pc := 35) C dX1_oddsOf_35 ?_
        refine gs_goto (pc := 36) C 50 dX1_oddsOf_36 rfl ?_
        obtain rfl := gs_i1 e5
        exact j6
set_option maxRecDepth 100000 in
set_option maxHeartbeats 4000000 in
theorem a_X1_oddsOf (l : Launch) {M : gs_M} {L : gs_L} {x1 : Int32} {rv : Int64} (h : f_X1_oddsOf M x1 = some (rv)) : gs_Met l 1 yX1_oddsOf cX1_oddsOf 5 (some .long) [.ref 134, .int x1] M L (some (.long rv)) M L := by
  unfold f_X1_oddsOf at h
  refine gs_of RX1 (by decide) rfl (Nat.le_of_ble_eq_true rfl) (fun X C E => ?_)
  show gs_AW X 0 [(0, .ref 134), (1, .int x1)] [] M L
  refine gs_lconst (w := 1) (pc := 0) C dX1_oddsOf_0 rfl ?_
  refine gs_lstore_n (ls' := [(2, .long (1 : Int64)), (0, .ref 134), (1, .int x1)]) (pc := 1) C dX1_oddsOf_1 rfl (by decide) rfl ?_
  refine gs_iconst (w := 0) (pc := 2) C dX1_oddsOf_2 rfl ?_
  refine gs_istore (ls' := [(4, .int (0 : Int32)), (2, .long (1 : Int64)), (0, .ref 134), (1, .int x1)]) (pc := 3) C dX1_oddsOf_3 (by decide) rfl ?_
  obtain ⟨y1, y2, e3, h⟩ := gs_o2 h
  refine gs_sub [2, 3, 1, 0] rfl (t_X1_oddsOf_5 C ?_ gs_FU _ _ e3)
  refine gs_lload_n (pc := 58) C 2 dX1_oddsOf_58 rfl rfl ?_
  obtain rfl := gs_i1 h
  exact gs_lret (pc := 59) C dX1_oddsOf_59 E
set_option maxRecDepth 100000 in
set_option maxHeartbeats 4000000 in
theorem t_X11_likeliest_36 {X : gs_X} (C : gs_C X RX11 cX11_likeliest 7 (some .int) 6) {M : gs_M} {L : gs_L} {x1 : Int32} {x2 : Int32} {o3 : Int32} {o4 : Int64} {o6 : Int32} (k : gs_AW X 103 [(0, .ref 0), (1, .int x1), (2, .int x2), (3, .int o3), (4, .long o4), (6, .int o6)] [] M L) : ∀ (f : Nat) (x3 : Int32) (x4 : Int64) (x6 : Int32), l_X11_likeliest_36 M x1 x2 f x3 x4 x6 = some (o3, o4, o6) → gs_AW X 36 [(0, .ref 0), (1, .int x1), (2, .int x2), (3, .int x3), (4, .long x4), (6, .int x6)] [] M L := by
  intro f
  induction f with
  | zero =>
    intro x3 x4 x6 h
    cases h
  | succ f ih =>
    intro x3 x4 x6 h
    rw [l_X11_likeliest_36] at h
    refine gs_iload (pc := 36) C 5 dX11_likeliest_36 rfl ?_
    refine gs_iconst (w := 1) (pc := 38) C dX11_likeliest_38 rfl ?_
    refine gs_aload_n (pc := 39) C 0 dX11_likeliest_39 rfl rfl ?_
    refine gs_getq (pc := 40) C dX11_likeliest_40 gk_11 fl_X11_19 sh_0 rfl ?_
    obtain ⟨v1, e2, h⟩ := gs_o1 h
    refine gs_callVi (pc := 43) C [] dX11_likeliest_43 ml_X11_305 wy_X9_hours (a_X9_hours _ e2) (by decide) sh_3 (by decide) rfl rfl (Nat.le_of_ble_eq_true rfl) rfl ?_
    refine gs_ishl (pc := 46) C dX11_likeliest_46 ?_
    refine gs_icmp_ge (pc := 47) C 103 dX11_likeliest_47 rfl (fun c3 => ?_) (fun c3 => ?_)
    · replace h := gs_ift c3 h
      obtain ⟨rfl, rfl, rfl⟩ := gs_i3 h
      exact k
    · replace h := gs_iff c3 h
      refine gs_aload_n (pc := 50) C 0 dX11_likeliest_50 rfl rfl ?_
      refine gs_getq (pc := 51) C dX11_likeliest_51 gk_11 fl_X11_89 sh_0 rfl ?_
      refine gs_iload (pc := 54) C 5 dX11_likeliest_54 rfl ?_
      refine gs_iload_n (pc := 56) C 2 dX11_likeliest_56 rfl rfl ?_
      obtain ⟨v4, e5, h⟩ := gs_o1 h
      refine gs_callVi (pc := 57) C [.int x6, .int x2] dX11_likeliest_57 ml_X11_364 wy_X1_canBurn (a_X1_canBurn _ e5) (by decide) sh_134 (by decide) rfl rfl (Nat.le_of_ble_eq_true rfl) rfl ?_
      obtain ⟨y6, y7, e8, h⟩ := gs_o2 h
      have j9 : gs_AW X 97 [(0, .ref 0), (1, .int x1), (2, .int x2), (3, .int y6), (4, .long y7), (6, .int x6)] [] M L := by
        refine gs_iinc (v := x6 + (1 : Int32)) (ls' := [(6, .int (x6 + (1 : Int32))), (0, .ref 0), (1, .int x1), (2, .int x2), (3, .int y6), (4, .long y7)]) (pc := 97) C 5 dX11_likeliest_97 rfl rfl (by decide) rfl ?_
        refine gs_goto (pc := 100) C 36 dX11_likeliest_100 rfl ?_
        exact gs_sub [1, 2, 3, 4, 5, 0] rfl (ih _ _ _ h)
      refine gs_if_eq (pc := 60) C 97 dX11_likeliest_60 rfl (fun c10 => ?_) (fun c10 => ?_)
      · replace e8 := gs_ift c10 e8
        obtain ⟨rfl, rfl⟩ := gs_i2 e8
        exact j9
      · replace e8 := gs_iff c10 e8
        refine gs_iload_n (pc := 63) C 3 dX11_likeliest_63 rfl rfl ?_
        refine gs_iconst (w := (-1)) (pc := 64) C dX11_likeliest_64 rfl ?_
        refine gs_icmp_eq (pc := 65) C 83 dX11_likeliest_65 rfl (fun c11 => ?_) (fun c11 => ?_)
        · replace e8 := gs_ift c11 e8
          refine gs_iload (pc := 83) C 5 dX11_likeliest_83 rfl ?_
          refine gs_istore_n (ls' := [(3, .int x6), (0, .ref 0), (1, .int x1), (2, .int x2), (4, .long x4), (6, .int x6)]) (pc := 85) C dX11_likeliest_85 rfl (by decide) rfl ?_
          refine gs_aload_n (pc := 86) C 1 dX11_likeliest_86 rfl rfl ?_
          refine gs_getq (pc := 87) C dX11_likeliest_87 gk_11 fl_X11_89 sh_0 rfl ?_
          refine gs_iload (pc := 90) C 5 dX11_likeliest_90 rfl ?_
          obtain ⟨v12, e13, e8⟩ := gs_o1 e8
          refine gs_callVl (pc := 92) C [.int x6] dX11_likeliest_92 ml_X11_367 wy_X1_oddsOf (a_X1_oddsOf _ e13) (by decide) sh_134 (by decide) rfl rfl (Nat.le_of_ble_eq_true rfl) rfl ?_
          refine gs_lstore (ls' := [(4, .long v12), (3, .int x6), (0, .ref 0), (1, .int x1), (2, .int x2), (6, .int x6)]) (pc := 95) C dX11_likeliest_95 (by decide) rfl ?_
          obtain ⟨rfl, rfl⟩ := gs_i2 e8
          exact gs_sub [2, 3, 4, 1, 0, 5] rfl (j9)
        · replace e8 := gs_iff c11 e8
          refine gs_aload_n (pc := 68) C 0 dX11_likeliest_68 rfl rfl ?_
          refine gs_getq (pc := 69) C dX11_likeliest_69 gk_11 fl_X11_89 sh_0 rfl ?_
          refine gs_iload (pc := 72) C 5 dX11_likeliest_72 rfl ?_
          obtain ⟨v14, e15, e8⟩ := gs_o1 e8
          refine gs_callVl (pc := 74) C [.int x6] dX11_likeliest_74 ml_X11_367 wy_X1_oddsOf (a_X1_oddsOf _ e15) (by decide) sh_134 (by decide) rfl rfl (Nat.le_of_ble_eq_true rfl) rfl ?_
          refine gs_lload (pc := 77) C 4 dX11_likeliest_77 rfl ?_
          refine gs_lcmp (pc := 79) C dX11_likeliest_79 ?_
          refine gs_if_le (pc := 80) C 97 dX11_likeliest_80 rfl (fun c16 => ?_) (fun c16 => ?_)
          · replace e8 := gs_ift c16 e8
            obtain ⟨rfl, rfl⟩ := gs_i2 e8
            exact j9
          · replace e8 := gs_iff c16 e8
            refine gs_iload (pc := 83) C 5 dX11_likeliest_83 rfl ?_
            refine gs_istore_n (ls' := [(3, .int x6), (0, .ref 0), (1, .int x1), (2, .int x2), (4, .long x4), (6, .int x6)]) (pc := 85) C dX11_likeliest_85 rfl (by decide) rfl ?_
            refine gs_aload_n (pc := 86) C 1 dX11_likeliest_86 rfl rfl ?_
            refine gs_getq (pc := 87) C dX11_likeliest_87 gk_11 fl_X11_89 sh_0 rfl ?_
            refine gs_iload (pc := 90) C 5 dX11_likeliest_90 rfl ?_
            obtain ⟨v17, e18, e8⟩ := gs_o1 e8
            refine gs_callVl (pc := 92) C [.int x6] dX11_likeliest_92 ml_X11_367 wy_X1_oddsOf (a_X1_oddsOf _ e18) (by decide) sh_134 (by decide) rfl rfl (Nat.le_of_ble_eq_true rfl) rfl ?_
            refine gs_lstore (ls' := [(4, .long v17), (3, .int x6), (0, .ref 0), (1, .int x1), (2, .int x2), (6, .int x6)]) (pc := 95) C dX11_likeliest_95 (by decide) rfl ?_
            obtain ⟨rfl, rfl⟩ := gs_i2 e8
            exact gs_sub [2, 3, 4, 1, 0, 5] rfl (j9)
set_option maxRecDepth 100000 in
set_option maxHeartbeats 4000000 in
theorem a_X11_likeliest (l : Launch) {M : gs_M} {L : gs_L} {x1 : Int32} {x2 : Int32} {rv : Int32} {Mz : gs_M} (h : f_X11_likeliest M x1 x2 = some (rv, Mz)) : gs_Met l 6 yX11_likeliest cX11_likeliest 7 (some .int) [.ref 0, .int x1, .int x2] M L (some (.int rv)) Mz L := by
  unfold f_X11_likeliest at h
  refine gs_of RX11 (by decide) rfl (Nat.le_of_ble_eq_true rfl) (fun X C E => ?_)
  show gs_AW X 0 [(0, .ref 0), (1, .int x1), (2, .int x2)] [] M L
  refine gs_aload_n (pc := 0) C 0 dX11_likeliest_0 rfl rfl ?_
  refine gs_iload_n (pc := 1) C 1 dX11_likeliest_1 rfl rfl ?_
  obtain ⟨v1, e2, h⟩ := gs_o1 h
  refine gs_callVi (pc := 2) C [.int x1] dX11_likeliest_2 ml_X11_178 wy_X11_isPerson (a_X11_isPerson _ e2) (by decide) sh_0 (by decide) rfl rfl (Nat.le_of_ble_eq_true rfl) rfl ?_
  refine gs_if_eq (pc := 5) C 18 dX11_likeliest_5 rfl (fun c3 => ?_) (fun c3 => ?_)
  · replace h := gs_ift c3 h
    refine gs_iconst (w := (-1)) (pc := 18) C dX11_likeliest_18 rfl ?_
    obtain ⟨rfl, rfl⟩ := gs_i2 h
    exact gs_iret (pc := 19) C dX11_likeliest_19 E
  · replace h := gs_iff c3 h
    refine gs_iload_n (pc := 8) C 2 dX11_likeliest_8 rfl rfl ?_
    refine gs_if_lt (pc := 9) C 18 dX11_likeliest_9 rfl (fun c4 => ?_) (fun c4 => ?_)
    · replace h := gs_ift c4 h
      refine gs_iconst (w := (-1)) (pc := 18) C dX11_likeliest_18 rfl ?_
      obtain ⟨rfl, rfl⟩ := gs_i2 h
      exact gs_iret (pc := 19) C dX11_likeliest_19 E
    · replace h := gs_iff c4 h
      refine gs_iload_n (pc := 12) C 2 dX11_likeliest_12 rfl rfl ?_
      refine gs_bipush (w := 9) (pc := 13) C dX11_likeliest_13 rfl ?_
      refine gs_icmp_le (pc := 15) C 20 dX11_likeliest_15 rfl (fun c5 => ?_) (fun c5 => ?_)
      · replace h := gs_ift c5 h
        refine gs_aload_n (pc := 20) C 0 dX11_likeliest_20 rfl rfl ?_
        refine gs_getq (pc := 21) C dX11_likeliest_21 gk_11 fl_X11_89 sh_0 rfl ?_
        refine gs_iload_n (pc := 24) C 1 dX11_likeliest_24 rfl rfl ?_
        obtain ⟨M6, e7, h⟩ := gs_o1 h
        refine gs_callVv (pc := 25) C [.int x1] dX11_likeliest_25 ml_X11_361 wy_X1_light (a_X1_light _ e7) (by decide) sh_134 (by decide) rfl rfl (Nat.le_of_ble_eq_true rfl) rfl ?_
        refine gs_iconst (w := (-1)) (pc := 28) C dX11_likeliest_28 rfl ?_
        refine gs_istore_n (ls' := [(3, .int (-1 : Int32)), (0, .ref 0), (1, .int x1), (2, .int x2)]) (pc := 29) C dX11_likeliest_29 rfl (by decide) rfl ?_
        refine gs_lconst (w := 0) (pc := 30) C dX11_likeliest_30 rfl ?_
        refine gs_lstore (ls' := [(4, .long (0 : Int64)), (3, .int (-1 : Int32)), (0, .ref 0), (1, .int x1), (2, .int x2)]) (pc := 31) C dX11_likeliest_31 (by decide) rfl ?_
        refine gs_iconst (w := 0) (pc := 33) C dX11_likeliest_33 rfl ?_
        refine gs_istore (ls' := [(6, .int (0 : Int32)), (4, .long (0 : Int64)), (3, .int (-1 : Int32)), (0, .ref 0), (1, .int x1), (2, .int x2)]) (pc := 34) C dX11_likeliest_34 (by decide) rfl ?_
        obtain ⟨y8, y9, y10, e11, h⟩ := gs_o3 h
        refine gs_sub [3, 4, 5, 2, 1, 0] rfl (t_X11_likeliest_36 C ?_ gs_FU _ _ _ e11)
        refine gs_iload_n (pc := 103) C 3 dX11_likeliest_103 rfl rfl ?_
        obtain ⟨rfl, rfl⟩ := gs_i2 h
        exact gs_iret (pc := 104) C dX11_likeliest_104 E
      · replace h := gs_iff c5 h
        refine gs_iconst (w := (-1)) (pc := 18) C dX11_likeliest_18 rfl ?_
        obtain ⟨rfl, rfl⟩ := gs_i2 h
        exact gs_iret (pc := 19) C dX11_likeliest_19 E
