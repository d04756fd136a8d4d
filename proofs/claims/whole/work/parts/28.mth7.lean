set_option maxRecDepth 100000 in
set_option maxHeartbeats 4000000 in
theorem t_X12_part_18 {X : gs_X} {G : Nat → Int32 → Int32 → gs_M → Option (Int32 × gs_M)} {n : Nat} (hnb : 12 ≤ n) (hG0 : ∀ (l : Launch) {x1 x2 v : Int32} {M M1 : gs_M} {L : gs_L}, G 0 x1 x2 M = some (v, M1) → gs_Met l n yX12_atom cX12_atom 4 (some .int) [.ref 147] M L (some (.int v)) M1 L) (hG1 : ∀ (l : Launch) {x1 x2 v : Int32} {M M1 : gs_M} {L : gs_L}, G 1 x1 x2 M = some (v, M1) → gs_Met l n yX12_term cX12_term 5 (some .int) [.ref 147] M L (some (.int v)) M1 L) (hG2 : ∀ (l : Launch) {x1 x2 v : Int32} {M M1 : gs_M} {L : gs_L}, G 2 x1 x2 M = some (v, M1) → gs_Met l n yX12_sum cX12_sum 5 (some .int) [.ref 147] M L (some (.int v)) M1 L) (hG3 : ∀ (l : Launch) {x1 x2 v : Int32} {M M1 : gs_M} {L : gs_L}, G 3 x1 x2 M = some (v, M1) → gs_Met l n yX12_compares cX12_compares 6 (some .boolean) [.ref 147, .int x1, .int x2] M L (some (.int v)) M1 L) (hG4 : ∀ (l : Launch) {x1 x2 v : Int32} {M M1 : gs_M} {L : gs_L}, G 4 x1 x2 M = some (v, M1) → gs_Met l n yX12_unit cX12_unit 3 (some .boolean) [.ref 147] M L (some (.int v)) M1 L) (hG5 : ∀ (l : Launch) {x1 x2 v : Int32} {M M1 : gs_M} {L : gs_L}, G 5 x1 x2 M = some (v, M1) → gs_Met l n yX12_part cX12_part 5 (some .boolean) [.ref 147, .int x1, .int x2] M L (some (.int v)) M1 L) (hG6 : ∀ (l : Launch) {x1 x2 v : Int32} {M M1 : gs_M} {L : gs_L}, G 6 x1 x2 M = some (v, M1) → gs_Met l n yX12_condition cX12_condition 5 (some .boolean) [.ref 147, .int x1, .int x2] M L (some (.int v)) M1 L) (C : gs_C X RX12 cX12_part 5 (some .boolean) (n + 1)) {L : gs_L} {x1 : Int32} {x2 : Int32} {o3 : Int32} {M' : gs_M} (k : gs_AW X 69 [(0, .ref 147), (1, .int x1), (2, .int x2), (3, .int o3)] [] M' L) : ∀ (f : Nat) (x3 : Int32) (M : gs_M), l_X12_part_18 G x1 x2 f x3 M = some (o3, M') → gs_AW X 18 [(0, .ref 147), (1, .int x1), (2, .int x2), (3, .int x3)] [] M L := by
  intro f
  induction f with
  | zero =>
    intro x3 M h
    cases h
  | succ f ih =>
    intro x3 M h
    rw [l_X12_part_18] at h
    refine gs_aload_n (pc := 18) C 0 dX12_part_18 rfl rfl ?_
    refine gs_geti (pc := 19) C dX12_part_19 gk_12 fl_X12_132 sh_147 rfl ?_
    refine gs_iconst (w := (-1)) (pc := 22) C dX12_part_22 rfl ?_
    refine gs_icmp_ne (pc := 23) C 69 dX12_part_23 rfl (fun c1 => ?_) (fun c1 => ?_)
    · replace h := gs_iff c1 h
      obtain ⟨rfl, rfl⟩ := gs_i2 h
      exact k
    · replace h := gs_ift c1 h
      refine gs_aload_n (pc := 26) C 0 dX12_part_26 rfl rfl ?_
      obtain ⟨v2, M3, e4, h⟩ := gs_o2 h
      refine gs_callVi (pc := 27) C [] dX12_part_27 ml_X12_142 wy_X12_look (a_X12_look _ e4) (by omega) sh_147 (by decide) rfl rfl (Nat.le_of_ble_eq_true rfl) rfl ?_
      refine gs_bipush (w := 38) (pc := 30) C dX12_part_30 rfl ?_
      refine gs_icmp_ne (pc := 32) C 69 dX12_part_32 rfl (fun c5 => ?_) (fun c5 => ?_)
      · replace h := gs_iff c5 h
        obtain ⟨rfl, rfl⟩ := gs_i2 h
        exact k
      · replace h := gs_ift c5 h
        refine gs_aload_n (pc := 35) C 0 dX12_part_35 rfl rfl ?_
        refine gs_dup (pc := 36) C dX12_part_36 rfl ?_
        refine gs_geti (pc := 37) C dX12_part_37 gk_12 fl_X12_123 sh_147 rfl ?_
        refine gs_iconst (w := 1) (pc := 40) C dX12_part_40 rfl ?_
        refine gs_iadd (pc := 41) C dX12_part_41 ?_
        obtain ⟨M7, e6, h⟩ := gs_o1 h
        refine gs_puti' (pc := 42) C dX12_part_42 gk_12 fp_X12_123 sh_147 rfl e6 ?_
        refine gs_aload_n (pc := 45) C 0 dX12_part_45 rfl rfl ?_
        obtain ⟨v8, M9, e10, h⟩ := gs_o2 h
        refine gs_callVi (pc := 46) C [] dX12_part_46 ml_X12_188 wy_X12_unit (hG4 _ e10) (by omega) sh_147 (by decide) rfl rfl (Nat.le_of_ble_eq_true rfl) rfl ?_
        refine gs_istore (ls' := [(4, .int v8), (0, .ref 147), (1, .int x1), (2, .int x2), (3, .int x3)]) (pc := 49) C dX12_part_49 (by decide) rfl ?_
        refine gs_iload_n (pc := 51) C 4 dX12_part_51 rfl rfl ?_
        have j11 : gs_AW X 65 [(0, .ref 147), (1, .int x1), (2, .int x2), (3, .int x3), (4, .int v8)] [.int (if x3 = (0 : Int32) then (0 : Int32) else if v8 = (0 : Int32) then (0 : Int32) else (1 : Int32) : Int32)] M9 L := by
          refine gs_istore_n (ls' := [(3, .int (if x3 = (0 : Int32) then (0 : Int32) else if v8 = (0 : Int32) then (0 : Int32) else (1 : Int32) : Int32)), (0, .ref 147), (1, .int x1), (2, .int x2), (4, .int v8)]) (pc := 65) C dX12_part_65 rfl (by decide) rfl ?_
          refine gs_goto (pc := 66) C 18 dX12_part_66 rfl ?_
          exact gs_sub [1, 2, 3, 0] rfl (ih _ _ h)
        refine gs_if_eq (pc := 52) C 64 dX12_part_52 rfl (fun c12 => ?_) (fun c12 => ?_)
        · refine gs_iconst (w := 0) (pc := 64) C dX12_part_64 rfl ?_
          simp only [if_pos c12] at j11
          exact gs_sub [1, 2, 3, 4, 0] rfl (j11)
        · refine gs_iload (pc := 55) C 0 dX12_part_55 rfl ?_
          refine gs_if_eq (pc := 57) C 64 dX12_part_57 rfl (fun c13 => ?_) (fun c13 => ?_)
          · refine gs_iconst (w := 0) (pc := 64) C dX12_part_64 rfl ?_
            simp only [if_neg c12, if_pos c13] at j11
            exact gs_sub [1, 2, 3, 4, 0] rfl (j11)
          · refine gs_iconst (w := 1) (pc := 60) C dX12_part_60 rfl ?_
            refine gs_goto (pc := 61) C 65 dX12_part_61 rfl ?_
            simp only [if_neg c12, if_neg c13] at j11
            exact gs_sub [1, 2, 3, 4, 0] rfl (j11)
set_option maxRecDepth 100000 in
set_option maxHeartbeats 4000000 in
theorem a_X12_part (l : Launch) {G : Nat → Int32 → Int32 → gs_M → Option (Int32 × gs_M)} {n : Nat} (hnb : 12 ≤ n) (hG0 : ∀ (l : Launch) {x1 x2 v : Int32} {M M1 : gs_M} {L : gs_L}, G 0 x1 x2 M = some (v, M1) → gs_Met l n yX12_atom cX12_atom 4 (some .int) [.ref 147] M L (some (.int v)) M1 L) (hG1 : ∀ (l : Launch) {x1 x2 v : Int32} {M M1 : gs_M} {L : gs_L}, G 1 x1 x2 M = some (v, M1) → gs_Met l n yX12_term cX12_term 5 (some .int) [.ref 147] M L (some (.int v)) M1 L) (hG2 : ∀ (l : Launch) {x1 x2 v : Int32} {M M1 : gs_M} {L : gs_L}, G 2 x1 x2 M = some (v, M1) → gs_Met l n yX12_sum cX12_sum 5 (some .int) [.ref 147] M L (some (.int v)) M1 L) (hG3 : ∀ (l : Launch) {x1 x2 v : Int32} {M M1 : gs_M} {L : gs_L}, G 3 x1 x2 M = some (v, M1) → gs_Met l n yX12_compares cX12_compares 6 (some .boolean) [.ref 147, .int x1, .int x2] M L (some (.int v)) M1 L) (hG4 : ∀ (l : Launch) {x1 x2 v : Int32} {M M1 : gs_M} {L : gs_L}, G 4 x1 x2 M = some (v, M1) → gs_Met l n yX12_unit cX12_unit 3 (some .boolean) [.ref 147] M L (some (.int v)) M1 L) (hG5 : ∀ (l : Launch) {x1 x2 v : Int32} {M M1 : gs_M} {L : gs_L}, G 5 x1 x2 M = some (v, M1) → gs_Met l n yX12_part cX12_part 5 (some .boolean) [.ref 147, .int x1, .int x2] M L (some (.int v)) M1 L) (hG6 : ∀ (l : Launch) {x1 x2 v : Int32} {M M1 : gs_M} {L : gs_L}, G 6 x1 x2 M = some (v, M1) → gs_Met l n yX12_condition cX12_condition 5 (some .boolean) [.ref 147, .int x1, .int x2] M L (some (.int v)) M1 L) {M : gs_M} {L : gs_L} {x1 : Int32} {x2 : Int32} {rv : Int32} {Mz : gs_M} (h : f_X12_part G M x1 x2 = some (rv, Mz)) : gs_Met l (n + 1) yX12_part cX12_part 5 (some .boolean) [.ref 147, .int x1, .int x2] M L (some (.int rv)) Mz L := by
  unfold f_X12_part at h
  refine gs_of RX12 (by decide) rfl (Nat.le_of_ble_eq_true rfl) (fun X C E => ?_)
  show gs_AW X 0 [(0, .ref 147), (1, .int x1), (2, .int x2)] [] M L
  refine gs_iload_n (pc := 0) C 1 dX12_part_0 rfl rfl ?_
  obtain ⟨y1, M2, e3, h⟩ := gs_o2 h
  have j4 : gs_AW X 17 [(0, .ref 147), (1, .int x1), (2, .int x2)] [.int y1] M2 L := by
    refine gs_istore_n (ls' := [(3, .int y1), (0, .ref 147), (1, .int x1), (2, .int x2)]) (pc := 17) C dX12_part_17 rfl (by decide) rfl ?_
    obtain ⟨y12, M13, e14, h⟩ := gs_o2 h
    refine gs_sub [1, 2, 3, 0] rfl (t_X12_part_18 hnb hG0 hG1 hG2 hG3 hG4 hG5 hG6 C ?_ gs_FU _ _ e14)
    refine gs_iload_n (pc := 69) C 3 dX12_part_69 rfl rfl ?_
    obtain ⟨z15, e16, h⟩ := gs_o1 h
    obtain ⟨rfl, rfl⟩ := gs_i2 h
    exact gs_zret' (pc := 70) C dX12_part_70 e16 E
  refine gs_if_eq (pc := 1) C 13 dX12_part_1 rfl (fun c5 => ?_) (fun c5 => ?_)
  · replace e3 := gs_ift c5 e3
    refine gs_aload_n (pc := 13) C 0 dX12_part_13 rfl rfl ?_
    obtain ⟨v6, M7, e8, e3⟩ := gs_o2 e3
    refine gs_callVi (pc := 14) C [] dX12_part_14 ml_X12_188 wy_X12_unit (hG4 _ e8) (by omega) sh_147 (by decide) rfl rfl (Nat.le_of_ble_eq_true rfl) rfl ?_
    obtain ⟨rfl, rfl⟩ := gs_i2 e3
    exact j4
  · replace e3 := gs_iff c5 e3
    refine gs_aload_n (pc := 4) C 0 dX12_part_4 rfl rfl ?_
    refine gs_iconst (w := 1) (pc := 5) C dX12_part_5 rfl ?_
    refine gs_iload_n (pc := 6) C 2 dX12_part_6 rfl rfl ?_
    obtain ⟨v9, M10, e11, e3⟩ := gs_o2 e3
    refine gs_callVi (pc := 7) C [.int (1 : Int32), .int x2] dX12_part_7 ml_X12_195 wy_X12_compares (hG3 _ e11) (by omega) sh_147 (by decide) rfl rfl (Nat.le_of_ble_eq_true rfl) rfl ?_
    refine gs_goto (pc := 10) C 17 dX12_part_10 rfl ?_
    obtain ⟨rfl, rfl⟩ := gs_i2 e3
    exact j4
set_option maxRecDepth 100000 in
set_option maxHeartbeats 4000000 in
theorem t_X12_condition_7 {X : gs_X} {G : Nat → Int32 → Int32 → gs_M → Option (Int32 × gs_M)} {n : Nat} (hnb : 12 ≤ n) (hG0 : ∀ (l : Launch) {x1 x2 v : Int32} {M M1 : gs_M} {L : gs_L}, G 0 x1 x2 M = some (v, M1) → gs_Met l n yX12_atom cX12_atom 4 (some .int) [.ref 147] M L (some (.int v)) M1 L) (hG1 : ∀ (l : Launch) {x1 x2 v : Int32} {M M1 : gs_M} {L : gs_L}, G 1 x1 x2 M = some (v, M1) → gs_Met l n yX12_term cX12_term 5 (some .int) [.ref 147] M L (some (.int v)) M1 L) (hG2 : ∀ (l : Launch) {x1 x2 v : Int32} {M M1 : gs_M} {L : gs_L}, G 2 x1 x2 M = some (v, M1) → gs_Met l n yX12_sum cX12_sum 5 (some .int) [.ref 147] M L (some (.int v)) M1 L) (hG3 : ∀ (l : Launch) {x1 x2 v : Int32} {M M1 : gs_M} {L : gs_L}, G 3 x1 x2 M = some (v, M1) → gs_Met l n yX12_compares cX12_compares 6 (some .boolean) [.ref 147, .int x1, .int x2] M L (some (.int v)) M1 L) (hG4 : ∀ (l : Launch) {x1 x2 v : Int32} {M M1 : gs_M} {L : gs_L}, G 4 x1 x2 M = some (v, M1) → gs_Met l n yX12_unit cX12_unit 3 (some .boolean) [.ref 147] M L (some (.int v)) M1 L) (hG5 : ∀ (l : Launch) {x1 x2 v : Int32} {M M1 : gs_M} {L : gs_L}, G 5 x1 x2 M = some (v, M1) → gs_Met l n yX12_part cX12_part 5 (some .boolean) [.ref 147, .int x1, .int x2] M L (some (.int v)) M1 L) (hG6 : ∀ (l : Launch) {x1 x2 v : Int32} {M M1 : gs_M} {L : gs_L}, G 6 x1 x2 M = some (v, M1) → gs_Met l n yX12_condition cX12_condition 5 (some .boolean) [.ref 147, .int x1, .int x2] M L (some (.int v)) M1 L) (C : gs_C X RX12 cX12_condition 5 (some .boolean) (n + 1)) {L : gs_L} {x1 : Int32} {x2 : Int32} {o3 : Int32} {M' : gs_M} (k : gs_AW X 60 [(0, .ref 147), (1, .int x1), (2, .int x2), (3, .int o3)] [] M' L) : ∀ (f : Nat) (x3 : Int32) (M : gs_M), l_X12_condition_7 G x1 x2 f x3 M = some (o3, M') → gs_AW X 7 [(0, .ref 147), (1, .int x1), (2, .int x2), (3, .int x3)] [] M L := by
  intro f
  induction f with
  | zero =>
    intro x3 M h
    cases h
  | succ f ih =>
    intro x3 M h
    rw [l_X12_condition_7] at h
    refine gs_aload_n (pc := 7) C 0 dX12_condition_7 rfl rfl ?_
    refine gs_geti (pc := 8) C dX12_condition_8 gk_12 fl_X12_132 sh_147 rfl ?_
    refine gs_iconst (w := (-1)) (pc := 11) C dX12_condition_11 rfl ?_
    refine gs_icmp_ne (pc := 12) C 60 dX12_condition_12 rfl (fun c1 => ?_) (fun c1 => ?_)
    · replace h := gs_iff c1 h
      obtain ⟨rfl, rfl⟩ := gs_i2 h
      exact k
    · replace h := gs_ift c1 h
      refine gs_aload_n (pc := 15) C 0 dX12_condition_15 rfl rfl ?_
      obtain ⟨v2, M3, e4, h⟩ := gs_o2 h
      refine gs_callVi (pc := 16) C [] dX12_condition_16 ml_X12_142 wy_X12_look (a_X12_look _ e4) (by omega) sh_147 (by decide) rfl rfl (Nat.le_of_ble_eq_true rfl) rfl ?_
      refine gs_bipush (w := 124) (pc := 19) C dX12_condition_19 rfl ?_
      refine gs_icmp_ne (pc := 21) C 60 dX12_condition_21 rfl (fun c5 => ?_) (fun c5 => ?_)
      · replace h := gs_iff c5 h
        obtain ⟨rfl, rfl⟩ := gs_i2 h
        exact k
      · replace h := gs_ift c5 h
        refine gs_aload_n (pc := 24) C 0 dX12_condition_24 rfl rfl ?_
        refine gs_dup (pc := 25) C dX12_condition_25 rfl ?_
        refine gs_geti (pc := 26) C dX12_condition_26 gk_12 fl_X12_123 sh_147 rfl ?_
        refine gs_iconst (w := 1) (pc := 29) C dX12_condition_29 rfl ?_
        refine gs_iadd (pc := 30) C dX12_condition_30 ?_
        obtain ⟨M7, e6, h⟩ := gs_o1 h
        refine gs_puti' (pc := 31) C dX12_condition_31 gk_12 fp_X12_123 sh_147 rfl e6 ?_
        refine gs_aload_n (pc := 34) C 0 dX12_condition_34 rfl rfl ?_
        refine gs_iconst (w := 0) (pc := 35) C dX12_condition_35 rfl ?_
        refine gs_iconst (w := 0) (pc := 36) C dX12_condition_36 rfl ?_
        obtain ⟨v8, M9, e10, h⟩ := gs_o2 h
        refine gs_callVi (pc := 37) C [.int (0 : Int32), .int (0 : Int32)] dX12_condition_37 ml_X12_198 wy_X12_part (hG5 _ e10) (by omega) sh_147 (by decide) rfl rfl (Nat.le_of_ble_eq_true rfl) rfl ?_
        refine gs_istore (ls' := [(4, .int v8), (0, .ref 147), (1, .int x1), (2, .int x2), (3, .int x3)]) (pc := 40) C dX12_condition_40 (by decide) rfl ?_
        refine gs_iload_n (pc := 42) C 4 dX12_condition_42 rfl rfl ?_
        have j11 : gs_AW X 56 [(0, .ref 147), (1, .int x1), (2, .int x2), (3, .int x3), (4, .int v8)] [.int (if x3 = (0 : Int32) then if v8 = (0 : Int32) then (0 : Int32) else (1 : Int32) else (1 : Int32) : Int32)] M9 L := by
          refine gs_istore_n (ls' := [(3, .int (if x3 = (0 : Int32) then if v8 = (0 : Int32) then (0 : Int32) else (1 : Int32) else (1 : Int32) : Int32)), (0, .ref 147), (1, .int x1), (2, .int x2), (4, .int v8)]) (pc := 56) C dX12_condition_56 rfl (by decide) rfl ?_
          refine gs_goto (pc := 57) C 7 dX12_condition_57 rfl ?_
          exact gs_sub [1, 2, 3, 0] rfl (ih _ _ h)
        refine gs_if_ne (pc := 43) C 51 dX12_condition_43 rfl (fun c12 => ?_) (fun c12 => ?_)
        · refine gs_iconst (w := 1) (pc := 51) C dX12_condition_51 rfl ?_
          refine gs_goto (pc := 52) C 56 dX12_condition_52 rfl ?_
          simp only [if_neg c12] at j11
          exact gs_sub [1, 2, 3, 4, 0] rfl (j11)
        · refine gs_iload (pc := 46) C 0 dX12_condition_46 rfl ?_
          refine gs_if_eq (pc := 48) C 55 dX12_condition_48 rfl (fun c13 => ?_) (fun c13 => ?_)
          · refine gs_iconst (w := 0) (pc := 55) C dX12_condition_55 rfl ?_
            simp only [if_pos c12, if_pos c13] at j11
            exact gs_sub [1, 2, 3, 4, 0] rfl (j11)
          · refine gs_iconst (w := 1) (pc := 51) C dX12_condition_51 rfl ?_
            refine gs_goto (pc := 52) C 56 dX12_condition_52 rfl ?_
            simp only [if_pos c12, if_neg c13] at j11
            exact gs_sub [1, 2, 3, 4, 0] rfl (j11)
set_option maxRecDepth 100000 in
set_option maxHeartbeats 4000000 in
theorem a_X12_condition (l : Launch) {G : Nat → Int32 → Int32 → gs_M → Option (Int32 × gs_M)} {n : Nat} (hnb : 12 ≤ n) (hG0 : ∀ (l : Launch) {x1 x2 v : Int32} {M M1 : gs_M} {L : gs_L}, G 0 x1 x2 M = some (v, M1) → gs_Met l n yX12_atom cX12_atom 4 (some .int) [.ref 147] M L (some (.int v)) M1 L) (hG1 : ∀ (l : Launch) {x1 x2 v : Int32} {M M1 : gs_M} {L : gs_L}, G 1 x1 x2 M = some (v, M1) → gs_Met l n yX12_term cX12_term 5 (some .int) [.ref 147] M L (some (.int v)) M1 L) (hG2 : ∀ (l : Launch) {x1 x2 v : Int32} {M M1 : gs_M} {L : gs_L}, G 2 x1 x2 M = some (v, M1) → gs_Met l n yX12_sum cX12_sum 5 (some .int) [.ref 147] M L (some (.int v)) M1 L) (hG3 : ∀ (l : Launch) {x1 x2 v : Int32} {M M1 : gs_M} {L : gs_L}, G 3 x1 x2 M = some (v, M1) → gs_Met l n yX12_compares cX12_compares 6 (some .boolean) [.ref 147, .int x1, .int x2] M L (some (.int v)) M1 L) (hG4 : ∀ (l : Launch) {x1 x2 v : Int32} {M M1 : gs_M} {L : gs_L}, G 4 x1 x2 M = some (v, M1) → gs_Met l n yX12_unit cX12_unit 3 (some .boolean) [.ref 147] M L (some (.int v)) M1 L) (hG5 : ∀ (l : Launch) {x1 x2 v : Int32} {M M1 : gs_M} {L : gs_L}, G 5 x1 x2 M = some (v, M1) → gs_Met l n yX12_part cX12_part 5 (some .boolean) [.ref 147, .int x1, .int x2] M L (some (.int v)) M1 L) (hG6 : ∀ (l : Launch) {x1 x2 v : Int32} {M M1 : gs_M} {L : gs_L}, G 6 x1 x2 M = some (v, M1) → gs_Met l n yX12_condition cX12_condition 5 (some .boolean) [.ref 147, .int x1, .int x2] M L (some (.int v)) M1 L) {M : gs_M} {L : gs_L} {x1 : Int32} {x2 : Int32} {rv : Int32} {Mz : gs_M} (h : f_X12_condition G M x1 x2 = some (rv, Mz)) : gs_Met l (n + 1) yX12_condition cX12_condition 5 (some .boolean) [.ref 147, .int x1, .int x2] M L (some (.int rv)) Mz L := by
  unfold f_X12_condition at h
  refine gs_of RX12 (by decide) rfl (Nat.le_of_ble_eq_true rfl) (fun X C E => ?_)
  show gs_AW X 0 [(0, .ref 147), (1, .int x1), (2, .int x2)] [] M L
  refine gs_aload_n (pc := 0) C 0 dX12_condition_0 rfl rfl ?_
  refine gs_iload_n (pc := 1) C 1 dX12_condition_1 rfl rfl ?_
  refine gs_iload_n (pc := 2) C 2 dX12_condition_2 rfl rfl ?_
  obtain ⟨v1, M2, e3, h⟩ := gs_o2 h
  refine gs_callVi (pc := 3) C [.int x1, .int x2] dX12_condition_3 ml_X12_198 wy_X12_part (hG5 _ e3) (by omega) sh_147 (by decide) rfl rfl (Nat.le_of_ble_eq_true rfl) rfl ?_
  refine gs_istore_n (ls' := [(3, .int v1), (0, .ref 147), (1, .int x1), (2, .int x2)]) (pc := 6) C dX12_condition_6 rfl (by decide) rfl ?_
  obtain ⟨y4, M5, e6, h⟩ := gs_o2 h
  refine gs_sub [1, 2, 3, 0] rfl (t_X12_condition_7 hnb hG0 hG1 hG2 hG3 hG4 hG5 hG6 C ?_ gs_FU _ _ e6)
  refine gs_iload_n (pc := 60) C 3 dX12_condition_60 rfl rfl ?_
  obtain ⟨z7, e8, h⟩ := gs_o1 h
  obtain ⟨rfl, rfl⟩ := gs_i2 h
  exact gs_zret' (pc := 61) C dX12_condition_61 e8 E
set_option maxRecDepth 100000 in
theorem a_g1 (d : Nat) : (∀ (l : Launch) {x1 x2 v : Int32} {M M1 : gs_M} {L : gs_L}, g_1 d 0 x1 x2 M = some (v, M1) → gs_Met l (12 + d) yX12_atom cX12_atom 4 (some .int) [.ref 147] M L (some (.int v)) M1 L) ∧ (∀ (l : Launch) {x1 x2 v : Int32} {M M1 : gs_M} {L : gs_L}, g_1 d 1 x1 x2 M = some (v, M1) → gs_Met l (12 + d) yX12_term cX12_term 5 (some .int) [.ref 147] M L (some (.int v)) M1 L) ∧ (∀ (l : Launch) {x1 x2 v : Int32} {M M1 : gs_M} {L : gs_L}, g_1 d 2 x1 x2 M = some (v, M1) → gs_Met l (12 + d) yX12_sum cX12_sum 5 (some .int) [.ref 147] M L (some (.int v)) M1 L) ∧ (∀ (l : Launch) {x1 x2 v : Int32} {M M1 : gs_M} {L : gs_L}, g_1 d 3 x1 x2 M = some (v, M1) → gs_Met l (12 + d) yX12_compares cX12_compares 6 (some .boolean) [.ref 147, .int x1, .int x2] M L (some (.int v)) M1 L) ∧ (∀ (l : Launch) {x1 x2 v : Int32} {M M1 : gs_M} {L : gs_L}, g_1 d 4 x1 x2 M = some (v, M1) → gs_Met l (12 + d) yX12_unit cX12_unit 3 (some .boolean) [.ref 147] M L (some (.int v)) M1 L) ∧ (∀ (l : Launch) {x1 x2 v : Int32} {M M1 : gs_M} {L : gs_L}, g_1 d 5 x1 x2 M = some (v, M1) → gs_Met l (12 + d) yX12_part cX12_part 5 (some .boolean) [.ref 147, .int x1, .int x2] M L (some (.int v)) M1 L) ∧ (∀ (l : Launch) {x1 x2 v : Int32} {M M1 : gs_M} {L : gs_L}, g_1 d 6 x1 x2 M = some (v, M1) → gs_Met l (12 + d) yX12_condition cX12_condition 5 (some .boolean) [.ref 147, .int x1, .int x2] M L (some (.int v)) M1 L) := by
  induction d with
  | zero => refine ⟨?_, ?_, ?_, ?_, ?_, ?_, ?_⟩ <;> (intro l x1 x2 v M M1 L h; cases h)
  | succ d ih =>
    obtain ⟨i0, i1, i2, i3, i4, i5, i6⟩ := ih
    refine ⟨?_, ?_, ?_, ?_, ?_, ?_, ?_⟩
    · intro l x1 x2 v M M1 L h; exact a_X12_atom l (n := 12 + d) (by omega) i0 i1 i2 i3 i4 i5 i6 h
    · intro l x1 x2 v M M1 L h; exact a_X12_term l (n := 12 + d) (by omega) i0 i1 i2 i3 i4 i5 i6 h
    · intro l x1 x2 v M M1 L h; exact a_X12_sum l (n := 12 + d) (by omega) i0 i1 i2 i3 i4 i5 i6 h
    · intro l x1 x2 v M M1 L h; exact a_X12_compares l (n := 12 + d) (by omega) i0 i1 i2 i3 i4 i5 i6 h
    · intro l x1 x2 v M M1 L h; exact a_X12_unit l (n := 12 + d) (by omega) i0 i1 i2 i3 i4 i5 i6 h
    · intro l x1 x2 v M M1 L h; exact a_X12_part l (n := 12 + d) (by omega) i0 i1 i2 i3 i4 i5 i6 h
    · intro l x1 x2 v M M1 L h; exact a_X12_condition l (n := 12 + d) (by omega) i0 i1 i2 i3 i4 i5 i6 h
theorem a_g1_0 (d : Nat) (l : Launch) {x1 x2 v : Int32} {M M1 : gs_M} {L : gs_L} (h : g_1 d 0 x1 x2 M = some (v, M1)) : gs_Met l (12 + d) yX12_atom cX12_atom 4 (some .int) [.ref 147] M L (some (.int v)) M1 L := (a_g1 d).1 l h
theorem a_g1_1 (d : Nat) (l : Launch) {x1 x2 v : Int32} {M M1 : gs_M} {L : gs_L} (h : g_1 d 1 x1 x2 M = some (v, M1)) : gs_Met l (12 + d) yX12_term cX12_term 5 (some .int) [.ref 147] M L (some (.int v)) M1 L := (a_g1 d).2.1 l h
theorem a_g1_2 (d : Nat) (l : Launch) {x1 x2 v : Int32} {M M1 : gs_M} {L : gs_L} (h : g_1 d 2 x1 x2 M = some (v, M1)) : gs_Met l (12 + d) yX12_sum cX12_sum 5 (some .int) [.ref 147] M L (some (.int v)) M1 L := (a_g1 d).2.2.1 l h
theorem a_g1_3 (d : Nat) (l : Launch) {x1 x2 v : Int32} {M M1 : gs_M} {L : gs_L} (h : g_1 d 3 x1 x2 M = some (v, M1)) : gs_Met l (12 + d) yX12_compares cX12_compares 6 (some .boolean) [.ref 147, .int x1, .int x2] M L (some (.int v)) M1 L := (a_g1 d).2.2.2.1 l h
theorem a_g1_4 (d : Nat) (l : Launch) {x1 x2 v : Int32} {M M1 : gs_M} {L : gs_L} (h : g_1 d 4 x1 x2 M = some (v, M1)) : gs_Met l (12 + d) yX12_unit cX12_unit 3 (some .boolean) [.ref 147] M L (some (.int v)) M1 L := (a_g1 d).2.2.2.2.1 l h
theorem a_g1_5 (d : Nat) (l : Launch) {x1 x2 v : Int32} {M M1 : gs_M} {L : gs_L} (h : g_1 d 5 x1 x2 M = some (v, M1)) : gs_Met l (12 + d) yX12_part cX12_part 5 (some .boolean) [.ref 147, .int x1, .int x2] M L (some (.int v)) M1 L := (a_g1 d).2.2.2.2.2.1 l h
theorem a_g1_6 (d : Nat) (l : Launch) {x1 x2 v : Int32} {M M1 : gs_M} {L : gs_L} (h : g_1 d 6 x1 x2 M = some (v, M1)) : gs_Met l (12 + d) yX12_condition cX12_condition 5 (some .boolean) [.ref 147, .int x1, .int x2] M L (some (.int v)) M1 L := (a_g1 d).2.2.2.2.2.2 l h
set_option maxRecDepth 100000 in
set_option maxHeartbeats 4000000 in
theorem a_X12_clause (l : Launch) {M : gs_M} {L : gs_L} {Mz : gs_M} (h : f_X12_clause M = some (Mz)) : gs_Met l 77 yX12_clause cX12_clause 5 none [.ref 147] M L none Mz L := by
  unfold f_X12_clause at h
  refine gs_of RX12 (by decide) rfl (Nat.le_of_ble_eq_true rfl) (fun X C E => ?_)
  show gs_AW X 0 [(0, .ref 147)] [] M L
  refine gs_aload_n (pc := 0) C 0 dX12_clause_0 rfl rfl ?_
  obtain ⟨v1, M2, e3, h⟩ := gs_o2 h
  refine gs_callVi (pc := 1) C [] dX12_clause_1 ml_X12_142 wy_X12_look (a_X12_look _ e3) (by decide) sh_147 (by decide) rfl rfl (Nat.le_of_ble_eq_true rfl) rfl ?_
  refine gs_istore_n (ls' := [(1, .int v1), (0, .ref 147)]) (pc := 4) C dX12_clause_4 rfl (by decide) rfl ?_
  refine gs_ldcS (pc := 5) C (q := 1003) (tx := "yv") dX12_clause_5 (by decide) ?_
  refine gs_iload_n (pc := 7) C 0 dX12_clause_7 rfl rfl ?_
  obtain ⟨v4, e5, h⟩ := gs_o1 h
  refine gs_callSi (pc := 8) C [.ref 1003, .int v1] dX12_clause_8 ml_X12_158 wy_X12_isAmong (a_X12_isAmong _ e5) (by decide) rfl (Nat.le_of_ble_eq_true rfl) rfl ?_
  refine gs_if_ne (pc := 11) C 20 dX12_clause_11 rfl (fun c6 => ?_) (fun c6 => ?_)
  · replace h := gs_iff c6 h
    refine gs_aload_n (pc := 20) C 1 dX12_clause_20 rfl rfl ?_
    refine gs_dup (pc := 21) C dX12_clause_21 rfl ?_
    refine gs_geti (pc := 22) C dX12_clause_22 gk_12 fl_X12_123 sh_147 rfl ?_
    refine gs_iconst (w := 1) (pc := 25) C dX12_clause_25 rfl ?_
    refine gs_iadd (pc := 26) C dX12_clause_26 ?_
    obtain ⟨M8, e7, h⟩ := gs_o1 h
    refine gs_puti' (pc := 27) C dX12_clause_27 gk_12 fp_X12_123 sh_147 rfl e7 ?_
    refine gs_aload_n (pc := 30) C 1 dX12_clause_30 rfl rfl ?_
    refine gs_bipush (w := 58) (pc := 31) C dX12_clause_31 rfl ?_
    obtain ⟨v9, M10, e11, h⟩ := gs_o2 h
    refine gs_callVi (pc := 33) C [.int (58 : Int32)] dX12_clause_33 ml_X12_168 wy_X12_takes (a_X12_takes _ e11) (by decide) sh_147 (by decide) rfl rfl (Nat.le_of_ble_eq_true rfl) rfl ?_
    refine gs_if_ne (pc := 36) C 40 dX12_clause_36 rfl (fun c12 => ?_) (fun c12 => ?_)
    · replace h := gs_iff c12 h
      refine gs_iconst (w := 1) (pc := 40) C dX12_clause_40 rfl ?_
      refine gs_istore_n (ls' := [(2, .int (1 : Int32)), (1, .int v1), (0, .ref 147)]) (pc := 41) C dX12_clause_41 rfl (by decide) rfl ?_
      refine gs_iconst (w := 0) (pc := 42) C dX12_clause_42 rfl ?_
      refine gs_istore_n (ls' := [(3, .int (0 : Int32)), (2, .int (1 : Int32)), (1, .int v1), (0, .ref 147)]) (pc := 43) C dX12_clause_43 rfl (by decide) rfl ?_
      refine gs_aload_n (pc := 44) C 3 dX12_clause_44 rfl rfl ?_
      obtain ⟨v13, M14, e15, h⟩ := gs_o2 h
      refine gs_callVi (pc := 45) C [] dX12_clause_45 ml_X12_142 wy_X12_look (a_X12_look _ e15) (by decide) sh_147 (by decide) rfl rfl (Nat.le_of_ble_eq_true rfl) rfl ?_
      refine gs_istore (ls' := [(4, .int v13), (3, .int (0 : Int32)), (2, .int (1 : Int32)), (1, .int v1), (0, .ref 147)]) (pc := 48) C dX12_clause_48 (by decide) rfl ?_
      refine gs_iload (pc := 50) C 0 dX12_clause_50 rfl ?_
      refine gs_bipush (w := 33) (pc := 52) C dX12_clause_52 rfl ?_
      refine gs_icmp_eq (pc := 54) C 64 dX12_clause_54 rfl (fun c16 => ?_) (fun c16 => ?_)
      · replace h := gs_ift c16 h
        refine gs_aload_n (pc := 64) C 4 dX12_clause_64 rfl rfl ?_
        refine gs_iconst (w := 0) (pc := 65) C dX12_clause_65 rfl ?_
        refine gs_iconst (w := 0) (pc := 66) C dX12_clause_66 rfl ?_
        obtain ⟨v17, M18, e19, h⟩ := gs_o2 h
        refine gs_callVi (pc := 67) C [.int (0 : Int32), .int (0 : Int32)] dX12_clause_67 ml_X12_191 wy_X12_condition (a_g1_6 64 _ e19) (by decide) sh_147 (by decide) rfl rfl (Nat.le_of_ble_eq_true rfl) rfl ?_
        refine gs_istore_n (ls' := [(2, .int v17), (4, .int v13), (3, .int (0 : Int32)), (1, .int v1), (0, .ref 147)]) (pc := 70) C dX12_clause_70 rfl (by decide) rfl ?_
        refine gs_aload_n (pc := 71) C 4 dX12_clause_71 rfl rfl ?_
        refine gs_bipush (w := 63) (pc := 72) C dX12_clause_72 rfl ?_
        obtain ⟨v20, M21, e22, h⟩ := gs_o2 h
        refine gs_callVi (pc := 74) C [.int (63 : Int32)] dX12_clause_74 ml_X12_168 wy_X12_takes (a_X12_takes _ e22) (by decide) sh_147 (by decide) rfl rfl (Nat.le_of_ble_eq_true rfl) rfl ?_
        refine gs_if_ne (pc := 77) C 81 dX12_clause_77 rfl (fun c23 => ?_) (fun c23 => ?_)
        · replace h := gs_iff c23 h
          refine gs_aload_n (pc := 81) C 4 dX12_clause_81 rfl rfl ?_
          obtain ⟨v24, M25, e26, h⟩ := gs_o2 h
          refine gs_callVi (pc := 82) C [] dX12_clause_82 ml_X12_165 wy_X12_sum (a_g1_2 64 _ e26) (by decide) sh_147 (by decide) rfl rfl (Nat.le_of_ble_eq_true rfl) rfl ?_
          refine gs_istore_n (ls' := [(3, .int v24), (2, .int v17), (4, .int v13), (1, .int v1), (0, .ref 147)]) (pc := 85) C dX12_clause_85 rfl (by decide) rfl ?_
          refine gs_goto (pc := 86) C 134 dX12_clause_86 rfl ?_
          refine gs_aload_n (pc := 134) C 4 dX12_clause_134 rfl rfl ?_
          refine gs_geti (pc := 135) C dX12_clause_135 gk_12 fl_X12_132 sh_147 rfl ?_
          refine gs_iconst (w := (-1)) (pc := 138) C dX12_clause_138 rfl ?_
          refine gs_icmp_ne (pc := 139) C 161 dX12_clause_139 rfl (fun c27 => ?_) (fun c27 => ?_)
          · replace h := gs_iff c27 h
            obtain rfl := gs_i1 h
            exact gs_vret (pc := 161) C dX12_clause_161 E
          · replace h := gs_ift c27 h
            refine gs_aload_n (pc := 142) C 4 dX12_clause_142 rfl rfl ?_
            refine gs_geti (pc := 143) C dX12_clause_143 gk_12 fl_X12_201 sh_147 rfl ?_
            refine gs_if_ne (pc := 146) C 161 dX12_clause_146 rfl (fun c28 => ?_) (fun c28 => ?_)
            · replace h := gs_iff c28 h
              obtain rfl := gs_i1 h
              exact gs_vret (pc := 161) C dX12_clause_161 E
            · replace h := gs_ift c28 h
              refine gs_iload_n (pc := 149) C 3 dX12_clause_149 rfl rfl ?_
              refine gs_aload_n (pc := 150) C 4 dX12_clause_150 rfl rfl ?_
              refine gs_geti (pc := 151) C dX12_clause_151 gk_12 fl_X12_205 sh_147 rfl ?_
              refine gs_icmp_ne (pc := 154) C 161 dX12_clause_154 rfl (fun c29 => ?_) (fun c29 => ?_)
              · replace h := gs_iff c29 h
                obtain rfl := gs_i1 h
                exact gs_vret (pc := 161) C dX12_clause_161 E
              · replace h := gs_ift c29 h
                refine gs_iload_n (pc := 157) C 1 dX12_clause_157 rfl rfl ?_
                refine gs_if_ne (pc := 158) C 162 dX12_clause_158 rfl (fun c30 => ?_) (fun c30 => ?_)
                · replace h := gs_iff c30 h
                  refine gs_aload_n (pc := 162) C 4 dX12_clause_162 rfl rfl ?_
                  refine gs_iconst (w := 1) (pc := 163) C dX12_clause_163 rfl ?_
                  obtain ⟨M32, e31, h⟩ := gs_o1 h
                  refine gs_putz' (pc := 164) C dX12_clause_164 gk_12 fp_X12_201 sh_147 rfl (by decide) e31 ?_
                  refine gs_aload_n (pc := 167) C 4 dX12_clause_167 rfl rfl ?_
                  refine gs_iload_n (pc := 168) C 0 dX12_clause_168 rfl rfl ?_
                  obtain ⟨M34, e33, h⟩ := gs_o1 h
                  refine gs_puti' (pc := 169) C dX12_clause_169 gk_12 fp_X12_208 sh_147 rfl e33 ?_
                  obtain rfl := gs_i1 h
                  exact gs_vret (pc := 172) C dX12_clause_172 E
                · replace h := gs_ift c30 h
                  obtain rfl := gs_i1 h
                  exact gs_vret (pc := 161) C dX12_clause_161 E
        · replace h := gs_ift c23 h
          obtain rfl := gs_i1 h
          exact gs_vret (pc := 80) C dX12_clause_80 E
      · replace h := gs_iff c16 h
        refine gs_iload (pc := 57) C 0 dX12_clause_57 rfl ?_
        refine gs_bipush (w := 40) (pc := 59) C dX12_clause_59 rfl ?_
        refine gs_icmp_ne (pc := 61) C 89 dX12_clause_61 rfl (fun c35 => ?_) (fun c35 => ?_)
        · replace h := gs_iff c35 h
          refine gs_aload_n (pc := 89) C 4 dX12_clause_89 rfl rfl ?_
          obtain ⟨v36, M37, e38, h⟩ := gs_o2 h
          refine gs_callVi (pc := 90) C [] dX12_clause_90 ml_X12_165 wy_X12_sum (a_g1_2 64 _ e38) (by decide) sh_147 (by decide) rfl rfl (Nat.le_of_ble_eq_true rfl) rfl ?_
          refine gs_istore_n (ls' := [(3, .int v36), (4, .int v13), (2, .int (1 : Int32)), (1, .int v1), (0, .ref 147)]) (pc := 93) C dX12_clause_93 rfl (by decide) rfl ?_
          refine gs_aload_n (pc := 94) C 4 dX12_clause_94 rfl rfl ?_
          refine gs_geti (pc := 95) C dX12_clause_95 gk_12 fl_X12_132 sh_147 rfl ?_
          refine gs_iconst (w := (-1)) (pc := 98) C dX12_clause_98 rfl ?_
          refine gs_icmp_ne (pc := 99) C 134 dX12_clause_99 rfl (fun c39 => ?_) (fun c39 => ?_)
          · replace h := gs_iff c39 h
            refine gs_aload_n (pc := 134) C 4 dX12_clause_134 rfl rfl ?_
            refine gs_geti (pc := 135) C dX12_clause_135 gk_12 fl_X12_132 sh_147 rfl ?_
            refine gs_iconst (w := (-1)) (pc := 138) C dX12_clause_138 rfl ?_
            refine gs_icmp_ne (pc := 139) C 161 dX12_clause_139 rfl (fun c40 => ?_) (fun c40 => ?_)
            · replace h := gs_iff c40 h
              obtain rfl := gs_i1 h
              exact gs_vret (pc := 161) C dX12_clause_161 E
            · replace h := gs_ift c40 h
              refine gs_aload_n (pc := 142) C 4 dX12_clause_142 rfl rfl ?_
              refine gs_geti (pc := 143) C dX12_clause_143 gk_12 fl_X12_201 sh_147 rfl ?_
              refine gs_if_ne (pc := 146) C 161 dX12_clause_146 rfl (fun c41 => ?_) (fun c41 => ?_)
              · replace h := gs_iff c41 h
                obtain rfl := gs_i1 h
                exact gs_vret (pc := 161) C dX12_clause_161 E
              · replace h := gs_ift c41 h
                refine gs_iload_n (pc := 149) C 3 dX12_clause_149 rfl rfl ?_
                refine gs_aload_n (pc := 150) C 4 dX12_clause_150 rfl rfl ?_
                refine gs_geti (pc := 151) C dX12_clause_151 gk_12 fl_X12_205 sh_147 rfl ?_
                refine gs_icmp_ne (pc := 154) C 161 dX12_clause_154 rfl (fun c42 => ?_) (fun c42 => ?_)
                · replace h := gs_iff c42 h
                  obtain rfl := gs_i1 h
                  exact gs_vret (pc := 161) C dX12_clause_161 E
                · replace h := gs_ift c42 h
                  refine gs_iload_n (pc := 157) C 2 dX12_clause_157 rfl rfl ?_
                  refine gs_if_ne (pc := 158) C 162 dX12_clause_158 rfl (fun _ => ?_) (fun c43 => absurd c43 (by decide))
                  refine gs_aload_n (pc := 162) C 4 dX12_clause_162 rfl rfl ?_
                  refine gs_iconst (w := 1) (pc := 163) C dX12_clause_163 rfl ?_
                  obtain ⟨M45, e44, h⟩ := gs_o1 h
                  refine gs_putz' (pc := 164) C dX12_clause_164 gk_12 fp_X12_201 sh_147 rfl (by decide) e44 ?_
                  refine gs_aload_n (pc := 167) C 4 dX12_clause_167 rfl rfl ?_
                  refine gs_iload_n (pc := 168) C 0 dX12_clause_168 rfl rfl ?_
                  obtain ⟨M47, e46, h⟩ := gs_o1 h
                  refine gs_puti' (pc := 169) C dX12_clause_169 gk_12 fp_X12_208 sh_147 rfl e46 ?_
                  obtain rfl := gs_i1 h
                  exact gs_vret (pc := 172) C dX12_clause_172 E
          · replace h := gs_ift c39 h
            refine gs_aload_n (pc := 102) C 4 dX12_clause_102 rfl rfl ?_
            obtain ⟨v48, M49, e50, h⟩ := gs_o2 h
            refine gs_callVi (pc := 103) C [] dX12_clause_103 ml_X12_142 wy_X12_look (a_X12_look _ e50) (by decide) sh_147 (by decide) rfl rfl (Nat.le_of_ble_eq_true rfl) rfl ?_
            obtain ⟨v51, e52, h⟩ := gs_o1 h
            refine gs_callSi (pc := 106) C [.int v48] dX12_clause_106 ml_X12_185 wy_X12_isSign (a_X12_isSign _ e52) (by decide) rfl (Nat.le_of_ble_eq_true rfl) rfl ?_
            refine gs_if_eq (pc := 109) C 134 dX12_clause_109 rfl (fun c53 => ?_) (fun c53 => ?_)
            · replace h := gs_ift c53 h
              refine gs_aload_n (pc := 134) C 4 dX12_clause_134 rfl rfl ?_
              refine gs_geti (pc := 135) C dX12_clause_135 gk_12 fl_X12_132 sh_147 rfl ?_
              refine gs_iconst (w := (-1)) (pc := 138) C dX12_clause_138 rfl ?_
              refine gs_icmp_ne (pc := 139) C 161 dX12_clause_139 rfl (fun c54 => ?_) (fun c54 => ?_)
              · replace h := gs_iff c54 h
                obtain rfl := gs_i1 h
                exact gs_vret (pc := 161) C dX12_clause_161 E
              · replace h := gs_ift c54 h
                refine gs_aload_n (pc := 142) C 4 dX12_clause_142 rfl rfl ?_
                refine gs_geti (pc := 143) C dX12_clause_143 gk_12 fl_X12_201 sh_147 rfl ?_
                refine gs_if_ne (pc := 146) C 161 dX12_clause_146 rfl (fun c55 => ?_) (fun c55 => ?_)
                · replace h := gs_iff c55 h
                  obtain rfl := gs_i1 h
                  exact gs_vret (pc := 161) C dX12_clause_161 E
                · replace h := gs_ift c55 h
                  refine gs_iload_n (pc := 149) C 3 dX12_clause_149 rfl rfl ?_
                  refine gs_aload_n (pc := 150) C 4 dX12_clause_150 rfl rfl ?_
                  refine gs_geti (pc := 151) C dX12_clause_151 gk_12 fl_X12_205 sh_147 rfl ?_
                  refine gs_icmp_ne (pc := 154) C 161 dX12_clause_154 rfl (fun c56 => ?_) (fun c56 => ?_)
                  · replace h := gs_iff c56 h
                    obtain rfl := gs_i1 h
                    exact gs_vret (pc := 161) C dX12_clause_161 E
                  · replace h := gs_ift c56 h
                    refine gs_iload_n (pc := 157) C 2 dX12_clause_157 rfl rfl ?_
                    refine gs_if_ne (pc := 158) C 162 dX12_clause_158 rfl (fun _ => ?_) (fun c57 => absurd c57 (by decide))
                    refine gs_aload_n (pc := 162) C 4 dX12_clause_162 rfl rfl ?_
                    refine gs_iconst (w := 1) (pc := 163) C dX12_clause_163 rfl ?_
                    obtain ⟨M59, e58, h⟩ := gs_o1 h
                    refine gs_putz' (pc := 164) C dX12_clause_164 gk_12 fp_X12_201 sh_147 rfl (by decide) e58 ?_
                    refine gs_aload_n (pc := 167) C 4 dX12_clause_167 rfl rfl ?_
                    refine gs_iload_n (pc := 168) C 0 dX12_clause_168 rfl rfl ?_
                    obtain ⟨M61, e60, h⟩ := gs_o1 h
                    refine gs_puti' (pc := 169) C dX12_clause_169 gk_12 fp_X12_208 sh_147 rfl e60 ?_
                    obtain rfl := gs_i1 h
                    exact gs_vret (pc := 172) C dX12_clause_172 E
            · replace h := gs_iff c53 h
              refine gs_aload_n (pc := 112) C 4 dX12_clause_112 rfl rfl ?_
              refine gs_iconst (w := 1) (pc := 113) C dX12_clause_113 rfl ?_
              refine gs_iload_n (pc := 114) C 0 dX12_clause_114 rfl rfl ?_
              obtain ⟨v62, M63, e64, h⟩ := gs_o2 h
              refine gs_callVi (pc := 115) C [.int (1 : Int32), .int v36] dX12_clause_115 ml_X12_191 wy_X12_condition (a_g1_6 64 _ e64) (by decide) sh_147 (by decide) rfl rfl (Nat.le_of_ble_eq_true rfl) rfl ?_
              refine gs_istore_n (ls' := [(2, .int v62), (3, .int v36), (4, .int v13), (1, .int v1), (0, .ref 147)]) (pc := 118) C dX12_clause_118 rfl (by decide) rfl ?_
              refine gs_aload_n (pc := 119) C 4 dX12_clause_119 rfl rfl ?_
              refine gs_bipush (w := 63) (pc := 120) C dX12_clause_120 rfl ?_
              obtain ⟨v65, M66, e67, h⟩ := gs_o2 h
              refine gs_callVi (pc := 122) C [.int (63 : Int32)] dX12_clause_122 ml_X12_168 wy_X12_takes (a_X12_takes _ e67) (by decide) sh_147 (by decide) rfl rfl (Nat.le_of_ble_eq_true rfl) rfl ?_
              refine gs_if_ne (pc := 125) C 129 dX12_clause_125 rfl (fun c68 => ?_) (fun c68 => ?_)
              · replace h := gs_iff c68 h
                refine gs_aload_n (pc := 129) C 4 dX12_clause_129 rfl rfl ?_
                obtain ⟨v69, M70, e71, h⟩ := gs_o2 h
                refine gs_callVi (pc := 130) C [] dX12_clause_130 ml_X12_165 wy_X12_sum (a_g1_2 64 _ e71) (by decide) sh_147 (by decide) rfl rfl (Nat.le_of_ble_eq_true rfl) rfl ?_
                refine gs_istore_n (ls' := [(3, .int v69), (2, .int v62), (4, .int v13), (1, .int v1), (0, .ref 147)]) (pc := 133) C dX12_clause_133 rfl (by decide) rfl ?_
                refine gs_aload_n (pc := 134) C 4 dX12_clause_134 rfl rfl ?_
                refine gs_geti (pc := 135) C dX12_clause_135 gk_12 fl_X12_132 sh_147 rfl ?_
                refine gs_iconst (w := (-1)) (pc := 138) C dX12_clause_138 rfl ?_
                refine gs_icmp_ne (pc := 139) C 161 dX12_clause_139 rfl (fun c72 => ?_) (fun c72 => ?_)
                · replace h := gs_iff c72 h
                  obtain rfl := gs_i1 h
                  exact gs_vret (pc := 161) C dX12_clause_161 E
                · replace h := gs_ift c72 h
                  refine gs_aload_n (pc := 142) C 4 dX12_clause_142 rfl rfl ?_
                  refine gs_geti (pc := 143) C dX12_clause_143 gk_12 fl_X12_201 sh_147 rfl ?_
                  refine gs_if_ne (pc := 146) C 161 dX12_clause_146 rfl (fun c73 => ?_) (fun c73 => ?_)
                  · replace h := gs_iff c73 h
                    obtain rfl := gs_i1 h
                    exact gs_vret (pc := 161) C dX12_clause_161 E
                  · replace h := gs_ift c73 h
                    refine gs_iload_n (pc := 149) C 3 dX12_clause_149 rfl rfl ?_
                    refine gs_aload_n (pc := 150) C 4 dX12_clause_150 rfl rfl ?_
                    refine gs_geti (pc := 151) C dX12_clause_151 gk_12 fl_X12_205 sh_147 rfl ?_
                    refine gs_icmp_ne (pc := 154) C 161 dX12_clause_154 rfl (fun c74 => ?_) (fun c74 => ?_)
                    · replace h := gs_iff c74 h
                      obtain rfl := gs_i1 h
                      exact gs_vret (pc := 161) C dX12_clause_161 E
                    · replace h := gs_ift c74 h
                      refine gs_iload_n (pc := 157) C 1 dX12_clause_157 rfl rfl ?_
                      refine gs_if_ne (pc := 158) C 162 dX12_clause_158 rfl (fun c75 => ?_) (fun c75 => ?_)
                      · replace h := gs_iff c75 h
                        refine gs_aload_n (pc := 162) C 4 dX12_clause_162 rfl rfl ?_
                        refine gs_iconst (w := 1) (pc := 163) C dX12_clause_163 rfl ?_
                        obtain ⟨M77, e76, h⟩ := gs_o1 h
                        refine gs_putz' (pc := 164) C dX12_clause_164 gk_12 fp_X12_201 sh_147 rfl (by decide) e76 ?_
                        refine gs_aload_n (pc := 167) C 4 dX12_clause_167 rfl rfl ?_
                        refine gs_iload_n (pc := 168) C 0 dX12_clause_168 rfl rfl ?_
                        obtain ⟨M79, e78, h⟩ := gs_o1 h
                        refine gs_puti' (pc := 169) C dX12_clause_169 gk_12 fp_X12_208 sh_147 rfl e78 ?_
                        obtain rfl := gs_i1 h
                        exact gs_vret (pc := 172) C dX12_clause_172 E
                      · replace h := gs_ift c75 h
                        obtain rfl := gs_i1 h
                        exact gs_vret (pc := 161) C dX12_clause_161 E
              · replace h := gs_ift c68 h
                obtain rfl := gs_i1 h
                exact gs_vret (pc := 128) C dX12_clause_128 E
        · replace h := gs_ift c35 h
          refine gs_aload_n (pc := 64) C 4 dX12_clause_64 rfl rfl ?_
          refine gs_iconst (w := 0) (pc := 65) C dX12_clause_65 rfl ?_
          refine gs_iconst (w := 0) (pc := 66) C dX12_clause_66 rfl ?_
          obtain ⟨v80, M81, e82, h⟩ := gs_o2 h
          refine gs_callVi (pc := 67) C [.int (0 : Int32), .int (0 : Int32)] dX12_clause_67 ml_X12_191 wy_X12_condition (a_g1_6 64 _ e82) (by decide) sh_147 (by decide) rfl rfl (Nat.le_of_ble_eq_true rfl) rfl ?_
          refine gs_istore_n (ls' := [(2, .int v80), (4, .int v13), (3, .int (0 : Int32)), (1, .int v1), (0, .ref 147)]) (pc := 70) C dX12_clause_70 rfl (by decide) rfl ?_
          refine gs_aload_n (pc := 71) C 4 dX12_clause_71 rfl rfl ?_
          refine gs_bipush (w := 63) (pc := 72) C dX12_clause_72 rfl ?_
          obtain ⟨v83, M84, e85, h⟩ := gs_o2 h
          refine gs_callVi (pc := 74) C [.int (63 : Int32)] dX12_clause_74 ml_X12_168 wy_X12_takes (a_X12_takes _ e85) (by decide) sh_147 (by decide) rfl rfl (Nat.le_of_ble_eq_true rfl) rfl ?_
          refine gs_if_ne (pc := 77) C 81 dX12_clause_77 rfl (fun c86 => ?_) (fun c86 => ?_)
          · replace h := gs_iff c86 h
            refine gs_aload_n (pc := 81) C 4 dX12_clause_81 rfl rfl ?_
            obtain ⟨v87, M88, e89, h⟩ := gs_o2 h
            refine gs_callVi (pc := 82) C [] dX12_clause_82 ml_X12_165 wy_X12_sum (a_g1_2 64 _ e89) (by decide) sh_147 (by decide) rfl rfl (Nat.le_of_ble_eq_true rfl) rfl ?_
            refine gs_istore_n (ls' := [(3, .int v87), (2, .int v80), (4, .int v13), (1, .int v1), (0, .ref 147)]) (pc := 85) C dX12_clause_85 rfl (by decide) rfl ?_
            refine gs_goto (pc := 86) C 134 dX12_clause_86 rfl ?_
            refine gs_aload_n (pc := 134) C 4 dX12_clause_134 rfl rfl ?_
            refine gs_geti (pc := 135) C dX12_clause_135 gk_12 fl_X12_132 sh_147 rfl ?_
            refine gs_iconst (w := (-1)) (pc := 138) C dX12_clause_138 rfl ?_
            refine gs_icmp_ne (pc := 139) C 161 dX12_clause_139 rfl (fun c90 => ?_) (fun c90 => ?_)
            · replace h := gs_iff c90 h
              obtain rfl := gs_i1 h
              exact gs_vret (pc := 161) C dX12_clause_161 E
            · replace h := gs_ift c90 h
              refine gs_aload_n (pc := 142) C 4 dX12_clause_142 rfl rfl ?_
              refine gs_geti (pc := 143) C dX12_clause_143 gk_12 fl_X12_201 sh_147 rfl ?_
              refine gs_if_ne (pc := 146) C 161 dX12_clause_146 rfl (fun c91 => ?_) (fun c91 => ?_)
              · replace h := gs_iff c91 h
                obtain rfl := gs_i1 h
                exact gs_vret (pc := 161) C dX12_clause_161 E
              · replace h := gs_ift c91 h
                refine gs_iload_n (pc := 149) C 3 dX12_clause_149 rfl rfl ?_
                refine gs_aload_n (pc := 150) C 4 dX12_clause_150 rfl rfl ?_
                refine gs_geti (pc := 151) C dX12_clause_151 gk_12 fl_X12_205 sh_147 rfl ?_
                refine gs_icmp_ne (pc := 154) C 161 dX12_clause_154 rfl (fun c92 => ?_) (fun c92 => ?_)
                · replace h := gs_iff c92 h
                  obtain rfl := gs_i1 h
                  exact gs_vret (pc := 161) C dX12_clause_161 E
                · replace h := gs_ift c92 h
                  refine gs_iload_n (pc := 157) C 1 dX12_clause_157 rfl rfl ?_
                  refine gs_if_ne (pc := 158) C 162 dX12_clause_158 rfl (fun c93 => ?_) (fun c93 => ?_)
                  · replace h := gs_iff c93 h
                    refine gs_aload_n (pc := 162) C 4 dX12_clause_162 rfl rfl ?_
                    refine gs_iconst (w := 1) (pc := 163) C dX12_clause_163 rfl ?_
                    obtain ⟨M95, e94, h⟩ := gs_o1 h
                    refine gs_putz' (pc := 164) C dX12_clause_164 gk_12 fp_X12_201 sh_147 rfl (by decide) e94 ?_
                    refine gs_aload_n (pc := 167) C 4 dX12_clause_167 rfl rfl ?_
                    refine gs_iload_n (pc := 168) C 0 dX12_clause_168 rfl rfl ?_
                    obtain ⟨M97, e96, h⟩ := gs_o1 h
                    refine gs_puti' (pc := 169) C dX12_clause_169 gk_12 fp_X12_208 sh_147 rfl e96 ?_
                    obtain rfl := gs_i1 h
                    exact gs_vret (pc := 172) C dX12_clause_172 E
                  · replace h := gs_ift c93 h
                    obtain rfl := gs_i1 h
                    exact gs_vret (pc := 161) C dX12_clause_161 E
          · replace h := gs_ift c86 h
            obtain rfl := gs_i1 h
            exact gs_vret (pc := 80) C dX12_clause_80 E
    · replace h := gs_ift c12 h
      obtain rfl := gs_i1 h
      exact gs_vret (pc := 39) C dX12_clause_39 E
  · replace h := gs_ift c6 h
    refine gs_aload_n (pc := 14) C 1 dX12_clause_14 rfl rfl ?_
    obtain ⟨v98, M99, e100, h⟩ := gs_o2 h
    refine gs_callVi (pc := 15) C [] dX12_clause_15 ml_X12_138 wy_X12_fails (a_X12_fails _ e100) (by decide) sh_147 (by decide) rfl rfl (Nat.le_of_ble_eq_true rfl) rfl ?_
    refine gs_pop (pc := 18) C dX12_clause_18 rfl ?_
    obtain rfl := gs_i1 h
    exact gs_vret (pc := 19) C dX12_clause_19 E
set_option maxRecDepth 100000 in
set_option maxHeartbeats 4000000 in
theorem t_X12_goThrough_32 {X : gs_X} (C : gs_C X RX12 cX12_goThrough 5 none 78) {L : gs_L} {x2 : Int32} {x3 : Int32} {x4 : Int32} {M' : gs_M} (k : gs_AW X 66 [(0, .ref 147), (1, .ref 149), (2, .int x2), (3, .int x3), (4, .int x4)] [] M' L) : ∀ (f : Nat) (M : gs_M), l_X12_goThrough_32 x2 x3 x4 f M = some (M') → gs_AW X 32 [(0, .ref 147), (1, .ref 149), (2, .int x2), (3, .int x3), (4, .int x4)] [] M L := by
  intro f
  induction f with
  | zero =>
    intro M h
    cases h
  | succ f ih =>
    intro M h
    rw [l_X12_goThrough_32] at h
    refine gs_aload_n (pc := 32) C 0 dX12_goThrough_32 rfl rfl ?_
    refine gs_geti (pc := 33) C dX12_goThrough_33 gk_12 fl_X12_132 sh_147 rfl ?_
    refine gs_iconst (w := (-1)) (pc := 36) C dX12_goThrough_36 rfl ?_
    refine gs_icmp_ne (pc := 37) C 66 dX12_goThrough_37 rfl (fun c1 => ?_) (fun c1 => ?_)
    · replace h := gs_iff c1 h
      obtain rfl := gs_i1 h
      exact k
    · replace h := gs_ift c1 h
      refine gs_aload_n (pc := 40) C 0 dX12_goThrough_40 rfl rfl ?_
      obtain ⟨v2, M3, e4, h⟩ := gs_o2 h
      refine gs_callVi (pc := 41) C [] dX12_goThrough_41 ml_X12_142 wy_X12_look (a_X12_look _ e4) (by decide) sh_147 (by decide) rfl rfl (Nat.le_of_ble_eq_true rfl) rfl ?_
      refine gs_bipush (w := 59) (pc := 44) C dX12_goThrough_44 rfl ?_
      refine gs_icmp_ne (pc := 46) C 66 dX12_goThrough_46 rfl (fun c5 => ?_) (fun c5 => ?_)
      · replace h := gs_iff c5 h
        obtain rfl := gs_i1 h
        exact k
      · replace h := gs_ift c5 h
        refine gs_aload_n (pc := 49) C 0 dX12_goThrough_49 rfl rfl ?_
        refine gs_dup (pc := 50) C dX12_goThrough_50 rfl ?_
        refine gs_geti (pc := 51) C dX12_goThrough_51 gk_12 fl_X12_123 sh_147 rfl ?_
        refine gs_iconst (w := 1) (pc := 54) C dX12_goThrough_54 rfl ?_
        refine gs_iadd (pc := 55) C dX12_goThrough_55 ?_
        obtain ⟨M7, e6, h⟩ := gs_o1 h
        refine gs_puti' (pc := 56) C dX12_goThrough_56 gk_12 fp_X12_123 sh_147 rfl e6 ?_
        refine gs_aload_n (pc := 59) C 0 dX12_goThrough_59 rfl rfl ?_
        obtain ⟨M8, e9, h⟩ := gs_o1 h
        refine gs_callVv (pc := 60) C [] dX12_goThrough_60 ml_X12_215 wy_X12_clause (a_X12_clause _ e9) (by decide) sh_147 (by decide) rfl rfl (Nat.le_of_ble_eq_true rfl) rfl ?_
        refine gs_goto (pc := 63) C 32 dX12_goThrough_63 rfl ?_
        exact ih _ h
set_option maxRecDepth 100000 in
set_option maxHeartbeats 4000000 in
theorem a_X12_goThrough (l : Launch) {M : gs_M} {L : gs_L} {x2 : Int32} {x3 : Int32} {x4 : Int32} {Mz : gs_M} (h : f_X12_goThrough M x2 x3 x4 = some (Mz)) : gs_Met l 78 yX12_goThrough cX12_goThrough 5 none [.ref 147, .ref 149, .int x2, .int x3, .int x4] M L none Mz L := by
  unfold f_X12_goThrough at h
  refine gs_of RX12 (by decide) rfl (Nat.le_of_ble_eq_true rfl) (fun X C E => ?_)
  show gs_AW X 0 [(0, .ref 147), (1, .ref 149), (2, .int x2), (3, .int x3), (4, .int x4)] [] M L
  refine gs_aload_n (pc := 0) C 0 dX12_goThrough_0 rfl rfl ?_
  refine gs_aload_n (pc := 1) C 1 dX12_goThrough_1 rfl rfl ?_
  refine gs_iload_n (pc := 2) C 2 dX12_goThrough_2 rfl rfl ?_
  refine gs_iload_n (pc := 3) C 3 dX12_goThrough_3 rfl rfl ?_
  obtain ⟨M1, e2, h⟩ := gs_o1 h
  refine gs_callVv (pc := 4) C [.ref 149, .int x2, .int x3] dX12_goThrough_4 ml_X12_211 wy_X12_starts (a_X12_starts _ e2) (by decide) sh_147 (by decide) rfl rfl (Nat.le_of_ble_eq_true rfl) rfl ?_
  refine gs_aload_n (pc := 7) C 0 dX12_goThrough_7 rfl rfl ?_
  refine gs_iload (pc := 8) C 4 dX12_goThrough_8 rfl ?_
  obtain ⟨M4, e3, h⟩ := gs_o1 h
  refine gs_puti' (pc := 10) C dX12_goThrough_10 gk_12 fp_X12_205 sh_147 rfl e3 ?_
  refine gs_aload_n (pc := 13) C 0 dX12_goThrough_13 rfl rfl ?_
  refine gs_iconst (w := 0) (pc := 14) C dX12_goThrough_14 rfl ?_
  obtain ⟨M6, e5, h⟩ := gs_o1 h
  refine gs_puti' (pc := 15) C dX12_goThrough_15 gk_12 fp_X12_135 sh_147 rfl e5 ?_
  refine gs_aload_n (pc := 18) C 0 dX12_goThrough_18 rfl rfl ?_
  refine gs_iconst (w := 0) (pc := 19) C dX12_goThrough_19 rfl ?_
  obtain ⟨M8, e7, h⟩ := gs_o1 h
  refine gs_putz' (pc := 20) C dX12_goThrough_20 gk_12 fp_X12_201 sh_147 rfl (by decide) e7 ?_
  refine gs_aload_n (pc := 23) C 0 dX12_goThrough_23 rfl rfl ?_
  refine gs_iconst (w := 0) (pc := 24) C dX12_goThrough_24 rfl ?_
  obtain ⟨M10, e9, h⟩ := gs_o1 h
  refine gs_puti' (pc := 25) C dX12_goThrough_25 gk_12 fp_X12_208 sh_147 rfl e9 ?_
  refine gs_aload_n (pc := 28) C 0 dX12_goThrough_28 rfl rfl ?_
  obtain ⟨M11, e12, h⟩ := gs_o1 h
  refine gs_callVv (pc := 29) C [] dX12_goThrough_29 ml_X12_215 wy_X12_clause (a_X12_clause _ e12) (by decide) sh_147 (by decide) rfl rfl (Nat.le_of_ble_eq_true rfl) rfl ?_
  obtain ⟨M13, e14, h⟩ := gs_o1 h
  refine t_X12_goThrough_32 C ?_ gs_FU _ e14
  refine gs_aload_n (pc := 66) C 0 dX12_goThrough_66 rfl rfl ?_
  refine gs_geti (pc := 67) C dX12_goThrough_67 gk_12 fl_X12_132 sh_147 rfl ?_
  refine gs_iconst (w := (-1)) (pc := 70) C dX12_goThrough_70 rfl ?_
  obtain ⟨M15, e16, h⟩ := gs_o1 h
  have j17 : gs_AW X 87 [(0, .ref 147), (1, .ref 149), (2, .int x2), (3, .int x3), (4, .int x4)] [] M15 L := by
    obtain rfl := gs_i1 h
    exact gs_vret (pc := 87) C dX12_goThrough_87 E
  refine gs_icmp_ne (pc := 71) C 87 dX12_goThrough_71 rfl (fun c18 => ?_) (fun c18 => ?_)
  · replace e16 := gs_iff c18 e16
    obtain rfl := gs_i1 e16
    exact j17
  · replace e16 := gs_ift c18 e16
    refine gs_aload_n (pc := 74) C 0 dX12_goThrough_74 rfl rfl ?_
    obtain ⟨v19, M20, e21, e16⟩ := gs_o2 e16
    refine gs_callVi (pc := 75) C [] dX12_goThrough_75 ml_X12_142 wy_X12_look (a_X12_look _ e21) (by decide) sh_147 (by decide) rfl rfl (Nat.le_of_ble_eq_true rfl) rfl ?_
    refine gs_iconst (w := (-1)) (pc := 78) C dX12_goThrough_78 rfl ?_
    refine gs_icmp_eq (pc := 79) C 87 dX12_goThrough_79 rfl (fun c22 => ?_) (fun c22 => ?_)
    · replace e16 := gs_ift c22 e16
      obtain rfl := gs_i1 e16
      exact j17
    · replace e16 := gs_iff c22 e16
      refine gs_aload_n (pc := 82) C 0 dX12_goThrough_82 rfl rfl ?_
      obtain ⟨v23, M24, e25, e16⟩ := gs_o2 e16
      refine gs_callVi (pc := 83) C [] dX12_goThrough_83 ml_X12_138 wy_X12_fails (a_X12_fails _ e25) (by decide) sh_147 (by decide) rfl rfl (Nat.le_of_ble_eq_true rfl) rfl ?_
      refine gs_pop (pc := 86) C dX12_goThrough_86 rfl ?_
      obtain rfl := gs_i1 e16
      exact j17
set_option maxRecDepth 100000 in
set_option maxHeartbeats 4000000 in
theorem a_X12_wakesBy (l : Launch) {M : gs_M} {L : gs_L} {x1 : Int32} {x2 : Int32} {x3 : Int32} {rv : Int32} {Mz : gs_M} (h : f_X12_wakesBy M x1 x2 x3 = some (rv, Mz)) : gs_Met l 79 yX12_wakesBy cX12_wakesBy 5 (some .int) [.ref 147, .int x1, .int x2, .int x3] M L (some (.int rv)) Mz L := by
  unfold f_X12_wakesBy at h
  refine gs_of RX12 (by decide) rfl (Nat.le_of_ble_eq_true rfl) (fun X C E => ?_)
  show gs_AW X 0 [(0, .ref 147), (1, .int x1), (2, .int x2), (3, .int x3)] [] M L
  refine gs_aload_n (pc := 0) C 0 dX12_wakesBy_0 rfl rfl ?_
  refine gs_iload_n (pc := 1) C 2 dX12_wakesBy_1 rfl rfl ?_
  obtain ⟨v1, e2, h⟩ := gs_o1 h
  refine gs_callVi (pc := 2) C [.int x2] dX12_wakesBy_2 ml_X12_298 wy_X12_conscience (a_X12_conscience _ e2) (by decide) sh_147 (by decide) rfl rfl (Nat.le_of_ble_eq_true rfl) rfl ?_
  refine gs_aload_n (pc := 5) C 0 dX12_wakesBy_5 rfl rfl ?_
  refine gs_iload_n (pc := 6) C 2 dX12_wakesBy_6 rfl rfl ?_
  refine gs_iconst (w := 1) (pc := 7) C dX12_wakesBy_7 rfl ?_
  obtain ⟨v3, e4, h⟩ := gs_o1 h
  refine gs_callVi (pc := 8) C [.int x2, .int (1 : Int32)] dX12_wakesBy_8 ml_X12_301 wy_X12_of (a_X12_of _ e4) (by decide) sh_147 (by decide) rfl rfl (Nat.le_of_ble_eq_true rfl) rfl ?_
  refine gs_iadd (pc := 11) C dX12_wakesBy_11 ?_
  refine gs_iload_n (pc := 12) C 1 dX12_wakesBy_12 rfl rfl ?_
  refine gs_isub (pc := 13) C dX12_wakesBy_13 ?_
  refine gs_aload_n (pc := 14) C 0 dX12_wakesBy_14 rfl rfl ?_
  refine gs_iload_n (pc := 15) C 2 dX12_wakesBy_15 rfl rfl ?_
  refine gs_iconst (w := 2) (pc := 16) C dX12_wakesBy_16 rfl ?_
  obtain ⟨v5, e6, h⟩ := gs_o1 h
  refine gs_callVi (pc := 17) C [.int x2, .int (2 : Int32)] dX12_wakesBy_17 ml_X12_301 wy_X12_of (a_X12_of _ e6) (by decide) sh_147 (by decide) rfl rfl (Nat.le_of_ble_eq_true rfl) rfl ?_
  refine gs_isub (pc := 20) C dX12_wakesBy_20 ?_
  refine gs_istore (ls' := [(4, .int (((v1 + v3) - x1) - v5)), (0, .ref 147), (1, .int x1), (2, .int x2), (3, .int x3)]) (pc := 21) C dX12_wakesBy_21 (by decide) rfl ?_
  refine gs_aload_n (pc := 23) C 1 dX12_wakesBy_23 rfl rfl ?_
  refine gs_geti (pc := 24) C dX12_wakesBy_24 gk_12 fl_X12_58 sh_147 rfl ?_
  refine gs_iconst (w := (-1)) (pc := 27) C dX12_wakesBy_27 rfl ?_
  obtain ⟨y7, M8, e9, h⟩ := gs_o2 h
  have j10 : gs_AW X 78 [(0, .ref 147), (1, .int x1), (2, .int x2), (3, .int x3), (4, .int y7)] [] M8 L := by
    refine gs_iconst (w := 0) (pc := 78) C dX12_wakesBy_78 rfl ?_
    refine gs_bipush (w := 10) (pc := 79) C dX12_wakesBy_79 rfl ?_
    refine gs_iload (pc := 81) C 4 dX12_wakesBy_81 rfl ?_
    refine gs_aload_n (pc := 83) C 0 dX12_wakesBy_83 rfl rfl ?_
    refine gs_iload_n (pc := 84) C 2 dX12_wakesBy_84 rfl rfl ?_
    refine gs_iconst (w := 3) (pc := 85) C dX12_wakesBy_85 rfl ?_
    obtain ⟨v20, e21, h⟩ := gs_o1 h
    refine gs_callVi (pc := 86) C [.int x2, .int (3 : Int32)] dX12_wakesBy_86 ml_X12_301 wy_X12_of (a_X12_of _ e21) (by decide) sh_147 (by decide) rfl rfl (Nat.le_of_ble_eq_true rfl) rfl ?_
    refine gs_aload_n (pc := 89) C 0 dX12_wakesBy_89 rfl rfl ?_
    refine gs_getq (pc := 90) C dX12_wakesBy_90 gk_12 fl_X12_37 sh_147 rfl ?_
    refine gs_iconst (w := 2) (pc := 93) C dX12_wakesBy_93 rfl ?_
    obtain ⟨v22, e23, h⟩ := gs_o1 h
    refine gs_iald (pc := 94) C dX12_wakesBy_94 sh_152 e23 ?_
    refine gs_imul (pc := 95) C dX12_wakesBy_95 ?_
    refine gs_iadd (pc := 96) C dX12_wakesBy_96 ?_
    refine gs_mmin (pc := 97) C dX12_wakesBy_97 ml_X12_308 (Nat.le_of_ble_eq_true rfl) ?_
    refine gs_mmax (pc := 100) C dX12_wakesBy_100 ml_X12_310 (Nat.le_of_ble_eq_true rfl) ?_
    obtain ⟨rfl, rfl⟩ := gs_i2 h
    exact gs_iret (pc := 103) C dX12_wakesBy_103 E
  refine gs_icmp_eq (pc := 28) C 78 dX12_wakesBy_28 rfl (fun c11 => ?_) (fun c11 => ?_)
  · replace e9 := gs_ift c11 e9
    obtain ⟨rfl, rfl⟩ := gs_i2 e9
    exact gs_sub [1, 2, 3, 4, 0] rfl (j10)
  · replace e9 := gs_iff c11 e9
    refine gs_aload_n (pc := 31) C 1 dX12_wakesBy_31 rfl rfl ?_
    refine gs_iload_n (pc := 32) C 2 dX12_wakesBy_32 rfl rfl ?_
    refine gs_iload_n (pc := 33) C 3 dX12_wakesBy_33 rfl rfl ?_
    refine gs_aload_n (pc := 34) C 1 dX12_wakesBy_34 rfl rfl ?_
    refine gs_iload_n (pc := 35) C 3 dX12_wakesBy_35 rfl rfl ?_
    refine gs_iconst (w := 2) (pc := 36) C dX12_wakesBy_36 rfl ?_
    obtain ⟨v12, e13, e9⟩ := gs_o1 e9
    refine gs_callVi (pc := 37) C [.int x2, .int (2 : Int32)] dX12_wakesBy_37 ml_X12_301 wy_X12_of (a_X12_of _ e13) (by decide) sh_147 (by decide) rfl rfl (Nat.le_of_ble_eq_true rfl) rfl ?_
    refine gs_iload_n (pc := 40) C 4 dX12_wakesBy_40 rfl rfl ?_
    refine gs_iconst (w := 0) (pc := 41) C dX12_wakesBy_41 rfl ?_
    obtain ⟨M14, e15, e9⟩ := gs_o1 e9
    refine gs_callVv (pc := 42) C [.int x1, .int x2, .int v12, .int x3, .int (0 : Int32)] dX12_wakesBy_42 ml_X12_304 wy_X12_lay (a_X12_lay _ e15) (by decide) sh_147 (by decide) rfl rfl (Nat.le_of_ble_eq_true rfl) rfl ?_
    refine gs_aload_n (pc := 45) C 1 dX12_wakesBy_45 rfl rfl ?_
    refine gs_aload_n (pc := 46) C 1 dX12_wakesBy_46 rfl rfl ?_
    refine gs_getq (pc := 47) C dX12_wakesBy_47 gk_12 fl_X12_13 sh_147 rfl ?_
    refine gs_sipush (w := 240) (pc := 50) C dX12_wakesBy_50 rfl ?_
    refine gs_aload_n (pc := 53) C 1 dX12_wakesBy_53 rfl rfl ?_
    refine gs_geti (pc := 54) C dX12_wakesBy_54 gk_12 fl_X12_58 sh_147 rfl ?_
    refine gs_imul (pc := 57) C dX12_wakesBy_57 ?_
    refine gs_aload_n (pc := 58) C 1 dX12_wakesBy_58 rfl rfl ?_
    refine gs_getq (pc := 59) C dX12_wakesBy_59 gk_12 fl_X12_16 sh_147 rfl ?_
    refine gs_aload_n (pc := 62) C 1 dX12_wakesBy_62 rfl rfl ?_
    refine gs_geti (pc := 63) C dX12_wakesBy_63 gk_12 fl_X12_58 sh_147 rfl ?_
    obtain ⟨v16, e17, e9⟩ := gs_o1 e9
    refine gs_iald (pc := 66) C dX12_wakesBy_66 sh_150 e17 ?_
    refine gs_bipush (w := 121) (pc := 67) C dX12_wakesBy_67 rfl ?_
    obtain ⟨M18, e19, e9⟩ := gs_o1 e9
    refine gs_callVv (pc := 69) C [.ref 149, .int ((240 : Int32) * (M14 147 29)), .int v16, .int (121 : Int32)] dX12_wakesBy_69 ml_X12_271 wy_X12_goThrough (a_X12_goThrough _ e19) (by decide) sh_147 (by decide) rfl rfl (Nat.le_of_ble_eq_true rfl) rfl ?_
    refine gs_aload_n (pc := 72) C 1 dX12_wakesBy_72 rfl rfl ?_
    refine gs_geti (pc := 73) C dX12_wakesBy_73 gk_12 fl_X12_208 sh_147 rfl ?_
    refine gs_istore (ls' := [(4, .int (M18 147 14)), (0, .ref 147), (1, .int x1), (2, .int x2), (3, .int x3)]) (pc := 76) C dX12_wakesBy_76 (by decide) rfl ?_
    obtain ⟨rfl, rfl⟩ := gs_i2 e9
    exact gs_sub [1, 2, 3, 4, 0] rfl (j10)
set_option maxRecDepth 100000 in
set_option maxHeartbeats 4000000 in
theorem a_X12_wakesNow (l : Launch) {M : gs_M} {L : gs_L} {x1 : Int32} {x2 : Int32} {rv : Int32} {Mz : gs_M} (h : f_X12_wakesNow M x1 x2 = some (rv, Mz)) : gs_Met l 80 yX12_wakesNow cX12_wakesNow 3 (some .int) [.ref 147, .int x1, .int x2] M L (some (.int rv)) Mz L := by
  unfold f_X12_wakesNow at h
  refine gs_of RX12 (by decide) rfl (Nat.le_of_ble_eq_true rfl) (fun X C E => ?_)
  show gs_AW X 0 [(0, .ref 147), (1, .int x1), (2, .int x2)] [] M L
  refine gs_aload_n (pc := 0) C 0 dX12_wakesNow_0 rfl rfl ?_
  refine gs_aload_n (pc := 1) C 0 dX12_wakesNow_1 rfl rfl ?_
  refine gs_iload_n (pc := 2) C 1 dX12_wakesNow_2 rfl rfl ?_
  refine gs_iconst (w := 0) (pc := 3) C dX12_wakesNow_3 rfl ?_
  obtain ⟨v1, e2, h⟩ := gs_o1 h
  refine gs_callVi (pc := 4) C [.int x1, .int (0 : Int32)] dX12_wakesNow_4 ml_X12_301 wy_X12_of (a_X12_of _ e2) (by decide) sh_147 (by decide) rfl rfl (Nat.le_of_ble_eq_true rfl) rfl ?_
  refine gs_iload_n (pc := 7) C 1 dX12_wakesNow_7 rfl rfl ?_
  refine gs_iload_n (pc := 8) C 2 dX12_wakesNow_8 rfl rfl ?_
  obtain ⟨v3, M4, e5, h⟩ := gs_o2 h
  refine gs_callVi (pc := 9) C [.int v1, .int x1, .int x2] dX12_wakesNow_9 ml_X12_312 wy_X12_wakesBy (a_X12_wakesBy _ e5) (by decide) sh_147 (by decide) rfl rfl (Nat.le_of_ble_eq_true rfl) rfl ?_
  obtain ⟨rfl, rfl⟩ := gs_i2 h
  exact gs_iret (pc := 12) C dX12_wakesNow_12 E
set_option maxRecDepth 100000 in
set_option maxHeartbeats 4000000 in
theorem t_X12_awake_29 {X : gs_X} (C : gs_C X RX12 cX12_awake 8 (some .int) 81) {M : gs_M} {x1 : Int32} {x2 : Int32} {o3 : Int32} {L' : gs_L} (k : gs_AW X 61 [(0, .ref 147), (1, .int x1), (2, .int x2), (3, .int o3)] [] M L') : ∀ (f : Nat) (x3 : Int32) (L : gs_L), l_X12_awake_29 M x1 x2 f x3 L = some (o3, L') → gs_AW X 29 [(0, .ref 147), (1, .int x1), (2, .int x2), (3, .int x3)] [] M L := by
  intro f
  induction f with
  | zero =>
    intro x3 L h
    cases h
  | succ f ih =>
    intro x3 L h
    rw [l_X12_awake_29] at h
    refine gs_iload_n (pc := 29) C 3 dX12_awake_29 rfl rfl ?_
    refine gs_aload_n (pc := 30) C 0 dX12_awake_30 rfl rfl ?_
    refine gs_getq (pc := 31) C dX12_awake_31 gk_12 fl_X12_71 sh_147 rfl ?_
    refine gs_alen (pc := 34) C (w := 11) dX12_awake_34 sh_161 (by decide) rfl ?_
    refine gs_icmp_ge (pc := 35) C 61 dX12_awake_35 rfl (fun c1 => ?_) (fun c1 => ?_)
    · replace h := gs_ift c1 h
      obtain ⟨rfl, rfl⟩ := gs_i2 h
      exact k
    · replace h := gs_iff c1 h
      refine gs_aload_n (pc := 38) C 0 dX12_awake_38 rfl rfl ?_
      refine gs_getq (pc := 39) C dX12_awake_39 gk_12 fl_X12_71 sh_147 rfl ?_
      refine gs_iload_n (pc := 42) C 3 dX12_awake_42 rfl rfl ?_
      refine gs_iload_n (pc := 43) C 3 dX12_awake_43 rfl rfl ?_
      have j4 : gs_AW X 54 [(0, .ref 147), (1, .int x1), (2, .int x2), (3, .int x3)] [.long (if x3 = (0 : Int32) then (1000000000 : Int64) else (0 : Int64) : Int64), .int x3, .ref 161] M L := by
        obtain ⟨L3, e2, h⟩ := gs_o1 h
        refine gs_last (pc := 54) C dX12_awake_54 sh_161 e2 ?_
        refine gs_iinc (v := x3 + (1 : Int32)) (ls' := [(3, .int (x3 + (1 : Int32))), (0, .ref 147), (1, .int x1), (2, .int x2)]) (pc := 55) C 3 dX12_awake_55 rfl rfl (by decide) rfl ?_
        refine gs_goto (pc := 58) C 29 dX12_awake_58 rfl ?_
        exact gs_sub [1, 2, 3, 0] rfl (ih _ _ h)
      refine gs_if_ne (pc := 44) C 53 dX12_awake_44 rfl (fun c5 => ?_) (fun c5 => ?_)
      · refine gs_lconst (w := 0) (pc := 53) C dX12_awake_53 rfl ?_
        simp only [if_neg c5] at j4
        exact j4
      · refine gs_ldc2 (pc := 47) C dX12_awake_47 wj_X12_393 ?_
        refine gs_goto (pc := 50) C 54 dX12_awake_50 rfl ?_
        simp only [if_pos c5] at j4
        exact j4
set_option maxRecDepth 100000 in
set_option maxHeartbeats 4000000 in
theorem t_X12_awake_85 {X : gs_X} (C : gs_C X RX12 cX12_awake 8 (some .int) 81) {M : gs_M} {x1 : Int32} {x2 : Int32} {x3 : Int32} {x4 : Int32} {o5 : Int32} {L' : gs_L} (k : gs_AW X 139 [(0, .ref 147), (1, .int x1), (2, .int x2), (3, .int x3), (4, .int x4), (5, .int o5)] [] M L') : ∀ (f : Nat) (x5 : Int32) (L : gs_L), l_X12_awake_85 M x1 x2 x3 x4 f x5 L = some (o5, L') → gs_AW X 85 [(0, .ref 147), (1, .int x1), (2, .int x2), (3, .int x3), (4, .int x4), (5, .int x5)] [] M L := by
  intro f
  induction f with
  | zero =>
    intro x5 L h
    cases h
  | succ f ih =>
    intro x5 L h
    rw [l_X12_awake_85] at h
    refine gs_iload (pc := 85) C 5 dX12_awake_85 rfl ?_
    refine gs_if_lt (pc := 87) C 139 dX12_awake_87 rfl (fun c1 => ?_) (fun c1 => ?_)
    · replace h := gs_ift c1 h
      obtain ⟨rfl, rfl⟩ := gs_i2 h
      exact k
    · replace h := gs_iff c1 h
      refine gs_aload_n (pc := 90) C 0 dX12_awake_90 rfl rfl ?_
      refine gs_getq (pc := 91) C dX12_awake_91 gk_12 fl_X12_71 sh_147 rfl ?_
      refine gs_iload (pc := 94) C 5 dX12_awake_94 rfl ?_
      obtain ⟨v2, e3, h⟩ := gs_o1 h
      refine gs_lald (pc := 96) C dX12_awake_96 sh_161 e3 ?_
      refine gs_iload (pc := 97) C 4 dX12_awake_97 rfl ?_
      refine gs_i2l (pc := 99) C dX12_awake_99 ?_
      refine gs_lmul (pc := 100) C dX12_awake_100 ?_
      refine gs_ldc2 (pc := 101) C dX12_awake_101 wj_X12_395 ?_
      obtain ⟨v4, e5, h⟩ := gs_o1 h
      refine gs_ldiv' (pc := 104) C dX12_awake_104 e5 ?_
      refine gs_lstore (ls' := [(6, .long v4), (0, .ref 147), (1, .int x1), (2, .int x2), (3, .int x3), (4, .int x4), (5, .int x5)]) (pc := 105) C dX12_awake_105 (by decide) rfl ?_
      refine gs_aload_n (pc := 107) C 1 dX12_awake_107 rfl rfl ?_
      refine gs_getq (pc := 108) C dX12_awake_108 gk_12 fl_X12_71 sh_147 rfl ?_
      refine gs_iload (pc := 111) C 6 dX12_awake_111 rfl ?_
      refine gs_dup2 (pc := 113) C dX12_awake_113 rfl rfl ?_
      obtain ⟨v6, e7, h⟩ := gs_o1 h
      refine gs_lald (pc := 114) C dX12_awake_114 sh_161 e7 ?_
      refine gs_lload (pc := 115) C 0 dX12_awake_115 rfl ?_
      refine gs_lsub (pc := 117) C dX12_awake_117 ?_
      obtain ⟨L9, e8, h⟩ := gs_o1 h
      refine gs_last (pc := 118) C dX12_awake_118 sh_161 e8 ?_
      refine gs_aload_n (pc := 119) C 1 dX12_awake_119 rfl rfl ?_
      refine gs_getq (pc := 120) C dX12_awake_120 gk_12 fl_X12_71 sh_147 rfl ?_
      refine gs_iload (pc := 123) C 6 dX12_awake_123 rfl ?_
      refine gs_iconst (w := 1) (pc := 125) C dX12_awake_125 rfl ?_
      refine gs_iadd (pc := 126) C dX12_awake_126 ?_
      refine gs_dup2 (pc := 127) C dX12_awake_127 rfl rfl ?_
      obtain ⟨v10, e11, h⟩ := gs_o1 h
      refine gs_lald (pc := 128) C dX12_awake_128 sh_161 e11 ?_
      refine gs_lload (pc := 129) C 0 dX12_awake_129 rfl ?_
      refine gs_ladd (pc := 131) C dX12_awake_131 ?_
      obtain ⟨L13, e12, h⟩ := gs_o1 h
      refine gs_last (pc := 132) C dX12_awake_132 sh_161 e12 ?_
      refine gs_iinc (v := x5 + (-1 : Int32)) (ls' := [(5, .int (x5 + (-1 : Int32))), (6, .long v4), (0, .ref 147), (1, .int x1), (2, .int x2), (3, .int x3), (4, .int x4)]) (pc := 133) C 6 dX12_awake_133 rfl rfl (by decide) rfl ?_
      refine gs_goto (pc := 136) C 85 dX12_awake_136 rfl ?_
      exact gs_sub [2, 3, 4, 5, 6, 0] rfl (ih _ _ h)
set_option maxRecDepth 100000 in
set_option maxHeartbeats 4000000 in
theorem t_X12_awake_63 {X : gs_X} (C : gs_C X RX12 cX12_awake 8 (some .int) 81) {x1 : Int32} {x2 : Int32} {o3 : Int32} {M' : gs_M} {L' : gs_L} (k : gs_AW X 145 [(0, .ref 147), (1, .int x1), (2, .int x2), (3, .int o3)] [] M' L') : ∀ (f : Nat) (x3 : Int32) (M : gs_M) (L : gs_L), l_X12_awake_63 x1 x2 f x3 M L = some (o3, M', L') → gs_AW X 63 [(0, .ref 147), (1, .int x1), (2, .int x2), (3, .int x3)] [] M L := by
  intro f
  induction f with
  | zero =>
    intro x3 M L h
    cases h
  | succ f ih =>
    intro x3 M L h
    rw [l_X12_awake_63] at h
    refine gs_iload_n (pc := 63) C 3 dX12_awake_63 rfl rfl ?_
    refine gs_aload_n (pc := 64) C 0 dX12_awake_64 rfl rfl ?_
    refine gs_getq (pc := 65) C dX12_awake_65 gk_12 fl_X12_37 sh_147 rfl ?_
    refine gs_iconst (w := 0) (pc := 68) C dX12_awake_68 rfl ?_
    obtain ⟨v1, e2, h⟩ := gs_o1 h
    refine gs_iald (pc := 69) C dX12_awake_69 sh_152 e2 ?_
    refine gs_icmp_ge (pc := 70) C 145 dX12_awake_70 rfl (fun c3 => ?_) (fun c3 => ?_)
    · replace h := gs_ift c3 h
      obtain ⟨rfl, rfl, rfl⟩ := gs_i3 h
      exact k
    · replace h := gs_iff c3 h
      refine gs_aload_n (pc := 73) C 0 dX12_awake_73 rfl rfl ?_
      refine gs_iload_n (pc := 74) C 1 dX12_awake_74 rfl rfl ?_
      refine gs_iload_n (pc := 75) C 3 dX12_awake_75 rfl rfl ?_
      obtain ⟨v4, M5, e6, h⟩ := gs_o2 h
      refine gs_callVi (pc := 76) C [.int x1, .int x3] dX12_awake_76 ml_X12_340 wy_X12_wakesNow (a_X12_wakesNow _ e6) (by decide) sh_147 (by decide) rfl rfl (Nat.le_of_ble_eq_true rfl) rfl ?_
      refine gs_istore (ls' := [(4, .int v4), (0, .ref 147), (1, .int x1), (2, .int x2), (3, .int x3)]) (pc := 79) C dX12_awake_79 (by decide) rfl ?_
      refine gs_bipush (w := 9) (pc := 81) C dX12_awake_81 rfl ?_
      refine gs_istore (ls' := [(5, .int (9 : Int32)), (4, .int v4), (0, .ref 147), (1, .int x1), (2, .int x2), (3, .int x3)]) (pc := 83) C dX12_awake_83 (by decide) rfl ?_
      obtain ⟨y7, L8, e9, h⟩ := gs_o2 h
      refine gs_sub [2, 3, 4, 5, 1, 0] rfl (t_X12_awake_85 C ?_ gs_FU _ _ e9)
      refine gs_iinc (v := x3 + (1 : Int32)) (ls' := [(3, .int (x3 + (1 : Int32))), (0, .ref 147), (1, .int x1), (2, .int x2), (4, .int v4), (5, .int y7)]) (pc := 139) C 3 dX12_awake_139 rfl rfl (by decide) rfl ?_
      refine gs_goto (pc := 142) C 63 dX12_awake_142 rfl ?_
      exact gs_sub [1, 2, 3, 0] rfl (ih _ _ _ h)
set_option maxRecDepth 100000 in
set_option maxHeartbeats 4000000 in
theorem t_X12_awake_150 {X : gs_X} (C : gs_C X RX12 cX12_awake 8 (some .int) 81) {M : gs_M} {L : gs_L} {x1 : Int32} {x2 : Int32} {o3 : Int64} {o5 : Int32} (k : gs_AW X 176 [(0, .ref 147), (1, .int x1), (2, .int x2), (3, .long o3), (5, .int o5)] [] M L) : ∀ (f : Nat) (x3 : Int64) (x5 : Int32), l_X12_awake_150 M L x1 x2 f x3 x5 = some (o3, o5) → gs_AW X 150 [(0, .ref 147), (1, .int x1), (2, .int x2), (3, .long x3), (5, .int x5)] [] M L := by
  intro f
  induction f with
  | zero =>
    intro x3 x5 h
    cases h
  | succ f ih =>
    intro x3 x5 h
    rw [l_X12_awake_150] at h
    refine gs_iload (pc := 150) C 4 dX12_awake_150 rfl ?_
    refine gs_aload_n (pc := 152) C 0 dX12_awake_152 rfl rfl ?_
    refine gs_getq (pc := 153) C dX12_awake_153 gk_12 fl_X12_71 sh_147 rfl ?_
    refine gs_alen (pc := 156) C (w := 11) dX12_awake_156 sh_161 (by decide) rfl ?_
    refine gs_icmp_ge (pc := 157) C 176 dX12_awake_157 rfl (fun c1 => ?_) (fun c1 => ?_)
    · replace h := gs_ift c1 h
      obtain ⟨rfl, rfl⟩ := gs_i2 h
      exact k
    · replace h := gs_iff c1 h
      refine gs_lload_n (pc := 160) C 3 dX12_awake_160 rfl rfl ?_
      refine gs_aload_n (pc := 161) C 0 dX12_awake_161 rfl rfl ?_
      refine gs_getq (pc := 162) C dX12_awake_162 gk_12 fl_X12_71 sh_147 rfl ?_
      refine gs_iload (pc := 165) C 4 dX12_awake_165 rfl ?_
      obtain ⟨v2, e3, h⟩ := gs_o1 h
      refine gs_lald (pc := 167) C dX12_awake_167 sh_161 e3 ?_
      refine gs_ladd (pc := 168) C dX12_awake_168 ?_
      refine gs_lstore_n (ls' := [(3, .long (x3 + v2)), (0, .ref 147), (1, .int x1), (2, .int x2), (5, .int x5)]) (pc := 169) C dX12_awake_169 rfl (by decide) rfl ?_
      refine gs_iinc (v := x5 + (1 : Int32)) (ls' := [(5, .int (x5 + (1 : Int32))), (3, .long (x3 + v2)), (0, .ref 147), (1, .int x1), (2, .int x2)]) (pc := 170) C 4 dX12_awake_170 rfl rfl (by decide) rfl ?_
      refine gs_goto (pc := 173) C 150 dX12_awake_173 rfl ?_
      exact gs_sub [2, 3, 4, 1, 0] rfl (ih _ _ h)
set_option maxRecDepth 100000 in
set_option maxHeartbeats 4000000 in
theorem a_X12_awake (l : Launch) {M : gs_M} {L : gs_L} {x1 : Int32} {x2 : Int32} {rv : Int32} {Mz : gs_M} {Lz : gs_L} (h : f_X12_awake M L x1 x2 = some (rv, Mz, Lz)) : gs_Met l 81 yX12_awake cX12_awake 8 (some .int) [.ref 147, .int x1, .int x2] M L (some (.int rv)) Mz Lz := by
  unfold f_X12_awake at h
  refine gs_of RX12 (by decide) rfl (Nat.le_of_ble_eq_true rfl) (fun X C E => ?_)
  show gs_AW X 0 [(0, .ref 147), (1, .int x1), (2, .int x2)] [] M L
  refine gs_aload_n (pc := 0) C 0 dX12_awake_0 rfl rfl ?_
  refine gs_iconst (w := 0) (pc := 1) C dX12_awake_1 rfl ?_
  obtain ⟨M2, e1, h⟩ := gs_o1 h
  refine gs_puti' (pc := 2) C dX12_awake_2 gk_12 fp_X12_100 sh_147 rfl e1 ?_
  refine gs_aload_n (pc := 5) C 0 dX12_awake_5 rfl rfl ?_
  refine gs_iload_n (pc := 6) C 1 dX12_awake_6 rfl rfl ?_
  obtain ⟨v3, e4, h⟩ := gs_o1 h
  refine gs_callVi (pc := 7) C [.int x1] dX12_awake_7 ml_X12_347 wy_X12_isPerson (a_X12_isPerson _ e4) (by decide) sh_147 (by decide) rfl rfl (Nat.le_of_ble_eq_true rfl) rfl ?_
  refine gs_if_eq (pc := 10) C 25 dX12_awake_10 rfl (fun c5 => ?_) (fun c5 => ?_)
  · replace h := gs_ift c5 h
    refine gs_iconst (w := (-1)) (pc := 25) C dX12_awake_25 rfl ?_
    obtain ⟨rfl, rfl, rfl⟩ := gs_i3 h
    exact gs_iret (pc := 26) C dX12_awake_26 E
  · replace h := gs_iff c5 h
    refine gs_iload_n (pc := 13) C 2 dX12_awake_13 rfl rfl ?_
    refine gs_i2l (pc := 14) C dX12_awake_14 ?_
    refine gs_lconst (w := 0) (pc := 15) C dX12_awake_15 rfl ?_
    refine gs_ldc2 (pc := 16) C dX12_awake_16 wj_X12_361 ?_
    obtain ⟨v6, e7, h⟩ := gs_o1 h
    refine gs_callSi (pc := 19) C [.long (Int32.toInt64 x2), .long (0 : Int64), .long (9 : Int64)] dX12_awake_19 ml_X12_221 wy_X12_isIn (a_X12_isIn _ e7) (by decide) rfl (Nat.le_of_ble_eq_true rfl) rfl ?_
    refine gs_if_ne (pc := 22) C 27 dX12_awake_22 rfl (fun c8 => ?_) (fun c8 => ?_)
    · replace h := gs_iff c8 h
      refine gs_iconst (w := 0) (pc := 27) C dX12_awake_27 rfl ?_
      refine gs_istore_n (ls' := [(3, .int (0 : Int32)), (0, .ref 147), (1, .int x1), (2, .int x2)]) (pc := 28) C dX12_awake_28 rfl (by decide) rfl ?_
      obtain ⟨y9, L10, e11, h⟩ := gs_o2 h
      refine gs_sub [1, 2, 3, 0] rfl (t_X12_awake_29 C ?_ gs_FU _ _ e11)
      refine gs_iconst (w := 0) (pc := 61) C dX12_awake_61 rfl ?_
      refine gs_istore_n (ls' := [(3, .int (0 : Int32)), (0, .ref 147), (1, .int x1), (2, .int x2)]) (pc := 62) C dX12_awake_62 rfl (by decide) rfl ?_
      obtain ⟨y12, M13, L14, e15, h⟩ := gs_o3 h
      refine gs_sub [1, 2, 3, 0] rfl (t_X12_awake_63 C ?_ gs_FU _ _ _ e15)
      refine gs_lconst (w := 0) (pc := 145) C dX12_awake_145 rfl ?_
      refine gs_lstore_n (ls' := [(3, .long (0 : Int64)), (0, .ref 147), (1, .int x1), (2, .int x2)]) (pc := 146) C dX12_awake_146 rfl (by decide) rfl ?_
      refine gs_iload_n (pc := 147) C 3 dX12_awake_147 rfl rfl ?_
      refine gs_istore (ls' := [(5, .int x2), (3, .long (0 : Int64)), (0, .ref 147), (1, .int x1), (2, .int x2)]) (pc := 148) C dX12_awake_148 (by decide) rfl ?_
      obtain ⟨y16, y17, e18, h⟩ := gs_o2 h
      refine gs_sub [2, 3, 4, 1, 0] rfl (t_X12_awake_150 C ?_ gs_FU _ _ e18)
      refine gs_lload_n (pc := 176) C 3 dX12_awake_176 rfl rfl ?_
      refine gs_l2i (pc := 177) C dX12_awake_177 ?_
      obtain ⟨rfl, rfl, rfl⟩ := gs_i3 h
      exact gs_iret (pc := 178) C dX12_awake_178 E
    · replace h := gs_ift c8 h
      refine gs_iconst (w := (-1)) (pc := 25) C dX12_awake_25 rfl ?_
      obtain ⟨rfl, rfl, rfl⟩ := gs_i3 h
      exact gs_iret (pc := 26) C dX12_awake_26 E
set_option maxRecDepth 100000 in
set_option maxHeartbeats 4000000 in
theorem t_X12_back_16 {X : gs_X} (C : gs_C X RX12 cX12_back 2 (some .int) 0) {L : gs_L} {o1 : Int32} {M' : gs_M} (k : gs_AW X 41 [(0, .ref 147), (1, .int o1)] [] M' L) : ∀ (f : Nat) (x1 : Int32) (M : gs_M), l_X12_back_16  f x1 M = some (o1, M') → gs_AW X 16 [(0, .ref 147), (1, .int x1)] [] M L := by
  intro f
  induction f with
  | zero =>
    intro x1 M h
    cases h
  | succ f ih =>
    intro x1 M h
    rw [l_X12_back_16] at h
    refine gs_iload_n (pc := 16) C 1 dX12_back_16 rfl rfl ?_
    refine gs_sipush (w := 533) (pc := 17) C dX12_back_17 rfl ?_
    refine gs_icmp_ge (pc := 20) C 41 dX12_back_20 rfl (fun c1 => ?_) (fun c1 => ?_)
    · replace h := gs_ift c1 h
      obtain ⟨rfl, rfl⟩ := gs_i2 h
      exact k
    · replace h := gs_iff c1 h
      refine gs_aload_n (pc := 23) C 0 dX12_back_23 rfl rfl ?_
      refine gs_getq (pc := 24) C dX12_back_24 gk_12 fl_X12_55 sh_147 rfl ?_
      refine gs_iload_n (pc := 27) C 1 dX12_back_27 rfl rfl ?_
      refine gs_aload_n (pc := 28) C 0 dX12_back_28 rfl rfl ?_
      refine gs_getq (pc := 29) C dX12_back_29 gk_12 fl_X12_97 sh_147 rfl ?_
      refine gs_iload_n (pc := 32) C 1 dX12_back_32 rfl rfl ?_
      obtain ⟨v2, e3, h⟩ := gs_o1 h
      refine gs_iald (pc := 33) C dX12_back_33 sh_169 e3 ?_
      obtain ⟨M5, e4, h⟩ := gs_o1 h
      refine gs_iast (pc := 34) C dX12_back_34 sh_158 e4 ?_
      refine gs_iinc (v := x1 + (1 : Int32)) (ls' := [(1, .int (x1 + (1 : Int32))), (0, .ref 147)]) (pc := 35) C 1 dX12_back_35 rfl rfl (by decide) rfl ?_
      refine gs_goto (pc := 38) C 16 dX12_back_38 rfl ?_
      exact gs_sub [1, 0] rfl (ih _ _ h)
set_option maxRecDepth 100000 in
set_option maxHeartbeats 4000000 in
theorem a_X12_back (l : Launch) {M : gs_M} {L : gs_L} {rv : Int32} {Mz : gs_M} (h : f_X12_back M = some (rv, Mz)) : gs_Met l 0 yX12_back cX12_back 2 (some .int) [.ref 147] M L (some (.int rv)) Mz L := by
  unfold f_X12_back at h
  refine gs_of RX12 (by decide) rfl (Nat.le_of_ble_eq_true rfl) (fun X C E => ?_)
  show gs_AW X 0 [(0, .ref 147)] [] M L
  refine gs_aload_n (pc := 0) C 0 dX12_back_0 rfl rfl ?_
  refine gs_iconst (w := 0) (pc := 1) C dX12_back_1 rfl ?_
  obtain ⟨M2, e1, h⟩ := gs_o1 h
  refine gs_puti' (pc := 2) C dX12_back_2 gk_12 fp_X12_100 sh_147 rfl e1 ?_
  refine gs_aload_n (pc := 5) C 0 dX12_back_5 rfl rfl ?_
  refine gs_geti (pc := 6) C dX12_back_6 gk_12 fl_X12_295 sh_147 rfl ?_
  refine gs_if_ne (pc := 9) C 14 dX12_back_9 rfl (fun c3 => ?_) (fun c3 => ?_)
  · replace h := gs_iff c3 h
    refine gs_iconst (w := 0) (pc := 14) C dX12_back_14 rfl ?_
    refine gs_istore_n (ls' := [(1, .int (0 : Int32)), (0, .ref 147)]) (pc := 15) C dX12_back_15 rfl (by decide) rfl ?_
    obtain ⟨y4, M5, e6, h⟩ := gs_o2 h
    refine gs_sub [1, 0] rfl (t_X12_back_16 C ?_ gs_FU _ _ e6)
    refine gs_aload_n (pc := 41) C 0 dX12_back_41 rfl rfl ?_
    refine gs_iconst (w := 0) (pc := 42) C dX12_back_42 rfl ?_
    obtain ⟨M8, e7, h⟩ := gs_o1 h
    refine gs_puti' (pc := 43) C dX12_back_43 gk_12 fp_X12_292 sh_147 rfl e7 ?_
    refine gs_aload_n (pc := 46) C 0 dX12_back_46 rfl rfl ?_
    refine gs_getq (pc := 47) C dX12_back_47 gk_12 fl_X12_55 sh_147 rfl ?_
    refine gs_bipush (w := 48) (pc := 50) C dX12_back_50 rfl ?_
    obtain ⟨v9, e10, h⟩ := gs_o1 h
    refine gs_iald (pc := 52) C dX12_back_52 sh_158 e10 ?_
    obtain ⟨rfl, rfl⟩ := gs_i2 h
    exact gs_iret (pc := 53) C dX12_back_53 E
  · replace h := gs_ift c3 h
    refine gs_iconst (w := (-1)) (pc := 12) C dX12_back_12 rfl ?_
    obtain ⟨rfl, rfl⟩ := gs_i2 h
    exact gs_iret (pc := 13) C dX12_back_13 E
set_option maxRecDepth 100000 in
set_option maxHeartbeats 4000000 in
theorem a_X12_page (l : Launch) {M : gs_M} {L : gs_L} {x1 : Int32} {x2 : Int32} {rv : Int32} (h : f_X12_page M x1 x2 = some (rv)) : gs_Met l 0 yX12_page cX12_page 3 (some .int) [.ref 147, .int x1, .int x2] M L (some (.int rv)) M L := by
  unfold f_X12_page at h
  refine gs_of RX12 (by decide) rfl (Nat.le_of_ble_eq_true rfl) (fun X C E => ?_)
  show gs_AW X 0 [(0, .ref 147), (1, .int x1), (2, .int x2)] [] M L
  refine gs_aload_n (pc := 0) C 0 dX12_page_0 rfl rfl ?_
  refine gs_getq (pc := 1) C dX12_page_1 gk_12 fl_X12_55 sh_147 rfl ?_
  refine gs_bipush (w := 52) (pc := 4) C dX12_page_4 rfl ?_
  refine gs_iconst (w := 5) (pc := 6) C dX12_page_6 rfl ?_
  refine gs_iload_n (pc := 7) C 1 dX12_page_7 rfl rfl ?_
  refine gs_imul (pc := 8) C dX12_page_8 ?_
  refine gs_iadd (pc := 9) C dX12_page_9 ?_
  refine gs_iload_n (pc := 10) C 2 dX12_page_10 rfl rfl ?_
  refine gs_iadd (pc := 11) C dX12_page_11 ?_
  obtain ⟨v1, e2, h⟩ := gs_o1 h
  refine gs_iald (pc := 12) C dX12_page_12 sh_158 e2 ?_
  obtain rfl := gs_i1 h
  exact gs_iret (pc := 13) C dX12_page_13 E
set_option maxRecDepth 100000 in
set_option maxHeartbeats 4000000 in
theorem t_X12_pagesOf_4 {X : gs_X} (C : gs_C X RX12 cX12_pagesOf 4 (some .int) 1) {M : gs_M} {L : gs_L} {x1 : Int32} {o2 : Int32} {o3 : Int32} (k : gs_AW X 39 [(0, .ref 147), (1, .int x1), (2, .int o2), (3, .int o3)] [] M L) : ∀ (f : Nat) (x2 : Int32) (x3 : Int32), l_X12_pagesOf_4 M x1 f x2 x3 = some (o2, o3) → gs_AW X 4 [(0, .ref 147), (1, .int x1), (2, .int x2), (3, .int x3)] [] M L := by
  intro f
  induction f with
  | zero =>
    intro x2 x3 h
    cases h
  | succ f ih =>
    intro x2 x3 h
    rw [l_X12_pagesOf_4] at h
    refine gs_iload_n (pc := 4) C 3 dX12_pagesOf_4 rfl rfl ?_
    refine gs_aload_n (pc := 5) C 0 dX12_pagesOf_5 rfl rfl ?_
    refine gs_getq (pc := 6) C dX12_pagesOf_6 gk_12 fl_X12_55 sh_147 rfl ?_
    refine gs_bipush (w := 51) (pc := 9) C dX12_pagesOf_9 rfl ?_
    obtain ⟨v1, e2, h⟩ := gs_o1 h
    refine gs_iald (pc := 11) C dX12_pagesOf_11 sh_158 e2 ?_
    refine gs_icmp_ge (pc := 12) C 39 dX12_pagesOf_12 rfl (fun c3 => ?_) (fun c3 => ?_)
    · replace h := gs_ift c3 h
      obtain ⟨rfl, rfl⟩ := gs_i2 h
      exact k
    · replace h := gs_iff c3 h
      refine gs_iload_n (pc := 15) C 2 dX12_pagesOf_15 rfl rfl ?_
      refine gs_aload_n (pc := 16) C 0 dX12_pagesOf_16 rfl rfl ?_
      refine gs_iload_n (pc := 17) C 3 dX12_pagesOf_17 rfl rfl ?_
      refine gs_iconst (w := 2) (pc := 18) C dX12_pagesOf_18 rfl ?_
      obtain ⟨v4, e5, h⟩ := gs_o1 h
      refine gs_callVi (pc := 19) C [.int x3, .int (2 : Int32)] dX12_pagesOf_19 ml_X12_316 wy_X12_page (a_X12_page _ e5) (by decide) sh_147 (by decide) rfl rfl (Nat.le_of_ble_eq_true rfl) rfl ?_
      refine gs_iload_n (pc := 22) C 1 dX12_pagesOf_22 rfl rfl ?_
      have j6 : gs_AW X 31 [(0, .ref 147), (1, .int x1), (2, .int x2), (3, .int x3)] [.int (if v4 = x1 then (1 : Int32) else (0 : Int32) : Int32), .int x2] M L := by
        refine gs_iadd (pc := 31) C dX12_pagesOf_31 ?_
        refine gs_istore_n (ls' := [(2, .int (x2 + (if v4 = x1 then (1 : Int32) else (0 : Int32) : Int32))), (0, .ref 147), (1, .int x1), (3, .int x3)]) (pc := 32) C dX12_pagesOf_32 rfl (by decide) rfl ?_
        refine gs_iinc (v := x3 + (1 : Int32)) (ls' := [(3, .int (x3 + (1 : Int32))), (2, .int (x2 + (if v4 = x1 then (1 : Int32) else (0 : Int32) : Int32))), (0, .ref 147), (1, .int x1)]) (pc := 33) C 3 dX12_pagesOf_33 rfl rfl (by decide) rfl ?_
        refine gs_goto (pc := 36) C 4 dX12_pagesOf_36 rfl ?_
        exact gs_sub [2, 3, 1, 0] rfl (ih _ _ h)
      refine gs_icmp_ne (pc := 23) C 30 dX12_pagesOf_23 rfl (fun c7 => ?_) (fun c7 => ?_)
      · refine gs_iconst (w := 0) (pc := 30) C dX12_pagesOf_30 rfl ?_
        simp only [if_neg c7] at j6
        exact j6
      · refine gs_iconst (w := 1) (pc := 26) C dX12_pagesOf_26 rfl ?_
        refine gs_goto (pc := 27) C 31 dX12_pagesOf_27 rfl ?_
        simp only [if_pos c7] at j6
        exact j6
set_option maxRecDepth 100000 in
set_option maxHeartbeats 4000000 in
theorem a_X12_pagesOf (l : Launch) {M : gs_M} {L : gs_L} {x1 : Int32} {rv : Int32} (h : f_X12_pagesOf M x1 = some (rv)) : gs_Met l 1 yX12_pagesOf cX12_pagesOf 4 (some .int) [.ref 147, .int x1] M L (some (.int rv)) M L := by
  unfold f_X12_pagesOf at h
  refine gs_of RX12 (by decide) rfl (Nat.le_of_ble_eq_true rfl) (fun X C E => ?_)
  show gs_AW X 0 [(0, .ref 147), (1, .int x1)] [] M L
  refine gs_iconst (w := 0) (pc := 0) C dX12_pagesOf_0 rfl ?_
  refine gs_istore_n (ls' := [(2, .int (0 : Int32)), (0, .ref 147), (1, .int x1)]) (pc := 1) C dX12_pagesOf_1 rfl (by decide) rfl ?_
  refine gs_iconst (w := 0) (pc := 2) C dX12_pagesOf_2 rfl ?_
  refine gs_istore_n (ls' := [(3, .int (0 : Int32)), (2, .int (0 : Int32)), (0, .ref 147), (1, .int x1)]) (pc := 3) C dX12_pagesOf_3 rfl (by decide) rfl ?_
  obtain ⟨y1, y2, e3, h⟩ := gs_o2 h
  refine gs_sub [2, 3, 1, 0] rfl (t_X12_pagesOf_4 C ?_ gs_FU _ _ e3)
  refine gs_iload_n (pc := 39) C 2 dX12_pagesOf_39 rfl rfl ?_
  obtain rfl := gs_i1 h
  exact gs_iret (pc := 40) C dX12_pagesOf_40 E
set_option maxRecDepth 100000 in
set_option maxHeartbeats 4000000 in
theorem a_X12_pointsBy (l : Launch) {M : gs_M} {L : gs_L} {x1 : Int32} {x2 : Int32} {x3 : Int32} {x4 : Int32} {x5 : Int32} {rv : Int32} {Mz : gs_M} (h : f_X12_pointsBy M x1 x2 x3 x4 x5 = some (rv, Mz)) : gs_Met l 79 yX12_pointsBy cX12_pointsBy 6 (some .int) [.ref 147, .int x1, .int x2, .int x3, .int x4, .int x5] M L (some (.int rv)) Mz L := by
  unfold f_X12_pointsBy at h
  refine gs_of RX12 (by decide) rfl (Nat.le_of_ble_eq_true rfl) (fun X C E => ?_)
  show gs_AW X 0 [(0, .ref 147), (1, .int x1), (2, .int x2), (3, .int x3), (4, .int x4), (5, .int x5)] [] M L
  refine gs_iload_n (pc := 0) C 1 dX12_pointsBy_0 rfl rfl ?_
  refine gs_iconst (w := (-1)) (pc := 1) C dX12_pointsBy_1 rfl ?_
  refine gs_icmp_ne (pc := 2) C 17 dX12_pointsBy_2 rfl (fun c1 => ?_) (fun c1 => ?_)
  · replace h := gs_iff c1 h
    refine gs_aload_n (pc := 17) C 0 dX12_pointsBy_17 rfl rfl ?_
    refine gs_aload_n (pc := 18) C 0 dX12_pointsBy_18 rfl rfl ?_
    refine gs_iload_n (pc := 19) C 2 dX12_pointsBy_19 rfl rfl ?_
    refine gs_iconst (w := 0) (pc := 20) C dX12_pointsBy_20 rfl ?_
    obtain ⟨v2, e3, h⟩ := gs_o1 h
    refine gs_callVi (pc := 21) C [.int x2, .int (0 : Int32)] dX12_pointsBy_21 ml_X12_301 wy_X12_of (a_X12_of _ e3) (by decide) sh_147 (by decide) rfl rfl (Nat.le_of_ble_eq_true rfl) rfl ?_
    refine gs_iload_n (pc := 24) C 2 dX12_pointsBy_24 rfl rfl ?_
    refine gs_iload_n (pc := 25) C 3 dX12_pointsBy_25 rfl rfl ?_
    refine gs_iload (pc := 26) C 4 dX12_pointsBy_26 rfl ?_
    refine gs_iload (pc := 28) C 5 dX12_pointsBy_28 rfl ?_
    obtain ⟨M4, e5, h⟩ := gs_o1 h
    refine gs_callVv (pc := 30) C [.int v2, .int x2, .int x3, .int x4, .int x5] dX12_pointsBy_30 ml_X12_304 wy_X12_lay (a_X12_lay _ e5) (by decide) sh_147 (by decide) rfl rfl (Nat.le_of_ble_eq_true rfl) rfl ?_
    refine gs_aload_n (pc := 33) C 0 dX12_pointsBy_33 rfl rfl ?_
    refine gs_aload_n (pc := 34) C 0 dX12_pointsBy_34 rfl rfl ?_
    refine gs_getq (pc := 35) C dX12_pointsBy_35 gk_12 fl_X12_13 sh_147 rfl ?_
    refine gs_sipush (w := 240) (pc := 38) C dX12_pointsBy_38 rfl ?_
    refine gs_iload_n (pc := 41) C 1 dX12_pointsBy_41 rfl rfl ?_
    refine gs_imul (pc := 42) C dX12_pointsBy_42 ?_
    refine gs_aload_n (pc := 43) C 0 dX12_pointsBy_43 rfl rfl ?_
    refine gs_getq (pc := 44) C dX12_pointsBy_44 gk_12 fl_X12_16 sh_147 rfl ?_
    refine gs_iload_n (pc := 47) C 1 dX12_pointsBy_47 rfl rfl ?_
    obtain ⟨v6, e7, h⟩ := gs_o1 h
    refine gs_iald (pc := 48) C dX12_pointsBy_48 sh_150 e7 ?_
    refine gs_bipush (w := 118) (pc := 49) C dX12_pointsBy_49 rfl ?_
    obtain ⟨M8, e9, h⟩ := gs_o1 h
    refine gs_callVv (pc := 51) C [.ref 149, .int ((240 : Int32) * x1), .int v6, .int (118 : Int32)] dX12_pointsBy_51 ml_X12_271 wy_X12_goThrough (a_X12_goThrough _ e9) (by decide) sh_147 (by decide) rfl rfl (Nat.le_of_ble_eq_true rfl) rfl ?_
    refine gs_bipush (w := (-9)) (pc := 54) C dX12_pointsBy_54 rfl ?_
    refine gs_bipush (w := 9) (pc := 56) C dX12_pointsBy_56 rfl ?_
    refine gs_aload_n (pc := 58) C 0 dX12_pointsBy_58 rfl rfl ?_
    refine gs_geti (pc := 59) C dX12_pointsBy_59 gk_12 fl_X12_208 sh_147 rfl ?_
    refine gs_mmin (pc := 62) C dX12_pointsBy_62 ml_X12_308 (Nat.le_of_ble_eq_true rfl) ?_
    refine gs_mmax (pc := 65) C dX12_pointsBy_65 ml_X12_310 (Nat.le_of_ble_eq_true rfl) ?_
    obtain ⟨rfl, rfl⟩ := gs_i2 h
    exact gs_iret (pc := 68) C dX12_pointsBy_68 E
  · replace h := gs_ift c1 h
    refine gs_iload (pc := 5) C 5 dX12_pointsBy_5 rfl ?_
    refine gs_iconst (w := 1) (pc := 7) C dX12_pointsBy_7 rfl ?_
    have j10 : gs_AW X 16 [(0, .ref 147), (1, .int x1), (2, .int x2), (3, .int x3), (4, .int x4), (5, .int x5)] [.int (if x5 = (1 : Int32) then (-1 : Int32) else (1 : Int32) : Int32)] M L := by
      obtain ⟨rfl, rfl⟩ := gs_i2 h
      exact gs_iret (pc := 16) C dX12_pointsBy_16 E
    refine gs_icmp_ne (pc := 8) C 15 dX12_pointsBy_8 rfl (fun c11 => ?_) (fun c11 => ?_)
    · refine gs_iconst (w := 1) (pc := 15) C dX12_pointsBy_15 rfl ?_
      simp only [if_neg c11] at j10
      exact j10
    · refine gs_iconst (w := (-1)) (pc := 11) C dX12_pointsBy_11 rfl ?_
      refine gs_goto (pc := 12) C 16 dX12_pointsBy_12 rfl ?_
      simp only [if_pos c11] at j10
      exact j10
set_option maxRecDepth 100000 in
set_option maxHeartbeats 4000000 in
theorem t_X12_caseBy_5 {X : gs_X} (C : gs_C X RX12 cX12_caseBy 5 (some .int) 80) {L : gs_L} {x1 : Int32} {x2 : Int32} {o3 : Int32} {o4 : Int32} {M' : gs_M} (k : gs_AW X 64 [(0, .ref 147), (1, .int x1), (2, .int x2), (3, .int o3), (4, .int o4)] [] M' L) : ∀ (f : Nat) (x3 : Int32) (x4 : Int32) (M : gs_M), l_X12_caseBy_5 x1 x2 f x3 x4 M = some (o3, o4, M') → gs_AW X 5 [(0, .ref 147), (1, .int x1), (2, .int x2), (3, .int x3), (4, .int x4)] [] M L := by
  intro f
  induction f with
  | zero =>
    intro x3 x4 M h
    cases h
  | succ f ih =>
    intro x3 x4 M h
    rw [l_X12_caseBy_5] at h
    refine gs_iload (pc := 5) C 4 dX12_caseBy_5 rfl ?_
    refine gs_aload_n (pc := 7) C 0 dX12_caseBy_7 rfl rfl ?_
    refine gs_getq (pc := 8) C dX12_caseBy_8 gk_12 fl_X12_55 sh_147 rfl ?_
    refine gs_bipush (w := 51) (pc := 11) C dX12_caseBy_11 rfl ?_
    obtain ⟨v1, e2, h⟩ := gs_o1 h
    refine gs_iald (pc := 13) C dX12_caseBy_13 sh_158 e2 ?_
    refine gs_icmp_ge (pc := 14) C 64 dX12_caseBy_14 rfl (fun c3 => ?_) (fun c3 => ?_)
    · replace h := gs_ift c3 h
      obtain ⟨rfl, rfl, rfl⟩ := gs_i3 h
      exact k
    · replace h := gs_iff c3 h
      refine gs_aload_n (pc := 17) C 0 dX12_caseBy_17 rfl rfl ?_
      refine gs_iload (pc := 18) C 4 dX12_caseBy_18 rfl ?_
      refine gs_iconst (w := 2) (pc := 20) C dX12_caseBy_20 rfl ?_
      obtain ⟨v4, e5, h⟩ := gs_o1 h
      refine gs_callVi (pc := 21) C [.int x4, .int (2 : Int32)] dX12_caseBy_21 ml_X12_316 wy_X12_page (a_X12_page _ e5) (by decide) sh_147 (by decide) rfl rfl (Nat.le_of_ble_eq_true rfl) rfl ?_
      refine gs_iload_n (pc := 24) C 2 dX12_caseBy_24 rfl rfl ?_
      obtain ⟨y6, M7, e8, h⟩ := gs_o2 h
      have j9 : gs_AW X 58 [(0, .ref 147), (1, .int x1), (2, .int x2), (3, .int y6), (4, .int x4)] [] M7 L := by
        refine gs_iinc (v := x4 + (1 : Int32)) (ls' := [(4, .int (x4 + (1 : Int32))), (0, .ref 147), (1, .int x1), (2, .int x2), (3, .int y6)]) (pc := 58) C 4 dX12_caseBy_58 rfl rfl (by decide) rfl ?_
        refine gs_goto (pc := 61) C 5 dX12_caseBy_61 rfl ?_
        exact gs_sub [1, 2, 3, 4, 0] rfl (ih _ _ _ h)
      refine gs_icmp_ne (pc := 25) C 58 dX12_caseBy_25 rfl (fun c10 => ?_) (fun c10 => ?_)
      · replace e8 := gs_iff c10 e8
        obtain ⟨rfl, rfl⟩ := gs_i2 e8
        exact j9
      · replace e8 := gs_ift c10 e8
        refine gs_iload_n (pc := 28) C 3 dX12_caseBy_28 rfl rfl ?_
        refine gs_aload_n (pc := 29) C 0 dX12_caseBy_29 rfl rfl ?_
        refine gs_iload_n (pc := 30) C 1 dX12_caseBy_30 rfl rfl ?_
        refine gs_iload_n (pc := 31) C 2 dX12_caseBy_31 rfl rfl ?_
        refine gs_aload_n (pc := 32) C 0 dX12_caseBy_32 rfl rfl ?_
        refine gs_iload (pc := 33) C 4 dX12_caseBy_33 rfl ?_
        refine gs_iconst (w := 4) (pc := 35) C dX12_caseBy_35 rfl ?_
        obtain ⟨v11, e12, e8⟩ := gs_o1 e8
        refine gs_callVi (pc := 36) C [.int x4, .int (4 : Int32)] dX12_caseBy_36 ml_X12_316 wy_X12_page (a_X12_page _ e12) (by decide) sh_147 (by decide) rfl rfl (Nat.le_of_ble_eq_true rfl) rfl ?_
        refine gs_aload_n (pc := 39) C 0 dX12_caseBy_39 rfl rfl ?_
        refine gs_iload (pc := 40) C 4 dX12_caseBy_40 rfl ?_
        refine gs_iconst (w := 1) (pc := 42) C dX12_caseBy_42 rfl ?_
        obtain ⟨v13, e14, e8⟩ := gs_o1 e8
        refine gs_callVi (pc := 43) C [.int x4, .int (1 : Int32)] dX12_caseBy_43 ml_X12_316 wy_X12_page (a_X12_page _ e14) (by decide) sh_147 (by decide) rfl rfl (Nat.le_of_ble_eq_true rfl) rfl ?_
        refine gs_aload_n (pc := 46) C 0 dX12_caseBy_46 rfl rfl ?_
        refine gs_iload (pc := 47) C 4 dX12_caseBy_47 rfl ?_
        refine gs_iconst (w := 3) (pc := 49) C dX12_caseBy_49 rfl ?_
        obtain ⟨v15, e16, e8⟩ := gs_o1 e8
        refine gs_callVi (pc := 50) C [.int x4, .int (3 : Int32)] dX12_caseBy_50 ml_X12_316 wy_X12_page (a_X12_page _ e16) (by decide) sh_147 (by decide) rfl rfl (Nat.le_of_ble_eq_true rfl) rfl ?_
        obtain ⟨v17, M18, e19, e8⟩ := gs_o2 e8
        refine gs_callVi (pc := 53) C [.int x1, .int x2, .int v11, .int v13, .int v15] dX12_caseBy_53 ml_X12_319 wy_X12_pointsBy (a_X12_pointsBy _ e19) (by decide) sh_147 (by decide) rfl rfl (Nat.le_of_ble_eq_true rfl) rfl ?_
        refine gs_iadd (pc := 56) C dX12_caseBy_56 ?_
        refine gs_istore_n (ls' := [(3, .int (x3 + v17)), (0, .ref 147), (1, .int x1), (2, .int x2), (4, .int x4)]) (pc := 57) C dX12_caseBy_57 rfl (by decide) rfl ?_
        obtain ⟨rfl, rfl⟩ := gs_i2 e8
        exact gs_sub [1, 2, 3, 0, 4] rfl (j9)
set_option maxRecDepth 100000 in
set_option maxHeartbeats 4000000 in
theorem a_X12_caseBy (l : Launch) {M : gs_M} {L : gs_L} {x1 : Int32} {x2 : Int32} {rv : Int32} {Mz : gs_M} (h : f_X12_caseBy M x1 x2 = some (rv, Mz)) : gs_Met l 80 yX12_caseBy cX12_caseBy 5 (some .int) [.ref 147, .int x1, .int x2] M L (some (.int rv)) Mz L := by
  unfold f_X12_caseBy at h
  refine gs_of RX12 (by decide) rfl (Nat.le_of_ble_eq_true rfl) (fun X C E => ?_)
  show gs_AW X 0 [(0, .ref 147), (1, .int x1), (2, .int x2)] [] M L
  refine gs_iconst (w := 0) (pc := 0) C dX12_caseBy_0 rfl ?_
  refine gs_istore_n (ls' := [(3, .int (0 : Int32)), (0, .ref 147), (1, .int x1), (2, .int x2)]) (pc := 1) C dX12_caseBy_1 rfl (by decide) rfl ?_
  refine gs_iconst (w := 0) (pc := 2) C dX12_caseBy_2 rfl ?_
  refine gs_istore (ls' := [(4, .int (0 : Int32)), (3, .int (0 : Int32)), (0, .ref 147), (1, .int x1), (2, .int x2)]) (pc := 3) C dX12_caseBy_3 (by decide) rfl ?_
  obtain ⟨y1, y2, M3, e4, h⟩ := gs_o3 h
  refine gs_sub [2, 3, 4, 1, 0] rfl (t_X12_caseBy_5 C ?_ gs_FU _ _ _ e4)
  refine gs_iload_n (pc := 64) C 3 dX12_caseBy_64 rfl rfl ?_
  obtain ⟨rfl, rfl⟩ := gs_i2 h
  exact gs_iret (pc := 65) C dX12_caseBy_65 E
set_option maxRecDepth 100000 in
set_option maxHeartbeats 4000000 in
theorem t_X12_wrongBy_4 {X : gs_X} (C : gs_C X RX12 cX12_wrongBy 4 (some .int) 81) {L : gs_L} {x1 : Int32} {o2 : Int32} {o3 : Int32} {M' : gs_M} (k : gs_AW X 66 [(0, .ref 147), (1, .int x1), (2, .int o2), (3, .int o3)] [] M' L) : ∀ (f : Nat) (x2 : Int32) (x3 : Int32) (M : gs_M), l_X12_wrongBy_4 x1 f x2 x3 M = some (o2, o3, M') → gs_AW X 4 [(0, .ref 147), (1, .int x1), (2, .int x2), (3, .int x3)] [] M L := by
  intro f
  induction f with
  | zero =>
    intro x2 x3 M h
    cases h
  | succ f ih =>
    intro x2 x3 M h
    rw [l_X12_wrongBy_4] at h
    refine gs_iload_n (pc := 4) C 3 dX12_wrongBy_4 rfl rfl ?_
    refine gs_aload_n (pc := 5) C 0 dX12_wrongBy_5 rfl rfl ?_
    refine gs_geti (pc := 6) C dX12_wrongBy_6 gk_12 fl_X12_286 sh_147 rfl ?_
    refine gs_icmp_ge (pc := 9) C 66 dX12_wrongBy_9 rfl (fun c1 => ?_) (fun c1 => ?_)
    · replace h := gs_ift c1 h
      obtain ⟨rfl, rfl, rfl⟩ := gs_i3 h
      exact k
    · replace h := gs_iff c1 h
      refine gs_aload_n (pc := 12) C 0 dX12_wrongBy_12 rfl rfl ?_
      refine gs_iload_n (pc := 13) C 3 dX12_wrongBy_13 rfl rfl ?_
      obtain ⟨v2, e3, h⟩ := gs_o1 h
      refine gs_callVi (pc := 14) C [.int x3] dX12_wrongBy_14 ml_X12_380 wy_X12_pagesOf (a_X12_pagesOf _ e3) (by decide) sh_147 (by decide) rfl rfl (Nat.le_of_ble_eq_true rfl) rfl ?_
      obtain ⟨y4, M5, e6, h⟩ := gs_o2 h
      have j7 : gs_AW X 60 [(0, .ref 147), (1, .int x1), (2, .int y4), (3, .int x3)] [] M5 L := by
        refine gs_iinc (v := x3 + (1 : Int32)) (ls' := [(3, .int (x3 + (1 : Int32))), (0, .ref 147), (1, .int x1), (2, .int y4)]) (pc := 60) C 3 dX12_wrongBy_60 rfl rfl (by decide) rfl ?_
        refine gs_goto (pc := 63) C 4 dX12_wrongBy_63 rfl ?_
        exact gs_sub [1, 2, 3, 0] rfl (ih _ _ _ h)
      refine gs_if_le (pc := 17) C 60 dX12_wrongBy_17 rfl (fun c8 => ?_) (fun c8 => ?_)
      · replace e6 := gs_ift c8 e6
        obtain ⟨rfl, rfl⟩ := gs_i2 e6
        exact j7
      · replace e6 := gs_iff c8 e6
        refine gs_aload_n (pc := 20) C 0 dX12_wrongBy_20 rfl rfl ?_
        refine gs_iload_n (pc := 21) C 3 dX12_wrongBy_21 rfl rfl ?_
        refine gs_iconst (w := 0) (pc := 22) C dX12_wrongBy_22 rfl ?_
        obtain ⟨v9, e10, e6⟩ := gs_o1 e6
        refine gs_callVi (pc := 23) C [.int x3, .int (0 : Int32)] dX12_wrongBy_23 ml_X12_301 wy_X12_of (a_X12_of _ e10) (by decide) sh_147 (by decide) rfl rfl (Nat.le_of_ble_eq_true rfl) rfl ?_
        have j19 : gs_AW X 34 [(0, .ref 147), (1, .int x1), (2, .int x2), (3, .int x3)] [.int (if v9 ≤ (0 : Int32) then (0 : Int32) else (1 : Int32) : Int32)] M L := by
          refine gs_aload_n (pc := 34) C 0 dX12_wrongBy_34 rfl rfl ?_
          refine gs_iload_n (pc := 35) C 1 dX12_wrongBy_35 rfl rfl ?_
          refine gs_iload_n (pc := 36) C 3 dX12_wrongBy_36 rfl rfl ?_
          obtain ⟨v11, M12, e13, e6⟩ := gs_o2 e6
          refine gs_callVi (pc := 37) C [.int x1, .int x3] dX12_wrongBy_37 ml_X12_323 wy_X12_caseBy (a_X12_caseBy _ e13) (by decide) sh_147 (by decide) rfl rfl (Nat.le_of_ble_eq_true rfl) rfl ?_
          refine gs_aload_n (pc := 40) C 0 dX12_wrongBy_40 rfl rfl ?_
          refine gs_getq (pc := 41) C dX12_wrongBy_41 gk_12 fl_X12_37 sh_147 rfl ?_
          refine gs_iconst (w := 1) (pc := 44) C dX12_wrongBy_44 rfl ?_
          obtain ⟨v14, e15, e6⟩ := gs_o1 e6
          refine gs_iald (pc := 45) C dX12_wrongBy_45 sh_152 e15 ?_
          have j17 : gs_AW X 54 [(0, .ref 147), (1, .int x1), (2, .int x2), (3, .int x3)] [.int (if v11 < v14 then (0 : Int32) else (1 : Int32) : Int32), .int (if v9 ≤ (0 : Int32) then (0 : Int32) else (1 : Int32) : Int32)] M12 L := by
            refine gs_icmp_eq (pc := 54) C 60 dX12_wrongBy_54 rfl (fun c16 => ?_) (fun c16 => ?_)
            · replace e6 := gs_ift c16 e6
              obtain ⟨rfl, rfl⟩ := gs_i2 e6
              exact j7
            · replace e6 := gs_iff c16 e6
              refine gs_iinc (v := x2 + (1 : Int32)) (ls' := [(2, .int (x2 + (1 : Int32))), (0, .ref 147), (1, .int x1), (3, .int x3)]) (pc := 57) C 2 dX12_wrongBy_57 rfl rfl (by decide) rfl ?_
              obtain ⟨rfl, rfl⟩ := gs_i2 e6
              exact gs_sub [1, 2, 0, 3] rfl (j7)
          refine gs_icmp_lt (pc := 46) C 53 dX12_wrongBy_46 rfl (fun c18 => ?_) (fun c18 => ?_)
          · refine gs_iconst (w := 0) (pc := 53) C dX12_wrongBy_53 rfl ?_
            simp only [if_pos c18] at j17
            exact j17
          · refine gs_iconst (w := 1) (pc := 49) C dX12_wrongBy_49 rfl ?_
            refine gs_goto (pc := 50) C 54 dX12_wrongBy_50 rfl ?_
            simp only [if_neg c18] at j17
            exact j17
        refine gs_if_le (pc := 26) C 33 dX12_wrongBy_26 rfl (fun c20 => ?_) (fun c20 => ?_)
        · refine gs_iconst (w := 0) (pc := 33) C dX12_wrongBy_33 rfl ?_
          simp only [if_pos c20] at j19
          exact j19
        · refine gs_iconst (w := 1) (pc := 29) C dX12_wrongBy_29 rfl ?_
          refine gs_goto (pc := 30) C 34 dX12_wrongBy_30 rfl ?_
          simp only [if_neg c20] at j19
          exact j19
set_option maxRecDepth 100000 in
set_option maxHeartbeats 4000000 in
theorem a_X12_wrongBy (l : Launch) {M : gs_M} {L : gs_L} {x1 : Int32} {rv : Int32} {Mz : gs_M} (h : f_X12_wrongBy M x1 = some (rv, Mz)) : gs_Met l 81 yX12_wrongBy cX12_wrongBy 4 (some .int) [.ref 147, .int x1] M L (some (.int rv)) Mz L := by
  unfold f_X12_wrongBy at h
  refine gs_of RX12 (by decide) rfl (Nat.le_of_ble_eq_true rfl) (fun X C E => ?_)
  show gs_AW X 0 [(0, .ref 147), (1, .int x1)] [] M L
  refine gs_iconst (w := 0) (pc := 0) C dX12_wrongBy_0 rfl ?_
  refine gs_istore_n (ls' := [(2, .int (0 : Int32)), (0, .ref 147), (1, .int x1)]) (pc := 1) C dX12_wrongBy_1 rfl (by decide) rfl ?_
  refine gs_iconst (w := 0) (pc := 2) C dX12_wrongBy_2 rfl ?_
  refine gs_istore_n (ls' := [(3, .int (0 : Int32)), (2, .int (0 : Int32)), (0, .ref 147), (1, .int x1)]) (pc := 3) C dX12_wrongBy_3 rfl (by decide) rfl ?_
  obtain ⟨y1, y2, M3, e4, h⟩ := gs_o3 h
  refine gs_sub [2, 3, 1, 0] rfl (t_X12_wrongBy_4 C ?_ gs_FU _ _ _ e4)
  refine gs_iload_n (pc := 66) C 2 dX12_wrongBy_66 rfl rfl ?_
  obtain ⟨rfl, rfl⟩ := gs_i2 h
  exact gs_iret (pc := 67) C dX12_wrongBy_67 E
set_option maxRecDepth 100000 in
set_option maxHeartbeats 4000000 in
theorem t_X12_better_25 {X : gs_X} (C : gs_C X RX12 cX12_better 3 (some .int) 82) {L : gs_L} {o1 : Int32} {o2 : Int32} {M' : gs_M} (k : gs_AW X 58 [(0, .ref 147), (1, .int o1), (2, .int o2)] [] M' L) : ∀ (f : Nat) (x1 : Int32) (x2 : Int32) (M : gs_M), l_X12_better_25  f x1 x2 M = some (o1, o2, M') → gs_AW X 25 [(0, .ref 147), (1, .int x1), (2, .int x2)] [] M L := by
  intro f
  induction f with
  | zero =>
    intro x1 x2 M h
    cases h
  | succ f ih =>
    intro x1 x2 M h
    rw [l_X12_better_25] at h
    refine gs_iload_n (pc := 25) C 2 dX12_better_25 rfl rfl ?_
    refine gs_aload_n (pc := 26) C 0 dX12_better_26 rfl rfl ?_
    refine gs_geti (pc := 27) C dX12_better_27 gk_12 fl_X12_278 sh_147 rfl ?_
    refine gs_icmp_ge (pc := 30) C 58 dX12_better_30 rfl (fun c1 => ?_) (fun c1 => ?_)
    · replace h := gs_ift c1 h
      obtain ⟨rfl, rfl, rfl⟩ := gs_i3 h
      exact k
    · replace h := gs_iff c1 h
      refine gs_aload_n (pc := 33) C 0 dX12_better_33 rfl rfl ?_
      refine gs_iload_n (pc := 34) C 2 dX12_better_34 rfl rfl ?_
      obtain ⟨v2, M3, e4, h⟩ := gs_o2 h
      refine gs_callVi (pc := 35) C [.int x2] dX12_better_35 ml_X12_441 wy_X12_wrongBy (a_X12_wrongBy _ e4) (by decide) sh_147 (by decide) rfl rfl (Nat.le_of_ble_eq_true rfl) rfl ?_
      refine gs_aload_n (pc := 38) C 0 dX12_better_38 rfl rfl ?_
      refine gs_iload_n (pc := 39) C 1 dX12_better_39 rfl rfl ?_
      obtain ⟨v5, M6, e7, h⟩ := gs_o2 h
      refine gs_callVi (pc := 40) C [.int x1] dX12_better_40 ml_X12_441 wy_X12_wrongBy (a_X12_wrongBy _ e7) (by decide) sh_147 (by decide) rfl rfl (Nat.le_of_ble_eq_true rfl) rfl ?_
      have j8 : gs_AW X 51 [(0, .ref 147), (1, .int x1), (2, .int x2)] [.int (if v5 ≤ v2 then x1 else x2 : Int32)] M6 L := by
        refine gs_istore_n (ls' := [(1, .int (if v5 ≤ v2 then x1 else x2 : Int32)), (0, .ref 147), (2, .int x2)]) (pc := 51) C dX12_better_51 rfl (by decide) rfl ?_
        refine gs_iinc (v := x2 + (1 : Int32)) (ls' := [(2, .int (x2 + (1 : Int32))), (1, .int (if v5 ≤ v2 then x1 else x2 : Int32)), (0, .ref 147)]) (pc := 52) C 2 dX12_better_52 rfl rfl (by decide) rfl ?_
        refine gs_goto (pc := 55) C 25 dX12_better_55 rfl ?_
        exact gs_sub [2, 1, 0] rfl (ih _ _ _ h)
      refine gs_icmp_ge (pc := 43) C 50 dX12_better_43 rfl (fun c9 => ?_) (fun c9 => ?_)
      · refine gs_iload_n (pc := 50) C 1 dX12_better_50 rfl rfl ?_
        simp only [if_pos c9] at j8
        exact j8
      · refine gs_iload_n (pc := 46) C 2 dX12_better_46 rfl rfl ?_
        refine gs_goto (pc := 47) C 51 dX12_better_47 rfl ?_
        simp only [if_neg c9] at j8
        exact j8
set_option maxRecDepth 100000 in
set_option maxHeartbeats 4000000 in
theorem a_X12_better (l : Launch) {M : gs_M} {L : gs_L} {rv : Int32} {Mz : gs_M} (h : f_X12_better M = some (rv, Mz)) : gs_Met l 82 yX12_better cX12_better 3 (some .int) [.ref 147] M L (some (.int rv)) Mz L := by
  unfold f_X12_better at h
  refine gs_of RX12 (by decide) rfl (Nat.le_of_ble_eq_true rfl) (fun X C E => ?_)
  show gs_AW X 0 [(0, .ref 147)] [] M L
  refine gs_aload_n (pc := 0) C 0 dX12_better_0 rfl rfl ?_
  refine gs_iconst (w := 0) (pc := 1) C dX12_better_1 rfl ?_
  obtain ⟨M2, e1, h⟩ := gs_o1 h
  refine gs_puti' (pc := 2) C dX12_better_2 gk_12 fp_X12_100 sh_147 rfl e1 ?_
  refine gs_aload_n (pc := 5) C 0 dX12_better_5 rfl rfl ?_
  refine gs_geti (pc := 6) C dX12_better_6 gk_12 fl_X12_286 sh_147 rfl ?_
  refine gs_if_eq (pc := 9) C 19 dX12_better_9 rfl (fun c3 => ?_) (fun c3 => ?_)
  · replace h := gs_ift c3 h
    refine gs_iconst (w := (-1)) (pc := 19) C dX12_better_19 rfl ?_
    obtain ⟨rfl, rfl⟩ := gs_i2 h
    exact gs_iret (pc := 20) C dX12_better_20 E
  · replace h := gs_iff c3 h
    refine gs_aload_n (pc := 12) C 0 dX12_better_12 rfl rfl ?_
    refine gs_geti (pc := 13) C dX12_better_13 gk_12 fl_X12_278 sh_147 rfl ?_
    refine gs_if_ne (pc := 16) C 21 dX12_better_16 rfl (fun c4 => ?_) (fun c4 => ?_)
    · replace h := gs_iff c4 h
      refine gs_iconst (w := 0) (pc := 21) C dX12_better_21 rfl ?_
      refine gs_istore_n (ls' := [(1, .int (0 : Int32)), (0, .ref 147)]) (pc := 22) C dX12_better_22 rfl (by decide) rfl ?_
      refine gs_iconst (w := 1) (pc := 23) C dX12_better_23 rfl ?_
      refine gs_istore_n (ls' := [(2, .int (1 : Int32)), (1, .int (0 : Int32)), (0, .ref 147)]) (pc := 24) C dX12_better_24 rfl (by decide) rfl ?_
      obtain ⟨y5, y6, M7, e8, h⟩ := gs_o3 h
      refine gs_sub [2, 1, 0] rfl (t_X12_better_25 C ?_ gs_FU _ _ _ e8)
      refine gs_iload_n (pc := 58) C 1 dX12_better_58 rfl rfl ?_
      obtain ⟨rfl, rfl⟩ := gs_i2 h
      exact gs_iret (pc := 59) C dX12_better_59 E
    · replace h := gs_ift c4 h
      refine gs_iconst (w := (-1)) (pc := 19) C dX12_better_19 rfl ?_
      obtain ⟨rfl, rfl⟩ := gs_i2 h
      exact gs_iret (pc := 20) C dX12_better_20 E
set_option maxRecDepth 100000 in
set_option maxHeartbeats 4000000 in
theorem a_X12_book (l : Launch) {M : gs_M} {L : gs_L} {x1 : Int32} {x2 : Int32} {rv : Int32} {Mz : gs_M} (h : f_X12_book M x1 x2 = some (rv, Mz)) : gs_Met l 1 yX12_book cX12_book 3 (some .int) [.ref 147, .int x1, .int x2] M L (some (.int rv)) Mz L := by
  unfold f_X12_book at h
  refine gs_of RX12 (by decide) rfl (Nat.le_of_ble_eq_true rfl) (fun X C E => ?_)
  show gs_AW X 0 [(0, .ref 147), (1, .int x1), (2, .int x2)] [] M L
  refine gs_aload_n (pc := 0) C 0 dX12_book_0 rfl rfl ?_
  refine gs_iconst (w := 0) (pc := 1) C dX12_book_1 rfl ?_
  obtain ⟨M2, e1, h⟩ := gs_o1 h
  refine gs_puti' (pc := 2) C dX12_book_2 gk_12 fp_X12_100 sh_147 rfl e1 ?_
  refine gs_iload_n (pc := 5) C 1 dX12_book_5 rfl rfl ?_
  refine gs_i2l (pc := 6) C dX12_book_6 ?_
  refine gs_lconst (w := 0) (pc := 7) C dX12_book_7 rfl ?_
  refine gs_aload_n (pc := 8) C 0 dX12_book_8 rfl rfl ?_
  refine gs_getq (pc := 9) C dX12_book_9 gk_12 fl_X12_55 sh_147 rfl ?_
  refine gs_bipush (w := 51) (pc := 12) C dX12_book_12 rfl ?_
  obtain ⟨v3, e4, h⟩ := gs_o1 h
  refine gs_iald (pc := 14) C dX12_book_14 sh_158 e4 ?_
  refine gs_iconst (w := 1) (pc := 15) C dX12_book_15 rfl ?_
  refine gs_isub (pc := 16) C dX12_book_16 ?_
  refine gs_i2l (pc := 17) C dX12_book_17 ?_
  obtain ⟨v5, e6, h⟩ := gs_o1 h
  refine gs_callSi (pc := 18) C [.long (Int32.toInt64 x1), .long (0 : Int64), .long (Int32.toInt64 (v3 - (1 : Int32)))] dX12_book_18 ml_X12_221 wy_X12_isIn (a_X12_isIn _ e6) (by decide) rfl (Nat.le_of_ble_eq_true rfl) rfl ?_
  obtain ⟨y7, e8, h⟩ := gs_o1 h
  have j9 : gs_AW X 56 [(0, .ref 147), (1, .int x1), (2, .int x2)] [.int y7] M2 L := by
    obtain ⟨rfl, rfl⟩ := gs_i2 h
    exact gs_iret (pc := 56) C dX12_book_56 E
  refine gs_if_eq (pc := 21) C 55 dX12_book_21 rfl (fun c10 => ?_) (fun c10 => ?_)
  · replace e8 := gs_ift c10 e8
    refine gs_iconst (w := (-1)) (pc := 55) C dX12_book_55 rfl ?_
    obtain rfl := gs_i1 e8
    exact j9
  · replace e8 := gs_iff c10 e8
    refine gs_iload_n (pc := 24) C 2 dX12_book_24 rfl rfl ?_
    refine gs_i2l (pc := 25) C dX12_book_25 ?_
    refine gs_lconst (w := 0) (pc := 26) C dX12_book_26 rfl ?_
    refine gs_ldc2 (pc := 27) C dX12_book_27 wj_X12_391 ?_
    obtain ⟨v11, e12, e8⟩ := gs_o1 e8
    refine gs_callSi (pc := 30) C [.long (Int32.toInt64 x2), .long (0 : Int64), .long (4 : Int64)] dX12_book_30 ml_X12_221 wy_X12_isIn (a_X12_isIn _ e12) (by decide) rfl (Nat.le_of_ble_eq_true rfl) rfl ?_
    refine gs_if_eq (pc := 33) C 55 dX12_book_33 rfl (fun c13 => ?_) (fun c13 => ?_)
    · replace e8 := gs_ift c13 e8
      refine gs_iconst (w := (-1)) (pc := 55) C dX12_book_55 rfl ?_
      obtain rfl := gs_i1 e8
      exact j9
    · replace e8 := gs_iff c13 e8
      refine gs_aload_n (pc := 36) C 0 dX12_book_36 rfl rfl ?_
      refine gs_aload_n (pc := 37) C 0 dX12_book_37 rfl rfl ?_
      refine gs_getq (pc := 38) C dX12_book_38 gk_12 fl_X12_55 sh_147 rfl ?_
      refine gs_bipush (w := 51) (pc := 41) C dX12_book_41 rfl ?_
      obtain ⟨v14, e15, e8⟩ := gs_o1 e8
      refine gs_iald (pc := 43) C dX12_book_43 sh_158 e15 ?_
      refine gs_iconst (w := 1) (pc := 44) C dX12_book_44 rfl ?_
      refine gs_isub (pc := 45) C dX12_book_45 ?_
      refine gs_iload_n (pc := 46) C 1 dX12_book_46 rfl rfl ?_
      refine gs_isub (pc := 47) C dX12_book_47 ?_
      refine gs_iload_n (pc := 48) C 2 dX12_book_48 rfl rfl ?_
      obtain ⟨v16, e17, e8⟩ := gs_o1 e8
      refine gs_callVi (pc := 49) C [.int ((v14 - (1 : Int32)) - x1), .int x2] dX12_book_49 ml_X12_316 wy_X12_page (a_X12_page _ e17) (by decide) sh_147 (by decide) rfl rfl (Nat.le_of_ble_eq_true rfl) rfl ?_
      refine gs_goto (pc := 52) C 56 dX12_book_52 rfl ?_
      obtain rfl := gs_i1 e8
      exact j9
set_option maxRecDepth 100000 in
set_option maxHeartbeats 4000000 in
theorem a_X12_caseOf (l : Launch) {M : gs_M} {L : gs_L} {x1 : Int32} {rv : Int32} {Mz : gs_M} (h : f_X12_caseOf M x1 = some (rv, Mz)) : gs_Met l 81 yX12_caseOf cX12_caseOf 2 (some .int) [.ref 147, .int x1] M L (some (.int rv)) Mz L := by
  unfold f_X12_caseOf at h
  refine gs_of RX12 (by decide) rfl (Nat.le_of_ble_eq_true rfl) (fun X C E => ?_)
  show gs_AW X 0 [(0, .ref 147), (1, .int x1)] [] M L
  refine gs_aload_n (pc := 0) C 0 dX12_caseOf_0 rfl rfl ?_
  refine gs_aload_n (pc := 1) C 0 dX12_caseOf_1 rfl rfl ?_
  refine gs_geti (pc := 2) C dX12_caseOf_2 gk_12 fl_X12_58 sh_147 rfl ?_
  refine gs_iload_n (pc := 5) C 1 dX12_caseOf_5 rfl rfl ?_
  obtain ⟨v1, M2, e3, h⟩ := gs_o2 h
  refine gs_callVi (pc := 6) C [.int (M 147 29), .int x1] dX12_caseOf_6 ml_X12_323 wy_X12_caseBy (a_X12_caseBy _ e3) (by decide) sh_147 (by decide) rfl rfl (Nat.le_of_ble_eq_true rfl) rfl ?_
  obtain ⟨rfl, rfl⟩ := gs_i2 h
  exact gs_iret (pc := 9) C dX12_caseOf_9 E
set_option maxRecDepth 100000 in
set_option maxHeartbeats 4000000 in
theorem t_X12_booked_63 {X : gs_X} (C : gs_C X RX12 cX12_booked 6 (some .int) 82) {M : gs_M} {L : gs_L} {x1 : Int32} {x2 : Int32} {x3 : Int32} {x4 : Int32} {rv : Int32} {Mz : gs_M} (E : gs_E X (some (.int rv)) Mz L) : ∀ (f : Nat) (x5 : Int32), l_X12_booked_63 M x1 x2 x3 x4 f x5 = some (rv, Mz) → gs_AW X 63 [(0, .ref 147), (1, .int x1), (2, .int x2), (3, .int x3), (4, .int x4), (5, .int x5)] [] M L := by
  intro f
  induction f with
  | zero =>
    intro x5 h
    cases h
  | succ f ih =>
    intro x5 h
    rw [l_X12_booked_63] at h
    refine gs_iload (pc := 63) C 5 dX12_booked_63 rfl ?_
    refine gs_bipush (w := 100) (pc := 65) C dX12_booked_65 rfl ?_
    refine gs_icmp_ge (pc := 67) C 95 dX12_booked_67 rfl (fun c1 => ?_) (fun c1 => ?_)
    · replace h := gs_ift c1 h
      refine gs_iconst (w := (-1)) (pc := 95) C dX12_booked_95 rfl ?_
      obtain ⟨rfl, rfl⟩ := gs_i2 h
      exact gs_iret (pc := 96) C dX12_booked_96 E
    · replace h := gs_iff c1 h
      refine gs_iload_n (pc := 70) C 3 dX12_booked_70 rfl rfl ?_
      refine gs_iload (pc := 71) C 5 dX12_booked_71 rfl ?_
      refine gs_iload (pc := 73) C 4 dX12_booked_73 rfl ?_
      refine gs_imul (pc := 75) C dX12_booked_75 ?_
      refine gs_iadd (pc := 76) C dX12_booked_76 ?_
      refine gs_aload_n (pc := 77) C 0 dX12_booked_77 rfl rfl ?_
      refine gs_getq (pc := 78) C dX12_booked_78 gk_12 fl_X12_37 sh_147 rfl ?_
      refine gs_iconst (w := 1) (pc := 81) C dX12_booked_81 rfl ?_
      obtain ⟨v2, e3, h⟩ := gs_o1 h
      refine gs_iald (pc := 82) C dX12_booked_82 sh_152 e3 ?_
      refine gs_icmp_lt (pc := 83) C 89 dX12_booked_83 rfl (fun c4 => ?_) (fun c4 => ?_)
      · replace h := gs_ift c4 h
        refine gs_iinc (v := x5 + (1 : Int32)) (ls' := [(5, .int (x5 + (1 : Int32))), (0, .ref 147), (1, .int x1), (2, .int x2), (3, .int x3), (4, .int x4)]) (pc := 89) C 5 dX12_booked_89 rfl rfl (by decide) rfl ?_
        refine gs_goto (pc := 92) C 63 dX12_booked_92 rfl ?_
        exact gs_sub [1, 2, 3, 4, 5, 0] rfl (ih _ h)
      · replace h := gs_iff c4 h
        refine gs_iload (pc := 86) C 5 dX12_booked_86 rfl ?_
        obtain ⟨rfl, rfl⟩ := gs_i2 h
        exact gs_iret (pc := 88) C dX12_booked_88 E
set_option maxRecDepth 100000 in
set_option maxHeartbeats 4000000 in
theorem a_X12_booked (l : Launch) {M : gs_M} {L : gs_L} {x1 : Int32} {x2 : Int32} {rv : Int32} {Mz : gs_M} (h : f_X12_booked M x1 x2 = some (rv, Mz)) : gs_Met l 82 yX12_booked cX12_booked 6 (some .int) [.ref 147, .int x1, .int x2] M L (some (.int rv)) Mz L := by
  unfold f_X12_booked at h
  refine gs_of RX12 (by decide) rfl (Nat.le_of_ble_eq_true rfl) (fun X C E => ?_)
  show gs_AW X 0 [(0, .ref 147), (1, .int x1), (2, .int x2)] [] M L
  refine gs_aload_n (pc := 0) C 0 dX12_booked_0 rfl rfl ?_
  refine gs_iconst (w := 0) (pc := 1) C dX12_booked_1 rfl ?_
  obtain ⟨M2, e1, h⟩ := gs_o1 h
  refine gs_puti' (pc := 2) C dX12_booked_2 gk_12 fp_X12_100 sh_147 rfl e1 ?_
  refine gs_aload_n (pc := 5) C 0 dX12_booked_5 rfl rfl ?_
  refine gs_iload_n (pc := 6) C 1 dX12_booked_6 rfl rfl ?_
  obtain ⟨v3, e4, h⟩ := gs_o1 h
  refine gs_callVi (pc := 7) C [.int x1] dX12_booked_7 ml_X12_347 wy_X12_isPerson (a_X12_isPerson _ e4) (by decide) sh_147 (by decide) rfl rfl (Nat.le_of_ble_eq_true rfl) rfl ?_
  refine gs_if_eq (pc := 10) C 23 dX12_booked_10 rfl (fun c5 => ?_) (fun c5 => ?_)
  · replace h := gs_ift c5 h
    refine gs_iconst (w := (-1)) (pc := 23) C dX12_booked_23 rfl ?_
    obtain ⟨rfl, rfl⟩ := gs_i2 h
    exact gs_iret (pc := 24) C dX12_booked_24 E
  · replace h := gs_iff c5 h
    refine gs_iload_n (pc := 13) C 2 dX12_booked_13 rfl rfl ?_
    refine gs_i2l (pc := 14) C dX12_booked_14 ?_
    refine gs_lconst (w := 0) (pc := 15) C dX12_booked_15 rfl ?_
    refine gs_lconst (w := 1) (pc := 16) C dX12_booked_16 rfl ?_
    obtain ⟨v6, e7, h⟩ := gs_o1 h
    refine gs_callSi (pc := 17) C [.long (Int32.toInt64 x2), .long (0 : Int64), .long (1 : Int64)] dX12_booked_17 ml_X12_221 wy_X12_isIn (a_X12_isIn _ e7) (by decide) rfl (Nat.le_of_ble_eq_true rfl) rfl ?_
    refine gs_if_ne (pc := 20) C 25 dX12_booked_20 rfl (fun c8 => ?_) (fun c8 => ?_)
    · replace h := gs_iff c8 h
      refine gs_iload_n (pc := 25) C 2 dX12_booked_25 rfl rfl ?_
      refine gs_if_ne (pc := 26) C 35 dX12_booked_26 rfl (fun c9 => ?_) (fun c9 => ?_)
      · replace h := gs_iff c9 h
        refine gs_aload_n (pc := 35) C 0 dX12_booked_35 rfl rfl ?_
        refine gs_iload_n (pc := 36) C 1 dX12_booked_36 rfl rfl ?_
        obtain ⟨v10, M11, e12, h⟩ := gs_o2 h
        refine gs_callVi (pc := 37) C [.int x1] dX12_booked_37 ml_X12_383 wy_X12_caseOf (a_X12_caseOf _ e12) (by decide) sh_147 (by decide) rfl rfl (Nat.le_of_ble_eq_true rfl) rfl ?_
        refine gs_istore_n (ls' := [(3, .int v10), (0, .ref 147), (1, .int x1), (2, .int x2)]) (pc := 40) C dX12_booked_40 rfl (by decide) rfl ?_
        refine gs_aload_n (pc := 41) C 1 dX12_booked_41 rfl rfl ?_
        refine gs_aload_n (pc := 42) C 1 dX12_booked_42 rfl rfl ?_
        refine gs_geti (pc := 43) C dX12_booked_43 gk_12 fl_X12_58 sh_147 rfl ?_
        refine gs_iload_n (pc := 46) C 2 dX12_booked_46 rfl rfl ?_
        refine gs_aload_n (pc := 47) C 1 dX12_booked_47 rfl rfl ?_
        refine gs_iload_n (pc := 48) C 2 dX12_booked_48 rfl rfl ?_
        refine gs_iconst (w := 2) (pc := 49) C dX12_booked_49 rfl ?_
        obtain ⟨v13, e14, h⟩ := gs_o1 h
        refine gs_callVi (pc := 50) C [.int x1, .int (2 : Int32)] dX12_booked_50 ml_X12_301 wy_X12_of (a_X12_of _ e14) (by decide) sh_147 (by decide) rfl rfl (Nat.le_of_ble_eq_true rfl) rfl ?_
        refine gs_iconst (w := 0) (pc := 53) C dX12_booked_53 rfl ?_
        refine gs_iconst (w := 0) (pc := 54) C dX12_booked_54 rfl ?_
        obtain ⟨v15, M16, e17, h⟩ := gs_o2 h
        refine gs_callVi (pc := 55) C [.int (M11 147 29), .int x1, .int v13, .int (0 : Int32), .int (0 : Int32)] dX12_booked_55 ml_X12_319 wy_X12_pointsBy (a_X12_pointsBy _ e17) (by decide) sh_147 (by decide) rfl rfl (Nat.le_of_ble_eq_true rfl) rfl ?_
        refine gs_istore (ls' := [(4, .int v15), (3, .int v10), (0, .ref 147), (1, .int x1), (2, .int x2)]) (pc := 58) C dX12_booked_58 (by decide) rfl ?_
        refine gs_iconst (w := 0) (pc := 60) C dX12_booked_60 rfl ?_
        refine gs_istore (ls' := [(5, .int (0 : Int32)), (4, .int v15), (3, .int v10), (0, .ref 147), (1, .int x1), (2, .int x2)]) (pc := 61) C dX12_booked_61 (by decide) rfl ?_
        exact gs_sub [3, 4, 5, 2, 1, 0] rfl (t_X12_booked_63 C E gs_FU _ h)
      · replace h := gs_ift c9 h
        refine gs_aload_n (pc := 29) C 0 dX12_booked_29 rfl rfl ?_
        refine gs_iload_n (pc := 30) C 1 dX12_booked_30 rfl rfl ?_
        obtain ⟨v18, e19, h⟩ := gs_o1 h
        refine gs_callVi (pc := 31) C [.int x1] dX12_booked_31 ml_X12_380 wy_X12_pagesOf (a_X12_pagesOf _ e19) (by decide) sh_147 (by decide) rfl rfl (Nat.le_of_ble_eq_true rfl) rfl ?_
        obtain ⟨rfl, rfl⟩ := gs_i2 h
        exact gs_iret (pc := 34) C dX12_booked_34 E
    · replace h := gs_ift c8 h
      refine gs_iconst (w := (-1)) (pc := 23) C dX12_booked_23 rfl ?_
      obtain ⟨rfl, rfl⟩ := gs_i2 h
      exact gs_iret (pc := 24) C dX12_booked_24 E
set_option maxRecDepth 100000 in
set_option maxHeartbeats 4000000 in
theorem a_X12_isCandle (l : Launch) {M : gs_M} {L : gs_L} {x1 : Int32} {x2 : Int32} {rv : Int32} (h : f_X12_isCandle M x1 x2 = some (rv)) : gs_Met l 1 yX12_isCandle cX12_isCandle 3 (some .boolean) [.ref 147, .int x1, .int x2] M L (some (.int rv)) M L := by
  unfold f_X12_isCandle at h
  refine gs_of RX12 (by decide) rfl (Nat.le_of_ble_eq_true rfl) (fun X C E => ?_)
  show gs_AW X 0 [(0, .ref 147), (1, .int x1), (2, .int x2)] [] M L
  refine gs_aload_n (pc := 0) C 0 dX12_isCandle_0 rfl rfl ?_
  refine gs_iload_n (pc := 1) C 1 dX12_isCandle_1 rfl rfl ?_
  obtain ⟨v1, e2, h⟩ := gs_o1 h
  refine gs_callVi (pc := 2) C [.int x1] dX12_isCandle_2 ml_X12_347 wy_X12_isPerson (a_X12_isPerson _ e2) (by decide) sh_147 (by decide) rfl rfl (Nat.le_of_ble_eq_true rfl) rfl ?_
  obtain ⟨y3, e4, h⟩ := gs_o1 h
  have j5 : gs_AW X 25 [(0, .ref 147), (1, .int x1), (2, .int x2)] [.int y3] M L := by
    obtain ⟨z10, e11, h⟩ := gs_o1 h
    obtain rfl := gs_i1 h
    exact gs_zret' (pc := 25) C dX12_isCandle_25 e11 E
  refine gs_if_eq (pc := 5) C 24 dX12_isCandle_5 rfl (fun c6 => ?_) (fun c6 => ?_)
  · replace e4 := gs_ift c6 e4
    refine gs_iconst (w := 0) (pc := 24) C dX12_isCandle_24 rfl ?_
    obtain rfl := gs_i1 e4
    exact j5
  · replace e4 := gs_iff c6 e4
    refine gs_iload_n (pc := 8) C 2 dX12_isCandle_8 rfl rfl ?_
    refine gs_i2l (pc := 9) C dX12_isCandle_9 ?_
    refine gs_lconst (w := 0) (pc := 10) C dX12_isCandle_10 rfl ?_
    refine gs_ldc2 (pc := 11) C dX12_isCandle_11 wj_X12_361 ?_
    obtain ⟨v7, e8, e4⟩ := gs_o1 e4
    refine gs_callSi (pc := 14) C [.long (Int32.toInt64 x2), .long (0 : Int64), .long (9 : Int64)] dX12_isCandle_14 ml_X12_221 wy_X12_isIn (a_X12_isIn _ e8) (by decide) rfl (Nat.le_of_ble_eq_true rfl) rfl ?_
    refine gs_if_eq (pc := 17) C 24 dX12_isCandle_17 rfl (fun c9 => ?_) (fun c9 => ?_)
    · replace e4 := gs_ift c9 e4
      refine gs_iconst (w := 0) (pc := 24) C dX12_isCandle_24 rfl ?_
      obtain rfl := gs_i1 e4
      exact j5
    · replace e4 := gs_iff c9 e4
      refine gs_iconst (w := 1) (pc := 20) C dX12_isCandle_20 rfl ?_
      refine gs_goto (pc := 21) C 25 dX12_isCandle_21 rfl ?_
      obtain rfl := gs_i1 e4
      exact j5
set_option maxRecDepth 100000 in
set_option maxHeartbeats 4000000 in
theorem a_X12_has (l : Launch) {M : gs_M} {L : gs_L} {x0 : Int32} {x1 : Int32} {rv : Int32} (h : f_X12_has x0 x1 = some (rv)) : gs_Met l 0 yX12_has cX12_has 2 (some .boolean) [.int x0, .int x1] M L (some (.int rv)) M L := by
  unfold f_X12_has at h
  refine gs_of RX12 (by decide) rfl (Nat.le_of_ble_eq_true rfl) (fun X C E => ?_)
  show gs_AW X 0 [(0, .int x0), (1, .int x1)] [] M L
  refine gs_iload_n (pc := 0) C 0 dX12_has_0 rfl rfl ?_
  refine gs_iload_n (pc := 1) C 1 dX12_has_1 rfl rfl ?_
  refine gs_ishr (pc := 2) C dX12_has_2 ?_
  refine gs_iconst (w := 1) (pc := 3) C dX12_has_3 rfl ?_
  refine gs_iand (pc := 4) C dX12_has_4 ?_
  refine gs_iconst (w := 1) (pc := 5) C dX12_has_5 rfl ?_
  have j3 : gs_AW X 14 [(0, .int x0), (1, .int x1)] [.int (if ((x0 >>> (x1 &&& 31)) &&& (1 : Int32)) = (1 : Int32) then (1 : Int32) else (0 : Int32) : Int32)] M L := by
    obtain ⟨z1, e2, h⟩ := gs_o1 h
    obtain rfl := gs_i1 h
    exact gs_zret' (pc := 14) C dX12_has_14 e2 E
  refine gs_icmp_ne (pc := 6) C 13 dX12_has_6 rfl (fun c4 => ?_) (fun c4 => ?_)
  · refine gs_iconst (w := 0) (pc := 13) C dX12_has_13 rfl ?_
    simp only [if_neg c4] at j3
    exact j3
  · refine gs_iconst (w := 1) (pc := 9) C dX12_has_9 rfl ?_
    refine gs_goto (pc := 10) C 14 dX12_has_10 rfl ?_
    simp only [if_pos c4] at j3
    exact j3
set_option maxRecDepth 100000 in
set_option maxHeartbeats 4000000 in
theorem t_X12_canBurn_69 {X : gs_X} (C : gs_C X RX12 cX12_canBurn 5 (some .boolean) 81) {M : gs_M} {L : gs_L} {x1 : Int32} {x2 : Int32} {x3 : Int32} {rv : Int32} {Mz : gs_M} (E : gs_E X (some (.int rv)) Mz L) : ∀ (f : Nat) (x4 : Int32), l_X12_canBurn_69 M x1 x2 x3 f x4 = some (rv, Mz) → gs_AW X 69 [(0, .ref 147), (1, .int x1), (2, .int x2), (3, .int x3), (4, .int x4)] [] M L := by
  intro f
  induction f with
  | zero =>
    intro x4 h
    cases h
  | succ f ih =>
    intro x4 h
    rw [l_X12_canBurn_69] at h
    refine gs_iload (pc := 69) C 4 dX12_canBurn_69 rfl ?_
    refine gs_aload_n (pc := 71) C 0 dX12_canBurn_71 rfl rfl ?_
    refine gs_geti (pc := 72) C dX12_canBurn_72 gk_12 fl_X12_289 sh_147 rfl ?_
    refine gs_icmp_ge (pc := 75) C 118 dX12_canBurn_75 rfl (fun c1 => ?_) (fun c1 => ?_)
    · replace h := gs_ift c1 h
      refine gs_iconst (w := 1) (pc := 118) C dX12_canBurn_118 rfl ?_
      obtain ⟨rfl, rfl⟩ := gs_i2 h
      exact gs_zret (pc := 119) C (by decide) dX12_canBurn_119 E
    · replace h := gs_iff c1 h
      refine gs_aload_n (pc := 78) C 0 dX12_canBurn_78 rfl rfl ?_
      refine gs_getq (pc := 79) C dX12_canBurn_79 gk_12 fl_X12_75 sh_147 rfl ?_
      refine gs_iload (pc := 82) C 4 dX12_canBurn_82 rfl ?_
      obtain ⟨v2, e3, h⟩ := gs_o1 h
      refine gs_iald (pc := 84) C dX12_canBurn_84 sh_162 e3 ?_
      refine gs_iload_n (pc := 85) C 1 dX12_canBurn_85 rfl rfl ?_
      refine gs_icmp_ne (pc := 86) C 112 dX12_canBurn_86 rfl (fun c4 => ?_) (fun c4 => ?_)
      · replace h := gs_iff c4 h
        refine gs_iinc (v := x4 + (1 : Int32)) (ls' := [(4, .int (x4 + (1 : Int32))), (0, .ref 147), (1, .int x1), (2, .int x2), (3, .int x3)]) (pc := 112) C 4 dX12_canBurn_112 rfl rfl (by decide) rfl ?_
        refine gs_goto (pc := 115) C 69 dX12_canBurn_115 rfl ?_
        exact gs_sub [1, 2, 3, 4, 0] rfl (ih _ h)
      · replace h := gs_ift c4 h
        refine gs_iload_n (pc := 89) C 3 dX12_canBurn_89 rfl rfl ?_
        refine gs_aload_n (pc := 90) C 0 dX12_canBurn_90 rfl rfl ?_
        refine gs_getq (pc := 91) C dX12_canBurn_91 gk_12 fl_X12_78 sh_147 rfl ?_
        refine gs_iload (pc := 94) C 4 dX12_canBurn_94 rfl ?_
        obtain ⟨v5, e6, h⟩ := gs_o1 h
        refine gs_iald (pc := 96) C dX12_canBurn_96 sh_163 e6 ?_
        obtain ⟨v7, e8, h⟩ := gs_o1 h
        refine gs_callSi (pc := 97) C [.int x3, .int v5] dX12_canBurn_97 ml_X12_233 wy_X12_has (a_X12_has _ e8) (by decide) rfl (Nat.le_of_ble_eq_true rfl) rfl ?_
        refine gs_aload_n (pc := 100) C 0 dX12_canBurn_100 rfl rfl ?_
        refine gs_getq (pc := 101) C dX12_canBurn_101 gk_12 fl_X12_81 sh_147 rfl ?_
        refine gs_iload (pc := 104) C 4 dX12_canBurn_104 rfl ?_
        obtain ⟨v9, e10, h⟩ := gs_o1 h
        refine gs_zald (pc := 106) C dX12_canBurn_106 sh_164 e10 ?_
        refine gs_icmp_eq (pc := 107) C 112 dX12_canBurn_107 rfl (fun c11 => ?_) (fun c11 => ?_)
        · replace h := gs_ift c11 h
          refine gs_iinc (v := x4 + (1 : Int32)) (ls' := [(4, .int (x4 + (1 : Int32))), (0, .ref 147), (1, .int x1), (2, .int x2), (3, .int x3)]) (pc := 112) C 4 dX12_canBurn_112 rfl rfl (by decide) rfl ?_
          refine gs_goto (pc := 115) C 69 dX12_canBurn_115 rfl ?_
          exact gs_sub [1, 2, 3, 4, 0] rfl (ih _ h)
        · replace h := gs_iff c11 h
          refine gs_iconst (w := 0) (pc := 110) C dX12_canBurn_110 rfl ?_
          obtain ⟨rfl, rfl⟩ := gs_i2 h
          exact gs_zret (pc := 111) C (by decide) dX12_canBurn_111 E
set_option maxRecDepth 100000 in
set_option maxHeartbeats 4000000 in
theorem t_X12_canBurn_13 {X : gs_X} (C : gs_C X RX12 cX12_canBurn 5 (some .boolean) 81) {L : gs_L} {x1 : Int32} {x2 : Int32} {x3 : Int32} {rv : Int32} {Mz : gs_M} (E : gs_E X (some (.int rv)) Mz L) : ∀ (f : Nat) (x4 : Int32) (M : gs_M), l_X12_canBurn_13 x1 x2 x3 f x4 M = some (rv, Mz) → gs_AW X 13 [(0, .ref 147), (1, .int x1), (2, .int x2), (3, .int x3), (4, .int x4)] [] M L := by
  intro f
  induction f with
  | zero =>
    intro x4 M h
    cases h
  | succ f ih =>
    intro x4 M h
    rw [l_X12_canBurn_13] at h
    refine gs_iload (pc := 13) C 4 dX12_canBurn_13 rfl ?_
    refine gs_aload_n (pc := 15) C 0 dX12_canBurn_15 rfl rfl ?_
    refine gs_getq (pc := 16) C dX12_canBurn_16 gk_12 fl_X12_37 sh_147 rfl ?_
    refine gs_iconst (w := 0) (pc := 19) C dX12_canBurn_19 rfl ?_
    obtain ⟨v1, e2, h⟩ := gs_o1 h
    refine gs_iald (pc := 20) C dX12_canBurn_20 sh_152 e2 ?_
    refine gs_icmp_ge (pc := 21) C 66 dX12_canBurn_21 rfl (fun c3 => ?_) (fun c3 => ?_)
    · replace h := gs_ift c3 h
      refine gs_iconst (w := 0) (pc := 66) C dX12_canBurn_66 rfl ?_
      refine gs_istore (ls' := [(4, .int (0 : Int32)), (0, .ref 147), (1, .int x1), (2, .int x2), (3, .int x3)]) (pc := 67) C dX12_canBurn_67 (by decide) rfl ?_
      exact gs_sub [1, 2, 3, 4, 0] rfl (t_X12_canBurn_69 C E gs_FU _ h)
    · replace h := gs_iff c3 h
      refine gs_iload_n (pc := 24) C 3 dX12_canBurn_24 rfl rfl ?_
      refine gs_iload (pc := 25) C 4 dX12_canBurn_25 rfl ?_
      obtain ⟨v4, e5, h⟩ := gs_o1 h
      refine gs_callSi (pc := 27) C [.int x3, .int x4] dX12_canBurn_27 ml_X12_233 wy_X12_has (a_X12_has _ e5) (by decide) rfl (Nat.le_of_ble_eq_true rfl) rfl ?_
      refine gs_if_eq (pc := 30) C 46 dX12_canBurn_30 rfl (fun c6 => ?_) (fun c6 => ?_)
      · replace h := gs_ift c6 h
        refine gs_aload_n (pc := 46) C 0 dX12_canBurn_46 rfl rfl ?_
        refine gs_iload_n (pc := 47) C 1 dX12_canBurn_47 rfl rfl ?_
        refine gs_iload (pc := 48) C 4 dX12_canBurn_48 rfl ?_
        obtain ⟨v7, M8, e9, h⟩ := gs_o2 h
        refine gs_callVi (pc := 50) C [.int x1, .int x4] dX12_canBurn_50 ml_X12_340 wy_X12_wakesNow (a_X12_wakesNow _ e9) (by decide) sh_147 (by decide) rfl rfl (Nat.le_of_ble_eq_true rfl) rfl ?_
        refine gs_bipush (w := 10) (pc := 53) C dX12_canBurn_53 rfl ?_
        refine gs_icmp_ne (pc := 55) C 60 dX12_canBurn_55 rfl (fun c10 => ?_) (fun c10 => ?_)
        · replace h := gs_iff c10 h
          refine gs_iinc (v := x4 + (1 : Int32)) (ls' := [(4, .int (x4 + (1 : Int32))), (0, .ref 147), (1, .int x1), (2, .int x2), (3, .int x3)]) (pc := 60) C 4 dX12_canBurn_60 rfl rfl (by decide) rfl ?_
          refine gs_goto (pc := 63) C 13 dX12_canBurn_63 rfl ?_
          exact gs_sub [1, 2, 3, 4, 0] rfl (ih _ _ h)
        · replace h := gs_ift c10 h
          refine gs_iconst (w := 0) (pc := 58) C dX12_canBurn_58 rfl ?_
          obtain ⟨rfl, rfl⟩ := gs_i2 h
          exact gs_zret (pc := 59) C (by decide) dX12_canBurn_59 E
      · replace h := gs_iff c6 h
        refine gs_aload_n (pc := 33) C 0 dX12_canBurn_33 rfl rfl ?_
        refine gs_iload_n (pc := 34) C 1 dX12_canBurn_34 rfl rfl ?_
        refine gs_iload (pc := 35) C 4 dX12_canBurn_35 rfl ?_
        obtain ⟨v11, M12, e13, h⟩ := gs_o2 h
        refine gs_callVi (pc := 37) C [.int x1, .int x4] dX12_canBurn_37 ml_X12_340 wy_X12_wakesNow (a_X12_wakesNow _ e13) (by decide) sh_147 (by decide) rfl rfl (Nat.le_of_ble_eq_true rfl) rfl ?_
        refine gs_if_ne (pc := 40) C 60 dX12_canBurn_40 rfl (fun c14 => ?_) (fun c14 => ?_)
        · replace h := gs_iff c14 h
          refine gs_iinc (v := x4 + (1 : Int32)) (ls' := [(4, .int (x4 + (1 : Int32))), (0, .ref 147), (1, .int x1), (2, .int x2), (3, .int x3)]) (pc := 60) C 4 dX12_canBurn_60 rfl rfl (by decide) rfl ?_
          refine gs_goto (pc := 63) C 13 dX12_canBurn_63 rfl ?_
          exact gs_sub [1, 2, 3, 4, 0] rfl (ih _ _ h)
        · replace h := gs_ift c14 h
          refine gs_goto (pc := 43) C 58 dX12_canBurn_43 rfl ?_
          refine gs_iconst (w := 0) (pc := 58) C dX12_canBurn_58 rfl ?_
          obtain ⟨rfl, rfl⟩ := gs_i2 h
          exact gs_zret (pc := 59) C (by decide) dX12_canBurn_59 E
set_option maxRecDepth 100000 in
set_option maxHeartbeats 4000000 in
theorem a_X12_canBurn (l : Launch) {M : gs_M} {L : gs_L} {x1 : Int32} {x2 : Int32} {x3 : Int32} {rv : Int32} {Mz : gs_M} (h : f_X12_canBurn M x1 x2 x3 = some (rv, Mz)) : gs_Met l 81 yX12_canBurn cX12_canBurn 5 (some .boolean) [.ref 147, .int x1, .int x2, .int x3] M L (some (.int rv)) Mz L := by
  unfold f_X12_canBurn at h
  refine gs_of RX12 (by decide) rfl (Nat.le_of_ble_eq_true rfl) (fun X C E => ?_)
  show gs_AW X 0 [(0, .ref 147), (1, .int x1), (2, .int x2), (3, .int x3)] [] M L
  refine gs_iload_n (pc := 0) C 3 dX12_canBurn_0 rfl rfl ?_
  obtain ⟨v1, e2, h⟩ := gs_o1 h
  refine gs_callSi (pc := 1) C [.int x3] dX12_canBurn_1 ml_X12_400 wy_J6_bitCount_0f7a4 (a_J6_bitCount_0f7a4 _ e2) (by decide) rfl (Nat.le_of_ble_eq_true rfl) rfl ?_
  refine gs_iload_n (pc := 4) C 2 dX12_canBurn_4 rfl rfl ?_
  refine gs_icmp_eq (pc := 5) C 10 dX12_canBurn_5 rfl (fun c3 => ?_) (fun c3 => ?_)
  · replace h := gs_ift c3 h
    refine gs_iconst (w := 0) (pc := 10) C dX12_canBurn_10 rfl ?_
    refine gs_istore (ls' := [(4, .int (0 : Int32)), (0, .ref 147), (1, .int x1), (2, .int x2), (3, .int x3)]) (pc := 11) C dX12_canBurn_11 (by decide) rfl ?_
    exact gs_sub [1, 2, 3, 4, 0] rfl (t_X12_canBurn_13 C E gs_FU _ _ h)
  · replace h := gs_iff c3 h
    refine gs_iconst (w := 0) (pc := 8) C dX12_canBurn_8 rfl ?_
    obtain ⟨rfl, rfl⟩ := gs_i2 h
    exact gs_zret (pc := 9) C (by decide) dX12_canBurn_9 E
