set_option maxRecDepth 100000 in
set_option maxHeartbeats 4000000 in
theorem t_X1_sureness_4 {X : gs_X} (C : gs_C X RX1 cX1_sureness 4 (some .int) 2) {M : gs_M} {L : gs_L} {o1 : Int64} {o3 : Int32} (k : gs_AW X 30 [(0, .ref 134), (1, .long o1), (3, .int o3)] [] M L) : ∀ (f : Nat) (x1 : Int64) (x3 : Int32), l_X1_sureness_4 M L f x1 x3 = some (o1, o3) → gs_AW X 4 [(0, .ref 134), (1, .long x1), (3, .int x3)] [] M L := by
  intro f
  induction f with
  | zero =>
    intro x1 x3 h
    cases h
  | succ f ih =>
    intro x1 x3 h
    rw [l_X1_sureness_4] at h
    refine gs_iload_n (pc := 4) C 2 dX1_sureness_4 rfl rfl ?_
    refine gs_aload_n (pc := 5) C 0 dX1_sureness_5 rfl rfl ?_
    refine gs_getq (pc := 6) C dX1_sureness_6 gk_1 fl_X1_29 sh_134 rfl ?_
    obtain ⟨v1, e2, h⟩ := gs_o1 h
    refine gs_callVi (pc := 9) C [] dX1_sureness_9 ml_X1_41 wy_X9_crowd (a_X9_crowd _ e2) (by decide) sh_3 (by decide) rfl rfl (Nat.le_of_ble_eq_true rfl) rfl ?_
    refine gs_icmp_ge (pc := 12) C 30 dX1_sureness_12 rfl (fun c3 => ?_) (fun c3 => ?_)
    · replace h := gs_ift c3 h
      obtain ⟨rfl, rfl⟩ := gs_i2 h
      exact k
    · replace h := gs_iff c3 h
      refine gs_lload_n (pc := 15) C 1 dX1_sureness_15 rfl rfl ?_
      refine gs_aload_n (pc := 16) C 0 dX1_sureness_16 rfl rfl ?_
      refine gs_getq (pc := 17) C dX1_sureness_17 gk_1 fl_X1_22 sh_134 rfl ?_
      refine gs_iload_n (pc := 20) C 2 dX1_sureness_20 rfl rfl ?_
      obtain ⟨v4, e5, h⟩ := gs_o1 h
      refine gs_lald (pc := 21) C dX1_sureness_21 sh_138 e5 ?_
      refine gs_ladd (pc := 22) C dX1_sureness_22 ?_
      refine gs_lstore_n (ls' := [(1, .long (x1 + v4)), (0, .ref 134), (3, .int x3)]) (pc := 23) C dX1_sureness_23 rfl (by decide) rfl ?_
      refine gs_iinc (v := x3 + (1 : Int32)) (ls' := [(3, .int (x3 + (1 : Int32))), (1, .long (x1 + v4)), (0, .ref 134)]) (pc := 24) C 2 dX1_sureness_24 rfl rfl (by decide) rfl ?_
      refine gs_goto (pc := 27) C 4 dX1_sureness_27 rfl ?_
      exact gs_sub [2, 1, 0] rfl (ih _ _ h)
set_option maxRecDepth 100000 in
set_option maxHeartbeats 4000000 in
theorem a_X1_sureness (l : Launch) {M : gs_M} {L : gs_L} {rv : Int32} (h : f_X1_sureness M L = some (rv)) : gs_Met l 2 yX1_sureness cX1_sureness 4 (some .int) [.ref 134] M L (some (.int rv)) M L := by
  unfold f_X1_sureness at h
  refine gs_of RX1 (by decide) rfl (Nat.le_of_ble_eq_true rfl) (fun X C E => ?_)
  show gs_AW X 0 [(0, .ref 134)] [] M L
  refine gs_lconst (w := 0) (pc := 0) C dX1_sureness_0 rfl ?_
  refine gs_lstore_n (ls' := [(1, .long (0 : Int64)), (0, .ref 134)]) (pc := 1) C dX1_sureness_1 rfl (by decide) rfl ?_
  refine gs_iconst (w := 0) (pc := 2) C dX1_sureness_2 rfl ?_
  refine gs_istore_n (ls' := [(3, .int (0 : Int32)), (1, .long (0 : Int64)), (0, .ref 134)]) (pc := 3) C dX1_sureness_3 rfl (by decide) rfl ?_
  obtain ⟨y1, y2, e3, h⟩ := gs_o2 h
  refine gs_sub [2, 1, 0] rfl (t_X1_sureness_4 C ?_ gs_FU _ _ e3)
  refine gs_lload_n (pc := 30) C 1 dX1_sureness_30 rfl rfl ?_
  refine gs_lconst (w := 0) (pc := 31) C dX1_sureness_31 rfl ?_
  refine gs_lcmp (pc := 32) C dX1_sureness_32 ?_
  obtain ⟨y4, e5, h⟩ := gs_o1 h
  have j6 : gs_AW X 56 [(0, .ref 134), (1, .long y1), (3, .int y2)] [.int y4] M L := by
    obtain rfl := gs_i1 h
    exact gs_iret (pc := 56) C dX1_sureness_56 E
  refine gs_if_gt (pc := 33) C 40 dX1_sureness_33 rfl (fun c7 => ?_) (fun c7 => ?_)
  · replace e5 := gs_ift c7 e5
    refine gs_aload_n (pc := 40) C 0 dX1_sureness_40 rfl rfl ?_
    refine gs_getq (pc := 41) C dX1_sureness_41 gk_1 fl_X1_22 sh_134 rfl ?_
    refine gs_aload_n (pc := 44) C 0 dX1_sureness_44 rfl rfl ?_
    obtain ⟨v8, e9, e5⟩ := gs_o1 e5
    refine gs_callVi (pc := 45) C [] dX1_sureness_45 ml_X1_57 wy_X1_likeliestOne (a_X1_likeliestOne _ e9) (by decide) sh_134 (by decide) rfl rfl (Nat.le_of_ble_eq_true rfl) rfl ?_
    obtain ⟨v10, e11, e5⟩ := gs_o1 e5
    refine gs_lald (pc := 48) C dX1_sureness_48 sh_138 e11 ?_
    refine gs_ldc2 (pc := 49) C dX1_sureness_49 wj_X1_60 ?_
    refine gs_lmul (pc := 52) C dX1_sureness_52 ?_
    refine gs_lload_n (pc := 53) C 1 dX1_sureness_53 rfl rfl ?_
    obtain ⟨v12, e13, e5⟩ := gs_o1 e5
    refine gs_ldiv' (pc := 54) C dX1_sureness_54 e13 ?_
    refine gs_l2i (pc := 55) C dX1_sureness_55 ?_
    obtain rfl := gs_i1 e5
    exact j6
  · replace e5 := gs_iff c7 e5
    refine gs_iconst (w := 0) (pc := 36) C dX1_sureness_36 rfl ?_
    refine gs_goto (pc := 37) C 56 dX1_sureness_37 rfl ?_
    obtain rfl := gs_i1 e5
    exact j6
set_option maxRecDepth 100000 in
set_option maxHeartbeats 4000000 in
theorem a_X11_who (l : Launch) {M : gs_M} {L : gs_L} {x1 : Int32} {x2 : Int32} {rv : Int32} {Mz : gs_M} {Lz : gs_L} (h : f_X11_who M L x1 x2 = some (rv, Mz, Lz)) : gs_Met l 7 yX11_who cX11_who 3 (some .int) [.ref 0, .int x1, .int x2] M L (some (.int rv)) Mz Lz := by
  unfold f_X11_who at h
  refine gs_of RX11 (by decide) rfl (Nat.le_of_ble_eq_true rfl) (fun X C E => ?_)
  show gs_AW X 0 [(0, .ref 0), (1, .int x1), (2, .int x2)] [] M L
  refine gs_aload_n (pc := 0) C 0 dX11_who_0 rfl rfl ?_
  obtain ⟨v1, e2, h⟩ := gs_o1 h
  refine gs_callVi (pc := 1) C [] dX11_who_1 ml_X11_172 wy_X11_hasTown (a_X11_hasTown _ e2) (by decide) sh_0 (by decide) rfl rfl (Nat.le_of_ble_eq_true rfl) rfl ?_
  refine gs_if_eq (pc := 4) C 27 dX11_who_4 rfl (fun c3 => ?_) (fun c3 => ?_)
  · replace h := gs_ift c3 h
    refine gs_iconst (w := (-1)) (pc := 27) C dX11_who_27 rfl ?_
    obtain ⟨rfl, rfl, rfl⟩ := gs_i3 h
    exact gs_iret (pc := 28) C dX11_who_28 E
  · replace h := gs_iff c3 h
    refine gs_iload_n (pc := 7) C 1 dX11_who_7 rfl rfl ?_
    refine gs_iconst (w := 1) (pc := 8) C dX11_who_8 rfl ?_
    refine gs_icmp_lt (pc := 9) C 27 dX11_who_9 rfl (fun c4 => ?_) (fun c4 => ?_)
    · replace h := gs_ift c4 h
      refine gs_iconst (w := (-1)) (pc := 27) C dX11_who_27 rfl ?_
      obtain ⟨rfl, rfl, rfl⟩ := gs_i3 h
      exact gs_iret (pc := 28) C dX11_who_28 E
    · replace h := gs_iff c4 h
      refine gs_iload_n (pc := 12) C 1 dX11_who_12 rfl rfl ?_
      refine gs_bipush (w := 9) (pc := 13) C dX11_who_13 rfl ?_
      refine gs_icmp_gt (pc := 15) C 27 dX11_who_15 rfl (fun c5 => ?_) (fun c5 => ?_)
      · replace h := gs_ift c5 h
        refine gs_iconst (w := (-1)) (pc := 27) C dX11_who_27 rfl ?_
        obtain ⟨rfl, rfl, rfl⟩ := gs_i3 h
        exact gs_iret (pc := 28) C dX11_who_28 E
      · replace h := gs_iff c5 h
        refine gs_iload_n (pc := 18) C 2 dX11_who_18 rfl rfl ?_
        refine gs_if_lt (pc := 19) C 27 dX11_who_19 rfl (fun c6 => ?_) (fun c6 => ?_)
        · replace h := gs_ift c6 h
          refine gs_iconst (w := (-1)) (pc := 27) C dX11_who_27 rfl ?_
          obtain ⟨rfl, rfl, rfl⟩ := gs_i3 h
          exact gs_iret (pc := 28) C dX11_who_28 E
        · replace h := gs_iff c6 h
          refine gs_iload_n (pc := 22) C 2 dX11_who_22 rfl rfl ?_
          refine gs_iconst (w := 2) (pc := 23) C dX11_who_23 rfl ?_
          refine gs_icmp_le (pc := 24) C 29 dX11_who_24 rfl (fun c7 => ?_) (fun c7 => ?_)
          · replace h := gs_ift c7 h
            refine gs_aload_n (pc := 29) C 0 dX11_who_29 rfl rfl ?_
            refine gs_getq (pc := 30) C dX11_who_30 gk_11 fl_X11_89 sh_0 rfl ?_
            refine gs_iload_n (pc := 33) C 1 dX11_who_33 rfl rfl ?_
            obtain ⟨M8, L9, e10, h⟩ := gs_o2 h
            refine gs_callVv (pc := 34) C [.int x1] dX11_who_34 ml_X11_343 wy_X1_weigh (a_X1_weigh _ e10) (by decide) sh_134 (by decide) rfl rfl (Nat.le_of_ble_eq_true rfl) rfl ?_
            refine gs_iload_n (pc := 37) C 2 dX11_who_37 rfl rfl ?_
            refine gs_if_ne (pc := 38) C 49 dX11_who_38 rfl (fun c11 => ?_) (fun c11 => ?_)
            · replace h := gs_iff c11 h
              refine gs_iload_n (pc := 49) C 2 dX11_who_49 rfl rfl ?_
              refine gs_iconst (w := 1) (pc := 50) C dX11_who_50 rfl ?_
              obtain ⟨y12, M13, e14, h⟩ := gs_o2 h
              have j15 : gs_AW X 72 [(0, .ref 0), (1, .int x1), (2, .int x2)] [.int y12] M13 L9 := by
                obtain ⟨rfl, rfl, rfl⟩ := gs_i3 h
                exact gs_iret (pc := 72) C dX11_who_72 E
              refine gs_icmp_ne (pc := 51) C 64 dX11_who_51 rfl (fun c16 => ?_) (fun c16 => ?_)
              · replace e14 := gs_iff c16 e14
                refine gs_aload_n (pc := 64) C 0 dX11_who_64 rfl rfl ?_
                refine gs_getq (pc := 65) C dX11_who_65 gk_11 fl_X11_89 sh_0 rfl ?_
                refine gs_iload_n (pc := 68) C 1 dX11_who_68 rfl rfl ?_
                obtain ⟨v17, M18, e19, e14⟩ := gs_o2 e14
                refine gs_callVi (pc := 69) C [.int x1] dX11_who_69 ml_X11_352 wy_X1_nextLook (a_X1_nextLook _ e19) (by decide) sh_134 (by decide) rfl rfl (Nat.le_of_ble_eq_true rfl) rfl ?_
                obtain ⟨rfl, rfl⟩ := gs_i2 e14
                exact j15
              · replace e14 := gs_ift c16 e14
                refine gs_aload_n (pc := 54) C 0 dX11_who_54 rfl rfl ?_
                refine gs_getq (pc := 55) C dX11_who_55 gk_11 fl_X11_89 sh_0 rfl ?_
                obtain ⟨v20, e21, e14⟩ := gs_o1 e14
                refine gs_callVi (pc := 58) C [] dX11_who_58 ml_X11_349 wy_X1_sureness (a_X1_sureness _ e21) (by decide) sh_134 (by decide) rfl rfl (Nat.le_of_ble_eq_true rfl) rfl ?_
                refine gs_goto (pc := 61) C 72 dX11_who_61 rfl ?_
                obtain ⟨rfl, rfl⟩ := gs_i2 e14
                exact j15
            · replace h := gs_ift c11 h
              refine gs_aload_n (pc := 41) C 0 dX11_who_41 rfl rfl ?_
              refine gs_getq (pc := 42) C dX11_who_42 gk_11 fl_X11_89 sh_0 rfl ?_
              obtain ⟨v22, e23, h⟩ := gs_o1 h
              refine gs_callVi (pc := 45) C [] dX11_who_45 ml_X11_346 wy_X1_likeliestOne (a_X1_likeliestOne _ e23) (by decide) sh_134 (by decide) rfl rfl (Nat.le_of_ble_eq_true rfl) rfl ?_
              obtain ⟨rfl, rfl, rfl⟩ := gs_i3 h
              exact gs_iret (pc := 48) C dX11_who_48 E
          · replace h := gs_iff c7 h
            refine gs_iconst (w := (-1)) (pc := 27) C dX11_who_27 rfl ?_
            obtain ⟨rfl, rfl, rfl⟩ := gs_i3 h
            exact gs_iret (pc := 28) C dX11_who_28 E
set_option maxRecDepth 100000 in
set_option maxHeartbeats 4000000 in
theorem a_X11_worry (l : Launch) {M : gs_M} {L : gs_L} {x1 : Int32} {x2 : Int32} {rv : Int32} {Mz : gs_M} (h : f_X11_worry M x1 x2 = some (rv, Mz)) : gs_Met l 2 yX11_worry cX11_worry 4 (some .int) [.ref 0, .int x1, .int x2] M L (some (.int rv)) Mz L := by
  unfold f_X11_worry at h
  refine gs_of RX11 (by decide) rfl (Nat.le_of_ble_eq_true rfl) (fun X C E => ?_)
  show gs_AW X 0 [(0, .ref 0), (1, .int x1), (2, .int x2)] [] M L
  refine gs_aload_n (pc := 0) C 0 dX11_worry_0 rfl rfl ?_
  refine gs_iload_n (pc := 1) C 1 dX11_worry_1 rfl rfl ?_
  obtain ⟨v1, e2, h⟩ := gs_o1 h
  refine gs_callVi (pc := 2) C [.int x1] dX11_worry_2 ml_X11_178 wy_X11_isPerson (a_X11_isPerson _ e2) (by decide) sh_0 (by decide) rfl rfl (Nat.le_of_ble_eq_true rfl) rfl ?_
  refine gs_if_eq (pc := 5) C 18 dX11_worry_5 rfl (fun c3 => ?_) (fun c3 => ?_)
  · replace h := gs_ift c3 h
    refine gs_iconst (w := (-1)) (pc := 18) C dX11_worry_18 rfl ?_
    obtain ⟨rfl, rfl⟩ := gs_i2 h
    exact gs_iret (pc := 19) C dX11_worry_19 E
  · replace h := gs_iff c3 h
    refine gs_iload_n (pc := 8) C 2 dX11_worry_8 rfl rfl ?_
    refine gs_if_lt (pc := 9) C 18 dX11_worry_9 rfl (fun c4 => ?_) (fun c4 => ?_)
    · replace h := gs_ift c4 h
      refine gs_iconst (w := (-1)) (pc := 18) C dX11_worry_18 rfl ?_
      obtain ⟨rfl, rfl⟩ := gs_i2 h
      exact gs_iret (pc := 19) C dX11_worry_19 E
    · replace h := gs_iff c4 h
      refine gs_iload_n (pc := 12) C 2 dX11_worry_12 rfl rfl ?_
      refine gs_bipush (w := 9) (pc := 13) C dX11_worry_13 rfl ?_
      refine gs_icmp_le (pc := 15) C 20 dX11_worry_15 rfl (fun c5 => ?_) (fun c5 => ?_)
      · replace h := gs_ift c5 h
        refine gs_aload_n (pc := 20) C 0 dX11_worry_20 rfl rfl ?_
        refine gs_getq (pc := 21) C dX11_worry_21 gk_11 fl_X11_29 sh_0 rfl ?_
        refine gs_iload_n (pc := 24) C 1 dX11_worry_24 rfl rfl ?_
        refine gs_iconst (w := 1) (pc := 25) C dX11_worry_25 rfl ?_
        obtain ⟨v6, e7, h⟩ := gs_o1 h
        refine gs_callVi (pc := 26) C [.int x1, .int (1 : Int32)] dX11_worry_26 ml_X11_188 wy_X6_of (a_X6_of _ e7) (by decide) sh_9 (by decide) rfl rfl (Nat.le_of_ble_eq_true rfl) rfl ?_
        refine gs_istore_n (ls' := [(3, .int v6), (0, .ref 0), (1, .int x1), (2, .int x2)]) (pc := 29) C dX11_worry_29 rfl (by decide) rfl ?_
        refine gs_iload_n (pc := 30) C 0 dX11_worry_30 rfl rfl ?_
        refine gs_iload_n (pc := 31) C 3 dX11_worry_31 rfl rfl ?_
        refine gs_icmp_ne (pc := 32) C 37 dX11_worry_32 rfl (fun c8 => ?_) (fun c8 => ?_)
        · replace h := gs_iff c8 h
          refine gs_aload_n (pc := 37) C 1 dX11_worry_37 rfl rfl ?_
          refine gs_getq (pc := 38) C dX11_worry_38 gk_11 fl_X11_39 sh_0 rfl ?_
          refine gs_aload_n (pc := 41) C 1 dX11_worry_41 rfl rfl ?_
          refine gs_getq (pc := 42) C dX11_worry_42 gk_11 fl_X11_29 sh_0 rfl ?_
          obtain ⟨M9, e10, h⟩ := gs_o1 h
          refine gs_callVv (pc := 45) C [.ref 9] dX11_worry_45 ml_X11_216 wy_X0_keep (a_X0_keep _ e10) (by decide) sh_13 (by decide) rfl rfl (Nat.le_of_ble_eq_true rfl) rfl ?_
          refine gs_aload_n (pc := 48) C 1 dX11_worry_48 rfl rfl ?_
          refine gs_getq (pc := 49) C dX11_worry_49 gk_11 fl_X11_29 sh_0 rfl ?_
          refine gs_iload_n (pc := 52) C 2 dX11_worry_52 rfl rfl ?_
          refine gs_iconst (w := 1) (pc := 53) C dX11_worry_53 rfl ?_
          refine gs_iload_n (pc := 54) C 3 dX11_worry_54 rfl rfl ?_
          obtain ⟨M11, e12, h⟩ := gs_o1 h
          refine gs_callVv (pc := 55) C [.int x1, .int (1 : Int32), .int x2] dX11_worry_55 ml_X11_219 wy_X6_set (a_X6_set _ e12) (by decide) sh_9 (by decide) rfl rfl (Nat.le_of_ble_eq_true rfl) rfl ?_
          refine gs_iload_n (pc := 58) C 0 dX11_worry_58 rfl rfl ?_
          obtain ⟨rfl, rfl⟩ := gs_i2 h
          exact gs_iret (pc := 59) C dX11_worry_59 E
        · replace h := gs_ift c8 h
          refine gs_iconst (w := (-1)) (pc := 35) C dX11_worry_35 rfl ?_
          obtain ⟨rfl, rfl⟩ := gs_i2 h
          exact gs_iret (pc := 36) C dX11_worry_36 E
      · replace h := gs_iff c5 h
        refine gs_iconst (w := (-1)) (pc := 18) C dX11_worry_18 rfl ?_
        obtain ⟨rfl, rfl⟩ := gs_i2 h
        exact gs_iret (pc := 19) C dX11_worry_19 E
set_option maxRecDepth 100000 in
set_option maxHeartbeats 4000000 in
theorem a_X11_wronged (l : Launch) {M : gs_M} {L : gs_L} {x1 : Int32} {rv : Int32} {Mz : gs_M} (h : f_X11_wronged M x1 = some (rv, Mz)) : gs_Met l 7 yX11_wronged cX11_wronged 2 (some .int) [.ref 0, .int x1] M L (some (.int rv)) Mz L := by
  unfold f_X11_wronged at h
  refine gs_of RX11 (by decide) rfl (Nat.le_of_ble_eq_true rfl) (fun X C E => ?_)
  show gs_AW X 0 [(0, .ref 0), (1, .int x1)] [] M L
  refine gs_aload_n (pc := 0) C 0 dX11_wronged_0 rfl rfl ?_
  obtain ⟨v1, e2, h⟩ := gs_o1 h
  refine gs_callVi (pc := 1) C [] dX11_wronged_1 ml_X11_172 wy_X11_hasTown (a_X11_hasTown _ e2) (by decide) sh_0 (by decide) rfl rfl (Nat.le_of_ble_eq_true rfl) rfl ?_
  obtain ⟨y3, M4, e5, h⟩ := gs_o2 h
  have j6 : gs_AW X 32 [(0, .ref 0), (1, .int x1)] [.int y3] M4 L := by
    obtain ⟨rfl, rfl⟩ := gs_i2 h
    exact gs_iret (pc := 32) C dX11_wronged_32 E
  refine gs_if_eq (pc := 4) C 31 dX11_wronged_4 rfl (fun c7 => ?_) (fun c7 => ?_)
  · replace e5 := gs_ift c7 e5
    refine gs_iconst (w := (-1)) (pc := 31) C dX11_wronged_31 rfl ?_
    obtain ⟨rfl, rfl⟩ := gs_i2 e5
    exact j6
  · replace e5 := gs_iff c7 e5
    refine gs_iload_n (pc := 7) C 1 dX11_wronged_7 rfl rfl ?_
    refine gs_iconst (w := (-1)) (pc := 8) C dX11_wronged_8 rfl ?_
    refine gs_icmp_eq (pc := 9) C 23 dX11_wronged_9 rfl (fun c8 => ?_) (fun c8 => ?_)
    · replace e5 := gs_ift c8 e5
      refine gs_aload_n (pc := 23) C 0 dX11_wronged_23 rfl rfl ?_
      refine gs_iload_n (pc := 24) C 1 dX11_wronged_24 rfl rfl ?_
      obtain ⟨v9, M10, e11, e5⟩ := gs_o2 e5
      refine gs_callVi (pc := 25) C [.int x1] dX11_wronged_25 ml_X11_384 wy_X11_wrongedBy (a_X11_wrongedBy _ e11) (by decide) sh_0 (by decide) rfl rfl (Nat.le_of_ble_eq_true rfl) rfl ?_
      refine gs_goto (pc := 28) C 32 dX11_wronged_28 rfl ?_
      obtain ⟨rfl, rfl⟩ := gs_i2 e5
      exact j6
    · replace e5 := gs_iff c8 e5
      refine gs_aload_n (pc := 12) C 0 dX11_wronged_12 rfl rfl ?_
      refine gs_getq (pc := 13) C dX11_wronged_13 gk_11 fl_X11_71 sh_0 rfl ?_
      refine gs_iload_n (pc := 16) C 1 dX11_wronged_16 rfl rfl ?_
      obtain ⟨v12, e13, e5⟩ := gs_o1 e5
      refine gs_callVi (pc := 17) C [.int x1] dX11_wronged_17 ml_X11_383 wy_X4_has (a_X4_has _ e13) (by decide) sh_105 (by decide) rfl rfl (Nat.le_of_ble_eq_true rfl) rfl ?_
      refine gs_if_eq (pc := 20) C 31 dX11_wronged_20 rfl (fun c14 => ?_) (fun c14 => ?_)
      · replace e5 := gs_ift c14 e5
        refine gs_iconst (w := (-1)) (pc := 31) C dX11_wronged_31 rfl ?_
        obtain ⟨rfl, rfl⟩ := gs_i2 e5
        exact j6
      · replace e5 := gs_iff c14 e5
        refine gs_aload_n (pc := 23) C 0 dX11_wronged_23 rfl rfl ?_
        refine gs_iload_n (pc := 24) C 1 dX11_wronged_24 rfl rfl ?_
        obtain ⟨v15, M16, e17, e5⟩ := gs_o2 e5
        refine gs_callVi (pc := 25) C [.int x1] dX11_wronged_25 ml_X11_384 wy_X11_wrongedBy (a_X11_wrongedBy _ e17) (by decide) sh_0 (by decide) rfl rfl (Nat.le_of_ble_eq_true rfl) rfl ?_
        refine gs_goto (pc := 28) C 32 dX11_wronged_28 rfl ?_
        obtain ⟨rfl, rfl⟩ := gs_i2 e5
        exact j6
set_option maxRecDepth 100000 in
set_option maxHeartbeats 4000000 in
theorem a_X5_year (l : Launch) {M : gs_M} {L : gs_L} {x1 : Int32} {Mz : gs_M} {Lz : gs_L} (h : f_X5_year M L x1 = some (Mz, Lz)) : gs_Met l 6 yX5_year cX5_year 4 none [.ref 132, .int x1] M L none Mz Lz := by
  unfold f_X5_year at h
  refine gs_of RX5 (by decide) rfl (Nat.le_of_ble_eq_true rfl) (fun X C E => ?_)
  show gs_AW X 0 [(0, .ref 132), (1, .int x1)] [] M L
  refine gs_aload_n (pc := 0) C 0 dX5_year_0 rfl rfl ?_
  refine gs_aload_n (pc := 1) C 0 dX5_year_1 rfl rfl ?_
  refine gs_getq (pc := 2) C dX5_year_2 gk_5 fl_X5_15 sh_132 rfl ?_
  obtain ⟨v1, e2, h⟩ := gs_o1 h
  refine gs_callVi (pc := 5) C [] dX5_year_5 ml_X5_39 wy_X9_crowd (a_X9_crowd _ e2) (by decide) sh_3 (by decide) rfl rfl (Nat.le_of_ble_eq_true rfl) rfl ?_
  obtain ⟨v3, L4, e5, h⟩ := gs_o2 h
  refine gs_callVi (pc := 8) C [.int v1] dX5_year_8 ml_X5_45 wy_X5_draw (a_X5_draw _ e5) (by decide) sh_132 (by decide) rfl rfl (Nat.le_of_ble_eq_true rfl) rfl ?_
  refine gs_istore_n (ls' := [(2, .int v3), (0, .ref 132), (1, .int x1)]) (pc := 11) C dX5_year_11 rfl (by decide) rfl ?_
  refine gs_aload_n (pc := 12) C 1 dX5_year_12 rfl rfl ?_
  refine gs_getq (pc := 13) C dX5_year_13 gk_5 fl_X5_19 sh_132 rfl ?_
  refine gs_iload_n (pc := 16) C 0 dX5_year_16 rfl rfl ?_
  refine gs_iconst (w := 1) (pc := 17) C dX5_year_17 rfl ?_
  refine gs_aload_n (pc := 18) C 1 dX5_year_18 rfl rfl ?_
  refine gs_bipush (w := 10) (pc := 19) C dX5_year_19 rfl ?_
  obtain ⟨v6, L7, e8, h⟩ := gs_o2 h
  refine gs_callVi (pc := 21) C [.int (10 : Int32)] dX5_year_21 ml_X5_45 wy_X5_draw (a_X5_draw _ e8) (by decide) sh_132 (by decide) rfl rfl (Nat.le_of_ble_eq_true rfl) rfl ?_
  obtain ⟨M9, e10, h⟩ := gs_o1 h
  refine gs_callVv (pc := 24) C [.int v3, .int (1 : Int32), .int v6] dX5_year_24 ml_X5_51 wy_X6_set (a_X6_set _ e10) (by decide) sh_9 (by decide) rfl rfl (Nat.le_of_ble_eq_true rfl) rfl ?_
  refine gs_aload_n (pc := 27) C 1 dX5_year_27 rfl rfl ?_
  refine gs_bipush (w := 10) (pc := 28) C dX5_year_28 rfl ?_
  obtain ⟨v11, L12, e13, h⟩ := gs_o2 h
  refine gs_callVi (pc := 30) C [.int (10 : Int32)] dX5_year_30 ml_X5_45 wy_X5_draw (a_X5_draw _ e13) (by decide) sh_132 (by decide) rfl rfl (Nat.le_of_ble_eq_true rfl) rfl ?_
  refine gs_iload_n (pc := 33) C 2 dX5_year_33 rfl rfl ?_
  obtain ⟨M14, L15, e16, h⟩ := gs_o2 h
  have j17 : gs_AW X 74 [(0, .ref 132), (1, .int x1), (2, .int v3)] [] M14 L15 := by
    refine gs_aload_n (pc := 74) C 0 dX5_year_74 rfl rfl ?_
    obtain ⟨M28, L29, e30, h⟩ := gs_o2 h
    refine gs_callVv (pc := 75) C [] dX5_year_75 ml_X5_64 wy_X5_pass (a_X5_pass _ e30) (by decide) sh_132 (by decide) rfl rfl (Nat.le_of_ble_eq_true rfl) rfl ?_
    obtain ⟨rfl, rfl⟩ := gs_i2 h
    exact gs_vret (pc := 78) C dX5_year_78 E
  refine gs_icmp_ge (pc := 34) C 74 dX5_year_34 rfl (fun c18 => ?_) (fun c18 => ?_)
  · replace e16 := gs_ift c18 e16
    obtain ⟨rfl, rfl⟩ := gs_i2 e16
    exact gs_sub [1, 2, 0] rfl (j17)
  · replace e16 := gs_iff c18 e16
    refine gs_aload_n (pc := 37) C 1 dX5_year_37 rfl rfl ?_
    refine gs_aload_n (pc := 38) C 1 dX5_year_38 rfl rfl ?_
    refine gs_getq (pc := 39) C dX5_year_39 gk_5 fl_X5_15 sh_132 rfl ?_
    obtain ⟨v19, e20, e16⟩ := gs_o1 e16
    refine gs_callVi (pc := 42) C [] dX5_year_42 ml_X5_39 wy_X9_crowd (a_X9_crowd _ e20) (by decide) sh_3 (by decide) rfl rfl (Nat.le_of_ble_eq_true rfl) rfl ?_
    obtain ⟨v21, L22, e23, e16⟩ := gs_o2 e16
    refine gs_callVi (pc := 45) C [.int v19] dX5_year_45 ml_X5_45 wy_X5_draw (a_X5_draw _ e23) (by decide) sh_132 (by decide) rfl rfl (Nat.le_of_ble_eq_true rfl) rfl ?_
    refine gs_istore_n (ls' := [(3, .int v21), (2, .int v3), (0, .ref 132), (1, .int x1)]) (pc := 48) C dX5_year_48 rfl (by decide) rfl ?_
    refine gs_aload_n (pc := 49) C 2 dX5_year_49 rfl rfl ?_
    refine gs_getq (pc := 50) C dX5_year_50 gk_5 fl_X5_19 sh_132 rfl ?_
    refine gs_iload_n (pc := 53) C 0 dX5_year_53 rfl rfl ?_
    refine gs_iconst (w := 0) (pc := 54) C dX5_year_54 rfl ?_
    refine gs_aload_n (pc := 55) C 2 dX5_year_55 rfl rfl ?_
    refine gs_getq (pc := 56) C dX5_year_56 gk_5 fl_X5_19 sh_132 rfl ?_
    refine gs_iload_n (pc := 59) C 0 dX5_year_59 rfl rfl ?_
    refine gs_iconst (w := 0) (pc := 60) C dX5_year_60 rfl ?_
    obtain ⟨v24, e25, e16⟩ := gs_o1 e16
    refine gs_callVi (pc := 61) C [.int v21, .int (0 : Int32)] dX5_year_61 ml_X5_55 wy_X6_of (a_X6_of _ e25) (by decide) sh_9 (by decide) rfl rfl (Nat.le_of_ble_eq_true rfl) rfl ?_
    refine gs_iconst (w := 3) (pc := 64) C dX5_year_64 rfl ?_
    refine gs_iadd (pc := 65) C dX5_year_65 ?_
    refine gs_bipush (w := 9) (pc := 66) C dX5_year_66 rfl ?_
    refine gs_mmin (pc := 68) C dX5_year_68 ml_X5_59 (Nat.le_of_ble_eq_true rfl) ?_
    obtain ⟨M26, e27, e16⟩ := gs_o1 e16
    refine gs_callVv (pc := 71) C [.int v21, .int (0 : Int32), .int (if (9 : Int32) < (v24 + (3 : Int32)) then (9 : Int32) else (v24 + (3 : Int32)) : Int32)] dX5_year_71 ml_X5_51 wy_X6_set (a_X6_set _ e27) (by decide) sh_9 (by decide) rfl rfl (Nat.le_of_ble_eq_true rfl) rfl ?_
    obtain ⟨rfl, rfl⟩ := gs_i2 e16
    exact gs_sub [2, 3, 1] rfl (j17)
set_option maxRecDepth 100000 in
set_option maxHeartbeats 4000000 in
theorem t_X11_years_46 {X : gs_X} (C : gs_C X RX11 cX11_years 5 (some .int) 7) {x1 : Int32} {x2 : Int64} {o4 : Int32} {M' : gs_M} {L' : gs_L} (k : gs_AW X 80 [(0, .ref 0), (1, .int x1), (2, .long x2), (4, .int o4)] [] M' L') : ∀ (f : Nat) (x4 : Int32) (M : gs_M) (L : gs_L), l_X11_years_46 x1 x2 f x4 M L = some (o4, M', L') → gs_AW X 46 [(0, .ref 0), (1, .int x1), (2, .long x2), (4, .int x4)] [] M L := by
  intro f
  induction f with
  | zero =>
    intro x4 M L h
    cases h
  | succ f ih =>
    intro x4 M L h
    rw [l_X11_years_46] at h
    refine gs_iload (pc := 46) C 3 dX11_years_46 rfl ?_
    refine gs_iload_n (pc := 48) C 1 dX11_years_48 rfl rfl ?_
    refine gs_icmp_ge (pc := 49) C 80 dX11_years_49 rfl (fun c1 => ?_) (fun c1 => ?_)
    · replace h := gs_ift c1 h
      obtain ⟨rfl, rfl, rfl⟩ := gs_i3 h
      exact k
    · replace h := gs_iff c1 h
      refine gs_aload_n (pc := 52) C 0 dX11_years_52 rfl rfl ?_
      refine gs_getq (pc := 53) C dX11_years_53 gk_11 fl_X11_39 sh_0 rfl ?_
      refine gs_aload_n (pc := 56) C 0 dX11_years_56 rfl rfl ?_
      refine gs_getq (pc := 57) C dX11_years_57 gk_11 fl_X11_29 sh_0 rfl ?_
      obtain ⟨M2, e3, h⟩ := gs_o1 h
      refine gs_callVv (pc := 60) C [.ref 9] dX11_years_60 ml_X11_216 wy_X0_keep (a_X0_keep _ e3) (by decide) sh_13 (by decide) rfl rfl (Nat.le_of_ble_eq_true rfl) rfl ?_
      refine gs_aload_n (pc := 63) C 0 dX11_years_63 rfl rfl ?_
      refine gs_getq (pc := 64) C dX11_years_64 gk_11 fl_X11_80 sh_0 rfl ?_
      refine gs_aload_n (pc := 67) C 0 dX11_years_67 rfl rfl ?_
      refine gs_geti (pc := 68) C dX11_years_68 gk_11 fl_X11_110 sh_0 rfl ?_
      obtain ⟨M4, L5, e6, h⟩ := gs_o2 h
      refine gs_callVv (pc := 71) C [.int (M2 0 15)] dX11_years_71 ml_X11_257 wy_X5_year (a_X5_year _ e6) (by decide) sh_132 (by decide) rfl rfl (Nat.le_of_ble_eq_true rfl) rfl ?_
      refine gs_iinc (v := x4 + (1 : Int32)) (ls' := [(4, .int (x4 + (1 : Int32))), (0, .ref 0), (1, .int x1), (2, .long x2)]) (pc := 74) C 3 dX11_years_74 rfl rfl (by decide) rfl ?_
      refine gs_goto (pc := 77) C 46 dX11_years_77 rfl ?_
      exact gs_sub [1, 2, 3, 0] rfl (ih _ _ _ h)
set_option maxRecDepth 100000 in
set_option maxHeartbeats 4000000 in
theorem a_X11_years (l : Launch) {M : gs_M} {L : gs_L} {x1 : Int32} {x2 : Int64} {rv : Int32} {Mz : gs_M} {Lz : gs_L} (h : f_X11_years M L x1 x2 = some (rv, Mz, Lz)) : gs_Met l 7 yX11_years cX11_years 5 (some .int) [.ref 0, .int x1, .long x2] M L (some (.int rv)) Mz Lz := by
  unfold f_X11_years at h
  refine gs_of RX11 (by decide) rfl (Nat.le_of_ble_eq_true rfl) (fun X C E => ?_)
  show gs_AW X 0 [(0, .ref 0), (1, .int x1), (2, .long x2)] [] M L
  refine gs_aload_n (pc := 0) C 0 dX11_years_0 rfl rfl ?_
  obtain ⟨v1, e2, h⟩ := gs_o1 h
  refine gs_callVi (pc := 1) C [] dX11_years_1 ml_X11_172 wy_X11_hasTown (a_X11_hasTown _ e2) (by decide) sh_0 (by decide) rfl rfl (Nat.le_of_ble_eq_true rfl) rfl ?_
  refine gs_if_eq (pc := 4) C 33 dX11_years_4 rfl (fun c3 => ?_) (fun c3 => ?_)
  · replace h := gs_ift c3 h
    refine gs_iconst (w := (-1)) (pc := 33) C dX11_years_33 rfl ?_
    obtain ⟨rfl, rfl, rfl⟩ := gs_i3 h
    exact gs_iret (pc := 34) C dX11_years_34 E
  · replace h := gs_iff c3 h
    refine gs_iload_n (pc := 7) C 1 dX11_years_7 rfl rfl ?_
    refine gs_iconst (w := 1) (pc := 8) C dX11_years_8 rfl ?_
    refine gs_icmp_lt (pc := 9) C 33 dX11_years_9 rfl (fun c4 => ?_) (fun c4 => ?_)
    · replace h := gs_ift c4 h
      refine gs_iconst (w := (-1)) (pc := 33) C dX11_years_33 rfl ?_
      obtain ⟨rfl, rfl, rfl⟩ := gs_i3 h
      exact gs_iret (pc := 34) C dX11_years_34 E
    · replace h := gs_iff c4 h
      refine gs_iload_n (pc := 12) C 1 dX11_years_12 rfl rfl ?_
      refine gs_bipush (w := 30) (pc := 13) C dX11_years_13 rfl ?_
      refine gs_icmp_gt (pc := 15) C 33 dX11_years_15 rfl (fun c5 => ?_) (fun c5 => ?_)
      · replace h := gs_ift c5 h
        refine gs_iconst (w := (-1)) (pc := 33) C dX11_years_33 rfl ?_
        obtain ⟨rfl, rfl, rfl⟩ := gs_i3 h
        exact gs_iret (pc := 34) C dX11_years_34 E
      · replace h := gs_iff c5 h
        refine gs_aload_n (pc := 18) C 0 dX11_years_18 rfl rfl ?_
        refine gs_getq (pc := 19) C dX11_years_19 gk_11 fl_X11_29 sh_0 rfl ?_
        obtain ⟨v6, e7, h⟩ := gs_o1 h
        refine gs_callVi (pc := 22) C [] dX11_years_22 ml_X11_227 wy_X6_now (a_X6_now _ e7) (by decide) sh_9 (by decide) rfl rfl (Nat.le_of_ble_eq_true rfl) rfl ?_
        refine gs_sipush (w := 999) (pc := 25) C dX11_years_25 rfl ?_
        refine gs_iload_n (pc := 28) C 1 dX11_years_28 rfl rfl ?_
        refine gs_isub (pc := 29) C dX11_years_29 ?_
        refine gs_icmp_le (pc := 30) C 35 dX11_years_30 rfl (fun c8 => ?_) (fun c8 => ?_)
        · replace h := gs_ift c8 h
          refine gs_aload_n (pc := 35) C 0 dX11_years_35 rfl rfl ?_
          refine gs_getq (pc := 36) C dX11_years_36 gk_11 fl_X11_80 sh_0 rfl ?_
          refine gs_lload_n (pc := 39) C 2 dX11_years_39 rfl rfl ?_
          obtain ⟨L9, e10, h⟩ := gs_o1 h
          refine gs_callVv (pc := 40) C [.long x2] dX11_years_40 ml_X11_230 wy_X5_sow (a_X5_sow _ e10) (by decide) sh_132 (by decide) rfl rfl (Nat.le_of_ble_eq_true rfl) rfl ?_
          refine gs_iconst (w := 0) (pc := 43) C dX11_years_43 rfl ?_
          refine gs_istore (ls' := [(4, .int (0 : Int32)), (0, .ref 0), (1, .int x1), (2, .long x2)]) (pc := 44) C dX11_years_44 (by decide) rfl ?_
          obtain ⟨y11, M12, L13, e14, h⟩ := gs_o3 h
          refine gs_sub [1, 2, 3, 0] rfl (t_X11_years_46 C ?_ gs_FU _ _ _ e14)
          refine gs_aload_n (pc := 80) C 0 dX11_years_80 rfl rfl ?_
          refine gs_getq (pc := 81) C dX11_years_81 gk_11 fl_X11_29 sh_0 rfl ?_
          obtain ⟨v15, e16, h⟩ := gs_o1 h
          refine gs_callVi (pc := 84) C [] dX11_years_84 ml_X11_227 wy_X6_now (a_X6_now _ e16) (by decide) sh_9 (by decide) rfl rfl (Nat.le_of_ble_eq_true rfl) rfl ?_
          obtain ⟨rfl, rfl, rfl⟩ := gs_i3 h
          exact gs_iret (pc := 87) C dX11_years_87 E
        · replace h := gs_iff c8 h
          refine gs_iconst (w := (-1)) (pc := 33) C dX11_years_33 rfl ?_
          obtain ⟨rfl, rfl, rfl⟩ := gs_i3 h
          exact gs_iret (pc := 34) C dX11_years_34 E
set_option maxRecDepth 100000 in
set_option maxHeartbeats 4000000 in
theorem a_X12_isPerson (l : Launch) {M : gs_M} {L : gs_L} {x1 : Int32} {rv : Int32} (h : f_X12_isPerson M x1 = some (rv)) : gs_Met l 0 yX12_isPerson cX12_isPerson 2 (some .boolean) [.ref 147, .int x1] M L (some (.int rv)) M L := by
  unfold f_X12_isPerson at h
  refine gs_of RX12 (by decide) rfl (Nat.le_of_ble_eq_true rfl) (fun X C E => ?_)
  show gs_AW X 0 [(0, .ref 147), (1, .int x1)] [] M L
  refine gs_iload_n (pc := 0) C 1 dX12_isPerson_0 rfl rfl ?_
  have j3 : gs_AW X 17 [(0, .ref 147), (1, .int x1)] [.int (if x1 < (0 : Int32) then (0 : Int32) else if (M 147 24) ≤ x1 then (0 : Int32) else (1 : Int32) : Int32)] M L := by
    obtain ⟨z1, e2, h⟩ := gs_o1 h
    obtain rfl := gs_i1 h
    exact gs_zret' (pc := 17) C dX12_isPerson_17 e2 E
  refine gs_if_lt (pc := 1) C 16 dX12_isPerson_1 rfl (fun c4 => ?_) (fun c4 => ?_)
  · refine gs_iconst (w := 0) (pc := 16) C dX12_isPerson_16 rfl ?_
    simp only [if_pos c4] at j3
    exact j3
  · refine gs_iload_n (pc := 4) C 1 dX12_isPerson_4 rfl rfl ?_
    refine gs_aload_n (pc := 5) C 0 dX12_isPerson_5 rfl rfl ?_
    refine gs_geti (pc := 6) C dX12_isPerson_6 gk_12 fl_X12_286 sh_147 rfl ?_
    refine gs_icmp_ge (pc := 9) C 16 dX12_isPerson_9 rfl (fun c5 => ?_) (fun c5 => ?_)
    · refine gs_iconst (w := 0) (pc := 16) C dX12_isPerson_16 rfl ?_
      simp only [if_neg c4, if_pos c5] at j3
      exact j3
    · refine gs_iconst (w := 1) (pc := 12) C dX12_isPerson_12 rfl ?_
      refine gs_goto (pc := 13) C 17 dX12_isPerson_13 rfl ?_
      simp only [if_neg c4, if_neg c5] at j3
      exact j3
set_option maxRecDepth 100000 in
set_option maxHeartbeats 4000000 in
theorem a_X12_isIn (l : Launch) {M : gs_M} {L : gs_L} {x0 : Int64} {x2 : Int64} {x4 : Int64} {rv : Int32} (h : f_X12_isIn x0 x2 x4 = some (rv)) : gs_Met l 0 yX12_isIn cX12_isIn 6 (some .boolean) [.long x0, .long x2, .long x4] M L (some (.int rv)) M L := by
  unfold f_X12_isIn at h
  refine gs_of RX12 (by decide) rfl (Nat.le_of_ble_eq_true rfl) (fun X C E => ?_)
  show gs_AW X 0 [(0, .long x0), (2, .long x2), (4, .long x4)] [] M L
  refine gs_lload_n (pc := 0) C 0 dX12_isIn_0 rfl rfl ?_
  refine gs_lload_n (pc := 1) C 1 dX12_isIn_1 rfl rfl ?_
  refine gs_lcmp (pc := 2) C dX12_isIn_2 ?_
  have j3 : gs_AW X 18 [(0, .long x0), (2, .long x2), (4, .long x4)] [.int (if (lg_cmp x0 x2) < (0 : Int32) then (0 : Int32) else if (0 : Int32) < (lg_cmp x0 x4) then (0 : Int32) else (1 : Int32) : Int32)] M L := by
    obtain ⟨z1, e2, h⟩ := gs_o1 h
    obtain rfl := gs_i1 h
    exact gs_zret' (pc := 18) C dX12_isIn_18 e2 E
  refine gs_if_lt (pc := 3) C 17 dX12_isIn_3 rfl (fun c4 => ?_) (fun c4 => ?_)
  · refine gs_iconst (w := 0) (pc := 17) C dX12_isIn_17 rfl ?_
    simp only [if_pos c4] at j3
    exact j3
  · refine gs_lload_n (pc := 6) C 0 dX12_isIn_6 rfl rfl ?_
    refine gs_lload (pc := 7) C 2 dX12_isIn_7 rfl ?_
    refine gs_lcmp (pc := 9) C dX12_isIn_9 ?_
    refine gs_if_gt (pc := 10) C 17 dX12_isIn_10 rfl (fun c5 => ?_) (fun c5 => ?_)
    · refine gs_iconst (w := 0) (pc := 17) C dX12_isIn_17 rfl ?_
      simp only [if_neg c4, if_pos c5] at j3
      exact j3
    · refine gs_iconst (w := 1) (pc := 13) C dX12_isIn_13 rfl ?_
      refine gs_goto (pc := 14) C 18 dX12_isIn_14 rfl ?_
      simp only [if_neg c4, if_neg c5] at j3
      exact j3
set_option maxRecDepth 100000 in
set_option maxHeartbeats 4000000 in
theorem a_X12_of (l : Launch) {M : gs_M} {L : gs_L} {x1 : Int32} {x2 : Int32} {rv : Int32} (h : f_X12_of M x1 x2 = some (rv)) : gs_Met l 0 yX12_of cX12_of 3 (some .int) [.ref 147, .int x1, .int x2] M L (some (.int rv)) M L := by
  unfold f_X12_of at h
  refine gs_of RX12 (by decide) rfl (Nat.le_of_ble_eq_true rfl) (fun X C E => ?_)
  show gs_AW X 0 [(0, .ref 147), (1, .int x1), (2, .int x2)] [] M L
  refine gs_aload_n (pc := 0) C 0 dX12_of_0 rfl rfl ?_
  refine gs_getq (pc := 1) C dX12_of_1 gk_12 fl_X12_55 sh_147 rfl ?_
  refine gs_bipush (w := 6) (pc := 4) C dX12_of_4 rfl ?_
  refine gs_iload_n (pc := 6) C 1 dX12_of_6 rfl rfl ?_
  refine gs_imul (pc := 7) C dX12_of_7 ?_
  refine gs_iload_n (pc := 8) C 2 dX12_of_8 rfl rfl ?_
  refine gs_iadd (pc := 9) C dX12_of_9 ?_
  obtain ⟨v1, e2, h⟩ := gs_o1 h
  refine gs_iald (pc := 10) C dX12_of_10 sh_158 e2 ?_
  obtain rfl := gs_i1 h
  exact gs_iret (pc := 11) C dX12_of_11 E
set_option maxRecDepth 100000 in
set_option maxHeartbeats 4000000 in
theorem a_X12_conscience (l : Launch) {M : gs_M} {L : gs_L} {x1 : Int32} {rv : Int32} (h : f_X12_conscience M x1 = some (rv)) : gs_Met l 0 yX12_conscience cX12_conscience 2 (some .int) [.ref 147, .int x1] M L (some (.int rv)) M L := by
  unfold f_X12_conscience at h
  refine gs_of RX12 (by decide) rfl (Nat.le_of_ble_eq_true rfl) (fun X C E => ?_)
  show gs_AW X 0 [(0, .ref 147), (1, .int x1)] [] M L
  refine gs_aload_n (pc := 0) C 0 dX12_conscience_0 rfl rfl ?_
  refine gs_getq (pc := 1) C dX12_conscience_1 gk_12 fl_X12_43 sh_147 rfl ?_
  refine gs_iconst (w := 5) (pc := 4) C dX12_conscience_4 rfl ?_
  refine gs_iload_n (pc := 5) C 1 dX12_conscience_5 rfl rfl ?_
  refine gs_imul (pc := 6) C dX12_conscience_6 ?_
  refine gs_iconst (w := 1) (pc := 7) C dX12_conscience_7 rfl ?_
  refine gs_iadd (pc := 8) C dX12_conscience_8 ?_
  obtain ⟨v1, e2, h⟩ := gs_o1 h
  refine gs_iald (pc := 9) C dX12_conscience_9 sh_154 e2 ?_
  obtain rfl := gs_i1 h
  exact gs_iret (pc := 10) C dX12_conscience_10 E
set_option maxRecDepth 100000 in
set_option maxHeartbeats 4000000 in
theorem a_X12_lay (l : Launch) {M : gs_M} {L : gs_L} {x1 : Int32} {x2 : Int32} {x3 : Int32} {x4 : Int32} {x5 : Int32} {Mz : gs_M} (h : f_X12_lay M x1 x2 x3 x4 x5 = some (Mz)) : gs_Met l 1 yX12_lay cX12_lay 6 none [.ref 147, .int x1, .int x2, .int x3, .int x4, .int x5] M L none Mz L := by
  unfold f_X12_lay at h
  refine gs_of RX12 (by decide) rfl (Nat.le_of_ble_eq_true rfl) (fun X C E => ?_)
  show gs_AW X 0 [(0, .ref 147), (1, .int x1), (2, .int x2), (3, .int x3), (4, .int x4), (5, .int x5)] [] M L
  refine gs_aload_n (pc := 0) C 0 dX12_lay_0 rfl rfl ?_
  refine gs_getq (pc := 1) C dX12_lay_1 gk_12 fl_X12_20 sh_147 rfl ?_
  refine gs_bipush (w := 103) (pc := 4) C dX12_lay_4 rfl ?_
  refine gs_iload_n (pc := 6) C 1 dX12_lay_6 rfl rfl ?_
  obtain ⟨M2, e1, h⟩ := gs_o1 h
  refine gs_iast (pc := 7) C dX12_lay_7 sh_151 e1 ?_
  refine gs_aload_n (pc := 8) C 0 dX12_lay_8 rfl rfl ?_
  refine gs_getq (pc := 9) C dX12_lay_9 gk_12 fl_X12_20 sh_147 rfl ?_
  refine gs_bipush (w := 99) (pc := 12) C dX12_lay_12 rfl ?_
  refine gs_aload_n (pc := 14) C 0 dX12_lay_14 rfl rfl ?_
  refine gs_iload_n (pc := 15) C 2 dX12_lay_15 rfl rfl ?_
  obtain ⟨v3, e4, h⟩ := gs_o1 h
  refine gs_callVi (pc := 16) C [.int x2] dX12_lay_16 ml_X12_298 wy_X12_conscience (a_X12_conscience _ e4) (by decide) sh_147 (by decide) rfl rfl (Nat.le_of_ble_eq_true rfl) rfl ?_
  obtain ⟨M6, e5, h⟩ := gs_o1 h
  refine gs_iast (pc := 19) C dX12_lay_19 sh_151 e5 ?_
  refine gs_aload_n (pc := 20) C 0 dX12_lay_20 rfl rfl ?_
  refine gs_getq (pc := 21) C dX12_lay_21 gk_12 fl_X12_20 sh_147 rfl ?_
  refine gs_bipush (w := 119) (pc := 24) C dX12_lay_24 rfl ?_
  refine gs_aload_n (pc := 26) C 0 dX12_lay_26 rfl rfl ?_
  refine gs_iload_n (pc := 27) C 2 dX12_lay_27 rfl rfl ?_
  refine gs_iconst (w := 1) (pc := 28) C dX12_lay_28 rfl ?_
  obtain ⟨v7, e8, h⟩ := gs_o1 h
  refine gs_callVi (pc := 29) C [.int x2, .int (1 : Int32)] dX12_lay_29 ml_X12_301 wy_X12_of (a_X12_of _ e8) (by decide) sh_147 (by decide) rfl rfl (Nat.le_of_ble_eq_true rfl) rfl ?_
  obtain ⟨M10, e9, h⟩ := gs_o1 h
  refine gs_iast (pc := 32) C dX12_lay_32 sh_151 e9 ?_
  refine gs_aload_n (pc := 33) C 0 dX12_lay_33 rfl rfl ?_
  refine gs_getq (pc := 34) C dX12_lay_34 gk_12 fl_X12_20 sh_147 rfl ?_
  refine gs_bipush (w := 116) (pc := 37) C dX12_lay_37 rfl ?_
  refine gs_iload_n (pc := 39) C 3 dX12_lay_39 rfl rfl ?_
  obtain ⟨M12, e11, h⟩ := gs_o1 h
  refine gs_iast (pc := 40) C dX12_lay_40 sh_151 e11 ?_
  refine gs_aload_n (pc := 41) C 0 dX12_lay_41 rfl rfl ?_
  refine gs_getq (pc := 42) C dX12_lay_42 gk_12 fl_X12_20 sh_147 rfl ?_
  refine gs_bipush (w := 104) (pc := 45) C dX12_lay_45 rfl ?_
  refine gs_iload (pc := 47) C 4 dX12_lay_47 rfl ?_
  obtain ⟨M14, e13, h⟩ := gs_o1 h
  refine gs_iast (pc := 49) C dX12_lay_49 sh_151 e13 ?_
  refine gs_aload_n (pc := 50) C 0 dX12_lay_50 rfl rfl ?_
  refine gs_getq (pc := 51) C dX12_lay_51 gk_12 fl_X12_20 sh_147 rfl ?_
  refine gs_bipush (w := 97) (pc := 54) C dX12_lay_54 rfl ?_
  refine gs_iload (pc := 56) C 5 dX12_lay_56 rfl ?_
  obtain ⟨M16, e15, h⟩ := gs_o1 h
  refine gs_iast (pc := 58) C dX12_lay_58 sh_151 e15 ?_
  obtain rfl := gs_i1 h
  exact gs_vret (pc := 59) C dX12_lay_59 E
set_option maxRecDepth 100000 in
set_option maxHeartbeats 4000000 in
theorem a_X12_starts (l : Launch) {M : gs_M} {L : gs_L} {x2 : Int32} {x3 : Int32} {Mz : gs_M} (h : f_X12_starts M x2 x3 = some (Mz)) : gs_Met l 0 yX12_starts cX12_starts 4 none [.ref 147, .ref 149, .int x2, .int x3] M L none Mz L := by
  unfold f_X12_starts at h
  refine gs_of RX12 (by decide) rfl (Nat.le_of_ble_eq_true rfl) (fun X C E => ?_)
  show gs_AW X 0 [(0, .ref 147), (1, .ref 149), (2, .int x2), (3, .int x3)] [] M L
  refine gs_aload_n (pc := 0) C 0 dX12_starts_0 rfl rfl ?_
  refine gs_aload_n (pc := 1) C 1 dX12_starts_1 rfl rfl ?_
  obtain ⟨M2, e1, h⟩ := gs_o1 h
  refine gs_putr' (pc := 2) C (Or.inr rfl) (by decide) dX12_starts_2 gk_12 fp_X12_23 sh_147 rfl e1 ?_
  refine gs_aload_n (pc := 5) C 0 dX12_starts_5 rfl rfl ?_
  refine gs_iload_n (pc := 6) C 2 dX12_starts_6 rfl rfl ?_
  obtain ⟨M4, e3, h⟩ := gs_o1 h
  refine gs_puti' (pc := 7) C dX12_starts_7 gk_12 fp_X12_129 sh_147 rfl e3 ?_
  refine gs_aload_n (pc := 10) C 0 dX12_starts_10 rfl rfl ?_
  refine gs_iload_n (pc := 11) C 3 dX12_starts_11 rfl rfl ?_
  obtain ⟨M6, e5, h⟩ := gs_o1 h
  refine gs_puti' (pc := 12) C dX12_starts_12 gk_12 fp_X12_126 sh_147 rfl e5 ?_
  refine gs_aload_n (pc := 15) C 0 dX12_starts_15 rfl rfl ?_
  refine gs_iconst (w := 0) (pc := 16) C dX12_starts_16 rfl ?_
  obtain ⟨M8, e7, h⟩ := gs_o1 h
  refine gs_puti' (pc := 17) C dX12_starts_17 gk_12 fp_X12_123 sh_147 rfl e7 ?_
  refine gs_aload_n (pc := 20) C 0 dX12_starts_20 rfl rfl ?_
  refine gs_iconst (w := (-1)) (pc := 21) C dX12_starts_21 rfl ?_
  obtain ⟨M10, e9, h⟩ := gs_o1 h
  refine gs_puti' (pc := 22) C dX12_starts_22 gk_12 fp_X12_132 sh_147 rfl e9 ?_
  obtain rfl := gs_i1 h
  exact gs_vret (pc := 25) C dX12_starts_25 E
set_option maxRecDepth 100000 in
set_option maxHeartbeats 4000000 in
theorem t_X12_look_0 {X : gs_X} (C : gs_C X RX12 cX12_look 1 (some .int) 0) {L : gs_L} {M' : gs_M} (k : gs_AW X 43 [(0, .ref 147)] [] M' L) : ∀ (f : Nat) (M : gs_M), l_X12_look_0  f M = some (M') → gs_AW X 0 [(0, .ref 147)] [] M L := by
  intro f
  induction f with
  | zero =>
    intro M h
    cases h
  | succ f ih =>
    intro M h
    rw [l_X12_look_0] at h
    refine gs_aload_n (pc := 0) C 0 dX12_look_0 rfl rfl ?_
    refine gs_geti (pc := 1) C dX12_look_1 gk_12 fl_X12_123 sh_147 rfl ?_
    refine gs_aload_n (pc := 4) C 0 dX12_look_4 rfl rfl ?_
    refine gs_geti (pc := 5) C dX12_look_5 gk_12 fl_X12_126 sh_147 rfl ?_
    refine gs_icmp_ge (pc := 8) C 43 dX12_look_8 rfl (fun c1 => ?_) (fun c1 => ?_)
    · replace h := gs_ift c1 h
      obtain rfl := gs_i1 h
      exact k
    · replace h := gs_iff c1 h
      refine gs_aload_n (pc := 11) C 0 dX12_look_11 rfl rfl ?_
      obtain ⟨r2, e3, h⟩ := gs_o1 h
      refine gs_getmB (pc := 12) C dX12_look_12 gk_12 fl_X12_23 sh_147 rfl e3 ?_
      refine gs_aload_n (pc := 15) C 0 dX12_look_15 rfl rfl ?_
      refine gs_geti (pc := 16) C dX12_look_16 gk_12 fl_X12_129 sh_147 rfl ?_
      refine gs_aload_n (pc := 19) C 0 dX12_look_19 rfl rfl ?_
      refine gs_geti (pc := 20) C dX12_look_20 gk_12 fl_X12_123 sh_147 rfl ?_
      refine gs_iadd (pc := 23) C dX12_look_23 ?_
      obtain ⟨v4, e5, h⟩ := gs_o1 h
      refine gs_bald (pc := 24) C dX12_look_24 (gs_ckB_sh e3) e5 ?_
      refine gs_bipush (w := 32) (pc := 25) C dX12_look_25 rfl ?_
      refine gs_icmp_ne (pc := 27) C 43 dX12_look_27 rfl (fun c6 => ?_) (fun c6 => ?_)
      · replace h := gs_iff c6 h
        obtain rfl := gs_i1 h
        exact k
      · replace h := gs_ift c6 h
        refine gs_aload_n (pc := 30) C 0 dX12_look_30 rfl rfl ?_
        refine gs_dup (pc := 31) C dX12_look_31 rfl ?_
        refine gs_geti (pc := 32) C dX12_look_32 gk_12 fl_X12_123 sh_147 rfl ?_
        refine gs_iconst (w := 1) (pc := 35) C dX12_look_35 rfl ?_
        refine gs_iadd (pc := 36) C dX12_look_36 ?_
        obtain ⟨M8, e7, h⟩ := gs_o1 h
        refine gs_puti' (pc := 37) C dX12_look_37 gk_12 fp_X12_123 sh_147 rfl e7 ?_
        refine gs_goto (pc := 40) C 0 dX12_look_40 rfl ?_
        exact ih _ h
set_option maxRecDepth 100000 in
set_option maxHeartbeats 4000000 in
theorem a_X12_look (l : Launch) {M : gs_M} {L : gs_L} {rv : Int32} {Mz : gs_M} (h : f_X12_look M = some (rv, Mz)) : gs_Met l 0 yX12_look cX12_look 1 (some .int) [.ref 147] M L (some (.int rv)) Mz L := by
  unfold f_X12_look at h
  refine gs_of RX12 (by decide) rfl (Nat.le_of_ble_eq_true rfl) (fun X C E => ?_)
  show gs_AW X 0 [(0, .ref 147)] [] M L
  obtain ⟨M1, e2, h⟩ := gs_o1 h
  refine t_X12_look_0 C ?_ gs_FU _ e2
  refine gs_aload_n (pc := 43) C 0 dX12_look_43 rfl rfl ?_
  refine gs_geti (pc := 44) C dX12_look_44 gk_12 fl_X12_123 sh_147 rfl ?_
  refine gs_aload_n (pc := 47) C 0 dX12_look_47 rfl rfl ?_
  refine gs_geti (pc := 48) C dX12_look_48 gk_12 fl_X12_126 sh_147 rfl ?_
  obtain ⟨y3, e4, h⟩ := gs_o1 h
  have j5 : gs_AW X 76 [(0, .ref 147)] [.int y3] M1 L := by
    obtain ⟨rfl, rfl⟩ := gs_i2 h
    exact gs_iret (pc := 76) C dX12_look_76 E
  refine gs_icmp_ge (pc := 51) C 75 dX12_look_51 rfl (fun c6 => ?_) (fun c6 => ?_)
  · replace e4 := gs_ift c6 e4
    refine gs_iconst (w := (-1)) (pc := 75) C dX12_look_75 rfl ?_
    obtain rfl := gs_i1 e4
    exact j5
  · replace e4 := gs_iff c6 e4
    refine gs_aload_n (pc := 54) C 0 dX12_look_54 rfl rfl ?_
    obtain ⟨r7, e8, e4⟩ := gs_o1 e4
    refine gs_getmB (pc := 55) C dX12_look_55 gk_12 fl_X12_23 sh_147 rfl e8 ?_
    refine gs_aload_n (pc := 58) C 0 dX12_look_58 rfl rfl ?_
    refine gs_geti (pc := 59) C dX12_look_59 gk_12 fl_X12_129 sh_147 rfl ?_
    refine gs_aload_n (pc := 62) C 0 dX12_look_62 rfl rfl ?_
    refine gs_geti (pc := 63) C dX12_look_63 gk_12 fl_X12_123 sh_147 rfl ?_
    refine gs_iadd (pc := 66) C dX12_look_66 ?_
    obtain ⟨v9, e10, e4⟩ := gs_o1 e4
    refine gs_bald (pc := 67) C dX12_look_67 (gs_ckB_sh e8) e10 ?_
    refine gs_sipush (w := 255) (pc := 68) C dX12_look_68 rfl ?_
    refine gs_iand (pc := 71) C dX12_look_71 ?_
    refine gs_goto (pc := 72) C 76 dX12_look_72 rfl ?_
    obtain rfl := gs_i1 e4
    exact j5
set_option maxRecDepth 100000 in
set_option maxHeartbeats 4000000 in
theorem t_X12_isAmong_2 {X : gs_X} (C : gs_C X RX12 cX12_isAmong 3 (some .boolean) 9) {M : gs_M} {L : gs_L} {x1 : Int32} {rv : Int32} (E : gs_E X (some (.int rv)) M L) : ∀ (f : Nat) (x2 : Int32), l_X12_isAmong_2 x1 f x2 = some (rv) → gs_AW X 2 [(0, .ref 1003), (1, .int x1), (2, .int x2)] [] M L := by
  intro f
  induction f with
  | zero =>
    intro x2 h
    cases h
  | succ f ih =>
    intro x2 h
    rw [l_X12_isAmong_2] at h
    refine gs_iload_n (pc := 2) C 2 dX12_isAmong_2 rfl rfl ?_
    refine gs_aload_n (pc := 3) C 0 dX12_isAmong_3 rfl rfl ?_
    refine gs_strlen (pc := 4) C 3 (by decide) dX12_isAmong_4 ml_X12_103 (by decide) (Nat.le_of_ble_eq_true rfl) ?_
    refine gs_icmp_ge (pc := 7) C 27 dX12_isAmong_7 rfl (fun c1 => ?_) (fun c1 => ?_)
    · replace h := gs_ift c1 h
      refine gs_iconst (w := 0) (pc := 27) C dX12_isAmong_27 rfl ?_
      obtain rfl := gs_i1 h
      exact gs_zret (pc := 28) C (by decide) dX12_isAmong_28 E
    · replace h := gs_iff c1 h
      refine gs_aload_n (pc := 10) C 0 dX12_isAmong_10 rfl rfl ?_
      refine gs_iload_n (pc := 11) C 2 dX12_isAmong_11 rfl rfl ?_
      obtain ⟨v2, e3, h⟩ := gs_o1 h
      refine gs_strchr (pc := 12) C 3 (by decide) dX12_isAmong_12 ml_X12_109 (by decide) (Nat.le_of_ble_eq_true rfl) e3 ?_
      refine gs_iload_n (pc := 15) C 1 dX12_isAmong_15 rfl rfl ?_
      refine gs_icmp_ne (pc := 16) C 21 dX12_isAmong_16 rfl (fun c4 => ?_) (fun c4 => ?_)
      · replace h := gs_iff c4 h
        refine gs_iinc (v := x2 + (1 : Int32)) (ls' := [(2, .int (x2 + (1 : Int32))), (0, .ref 1003), (1, .int x1)]) (pc := 21) C 2 dX12_isAmong_21 rfl rfl (by decide) rfl ?_
        refine gs_goto (pc := 24) C 2 dX12_isAmong_24 rfl ?_
        exact gs_sub [1, 2, 0] rfl (ih _ h)
      · replace h := gs_ift c4 h
        refine gs_iconst (w := 1) (pc := 19) C dX12_isAmong_19 rfl ?_
        obtain rfl := gs_i1 h
        exact gs_zret (pc := 20) C (by decide) dX12_isAmong_20 E
set_option maxRecDepth 100000 in
set_option maxHeartbeats 4000000 in
theorem a_X12_isAmong (l : Launch) {M : gs_M} {L : gs_L} {x1 : Int32} {rv : Int32} (h : f_X12_isAmong x1 = some (rv)) : gs_Met l 9 yX12_isAmong cX12_isAmong 3 (some .boolean) [.ref 1003, .int x1] M L (some (.int rv)) M L := by
  unfold f_X12_isAmong at h
  refine gs_of RX12 (by decide) rfl (Nat.le_of_ble_eq_true rfl) (fun X C E => ?_)
  show gs_AW X 0 [(0, .ref 1003), (1, .int x1)] [] M L
  refine gs_iconst (w := 0) (pc := 0) C dX12_isAmong_0 rfl ?_
  refine gs_istore_n (ls' := [(2, .int (0 : Int32)), (0, .ref 1003), (1, .int x1)]) (pc := 1) C dX12_isAmong_1 rfl (by decide) rfl ?_
  exact gs_sub [1, 2, 0] rfl (t_X12_isAmong_2 C E gs_FU _ h)
set_option maxRecDepth 100000 in
set_option maxHeartbeats 4000000 in
theorem a_X12_fails (l : Launch) {M : gs_M} {L : gs_L} {rv : Int32} {Mz : gs_M} (h : f_X12_fails M = some (rv, Mz)) : gs_Met l 0 yX12_fails cX12_fails 1 (some .boolean) [.ref 147] M L (some (.int rv)) Mz L := by
  unfold f_X12_fails at h
  refine gs_of RX12 (by decide) rfl (Nat.le_of_ble_eq_true rfl) (fun X C E => ?_)
  show gs_AW X 0 [(0, .ref 147)] [] M L
  refine gs_aload_n (pc := 0) C 0 dX12_fails_0 rfl rfl ?_
  refine gs_geti (pc := 1) C dX12_fails_1 gk_12 fl_X12_132 sh_147 rfl ?_
  refine gs_iconst (w := (-1)) (pc := 4) C dX12_fails_4 rfl ?_
  obtain ⟨M1, e2, h⟩ := gs_o1 h
  have j3 : gs_AW X 16 [(0, .ref 147)] [] M1 L := by
    refine gs_iconst (w := 0) (pc := 16) C dX12_fails_16 rfl ?_
    obtain ⟨rfl, rfl⟩ := gs_i2 h
    exact gs_zret (pc := 17) C (by decide) dX12_fails_17 E
  refine gs_icmp_ne (pc := 5) C 16 dX12_fails_5 rfl (fun c4 => ?_) (fun c4 => ?_)
  · replace e2 := gs_iff c4 e2
    obtain rfl := gs_i1 e2
    exact j3
  · replace e2 := gs_ift c4 e2
    refine gs_aload_n (pc := 8) C 0 dX12_fails_8 rfl rfl ?_
    refine gs_aload_n (pc := 9) C 0 dX12_fails_9 rfl rfl ?_
    refine gs_geti (pc := 10) C dX12_fails_10 gk_12 fl_X12_123 sh_147 rfl ?_
    obtain ⟨M6, e5, e2⟩ := gs_o1 e2
    refine gs_puti' (pc := 13) C dX12_fails_13 gk_12 fp_X12_132 sh_147 rfl e5 ?_
    obtain rfl := gs_i1 e2
    exact j3
set_option maxRecDepth 100000 in
set_option maxHeartbeats 4000000 in
theorem a_X12_takes (l : Launch) {M : gs_M} {L : gs_L} {x1 : Int32} {rv : Int32} {Mz : gs_M} (h : f_X12_takes M x1 = some (rv, Mz)) : gs_Met l 1 yX12_takes cX12_takes 2 (some .boolean) [.ref 147, .int x1] M L (some (.int rv)) Mz L := by
  unfold f_X12_takes at h
  refine gs_of RX12 (by decide) rfl (Nat.le_of_ble_eq_true rfl) (fun X C E => ?_)
  show gs_AW X 0 [(0, .ref 147), (1, .int x1)] [] M L
  refine gs_aload_n (pc := 0) C 0 dX12_takes_0 rfl rfl ?_
  refine gs_geti (pc := 1) C dX12_takes_1 gk_12 fl_X12_132 sh_147 rfl ?_
  refine gs_iconst (w := (-1)) (pc := 4) C dX12_takes_4 rfl ?_
  refine gs_icmp_ne (pc := 5) C 16 dX12_takes_5 rfl (fun c1 => ?_) (fun c1 => ?_)
  · replace h := gs_iff c1 h
    refine gs_aload_n (pc := 16) C 0 dX12_takes_16 rfl rfl ?_
    obtain ⟨v2, M3, e4, h⟩ := gs_o2 h
    refine gs_callVi (pc := 17) C [] dX12_takes_17 ml_X12_138 wy_X12_fails (a_X12_fails _ e4) (by decide) sh_147 (by decide) rfl rfl (Nat.le_of_ble_eq_true rfl) rfl ?_
    obtain ⟨z5, e6, h⟩ := gs_o1 h
    obtain ⟨rfl, rfl⟩ := gs_i2 h
    exact gs_zret' (pc := 20) C dX12_takes_20 e6 E
  · replace h := gs_ift c1 h
    refine gs_aload_n (pc := 8) C 0 dX12_takes_8 rfl rfl ?_
    obtain ⟨v7, M8, e9, h⟩ := gs_o2 h
    refine gs_callVi (pc := 9) C [] dX12_takes_9 ml_X12_142 wy_X12_look (a_X12_look _ e9) (by decide) sh_147 (by decide) rfl rfl (Nat.le_of_ble_eq_true rfl) rfl ?_
    refine gs_iload_n (pc := 12) C 1 dX12_takes_12 rfl rfl ?_
    refine gs_icmp_eq (pc := 13) C 21 dX12_takes_13 rfl (fun c10 => ?_) (fun c10 => ?_)
    · replace h := gs_ift c10 h
      refine gs_aload_n (pc := 21) C 0 dX12_takes_21 rfl rfl ?_
      refine gs_dup (pc := 22) C dX12_takes_22 rfl ?_
      refine gs_geti (pc := 23) C dX12_takes_23 gk_12 fl_X12_123 sh_147 rfl ?_
      refine gs_iconst (w := 1) (pc := 26) C dX12_takes_26 rfl ?_
      refine gs_iadd (pc := 27) C dX12_takes_27 ?_
      obtain ⟨M12, e11, h⟩ := gs_o1 h
      refine gs_puti' (pc := 28) C dX12_takes_28 gk_12 fp_X12_123 sh_147 rfl e11 ?_
      refine gs_iconst (w := 1) (pc := 31) C dX12_takes_31 rfl ?_
      obtain ⟨rfl, rfl⟩ := gs_i2 h
      exact gs_zret (pc := 32) C (by decide) dX12_takes_32 E
    · replace h := gs_iff c10 h
      refine gs_aload_n (pc := 16) C 0 dX12_takes_16 rfl rfl ?_
      obtain ⟨v13, M14, e15, h⟩ := gs_o2 h
      refine gs_callVi (pc := 17) C [] dX12_takes_17 ml_X12_138 wy_X12_fails (a_X12_fails _ e15) (by decide) sh_147 (by decide) rfl rfl (Nat.le_of_ble_eq_true rfl) rfl ?_
      obtain ⟨z16, e17, h⟩ := gs_o1 h
      obtain ⟨rfl, rfl⟩ := gs_i2 h
      exact gs_zret' (pc := 20) C dX12_takes_20 e17 E
set_option maxRecDepth 100000 in
set_option maxHeartbeats 4000000 in
theorem t_X12_isAmong_2_2 {X : gs_X} (C : gs_C X RX12 cX12_isAmong 3 (some .boolean) 9) {M : gs_M} {L : gs_L} {x1 : Int32} {rv : Int32} (E : gs_E X (some (.int rv)) M L) : ∀ (f : Nat) (x2 : Int32), l_X12_isAmong_2_2 x1 f x2 = some (rv) → gs_AW X 2 [(0, .ref 1002), (1, .int x1), (2, .int x2)] [] M L := by
  intro f
  induction f with
  | zero =>
    intro x2 h
    cases h
  | succ f ih =>
    intro x2 h
    rw [l_X12_isAmong_2_2] at h
    refine gs_iload_n (pc := 2) C 2 dX12_isAmong_2 rfl rfl ?_
    refine gs_aload_n (pc := 3) C 0 dX12_isAmong_3 rfl rfl ?_
    refine gs_strlen (pc := 4) C 2 (by decide) dX12_isAmong_4 ml_X12_103 (by decide) (Nat.le_of_ble_eq_true rfl) ?_
    refine gs_icmp_ge (pc := 7) C 27 dX12_isAmong_7 rfl (fun c1 => ?_) (fun c1 => ?_)
    · replace h := gs_ift c1 h
      refine gs_iconst (w := 0) (pc := 27) C dX12_isAmong_27 rfl ?_
      obtain rfl := gs_i1 h
      exact gs_zret (pc := 28) C (by decide) dX12_isAmong_28 E
    · replace h := gs_iff c1 h
      refine gs_aload_n (pc := 10) C 0 dX12_isAmong_10 rfl rfl ?_
      refine gs_iload_n (pc := 11) C 2 dX12_isAmong_11 rfl rfl ?_
      obtain ⟨v2, e3, h⟩ := gs_o1 h
      refine gs_strchr (pc := 12) C 2 (by decide) dX12_isAmong_12 ml_X12_109 (by decide) (Nat.le_of_ble_eq_true rfl) e3 ?_
      refine gs_iload_n (pc := 15) C 1 dX12_isAmong_15 rfl rfl ?_
      refine gs_icmp_ne (pc := 16) C 21 dX12_isAmong_16 rfl (fun c4 => ?_) (fun c4 => ?_)
      · replace h := gs_iff c4 h
        refine gs_iinc (v := x2 + (1 : Int32)) (ls' := [(2, .int (x2 + (1 : Int32))), (0, .ref 1002), (1, .int x1)]) (pc := 21) C 2 dX12_isAmong_21 rfl rfl (by decide) rfl ?_
        refine gs_goto (pc := 24) C 2 dX12_isAmong_24 rfl ?_
        exact gs_sub [1, 2, 0] rfl (ih _ h)
      · replace h := gs_ift c4 h
        refine gs_iconst (w := 1) (pc := 19) C dX12_isAmong_19 rfl ?_
        obtain rfl := gs_i1 h
        exact gs_zret (pc := 20) C (by decide) dX12_isAmong_20 E
set_option maxRecDepth 100000 in
set_option maxHeartbeats 4000000 in
theorem a_X12_isAmong_2 (l : Launch) {M : gs_M} {L : gs_L} {x1 : Int32} {rv : Int32} (h : f_X12_isAmong_2 x1 = some (rv)) : gs_Met l 9 yX12_isAmong cX12_isAmong 3 (some .boolean) [.ref 1002, .int x1] M L (some (.int rv)) M L := by
  unfold f_X12_isAmong_2 at h
  refine gs_of RX12 (by decide) rfl (Nat.le_of_ble_eq_true rfl) (fun X C E => ?_)
  show gs_AW X 0 [(0, .ref 1002), (1, .int x1)] [] M L
  refine gs_iconst (w := 0) (pc := 0) C dX12_isAmong_0 rfl ?_
  refine gs_istore_n (ls' := [(2, .int (0 : Int32)), (0, .ref 1002), (1, .int x1)]) (pc := 1) C dX12_isAmong_1 rfl (by decide) rfl ?_
  exact gs_sub [1, 2, 0] rfl (t_X12_isAmong_2_2 C E gs_FU _ h)
set_option maxRecDepth 100000 in
set_option maxHeartbeats 4000000 in
theorem a_X12_isDigit (l : Launch) {M : gs_M} {L : gs_L} {rv : Int32} (h : f_X12_isDigit M = some (rv)) : gs_Met l 0 yX12_isDigit cX12_isDigit 1 (some .boolean) [.ref 147] M L (some (.int rv)) M L := by
  unfold f_X12_isDigit at h
  refine gs_of RX12 (by decide) rfl (Nat.le_of_ble_eq_true rfl) (fun X C E => ?_)
  show gs_AW X 0 [(0, .ref 147)] [] M L
  refine gs_aload_n (pc := 0) C 0 dX12_isDigit_0 rfl rfl ?_
  refine gs_geti (pc := 1) C dX12_isDigit_1 gk_12 fl_X12_123 sh_147 rfl ?_
  refine gs_aload_n (pc := 4) C 0 dX12_isDigit_4 rfl rfl ?_
  refine gs_geti (pc := 5) C dX12_isDigit_5 gk_12 fl_X12_126 sh_147 rfl ?_
  obtain ⟨y1, e2, h⟩ := gs_o1 h
  have j3 : gs_AW X 54 [(0, .ref 147)] [.int y1] M L := by
    obtain ⟨z15, e16, h⟩ := gs_o1 h
    obtain rfl := gs_i1 h
    exact gs_zret' (pc := 54) C dX12_isDigit_54 e16 E
  refine gs_icmp_ge (pc := 8) C 53 dX12_isDigit_8 rfl (fun c4 => ?_) (fun c4 => ?_)
  · replace e2 := gs_ift c4 e2
    refine gs_iconst (w := 0) (pc := 53) C dX12_isDigit_53 rfl ?_
    obtain rfl := gs_i1 e2
    exact j3
  · replace e2 := gs_iff c4 e2
    refine gs_aload_n (pc := 11) C 0 dX12_isDigit_11 rfl rfl ?_
    obtain ⟨r5, e6, e2⟩ := gs_o1 e2
    refine gs_getmB (pc := 12) C dX12_isDigit_12 gk_12 fl_X12_23 sh_147 rfl e6 ?_
    refine gs_aload_n (pc := 15) C 0 dX12_isDigit_15 rfl rfl ?_
    refine gs_geti (pc := 16) C dX12_isDigit_16 gk_12 fl_X12_129 sh_147 rfl ?_
    refine gs_aload_n (pc := 19) C 0 dX12_isDigit_19 rfl rfl ?_
    refine gs_geti (pc := 20) C dX12_isDigit_20 gk_12 fl_X12_123 sh_147 rfl ?_
    refine gs_iadd (pc := 23) C dX12_isDigit_23 ?_
    obtain ⟨v7, e8, e2⟩ := gs_o1 e2
    refine gs_bald (pc := 24) C dX12_isDigit_24 (gs_ckB_sh e6) e8 ?_
    refine gs_bipush (w := 48) (pc := 25) C dX12_isDigit_25 rfl ?_
    refine gs_icmp_lt (pc := 27) C 53 dX12_isDigit_27 rfl (fun c9 => ?_) (fun c9 => ?_)
    · replace e2 := gs_ift c9 e2
      refine gs_iconst (w := 0) (pc := 53) C dX12_isDigit_53 rfl ?_
      obtain rfl := gs_i1 e2
      exact j3
    · replace e2 := gs_iff c9 e2
      refine gs_aload_n (pc := 30) C 0 dX12_isDigit_30 rfl rfl ?_
      obtain ⟨r10, e11, e2⟩ := gs_o1 e2
      refine gs_getmB (pc := 31) C dX12_isDigit_31 gk_12 fl_X12_23 sh_147 rfl e11 ?_
      refine gs_aload_n (pc := 34) C 0 dX12_isDigit_34 rfl rfl ?_
      refine gs_geti (pc := 35) C dX12_isDigit_35 gk_12 fl_X12_129 sh_147 rfl ?_
      refine gs_aload_n (pc := 38) C 0 dX12_isDigit_38 rfl rfl ?_
      refine gs_geti (pc := 39) C dX12_isDigit_39 gk_12 fl_X12_123 sh_147 rfl ?_
      refine gs_iadd (pc := 42) C dX12_isDigit_42 ?_
      obtain ⟨v12, e13, e2⟩ := gs_o1 e2
      refine gs_bald (pc := 43) C dX12_isDigit_43 (gs_ckB_sh e11) e13 ?_
      refine gs_bipush (w := 57) (pc := 44) C dX12_isDigit_44 rfl ?_
      refine gs_icmp_gt (pc := 46) C 53 dX12_isDigit_46 rfl (fun c14 => ?_) (fun c14 => ?_)
      · replace e2 := gs_ift c14 e2
        refine gs_iconst (w := 0) (pc := 53) C dX12_isDigit_53 rfl ?_
        obtain rfl := gs_i1 e2
        exact j3
      · replace e2 := gs_iff c14 e2
        refine gs_iconst (w := 1) (pc := 49) C dX12_isDigit_49 rfl ?_
        refine gs_goto (pc := 50) C 54 dX12_isDigit_50 rfl ?_
        obtain rfl := gs_i1 e2
        exact j3
set_option maxRecDepth 100000 in
set_option maxHeartbeats 4000000 in
theorem a_X12_goesIn (l : Launch) {M : gs_M} {L : gs_L} {rv : Int32} {Mz : gs_M} (h : f_X12_goesIn M = some (rv, Mz)) : gs_Met l 1 yX12_goesIn cX12_goesIn 1 (some .boolean) [.ref 147] M L (some (.int rv)) Mz L := by
  unfold f_X12_goesIn at h
  refine gs_of RX12 (by decide) rfl (Nat.le_of_ble_eq_true rfl) (fun X C E => ?_)
  show gs_AW X 0 [(0, .ref 147)] [] M L
  refine gs_aload_n (pc := 0) C 0 dX12_goesIn_0 rfl rfl ?_
  refine gs_geti (pc := 1) C dX12_goesIn_1 gk_12 fl_X12_135 sh_147 rfl ?_
  refine gs_bipush (w := 6) (pc := 4) C dX12_goesIn_4 rfl ?_
  refine gs_icmp_ne (pc := 6) C 14 dX12_goesIn_6 rfl (fun c1 => ?_) (fun c1 => ?_)
  · replace h := gs_iff c1 h
    refine gs_aload_n (pc := 14) C 0 dX12_goesIn_14 rfl rfl ?_
    refine gs_dup (pc := 15) C dX12_goesIn_15 rfl ?_
    refine gs_geti (pc := 16) C dX12_goesIn_16 gk_12 fl_X12_135 sh_147 rfl ?_
    refine gs_iconst (w := 1) (pc := 19) C dX12_goesIn_19 rfl ?_
    refine gs_iadd (pc := 20) C dX12_goesIn_20 ?_
    obtain ⟨M3, e2, h⟩ := gs_o1 h
    refine gs_puti' (pc := 21) C dX12_goesIn_21 gk_12 fp_X12_135 sh_147 rfl e2 ?_
    refine gs_aload_n (pc := 24) C 0 dX12_goesIn_24 rfl rfl ?_
    refine gs_dup (pc := 25) C dX12_goesIn_25 rfl ?_
    refine gs_geti (pc := 26) C dX12_goesIn_26 gk_12 fl_X12_123 sh_147 rfl ?_
    refine gs_iconst (w := 1) (pc := 29) C dX12_goesIn_29 rfl ?_
    refine gs_iadd (pc := 30) C dX12_goesIn_30 ?_
    obtain ⟨M5, e4, h⟩ := gs_o1 h
    refine gs_puti' (pc := 31) C dX12_goesIn_31 gk_12 fp_X12_123 sh_147 rfl e4 ?_
    refine gs_iconst (w := 1) (pc := 34) C dX12_goesIn_34 rfl ?_
    obtain ⟨rfl, rfl⟩ := gs_i2 h
    exact gs_zret (pc := 35) C (by decide) dX12_goesIn_35 E
  · replace h := gs_ift c1 h
    refine gs_aload_n (pc := 9) C 0 dX12_goesIn_9 rfl rfl ?_
    obtain ⟨v6, M7, e8, h⟩ := gs_o2 h
    refine gs_callVi (pc := 10) C [] dX12_goesIn_10 ml_X12_138 wy_X12_fails (a_X12_fails _ e8) (by decide) sh_147 (by decide) rfl rfl (Nat.le_of_ble_eq_true rfl) rfl ?_
    obtain ⟨z9, e10, h⟩ := gs_o1 h
    obtain ⟨rfl, rfl⟩ := gs_i2 h
    exact gs_zret' (pc := 13) C dX12_goesIn_13 e10 E
set_option maxRecDepth 100000 in
set_option maxHeartbeats 4000000 in
theorem t_X12_atom_90 {X : gs_X} {G : Nat → Int32 → Int32 → gs_M → Option (Int32 × gs_M)} {n : Nat} (hnb : 12 ≤ n) (hG0 : ∀ (l : Launch) {x1 x2 v : Int32} {M M1 : gs_M} {L : gs_L}, G 0 x1 x2 M = some (v, M1) → gs_Met l n yX12_atom cX12_atom 4 (some .int) [.ref 147] M L (some (.int v)) M1 L) (hG1 : ∀ (l : Launch) {x1 x2 v : Int32} {M M1 : gs_M} {L : gs_L}, G 1 x1 x2 M = some (v, M1) → gs_Met l n yX12_term cX12_term 5 (some .int) [.ref 147] M L (some (.int v)) M1 L) (hG2 : ∀ (l : Launch) {x1 x2 v : Int32} {M M1 : gs_M} {L : gs_L}, G 2 x1 x2 M = some (v, M1) → gs_Met l n yX12_sum cX12_sum 5 (some .int) [.ref 147] M L (some (.int v)) M1 L) (hG3 : ∀ (l : Launch) {x1 x2 v : Int32} {M M1 : gs_M} {L : gs_L}, G 3 x1 x2 M = some (v, M1) → gs_Met l n yX12_compares cX12_compares 6 (some .boolean) [.ref 147, .int x1, .int x2] M L (some (.int v)) M1 L) (hG4 : ∀ (l : Launch) {x1 x2 v : Int32} {M M1 : gs_M} {L : gs_L}, G 4 x1 x2 M = some (v, M1) → gs_Met l n yX12_unit cX12_unit 3 (some .boolean) [.ref 147] M L (some (.int v)) M1 L) (hG5 : ∀ (l : Launch) {x1 x2 v : Int32} {M M1 : gs_M} {L : gs_L}, G 5 x1 x2 M = some (v, M1) → gs_Met l n yX12_part cX12_part 5 (some .boolean) [.ref 147, .int x1, .int x2] M L (some (.int v)) M1 L) (hG6 : ∀ (l : Launch) {x1 x2 v : Int32} {M M1 : gs_M} {L : gs_L}, G 6 x1 x2 M = some (v, M1) → gs_Met l n yX12_condition cX12_condition 5 (some .boolean) [.ref 147, .int x1, .int x2] M L (some (.int v)) M1 L) (C : gs_C X RX12 cX12_atom 4 (some .int) (n + 1)) {L : gs_L} {x1 : Int32} {rv : Int32} {Mz : gs_M} (E : gs_E X (some (.int rv)) Mz L) : ∀ (f : Nat) (x2 : Int32) (x3 : Int32) (M : gs_M), l_X12_atom_90 G x1 f x2 x3 M = some (rv, Mz) → gs_AW X 90 [(0, .ref 147), (1, .int x1), (2, .int x2), (3, .int x3)] [] M L := by
  intro f
  induction f with
  | zero =>
    intro x2 x3 M h
    cases h
  | succ f ih =>
    intro x2 x3 M h
    rw [l_X12_atom_90] at h
    refine gs_aload_n (pc := 90) C 0 dX12_atom_90 rfl rfl ?_
    obtain ⟨v1, e2, h⟩ := gs_o1 h
    refine gs_callVi (pc := 91) C [] dX12_atom_91 ml_X12_172 wy_X12_isDigit (a_X12_isDigit _ e2) (by omega) sh_147 (by decide) rfl rfl (Nat.le_of_ble_eq_true rfl) rfl ?_
    refine gs_if_eq (pc := 94) C 156 dX12_atom_94 rfl (fun c3 => ?_) (fun c3 => ?_)
    · replace h := gs_ift c3 h
      refine gs_iload_n (pc := 156) C 2 dX12_atom_156 rfl rfl ?_
      obtain ⟨rfl, rfl⟩ := gs_i2 h
      exact gs_iret (pc := 157) C dX12_atom_157 E
    · replace h := gs_iff c3 h
      refine gs_aload_n (pc := 97) C 0 dX12_atom_97 rfl rfl ?_
      refine gs_geti (pc := 98) C dX12_atom_98 gk_12 fl_X12_132 sh_147 rfl ?_
      refine gs_iconst (w := (-1)) (pc := 101) C dX12_atom_101 rfl ?_
      refine gs_icmp_ne (pc := 102) C 156 dX12_atom_102 rfl (fun c4 => ?_) (fun c4 => ?_)
      · replace h := gs_iff c4 h
        refine gs_iload_n (pc := 156) C 2 dX12_atom_156 rfl rfl ?_
        obtain ⟨rfl, rfl⟩ := gs_i2 h
        exact gs_iret (pc := 157) C dX12_atom_157 E
      · replace h := gs_ift c4 h
        refine gs_iload_n (pc := 105) C 3 dX12_atom_105 rfl rfl ?_
        refine gs_iconst (w := 4) (pc := 106) C dX12_atom_106 rfl ?_
        refine gs_icmp_ne (pc := 107) C 117 dX12_atom_107 rfl (fun c5 => ?_) (fun c5 => ?_)
        · replace h := gs_iff c5 h
          refine gs_bipush (w := 10) (pc := 117) C dX12_atom_117 rfl ?_
          refine gs_iload_n (pc := 119) C 2 dX12_atom_119 rfl rfl ?_
          refine gs_imul (pc := 120) C dX12_atom_120 ?_
          refine gs_aload_n (pc := 121) C 0 dX12_atom_121 rfl rfl ?_
          obtain ⟨r6, e7, h⟩ := gs_o1 h
          refine gs_getmB (pc := 122) C dX12_atom_122 gk_12 fl_X12_23 sh_147 rfl e7 ?_
          refine gs_aload_n (pc := 125) C 0 dX12_atom_125 rfl rfl ?_
          refine gs_geti (pc := 126) C dX12_atom_126 gk_12 fl_X12_129 sh_147 rfl ?_
          refine gs_aload_n (pc := 129) C 0 dX12_atom_129 rfl rfl ?_
          refine gs_geti (pc := 130) C dX12_atom_130 gk_12 fl_X12_123 sh_147 rfl ?_
          refine gs_iadd (pc := 133) C dX12_atom_133 ?_
          obtain ⟨v8, e9, h⟩ := gs_o1 h
          refine gs_bald (pc := 134) C dX12_atom_134 (gs_ckB_sh e7) e9 ?_
          refine gs_iadd (pc := 135) C dX12_atom_135 ?_
          refine gs_bipush (w := 48) (pc := 136) C dX12_atom_136 rfl ?_
          refine gs_isub (pc := 138) C dX12_atom_138 ?_
          refine gs_istore_n (ls' := [(2, .int ((((10 : Int32) * x2) + v8) - (48 : Int32))), (0, .ref 147), (1, .int x1), (3, .int x3)]) (pc := 139) C dX12_atom_139 rfl (by decide) rfl ?_
          refine gs_aload_n (pc := 140) C 1 dX12_atom_140 rfl rfl ?_
          refine gs_dup (pc := 141) C dX12_atom_141 rfl ?_
          refine gs_geti (pc := 142) C dX12_atom_142 gk_12 fl_X12_123 sh_147 rfl ?_
          refine gs_iconst (w := 1) (pc := 145) C dX12_atom_145 rfl ?_
          refine gs_iadd (pc := 146) C dX12_atom_146 ?_
          obtain ⟨M11, e10, h⟩ := gs_o1 h
          refine gs_puti' (pc := 147) C dX12_atom_147 gk_12 fp_X12_123 sh_147 rfl e10 ?_
          refine gs_iinc (v := x3 + (1 : Int32)) (ls' := [(3, .int (x3 + (1 : Int32))), (2, .int ((((10 : Int32) * x2) + v8) - (48 : Int32))), (0, .ref 147), (1, .int x1)]) (pc := 150) C 3 dX12_atom_150 rfl rfl (by decide) rfl ?_
          refine gs_goto (pc := 153) C 90 dX12_atom_153 rfl ?_
          exact gs_sub [2, 3, 1, 0] rfl (ih _ _ _ h)
        · replace h := gs_ift c5 h
          refine gs_aload_n (pc := 110) C 0 dX12_atom_110 rfl rfl ?_
          obtain ⟨v12, M13, e14, h⟩ := gs_o2 h
          refine gs_callVi (pc := 111) C [] dX12_atom_111 ml_X12_138 wy_X12_fails (a_X12_fails _ e14) (by omega) sh_147 (by decide) rfl rfl (Nat.le_of_ble_eq_true rfl) rfl ?_
          refine gs_pop (pc := 114) C dX12_atom_114 rfl ?_
          refine gs_iconst (w := 0) (pc := 115) C dX12_atom_115 rfl ?_
          obtain ⟨rfl, rfl⟩ := gs_i2 h
          exact gs_iret (pc := 116) C dX12_atom_116 E
set_option maxRecDepth 100000 in
set_option maxHeartbeats 4000000 in
theorem a_X12_atom (l : Launch) {G : Nat → Int32 → Int32 → gs_M → Option (Int32 × gs_M)} {n : Nat} (hnb : 12 ≤ n) (hG0 : ∀ (l : Launch) {x1 x2 v : Int32} {M M1 : gs_M} {L : gs_L}, G 0 x1 x2 M = some (v, M1) → gs_Met l n yX12_atom cX12_atom 4 (some .int) [.ref 147] M L (some (.int v)) M1 L) (hG1 : ∀ (l : Launch) {x1 x2 v : Int32} {M M1 : gs_M} {L : gs_L}, G 1 x1 x2 M = some (v, M1) → gs_Met l n yX12_term cX12_term 5 (some .int) [.ref 147] M L (some (.int v)) M1 L) (hG2 : ∀ (l : Launch) {x1 x2 v : Int32} {M M1 : gs_M} {L : gs_L}, G 2 x1 x2 M = some (v, M1) → gs_Met l n yX12_sum cX12_sum 5 (some .int) [.ref 147] M L (some (.int v)) M1 L) (hG3 : ∀ (l : Launch) {x1 x2 v : Int32} {M M1 : gs_M} {L : gs_L}, G 3 x1 x2 M = some (v, M1) → gs_Met l n yX12_compares cX12_compares 6 (some .boolean) [.ref 147, .int x1, .int x2] M L (some (.int v)) M1 L) (hG4 : ∀ (l : Launch) {x1 x2 v : Int32} {M M1 : gs_M} {L : gs_L}, G 4 x1 x2 M = some (v, M1) → gs_Met l n yX12_unit cX12_unit 3 (some .boolean) [.ref 147] M L (some (.int v)) M1 L) (hG5 : ∀ (l : Launch) {x1 x2 v : Int32} {M M1 : gs_M} {L : gs_L}, G 5 x1 x2 M = some (v, M1) → gs_Met l n yX12_part cX12_part 5 (some .boolean) [.ref 147, .int x1, .int x2] M L (some (.int v)) M1 L) (hG6 : ∀ (l : Launch) {x1 x2 v : Int32} {M M1 : gs_M} {L : gs_L}, G 6 x1 x2 M = some (v, M1) → gs_Met l n yX12_condition cX12_condition 5 (some .boolean) [.ref 147, .int x1, .int x2] M L (some (.int v)) M1 L) {M : gs_M} {L : gs_L} {rv : Int32} {Mz : gs_M} (h : f_X12_atom G M = some (rv, Mz)) : gs_Met l (n + 1) yX12_atom cX12_atom 4 (some .int) [.ref 147] M L (some (.int rv)) Mz L := by
  unfold f_X12_atom at h
  refine gs_of RX12 (by decide) rfl (Nat.le_of_ble_eq_true rfl) (fun X C E => ?_)
  show gs_AW X 0 [(0, .ref 147)] [] M L
  refine gs_aload_n (pc := 0) C 0 dX12_atom_0 rfl rfl ?_
  obtain ⟨v1, M2, e3, h⟩ := gs_o2 h
  refine gs_callVi (pc := 1) C [] dX12_atom_1 ml_X12_142 wy_X12_look (a_X12_look _ e3) (by omega) sh_147 (by decide) rfl rfl (Nat.le_of_ble_eq_true rfl) rfl ?_
  refine gs_istore_n (ls' := [(1, .int v1), (0, .ref 147)]) (pc := 4) C dX12_atom_4 rfl (by decide) rfl ?_
  refine gs_ldcS (pc := 5) C (q := 1002) (tx := "gcwtha") dX12_atom_5 (by decide) ?_
  refine gs_iload_n (pc := 7) C 0 dX12_atom_7 rfl rfl ?_
  obtain ⟨v4, e5, h⟩ := gs_o1 h
  refine gs_callSi (pc := 8) C [.ref 1002, .int v1] dX12_atom_8 ml_X12_158 wy_X12_isAmong (a_X12_isAmong_2 _ e5) (by omega) rfl (Nat.le_of_ble_eq_true rfl) rfl ?_
  refine gs_if_eq (pc := 11) C 31 dX12_atom_11 rfl (fun c6 => ?_) (fun c6 => ?_)
  · replace h := gs_ift c6 h
    refine gs_iload_n (pc := 31) C 0 dX12_atom_31 rfl rfl ?_
    refine gs_bipush (w := 91) (pc := 32) C dX12_atom_32 rfl ?_
    refine gs_icmp_ne (pc := 34) C 74 dX12_atom_34 rfl (fun c7 => ?_) (fun c7 => ?_)
    · replace h := gs_iff c7 h
      refine gs_aload_n (pc := 74) C 1 dX12_atom_74 rfl rfl ?_
      obtain ⟨v8, e9, h⟩ := gs_o1 h
      refine gs_callVi (pc := 75) C [] dX12_atom_75 ml_X12_172 wy_X12_isDigit (a_X12_isDigit _ e9) (by omega) sh_147 (by decide) rfl rfl (Nat.le_of_ble_eq_true rfl) rfl ?_
      obtain ⟨M10, e11, h⟩ := gs_o1 h
      have j12 : gs_AW X 86 [(0, .ref 147), (1, .int v1)] [] M10 L := by
        refine gs_iconst (w := 0) (pc := 86) C dX12_atom_86 rfl ?_
        refine gs_istore_n (ls' := [(2, .int (0 : Int32)), (0, .ref 147), (1, .int v1)]) (pc := 87) C dX12_atom_87 rfl (by decide) rfl ?_
        refine gs_iconst (w := 0) (pc := 88) C dX12_atom_88 rfl ?_
        refine gs_istore_n (ls' := [(3, .int (0 : Int32)), (2, .int (0 : Int32)), (0, .ref 147), (1, .int v1)]) (pc := 89) C dX12_atom_89 rfl (by decide) rfl ?_
        exact gs_sub [2, 3, 1, 0] rfl (t_X12_atom_90 hnb hG0 hG1 hG2 hG3 hG4 hG5 hG6 C E gs_FU _ _ _ h)
      refine gs_if_ne (pc := 78) C 86 dX12_atom_78 rfl (fun c13 => ?_) (fun c13 => ?_)
      · replace e11 := gs_iff c13 e11
        obtain rfl := gs_i1 e11
        exact gs_sub [1, 0] rfl (j12)
      · replace e11 := gs_ift c13 e11
        refine gs_aload_n (pc := 81) C 1 dX12_atom_81 rfl rfl ?_
        obtain ⟨v14, M15, e16, e11⟩ := gs_o2 e11
        refine gs_callVi (pc := 82) C [] dX12_atom_82 ml_X12_138 wy_X12_fails (a_X12_fails _ e16) (by omega) sh_147 (by decide) rfl rfl (Nat.le_of_ble_eq_true rfl) rfl ?_
        refine gs_pop (pc := 85) C dX12_atom_85 rfl ?_
        obtain rfl := gs_i1 e11
        exact gs_sub [1, 0] rfl (j12)
    · replace h := gs_ift c7 h
      refine gs_aload_n (pc := 37) C 1 dX12_atom_37 rfl rfl ?_
      obtain ⟨v17, M18, e19, h⟩ := gs_o2 h
      refine gs_callVi (pc := 38) C [] dX12_atom_38 ml_X12_162 wy_X12_goesIn (a_X12_goesIn _ e19) (by omega) sh_147 (by decide) rfl rfl (Nat.le_of_ble_eq_true rfl) rfl ?_
      refine gs_if_ne (pc := 41) C 46 dX12_atom_41 rfl (fun c20 => ?_) (fun c20 => ?_)
      · replace h := gs_iff c20 h
        refine gs_aload_n (pc := 46) C 1 dX12_atom_46 rfl rfl ?_
        obtain ⟨v21, M22, e23, h⟩ := gs_o2 h
        refine gs_callVi (pc := 47) C [] dX12_atom_47 ml_X12_165 wy_X12_sum (hG2 _ e23) (by omega) sh_147 (by decide) rfl rfl (Nat.le_of_ble_eq_true rfl) rfl ?_
        refine gs_istore_n (ls' := [(2, .int v21), (1, .int v1), (0, .ref 147)]) (pc := 50) C dX12_atom_50 rfl (by decide) rfl ?_
        refine gs_aload_n (pc := 51) C 2 dX12_atom_51 rfl rfl ?_
        refine gs_bipush (w := 93) (pc := 52) C dX12_atom_52 rfl ?_
        obtain ⟨v24, M25, e26, h⟩ := gs_o2 h
        refine gs_callVi (pc := 54) C [.int (93 : Int32)] dX12_atom_54 ml_X12_168 wy_X12_takes (a_X12_takes _ e26) (by omega) sh_147 (by decide) rfl rfl (Nat.le_of_ble_eq_true rfl) rfl ?_
        refine gs_if_ne (pc := 57) C 62 dX12_atom_57 rfl (fun c27 => ?_) (fun c27 => ?_)
        · replace h := gs_iff c27 h
          refine gs_aload_n (pc := 62) C 2 dX12_atom_62 rfl rfl ?_
          refine gs_dup (pc := 63) C dX12_atom_63 rfl ?_
          refine gs_geti (pc := 64) C dX12_atom_64 gk_12 fl_X12_135 sh_147 rfl ?_
          refine gs_iconst (w := 1) (pc := 67) C dX12_atom_67 rfl ?_
          refine gs_isub (pc := 68) C dX12_atom_68 ?_
          obtain ⟨M29, e28, h⟩ := gs_o1 h
          refine gs_puti' (pc := 69) C dX12_atom_69 gk_12 fp_X12_135 sh_147 rfl e28 ?_
          refine gs_iload_n (pc := 72) C 0 dX12_atom_72 rfl rfl ?_
          obtain ⟨rfl, rfl⟩ := gs_i2 h
          exact gs_iret (pc := 73) C dX12_atom_73 E
        · replace h := gs_ift c27 h
          refine gs_iconst (w := 0) (pc := 60) C dX12_atom_60 rfl ?_
          obtain ⟨rfl, rfl⟩ := gs_i2 h
          exact gs_iret (pc := 61) C dX12_atom_61 E
      · replace h := gs_ift c20 h
        refine gs_iconst (w := 0) (pc := 44) C dX12_atom_44 rfl ?_
        obtain ⟨rfl, rfl⟩ := gs_i2 h
        exact gs_iret (pc := 45) C dX12_atom_45 E
  · replace h := gs_iff c6 h
    refine gs_aload_n (pc := 14) C 1 dX12_atom_14 rfl rfl ?_
    refine gs_dup (pc := 15) C dX12_atom_15 rfl ?_
    refine gs_geti (pc := 16) C dX12_atom_16 gk_12 fl_X12_123 sh_147 rfl ?_
    refine gs_iconst (w := 1) (pc := 19) C dX12_atom_19 rfl ?_
    refine gs_iadd (pc := 20) C dX12_atom_20 ?_
    obtain ⟨M31, e30, h⟩ := gs_o1 h
    refine gs_puti' (pc := 21) C dX12_atom_21 gk_12 fp_X12_123 sh_147 rfl e30 ?_
    refine gs_aload_n (pc := 24) C 1 dX12_atom_24 rfl rfl ?_
    refine gs_getq (pc := 25) C dX12_atom_25 gk_12 fl_X12_20 sh_147 rfl ?_
    refine gs_iload_n (pc := 28) C 0 dX12_atom_28 rfl rfl ?_
    obtain ⟨v32, e33, h⟩ := gs_o1 h
    refine gs_iald (pc := 29) C dX12_atom_29 sh_151 e33 ?_
    obtain ⟨rfl, rfl⟩ := gs_i2 h
    exact gs_iret (pc := 30) C dX12_atom_30 E
set_option maxRecDepth 100000 in
set_option maxHeartbeats 4000000 in
theorem a_X12_within (l : Launch) {M : gs_M} {L : gs_L} {x0 : Int64} {rv : Int32} (h : f_X12_within x0 = some (rv)) : gs_Met l 0 yX12_within cX12_within 2 (some .int) [.long x0] M L (some (.int rv)) M L := by
  unfold f_X12_within at h
  refine gs_of RX12 (by decide) rfl (Nat.le_of_ble_eq_true rfl) (fun X C E => ?_)
  show gs_AW X 0 [(0, .long x0)] [] M L
  refine gs_ldc2 (pc := 0) C dX12_within_0 wj_X12_145 ?_
  refine gs_ldc2 (pc := 3) C dX12_within_3 wj_X12_147 ?_
  refine gs_lload_n (pc := 6) C 0 dX12_within_6 rfl rfl ?_
  refine gs_mminl (pc := 7) C dX12_within_7 ml_X12_149 (Nat.le_of_ble_eq_true rfl) ?_
  refine gs_mmaxl (pc := 10) C dX12_within_10 ml_X12_155 (Nat.le_of_ble_eq_true rfl) ?_
  refine gs_l2i (pc := 13) C dX12_within_13 ?_
  obtain rfl := gs_i1 h
  exact gs_iret (pc := 14) C dX12_within_14 E
set_option maxRecDepth 100000 in
set_option maxHeartbeats 4000000 in
theorem t_X12_term_5 {X : gs_X} {G : Nat → Int32 → Int32 → gs_M → Option (Int32 × gs_M)} {n : Nat} (hnb : 12 ≤ n) (hG0 : ∀ (l : Launch) {x1 x2 v : Int32} {M M1 : gs_M} {L : gs_L}, G 0 x1 x2 M = some (v, M1) → gs_Met l n yX12_atom cX12_atom 4 (some .int) [.ref 147] M L (some (.int v)) M1 L) (hG1 : ∀ (l : Launch) {x1 x2 v : Int32} {M M1 : gs_M} {L : gs_L}, G 1 x1 x2 M = some (v, M1) → gs_Met l n yX12_term cX12_term 5 (some .int) [.ref 147] M L (some (.int v)) M1 L) (hG2 : ∀ (l : Launch) {x1 x2 v : Int32} {M M1 : gs_M} {L : gs_L}, G 2 x1 x2 M = some (v, M1) → gs_Met l n yX12_sum cX12_sum 5 (some .int) [.ref 147] M L (some (.int v)) M1 L) (hG3 : ∀ (l : Launch) {x1 x2 v : Int32} {M M1 : gs_M} {L : gs_L}, G 3 x1 x2 M = some (v, M1) → gs_Met l n yX12_compares cX12_compares 6 (some .boolean) [.ref 147, .int x1, .int x2] M L (some (.int v)) M1 L) (hG4 : ∀ (l : Launch) {x1 x2 v : Int32} {M M1 : gs_M} {L : gs_L}, G 4 x1 x2 M = some (v, M1) → gs_Met l n yX12_unit cX12_unit 3 (some .boolean) [.ref 147] M L (some (.int v)) M1 L) (hG5 : ∀ (l : Launch) {x1 x2 v : Int32} {M M1 : gs_M} {L : gs_L}, G 5 x1 x2 M = some (v, M1) → gs_Met l n yX12_part cX12_part 5 (some .boolean) [.ref 147, .int x1, .int x2] M L (some (.int v)) M1 L) (hG6 : ∀ (l : Launch) {x1 x2 v : Int32} {M M1 : gs_M} {L : gs_L}, G 6 x1 x2 M = some (v, M1) → gs_Met l n yX12_condition cX12_condition 5 (some .boolean) [.ref 147, .int x1, .int x2] M L (some (.int v)) M1 L) (C : gs_C X RX12 cX12_term 5 (some .int) (n + 1)) {L : gs_L} {o1 : Int32} {M' : gs_M} (k : gs_AW X 94 [(0, .ref 147), (1, .int o1)] [] M' L) : ∀ (f : Nat) (x1 : Int32) (M : gs_M), l_X12_term_5 G f x1 M = some (o1, M') → gs_AW X 5 [(0, .ref 147), (1, .int x1)] [] M L := by
  intro f
  induction f with
  | zero =>
    intro x1 M h
    cases h
  | succ f ih =>
    intro x1 M h
    rw [l_X12_term_5] at h
    refine gs_aload_n (pc := 5) C 0 dX12_term_5 rfl rfl ?_
    refine gs_geti (pc := 6) C dX12_term_6 gk_12 fl_X12_132 sh_147 rfl ?_
    refine gs_iconst (w := (-1)) (pc := 9) C dX12_term_9 rfl ?_
    refine gs_icmp_ne (pc := 10) C 94 dX12_term_10 rfl (fun c1 => ?_) (fun c1 => ?_)
    · replace h := gs_iff c1 h
      obtain ⟨rfl, rfl⟩ := gs_i2 h
      exact k
    · replace h := gs_ift c1 h
      refine gs_aload_n (pc := 13) C 0 dX12_term_13 rfl rfl ?_
      obtain ⟨v2, M3, e4, h⟩ := gs_o2 h
      refine gs_callVi (pc := 14) C [] dX12_term_14 ml_X12_142 wy_X12_look (a_X12_look _ e4) (by omega) sh_147 (by decide) rfl rfl (Nat.le_of_ble_eq_true rfl) rfl ?_
      refine gs_bipush (w := 42) (pc := 17) C dX12_term_17 rfl ?_
      refine gs_icmp_eq (pc := 19) C 31 dX12_term_19 rfl (fun c5 => ?_) (fun c5 => ?_)
      · replace h := gs_ift c5 h
        refine gs_aload_n (pc := 31) C 0 dX12_term_31 rfl rfl ?_
        obtain ⟨v6, M7, e8, h⟩ := gs_o2 h
        refine gs_callVi (pc := 32) C [] dX12_term_32 ml_X12_142 wy_X12_look (a_X12_look _ e8) (by omega) sh_147 (by decide) rfl rfl (Nat.le_of_ble_eq_true rfl) rfl ?_
        refine gs_bipush (w := 42) (pc := 35) C dX12_term_35 rfl ?_
        have j23 : gs_AW X 45 [(0, .ref 147), (1, .int x1)] [.int (if v6 = (42 : Int32) then (1 : Int32) else (0 : Int32) : Int32)] M7 L := by
          refine gs_istore_n (ls' := [(2, .int (if v6 = (42 : Int32) then (1 : Int32) else (0 : Int32) : Int32)), (0, .ref 147), (1, .int x1)]) (pc := 45) C dX12_term_45 rfl (by decide) rfl ?_
          refine gs_aload_n (pc := 46) C 1 dX12_term_46 rfl rfl ?_
          refine gs_dup (pc := 47) C dX12_term_47 rfl ?_
          refine gs_geti (pc := 48) C dX12_term_48 gk_12 fl_X12_123 sh_147 rfl ?_
          refine gs_iconst (w := 1) (pc := 51) C dX12_term_51 rfl ?_
          refine gs_iadd (pc := 52) C dX12_term_52 ?_
          obtain ⟨M10, e9, h⟩ := gs_o1 h
          refine gs_puti' (pc := 53) C dX12_term_53 gk_12 fp_X12_123 sh_147 rfl e9 ?_
          refine gs_aload_n (pc := 56) C 1 dX12_term_56 rfl rfl ?_
          obtain ⟨v11, M12, e13, h⟩ := gs_o2 h
          refine gs_callVi (pc := 57) C [] dX12_term_57 ml_X12_175 wy_X12_atom (hG0 _ e13) (by omega) sh_147 (by decide) rfl rfl (Nat.le_of_ble_eq_true rfl) rfl ?_
          refine gs_i2l (pc := 60) C dX12_term_60 ?_
          refine gs_lstore_n (ls' := [(3, .long (Int32.toInt64 v11)), (2, .int (if v6 = (42 : Int32) then (1 : Int32) else (0 : Int32) : Int32)), (0, .ref 147), (1, .int x1)]) (pc := 61) C dX12_term_61 rfl (by decide) rfl ?_
          refine gs_iload_n (pc := 62) C 1 dX12_term_62 rfl rfl ?_
          obtain ⟨y14, e15, h⟩ := gs_o1 h
          have j16 : gs_AW X 87 [(0, .ref 147), (1, .int x1), (2, .int (if v6 = (42 : Int32) then (1 : Int32) else (0 : Int32) : Int32)), (3, .long (Int32.toInt64 v11))] [.long y14] M12 L := by
            obtain ⟨v21, e22, h⟩ := gs_o1 h
            refine gs_callSi (pc := 87) C [.long y14] dX12_term_87 ml_X12_178 wy_X12_within (a_X12_within _ e22) (by omega) rfl (Nat.le_of_ble_eq_true rfl) rfl ?_
            refine gs_istore_n (ls' := [(1, .int v21), (0, .ref 147), (2, .int (if v6 = (42 : Int32) then (1 : Int32) else (0 : Int32) : Int32)), (3, .long (Int32.toInt64 v11))]) (pc := 90) C dX12_term_90 rfl (by decide) rfl ?_
            refine gs_goto (pc := 91) C 5 dX12_term_91 rfl ?_
            exact gs_sub [1, 0] rfl (ih _ _ h)
          refine gs_if_eq (pc := 63) C 73 dX12_term_63 rfl (fun c17 => ?_) (fun c17 => ?_)
          · replace e15 := gs_ift c17 e15
            refine gs_lload_n (pc := 73) C 0 dX12_term_73 rfl rfl ?_
            refine gs_lconst (w := 0) (pc := 74) C dX12_term_74 rfl ?_
            refine gs_lcmp (pc := 75) C dX12_term_75 ?_
            refine gs_if_ne (pc := 76) C 83 dX12_term_76 rfl (fun c18 => ?_) (fun c18 => ?_)
            · replace e15 := gs_iff c18 e15
              refine gs_iload_n (pc := 83) C 3 dX12_term_83 rfl rfl ?_
              refine gs_i2l (pc := 84) C dX12_term_84 ?_
              refine gs_lload_n (pc := 85) C 0 dX12_term_85 rfl rfl ?_
              obtain ⟨v19, e20, e15⟩ := gs_o1 e15
              refine gs_ldiv' (pc := 86) C dX12_term_86 e20 ?_
              obtain rfl := gs_i1 e15
              exact gs_sub [2, 3, 1, 0] rfl (j16)
            · replace e15 := gs_ift c18 e15
              refine gs_lconst (w := 0) (pc := 79) C dX12_term_79 rfl ?_
              refine gs_goto (pc := 80) C 87 dX12_term_80 rfl ?_
              obtain rfl := gs_i1 e15
              exact gs_sub [2, 3, 1, 0] rfl (j16)
          · replace e15 := gs_iff c17 e15
            refine gs_iload_n (pc := 66) C 3 dX12_term_66 rfl rfl ?_
            refine gs_i2l (pc := 67) C dX12_term_67 ?_
            refine gs_lload_n (pc := 68) C 0 dX12_term_68 rfl rfl ?_
            refine gs_lmul (pc := 69) C dX12_term_69 ?_
            refine gs_goto (pc := 70) C 87 dX12_term_70 rfl ?_
            obtain rfl := gs_i1 e15
            exact gs_sub [2, 3, 1, 0] rfl (j16)
        refine gs_icmp_ne (pc := 37) C 44 dX12_term_37 rfl (fun c24 => ?_) (fun c24 => ?_)
        · refine gs_iconst (w := 0) (pc := 44) C dX12_term_44 rfl ?_
          simp only [if_neg c24] at j23
          exact j23
        · refine gs_iconst (w := 1) (pc := 40) C dX12_term_40 rfl ?_
          refine gs_goto (pc := 41) C 45 dX12_term_41 rfl ?_
          simp only [if_pos c24] at j23
          exact j23
      · replace h := gs_iff c5 h
        refine gs_aload_n (pc := 22) C 0 dX12_term_22 rfl rfl ?_
        obtain ⟨v25, M26, e27, h⟩ := gs_o2 h
        refine gs_callVi (pc := 23) C [] dX12_term_23 ml_X12_142 wy_X12_look (a_X12_look _ e27) (by omega) sh_147 (by decide) rfl rfl (Nat.le_of_ble_eq_true rfl) rfl ?_
        refine gs_bipush (w := 47) (pc := 26) C dX12_term_26 rfl ?_
        refine gs_icmp_ne (pc := 28) C 94 dX12_term_28 rfl (fun c28 => ?_) (fun c28 => ?_)
        · replace h := gs_iff c28 h
          obtain ⟨rfl, rfl⟩ := gs_i2 h
          exact k
        · replace h := gs_ift c28 h
          refine gs_aload_n (pc := 31) C 0 dX12_term_31 rfl rfl ?_
          obtain ⟨v29, M30, e31, h⟩ := gs_o2 h
          refine gs_callVi (pc := 32) C [] dX12_term_32 ml_X12_142 wy_X12_look (a_X12_look _ e31) (by omega) sh_147 (by decide) rfl rfl (Nat.le_of_ble_eq_true rfl) rfl ?_
          refine gs_bipush (w := 42) (pc := 35) C dX12_term_35 rfl ?_
          have j46 : gs_AW X 45 [(0, .ref 147), (1, .int x1)] [.int (if v29 = (42 : Int32) then (1 : Int32) else (0 : Int32) : Int32)] M30 L := by
            refine gs_istore_n (ls' := [(2, .int (if v29 = (42 : Int32) then (1 : Int32) else (0 : Int32) : Int32)), (0, .ref 147), (1, .int x1)]) (pc := 45) C dX12_term_45 rfl (by decide) rfl ?_
            refine gs_aload_n (pc := 46) C 1 dX12_term_46 rfl rfl ?_
            refine gs_dup (pc := 47) C dX12_term_47 rfl ?_
            refine gs_geti (pc := 48) C dX12_term_48 gk_12 fl_X12_123 sh_147 rfl ?_
            refine gs_iconst (w := 1) (pc := 51) C dX12_term_51 rfl ?_
            refine gs_iadd (pc := 52) C dX12_term_52 ?_
            obtain ⟨M33, e32, h⟩ := gs_o1 h
            refine gs_puti' (pc := 53) C dX12_term_53 gk_12 fp_X12_123 sh_147 rfl e32 ?_
            refine gs_aload_n (pc := 56) C 1 dX12_term_56 rfl rfl ?_
            obtain ⟨v34, M35, e36, h⟩ := gs_o2 h
            refine gs_callVi (pc := 57) C [] dX12_term_57 ml_X12_175 wy_X12_atom (hG0 _ e36) (by omega) sh_147 (by decide) rfl rfl (Nat.le_of_ble_eq_true rfl) rfl ?_
            refine gs_i2l (pc := 60) C dX12_term_60 ?_
            refine gs_lstore_n (ls' := [(3, .long (Int32.toInt64 v34)), (2, .int (if v29 = (42 : Int32) then (1 : Int32) else (0 : Int32) : Int32)), (0, .ref 147), (1, .int x1)]) (pc := 61) C dX12_term_61 rfl (by decide) rfl ?_
            refine gs_iload_n (pc := 62) C 1 dX12_term_62 rfl rfl ?_
            obtain ⟨y37, e38, h⟩ := gs_o1 h
            have j39 : gs_AW X 87 [(0, .ref 147), (1, .int x1), (2, .int (if v29 = (42 : Int32) then (1 : Int32) else (0 : Int32) : Int32)), (3, .long (Int32.toInt64 v34))] [.long y37] M35 L := by
              obtain ⟨v44, e45, h⟩ := gs_o1 h
              refine gs_callSi (pc := 87) C [.long y37] dX12_term_87 ml_X12_178 wy_X12_within (a_X12_within _ e45) (by omega) rfl (Nat.le_of_ble_eq_true rfl) rfl ?_
              refine gs_istore_n (ls' := [(1, .int v44), (0, .ref 147), (2, .int (if v29 = (42 : Int32) then (1 : Int32) else (0 : Int32) : Int32)), (3, .long (Int32.toInt64 v34))]) (pc := 90) C dX12_term_90 rfl (by decide) rfl ?_
              refine gs_goto (pc := 91) C 5 dX12_term_91 rfl ?_
              exact gs_sub [1, 0] rfl (ih _ _ h)
            refine gs_if_eq (pc := 63) C 73 dX12_term_63 rfl (fun c40 => ?_) (fun c40 => ?_)
            · replace e38 := gs_ift c40 e38
              refine gs_lload_n (pc := 73) C 0 dX12_term_73 rfl rfl ?_
              refine gs_lconst (w := 0) (pc := 74) C dX12_term_74 rfl ?_
              refine gs_lcmp (pc := 75) C dX12_term_75 ?_
              refine gs_if_ne (pc := 76) C 83 dX12_term_76 rfl (fun c41 => ?_) (fun c41 => ?_)
              · replace e38 := gs_iff c41 e38
                refine gs_iload_n (pc := 83) C 3 dX12_term_83 rfl rfl ?_
                refine gs_i2l (pc := 84) C dX12_term_84 ?_
                refine gs_lload_n (pc := 85) C 0 dX12_term_85 rfl rfl ?_
                obtain ⟨v42, e43, e38⟩ := gs_o1 e38
                refine gs_ldiv' (pc := 86) C dX12_term_86 e43 ?_
                obtain rfl := gs_i1 e38
                exact gs_sub [2, 3, 1, 0] rfl (j39)
              · replace e38 := gs_ift c41 e38
                refine gs_lconst (w := 0) (pc := 79) C dX12_term_79 rfl ?_
                refine gs_goto (pc := 80) C 87 dX12_term_80 rfl ?_
                obtain rfl := gs_i1 e38
                exact gs_sub [2, 3, 1, 0] rfl (j39)
            · replace e38 := gs_iff c40 e38
              refine gs_iload_n (pc := 66) C 3 dX12_term_66 rfl rfl ?_
              refine gs_i2l (pc := 67) C dX12_term_67 ?_
              refine gs_lload_n (pc := 68) C 0 dX12_term_68 rfl rfl ?_
              refine gs_lmul (pc := 69) C dX12_term_69 ?_
              refine gs_goto (pc := 70) C 87 dX12_term_70 rfl ?_
              obtain rfl := gs_i1 e38
              exact gs_sub [2, 3, 1, 0] rfl (j39)
          refine gs_icmp_ne (pc := 37) C 44 dX12_term_37 rfl (fun c47 => ?_) (fun c47 => ?_)
          · refine gs_iconst (w := 0) (pc := 44) C dX12_term_44 rfl ?_
            simp only [if_neg c47] at j46
            exact j46
          · refine gs_iconst (w := 1) (pc := 40) C dX12_term_40 rfl ?_
            refine gs_goto (pc := 41) C 45 dX12_term_41 rfl ?_
            simp only [if_pos c47] at j46
            exact j46
set_option maxRecDepth 100000 in
set_option maxHeartbeats 4000000 in
theorem a_X12_term (l : Launch) {G : Nat → Int32 → Int32 → gs_M → Option (Int32 × gs_M)} {n : Nat} (hnb : 12 ≤ n) (hG0 : ∀ (l : Launch) {x1 x2 v : Int32} {M M1 : gs_M} {L : gs_L}, G 0 x1 x2 M = some (v, M1) → gs_Met l n yX12_atom cX12_atom 4 (some .int) [.ref 147] M L (some (.int v)) M1 L) (hG1 : ∀ (l : Launch) {x1 x2 v : Int32} {M M1 : gs_M} {L : gs_L}, G 1 x1 x2 M = some (v, M1) → gs_Met l n yX12_term cX12_term 5 (some .int) [.ref 147] M L (some (.int v)) M1 L) (hG2 : ∀ (l : Launch) {x1 x2 v : Int32} {M M1 : gs_M} {L : gs_L}, G 2 x1 x2 M = some (v, M1) → gs_Met l n yX12_sum cX12_sum 5 (some .int) [.ref 147] M L (some (.int v)) M1 L) (hG3 : ∀ (l : Launch) {x1 x2 v : Int32} {M M1 : gs_M} {L : gs_L}, G 3 x1 x2 M = some (v, M1) → gs_Met l n yX12_compares cX12_compares 6 (some .boolean) [.ref 147, .int x1, .int x2] M L (some (.int v)) M1 L) (hG4 : ∀ (l : Launch) {x1 x2 v : Int32} {M M1 : gs_M} {L : gs_L}, G 4 x1 x2 M = some (v, M1) → gs_Met l n yX12_unit cX12_unit 3 (some .boolean) [.ref 147] M L (some (.int v)) M1 L) (hG5 : ∀ (l : Launch) {x1 x2 v : Int32} {M M1 : gs_M} {L : gs_L}, G 5 x1 x2 M = some (v, M1) → gs_Met l n yX12_part cX12_part 5 (some .boolean) [.ref 147, .int x1, .int x2] M L (some (.int v)) M1 L) (hG6 : ∀ (l : Launch) {x1 x2 v : Int32} {M M1 : gs_M} {L : gs_L}, G 6 x1 x2 M = some (v, M1) → gs_Met l n yX12_condition cX12_condition 5 (some .boolean) [.ref 147, .int x1, .int x2] M L (some (.int v)) M1 L) {M : gs_M} {L : gs_L} {rv : Int32} {Mz : gs_M} (h : f_X12_term G M = some (rv, Mz)) : gs_Met l (n + 1) yX12_term cX12_term 5 (some .int) [.ref 147] M L (some (.int rv)) Mz L := by
  unfold f_X12_term at h
  refine gs_of RX12 (by decide) rfl (Nat.le_of_ble_eq_true rfl) (fun X C E => ?_)
  show gs_AW X 0 [(0, .ref 147)] [] M L
  refine gs_aload_n (pc := 0) C 0 dX12_term_0 rfl rfl ?_
  obtain ⟨v1, M2, e3, h⟩ := gs_o2 h
  refine gs_callVi (pc := 1) C [] dX12_term_1 ml_X12_175 wy_X12_atom (hG0 _ e3) (by omega) sh_147 (by decide) rfl rfl (Nat.le_of_ble_eq_true rfl) rfl ?_
  refine gs_istore_n (ls' := [(1, .int v1), (0, .ref 147)]) (pc := 4) C dX12_term_4 rfl (by decide) rfl ?_
  obtain ⟨y4, M5, e6, h⟩ := gs_o2 h
  refine gs_sub [1, 0] rfl (t_X12_term_5 hnb hG0 hG1 hG2 hG3 hG4 hG5 hG6 C ?_ gs_FU _ _ e6)
  refine gs_iload_n (pc := 94) C 1 dX12_term_94 rfl rfl ?_
  obtain ⟨rfl, rfl⟩ := gs_i2 h
  exact gs_iret (pc := 95) C dX12_term_95 E
set_option maxRecDepth 100000 in
set_option maxHeartbeats 4000000 in
theorem t_X12_sum_5 {X : gs_X} {G : Nat → Int32 → Int32 → gs_M → Option (Int32 × gs_M)} {n : Nat} (hnb : 12 ≤ n) (hG0 : ∀ (l : Launch) {x1 x2 v : Int32} {M M1 : gs_M} {L : gs_L}, G 0 x1 x2 M = some (v, M1) → gs_Met l n yX12_atom cX12_atom 4 (some .int) [.ref 147] M L (some (.int v)) M1 L) (hG1 : ∀ (l : Launch) {x1 x2 v : Int32} {M M1 : gs_M} {L : gs_L}, G 1 x1 x2 M = some (v, M1) → gs_Met l n yX12_term cX12_term 5 (some .int) [.ref 147] M L (some (.int v)) M1 L) (hG2 : ∀ (l : Launch) {x1 x2 v : Int32} {M M1 : gs_M} {L : gs_L}, G 2 x1 x2 M = some (v, M1) → gs_Met l n yX12_sum cX12_sum 5 (some .int) [.ref 147] M L (some (.int v)) M1 L) (hG3 : ∀ (l : Launch) {x1 x2 v : Int32} {M M1 : gs_M} {L : gs_L}, G 3 x1 x2 M = some (v, M1) → gs_Met l n yX12_compares cX12_compares 6 (some .boolean) [.ref 147, .int x1, .int x2] M L (some (.int v)) M1 L) (hG4 : ∀ (l : Launch) {x1 x2 v : Int32} {M M1 : gs_M} {L : gs_L}, G 4 x1 x2 M = some (v, M1) → gs_Met l n yX12_unit cX12_unit 3 (some .boolean) [.ref 147] M L (some (.int v)) M1 L) (hG5 : ∀ (l : Launch) {x1 x2 v : Int32} {M M1 : gs_M} {L : gs_L}, G 5 x1 x2 M = some (v, M1) → gs_Met l n yX12_part cX12_part 5 (some .boolean) [.ref 147, .int x1, .int x2] M L (some (.int v)) M1 L) (hG6 : ∀ (l : Launch) {x1 x2 v : Int32} {M M1 : gs_M} {L : gs_L}, G 6 x1 x2 M = some (v, M1) → gs_Met l n yX12_condition cX12_condition 5 (some .boolean) [.ref 147, .int x1, .int x2] M L (some (.int v)) M1 L) (C : gs_C X RX12 cX12_sum 5 (some .int) (n + 1)) {L : gs_L} {o1 : Int32} {M' : gs_M} (k : gs_AW X 84 [(0, .ref 147), (1, .int o1)] [] M' L) : ∀ (f : Nat) (x1 : Int32) (M : gs_M), l_X12_sum_5 G f x1 M = some (o1, M') → gs_AW X 5 [(0, .ref 147), (1, .int x1)] [] M L := by
  intro f
  induction f with
  | zero =>
    intro x1 M h
    cases h
  | succ f ih =>
    intro x1 M h
    rw [l_X12_sum_5] at h
    refine gs_aload_n (pc := 5) C 0 dX12_sum_5 rfl rfl ?_
    refine gs_geti (pc := 6) C dX12_sum_6 gk_12 fl_X12_132 sh_147 rfl ?_
    refine gs_iconst (w := (-1)) (pc := 9) C dX12_sum_9 rfl ?_
    refine gs_icmp_ne (pc := 10) C 84 dX12_sum_10 rfl (fun c1 => ?_) (fun c1 => ?_)
    · replace h := gs_iff c1 h
      obtain ⟨rfl, rfl⟩ := gs_i2 h
      exact k
    · replace h := gs_ift c1 h
      refine gs_aload_n (pc := 13) C 0 dX12_sum_13 rfl rfl ?_
      obtain ⟨v2, M3, e4, h⟩ := gs_o2 h
      refine gs_callVi (pc := 14) C [] dX12_sum_14 ml_X12_142 wy_X12_look (a_X12_look _ e4) (by omega) sh_147 (by decide) rfl rfl (Nat.le_of_ble_eq_true rfl) rfl ?_
      refine gs_bipush (w := 43) (pc := 17) C dX12_sum_17 rfl ?_
      refine gs_icmp_eq (pc := 19) C 31 dX12_sum_19 rfl (fun c5 => ?_) (fun c5 => ?_)
      · replace h := gs_ift c5 h
        refine gs_aload_n (pc := 31) C 0 dX12_sum_31 rfl rfl ?_
        obtain ⟨v6, M7, e8, h⟩ := gs_o2 h
        refine gs_callVi (pc := 32) C [] dX12_sum_32 ml_X12_142 wy_X12_look (a_X12_look _ e8) (by omega) sh_147 (by decide) rfl rfl (Nat.le_of_ble_eq_true rfl) rfl ?_
        refine gs_bipush (w := 43) (pc := 35) C dX12_sum_35 rfl ?_
        have j18 : gs_AW X 45 [(0, .ref 147), (1, .int x1)] [.int (if v6 = (43 : Int32) then (1 : Int32) else (0 : Int32) : Int32)] M7 L := by
          refine gs_istore_n (ls' := [(2, .int (if v6 = (43 : Int32) then (1 : Int32) else (0 : Int32) : Int32)), (0, .ref 147), (1, .int x1)]) (pc := 45) C dX12_sum_45 rfl (by decide) rfl ?_
          refine gs_aload_n (pc := 46) C 1 dX12_sum_46 rfl rfl ?_
          refine gs_dup (pc := 47) C dX12_sum_47 rfl ?_
          refine gs_geti (pc := 48) C dX12_sum_48 gk_12 fl_X12_123 sh_147 rfl ?_
          refine gs_iconst (w := 1) (pc := 51) C dX12_sum_51 rfl ?_
          refine gs_iadd (pc := 52) C dX12_sum_52 ?_
          obtain ⟨M10, e9, h⟩ := gs_o1 h
          refine gs_puti' (pc := 53) C dX12_sum_53 gk_12 fp_X12_123 sh_147 rfl e9 ?_
          refine gs_aload_n (pc := 56) C 1 dX12_sum_56 rfl rfl ?_
          obtain ⟨v11, M12, e13, h⟩ := gs_o2 h
          refine gs_callVi (pc := 57) C [] dX12_sum_57 ml_X12_182 wy_X12_term (hG1 _ e13) (by omega) sh_147 (by decide) rfl rfl (Nat.le_of_ble_eq_true rfl) rfl ?_
          refine gs_i2l (pc := 60) C dX12_sum_60 ?_
          refine gs_lstore_n (ls' := [(3, .long (Int32.toInt64 v11)), (2, .int (if v6 = (43 : Int32) then (1 : Int32) else (0 : Int32) : Int32)), (0, .ref 147), (1, .int x1)]) (pc := 61) C dX12_sum_61 rfl (by decide) rfl ?_
          refine gs_iload_n (pc := 62) C 1 dX12_sum_62 rfl rfl ?_
          have j16 : gs_AW X 77 [(0, .ref 147), (1, .int x1), (2, .int (if v6 = (43 : Int32) then (1 : Int32) else (0 : Int32) : Int32)), (3, .long (Int32.toInt64 v11))] [.long (if (if v6 = (43 : Int32) then (1 : Int32) else (0 : Int32) : Int32) = (0 : Int32) then ((Int32.toInt64 x1) - (Int32.toInt64 v11)) else ((Int32.toInt64 x1) + (Int32.toInt64 v11)) : Int64)] M12 L := by
            obtain ⟨v14, e15, h⟩ := gs_o1 h
            refine gs_callSi (pc := 77) C [.long (if (if v6 = (43 : Int32) then (1 : Int32) else (0 : Int32) : Int32) = (0 : Int32) then ((Int32.toInt64 x1) - (Int32.toInt64 v11)) else ((Int32.toInt64 x1) + (Int32.toInt64 v11)) : Int64)] dX12_sum_77 ml_X12_178 wy_X12_within (a_X12_within _ e15) (by omega) rfl (Nat.le_of_ble_eq_true rfl) rfl ?_
            refine gs_istore_n (ls' := [(1, .int v14), (0, .ref 147), (2, .int (if v6 = (43 : Int32) then (1 : Int32) else (0 : Int32) : Int32)), (3, .long (Int32.toInt64 v11))]) (pc := 80) C dX12_sum_80 rfl (by decide) rfl ?_
            refine gs_goto (pc := 81) C 5 dX12_sum_81 rfl ?_
            exact gs_sub [1, 0] rfl (ih _ _ h)
          refine gs_if_eq (pc := 63) C 73 dX12_sum_63 rfl (fun c17 => ?_) (fun c17 => ?_)
          · refine gs_iload_n (pc := 73) C 3 dX12_sum_73 rfl rfl ?_
            refine gs_i2l (pc := 74) C dX12_sum_74 ?_
            refine gs_lload_n (pc := 75) C 0 dX12_sum_75 rfl rfl ?_
            refine gs_lsub (pc := 76) C dX12_sum_76 ?_
            simp only [if_pos c17] at j16
            exact gs_sub [2, 3, 1, 0] rfl (j16)
          · refine gs_iload_n (pc := 66) C 3 dX12_sum_66 rfl rfl ?_
            refine gs_i2l (pc := 67) C dX12_sum_67 ?_
            refine gs_lload_n (pc := 68) C 0 dX12_sum_68 rfl rfl ?_
            refine gs_ladd (pc := 69) C dX12_sum_69 ?_
            refine gs_goto (pc := 70) C 77 dX12_sum_70 rfl ?_
            simp only [if_neg c17] at j16
            exact gs_sub [2, 3, 1, 0] rfl (j16)
        refine gs_icmp_ne (pc := 37) C 44 dX12_sum_37 rfl (fun c19 => ?_) (fun c19 => ?_)
        · refine gs_iconst (w := 0) (pc := 44) C dX12_sum_44 rfl ?_
          simp only [if_neg c19] at j18
          exact j18
        · refine gs_iconst (w := 1) (pc := 40) C dX12_sum_40 rfl ?_
          refine gs_goto (pc := 41) C 45 dX12_sum_41 rfl ?_
          simp only [if_pos c19] at j18
          exact j18
      · replace h := gs_iff c5 h
        refine gs_aload_n (pc := 22) C 0 dX12_sum_22 rfl rfl ?_
        obtain ⟨v20, M21, e22, h⟩ := gs_o2 h
        refine gs_callVi (pc := 23) C [] dX12_sum_23 ml_X12_142 wy_X12_look (a_X12_look _ e22) (by omega) sh_147 (by decide) rfl rfl (Nat.le_of_ble_eq_true rfl) rfl ?_
        refine gs_bipush (w := 45) (pc := 26) C dX12_sum_26 rfl ?_
        refine gs_icmp_ne (pc := 28) C 84 dX12_sum_28 rfl (fun c23 => ?_) (fun c23 => ?_)
        · replace h := gs_iff c23 h
          obtain ⟨rfl, rfl⟩ := gs_i2 h
          exact k
        · replace h := gs_ift c23 h
          refine gs_aload_n (pc := 31) C 0 dX12_sum_31 rfl rfl ?_
          obtain ⟨v24, M25, e26, h⟩ := gs_o2 h
          refine gs_callVi (pc := 32) C [] dX12_sum_32 ml_X12_142 wy_X12_look (a_X12_look _ e26) (by omega) sh_147 (by decide) rfl rfl (Nat.le_of_ble_eq_true rfl) rfl ?_
          refine gs_bipush (w := 43) (pc := 35) C dX12_sum_35 rfl ?_
          have j36 : gs_AW X 45 [(0, .ref 147), (1, .int x1)] [.int (if v24 = (43 : Int32) then (1 : Int32) else (0 : Int32) : Int32)] M25 L := by
            refine gs_istore_n (ls' := [(2, .int (if v24 = (43 : Int32) then (1 : Int32) else (0 : Int32) : Int32)), (0, .ref 147), (1, .int x1)]) (pc := 45) C dX12_sum_45 rfl (by decide) rfl ?_
            refine gs_aload_n (pc := 46) C 1 dX12_sum_46 rfl rfl ?_
            refine gs_dup (pc := 47) C dX12_sum_47 rfl ?_
            refine gs_geti (pc := 48) C dX12_sum_48 gk_12 fl_X12_123 sh_147 rfl ?_
            refine gs_iconst (w := 1) (pc := 51) C dX12_sum_51 rfl ?_
            refine gs_iadd (pc := 52) C dX12_sum_52 ?_
            obtain ⟨M28, e27, h⟩ := gs_o1 h
            refine gs_puti' (pc := 53) C dX12_sum_53 gk_12 fp_X12_123 sh_147 rfl e27 ?_
            refine gs_aload_n (pc := 56) C 1 dX12_sum_56 rfl rfl ?_
            obtain ⟨v29, M30, e31, h⟩ := gs_o2 h
            refine gs_callVi (pc := 57) C [] dX12_sum_57 ml_X12_182 wy_X12_term (hG1 _ e31) (by omega) sh_147 (by decide) rfl rfl (Nat.le_of_ble_eq_true rfl) rfl ?_
            refine gs_i2l (pc := 60) C dX12_sum_60 ?_
            refine gs_lstore_n (ls' := [(3, .long (Int32.toInt64 v29)), (2, .int (if v24 = (43 : Int32) then (1 : Int32) else (0 : Int32) : Int32)), (0, .ref 147), (1, .int x1)]) (pc := 61) C dX12_sum_61 rfl (by decide) rfl ?_
            refine gs_iload_n (pc := 62) C 1 dX12_sum_62 rfl rfl ?_
            have j34 : gs_AW X 77 [(0, .ref 147), (1, .int x1), (2, .int (if v24 = (43 : Int32) then (1 : Int32) else (0 : Int32) : Int32)), (3, .long (Int32.toInt64 v29))] [.long (if (if v24 = (43 : Int32) then (1 : Int32) else (0 : Int32) : Int32) = (0 : Int32) then ((Int32.toInt64 x1) - (Int32.toInt64 v29)) else ((Int32.toInt64 x1) + (Int32.toInt64 v29)) : Int64)] M30 L := by
              obtain ⟨v32, e33, h⟩ := gs_o1 h
              refine gs_callSi (pc := 77) C [.long (if (if v24 = (43 : Int32) then (1 : Int32) else (0 : Int32) : Int32) = (0 : Int32) then ((Int32.toInt64 x1) - (Int32.toInt64 v29)) else ((Int32.toInt64 x1) + (Int32.toInt64 v29)) : Int64)] dX12_sum_77 ml_X12_178 wy_X12_within (a_X12_within _ e33) (by omega) rfl (Nat.le_of_ble_eq_true rfl) rfl ?_
              refine gs_istore_n (ls' := [(1, .int v32), (0, .ref 147), (2, .int (if v24 = (43 : Int32) then (1 : Int32) else (0 : Int32) : Int32)), (3, .long (Int32.toInt64 v29))]) (pc := 80) C dX12_sum_80 rfl (by decide) rfl ?_
              refine gs_goto (pc := 81) C 5 dX12_sum_81 rfl ?_
              exact gs_sub [1, 0] rfl (ih _ _ h)
            refine gs_if_eq (pc := 63) C 73 dX12_sum_63 rfl (fun c35 => ?_) (fun c35 => ?_)
            · refine gs_iload_n (pc := 73) C 3 dX12_sum_73 rfl rfl ?_
              refine gs_i2l (pc := 74) C dX12_sum_74 ?_
              refine gs_lload_n (pc := 75) C 0 dX12_sum_75 rfl rfl ?_
              refine gs_lsub (pc := 76) C dX12_sum_76 ?_
              simp only [if_pos c35] at j34
              exact gs_sub [2, 3, 1, 0] rfl (j34)
            · refine gs_iload_n (pc := 66) C 3 dX12_sum_66 rfl rfl ?_
              refine gs_i2l (pc := 67) C dX12_sum_67 ?_
              refine gs_lload_n (pc := 68) C 0 dX12_sum_68 rfl rfl ?_
              refine gs_ladd (pc := 69) C dX12_sum_69 ?_
              refine gs_goto (pc := 70) C 77 dX12_sum_70 rfl ?_
              simp only [if_neg c35] at j34
              exact gs_sub [2, 3, 1, 0] rfl (j34)
          refine gs_icmp_ne (pc := 37) C 44 dX12_sum_37 rfl (fun c37 => ?_) (fun c37 => ?_)
          · refine gs_iconst (w := 0) (pc := 44) C dX12_sum_44 rfl ?_
            simp only [if_neg c37] at j36
            exact j36
          · refine gs_iconst (w := 1) (pc := 40) C dX12_sum_40 rfl ?_
            refine gs_goto (pc := 41) C 45 dX12_sum_41 rfl ?_
            simp only [if_pos c37] at j36
            exact j36
set_option maxRecDepth 100000 in
set_option maxHeartbeats 4000000 in
theorem a_X12_sum (l : Launch) {G : Nat → Int32 → Int32 → gs_M → Option (Int32 × gs_M)} {n : Nat} (hnb : 12 ≤ n) (hG0 : ∀ (l : Launch) {x1 x2 v : Int32} {M M1 : gs_M} {L : gs_L}, G 0 x1 x2 M = some (v, M1) → gs_Met l n yX12_atom cX12_atom 4 (some .int) [.ref 147] M L (some (.int v)) M1 L) (hG1 : ∀ (l : Launch) {x1 x2 v : Int32} {M M1 : gs_M} {L : gs_L}, G 1 x1 x2 M = some (v, M1) → gs_Met l n yX12_term cX12_term 5 (some .int) [.ref 147] M L (some (.int v)) M1 L) (hG2 : ∀ (l : Launch) {x1 x2 v : Int32} {M M1 : gs_M} {L : gs_L}, G 2 x1 x2 M = some (v, M1) → gs_Met l n yX12_sum cX12_sum 5 (some .int) [.ref 147] M L (some (.int v)) M1 L) (hG3 : ∀ (l : Launch) {x1 x2 v : Int32} {M M1 : gs_M} {L : gs_L}, G 3 x1 x2 M = some (v, M1) → gs_Met l n yX12_compares cX12_compares 6 (some .boolean) [.ref 147, .int x1, .int x2] M L (some (.int v)) M1 L) (hG4 : ∀ (l : Launch) {x1 x2 v : Int32} {M M1 : gs_M} {L : gs_L}, G 4 x1 x2 M = some (v, M1) → gs_Met l n yX12_unit cX12_unit 3 (some .boolean) [.ref 147] M L (some (.int v)) M1 L) (hG5 : ∀ (l : Launch) {x1 x2 v : Int32} {M M1 : gs_M} {L : gs_L}, G 5 x1 x2 M = some (v, M1) → gs_Met l n yX12_part cX12_part 5 (some .boolean) [.ref 147, .int x1, .int x2] M L (some (.int v)) M1 L) (hG6 : ∀ (l : Launch) {x1 x2 v : Int32} {M M1 : gs_M} {L : gs_L}, G 6 x1 x2 M = some (v, M1) → gs_Met l n yX12_condition cX12_condition 5 (some .boolean) [.ref 147, .int x1, .int x2] M L (some (.int v)) M1 L) {M : gs_M} {L : gs_L} {rv : Int32} {Mz : gs_M} (h : f_X12_sum G M = some (rv, Mz)) : gs_Met l (n + 1) yX12_sum cX12_sum 5 (some .int) [.ref 147] M L (some (.int rv)) Mz L := by
  unfold f_X12_sum at h
  refine gs_of RX12 (by decide) rfl (Nat.le_of_ble_eq_true rfl) (fun X C E => ?_)
  show gs_AW X 0 [(0, .ref 147)] [] M L
  refine gs_aload_n (pc := 0) C 0 dX12_sum_0 rfl rfl ?_
  obtain ⟨v1, M2, e3, h⟩ := gs_o2 h
  refine gs_callVi (pc := 1) C [] dX12_sum_1 ml_X12_182 wy_X12_term (hG1 _ e3) (by omega) sh_147 (by decide) rfl rfl (Nat.le_of_ble_eq_true rfl) rfl ?_
  refine gs_istore_n (ls' := [(1, .int v1), (0, .ref 147)]) (pc := 4) C dX12_sum_4 rfl (by decide) rfl ?_
  obtain ⟨y4, M5, e6, h⟩ := gs_o2 h
  refine gs_sub [1, 0] rfl (t_X12_sum_5 hnb hG0 hG1 hG2 hG3 hG4 hG5 hG6 C ?_ gs_FU _ _ e6)
  refine gs_iload_n (pc := 84) C 1 dX12_sum_84 rfl rfl ?_
  obtain ⟨rfl, rfl⟩ := gs_i2 h
  exact gs_iret (pc := 85) C dX12_sum_85 E
set_option maxRecDepth 100000 in
set_option maxHeartbeats 4000000 in
theorem a_X12_isSign (l : Launch) {M : gs_M} {L : gs_L} {x0 : Int32} {rv : Int32} (h : f_X12_isSign x0 = some (rv)) : gs_Met l 0 yX12_isSign cX12_isSign 1 (some .boolean) [.int x0] M L (some (.int rv)) M L := by
  unfold f_X12_isSign at h
  refine gs_of RX12 (by decide) rfl (Nat.le_of_ble_eq_true rfl) (fun X C E => ?_)
  show gs_AW X 0 [(0, .int x0)] [] M L
  refine gs_iload_n (pc := 0) C 0 dX12_isSign_0 rfl rfl ?_
  refine gs_bipush (w := 61) (pc := 1) C dX12_isSign_1 rfl ?_
  have j3 : gs_AW X 23 [(0, .int x0)] [.int (if x0 = (61 : Int32) then (1 : Int32) else if x0 = (60 : Int32) then (1 : Int32) else if x0 = (62 : Int32) then (1 : Int32) else (0 : Int32) : Int32)] M L := by
    obtain ⟨z1, e2, h⟩ := gs_o1 h
    obtain rfl := gs_i1 h
    exact gs_zret' (pc := 23) C dX12_isSign_23 e2 E
  refine gs_icmp_eq (pc := 3) C 18 dX12_isSign_3 rfl (fun c4 => ?_) (fun c4 => ?_)
  · refine gs_iconst (w := 1) (pc := 18) C dX12_isSign_18 rfl ?_
    refine gs_goto (pc := 19) C 23 dX12_isSign_19 rfl ?_
    simp only [if_pos c4] at j3
    exact j3
  · refine gs_iload_n (pc := 6) C 0 dX12_isSign_6 rfl rfl ?_
    refine gs_bipush (w := 60) (pc := 7) C dX12_isSign_7 rfl ?_
    refine gs_icmp_eq (pc := 9) C 18 dX12_isSign_9 rfl (fun c5 => ?_) (fun c5 => ?_)
    · refine gs_iconst (w := 1) (pc := 18) C dX12_isSign_18 rfl ?_
      refine gs_goto (pc := 19) C 23 dX12_isSign_19 rfl ?_
      simp only [if_neg c4, if_pos c5] at j3
      exact j3
    · refine gs_iload_n (pc := 12) C 0 dX12_isSign_12 rfl rfl ?_
      refine gs_bipush (w := 62) (pc := 13) C dX12_isSign_13 rfl ?_
      refine gs_icmp_ne (pc := 15) C 22 dX12_isSign_15 rfl (fun c6 => ?_) (fun c6 => ?_)
      · refine gs_iconst (w := 0) (pc := 22) C dX12_isSign_22 rfl ?_
        simp only [if_neg c4, if_neg c5, if_neg c6] at j3
        exact j3
      · refine gs_iconst (w := 1) (pc := 18) C dX12_isSign_18 rfl ?_
        refine gs_goto (pc := 19) C 23 dX12_isSign_19 rfl ?_
        simp only [if_neg c4, if_neg c5, if_pos c6] at j3
        exact j3
set_option maxRecDepth 100000 in
set_option maxHeartbeats 4000000 in
theorem a_X12_compares (l : Launch) {G : Nat → Int32 → Int32 → gs_M → Option (Int32 × gs_M)} {n : Nat} (hnb : 12 ≤ n) (hG0 : ∀ (l : Launch) {x1 x2 v : Int32} {M M1 : gs_M} {L : gs_L}, G 0 x1 x2 M = some (v, M1) → gs_Met l n yX12_atom cX12_atom 4 (some .int) [.ref 147] M L (some (.int v)) M1 L) (hG1 : ∀ (l : Launch) {x1 x2 v : Int32} {M M1 : gs_M} {L : gs_L}, G 1 x1 x2 M = some (v, M1) → gs_Met l n yX12_term cX12_term 5 (some .int) [.ref 147] M L (some (.int v)) M1 L) (hG2 : ∀ (l : Launch) {x1 x2 v : Int32} {M M1 : gs_M} {L : gs_L}, G 2 x1 x2 M = some (v, M1) → gs_Met l n yX12_sum cX12_sum 5 (some .int) [.ref 147] M L (some (.int v)) M1 L) (hG3 : ∀ (l : Launch) {x1 x2 v : Int32} {M M1 : gs_M} {L : gs_L}, G 3 x1 x2 M = some (v, M1) → gs_Met l n yX12_compares cX12_compares 6 (some .boolean) [.ref 147, .int x1, .int x2] M L (some (.int v)) M1 L) (hG4 : ∀ (l : Launch) {x1 x2 v : Int32} {M M1 : gs_M} {L : gs_L}, G 4 x1 x2 M = some (v, M1) → gs_Met l n yX12_unit cX12_unit 3 (some .boolean) [.ref 147] M L (some (.int v)) M1 L) (hG5 : ∀ (l : Launch) {x1 x2 v : Int32} {M M1 : gs_M} {L : gs_L}, G 5 x1 x2 M = some (v, M1) → gs_Met l n yX12_part cX12_part 5 (some .boolean) [.ref 147, .int x1, .int x2] M L (some (.int v)) M1 L) (hG6 : ∀ (l : Launch) {x1 x2 v : Int32} {M M1 : gs_M} {L : gs_L}, G 6 x1 x2 M = some (v, M1) → gs_Met l n yX12_condition cX12_condition 5 (some .boolean) [.ref 147, .int x1, .int x2] M L (some (.int v)) M1 L) {M : gs_M} {L : gs_L} {x1 : Int32} {x2 : Int32} {rv : Int32} {Mz : gs_M} (h : f_X12_compares G M x1 x2 = some (rv, Mz)) : gs_Met l (n + 1) yX12_compares cX12_compares 6 (some .boolean) [.ref 147, .int x1, .int x2] M L (some (.int rv)) Mz L := by
  unfold f_X12_compares at h
  refine gs_of RX12 (by decide) rfl (Nat.le_of_ble_eq_true rfl) (fun X C E => ?_)
  show gs_AW X 0 [(0, .ref 147), (1, .int x1), (2, .int x2)] [] M L
  refine gs_iload_n (pc := 0) C 1 dX12_compares_0 rfl rfl ?_
  obtain ⟨y1, M2, e3, h⟩ := gs_o2 h
  have j4 : gs_AW X 12 [(0, .ref 147), (1, .int x1), (2, .int x2)] [.int y1] M2 L := by
    refine gs_istore_n (ls' := [(3, .int y1), (0, .ref 147), (1, .int x1), (2, .int x2)]) (pc := 12) C dX12_compares_12 rfl (by decide) rfl ?_
    refine gs_aload_n (pc := 13) C 1 dX12_compares_13 rfl rfl ?_
    refine gs_geti (pc := 14) C dX12_compares_14 gk_12 fl_X12_132 sh_147 rfl ?_
    refine gs_iconst (w := (-1)) (pc := 17) C dX12_compares_17 rfl ?_
    refine gs_icmp_eq (pc := 18) C 23 dX12_compares_18 rfl (fun c9 => ?_) (fun c9 => ?_)
    · replace h := gs_ift c9 h
      refine gs_aload_n (pc := 23) C 1 dX12_compares_23 rfl rfl ?_
      obtain ⟨v10, M11, e12, h⟩ := gs_o2 h
      refine gs_callVi (pc := 24) C [] dX12_compares_24 ml_X12_142 wy_X12_look (a_X12_look _ e12) (by omega) sh_147 (by decide) rfl rfl (Nat.le_of_ble_eq_true rfl) rfl ?_
      refine gs_istore (ls' := [(4, .int v10), (3, .int y1), (0, .ref 147), (1, .int x1), (2, .int x2)]) (pc := 27) C dX12_compares_27 (by decide) rfl ?_
      refine gs_iload (pc := 29) C 0 dX12_compares_29 rfl ?_
      obtain ⟨v13, e14, h⟩ := gs_o1 h
      refine gs_callSi (pc := 31) C [.int v10] dX12_compares_31 ml_X12_185 wy_X12_isSign (a_X12_isSign _ e14) (by omega) rfl (Nat.le_of_ble_eq_true rfl) rfl ?_
      refine gs_if_ne (pc := 34) C 42 dX12_compares_34 rfl (fun c15 => ?_) (fun c15 => ?_)
      · replace h := gs_iff c15 h
        refine gs_aload_n (pc := 42) C 2 dX12_compares_42 rfl rfl ?_
        refine gs_dup (pc := 43) C dX12_compares_43 rfl ?_
        refine gs_geti (pc := 44) C dX12_compares_44 gk_12 fl_X12_123 sh_147 rfl ?_
        refine gs_iconst (w := 1) (pc := 47) C dX12_compares_47 rfl ?_
        refine gs_iadd (pc := 48) C dX12_compares_48 ?_
        obtain ⟨M17, e16, h⟩ := gs_o1 h
        refine gs_puti' (pc := 49) C dX12_compares_49 gk_12 fp_X12_123 sh_147 rfl e16 ?_
        refine gs_aload_n (pc := 52) C 2 dX12_compares_52 rfl rfl ?_
        obtain ⟨v18, M19, e20, h⟩ := gs_o2 h
        refine gs_callVi (pc := 53) C [] dX12_compares_53 ml_X12_165 wy_X12_sum (hG2 _ e20) (by omega) sh_147 (by decide) rfl rfl (Nat.le_of_ble_eq_true rfl) rfl ?_
        refine gs_istore (ls' := [(5, .int v18), (4, .int v10), (3, .int y1), (0, .ref 147), (1, .int x1), (2, .int x2)]) (pc := 56) C dX12_compares_56 (by decide) rfl ?_
        refine gs_iload (pc := 58) C 1 dX12_compares_58 rfl ?_
        refine gs_bipush (w := 61) (pc := 60) C dX12_compares_60 rfl ?_
        have j23 : gs_AW X 111 [(0, .ref 147), (1, .int x1), (2, .int x2), (3, .int y1), (4, .int v10), (5, .int v18)] [.int (if v10 = (61 : Int32) then if y1 = v18 then (1 : Int32) else (0 : Int32) else if v10 = (60 : Int32) then if v18 ≤ y1 then (0 : Int32) else (1 : Int32) else if y1 ≤ v18 then (0 : Int32) else (1 : Int32) : Int32)] M19 L := by
          obtain ⟨z21, e22, h⟩ := gs_o1 h
          obtain ⟨rfl, rfl⟩ := gs_i2 h
          exact gs_zret' (pc := 111) C dX12_compares_111 e22 E
        refine gs_icmp_ne (pc := 62) C 79 dX12_compares_62 rfl (fun c24 => ?_) (fun c24 => ?_)
        · refine gs_iload (pc := 79) C 1 dX12_compares_79 rfl ?_
          refine gs_bipush (w := 60) (pc := 81) C dX12_compares_81 rfl ?_
          refine gs_icmp_ne (pc := 83) C 100 dX12_compares_83 rfl (fun c25 => ?_) (fun c25 => ?_)
          · refine gs_iload_n (pc := 100) C 2 dX12_compares_100 rfl rfl ?_
            refine gs_iload (pc := 101) C 0 dX12_compares_101 rfl ?_
            refine gs_icmp_le (pc := 103) C 110 dX12_compares_103 rfl (fun c26 => ?_) (fun c26 => ?_)
            · refine gs_iconst (w := 0) (pc := 110) C dX12_compares_110 rfl ?_
              simp only [if_neg c24, if_neg c25, if_pos c26] at j23
              exact gs_sub [3, 4, 5, 2, 1, 0] rfl (j23)
            · refine gs_iconst (w := 1) (pc := 106) C dX12_compares_106 rfl ?_
              refine gs_goto (pc := 107) C 111 dX12_compares_107 rfl ?_
              simp only [if_neg c24, if_neg c25, if_neg c26] at j23
              exact gs_sub [3, 4, 5, 2, 1, 0] rfl (j23)
          · refine gs_iload_n (pc := 86) C 2 dX12_compares_86 rfl rfl ?_
            refine gs_iload (pc := 87) C 0 dX12_compares_87 rfl ?_
            refine gs_icmp_ge (pc := 89) C 96 dX12_compares_89 rfl (fun c27 => ?_) (fun c27 => ?_)
            · refine gs_iconst (w := 0) (pc := 96) C dX12_compares_96 rfl ?_
              refine gs_goto (pc := 97) C 111 dX12_compares_97 rfl ?_
              simp only [if_neg c24, if_pos c25, if_pos c27] at j23
              exact gs_sub [3, 4, 5, 2, 1, 0] rfl (j23)
            · refine gs_iconst (w := 1) (pc := 92) C dX12_compares_92 rfl ?_
              refine gs_goto (pc := 93) C 111 dX12_compares_93 rfl ?_
              simp only [if_neg c24, if_pos c25, if_neg c27] at j23
              exact gs_sub [3, 4, 5, 2, 1, 0] rfl (j23)
        · refine gs_iload_n (pc := 65) C 2 dX12_compares_65 rfl rfl ?_
          refine gs_iload (pc := 66) C 0 dX12_compares_66 rfl ?_
          refine gs_icmp_ne (pc := 68) C 75 dX12_compares_68 rfl (fun c28 => ?_) (fun c28 => ?_)
          · refine gs_iconst (w := 0) (pc := 75) C dX12_compares_75 rfl ?_
            refine gs_goto (pc := 76) C 111 dX12_compares_76 rfl ?_
            simp only [if_pos c24, if_neg c28] at j23
            exact gs_sub [3, 4, 5, 2, 1, 0] rfl (j23)
          · refine gs_iconst (w := 1) (pc := 71) C dX12_compares_71 rfl ?_
            refine gs_goto (pc := 72) C 111 dX12_compares_72 rfl ?_
            simp only [if_pos c24, if_pos c28] at j23
            exact gs_sub [3, 4, 5, 2, 1, 0] rfl (j23)
      · replace h := gs_ift c15 h
        refine gs_aload_n (pc := 37) C 2 dX12_compares_37 rfl rfl ?_
        obtain ⟨v29, M30, e31, h⟩ := gs_o2 h
        refine gs_callVi (pc := 38) C [] dX12_compares_38 ml_X12_138 wy_X12_fails (a_X12_fails _ e31) (by omega) sh_147 (by decide) rfl rfl (Nat.le_of_ble_eq_true rfl) rfl ?_
        obtain ⟨z32, e33, h⟩ := gs_o1 h
        obtain ⟨rfl, rfl⟩ := gs_i2 h
        exact gs_zret' (pc := 41) C dX12_compares_41 e33 E
    · replace h := gs_iff c9 h
      refine gs_iconst (w := 0) (pc := 21) C dX12_compares_21 rfl ?_
      obtain ⟨rfl, rfl⟩ := gs_i2 h
      exact gs_zret (pc := 22) C (by decide) dX12_compares_22 E
  refine gs_if_eq (pc := 1) C 8 dX12_compares_1 rfl (fun c5 => ?_) (fun c5 => ?_)
  · replace e3 := gs_ift c5 e3
    refine gs_aload_n (pc := 8) C 0 dX12_compares_8 rfl rfl ?_
    obtain ⟨v6, M7, e8, e3⟩ := gs_o2 e3
    refine gs_callVi (pc := 9) C [] dX12_compares_9 ml_X12_165 wy_X12_sum (hG2 _ e8) (by omega) sh_147 (by decide) rfl rfl (Nat.le_of_ble_eq_true rfl) rfl ?_
    obtain ⟨rfl, rfl⟩ := gs_i2 e3
    exact j4
  · replace e3 := gs_iff c5 e3
    refine gs_iload_n (pc := 4) C 2 dX12_compares_4 rfl rfl ?_
    refine gs_goto (pc := 5) C 12 dX12_compares_5 rfl ?_
    obtain ⟨rfl, rfl⟩ := gs_i2 e3
    exact j4
set_option maxRecDepth 100000 in
set_option maxHeartbeats 4000000 in
theorem a_X12_unit (l : Launch) {G : Nat → Int32 → Int32 → gs_M → Option (Int32 × gs_M)} {n : Nat} (hnb : 12 ≤ n) (hG0 : ∀ (l : Launch) {x1 x2 v : Int32} {M M1 : gs_M} {L : gs_L}, G 0 x1 x2 M = some (v, M1) → gs_Met l n yX12_atom cX12_atom 4 (some .int) [.ref 147] M L (some (.int v)) M1 L) (hG1 : ∀ (l : Launch) {x1 x2 v : Int32} {M M1 : gs_M} {L : gs_L}, G 1 x1 x2 M = some (v, M1) → gs_Met l n yX12_term cX12_term 5 (some .int) [.ref 147] M L (some (.int v)) M1 L) (hG2 : ∀ (l : Launch) {x1 x2 v : Int32} {M M1 : gs_M} {L : gs_L}, G 2 x1 x2 M = some (v, M1) → gs_Met l n yX12_sum cX12_sum 5 (some .int) [.ref 147] M L (some (.int v)) M1 L) (hG3 : ∀ (l : Launch) {x1 x2 v : Int32} {M M1 : gs_M} {L : gs_L}, G 3 x1 x2 M = some (v, M1) → gs_Met l n yX12_compares cX12_compares 6 (some .boolean) [.ref 147, .int x1, .int x2] M L (some (.int v)) M1 L) (hG4 : ∀ (l : Launch) {x1 x2 v : Int32} {M M1 : gs_M} {L : gs_L}, G 4 x1 x2 M = some (v, M1) → gs_Met l n yX12_unit cX12_unit 3 (some .boolean) [.ref 147] M L (some (.int v)) M1 L) (hG5 : ∀ (l : Launch) {x1 x2 v : Int32} {M M1 : gs_M} {L : gs_L}, G 5 x1 x2 M = some (v, M1) → gs_Met l n yX12_part cX12_part 5 (some .boolean) [.ref 147, .int x1, .int x2] M L (some (.int v)) M1 L) (hG6 : ∀ (l : Launch) {x1 x2 v : Int32} {M M1 : gs_M} {L : gs_L}, G 6 x1 x2 M = some (v, M1) → gs_Met l n yX12_condition cX12_condition 5 (some .boolean) [.ref 147, .int x1, .int x2] M L (some (.int v)) M1 L) {M : gs_M} {L : gs_L} {rv : Int32} {Mz : gs_M} (h : f_X12_unit G M = some (rv, Mz)) : gs_Met l (n + 1) yX12_unit cX12_unit 3 (some .boolean) [.ref 147] M L (some (.int rv)) Mz L := by
  unfold f_X12_unit at h
  refine gs_of RX12 (by decide) rfl (Nat.le_of_ble_eq_true rfl) (fun X C E => ?_)
  show gs_AW X 0 [(0, .ref 147)] [] M L
  refine gs_aload_n (pc := 0) C 0 dX12_unit_0 rfl rfl ?_
  obtain ⟨v1, M2, e3, h⟩ := gs_o2 h
  refine gs_callVi (pc := 1) C [] dX12_unit_1 ml_X12_142 wy_X12_look (a_X12_look _ e3) (by omega) sh_147 (by decide) rfl rfl (Nat.le_of_ble_eq_true rfl) rfl ?_
  refine gs_istore_n (ls' := [(1, .int v1), (0, .ref 147)]) (pc := 4) C dX12_unit_4 rfl (by decide) rfl ?_
  refine gs_iload_n (pc := 5) C 0 dX12_unit_5 rfl rfl ?_
  refine gs_bipush (w := 33) (pc := 6) C dX12_unit_6 rfl ?_
  refine gs_icmp_ne (pc := 8) C 45 dX12_unit_8 rfl (fun c4 => ?_) (fun c4 => ?_)
  · replace h := gs_iff c4 h
    refine gs_iload_n (pc := 45) C 0 dX12_unit_45 rfl rfl ?_
    refine gs_bipush (w := 40) (pc := 46) C dX12_unit_46 rfl ?_
    refine gs_icmp_ne (pc := 48) C 90 dX12_unit_48 rfl (fun c5 => ?_) (fun c5 => ?_)
    · replace h := gs_iff c5 h
      refine gs_aload_n (pc := 90) C 1 dX12_unit_90 rfl rfl ?_
      refine gs_iconst (w := 0) (pc := 91) C dX12_unit_91 rfl ?_
      refine gs_iconst (w := 0) (pc := 92) C dX12_unit_92 rfl ?_
      obtain ⟨v6, M7, e8, h⟩ := gs_o2 h
      refine gs_callVi (pc := 93) C [.int (0 : Int32), .int (0 : Int32)] dX12_unit_93 ml_X12_195 wy_X12_compares (hG3 _ e8) (by omega) sh_147 (by decide) rfl rfl (Nat.le_of_ble_eq_true rfl) rfl ?_
      obtain ⟨z9, e10, h⟩ := gs_o1 h
      obtain ⟨rfl, rfl⟩ := gs_i2 h
      exact gs_zret' (pc := 96) C dX12_unit_96 e10 E
    · replace h := gs_ift c5 h
      refine gs_aload_n (pc := 51) C 1 dX12_unit_51 rfl rfl ?_
      obtain ⟨v11, M12, e13, h⟩ := gs_o2 h
      refine gs_callVi (pc := 52) C [] dX12_unit_52 ml_X12_162 wy_X12_goesIn (a_X12_goesIn _ e13) (by omega) sh_147 (by decide) rfl rfl (Nat.le_of_ble_eq_true rfl) rfl ?_
      refine gs_if_ne (pc := 55) C 60 dX12_unit_55 rfl (fun c14 => ?_) (fun c14 => ?_)
      · replace h := gs_iff c14 h
        refine gs_aload_n (pc := 60) C 1 dX12_unit_60 rfl rfl ?_
        refine gs_iconst (w := 0) (pc := 61) C dX12_unit_61 rfl ?_
        refine gs_iconst (w := 0) (pc := 62) C dX12_unit_62 rfl ?_
        obtain ⟨v15, M16, e17, h⟩ := gs_o2 h
        refine gs_callVi (pc := 63) C [.int (0 : Int32), .int (0 : Int32)] dX12_unit_63 ml_X12_191 wy_X12_condition (hG6 _ e17) (by omega) sh_147 (by decide) rfl rfl (Nat.le_of_ble_eq_true rfl) rfl ?_
        refine gs_istore_n (ls' := [(2, .int v15), (1, .int v1), (0, .ref 147)]) (pc := 66) C dX12_unit_66 rfl (by decide) rfl ?_
        refine gs_aload_n (pc := 67) C 2 dX12_unit_67 rfl rfl ?_
        refine gs_bipush (w := 41) (pc := 68) C dX12_unit_68 rfl ?_
        obtain ⟨v18, M19, e20, h⟩ := gs_o2 h
        refine gs_callVi (pc := 70) C [.int (41 : Int32)] dX12_unit_70 ml_X12_168 wy_X12_takes (a_X12_takes _ e20) (by omega) sh_147 (by decide) rfl rfl (Nat.le_of_ble_eq_true rfl) rfl ?_
        refine gs_if_ne (pc := 73) C 78 dX12_unit_73 rfl (fun c21 => ?_) (fun c21 => ?_)
        · replace h := gs_iff c21 h
          refine gs_aload_n (pc := 78) C 2 dX12_unit_78 rfl rfl ?_
          refine gs_dup (pc := 79) C dX12_unit_79 rfl ?_
          refine gs_geti (pc := 80) C dX12_unit_80 gk_12 fl_X12_135 sh_147 rfl ?_
          refine gs_iconst (w := 1) (pc := 83) C dX12_unit_83 rfl ?_
          refine gs_isub (pc := 84) C dX12_unit_84 ?_
          obtain ⟨M23, e22, h⟩ := gs_o1 h
          refine gs_puti' (pc := 85) C dX12_unit_85 gk_12 fp_X12_135 sh_147 rfl e22 ?_
          refine gs_iload_n (pc := 88) C 0 dX12_unit_88 rfl rfl ?_
          obtain ⟨z24, e25, h⟩ := gs_o1 h
          obtain ⟨rfl, rfl⟩ := gs_i2 h
          exact gs_zret' (pc := 89) C dX12_unit_89 e25 E
        · replace h := gs_ift c21 h
          refine gs_iconst (w := 0) (pc := 76) C dX12_unit_76 rfl ?_
          obtain ⟨rfl, rfl⟩ := gs_i2 h
          exact gs_zret (pc := 77) C (by decide) dX12_unit_77 E
      · replace h := gs_ift c14 h
        refine gs_iconst (w := 0) (pc := 58) C dX12_unit_58 rfl ?_
        obtain ⟨rfl, rfl⟩ := gs_i2 h
        exact gs_zret (pc := 59) C (by decide) dX12_unit_59 E
  · replace h := gs_ift c4 h
    refine gs_aload_n (pc := 11) C 1 dX12_unit_11 rfl rfl ?_
    obtain ⟨v26, M27, e28, h⟩ := gs_o2 h
    refine gs_callVi (pc := 12) C [] dX12_unit_12 ml_X12_162 wy_X12_goesIn (a_X12_goesIn _ e28) (by omega) sh_147 (by decide) rfl rfl (Nat.le_of_ble_eq_true rfl) rfl ?_
    refine gs_if_ne (pc := 15) C 20 dX12_unit_15 rfl (fun c29 => ?_) (fun c29 => ?_)
    · replace h := gs_iff c29 h
      refine gs_aload_n (pc := 20) C 1 dX12_unit_20 rfl rfl ?_
      obtain ⟨v30, M31, e32, h⟩ := gs_o2 h
      refine gs_callVi (pc := 21) C [] dX12_unit_21 ml_X12_188 wy_X12_unit (hG4 _ e32) (by omega) sh_147 (by decide) rfl rfl (Nat.le_of_ble_eq_true rfl) rfl ?_
      refine gs_istore_n (ls' := [(2, .int v30), (1, .int v1), (0, .ref 147)]) (pc := 24) C dX12_unit_24 rfl (by decide) rfl ?_
      refine gs_aload_n (pc := 25) C 2 dX12_unit_25 rfl rfl ?_
      refine gs_dup (pc := 26) C dX12_unit_26 rfl ?_
      refine gs_geti (pc := 27) C dX12_unit_27 gk_12 fl_X12_135 sh_147 rfl ?_
      refine gs_iconst (w := 1) (pc := 30) C dX12_unit_30 rfl ?_
      refine gs_isub (pc := 31) C dX12_unit_31 ?_
      obtain ⟨M34, e33, h⟩ := gs_o1 h
      refine gs_puti' (pc := 32) C dX12_unit_32 gk_12 fp_X12_135 sh_147 rfl e33 ?_
      refine gs_iload_n (pc := 35) C 0 dX12_unit_35 rfl rfl ?_
      have j37 : gs_AW X 44 [(0, .ref 147), (1, .int v1), (2, .int v30)] [.int (if v30 = (0 : Int32) then (1 : Int32) else (0 : Int32) : Int32)] M34 L := by
        obtain ⟨z35, e36, h⟩ := gs_o1 h
        obtain ⟨rfl, rfl⟩ := gs_i2 h
        exact gs_zret' (pc := 44) C dX12_unit_44 e36 E
      refine gs_if_ne (pc := 36) C 43 dX12_unit_36 rfl (fun c38 => ?_) (fun c38 => ?_)
      · refine gs_iconst (w := 0) (pc := 43) C dX12_unit_43 rfl ?_
        simp only [if_neg c38] at j37
        exact gs_sub [2, 1, 0] rfl (j37)
      · refine gs_iconst (w := 1) (pc := 39) C dX12_unit_39 rfl ?_
        refine gs_goto (pc := 40) C 44 dX12_unit_40 rfl ?_
        simp only [if_pos c38] at j37
        exact gs_sub [2, 1, 0] rfl (j37)
    · replace h := gs_ift c29 h
      refine gs_iconst (w := 0) (pc := 18) C dX12_unit_18 rfl ?_
      obtain ⟨rfl, rfl⟩ := gs_i2 h
      exact gs_zret (pc := 19) C (by decide) dX12_unit_19 E
