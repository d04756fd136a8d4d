def f_J0_isLatin1_aae02 (j0 : Nat) : Option (Int32) :=
  some (1 : Int32)
set_option maxRecDepth 100000 in
set_option maxHeartbeats 4000000 in
theorem a_J0_isLatin1_aae02 (l : Launch) {M : gs_M} {L : gs_L} {j0 : Nat} {rv : Int32} (h_j0 : j0 < 4) (h : f_J0_isLatin1_aae02 j0 = some (rv)) : gs_Met l 0 yJ0_isLatin1_aae02 cJ0_isLatin1_aae02 1 (some .boolean) [.ref (1000 + j0)] M L (some (.int rv)) M L := by
  unfold f_J0_isLatin1_aae02 at h
  refine gs_of RJ0 (by decide) rfl (Nat.le_of_ble_eq_true rfl) (fun X C E => ?_)
  show gs_AW X 0 [(0, .ref (1000 + j0))] [] M L
  refine gs_getsC (pc := 0) C dJ0_isLatin1_aae02_0 gw_J0_38 ?_
  refine gs_if_eq (pc := 3) C 17 dJ0_isLatin1_aae02_3 rfl (fun c1 => absurd c1 (by decide)) (fun _ => ?_)
  refine gs_aload_n (pc := 6) C 0 dJ0_isLatin1_aae02_6 rfl rfl ?_
  refine gs_getXc (pc := 7) C h_j0 dJ0_isLatin1_aae02_7 gw_J0_15 ?_
  refine gs_if_ne (pc := 10) C 17 dJ0_isLatin1_aae02_10 rfl (fun c2 => absurd c2 (by decide)) (fun _ => ?_)
  refine gs_iconst (w := 1) (pc := 13) C dJ0_isLatin1_aae02_13 rfl ?_
  refine gs_goto (pc := 14) C 18 dJ0_isLatin1_aae02_14 rfl ?_
  obtain rfl := gs_i1 h
  exact gs_zret (pc := 18) C (by decide) dJ0_isLatin1_aae02_18 E
def f_J3_checkIndex_8e157 (x0 : Int32) (x1 : Int32) : Option (Int32) :=
  if x0 < (0 : Int32) then
  none
  else
  if x0 < x1 then
  some x0
  else
  none
set_option maxRecDepth 100000 in
set_option maxHeartbeats 4000000 in
theorem a_J3_checkIndex_8e157 (l : Launch) {M : gs_M} {L : gs_L} {x0 : Int32} {x1 : Int32} {rv : Int32} (h : f_J3_checkIndex_8e157 x0 x1 = some (rv)) : gs_Met l 0 yJ3_checkIndex_8e157 cJ3_checkIndex_8e157 3 (some .int) [.int x0, .int x1, .null] M L (some (.int rv)) M L := by
  unfold f_J3_checkIndex_8e157 at h
  refine gs_of RJ3 (by decide) rfl (Nat.le_of_ble_eq_true rfl) (fun X C E => ?_)
  show gs_AW X 0 [(0, .int x0), (1, .int x1), (2, .null)] [] M L
  refine gs_iload_n (pc := 0) C 0 dJ3_checkIndex_8e157_0 rfl rfl ?_
  refine gs_if_lt (pc := 1) C 9 dJ3_checkIndex_8e157_1 rfl (fun c1 => ?_) (fun c1 => ?_)
  · replace h := gs_ift c1 h
    cases h
  · replace h := gs_iff c1 h
    refine gs_iload_n (pc := 4) C 0 dJ3_checkIndex_8e157_4 rfl rfl ?_
    refine gs_iload_n (pc := 5) C 1 dJ3_checkIndex_8e157_5 rfl rfl ?_
    refine gs_icmp_lt (pc := 6) C 16 dJ3_checkIndex_8e157_6 rfl (fun c2 => ?_) (fun c2 => ?_)
    · replace h := gs_ift c2 h
      refine gs_iload_n (pc := 16) C 0 dJ3_checkIndex_8e157_16 rfl rfl ?_
      obtain rfl := gs_i1 h
      exact gs_iret (pc := 17) C dJ3_checkIndex_8e157_17 E
    · replace h := gs_iff c2 h
      cases h
def f_J3_checkIndex_8e157_2 (x0 : Int32) (x1 : Int32) : Option (Int32) :=
  if x0 < (0 : Int32) then
  none
  else
  if x0 < x1 then
  some x0
  else
  none
set_option maxRecDepth 100000 in
set_option maxHeartbeats 4000000 in
theorem a_J3_checkIndex_8e157_2 (l : Launch) {M : gs_M} {L : gs_L} {x0 : Int32} {x1 : Int32} {rv : Int32} (h : f_J3_checkIndex_8e157_2 x0 x1 = some (rv)) : gs_Met l 0 yJ3_checkIndex_8e157 cJ3_checkIndex_8e157 3 (some .int) [.int x0, .int x1, .ref 1200] M L (some (.int rv)) M L := by
  unfold f_J3_checkIndex_8e157_2 at h
  refine gs_of RJ3 (by decide) rfl (Nat.le_of_ble_eq_true rfl) (fun X C E => ?_)
  show gs_AW X 0 [(0, .int x0), (1, .int x1), (2, .ref 1200)] [] M L
  refine gs_iload_n (pc := 0) C 0 dJ3_checkIndex_8e157_0 rfl rfl ?_
  refine gs_if_lt (pc := 1) C 9 dJ3_checkIndex_8e157_1 rfl (fun c1 => ?_) (fun c1 => ?_)
  · replace h := gs_ift c1 h
    refine gs_aload_n (pc := 9) C 2 dJ3_checkIndex_8e157_9 rfl rfl ?_
    refine gs_iload_n (pc := 10) C 0 dJ3_checkIndex_8e157_10 rfl rfl ?_
    refine gs_iload_n (pc := 11) C 1 dJ3_checkIndex_8e157_11 rfl rfl ?_
    cases h
  · replace h := gs_iff c1 h
    refine gs_iload_n (pc := 4) C 0 dJ3_checkIndex_8e157_4 rfl rfl ?_
    refine gs_iload_n (pc := 5) C 1 dJ3_checkIndex_8e157_5 rfl rfl ?_
    refine gs_icmp_lt (pc := 6) C 16 dJ3_checkIndex_8e157_6 rfl (fun c2 => ?_) (fun c2 => ?_)
    · replace h := gs_ift c2 h
      refine gs_iload_n (pc := 16) C 0 dJ3_checkIndex_8e157_16 rfl rfl ?_
      obtain rfl := gs_i1 h
      exact gs_iret (pc := 17) C dJ3_checkIndex_8e157_17 E
    · replace h := gs_iff c2 h
      refine gs_aload_n (pc := 9) C 2 dJ3_checkIndex_8e157_9 rfl rfl ?_
      refine gs_iload_n (pc := 10) C 0 dJ3_checkIndex_8e157_10 rfl rfl ?_
      refine gs_iload_n (pc := 11) C 1 dJ3_checkIndex_8e157_11 rfl rfl ?_
      cases h
def f_J0_checkIndex_df160 (x0 : Int32) (x1 : Int32) : Option (Unit) :=
  gs_b1 (f_J3_checkIndex_8e157 x0 x1) fun v1 =>
  some ()
set_option maxRecDepth 100000 in
set_option maxHeartbeats 4000000 in
theorem a_J0_checkIndex_df160 (l : Launch) {M : gs_M} {L : gs_L} {x0 : Int32} {x1 : Int32}  (h : f_J0_checkIndex_df160 x0 x1 = some ()) : gs_Met l 1 yJ0_checkIndex_df160 cJ0_checkIndex_df160 2 none [.int x0, .int x1] M L none M L := by
  unfold f_J0_checkIndex_df160 at h
  refine gs_of RJ0 (by decide) rfl (Nat.le_of_ble_eq_true rfl) (fun X C E => ?_)
  show gs_AW X 0 [(0, .int x0), (1, .int x1)] [] M L
  refine gs_iload_n (pc := 0) C 0 dJ0_checkIndex_df160_0 rfl rfl ?_
  refine gs_iload_n (pc := 1) C 1 dJ0_checkIndex_df160_1 rfl rfl ?_
  refine gs_getsF (pc := 2) C dJ0_checkIndex_df160_2 gw_J0_1053 ?_ ?_
  · obtain ⟨v1, e2, h⟩ := gs_o1 h
    refine gs_callSi (pc := 5) C [.int x0, .int x1, .null] dJ0_checkIndex_df160_5 ml_J0_1059 wy_J3_checkIndex_8e157 (a_J3_checkIndex_8e157 _ e2) (by decide) rfl (Nat.le_of_ble_eq_true rfl) rfl ?_
    refine gs_pop (pc := 8) C dJ0_checkIndex_df160_8 rfl ?_
    skip
    exact gs_vret (pc := 9) C dJ0_checkIndex_df160_9 E
  · obtain ⟨v3, e4, h⟩ := gs_o1 h
    refine gs_callSi (pc := 5) C [.int x0, .int x1, .ref 1200] dJ0_checkIndex_df160_5 ml_J0_1059 wy_J3_checkIndex_8e157 (a_J3_checkIndex_8e157_2 _ e4) (by decide) rfl (Nat.le_of_ble_eq_true rfl) rfl ?_
    refine gs_pop (pc := 8) C dJ0_checkIndex_df160_8 rfl ?_
    skip
    exact gs_vret (pc := 9) C dJ0_checkIndex_df160_9 E
def f_J1_charAt_3b067 (j0 : Nat) (x1 : Int32) : Option (Int32) :=
  gs_b1 (f_J0_checkIndex_df160 x1 (gs_ln j0)) fun u1 =>
  gs_b1 (gs_chr j0 x1) fun v3 =>
  gs_b1 (gs_ckC ((Int32.toUInt32 (v3 &&& (255 : Int32)) % 65536).toInt32)) fun z5 =>
  some z5
set_option maxRecDepth 100000 in
set_option maxHeartbeats 4000000 in
theorem a_J1_charAt_3b067 (l : Launch) {M : gs_M} {L : gs_L} {j0 : Nat} {x1 : Int32} {rv : Int32} (h_j0 : j0 < 4) (h : f_J1_charAt_3b067 j0 x1 = some (rv)) : gs_Met l 2 yJ1_charAt_3b067 cJ1_charAt_3b067 2 (some .char) [.ref (1100 + j0), .int x1] M L (some (.int rv)) M L := by
  unfold f_J1_charAt_3b067 at h
  refine gs_of RJ1 (by decide) rfl (Nat.le_of_ble_eq_true rfl) (fun X C E => ?_)
  show gs_AW X 0 [(0, .ref (1100 + j0)), (1, .int x1)] [] M L
  refine gs_iload_n (pc := 0) C 1 dJ1_charAt_3b067_0 rfl rfl ?_
  refine gs_aload_n (pc := 1) C 0 dJ1_charAt_3b067_1 rfl rfl ?_
  refine gs_alenX (pc := 2) C h_j0 dJ1_charAt_3b067_2 ?_
  obtain ⟨u1, e2, h⟩ := gs_o1 h
  refine gs_callSv (pc := 3) C [.int x1, .int (gs_ln j0)] dJ1_charAt_3b067_3 ml_J1_9 wy_J0_checkIndex_df160 (a_J0_checkIndex_df160 _ e2) (by decide) rfl (Nat.le_of_ble_eq_true rfl) rfl ?_
  refine gs_aload_n (pc := 6) C 0 dJ1_charAt_3b067_6 rfl rfl ?_
  refine gs_iload_n (pc := 7) C 1 dJ1_charAt_3b067_7 rfl rfl ?_
  obtain ⟨v3, e4, h⟩ := gs_o1 h
  refine gs_baldX (pc := 8) C h_j0 dJ1_charAt_3b067_8 e4 ?_
  refine gs_sipush (w := 255) (pc := 9) C dJ1_charAt_3b067_9 rfl ?_
  refine gs_iand (pc := 12) C dJ1_charAt_3b067_12 ?_
  refine gs_i2c (pc := 13) C dJ1_charAt_3b067_13 ?_
  obtain ⟨z5, e6, h⟩ := gs_o1 h
  obtain rfl := gs_i1 h
  exact gs_cret' (pc := 14) C dJ1_charAt_3b067_14 e6 E
def f_J0_charAt_5068e (j0 : Nat) (x1 : Int32) : Option (Int32) :=
  gs_b1 (f_J0_isLatin1_aae02 j0) fun v1 =>
  if v1 = (0 : Int32) then
  none
  else
  gs_b1 (f_J1_charAt_3b067 j0 x1) fun v4 =>
  gs_b1 (gs_ckC v4) fun z6 =>
  some z6
set_option maxRecDepth 100000 in
set_option maxHeartbeats 4000000 in
theorem a_J0_charAt_5068e (l : Launch) {M : gs_M} {L : gs_L} {j0 : Nat} {x1 : Int32} {rv : Int32} (h_j0 : j0 < 4) (h : f_J0_charAt_5068e j0 x1 = some (rv)) : gs_Met l 3 yJ0_charAt_5068e cJ0_charAt_5068e 2 (some .char) [.ref (1000 + j0), .int x1] M L (some (.int rv)) M L := by
  unfold f_J0_charAt_5068e at h
  refine gs_of RJ0 (by decide) rfl (Nat.le_of_ble_eq_true rfl) (fun X C E => ?_)
  show gs_AW X 0 [(0, .ref (1000 + j0)), (1, .int x1)] [] M L
  refine gs_aload_n (pc := 0) C 0 dJ0_charAt_5068e_0 rfl rfl ?_
  obtain ⟨v1, e2, h⟩ := gs_o1 h
  refine gs_callX (pc := 1) C [] h_j0 dJ0_charAt_5068e_1 ml_J0_492 wy_J0_isLatin1_aae02 (a_J0_isLatin1_aae02 _ h_j0 e2) (by decide) rfl rfl (Nat.le_of_ble_eq_true rfl) rfl ?_
  refine gs_if_eq (pc := 4) C 16 dJ0_charAt_5068e_4 rfl (fun c3 => ?_) (fun c3 => ?_)
  · replace h := gs_ift c3 h
    refine gs_aload_n (pc := 16) C 0 dJ0_charAt_5068e_16 rfl rfl ?_
    refine gs_getXv (pc := 17) C h_j0 dJ0_charAt_5068e_17 gw_J0_9 ?_
    refine gs_iload_n (pc := 20) C 1 dJ0_charAt_5068e_20 rfl rfl ?_
    cases h
  · replace h := gs_iff c3 h
    refine gs_aload_n (pc := 7) C 0 dJ0_charAt_5068e_7 rfl rfl ?_
    refine gs_getXv (pc := 8) C h_j0 dJ0_charAt_5068e_8 gw_J0_9 ?_
    refine gs_iload_n (pc := 11) C 1 dJ0_charAt_5068e_11 rfl rfl ?_
    obtain ⟨v4, e5, h⟩ := gs_o1 h
    refine gs_callSi (pc := 12) C [.ref (1100 + j0), .int x1] dJ0_charAt_5068e_12 ml_J0_495 wy_J1_charAt_3b067 (a_J1_charAt_3b067 _ h_j0 e5) (by decide) rfl (Nat.le_of_ble_eq_true rfl) rfl ?_
    obtain ⟨z6, e7, h⟩ := gs_o1 h
    obtain rfl := gs_i1 h
    exact gs_cret' (pc := 15) C dJ0_charAt_5068e_15 e7 E
def f_J0_coder_7d493 (j0 : Nat) : Option (Int32) :=
  some (0 : Int32)
set_option maxRecDepth 100000 in
set_option maxHeartbeats 4000000 in
theorem a_J0_coder_7d493 (l : Launch) {M : gs_M} {L : gs_L} {j0 : Nat} {rv : Int32} (h_j0 : j0 < 4) (h : f_J0_coder_7d493 j0 = some (rv)) : gs_Met l 0 yJ0_coder_7d493 cJ0_coder_7d493 1 (some .byte) [.ref (1000 + j0)] M L (some (.int rv)) M L := by
  unfold f_J0_coder_7d493 at h
  refine gs_of RJ0 (by decide) rfl (Nat.le_of_ble_eq_true rfl) (fun X C E => ?_)
  show gs_AW X 0 [(0, .ref (1000 + j0))] [] M L
  refine gs_getsC (pc := 0) C dJ0_coder_7d493_0 gw_J0_38 ?_
  refine gs_if_eq (pc := 3) C 13 dJ0_coder_7d493_3 rfl (fun c1 => absurd c1 (by decide)) (fun _ => ?_)
  refine gs_aload_n (pc := 6) C 0 dJ0_coder_7d493_6 rfl rfl ?_
  refine gs_getXc (pc := 7) C h_j0 dJ0_coder_7d493_7 gw_J0_15 ?_
  refine gs_goto (pc := 10) C 14 dJ0_coder_7d493_10 rfl ?_
  obtain rfl := gs_i1 h
  exact gs_bret (pc := 14) C (by decide) dJ0_coder_7d493_14 E
def f_J0_length_8abf5 (j0 : Nat) : Option (Int32) :=
  gs_b1 (f_J0_coder_7d493 j0) fun v1 =>
  some ((gs_ln j0) >>> (v1 &&& 31))
set_option maxRecDepth 100000 in
set_option maxHeartbeats 4000000 in
theorem a_J0_length_8abf5 (l : Launch) {M : gs_M} {L : gs_L} {j0 : Nat} {rv : Int32} (h_j0 : j0 < 4) (h : f_J0_length_8abf5 j0 = some (rv)) : gs_Met l 1 yJ0_length_8abf5 cJ0_length_8abf5 1 (some .int) [.ref (1000 + j0)] M L (some (.int rv)) M L := by
  unfold f_J0_length_8abf5 at h
  refine gs_of RJ0 (by decide) rfl (Nat.le_of_ble_eq_true rfl) (fun X C E => ?_)
  show gs_AW X 0 [(0, .ref (1000 + j0))] [] M L
  refine gs_aload_n (pc := 0) C 0 dJ0_length_8abf5_0 rfl rfl ?_
  refine gs_getXv (pc := 1) C h_j0 dJ0_length_8abf5_1 gw_J0_9 ?_
  refine gs_alenX (pc := 4) C h_j0 dJ0_length_8abf5_4 ?_
  refine gs_aload_n (pc := 5) C 0 dJ0_length_8abf5_5 rfl rfl ?_
  obtain ⟨v1, e2, h⟩ := gs_o1 h
  refine gs_callX (pc := 6) C [] h_j0 dJ0_length_8abf5_6 ml_J0_335 wy_J0_coder_7d493 (a_J0_coder_7d493 _ h_j0 e2) (by decide) rfl rfl (Nat.le_of_ble_eq_true rfl) rfl ?_
  refine gs_ishr (pc := 9) C dJ0_length_8abf5_9 ?_
  obtain rfl := gs_i1 h
  exact gs_iret (pc := 10) C dJ0_length_8abf5_10 E
def f_J1_canEncode_9a6ad (x0 : Int32) : Option (Int32) :=
  gs_b1 (gs_ckZ (if x0 < (0 : Int32) then (0 : Int32) else if (255 : Int32) < x0 then (0 : Int32) else (1 : Int32) : Int32)) fun z1 =>
  some z1
set_option maxRecDepth 100000 in
set_option maxHeartbeats 4000000 in
theorem a_J1_canEncode_9a6ad (l : Launch) {M : gs_M} {L : gs_L} {x0 : Int32} {rv : Int32} (h : f_J1_canEncode_9a6ad x0 = some (rv)) : gs_Met l 0 yJ1_canEncode_9a6ad cJ1_canEncode_9a6ad 1 (some .boolean) [.int x0] M L (some (.int rv)) M L := by
  unfold f_J1_canEncode_9a6ad at h
  refine gs_of RJ1 (by decide) rfl (Nat.le_of_ble_eq_true rfl) (fun X C E => ?_)
  show gs_AW X 0 [(0, .int x0)] [] M L
  refine gs_iload_n (pc := 0) C 0 dJ1_canEncode_9a6ad_0 rfl rfl ?_
  have j3 : gs_AW X 16 [(0, .int x0)] [.int (if x0 < (0 : Int32) then (0 : Int32) else if (255 : Int32) < x0 then (0 : Int32) else (1 : Int32) : Int32)] M L := by
    obtain ⟨z1, e2, h⟩ := gs_o1 h
    obtain rfl := gs_i1 h
    exact gs_zret' (pc := 16) C dJ1_canEncode_9a6ad_16 e2 E
  refine gs_if_lt (pc := 1) C 15 dJ1_canEncode_9a6ad_1 rfl (fun c4 => ?_) (fun c4 => ?_)
  · refine gs_iconst (w := 0) (pc := 15) C dJ1_canEncode_9a6ad_15 rfl ?_
    simp only [if_pos c4] at j3
    exact j3
  · refine gs_iload_n (pc := 4) C 0 dJ1_canEncode_9a6ad_4 rfl rfl ?_
    refine gs_sipush (w := 255) (pc := 5) C dJ1_canEncode_9a6ad_5 rfl ?_
    refine gs_icmp_gt (pc := 8) C 15 dJ1_canEncode_9a6ad_8 rfl (fun c5 => ?_) (fun c5 => ?_)
    · refine gs_iconst (w := 0) (pc := 15) C dJ1_canEncode_9a6ad_15 rfl ?_
      simp only [if_neg c4, if_pos c5] at j3
      exact j3
    · refine gs_iconst (w := 1) (pc := 11) C dJ1_canEncode_9a6ad_11 rfl ?_
      refine gs_goto (pc := 12) C 16 dJ1_canEncode_9a6ad_12 rfl ?_
      simp only [if_neg c4, if_neg c5] at j3
      exact j3
def l_J1_indexOfChar_4cfef_7 (j0 : Nat) (x1 : Int32) (x2 : Int32) (x3 : Int32) (x4 : Int32) : Nat → Int32 → Option (Int32)
  | 0, _ => none
  | f + 1, x5 =>
    if x3 ≤ x5 then
    some (-1 : Int32)
    else
    gs_b1 (gs_chr j0 x5) fun v2 =>
    if v2 = x4 then
    some x5
    else
    l_J1_indexOfChar_4cfef_7 j0 x1 x2 x3 x4 f (x5 + (1 : Int32))
def f_J1_indexOfChar_4cfef (j0 : Nat) (x1 : Int32) (x2 : Int32) (x3 : Int32) : Option (Int32) :=
  l_J1_indexOfChar_4cfef_7 j0 x1 x2 x3 ((Int32.toInt8 x1).toInt32) gs_FU x2
set_option maxRecDepth 100000 in
set_option maxHeartbeats 4000000 in
theorem t_J1_indexOfChar_4cfef_7 {X : gs_X} (C : gs_C X RJ1 cJ1_indexOfChar_4cfef 6 (some .int) 0) {M : gs_M} {L : gs_L} {j0 : Nat} (h_j0 : j0 < 4) {x1 : Int32} {x2 : Int32} {x3 : Int32} {x4 : Int32} {rv : Int32} (E : gs_E X (some (.int rv)) M L) : ∀ (f : Nat) (x5 : Int32), l_J1_indexOfChar_4cfef_7 j0 x1 x2 x3 x4 f x5 = some (rv) → gs_AW X 7 [(0, .ref (1100 + j0)), (1, .int x1), (2, .int x2), (3, .int x3), (4, .int x4), (5, .int x5)] [] M L := by
  intro f
  induction f with
  | zero =>
    intro x5 h
    cases h
  | succ f ih =>
    intro x5 h
    rw [l_J1_indexOfChar_4cfef_7] at h
    refine gs_iload (pc := 7) C 5 dJ1_indexOfChar_4cfef_7 rfl ?_
    refine gs_iload_n (pc := 9) C 3 dJ1_indexOfChar_4cfef_9 rfl rfl ?_
    refine gs_icmp_ge (pc := 10) C 31 dJ1_indexOfChar_4cfef_10 rfl (fun c1 => ?_) (fun c1 => ?_)
    · replace h := gs_ift c1 h
      refine gs_iconst (w := (-1)) (pc := 31) C dJ1_indexOfChar_4cfef_31 rfl ?_
      obtain rfl := gs_i1 h
      exact gs_iret (pc := 32) C dJ1_indexOfChar_4cfef_32 E
    · replace h := gs_iff c1 h
      refine gs_aload_n (pc := 13) C 0 dJ1_indexOfChar_4cfef_13 rfl rfl ?_
      refine gs_iload (pc := 14) C 5 dJ1_indexOfChar_4cfef_14 rfl ?_
      obtain ⟨v2, e3, h⟩ := gs_o1 h
      refine gs_baldX (pc := 16) C h_j0 dJ1_indexOfChar_4cfef_16 e3 ?_
      refine gs_iload (pc := 17) C 4 dJ1_indexOfChar_4cfef_17 rfl ?_
      refine gs_icmp_ne (pc := 19) C 25 dJ1_indexOfChar_4cfef_19 rfl (fun c4 => ?_) (fun c4 => ?_)
      · replace h := gs_iff c4 h
        refine gs_iinc (v := x5 + (1 : Int32)) (ls' := [(5, .int (x5 + (1 : Int32))), (0, .ref (1100 + j0)), (1, .int x1), (2, .int x2), (3, .int x3), (4, .int x4)]) (pc := 25) C 5 dJ1_indexOfChar_4cfef_25 rfl rfl (by decide) rfl ?_
        refine gs_goto (pc := 28) C 7 dJ1_indexOfChar_4cfef_28 rfl ?_
        exact gs_sub [1, 2, 3, 4, 5, 0] rfl (ih _ h)
      · replace h := gs_ift c4 h
        refine gs_iload (pc := 22) C 5 dJ1_indexOfChar_4cfef_22 rfl ?_
        obtain rfl := gs_i1 h
        exact gs_iret (pc := 24) C dJ1_indexOfChar_4cfef_24 E
set_option maxRecDepth 100000 in
set_option maxHeartbeats 4000000 in
theorem a_J1_indexOfChar_4cfef (l : Launch) {M : gs_M} {L : gs_L} {j0 : Nat} {x1 : Int32} {x2 : Int32} {x3 : Int32} {rv : Int32} (h_j0 : j0 < 4) (h : f_J1_indexOfChar_4cfef j0 x1 x2 x3 = some (rv)) : gs_Met l 0 yJ1_indexOfChar_4cfef cJ1_indexOfChar_4cfef 6 (some .int) [.ref (1100 + j0), .int x1, .int x2, .int x3] M L (some (.int rv)) M L := by
  unfold f_J1_indexOfChar_4cfef at h
  refine gs_of RJ1 (by decide) rfl (Nat.le_of_ble_eq_true rfl) (fun X C E => ?_)
  show gs_AW X 0 [(0, .ref (1100 + j0)), (1, .int x1), (2, .int x2), (3, .int x3)] [] M L
  refine gs_iload_n (pc := 0) C 1 dJ1_indexOfChar_4cfef_0 rfl rfl ?_
  refine gs_i2b (pc := 1) C dJ1_indexOfChar_4cfef_1 ?_
  refine gs_istore (ls' := [(4, .int ((Int32.toInt8 x1).toInt32)), (0, .ref (1100 + j0)), (1, .int x1), (2, .int x2), (3, .int x3)]) (pc := 2) C dJ1_indexOfChar_4cfef_2 (by decide) rfl ?_
  refine gs_iload_n (pc := 4) C 3 dJ1_indexOfChar_4cfef_4 rfl rfl ?_
  refine gs_istore (ls' := [(5, .int x2), (4, .int ((Int32.toInt8 x1).toInt32)), (0, .ref (1100 + j0)), (1, .int x1), (2, .int x2), (3, .int x3)]) (pc := 5) C dJ1_indexOfChar_4cfef_5 (by decide) rfl ?_
  exact gs_sub [2, 3, 4, 5, 1, 0] rfl (t_J1_indexOfChar_4cfef_7 C h_j0 E gs_FU _ h)
def f_J1_indexOf_4cfef (j0 : Nat) (x1 : Int32) (x2 : Int32) (x3 : Int32) : Option (Int32) :=
  gs_b1 (f_J1_canEncode_9a6ad x1) fun v1 =>
  if v1 = (0 : Int32) then
  some (-1 : Int32)
  else
  if (if x2 < (0 : Int32) then (0 : Int32) else x2 : Int32) < (if (gs_ln j0) < x3 then (gs_ln j0) else x3 : Int32) then
  gs_b1 (f_J1_indexOfChar_4cfef j0 x1 (if x2 < (0 : Int32) then (0 : Int32) else x2 : Int32) (if (gs_ln j0) < x3 then (gs_ln j0) else x3 : Int32)) fun v5 =>
  some v5
  else
  some (-1 : Int32)
set_option maxRecDepth 100000 in
set_option maxHeartbeats 4000000 in
theorem a_J1_indexOf_4cfef (l : Launch) {M : gs_M} {L : gs_L} {j0 : Nat} {x1 : Int32} {x2 : Int32} {x3 : Int32} {rv : Int32} (h_j0 : j0 < 4) (h : f_J1_indexOf_4cfef j0 x1 x2 x3 = some (rv)) : gs_Met l 1 yJ1_indexOf_4cfef cJ1_indexOf_4cfef 4 (some .int) [.ref (1100 + j0), .int x1, .int x2, .int x3] M L (some (.int rv)) M L := by
  unfold f_J1_indexOf_4cfef at h
  refine gs_of RJ1 (by decide) rfl (Nat.le_of_ble_eq_true rfl) (fun X C E => ?_)
  show gs_AW X 0 [(0, .ref (1100 + j0)), (1, .int x1), (2, .int x2), (3, .int x3)] [] M L
  refine gs_iload_n (pc := 0) C 1 dJ1_indexOf_4cfef_0 rfl rfl ?_
  obtain ⟨v1, e2, h⟩ := gs_o1 h
  refine gs_callSi (pc := 1) C [.int x1] dJ1_indexOf_4cfef_1 ml_J1_88 wy_J1_canEncode_9a6ad (a_J1_canEncode_9a6ad _ e2) (by decide) rfl (Nat.le_of_ble_eq_true rfl) rfl ?_
  refine gs_if_ne (pc := 4) C 9 dJ1_indexOf_4cfef_4 rfl (fun c3 => ?_) (fun c3 => ?_)
  · replace h := gs_iff c3 h
    refine gs_iload_n (pc := 9) C 2 dJ1_indexOf_4cfef_9 rfl rfl ?_
    refine gs_iconst (w := 0) (pc := 10) C dJ1_indexOf_4cfef_10 rfl ?_
    refine gs_mmax (pc := 11) C dJ1_indexOf_4cfef_11 ml_J1_92 (Nat.le_of_ble_eq_true rfl) ?_
    refine gs_istore_n (ls' := [(2, .int (if x2 < (0 : Int32) then (0 : Int32) else x2 : Int32)), (0, .ref (1100 + j0)), (1, .int x1), (3, .int x3)]) (pc := 14) C dJ1_indexOf_4cfef_14 rfl (by decide) rfl ?_
    refine gs_iload_n (pc := 15) C 3 dJ1_indexOf_4cfef_15 rfl rfl ?_
    refine gs_aload_n (pc := 16) C 1 dJ1_indexOf_4cfef_16 rfl rfl ?_
    refine gs_alenX (pc := 17) C h_j0 dJ1_indexOf_4cfef_17 ?_
    refine gs_mmin (pc := 18) C dJ1_indexOf_4cfef_18 ml_J1_38 (Nat.le_of_ble_eq_true rfl) ?_
    refine gs_istore_n (ls' := [(3, .int (if (gs_ln j0) < x3 then (gs_ln j0) else x3 : Int32)), (2, .int (if x2 < (0 : Int32) then (0 : Int32) else x2 : Int32)), (0, .ref (1100 + j0)), (1, .int x1)]) (pc := 21) C dJ1_indexOf_4cfef_21 rfl (by decide) rfl ?_
    refine gs_iload_n (pc := 22) C 1 dJ1_indexOf_4cfef_22 rfl rfl ?_
    refine gs_iload_n (pc := 23) C 0 dJ1_indexOf_4cfef_23 rfl rfl ?_
    refine gs_icmp_lt (pc := 24) C 29 dJ1_indexOf_4cfef_24 rfl (fun c4 => ?_) (fun c4 => ?_)
    · replace h := gs_ift c4 h
      refine gs_aload_n (pc := 29) C 2 dJ1_indexOf_4cfef_29 rfl rfl ?_
      refine gs_iload_n (pc := 30) C 3 dJ1_indexOf_4cfef_30 rfl rfl ?_
      refine gs_iload_n (pc := 31) C 1 dJ1_indexOf_4cfef_31 rfl rfl ?_
      refine gs_iload_n (pc := 32) C 0 dJ1_indexOf_4cfef_32 rfl rfl ?_
      obtain ⟨v5, e6, h⟩ := gs_o1 h
      refine gs_callSi (pc := 33) C [.ref (1100 + j0), .int x1, .int (if x2 < (0 : Int32) then (0 : Int32) else x2 : Int32), .int (if (gs_ln j0) < x3 then (gs_ln j0) else x3 : Int32)] dJ1_indexOf_4cfef_33 ml_J1_95 wy_J1_indexOfChar_4cfef (a_J1_indexOfChar_4cfef _ h_j0 e6) (by decide) rfl (Nat.le_of_ble_eq_true rfl) rfl ?_
      obtain rfl := gs_i1 h
      exact gs_iret (pc := 36) C dJ1_indexOf_4cfef_36 E
    · replace h := gs_iff c4 h
      refine gs_iconst (w := (-1)) (pc := 27) C dJ1_indexOf_4cfef_27 rfl ?_
      obtain rfl := gs_i1 h
      exact gs_iret (pc := 28) C dJ1_indexOf_4cfef_28 E
  · replace h := gs_ift c3 h
    refine gs_iconst (w := (-1)) (pc := 7) C dJ1_indexOf_4cfef_7 rfl ?_
    obtain rfl := gs_i1 h
    exact gs_iret (pc := 8) C dJ1_indexOf_4cfef_8 E
def f_J0_indexOf_7cf53 (j0 : Nat) (x1 : Int32) (x2 : Int32) : Option (Int32) :=
  gs_b1 (f_J0_isLatin1_aae02 j0) fun v1 =>
  gs_b1 (if v1 = (0 : Int32) then
  gs_b1 (f_J0_length_8abf5 j0) fun v7 =>
  none
  else
  gs_b1 (f_J0_length_8abf5 j0) fun v9 =>
  gs_b1 (f_J1_indexOf_4cfef j0 x1 x2 v9) fun v11 =>
  some (v11)) fun y3 =>
  some y3
set_option maxRecDepth 100000 in
set_option maxHeartbeats 4000000 in
theorem a_J0_indexOf_7cf53 (l : Launch) {M : gs_M} {L : gs_L} {j0 : Nat} {x1 : Int32} {x2 : Int32} {rv : Int32} (h_j0 : j0 < 4) (h : f_J0_indexOf_7cf53 j0 x1 x2 = some (rv)) : gs_Met l 2 yJ0_indexOf_7cf53 cJ0_indexOf_7cf53 3 (some .int) [.ref (1000 + j0), .int x1, .int x2] M L (some (.int rv)) M L := by
  unfold f_J0_indexOf_7cf53 at h
  refine gs_of RJ0 (by decide) rfl (Nat.le_of_ble_eq_true rfl) (fun X C E => ?_)
  show gs_AW X 0 [(0, .ref (1000 + j0)), (1, .int x1), (2, .int x2)] [] M L
  refine gs_aload_n (pc := 0) C 0 dJ0_indexOf_7cf53_0 rfl rfl ?_
  obtain ⟨v1, e2, h⟩ := gs_o1 h
  refine gs_callX (pc := 1) C [] h_j0 dJ0_indexOf_7cf53_1 ml_J0_492 wy_J0_isLatin1_aae02 (a_J0_isLatin1_aae02 _ h_j0 e2) (by decide) rfl rfl (Nat.le_of_ble_eq_true rfl) rfl ?_
  obtain ⟨y3, e4, h⟩ := gs_o1 h
  have j5 : gs_AW X 36 [(0, .ref (1000 + j0)), (1, .int x1), (2, .int x2)] [.int y3] M L := by
    obtain rfl := gs_i1 h
    exact gs_iret (pc := 36) C dJ0_indexOf_7cf53_36 E
  refine gs_if_eq (pc := 4) C 23 dJ0_indexOf_7cf53_4 rfl (fun c6 => ?_) (fun c6 => ?_)
  · replace e4 := gs_ift c6 e4
    refine gs_aload_n (pc := 23) C 0 dJ0_indexOf_7cf53_23 rfl rfl ?_
    refine gs_getXv (pc := 24) C h_j0 dJ0_indexOf_7cf53_24 gw_J0_9 ?_
    refine gs_iload_n (pc := 27) C 1 dJ0_indexOf_7cf53_27 rfl rfl ?_
    refine gs_iload_n (pc := 28) C 2 dJ0_indexOf_7cf53_28 rfl rfl ?_
    refine gs_aload_n (pc := 29) C 0 dJ0_indexOf_7cf53_29 rfl rfl ?_
    obtain ⟨v7, e8, e4⟩ := gs_o1 e4
    refine gs_callX (pc := 30) C [] h_j0 dJ0_indexOf_7cf53_30 ml_J0_505 wy_J0_length_8abf5 (a_J0_length_8abf5 _ h_j0 e8) (by decide) rfl rfl (Nat.le_of_ble_eq_true rfl) rfl ?_
    cases e4
  · replace e4 := gs_iff c6 e4
    refine gs_aload_n (pc := 7) C 0 dJ0_indexOf_7cf53_7 rfl rfl ?_
    refine gs_getXv (pc := 8) C h_j0 dJ0_indexOf_7cf53_8 gw_J0_9 ?_
    refine gs_iload_n (pc := 11) C 1 dJ0_indexOf_7cf53_11 rfl rfl ?_
    refine gs_iload_n (pc := 12) C 2 dJ0_indexOf_7cf53_12 rfl rfl ?_
    refine gs_aload_n (pc := 13) C 0 dJ0_indexOf_7cf53_13 rfl rfl ?_
    obtain ⟨v9, e10, e4⟩ := gs_o1 e4
    refine gs_callX (pc := 14) C [] h_j0 dJ0_indexOf_7cf53_14 ml_J0_505 wy_J0_length_8abf5 (a_J0_length_8abf5 _ h_j0 e10) (by decide) rfl rfl (Nat.le_of_ble_eq_true rfl) rfl ?_
    obtain ⟨v11, e12, e4⟩ := gs_o1 e4
    refine gs_callSi (pc := 17) C [.ref (1100 + j0), .int x1, .int x2, .int v9] dJ0_indexOf_7cf53_17 ml_J0_637 wy_J1_indexOf_4cfef (a_J1_indexOf_4cfef _ h_j0 e12) (by decide) rfl (Nat.le_of_ble_eq_true rfl) rfl ?_
    refine gs_goto (pc := 20) C 36 dJ0_indexOf_7cf53_20 rfl ?_
    obtain rfl := gs_i1 e4
    exact j5
def f_J0_indexOf_0f7a4 (j0 : Nat) (x1 : Int32) : Option (Int32) :=
  gs_b1 (f_J0_indexOf_7cf53 j0 x1 (0 : Int32)) fun v1 =>
  some v1
set_option maxRecDepth 100000 in
set_option maxHeartbeats 4000000 in
theorem a_J0_indexOf_0f7a4 (l : Launch) {M : gs_M} {L : gs_L} {j0 : Nat} {x1 : Int32} {rv : Int32} (h_j0 : j0 < 4) (h : f_J0_indexOf_0f7a4 j0 x1 = some (rv)) : gs_Met l 3 yJ0_indexOf_0f7a4 cJ0_indexOf_0f7a4 2 (some .int) [.ref (1000 + j0), .int x1] M L (some (.int rv)) M L := by
  unfold f_J0_indexOf_0f7a4 at h
  refine gs_of RJ0 (by decide) rfl (Nat.le_of_ble_eq_true rfl) (fun X C E => ?_)
  show gs_AW X 0 [(0, .ref (1000 + j0)), (1, .int x1)] [] M L
  refine gs_aload_n (pc := 0) C 0 dJ0_indexOf_0f7a4_0 rfl rfl ?_
  refine gs_iload_n (pc := 1) C 1 dJ0_indexOf_0f7a4_1 rfl rfl ?_
  refine gs_iconst (w := 0) (pc := 2) C dJ0_indexOf_0f7a4_2 rfl ?_
  obtain ⟨v1, e2, h⟩ := gs_o1 h
  refine gs_callX (pc := 3) C [.int x1, .int (0 : Int32)] h_j0 dJ0_indexOf_0f7a4_3 ml_J0_633 wy_J0_indexOf_7cf53 (a_J0_indexOf_7cf53 _ h_j0 e2) (by decide) rfl rfl (Nat.le_of_ble_eq_true rfl) rfl ?_
  obtain rfl := gs_i1 h
  exact gs_iret (pc := 6) C dJ0_indexOf_0f7a4_6 E
