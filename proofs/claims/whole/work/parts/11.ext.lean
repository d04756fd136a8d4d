theorem ml_X6_15 : Cond.methodLink RX6 15 arraycopyName ∈ gs_W := gs_w4 70 rfl rfl
theorem ml_X9_22 : Cond.methodLink RX9 22 arraycopyName ∈ gs_W := gs_w2 137 rfl rfl
theorem ml_X10_59 : Cond.methodLink RX10 59 arraycopyName ∈ gs_W := gs_w3 195 rfl rfl
theorem gw_st_37 : Cond.fieldLink RX9 37 "GuiltySleep$Town" (gs_snm.getD 2 "") "[I" ∈ gs_W := gs_w2 135 rfl rfl
theorem gw_st_63 : Cond.fieldLink RX9 63 "GuiltySleep$Town" (gs_snm.getD 0 "") "[I" ∈ gs_W := gs_w2 153 rfl rfl
theorem gw_st_66 : Cond.fieldLink RX9 66 "GuiltySleep$Town" (gs_snm.getD 1 "") "[I" ∈ gs_W := gs_w2 155 rfl rfl
theorem gw_st_73 : Cond.fieldLink RX9 73 "GuiltySleep$Town" (gs_snm.getD 5 "") "[I" ∈ gs_W := gs_w3 34 rfl rfl
theorem gw_st_78 : Cond.fieldLink RX9 78 "GuiltySleep$Town" (gs_snm.getD 3 "") "[I" ∈ gs_W := gs_w3 37 rfl rfl
theorem gw_st_81 : Cond.fieldLink RX9 81 "GuiltySleep$Town" (gs_snm.getD 4 "") "[I" ∈ gs_W := gs_w3 39 rfl rfl
theorem gw_J0_9 : Cond.fieldLink RJ0 9 "java/lang/String" "value" "[B" ∈ gs_W := gs_w9 39 rfl rfl
theorem gw_J0_15 : Cond.fieldLink RJ0 15 "java/lang/String" "coder" "B" ∈ gs_W := gs_w9 40 rfl rfl
theorem gw_J0_38 : Cond.fieldLink RJ0 38 "java/lang/String" "COMPACT_STRINGS" "Z" ∈ gs_W := gs_w2 168 rfl rfl
theorem gw_J0_1053 : Cond.fieldLink RJ0 1053 "jdk/internal/util/Preconditions" "SIOOBE_FORMATTER" "Ljava/util/function/BiFunction;" ∈ gs_W := gs_w2 219 rfl rfl
theorem gs_swOut {x : Int32} {vs : List Int32} (lo : Int) (k : Nat) (hv : ∀ j, j < k → Int32.ofInt (lo + (j : Int)) ∈ vs) (hx : ∀ v ∈ vs, ¬ x = v) : x.toInt < lo ∨ lo + k - 1 < x.toInt := by
  by_cases h1 : x.toInt < lo
  · exact Or.inl h1
  · by_cases h2 : lo + k - 1 < x.toInt
    · exact Or.inr h2
    · exfalso
      have h3 := hv (x.toInt - lo).toNat (by omega)
      have h4 : lo + (((x.toInt - lo).toNat : Nat) : Int) = x.toInt := by omega
      rw [h4, Int32.ofInt_toInt] at h3
      exact hx x h3 rfl
def gs_ln (j : Nat) : Int32 := Int32.ofNat (gs_len.getD j 0)
def gs_chr (j : Nat) (i : Int32) : Option Int32 := if i < 0 ∨ gs_len.getD j 0 ≤ i.toNatClampNeg then none else some ((gs_byt.getD j []).getD i.toNatClampNeg 0)
def gs_find : List Int32 → Int32 → Int32 → Int32
  | [], _, _ => -1
  | b :: l, c, i => if b = c then i else gs_find l c (i + 1)
def gs_spot (j : Nat) (c : Int32) : Int32 := gs_find (gs_byt.getD j []) c 0
/-- System.arraycopy out of a static array -/
def gs_cpyX (M : gs_M) (j : Nat) (sp : Int32) (r1 k1 : Nat) (dp w : Int32) : Option gs_M := if sp < 0 ∨ dp < 0 ∨ w < 0 ∨ gs_sn j < sp.toNatClampNeg + w.toNatClampNeg ∨ k1 < dp.toNatClampNeg + w.toNatClampNeg then none else some (gs_row M r1 (va_cpy (gs_sv j) (M r1) sp.toNatClampNeg dp.toNatClampNeg w.toNatClampNeg))
section Ext
variable {X : gs_X} {own : String} {cc : ByteArray} {nL : Nat} {rt : Option FieldType} {n : Nat} {ls ls' : List (Nat × Value)} {st st0 : List Value} {M M' : gs_M} {L L' : gs_L}
theorem gs_acpyX (C : gs_C X own cc nL rt n) {pc i r1 k1 : Nat} {sp dp w : Int32} (j : Nat) (hj : j < 6) (hd : decode cc pc = .ok (.invokestatic i, 3)) (hm : Cond.methodLink own i arraycopyName ∈ gs_W) (h1 : gs_sh r1 = .inl (0, k1)) (hst : (st.map fun v => v.category).sum ≤ 8) (hv : gs_cpyX M j sp r1 k1 dp w = some M') (k : gs_AW X (pc + 3) ls st M' L) : gs_AW X pc ls (.int w :: .int dp :: .ref r1 :: .int sp :: .ref (1010 + j) :: st) M L := by
  obtain ⟨p, l, e, R, s, m, args, below, meth, c, Q, ad, D, dA⟩ := X
  obtain ⟨hx, hb, hml, hown, hts, hK, hinj, hE, hr, hlk, hR⟩ := C
  intro H locs la hl hP hS
  obtain ⟨hc, rfl⟩ := gs_some hv
  have a1 : ¬ sp < 0 := fun h => hc (Or.inl h)
  have a2 : ¬ dp < 0 := fun h => hc (Or.inr (Or.inl h))
  have a3 : ¬ w < 0 := fun h => hc (Or.inr (Or.inr (Or.inl h)))
  have a4 : sp.toNatClampNeg + w.toNatClampNeg ≤ gs_sn j := Nat.not_lt.mp fun h => hc (Or.inr (Or.inr (Or.inr (Or.inl h))))
  have a5 : dp.toNatClampNeg + w.toNatClampNeg ≤ k1 := Nat.not_lt.mp fun h => hc (Or.inr (Or.inr (Or.inr (Or.inr h))))
  have nn : ∀ z : Int32, ¬ z < 0 → z.toInt = (z.toNatClampNeg : Int) := by
    intro z hz
    have h0 : (0 : Int) ≤ z.toInt := by simpa using Int32.le_iff_toInt_le.mp (Int32.not_lt.mp hz)
    show z.toInt = ((z.toInt.toNat : Nat) : Int)
    omega
  obtain ⟨cs, b1, b2, b3, b4, -, b5, b6⟩ := (hE.2.1 j hj).1
  have hc0 : H[ad (1010 + j)]? = some cs := by rw [hS.2.1 _ (Array.getElem?_eq_some_iff.mp b1).1 b6]; exact b1
  have hc1 : H[ad r1]? = some (vp_cell (dA 0) (k1, .inl (M r1))) := hP r1 _ (gs_ary h1)
  obtain ⟨b7, kS, hkS, cS, hcS⟩ := b2
  obtain ⟨-, kD, hkD, cD, hcD⟩ := (hK.2 0 _ (gs_tyAt dA).1).1 k1 (fun q => .int (M r1 q))
  intro T hT X
  have h8 : nativeFrameWords "java/lang/System" "arraycopy" 5 + 11 ≤ 60 := by decide
  have h9 := gs_loc hR
  obtain ⟨vm', X', step⟩ := X.arraycopy hx hown (hts _ hm) (hts _ gs_wnat) (hts _ gs_wstat) (hts _ gs_wsys) (src := ad (1010 + j)) (dst := ad r1) (cs := cs) (cd := vp_cell (dA 0) (k1, .inl (M r1))) (srcPos := sp) (destPos := dp) (n := w) (by rw [hT]; exact hc0) (by rw [hT]; exact hc1)
    b7 (fun _ h => by cases h) b3 (fun h => by cases h) hkS hkD hcS hcD (by simp [refKind]) a1 a2 a3
    (by rw [nn sp a1, nn w a3]; omega)
    (by rw [nn dp a2, nn w a3]; show ¬ _ > ((arrV (dA 0) k1 (fun q => .int (M r1 q))).slots.size : Int); rw [arrV_size]; omega)
    (fun vm₁ _ i hi => by
      have e9 : cs.slots.getD (sp.toNatClampNeg + i) .null = .int (gs_sv j (sp.toNatClampNeg + i)) := by
        rw [Array.getD_eq_getD_getElem?, b5 _ (by omega)]
        rfl
      rw [e9]
      exact ⟨rfl, trivial⟩)
    (g := F0 m pc la (.int w :: .int dp :: .ref (ad r1) :: .int sp :: .ref (ad (1010 + j)) :: st.map (gs_cv ad))) rfl hl.1 (rest := st.map (gs_cv ad)) rfl (by rw [hb]; exact hd) h9.2 (by show 2 * 0 + _ + _ ≤ _; rw [gs_sum]; omega)
  have e1 : copied cs (vp_cell (dA 0) (k1, .inl (M r1))) sp dp w = vp_cell (dA 0) (k1, .inl (va_cpy (gs_sv j) (M r1) sp.toNatClampNeg dp.toNatClampNeg w.toNatClampNeg)) := va_copiedX (fun z => .int z) cs (dA 0) (gs_sv j) (M r1) b5 a4
  rw [e1] at X' step
  have hlt : ad r1 < H.size := (Array.getElem?_eq_some_iff.mp hc1).1
  have hD := gs_D dA M L hinj
  have hheap : ((T.setVm vm').setCell (ad r1) (vp_cell (dA 0) (k1, .inl (va_cpy (gs_sv j) (M r1) sp.toNatClampNeg dp.toNatClampNeg w.toNatClampNeg)))).heap = H.setIfInBounds (ad r1) (vp_cell (dA 0) (k1, .inl (va_cpy (gs_sv j) (M r1) sp.toNatClampNeg dp.toNatClampNeg w.toNatClampNeg))) := by rw [← hT]; rfl
  have oq : ∀ q : Nat, q ≠ ad r1 → (H.setIfInBounds (ad r1) (vp_cell (dA 0) (k1, .inl (va_cpy (gs_sv j) (M r1) sp.toNatClampNeg dp.toNatClampNeg w.toNatClampNeg))))[q]? = H[q]? := fun q hq => by simp [Array.getElem?_setIfInBounds, Ne.symm hq]
  have hP1 : va_P D vwCl ((gs_ws ad dA M L).set r1 (ad r1, .inl (dA 0, k1, .inl (va_cpy (gs_sv j) (M r1) sp.toNatClampNeg dp.toNatClampNeg w.toNatClampNeg)))) (H.setIfInBounds (ad r1) (vp_cell (dA 0) (k1, .inl (va_cpy (gs_sv j) (M r1) sp.toNatClampNeg dp.toNatClampNeg w.toNatClampNeg)))) :=
    hP.set hD (gs_ary h1) (show (H.setIfInBounds (ad r1) _)[ad r1]? = some _ by simp [Array.getElem?_setIfInBounds, hlt]) oq
  have e := gs_set (ad := ad) (dA := dA) (M := M) (M' := gs_row M r1 (va_cpy (gs_sv j) (M r1) sp.toNatClampNeg dp.toNatClampNeg w.toNatClampNeg)) (L := L) (L' := L) (gs_lt_inl h1) (fun q hq => ⟨gs_row_ne M _ hq, rfl⟩)
  obtain ⟨t, g1, g2⟩ := k _ _ la hl (by
      rw [← e]
      unfold gs_cell
      rw [h1, gs_row_row]
      exact hP1) ⟨by simp; exact hS.1, fun q g1 g2 => by
      rw [oq q (fun z => g2 (by rw [z]; exact ⟨r1, gs_lt_inl h1, rfl⟩))]
      exact hS.2.1 q g1 g2, fun q hq => by
      rcases List.mem_append.mp hq with h | h
      · exact hS.2.2 q h
      · obtain ⟨z, -, hz⟩ := List.mem_map.mp h
        rw [← hz]
        exact ⟨r1, gs_lt_inl h1, rfl⟩⟩ _ hheap X'
  exact ⟨t, step t g1, g2⟩
theorem gs_getXv (C : gs_C X own cc nL rt n) {pc i j : Nat} (hj : j < 4) (hd : decode cc pc = .ok (.getfield i, 3)) (hw : Cond.fieldLink own i "java/lang/String" "value" "[B" ∈ gs_W) (k : gs_AW X (pc + 3) ls (.ref (1100 + j) :: st) M L) : gs_AW X pc ls (.ref (1000 + j) :: st) M L := by
  obtain ⟨p, l, e, R, s, m, args, below, meth, c, Q, ad, D, dA⟩ := X
  obtain ⟨hx, hb, hml, hown, hts, hK, hinj, hE, hr, hlk, hR⟩ := C
  intro H locs la hl hP hS
  exact vk_getf hx hb (hE.1.1 j hj).2.2.1 hS hown (hts _ hw) (fun _ h => h) hd (k H locs la hl hP hS)
theorem gs_getXc (C : gs_C X own cc nL rt n) {pc i j : Nat} (hj : j < 4) (hd : decode cc pc = .ok (.getfield i, 3)) (hw : Cond.fieldLink own i "java/lang/String" "coder" "B" ∈ gs_W) (k : gs_AW X (pc + 3) ls (.int 0 :: st) M L) : gs_AW X pc ls (.ref (1000 + j) :: st) M L := by
  obtain ⟨p, l, e, R, s, m, args, below, meth, c, Q, ad, D, dA⟩ := X
  obtain ⟨hx, hb, hml, hown, hts, hK, hinj, hE, hr, hlk, hR⟩ := C
  intro H locs la hl hP hS
  exact vk_getf hx hb (hE.1.1 j hj).2.1 hS hown (hts _ hw) (fun _ h => h) hd (k H locs la hl hP hS)
theorem gs_alenX (C : gs_C X own cc nL rt n) {pc j : Nat} (hj : j < 4) (hd : decode cc pc = .ok (.arraylength, 1)) (k : gs_AW X (pc + 1) ls (.int (gs_ln j) :: st) M L) : gs_AW X pc ls (.ref (1100 + j) :: st) M L := by
  obtain ⟨p, l, e, R, s, m, args, below, meth, c, Q, ad, D, dA⟩ := X
  obtain ⟨hx, hb, hml, hown, hts, hK, hinj, hE, hr, hlk, hR⟩ := C
  intro H locs la hl hP hS
  exact va_tlen hx hb (hE.1.1 j hj).2.2.2 hS rfl hd (k H locs la hl hP hS)
theorem gs_baldX (C : gs_C X own cc nL rt n) {pc j : Nat} {x v : Int32} (hj : j < 4) (hd : decode cc pc = .ok (.baload, 1)) (hv : gs_chr j x = some v) (k : gs_AW X (pc + 1) ls (.int v :: st) M L) : gs_AW X pc ls (.int x :: .ref (1100 + j) :: st) M L := by
  obtain ⟨p, l, e, R, s, m, args, below, meth, c, Q, ad, D, dA⟩ := X
  obtain ⟨hx, hb, hml, hown, hts, hK, hinj, hE, hr, hlk, hR⟩ := C
  intro H locs la hl hP hS
  obtain ⟨h1, rfl⟩ := gs_some hv
  exact va_tb hx hb (hE.1.1 j hj).2.2.2 hS h1 rfl hd (k H locs la hl hP hS)
theorem gs_getsC (C : gs_C X own cc nL rt n) {pc i : Nat} (hd : decode cc pc = .ok (.getstatic i, 3)) (hw : Cond.fieldLink own i "java/lang/String" "COMPACT_STRINGS" "Z" ∈ gs_W) (k : gs_AW X (pc + 3) ls (.int 1 :: st) M L) : gs_AW X pc ls st M L := by
  obtain ⟨p, l, e, R, s, m, args, below, meth, c, Q, ad, D, dA⟩ := X
  obtain ⟨hx, hb, hml, hown, hts, hK, hinj, hE, hr, hlk, hR⟩ := C
  intro H locs la hl hP hS
  exact va_gets hx hb hE.2.2.2.1 hS hown (hts _ hw) (fun _ h => h) hd (k H locs la hl hP hS)
theorem gs_getsF (C : gs_C X own cc nL rt n) {pc i : Nat} (hd : decode cc pc = .ok (.getstatic i, 3)) (hw : Cond.fieldLink own i "jdk/internal/util/Preconditions" "SIOOBE_FORMATTER" "Ljava/util/function/BiFunction;" ∈ gs_W) (k1 : gs_AW X (pc + 3) ls (.null :: st) M L) (k2 : gs_AW X (pc + 3) ls (.ref 1200 :: st) M L) : gs_AW X pc ls st M L := by
  obtain ⟨p, l, e, R, s, m, args, below, meth, c, Q, ad, D, dA⟩ := X
  obtain ⟨hx, hb, hml, hown, hts, hK, hinj, hE, hr, hlk, hR⟩ := C
  intro H locs la hl hP hS
  rcases hE.2.2.2.2 with h | h
  · exact va_gets hx hb h hS hown (hts _ hw) (fun _ h => h) hd (k1 H locs la hl hP hS)
  · exact va_gets hx hb h hS hown (hts _ hw) (fun _ h => h) hd (k2 H locs la hl hP hS)
/-- a call of one of String's own methods -/
theorem gs_callX (C : gs_C X own cc nL rt n) {pc i j n' np mL : Nat} {y : MethodName} {cb : ByteArray} {rt' : Option FieldType} {v : Int32} (As : List Value) (hj : j < 4) (hd : decode cc pc = .ok (.invokevirtual i, 3)) (hm : Cond.methodLink own i y ∈ gs_W) (hY : gs_YV y cb mL rt' np) (hM : gs_Met X.2.1 n' y cb mL rt' (.ref (1000 + j) :: As) M L (some (.int v)) M' L') (hn : n' < n)
    (hc : y.cls = "java/lang/String") (hlen : As.length = np) (hst : (st.map fun v => v.category).sum ≤ 8) (h0 : st0 = As.reverse ++ .ref (1000 + j) :: st) (k : gs_AW X (pc + 3) ls (.int v :: st) M' L') : gs_AW X pc ls st0 M L := by
  obtain ⟨p, l, e, R, s, m, args, below, meth, c, Q, ad, D, dA⟩ := X
  obtain ⟨hx, hb, hml, hown, hts, hK, hinj, hE, hr, hlk, hR⟩ := C
  intro H locs la hl hP hS
  subst h0
  obtain ⟨⟨h1, h2, h3, h4⟩, h5, h6⟩ := hY
  have hr' := vk_recv hE.1 hj hS
  rw [← hc] at hr'
  have hG : GoodIn gs_W (wsV own i y.cls y (Cond.code y cb mL rt' :: gs_W)) := gs_Wg (by
    intro w hw
    simp only [wsV, List.mem_append, List.mem_cons, List.not_mem_nil, or_false] at hw
    rcases hw with (rfl | rfl | rfl | rfl) | rfl | hw
    · exact hm
    · exact h5
    · exact h6
    · exact h2
    · exact h1
    · exact hw)
  refine gs_after (rest := st.map (gs_cv ad)) (va_runV (As := As.map (gs_cv ad)) (b := ad (1000 + j)) (C := y.cls) ⟨hx, hb, hml, hown, hts⟩ (hM ad D dA) (cwV np hts hG rfl rfl rfl ⟨rfl, h3⟩ (gs_rm hR hn h4)) ⟨gs_blind, hr', fun U hU hW => ⟨rfl, gs_pre hP hK hinj hE hS hU hW⟩⟩ rfl (by rw [List.length_map]; exact hlen) (hl.1.trans hml) (by simp [gs_cv]) (lv_room (by rw [gs_sum]; exact hst)) hd ⟨Nat.zero_le _, Nat.zero_le _⟩) hS (fun H1 locs1 hP1 hS1 => ?_)
  exact k H1 locs1 la hl hP1 hS1
def gs_ckC (v : Int32) : Option Int32 := if narrow .char (.int v) = .int v then some v else none
theorem gs_cret' (C : gs_C X own cc nL (some .char) n) {pc : Nat} {v z : Int32} (hd : decode cc pc = .ok (.ireturn, 1)) (hv : gs_ckC v = some z) (E : gs_E X (some (.int z)) M L) : gs_AW X pc ls [.int v] M L := by
  unfold gs_ckC at hv
  by_cases hc : narrow .char (.int v) = .int v
  · rw [if_pos hc] at hv
    cases hv
    exact gs_cret C hc hd E
  · rw [if_neg hc] at hv
    cases hv
theorem gs_ldcSw (C : gs_C X own cc nL rt n) {pc : Nat} {i q : Nat} {tx : String} (hd : decode cc pc = .ok (.ldc_w i, 3)) (hw : (own, i, tx, q) ∈ gs_lit) (k : gs_AW X (pc + 3) ls (.ref q :: st) M L) : gs_AW X pc ls st M L := by
  obtain ⟨p, l, e, R, s, m, args, below, meth, c, Q, ad, D, dA⟩ := X
  obtain ⟨hx, hb, hml, hown, hts, hK, hinj, hE, hr, hlk, hR⟩ := C
  intro H locs la hl hP hS
  have hZ := hE.2.2.1 _ hw
  intro T hT X
  obtain ⟨t, a1, b1⟩ := k H locs la hl hP hS T hT X
  exact ⟨t, X.ldcStringW hx hown (text := tx) (a := ad q) hZ.1 hZ.2 (g := F0 m pc la (st.map (gs_cv ad))) rfl (by rw [hb]; exact hd) t a1, b1⟩
end Ext
