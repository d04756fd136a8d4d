theorem gs_wnat : Cond.native arraycopyName ∈ gs_W := gs_w2 139 rfl rfl
theorem gs_wstat : Cond.static arraycopyName ∈ gs_W := gs_w2 138 rfl rfl
theorem gs_wsys : Cond.initialized "java/lang/System" ∈ gs_W := gs_w1 14 rfl rfl
theorem gs_wmath : Cond.initialized "java/lang/Math" ∈ gs_W := gs_w1 17 rfl rfl
theorem gs_wmmax_st : Cond.static Lib.Math.max.name ∈ gs_W := gs_w2 193 rfl rfl
theorem gs_wmmax_co : Cond.code Lib.Math.max.name Lib.Math.max.code 2 (some .int) ∈ gs_W := gs_w2 194 (by decide +kernel) rfl
theorem gs_wmmin_st : Cond.static Lib.Math.min.name ∈ gs_W := gs_w2 196 rfl rfl
theorem gs_wmmin_co : Cond.code Lib.Math.min.name Lib.Math.min.code 2 (some .int) ∈ gs_W := gs_w2 197 (by decide +kernel) rfl
theorem gs_wmabs_st : Cond.static Lib.Math.abs.name ∈ gs_W := gs_w5 53 rfl rfl
theorem gs_wmabs_co : Cond.code Lib.Math.abs.name Lib.Math.abs.code 1 (some .int) ∈ gs_W := gs_w5 54 (by decide +kernel) rfl
theorem gs_wmmaxl_st : Cond.static Lib.MathLoose.max_long.x ∈ gs_W := gs_w7 173 rfl rfl
theorem gs_wmmaxl_co : Cond.code Lib.MathLoose.max_long.x Lib.MathLoose.max_long.code 4 (some .long) ∈ gs_W := gs_w7 174 (by decide +kernel) rfl
theorem gs_wmminl_st : Cond.static Lib.MathLoose.min_long.x ∈ gs_W := gs_w7 170 rfl rfl
theorem gs_wmminl_co : Cond.code Lib.MathLoose.min_long.x Lib.MathLoose.min_long.code 4 (some .long) ∈ gs_W := gs_w7 171 (by decide +kernel) rfl
section Calls
theorem gs_after {p : Program} {l : Launch} {e : Env} {R : Room} {s : State} {m : MethodId} {args : Array Value} {below : List Frame} {meth : Method} {c : Code} {H : Heap} {locs : List Loc} {Q : State → Prop} {ad : Nat → Nat} {D : va_G} {dA : Nat → ClassId} {res : Option Value} {M' : gs_M} {L' : gs_L} {a : Array Value} {pc : Nat} {la : Array Slot} {st0 rest : List Value}
    (hr : va_Run p l e R s m args below meth c H locs 0 0 0 0 (F0 m pc la st0) rest (gs_Qc ad D dA res M' L' a) (gs_A ad)) (hS : va_S (gs_A ad) s.heap H locs)
    (kk : ∀ (H1 : Heap) (locs1 : List Loc), va_P D vwCl (gs_ws ad dA M' L') H1 → va_S (gs_A ad) s.heap H1 locs1 → W p l e R s m args below meth c H1 locs1 0 0 Q (F0 m (pc + 3) la ((res.map (gs_cv ad)).toList ++ rest))) : W p l e R s m args below meth c H locs 0 0 Q (F0 m pc la st0) := by
  intro T hT X
  obtain ⟨v, st₀, t, T', L9, h0, X', hL, e1, e2, ⟨hv, hp, hz, hk⟩, st⟩ := hr T hT X
  have hv' : v = res.map (gs_cv ad) := by injection hv
  subst hv'
  rw [h0] at hz hk
  obtain ⟨t2, a1, b1⟩ := kk T'.heap (locs ++ L9) (by rw [e1]; exact hp) ⟨Nat.le_trans hS.1 (by rw [e1]; exact hz), fun q h1 h2 => by rw [e1, hk q (Nat.lt_of_lt_of_le h1 hS.1) h2]; exact hS.2.1 q h1 h2, fun q hq => by
      rcases List.mem_append.mp hq with h | h
      · exact hS.2.2 q h
      · exact hL q h⟩ T' rfl X'
  exact ⟨t2, st t2 a1, b1⟩
theorem gs_blind {ad : Nat → Nat} {D : va_G} {dA : Nat → ClassId} {M : gs_M} {L : gs_L} {av : List Value} : FrameBlind (va_Pc av (gs_I ad D dA M L)) := by
  intro a U g mk h
  obtain ⟨h1, h2, h3, h4, h5⟩ := h
  exact ⟨h1, h2, va_K.moved (u := U) (U := U.calling g mk a) (Vm.Alike.refl U.vm) h3, h4, gs_Ext.to (s := U) (U := U.calling g mk a) h5 (Vm.Alike.refl U.vm) (fun _ _ _ _ h => vk_R.same rfl h)⟩
theorem gs_pre {ad : Nat → Nat} {D : va_G} {dA : Nat → ClassId} {M : gs_M} {L : gs_L} {s U : State} {H : Heap} {locs : List Loc} (hP : va_P D vwCl (gs_ws ad dA M L) H) (hK : va_K D vwCl (gs_tys dA) s) (hinj : gs_inj ad) (hE : gs_Ext ad s s.heap) (hS : va_S (gs_A ad) s.heap H locs) (hU : U.heap = H) (hW : s.WarmedH U.vm) : gs_I ad D dA M L U := by
  refine ⟨by rw [hU]; exact hP, va_K.moved hW.alike hK, hinj, ?_⟩
  rw [hU]
  exact (hE.kept (fun a h1 h2 => hS.2.1 a h1 h2)).to hW.alike (fun _ _ _ _ h => vk_R.warm hW h)
theorem gs_sum (ad : Nat → Nat) (st : List Value) : ((st.map (gs_cv ad)).map fun v => v.category).sum = (st.map fun v => v.category).sum := by
  rw [List.map_map]
  congr 1
  apply List.map_congr_left
  intro v _
  exact gs_cv_cat ad v
theorem gs_rm {R : Room} {n n' mL : Nat} (hR : n + 1 ≤ R.frames ∧ 80 * (n + 1) ≤ R.locals) (h : n' < n) (hm : mL ≤ 60) : (gs_room n').frames + 1 ≤ R.frames ∧ 8 + (mL + 11) + (gs_room n').locals ≤ R.locals := by
  refine ⟨?_, ?_⟩
  · show n' + 1 + 1 ≤ R.frames
    omega
  · show 8 + (mL + 11) + 80 * (n' + 1) ≤ R.locals
    omega
variable {X : gs_X} {own : String} {cc : ByteArray} {nL : Nat} {rt : Option FieldType} {n : Nat} {ls ls' : List (Nat × Value)} {st st0 : List Value} {M M' : gs_M} {L L' : gs_L}
theorem gs_callV (C : gs_C X own cc nL rt n) {pc i ci r n' np mL : Nat} {y : MethodName} {cb : ByteArray} {rt' : Option FieldType} {fs : List (Nat × Nat)} {res : Option Value} (As : List Value) (hd : decode cc pc = .ok (.invokevirtual i, 3)) (hm : Cond.methodLink own i y ∈ gs_W) (hY : gs_YV y cb mL rt' np) (hM : gs_Met X.2.1 n' y cb mL rt' (.ref r :: As) M L res M' L') (hn : n' < n)
    (hs : gs_sh r = .inr (ci, fs)) (hci : ci < 13) (hc : vwCl[ci]?.map (fun q => q.1) = some y.cls) (hlen : As.length = np) (hst : (st.map fun v => v.category).sum ≤ 8) (h0 : st0 = As.reverse ++ .ref r :: st) (k : gs_AW X (pc + 3) ls (res.toList ++ st) M' L') : gs_AW X pc ls st0 M L := by
  obtain ⟨p, l, e, R, s, m, args, below, meth, c, Q, ad, D, dA⟩ := X
  obtain ⟨hx, hb, hml, hown, hts, hK, hinj, hE, hr, hlk, hR⟩ := C
  intro H locs la hl hP hS
  subst h0
  obtain ⟨⟨h1, h2, h3, h4⟩, h5, h6⟩ := hY
  obtain ⟨q, hq, hqc⟩ := Option.map_eq_some_iff.mp hc
  have hr' := va_recv hK hP hq (gs_obj (ad := ad) (dA := dA) (M := M) (L := L) hs hci)
  rw [hqc] at hr'
  have hG : GoodIn gs_W (wsV own i y.cls y (Cond.code y cb mL rt' :: gs_W)) := gs_Wg (by
    intro w hw
    simp only [wsV, List.mem_append, List.mem_cons, List.not_mem_nil, or_false] at hw
    rcases hw with (rfl | rfl | rfl | rfl) | rfl | hw
    · exact hm
    · exact h5
    · exact h6
    · exact h2
    · exact h1
    · exact hw)
  refine gs_after (rest := st.map (gs_cv ad)) (va_runV (As := As.map (gs_cv ad)) (b := ad r) (C := y.cls) ⟨hx, hb, hml, hown, hts⟩ (hM ad D dA) (cwV np hts hG rfl rfl rfl ⟨rfl, h3⟩ (gs_rm hR hn h4)) ⟨gs_blind, hr', fun U hU hW => ⟨rfl, gs_pre hP hK hinj hE hS hU hW⟩⟩ rfl (by rw [List.length_map]; exact hlen) (hl.1.trans hml) (by simp [gs_cv]) (lv_room (by rw [gs_sum]; exact hst)) hd ⟨Nat.zero_le _, Nat.zero_le _⟩) hS (fun H1 locs1 hP1 hS1 => ?_)
  have hk := k H1 locs1 la hl hP1 hS1
  rw [List.map_append] at hk
  cases res with
  | none => exact hk
  | some v => exact hk
theorem gs_callS (C : gs_C X own cc nL rt n) {pc i n' np mL : Nat} {y : MethodName} {cb : ByteArray} {rt' : Option FieldType} {res : Option Value} (As : List Value) (hd : decode cc pc = .ok (.invokestatic i, 3)) (hm : Cond.methodLink own i y ∈ gs_W) (hY : gs_YS y cb mL rt' np) (hM : gs_Met X.2.1 n' y cb mL rt' As M L res M' L') (hn : n' < n)
    (hlen : As.length = np) (hst : (st.map fun v => v.category).sum ≤ 8) (h0 : st0 = As.reverse ++ st) (k : gs_AW X (pc + 3) ls (res.toList ++ st) M' L') : gs_AW X pc ls st0 M L := by
  obtain ⟨p, l, e, R, s, m, args, below, meth, c, Q, ad, D, dA⟩ := X
  obtain ⟨hx, hb, hml, hown, hts, hK, hinj, hE, hr, hlk, hR⟩ := C
  intro H locs la hl hP hS
  subst h0
  obtain ⟨⟨h1, h2, h3, h4⟩, h5⟩ := hY
  have hG : GoodIn gs_W (va_wsS own i y (Cond.code y cb mL rt' :: gs_W)) := gs_Wg (by
    intro w hw
    simp only [va_wsS, List.mem_append, List.mem_cons, List.not_mem_nil, or_false] at hw
    rcases hw with (rfl | rfl | rfl) | rfl | hw
    · exact hm
    · exact h5
    · exact h2
    · exact h1
    · exact hw)
  refine gs_after (rest := st.map (gs_cv ad)) (va_runS (As := As.map (gs_cv ad)) ⟨hx, hb, hml, hown, hts⟩ (hM ad D dA) (va_cwS np hts hG rfl rfl rfl h3 (gs_rm hR hn h4)) ⟨gs_blind, fun U hU hW => ⟨rfl, gs_pre hP hK hinj hE hS hU hW⟩⟩ rfl (by rw [List.length_map]; exact hlen) (hl.1.trans hml) (by simp) (lv_room (by rw [gs_sum]; exact hst)) hd ⟨Nat.zero_le _, Nat.zero_le _⟩) hS (fun H1 locs1 hP1 hS1 => ?_)
  have hk := k H1 locs1 la hl hP1 hS1
  rw [List.map_append] at hk
  cases res with
  | none => exact hk
  | some v => exact hk
theorem gs_loc {R : Room} {n : Nat} (hR : n + 1 ≤ R.frames ∧ 80 * (n + 1) ≤ R.locals) : 80 ≤ R.locals ∧ 1 ≤ R.frames := by
  refine ⟨?_, ?_⟩
  · omega
  · omega
/-- System.arraycopy between two int arrays of the graph -/
def gs_cpy (M : gs_M) (r0 k0 : Nat) (sp : Int32) (r1 k1 : Nat) (dp w : Int32) : Option gs_M := if sp < 0 ∨ dp < 0 ∨ w < 0 ∨ k0 < sp.toNatClampNeg + w.toNatClampNeg ∨ k1 < dp.toNatClampNeg + w.toNatClampNeg then none else some (gs_row M r1 (va_cpy (M r0) (M r1) sp.toNatClampNeg dp.toNatClampNeg w.toNatClampNeg))
theorem gs_acpy (C : gs_C X own cc nL rt n) {pc i r0 k0 r1 k1 : Nat} {sp dp w : Int32} (hd : decode cc pc = .ok (.invokestatic i, 3)) (hm : Cond.methodLink own i arraycopyName ∈ gs_W) (h0 : gs_sh r0 = .inl (0, k0)) (h1 : gs_sh r1 = .inl (0, k1)) (hst : (st.map fun v => v.category).sum ≤ 8) (hv : gs_cpy M r0 k0 sp r1 k1 dp w = some M') (k : gs_AW X (pc + 3) ls st M' L) : gs_AW X pc ls (.int w :: .int dp :: .ref r1 :: .int sp :: .ref r0 :: st) M L := by
  obtain ⟨p, l, e, R, s, m, args, below, meth, c, Q, ad, D, dA⟩ := X
  obtain ⟨hx, hb, hml, hown, hts, hK, hinj, hE, hr, hlk, hR⟩ := C
  intro H locs la hl hP hS
  obtain ⟨hc, rfl⟩ := gs_some hv
  have a1 : ¬ sp < 0 := fun h => hc (Or.inl h)
  have a2 : ¬ dp < 0 := fun h => hc (Or.inr (Or.inl h))
  have a3 : ¬ w < 0 := fun h => hc (Or.inr (Or.inr (Or.inl h)))
  have a4 : sp.toNatClampNeg + w.toNatClampNeg ≤ k0 := Nat.not_lt.mp fun h => hc (Or.inr (Or.inr (Or.inr (Or.inl h))))
  have a5 : dp.toNatClampNeg + w.toNatClampNeg ≤ k1 := Nat.not_lt.mp fun h => hc (Or.inr (Or.inr (Or.inr (Or.inr h))))
  refine va_copyi hx hb hl.1.symm hown (hts _ hm) (hts _ gs_wnat) (hts _ gs_wstat) (hts _ gs_wsys) hK hP (gs_D dA M L hinj) hS r0 r1 0 0 (gs_ary h0) (gs_ary h1) rfl rfl rfl a1 a2 a3 a4 a5 (fun _ _ => rfl) (gs_loc hR).2 ?_ hd (fun H1 locs1 hP1 _ hS1 => k H1 locs1 la hl ?_ hS1)
  · have h9 := (gs_loc hR).1
    rw [gs_sum]
    have h8 : nativeFrameWords "java/lang/System" "arraycopy" 5 + 11 ≤ 60 := by decide
    omega
  · have e := gs_set (ad := ad) (dA := dA) (M := M) (M' := gs_row M r1 (va_cpy (M r0) (M r1) sp.toNatClampNeg dp.toNatClampNeg w.toNatClampNeg)) (L := L) (L' := L) (gs_lt_inl h1) (fun j hj => ⟨gs_row_ne M _ hj, rfl⟩)
    rw [← e]
    unfold gs_cell
    rw [h1, gs_row_row]
    exact hP1
theorem gs_mmax (C : gs_C X own cc nL rt n) {pc i : Nat} {x y : Int32} (hd : decode cc pc = .ok (.invokestatic i, 3)) (hm : Cond.methodLink own i Lib.Math.max.name ∈ gs_W) (hst : (st.map fun v => v.category).sum ≤ 8) (k : gs_AW X (pc + 3) ls (.int (if x < y then y else x) :: st) M L) : gs_AW X pc ls (.int y :: .int x :: st) M L := by
  obtain ⟨p, l, e, R, s, m, args, below, meth, c, Q, ad, D, dA⟩ := X
  obtain ⟨hx, hb, hml, hown, hts, hK, hinj, hE, hr, hlk, hR⟩ := C
  intro H locs la hl hP hS
  have h9 := gs_loc hR
  exact va_mmax hx hb hl.1.symm hown (hts _ hm) (hts _ gs_wmmax_st) (hts _ gs_wmath) (hts _ gs_wmmax_co) h9.2 (by rw [gs_sum]; omega) (Nat.zero_le _) (Nat.zero_le _) hd (k H locs la hl hP hS)
theorem gs_mmin (C : gs_C X own cc nL rt n) {pc i : Nat} {x y : Int32} (hd : decode cc pc = .ok (.invokestatic i, 3)) (hm : Cond.methodLink own i Lib.Math.min.name ∈ gs_W) (hst : (st.map fun v => v.category).sum ≤ 8) (k : gs_AW X (pc + 3) ls (.int (if y < x then y else x) :: st) M L) : gs_AW X pc ls (.int y :: .int x :: st) M L := by
  obtain ⟨p, l, e, R, s, m, args, below, meth, c, Q, ad, D, dA⟩ := X
  obtain ⟨hx, hb, hml, hown, hts, hK, hinj, hE, hr, hlk, hR⟩ := C
  intro H locs la hl hP hS
  have h9 := gs_loc hR
  exact va_mmin hx hb hl.1.symm hown (hts _ hm) (hts _ gs_wmmin_st) (hts _ gs_wmath) (hts _ gs_wmmin_co) h9.2 (by rw [gs_sum]; omega) (Nat.zero_le _) (Nat.zero_le _) hd (k H locs la hl hP hS)
theorem gs_mabs (C : gs_C X own cc nL rt n) {pc i : Nat} {x : Int32} (hd : decode cc pc = .ok (.invokestatic i, 3)) (hm : Cond.methodLink own i Lib.Math.abs.name ∈ gs_W) (hst : (st.map fun v => v.category).sum ≤ 8) (k : gs_AW X (pc + 3) ls (.int (if 0 ≤ x then x else 0 - x) :: st) M L) : gs_AW X pc ls (.int x :: st) M L := by
  obtain ⟨p, l, e, R, s, m, args, below, meth, c, Q, ad, D, dA⟩ := X
  obtain ⟨hx, hb, hml, hown, hts, hK, hinj, hE, hr, hlk, hR⟩ := C
  intro H locs la hl hP hS
  have h9 := gs_loc hR
  exact va_mabs hx hb hl.1.symm hown (hts _ hm) (hts _ gs_wmabs_st) (hts _ gs_wmath) (hts _ gs_wmabs_co) h9.2 (by rw [gs_sum]; omega) (Nat.zero_le _) (Nat.zero_le _) hd (k H locs la hl hP hS)
theorem gs_mmaxl (C : gs_C X own cc nL rt n) {pc i : Nat} {x y : Int64} (hd : decode cc pc = .ok (.invokestatic i, 3)) (hm : Cond.methodLink own i Lib.MathLoose.max_long.x ∈ gs_W) (hst : (st.map fun v => v.category).sum ≤ 8) (k : gs_AW X (pc + 3) ls (.long (if y < x then x else y) :: st) M L) : gs_AW X pc ls (.long y :: .long x :: st) M L := by
  obtain ⟨p, l, e, R, s, m, args, below, meth, c, Q, ad, D, dA⟩ := X
  obtain ⟨hx, hb, hml, hown, hts, hK, hinj, hE, hr, hlk, hR⟩ := C
  intro H locs la hl hP hS
  have h9 := gs_loc hR
  exact va_mmax_long hx hb hl.1.symm hown (hts _ hm) (hts _ gs_wmmaxl_st) (hts _ gs_wmath) (hts _ gs_wmmaxl_co) h9.2 (by rw [gs_sum]; omega) (Nat.zero_le _) (Nat.zero_le _) hd (k H locs la hl hP hS)
theorem gs_mminl (C : gs_C X own cc nL rt n) {pc i : Nat} {x y : Int64} (hd : decode cc pc = .ok (.invokestatic i, 3)) (hm : Cond.methodLink own i Lib.MathLoose.min_long.x ∈ gs_W) (hst : (st.map fun v => v.category).sum ≤ 8) (k : gs_AW X (pc + 3) ls (.long (if y < x then y else x) :: st) M L) : gs_AW X pc ls (.long y :: .long x :: st) M L := by
  obtain ⟨p, l, e, R, s, m, args, below, meth, c, Q, ad, D, dA⟩ := X
  obtain ⟨hx, hb, hml, hown, hts, hK, hinj, hE, hr, hlk, hR⟩ := C
  intro H locs la hl hP hS
  have h9 := gs_loc hR
  exact va_mmin_long hx hb hl.1.symm hown (hts _ hm) (hts _ gs_wmminl_st) (hts _ gs_wmath) (hts _ gs_wmminl_co) h9.2 (by rw [gs_sum]; omega) (Nat.zero_le _) (Nat.zero_le _) hd (k H locs la hl hP hS)
end Calls
