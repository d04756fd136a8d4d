/-! the law's own 'person': it calls the class's and catches -/
def pr_tab : List (Nat × Nat × Nat × Nat) := [(0, 10, 13, 13)]
def pr_L (fl v : Int32) (L : gs_L) : gs_L := if fl = 0 then gs_upl L 170 0 v.toInt64 else L
theorem pr_wcode : Cond.codeWith yL_person cL_person 5 (some .int) pr_tab ∈ gs_W := gs_w6 33 rfl rfl
set_option maxRecDepth 100000 in
set_option maxHeartbeats 4000000 in
theorem a_L_person {l : Launch} (hl9 : l.stackTraces = false) {M : gs_M} {L : gs_L} {x1 x2 fl v : Int32} (h : f_X11_person M x1 x2 = some (fl, v)) (ad : Nat → Nat) (D : va_G) (dA : Nat → ClassId) :
    vx_Met l yL_person (Cond.codeWith yL_person cL_person 5 (some .int) pr_tab :: gs_W) pr_room2 (va_Pc (([.ref 0, .int x1, .int x2, .ref 170] : List Value).map (gs_cv ad)) (pr_I ad D dA M L)) (gs_Qc ad D dA (some (.int fl)) M (pr_L fl v L)) (fun _ _ _ => False) 1 6 (gs_A ad) := by
  refine vx_ofWH (cc := cL_person) (maxL := 5) (ret := some .int) (hh := pr_tab) (by decide) rfl ?_
  intro p e s m args below meth c s₁ B hml hv
  obtain ⟨rfl, ⟨hP0, hK, hinj, hE⟩, hPE⟩ := hv
  have hts := atoms_spec (ws := Cond.codeWith yL_person cL_person 5 (some .int) pr_tab :: gs_W) B.pre
  have htab : c.exceptionTable.toList = tableOf pr_tab := vx_table (x := yL_person) B (hts _ List.mem_cons_self)
  have htw : ∀ w ∈ gs_W, w.before (([.ref 0, .int x1, .int x2, .ref 170] : List Value).map (gs_cv ad)).toArray s = true := fun w hw => hts w (List.mem_cons_of_mem _ hw)
  have hfc : s.vm.findClass RL = some m.cls := findClass_of_methodNamed B.named
  have hl0 := lv_entry (([.ref 0, .int x1, .int x2, .ref 170] : List Value).map (gs_cv ad)) (n := 5) (by rw [gs_sl_len]; exact Nat.le_of_ble_eq_true rfl)
  rw [lg_entry_eq]
  have hx := B.exec
  have hb := B.bytes
  have hr := B.returns
  have hlk := B.notSynchronized
  have C : gs_C (p, l, e, pr_room2, s, m, (([.ref 0, .int x1, .int x2, .ref 170] : List Value).map (gs_cv ad)).toArray, below, meth, c, vx_MQ below (gs_Qc ad D dA (some (.int fl)) M (pr_L fl v L)) (fun _ _ _ => False) (([.ref 0, .int x1, .int x2, .ref 170] : List Value).map (gs_cv ad)).toArray s 1 6 (gs_A ad), ad, D, dA) RL cL_person 5 (some .int) 6 := ⟨hx, hb, hml, hfc, htw, hK, hinj, hE, hr, hlk, by decide, by decide⟩
  have hbody : gs_AW (p, l, e, pr_room2, s, m, (([.ref 0, .int x1, .int x2, .ref 170] : List Value).map (gs_cv ad)).toArray, below, meth, c, vx_MQ below (gs_Qc ad D dA (some (.int fl)) M (pr_L fl v L)) (fun _ _ _ => False) (([.ref 0, .int x1, .int x2, .ref 170] : List Value).map (gs_cv ad)).toArray s 1 6 (gs_A ad), ad, D, dA) 0 [(0, .ref 0), (1, .int x1), (2, .int x2), (3, .ref 170)] [] M L := by
    refine gs_aload_n (pc := 0) C 3 dL_person_0 rfl rfl ?_
    refine gs_iconst (w := 0) (pc := 1) C dL_person_1 rfl ?_
    refine gs_aload_n (pc := 2) C 0 dL_person_2 rfl rfl ?_
    refine gs_iload_n (pc := 3) C 1 dL_person_3 rfl rfl ?_
    refine gs_iload_n (pc := 4) C 2 dL_person_4 rfl rfl ?_
    intro H locs la hl hP hS
    obtain ⟨⟨h1, h2, h3, h4⟩, h5, h6⟩ := wy_X11_person
    have hr' := va_recv (q := (RX11, TX11, 16)) hK hP rfl (gs_obj (ad := ad) (dA := dA) (M := M) (L := L) sh_0 (by decide))
    have hG : GoodIn gs_W (wsV RL 7 RX11 yX11_person (Cond.code yX11_person cX11_person 3 (some .int) :: gs_W)) := gs_Wg (by
      intro w hw
      simp only [wsV, List.mem_append, List.mem_cons, List.not_mem_nil, or_false] at hw
      rcases hw with (rfl | rfl | rfl | rfl) | rfl | hw
      · exact ml_L_7
      · exact h5
      · exact h6
      · exact h2
      · exact h1
      · exact hw)
    have hpre : ∀ U : State, U.heap = H → s.WarmedH U.vm → pr_I ad D dA M L U := by
      intro U hU hW
      refine ⟨gs_pre hP hK hinj hE hS hU hW, ?_⟩
      rw [hU]
      exact (hPE.kept hS.2.1).warm hW
    have hrun := vx_runV (l := l) (e := e) (R := pr_room2) (below := below) (meth := meth) (H := H) (locs := locs) (cells := 0) (slots := 0) (mc := 1) (ms := 6) (g := F0 m 5 la (([.int x2, .int x1, .ref 0, .int 0, .ref 170] : List Value).map (gs_cv ad))) (rest := ([.int 0, .ref 170] : List Value).map (gs_cv ad)) (As := ([.int x1, .int x2] : List Value).map (gs_cv ad)) (b := ad 0) (C := RX11) ⟨hx, hb, hml, hfc, htw⟩ (a_X11_personX hl9 h ad D dA) (cwV 2 htw hG rfl rfl rfl ⟨rfl, h3⟩ ⟨by decide, by decide⟩) ⟨pr_blind, hr', fun U hU hW => ⟨rfl, hpre U hU hW⟩⟩ rfl rfl (hl.1.trans hml) rfl (lv_room (by rw [gs_sum]; exact Nat.le_of_ble_eq_true rfl)) dL_person_5 ⟨by decide, by decide⟩
    intro T hT X
    rcases hrun T hT X with ⟨v9, st₀, t, T', L9, h0, X', hL, e1, e2, ⟨hfl, hv, hp, hz9, hk9⟩, stp⟩ | ⟨q9, st₀, t, T', L9, E, ce, h0, X', hL, e1, e2, ⟨hfl, rfl, hp, hz9, hk9⟩, hce, hcv, hcl, stp⟩
    · have hv' : v9 = some (Value.int v) := by injection hv
      subst hv'
      rw [h0] at hz9 hk9
      have hS1 : va_S (gs_A ad) s.heap T'.heap (locs ++ L9) := ⟨Nat.le_trans hS.1 (by rw [e1]; exact hz9), fun q q1 q2 => by rw [e1, hk9 q (Nat.lt_of_lt_of_le q1 hS.1) q2]; exact hS.2.1 q q1 q2, fun q hq => by
        rcases List.mem_append.mp hq with h | h
        · exact hS.2.2 q h
        · exact hL q h⟩
      have hP1 : va_P D vwCl (gs_ws ad dA M L) T'.heap := by rw [e1]; exact hp
      have kk : W p l e pr_room2 s m (([.ref 0, .int x1, .int x2, .ref 170] : List Value).map (gs_cv ad)).toArray below meth c T'.heap (locs ++ L9) 1 6 (vx_MQ below (gs_Qc ad D dA (some (.int fl)) M (pr_L fl v L)) (fun _ _ _ => False) (([.ref 0, .int x1, .int x2, .ref 170] : List Value).map (gs_cv ad)).toArray s 1 6 (gs_A ad)) (F0 m 8 la [.int v, .int 0, .ref (ad 170)]) := by
        refine lv_i2l hx hb dL_person_8 rfl ?_
        refine va_last hx hb hK hP1 (gs_D dA M L hinj) hS1 170 1 (gs_ary sh_170) rfl (i := 0) (show ¬ ((0 : Int32) < 0 ∨ 1 ≤ (0 : Int32).toNatClampNeg) by decide) dL_person_9 (fun H2 locs2 hP2 _ hS2 => ?_)
        refine lv_goto hx hb dL_person_10 (tgt := 17) rfl ?_
        refine lv_iconst hx hb dL_person_17 (v := 0) rfl ?_
        refine vx_ret ?_
        have hP3 : va_P D vwCl (gs_ws ad dA M (pr_L fl v L)) H2 := by
          unfold pr_L
          rw [if_pos hfl]
          have e := gs_set (ad := ad) (dA := dA) (M := M) (M' := M) (L := L) (L' := gs_upl L 170 0 v.toInt64) (gs_lt_inl sh_170) (fun j hj => ⟨rfl, gs_upl_ne L _ _ hj⟩)
          rw [← e]
          unfold gs_cell
          rw [sh_170, gs_upl_row]
          exact hP2
        subst hfl
        exact W.iret hx hb hr (fun t ht _ => ⟨rfl, by rw [ht]; exact hP3, hS2.F ht⟩) hS2.2.2 dL_person_18 hlk
      obtain ⟨t2, a1, b1⟩ := kk T' rfl X'
      exact ⟨t2, stp t2 a1, b1⟩
    · rw [h0] at hz9 hk9
      have hS1 : va_S (gs_A ad) s.heap T'.heap (locs ++ L9) := ⟨Nat.le_trans hS.1 (by rw [e1]; exact hz9), fun q q1 q2 => by rw [e1, hk9 q (Nat.lt_of_lt_of_le q1 hS.1) q2]; exact hS.2.1 q q1 q2, fun q hq => by
        rcases List.mem_append.mp hq with h | h
        · exact hS.2.2 q h
        · exact hL q h⟩
      have hP1 : va_P D vwCl (gs_ws ad dA M (pr_L fl v L)) T'.heap := by
        unfold pr_L
        rw [if_neg (by rw [hfl]; decide), e1]
        exact hp
      have kk : vx_W p l e pr_room2 s m (([.ref 0, .int x1, .int x2, .ref 170] : List Value).map (gs_cv ad)).toArray below meth c T'.heap (locs ++ L9) 1 6 (vx_MQ below (gs_Qc ad D dA (some (.int fl)) M (pr_L fl v L)) (fun _ _ _ => False) (([.ref 0, .int x1, .int x2, .ref 170] : List Value).map (gs_cv ad)).toArray s 1 6 (gs_A ad)) (F0 m 5 la [.int 0, .ref (ad 170)]) q9 := by
        refine vx_catch (own := RL) (name := xN) (E := xN) (ce := ce) hfc [] ⟨0, 10, 13, 13⟩ [] (by rw [htab]; rfl) (fun z hz => nomatch hz) (by decide) (by decide) (htw _ (gs_w6 34 rfl rfl)) (va_Nw.use rfl hPE.2.1.2.2.2) (by rw [e1]; exact hce) hcv hcl ?_
        refine lv_astore (i := 4) (x := q9) (nL := 5) (lv := gs_lm ad [(0, .ref 0), (1, .int x1), (2, .int x2), (3, .ref 170)]) hx hb dL_person_13 (by rw [← hml]; exact hl) (by decide) rfl (fun la' hl' => ?_)
        refine lv_iconst hx hb dL_person_15 (v := 1) rfl ?_
        refine vx_ret ?_
        subst hfl
        exact W.iret hx hb hr (fun t ht _ => ⟨rfl, by rw [ht]; exact hP1, hS1.F ht⟩) hS1.2.2 dL_person_16 hlk
      obtain ⟨t2, a1, b1⟩ := kk T' rfl X'
      exact ⟨t2, stp.trans a1, b1⟩
  exact hbody s.heap [] _ (by rw [hml]; exact hl0) hP0 va_S.rf
theorem pr_wstat : Cond.static yL_person ∈ gs_W := gs_w6 32 rfl rfl
theorem pr_wini : Cond.initialized RL ∈ gs_W := gs_w1 0 rfl rfl
/-- the row of the law's call of its own 'person' -/
theorem pr_per {X : gl_X} (C : gl_C X) (hl9 : X.2.1.stackTraces = false) (hPE0 : pr_E (fun q => X.2.2.2.1.heap.size ≤ q) X.2.2.2.1 X.2.2.2.1.heap) : gl_Per X := by
  obtain ⟨p, l, e, s, m, below, meth, c, ad, D, dA, b9, L9, xs⟩ := X
  obtain ⟨hx, hb, hml, hown, hts, hK, hinj, hE, hr, hlk, hR⟩ := C
  intro k z pc ls M L p0 p1 fl v hf hpc hk hz kk H locs la hl hP hS
  subst hpc
  obtain ⟨g1, g2, g3, g4, g5⟩ := hR
  have hAA : ∀ q, gs_A ad q → s.heap.size ≤ q := by
    rintro q ⟨i, hi, rfl⟩
    exact g1 i hi
  have hPE : pr_E (gs_A ad) s s.heap := hPE0.narrow hAA
  have hG : GoodIn gs_W (va_wsS RL 42 yL_person (Cond.codeWith yL_person cL_person 5 (some .int) pr_tab :: gs_W)) := gs_Wg (by
    intro w hw
    simp only [va_wsS, List.mem_append, List.mem_cons, List.not_mem_nil, or_false] at hw
    rcases hw with (rfl | rfl | rfl) | rfl | hw
    · exact ml_L_42
    · exact pr_wstat
    · exact pr_wini
    · exact pr_wcode
    · exact hw)
  have hpre : ∀ U : State, U.heap = H → s.WarmedH U.vm → pr_I ad D dA M L U := by
    intro U hU hW
    refine ⟨⟨by rw [hU]; exact hP, va_K.moved hW.alike hK, hinj, ?_⟩, ?_⟩
    · rw [hU]
      exact (hE.kept (fun a h8 _ => hS.2.1 a h8 (Nat.not_le.mpr h8))).to hW.alike (fun _ _ _ _ h => vk_R.warm hW h)
    · rw [hU]
      exact (hPE.kept (fun a h8 _ => hS.2.1 a h8 (Nat.not_le.mpr h8))).warm hW
  have hrun := vx_runSX (l := l) (e := e) (R := room_1) (below := below) (meth := meth) (H := H) (locs := locs) (cells := k) (slots := z) (mc := 1) (ms := 6) (g := F0 m 423 la (([.ref 170, .int p1, .int p0, .ref 0] : List Value).map (gs_cv ad))) (rest := []) (As := ([.ref 0, .int p0, .int p1, .ref 170] : List Value).map (gs_cv ad)) ⟨hx, hb, hml, hown, hts⟩ (a_L_person hl9 hf ad D dA) (vx_cwSW 4 hts hG rfl rfl rfl ⟨by decide, by decide, by decide +kernel⟩ ⟨by decide, by decide⟩) ⟨pr_blind, fun U hU hW => ⟨rfl, hpre U hU hW⟩⟩ rfl rfl (hl.1.trans hml) rfl (lv_room (Nat.le_of_ble_eq_true rfl)) dL_law_423 ⟨hk, hz⟩
  intro T hT X
  rcases hrun T hT X with ⟨v9, st₀, t, T', L9', h0, X', hL, e1, e2, ⟨hv, hp, hz9, hk9⟩, stp⟩ | ⟨q9, st₀, t, T', L9', E, ce, h0, X', hL, e1, e2, hF, hce, hcv, hcl, stp⟩
  · have hv' : v9 = some (Value.int fl) := by injection hv
    subst hv'
    rw [h0] at hz9 hk9
    obtain ⟨t2, a1, b1⟩ := kk T'.heap (locs ++ L9') la hl (by rw [e1]; exact hp) ⟨Nat.le_trans hS.1 (by rw [e1]; exact hz9), fun q q1 q2 => by rw [e1, hk9 q (Nat.lt_of_lt_of_le q1 hS.1) (fun z => q2 (hAA q z))]; exact hS.2.1 q q1 q2, fun q hq => by
        rcases List.mem_append.mp hq with h | h
        · exact hS.2.2 q h
        · exact hAA _ (hL q h)⟩ T' rfl X'
    exact ⟨t2, stp t2 a1, b1⟩
  · exact hF.elim
