/-! the start of what a throw reads -/
theorem pr_in6 {w : Cond} (i : Nat) (h : tables_1_6[i]? = some w) : w ∈ lw_tbl := List.mem_append_right _ (List.mem_append_right _ (List.mem_append_right _ (List.mem_append_right _ (List.mem_append_right _ (List.mem_append_right _ (List.mem_append_left _ (List.mem_of_getElem? h)))))))
theorem pr_in1 {w : Cond} (i : Nat) (h : tables_1_1[i]? = some w) : w ∈ lw_tbl := List.mem_append_right _ (List.mem_append_left _ (List.mem_of_getElem? h))
theorem pr_start {s : State} {b : Nat} (hgv : (Jvm.Cond.and given_1 narrow_1).before #[Value.ref b] s = true) (hts : ∀ w ∈ lw_tbl, w.before #[Value.ref b] s = true) : pr_E (fun q => s.heap.size ≤ q) s s.heap := by
  have hs := flat_of_before _ hgv
  have hA : ∀ a : Nat, a < s.heap.size → ¬ (fun q : Nat => s.heap.size ≤ q) a := fun a h => Nat.not_le.mpr h
  obtain ⟨mk, hmk⟩ := Cond.code_named (hts _ (List.mem_filter.mp wy_X11_person.1.1).1)
  have hfc : s.vm.findClass RX11 = some mk.cls := findClass_of_methodNamed hmk
  have w1 : (Cond.stringRef RX11 183 "no such person").before #[Value.ref b] s = true := hts _ (pr_in6 78 rfl)
  have w2 : (Cond.stringRef RX11 197 "no such what").before #[Value.ref b] s = true := hts _ (pr_in6 105 rfl)
  obtain ⟨-, -, -, sa, -, -, -, -, -, h1⟩ := Cond.stringRef_spec hfc w1
  obtain ⟨-, -, -, sb, -, -, -, -, -, h2⟩ := Cond.stringRef_spec hfc w2
  refine ⟨⟨⟨sa, vk_R.of w1 h1⟩, sb, vk_R.of w2 h2⟩, ⟨va_Nw.of rfl (hts _ (pr_in6 43 rfl)), va_Nw.of rfl (hts _ (pr_in6 45 rfl)), va_Nw.of rfl (hts _ (pr_in6 47 rfl)), va_Nw.of rfl (hts _ (pr_in6 41 rfl))⟩, ?_, ?_⟩
  · exact vx_Zqof (hts _ (pr_in6 66 rfl)) (hts _ (pr_in1 21 rfl)) (hs _ (by decide +kernel)) hA
  · exact vx_Zqof (hts _ (pr_in6 68 rfl)) (hts _ (pr_in1 21 rfl)) (hs _ (by decide +kernel)) hA
set_option maxRecDepth 100000 in
set_option maxHeartbeats 4000000 in
/-- .. as go_start, with the state it began in -/
theorem go_start2 {p : Program} {e : Env} {s : State} {m : MethodId} {below : List Frame} {meth : Method} {c : Code} (l : Launch) {b L : Nat} {xs : Nat → Int32} (hL : L ≤ 3072) (C0 : lw_At p s m meth c b L xs)
    (hgo : ∀ X : gl_X, gl_C X → X.2.1 = l → X.2.2.2.1 = s → gl_AW X 171 41898 23 [(4, .int (nI 0)), (3, .ref 170), (2, .ref 147), (1, .ref 0), (0, .ref 2000)] [] gs_M0 gs_L0) : W p l e room_1 s m #[Value.ref b] below meth c s.heap [] 0 0 (lw_Z below #[Value.ref b] s) (entryFrame m ([Value.ref b] : List Value).toArray 7) := by
  obtain ⟨hx, hb, hr, hml, hown, hts, hX, hbl, hlocks, hgv⟩ := id C0
  obtain ⟨adE, hra, hrb, hEx⟩ := go_Ext hgv hts
  have hw : ∀ w ∈ gs_W, w.before #[Value.ref b] s = true := fun w h => hts w (List.mem_filter.mp h).1
  obtain ⟨c0, i0, hKn0⟩ := u_known (C := RX0) (T := TX0) (N := 3) (n := 3) hw uw_0 (hw _ in_0)
  obtain ⟨c1, i1, hKn1⟩ := u_known (C := RX1) (T := TX1) (N := 10) (n := 10) hw uw_1 (hw _ in_1)
  obtain ⟨c2, i2, hKn2⟩ := u_known (C := RX2) (T := TX2) (N := 7) (n := 7) hw uw_2 (hw _ in_2)
  obtain ⟨c3, i3, hKn3⟩ := u_known (C := RX3) (T := TX3) (N := 2) (n := 2) hw uw_3 (hw _ in_3)
  obtain ⟨c4, i4, hKn4⟩ := u_known (C := RX4) (T := TX4) (N := 6) (n := 6) hw uw_4 (hw _ in_4)
  obtain ⟨c5, i5, hKn5⟩ := u_known (C := RX5) (T := TX5) (N := 6) (n := 6) hw uw_5 (hw _ in_5)
  obtain ⟨c6, i6, hKn6⟩ := u_known (C := RX6) (T := TX6) (N := 1) (n := 1) hw uw_6 (hw _ in_6)
  obtain ⟨c7, i7, hKn7⟩ := u_known (C := RX7) (T := TX7) (N := 4) (n := 4) hw uw_7 (hw _ in_7)
  obtain ⟨c8, i8, hKn8⟩ := u_known (C := RX8) (T := TX8) (N := 10) (n := 10) hw uw_8 (hw _ in_8)
  obtain ⟨c9, i9, hKn9⟩ := u_known (C := RX9) (T := TX9) (N := 4) (n := 4) hw uw_9 (hw _ in_9)
  obtain ⟨c10, i10, hKn10⟩ := u_known (C := RX10) (T := TX10) (N := 4) (n := 4) hw uw_10 (hw _ in_10)
  obtain ⟨c11, i11, hKn11⟩ := u_known (C := RX11) (T := TX11) (N := 16) (n := 16) hw uw_11 (hw _ in_11)
  obtain ⟨c12, i12, hKn12⟩ := u_known (C := RX12) (T := TX12) (N := 47) (n := 47) hw uw_12 (hw _ in_12)
  obtain ⟨D, hD1⟩ : ∃ D : va_G, ∀ (k : Nat) (q : vw_C), vwCl[k]? = some q → u_Kn s q.1 q.2.1 q.2.2 (D.1 k) (D.2 k) := by
    refine ⟨(fun k => ([c0, c1, c2, c3, c4, c5, c6, c7, c8, c9, c10, c11, c12] : List ClassId).getD k c0, fun k => ([i0, i1, i2, i3, i4, i5, i6, i7, i8, i9, i10, i11, i12] : List (Nat → Nat)).getD k i0), ?_⟩
    intro k q hq
    match k, hq with
    | 0, hq => cases hq; exact hKn0
    | 1, hq => cases hq; exact hKn1
    | 2, hq => cases hq; exact hKn2
    | 3, hq => cases hq; exact hKn3
    | 4, hq => cases hq; exact hKn4
    | 5, hq => cases hq; exact hKn5
    | 6, hq => cases hq; exact hKn6
    | 7, hq => cases hq; exact hKn7
    | 8, hq => cases hq; exact hKn8
    | 9, hq => cases hq; exact hKn9
    | 10, hq => cases hq; exact hKn10
    | 11, hq => cases hq; exact hKn11
    | 12, hq => cases hq; exact hKn12
    | k + 13, hq => simp [vwCl] at hq
  obtain ⟨d0, u0⟩ := go_prim hts ar_int (fun _ _ h => h)
  obtain ⟨d1, u1⟩ := go_prim hts ar_long (fun _ _ h => h)
  obtain ⟨d2, u2⟩ := go_prim hts ar_byte (fun _ _ h => h)
  obtain ⟨d3, u3⟩ := go_prim hts ar_boolean (fun _ _ h => h)
  have hao4 : va_AO "GuiltySleep$State" s := va_AO.of (hts _ go_ao4)
  have hao5 : va_AO "GuiltySleep$Law" s := va_AO.of (hts _ go_ao5)
  obtain ⟨d4, u4⟩ := go_obj hao4
  obtain ⟨d5, u5⟩ := go_obj hao5
  obtain ⟨dA, hdA⟩ : ∃ dA : Nat → ClassId, ∀ (k : Nat) (q : ClassId × FieldType), (gs_tys dA)[k]? = some q → ArrOfT s q.1 q.2 ∧ va_RA s q.1 q.2 := by
    refine ⟨fun k => ([d0, d1, d2, d3, d4, d5] : List ClassId).getD k d0, ?_⟩
    intro k q hq
    match k, hq with
    | 0, hq => cases hq; exact u0
    | 1, hq => cases hq; exact u1
    | 2, hq => cases hq; exact u2
    | 3, hq => cases hq; exact u3
    | 4, hq => cases hq; exact u4
    | 5, hq => cases hq; exact u5
    | k + 6, hq => simp [gs_tys] at hq
  have hK : va_K D vwCl (gs_tys dA) s := ⟨hD1, hdA⟩
  have hU : gc_U D dA (adE 1003) (adE 1002) s := by
    refine ⟨hK, fun q hq => ?_, hao4, hao5, hra, hrb⟩
    simp only [gc_nest, List.mem_cons, List.not_mem_nil, or_false] at hq
    rcases hq with rfl | rfl | rfl | rfl | rfl | rfl | rfl
    · exact va_Nw.of rfl (hts _ go_n0)
    · exact va_Nw.of rfl (hts _ go_n1)
    · exact va_Nw.of rfl (hts _ go_n2)
    · exact va_Nw.of rfl (hts _ go_n3)
    · exact va_Nw.of rfl (hts _ go_n4)
    · exact va_Nw.of rfl (hts _ go_n5)
    · exact va_Nw.of rfl (hts _ go_n6)
  have hG11 : GoodIn gs_W (Cond.code yX11_init cX11_init 1 none :: gs_W) := gs_Wg (List.forall_mem_cons.mpr ⟨wy_X11_init.1.1, fun _ h => h⟩)
  have hG12 : GoodIn gs_W (Cond.code yX12_init cX12_init 1 none :: gs_W) := gs_Wg (List.forall_mem_cons.mpr ⟨wy_X12_init.1.1, fun _ h => h⟩)
  have hA : ∀ q : Nat, s.heap.size ≤ q → (fun q : Nat => s.heap.size ≤ q) q := fun _ h => h
  have hS : va_S (fun q : Nat => s.heap.size ≤ q) s.heap s.heap [] := va_S.rf
  have hP : va_P D vwCl [] s.heap := fun k q h => by simp at h
  have hD : va_D (fun q : Nat => s.heap.size ≤ q) [] := ⟨fun i j p q h => by simp at h, fun k q h => by simp at h⟩
  have hl := lv_entry ([.ref b]) (n := 7) (Nat.le_of_ble_eq_true rfl)
  rw [lg_entry_eq]
  generalize (lg_sl ([.ref b]) ++ List.replicate (7 - (lg_sl ([.ref b])).length) Slot.unset).toArray = la at hl ⊢
  have hl : lv_has la 7 [(0, .ref b)] := hl
  refine va_new (ci := 11) (fs := nv_11) (C := RX11) (T := TX11) (N := 16) hx hb hw uw_11 tyX11 tyX11_ok hown (hw _ cl_L_8) (hw _ in_11) (hw _ it_11) hK hP hD hS hA rfl nv_11_ok (Nat.le_of_ble_eq_true rfl) (Nat.le_of_ble_eq_true rfl) dL_law_0 (fun q0 H hP hD hS => ?_)
  refine lv_dup hx hb dL_law_3 rfl ?_
  have hP0 : va_P D vwCl [(q0, .inr (11, nv_11))] H := hP.sub [([] : va_W).length] (by simp)
  refine gc_after (wr := []) (h0 := q0) (c0 := .inr (11, nv_11)) (ws1 := fun dA f => wX11 q0 (adE 1003) (adE 1002) dA f) (va_runI (As := []) (rest := [.ref q0]) ⟨hx, hb, hml, hown, hw⟩ (c_X11_init l q0 D dA (adE 1003) (adE 1002) H.size) (cwI 0 hw hG11 rfl rfl rfl (hw _ it_11) (hw _ ml_L_15) (hw _ wy_X11_init.2) rfl wy_X11_init.1.2.2.1 ⟨(Nat.le_of_ble_eq_true rfl), (Nat.le_of_ble_eq_true rfl)⟩) ⟨gc_blind, fun U hU9 hW => ⟨rfl, by rw [hU9], by rw [hU9]; exact hP0, hU.warm hW, go_one _⟩⟩ rfl rfl hl.1 rfl (lv_room (Nat.le_of_ble_eq_true rfl)) dL_law_4 ⟨(Nat.le_of_ble_eq_true rfl), (Nat.le_of_ble_eq_true rfl)⟩) hP hD hA hS (fun f H locs hP hD hS => ?_)
  refine lv_astore_n (lv' := [(1, .ref q0), (0, .ref b)]) hx hb dL_law_7 rfl hl (by decide) rfl (fun la hl => ?_)
  refine va_new (ci := 12) (fs := nv_12) (C := RX12) (T := TX12) (N := 47) hx hb hw uw_12 tyX12 tyX12_ok hown (hw _ cl_L_16) (hw _ in_12) (hw _ it_12) hK hP hD hS hA rfl nv_12_ok (Nat.le_of_ble_eq_true rfl) (Nat.le_of_ble_eq_true rfl) dL_law_8 (fun q1 H hP hD hS => ?_)
  refine lv_dup hx hb dL_law_11 rfl ?_
  have hP0 : va_P D vwCl [(q1, .inr (12, nv_12))] H := hP.sub [(([] ++ wX11 q0 (adE 1003) (adE 1002) dA f) : va_W).length] (by simp)
  refine gc_after (wr := ([] ++ wX11 q0 (adE 1003) (adE 1002) dA f)) (h0 := q1) (c0 := .inr (12, nv_12)) (ws1 := fun dA f => wX12 q1 (adE 1003) (adE 1002) dA f) (va_runI (As := []) (rest := [.ref q1]) ⟨hx, hb, hml, hown, hw⟩ (c_X12_init l q1 D dA (adE 1003) (adE 1002) H.size) (cwI 0 hw hG12 rfl rfl rfl (hw _ it_12) (hw _ ml_L_18) (hw _ wy_X12_init.2) rfl wy_X12_init.1.2.2.1 ⟨(Nat.le_of_ble_eq_true rfl), (Nat.le_of_ble_eq_true rfl)⟩) ⟨gc_blind, fun U hU9 hW => ⟨rfl, by rw [hU9], by rw [hU9]; exact hP0, hU.warm hW, go_one _⟩⟩ rfl rfl hl.1 rfl (lv_room (Nat.le_of_ble_eq_true rfl)) dL_law_12 ⟨(Nat.le_of_ble_eq_true rfl), (Nat.le_of_ble_eq_true rfl)⟩) hP hD hA hS (fun g H locs hP hD hS => ?_)
  refine lv_astore_n (lv' := [(2, .ref q1), (1, .ref q0), (0, .ref b)]) hx hb dL_law_15 rfl hl (by decide) rfl (fun la hl => ?_)
  refine lv_iconst (v := 1) hx hb dL_law_16 (by decide) ?_
  refine va_newa (atype := .long) (ty := .long) (tys := gs_tys dA) (a0 := (1, .inr (.inl (fun _ => 0)))) hx hb (hw _ ar_long) rfl hK hP hD hS hA (fun _ => rfl) (by decide) (by decide) (by decide) (Nat.le_of_ble_eq_true rfl) (Nat.le_of_ble_eq_true rfl) dL_law_17 (fun q2 cA H hK1 hP hD hS => ?_)
  have e1 : cA = dA 1 := by
    have g1 : va_RA s cA .long := (hK1.2 6 (cA, .long) rfl).2
    have g2 : va_RA s (dA 1) .long := (hK.2 1 _ (gs_tyAt dA).2.1).2
    exact Option.some.inj (g1.symm.trans g2)
  subst e1
  refine lv_astore_n (lv' := [(3, .ref q2), (2, .ref q1), (1, .ref q0), (0, .ref b)]) hx hb dL_law_19 rfl hl (by decide) rfl (fun la hl => ?_)
  refine lv_iconst (v := 0) hx hb dL_law_20 (by decide) ?_
  refine lv_istore (lv' := [(4, .int 0), (3, .ref q2), (2, .ref q1), (1, .ref q0), (0, .ref b)]) hx hb dL_law_21 hl (by decide) rfl (fun la hl => ?_)
  have hP9 : va_P D vwCl (go_W q0 q1 q2 (adE 1003) (adE 1002) dA f g) H := hP
  have hD9 : va_D (fun q : Nat => s.heap.size ≤ q) (go_W q0 q1 q2 (adE 1003) (adE 1002) dA f g) := hD
  have hlen : (go_W q0 q1 q2 (adE 1003) (adE 1002) dA f g).length = 171 := rfl
  have k1 : ∀ i, i < 171 → (go_ad q0 q1 q2 b f g adE) i = ((go_W q0 q1 q2 (adE 1003) (adE 1002) dA f g).map (fun q => q.1)).getD i 0 := go_k1 q0 q1 q2 b dA f g adE
  have hinj : gs_inj (go_ad q0 q1 q2 b f g adE) := by
    intro i j hi hj e9
    rw [k1 i hi, k1 j hj] at e9
    exact go_inj hD9 (by rw [hlen]; exact hi) (by rw [hlen]; exact hj) e9
  have hge : ∀ i, i < gs_N → s.heap.size ≤ (go_ad q0 q1 q2 b f g adE) i := by
    intro i hi
    rw [k1 i hi]
    exact go_mem hD9 (by rw [hlen]; exact hi)
  have hE := hEx (go_ad q0 q1 q2 b f g adE) (fun i h1 h2 => by show (if i = 0 then q0 else if i < 147 then f (i - 1) else if i = 147 then q1 else if i < 170 then g (i - 148) else if i = 170 then q2 else if i < 2000 then adE i else b) = adE i; rw [if_neg (by omega), if_neg (by omega), if_neg (by omega), if_neg (by omega), if_neg (by omega), if_pos h2]) hge
  have hPg : va_P D vwCl (gs_ws (go_ad q0 q1 q2 b f g adE) dA gs_M0 gs_L0) H := by
    intro k q hk
    obtain ⟨h1, rfl⟩ := gs_get' hk
    exact go_cells q0 q1 q2 b dA f g adE hP9 k h1
  exact hgo (p, l, e, s, m, below, meth, c, (go_ad q0 q1 q2 b f g adE), D, dA, b, L, xs) ⟨hx, hb, hml, hown, hw, hK, hinj, hE, hr, hlocks, hge, hX, hbl, rfl, hL⟩ rfl rfl H _ la (by rw [hml]; exact hl) hPg hS
theorem pr_traces {l : Launch} (h : l.flags = flags0) : l.stackTraces = false := by
  unfold Launch.stackTraces
  rw [h]
  decide
