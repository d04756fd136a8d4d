theorem go_w0 : Cond.laysStatic "GuiltySleep$Town" "RULE_LEAST" "[I" ∈ lw_tbl := List.mem_append_right _ (List.mem_append_right _ (List.mem_append_left _ (List.mem_of_getElem? (i := 154) rfl)))
theorem go_w1 : Cond.laysStatic "GuiltySleep$Town" "RULE_MOST" "[I" ∈ lw_tbl := List.mem_append_right _ (List.mem_append_right _ (List.mem_append_left _ (List.mem_of_getElem? (i := 156) rfl)))
theorem go_w2 : Cond.laysStatic "GuiltySleep$Town" "RULE_PLAIN" "[I" ∈ lw_tbl := List.mem_append_right _ (List.mem_append_right _ (List.mem_append_left _ (List.mem_of_getElem? (i := 136) rfl)))
theorem go_w3 : Cond.laysStatic "GuiltySleep$Town" "PERSON_LEAST" "[I" ∈ lw_tbl := List.mem_append_right _ (List.mem_append_right _ (List.mem_append_right _ (List.mem_append_left _ (List.mem_of_getElem? (i := 38) rfl))))
theorem go_w4 : Cond.laysStatic "GuiltySleep$Town" "PERSON_MOST" "[I" ∈ lw_tbl := List.mem_append_right _ (List.mem_append_right _ (List.mem_append_right _ (List.mem_append_left _ (List.mem_of_getElem? (i := 40) rfl))))
theorem go_w5 : Cond.laysStatic "GuiltySleep$Town" "PERSON_PLAIN" "[I" ∈ lw_tbl := List.mem_append_right _ (List.mem_append_right _ (List.mem_append_right _ (List.mem_append_left _ (List.mem_of_getElem? (i := 35) rfl))))
theorem go_wt : Cond.initialized "GuiltySleep$Town" ∈ lw_tbl := List.mem_append_right _ (List.mem_append_left _ (List.mem_of_getElem? (i := 3) rfl))
theorem go_cs : Cond.laysStatic "java/lang/String" "COMPACT_STRINGS" "Z" ∈ lw_tbl := List.mem_append_right _ (List.mem_append_right _ (List.mem_append_left _ (List.mem_of_getElem? (i := 169) rfl)))
theorem go_ci : Cond.initialized "java/lang/String" ∈ lw_tbl := List.mem_append_right _ (List.mem_append_left _ (List.mem_of_getElem? (i := 15) rfl))
theorem go_fs : Cond.laysStatic "jdk/internal/util/Preconditions" "SIOOBE_FORMATTER" "Ljava/util/function/BiFunction;" ∈ lw_tbl := List.mem_append_right _ (List.mem_append_right _ (List.mem_append_left _ (List.mem_of_getElem? (i := 220) rfl)))
theorem go_fi : Cond.initialized "jdk/internal/util/Preconditions" ∈ lw_tbl := List.mem_append_right _ (List.mem_append_left _ (List.mem_of_getElem? (i := 19) rfl))
theorem go_sr_X9_61 : Cond.stringRef "GuiltySleep$Town" 61 "hkc" ∈ lw_tbl := List.mem_append_right _ (List.mem_append_right _ (List.mem_append_left _ (List.mem_of_getElem? (i := 152) rfl)))
theorem go_sr_X9_76 : Cond.stringRef "GuiltySleep$Town" 76 "gcwtm" ∈ lw_tbl := List.mem_append_right _ (List.mem_append_right _ (List.mem_append_right _ (List.mem_append_left _ (List.mem_of_getElem? (i := 36) rfl))))
theorem go_sr_X3_90 : Cond.stringRef "GuiltySleep$LawReader" 90 "gcwtha" ∈ lw_tbl := List.mem_append_right _ (List.mem_append_right _ (List.mem_append_right _ (List.mem_append_left _ (List.mem_of_getElem? (i := 94) rfl))))
theorem go_sr_X12_26 : Cond.stringRef "GuiltySleepModel" 26 "yv" ∈ lw_tbl := List.mem_append_right _ (List.mem_append_right _ (List.mem_append_right _ (List.mem_append_right _ (List.mem_append_right _ (List.mem_append_right _ (List.mem_append_left _ (List.mem_of_getElem? (i := 112) rfl)))))))
theorem go_sr_X12_32 : Cond.stringRef "GuiltySleepModel" 32 "gcwtha" ∈ lw_tbl := List.mem_append_right _ (List.mem_append_right _ (List.mem_append_right _ (List.mem_append_right _ (List.mem_append_right _ (List.mem_append_right _ (List.mem_append_left _ (List.mem_of_getElem? (i := 113) rfl)))))))
theorem go_sr_X12_252 : Cond.stringRef "GuiltySleepModel" 252 "hkc" ∈ lw_tbl := List.mem_append_right _ (List.mem_append_right _ (List.mem_append_right _ (List.mem_append_right _ (List.mem_append_right _ (List.mem_append_right _ (List.mem_append_right _ (List.mem_append_left _ (List.mem_of_getElem? (i := 66) rfl))))))))
theorem go_sr_X12_258 : Cond.stringRef "GuiltySleepModel" 258 "gcwtm" ∈ lw_tbl := List.mem_append_right _ (List.mem_append_right _ (List.mem_append_right _ (List.mem_append_right _ (List.mem_append_right _ (List.mem_append_right _ (List.mem_append_right _ (List.mem_append_left _ (List.mem_of_getElem? (i := 116) rfl))))))))
/-! what the Statement gives of the start: strings, static arrays, array classes -/
def go_tm (i : Nat) : Term := match i with
  | 0 => .string "GuiltySleep$Town" 61
  | 1 => .string "GuiltySleep$Town" 76
  | 2 => .string "GuiltySleep$LawReader" 90
  | _ => .string "GuiltySleepModel" 26
section Start
variable {s : State} {b : Nat}
theorem go_str (hgv : (Jvm.Cond.and given_1 narrow_1).before #[Value.ref b] s = true) : ∃ adK adV : Nat → Nat, vk_S 4 gs_len gs_byt adK adV (fun q => s.heap.size ≤ q) s s.heap ∧ ∀ i : Nat, i < 4 → (go_tm i).eval #[Value.ref b] s none [] s = some (.ref (adK i)) := by
  have hs := flat_of_before _ hgv
  refine vk_Sof (tm := go_tm) (by decide) ?_ ?_ ?_ ?_ ?_ ?_ (fun a h => Nat.not_le.mpr h)
  · intro i hi
    match i, hi with
    | 0, _ => exact hs _ (by decide +kernel)
    | 1, _ => exact hs _ (by decide +kernel)
    | 2, _ => exact hs _ (by decide +kernel)
    | 3, _ => exact hs _ (by decide +kernel)
    | k + 4, h => exact absurd h (by omega)
  · intro i hi
    match i, hi with
    | 0, _ => exact hs _ (by decide +kernel)
    | 1, _ => exact hs _ (by decide +kernel)
    | 2, _ => exact hs _ (by decide +kernel)
    | 3, _ => exact hs _ (by decide +kernel)
    | k + 4, h => exact absurd h (by omega)
  · intro i hi
    match i, hi with
    | 0, _ => exact hs _ (by decide +kernel)
    | 1, _ => exact hs _ (by decide +kernel)
    | 2, _ => exact hs _ (by decide +kernel)
    | 3, _ => exact hs _ (by decide +kernel)
    | k + 4, h => exact absurd h (by omega)
  · intro i hi
    match i, hi with
    | 0, _ => exact hs _ (by decide +kernel)
    | 1, _ => exact hs _ (by decide +kernel)
    | 2, _ => exact hs _ (by decide +kernel)
    | 3, _ => exact hs _ (by decide +kernel)
    | k + 4, h => exact absurd h (by omega)
  · intro i hi j hj
    match i, hi, j, hj with
    | 0, _, 0, _ => exact hs _ (by decide +kernel)
    | 0, _, 1, _ => exact hs _ (by decide +kernel)
    | 0, _, 2, _ => exact hs _ (by decide +kernel)
    | 1, _, 0, _ => exact hs _ (by decide +kernel)
    | 1, _, 1, _ => exact hs _ (by decide +kernel)
    | 1, _, 2, _ => exact hs _ (by decide +kernel)
    | 1, _, 3, _ => exact hs _ (by decide +kernel)
    | 1, _, 4, _ => exact hs _ (by decide +kernel)
    | 2, _, 0, _ => exact hs _ (by decide +kernel)
    | 2, _, 1, _ => exact hs _ (by decide +kernel)
    | 2, _, 2, _ => exact hs _ (by decide +kernel)
    | 2, _, 3, _ => exact hs _ (by decide +kernel)
    | 2, _, 4, _ => exact hs _ (by decide +kernel)
    | 2, _, 5, _ => exact hs _ (by decide +kernel)
    | 3, _, 0, _ => exact hs _ (by decide +kernel)
    | 3, _, 1, _ => exact hs _ (by decide +kernel)
    | 0, _, k + 3, h => exact absurd h (by show ¬ (k + 3 < 3); omega)
    | 1, _, k + 5, h => exact absurd h (by show ¬ (k + 5 < 5); omega)
    | 2, _, k + 6, h => exact absurd h (by show ¬ (k + 6 < 6); omega)
    | 3, _, k + 2, h => exact absurd h (by show ¬ (k + 2 < 2); omega)
    | k + 4, h, _, _ => exact absurd h (by omega)
  · intro i j hi hj hij
    match i, hi, j, hj with
    | 0, _, 0, _ => first | exact absurd rfl hij | exact Or.inl (hs _ (by decide +kernel)) | exact Or.inr (hs _ (by decide +kernel))
    | 0, _, 1, _ => first | exact absurd rfl hij | exact Or.inl (hs _ (by decide +kernel)) | exact Or.inr (hs _ (by decide +kernel))
    | 0, _, 2, _ => first | exact absurd rfl hij | exact Or.inl (hs _ (by decide +kernel)) | exact Or.inr (hs _ (by decide +kernel))
    | 0, _, 3, _ => first | exact absurd rfl hij | exact Or.inl (hs _ (by decide +kernel)) | exact Or.inr (hs _ (by decide +kernel))
    | 1, _, 0, _ => first | exact absurd rfl hij | exact Or.inl (hs _ (by decide +kernel)) | exact Or.inr (hs _ (by decide +kernel))
    | 1, _, 1, _ => first | exact absurd rfl hij | exact Or.inl (hs _ (by decide +kernel)) | exact Or.inr (hs _ (by decide +kernel))
    | 1, _, 2, _ => first | exact absurd rfl hij | exact Or.inl (hs _ (by decide +kernel)) | exact Or.inr (hs _ (by decide +kernel))
    | 1, _, 3, _ => first | exact absurd rfl hij | exact Or.inl (hs _ (by decide +kernel)) | exact Or.inr (hs _ (by decide +kernel))
    | 2, _, 0, _ => first | exact absurd rfl hij | exact Or.inl (hs _ (by decide +kernel)) | exact Or.inr (hs _ (by decide +kernel))
    | 2, _, 1, _ => first | exact absurd rfl hij | exact Or.inl (hs _ (by decide +kernel)) | exact Or.inr (hs _ (by decide +kernel))
    | 2, _, 2, _ => first | exact absurd rfl hij | exact Or.inl (hs _ (by decide +kernel)) | exact Or.inr (hs _ (by decide +kernel))
    | 2, _, 3, _ => first | exact absurd rfl hij | exact Or.inl (hs _ (by decide +kernel)) | exact Or.inr (hs _ (by decide +kernel))
    | 3, _, 0, _ => first | exact absurd rfl hij | exact Or.inl (hs _ (by decide +kernel)) | exact Or.inr (hs _ (by decide +kernel))
    | 3, _, 1, _ => first | exact absurd rfl hij | exact Or.inl (hs _ (by decide +kernel)) | exact Or.inr (hs _ (by decide +kernel))
    | 3, _, 2, _ => first | exact absurd rfl hij | exact Or.inl (hs _ (by decide +kernel)) | exact Or.inr (hs _ (by decide +kernel))
    | 3, _, 3, _ => first | exact absurd rfl hij | exact Or.inl (hs _ (by decide +kernel)) | exact Or.inr (hs _ (by decide +kernel))
    | k + 4, h, _, _ => exact absurd h (by omega)
    | _, _, k + 4, h => exact absurd h (by omega)
theorem go_st0 (hgv : (Jvm.Cond.and given_1 narrow_1).before #[Value.ref b] s = true) (hts : ∀ w ∈ lw_tbl, w.before #[Value.ref b] s = true) : ∃ t : Nat, va_T .int t (gs_sn 0) (fun j => .int (gs_sv 0 j)) (fun q => s.heap.size ≤ q) s s.heap ∧ va_Z "GuiltySleep$Town" "RULE_LEAST" "[I" (.ref t) (fun q => s.heap.size ≤ q) s s.heap := by
  have hs := flat_of_before _ hgv
  have hel : ∀ j : Nat, j < 3 → (Term.elem (.static "GuiltySleep$Town" "RULE_LEAST" "[I") (.int (Int32.ofNat j))).eval #[Value.ref b] s none [] s = some (.int (gs_sv 0 j)) := by
    intro j hj
    match j, hj with
    | 0, _ => exact va_eqt (hs _ (by decide +kernel))
    | 1, _ => exact va_eqt (hs _ (by decide +kernel))
    | 2, _ => exact va_eqt (hs _ (by decide +kernel))
    | k + 3, h => exact absurd h (by omega)
  obtain ⟨t, h1, h2⟩ := va_Tof (tm := .static "GuiltySleep$Town" "RULE_LEAST" "[I") (ty := .int) (N := 3) (f := fun j => .int (gs_sv 0 j)) (A := fun q => s.heap.size ≤ q) (by decide) (hs _ (by decide +kernel)) (va_eqt (hs _ (by decide +kernel))) hel (fun a h => Nat.not_le.mpr h)
  exact ⟨t, h2, va_Zref (hts _ (go_w0)) (hts _ go_wt) h1 (fun a h => Nat.not_le.mpr h)⟩
theorem go_st1 (hgv : (Jvm.Cond.and given_1 narrow_1).before #[Value.ref b] s = true) (hts : ∀ w ∈ lw_tbl, w.before #[Value.ref b] s = true) : ∃ t : Nat, va_T .int t (gs_sn 1) (fun j => .int (gs_sv 1 j)) (fun q => s.heap.size ≤ q) s s.heap ∧ va_Z "GuiltySleep$Town" "RULE_MOST" "[I" (.ref t) (fun q => s.heap.size ≤ q) s s.heap := by
  have hs := flat_of_before _ hgv
  have hel : ∀ j : Nat, j < 3 → (Term.elem (.static "GuiltySleep$Town" "RULE_MOST" "[I") (.int (Int32.ofNat j))).eval #[Value.ref b] s none [] s = some (.int (gs_sv 1 j)) := by
    intro j hj
    match j, hj with
    | 0, _ => exact va_eqt (hs _ (by decide +kernel))
    | 1, _ => exact va_eqt (hs _ (by decide +kernel))
    | 2, _ => exact va_eqt (hs _ (by decide +kernel))
    | k + 3, h => exact absurd h (by omega)
  obtain ⟨t, h1, h2⟩ := va_Tof (tm := .static "GuiltySleep$Town" "RULE_MOST" "[I") (ty := .int) (N := 3) (f := fun j => .int (gs_sv 1 j)) (A := fun q => s.heap.size ≤ q) (by decide) (hs _ (by decide +kernel)) (va_eqt (hs _ (by decide +kernel))) hel (fun a h => Nat.not_le.mpr h)
  exact ⟨t, h2, va_Zref (hts _ (go_w1)) (hts _ go_wt) h1 (fun a h => Nat.not_le.mpr h)⟩
theorem go_st2 (hgv : (Jvm.Cond.and given_1 narrow_1).before #[Value.ref b] s = true) (hts : ∀ w ∈ lw_tbl, w.before #[Value.ref b] s = true) : ∃ t : Nat, va_T .int t (gs_sn 2) (fun j => .int (gs_sv 2 j)) (fun q => s.heap.size ≤ q) s s.heap ∧ va_Z "GuiltySleep$Town" "RULE_PLAIN" "[I" (.ref t) (fun q => s.heap.size ≤ q) s s.heap := by
  have hs := flat_of_before _ hgv
  have hel : ∀ j : Nat, j < 3 → (Term.elem (.static "GuiltySleep$Town" "RULE_PLAIN" "[I") (.int (Int32.ofNat j))).eval #[Value.ref b] s none [] s = some (.int (gs_sv 2 j)) := by
    intro j hj
    match j, hj with
    | 0, _ => exact va_eqt (hs _ (by decide +kernel))
    | 1, _ => exact va_eqt (hs _ (by decide +kernel))
    | 2, _ => exact va_eqt (hs _ (by decide +kernel))
    | k + 3, h => exact absurd h (by omega)
  obtain ⟨t, h1, h2⟩ := va_Tof (tm := .static "GuiltySleep$Town" "RULE_PLAIN" "[I") (ty := .int) (N := 3) (f := fun j => .int (gs_sv 2 j)) (A := fun q => s.heap.size ≤ q) (by decide) (hs _ (by decide +kernel)) (va_eqt (hs _ (by decide +kernel))) hel (fun a h => Nat.not_le.mpr h)
  exact ⟨t, h2, va_Zref (hts _ (go_w2)) (hts _ go_wt) h1 (fun a h => Nat.not_le.mpr h)⟩
theorem go_st3 (hgv : (Jvm.Cond.and given_1 narrow_1).before #[Value.ref b] s = true) (hts : ∀ w ∈ lw_tbl, w.before #[Value.ref b] s = true) : ∃ t : Nat, va_T .int t (gs_sn 3) (fun j => .int (gs_sv 3 j)) (fun q => s.heap.size ≤ q) s s.heap ∧ va_Z "GuiltySleep$Town" "PERSON_LEAST" "[I" (.ref t) (fun q => s.heap.size ≤ q) s s.heap := by
  have hs := flat_of_before _ hgv
  have hel : ∀ j : Nat, j < 5 → (Term.elem (.static "GuiltySleep$Town" "PERSON_LEAST" "[I") (.int (Int32.ofNat j))).eval #[Value.ref b] s none [] s = some (.int (gs_sv 3 j)) := by
    intro j hj
    match j, hj with
    | 0, _ => exact va_eqt (hs _ (by decide +kernel))
    | 1, _ => exact va_eqt (hs _ (by decide +kernel))
    | 2, _ => exact va_eqt (hs _ (by decide +kernel))
    | 3, _ => exact va_eqt (hs _ (by decide +kernel))
    | 4, _ => exact va_eqt (hs _ (by decide +kernel))
    | k + 5, h => exact absurd h (by omega)
  obtain ⟨t, h1, h2⟩ := va_Tof (tm := .static "GuiltySleep$Town" "PERSON_LEAST" "[I") (ty := .int) (N := 5) (f := fun j => .int (gs_sv 3 j)) (A := fun q => s.heap.size ≤ q) (by decide) (hs _ (by decide +kernel)) (va_eqt (hs _ (by decide +kernel))) hel (fun a h => Nat.not_le.mpr h)
  exact ⟨t, h2, va_Zref (hts _ (go_w3)) (hts _ go_wt) h1 (fun a h => Nat.not_le.mpr h)⟩
theorem go_st4 (hgv : (Jvm.Cond.and given_1 narrow_1).before #[Value.ref b] s = true) (hts : ∀ w ∈ lw_tbl, w.before #[Value.ref b] s = true) : ∃ t : Nat, va_T .int t (gs_sn 4) (fun j => .int (gs_sv 4 j)) (fun q => s.heap.size ≤ q) s s.heap ∧ va_Z "GuiltySleep$Town" "PERSON_MOST" "[I" (.ref t) (fun q => s.heap.size ≤ q) s s.heap := by
  have hs := flat_of_before _ hgv
  have hel : ∀ j : Nat, j < 5 → (Term.elem (.static "GuiltySleep$Town" "PERSON_MOST" "[I") (.int (Int32.ofNat j))).eval #[Value.ref b] s none [] s = some (.int (gs_sv 4 j)) := by
    intro j hj
    match j, hj with
    | 0, _ => exact va_eqt (hs _ (by decide +kernel))
    | 1, _ => exact va_eqt (hs _ (by decide +kernel))
    | 2, _ => exact va_eqt (hs _ (by decide +kernel))
    | 3, _ => exact va_eqt (hs _ (by decide +kernel))
    | 4, _ => exact va_eqt (hs _ (by decide +kernel))
    | k + 5, h => exact absurd h (by omega)
  obtain ⟨t, h1, h2⟩ := va_Tof (tm := .static "GuiltySleep$Town" "PERSON_MOST" "[I") (ty := .int) (N := 5) (f := fun j => .int (gs_sv 4 j)) (A := fun q => s.heap.size ≤ q) (by decide) (hs _ (by decide +kernel)) (va_eqt (hs _ (by decide +kernel))) hel (fun a h => Nat.not_le.mpr h)
  exact ⟨t, h2, va_Zref (hts _ (go_w4)) (hts _ go_wt) h1 (fun a h => Nat.not_le.mpr h)⟩
theorem go_st5 (hgv : (Jvm.Cond.and given_1 narrow_1).before #[Value.ref b] s = true) (hts : ∀ w ∈ lw_tbl, w.before #[Value.ref b] s = true) : ∃ t : Nat, va_T .int t (gs_sn 5) (fun j => .int (gs_sv 5 j)) (fun q => s.heap.size ≤ q) s s.heap ∧ va_Z "GuiltySleep$Town" "PERSON_PLAIN" "[I" (.ref t) (fun q => s.heap.size ≤ q) s s.heap := by
  have hs := flat_of_before _ hgv
  have hel : ∀ j : Nat, j < 5 → (Term.elem (.static "GuiltySleep$Town" "PERSON_PLAIN" "[I") (.int (Int32.ofNat j))).eval #[Value.ref b] s none [] s = some (.int (gs_sv 5 j)) := by
    intro j hj
    match j, hj with
    | 0, _ => exact va_eqt (hs _ (by decide +kernel))
    | 1, _ => exact va_eqt (hs _ (by decide +kernel))
    | 2, _ => exact va_eqt (hs _ (by decide +kernel))
    | 3, _ => exact va_eqt (hs _ (by decide +kernel))
    | 4, _ => exact va_eqt (hs _ (by decide +kernel))
    | k + 5, h => exact absurd h (by omega)
  obtain ⟨t, h1, h2⟩ := va_Tof (tm := .static "GuiltySleep$Town" "PERSON_PLAIN" "[I") (ty := .int) (N := 5) (f := fun j => .int (gs_sv 5 j)) (A := fun q => s.heap.size ≤ q) (by decide) (hs _ (by decide +kernel)) (va_eqt (hs _ (by decide +kernel))) hel (fun a h => Nat.not_le.mpr h)
  exact ⟨t, h2, va_Zref (hts _ (go_w5)) (hts _ go_wt) h1 (fun a h => Nat.not_le.mpr h)⟩
theorem go_Ext (hgv : (Jvm.Cond.and given_1 narrow_1).before #[Value.ref b] s = true) (hts : ∀ w ∈ lw_tbl, w.before #[Value.ref b] s = true) : ∃ adE : Nat → Nat, vk_R "GuiltySleepModel" 26 "yv" (adE 1003) s ∧ vk_R "GuiltySleepModel" 32 "gcwtha" (adE 1002) s ∧ ∀ ad : Nat → Nat, (∀ i, 1000 ≤ i → i < 2000 → ad i = adE i) → (∀ i, i < gs_N → s.heap.size ≤ ad i) → gs_Ext ad s s.heap := by
  have hs := flat_of_before _ hgv
  have hA : ∀ a : Nat, a < s.heap.size → ¬ (fun q : Nat => s.heap.size ≤ q) a := fun a h => Nat.not_le.mpr h
  obtain ⟨adK, adV, hS, hev⟩ := go_str hgv
  obtain ⟨t0, a0, b0⟩ := go_st0 hgv hts
  obtain ⟨t1, a1, b1⟩ := go_st1 hgv hts
  obtain ⟨t2, a2, b2⟩ := go_st2 hgv hts
  obtain ⟨t3, a3, b3⟩ := go_st3 hgv hts
  obtain ⟨t4, a4, b4⟩ := go_st4 hgv hts
  obtain ⟨t5, a5, b5⟩ := go_st5 hgv hts
  have hC : va_Z "java/lang/String" "COMPACT_STRINGS" "Z" (.int 1) (fun q => s.heap.size ≤ q) s s.heap := va_Zof (hts _ go_cs) (hts _ go_ci) (va_eqi (hs _ (by decide +kernel))) hA
  have hF : va_Zq "jdk/internal/util/Preconditions" "SIOOBE_FORMATTER" "Ljava/util/function/BiFunction;" (fun q => s.heap.size ≤ q) s s.heap := va_Zqof (hts _ go_fs) (hts _ go_fi) (hs _ (by decide +kernel)) hA
  obtain ⟨tf, hF⟩ : ∃ tf : Nat, va_Z "jdk/internal/util/Preconditions" "SIOOBE_FORMATTER" "Ljava/util/function/BiFunction;" .null (fun q => s.heap.size ≤ q) s s.heap ∨ va_Z "jdk/internal/util/Preconditions" "SIOOBE_FORMATTER" "Ljava/util/function/BiFunction;" (.ref tf) (fun q => s.heap.size ≤ q) s s.heap := by
    rcases hF with h | ⟨t, h⟩
    · exact ⟨0, Or.inl h⟩
    · exact ⟨t, Or.inr h⟩
  have r0 : vk_R "GuiltySleep$Town" 61 "hkc" (adK 0) s := vk_R.of (A := #[Value.ref b]) (hts _ go_sr_X9_61) (hev 0 (by decide))
  have r1 : vk_R "GuiltySleep$Town" 76 "gcwtm" (adK 1) s := vk_R.of (A := #[Value.ref b]) (hts _ go_sr_X9_76) (hev 1 (by decide))
  have r2 : vk_R "GuiltySleep$LawReader" 90 "gcwtha" (adK 2) s := vk_R.of (A := #[Value.ref b]) (hts _ go_sr_X3_90) (hev 2 (by decide))
  have r3 : vk_R "GuiltySleepModel" 26 "yv" (adK 3) s := vk_R.of (A := #[Value.ref b]) (hts _ go_sr_X12_26) (hev 3 (by decide))
  have r4 : vk_R "GuiltySleepModel" 32 "gcwtha" (adK 2) s := vk_R.of (A := #[Value.ref b]) (hts _ go_sr_X12_32) (va_eqR (t := go_tm 2) (hs _ (by decide +kernel)) (hev 2 (by decide)))
  have r5 : vk_R "GuiltySleepModel" 252 "hkc" (adK 0) s := vk_R.of (A := #[Value.ref b]) (hts _ go_sr_X12_252) (va_eqR (t := go_tm 0) (hs _ (by decide +kernel)) (hev 0 (by decide)))
  have r6 : vk_R "GuiltySleepModel" 258 "gcwtm" (adK 1) s := vk_R.of (A := #[Value.ref b]) (hts _ go_sr_X12_258) (va_eqR (t := go_tm 1) (hs _ (by decide +kernel)) (hev 1 (by decide)))
  refine ⟨fun i => if i < 1004 then adK (i - 1000) else if i < 1016 then ([t0, t1, t2, t3, t4, t5] : List Nat).getD (i - 1010) 0 else if i < 1104 then adV (i - 1100) else tf, r3, r4, fun ad h1 h2 => ?_⟩
  have hB : ∀ q, gs_A ad q → s.heap.size ≤ q := by
    rintro q ⟨i, hi, rfl⟩
    exact h2 i hi
  have k1 : ∀ i, i < 4 → ad (1000 + i) = adK i := by
    intro i hi
    rw [h1 _ (by omega) (by omega)]
    show (if 1000 + i < 1004 then adK (1000 + i - 1000) else _) = _
    rw [if_pos (by omega), Nat.add_sub_cancel_left]
  have k2 : ∀ i, i < 4 → ad (1100 + i) = adV i := by
    intro i hi
    rw [h1 _ (by omega) (by omega)]
    show (if 1100 + i < 1004 then _ else if 1100 + i < 1016 then _ else if 1100 + i < 1104 then adV (1100 + i - 1100) else tf) = _
    rw [if_neg (by omega), if_neg (by omega), if_pos (by omega), Nat.add_sub_cancel_left]
  have k3 : ad 1010 = t0 ∧ ad 1011 = t1 ∧ ad 1012 = t2 ∧ ad 1013 = t3 ∧ ad 1014 = t4 ∧ ad 1015 = t5 ∧ ad 1200 = tf := ⟨h1 1010 (by omega) (by omega), h1 1011 (by omega) (by omega), h1 1012 (by omega) (by omega), h1 1013 (by omega) (by omega), h1 1014 (by omega) (by omega), h1 1015 (by omega) (by omega), h1 1200 (by omega) (by omega)⟩
  obtain ⟨e0, e1, e2, e3, e4, e5, e6⟩ := k3
  have hS2 := hS.narrow hB
  refine ⟨⟨fun i hi => ?_, fun i j hi hj e => ?_⟩, fun i hi => ?_, fun q hq => ?_, hC.narrow hB, ?_⟩
  · show va_O "java/lang/String" (ad (1000 + i)) _ _ _ ∧ va_OF _ _ _ _ (ad (1000 + i)) _ _ _ ∧ va_OF _ _ _ (.ref (ad (1100 + i))) (ad (1000 + i)) _ _ _ ∧ va_T _ (ad (1100 + i)) _ _ _ _ _
    rw [k1 i hi, k2 i hi]
    exact hS2.1 i hi
  · have e' : ad (1000 + i) = ad (1000 + j) := e
    rw [k1 i hi, k1 j hj] at e'
    exact hS2.2 i j hi hj e'
  · match i, hi with
    | 0, _ => rw [e0]; exact ⟨a0.narrow hB, b0.narrow hB⟩
    | 1, _ => rw [e1]; exact ⟨a1.narrow hB, b1.narrow hB⟩
    | 2, _ => rw [e2]; exact ⟨a2.narrow hB, b2.narrow hB⟩
    | 3, _ => rw [e3]; exact ⟨a3.narrow hB, b3.narrow hB⟩
    | 4, _ => rw [e4]; exact ⟨a4.narrow hB, b4.narrow hB⟩
    | 5, _ => rw [e5]; exact ⟨a5.narrow hB, b5.narrow hB⟩
    | k + 6, h => exact absurd h (by omega)
  · have g0 := k1 0 (by decide)
    have g1 := k1 1 (by decide)
    have g2 := k1 2 (by decide)
    have g3 := k1 3 (by decide)
    simp only [gs_lit, List.mem_cons, List.not_mem_nil, or_false] at hq
    rcases hq with rfl | rfl | rfl | rfl | rfl | rfl | rfl
    · show vk_R _ _ _ (ad (1000 + 0)) s
      rw [g0]; exact r0
    · show vk_R _ _ _ (ad (1000 + 1)) s
      rw [g1]; exact r1
    · show vk_R _ _ _ (ad (1000 + 2)) s
      rw [g2]; exact r2
    · show vk_R _ _ _ (ad (1000 + 3)) s
      rw [g3]; exact r3
    · show vk_R _ _ _ (ad (1000 + 2)) s
      rw [g2]; exact r4
    · show vk_R _ _ _ (ad (1000 + 0)) s
      rw [g0]; exact r5
    · show vk_R _ _ _ (ad (1000 + 1)) s
      rw [g1]; exact r6
  · rw [e6]
    exact hF.imp (fun h => h.narrow hB) (fun h => h.narrow hB)
theorem go_prim {ty : FieldType} (hts : ∀ w ∈ lw_tbl, w.before #[Value.ref b] s = true) (hw : Cond.arrayClass ty ∈ gs_W) (hra : ∀ (U : State) (c : ClassId), U.vm.findClass ("[" ++ ty.toString) = some c → va_RA U c ty) : ∃ c : ClassId, ArrOfT s c ty ∧ va_RA s c ty := by
  obtain ⟨c, k, comp, h1, h2, h3⟩ := Cond.arrayClass_spec (hts _ (List.mem_filter.mp hw).1)
  exact ⟨c, fun n z => ⟨fun k h => (by cases h), k, h2, comp, h3⟩, hra s c h1⟩
theorem go_obj {C : String} (h : va_AO C s) : ∃ c : ClassId, ArrOfT s c (.object C) ∧ va_RA s c (.object C) := by
  obtain ⟨comp, c, k, h1, h2, h3, h4, h5⟩ := Cond.arrayOver_spec h
  exact ⟨c, fun n z => ⟨fun k h => (by cases h), k, h3, comp, h4⟩, k, comp, h3, h4, h1, h5⟩
end Start
