theorem go_n0 : Cond.methodLinkNest RX11 9 yX7_init "GuiltySleep" ∈ lw_tbl := List.mem_append_right _ (List.mem_append_left _ (List.mem_of_getElem? (i := 36) rfl))
theorem go_n1 : Cond.methodLinkNest RX11 18 yX9_init "GuiltySleep" ∈ lw_tbl := List.mem_append_right _ (List.mem_append_left _ (List.mem_of_getElem? (i := 56) rfl))
theorem go_n2 : Cond.methodLinkNest RX11 28 yX6_init "GuiltySleep" ∈ lw_tbl := List.mem_append_right _ (List.mem_append_left _ (List.mem_of_getElem? (i := 75) rfl))
theorem go_n3 : Cond.methodLinkNest RX0 17 yX6_init "GuiltySleep" ∈ lw_tbl := List.mem_append_right _ (List.mem_append_left _ (List.mem_of_getElem? (i := 91) rfl))
theorem go_n4 : Cond.methodLinkNest RX11 45 yX10_init "GuiltySleep" ∈ lw_tbl := List.mem_append_right _ (List.mem_append_left _ (List.mem_of_getElem? (i := 104) rfl))
theorem go_n5 : Cond.methodLinkNest RX11 52 yX2_init "GuiltySleep" ∈ lw_tbl := List.mem_append_right _ (List.mem_append_left _ (List.mem_of_getElem? (i := 123) rfl))
theorem go_n6 : Cond.methodLinkNest RX4 33 yX2_init "GuiltySleep" ∈ lw_tbl := List.mem_append_right _ (List.mem_append_left _ (List.mem_of_getElem? (i := 170) rfl))
theorem go_ao4 : Cond.arrayOver (.object "GuiltySleep$State") ∈ lw_tbl := List.mem_append_right _ (List.mem_append_left _ (List.mem_of_getElem? (i := 90) rfl))
theorem go_ao5 : Cond.arrayOver (.object "GuiltySleep$Law") ∈ lw_tbl := List.mem_append_right _ (List.mem_append_left _ (List.mem_of_getElem? (i := 169) rfl))
def gs_M0 : gs_M := fun a => match a with
  | 95 => fun b => if b = 3 then -1 else 0
  | 104 => fun b => if b = 1 then nI 98 else 0
  | 105 => fun b => if b = 5 then -1 else 0
  | 140 => fun b => if b = 9 then 1 else 0
  | 147 => fun b => if b = 29 then -1 else if b = 30 then -1 else if b = 5 then nI 148 else 0
  | _ => fun _ => 0
def gs_L0 : gs_L := fun _ _ => 0
theorem go_inj {A : Nat → Prop} {ws : va_W} (h : va_D A ws) {i j : Nat} (hi : i < ws.length) (hj : j < ws.length) (e : (ws.map (fun q => q.1)).getD i 0 = (ws.map (fun q => q.1)).getD j 0) : i = j := by
  refine h.1 i j ws[i] ws[j] (List.getElem?_eq_getElem hi) (List.getElem?_eq_getElem hj) ?_
  simpa [List.getD_eq_getElem?_getD, hi, hj] using e
theorem go_mem {A : Nat → Prop} {ws : va_W} (h : va_D A ws) {i : Nat} (hi : i < ws.length) : A ((ws.map (fun q => q.1)).getD i 0) := by
  have h1 := h.2 i ws[i] (List.getElem?_eq_getElem hi)
  simpa [List.getD_eq_getElem?_getD, hi] using h1
theorem go_arr {H : Heap} {q n : Nat} {cA : ClassId} {f g : Nat → Option Nat} (h : H[q]? = some (vp_cell cA (n, .inr (.inr (.inr (.inr f)))))) (e : ∀ j, j < n → f j = g j) : H[q]? = some (vp_cell cA (n, .inr (.inr (.inr (.inr g))))) := by
  rw [h, vp_cell_q, vp_cell_q]
  unfold arrV
  congr 2
  congr 1
  funext j
  show va_rf (f j.val) = va_rf (g j.val)
  rw [e j.val j.isLt]
def go_W (q0 q1 q2 sa sb : Nat) (dA : Nat → ClassId) (f g : Nat → Nat) : va_W := (wX11 q0 sa sb dA f ++ wX12 q1 sa sb dA g) ++ [(q2, .inl (dA 1, 1, .inr (.inl (fun _ => 0))))]
def go_ad (q0 q1 q2 b : Nat) (f g adE : Nat → Nat) (i : Nat) : Nat := if i = 0 then q0 else if i < 147 then f (i - 1) else if i = 147 then q1 else if i < 170 then g (i - 148) else if i = 170 then q2 else if i < 2000 then adE i else b
theorem go_vp {ad : Nat → Nat} {M : Nat → Int32} {L : Nat → Int64} {fs : List (Nat × Nat)} {k : Nat} {t : Nat × Nat} (h : fs[k]? = some t) : vp_V (gs_fs ad M L fs) k = gs_fv ad (M k) (L k) t := by
  unfold vp_V
  rw [List.getD_eq_getElem?_getD, gs_fs_get _ _ _ h]
  rfl
theorem go_co {ad : Nat → Nat} {dA : Nat → ClassId} {M : Nat → Int32} {L : Nat → Int64} {i ci : Nat} {fs : List (Nat × Nat)} (h : gs_sh i = .inr (ci, fs)) : gs_cell ad dA M L i = .inr (ci, gs_fs ad M L fs) := by
  unfold gs_cell
  rw [h]
theorem go_ca {ad : Nat → Nat} {dA : Nat → ClassId} {M : Nat → Int32} {L : Nat → Int64} {i t n : Nat} (h : gs_sh i = .inl (t, n)) : gs_cell ad dA M L i = .inl (dA t, n, gs_arr ad M L i t) := by
  unfold gs_cell
  rw [h]
def go_es (q1 : Nat) (g adE : Nat → Nat) : List Value := [.int 0, .ref (g 0), .ref (g 1), .ref (g 2), .ref (g 3), .ref (g 0), .int 0, .int 0, .int 0, .int 0, .int 0, .int 0, .int 0, .int 0, .int 0, .ref (adE 1003), .ref (adE 1002), .int 0, .ref (g 4), .ref (g 5), .ref (g 6), .ref (g 7), .ref (g 8), .ref (g 9), .int 0, .int 0, .int 0, .int 0, .ref (g 10), .int (-1), .int (-1), .int 0, .long 0, .ref (g 11), .ref (g 12), .int 0, .ref (g 13), .ref (g 14), .ref (g 15), .ref (g 16), .int 0, .ref (g 17), .ref (g 18), .ref (g 19), .ref (g 20), .ref (g 21), .int 0]
theorem go_at {D : va_G} {H : Heap} {q ci N : Nat} {Cn : String} {T : u_T} {es : List Value} {ad : Nat → Nat} {M : Nat → Int32} {L : Nat → Int64} {fs : List (Nat × Nat)} (hc : vwCl[ci]? = some (Cn, T, N)) (h : va_at D vwCl (q, .inr (ci, es)) H) (hv : ∀ k, k < N → ∃ t, fs[k]? = some t ∧ es.getD k .null = gs_fv ad (M k) (L k) t) : va_at D vwCl (q, .inr (ci, gs_fs ad M L fs)) H := by
  obtain ⟨r, h1, h2⟩ := h
  have e : r = (Cn, T, N) := Option.some.inj (h1.symm.trans hc)
  subst e
  refine ⟨_, hc, h2.to (fun j hj => ?_)⟩
  obtain ⟨t, g1, g2⟩ := hv j hj
  rw [go_vp g1, ← g2]
  rfl
set_option maxRecDepth 100000 in
theorem go_v147 (q0 q1 q2 b : Nat) (f g adE : Nat → Nat) : ∀ k, k < 47 → ∃ t : Nat × Nat, ([(0, 0), (2, 148), (2, 149), (2, 150), (2, 151), (3, 0), (0, 0), (0, 0), (0, 0), (0, 0), (0, 0), (0, 0), (0, 0), (0, 0), (0, 0), (2, 1003), (2, 1002), (0, 0), (2, 152), (2, 153), (2, 154), (2, 155), (2, 156), (2, 157), (0, 0), (0, 0), (0, 0), (0, 0), (2, 158), (0, 0), (0, 0), (0, 0), (1, 0), (2, 159), (2, 160), (0, 0), (2, 161), (2, 162), (2, 163), (2, 164), (0, 0), (2, 165), (2, 166), (2, 167), (2, 168), (2, 169), (0, 0)] : List (Nat × Nat))[k]? = some t ∧ (go_es q1 g adE).getD k .null = gs_fv (go_ad q0 q1 q2 b f g adE) (gs_M0 147 k) (gs_L0 147 k) t := by
  intro k hk
  match k, hk with
  | 0, _ => exact ⟨(0, 0), rfl, rfl⟩
  | 1, _ => exact ⟨(2, 148), rfl, rfl⟩
  | 2, _ => exact ⟨(2, 149), rfl, rfl⟩
  | 3, _ => exact ⟨(2, 150), rfl, rfl⟩
  | 4, _ => exact ⟨(2, 151), rfl, rfl⟩
  | 5, _ => exact ⟨(3, 0), rfl, by show Value.ref (g 0) = .ref ((go_ad q0 q1 q2 b f g adE) (nI 148).toNatClampNeg); rw [nI_clamp (by decide)]; rfl⟩
  | 6, _ => exact ⟨(0, 0), rfl, rfl⟩
  | 7, _ => exact ⟨(0, 0), rfl, rfl⟩
  | 8, _ => exact ⟨(0, 0), rfl, rfl⟩
  | 9, _ => exact ⟨(0, 0), rfl, rfl⟩
  | 10, _ => exact ⟨(0, 0), rfl, rfl⟩
  | 11, _ => exact ⟨(0, 0), rfl, rfl⟩
  | 12, _ => exact ⟨(0, 0), rfl, rfl⟩
  | 13, _ => exact ⟨(0, 0), rfl, rfl⟩
  | 14, _ => exact ⟨(0, 0), rfl, rfl⟩
  | 15, _ => exact ⟨(2, 1003), rfl, rfl⟩
  | 16, _ => exact ⟨(2, 1002), rfl, rfl⟩
  | 17, _ => exact ⟨(0, 0), rfl, rfl⟩
  | 18, _ => exact ⟨(2, 152), rfl, rfl⟩
  | 19, _ => exact ⟨(2, 153), rfl, rfl⟩
  | 20, _ => exact ⟨(2, 154), rfl, rfl⟩
  | 21, _ => exact ⟨(2, 155), rfl, rfl⟩
  | 22, _ => exact ⟨(2, 156), rfl, rfl⟩
  | 23, _ => exact ⟨(2, 157), rfl, rfl⟩
  | 24, _ => exact ⟨(0, 0), rfl, rfl⟩
  | 25, _ => exact ⟨(0, 0), rfl, rfl⟩
  | 26, _ => exact ⟨(0, 0), rfl, rfl⟩
  | 27, _ => exact ⟨(0, 0), rfl, rfl⟩
  | 28, _ => exact ⟨(2, 158), rfl, rfl⟩
  | 29, _ => exact ⟨(0, 0), rfl, rfl⟩
  | 30, _ => exact ⟨(0, 0), rfl, rfl⟩
  | 31, _ => exact ⟨(0, 0), rfl, rfl⟩
  | 32, _ => exact ⟨(1, 0), rfl, rfl⟩
  | 33, _ => exact ⟨(2, 159), rfl, rfl⟩
  | 34, _ => exact ⟨(2, 160), rfl, rfl⟩
  | 35, _ => exact ⟨(0, 0), rfl, rfl⟩
  | 36, _ => exact ⟨(2, 161), rfl, rfl⟩
  | 37, _ => exact ⟨(2, 162), rfl, rfl⟩
  | 38, _ => exact ⟨(2, 163), rfl, rfl⟩
  | 39, _ => exact ⟨(2, 164), rfl, rfl⟩
  | 40, _ => exact ⟨(0, 0), rfl, rfl⟩
  | 41, _ => exact ⟨(2, 165), rfl, rfl⟩
  | 42, _ => exact ⟨(2, 166), rfl, rfl⟩
  | 43, _ => exact ⟨(2, 167), rfl, rfl⟩
  | 44, _ => exact ⟨(2, 168), rfl, rfl⟩
  | 45, _ => exact ⟨(2, 169), rfl, rfl⟩
  | 46, _ => exact ⟨(0, 0), rfl, rfl⟩
  | k + 47, h => exact absurd h (by omega)
set_option maxRecDepth 100000 in
theorem co_dec_q14 (q0 q1 q2 b : Nat) (dA : Nat → ClassId) (f g adE : Nat → Nat) : ∀ j, j < 40 → (va_up (va_up (va_up (va_up (va_up (va_up (va_up (va_up (va_up (va_up (va_up (va_up (va_up (va_up (va_up (va_up (va_up (va_up (va_up (va_up (va_up (va_up (va_up (va_up (va_up (va_up (va_up (va_up (va_up (va_up (va_up (va_up (va_up (va_up (va_up (va_up (va_up (va_up (va_up (va_up (fun _ => none) 0 (some (f 14))) 1 (some (f 16))) 2 (some (f 18))) 3 (some (f 20))) 4 (some (f 22))) 5 (some (f 24))) 6 (some (f 26))) 7 (some (f 28))) 8 (some (f 30))) 9 (some (f 32))) 10 (some (f 34))) 11 (some (f 36))) 12 (some (f 38))) 13 (some (f 40))) 14 (some (f 42))) 15 (some (f 44))) 16 (some (f 46))) 17 (some (f 48))) 18 (some (f 50))) 19 (some (f 52))) 20 (some (f 54))) 21 (some (f 56))) 22 (some (f 58))) 23 (some (f 60))) 24 (some (f 62))) 25 (some (f 64))) 26 (some (f 66))) 27 (some (f 68))) 28 (some (f 70))) 29 (some (f 72))) 30 (some (f 74))) 31 (some (f 76))) 32 (some (f 78))) 33 (some (f 80))) 34 (some (f 82))) 35 (some (f 84))) 36 (some (f 86))) 37 (some (f 88))) 38 (some (f 90))) 39 (some (f 92))) j = (fun j => some ((go_ad q0 q1 q2 b f g adE) (gs_rel 14 j))) j := by
  intro j hj
  match j, hj with
  | 0, _ => rfl
  | 1, _ => rfl
  | 2, _ => rfl
  | 3, _ => rfl
  | 4, _ => rfl
  | 5, _ => rfl
  | 6, _ => rfl
  | 7, _ => rfl
  | 8, _ => rfl
  | 9, _ => rfl
  | 10, _ => rfl
  | 11, _ => rfl
  | 12, _ => rfl
  | 13, _ => rfl
  | 14, _ => rfl
  | 15, _ => rfl
  | 16, _ => rfl
  | 17, _ => rfl
  | 18, _ => rfl
  | 19, _ => rfl
  | 20, _ => rfl
  | 21, _ => rfl
  | 22, _ => rfl
  | 23, _ => rfl
  | 24, _ => rfl
  | 25, _ => rfl
  | 26, _ => rfl
  | 27, _ => rfl
  | 28, _ => rfl
  | 29, _ => rfl
  | 30, _ => rfl
  | 31, _ => rfl
  | 32, _ => rfl
  | 33, _ => rfl
  | 34, _ => rfl
  | 35, _ => rfl
  | 36, _ => rfl
  | 37, _ => rfl
  | 38, _ => rfl
  | 39, _ => rfl
  | j + 40, h => exact absurd h (by omega)
set_option maxRecDepth 100000 in
theorem co_dec_q106 (q0 q1 q2 b : Nat) (dA : Nat → ClassId) (f g adE : Nat → Nat) : ∀ j, j < 4 → (va_up (va_up (va_up (va_up (fun _ => none) 0 (some (f 107))) 1 (some (f 113))) 2 (some (f 119))) 3 (some (f 125))) j = (fun j => some ((go_ad q0 q1 q2 b f g adE) (gs_rel 106 j))) j := by
  intro j hj
  match j, hj with
  | 0, _ => rfl
  | 1, _ => rfl
  | 2, _ => rfl
  | 3, _ => rfl
  | j + 4, h => exact absurd h (by omega)
set_option maxRecDepth 100000 in
theorem go_c0 {D : va_G} {H : Heap} (q0 q1 q2 b : Nat) (dA : Nat → ClassId) (f g adE : Nat → Nat) (hP : va_P D vwCl (go_W q0 q1 q2 (adE 1003) (adE 1002) dA f g) H) : va_at D vwCl ((go_ad q0 q1 q2 b f g adE) 0, gs_cell (go_ad q0 q1 q2 b f g adE) dA (gs_M0 0) (gs_L0 0) 0) H := by
  rw [go_co sh_0]; exact hP 0 _ rfl
set_option maxRecDepth 100000 in
theorem go_c1 {D : va_G} {H : Heap} (q0 q1 q2 b : Nat) (dA : Nat → ClassId) (f g adE : Nat → Nat) (hP : va_P D vwCl (go_W q0 q1 q2 (adE 1003) (adE 1002) dA f g) H) : va_at D vwCl ((go_ad q0 q1 q2 b f g adE) 1, gs_cell (go_ad q0 q1 q2 b f g adE) dA (gs_M0 1) (gs_L0 1) 1) H := by
  rw [go_co sh_1]; exact hP 1 _ rfl
set_option maxRecDepth 100000 in
theorem go_c2 {D : va_G} {H : Heap} (q0 q1 q2 b : Nat) (dA : Nat → ClassId) (f g adE : Nat → Nat) (hP : va_P D vwCl (go_W q0 q1 q2 (adE 1003) (adE 1002) dA f g) H) : va_at D vwCl ((go_ad q0 q1 q2 b f g adE) 2, gs_cell (go_ad q0 q1 q2 b f g adE) dA (gs_M0 2) (gs_L0 2) 2) H := by
  rw [go_ca sh_2]; exact hP 2 _ rfl
set_option maxRecDepth 100000 in
theorem go_c3 {D : va_G} {H : Heap} (q0 q1 q2 b : Nat) (dA : Nat → ClassId) (f g adE : Nat → Nat) (hP : va_P D vwCl (go_W q0 q1 q2 (adE 1003) (adE 1002) dA f g) H) : va_at D vwCl ((go_ad q0 q1 q2 b f g adE) 3, gs_cell (go_ad q0 q1 q2 b f g adE) dA (gs_M0 3) (gs_L0 3) 3) H := by
  rw [go_co sh_3]; exact hP 3 _ rfl
set_option maxRecDepth 100000 in
theorem go_c4 {D : va_G} {H : Heap} (q0 q1 q2 b : Nat) (dA : Nat → ClassId) (f g adE : Nat → Nat) (hP : va_P D vwCl (go_W q0 q1 q2 (adE 1003) (adE 1002) dA f g) H) : va_at D vwCl ((go_ad q0 q1 q2 b f g adE) 4, gs_cell (go_ad q0 q1 q2 b f g adE) dA (gs_M0 4) (gs_L0 4) 4) H := by
  rw [go_ca sh_4]; exact hP 4 _ rfl
set_option maxRecDepth 100000 in
theorem go_c5 {D : va_G} {H : Heap} (q0 q1 q2 b : Nat) (dA : Nat → ClassId) (f g adE : Nat → Nat) (hP : va_P D vwCl (go_W q0 q1 q2 (adE 1003) (adE 1002) dA f g) H) : va_at D vwCl ((go_ad q0 q1 q2 b f g adE) 5, gs_cell (go_ad q0 q1 q2 b f g adE) dA (gs_M0 5) (gs_L0 5) 5) H := by
  rw [go_ca sh_5]; exact hP 5 _ rfl
set_option maxRecDepth 100000 in
theorem go_c6 {D : va_G} {H : Heap} (q0 q1 q2 b : Nat) (dA : Nat → ClassId) (f g adE : Nat → Nat) (hP : va_P D vwCl (go_W q0 q1 q2 (adE 1003) (adE 1002) dA f g) H) : va_at D vwCl ((go_ad q0 q1 q2 b f g adE) 6, gs_cell (go_ad q0 q1 q2 b f g adE) dA (gs_M0 6) (gs_L0 6) 6) H := by
  rw [go_co sh_6]; exact hP 6 _ rfl
set_option maxRecDepth 100000 in
theorem go_c7 {D : va_G} {H : Heap} (q0 q1 q2 b : Nat) (dA : Nat → ClassId) (f g adE : Nat → Nat) (hP : va_P D vwCl (go_W q0 q1 q2 (adE 1003) (adE 1002) dA f g) H) : va_at D vwCl ((go_ad q0 q1 q2 b f g adE) 7, gs_cell (go_ad q0 q1 q2 b f g adE) dA (gs_M0 7) (gs_L0 7) 7) H := by
  rw [go_ca sh_7]; exact hP 7 _ rfl
set_option maxRecDepth 100000 in
theorem go_c8 {D : va_G} {H : Heap} (q0 q1 q2 b : Nat) (dA : Nat → ClassId) (f g adE : Nat → Nat) (hP : va_P D vwCl (go_W q0 q1 q2 (adE 1003) (adE 1002) dA f g) H) : va_at D vwCl ((go_ad q0 q1 q2 b f g adE) 8, gs_cell (go_ad q0 q1 q2 b f g adE) dA (gs_M0 8) (gs_L0 8) 8) H := by
  rw [go_ca sh_8]; exact hP 8 _ rfl
set_option maxRecDepth 100000 in
theorem go_c9 {D : va_G} {H : Heap} (q0 q1 q2 b : Nat) (dA : Nat → ClassId) (f g adE : Nat → Nat) (hP : va_P D vwCl (go_W q0 q1 q2 (adE 1003) (adE 1002) dA f g) H) : va_at D vwCl ((go_ad q0 q1 q2 b f g adE) 9, gs_cell (go_ad q0 q1 q2 b f g adE) dA (gs_M0 9) (gs_L0 9) 9) H := by
  rw [go_co sh_9]; exact hP 9 _ rfl
set_option maxRecDepth 100000 in
theorem go_c10 {D : va_G} {H : Heap} (q0 q1 q2 b : Nat) (dA : Nat → ClassId) (f g adE : Nat → Nat) (hP : va_P D vwCl (go_W q0 q1 q2 (adE 1003) (adE 1002) dA f g) H) : va_at D vwCl ((go_ad q0 q1 q2 b f g adE) 10, gs_cell (go_ad q0 q1 q2 b f g adE) dA (gs_M0 10) (gs_L0 10) 10) H := by
  rw [go_ca sh_10]; exact hP 10 _ rfl
set_option maxRecDepth 100000 in
theorem go_c11 {D : va_G} {H : Heap} (q0 q1 q2 b : Nat) (dA : Nat → ClassId) (f g adE : Nat → Nat) (hP : va_P D vwCl (go_W q0 q1 q2 (adE 1003) (adE 1002) dA f g) H) : va_at D vwCl ((go_ad q0 q1 q2 b f g adE) 11, gs_cell (go_ad q0 q1 q2 b f g adE) dA (gs_M0 11) (gs_L0 11) 11) H := by
  rw [go_co sh_11]; exact hP 11 _ rfl
set_option maxRecDepth 100000 in
theorem go_c12 {D : va_G} {H : Heap} (q0 q1 q2 b : Nat) (dA : Nat → ClassId) (f g adE : Nat → Nat) (hP : va_P D vwCl (go_W q0 q1 q2 (adE 1003) (adE 1002) dA f g) H) : va_at D vwCl ((go_ad q0 q1 q2 b f g adE) 12, gs_cell (go_ad q0 q1 q2 b f g adE) dA (gs_M0 12) (gs_L0 12) 12) H := by
  rw [go_ca sh_12]; exact hP 12 _ rfl
set_option maxRecDepth 100000 in
theorem go_c13 {D : va_G} {H : Heap} (q0 q1 q2 b : Nat) (dA : Nat → ClassId) (f g adE : Nat → Nat) (hP : va_P D vwCl (go_W q0 q1 q2 (adE 1003) (adE 1002) dA f g) H) : va_at D vwCl ((go_ad q0 q1 q2 b f g adE) 13, gs_cell (go_ad q0 q1 q2 b f g adE) dA (gs_M0 13) (gs_L0 13) 13) H := by
  rw [go_co sh_13]; exact hP 13 _ rfl
set_option maxRecDepth 100000 in
theorem go_c14 {D : va_G} {H : Heap} (q0 q1 q2 b : Nat) (dA : Nat → ClassId) (f g adE : Nat → Nat) (hP : va_P D vwCl (go_W q0 q1 q2 (adE 1003) (adE 1002) dA f g) H) : va_at D vwCl ((go_ad q0 q1 q2 b f g adE) 14, gs_cell (go_ad q0 q1 q2 b f g adE) dA (gs_M0 14) (gs_L0 14) 14) H := by
  rw [go_ca sh_14]; exact go_arr (hP 14 _ rfl) (co_dec_q14 q0 q1 q2 b dA f g adE)
set_option maxRecDepth 100000 in
theorem go_c15 {D : va_G} {H : Heap} (q0 q1 q2 b : Nat) (dA : Nat → ClassId) (f g adE : Nat → Nat) (hP : va_P D vwCl (go_W q0 q1 q2 (adE 1003) (adE 1002) dA f g) H) : va_at D vwCl ((go_ad q0 q1 q2 b f g adE) 15, gs_cell (go_ad q0 q1 q2 b f g adE) dA (gs_M0 15) (gs_L0 15) 15) H := by
  rw [go_co (gs_st_all 0 (by decide)).1]; exact hP 15 _ rfl
set_option maxRecDepth 100000 in
theorem go_c16 {D : va_G} {H : Heap} (q0 q1 q2 b : Nat) (dA : Nat → ClassId) (f g adE : Nat → Nat) (hP : va_P D vwCl (go_W q0 q1 q2 (adE 1003) (adE 1002) dA f g) H) : va_at D vwCl ((go_ad q0 q1 q2 b f g adE) 16, gs_cell (go_ad q0 q1 q2 b f g adE) dA (gs_M0 16) (gs_L0 16) 16) H := by
  rw [go_ca (gs_st_all 0 (by decide)).2]; exact hP 16 _ rfl
set_option maxRecDepth 100000 in
theorem go_c17 {D : va_G} {H : Heap} (q0 q1 q2 b : Nat) (dA : Nat → ClassId) (f g adE : Nat → Nat) (hP : va_P D vwCl (go_W q0 q1 q2 (adE 1003) (adE 1002) dA f g) H) : va_at D vwCl ((go_ad q0 q1 q2 b f g adE) 17, gs_cell (go_ad q0 q1 q2 b f g adE) dA (gs_M0 17) (gs_L0 17) 17) H := by
  rw [go_co (gs_st_all 1 (by decide)).1]; exact hP 17 _ rfl
set_option maxRecDepth 100000 in
theorem go_c18 {D : va_G} {H : Heap} (q0 q1 q2 b : Nat) (dA : Nat → ClassId) (f g adE : Nat → Nat) (hP : va_P D vwCl (go_W q0 q1 q2 (adE 1003) (adE 1002) dA f g) H) : va_at D vwCl ((go_ad q0 q1 q2 b f g adE) 18, gs_cell (go_ad q0 q1 q2 b f g adE) dA (gs_M0 18) (gs_L0 18) 18) H := by
  rw [go_ca (gs_st_all 1 (by decide)).2]; exact hP 18 _ rfl
set_option maxRecDepth 100000 in
theorem go_c19 {D : va_G} {H : Heap} (q0 q1 q2 b : Nat) (dA : Nat → ClassId) (f g adE : Nat → Nat) (hP : va_P D vwCl (go_W q0 q1 q2 (adE 1003) (adE 1002) dA f g) H) : va_at D vwCl ((go_ad q0 q1 q2 b f g adE) 19, gs_cell (go_ad q0 q1 q2 b f g adE) dA (gs_M0 19) (gs_L0 19) 19) H := by
  rw [go_co (gs_st_all 2 (by decide)).1]; exact hP 19 _ rfl
set_option maxRecDepth 100000 in
theorem go_c20 {D : va_G} {H : Heap} (q0 q1 q2 b : Nat) (dA : Nat → ClassId) (f g adE : Nat → Nat) (hP : va_P D vwCl (go_W q0 q1 q2 (adE 1003) (adE 1002) dA f g) H) : va_at D vwCl ((go_ad q0 q1 q2 b f g adE) 20, gs_cell (go_ad q0 q1 q2 b f g adE) dA (gs_M0 20) (gs_L0 20) 20) H := by
  rw [go_ca (gs_st_all 2 (by decide)).2]; exact hP 20 _ rfl
set_option maxRecDepth 100000 in
theorem go_c21 {D : va_G} {H : Heap} (q0 q1 q2 b : Nat) (dA : Nat → ClassId) (f g adE : Nat → Nat) (hP : va_P D vwCl (go_W q0 q1 q2 (adE 1003) (adE 1002) dA f g) H) : va_at D vwCl ((go_ad q0 q1 q2 b f g adE) 21, gs_cell (go_ad q0 q1 q2 b f g adE) dA (gs_M0 21) (gs_L0 21) 21) H := by
  rw [go_co (gs_st_all 3 (by decide)).1]; exact hP 21 _ rfl
set_option maxRecDepth 100000 in
theorem go_c22 {D : va_G} {H : Heap} (q0 q1 q2 b : Nat) (dA : Nat → ClassId) (f g adE : Nat → Nat) (hP : va_P D vwCl (go_W q0 q1 q2 (adE 1003) (adE 1002) dA f g) H) : va_at D vwCl ((go_ad q0 q1 q2 b f g adE) 22, gs_cell (go_ad q0 q1 q2 b f g adE) dA (gs_M0 22) (gs_L0 22) 22) H := by
  rw [go_ca (gs_st_all 3 (by decide)).2]; exact hP 22 _ rfl
set_option maxRecDepth 100000 in
theorem go_c23 {D : va_G} {H : Heap} (q0 q1 q2 b : Nat) (dA : Nat → ClassId) (f g adE : Nat → Nat) (hP : va_P D vwCl (go_W q0 q1 q2 (adE 1003) (adE 1002) dA f g) H) : va_at D vwCl ((go_ad q0 q1 q2 b f g adE) 23, gs_cell (go_ad q0 q1 q2 b f g adE) dA (gs_M0 23) (gs_L0 23) 23) H := by
  rw [go_co (gs_st_all 4 (by decide)).1]; exact hP 23 _ rfl
set_option maxRecDepth 100000 in
theorem go_c24 {D : va_G} {H : Heap} (q0 q1 q2 b : Nat) (dA : Nat → ClassId) (f g adE : Nat → Nat) (hP : va_P D vwCl (go_W q0 q1 q2 (adE 1003) (adE 1002) dA f g) H) : va_at D vwCl ((go_ad q0 q1 q2 b f g adE) 24, gs_cell (go_ad q0 q1 q2 b f g adE) dA (gs_M0 24) (gs_L0 24) 24) H := by
  rw [go_ca (gs_st_all 4 (by decide)).2]; exact hP 24 _ rfl
set_option maxRecDepth 100000 in
theorem go_c25 {D : va_G} {H : Heap} (q0 q1 q2 b : Nat) (dA : Nat → ClassId) (f g adE : Nat → Nat) (hP : va_P D vwCl (go_W q0 q1 q2 (adE 1003) (adE 1002) dA f g) H) : va_at D vwCl ((go_ad q0 q1 q2 b f g adE) 25, gs_cell (go_ad q0 q1 q2 b f g adE) dA (gs_M0 25) (gs_L0 25) 25) H := by
  rw [go_co (gs_st_all 5 (by decide)).1]; exact hP 25 _ rfl
set_option maxRecDepth 100000 in
theorem go_c26 {D : va_G} {H : Heap} (q0 q1 q2 b : Nat) (dA : Nat → ClassId) (f g adE : Nat → Nat) (hP : va_P D vwCl (go_W q0 q1 q2 (adE 1003) (adE 1002) dA f g) H) : va_at D vwCl ((go_ad q0 q1 q2 b f g adE) 26, gs_cell (go_ad q0 q1 q2 b f g adE) dA (gs_M0 26) (gs_L0 26) 26) H := by
  rw [go_ca (gs_st_all 5 (by decide)).2]; exact hP 26 _ rfl
set_option maxRecDepth 100000 in
theorem go_c27 {D : va_G} {H : Heap} (q0 q1 q2 b : Nat) (dA : Nat → ClassId) (f g adE : Nat → Nat) (hP : va_P D vwCl (go_W q0 q1 q2 (adE 1003) (adE 1002) dA f g) H) : va_at D vwCl ((go_ad q0 q1 q2 b f g adE) 27, gs_cell (go_ad q0 q1 q2 b f g adE) dA (gs_M0 27) (gs_L0 27) 27) H := by
  rw [go_co (gs_st_all 6 (by decide)).1]; exact hP 27 _ rfl
set_option maxRecDepth 100000 in
theorem go_c28 {D : va_G} {H : Heap} (q0 q1 q2 b : Nat) (dA : Nat → ClassId) (f g adE : Nat → Nat) (hP : va_P D vwCl (go_W q0 q1 q2 (adE 1003) (adE 1002) dA f g) H) : va_at D vwCl ((go_ad q0 q1 q2 b f g adE) 28, gs_cell (go_ad q0 q1 q2 b f g adE) dA (gs_M0 28) (gs_L0 28) 28) H := by
  rw [go_ca (gs_st_all 6 (by decide)).2]; exact hP 28 _ rfl
set_option maxRecDepth 100000 in
theorem go_c29 {D : va_G} {H : Heap} (q0 q1 q2 b : Nat) (dA : Nat → ClassId) (f g adE : Nat → Nat) (hP : va_P D vwCl (go_W q0 q1 q2 (adE 1003) (adE 1002) dA f g) H) : va_at D vwCl ((go_ad q0 q1 q2 b f g adE) 29, gs_cell (go_ad q0 q1 q2 b f g adE) dA (gs_M0 29) (gs_L0 29) 29) H := by
  rw [go_co (gs_st_all 7 (by decide)).1]; exact hP 29 _ rfl
set_option maxRecDepth 100000 in
theorem go_c30 {D : va_G} {H : Heap} (q0 q1 q2 b : Nat) (dA : Nat → ClassId) (f g adE : Nat → Nat) (hP : va_P D vwCl (go_W q0 q1 q2 (adE 1003) (adE 1002) dA f g) H) : va_at D vwCl ((go_ad q0 q1 q2 b f g adE) 30, gs_cell (go_ad q0 q1 q2 b f g adE) dA (gs_M0 30) (gs_L0 30) 30) H := by
  rw [go_ca (gs_st_all 7 (by decide)).2]; exact hP 30 _ rfl
set_option maxRecDepth 100000 in
theorem go_c31 {D : va_G} {H : Heap} (q0 q1 q2 b : Nat) (dA : Nat → ClassId) (f g adE : Nat → Nat) (hP : va_P D vwCl (go_W q0 q1 q2 (adE 1003) (adE 1002) dA f g) H) : va_at D vwCl ((go_ad q0 q1 q2 b f g adE) 31, gs_cell (go_ad q0 q1 q2 b f g adE) dA (gs_M0 31) (gs_L0 31) 31) H := by
  rw [go_co (gs_st_all 8 (by decide)).1]; exact hP 31 _ rfl
set_option maxRecDepth 100000 in
theorem go_c32 {D : va_G} {H : Heap} (q0 q1 q2 b : Nat) (dA : Nat → ClassId) (f g adE : Nat → Nat) (hP : va_P D vwCl (go_W q0 q1 q2 (adE 1003) (adE 1002) dA f g) H) : va_at D vwCl ((go_ad q0 q1 q2 b f g adE) 32, gs_cell (go_ad q0 q1 q2 b f g adE) dA (gs_M0 32) (gs_L0 32) 32) H := by
  rw [go_ca (gs_st_all 8 (by decide)).2]; exact hP 32 _ rfl
set_option maxRecDepth 100000 in
theorem go_c33 {D : va_G} {H : Heap} (q0 q1 q2 b : Nat) (dA : Nat → ClassId) (f g adE : Nat → Nat) (hP : va_P D vwCl (go_W q0 q1 q2 (adE 1003) (adE 1002) dA f g) H) : va_at D vwCl ((go_ad q0 q1 q2 b f g adE) 33, gs_cell (go_ad q0 q1 q2 b f g adE) dA (gs_M0 33) (gs_L0 33) 33) H := by
  rw [go_co (gs_st_all 9 (by decide)).1]; exact hP 33 _ rfl
set_option maxRecDepth 100000 in
theorem go_c34 {D : va_G} {H : Heap} (q0 q1 q2 b : Nat) (dA : Nat → ClassId) (f g adE : Nat → Nat) (hP : va_P D vwCl (go_W q0 q1 q2 (adE 1003) (adE 1002) dA f g) H) : va_at D vwCl ((go_ad q0 q1 q2 b f g adE) 34, gs_cell (go_ad q0 q1 q2 b f g adE) dA (gs_M0 34) (gs_L0 34) 34) H := by
  rw [go_ca (gs_st_all 9 (by decide)).2]; exact hP 34 _ rfl
set_option maxRecDepth 100000 in
theorem go_c35 {D : va_G} {H : Heap} (q0 q1 q2 b : Nat) (dA : Nat → ClassId) (f g adE : Nat → Nat) (hP : va_P D vwCl (go_W q0 q1 q2 (adE 1003) (adE 1002) dA f g) H) : va_at D vwCl ((go_ad q0 q1 q2 b f g adE) 35, gs_cell (go_ad q0 q1 q2 b f g adE) dA (gs_M0 35) (gs_L0 35) 35) H := by
  rw [go_co (gs_st_all 10 (by decide)).1]; exact hP 35 _ rfl
set_option maxRecDepth 100000 in
theorem go_c36 {D : va_G} {H : Heap} (q0 q1 q2 b : Nat) (dA : Nat → ClassId) (f g adE : Nat → Nat) (hP : va_P D vwCl (go_W q0 q1 q2 (adE 1003) (adE 1002) dA f g) H) : va_at D vwCl ((go_ad q0 q1 q2 b f g adE) 36, gs_cell (go_ad q0 q1 q2 b f g adE) dA (gs_M0 36) (gs_L0 36) 36) H := by
  rw [go_ca (gs_st_all 10 (by decide)).2]; exact hP 36 _ rfl
set_option maxRecDepth 100000 in
theorem go_c37 {D : va_G} {H : Heap} (q0 q1 q2 b : Nat) (dA : Nat → ClassId) (f g adE : Nat → Nat) (hP : va_P D vwCl (go_W q0 q1 q2 (adE 1003) (adE 1002) dA f g) H) : va_at D vwCl ((go_ad q0 q1 q2 b f g adE) 37, gs_cell (go_ad q0 q1 q2 b f g adE) dA (gs_M0 37) (gs_L0 37) 37) H := by
  rw [go_co (gs_st_all 11 (by decide)).1]; exact hP 37 _ rfl
set_option maxRecDepth 100000 in
theorem go_c38 {D : va_G} {H : Heap} (q0 q1 q2 b : Nat) (dA : Nat → ClassId) (f g adE : Nat → Nat) (hP : va_P D vwCl (go_W q0 q1 q2 (adE 1003) (adE 1002) dA f g) H) : va_at D vwCl ((go_ad q0 q1 q2 b f g adE) 38, gs_cell (go_ad q0 q1 q2 b f g adE) dA (gs_M0 38) (gs_L0 38) 38) H := by
  rw [go_ca (gs_st_all 11 (by decide)).2]; exact hP 38 _ rfl
set_option maxRecDepth 100000 in
theorem go_c39 {D : va_G} {H : Heap} (q0 q1 q2 b : Nat) (dA : Nat → ClassId) (f g adE : Nat → Nat) (hP : va_P D vwCl (go_W q0 q1 q2 (adE 1003) (adE 1002) dA f g) H) : va_at D vwCl ((go_ad q0 q1 q2 b f g adE) 39, gs_cell (go_ad q0 q1 q2 b f g adE) dA (gs_M0 39) (gs_L0 39) 39) H := by
  rw [go_co (gs_st_all 12 (by decide)).1]; exact hP 39 _ rfl
set_option maxRecDepth 100000 in
theorem go_c40 {D : va_G} {H : Heap} (q0 q1 q2 b : Nat) (dA : Nat → ClassId) (f g adE : Nat → Nat) (hP : va_P D vwCl (go_W q0 q1 q2 (adE 1003) (adE 1002) dA f g) H) : va_at D vwCl ((go_ad q0 q1 q2 b f g adE) 40, gs_cell (go_ad q0 q1 q2 b f g adE) dA (gs_M0 40) (gs_L0 40) 40) H := by
  rw [go_ca (gs_st_all 12 (by decide)).2]; exact hP 40 _ rfl
set_option maxRecDepth 100000 in
theorem go_c41 {D : va_G} {H : Heap} (q0 q1 q2 b : Nat) (dA : Nat → ClassId) (f g adE : Nat → Nat) (hP : va_P D vwCl (go_W q0 q1 q2 (adE 1003) (adE 1002) dA f g) H) : va_at D vwCl ((go_ad q0 q1 q2 b f g adE) 41, gs_cell (go_ad q0 q1 q2 b f g adE) dA (gs_M0 41) (gs_L0 41) 41) H := by
  rw [go_co (gs_st_all 13 (by decide)).1]; exact hP 41 _ rfl
set_option maxRecDepth 100000 in
theorem go_c42 {D : va_G} {H : Heap} (q0 q1 q2 b : Nat) (dA : Nat → ClassId) (f g adE : Nat → Nat) (hP : va_P D vwCl (go_W q0 q1 q2 (adE 1003) (adE 1002) dA f g) H) : va_at D vwCl ((go_ad q0 q1 q2 b f g adE) 42, gs_cell (go_ad q0 q1 q2 b f g adE) dA (gs_M0 42) (gs_L0 42) 42) H := by
  rw [go_ca (gs_st_all 13 (by decide)).2]; exact hP 42 _ rfl
set_option maxRecDepth 100000 in
theorem go_c43 {D : va_G} {H : Heap} (q0 q1 q2 b : Nat) (dA : Nat → ClassId) (f g adE : Nat → Nat) (hP : va_P D vwCl (go_W q0 q1 q2 (adE 1003) (adE 1002) dA f g) H) : va_at D vwCl ((go_ad q0 q1 q2 b f g adE) 43, gs_cell (go_ad q0 q1 q2 b f g adE) dA (gs_M0 43) (gs_L0 43) 43) H := by
  rw [go_co (gs_st_all 14 (by decide)).1]; exact hP 43 _ rfl
set_option maxRecDepth 100000 in
theorem go_c44 {D : va_G} {H : Heap} (q0 q1 q2 b : Nat) (dA : Nat → ClassId) (f g adE : Nat → Nat) (hP : va_P D vwCl (go_W q0 q1 q2 (adE 1003) (adE 1002) dA f g) H) : va_at D vwCl ((go_ad q0 q1 q2 b f g adE) 44, gs_cell (go_ad q0 q1 q2 b f g adE) dA (gs_M0 44) (gs_L0 44) 44) H := by
  rw [go_ca (gs_st_all 14 (by decide)).2]; exact hP 44 _ rfl
set_option maxRecDepth 100000 in
theorem go_c45 {D : va_G} {H : Heap} (q0 q1 q2 b : Nat) (dA : Nat → ClassId) (f g adE : Nat → Nat) (hP : va_P D vwCl (go_W q0 q1 q2 (adE 1003) (adE 1002) dA f g) H) : va_at D vwCl ((go_ad q0 q1 q2 b f g adE) 45, gs_cell (go_ad q0 q1 q2 b f g adE) dA (gs_M0 45) (gs_L0 45) 45) H := by
  rw [go_co (gs_st_all 15 (by decide)).1]; exact hP 45 _ rfl
set_option maxRecDepth 100000 in
theorem go_c46 {D : va_G} {H : Heap} (q0 q1 q2 b : Nat) (dA : Nat → ClassId) (f g adE : Nat → Nat) (hP : va_P D vwCl (go_W q0 q1 q2 (adE 1003) (adE 1002) dA f g) H) : va_at D vwCl ((go_ad q0 q1 q2 b f g adE) 46, gs_cell (go_ad q0 q1 q2 b f g adE) dA (gs_M0 46) (gs_L0 46) 46) H := by
  rw [go_ca (gs_st_all 15 (by decide)).2]; exact hP 46 _ rfl
set_option maxRecDepth 100000 in
theorem go_c47 {D : va_G} {H : Heap} (q0 q1 q2 b : Nat) (dA : Nat → ClassId) (f g adE : Nat → Nat) (hP : va_P D vwCl (go_W q0 q1 q2 (adE 1003) (adE 1002) dA f g) H) : va_at D vwCl ((go_ad q0 q1 q2 b f g adE) 47, gs_cell (go_ad q0 q1 q2 b f g adE) dA (gs_M0 47) (gs_L0 47) 47) H := by
  rw [go_co (gs_st_all 16 (by decide)).1]; exact hP 47 _ rfl
set_option maxRecDepth 100000 in
theorem go_c48 {D : va_G} {H : Heap} (q0 q1 q2 b : Nat) (dA : Nat → ClassId) (f g adE : Nat → Nat) (hP : va_P D vwCl (go_W q0 q1 q2 (adE 1003) (adE 1002) dA f g) H) : va_at D vwCl ((go_ad q0 q1 q2 b f g adE) 48, gs_cell (go_ad q0 q1 q2 b f g adE) dA (gs_M0 48) (gs_L0 48) 48) H := by
  rw [go_ca (gs_st_all 16 (by decide)).2]; exact hP 48 _ rfl
set_option maxRecDepth 100000 in
theorem go_c49 {D : va_G} {H : Heap} (q0 q1 q2 b : Nat) (dA : Nat → ClassId) (f g adE : Nat → Nat) (hP : va_P D vwCl (go_W q0 q1 q2 (adE 1003) (adE 1002) dA f g) H) : va_at D vwCl ((go_ad q0 q1 q2 b f g adE) 49, gs_cell (go_ad q0 q1 q2 b f g adE) dA (gs_M0 49) (gs_L0 49) 49) H := by
  rw [go_co (gs_st_all 17 (by decide)).1]; exact hP 49 _ rfl
set_option maxRecDepth 100000 in
theorem go_c50 {D : va_G} {H : Heap} (q0 q1 q2 b : Nat) (dA : Nat → ClassId) (f g adE : Nat → Nat) (hP : va_P D vwCl (go_W q0 q1 q2 (adE 1003) (adE 1002) dA f g) H) : va_at D vwCl ((go_ad q0 q1 q2 b f g adE) 50, gs_cell (go_ad q0 q1 q2 b f g adE) dA (gs_M0 50) (gs_L0 50) 50) H := by
  rw [go_ca (gs_st_all 17 (by decide)).2]; exact hP 50 _ rfl
set_option maxRecDepth 100000 in
theorem go_c51 {D : va_G} {H : Heap} (q0 q1 q2 b : Nat) (dA : Nat → ClassId) (f g adE : Nat → Nat) (hP : va_P D vwCl (go_W q0 q1 q2 (adE 1003) (adE 1002) dA f g) H) : va_at D vwCl ((go_ad q0 q1 q2 b f g adE) 51, gs_cell (go_ad q0 q1 q2 b f g adE) dA (gs_M0 51) (gs_L0 51) 51) H := by
  rw [go_co (gs_st_all 18 (by decide)).1]; exact hP 51 _ rfl
set_option maxRecDepth 100000 in
theorem go_c52 {D : va_G} {H : Heap} (q0 q1 q2 b : Nat) (dA : Nat → ClassId) (f g adE : Nat → Nat) (hP : va_P D vwCl (go_W q0 q1 q2 (adE 1003) (adE 1002) dA f g) H) : va_at D vwCl ((go_ad q0 q1 q2 b f g adE) 52, gs_cell (go_ad q0 q1 q2 b f g adE) dA (gs_M0 52) (gs_L0 52) 52) H := by
  rw [go_ca (gs_st_all 18 (by decide)).2]; exact hP 52 _ rfl
set_option maxRecDepth 100000 in
theorem go_c53 {D : va_G} {H : Heap} (q0 q1 q2 b : Nat) (dA : Nat → ClassId) (f g adE : Nat → Nat) (hP : va_P D vwCl (go_W q0 q1 q2 (adE 1003) (adE 1002) dA f g) H) : va_at D vwCl ((go_ad q0 q1 q2 b f g adE) 53, gs_cell (go_ad q0 q1 q2 b f g adE) dA (gs_M0 53) (gs_L0 53) 53) H := by
  rw [go_co (gs_st_all 19 (by decide)).1]; exact hP 53 _ rfl
set_option maxRecDepth 100000 in
theorem go_c54 {D : va_G} {H : Heap} (q0 q1 q2 b : Nat) (dA : Nat → ClassId) (f g adE : Nat → Nat) (hP : va_P D vwCl (go_W q0 q1 q2 (adE 1003) (adE 1002) dA f g) H) : va_at D vwCl ((go_ad q0 q1 q2 b f g adE) 54, gs_cell (go_ad q0 q1 q2 b f g adE) dA (gs_M0 54) (gs_L0 54) 54) H := by
  rw [go_ca (gs_st_all 19 (by decide)).2]; exact hP 54 _ rfl
set_option maxRecDepth 100000 in
theorem go_c55 {D : va_G} {H : Heap} (q0 q1 q2 b : Nat) (dA : Nat → ClassId) (f g adE : Nat → Nat) (hP : va_P D vwCl (go_W q0 q1 q2 (adE 1003) (adE 1002) dA f g) H) : va_at D vwCl ((go_ad q0 q1 q2 b f g adE) 55, gs_cell (go_ad q0 q1 q2 b f g adE) dA (gs_M0 55) (gs_L0 55) 55) H := by
  rw [go_co (gs_st_all 20 (by decide)).1]; exact hP 55 _ rfl
set_option maxRecDepth 100000 in
theorem go_c56 {D : va_G} {H : Heap} (q0 q1 q2 b : Nat) (dA : Nat → ClassId) (f g adE : Nat → Nat) (hP : va_P D vwCl (go_W q0 q1 q2 (adE 1003) (adE 1002) dA f g) H) : va_at D vwCl ((go_ad q0 q1 q2 b f g adE) 56, gs_cell (go_ad q0 q1 q2 b f g adE) dA (gs_M0 56) (gs_L0 56) 56) H := by
  rw [go_ca (gs_st_all 20 (by decide)).2]; exact hP 56 _ rfl
set_option maxRecDepth 100000 in
theorem go_c57 {D : va_G} {H : Heap} (q0 q1 q2 b : Nat) (dA : Nat → ClassId) (f g adE : Nat → Nat) (hP : va_P D vwCl (go_W q0 q1 q2 (adE 1003) (adE 1002) dA f g) H) : va_at D vwCl ((go_ad q0 q1 q2 b f g adE) 57, gs_cell (go_ad q0 q1 q2 b f g adE) dA (gs_M0 57) (gs_L0 57) 57) H := by
  rw [go_co (gs_st_all 21 (by decide)).1]; exact hP 57 _ rfl
set_option maxRecDepth 100000 in
theorem go_c58 {D : va_G} {H : Heap} (q0 q1 q2 b : Nat) (dA : Nat → ClassId) (f g adE : Nat → Nat) (hP : va_P D vwCl (go_W q0 q1 q2 (adE 1003) (adE 1002) dA f g) H) : va_at D vwCl ((go_ad q0 q1 q2 b f g adE) 58, gs_cell (go_ad q0 q1 q2 b f g adE) dA (gs_M0 58) (gs_L0 58) 58) H := by
  rw [go_ca (gs_st_all 21 (by decide)).2]; exact hP 58 _ rfl
set_option maxRecDepth 100000 in
theorem go_c59 {D : va_G} {H : Heap} (q0 q1 q2 b : Nat) (dA : Nat → ClassId) (f g adE : Nat → Nat) (hP : va_P D vwCl (go_W q0 q1 q2 (adE 1003) (adE 1002) dA f g) H) : va_at D vwCl ((go_ad q0 q1 q2 b f g adE) 59, gs_cell (go_ad q0 q1 q2 b f g adE) dA (gs_M0 59) (gs_L0 59) 59) H := by
  rw [go_co (gs_st_all 22 (by decide)).1]; exact hP 59 _ rfl
set_option maxRecDepth 100000 in
theorem go_c60 {D : va_G} {H : Heap} (q0 q1 q2 b : Nat) (dA : Nat → ClassId) (f g adE : Nat → Nat) (hP : va_P D vwCl (go_W q0 q1 q2 (adE 1003) (adE 1002) dA f g) H) : va_at D vwCl ((go_ad q0 q1 q2 b f g adE) 60, gs_cell (go_ad q0 q1 q2 b f g adE) dA (gs_M0 60) (gs_L0 60) 60) H := by
  rw [go_ca (gs_st_all 22 (by decide)).2]; exact hP 60 _ rfl
set_option maxRecDepth 100000 in
theorem go_c61 {D : va_G} {H : Heap} (q0 q1 q2 b : Nat) (dA : Nat → ClassId) (f g adE : Nat → Nat) (hP : va_P D vwCl (go_W q0 q1 q2 (adE 1003) (adE 1002) dA f g) H) : va_at D vwCl ((go_ad q0 q1 q2 b f g adE) 61, gs_cell (go_ad q0 q1 q2 b f g adE) dA (gs_M0 61) (gs_L0 61) 61) H := by
  rw [go_co (gs_st_all 23 (by decide)).1]; exact hP 61 _ rfl
set_option maxRecDepth 100000 in
theorem go_c62 {D : va_G} {H : Heap} (q0 q1 q2 b : Nat) (dA : Nat → ClassId) (f g adE : Nat → Nat) (hP : va_P D vwCl (go_W q0 q1 q2 (adE 1003) (adE 1002) dA f g) H) : va_at D vwCl ((go_ad q0 q1 q2 b f g adE) 62, gs_cell (go_ad q0 q1 q2 b f g adE) dA (gs_M0 62) (gs_L0 62) 62) H := by
  rw [go_ca (gs_st_all 23 (by decide)).2]; exact hP 62 _ rfl
set_option maxRecDepth 100000 in
theorem go_c63 {D : va_G} {H : Heap} (q0 q1 q2 b : Nat) (dA : Nat → ClassId) (f g adE : Nat → Nat) (hP : va_P D vwCl (go_W q0 q1 q2 (adE 1003) (adE 1002) dA f g) H) : va_at D vwCl ((go_ad q0 q1 q2 b f g adE) 63, gs_cell (go_ad q0 q1 q2 b f g adE) dA (gs_M0 63) (gs_L0 63) 63) H := by
  rw [go_co (gs_st_all 24 (by decide)).1]; exact hP 63 _ rfl
set_option maxRecDepth 100000 in
theorem go_c64 {D : va_G} {H : Heap} (q0 q1 q2 b : Nat) (dA : Nat → ClassId) (f g adE : Nat → Nat) (hP : va_P D vwCl (go_W q0 q1 q2 (adE 1003) (adE 1002) dA f g) H) : va_at D vwCl ((go_ad q0 q1 q2 b f g adE) 64, gs_cell (go_ad q0 q1 q2 b f g adE) dA (gs_M0 64) (gs_L0 64) 64) H := by
  rw [go_ca (gs_st_all 24 (by decide)).2]; exact hP 64 _ rfl
set_option maxRecDepth 100000 in
theorem go_c65 {D : va_G} {H : Heap} (q0 q1 q2 b : Nat) (dA : Nat → ClassId) (f g adE : Nat → Nat) (hP : va_P D vwCl (go_W q0 q1 q2 (adE 1003) (adE 1002) dA f g) H) : va_at D vwCl ((go_ad q0 q1 q2 b f g adE) 65, gs_cell (go_ad q0 q1 q2 b f g adE) dA (gs_M0 65) (gs_L0 65) 65) H := by
  rw [go_co (gs_st_all 25 (by decide)).1]; exact hP 65 _ rfl
set_option maxRecDepth 100000 in
theorem go_c66 {D : va_G} {H : Heap} (q0 q1 q2 b : Nat) (dA : Nat → ClassId) (f g adE : Nat → Nat) (hP : va_P D vwCl (go_W q0 q1 q2 (adE 1003) (adE 1002) dA f g) H) : va_at D vwCl ((go_ad q0 q1 q2 b f g adE) 66, gs_cell (go_ad q0 q1 q2 b f g adE) dA (gs_M0 66) (gs_L0 66) 66) H := by
  rw [go_ca (gs_st_all 25 (by decide)).2]; exact hP 66 _ rfl
set_option maxRecDepth 100000 in
theorem go_c67 {D : va_G} {H : Heap} (q0 q1 q2 b : Nat) (dA : Nat → ClassId) (f g adE : Nat → Nat) (hP : va_P D vwCl (go_W q0 q1 q2 (adE 1003) (adE 1002) dA f g) H) : va_at D vwCl ((go_ad q0 q1 q2 b f g adE) 67, gs_cell (go_ad q0 q1 q2 b f g adE) dA (gs_M0 67) (gs_L0 67) 67) H := by
  rw [go_co (gs_st_all 26 (by decide)).1]; exact hP 67 _ rfl
set_option maxRecDepth 100000 in
theorem go_c68 {D : va_G} {H : Heap} (q0 q1 q2 b : Nat) (dA : Nat → ClassId) (f g adE : Nat → Nat) (hP : va_P D vwCl (go_W q0 q1 q2 (adE 1003) (adE 1002) dA f g) H) : va_at D vwCl ((go_ad q0 q1 q2 b f g adE) 68, gs_cell (go_ad q0 q1 q2 b f g adE) dA (gs_M0 68) (gs_L0 68) 68) H := by
  rw [go_ca (gs_st_all 26 (by decide)).2]; exact hP 68 _ rfl
set_option maxRecDepth 100000 in
theorem go_c69 {D : va_G} {H : Heap} (q0 q1 q2 b : Nat) (dA : Nat → ClassId) (f g adE : Nat → Nat) (hP : va_P D vwCl (go_W q0 q1 q2 (adE 1003) (adE 1002) dA f g) H) : va_at D vwCl ((go_ad q0 q1 q2 b f g adE) 69, gs_cell (go_ad q0 q1 q2 b f g adE) dA (gs_M0 69) (gs_L0 69) 69) H := by
  rw [go_co (gs_st_all 27 (by decide)).1]; exact hP 69 _ rfl
set_option maxRecDepth 100000 in
theorem go_c70 {D : va_G} {H : Heap} (q0 q1 q2 b : Nat) (dA : Nat → ClassId) (f g adE : Nat → Nat) (hP : va_P D vwCl (go_W q0 q1 q2 (adE 1003) (adE 1002) dA f g) H) : va_at D vwCl ((go_ad q0 q1 q2 b f g adE) 70, gs_cell (go_ad q0 q1 q2 b f g adE) dA (gs_M0 70) (gs_L0 70) 70) H := by
  rw [go_ca (gs_st_all 27 (by decide)).2]; exact hP 70 _ rfl
set_option maxRecDepth 100000 in
theorem go_c71 {D : va_G} {H : Heap} (q0 q1 q2 b : Nat) (dA : Nat → ClassId) (f g adE : Nat → Nat) (hP : va_P D vwCl (go_W q0 q1 q2 (adE 1003) (adE 1002) dA f g) H) : va_at D vwCl ((go_ad q0 q1 q2 b f g adE) 71, gs_cell (go_ad q0 q1 q2 b f g adE) dA (gs_M0 71) (gs_L0 71) 71) H := by
  rw [go_co (gs_st_all 28 (by decide)).1]; exact hP 71 _ rfl
set_option maxRecDepth 100000 in
theorem go_c72 {D : va_G} {H : Heap} (q0 q1 q2 b : Nat) (dA : Nat → ClassId) (f g adE : Nat → Nat) (hP : va_P D vwCl (go_W q0 q1 q2 (adE 1003) (adE 1002) dA f g) H) : va_at D vwCl ((go_ad q0 q1 q2 b f g adE) 72, gs_cell (go_ad q0 q1 q2 b f g adE) dA (gs_M0 72) (gs_L0 72) 72) H := by
  rw [go_ca (gs_st_all 28 (by decide)).2]; exact hP 72 _ rfl
set_option maxRecDepth 100000 in
theorem go_c73 {D : va_G} {H : Heap} (q0 q1 q2 b : Nat) (dA : Nat → ClassId) (f g adE : Nat → Nat) (hP : va_P D vwCl (go_W q0 q1 q2 (adE 1003) (adE 1002) dA f g) H) : va_at D vwCl ((go_ad q0 q1 q2 b f g adE) 73, gs_cell (go_ad q0 q1 q2 b f g adE) dA (gs_M0 73) (gs_L0 73) 73) H := by
  rw [go_co (gs_st_all 29 (by decide)).1]; exact hP 73 _ rfl
set_option maxRecDepth 100000 in
theorem go_c74 {D : va_G} {H : Heap} (q0 q1 q2 b : Nat) (dA : Nat → ClassId) (f g adE : Nat → Nat) (hP : va_P D vwCl (go_W q0 q1 q2 (adE 1003) (adE 1002) dA f g) H) : va_at D vwCl ((go_ad q0 q1 q2 b f g adE) 74, gs_cell (go_ad q0 q1 q2 b f g adE) dA (gs_M0 74) (gs_L0 74) 74) H := by
  rw [go_ca (gs_st_all 29 (by decide)).2]; exact hP 74 _ rfl
set_option maxRecDepth 100000 in
theorem go_c75 {D : va_G} {H : Heap} (q0 q1 q2 b : Nat) (dA : Nat → ClassId) (f g adE : Nat → Nat) (hP : va_P D vwCl (go_W q0 q1 q2 (adE 1003) (adE 1002) dA f g) H) : va_at D vwCl ((go_ad q0 q1 q2 b f g adE) 75, gs_cell (go_ad q0 q1 q2 b f g adE) dA (gs_M0 75) (gs_L0 75) 75) H := by
  rw [go_co (gs_st_all 30 (by decide)).1]; exact hP 75 _ rfl
set_option maxRecDepth 100000 in
theorem go_c76 {D : va_G} {H : Heap} (q0 q1 q2 b : Nat) (dA : Nat → ClassId) (f g adE : Nat → Nat) (hP : va_P D vwCl (go_W q0 q1 q2 (adE 1003) (adE 1002) dA f g) H) : va_at D vwCl ((go_ad q0 q1 q2 b f g adE) 76, gs_cell (go_ad q0 q1 q2 b f g adE) dA (gs_M0 76) (gs_L0 76) 76) H := by
  rw [go_ca (gs_st_all 30 (by decide)).2]; exact hP 76 _ rfl
set_option maxRecDepth 100000 in
theorem go_c77 {D : va_G} {H : Heap} (q0 q1 q2 b : Nat) (dA : Nat → ClassId) (f g adE : Nat → Nat) (hP : va_P D vwCl (go_W q0 q1 q2 (adE 1003) (adE 1002) dA f g) H) : va_at D vwCl ((go_ad q0 q1 q2 b f g adE) 77, gs_cell (go_ad q0 q1 q2 b f g adE) dA (gs_M0 77) (gs_L0 77) 77) H := by
  rw [go_co (gs_st_all 31 (by decide)).1]; exact hP 77 _ rfl
set_option maxRecDepth 100000 in
theorem go_c78 {D : va_G} {H : Heap} (q0 q1 q2 b : Nat) (dA : Nat → ClassId) (f g adE : Nat → Nat) (hP : va_P D vwCl (go_W q0 q1 q2 (adE 1003) (adE 1002) dA f g) H) : va_at D vwCl ((go_ad q0 q1 q2 b f g adE) 78, gs_cell (go_ad q0 q1 q2 b f g adE) dA (gs_M0 78) (gs_L0 78) 78) H := by
  rw [go_ca (gs_st_all 31 (by decide)).2]; exact hP 78 _ rfl
set_option maxRecDepth 100000 in
theorem go_c79 {D : va_G} {H : Heap} (q0 q1 q2 b : Nat) (dA : Nat → ClassId) (f g adE : Nat → Nat) (hP : va_P D vwCl (go_W q0 q1 q2 (adE 1003) (adE 1002) dA f g) H) : va_at D vwCl ((go_ad q0 q1 q2 b f g adE) 79, gs_cell (go_ad q0 q1 q2 b f g adE) dA (gs_M0 79) (gs_L0 79) 79) H := by
  rw [go_co (gs_st_all 32 (by decide)).1]; exact hP 79 _ rfl
set_option maxRecDepth 100000 in
theorem go_c80 {D : va_G} {H : Heap} (q0 q1 q2 b : Nat) (dA : Nat → ClassId) (f g adE : Nat → Nat) (hP : va_P D vwCl (go_W q0 q1 q2 (adE 1003) (adE 1002) dA f g) H) : va_at D vwCl ((go_ad q0 q1 q2 b f g adE) 80, gs_cell (go_ad q0 q1 q2 b f g adE) dA (gs_M0 80) (gs_L0 80) 80) H := by
  rw [go_ca (gs_st_all 32 (by decide)).2]; exact hP 80 _ rfl
set_option maxRecDepth 100000 in
theorem go_c81 {D : va_G} {H : Heap} (q0 q1 q2 b : Nat) (dA : Nat → ClassId) (f g adE : Nat → Nat) (hP : va_P D vwCl (go_W q0 q1 q2 (adE 1003) (adE 1002) dA f g) H) : va_at D vwCl ((go_ad q0 q1 q2 b f g adE) 81, gs_cell (go_ad q0 q1 q2 b f g adE) dA (gs_M0 81) (gs_L0 81) 81) H := by
  rw [go_co (gs_st_all 33 (by decide)).1]; exact hP 81 _ rfl
set_option maxRecDepth 100000 in
theorem go_c82 {D : va_G} {H : Heap} (q0 q1 q2 b : Nat) (dA : Nat → ClassId) (f g adE : Nat → Nat) (hP : va_P D vwCl (go_W q0 q1 q2 (adE 1003) (adE 1002) dA f g) H) : va_at D vwCl ((go_ad q0 q1 q2 b f g adE) 82, gs_cell (go_ad q0 q1 q2 b f g adE) dA (gs_M0 82) (gs_L0 82) 82) H := by
  rw [go_ca (gs_st_all 33 (by decide)).2]; exact hP 82 _ rfl
set_option maxRecDepth 100000 in
theorem go_c83 {D : va_G} {H : Heap} (q0 q1 q2 b : Nat) (dA : Nat → ClassId) (f g adE : Nat → Nat) (hP : va_P D vwCl (go_W q0 q1 q2 (adE 1003) (adE 1002) dA f g) H) : va_at D vwCl ((go_ad q0 q1 q2 b f g adE) 83, gs_cell (go_ad q0 q1 q2 b f g adE) dA (gs_M0 83) (gs_L0 83) 83) H := by
  rw [go_co (gs_st_all 34 (by decide)).1]; exact hP 83 _ rfl
set_option maxRecDepth 100000 in
theorem go_c84 {D : va_G} {H : Heap} (q0 q1 q2 b : Nat) (dA : Nat → ClassId) (f g adE : Nat → Nat) (hP : va_P D vwCl (go_W q0 q1 q2 (adE 1003) (adE 1002) dA f g) H) : va_at D vwCl ((go_ad q0 q1 q2 b f g adE) 84, gs_cell (go_ad q0 q1 q2 b f g adE) dA (gs_M0 84) (gs_L0 84) 84) H := by
  rw [go_ca (gs_st_all 34 (by decide)).2]; exact hP 84 _ rfl
set_option maxRecDepth 100000 in
theorem go_c85 {D : va_G} {H : Heap} (q0 q1 q2 b : Nat) (dA : Nat → ClassId) (f g adE : Nat → Nat) (hP : va_P D vwCl (go_W q0 q1 q2 (adE 1003) (adE 1002) dA f g) H) : va_at D vwCl ((go_ad q0 q1 q2 b f g adE) 85, gs_cell (go_ad q0 q1 q2 b f g adE) dA (gs_M0 85) (gs_L0 85) 85) H := by
  rw [go_co (gs_st_all 35 (by decide)).1]; exact hP 85 _ rfl
set_option maxRecDepth 100000 in
theorem go_c86 {D : va_G} {H : Heap} (q0 q1 q2 b : Nat) (dA : Nat → ClassId) (f g adE : Nat → Nat) (hP : va_P D vwCl (go_W q0 q1 q2 (adE 1003) (adE 1002) dA f g) H) : va_at D vwCl ((go_ad q0 q1 q2 b f g adE) 86, gs_cell (go_ad q0 q1 q2 b f g adE) dA (gs_M0 86) (gs_L0 86) 86) H := by
  rw [go_ca (gs_st_all 35 (by decide)).2]; exact hP 86 _ rfl
set_option maxRecDepth 100000 in
theorem go_c87 {D : va_G} {H : Heap} (q0 q1 q2 b : Nat) (dA : Nat → ClassId) (f g adE : Nat → Nat) (hP : va_P D vwCl (go_W q0 q1 q2 (adE 1003) (adE 1002) dA f g) H) : va_at D vwCl ((go_ad q0 q1 q2 b f g adE) 87, gs_cell (go_ad q0 q1 q2 b f g adE) dA (gs_M0 87) (gs_L0 87) 87) H := by
  rw [go_co (gs_st_all 36 (by decide)).1]; exact hP 87 _ rfl
set_option maxRecDepth 100000 in
theorem go_c88 {D : va_G} {H : Heap} (q0 q1 q2 b : Nat) (dA : Nat → ClassId) (f g adE : Nat → Nat) (hP : va_P D vwCl (go_W q0 q1 q2 (adE 1003) (adE 1002) dA f g) H) : va_at D vwCl ((go_ad q0 q1 q2 b f g adE) 88, gs_cell (go_ad q0 q1 q2 b f g adE) dA (gs_M0 88) (gs_L0 88) 88) H := by
  rw [go_ca (gs_st_all 36 (by decide)).2]; exact hP 88 _ rfl
set_option maxRecDepth 100000 in
theorem go_c89 {D : va_G} {H : Heap} (q0 q1 q2 b : Nat) (dA : Nat → ClassId) (f g adE : Nat → Nat) (hP : va_P D vwCl (go_W q0 q1 q2 (adE 1003) (adE 1002) dA f g) H) : va_at D vwCl ((go_ad q0 q1 q2 b f g adE) 89, gs_cell (go_ad q0 q1 q2 b f g adE) dA (gs_M0 89) (gs_L0 89) 89) H := by
  rw [go_co (gs_st_all 37 (by decide)).1]; exact hP 89 _ rfl
set_option maxRecDepth 100000 in
theorem go_c90 {D : va_G} {H : Heap} (q0 q1 q2 b : Nat) (dA : Nat → ClassId) (f g adE : Nat → Nat) (hP : va_P D vwCl (go_W q0 q1 q2 (adE 1003) (adE 1002) dA f g) H) : va_at D vwCl ((go_ad q0 q1 q2 b f g adE) 90, gs_cell (go_ad q0 q1 q2 b f g adE) dA (gs_M0 90) (gs_L0 90) 90) H := by
  rw [go_ca (gs_st_all 37 (by decide)).2]; exact hP 90 _ rfl
set_option maxRecDepth 100000 in
theorem go_c91 {D : va_G} {H : Heap} (q0 q1 q2 b : Nat) (dA : Nat → ClassId) (f g adE : Nat → Nat) (hP : va_P D vwCl (go_W q0 q1 q2 (adE 1003) (adE 1002) dA f g) H) : va_at D vwCl ((go_ad q0 q1 q2 b f g adE) 91, gs_cell (go_ad q0 q1 q2 b f g adE) dA (gs_M0 91) (gs_L0 91) 91) H := by
  rw [go_co (gs_st_all 38 (by decide)).1]; exact hP 91 _ rfl
set_option maxRecDepth 100000 in
theorem go_c92 {D : va_G} {H : Heap} (q0 q1 q2 b : Nat) (dA : Nat → ClassId) (f g adE : Nat → Nat) (hP : va_P D vwCl (go_W q0 q1 q2 (adE 1003) (adE 1002) dA f g) H) : va_at D vwCl ((go_ad q0 q1 q2 b f g adE) 92, gs_cell (go_ad q0 q1 q2 b f g adE) dA (gs_M0 92) (gs_L0 92) 92) H := by
  rw [go_ca (gs_st_all 38 (by decide)).2]; exact hP 92 _ rfl
set_option maxRecDepth 100000 in
theorem go_c93 {D : va_G} {H : Heap} (q0 q1 q2 b : Nat) (dA : Nat → ClassId) (f g adE : Nat → Nat) (hP : va_P D vwCl (go_W q0 q1 q2 (adE 1003) (adE 1002) dA f g) H) : va_at D vwCl ((go_ad q0 q1 q2 b f g adE) 93, gs_cell (go_ad q0 q1 q2 b f g adE) dA (gs_M0 93) (gs_L0 93) 93) H := by
  rw [go_co (gs_st_all 39 (by decide)).1]; exact hP 93 _ rfl
set_option maxRecDepth 100000 in
theorem go_c94 {D : va_G} {H : Heap} (q0 q1 q2 b : Nat) (dA : Nat → ClassId) (f g adE : Nat → Nat) (hP : va_P D vwCl (go_W q0 q1 q2 (adE 1003) (adE 1002) dA f g) H) : va_at D vwCl ((go_ad q0 q1 q2 b f g adE) 94, gs_cell (go_ad q0 q1 q2 b f g adE) dA (gs_M0 94) (gs_L0 94) 94) H := by
  rw [go_ca (gs_st_all 39 (by decide)).2]; exact hP 94 _ rfl
set_option maxRecDepth 100000 in
theorem go_c95 {D : va_G} {H : Heap} (q0 q1 q2 b : Nat) (dA : Nat → ClassId) (f g adE : Nat → Nat) (hP : va_P D vwCl (go_W q0 q1 q2 (adE 1003) (adE 1002) dA f g) H) : va_at D vwCl ((go_ad q0 q1 q2 b f g adE) 95, gs_cell (go_ad q0 q1 q2 b f g adE) dA (gs_M0 95) (gs_L0 95) 95) H := by
  rw [go_co sh_95]; exact hP 95 _ rfl
set_option maxRecDepth 100000 in
theorem go_c96 {D : va_G} {H : Heap} (q0 q1 q2 b : Nat) (dA : Nat → ClassId) (f g adE : Nat → Nat) (hP : va_P D vwCl (go_W q0 q1 q2 (adE 1003) (adE 1002) dA f g) H) : va_at D vwCl ((go_ad q0 q1 q2 b f g adE) 96, gs_cell (go_ad q0 q1 q2 b f g adE) dA (gs_M0 96) (gs_L0 96) 96) H := by
  rw [go_ca sh_96]; exact hP 96 _ rfl
set_option maxRecDepth 100000 in
theorem go_c97 {D : va_G} {H : Heap} (q0 q1 q2 b : Nat) (dA : Nat → ClassId) (f g adE : Nat → Nat) (hP : va_P D vwCl (go_W q0 q1 q2 (adE 1003) (adE 1002) dA f g) H) : va_at D vwCl ((go_ad q0 q1 q2 b f g adE) 97, gs_cell (go_ad q0 q1 q2 b f g adE) dA (gs_M0 97) (gs_L0 97) 97) H := by
  rw [go_ca sh_97]; exact hP 97 _ rfl
set_option maxRecDepth 100000 in
theorem go_c98 {D : va_G} {H : Heap} (q0 q1 q2 b : Nat) (dA : Nat → ClassId) (f g adE : Nat → Nat) (hP : va_P D vwCl (go_W q0 q1 q2 (adE 1003) (adE 1002) dA f g) H) : va_at D vwCl ((go_ad q0 q1 q2 b f g adE) 98, gs_cell (go_ad q0 q1 q2 b f g adE) dA (gs_M0 98) (gs_L0 98) 98) H := by
  rw [go_co sh_98]; exact hP 98 _ rfl
set_option maxRecDepth 100000 in
theorem go_c99 {D : va_G} {H : Heap} (q0 q1 q2 b : Nat) (dA : Nat → ClassId) (f g adE : Nat → Nat) (hP : va_P D vwCl (go_W q0 q1 q2 (adE 1003) (adE 1002) dA f g) H) : va_at D vwCl ((go_ad q0 q1 q2 b f g adE) 99, gs_cell (go_ad q0 q1 q2 b f g adE) dA (gs_M0 99) (gs_L0 99) 99) H := by
  rw [go_ca sh_99]; exact hP 99 _ rfl
set_option maxRecDepth 100000 in
theorem go_c100 {D : va_G} {H : Heap} (q0 q1 q2 b : Nat) (dA : Nat → ClassId) (f g adE : Nat → Nat) (hP : va_P D vwCl (go_W q0 q1 q2 (adE 1003) (adE 1002) dA f g) H) : va_at D vwCl ((go_ad q0 q1 q2 b f g adE) 100, gs_cell (go_ad q0 q1 q2 b f g adE) dA (gs_M0 100) (gs_L0 100) 100) H := by
  rw [go_ca sh_100]; exact hP 100 _ rfl
set_option maxRecDepth 100000 in
theorem go_c101 {D : va_G} {H : Heap} (q0 q1 q2 b : Nat) (dA : Nat → ClassId) (f g adE : Nat → Nat) (hP : va_P D vwCl (go_W q0 q1 q2 (adE 1003) (adE 1002) dA f g) H) : va_at D vwCl ((go_ad q0 q1 q2 b f g adE) 101, gs_cell (go_ad q0 q1 q2 b f g adE) dA (gs_M0 101) (gs_L0 101) 101) H := by
  rw [go_ca sh_101]; exact hP 101 _ rfl
set_option maxRecDepth 100000 in
theorem go_c102 {D : va_G} {H : Heap} (q0 q1 q2 b : Nat) (dA : Nat → ClassId) (f g adE : Nat → Nat) (hP : va_P D vwCl (go_W q0 q1 q2 (adE 1003) (adE 1002) dA f g) H) : va_at D vwCl ((go_ad q0 q1 q2 b f g adE) 102, gs_cell (go_ad q0 q1 q2 b f g adE) dA (gs_M0 102) (gs_L0 102) 102) H := by
  rw [go_ca sh_102]; exact hP 102 _ rfl
set_option maxRecDepth 100000 in
theorem go_c103 {D : va_G} {H : Heap} (q0 q1 q2 b : Nat) (dA : Nat → ClassId) (f g adE : Nat → Nat) (hP : va_P D vwCl (go_W q0 q1 q2 (adE 1003) (adE 1002) dA f g) H) : va_at D vwCl ((go_ad q0 q1 q2 b f g adE) 103, gs_cell (go_ad q0 q1 q2 b f g adE) dA (gs_M0 103) (gs_L0 103) 103) H := by
  rw [go_ca sh_103]; exact hP 103 _ rfl
set_option maxRecDepth 100000 in
theorem go_c104 {D : va_G} {H : Heap} (q0 q1 q2 b : Nat) (dA : Nat → ClassId) (f g adE : Nat → Nat) (hP : va_P D vwCl (go_W q0 q1 q2 (adE 1003) (adE 1002) dA f g) H) : va_at D vwCl ((go_ad q0 q1 q2 b f g adE) 104, gs_cell (go_ad q0 q1 q2 b f g adE) dA (gs_M0 104) (gs_L0 104) 104) H := by
  rw [go_co sh_104]
  show va_at D vwCl (f 103, .inr (3, [.ref (f 0), .ref ((go_ad q0 q1 q2 b f g adE) (nI 98).toNatClampNeg)])) H
  rw [nI_clamp (by decide)]
  exact hP 104 _ rfl
set_option maxRecDepth 100000 in
theorem go_c105 {D : va_G} {H : Heap} (q0 q1 q2 b : Nat) (dA : Nat → ClassId) (f g adE : Nat → Nat) (hP : va_P D vwCl (go_W q0 q1 q2 (adE 1003) (adE 1002) dA f g) H) : va_at D vwCl ((go_ad q0 q1 q2 b f g adE) 105, gs_cell (go_ad q0 q1 q2 b f g adE) dA (gs_M0 105) (gs_L0 105) 105) H := by
  rw [go_co sh_105]; exact hP 105 _ rfl
set_option maxRecDepth 100000 in
theorem go_c106 {D : va_G} {H : Heap} (q0 q1 q2 b : Nat) (dA : Nat → ClassId) (f g adE : Nat → Nat) (hP : va_P D vwCl (go_W q0 q1 q2 (adE 1003) (adE 1002) dA f g) H) : va_at D vwCl ((go_ad q0 q1 q2 b f g adE) 106, gs_cell (go_ad q0 q1 q2 b f g adE) dA (gs_M0 106) (gs_L0 106) 106) H := by
  rw [go_ca sh_106]; exact go_arr (hP 106 _ rfl) (co_dec_q106 q0 q1 q2 b dA f g adE)
set_option maxRecDepth 100000 in
theorem go_c107 {D : va_G} {H : Heap} (q0 q1 q2 b : Nat) (dA : Nat → ClassId) (f g adE : Nat → Nat) (hP : va_P D vwCl (go_W q0 q1 q2 (adE 1003) (adE 1002) dA f g) H) : va_at D vwCl ((go_ad q0 q1 q2 b f g adE) 107, gs_cell (go_ad q0 q1 q2 b f g adE) dA (gs_M0 107) (gs_L0 107) 107) H := by
  rw [go_ca sh_107]; exact hP 107 _ rfl
set_option maxRecDepth 100000 in
theorem go_c108 {D : va_G} {H : Heap} (q0 q1 q2 b : Nat) (dA : Nat → ClassId) (f g adE : Nat → Nat) (hP : va_P D vwCl (go_W q0 q1 q2 (adE 1003) (adE 1002) dA f g) H) : va_at D vwCl ((go_ad q0 q1 q2 b f g adE) 108, gs_cell (go_ad q0 q1 q2 b f g adE) dA (gs_M0 108) (gs_L0 108) 108) H := by
  rw [go_co sh_108]; exact hP 108 _ rfl
set_option maxRecDepth 100000 in
theorem go_c109 {D : va_G} {H : Heap} (q0 q1 q2 b : Nat) (dA : Nat → ClassId) (f g adE : Nat → Nat) (hP : va_P D vwCl (go_W q0 q1 q2 (adE 1003) (adE 1002) dA f g) H) : va_at D vwCl ((go_ad q0 q1 q2 b f g adE) 109, gs_cell (go_ad q0 q1 q2 b f g adE) dA (gs_M0 109) (gs_L0 109) 109) H := by
  rw [go_ca sh_109]; exact hP 109 _ rfl
set_option maxRecDepth 100000 in
theorem go_c110 {D : va_G} {H : Heap} (q0 q1 q2 b : Nat) (dA : Nat → ClassId) (f g adE : Nat → Nat) (hP : va_P D vwCl (go_W q0 q1 q2 (adE 1003) (adE 1002) dA f g) H) : va_at D vwCl ((go_ad q0 q1 q2 b f g adE) 110, gs_cell (go_ad q0 q1 q2 b f g adE) dA (gs_M0 110) (gs_L0 110) 110) H := by
  rw [go_ca sh_110]; exact hP 110 _ rfl
set_option maxRecDepth 100000 in
theorem go_c111 {D : va_G} {H : Heap} (q0 q1 q2 b : Nat) (dA : Nat → ClassId) (f g adE : Nat → Nat) (hP : va_P D vwCl (go_W q0 q1 q2 (adE 1003) (adE 1002) dA f g) H) : va_at D vwCl ((go_ad q0 q1 q2 b f g adE) 111, gs_cell (go_ad q0 q1 q2 b f g adE) dA (gs_M0 111) (gs_L0 111) 111) H := by
  rw [go_ca sh_111]; exact hP 111 _ rfl
set_option maxRecDepth 100000 in
theorem go_c112 {D : va_G} {H : Heap} (q0 q1 q2 b : Nat) (dA : Nat → ClassId) (f g adE : Nat → Nat) (hP : va_P D vwCl (go_W q0 q1 q2 (adE 1003) (adE 1002) dA f g) H) : va_at D vwCl ((go_ad q0 q1 q2 b f g adE) 112, gs_cell (go_ad q0 q1 q2 b f g adE) dA (gs_M0 112) (gs_L0 112) 112) H := by
  rw [go_ca sh_112]; exact hP 112 _ rfl
set_option maxRecDepth 100000 in
theorem go_c113 {D : va_G} {H : Heap} (q0 q1 q2 b : Nat) (dA : Nat → ClassId) (f g adE : Nat → Nat) (hP : va_P D vwCl (go_W q0 q1 q2 (adE 1003) (adE 1002) dA f g) H) : va_at D vwCl ((go_ad q0 q1 q2 b f g adE) 113, gs_cell (go_ad q0 q1 q2 b f g adE) dA (gs_M0 113) (gs_L0 113) 113) H := by
  rw [go_ca sh_113]; exact hP 113 _ rfl
set_option maxRecDepth 100000 in
theorem go_c114 {D : va_G} {H : Heap} (q0 q1 q2 b : Nat) (dA : Nat → ClassId) (f g adE : Nat → Nat) (hP : va_P D vwCl (go_W q0 q1 q2 (adE 1003) (adE 1002) dA f g) H) : va_at D vwCl ((go_ad q0 q1 q2 b f g adE) 114, gs_cell (go_ad q0 q1 q2 b f g adE) dA (gs_M0 114) (gs_L0 114) 114) H := by
  rw [go_co sh_114]; exact hP 114 _ rfl
set_option maxRecDepth 100000 in
theorem go_c115 {D : va_G} {H : Heap} (q0 q1 q2 b : Nat) (dA : Nat → ClassId) (f g adE : Nat → Nat) (hP : va_P D vwCl (go_W q0 q1 q2 (adE 1003) (adE 1002) dA f g) H) : va_at D vwCl ((go_ad q0 q1 q2 b f g adE) 115, gs_cell (go_ad q0 q1 q2 b f g adE) dA (gs_M0 115) (gs_L0 115) 115) H := by
  rw [go_ca sh_115]; exact hP 115 _ rfl
set_option maxRecDepth 100000 in
theorem go_c116 {D : va_G} {H : Heap} (q0 q1 q2 b : Nat) (dA : Nat → ClassId) (f g adE : Nat → Nat) (hP : va_P D vwCl (go_W q0 q1 q2 (adE 1003) (adE 1002) dA f g) H) : va_at D vwCl ((go_ad q0 q1 q2 b f g adE) 116, gs_cell (go_ad q0 q1 q2 b f g adE) dA (gs_M0 116) (gs_L0 116) 116) H := by
  rw [go_ca sh_116]; exact hP 116 _ rfl
set_option maxRecDepth 100000 in
theorem go_c117 {D : va_G} {H : Heap} (q0 q1 q2 b : Nat) (dA : Nat → ClassId) (f g adE : Nat → Nat) (hP : va_P D vwCl (go_W q0 q1 q2 (adE 1003) (adE 1002) dA f g) H) : va_at D vwCl ((go_ad q0 q1 q2 b f g adE) 117, gs_cell (go_ad q0 q1 q2 b f g adE) dA (gs_M0 117) (gs_L0 117) 117) H := by
  rw [go_ca sh_117]; exact hP 117 _ rfl
set_option maxRecDepth 100000 in
theorem go_c118 {D : va_G} {H : Heap} (q0 q1 q2 b : Nat) (dA : Nat → ClassId) (f g adE : Nat → Nat) (hP : va_P D vwCl (go_W q0 q1 q2 (adE 1003) (adE 1002) dA f g) H) : va_at D vwCl ((go_ad q0 q1 q2 b f g adE) 118, gs_cell (go_ad q0 q1 q2 b f g adE) dA (gs_M0 118) (gs_L0 118) 118) H := by
  rw [go_ca sh_118]; exact hP 118 _ rfl
set_option maxRecDepth 100000 in
theorem go_c119 {D : va_G} {H : Heap} (q0 q1 q2 b : Nat) (dA : Nat → ClassId) (f g adE : Nat → Nat) (hP : va_P D vwCl (go_W q0 q1 q2 (adE 1003) (adE 1002) dA f g) H) : va_at D vwCl ((go_ad q0 q1 q2 b f g adE) 119, gs_cell (go_ad q0 q1 q2 b f g adE) dA (gs_M0 119) (gs_L0 119) 119) H := by
  rw [go_ca sh_119]; exact hP 119 _ rfl
set_option maxRecDepth 100000 in
theorem go_c120 {D : va_G} {H : Heap} (q0 q1 q2 b : Nat) (dA : Nat → ClassId) (f g adE : Nat → Nat) (hP : va_P D vwCl (go_W q0 q1 q2 (adE 1003) (adE 1002) dA f g) H) : va_at D vwCl ((go_ad q0 q1 q2 b f g adE) 120, gs_cell (go_ad q0 q1 q2 b f g adE) dA (gs_M0 120) (gs_L0 120) 120) H := by
  rw [go_co sh_120]; exact hP 120 _ rfl
set_option maxRecDepth 100000 in
theorem go_c121 {D : va_G} {H : Heap} (q0 q1 q2 b : Nat) (dA : Nat → ClassId) (f g adE : Nat → Nat) (hP : va_P D vwCl (go_W q0 q1 q2 (adE 1003) (adE 1002) dA f g) H) : va_at D vwCl ((go_ad q0 q1 q2 b f g adE) 121, gs_cell (go_ad q0 q1 q2 b f g adE) dA (gs_M0 121) (gs_L0 121) 121) H := by
  rw [go_ca sh_121]; exact hP 121 _ rfl
set_option maxRecDepth 100000 in
theorem go_c122 {D : va_G} {H : Heap} (q0 q1 q2 b : Nat) (dA : Nat → ClassId) (f g adE : Nat → Nat) (hP : va_P D vwCl (go_W q0 q1 q2 (adE 1003) (adE 1002) dA f g) H) : va_at D vwCl ((go_ad q0 q1 q2 b f g adE) 122, gs_cell (go_ad q0 q1 q2 b f g adE) dA (gs_M0 122) (gs_L0 122) 122) H := by
  rw [go_ca sh_122]; exact hP 122 _ rfl
set_option maxRecDepth 100000 in
theorem go_c123 {D : va_G} {H : Heap} (q0 q1 q2 b : Nat) (dA : Nat → ClassId) (f g adE : Nat → Nat) (hP : va_P D vwCl (go_W q0 q1 q2 (adE 1003) (adE 1002) dA f g) H) : va_at D vwCl ((go_ad q0 q1 q2 b f g adE) 123, gs_cell (go_ad q0 q1 q2 b f g adE) dA (gs_M0 123) (gs_L0 123) 123) H := by
  rw [go_ca sh_123]; exact hP 123 _ rfl
set_option maxRecDepth 100000 in
theorem go_c124 {D : va_G} {H : Heap} (q0 q1 q2 b : Nat) (dA : Nat → ClassId) (f g adE : Nat → Nat) (hP : va_P D vwCl (go_W q0 q1 q2 (adE 1003) (adE 1002) dA f g) H) : va_at D vwCl ((go_ad q0 q1 q2 b f g adE) 124, gs_cell (go_ad q0 q1 q2 b f g adE) dA (gs_M0 124) (gs_L0 124) 124) H := by
  rw [go_ca sh_124]; exact hP 124 _ rfl
set_option maxRecDepth 100000 in
theorem go_c125 {D : va_G} {H : Heap} (q0 q1 q2 b : Nat) (dA : Nat → ClassId) (f g adE : Nat → Nat) (hP : va_P D vwCl (go_W q0 q1 q2 (adE 1003) (adE 1002) dA f g) H) : va_at D vwCl ((go_ad q0 q1 q2 b f g adE) 125, gs_cell (go_ad q0 q1 q2 b f g adE) dA (gs_M0 125) (gs_L0 125) 125) H := by
  rw [go_ca sh_125]; exact hP 125 _ rfl
set_option maxRecDepth 100000 in
theorem go_c126 {D : va_G} {H : Heap} (q0 q1 q2 b : Nat) (dA : Nat → ClassId) (f g adE : Nat → Nat) (hP : va_P D vwCl (go_W q0 q1 q2 (adE 1003) (adE 1002) dA f g) H) : va_at D vwCl ((go_ad q0 q1 q2 b f g adE) 126, gs_cell (go_ad q0 q1 q2 b f g adE) dA (gs_M0 126) (gs_L0 126) 126) H := by
  rw [go_co sh_126]; exact hP 126 _ rfl
set_option maxRecDepth 100000 in
theorem go_c127 {D : va_G} {H : Heap} (q0 q1 q2 b : Nat) (dA : Nat → ClassId) (f g adE : Nat → Nat) (hP : va_P D vwCl (go_W q0 q1 q2 (adE 1003) (adE 1002) dA f g) H) : va_at D vwCl ((go_ad q0 q1 q2 b f g adE) 127, gs_cell (go_ad q0 q1 q2 b f g adE) dA (gs_M0 127) (gs_L0 127) 127) H := by
  rw [go_ca sh_127]; exact hP 127 _ rfl
set_option maxRecDepth 100000 in
theorem go_c128 {D : va_G} {H : Heap} (q0 q1 q2 b : Nat) (dA : Nat → ClassId) (f g adE : Nat → Nat) (hP : va_P D vwCl (go_W q0 q1 q2 (adE 1003) (adE 1002) dA f g) H) : va_at D vwCl ((go_ad q0 q1 q2 b f g adE) 128, gs_cell (go_ad q0 q1 q2 b f g adE) dA (gs_M0 128) (gs_L0 128) 128) H := by
  rw [go_ca sh_128]; exact hP 128 _ rfl
set_option maxRecDepth 100000 in
theorem go_c129 {D : va_G} {H : Heap} (q0 q1 q2 b : Nat) (dA : Nat → ClassId) (f g adE : Nat → Nat) (hP : va_P D vwCl (go_W q0 q1 q2 (adE 1003) (adE 1002) dA f g) H) : va_at D vwCl ((go_ad q0 q1 q2 b f g adE) 129, gs_cell (go_ad q0 q1 q2 b f g adE) dA (gs_M0 129) (gs_L0 129) 129) H := by
  rw [go_ca sh_129]; exact hP 129 _ rfl
set_option maxRecDepth 100000 in
theorem go_c130 {D : va_G} {H : Heap} (q0 q1 q2 b : Nat) (dA : Nat → ClassId) (f g adE : Nat → Nat) (hP : va_P D vwCl (go_W q0 q1 q2 (adE 1003) (adE 1002) dA f g) H) : va_at D vwCl ((go_ad q0 q1 q2 b f g adE) 130, gs_cell (go_ad q0 q1 q2 b f g adE) dA (gs_M0 130) (gs_L0 130) 130) H := by
  rw [go_ca sh_130]; exact hP 130 _ rfl
set_option maxRecDepth 100000 in
theorem go_c131 {D : va_G} {H : Heap} (q0 q1 q2 b : Nat) (dA : Nat → ClassId) (f g adE : Nat → Nat) (hP : va_P D vwCl (go_W q0 q1 q2 (adE 1003) (adE 1002) dA f g) H) : va_at D vwCl ((go_ad q0 q1 q2 b f g adE) 131, gs_cell (go_ad q0 q1 q2 b f g adE) dA (gs_M0 131) (gs_L0 131) 131) H := by
  rw [go_ca sh_131]; exact hP 131 _ rfl
set_option maxRecDepth 100000 in
theorem go_c132 {D : va_G} {H : Heap} (q0 q1 q2 b : Nat) (dA : Nat → ClassId) (f g adE : Nat → Nat) (hP : va_P D vwCl (go_W q0 q1 q2 (adE 1003) (adE 1002) dA f g) H) : va_at D vwCl ((go_ad q0 q1 q2 b f g adE) 132, gs_cell (go_ad q0 q1 q2 b f g adE) dA (gs_M0 132) (gs_L0 132) 132) H := by
  rw [go_co sh_132]; exact hP 132 _ rfl
set_option maxRecDepth 100000 in
theorem go_c133 {D : va_G} {H : Heap} (q0 q1 q2 b : Nat) (dA : Nat → ClassId) (f g adE : Nat → Nat) (hP : va_P D vwCl (go_W q0 q1 q2 (adE 1003) (adE 1002) dA f g) H) : va_at D vwCl ((go_ad q0 q1 q2 b f g adE) 133, gs_cell (go_ad q0 q1 q2 b f g adE) dA (gs_M0 133) (gs_L0 133) 133) H := by
  rw [go_ca sh_133]; exact hP 133 _ rfl
set_option maxRecDepth 100000 in
theorem go_c134 {D : va_G} {H : Heap} (q0 q1 q2 b : Nat) (dA : Nat → ClassId) (f g adE : Nat → Nat) (hP : va_P D vwCl (go_W q0 q1 q2 (adE 1003) (adE 1002) dA f g) H) : va_at D vwCl ((go_ad q0 q1 q2 b f g adE) 134, gs_cell (go_ad q0 q1 q2 b f g adE) dA (gs_M0 134) (gs_L0 134) 134) H := by
  rw [go_co sh_134]; exact hP 134 _ rfl
set_option maxRecDepth 100000 in
theorem go_c135 {D : va_G} {H : Heap} (q0 q1 q2 b : Nat) (dA : Nat → ClassId) (f g adE : Nat → Nat) (hP : va_P D vwCl (go_W q0 q1 q2 (adE 1003) (adE 1002) dA f g) H) : va_at D vwCl ((go_ad q0 q1 q2 b f g adE) 135, gs_cell (go_ad q0 q1 q2 b f g adE) dA (gs_M0 135) (gs_L0 135) 135) H := by
  rw [go_ca sh_135]; exact hP 135 _ rfl
set_option maxRecDepth 100000 in
theorem go_c136 {D : va_G} {H : Heap} (q0 q1 q2 b : Nat) (dA : Nat → ClassId) (f g adE : Nat → Nat) (hP : va_P D vwCl (go_W q0 q1 q2 (adE 1003) (adE 1002) dA f g) H) : va_at D vwCl ((go_ad q0 q1 q2 b f g adE) 136, gs_cell (go_ad q0 q1 q2 b f g adE) dA (gs_M0 136) (gs_L0 136) 136) H := by
  rw [go_ca sh_136]; exact hP 136 _ rfl
set_option maxRecDepth 100000 in
theorem go_c137 {D : va_G} {H : Heap} (q0 q1 q2 b : Nat) (dA : Nat → ClassId) (f g adE : Nat → Nat) (hP : va_P D vwCl (go_W q0 q1 q2 (adE 1003) (adE 1002) dA f g) H) : va_at D vwCl ((go_ad q0 q1 q2 b f g adE) 137, gs_cell (go_ad q0 q1 q2 b f g adE) dA (gs_M0 137) (gs_L0 137) 137) H := by
  rw [go_ca sh_137]; exact hP 137 _ rfl
set_option maxRecDepth 100000 in
theorem go_c138 {D : va_G} {H : Heap} (q0 q1 q2 b : Nat) (dA : Nat → ClassId) (f g adE : Nat → Nat) (hP : va_P D vwCl (go_W q0 q1 q2 (adE 1003) (adE 1002) dA f g) H) : va_at D vwCl ((go_ad q0 q1 q2 b f g adE) 138, gs_cell (go_ad q0 q1 q2 b f g adE) dA (gs_M0 138) (gs_L0 138) 138) H := by
  rw [go_ca sh_138]; exact hP 138 _ rfl
set_option maxRecDepth 100000 in
theorem go_c139 {D : va_G} {H : Heap} (q0 q1 q2 b : Nat) (dA : Nat → ClassId) (f g adE : Nat → Nat) (hP : va_P D vwCl (go_W q0 q1 q2 (adE 1003) (adE 1002) dA f g) H) : va_at D vwCl ((go_ad q0 q1 q2 b f g adE) 139, gs_cell (go_ad q0 q1 q2 b f g adE) dA (gs_M0 139) (gs_L0 139) 139) H := by
  rw [go_ca sh_139]; exact hP 139 _ rfl
set_option maxRecDepth 100000 in
theorem go_c140 {D : va_G} {H : Heap} (q0 q1 q2 b : Nat) (dA : Nat → ClassId) (f g adE : Nat → Nat) (hP : va_P D vwCl (go_W q0 q1 q2 (adE 1003) (adE 1002) dA f g) H) : va_at D vwCl ((go_ad q0 q1 q2 b f g adE) 140, gs_cell (go_ad q0 q1 q2 b f g adE) dA (gs_M0 140) (gs_L0 140) 140) H := by
  rw [go_co sh_140]; exact hP 140 _ rfl
set_option maxRecDepth 100000 in
theorem go_c141 {D : va_G} {H : Heap} (q0 q1 q2 b : Nat) (dA : Nat → ClassId) (f g adE : Nat → Nat) (hP : va_P D vwCl (go_W q0 q1 q2 (adE 1003) (adE 1002) dA f g) H) : va_at D vwCl ((go_ad q0 q1 q2 b f g adE) 141, gs_cell (go_ad q0 q1 q2 b f g adE) dA (gs_M0 141) (gs_L0 141) 141) H := by
  rw [go_ca sh_141]; exact hP 141 _ rfl
set_option maxRecDepth 100000 in
theorem go_c142 {D : va_G} {H : Heap} (q0 q1 q2 b : Nat) (dA : Nat → ClassId) (f g adE : Nat → Nat) (hP : va_P D vwCl (go_W q0 q1 q2 (adE 1003) (adE 1002) dA f g) H) : va_at D vwCl ((go_ad q0 q1 q2 b f g adE) 142, gs_cell (go_ad q0 q1 q2 b f g adE) dA (gs_M0 142) (gs_L0 142) 142) H := by
  rw [go_ca sh_142]; exact hP 142 _ rfl
set_option maxRecDepth 100000 in
theorem go_c143 {D : va_G} {H : Heap} (q0 q1 q2 b : Nat) (dA : Nat → ClassId) (f g adE : Nat → Nat) (hP : va_P D vwCl (go_W q0 q1 q2 (adE 1003) (adE 1002) dA f g) H) : va_at D vwCl ((go_ad q0 q1 q2 b f g adE) 143, gs_cell (go_ad q0 q1 q2 b f g adE) dA (gs_M0 143) (gs_L0 143) 143) H := by
  rw [go_ca sh_143]; exact hP 143 _ rfl
set_option maxRecDepth 100000 in
theorem go_c144 {D : va_G} {H : Heap} (q0 q1 q2 b : Nat) (dA : Nat → ClassId) (f g adE : Nat → Nat) (hP : va_P D vwCl (go_W q0 q1 q2 (adE 1003) (adE 1002) dA f g) H) : va_at D vwCl ((go_ad q0 q1 q2 b f g adE) 144, gs_cell (go_ad q0 q1 q2 b f g adE) dA (gs_M0 144) (gs_L0 144) 144) H := by
  rw [go_ca sh_144]; exact hP 144 _ rfl
set_option maxRecDepth 100000 in
theorem go_c145 {D : va_G} {H : Heap} (q0 q1 q2 b : Nat) (dA : Nat → ClassId) (f g adE : Nat → Nat) (hP : va_P D vwCl (go_W q0 q1 q2 (adE 1003) (adE 1002) dA f g) H) : va_at D vwCl ((go_ad q0 q1 q2 b f g adE) 145, gs_cell (go_ad q0 q1 q2 b f g adE) dA (gs_M0 145) (gs_L0 145) 145) H := by
  rw [go_ca sh_145]; exact hP 145 _ rfl
set_option maxRecDepth 100000 in
theorem go_c146 {D : va_G} {H : Heap} (q0 q1 q2 b : Nat) (dA : Nat → ClassId) (f g adE : Nat → Nat) (hP : va_P D vwCl (go_W q0 q1 q2 (adE 1003) (adE 1002) dA f g) H) : va_at D vwCl ((go_ad q0 q1 q2 b f g adE) 146, gs_cell (go_ad q0 q1 q2 b f g adE) dA (gs_M0 146) (gs_L0 146) 146) H := by
  rw [go_ca sh_146]; exact hP 146 _ rfl
set_option maxRecDepth 100000 in
theorem go_c147 {D : va_G} {H : Heap} (q0 q1 q2 b : Nat) (dA : Nat → ClassId) (f g adE : Nat → Nat) (hP : va_P D vwCl (go_W q0 q1 q2 (adE 1003) (adE 1002) dA f g) H) : va_at D vwCl ((go_ad q0 q1 q2 b f g adE) 147, gs_cell (go_ad q0 q1 q2 b f g adE) dA (gs_M0 147) (gs_L0 147) 147) H := by
  rw [go_co sh_147]
  exact go_at (N := 47) (es := go_es q1 g adE) rfl (hP 147 _ rfl) (go_v147 q0 q1 q2 b f g adE)
set_option maxRecDepth 100000 in
theorem go_c148 {D : va_G} {H : Heap} (q0 q1 q2 b : Nat) (dA : Nat → ClassId) (f g adE : Nat → Nat) (hP : va_P D vwCl (go_W q0 q1 q2 (adE 1003) (adE 1002) dA f g) H) : va_at D vwCl ((go_ad q0 q1 q2 b f g adE) 148, gs_cell (go_ad q0 q1 q2 b f g adE) dA (gs_M0 148) (gs_L0 148) 148) H := by
  rw [go_ca sh_148]; exact hP 148 _ rfl
set_option maxRecDepth 100000 in
theorem go_c149 {D : va_G} {H : Heap} (q0 q1 q2 b : Nat) (dA : Nat → ClassId) (f g adE : Nat → Nat) (hP : va_P D vwCl (go_W q0 q1 q2 (adE 1003) (adE 1002) dA f g) H) : va_at D vwCl ((go_ad q0 q1 q2 b f g adE) 149, gs_cell (go_ad q0 q1 q2 b f g adE) dA (gs_M0 149) (gs_L0 149) 149) H := by
  rw [go_ca sh_149]; exact hP 149 _ rfl
set_option maxRecDepth 100000 in
theorem go_c150 {D : va_G} {H : Heap} (q0 q1 q2 b : Nat) (dA : Nat → ClassId) (f g adE : Nat → Nat) (hP : va_P D vwCl (go_W q0 q1 q2 (adE 1003) (adE 1002) dA f g) H) : va_at D vwCl ((go_ad q0 q1 q2 b f g adE) 150, gs_cell (go_ad q0 q1 q2 b f g adE) dA (gs_M0 150) (gs_L0 150) 150) H := by
  rw [go_ca sh_150]; exact hP 150 _ rfl
set_option maxRecDepth 100000 in
theorem go_c151 {D : va_G} {H : Heap} (q0 q1 q2 b : Nat) (dA : Nat → ClassId) (f g adE : Nat → Nat) (hP : va_P D vwCl (go_W q0 q1 q2 (adE 1003) (adE 1002) dA f g) H) : va_at D vwCl ((go_ad q0 q1 q2 b f g adE) 151, gs_cell (go_ad q0 q1 q2 b f g adE) dA (gs_M0 151) (gs_L0 151) 151) H := by
  rw [go_ca sh_151]; exact hP 151 _ rfl
set_option maxRecDepth 100000 in
theorem go_c152 {D : va_G} {H : Heap} (q0 q1 q2 b : Nat) (dA : Nat → ClassId) (f g adE : Nat → Nat) (hP : va_P D vwCl (go_W q0 q1 q2 (adE 1003) (adE 1002) dA f g) H) : va_at D vwCl ((go_ad q0 q1 q2 b f g adE) 152, gs_cell (go_ad q0 q1 q2 b f g adE) dA (gs_M0 152) (gs_L0 152) 152) H := by
  rw [go_ca sh_152]; exact hP 152 _ rfl
set_option maxRecDepth 100000 in
theorem go_c153 {D : va_G} {H : Heap} (q0 q1 q2 b : Nat) (dA : Nat → ClassId) (f g adE : Nat → Nat) (hP : va_P D vwCl (go_W q0 q1 q2 (adE 1003) (adE 1002) dA f g) H) : va_at D vwCl ((go_ad q0 q1 q2 b f g adE) 153, gs_cell (go_ad q0 q1 q2 b f g adE) dA (gs_M0 153) (gs_L0 153) 153) H := by
  rw [go_ca sh_153]; exact hP 153 _ rfl
set_option maxRecDepth 100000 in
theorem go_c154 {D : va_G} {H : Heap} (q0 q1 q2 b : Nat) (dA : Nat → ClassId) (f g adE : Nat → Nat) (hP : va_P D vwCl (go_W q0 q1 q2 (adE 1003) (adE 1002) dA f g) H) : va_at D vwCl ((go_ad q0 q1 q2 b f g adE) 154, gs_cell (go_ad q0 q1 q2 b f g adE) dA (gs_M0 154) (gs_L0 154) 154) H := by
  rw [go_ca sh_154]; exact hP 154 _ rfl
set_option maxRecDepth 100000 in
theorem go_c155 {D : va_G} {H : Heap} (q0 q1 q2 b : Nat) (dA : Nat → ClassId) (f g adE : Nat → Nat) (hP : va_P D vwCl (go_W q0 q1 q2 (adE 1003) (adE 1002) dA f g) H) : va_at D vwCl ((go_ad q0 q1 q2 b f g adE) 155, gs_cell (go_ad q0 q1 q2 b f g adE) dA (gs_M0 155) (gs_L0 155) 155) H := by
  rw [go_ca sh_155]; exact hP 155 _ rfl
set_option maxRecDepth 100000 in
theorem go_c156 {D : va_G} {H : Heap} (q0 q1 q2 b : Nat) (dA : Nat → ClassId) (f g adE : Nat → Nat) (hP : va_P D vwCl (go_W q0 q1 q2 (adE 1003) (adE 1002) dA f g) H) : va_at D vwCl ((go_ad q0 q1 q2 b f g adE) 156, gs_cell (go_ad q0 q1 q2 b f g adE) dA (gs_M0 156) (gs_L0 156) 156) H := by
  rw [go_ca sh_156]; exact hP 156 _ rfl
set_option maxRecDepth 100000 in
theorem go_c157 {D : va_G} {H : Heap} (q0 q1 q2 b : Nat) (dA : Nat → ClassId) (f g adE : Nat → Nat) (hP : va_P D vwCl (go_W q0 q1 q2 (adE 1003) (adE 1002) dA f g) H) : va_at D vwCl ((go_ad q0 q1 q2 b f g adE) 157, gs_cell (go_ad q0 q1 q2 b f g adE) dA (gs_M0 157) (gs_L0 157) 157) H := by
  rw [go_ca sh_157]; exact hP 157 _ rfl
set_option maxRecDepth 100000 in
theorem go_c158 {D : va_G} {H : Heap} (q0 q1 q2 b : Nat) (dA : Nat → ClassId) (f g adE : Nat → Nat) (hP : va_P D vwCl (go_W q0 q1 q2 (adE 1003) (adE 1002) dA f g) H) : va_at D vwCl ((go_ad q0 q1 q2 b f g adE) 158, gs_cell (go_ad q0 q1 q2 b f g adE) dA (gs_M0 158) (gs_L0 158) 158) H := by
  rw [go_ca sh_158]; exact hP 158 _ rfl
set_option maxRecDepth 100000 in
theorem go_c159 {D : va_G} {H : Heap} (q0 q1 q2 b : Nat) (dA : Nat → ClassId) (f g adE : Nat → Nat) (hP : va_P D vwCl (go_W q0 q1 q2 (adE 1003) (adE 1002) dA f g) H) : va_at D vwCl ((go_ad q0 q1 q2 b f g adE) 159, gs_cell (go_ad q0 q1 q2 b f g adE) dA (gs_M0 159) (gs_L0 159) 159) H := by
  rw [go_ca sh_159]; exact hP 159 _ rfl
set_option maxRecDepth 100000 in
theorem go_c160 {D : va_G} {H : Heap} (q0 q1 q2 b : Nat) (dA : Nat → ClassId) (f g adE : Nat → Nat) (hP : va_P D vwCl (go_W q0 q1 q2 (adE 1003) (adE 1002) dA f g) H) : va_at D vwCl ((go_ad q0 q1 q2 b f g adE) 160, gs_cell (go_ad q0 q1 q2 b f g adE) dA (gs_M0 160) (gs_L0 160) 160) H := by
  rw [go_ca sh_160]; exact hP 160 _ rfl
set_option maxRecDepth 100000 in
theorem go_c161 {D : va_G} {H : Heap} (q0 q1 q2 b : Nat) (dA : Nat → ClassId) (f g adE : Nat → Nat) (hP : va_P D vwCl (go_W q0 q1 q2 (adE 1003) (adE 1002) dA f g) H) : va_at D vwCl ((go_ad q0 q1 q2 b f g adE) 161, gs_cell (go_ad q0 q1 q2 b f g adE) dA (gs_M0 161) (gs_L0 161) 161) H := by
  rw [go_ca sh_161]; exact hP 161 _ rfl
set_option maxRecDepth 100000 in
theorem go_c162 {D : va_G} {H : Heap} (q0 q1 q2 b : Nat) (dA : Nat → ClassId) (f g adE : Nat → Nat) (hP : va_P D vwCl (go_W q0 q1 q2 (adE 1003) (adE 1002) dA f g) H) : va_at D vwCl ((go_ad q0 q1 q2 b f g adE) 162, gs_cell (go_ad q0 q1 q2 b f g adE) dA (gs_M0 162) (gs_L0 162) 162) H := by
  rw [go_ca sh_162]; exact hP 162 _ rfl
set_option maxRecDepth 100000 in
theorem go_c163 {D : va_G} {H : Heap} (q0 q1 q2 b : Nat) (dA : Nat → ClassId) (f g adE : Nat → Nat) (hP : va_P D vwCl (go_W q0 q1 q2 (adE 1003) (adE 1002) dA f g) H) : va_at D vwCl ((go_ad q0 q1 q2 b f g adE) 163, gs_cell (go_ad q0 q1 q2 b f g adE) dA (gs_M0 163) (gs_L0 163) 163) H := by
  rw [go_ca sh_163]; exact hP 163 _ rfl
set_option maxRecDepth 100000 in
theorem go_c164 {D : va_G} {H : Heap} (q0 q1 q2 b : Nat) (dA : Nat → ClassId) (f g adE : Nat → Nat) (hP : va_P D vwCl (go_W q0 q1 q2 (adE 1003) (adE 1002) dA f g) H) : va_at D vwCl ((go_ad q0 q1 q2 b f g adE) 164, gs_cell (go_ad q0 q1 q2 b f g adE) dA (gs_M0 164) (gs_L0 164) 164) H := by
  rw [go_ca sh_164]; exact hP 164 _ rfl
set_option maxRecDepth 100000 in
theorem go_c165 {D : va_G} {H : Heap} (q0 q1 q2 b : Nat) (dA : Nat → ClassId) (f g adE : Nat → Nat) (hP : va_P D vwCl (go_W q0 q1 q2 (adE 1003) (adE 1002) dA f g) H) : va_at D vwCl ((go_ad q0 q1 q2 b f g adE) 165, gs_cell (go_ad q0 q1 q2 b f g adE) dA (gs_M0 165) (gs_L0 165) 165) H := by
  rw [go_ca sh_165]; exact hP 165 _ rfl
set_option maxRecDepth 100000 in
theorem go_c166 {D : va_G} {H : Heap} (q0 q1 q2 b : Nat) (dA : Nat → ClassId) (f g adE : Nat → Nat) (hP : va_P D vwCl (go_W q0 q1 q2 (adE 1003) (adE 1002) dA f g) H) : va_at D vwCl ((go_ad q0 q1 q2 b f g adE) 166, gs_cell (go_ad q0 q1 q2 b f g adE) dA (gs_M0 166) (gs_L0 166) 166) H := by
  rw [go_ca sh_166]; exact hP 166 _ rfl
set_option maxRecDepth 100000 in
theorem go_c167 {D : va_G} {H : Heap} (q0 q1 q2 b : Nat) (dA : Nat → ClassId) (f g adE : Nat → Nat) (hP : va_P D vwCl (go_W q0 q1 q2 (adE 1003) (adE 1002) dA f g) H) : va_at D vwCl ((go_ad q0 q1 q2 b f g adE) 167, gs_cell (go_ad q0 q1 q2 b f g adE) dA (gs_M0 167) (gs_L0 167) 167) H := by
  rw [go_ca sh_167]; exact hP 167 _ rfl
set_option maxRecDepth 100000 in
theorem go_c168 {D : va_G} {H : Heap} (q0 q1 q2 b : Nat) (dA : Nat → ClassId) (f g adE : Nat → Nat) (hP : va_P D vwCl (go_W q0 q1 q2 (adE 1003) (adE 1002) dA f g) H) : va_at D vwCl ((go_ad q0 q1 q2 b f g adE) 168, gs_cell (go_ad q0 q1 q2 b f g adE) dA (gs_M0 168) (gs_L0 168) 168) H := by
  rw [go_ca sh_168]; exact hP 168 _ rfl
set_option maxRecDepth 100000 in
theorem go_c169 {D : va_G} {H : Heap} (q0 q1 q2 b : Nat) (dA : Nat → ClassId) (f g adE : Nat → Nat) (hP : va_P D vwCl (go_W q0 q1 q2 (adE 1003) (adE 1002) dA f g) H) : va_at D vwCl ((go_ad q0 q1 q2 b f g adE) 169, gs_cell (go_ad q0 q1 q2 b f g adE) dA (gs_M0 169) (gs_L0 169) 169) H := by
  rw [go_ca sh_169]; exact hP 169 _ rfl
set_option maxRecDepth 100000 in
theorem go_c170 {D : va_G} {H : Heap} (q0 q1 q2 b : Nat) (dA : Nat → ClassId) (f g adE : Nat → Nat) (hP : va_P D vwCl (go_W q0 q1 q2 (adE 1003) (adE 1002) dA f g) H) : va_at D vwCl ((go_ad q0 q1 q2 b f g adE) 170, gs_cell (go_ad q0 q1 q2 b f g adE) dA (gs_M0 170) (gs_L0 170) 170) H := by
  rw [go_ca sh_170]; exact hP 170 _ rfl
theorem go_cells0 {D : va_G} {H : Heap} (q0 q1 q2 b : Nat) (dA : Nat → ClassId) (f g adE : Nat → Nat) (hP : va_P D vwCl (go_W q0 q1 q2 (adE 1003) (adE 1002) dA f g) H) (k : Nat) (h1 : 0 ≤ k) (h2 : k < 20) : va_at D vwCl ((go_ad q0 q1 q2 b f g adE) k, gs_cell (go_ad q0 q1 q2 b f g adE) dA (gs_M0 k) (gs_L0 k) k) H := by
  have h : k = 0 ∨ k = 1 ∨ k = 2 ∨ k = 3 ∨ k = 4 ∨ k = 5 ∨ k = 6 ∨ k = 7 ∨ k = 8 ∨ k = 9 ∨ k = 10 ∨ k = 11 ∨ k = 12 ∨ k = 13 ∨ k = 14 ∨ k = 15 ∨ k = 16 ∨ k = 17 ∨ k = 18 ∨ k = 19 := by omega
  rcases h with rfl | rfl | rfl | rfl | rfl | rfl | rfl | rfl | rfl | rfl | rfl | rfl | rfl | rfl | rfl | rfl | rfl | rfl | rfl | rfl
  · exact go_c0 q0 q1 q2 b dA f g adE hP
  · exact go_c1 q0 q1 q2 b dA f g adE hP
  · exact go_c2 q0 q1 q2 b dA f g adE hP
  · exact go_c3 q0 q1 q2 b dA f g adE hP
  · exact go_c4 q0 q1 q2 b dA f g adE hP
  · exact go_c5 q0 q1 q2 b dA f g adE hP
  · exact go_c6 q0 q1 q2 b dA f g adE hP
  · exact go_c7 q0 q1 q2 b dA f g adE hP
  · exact go_c8 q0 q1 q2 b dA f g adE hP
  · exact go_c9 q0 q1 q2 b dA f g adE hP
  · exact go_c10 q0 q1 q2 b dA f g adE hP
  · exact go_c11 q0 q1 q2 b dA f g adE hP
  · exact go_c12 q0 q1 q2 b dA f g adE hP
  · exact go_c13 q0 q1 q2 b dA f g adE hP
  · exact go_c14 q0 q1 q2 b dA f g adE hP
  · exact go_c15 q0 q1 q2 b dA f g adE hP
  · exact go_c16 q0 q1 q2 b dA f g adE hP
  · exact go_c17 q0 q1 q2 b dA f g adE hP
  · exact go_c18 q0 q1 q2 b dA f g adE hP
  · exact go_c19 q0 q1 q2 b dA f g adE hP
theorem go_cells1 {D : va_G} {H : Heap} (q0 q1 q2 b : Nat) (dA : Nat → ClassId) (f g adE : Nat → Nat) (hP : va_P D vwCl (go_W q0 q1 q2 (adE 1003) (adE 1002) dA f g) H) (k : Nat) (h1 : 20 ≤ k) (h2 : k < 40) : va_at D vwCl ((go_ad q0 q1 q2 b f g adE) k, gs_cell (go_ad q0 q1 q2 b f g adE) dA (gs_M0 k) (gs_L0 k) k) H := by
  have h : k = 20 ∨ k = 21 ∨ k = 22 ∨ k = 23 ∨ k = 24 ∨ k = 25 ∨ k = 26 ∨ k = 27 ∨ k = 28 ∨ k = 29 ∨ k = 30 ∨ k = 31 ∨ k = 32 ∨ k = 33 ∨ k = 34 ∨ k = 35 ∨ k = 36 ∨ k = 37 ∨ k = 38 ∨ k = 39 := by omega
  rcases h with rfl | rfl | rfl | rfl | rfl | rfl | rfl | rfl | rfl | rfl | rfl | rfl | rfl | rfl | rfl | rfl | rfl | rfl | rfl | rfl
  · exact go_c20 q0 q1 q2 b dA f g adE hP
  · exact go_c21 q0 q1 q2 b dA f g adE hP
  · exact go_c22 q0 q1 q2 b dA f g adE hP
  · exact go_c23 q0 q1 q2 b dA f g adE hP
  · exact go_c24 q0 q1 q2 b dA f g adE hP
  · exact go_c25 q0 q1 q2 b dA f g adE hP
  · exact go_c26 q0 q1 q2 b dA f g adE hP
  · exact go_c27 q0 q1 q2 b dA f g adE hP
  · exact go_c28 q0 q1 q2 b dA f g adE hP
  · exact go_c29 q0 q1 q2 b dA f g adE hP
  · exact go_c30 q0 q1 q2 b dA f g adE hP
  · exact go_c31 q0 q1 q2 b dA f g adE hP
  · exact go_c32 q0 q1 q2 b dA f g adE hP
  · exact go_c33 q0 q1 q2 b dA f g adE hP
  · exact go_c34 q0 q1 q2 b dA f g adE hP
  · exact go_c35 q0 q1 q2 b dA f g adE hP
  · exact go_c36 q0 q1 q2 b dA f g adE hP
  · exact go_c37 q0 q1 q2 b dA f g adE hP
  · exact go_c38 q0 q1 q2 b dA f g adE hP
  · exact go_c39 q0 q1 q2 b dA f g adE hP
theorem go_cells2 {D : va_G} {H : Heap} (q0 q1 q2 b : Nat) (dA : Nat → ClassId) (f g adE : Nat → Nat) (hP : va_P D vwCl (go_W q0 q1 q2 (adE 1003) (adE 1002) dA f g) H) (k : Nat) (h1 : 40 ≤ k) (h2 : k < 60) : va_at D vwCl ((go_ad q0 q1 q2 b f g adE) k, gs_cell (go_ad q0 q1 q2 b f g adE) dA (gs_M0 k) (gs_L0 k) k) H := by
  have h : k = 40 ∨ k = 41 ∨ k = 42 ∨ k = 43 ∨ k = 44 ∨ k = 45 ∨ k = 46 ∨ k = 47 ∨ k = 48 ∨ k = 49 ∨ k = 50 ∨ k = 51 ∨ k = 52 ∨ k = 53 ∨ k = 54 ∨ k = 55 ∨ k = 56 ∨ k = 57 ∨ k = 58 ∨ k = 59 := by omega
  rcases h with rfl | rfl | rfl | rfl | rfl | rfl | rfl | rfl | rfl | rfl | rfl | rfl | rfl | rfl | rfl | rfl | rfl | rfl | rfl | rfl
  · exact go_c40 q0 q1 q2 b dA f g adE hP
  · exact go_c41 q0 q1 q2 b dA f g adE hP
  · exact go_c42 q0 q1 q2 b dA f g adE hP
  · exact go_c43 q0 q1 q2 b dA f g adE hP
  · exact go_c44 q0 q1 q2 b dA f g adE hP
  · exact go_c45 q0 q1 q2 b dA f g adE hP
  · exact go_c46 q0 q1 q2 b dA f g adE hP
  · exact go_c47 q0 q1 q2 b dA f g adE hP
  · exact go_c48 q0 q1 q2 b dA f g adE hP
  · exact go_c49 q0 q1 q2 b dA f g adE hP
  · exact go_c50 q0 q1 q2 b dA f g adE hP
  · exact go_c51 q0 q1 q2 b dA f g adE hP
  · exact go_c52 q0 q1 q2 b dA f g adE hP
  · exact go_c53 q0 q1 q2 b dA f g adE hP
  · exact go_c54 q0 q1 q2 b dA f g adE hP
  · exact go_c55 q0 q1 q2 b dA f g adE hP
  · exact go_c56 q0 q1 q2 b dA f g adE hP
  · exact go_c57 q0 q1 q2 b dA f g adE hP
  · exact go_c58 q0 q1 q2 b dA f g adE hP
  · exact go_c59 q0 q1 q2 b dA f g adE hP
theorem go_cells3 {D : va_G} {H : Heap} (q0 q1 q2 b : Nat) (dA : Nat → ClassId) (f g adE : Nat → Nat) (hP : va_P D vwCl (go_W q0 q1 q2 (adE 1003) (adE 1002) dA f g) H) (k : Nat) (h1 : 60 ≤ k) (h2 : k < 80) : va_at D vwCl ((go_ad q0 q1 q2 b f g adE) k, gs_cell (go_ad q0 q1 q2 b f g adE) dA (gs_M0 k) (gs_L0 k) k) H := by
  have h : k = 60 ∨ k = 61 ∨ k = 62 ∨ k = 63 ∨ k = 64 ∨ k = 65 ∨ k = 66 ∨ k = 67 ∨ k = 68 ∨ k = 69 ∨ k = 70 ∨ k = 71 ∨ k = 72 ∨ k = 73 ∨ k = 74 ∨ k = 75 ∨ k = 76 ∨ k = 77 ∨ k = 78 ∨ k = 79 := by omega
  rcases h with rfl | rfl | rfl | rfl | rfl | rfl | rfl | rfl | rfl | rfl | rfl | rfl | rfl | rfl | rfl | rfl | rfl | rfl | rfl | rfl
  · exact go_c60 q0 q1 q2 b dA f g adE hP
  · exact go_c61 q0 q1 q2 b dA f g adE hP
  · exact go_c62 q0 q1 q2 b dA f g adE hP
  · exact go_c63 q0 q1 q2 b dA f g adE hP
  · exact go_c64 q0 q1 q2 b dA f g adE hP
  · exact go_c65 q0 q1 q2 b dA f g adE hP
  · exact go_c66 q0 q1 q2 b dA f g adE hP
  · exact go_c67 q0 q1 q2 b dA f g adE hP
  · exact go_c68 q0 q1 q2 b dA f g adE hP
  · exact go_c69 q0 q1 q2 b dA f g adE hP
  · exact go_c70 q0 q1 q2 b dA f g adE hP
  · exact go_c71 q0 q1 q2 b dA f g adE hP
  · exact go_c72 q0 q1 q2 b dA f g adE hP
  · exact go_c73 q0 q1 q2 b dA f g adE hP
  · exact go_c74 q0 q1 q2 b dA f g adE hP
  · exact go_c75 q0 q1 q2 b dA f g adE hP
  · exact go_c76 q0 q1 q2 b dA f g adE hP
  · exact go_c77 q0 q1 q2 b dA f g adE hP
  · exact go_c78 q0 q1 q2 b dA f g adE hP
  · exact go_c79 q0 q1 q2 b dA f g adE hP
theorem go_cells4 {D : va_G} {H : Heap} (q0 q1 q2 b : Nat) (dA : Nat → ClassId) (f g adE : Nat → Nat) (hP : va_P D vwCl (go_W q0 q1 q2 (adE 1003) (adE 1002) dA f g) H) (k : Nat) (h1 : 80 ≤ k) (h2 : k < 100) : va_at D vwCl ((go_ad q0 q1 q2 b f g adE) k, gs_cell (go_ad q0 q1 q2 b f g adE) dA (gs_M0 k) (gs_L0 k) k) H := by
  have h : k = 80 ∨ k = 81 ∨ k = 82 ∨ k = 83 ∨ k = 84 ∨ k = 85 ∨ k = 86 ∨ k = 87 ∨ k = 88 ∨ k = 89 ∨ k = 90 ∨ k = 91 ∨ k = 92 ∨ k = 93 ∨ k = 94 ∨ k = 95 ∨ k = 96 ∨ k = 97 ∨ k = 98 ∨ k = 99 := by omega
  rcases h with rfl | rfl | rfl | rfl | rfl | rfl | rfl | rfl | rfl | rfl | rfl | rfl | rfl | rfl | rfl | rfl | rfl | rfl | rfl | rfl
  · exact go_c80 q0 q1 q2 b dA f g adE hP
  · exact go_c81 q0 q1 q2 b dA f g adE hP
  · exact go_c82 q0 q1 q2 b dA f g adE hP
  · exact go_c83 q0 q1 q2 b dA f g adE hP
  · exact go_c84 q0 q1 q2 b dA f g adE hP
  · exact go_c85 q0 q1 q2 b dA f g adE hP
  · exact go_c86 q0 q1 q2 b dA f g adE hP
  · exact go_c87 q0 q1 q2 b dA f g adE hP
  · exact go_c88 q0 q1 q2 b dA f g adE hP
  · exact go_c89 q0 q1 q2 b dA f g adE hP
  · exact go_c90 q0 q1 q2 b dA f g adE hP
  · exact go_c91 q0 q1 q2 b dA f g adE hP
  · exact go_c92 q0 q1 q2 b dA f g adE hP
  · exact go_c93 q0 q1 q2 b dA f g adE hP
  · exact go_c94 q0 q1 q2 b dA f g adE hP
  · exact go_c95 q0 q1 q2 b dA f g adE hP
  · exact go_c96 q0 q1 q2 b dA f g adE hP
  · exact go_c97 q0 q1 q2 b dA f g adE hP
  · exact go_c98 q0 q1 q2 b dA f g adE hP
  · exact go_c99 q0 q1 q2 b dA f g adE hP
theorem go_cells5 {D : va_G} {H : Heap} (q0 q1 q2 b : Nat) (dA : Nat → ClassId) (f g adE : Nat → Nat) (hP : va_P D vwCl (go_W q0 q1 q2 (adE 1003) (adE 1002) dA f g) H) (k : Nat) (h1 : 100 ≤ k) (h2 : k < 120) : va_at D vwCl ((go_ad q0 q1 q2 b f g adE) k, gs_cell (go_ad q0 q1 q2 b f g adE) dA (gs_M0 k) (gs_L0 k) k) H := by
  have h : k = 100 ∨ k = 101 ∨ k = 102 ∨ k = 103 ∨ k = 104 ∨ k = 105 ∨ k = 106 ∨ k = 107 ∨ k = 108 ∨ k = 109 ∨ k = 110 ∨ k = 111 ∨ k = 112 ∨ k = 113 ∨ k = 114 ∨ k = 115 ∨ k = 116 ∨ k = 117 ∨ k = 118 ∨ k = 119 := by omega
  rcases h with rfl | rfl | rfl | rfl | rfl | rfl | rfl | rfl | rfl | rfl | rfl | rfl | rfl | rfl | rfl | rfl | rfl | rfl | rfl | rfl
  · exact go_c100 q0 q1 q2 b dA f g adE hP
  · exact go_c101 q0 q1 q2 b dA f g adE hP
  · exact go_c102 q0 q1 q2 b dA f g adE hP
  · exact go_c103 q0 q1 q2 b dA f g adE hP
  · exact go_c104 q0 q1 q2 b dA f g adE hP
  · exact go_c105 q0 q1 q2 b dA f g adE hP
  · exact go_c106 q0 q1 q2 b dA f g adE hP
  · exact go_c107 q0 q1 q2 b dA f g adE hP
  · exact go_c108 q0 q1 q2 b dA f g adE hP
  · exact go_c109 q0 q1 q2 b dA f g adE hP
  · exact go_c110 q0 q1 q2 b dA f g adE hP
  · exact go_c111 q0 q1 q2 b dA f g adE hP
  · exact go_c112 q0 q1 q2 b dA f g adE hP
  · exact go_c113 q0 q1 q2 b dA f g adE hP
  · exact go_c114 q0 q1 q2 b dA f g adE hP
  · exact go_c115 q0 q1 q2 b dA f g adE hP
  · exact go_c116 q0 q1 q2 b dA f g adE hP
  · exact go_c117 q0 q1 q2 b dA f g adE hP
  · exact go_c118 q0 q1 q2 b dA f g adE hP
  · exact go_c119 q0 q1 q2 b dA f g adE hP
theorem go_cells6 {D : va_G} {H : Heap} (q0 q1 q2 b : Nat) (dA : Nat → ClassId) (f g adE : Nat → Nat) (hP : va_P D vwCl (go_W q0 q1 q2 (adE 1003) (adE 1002) dA f g) H) (k : Nat) (h1 : 120 ≤ k) (h2 : k < 140) : va_at D vwCl ((go_ad q0 q1 q2 b f g adE) k, gs_cell (go_ad q0 q1 q2 b f g adE) dA (gs_M0 k) (gs_L0 k) k) H := by
  have h : k = 120 ∨ k = 121 ∨ k = 122 ∨ k = 123 ∨ k = 124 ∨ k = 125 ∨ k = 126 ∨ k = 127 ∨ k = 128 ∨ k = 129 ∨ k = 130 ∨ k = 131 ∨ k = 132 ∨ k = 133 ∨ k = 134 ∨ k = 135 ∨ k = 136 ∨ k = 137 ∨ k = 138 ∨ k = 139 := by omega
  rcases h with rfl | rfl | rfl | rfl | rfl | rfl | rfl | rfl | rfl | rfl | rfl | rfl | rfl | rfl | rfl | rfl | rfl | rfl | rfl | rfl
  · exact go_c120 q0 q1 q2 b dA f g adE hP
  · exact go_c121 q0 q1 q2 b dA f g adE hP
  · exact go_c122 q0 q1 q2 b dA f g adE hP
  · exact go_c123 q0 q1 q2 b dA f g adE hP
  · exact go_c124 q0 q1 q2 b dA f g adE hP
  · exact go_c125 q0 q1 q2 b dA f g adE hP
  · exact go_c126 q0 q1 q2 b dA f g adE hP
  · exact go_c127 q0 q1 q2 b dA f g adE hP
  · exact go_c128 q0 q1 q2 b dA f g adE hP
  · exact go_c129 q0 q1 q2 b dA f g adE hP
  · exact go_c130 q0 q1 q2 b dA f g adE hP
  · exact go_c131 q0 q1 q2 b dA f g adE hP
  · exact go_c132 q0 q1 q2 b dA f g adE hP
  · exact go_c133 q0 q1 q2 b dA f g adE hP
  · exact go_c134 q0 q1 q2 b dA f g adE hP
  · exact go_c135 q0 q1 q2 b dA f g adE hP
  · exact go_c136 q0 q1 q2 b dA f g adE hP
  · exact go_c137 q0 q1 q2 b dA f g adE hP
  · exact go_c138 q0 q1 q2 b dA f g adE hP
  · exact go_c139 q0 q1 q2 b dA f g adE hP
theorem go_cells7 {D : va_G} {H : Heap} (q0 q1 q2 b : Nat) (dA : Nat → ClassId) (f g adE : Nat → Nat) (hP : va_P D vwCl (go_W q0 q1 q2 (adE 1003) (adE 1002) dA f g) H) (k : Nat) (h1 : 140 ≤ k) (h2 : k < 160) : va_at D vwCl ((go_ad q0 q1 q2 b f g adE) k, gs_cell (go_ad q0 q1 q2 b f g adE) dA (gs_M0 k) (gs_L0 k) k) H := by
  have h : k = 140 ∨ k = 141 ∨ k = 142 ∨ k = 143 ∨ k = 144 ∨ k = 145 ∨ k = 146 ∨ k = 147 ∨ k = 148 ∨ k = 149 ∨ k = 150 ∨ k = 151 ∨ k = 152 ∨ k = 153 ∨ k = 154 ∨ k = 155 ∨ k = 156 ∨ k = 157 ∨ k = 158 ∨ k = 159 := by omega
  rcases h with rfl | rfl | rfl | rfl | rfl | rfl | rfl | rfl | rfl | rfl | rfl | rfl | rfl | rfl | rfl | rfl | rfl | rfl | rfl | rfl
  · exact go_c140 q0 q1 q2 b dA f g adE hP
  · exact go_c141 q0 q1 q2 b dA f g adE hP
  · exact go_c142 q0 q1 q2 b dA f g adE hP
  · exact go_c143 q0 q1 q2 b dA f g adE hP
  · exact go_c144 q0 q1 q2 b dA f g adE hP
  · exact go_c145 q0 q1 q2 b dA f g adE hP
  · exact go_c146 q0 q1 q2 b dA f g adE hP
  · exact go_c147 q0 q1 q2 b dA f g adE hP
  · exact go_c148 q0 q1 q2 b dA f g adE hP
  · exact go_c149 q0 q1 q2 b dA f g adE hP
  · exact go_c150 q0 q1 q2 b dA f g adE hP
  · exact go_c151 q0 q1 q2 b dA f g adE hP
  · exact go_c152 q0 q1 q2 b dA f g adE hP
  · exact go_c153 q0 q1 q2 b dA f g adE hP
  · exact go_c154 q0 q1 q2 b dA f g adE hP
  · exact go_c155 q0 q1 q2 b dA f g adE hP
  · exact go_c156 q0 q1 q2 b dA f g adE hP
  · exact go_c157 q0 q1 q2 b dA f g adE hP
  · exact go_c158 q0 q1 q2 b dA f g adE hP
  · exact go_c159 q0 q1 q2 b dA f g adE hP
theorem go_cells8 {D : va_G} {H : Heap} (q0 q1 q2 b : Nat) (dA : Nat → ClassId) (f g adE : Nat → Nat) (hP : va_P D vwCl (go_W q0 q1 q2 (adE 1003) (adE 1002) dA f g) H) (k : Nat) (h1 : 160 ≤ k) (h2 : k < 171) : va_at D vwCl ((go_ad q0 q1 q2 b f g adE) k, gs_cell (go_ad q0 q1 q2 b f g adE) dA (gs_M0 k) (gs_L0 k) k) H := by
  have h : k = 160 ∨ k = 161 ∨ k = 162 ∨ k = 163 ∨ k = 164 ∨ k = 165 ∨ k = 166 ∨ k = 167 ∨ k = 168 ∨ k = 169 ∨ k = 170 := by omega
  rcases h with rfl | rfl | rfl | rfl | rfl | rfl | rfl | rfl | rfl | rfl | rfl
  · exact go_c160 q0 q1 q2 b dA f g adE hP
  · exact go_c161 q0 q1 q2 b dA f g adE hP
  · exact go_c162 q0 q1 q2 b dA f g adE hP
  · exact go_c163 q0 q1 q2 b dA f g adE hP
  · exact go_c164 q0 q1 q2 b dA f g adE hP
  · exact go_c165 q0 q1 q2 b dA f g adE hP
  · exact go_c166 q0 q1 q2 b dA f g adE hP
  · exact go_c167 q0 q1 q2 b dA f g adE hP
  · exact go_c168 q0 q1 q2 b dA f g adE hP
  · exact go_c169 q0 q1 q2 b dA f g adE hP
  · exact go_c170 q0 q1 q2 b dA f g adE hP
theorem go_cells {D : va_G} {H : Heap} (q0 q1 q2 b : Nat) (dA : Nat → ClassId) (f g adE : Nat → Nat) (hP : va_P D vwCl (go_W q0 q1 q2 (adE 1003) (adE 1002) dA f g) H) (k : Nat) (hk : k < 171) : va_at D vwCl ((go_ad q0 q1 q2 b f g adE) k, gs_cell (go_ad q0 q1 q2 b f g adE) dA (gs_M0 k) (gs_L0 k) k) H := by
  by_cases h0 : k < 20
  · exact go_cells0 q0 q1 q2 b dA f g adE hP k (by omega) h0
  by_cases h1 : k < 40
  · exact go_cells1 q0 q1 q2 b dA f g adE hP k (by omega) h1
  by_cases h2 : k < 60
  · exact go_cells2 q0 q1 q2 b dA f g adE hP k (by omega) h2
  by_cases h3 : k < 80
  · exact go_cells3 q0 q1 q2 b dA f g adE hP k (by omega) h3
  by_cases h4 : k < 100
  · exact go_cells4 q0 q1 q2 b dA f g adE hP k (by omega) h4
  by_cases h5 : k < 120
  · exact go_cells5 q0 q1 q2 b dA f g adE hP k (by omega) h5
  by_cases h6 : k < 140
  · exact go_cells6 q0 q1 q2 b dA f g adE hP k (by omega) h6
  by_cases h7 : k < 160
  · exact go_cells7 q0 q1 q2 b dA f g adE hP k (by omega) h7
  by_cases h8 : k < 171
  · exact go_cells8 q0 q1 q2 b dA f g adE hP k (by omega) h8
  exact absurd hk (by omega)
set_option maxRecDepth 100000 in
set_option maxHeartbeats 8000000 in
theorem go_map (q0 q1 q2 b : Nat) (dA : Nat → ClassId) (f g adE : Nat → Nat) : (List.range 171).map (go_ad q0 q1 q2 b f g adE) = (go_W q0 q1 q2 (adE 1003) (adE 1002) dA f g).map (fun q => q.1) := rfl
theorem go_k1 (q0 q1 q2 b : Nat) (dA : Nat → ClassId) (f g adE : Nat → Nat) (i : Nat) (hi : i < 171) : (go_ad q0 q1 q2 b f g adE) i = ((go_W q0 q1 q2 (adE 1003) (adE 1002) dA f g).map (fun q => q.1)).getD i 0 := by
  rw [← go_map q0 q1 q2 b dA f g adE]
  simp [List.getD_eq_getElem?_getD, hi]
