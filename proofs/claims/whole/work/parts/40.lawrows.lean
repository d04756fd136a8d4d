def f_X11_person (M : gs_M) (x1 : Int32) (x2 : Int32) : Option (Int32 × Int32) :=
  gs_b1 (f_X11_isPerson M x1) fun v1 =>
  if v1 = (0 : Int32) then
  some (1, 0)
  else
  if x2 = (0 : Int32) then
  gs_b1 (f_X6_of M x1 (0 : Int32)) fun v5 =>
  some (0, v5)
  else
  if x2 = (1 : Int32) then
  gs_b1 (f_X9_told M x1 (1 : Int32)) fun v8 =>
  some (0, v8)
  else
  if x2 = (2 : Int32) then
  gs_b1 (f_X6_of M x1 (1 : Int32)) fun v11 =>
  some (0, v11)
  else
  if x2 = (3 : Int32) then
  gs_b1 (f_X6_of M x1 (2 : Int32)) fun v14 =>
  some (0, v14)
  else
  if x2 = (4 : Int32) then
  gs_b1 (f_X9_spouse M x1) fun v17 =>
  some (0, v17)
  else
  if x2 = (5 : Int32) then
  gs_b1 (f_X6_of M x1 (3 : Int32)) fun v20 =>
  some (0, v20)
  else
  if x2 = (6 : Int32) then
  gs_b1 (f_X6_of M x1 (4 : Int32)) fun v23 =>
  some (0, v23)
  else
  if x2 = (7 : Int32) then
  gs_b1 (f_X6_of M x1 (5 : Int32)) fun v26 =>
  some (0, v26)
  else
  some (1, 0)
def R_law : String := "GuiltySleepLaw"
def lw_P (b : Addr) (xs : List Int32) (args : Array Value) (s : State) : Prop := args = #[.ref b] ∧ s.IntsAt b xs ∧ xs.length ≤ 3072 ∧ (Jvm.Cond.and given_1 narrow_1).before args s = true
def lw_Q (_ : Array Value) (s : State) (o : Outcome) (t : State) : Prop := o = .returned (some (.int 1)) ∧ Framed s o t [] 601024 7293034
def lw_Z (below : List Frame) (a : Array Value) (s : State) : State → Prop := fun t => ∃ o, t.status = .running ∧ Ended t below o ∧ lw_Q a s o t
/-- the law's own end, with 1 on the stack, nothing written that was there before, its room as the claim has it -/
theorem lw_ret {p : Program} {l : Launch} {e : Env} {s : State} {m : MethodId} {below : List Frame} {meth : Method} {c : Code} {b : Nat} (hx : p.tables.exec = Jvm.exec) (hb : c.code = code) (hr : meth.sig.returnType = ret) (hlocks : meth.locks = false) {pc : Nat} {H : Heap} {ls : Array Slot} (hdg : decode code pc = .ok (.ireturn, 1)) : W p l e room_1 s m #[Value.ref b] below meth c H [] 601024 7293034 (lw_Z below #[Value.ref b] s) (F0 m pc ls [.int 1]) := by
  intro T hT X
  obtain ⟨fs, hret, hrun, hended, hW, hframe⟩ := X.leave (v := some (.int 1)) (hlocks := hlocks) (fun h => by rw [hr] at h; cases h)
  have hmeth' : T.vm.method? m = some meth := X.method'
  refine ⟨T.setFrames fs, ?_, .returned (some (.int 1)), hrun, hended, rfl, ⟨_, rfl⟩, hW, hframe⟩
  jvm_step X.here [X.here.top, hx, hb, hdg, hmeth', hr, ret, narrow_b1]
  (try refine ⟨rfl, ?_⟩); (try refine ⟨rfl, ?_⟩)
  first | (intro acts; rw [hret _ acts rfl rfl rfl]) | rw [hret _ _ rfl rfl rfl]
  exact Steps.refl _
/-- what holds at the law's entry: the machine, the code, the tables' words (any of lw_tbl by 'hts w (by decide +kernel)'), the script of L ints xs at the cell b, what the Statement gives of the start (any of its parts by flat_of_before) -/
def lw_At (p : Program) (s : State) (m : MethodId) (meth : Method) (c : Code) (b L : Nat) (xs : Nat → Int32) : Prop :=
  p.tables.exec = Jvm.exec ∧ c.code = code ∧ meth.sig.returnType = ret ∧ c.maxLocals = 7 ∧ s.vm.findClass R_law = some m.cls ∧ (∀ w ∈ lw_tbl, w.before #[Value.ref b] s = true) ∧ va_X b L xs s s.heap ∧ b < s.heap.size ∧ meth.locks = false ∧ (Jvm.Cond.and given_1 narrow_1).before #[Value.ref b] s = true
abbrev gl_X : Type := Program × Launch × Env × State × MethodId × List Frame × Method × Code × (Nat → Nat) × va_G × (Nat → ClassId) × Nat × Nat × (Nat → Int32)
def gl_AW (X : gl_X) (k9 z9 : Nat) (pc : Nat) (ls : List (Nat × Value)) (st : List Value) (M : gs_M) (L : gs_L) : Prop :=
  match X with
  | (p, l, e, s, m, below, meth, c, ad, D, dA, b9, L9, xs) => ∀ (H : Heap) (locs : List Loc) (la : Array Slot), lv_has la c.maxLocals (gs_lm ad ls) → va_P D vwCl (gs_ws ad dA M L) H → va_S (fun q => s.heap.size ≤ q) s.heap H locs → W p l e room_1 s m #[Value.ref b9] below meth c H locs k9 z9 (lw_Z below #[Value.ref b9] s) (F0 m pc la (st.map (gs_cv ad)))
def gl_C (X : gl_X) : Prop :=
  match X with
  | (p, l, e, s, m, below, meth, c, ad, D, dA, b9, L9, xs) => p.tables.exec = Jvm.exec ∧ c.code = code ∧ c.maxLocals = 7 ∧ s.vm.findClass RL = some m.cls ∧ (∀ w ∈ gs_W, w.before #[Value.ref b9] s = true) ∧ va_K D vwCl (gs_tys dA) s ∧ gs_inj ad ∧ gs_Ext ad s s.heap ∧ meth.sig.returnType = ret ∧ meth.locks = false ∧ ((∀ i, i < gs_N → s.heap.size ≤ ad i) ∧ va_X b9 L9 xs s s.heap ∧ b9 < s.heap.size ∧ ad 2000 = b9 ∧ L9 ≤ 3072)
abbrev gl_L (X : gl_X) : Nat := X.2.2.2.2.2.2.2.2.2.2.2.2.1
abbrev gl_xs (X : gl_X) : Nat → Int32 := X.2.2.2.2.2.2.2.2.2.2.2.2.2
section LRows
variable {X : gl_X} {k9 z9 : Nat} {ls ls' : List (Nat × Value)} {st st0 : List Value} {M M' : gs_M} {L L' : gs_L}
theorem gl_iconst (C : gl_C X) {pc : Nat} {v : Int} {w : Int32} (hd : decode code pc = .ok (.iconst v, 1)) (hv : Int32.ofInt v = w) (k : gl_AW X k9 z9 (pc + 1) ls (.int w :: st) M L) : gl_AW X k9 z9 pc ls st M L := by
  obtain ⟨p, l, e, s, m, below, meth, c, ad, D, dA, b9, L9, xs⟩ := X
  obtain ⟨hx, hb, hml, hown, hts, hK, hinj, hE, hr, hlk, hR⟩ := C
  intro H locs la hl hP hS
  exact lv_iconst hx hb hd hv (k H locs la hl hP hS)
theorem gl_bipush (C : gl_C X) {pc : Nat} {v : Int} {w : Int32} (hd : decode code pc = .ok (.bipush v, 2)) (hv : (Int8.ofInt v).toInt32 = w) (k : gl_AW X k9 z9 (pc + 2) ls (.int w :: st) M L) : gl_AW X k9 z9 pc ls st M L := by
  obtain ⟨p, l, e, s, m, below, meth, c, ad, D, dA, b9, L9, xs⟩ := X
  obtain ⟨hx, hb, hml, hown, hts, hK, hinj, hE, hr, hlk, hR⟩ := C
  intro H locs la hl hP hS
  exact lv_bipush hx hb hd hv (k H locs la hl hP hS)
theorem gl_iload (C : gl_C X) {pc : Nat} {j : Nat} (q : Nat) {x : Int32} (hd : decode code pc = .ok (.iload j, 2)) (hq : ls[q]? = some (j, .int x)) (k : gl_AW X k9 z9 (pc + 2) ls (.int x :: st) M L) : gl_AW X k9 z9 pc ls st M L := by
  obtain ⟨p, l, e, s, m, below, meth, c, ad, D, dA, b9, L9, xs⟩ := X
  obtain ⟨hx, hb, hml, hown, hts, hK, hinj, hE, hr, hlk, hR⟩ := C
  intro H locs la hl hP hS
  exact lv_iload hx hb hd (lv_at hl q (gs_lk ad hq)) (k H locs la hl hP hS)
theorem gl_aload_n (C : gl_C X) {pc : Nat} {i : Fin 4} {j : Nat} (q : Nat) {x : Nat} (hd : decode code pc = .ok (.aload_n i, 1)) (hi : (i : Nat) = j) (hq : ls[q]? = some (j, .ref x)) (k : gl_AW X k9 z9 (pc + 1) ls (.ref x :: st) M L) : gl_AW X k9 z9 pc ls st M L := by
  obtain ⟨p, l, e, s, m, below, meth, c, ad, D, dA, b9, L9, xs⟩ := X
  obtain ⟨hx, hb, hml, hown, hts, hK, hinj, hE, hr, hlk, hR⟩ := C
  intro H locs la hl hP hS
  exact lv_aload_n hx hb hd hi (lv_at hl q (gs_lk ad hq)) (k H locs la hl hP hS)
theorem gl_istore (C : gl_C X) {pc : Nat} {j : Nat} {x : Int32} (hd : decode code pc = .ok (.istore j, 2)) (hj : j < 7) (h : (j, .int x) :: ls.filter (fun q => !(q.1 == j) && !(q.1 + 1 == j && q.2.category == 2)) = ls') (k : gl_AW X k9 z9 (pc + 2) ls' st M L) : gl_AW X k9 z9 pc ls (.int x :: st) M L := by
  obtain ⟨p, l, e, s, m, below, meth, c, ad, D, dA, b9, L9, xs⟩ := X
  obtain ⟨hx, hb, hml, hown, hts, hK, hinj, hE, hr, hlk, hR⟩ := C
  intro H locs la hl hP hS
  exact lv_istore hx hb hd hl (by rw [hml]; exact hj) (gs_fil ad h) (fun la hl => k H locs la hl hP hS)
theorem gl_astore_n (C : gl_C X) {pc : Nat} {i : Fin 4} {j : Nat} {x : Nat} (hd : decode code pc = .ok (.astore_n i, 1)) (hi : (i : Nat) = j) (hj : j < 7) (h : (j, .ref x) :: ls.filter (fun q => !(q.1 == j) && !(q.1 + 1 == j && q.2.category == 2)) = ls') (k : gl_AW X k9 z9 (pc + 1) ls' st M L) : gl_AW X k9 z9 pc ls (.ref x :: st) M L := by
  obtain ⟨p, l, e, s, m, below, meth, c, ad, D, dA, b9, L9, xs⟩ := X
  obtain ⟨hx, hb, hml, hown, hts, hK, hinj, hE, hr, hlk, hR⟩ := C
  intro H locs la hl hP hS
  exact lv_astore_n hx hb hd hi hl (by rw [hml]; exact hj) (gs_fil ad h) (fun la hl => k H locs la hl hP hS)
theorem gl_iinc (C : gl_C X) {pc : Nat} {j : Nat} {z : Int} (q : Nat) {x v : Int32} (hd : decode code pc = .ok (.iinc j z, 3)) (hq : ls[q]? = some (j, .int x)) (hv : x + Int32.ofInt z = v) (hj : j < 7) (h : (j, Value.int v) :: ls.filter (fun q => !(q.1 == j) && !(q.1 + 1 == j && q.2.category == 2)) = ls') (k : gl_AW X k9 z9 (pc + 3) ls' st M L) : gl_AW X k9 z9 pc ls st M L := by
  obtain ⟨p, l, e, s, m, below, meth, c, ad, D, dA, b9, L9, xs⟩ := X
  obtain ⟨hx, hb, hml, hown, hts, hK, hinj, hE, hr, hlk, hR⟩ := C
  intro H locs la hl hP hS
  exact lv_iinc (k := q) hx hb hd hl (gs_lk ad hq) hv (by rw [hml]; exact hj) (gs_fil ad h) (fun la hl => k H locs la hl hP hS)
theorem gl_iadd (C : gl_C X) {pc : Nat} {x y : Int32} (hd : decode code pc = .ok (.iadd, 1)) (k : gl_AW X k9 z9 (pc + 1) ls (.int (x + y) :: st) M L) : gl_AW X k9 z9 pc ls (.int y :: .int x :: st) M L := by
  obtain ⟨p, l, e, s, m, below, meth, c, ad, D, dA, b9, L9, xs⟩ := X
  obtain ⟨hx, hb, hml, hown, hts, hK, hinj, hE, hr, hlk, hR⟩ := C
  intro H locs la hl hP hS
  exact lv_iadd hx hb hd (k H locs la hl hP hS)
theorem gl_isub (C : gl_C X) {pc : Nat} {x y : Int32} (hd : decode code pc = .ok (.isub, 1)) (k : gl_AW X k9 z9 (pc + 1) ls (.int (x - y) :: st) M L) : gl_AW X k9 z9 pc ls (.int y :: .int x :: st) M L := by
  obtain ⟨p, l, e, s, m, below, meth, c, ad, D, dA, b9, L9, xs⟩ := X
  obtain ⟨hx, hb, hml, hown, hts, hK, hinj, hE, hr, hlk, hR⟩ := C
  intro H locs la hl hP hS
  exact lv_isub hx hb hd (k H locs la hl hP hS)
theorem gl_iand (C : gl_C X) {pc : Nat} {x y : Int32} (hd : decode code pc = .ok (.iand, 1)) (k : gl_AW X k9 z9 (pc + 1) ls (.int (x &&& y) :: st) M L) : gl_AW X k9 z9 pc ls (.int y :: .int x :: st) M L := by
  obtain ⟨p, l, e, s, m, below, meth, c, ad, D, dA, b9, L9, xs⟩ := X
  obtain ⟨hx, hb, hml, hown, hts, hK, hinj, hE, hr, hlk, hR⟩ := C
  intro H locs la hl hP hS
  exact lv_iand hx hb hd (k H locs la hl hP hS)
theorem gl_i2l (C : gl_C X) {pc : Nat} {x : Int32} (hd : decode code pc = .ok (.i2l, 1)) (k : gl_AW X k9 z9 (pc + 1) ls (.long x.toInt64 :: st) M L) : gl_AW X k9 z9 pc ls (.int x :: st) M L := by
  obtain ⟨p, l, e, s, m, below, meth, c, ad, D, dA, b9, L9, xs⟩ := X
  obtain ⟨hx, hb, hml, hown, hts, hK, hinj, hE, hr, hlk, hR⟩ := C
  intro H locs la hl hP hS
  exact lv_i2l hx hb hd rfl (k H locs la hl hP hS)
theorem gl_lshl (C : gl_C X) {pc : Nat} {x : Int64} {y : Int32} (hd : decode code pc = .ok (.lshl, 1)) (k : gl_AW X k9 z9 (pc + 1) ls (.long (x <<< (y.toInt64 &&& 63)) :: st) M L) : gl_AW X k9 z9 pc ls (.int y :: .long x :: st) M L := by
  obtain ⟨p, l, e, s, m, below, meth, c, ad, D, dA, b9, L9, xs⟩ := X
  obtain ⟨hx, hb, hml, hown, hts, hK, hinj, hE, hr, hlk, hR⟩ := C
  intro H locs la hl hP hS
  exact lv_lshl hx hb hd rfl (k H locs la hl hP hS)
theorem gl_land (C : gl_C X) {pc : Nat} {x y : Int64} (hd : decode code pc = .ok (.land, 1)) (k : gl_AW X k9 z9 (pc + 1) ls (.long (x &&& y) :: st) M L) : gl_AW X k9 z9 pc ls (.long y :: .long x :: st) M L := by
  obtain ⟨p, l, e, s, m, below, meth, c, ad, D, dA, b9, L9, xs⟩ := X
  obtain ⟨hx, hb, hml, hown, hts, hK, hinj, hE, hr, hlk, hR⟩ := C
  intro H locs la hl hP hS
  exact lv_land hx hb hd (k H locs la hl hP hS)
theorem gl_lor (C : gl_C X) {pc : Nat} {x y : Int64} (hd : decode code pc = .ok (.lor, 1)) (k : gl_AW X k9 z9 (pc + 1) ls (.long (x ||| y) :: st) M L) : gl_AW X k9 z9 pc ls (.long y :: .long x :: st) M L := by
  obtain ⟨p, l, e, s, m, below, meth, c, ad, D, dA, b9, L9, xs⟩ := X
  obtain ⟨hx, hb, hml, hown, hts, hK, hinj, hE, hr, hlk, hR⟩ := C
  intro H locs la hl hP hS
  exact lv_lor hx hb hd (k H locs la hl hP hS)
theorem gl_lcmp (C : gl_C X) {pc : Nat} {x y : Int64} (hd : decode code pc = .ok (.lcmp, 1)) (k : gl_AW X k9 z9 (pc + 1) ls (.int (lg_cmp x y) :: st) M L) : gl_AW X k9 z9 pc ls (.long y :: .long x :: st) M L := by
  obtain ⟨p, l, e, s, m, below, meth, c, ad, D, dA, b9, L9, xs⟩ := X
  obtain ⟨hx, hb, hml, hown, hts, hK, hinj, hE, hr, hlk, hR⟩ := C
  intro H locs la hl hP hS
  exact W.lcmp hx hb hd (k H locs la hl hP hS)
theorem gl_ldc2 (C : gl_C X) {pc : Nat} {v : Int64} {i : Nat} (hd : decode code pc = .ok (.ldc2_w i, 3)) (hw : Cond.constantLong RL i v ∈ gs_W) (k : gl_AW X k9 z9 (pc + 3) ls (.long v :: st) M L) : gl_AW X k9 z9 pc ls st M L := by
  obtain ⟨p, l, e, s, m, below, meth, c, ad, D, dA, b9, L9, xs⟩ := X
  obtain ⟨hx, hb, hml, hown, hts, hK, hinj, hE, hr, hlk, hR⟩ := C
  intro H locs la hl hP hS
  exact lv_ldc2 hx hb hown (hts _ hw) hd (k H locs la hl hP hS)
theorem gl_goto (C : gl_C X) {pc : Nat} {z : Int} (t : Nat) (hd : decode code pc = .ok (.goto z, 3)) (ht : (pc : Int) + z = (t : Int)) (k : gl_AW X k9 z9 t ls st M L) : gl_AW X k9 z9 pc ls st M L := by
  obtain ⟨p, l, e, s, m, below, meth, c, ad, D, dA, b9, L9, xs⟩ := X
  obtain ⟨hx, hb, hml, hown, hts, hK, hinj, hE, hr, hlk, hR⟩ := C
  intro H locs la hl hP hS
  exact lv_goto hx hb hd ht (k H locs la hl hP hS)
theorem gl_tabOut (C : gl_C X) {pc ln : Nat} {df lo hi : Int} {offs : Array Int} {x : Int32} (t : Nat) (hd : decode code pc = .ok (.tableswitch df lo hi offs, ln)) (h : x.toInt < lo ∨ hi < x.toInt) (ht : (pc : Int) + df = (t : Int)) (k : gl_AW X k9 z9 t ls st M L) : gl_AW X k9 z9 pc ls (.int x :: st) M L := by
  obtain ⟨p, l, e, s, m, below, meth, c, ad, D, dA, b9, L9, xs⟩ := X
  obtain ⟨hx, hb, hml, hown, hts, hK, hinj, hE, hr, hlk, hR⟩ := C
  intro H locs la hl hP hS
  exact lv_tableOut hx hb hd h ht (k H locs la hl hP hS)
theorem gl_tabIn (C : gl_C X) {pc ln : Nat} {df lo hi off : Int} {offs : Array Int} {x : Int32} (t : Nat) (hd : decode code pc = .ok (.tableswitch df lo hi offs, ln)) (h1 : ¬ x.toInt < lo) (h2 : ¬ hi < x.toInt) (ho : offs[(x.toInt - lo).toNat]? = some off) (ht : (pc : Int) + off = (t : Int)) (k : gl_AW X k9 z9 t ls st M L) : gl_AW X k9 z9 pc ls (.int x :: st) M L := by
  obtain ⟨p, l, e, s, m, below, meth, c, ad, D, dA, b9, L9, xs⟩ := X
  obtain ⟨hx, hb, hml, hown, hts, hK, hinj, hE, hr, hlk, hR⟩ := C
  intro H locs la hl hP hS
  exact lv_tableIn hx hb hd h1 h2 ho ht (k H locs la hl hP hS)
theorem gl_lald (C : gl_C X) {pc r kk : Nat} {i : Int32} {v : Int64} (hd : decode code pc = .ok (.laload, 1)) (hs : gs_sh r = .inl (1, kk)) (hv : gs_rdl L r kk i = some v) (k : gl_AW X k9 z9 (pc + 1) ls (.long v :: st) M L) : gl_AW X k9 z9 pc ls (.int i :: .ref r :: st) M L := by
  obtain ⟨p, l, e, s, m, below, meth, c, ad, D, dA, b9, L9, xs⟩ := X
  obtain ⟨hx, hb, hml, hown, hts, hK, hinj, hE, hr, hlk, hR⟩ := C
  intro H locs la hl hP hS
  obtain ⟨h1, rfl⟩ := gs_some hv
  exact va_lald hx hb hK hP r 1 (gs_ary hs) rfl h1 hd (k H locs la hl hP hS)
theorem gl_dup (C : gl_C X) {pc : Nat} {v : Value} (hd : decode code pc = .ok (.dup, 1)) (hv : v.category = 1) (k : gl_AW X k9 z9 (pc + 1) ls (v :: v :: st) M L) : gl_AW X k9 z9 pc ls (v :: st) M L := by
  obtain ⟨p, l, e, s, m, below, meth, c, ad, D, dA, b9, L9, xs⟩ := X
  obtain ⟨hx, hb, hml, hown, hts, hK, hinj, hE, hr, hlk, hR⟩ := C
  intro H locs la hl hP hS
  exact lv_dup hx hb hd (by rw [gs_cv_cat]; exact hv) (k H locs la hl hP hS)
theorem gl_if_eq (C : gl_C X) {pc : Nat} {z : Int} {x : Int32} (t : Nat) (hd : decode code pc = .ok (.ifCond .eq z, 3)) (ht : (pc : Int) + z = (t : Int)) (kt : x = 0 → gl_AW X k9 z9 t ls st M L) (kf : ¬ (x = 0) → gl_AW X k9 z9 (pc + 3) ls st M L) : gl_AW X k9 z9 pc ls (.int x :: st) M L := by
  obtain ⟨p, l, e, s, m, below, meth, c, ad, D, dA, b9, L9, xs⟩ := X
  obtain ⟨hx, hb, hml, hown, hts, hK, hinj, hE, hr, hlk, hR⟩ := C
  intro H locs la hl hP hS
  exact lv_if_eq hx hb hd ht (fun h => kt h H locs la hl hP hS) (fun h => kf h H locs la hl hP hS)
theorem gl_if_ne (C : gl_C X) {pc : Nat} {z : Int} {x : Int32} (t : Nat) (hd : decode code pc = .ok (.ifCond .ne z, 3)) (ht : (pc : Int) + z = (t : Int)) (kt : ¬ x = 0 → gl_AW X k9 z9 t ls st M L) (kf : x = 0 → gl_AW X k9 z9 (pc + 3) ls st M L) : gl_AW X k9 z9 pc ls (.int x :: st) M L := by
  obtain ⟨p, l, e, s, m, below, meth, c, ad, D, dA, b9, L9, xs⟩ := X
  obtain ⟨hx, hb, hml, hown, hts, hK, hinj, hE, hr, hlk, hR⟩ := C
  intro H locs la hl hP hS
  exact lv_if_ne hx hb hd ht (fun h => kt h H locs la hl hP hS) (fun h => kf h H locs la hl hP hS)
theorem gl_icmp_eq (C : gl_C X) {pc : Nat} {z : Int} {x y : Int32} (t : Nat) (hd : decode code pc = .ok (.if_icmp .eq z, 3)) (ht : (pc : Int) + z = (t : Int)) (kt : x = y → gl_AW X k9 z9 t ls st M L) (kf : ¬ (x = y) → gl_AW X k9 z9 (pc + 3) ls st M L) : gl_AW X k9 z9 pc ls (.int y :: .int x :: st) M L := by
  obtain ⟨p, l, e, s, m, below, meth, c, ad, D, dA, b9, L9, xs⟩ := X
  obtain ⟨hx, hb, hml, hown, hts, hK, hinj, hE, hr, hlk, hR⟩ := C
  intro H locs la hl hP hS
  exact lv_icmp_eq hx hb hd ht (fun h => kt h H locs la hl hP hS) (fun h => kf h H locs la hl hP hS)
theorem gl_icmp_gt (C : gl_C X) {pc : Nat} {z : Int} {x y : Int32} (t : Nat) (hd : decode code pc = .ok (.if_icmp .gt z, 3)) (ht : (pc : Int) + z = (t : Int)) (kt : y < x → gl_AW X k9 z9 t ls st M L) (kf : ¬ (y < x) → gl_AW X k9 z9 (pc + 3) ls st M L) : gl_AW X k9 z9 pc ls (.int y :: .int x :: st) M L := by
  obtain ⟨p, l, e, s, m, below, meth, c, ad, D, dA, b9, L9, xs⟩ := X
  obtain ⟨hx, hb, hml, hown, hts, hK, hinj, hE, hr, hlk, hR⟩ := C
  intro H locs la hl hP hS
  exact lv_icmp_gt hx hb hd ht (fun h => kt h H locs la hl hP hS) (fun h => kf h H locs la hl hP hS)
theorem gl_sld (C : gl_C X) {pc : Nat} {i a : Int32} (hd : decode code pc = .ok (.iaload, 1)) (hin : ¬ (i < 0 ∨ gl_L X ≤ i.toNatClampNeg)) (ha : gl_xs X i.toNatClampNeg = a) (k : gl_AW X k9 z9 (pc + 1) ls (.int a :: st) M L) : gl_AW X k9 z9 pc ls (.int i :: .ref 2000 :: st) M L := by
  obtain ⟨p, l, e, s, m, below, meth, c, ad, D, dA, b9, L9, xs⟩ := X
  obtain ⟨hx, hb, hml, hown, hts, hK, hinj, hE, hr, hlk, hR⟩ := C
  intro H locs la hl hP hS
  obtain ⟨h1, h2, h3, h4, h5⟩ := hR
  subst ha
  have e9 : gs_cv ad (.ref 2000) = .ref b9 := by show Value.ref (ad 2000) = .ref b9; rw [h4]
  show W _ _ _ _ _ _ _ _ _ _ _ _ _ _ _ (F0 m pc la (.int i :: gs_cv ad (.ref 2000) :: st.map (gs_cv ad)))
  rw [e9]
  exact va_sld hx hb h2 h3 (Nat.not_le.mpr h3) hS hin hd (k H locs la hl hP hS)
theorem gl_slen (C : gl_C X) {pc : Nat} (hd : decode code pc = .ok (.arraylength, 1)) (k : gl_AW X k9 z9 (pc + 1) ls (.int (Int32.ofNat (gl_L X)) :: st) M L) : gl_AW X k9 z9 pc ls (.ref 2000 :: st) M L := by
  obtain ⟨p, l, e, s, m, below, meth, c, ad, D, dA, b9, L9, xs⟩ := X
  obtain ⟨hx, hb, hml, hown, hts, hK, hinj, hE, hr, hlk, hR⟩ := C
  intro H locs la hl hP hS
  obtain ⟨h1, h2, h3, h4, h5⟩ := hR
  have e9 : gs_cv ad (.ref 2000) = .ref b9 := by show Value.ref (ad 2000) = .ref b9; rw [h4]
  show W _ _ _ _ _ _ _ _ _ _ _ _ _ _ _ (F0 m pc la (gs_cv ad (.ref 2000) :: st.map (gs_cv ad)))
  rw [e9]
  exact va_slen hx hb h2 h3 (Nat.not_le.mpr h3) hS hd (k H locs la hl hP hS)
theorem gl_sub {pc : Nat} (ks : List Nat) (h : lv_pick ls ks = ls') (k : gl_AW X k9 z9 pc ls' st M L) : gl_AW X k9 z9 pc ls st M L := by
  obtain ⟨p, l, e, s, m, below, meth, c, ad, D, dA, b9, L9, xs⟩ := X
  intro H locs la hl hP hS
  refine k H locs la (lv_sub hl ks ?_) hP hS
  subst h
  simp only [gs_lm, lv_pick, List.map_filterMap]
  congr 1
  funext i
  simp [List.getElem?_map]
theorem gl_end (C : gl_C X) {pc : Nat} (hd : decode code pc = .ok (.ireturn, 1)) (hk : k9 ≤ 601024) (hz : z9 ≤ 7293034) : gl_AW X k9 z9 pc ls [.int 1] M L := by
  obtain ⟨p, l, e, s, m, below, meth, c, ad, D, dA, b9, L9, xs⟩ := X
  obtain ⟨hx, hb, hml, hown, hts, hK, hinj, hE, hr, hlk, hR⟩ := C
  intro H locs la hl hP hS
  refine va_forget hS.2.2 ?_
  refine W.widen hk hz ?_
  exact lw_ret hx hb hr hlk hd
theorem gl_callVi (C : gl_C X) {pc i ci r n' np mL : Nat} {y : MethodName} {cb : ByteArray} {rt' : Option FieldType} {fs : List (Nat × Nat)} {v : Int32} (As : List Value) (hd : decode code pc = .ok (.invokevirtual i, 3)) (hm : Cond.methodLink RL i y ∈ gs_W) (hY : gs_YV y cb mL rt' np) (hM : gs_Met X.2.1 n' y cb mL rt' (.ref r :: As) M L (some (.int v)) M' L') (hn : n' < 900)
    (hs : gs_sh r = .inr (ci, fs)) (hci : ci < 13) (hc : vwCl[ci]?.map (fun q => q.1) = some y.cls) (hlen : As.length = np) (hst : (st.map fun v => v.category).sum ≤ 8) (h0 : st0 = As.reverse ++ .ref r :: st) (hk : k9 ≤ 601024) (hz : z9 ≤ 7293034) (k : gl_AW X k9 z9 (pc + 3) ls (.int v :: st) M' L') : gl_AW X k9 z9 pc ls st0 M L := by
  obtain ⟨p, l, e, s, m, below, meth, c, ad, D, dA, b9, L9, xs⟩ := X
  obtain ⟨hx, hb, hml, hown, hts, hK, hinj, hE, hr, hlk, hR⟩ := C
  intro H locs la hl hP hS
  obtain ⟨g1, g2, g3, g4, g5⟩ := hR
  subst h0
  obtain ⟨⟨h1, h2, h3, h4⟩, h5, h6⟩ := hY
  obtain ⟨q, hq, hqc⟩ := Option.map_eq_some_iff.mp hc
  have hr' := va_recv hK hP hq (gs_obj (ad := ad) (dA := dA) (M := M) (L := L) hs hci)
  rw [hqc] at hr'
  have hG : GoodIn gs_W (wsV RL i y.cls y (Cond.code y cb mL rt' :: gs_W)) := gs_Wg (by
    intro w hw
    simp only [wsV, List.mem_append, List.mem_cons, List.not_mem_nil, or_false] at hw
    rcases hw with (rfl | rfl | rfl | rfl) | rfl | hw
    · exact hm
    · exact h5
    · exact h6
    · exact h2
    · exact h1
    · exact hw)
  have hAA : ∀ q, gs_A ad q → s.heap.size ≤ q := by
    rintro q ⟨i, hi, rfl⟩
    exact g1 i hi
  have hrm : (gs_room n').frames + 1 ≤ room_1.frames ∧ 8 + (mL + 11) + (gs_room n').locals ≤ room_1.locals := by
    refine ⟨?_, ?_⟩
    · show n' + 1 + 1 ≤ 2048
      omega
    · show 8 + (mL + 11) + 80 * (n' + 1) ≤ 84000
      omega
  have hpre : ∀ U : State, U.heap = H → s.WarmedH U.vm → gs_I ad D dA M L U := by
    intro U hU hW
    refine ⟨by rw [hU]; exact hP, va_K.moved hW.alike hK, hinj, ?_⟩
    rw [hU]
    exact (hE.kept (fun a h8 _ => hS.2.1 a h8 (Nat.not_le.mpr h8))).to hW.alike (fun _ _ _ _ h => vk_R.warm hW h)
  have hrun := va_runV (l := l) (e := e) (R := room_1) (below := below) (meth := meth) (H := H) (locs := locs) (cells := k9) (slots := z9) (g := F0 m pc la ((As.reverse ++ .ref r :: st).map (gs_cv ad))) (rest := st.map (gs_cv ad)) (As := As.map (gs_cv ad)) (b := ad r) (C := y.cls) ⟨hx, hb, hml, hown, hts⟩ (hM ad D dA) (cwV np hts hG rfl rfl rfl ⟨rfl, h3⟩ hrm) ⟨gs_blind, hr', fun U hU hW => ⟨rfl, hpre U hU hW⟩⟩ rfl (by rw [List.length_map]; exact hlen) (hl.1.trans hml) (by simp [gs_cv]) (lv_room (by rw [gs_sum]; exact hst)) hd ⟨hk, hz⟩
  intro T hT X
  obtain ⟨v9, st₀, t, T', L9', h0, X', hL, e1, e2, ⟨hv, hp, hz9, hk9⟩, stp⟩ := hrun T hT X
  have hv' : v9 = (some (Value.int v)).map (gs_cv ad) := by injection hv
  subst hv'
  rw [h0] at hz9 hk9
  obtain ⟨t2, a1, b1⟩ := k T'.heap (locs ++ L9') la hl (by rw [e1]; exact hp) ⟨Nat.le_trans hS.1 (by rw [e1]; exact hz9), fun q q1 q2 => by rw [e1, hk9 q (Nat.lt_of_lt_of_le q1 hS.1) (fun z => q2 (hAA q z))]; exact hS.2.1 q q1 q2, fun q hq => by
      rcases List.mem_append.mp hq with h | h
      · exact hS.2.2 q h
      · exact hAA _ (hL q h)⟩ T' rfl X'
  exact ⟨t2, stp t2 a1, b1⟩
end LRows
