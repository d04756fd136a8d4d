def gl_S_feed (Inv : gs_M → gs_L → Prop) : Prop := ∀ (M : gs_M) (L : gs_L), Inv M L → ∀ (x1 : Int32) (x2 : Int32) (x3 : Int32) (x4 : Int32) (x5 : Int32), ∃ (v : Int32) (M1 : gs_M) (M2 : gs_M), f_X11_feed M x1 x2 x3 x4 x5 = some (v, M1) ∧ f_X12_feed M1 x1 x2 x3 x4 x5 = some (v, M2) ∧ Inv M2 L
def gl_S_end (Inv : gs_M → gs_L → Prop) : Prop := ∀ (M : gs_M) (L : gs_L), Inv M L → ∀ (x1 : Int32), ∃ (v : Int32) (M1 : gs_M) (M2 : gs_M), f_X11_end M x1 = some (v, M1) ∧ f_X12_end M1 x1 = some (v, M2) ∧ Inv M2 L
def gl_S_fault (Inv : gs_M → gs_L → Prop) : Prop := ∀ (M : gs_M) (L : gs_L), Inv M L → ∀ (x1 : Int32), ∃ (v : Int32) (M1 : gs_M) (M2 : gs_M), f_X11_fault M x1 = some (v, M1) ∧ f_X12_fault M1 x1 = some (v, M2) ∧ Inv M2 L
def gl_S_text (Inv : gs_M → gs_L → Prop) : Prop := ∀ (M : gs_M) (L : gs_L), Inv M L → ∀ (x1 : Int32), ∃ (v : Int32) (M1 : gs_M) (M2 : gs_M), f_X11_text M x1 = some (v, M1) ∧ f_X12_text M1 x1 = some (v, M2) ∧ Inv M2 L
def gl_S_rule (Inv : gs_M → gs_L → Prop) : Prop := ∀ (M : gs_M) (L : gs_L), Inv M L → ∀ (x1 : Int32), ∃ (v : Int32) (M2 : gs_M), f_X11_rule M x1 = some v ∧ f_X12_rule M x1 = some (v, M2) ∧ Inv M2 L
def gl_S_law (Inv : gs_M → gs_L → Prop) : Prop := ∀ (M : gs_M) (L : gs_L), Inv M L → ∀ (x1 : Int32), ∃ (v : Int32) (M1 : gs_M) (M2 : gs_M), f_X11_law M x1 = some (v, M1) ∧ f_X12_law M1 x1 = some (v, M2) ∧ Inv M2 L
def gl_S_watch (Inv : gs_M → gs_L → Prop) : Prop := ∀ (M : gs_M) (L : gs_L), Inv M L → ∀ (x1 : Int32), ∃ (v : Int32) (M1 : gs_M) (M2 : gs_M), f_X11_watch M x1 = some (v, M1) ∧ f_X12_watch M1 x1 = some (v, M2) ∧ Inv M2 L
def gl_S_watched (Inv : gs_M → gs_L → Prop) : Prop := ∀ (M : gs_M) (L : gs_L), Inv M L → ∀ (x1 : Int32) (x2 : Int32), ∃ (v : Int32) (M2 : gs_M), f_X11_watched M x1 x2 = some v ∧ f_X12_watched M x1 x2 = some (v, M2) ∧ Inv M2 L
def gl_S_crimes (Inv : gs_M → gs_L → Prop) : Prop := ∀ (M : gs_M) (L : gs_L), Inv M L → ∀ (x1 : Int32), ∃ (v : Int32) (M1 : gs_M) (M2 : gs_M), f_X11_crimes M x1 = some (v, M1) ∧ f_X12_crimes M1 x1 = some (v, M2) ∧ Inv M2 L
def gl_S_wakes (Inv : gs_M → gs_L → Prop) : Prop := ∀ (M : gs_M) (L : gs_L), Inv M L → ∀ (x1 : Int32) (x2 : Int32), ∃ (v : Int32) (M1 : gs_M) (M2 : gs_M), f_X11_wakes M x1 x2 = some (v, M1) ∧ f_X12_wakes M1 x1 x2 = some (v, M2) ∧ Inv M2 L
def gl_S_deed (Inv : gs_M → gs_L → Prop) : Prop := ∀ (M : gs_M) (L : gs_L), Inv M L → ∀ (x1 : Int32) (x2 : Int32), ∃ (v : Int32) (M1 : gs_M) (M2 : gs_M), f_X11_deed M x1 x2 = some (v, M1) ∧ f_X12_deed M1 x1 x2 = some (v, M2) ∧ Inv M2 L
def gl_S_coffee (Inv : gs_M → gs_L → Prop) : Prop := ∀ (M : gs_M) (L : gs_L), Inv M L → ∀ (x1 : Int32), ∃ (v : Int32) (M1 : gs_M) (M2 : gs_M), f_X11_coffee M x1 = some (v, M1) ∧ f_X12_coffee M1 x1 = some (v, M2) ∧ Inv M2 L
def gl_S_forge (Inv : gs_M → gs_L → Prop) : Prop := ∀ (M : gs_M) (L : gs_L), Inv M L → ∀ (x1 : Int32), ∃ (v : Int32) (M1 : gs_M) (M2 : gs_M), f_X11_forge M x1 = some (v, M1) ∧ f_X12_forge M1 x1 = some (v, M2) ∧ Inv M2 L
def gl_S_worry (Inv : gs_M → gs_L → Prop) : Prop := ∀ (M : gs_M) (L : gs_L), Inv M L → ∀ (x1 : Int32) (x2 : Int32), ∃ (v : Int32) (M1 : gs_M) (M2 : gs_M), f_X11_worry M x1 x2 = some (v, M1) ∧ f_X12_worry M1 x1 x2 = some (v, M2) ∧ Inv M2 L
def gl_S_night (Inv : gs_M → gs_L → Prop) : Prop := ∀ (M : gs_M) (L : gs_L), Inv M L → ∀ (x1 : Int64), ∃ (v : Int32) (M1 : gs_M) (L1 : gs_L) (M2 : gs_M) (L2 : gs_L), f_X11_night M L x1 = some (v, M1, L1) ∧ f_X12_night M1 L1 x1 = some (v, M2, L2) ∧ Inv M2 L2
def gl_S_judge (Inv : gs_M → gs_L → Prop) : Prop := ∀ (M : gs_M) (L : gs_L), Inv M L → ∀ (x1 : Int32), ∃ (v : Int32) (M1 : gs_M) (M2 : gs_M), f_X11_judge M x1 = some (v, M1) ∧ f_X12_judge M1 x1 = some (v, M2) ∧ Inv M2 L
def gl_S_years (Inv : gs_M → gs_L → Prop) : Prop := ∀ (M : gs_M) (L : gs_L), Inv M L → ∀ (x1 : Int32) (x2 : Int64), ∃ (v : Int32) (M1 : gs_M) (L1 : gs_L) (M2 : gs_M) (L2 : gs_L), f_X11_years M L x1 x2 = some (v, M1, L1) ∧ f_X12_years M1 L1 x1 x2 = some (v, M2, L2) ∧ Inv M2 L2
def gl_S_undo (Inv : gs_M → gs_L → Prop) : Prop := ∀ (M : gs_M) (L : gs_L), Inv M L → ∃ (v : Int32) (M1 : gs_M) (M2 : gs_M), f_X11_undo M = some (v, M1) ∧ f_X12_undo M1 = some (v, M2) ∧ Inv M2 L
def gl_S_log (Inv : gs_M → gs_L → Prop) : Prop := ∀ (M : gs_M) (L : gs_L), Inv M L → ∀ (x1 : Int32) (x2 : Int32), ∃ (v : Int32) (M2 : gs_M), f_X11_log M x1 x2 = some v ∧ f_X12_log M x1 x2 = some (v, M2) ∧ Inv M2 L
def gl_S_book (Inv : gs_M → gs_L → Prop) : Prop := ∀ (M : gs_M) (L : gs_L), Inv M L → ∀ (x1 : Int32) (x2 : Int32), ∃ (v : Int32) (M2 : gs_M), f_X11_book M x1 x2 = some v ∧ f_X12_book M x1 x2 = some (v, M2) ∧ Inv M2 L
def gl_S_points (Inv : gs_M → gs_L → Prop) : Prop := ∀ (M : gs_M) (L : gs_L), Inv M L → ∀ (x1 : Int32), ∃ (v : Int32) (M1 : gs_M) (M2 : gs_M), f_X11_points M x1 = some (v, M1) ∧ f_X12_points M1 x1 = some (v, M2) ∧ Inv M2 L
def gl_S_sleeps (Inv : gs_M → gs_L → Prop) : Prop := ∀ (M : gs_M) (L : gs_L), Inv M L → ∀ (x1 : Int32), ∃ (v : Int32) (M1 : gs_M) (M2 : gs_M), f_X11_sleeps M x1 = some (v, M1) ∧ f_X12_sleeps M1 x1 = some (v, M2) ∧ Inv M2 L
def gl_S_awake (Inv : gs_M → gs_L → Prop) : Prop := ∀ (M : gs_M) (L : gs_L), Inv M L → ∀ (x1 : Int32) (x2 : Int32), ∃ (v : Int32) (M1 : gs_M) (M2 : gs_M) (L2 : gs_L), f_X11_awake M x1 x2 = some (v, M1) ∧ f_X12_awake M1 L x1 x2 = some (v, M2, L2) ∧ Inv M2 L2
def gl_S_seem (Inv : gs_M → gs_L → Prop) : Prop := ∀ (M : gs_M) (L : gs_L), Inv M L → ∀ (x1 : Int32) (x2 : Int32), ∃ (v : Int32) (M1 : gs_M) (M2 : gs_M), f_X11_seem M x1 x2 = some (v, M1) ∧ f_X12_seem M1 x1 x2 = some (v, M2) ∧ Inv M2 L
def gl_S_tells (Inv : gs_M → gs_L → Prop) : Prop := ∀ (M : gs_M) (L : gs_L), Inv M L → ∀ (x1 : Int32) (x2 : Int32), ∃ (v : Int32) (M1 : gs_M) (M2 : gs_M), f_X11_tells M x1 x2 = some (v, M1) ∧ f_X12_tells M1 x1 x2 = some (v, M2) ∧ Inv M2 L
def gl_S_lamp (Inv : gs_M → gs_L → Prop) : Prop := ∀ (M : gs_M) (L : gs_L), Inv M L → ∀ (x1 : Int32) (x2 : Int32) (x3 : Int32), (x3 = 0 ∨ x3 = 1) → ∃ (v : Int32) (M1 : gs_M) (M2 : gs_M), f_X11_lamp M x1 x2 x3 = some (v, M1) ∧ f_X12_lamp M1 x1 x2 x3 = some (v, M2) ∧ Inv M2 L
def gl_S_who (Inv : gs_M → gs_L → Prop) : Prop := ∀ (M : gs_M) (L : gs_L), Inv M L → ∀ (x1 : Int32) (x2 : Int32), ∃ (v : Int32) (M1 : gs_M) (L1 : gs_L) (M2 : gs_M), f_X11_who M L x1 x2 = some (v, M1, L1) ∧ f_X12_who M1 x1 x2 = some (v, M2) ∧ Inv M2 L1
def gl_S_timetable (Inv : gs_M → gs_L → Prop) : Prop := ∀ (M : gs_M) (L : gs_L), Inv M L → ∀ (x1 : Int32) (x2 : Int32), ∃ (v : Int32) (M1 : gs_M) (M2 : gs_M), f_X11_timetable M x1 x2 = some (v, M1) ∧ f_X12_timetable M1 x1 x2 = some (v, M2) ∧ Inv M2 L
def gl_S_couple (Inv : gs_M → gs_L → Prop) : Prop := ∀ (M : gs_M) (L : gs_L), Inv M L → ∀ (x1 : Int32) (x2 : Int32) (x3 : Int32) (x4 : Int32), ∃ (v : Int32) (M1 : gs_M) (M2 : gs_M), f_X11_couple M x1 x2 x3 x4 = some (v, M1) ∧ f_X12_couple M1 x1 x2 x3 x4 = some (v, M2) ∧ Inv M2 L
def gl_S_rests (Inv : gs_M → gs_L → Prop) : Prop := ∀ (M : gs_M) (L : gs_L), Inv M L → ∀ (x1 : Int32) (x2 : Int32), ∃ (v : Int32) (M1 : gs_M) (M2 : gs_M), f_X11_rests M x1 x2 = some (v, M1) ∧ f_X12_rests M1 x1 x2 = some (v, M2) ∧ Inv M2 L
def gl_S_candle (Inv : gs_M → gs_L → Prop) : Prop := ∀ (M : gs_M) (L : gs_L), Inv M L → ∀ (x1 : Int32) (x2 : Int32) (x3 : Int32), ∃ (v : Int32) (M1 : gs_M) (M2 : gs_M), f_X11_candle M x1 x2 x3 = some (v, M1) ∧ f_X12_candle M1 x1 x2 x3 = some (v, M2) ∧ Inv M2 L
def gl_S_likeliest (Inv : gs_M → gs_L → Prop) : Prop := ∀ (M : gs_M) (L : gs_L), Inv M L → ∀ (x1 : Int32) (x2 : Int32), ∃ (v : Int32) (M1 : gs_M) (M2 : gs_M), f_X11_likeliest M x1 x2 = some (v, M1) ∧ f_X12_likeliest M1 x1 x2 = some (v, M2) ∧ Inv M2 L
def gl_S_wronged (Inv : gs_M → gs_L → Prop) : Prop := ∀ (M : gs_M) (L : gs_L), Inv M L → ∀ (x1 : Int32), ∃ (v : Int32) (M1 : gs_M) (M2 : gs_M), f_X11_wronged M x1 = some (v, M1) ∧ f_X12_wronged M1 x1 = some (v, M2) ∧ Inv M2 L
def gl_S_better (Inv : gs_M → gs_L → Prop) : Prop := ∀ (M : gs_M) (L : gs_L), Inv M L → ∃ (v : Int32) (M1 : gs_M) (M2 : gs_M), f_X11_better M = some (v, M1) ∧ f_X12_better M1 = some (v, M2) ∧ Inv M2 L
def gl_S_most (Inv : gs_M → gs_L → Prop) : Prop := ∀ (M : gs_M) (L : gs_L), Inv M L → ∀ (x1 : Int32), ∃ (v : Int32) (M1 : gs_M) (M2 : gs_M), f_X11_most M x1 = some (v, M1) ∧ f_X12_most M1 x1 = some (v, M2) ∧ Inv M2 L
def gl_S_people (Inv : gs_M → gs_L → Prop) : Prop := ∀ (M : gs_M) (L : gs_L), Inv M L → ∀ (x1 : Int32), ∃ (v : Int32) (M1 : gs_M) (M2 : gs_M), f_X11_people M x1 = some (v, M1) ∧ f_X12_people M1 x1 = some (v, M2) ∧ Inv M2 L
def gl_S_cries (Inv : gs_M → gs_L → Prop) : Prop := ∀ (M : gs_M) (L : gs_L), Inv M L → ∀ (x1 : Int32), ∃ (v : Int32) (M1 : gs_M) (M2 : gs_M), f_X11_cries M x1 = some (v, M1) ∧ f_X12_cries M1 x1 = some (v, M2) ∧ Inv M2 L
def gl_S_booked (Inv : gs_M → gs_L → Prop) : Prop := ∀ (M : gs_M) (L : gs_L), Inv M L → ∀ (x1 : Int32) (x2 : Int32), ∃ (v : Int32) (M1 : gs_M) (M2 : gs_M), f_X11_booked M x1 x2 = some (v, M1) ∧ f_X12_booked M1 x1 x2 = some (v, M2) ∧ Inv M2 L
def gl_S_meet (Inv : gs_M → gs_L → Prop) : Prop := ∀ (M : gs_M) (L : gs_L), Inv M L → ∀ (x1 : Int32) (x2 : Int32), ∃ (v : Int32) (M1 : gs_M) (M2 : gs_M), f_X11_meet M x1 x2 = some (v, M1) ∧ f_X12_meet M1 x1 x2 = some (v, M2) ∧ Inv M2 L
def gl_S_needs (Inv : gs_M → gs_L → Prop) : Prop := ∀ (M : gs_M) (L : gs_L), Inv M L → ∀ (x1 : Int32) (x2 : Int32) (x3 : Int32), ∃ (v : Int32) (M1 : gs_M) (M2 : gs_M), f_X11_needs M x1 x2 x3 = some (v, M1) ∧ f_X12_needs M1 x1 x2 x3 = some (v, M2) ∧ Inv M2 L
def gl_S_line (Inv : gs_M → gs_L → Prop) : Prop := ∀ (M : gs_M) (L : gs_L), Inv M L → ∃ (v : Int32) (M1 : gs_M) (M2 : gs_M), f_X11_line M = some (v, M1) ∧ f_X12_line M1 = some (v, M2) ∧ Inv M2 L
def gl_S_image (Inv : gs_M → gs_L → Prop) : Prop := ∀ (M : gs_M) (L : gs_L), Inv M L → ∃ (v : Int32) (M1 : gs_M) (M2 : gs_M), f_X11_image M = some (v, M1) ∧ f_X12_image M1 = some (v, M2) ∧ Inv M2 L
def gl_S_back (Inv : gs_M → gs_L → Prop) : Prop := ∀ (M : gs_M) (L : gs_L), Inv M L → ∃ (v : Int32) (M1 : gs_M) (M2 : gs_M), f_X11_back M = some (v, M1) ∧ f_X12_back M1 = some (v, M2) ∧ Inv M2 L
def gl_S_count (Inv : gs_M → gs_L → Prop) : Prop := ∀ (M : gs_M) (L : gs_L), Inv M L → ∀ (x1 : Int32), ∃ (v : Int32) (M2 : gs_M), f_X11_count M x1 = some v ∧ f_X12_count M x1 = some (v, M2) ∧ Inv M2 L
def gl_S_person (Inv : gs_M → gs_L → Prop) : Prop := ∀ (M : gs_M) (L : gs_L), Inv M L → ∀ (x1 : Int32) (x2 : Int32), ∃ (fl : Int32) (v : Int32) (b : Int32) (M2 : gs_M), f_X11_person M x1 x2 = some (fl, v) ∧ (fl = 0 ∨ fl = 1) ∧ f_X12_person M x1 x2 = some (b, M2) ∧ f_X12_thrown M2 = some fl ∧ (fl = 0 → b = v) ∧ ∀ w : Int64, Inv M2 (gs_upl L 170 0 w) ∧ Inv M2 L
/-- the row of the call of the law's own 'person': owed by the part on throws -/
def gl_Per (X : gl_X) : Prop := ∀ (k z pc : Nat) (ls : List (Nat × Value)) (M : gs_M) (L : gs_L) (p0 p1 fl v : Int32), f_X11_person M p0 p1 = some (fl, v) → pc = 423 → k + 1 ≤ 601024 → z + 6 ≤ 7293034 → gl_AW X (k + 1) (z + 6) (pc + 3) ls [.int fl] M (if fl = 0 then gs_upl L 170 0 v.toInt64 else L) → gl_AW X k z pc ls [.ref 170, .int p1, .int p0, .ref 0] M L
theorem gl_in {i L k : Nat} (hi : i + 6 ≤ L) (hL : L ≤ 3072) (hk : k < 6) : ¬ (nI i + nI k < 0 ∨ L ≤ (nI i + nI k).toNatClampNeg) := by
  rw [nI_add]
  exact vp_in_nI (by omega) (by omega)
theorem gl_ex {i L : Nat} (hi : i ≤ L) (hL : L ≤ 3072) (h : ¬ (Int32.ofNat L - 6 < nI i)) : i + 6 ≤ L := by
  have h1 : ¬ ((nI L - nI 6).toInt < (nI i).toInt) := fun z => h (Int32.lt_iff_toInt_lt.mpr z)
  rw [pk_sub_toInt (by omega) (by omega), nI_toInt (by omega)] at h1
  omega
theorem gl_cmp (x : Int64) : lg_cmp x x = 0 := by
  unfold lg_cmp
  simp
set_option maxRecDepth 100000 in
set_option maxHeartbeats 16000000 in
theorem gl_loop {X : gl_X} (C : gl_C X) (hper : gl_Per X) (Inv : gs_M → gs_L → Prop) (s_feed : gl_S_feed Inv) (s_end : gl_S_end Inv) (s_fault : gl_S_fault Inv) (s_text : gl_S_text Inv) (s_rule : gl_S_rule Inv) (s_law : gl_S_law Inv) (s_watch : gl_S_watch Inv) (s_watched : gl_S_watched Inv) (s_crimes : gl_S_crimes Inv) (s_wakes : gl_S_wakes Inv) (s_deed : gl_S_deed Inv) (s_coffee : gl_S_coffee Inv) (s_forge : gl_S_forge Inv) (s_worry : gl_S_worry Inv) (s_night : gl_S_night Inv) (s_judge : gl_S_judge Inv) (s_years : gl_S_years Inv) (s_undo : gl_S_undo Inv) (s_log : gl_S_log Inv) (s_book : gl_S_book Inv) (s_points : gl_S_points Inv) (s_sleeps : gl_S_sleeps Inv) (s_awake : gl_S_awake Inv) (s_seem : gl_S_seem Inv) (s_tells : gl_S_tells Inv) (s_lamp : gl_S_lamp Inv) (s_who : gl_S_who Inv) (s_timetable : gl_S_timetable Inv) (s_couple : gl_S_couple Inv) (s_rests : gl_S_rests Inv) (s_candle : gl_S_candle Inv) (s_likeliest : gl_S_likeliest Inv) (s_wronged : gl_S_wronged Inv) (s_better : gl_S_better Inv) (s_most : gl_S_most Inv) (s_people : gl_S_people Inv) (s_cries : gl_S_cries Inv) (s_booked : gl_S_booked Inv) (s_meet : gl_S_meet Inv) (s_needs : gl_S_needs Inv) (s_line : gl_S_line Inv) (s_image : gl_S_image Inv) (s_back : gl_S_back Inv) (s_count : gl_S_count Inv) (s_person : gl_S_person Inv) : ∀ (n i k z : Nat) (M : gs_M) (L : gs_L), gl_L X - i < n → i ≤ gl_L X → k ≤ 200 + i → z ≤ 50000 + 6 * i → Inv M L → gl_AW X k z 23 [(4, .int (nI i)), (3, .ref 170), (2, .ref 147), (1, .ref 0), (0, .ref 2000)] [] M L := by
  intro n
  induction n with
  | zero => intro i k z M L h; exact absurd h (Nat.not_lt_zero _)
  | succ n ih =>
    intro i k z M L hn hi hk hz hI
    have hL : gl_L X ≤ 3072 := by
      obtain ⟨p, l, e, s, m, below, meth, c, ad, D, dA, b9, L9, xs⟩ := X
      exact C.2.2.2.2.2.2.2.2.2.2.2.2.2.2
    refine gl_iload (pc := 23) C 0 dL_law_23 rfl ?_
    refine gl_aload_n (pc := 25) C 4 dL_law_25 rfl rfl ?_
    refine gl_slen (pc := 26) C dL_law_26 ?_
    refine gl_bipush (w := 6) (pc := 27) C dL_law_27 rfl ?_
    refine gl_isub (pc := 29) C dL_law_29 ?_
    refine gl_icmp_gt (pc := 30) C 1778 dL_law_30 rfl (fun _ => ?_) (fun cx => ?_)
    · refine gl_iconst (w := 1) (pc := 1778) C dL_law_1778 rfl ?_
      exact gl_end (pc := 1779) C dL_law_1779 (by omega) (by omega)
    · have h6 : i + 6 ≤ gl_L X := gl_ex hi hL cx
      have h0 : ¬ (nI i < 0 ∨ gl_L X ≤ (nI i).toNatClampNeg) := vp_in_nI (by omega) (by omega)
      have h1 : ¬ (nI i + (1 : Int32) < 0 ∨ gl_L X ≤ (nI i + (1 : Int32)).toNatClampNeg) := gl_in h6 hL (k := 1) (by decide)
      obtain ⟨a1, ea1⟩ : ∃ y : Int32, gl_xs X (nI i + (1 : Int32)).toNatClampNeg = y := ⟨_, rfl⟩
      have h2 : ¬ (nI i + (2 : Int32) < 0 ∨ gl_L X ≤ (nI i + (2 : Int32)).toNatClampNeg) := gl_in h6 hL (k := 2) (by decide)
      obtain ⟨a2, ea2⟩ : ∃ y : Int32, gl_xs X (nI i + (2 : Int32)).toNatClampNeg = y := ⟨_, rfl⟩
      have h3 : ¬ (nI i + (3 : Int32) < 0 ∨ gl_L X ≤ (nI i + (3 : Int32)).toNatClampNeg) := gl_in h6 hL (k := 3) (by decide)
      obtain ⟨a3, ea3⟩ : ∃ y : Int32, gl_xs X (nI i + (3 : Int32)).toNatClampNeg = y := ⟨_, rfl⟩
      have h4 : ¬ (nI i + (4 : Int32) < 0 ∨ gl_L X ≤ (nI i + (4 : Int32)).toNatClampNeg) := gl_in h6 hL (k := 4) (by decide)
      obtain ⟨a4, ea4⟩ : ∃ y : Int32, gl_xs X (nI i + (4 : Int32)).toNatClampNeg = y := ⟨_, rfl⟩
      have h5 : ¬ (nI i + (5 : Int32) < 0 ∨ gl_L X ≤ (nI i + (5 : Int32)).toNatClampNeg) := gl_in h6 hL (k := 5) (by decide)
      obtain ⟨a5, ea5⟩ : ∃ y : Int32, gl_xs X (nI i + (5 : Int32)).toNatClampNeg = y := ⟨_, rfl⟩
      obtain ⟨a0, ea0⟩ : ∃ y : Int32, gl_xs X (nI i).toNatClampNeg = y := ⟨_, rfl⟩
      refine gl_aload_n (pc := 33) C 4 dL_law_33 rfl rfl ?_
      refine gl_iload (pc := 34) C 0 dL_law_34 rfl ?_
      refine gl_sld (pc := 36) C dL_law_36 h0 ea0 ?_
      refine gl_bipush (w := 63) (pc := 37) C dL_law_37 rfl ?_
      refine gl_iand (pc := 39) C dL_law_39 ?_
      obtain ⟨w, ew⟩ : ∃ y : Int32, a0 &&& 63 = y := ⟨_, rfl⟩
      rw [ew]
      by_cases c0 : w = (0 : Int32)
      · refine gl_tabIn (pc := 40) C 236 dL_law_40 (by rw [c0]; decide) (by rw [c0]; decide) (off := 196) (by rw [c0]; decide) rfl ?_
        obtain ⟨v, M1, M2, e1, e2, hI2⟩ := s_feed M L hI a1 a2 a3 a4 a5
        refine gl_aload_n (pc := 236) C 3 dL_law_236 rfl rfl ?_
        refine gl_aload_n (pc := 237) C 4 dL_law_237 rfl rfl ?_
        refine gl_iload (pc := 238) C 0 dL_law_238 rfl ?_
        refine gl_iconst (w := (1)) (pc := 240) C dL_law_240 rfl ?_
        refine gl_iadd (pc := 241) C dL_law_241 ?_
        refine gl_sld (pc := 242) C dL_law_242 h1 ea1 ?_
        refine gl_aload_n (pc := 243) C 4 dL_law_243 rfl rfl ?_
        refine gl_iload (pc := 244) C 0 dL_law_244 rfl ?_
        refine gl_iconst (w := (2)) (pc := 246) C dL_law_246 rfl ?_
        refine gl_iadd (pc := 247) C dL_law_247 ?_
        refine gl_sld (pc := 248) C dL_law_248 h2 ea2 ?_
        refine gl_aload_n (pc := 249) C 4 dL_law_249 rfl rfl ?_
        refine gl_iload (pc := 250) C 0 dL_law_250 rfl ?_
        refine gl_iconst (w := (3)) (pc := 252) C dL_law_252 rfl ?_
        refine gl_iadd (pc := 253) C dL_law_253 ?_
        refine gl_sld (pc := 254) C dL_law_254 h3 ea3 ?_
        refine gl_aload_n (pc := 255) C 4 dL_law_255 rfl rfl ?_
        refine gl_iload (pc := 256) C 0 dL_law_256 rfl ?_
        refine gl_iconst (w := (4)) (pc := 258) C dL_law_258 rfl ?_
        refine gl_iadd (pc := 259) C dL_law_259 ?_
        refine gl_sld (pc := 260) C dL_law_260 h4 ea4 ?_
        refine gl_aload_n (pc := 261) C 4 dL_law_261 rfl rfl ?_
        refine gl_iload (pc := 262) C 0 dL_law_262 rfl ?_
        refine gl_iconst (w := (5)) (pc := 264) C dL_law_264 rfl ?_
        refine gl_iadd (pc := 265) C dL_law_265 ?_
        refine gl_sld (pc := 266) C dL_law_266 h5 ea5 ?_
        refine gl_callVi (pc := 267) C [.int a1, .int a2, .int a3, .int a4, .int a5] dL_law_267 ml_L_19 wy_X11_feed (a_X11_feed _ e1) (by decide) sh_0 (by decide) rfl rfl (Nat.le_of_ble_eq_true rfl) rfl (by omega) (by omega) ?_
        refine gl_aload_n (pc := 270) C 2 dL_law_270 rfl rfl ?_
        refine gl_aload_n (pc := 271) C 4 dL_law_271 rfl rfl ?_
        refine gl_iload (pc := 272) C 0 dL_law_272 rfl ?_
        refine gl_iconst (w := (1)) (pc := 274) C dL_law_274 rfl ?_
        refine gl_iadd (pc := 275) C dL_law_275 ?_
        refine gl_sld (pc := 276) C dL_law_276 h1 ea1 ?_
        refine gl_aload_n (pc := 277) C 4 dL_law_277 rfl rfl ?_
        refine gl_iload (pc := 278) C 0 dL_law_278 rfl ?_
        refine gl_iconst (w := (2)) (pc := 280) C dL_law_280 rfl ?_
        refine gl_iadd (pc := 281) C dL_law_281 ?_
        refine gl_sld (pc := 282) C dL_law_282 h2 ea2 ?_
        refine gl_aload_n (pc := 283) C 4 dL_law_283 rfl rfl ?_
        refine gl_iload (pc := 284) C 0 dL_law_284 rfl ?_
        refine gl_iconst (w := (3)) (pc := 286) C dL_law_286 rfl ?_
        refine gl_iadd (pc := 287) C dL_law_287 ?_
        refine gl_sld (pc := 288) C dL_law_288 h3 ea3 ?_
        refine gl_aload_n (pc := 289) C 4 dL_law_289 rfl rfl ?_
        refine gl_iload (pc := 290) C 0 dL_law_290 rfl ?_
        refine gl_iconst (w := (4)) (pc := 292) C dL_law_292 rfl ?_
        refine gl_iadd (pc := 293) C dL_law_293 ?_
        refine gl_sld (pc := 294) C dL_law_294 h4 ea4 ?_
        refine gl_aload_n (pc := 295) C 4 dL_law_295 rfl rfl ?_
        refine gl_iload (pc := 296) C 0 dL_law_296 rfl ?_
        refine gl_iconst (w := (5)) (pc := 298) C dL_law_298 rfl ?_
        refine gl_iadd (pc := 299) C dL_law_299 ?_
        refine gl_sld (pc := 300) C dL_law_300 h5 ea5 ?_
        refine gl_callVi (pc := 301) C [.int a1, .int a2, .int a3, .int a4, .int a5] dL_law_301 ml_L_23 wy_X12_feed (a_X12_feed _ e2) (by decide) sh_147 (by decide) rfl rfl (Nat.le_of_ble_eq_true rfl) rfl (by omega) (by omega) ?_
        refine gl_icmp_eq (pc := 304) C 1772 dL_law_304 rfl (fun _ => ?_) (fun c9 => absurd rfl c9)
        refine gl_iinc (v := nI (i + 6)) (ls' := [(4, .int (nI (i + 6))), (3, .ref 170), (2, .ref 147), (1, .ref 0), (0, .ref 2000)]) (pc := 1772) C 0 dL_law_1772 rfl (nI_add i 6) (by decide) rfl ?_
        refine gl_goto (pc := 1775) C 23 dL_law_1775 rfl ?_
        exact ih (i + 6) k z _ _ (by omega) (by omega) (by omega) (by omega) hI2
      by_cases c1 : w = (1 : Int32)
      · refine gl_tabIn (pc := 40) C 309 dL_law_40 (by rw [c1]; decide) (by rw [c1]; decide) (off := 269) (by rw [c1]; decide) rfl ?_
        obtain ⟨v, M1, M2, e1, e2, hI2⟩ := s_end M L hI a1
        refine gl_aload_n (pc := 309) C 3 dL_law_309 rfl rfl ?_
        refine gl_aload_n (pc := 310) C 4 dL_law_310 rfl rfl ?_
        refine gl_iload (pc := 311) C 0 dL_law_311 rfl ?_
        refine gl_iconst (w := (1)) (pc := 313) C dL_law_313 rfl ?_
        refine gl_iadd (pc := 314) C dL_law_314 ?_
        refine gl_sld (pc := 315) C dL_law_315 h1 ea1 ?_
        refine gl_callVi (pc := 316) C [.int a1] dL_law_316 ml_L_24 wy_X11_end (a_X11_end _ e1) (by decide) sh_0 (by decide) rfl rfl (Nat.le_of_ble_eq_true rfl) rfl (by omega) (by omega) ?_
        refine gl_aload_n (pc := 319) C 2 dL_law_319 rfl rfl ?_
        refine gl_aload_n (pc := 320) C 4 dL_law_320 rfl rfl ?_
        refine gl_iload (pc := 321) C 0 dL_law_321 rfl ?_
        refine gl_iconst (w := (1)) (pc := 323) C dL_law_323 rfl ?_
        refine gl_iadd (pc := 324) C dL_law_324 ?_
        refine gl_sld (pc := 325) C dL_law_325 h1 ea1 ?_
        refine gl_callVi (pc := 326) C [.int a1] dL_law_326 ml_L_28 wy_X12_end (a_X12_end _ e2) (by decide) sh_147 (by decide) rfl rfl (Nat.le_of_ble_eq_true rfl) rfl (by omega) (by omega) ?_
        refine gl_icmp_eq (pc := 329) C 1772 dL_law_329 rfl (fun _ => ?_) (fun c9 => absurd rfl c9)
        refine gl_iinc (v := nI (i + 6)) (ls' := [(4, .int (nI (i + 6))), (3, .ref 170), (2, .ref 147), (1, .ref 0), (0, .ref 2000)]) (pc := 1772) C 0 dL_law_1772 rfl (nI_add i 6) (by decide) rfl ?_
        refine gl_goto (pc := 1775) C 23 dL_law_1775 rfl ?_
        exact ih (i + 6) k z _ _ (by omega) (by omega) (by omega) (by omega) hI2
      by_cases c2 : w = (2 : Int32)
      · refine gl_tabIn (pc := 40) C 334 dL_law_40 (by rw [c2]; decide) (by rw [c2]; decide) (off := 294) (by rw [c2]; decide) rfl ?_
        obtain ⟨v, M1, M2, e1, e2, hI2⟩ := s_fault M L hI a1
        refine gl_aload_n (pc := 334) C 3 dL_law_334 rfl rfl ?_
        refine gl_aload_n (pc := 335) C 4 dL_law_335 rfl rfl ?_
        refine gl_iload (pc := 336) C 0 dL_law_336 rfl ?_
        refine gl_iconst (w := (1)) (pc := 338) C dL_law_338 rfl ?_
        refine gl_iadd (pc := 339) C dL_law_339 ?_
        refine gl_sld (pc := 340) C dL_law_340 h1 ea1 ?_
        refine gl_callVi (pc := 341) C [.int a1] dL_law_341 ml_L_29 wy_X11_fault (a_X11_fault _ e1) (by decide) sh_0 (by decide) rfl rfl (Nat.le_of_ble_eq_true rfl) rfl (by omega) (by omega) ?_
        refine gl_aload_n (pc := 344) C 2 dL_law_344 rfl rfl ?_
        refine gl_aload_n (pc := 345) C 4 dL_law_345 rfl rfl ?_
        refine gl_iload (pc := 346) C 0 dL_law_346 rfl ?_
        refine gl_iconst (w := (1)) (pc := 348) C dL_law_348 rfl ?_
        refine gl_iadd (pc := 349) C dL_law_349 ?_
        refine gl_sld (pc := 350) C dL_law_350 h1 ea1 ?_
        refine gl_callVi (pc := 351) C [.int a1] dL_law_351 ml_L_33 wy_X12_fault (a_X12_fault _ e2) (by decide) sh_147 (by decide) rfl rfl (Nat.le_of_ble_eq_true rfl) rfl (by omega) (by omega) ?_
        refine gl_icmp_eq (pc := 354) C 1772 dL_law_354 rfl (fun _ => ?_) (fun c9 => absurd rfl c9)
        refine gl_iinc (v := nI (i + 6)) (ls' := [(4, .int (nI (i + 6))), (3, .ref 170), (2, .ref 147), (1, .ref 0), (0, .ref 2000)]) (pc := 1772) C 0 dL_law_1772 rfl (nI_add i 6) (by decide) rfl ?_
        refine gl_goto (pc := 1775) C 23 dL_law_1775 rfl ?_
        exact ih (i + 6) k z _ _ (by omega) (by omega) (by omega) (by omega) hI2
      by_cases c3 : w = (3 : Int32)
      · refine gl_tabIn (pc := 40) C 359 dL_law_40 (by rw [c3]; decide) (by rw [c3]; decide) (off := 319) (by rw [c3]; decide) rfl ?_
        obtain ⟨v, M1, M2, e1, e2, hI2⟩ := s_text M L hI a1
        refine gl_aload_n (pc := 359) C 3 dL_law_359 rfl rfl ?_
        refine gl_aload_n (pc := 360) C 4 dL_law_360 rfl rfl ?_
        refine gl_iload (pc := 361) C 0 dL_law_361 rfl ?_
        refine gl_iconst (w := (1)) (pc := 363) C dL_law_363 rfl ?_
        refine gl_iadd (pc := 364) C dL_law_364 ?_
        refine gl_sld (pc := 365) C dL_law_365 h1 ea1 ?_
        refine gl_callVi (pc := 366) C [.int a1] dL_law_366 ml_L_34 wy_X11_text (a_X11_text _ e1) (by decide) sh_0 (by decide) rfl rfl (Nat.le_of_ble_eq_true rfl) rfl (by omega) (by omega) ?_
        refine gl_aload_n (pc := 369) C 2 dL_law_369 rfl rfl ?_
        refine gl_aload_n (pc := 370) C 4 dL_law_370 rfl rfl ?_
        refine gl_iload (pc := 371) C 0 dL_law_371 rfl ?_
        refine gl_iconst (w := (1)) (pc := 373) C dL_law_373 rfl ?_
        refine gl_iadd (pc := 374) C dL_law_374 ?_
        refine gl_sld (pc := 375) C dL_law_375 h1 ea1 ?_
        refine gl_callVi (pc := 376) C [.int a1] dL_law_376 ml_L_37 wy_X12_text (a_X12_text _ e2) (by decide) sh_147 (by decide) rfl rfl (Nat.le_of_ble_eq_true rfl) rfl (by omega) (by omega) ?_
        refine gl_icmp_eq (pc := 379) C 1772 dL_law_379 rfl (fun _ => ?_) (fun c9 => absurd rfl c9)
        refine gl_iinc (v := nI (i + 6)) (ls' := [(4, .int (nI (i + 6))), (3, .ref 170), (2, .ref 147), (1, .ref 0), (0, .ref 2000)]) (pc := 1772) C 0 dL_law_1772 rfl (nI_add i 6) (by decide) rfl ?_
        refine gl_goto (pc := 1775) C 23 dL_law_1775 rfl ?_
        exact ih (i + 6) k z _ _ (by omega) (by omega) (by omega) (by omega) hI2
      by_cases c4 : w = (4 : Int32)
      · refine gl_tabIn (pc := 40) C 384 dL_law_40 (by rw [c4]; decide) (by rw [c4]; decide) (off := 344) (by rw [c4]; decide) rfl ?_
        obtain ⟨v, M2, e1, e2, hI2⟩ := s_rule M L hI a1
        refine gl_aload_n (pc := 384) C 3 dL_law_384 rfl rfl ?_
        refine gl_aload_n (pc := 385) C 4 dL_law_385 rfl rfl ?_
        refine gl_iload (pc := 386) C 0 dL_law_386 rfl ?_
        refine gl_iconst (w := (1)) (pc := 388) C dL_law_388 rfl ?_
        refine gl_iadd (pc := 389) C dL_law_389 ?_
        refine gl_sld (pc := 390) C dL_law_390 h1 ea1 ?_
        refine gl_callVi (pc := 391) C [.int a1] dL_law_391 ml_L_38 wy_X11_rule (a_X11_rule _ e1) (by decide) sh_0 (by decide) rfl rfl (Nat.le_of_ble_eq_true rfl) rfl (by omega) (by omega) ?_
        refine gl_aload_n (pc := 394) C 2 dL_law_394 rfl rfl ?_
        refine gl_aload_n (pc := 395) C 4 dL_law_395 rfl rfl ?_
        refine gl_iload (pc := 396) C 0 dL_law_396 rfl ?_
        refine gl_iconst (w := (1)) (pc := 398) C dL_law_398 rfl ?_
        refine gl_iadd (pc := 399) C dL_law_399 ?_
        refine gl_sld (pc := 400) C dL_law_400 h1 ea1 ?_
        refine gl_callVi (pc := 401) C [.int a1] dL_law_401 ml_L_41 wy_X12_rule (a_X12_rule _ e2) (by decide) sh_147 (by decide) rfl rfl (Nat.le_of_ble_eq_true rfl) rfl (by omega) (by omega) ?_
        refine gl_icmp_eq (pc := 404) C 1772 dL_law_404 rfl (fun _ => ?_) (fun c9 => absurd rfl c9)
        refine gl_iinc (v := nI (i + 6)) (ls' := [(4, .int (nI (i + 6))), (3, .ref 170), (2, .ref 147), (1, .ref 0), (0, .ref 2000)]) (pc := 1772) C 0 dL_law_1772 rfl (nI_add i 6) (by decide) rfl ?_
        refine gl_goto (pc := 1775) C 23 dL_law_1775 rfl ?_
        exact ih (i + 6) k z _ _ (by omega) (by omega) (by omega) (by omega) hI2
      by_cases c5 : w = (5 : Int32)
      · refine gl_tabIn (pc := 40) C 409 dL_law_40 (by rw [c5]; decide) (by rw [c5]; decide) (off := 369) (by rw [c5]; decide) rfl ?_
        obtain ⟨fl, v, b, M2, e1, hfl, e2, e3, hbv, hI2⟩ := s_person M L hI a1 a2
        refine gl_aload_n (pc := 409) C 3 dL_law_409 rfl rfl ?_
        refine gl_aload_n (pc := 410) C 4 dL_law_410 rfl rfl ?_
        refine gl_iload (pc := 411) C 0 dL_law_411 rfl ?_
        refine gl_iconst (w := (1)) (pc := 413) C dL_law_413 rfl ?_
        refine gl_iadd (pc := 414) C dL_law_414 ?_
        refine gl_sld (pc := 415) C dL_law_415 h1 ea1 ?_
        refine gl_aload_n (pc := 416) C 4 dL_law_416 rfl rfl ?_
        refine gl_iload (pc := 417) C 0 dL_law_417 rfl ?_
        refine gl_iconst (w := (2)) (pc := 419) C dL_law_419 rfl ?_
        refine gl_iadd (pc := 420) C dL_law_420 ?_
        refine gl_sld (pc := 421) C dL_law_421 h2 ea2 ?_
        refine gl_aload_n (pc := 422) C 1 dL_law_422 rfl rfl ?_
        refine hper k z 423 _ M L a1 a2 fl v e1 rfl (by omega) (by omega) ?_
        have hI3 : Inv M2 (if fl = 0 then gs_upl L 170 0 v.toInt64 else L) := by
          by_cases hf : fl = 0
          · rw [if_pos hf]; exact (hI2 _).1
          · rw [if_neg hf]; exact (hI2 0).2
        refine gl_istore (ls' := [(5, .int fl), (4, .int (nI i)), (3, .ref 170), (2, .ref 147), (1, .ref 0), (0, .ref 2000)]) (pc := 426) C dL_law_426 (by decide) rfl ?_
        refine gl_aload_n (pc := 428) C 3 dL_law_428 rfl rfl ?_
        refine gl_aload_n (pc := 429) C 5 dL_law_429 rfl rfl ?_
        refine gl_iload (pc := 430) C 1 dL_law_430 rfl ?_
        refine gl_iconst (w := (1)) (pc := 432) C dL_law_432 rfl ?_
        refine gl_iadd (pc := 433) C dL_law_433 ?_
        refine gl_sld (pc := 434) C dL_law_434 h1 ea1 ?_
        refine gl_aload_n (pc := 435) C 5 dL_law_435 rfl rfl ?_
        refine gl_iload (pc := 436) C 1 dL_law_436 rfl ?_
        refine gl_iconst (w := (2)) (pc := 438) C dL_law_438 rfl ?_
        refine gl_iadd (pc := 439) C dL_law_439 ?_
        refine gl_sld (pc := 440) C dL_law_440 h2 ea2 ?_
        refine gl_callVi (pc := 441) C [.int a1, .int a2] dL_law_441 ml_L_47 wy_X12_person (a_X12_person _ e2) (by decide) sh_147 (by decide) rfl rfl (Nat.le_of_ble_eq_true rfl) rfl (by omega) (by omega) ?_
        refine gl_istore (ls' := [(6, .int b), (5, .int fl), (4, .int (nI i)), (3, .ref 170), (2, .ref 147), (1, .ref 0), (0, .ref 2000)]) (pc := 444) C dL_law_444 (by decide) rfl ?_
        refine gl_aload_n (pc := 446) C 4 dL_law_446 rfl rfl ?_
        refine gl_callVi (pc := 447) C [] dL_law_447 ml_L_48 wy_X12_thrown (a_X12_thrown _ e3) (by decide) sh_147 (by decide) rfl rfl (Nat.le_of_ble_eq_true rfl) rfl (by omega) (by omega) ?_
        refine gl_iload (pc := 450) C 1 dL_law_450 rfl ?_
        refine gl_icmp_eq (pc := 452) C 457 dL_law_452 rfl (fun _ => ?_) (fun c9 => absurd rfl c9)
        refine gl_iload (pc := 457) C 1 dL_law_457 rfl ?_
        refine gl_if_ne (pc := 459) C 474 dL_law_459 rfl (fun _ => ?_) (fun c9 => ?_)
        · refine gl_goto (pc := 474) C 1772 dL_law_474 rfl ?_
          refine gl_sub [2, 3, 4, 5, 6] rfl ?_
          refine gl_iinc (v := nI (i + 6)) (ls' := [(4, .int (nI (i + 6))), (3, .ref 170), (2, .ref 147), (1, .ref 0), (0, .ref 2000)]) (pc := 1772) C 0 dL_law_1772 rfl (nI_add i 6) (by decide) rfl ?_
          refine gl_goto (pc := 1775) C 23 dL_law_1775 rfl ?_
          exact ih (i + 6) (k + 1) (z + 6) _ _ (by omega) (by omega) (by omega) (by omega) hI3
        · refine gl_aload_n (pc := 462) C 3 dL_law_462 rfl rfl ?_
          refine gl_iconst (w := 0) (pc := 463) C dL_law_463 rfl ?_
          refine gl_lald (v := v.toInt64) (pc := 464) C dL_law_464 sh_170 (by rw [if_pos c9]; rfl) ?_
          refine gl_iload (pc := 465) C 0 dL_law_465 rfl ?_
          refine gl_i2l (pc := 467) C dL_law_467 ?_
          refine gl_lcmp (pc := 468) C dL_law_468 ?_
          refine gl_if_eq (pc := 469) C 474 dL_law_469 rfl (fun _ => ?_) (fun c8 => absurd (by rw [hbv c9]; exact gl_cmp _) c8)
          refine gl_goto (pc := 474) C 1772 dL_law_474 rfl ?_
          refine gl_sub [2, 3, 4, 5, 6] rfl ?_
          refine gl_iinc (v := nI (i + 6)) (ls' := [(4, .int (nI (i + 6))), (3, .ref 170), (2, .ref 147), (1, .ref 0), (0, .ref 2000)]) (pc := 1772) C 0 dL_law_1772 rfl (nI_add i 6) (by decide) rfl ?_
          refine gl_goto (pc := 1775) C 23 dL_law_1775 rfl ?_
          exact ih (i + 6) (k + 1) (z + 6) _ _ (by omega) (by omega) (by omega) (by omega) hI3
      by_cases c6 : w = (6 : Int32)
      · refine gl_tabIn (pc := 40) C 477 dL_law_40 (by rw [c6]; decide) (by rw [c6]; decide) (off := 437) (by rw [c6]; decide) rfl ?_
        obtain ⟨v, M1, M2, e1, e2, hI2⟩ := s_law M L hI a1
        refine gl_aload_n (pc := 477) C 3 dL_law_477 rfl rfl ?_
        refine gl_aload_n (pc := 478) C 4 dL_law_478 rfl rfl ?_
        refine gl_iload (pc := 479) C 0 dL_law_479 rfl ?_
        refine gl_iconst (w := (1)) (pc := 481) C dL_law_481 rfl ?_
        refine gl_iadd (pc := 482) C dL_law_482 ?_
        refine gl_sld (pc := 483) C dL_law_483 h1 ea1 ?_
        refine gl_callVi (pc := 484) C [.int a1] dL_law_484 ml_L_52 wy_X11_law (a_X11_law _ e1) (by decide) sh_0 (by decide) rfl rfl (Nat.le_of_ble_eq_true rfl) rfl (by omega) (by omega) ?_
        refine gl_aload_n (pc := 487) C 2 dL_law_487 rfl rfl ?_
        refine gl_aload_n (pc := 488) C 4 dL_law_488 rfl rfl ?_
        refine gl_iload (pc := 489) C 0 dL_law_489 rfl ?_
        refine gl_iconst (w := (1)) (pc := 491) C dL_law_491 rfl ?_
        refine gl_iadd (pc := 492) C dL_law_492 ?_
        refine gl_sld (pc := 493) C dL_law_493 h1 ea1 ?_
        refine gl_callVi (pc := 494) C [.int a1] dL_law_494 ml_L_55 wy_X12_law (a_X12_law _ e2) (by decide) sh_147 (by decide) rfl rfl (Nat.le_of_ble_eq_true rfl) rfl (by omega) (by omega) ?_
        refine gl_icmp_eq (pc := 497) C 1772 dL_law_497 rfl (fun _ => ?_) (fun c9 => absurd rfl c9)
        refine gl_iinc (v := nI (i + 6)) (ls' := [(4, .int (nI (i + 6))), (3, .ref 170), (2, .ref 147), (1, .ref 0), (0, .ref 2000)]) (pc := 1772) C 0 dL_law_1772 rfl (nI_add i 6) (by decide) rfl ?_
        refine gl_goto (pc := 1775) C 23 dL_law_1775 rfl ?_
        exact ih (i + 6) k z _ _ (by omega) (by omega) (by omega) (by omega) hI2
      by_cases c7 : w = (7 : Int32)
      · refine gl_tabIn (pc := 40) C 502 dL_law_40 (by rw [c7]; decide) (by rw [c7]; decide) (off := 462) (by rw [c7]; decide) rfl ?_
        obtain ⟨v, M1, M2, e1, e2, hI2⟩ := s_watch M L hI a1
        refine gl_aload_n (pc := 502) C 3 dL_law_502 rfl rfl ?_
        refine gl_aload_n (pc := 503) C 4 dL_law_503 rfl rfl ?_
        refine gl_iload (pc := 504) C 0 dL_law_504 rfl ?_
        refine gl_iconst (w := (1)) (pc := 506) C dL_law_506 rfl ?_
        refine gl_iadd (pc := 507) C dL_law_507 ?_
        refine gl_sld (pc := 508) C dL_law_508 h1 ea1 ?_
        refine gl_callVi (pc := 509) C [.int a1] dL_law_509 ml_L_56 wy_X11_watch (a_X11_watch _ e1) (by decide) sh_0 (by decide) rfl rfl (Nat.le_of_ble_eq_true rfl) rfl (by omega) (by omega) ?_
        refine gl_aload_n (pc := 512) C 2 dL_law_512 rfl rfl ?_
        refine gl_aload_n (pc := 513) C 4 dL_law_513 rfl rfl ?_
        refine gl_iload (pc := 514) C 0 dL_law_514 rfl ?_
        refine gl_iconst (w := (1)) (pc := 516) C dL_law_516 rfl ?_
        refine gl_iadd (pc := 517) C dL_law_517 ?_
        refine gl_sld (pc := 518) C dL_law_518 h1 ea1 ?_
        refine gl_callVi (pc := 519) C [.int a1] dL_law_519 ml_L_59 wy_X12_watch (a_X12_watch _ e2) (by decide) sh_147 (by decide) rfl rfl (Nat.le_of_ble_eq_true rfl) rfl (by omega) (by omega) ?_
        refine gl_icmp_eq (pc := 522) C 1772 dL_law_522 rfl (fun _ => ?_) (fun c9 => absurd rfl c9)
        refine gl_iinc (v := nI (i + 6)) (ls' := [(4, .int (nI (i + 6))), (3, .ref 170), (2, .ref 147), (1, .ref 0), (0, .ref 2000)]) (pc := 1772) C 0 dL_law_1772 rfl (nI_add i 6) (by decide) rfl ?_
        refine gl_goto (pc := 1775) C 23 dL_law_1775 rfl ?_
        exact ih (i + 6) k z _ _ (by omega) (by omega) (by omega) (by omega) hI2
      by_cases c8 : w = (8 : Int32)
      · refine gl_tabIn (pc := 40) C 527 dL_law_40 (by rw [c8]; decide) (by rw [c8]; decide) (off := 487) (by rw [c8]; decide) rfl ?_
        obtain ⟨v, M2, e1, e2, hI2⟩ := s_watched M L hI a1 a2
        refine gl_aload_n (pc := 527) C 3 dL_law_527 rfl rfl ?_
        refine gl_aload_n (pc := 528) C 4 dL_law_528 rfl rfl ?_
        refine gl_iload (pc := 529) C 0 dL_law_529 rfl ?_
        refine gl_iconst (w := (1)) (pc := 531) C dL_law_531 rfl ?_
        refine gl_iadd (pc := 532) C dL_law_532 ?_
        refine gl_sld (pc := 533) C dL_law_533 h1 ea1 ?_
        refine gl_aload_n (pc := 534) C 4 dL_law_534 rfl rfl ?_
        refine gl_iload (pc := 535) C 0 dL_law_535 rfl ?_
        refine gl_iconst (w := (2)) (pc := 537) C dL_law_537 rfl ?_
        refine gl_iadd (pc := 538) C dL_law_538 ?_
        refine gl_sld (pc := 539) C dL_law_539 h2 ea2 ?_
        refine gl_callVi (pc := 540) C [.int a1, .int a2] dL_law_540 ml_L_60 wy_X11_watched (a_X11_watched _ e1) (by decide) sh_0 (by decide) rfl rfl (Nat.le_of_ble_eq_true rfl) rfl (by omega) (by omega) ?_
        refine gl_aload_n (pc := 543) C 2 dL_law_543 rfl rfl ?_
        refine gl_aload_n (pc := 544) C 4 dL_law_544 rfl rfl ?_
        refine gl_iload (pc := 545) C 0 dL_law_545 rfl ?_
        refine gl_iconst (w := (1)) (pc := 547) C dL_law_547 rfl ?_
        refine gl_iadd (pc := 548) C dL_law_548 ?_
        refine gl_sld (pc := 549) C dL_law_549 h1 ea1 ?_
        refine gl_aload_n (pc := 550) C 4 dL_law_550 rfl rfl ?_
        refine gl_iload (pc := 551) C 0 dL_law_551 rfl ?_
        refine gl_iconst (w := (2)) (pc := 553) C dL_law_553 rfl ?_
        refine gl_iadd (pc := 554) C dL_law_554 ?_
        refine gl_sld (pc := 555) C dL_law_555 h2 ea2 ?_
        refine gl_callVi (pc := 556) C [.int a1, .int a2] dL_law_556 ml_L_63 wy_X12_watched (a_X12_watched _ e2) (by decide) sh_147 (by decide) rfl rfl (Nat.le_of_ble_eq_true rfl) rfl (by omega) (by omega) ?_
        refine gl_icmp_eq (pc := 559) C 1772 dL_law_559 rfl (fun _ => ?_) (fun c9 => absurd rfl c9)
        refine gl_iinc (v := nI (i + 6)) (ls' := [(4, .int (nI (i + 6))), (3, .ref 170), (2, .ref 147), (1, .ref 0), (0, .ref 2000)]) (pc := 1772) C 0 dL_law_1772 rfl (nI_add i 6) (by decide) rfl ?_
        refine gl_goto (pc := 1775) C 23 dL_law_1775 rfl ?_
        exact ih (i + 6) k z _ _ (by omega) (by omega) (by omega) (by omega) hI2
      by_cases c9 : w = (9 : Int32)
      · refine gl_tabIn (pc := 40) C 564 dL_law_40 (by rw [c9]; decide) (by rw [c9]; decide) (off := 524) (by rw [c9]; decide) rfl ?_
        obtain ⟨v, M1, M2, e1, e2, hI2⟩ := s_crimes M L hI a1
        refine gl_aload_n (pc := 564) C 3 dL_law_564 rfl rfl ?_
        refine gl_aload_n (pc := 565) C 4 dL_law_565 rfl rfl ?_
        refine gl_iload (pc := 566) C 0 dL_law_566 rfl ?_
        refine gl_iconst (w := (1)) (pc := 568) C dL_law_568 rfl ?_
        refine gl_iadd (pc := 569) C dL_law_569 ?_
        refine gl_sld (pc := 570) C dL_law_570 h1 ea1 ?_
        refine gl_callVi (pc := 571) C [.int a1] dL_law_571 ml_L_64 wy_X11_crimes (a_X11_crimes _ e1) (by decide) sh_0 (by decide) rfl rfl (Nat.le_of_ble_eq_true rfl) rfl (by omega) (by omega) ?_
        refine gl_aload_n (pc := 574) C 2 dL_law_574 rfl rfl ?_
        refine gl_aload_n (pc := 575) C 4 dL_law_575 rfl rfl ?_
        refine gl_iload (pc := 576) C 0 dL_law_576 rfl ?_
        refine gl_iconst (w := (1)) (pc := 578) C dL_law_578 rfl ?_
        refine gl_iadd (pc := 579) C dL_law_579 ?_
        refine gl_sld (pc := 580) C dL_law_580 h1 ea1 ?_
        refine gl_callVi (pc := 581) C [.int a1] dL_law_581 ml_L_67 wy_X12_crimes (a_X12_crimes _ e2) (by decide) sh_147 (by decide) rfl rfl (Nat.le_of_ble_eq_true rfl) rfl (by omega) (by omega) ?_
        refine gl_icmp_eq (pc := 584) C 1772 dL_law_584 rfl (fun _ => ?_) (fun c9 => absurd rfl c9)
        refine gl_iinc (v := nI (i + 6)) (ls' := [(4, .int (nI (i + 6))), (3, .ref 170), (2, .ref 147), (1, .ref 0), (0, .ref 2000)]) (pc := 1772) C 0 dL_law_1772 rfl (nI_add i 6) (by decide) rfl ?_
        refine gl_goto (pc := 1775) C 23 dL_law_1775 rfl ?_
        exact ih (i + 6) k z _ _ (by omega) (by omega) (by omega) (by omega) hI2
      by_cases c10 : w = (10 : Int32)
      · refine gl_tabIn (pc := 40) C 589 dL_law_40 (by rw [c10]; decide) (by rw [c10]; decide) (off := 549) (by rw [c10]; decide) rfl ?_
        obtain ⟨v, M1, M2, e1, e2, hI2⟩ := s_wakes M L hI a1 a2
        refine gl_aload_n (pc := 589) C 3 dL_law_589 rfl rfl ?_
        refine gl_aload_n (pc := 590) C 4 dL_law_590 rfl rfl ?_
        refine gl_iload (pc := 591) C 0 dL_law_591 rfl ?_
        refine gl_iconst (w := (1)) (pc := 593) C dL_law_593 rfl ?_
        refine gl_iadd (pc := 594) C dL_law_594 ?_
        refine gl_sld (pc := 595) C dL_law_595 h1 ea1 ?_
        refine gl_aload_n (pc := 596) C 4 dL_law_596 rfl rfl ?_
        refine gl_iload (pc := 597) C 0 dL_law_597 rfl ?_
        refine gl_iconst (w := (2)) (pc := 599) C dL_law_599 rfl ?_
        refine gl_iadd (pc := 600) C dL_law_600 ?_
        refine gl_sld (pc := 601) C dL_law_601 h2 ea2 ?_
        refine gl_callVi (pc := 602) C [.int a1, .int a2] dL_law_602 ml_L_68 wy_X11_wakes (a_X11_wakes _ e1) (by decide) sh_0 (by decide) rfl rfl (Nat.le_of_ble_eq_true rfl) rfl (by omega) (by omega) ?_
        refine gl_aload_n (pc := 605) C 2 dL_law_605 rfl rfl ?_
        refine gl_aload_n (pc := 606) C 4 dL_law_606 rfl rfl ?_
        refine gl_iload (pc := 607) C 0 dL_law_607 rfl ?_
        refine gl_iconst (w := (1)) (pc := 609) C dL_law_609 rfl ?_
        refine gl_iadd (pc := 610) C dL_law_610 ?_
        refine gl_sld (pc := 611) C dL_law_611 h1 ea1 ?_
        refine gl_aload_n (pc := 612) C 4 dL_law_612 rfl rfl ?_
        refine gl_iload (pc := 613) C 0 dL_law_613 rfl ?_
        refine gl_iconst (w := (2)) (pc := 615) C dL_law_615 rfl ?_
        refine gl_iadd (pc := 616) C dL_law_616 ?_
        refine gl_sld (pc := 617) C dL_law_617 h2 ea2 ?_
        refine gl_callVi (pc := 618) C [.int a1, .int a2] dL_law_618 ml_L_71 wy_X12_wakes (a_X12_wakes _ e2) (by decide) sh_147 (by decide) rfl rfl (Nat.le_of_ble_eq_true rfl) rfl (by omega) (by omega) ?_
        refine gl_icmp_eq (pc := 621) C 1772 dL_law_621 rfl (fun _ => ?_) (fun c9 => absurd rfl c9)
        refine gl_iinc (v := nI (i + 6)) (ls' := [(4, .int (nI (i + 6))), (3, .ref 170), (2, .ref 147), (1, .ref 0), (0, .ref 2000)]) (pc := 1772) C 0 dL_law_1772 rfl (nI_add i 6) (by decide) rfl ?_
        refine gl_goto (pc := 1775) C 23 dL_law_1775 rfl ?_
        exact ih (i + 6) k z _ _ (by omega) (by omega) (by omega) (by omega) hI2
      by_cases c11 : w = (11 : Int32)
      · refine gl_tabIn (pc := 40) C 626 dL_law_40 (by rw [c11]; decide) (by rw [c11]; decide) (off := 586) (by rw [c11]; decide) rfl ?_
        obtain ⟨v, M1, M2, e1, e2, hI2⟩ := s_deed M L hI a1 a2
        refine gl_aload_n (pc := 626) C 3 dL_law_626 rfl rfl ?_
        refine gl_aload_n (pc := 627) C 4 dL_law_627 rfl rfl ?_
        refine gl_iload (pc := 628) C 0 dL_law_628 rfl ?_
        refine gl_iconst (w := (1)) (pc := 630) C dL_law_630 rfl ?_
        refine gl_iadd (pc := 631) C dL_law_631 ?_
        refine gl_sld (pc := 632) C dL_law_632 h1 ea1 ?_
        refine gl_aload_n (pc := 633) C 4 dL_law_633 rfl rfl ?_
        refine gl_iload (pc := 634) C 0 dL_law_634 rfl ?_
        refine gl_iconst (w := (2)) (pc := 636) C dL_law_636 rfl ?_
        refine gl_iadd (pc := 637) C dL_law_637 ?_
        refine gl_sld (pc := 638) C dL_law_638 h2 ea2 ?_
        refine gl_callVi (pc := 639) C [.int a1, .int a2] dL_law_639 ml_L_72 wy_X11_deed (a_X11_deed _ e1) (by decide) sh_0 (by decide) rfl rfl (Nat.le_of_ble_eq_true rfl) rfl (by omega) (by omega) ?_
        refine gl_aload_n (pc := 642) C 2 dL_law_642 rfl rfl ?_
        refine gl_aload_n (pc := 643) C 4 dL_law_643 rfl rfl ?_
        refine gl_iload (pc := 644) C 0 dL_law_644 rfl ?_
        refine gl_iconst (w := (1)) (pc := 646) C dL_law_646 rfl ?_
        refine gl_iadd (pc := 647) C dL_law_647 ?_
        refine gl_sld (pc := 648) C dL_law_648 h1 ea1 ?_
        refine gl_aload_n (pc := 649) C 4 dL_law_649 rfl rfl ?_
        refine gl_iload (pc := 650) C 0 dL_law_650 rfl ?_
        refine gl_iconst (w := (2)) (pc := 652) C dL_law_652 rfl ?_
        refine gl_iadd (pc := 653) C dL_law_653 ?_
        refine gl_sld (pc := 654) C dL_law_654 h2 ea2 ?_
        refine gl_callVi (pc := 655) C [.int a1, .int a2] dL_law_655 ml_L_75 wy_X12_deed (a_X12_deed _ e2) (by decide) sh_147 (by decide) rfl rfl (Nat.le_of_ble_eq_true rfl) rfl (by omega) (by omega) ?_
        refine gl_icmp_eq (pc := 658) C 1772 dL_law_658 rfl (fun _ => ?_) (fun c9 => absurd rfl c9)
        refine gl_iinc (v := nI (i + 6)) (ls' := [(4, .int (nI (i + 6))), (3, .ref 170), (2, .ref 147), (1, .ref 0), (0, .ref 2000)]) (pc := 1772) C 0 dL_law_1772 rfl (nI_add i 6) (by decide) rfl ?_
        refine gl_goto (pc := 1775) C 23 dL_law_1775 rfl ?_
        exact ih (i + 6) k z _ _ (by omega) (by omega) (by omega) (by omega) hI2
      by_cases c12 : w = (12 : Int32)
      · refine gl_tabIn (pc := 40) C 663 dL_law_40 (by rw [c12]; decide) (by rw [c12]; decide) (off := 623) (by rw [c12]; decide) rfl ?_
        obtain ⟨v, M1, M2, e1, e2, hI2⟩ := s_coffee M L hI a1
        refine gl_aload_n (pc := 663) C 3 dL_law_663 rfl rfl ?_
        refine gl_aload_n (pc := 664) C 4 dL_law_664 rfl rfl ?_
        refine gl_iload (pc := 665) C 0 dL_law_665 rfl ?_
        refine gl_iconst (w := (1)) (pc := 667) C dL_law_667 rfl ?_
        refine gl_iadd (pc := 668) C dL_law_668 ?_
        refine gl_sld (pc := 669) C dL_law_669 h1 ea1 ?_
        refine gl_callVi (pc := 670) C [.int a1] dL_law_670 ml_L_76 wy_X11_coffee (a_X11_coffee _ e1) (by decide) sh_0 (by decide) rfl rfl (Nat.le_of_ble_eq_true rfl) rfl (by omega) (by omega) ?_
        refine gl_aload_n (pc := 673) C 2 dL_law_673 rfl rfl ?_
        refine gl_aload_n (pc := 674) C 4 dL_law_674 rfl rfl ?_
        refine gl_iload (pc := 675) C 0 dL_law_675 rfl ?_
        refine gl_iconst (w := (1)) (pc := 677) C dL_law_677 rfl ?_
        refine gl_iadd (pc := 678) C dL_law_678 ?_
        refine gl_sld (pc := 679) C dL_law_679 h1 ea1 ?_
        refine gl_callVi (pc := 680) C [.int a1] dL_law_680 ml_L_79 wy_X12_coffee (a_X12_coffee _ e2) (by decide) sh_147 (by decide) rfl rfl (Nat.le_of_ble_eq_true rfl) rfl (by omega) (by omega) ?_
        refine gl_icmp_eq (pc := 683) C 1772 dL_law_683 rfl (fun _ => ?_) (fun c9 => absurd rfl c9)
        refine gl_iinc (v := nI (i + 6)) (ls' := [(4, .int (nI (i + 6))), (3, .ref 170), (2, .ref 147), (1, .ref 0), (0, .ref 2000)]) (pc := 1772) C 0 dL_law_1772 rfl (nI_add i 6) (by decide) rfl ?_
        refine gl_goto (pc := 1775) C 23 dL_law_1775 rfl ?_
        exact ih (i + 6) k z _ _ (by omega) (by omega) (by omega) (by omega) hI2
      by_cases c13 : w = (13 : Int32)
      · refine gl_tabIn (pc := 40) C 688 dL_law_40 (by rw [c13]; decide) (by rw [c13]; decide) (off := 648) (by rw [c13]; decide) rfl ?_
        obtain ⟨v, M1, M2, e1, e2, hI2⟩ := s_forge M L hI a1
        refine gl_aload_n (pc := 688) C 3 dL_law_688 rfl rfl ?_
        refine gl_aload_n (pc := 689) C 4 dL_law_689 rfl rfl ?_
        refine gl_iload (pc := 690) C 0 dL_law_690 rfl ?_
        refine gl_iconst (w := (1)) (pc := 692) C dL_law_692 rfl ?_
        refine gl_iadd (pc := 693) C dL_law_693 ?_
        refine gl_sld (pc := 694) C dL_law_694 h1 ea1 ?_
        refine gl_callVi (pc := 695) C [.int a1] dL_law_695 ml_L_80 wy_X11_forge (a_X11_forge _ e1) (by decide) sh_0 (by decide) rfl rfl (Nat.le_of_ble_eq_true rfl) rfl (by omega) (by omega) ?_
        refine gl_aload_n (pc := 698) C 2 dL_law_698 rfl rfl ?_
        refine gl_aload_n (pc := 699) C 4 dL_law_699 rfl rfl ?_
        refine gl_iload (pc := 700) C 0 dL_law_700 rfl ?_
        refine gl_iconst (w := (1)) (pc := 702) C dL_law_702 rfl ?_
        refine gl_iadd (pc := 703) C dL_law_703 ?_
        refine gl_sld (pc := 704) C dL_law_704 h1 ea1 ?_
        refine gl_callVi (pc := 705) C [.int a1] dL_law_705 ml_L_83 wy_X12_forge (a_X12_forge _ e2) (by decide) sh_147 (by decide) rfl rfl (Nat.le_of_ble_eq_true rfl) rfl (by omega) (by omega) ?_
        refine gl_icmp_eq (pc := 708) C 1772 dL_law_708 rfl (fun _ => ?_) (fun c9 => absurd rfl c9)
        refine gl_iinc (v := nI (i + 6)) (ls' := [(4, .int (nI (i + 6))), (3, .ref 170), (2, .ref 147), (1, .ref 0), (0, .ref 2000)]) (pc := 1772) C 0 dL_law_1772 rfl (nI_add i 6) (by decide) rfl ?_
        refine gl_goto (pc := 1775) C 23 dL_law_1775 rfl ?_
        exact ih (i + 6) k z _ _ (by omega) (by omega) (by omega) (by omega) hI2
      by_cases c14 : w = (14 : Int32)
      · refine gl_tabIn (pc := 40) C 713 dL_law_40 (by rw [c14]; decide) (by rw [c14]; decide) (off := 673) (by rw [c14]; decide) rfl ?_
        obtain ⟨v, M1, M2, e1, e2, hI2⟩ := s_worry M L hI a1 a2
        refine gl_aload_n (pc := 713) C 3 dL_law_713 rfl rfl ?_
        refine gl_aload_n (pc := 714) C 4 dL_law_714 rfl rfl ?_
        refine gl_iload (pc := 715) C 0 dL_law_715 rfl ?_
        refine gl_iconst (w := (1)) (pc := 717) C dL_law_717 rfl ?_
        refine gl_iadd (pc := 718) C dL_law_718 ?_
        refine gl_sld (pc := 719) C dL_law_719 h1 ea1 ?_
        refine gl_aload_n (pc := 720) C 4 dL_law_720 rfl rfl ?_
        refine gl_iload (pc := 721) C 0 dL_law_721 rfl ?_
        refine gl_iconst (w := (2)) (pc := 723) C dL_law_723 rfl ?_
        refine gl_iadd (pc := 724) C dL_law_724 ?_
        refine gl_sld (pc := 725) C dL_law_725 h2 ea2 ?_
        refine gl_callVi (pc := 726) C [.int a1, .int a2] dL_law_726 ml_L_84 wy_X11_worry (a_X11_worry _ e1) (by decide) sh_0 (by decide) rfl rfl (Nat.le_of_ble_eq_true rfl) rfl (by omega) (by omega) ?_
        refine gl_aload_n (pc := 729) C 2 dL_law_729 rfl rfl ?_
        refine gl_aload_n (pc := 730) C 4 dL_law_730 rfl rfl ?_
        refine gl_iload (pc := 731) C 0 dL_law_731 rfl ?_
        refine gl_iconst (w := (1)) (pc := 733) C dL_law_733 rfl ?_
        refine gl_iadd (pc := 734) C dL_law_734 ?_
        refine gl_sld (pc := 735) C dL_law_735 h1 ea1 ?_
        refine gl_aload_n (pc := 736) C 4 dL_law_736 rfl rfl ?_
        refine gl_iload (pc := 737) C 0 dL_law_737 rfl ?_
        refine gl_iconst (w := (2)) (pc := 739) C dL_law_739 rfl ?_
        refine gl_iadd (pc := 740) C dL_law_740 ?_
        refine gl_sld (pc := 741) C dL_law_741 h2 ea2 ?_
        refine gl_callVi (pc := 742) C [.int a1, .int a2] dL_law_742 ml_L_87 wy_X12_worry (a_X12_worry _ e2) (by decide) sh_147 (by decide) rfl rfl (Nat.le_of_ble_eq_true rfl) rfl (by omega) (by omega) ?_
        refine gl_icmp_eq (pc := 745) C 1772 dL_law_745 rfl (fun _ => ?_) (fun c9 => absurd rfl c9)
        refine gl_iinc (v := nI (i + 6)) (ls' := [(4, .int (nI (i + 6))), (3, .ref 170), (2, .ref 147), (1, .ref 0), (0, .ref 2000)]) (pc := 1772) C 0 dL_law_1772 rfl (nI_add i 6) (by decide) rfl ?_
        refine gl_goto (pc := 1775) C 23 dL_law_1775 rfl ?_
        exact ih (i + 6) k z _ _ (by omega) (by omega) (by omega) (by omega) hI2
      by_cases c15 : w = (15 : Int32)
      · refine gl_tabIn (pc := 40) C 750 dL_law_40 (by rw [c15]; decide) (by rw [c15]; decide) (off := 710) (by rw [c15]; decide) rfl ?_
        obtain ⟨v, M1, L1, M2, L2, e1, e2, hI2⟩ := s_night M L hI (((Int32.toInt64 a1) <<< (Int32.toInt64 (32 : Int32) &&& 63)) ||| ((Int32.toInt64 a2) &&& (4294967295 : Int64)))
        refine gl_aload_n (pc := 750) C 3 dL_law_750 rfl rfl ?_
        refine gl_aload_n (pc := 751) C 4 dL_law_751 rfl rfl ?_
        refine gl_iload (pc := 752) C 0 dL_law_752 rfl ?_
        refine gl_iconst (w := (1)) (pc := 754) C dL_law_754 rfl ?_
        refine gl_iadd (pc := 755) C dL_law_755 ?_
        refine gl_sld (pc := 756) C dL_law_756 h1 ea1 ?_
        refine gl_i2l (pc := 757) C dL_law_757 ?_
        refine gl_bipush (w := (32)) (pc := 758) C dL_law_758 rfl ?_
        refine gl_lshl (pc := 760) C dL_law_760 ?_
        refine gl_aload_n (pc := 761) C 4 dL_law_761 rfl rfl ?_
        refine gl_iload (pc := 762) C 0 dL_law_762 rfl ?_
        refine gl_iconst (w := (2)) (pc := 764) C dL_law_764 rfl ?_
        refine gl_iadd (pc := 765) C dL_law_765 ?_
        refine gl_sld (pc := 766) C dL_law_766 h2 ea2 ?_
        refine gl_i2l (pc := 767) C dL_law_767 ?_
        refine gl_ldc2 (pc := 768) C dL_law_768 wj_L_88 ?_
        refine gl_land (pc := 771) C dL_law_771 ?_
        refine gl_lor (pc := 772) C dL_law_772 ?_
        refine gl_callVi (pc := 773) C [.long (((Int32.toInt64 a1) <<< (Int32.toInt64 (32 : Int32) &&& 63)) ||| ((Int32.toInt64 a2) &&& (4294967295 : Int64)))] dL_law_773 ml_L_90 wy_X11_night (a_X11_night _ e1) (by decide) sh_0 (by decide) rfl rfl (Nat.le_of_ble_eq_true rfl) rfl (by omega) (by omega) ?_
        refine gl_aload_n (pc := 776) C 2 dL_law_776 rfl rfl ?_
        refine gl_aload_n (pc := 777) C 4 dL_law_777 rfl rfl ?_
        refine gl_iload (pc := 778) C 0 dL_law_778 rfl ?_
        refine gl_iconst (w := (1)) (pc := 780) C dL_law_780 rfl ?_
        refine gl_iadd (pc := 781) C dL_law_781 ?_
        refine gl_sld (pc := 782) C dL_law_782 h1 ea1 ?_
        refine gl_i2l (pc := 783) C dL_law_783 ?_
        refine gl_bipush (w := (32)) (pc := 784) C dL_law_784 rfl ?_
        refine gl_lshl (pc := 786) C dL_law_786 ?_
        refine gl_aload_n (pc := 787) C 4 dL_law_787 rfl rfl ?_
        refine gl_iload (pc := 788) C 0 dL_law_788 rfl ?_
        refine gl_iconst (w := (2)) (pc := 790) C dL_law_790 rfl ?_
        refine gl_iadd (pc := 791) C dL_law_791 ?_
        refine gl_sld (pc := 792) C dL_law_792 h2 ea2 ?_
        refine gl_i2l (pc := 793) C dL_law_793 ?_
        refine gl_ldc2 (pc := 794) C dL_law_794 wj_L_88 ?_
        refine gl_land (pc := 797) C dL_law_797 ?_
        refine gl_lor (pc := 798) C dL_law_798 ?_
        refine gl_callVi (pc := 799) C [.long (((Int32.toInt64 a1) <<< (Int32.toInt64 (32 : Int32) &&& 63)) ||| ((Int32.toInt64 a2) &&& (4294967295 : Int64)))] dL_law_799 ml_L_94 wy_X12_night (a_X12_night _ e2) (by decide) sh_147 (by decide) rfl rfl (Nat.le_of_ble_eq_true rfl) rfl (by omega) (by omega) ?_
        refine gl_icmp_eq (pc := 802) C 1772 dL_law_802 rfl (fun _ => ?_) (fun c9 => absurd rfl c9)
        refine gl_iinc (v := nI (i + 6)) (ls' := [(4, .int (nI (i + 6))), (3, .ref 170), (2, .ref 147), (1, .ref 0), (0, .ref 2000)]) (pc := 1772) C 0 dL_law_1772 rfl (nI_add i 6) (by decide) rfl ?_
        refine gl_goto (pc := 1775) C 23 dL_law_1775 rfl ?_
        exact ih (i + 6) k z _ _ (by omega) (by omega) (by omega) (by omega) hI2
      by_cases c16 : w = (16 : Int32)
      · refine gl_tabIn (pc := 40) C 807 dL_law_40 (by rw [c16]; decide) (by rw [c16]; decide) (off := 767) (by rw [c16]; decide) rfl ?_
        obtain ⟨v, M1, M2, e1, e2, hI2⟩ := s_judge M L hI a1
        refine gl_aload_n (pc := 807) C 3 dL_law_807 rfl rfl ?_
        refine gl_aload_n (pc := 808) C 4 dL_law_808 rfl rfl ?_
        refine gl_iload (pc := 809) C 0 dL_law_809 rfl ?_
        refine gl_iconst (w := (1)) (pc := 811) C dL_law_811 rfl ?_
        refine gl_iadd (pc := 812) C dL_law_812 ?_
        refine gl_sld (pc := 813) C dL_law_813 h1 ea1 ?_
        refine gl_callVi (pc := 814) C [.int a1] dL_law_814 ml_L_95 wy_X11_judge (a_X11_judge _ e1) (by decide) sh_0 (by decide) rfl rfl (Nat.le_of_ble_eq_true rfl) rfl (by omega) (by omega) ?_
        refine gl_aload_n (pc := 817) C 2 dL_law_817 rfl rfl ?_
        refine gl_aload_n (pc := 818) C 4 dL_law_818 rfl rfl ?_
        refine gl_iload (pc := 819) C 0 dL_law_819 rfl ?_
        refine gl_iconst (w := (1)) (pc := 821) C dL_law_821 rfl ?_
        refine gl_iadd (pc := 822) C dL_law_822 ?_
        refine gl_sld (pc := 823) C dL_law_823 h1 ea1 ?_
        refine gl_callVi (pc := 824) C [.int a1] dL_law_824 ml_L_98 wy_X12_judge (a_X12_judge _ e2) (by decide) sh_147 (by decide) rfl rfl (Nat.le_of_ble_eq_true rfl) rfl (by omega) (by omega) ?_
        refine gl_icmp_eq (pc := 827) C 1772 dL_law_827 rfl (fun _ => ?_) (fun c9 => absurd rfl c9)
        refine gl_iinc (v := nI (i + 6)) (ls' := [(4, .int (nI (i + 6))), (3, .ref 170), (2, .ref 147), (1, .ref 0), (0, .ref 2000)]) (pc := 1772) C 0 dL_law_1772 rfl (nI_add i 6) (by decide) rfl ?_
        refine gl_goto (pc := 1775) C 23 dL_law_1775 rfl ?_
        exact ih (i + 6) k z _ _ (by omega) (by omega) (by omega) (by omega) hI2
      by_cases c17 : w = (17 : Int32)
      · refine gl_tabIn (pc := 40) C 832 dL_law_40 (by rw [c17]; decide) (by rw [c17]; decide) (off := 792) (by rw [c17]; decide) rfl ?_
        obtain ⟨v, M1, L1, M2, L2, e1, e2, hI2⟩ := s_years M L hI a1 (((Int32.toInt64 a2) <<< (Int32.toInt64 (32 : Int32) &&& 63)) ||| ((Int32.toInt64 a3) &&& (4294967295 : Int64)))
        refine gl_aload_n (pc := 832) C 3 dL_law_832 rfl rfl ?_
        refine gl_aload_n (pc := 833) C 4 dL_law_833 rfl rfl ?_
        refine gl_iload (pc := 834) C 0 dL_law_834 rfl ?_
        refine gl_iconst (w := (1)) (pc := 836) C dL_law_836 rfl ?_
        refine gl_iadd (pc := 837) C dL_law_837 ?_
        refine gl_sld (pc := 838) C dL_law_838 h1 ea1 ?_
        refine gl_aload_n (pc := 839) C 4 dL_law_839 rfl rfl ?_
        refine gl_iload (pc := 840) C 0 dL_law_840 rfl ?_
        refine gl_iconst (w := (2)) (pc := 842) C dL_law_842 rfl ?_
        refine gl_iadd (pc := 843) C dL_law_843 ?_
        refine gl_sld (pc := 844) C dL_law_844 h2 ea2 ?_
        refine gl_i2l (pc := 845) C dL_law_845 ?_
        refine gl_bipush (w := (32)) (pc := 846) C dL_law_846 rfl ?_
        refine gl_lshl (pc := 848) C dL_law_848 ?_
        refine gl_aload_n (pc := 849) C 4 dL_law_849 rfl rfl ?_
        refine gl_iload (pc := 850) C 0 dL_law_850 rfl ?_
        refine gl_iconst (w := (3)) (pc := 852) C dL_law_852 rfl ?_
        refine gl_iadd (pc := 853) C dL_law_853 ?_
        refine gl_sld (pc := 854) C dL_law_854 h3 ea3 ?_
        refine gl_i2l (pc := 855) C dL_law_855 ?_
        refine gl_ldc2 (pc := 856) C dL_law_856 wj_L_88 ?_
        refine gl_land (pc := 859) C dL_law_859 ?_
        refine gl_lor (pc := 860) C dL_law_860 ?_
        refine gl_callVi (pc := 861) C [.int a1, .long (((Int32.toInt64 a2) <<< (Int32.toInt64 (32 : Int32) &&& 63)) ||| ((Int32.toInt64 a3) &&& (4294967295 : Int64)))] dL_law_861 ml_L_99 wy_X11_years (a_X11_years _ e1) (by decide) sh_0 (by decide) rfl rfl (Nat.le_of_ble_eq_true rfl) rfl (by omega) (by omega) ?_
        refine gl_aload_n (pc := 864) C 2 dL_law_864 rfl rfl ?_
        refine gl_aload_n (pc := 865) C 4 dL_law_865 rfl rfl ?_
        refine gl_iload (pc := 866) C 0 dL_law_866 rfl ?_
        refine gl_iconst (w := (1)) (pc := 868) C dL_law_868 rfl ?_
        refine gl_iadd (pc := 869) C dL_law_869 ?_
        refine gl_sld (pc := 870) C dL_law_870 h1 ea1 ?_
        refine gl_aload_n (pc := 871) C 4 dL_law_871 rfl rfl ?_
        refine gl_iload (pc := 872) C 0 dL_law_872 rfl ?_
        refine gl_iconst (w := (2)) (pc := 874) C dL_law_874 rfl ?_
        refine gl_iadd (pc := 875) C dL_law_875 ?_
        refine gl_sld (pc := 876) C dL_law_876 h2 ea2 ?_
        refine gl_i2l (pc := 877) C dL_law_877 ?_
        refine gl_bipush (w := (32)) (pc := 878) C dL_law_878 rfl ?_
        refine gl_lshl (pc := 880) C dL_law_880 ?_
        refine gl_aload_n (pc := 881) C 4 dL_law_881 rfl rfl ?_
        refine gl_iload (pc := 882) C 0 dL_law_882 rfl ?_
        refine gl_iconst (w := (3)) (pc := 884) C dL_law_884 rfl ?_
        refine gl_iadd (pc := 885) C dL_law_885 ?_
        refine gl_sld (pc := 886) C dL_law_886 h3 ea3 ?_
        refine gl_i2l (pc := 887) C dL_law_887 ?_
        refine gl_ldc2 (pc := 888) C dL_law_888 wj_L_88 ?_
        refine gl_land (pc := 891) C dL_law_891 ?_
        refine gl_lor (pc := 892) C dL_law_892 ?_
        refine gl_callVi (pc := 893) C [.int a1, .long (((Int32.toInt64 a2) <<< (Int32.toInt64 (32 : Int32) &&& 63)) ||| ((Int32.toInt64 a3) &&& (4294967295 : Int64)))] dL_law_893 ml_L_103 wy_X12_years (a_X12_years _ e2) (by decide) sh_147 (by decide) rfl rfl (Nat.le_of_ble_eq_true rfl) rfl (by omega) (by omega) ?_
        refine gl_icmp_eq (pc := 896) C 1772 dL_law_896 rfl (fun _ => ?_) (fun c9 => absurd rfl c9)
        refine gl_iinc (v := nI (i + 6)) (ls' := [(4, .int (nI (i + 6))), (3, .ref 170), (2, .ref 147), (1, .ref 0), (0, .ref 2000)]) (pc := 1772) C 0 dL_law_1772 rfl (nI_add i 6) (by decide) rfl ?_
        refine gl_goto (pc := 1775) C 23 dL_law_1775 rfl ?_
        exact ih (i + 6) k z _ _ (by omega) (by omega) (by omega) (by omega) hI2
      by_cases c18 : w = (18 : Int32)
      · refine gl_tabIn (pc := 40) C 901 dL_law_40 (by rw [c18]; decide) (by rw [c18]; decide) (off := 861) (by rw [c18]; decide) rfl ?_
        obtain ⟨v, M1, M2, e1, e2, hI2⟩ := s_undo M L hI 
        refine gl_aload_n (pc := 901) C 3 dL_law_901 rfl rfl ?_
        refine gl_callVi (pc := 902) C [] dL_law_902 ml_L_104 wy_X11_undo (a_X11_undo _ e1) (by decide) sh_0 (by decide) rfl rfl (Nat.le_of_ble_eq_true rfl) rfl (by omega) (by omega) ?_
        refine gl_aload_n (pc := 905) C 2 dL_law_905 rfl rfl ?_
        refine gl_callVi (pc := 906) C [] dL_law_906 ml_L_107 wy_X12_undo (a_X12_undo _ e2) (by decide) sh_147 (by decide) rfl rfl (Nat.le_of_ble_eq_true rfl) rfl (by omega) (by omega) ?_
        refine gl_icmp_eq (pc := 909) C 1772 dL_law_909 rfl (fun _ => ?_) (fun c9 => absurd rfl c9)
        refine gl_iinc (v := nI (i + 6)) (ls' := [(4, .int (nI (i + 6))), (3, .ref 170), (2, .ref 147), (1, .ref 0), (0, .ref 2000)]) (pc := 1772) C 0 dL_law_1772 rfl (nI_add i 6) (by decide) rfl ?_
        refine gl_goto (pc := 1775) C 23 dL_law_1775 rfl ?_
        exact ih (i + 6) k z _ _ (by omega) (by omega) (by omega) (by omega) hI2
      by_cases c19 : w = (19 : Int32)
      · refine gl_tabIn (pc := 40) C 914 dL_law_40 (by rw [c19]; decide) (by rw [c19]; decide) (off := 874) (by rw [c19]; decide) rfl ?_
        obtain ⟨v, M2, e1, e2, hI2⟩ := s_log M L hI a1 a2
        refine gl_aload_n (pc := 914) C 3 dL_law_914 rfl rfl ?_
        refine gl_aload_n (pc := 915) C 4 dL_law_915 rfl rfl ?_
        refine gl_iload (pc := 916) C 0 dL_law_916 rfl ?_
        refine gl_iconst (w := (1)) (pc := 918) C dL_law_918 rfl ?_
        refine gl_iadd (pc := 919) C dL_law_919 ?_
        refine gl_sld (pc := 920) C dL_law_920 h1 ea1 ?_
        refine gl_aload_n (pc := 921) C 4 dL_law_921 rfl rfl ?_
        refine gl_iload (pc := 922) C 0 dL_law_922 rfl ?_
        refine gl_iconst (w := (2)) (pc := 924) C dL_law_924 rfl ?_
        refine gl_iadd (pc := 925) C dL_law_925 ?_
        refine gl_sld (pc := 926) C dL_law_926 h2 ea2 ?_
        refine gl_callVi (pc := 927) C [.int a1, .int a2] dL_law_927 ml_L_108 wy_X11_log (a_X11_log _ e1) (by decide) sh_0 (by decide) rfl rfl (Nat.le_of_ble_eq_true rfl) rfl (by omega) (by omega) ?_
        refine gl_aload_n (pc := 930) C 2 dL_law_930 rfl rfl ?_
        refine gl_aload_n (pc := 931) C 4 dL_law_931 rfl rfl ?_
        refine gl_iload (pc := 932) C 0 dL_law_932 rfl ?_
        refine gl_iconst (w := (1)) (pc := 934) C dL_law_934 rfl ?_
        refine gl_iadd (pc := 935) C dL_law_935 ?_
        refine gl_sld (pc := 936) C dL_law_936 h1 ea1 ?_
        refine gl_aload_n (pc := 937) C 4 dL_law_937 rfl rfl ?_
        refine gl_iload (pc := 938) C 0 dL_law_938 rfl ?_
        refine gl_iconst (w := (2)) (pc := 940) C dL_law_940 rfl ?_
        refine gl_iadd (pc := 941) C dL_law_941 ?_
        refine gl_sld (pc := 942) C dL_law_942 h2 ea2 ?_
        refine gl_callVi (pc := 943) C [.int a1, .int a2] dL_law_943 ml_L_111 wy_X12_log (a_X12_log _ e2) (by decide) sh_147 (by decide) rfl rfl (Nat.le_of_ble_eq_true rfl) rfl (by omega) (by omega) ?_
        refine gl_icmp_eq (pc := 946) C 1772 dL_law_946 rfl (fun _ => ?_) (fun c9 => absurd rfl c9)
        refine gl_iinc (v := nI (i + 6)) (ls' := [(4, .int (nI (i + 6))), (3, .ref 170), (2, .ref 147), (1, .ref 0), (0, .ref 2000)]) (pc := 1772) C 0 dL_law_1772 rfl (nI_add i 6) (by decide) rfl ?_
        refine gl_goto (pc := 1775) C 23 dL_law_1775 rfl ?_
        exact ih (i + 6) k z _ _ (by omega) (by omega) (by omega) (by omega) hI2
      by_cases c20 : w = (20 : Int32)
      · refine gl_tabIn (pc := 40) C 951 dL_law_40 (by rw [c20]; decide) (by rw [c20]; decide) (off := 911) (by rw [c20]; decide) rfl ?_
        obtain ⟨v, M2, e1, e2, hI2⟩ := s_book M L hI a1 a2
        refine gl_aload_n (pc := 951) C 3 dL_law_951 rfl rfl ?_
        refine gl_aload_n (pc := 952) C 4 dL_law_952 rfl rfl ?_
        refine gl_iload (pc := 953) C 0 dL_law_953 rfl ?_
        refine gl_iconst (w := (1)) (pc := 955) C dL_law_955 rfl ?_
        refine gl_iadd (pc := 956) C dL_law_956 ?_
        refine gl_sld (pc := 957) C dL_law_957 h1 ea1 ?_
        refine gl_aload_n (pc := 958) C 4 dL_law_958 rfl rfl ?_
        refine gl_iload (pc := 959) C 0 dL_law_959 rfl ?_
        refine gl_iconst (w := (2)) (pc := 961) C dL_law_961 rfl ?_
        refine gl_iadd (pc := 962) C dL_law_962 ?_
        refine gl_sld (pc := 963) C dL_law_963 h2 ea2 ?_
        refine gl_callVi (pc := 964) C [.int a1, .int a2] dL_law_964 ml_L_112 wy_X11_book (a_X11_book _ e1) (by decide) sh_0 (by decide) rfl rfl (Nat.le_of_ble_eq_true rfl) rfl (by omega) (by omega) ?_
        refine gl_aload_n (pc := 967) C 2 dL_law_967 rfl rfl ?_
        refine gl_aload_n (pc := 968) C 4 dL_law_968 rfl rfl ?_
        refine gl_iload (pc := 969) C 0 dL_law_969 rfl ?_
        refine gl_iconst (w := (1)) (pc := 971) C dL_law_971 rfl ?_
        refine gl_iadd (pc := 972) C dL_law_972 ?_
        refine gl_sld (pc := 973) C dL_law_973 h1 ea1 ?_
        refine gl_aload_n (pc := 974) C 4 dL_law_974 rfl rfl ?_
        refine gl_iload (pc := 975) C 0 dL_law_975 rfl ?_
        refine gl_iconst (w := (2)) (pc := 977) C dL_law_977 rfl ?_
        refine gl_iadd (pc := 978) C dL_law_978 ?_
        refine gl_sld (pc := 979) C dL_law_979 h2 ea2 ?_
        refine gl_callVi (pc := 980) C [.int a1, .int a2] dL_law_980 ml_L_115 wy_X12_book (a_X12_book _ e2) (by decide) sh_147 (by decide) rfl rfl (Nat.le_of_ble_eq_true rfl) rfl (by omega) (by omega) ?_
        refine gl_icmp_eq (pc := 983) C 1772 dL_law_983 rfl (fun _ => ?_) (fun c9 => absurd rfl c9)
        refine gl_iinc (v := nI (i + 6)) (ls' := [(4, .int (nI (i + 6))), (3, .ref 170), (2, .ref 147), (1, .ref 0), (0, .ref 2000)]) (pc := 1772) C 0 dL_law_1772 rfl (nI_add i 6) (by decide) rfl ?_
        refine gl_goto (pc := 1775) C 23 dL_law_1775 rfl ?_
        exact ih (i + 6) k z _ _ (by omega) (by omega) (by omega) (by omega) hI2
      by_cases c21 : w = (21 : Int32)
      · refine gl_tabIn (pc := 40) C 988 dL_law_40 (by rw [c21]; decide) (by rw [c21]; decide) (off := 948) (by rw [c21]; decide) rfl ?_
        obtain ⟨v, M1, M2, e1, e2, hI2⟩ := s_points M L hI a1
        refine gl_aload_n (pc := 988) C 3 dL_law_988 rfl rfl ?_
        refine gl_aload_n (pc := 989) C 4 dL_law_989 rfl rfl ?_
        refine gl_iload (pc := 990) C 0 dL_law_990 rfl ?_
        refine gl_iconst (w := (1)) (pc := 992) C dL_law_992 rfl ?_
        refine gl_iadd (pc := 993) C dL_law_993 ?_
        refine gl_sld (pc := 994) C dL_law_994 h1 ea1 ?_
        refine gl_callVi (pc := 995) C [.int a1] dL_law_995 ml_L_116 wy_X11_points (a_X11_points _ e1) (by decide) sh_0 (by decide) rfl rfl (Nat.le_of_ble_eq_true rfl) rfl (by omega) (by omega) ?_
        refine gl_aload_n (pc := 998) C 2 dL_law_998 rfl rfl ?_
        refine gl_aload_n (pc := 999) C 4 dL_law_999 rfl rfl ?_
        refine gl_iload (pc := 1000) C 0 dL_law_1000 rfl ?_
        refine gl_iconst (w := (1)) (pc := 1002) C dL_law_1002 rfl ?_
        refine gl_iadd (pc := 1003) C dL_law_1003 ?_
        refine gl_sld (pc := 1004) C dL_law_1004 h1 ea1 ?_
        refine gl_callVi (pc := 1005) C [.int a1] dL_law_1005 ml_L_119 wy_X12_points (a_X12_points _ e2) (by decide) sh_147 (by decide) rfl rfl (Nat.le_of_ble_eq_true rfl) rfl (by omega) (by omega) ?_
        refine gl_icmp_eq (pc := 1008) C 1772 dL_law_1008 rfl (fun _ => ?_) (fun c9 => absurd rfl c9)
        refine gl_iinc (v := nI (i + 6)) (ls' := [(4, .int (nI (i + 6))), (3, .ref 170), (2, .ref 147), (1, .ref 0), (0, .ref 2000)]) (pc := 1772) C 0 dL_law_1772 rfl (nI_add i 6) (by decide) rfl ?_
        refine gl_goto (pc := 1775) C 23 dL_law_1775 rfl ?_
        exact ih (i + 6) k z _ _ (by omega) (by omega) (by omega) (by omega) hI2
      by_cases c22 : w = (22 : Int32)
      · refine gl_tabIn (pc := 40) C 1013 dL_law_40 (by rw [c22]; decide) (by rw [c22]; decide) (off := 973) (by rw [c22]; decide) rfl ?_
        obtain ⟨v, M1, M2, e1, e2, hI2⟩ := s_sleeps M L hI a1
        refine gl_aload_n (pc := 1013) C 3 dL_law_1013 rfl rfl ?_
        refine gl_aload_n (pc := 1014) C 4 dL_law_1014 rfl rfl ?_
        refine gl_iload (pc := 1015) C 0 dL_law_1015 rfl ?_
        refine gl_iconst (w := (1)) (pc := 1017) C dL_law_1017 rfl ?_
        refine gl_iadd (pc := 1018) C dL_law_1018 ?_
        refine gl_sld (pc := 1019) C dL_law_1019 h1 ea1 ?_
        refine gl_callVi (pc := 1020) C [.int a1] dL_law_1020 ml_L_120 wy_X11_sleeps (a_X11_sleeps _ e1) (by decide) sh_0 (by decide) rfl rfl (Nat.le_of_ble_eq_true rfl) rfl (by omega) (by omega) ?_
        refine gl_aload_n (pc := 1023) C 2 dL_law_1023 rfl rfl ?_
        refine gl_aload_n (pc := 1024) C 4 dL_law_1024 rfl rfl ?_
        refine gl_iload (pc := 1025) C 0 dL_law_1025 rfl ?_
        refine gl_iconst (w := (1)) (pc := 1027) C dL_law_1027 rfl ?_
        refine gl_iadd (pc := 1028) C dL_law_1028 ?_
        refine gl_sld (pc := 1029) C dL_law_1029 h1 ea1 ?_
        refine gl_callVi (pc := 1030) C [.int a1] dL_law_1030 ml_L_123 wy_X12_sleeps (a_X12_sleeps _ e2) (by decide) sh_147 (by decide) rfl rfl (Nat.le_of_ble_eq_true rfl) rfl (by omega) (by omega) ?_
        refine gl_icmp_eq (pc := 1033) C 1772 dL_law_1033 rfl (fun _ => ?_) (fun c9 => absurd rfl c9)
        refine gl_iinc (v := nI (i + 6)) (ls' := [(4, .int (nI (i + 6))), (3, .ref 170), (2, .ref 147), (1, .ref 0), (0, .ref 2000)]) (pc := 1772) C 0 dL_law_1772 rfl (nI_add i 6) (by decide) rfl ?_
        refine gl_goto (pc := 1775) C 23 dL_law_1775 rfl ?_
        exact ih (i + 6) k z _ _ (by omega) (by omega) (by omega) (by omega) hI2
      by_cases c23 : w = (23 : Int32)
      · refine gl_tabIn (pc := 40) C 1038 dL_law_40 (by rw [c23]; decide) (by rw [c23]; decide) (off := 998) (by rw [c23]; decide) rfl ?_
        obtain ⟨v, M1, M2, L2, e1, e2, hI2⟩ := s_awake M L hI a1 a2
        refine gl_aload_n (pc := 1038) C 3 dL_law_1038 rfl rfl ?_
        refine gl_aload_n (pc := 1039) C 4 dL_law_1039 rfl rfl ?_
        refine gl_iload (pc := 1040) C 0 dL_law_1040 rfl ?_
        refine gl_iconst (w := (1)) (pc := 1042) C dL_law_1042 rfl ?_
        refine gl_iadd (pc := 1043) C dL_law_1043 ?_
        refine gl_sld (pc := 1044) C dL_law_1044 h1 ea1 ?_
        refine gl_aload_n (pc := 1045) C 4 dL_law_1045 rfl rfl ?_
        refine gl_iload (pc := 1046) C 0 dL_law_1046 rfl ?_
        refine gl_iconst (w := (2)) (pc := 1048) C dL_law_1048 rfl ?_
        refine gl_iadd (pc := 1049) C dL_law_1049 ?_
        refine gl_sld (pc := 1050) C dL_law_1050 h2 ea2 ?_
        refine gl_callVi (pc := 1051) C [.int a1, .int a2] dL_law_1051 ml_L_124 wy_X11_awake (a_X11_awake _ e1) (by decide) sh_0 (by decide) rfl rfl (Nat.le_of_ble_eq_true rfl) rfl (by omega) (by omega) ?_
        refine gl_aload_n (pc := 1054) C 2 dL_law_1054 rfl rfl ?_
        refine gl_aload_n (pc := 1055) C 4 dL_law_1055 rfl rfl ?_
        refine gl_iload (pc := 1056) C 0 dL_law_1056 rfl ?_
        refine gl_iconst (w := (1)) (pc := 1058) C dL_law_1058 rfl ?_
        refine gl_iadd (pc := 1059) C dL_law_1059 ?_
        refine gl_sld (pc := 1060) C dL_law_1060 h1 ea1 ?_
        refine gl_aload_n (pc := 1061) C 4 dL_law_1061 rfl rfl ?_
        refine gl_iload (pc := 1062) C 0 dL_law_1062 rfl ?_
        refine gl_iconst (w := (2)) (pc := 1064) C dL_law_1064 rfl ?_
        refine gl_iadd (pc := 1065) C dL_law_1065 ?_
        refine gl_sld (pc := 1066) C dL_law_1066 h2 ea2 ?_
        refine gl_callVi (pc := 1067) C [.int a1, .int a2] dL_law_1067 ml_L_127 wy_X12_awake (a_X12_awake _ e2) (by decide) sh_147 (by decide) rfl rfl (Nat.le_of_ble_eq_true rfl) rfl (by omega) (by omega) ?_
        refine gl_icmp_eq (pc := 1070) C 1772 dL_law_1070 rfl (fun _ => ?_) (fun c9 => absurd rfl c9)
        refine gl_iinc (v := nI (i + 6)) (ls' := [(4, .int (nI (i + 6))), (3, .ref 170), (2, .ref 147), (1, .ref 0), (0, .ref 2000)]) (pc := 1772) C 0 dL_law_1772 rfl (nI_add i 6) (by decide) rfl ?_
        refine gl_goto (pc := 1775) C 23 dL_law_1775 rfl ?_
        exact ih (i + 6) k z _ _ (by omega) (by omega) (by omega) (by omega) hI2
      by_cases c24 : w = (24 : Int32)
      · refine gl_tabIn (pc := 40) C 1075 dL_law_40 (by rw [c24]; decide) (by rw [c24]; decide) (off := 1035) (by rw [c24]; decide) rfl ?_
        obtain ⟨v, M1, M2, e1, e2, hI2⟩ := s_seem M L hI a1 a2
        refine gl_aload_n (pc := 1075) C 3 dL_law_1075 rfl rfl ?_
        refine gl_aload_n (pc := 1076) C 4 dL_law_1076 rfl rfl ?_
        refine gl_iload (pc := 1077) C 0 dL_law_1077 rfl ?_
        refine gl_iconst (w := (1)) (pc := 1079) C dL_law_1079 rfl ?_
        refine gl_iadd (pc := 1080) C dL_law_1080 ?_
        refine gl_sld (pc := 1081) C dL_law_1081 h1 ea1 ?_
        refine gl_aload_n (pc := 1082) C 4 dL_law_1082 rfl rfl ?_
        refine gl_iload (pc := 1083) C 0 dL_law_1083 rfl ?_
        refine gl_iconst (w := (2)) (pc := 1085) C dL_law_1085 rfl ?_
        refine gl_iadd (pc := 1086) C dL_law_1086 ?_
        refine gl_sld (pc := 1087) C dL_law_1087 h2 ea2 ?_
        refine gl_callVi (pc := 1088) C [.int a1, .int a2] dL_law_1088 ml_L_128 wy_X11_seem (a_X11_seem _ e1) (by decide) sh_0 (by decide) rfl rfl (Nat.le_of_ble_eq_true rfl) rfl (by omega) (by omega) ?_
        refine gl_aload_n (pc := 1091) C 2 dL_law_1091 rfl rfl ?_
        refine gl_aload_n (pc := 1092) C 4 dL_law_1092 rfl rfl ?_
        refine gl_iload (pc := 1093) C 0 dL_law_1093 rfl ?_
        refine gl_iconst (w := (1)) (pc := 1095) C dL_law_1095 rfl ?_
        refine gl_iadd (pc := 1096) C dL_law_1096 ?_
        refine gl_sld (pc := 1097) C dL_law_1097 h1 ea1 ?_
        refine gl_aload_n (pc := 1098) C 4 dL_law_1098 rfl rfl ?_
        refine gl_iload (pc := 1099) C 0 dL_law_1099 rfl ?_
        refine gl_iconst (w := (2)) (pc := 1101) C dL_law_1101 rfl ?_
        refine gl_iadd (pc := 1102) C dL_law_1102 ?_
        refine gl_sld (pc := 1103) C dL_law_1103 h2 ea2 ?_
        refine gl_callVi (pc := 1104) C [.int a1, .int a2] dL_law_1104 ml_L_131 wy_X12_seem (a_X12_seem _ e2) (by decide) sh_147 (by decide) rfl rfl (Nat.le_of_ble_eq_true rfl) rfl (by omega) (by omega) ?_
        refine gl_icmp_eq (pc := 1107) C 1772 dL_law_1107 rfl (fun _ => ?_) (fun c9 => absurd rfl c9)
        refine gl_iinc (v := nI (i + 6)) (ls' := [(4, .int (nI (i + 6))), (3, .ref 170), (2, .ref 147), (1, .ref 0), (0, .ref 2000)]) (pc := 1772) C 0 dL_law_1772 rfl (nI_add i 6) (by decide) rfl ?_
        refine gl_goto (pc := 1775) C 23 dL_law_1775 rfl ?_
        exact ih (i + 6) k z _ _ (by omega) (by omega) (by omega) (by omega) hI2
      by_cases c25 : w = (25 : Int32)
      · refine gl_tabIn (pc := 40) C 1112 dL_law_40 (by rw [c25]; decide) (by rw [c25]; decide) (off := 1072) (by rw [c25]; decide) rfl ?_
        obtain ⟨v, M1, M2, e1, e2, hI2⟩ := s_tells M L hI a1 a2
        refine gl_aload_n (pc := 1112) C 3 dL_law_1112 rfl rfl ?_
        refine gl_aload_n (pc := 1113) C 4 dL_law_1113 rfl rfl ?_
        refine gl_iload (pc := 1114) C 0 dL_law_1114 rfl ?_
        refine gl_iconst (w := (1)) (pc := 1116) C dL_law_1116 rfl ?_
        refine gl_iadd (pc := 1117) C dL_law_1117 ?_
        refine gl_sld (pc := 1118) C dL_law_1118 h1 ea1 ?_
        refine gl_aload_n (pc := 1119) C 4 dL_law_1119 rfl rfl ?_
        refine gl_iload (pc := 1120) C 0 dL_law_1120 rfl ?_
        refine gl_iconst (w := (2)) (pc := 1122) C dL_law_1122 rfl ?_
        refine gl_iadd (pc := 1123) C dL_law_1123 ?_
        refine gl_sld (pc := 1124) C dL_law_1124 h2 ea2 ?_
        refine gl_callVi (pc := 1125) C [.int a1, .int a2] dL_law_1125 ml_L_132 wy_X11_tells (a_X11_tells _ e1) (by decide) sh_0 (by decide) rfl rfl (Nat.le_of_ble_eq_true rfl) rfl (by omega) (by omega) ?_
        refine gl_aload_n (pc := 1128) C 2 dL_law_1128 rfl rfl ?_
        refine gl_aload_n (pc := 1129) C 4 dL_law_1129 rfl rfl ?_
        refine gl_iload (pc := 1130) C 0 dL_law_1130 rfl ?_
        refine gl_iconst (w := (1)) (pc := 1132) C dL_law_1132 rfl ?_
        refine gl_iadd (pc := 1133) C dL_law_1133 ?_
        refine gl_sld (pc := 1134) C dL_law_1134 h1 ea1 ?_
        refine gl_aload_n (pc := 1135) C 4 dL_law_1135 rfl rfl ?_
        refine gl_iload (pc := 1136) C 0 dL_law_1136 rfl ?_
        refine gl_iconst (w := (2)) (pc := 1138) C dL_law_1138 rfl ?_
        refine gl_iadd (pc := 1139) C dL_law_1139 ?_
        refine gl_sld (pc := 1140) C dL_law_1140 h2 ea2 ?_
        refine gl_callVi (pc := 1141) C [.int a1, .int a2] dL_law_1141 ml_L_135 wy_X12_tells (a_X12_tells _ e2) (by decide) sh_147 (by decide) rfl rfl (Nat.le_of_ble_eq_true rfl) rfl (by omega) (by omega) ?_
        refine gl_icmp_eq (pc := 1144) C 1772 dL_law_1144 rfl (fun _ => ?_) (fun c9 => absurd rfl c9)
        refine gl_iinc (v := nI (i + 6)) (ls' := [(4, .int (nI (i + 6))), (3, .ref 170), (2, .ref 147), (1, .ref 0), (0, .ref 2000)]) (pc := 1772) C 0 dL_law_1772 rfl (nI_add i 6) (by decide) rfl ?_
        refine gl_goto (pc := 1775) C 23 dL_law_1775 rfl ?_
        exact ih (i + 6) k z _ _ (by omega) (by omega) (by omega) (by omega) hI2
      by_cases c26 : w = (26 : Int32)
      · refine gl_tabIn (pc := 40) C 1149 dL_law_40 (by rw [c26]; decide) (by rw [c26]; decide) (off := 1109) (by rw [c26]; decide) rfl ?_
        by_cases cz : a3 = 0
        · obtain ⟨v, M1, M2, e1, e2, hI2⟩ := s_lamp M L hI a1 a2 (0 : Int32) (Or.inl rfl)
          refine gl_aload_n (pc := 1149) C 3 dL_law_1149 rfl rfl ?_
          refine gl_aload_n (pc := 1150) C 4 dL_law_1150 rfl rfl ?_
          refine gl_iload (pc := 1151) C 0 dL_law_1151 rfl ?_
          refine gl_iconst (w := (1)) (pc := 1153) C dL_law_1153 rfl ?_
          refine gl_iadd (pc := 1154) C dL_law_1154 ?_
          refine gl_sld (pc := 1155) C dL_law_1155 h1 ea1 ?_
          refine gl_aload_n (pc := 1156) C 4 dL_law_1156 rfl rfl ?_
          refine gl_iload (pc := 1157) C 0 dL_law_1157 rfl ?_
          refine gl_iconst (w := (2)) (pc := 1159) C dL_law_1159 rfl ?_
          refine gl_iadd (pc := 1160) C dL_law_1160 ?_
          refine gl_sld (pc := 1161) C dL_law_1161 h2 ea2 ?_
          refine gl_aload_n (pc := 1162) C 4 dL_law_1162 rfl rfl ?_
          refine gl_iload (pc := 1163) C 0 dL_law_1163 rfl ?_
          refine gl_iconst (w := (3)) (pc := 1165) C dL_law_1165 rfl ?_
          refine gl_iadd (pc := 1166) C dL_law_1166 ?_
          refine gl_sld (pc := 1167) C dL_law_1167 h3 ea3 ?_
          refine gl_if_eq (pc := 1168) C 1175 dL_law_1168 rfl (fun c9 => ?_) (fun c9 => absurd cz c9)
          refine gl_iconst (w := (0)) (pc := 1175) C dL_law_1175 rfl ?_
          refine gl_callVi (pc := 1176) C [.int a1, .int a2, .int (0 : Int32)] dL_law_1176 ml_L_136 wy_X11_lamp (a_X11_lamp _ e1) (by decide) sh_0 (by decide) rfl rfl (Nat.le_of_ble_eq_true rfl) rfl (by omega) (by omega) ?_
          refine gl_aload_n (pc := 1179) C 2 dL_law_1179 rfl rfl ?_
          refine gl_aload_n (pc := 1180) C 4 dL_law_1180 rfl rfl ?_
          refine gl_iload (pc := 1181) C 0 dL_law_1181 rfl ?_
          refine gl_iconst (w := (1)) (pc := 1183) C dL_law_1183 rfl ?_
          refine gl_iadd (pc := 1184) C dL_law_1184 ?_
          refine gl_sld (pc := 1185) C dL_law_1185 h1 ea1 ?_
          refine gl_aload_n (pc := 1186) C 4 dL_law_1186 rfl rfl ?_
          refine gl_iload (pc := 1187) C 0 dL_law_1187 rfl ?_
          refine gl_iconst (w := (2)) (pc := 1189) C dL_law_1189 rfl ?_
          refine gl_iadd (pc := 1190) C dL_law_1190 ?_
          refine gl_sld (pc := 1191) C dL_law_1191 h2 ea2 ?_
          refine gl_aload_n (pc := 1192) C 4 dL_law_1192 rfl rfl ?_
          refine gl_iload (pc := 1193) C 0 dL_law_1193 rfl ?_
          refine gl_iconst (w := (3)) (pc := 1195) C dL_law_1195 rfl ?_
          refine gl_iadd (pc := 1196) C dL_law_1196 ?_
          refine gl_sld (pc := 1197) C dL_law_1197 h3 ea3 ?_
          refine gl_if_eq (pc := 1198) C 1205 dL_law_1198 rfl (fun c9 => ?_) (fun c9 => absurd cz c9)
          refine gl_iconst (w := (0)) (pc := 1205) C dL_law_1205 rfl ?_
          refine gl_callVi (pc := 1206) C [.int a1, .int a2, .int (0 : Int32)] dL_law_1206 ml_L_140 wy_X12_lamp (a_X12_lamp _ e2) (by decide) sh_147 (by decide) rfl rfl (Nat.le_of_ble_eq_true rfl) rfl (by omega) (by omega) ?_
          refine gl_icmp_eq (pc := 1209) C 1772 dL_law_1209 rfl (fun _ => ?_) (fun c9 => absurd rfl c9)
          refine gl_iinc (v := nI (i + 6)) (ls' := [(4, .int (nI (i + 6))), (3, .ref 170), (2, .ref 147), (1, .ref 0), (0, .ref 2000)]) (pc := 1772) C 0 dL_law_1772 rfl (nI_add i 6) (by decide) rfl ?_
          refine gl_goto (pc := 1775) C 23 dL_law_1775 rfl ?_
          exact ih (i + 6) k z _ _ (by omega) (by omega) (by omega) (by omega) hI2
        obtain ⟨v, M1, M2, e1, e2, hI2⟩ := s_lamp M L hI a1 a2 (1 : Int32) (Or.inr rfl)
        refine gl_aload_n (pc := 1149) C 3 dL_law_1149 rfl rfl ?_
        refine gl_aload_n (pc := 1150) C 4 dL_law_1150 rfl rfl ?_
        refine gl_iload (pc := 1151) C 0 dL_law_1151 rfl ?_
        refine gl_iconst (w := (1)) (pc := 1153) C dL_law_1153 rfl ?_
        refine gl_iadd (pc := 1154) C dL_law_1154 ?_
        refine gl_sld (pc := 1155) C dL_law_1155 h1 ea1 ?_
        refine gl_aload_n (pc := 1156) C 4 dL_law_1156 rfl rfl ?_
        refine gl_iload (pc := 1157) C 0 dL_law_1157 rfl ?_
        refine gl_iconst (w := (2)) (pc := 1159) C dL_law_1159 rfl ?_
        refine gl_iadd (pc := 1160) C dL_law_1160 ?_
        refine gl_sld (pc := 1161) C dL_law_1161 h2 ea2 ?_
        refine gl_aload_n (pc := 1162) C 4 dL_law_1162 rfl rfl ?_
        refine gl_iload (pc := 1163) C 0 dL_law_1163 rfl ?_
        refine gl_iconst (w := (3)) (pc := 1165) C dL_law_1165 rfl ?_
        refine gl_iadd (pc := 1166) C dL_law_1166 ?_
        refine gl_sld (pc := 1167) C dL_law_1167 h3 ea3 ?_
        refine gl_if_eq (pc := 1168) C 1175 dL_law_1168 rfl (fun c9 => absurd c9 cz) (fun c9 => ?_)
        refine gl_iconst (w := (1)) (pc := 1171) C dL_law_1171 rfl ?_
        refine gl_goto (pc := 1172) C 1176 dL_law_1172 rfl ?_
        refine gl_callVi (pc := 1176) C [.int a1, .int a2, .int (1 : Int32)] dL_law_1176 ml_L_136 wy_X11_lamp (a_X11_lamp _ e1) (by decide) sh_0 (by decide) rfl rfl (Nat.le_of_ble_eq_true rfl) rfl (by omega) (by omega) ?_
        refine gl_aload_n (pc := 1179) C 2 dL_law_1179 rfl rfl ?_
        refine gl_aload_n (pc := 1180) C 4 dL_law_1180 rfl rfl ?_
        refine gl_iload (pc := 1181) C 0 dL_law_1181 rfl ?_
        refine gl_iconst (w := (1)) (pc := 1183) C dL_law_1183 rfl ?_
        refine gl_iadd (pc := 1184) C dL_law_1184 ?_
        refine gl_sld (pc := 1185) C dL_law_1185 h1 ea1 ?_
        refine gl_aload_n (pc := 1186) C 4 dL_law_1186 rfl rfl ?_
        refine gl_iload (pc := 1187) C 0 dL_law_1187 rfl ?_
        refine gl_iconst (w := (2)) (pc := 1189) C dL_law_1189 rfl ?_
        refine gl_iadd (pc := 1190) C dL_law_1190 ?_
        refine gl_sld (pc := 1191) C dL_law_1191 h2 ea2 ?_
        refine gl_aload_n (pc := 1192) C 4 dL_law_1192 rfl rfl ?_
        refine gl_iload (pc := 1193) C 0 dL_law_1193 rfl ?_
        refine gl_iconst (w := (3)) (pc := 1195) C dL_law_1195 rfl ?_
        refine gl_iadd (pc := 1196) C dL_law_1196 ?_
        refine gl_sld (pc := 1197) C dL_law_1197 h3 ea3 ?_
        refine gl_if_eq (pc := 1198) C 1205 dL_law_1198 rfl (fun c9 => absurd c9 cz) (fun c9 => ?_)
        refine gl_iconst (w := (1)) (pc := 1201) C dL_law_1201 rfl ?_
        refine gl_goto (pc := 1202) C 1206 dL_law_1202 rfl ?_
        refine gl_callVi (pc := 1206) C [.int a1, .int a2, .int (1 : Int32)] dL_law_1206 ml_L_140 wy_X12_lamp (a_X12_lamp _ e2) (by decide) sh_147 (by decide) rfl rfl (Nat.le_of_ble_eq_true rfl) rfl (by omega) (by omega) ?_
        refine gl_icmp_eq (pc := 1209) C 1772 dL_law_1209 rfl (fun _ => ?_) (fun c9 => absurd rfl c9)
        refine gl_iinc (v := nI (i + 6)) (ls' := [(4, .int (nI (i + 6))), (3, .ref 170), (2, .ref 147), (1, .ref 0), (0, .ref 2000)]) (pc := 1772) C 0 dL_law_1772 rfl (nI_add i 6) (by decide) rfl ?_
        refine gl_goto (pc := 1775) C 23 dL_law_1775 rfl ?_
        exact ih (i + 6) k z _ _ (by omega) (by omega) (by omega) (by omega) hI2
      by_cases c27 : w = (27 : Int32)
      · refine gl_tabIn (pc := 40) C 1214 dL_law_40 (by rw [c27]; decide) (by rw [c27]; decide) (off := 1174) (by rw [c27]; decide) rfl ?_
        obtain ⟨v, M1, L1, M2, e1, e2, hI2⟩ := s_who M L hI a1 a2
        refine gl_aload_n (pc := 1214) C 3 dL_law_1214 rfl rfl ?_
        refine gl_aload_n (pc := 1215) C 4 dL_law_1215 rfl rfl ?_
        refine gl_iload (pc := 1216) C 0 dL_law_1216 rfl ?_
        refine gl_iconst (w := (1)) (pc := 1218) C dL_law_1218 rfl ?_
        refine gl_iadd (pc := 1219) C dL_law_1219 ?_
        refine gl_sld (pc := 1220) C dL_law_1220 h1 ea1 ?_
        refine gl_aload_n (pc := 1221) C 4 dL_law_1221 rfl rfl ?_
        refine gl_iload (pc := 1222) C 0 dL_law_1222 rfl ?_
        refine gl_iconst (w := (2)) (pc := 1224) C dL_law_1224 rfl ?_
        refine gl_iadd (pc := 1225) C dL_law_1225 ?_
        refine gl_sld (pc := 1226) C dL_law_1226 h2 ea2 ?_
        refine gl_callVi (pc := 1227) C [.int a1, .int a2] dL_law_1227 ml_L_141 wy_X11_who (a_X11_who _ e1) (by decide) sh_0 (by decide) rfl rfl (Nat.le_of_ble_eq_true rfl) rfl (by omega) (by omega) ?_
        refine gl_aload_n (pc := 1230) C 2 dL_law_1230 rfl rfl ?_
        refine gl_aload_n (pc := 1231) C 4 dL_law_1231 rfl rfl ?_
        refine gl_iload (pc := 1232) C 0 dL_law_1232 rfl ?_
        refine gl_iconst (w := (1)) (pc := 1234) C dL_law_1234 rfl ?_
        refine gl_iadd (pc := 1235) C dL_law_1235 ?_
        refine gl_sld (pc := 1236) C dL_law_1236 h1 ea1 ?_
        refine gl_aload_n (pc := 1237) C 4 dL_law_1237 rfl rfl ?_
        refine gl_iload (pc := 1238) C 0 dL_law_1238 rfl ?_
        refine gl_iconst (w := (2)) (pc := 1240) C dL_law_1240 rfl ?_
        refine gl_iadd (pc := 1241) C dL_law_1241 ?_
        refine gl_sld (pc := 1242) C dL_law_1242 h2 ea2 ?_
        refine gl_callVi (pc := 1243) C [.int a1, .int a2] dL_law_1243 ml_L_144 wy_X12_who (a_X12_who _ e2) (by decide) sh_147 (by decide) rfl rfl (Nat.le_of_ble_eq_true rfl) rfl (by omega) (by omega) ?_
        refine gl_icmp_eq (pc := 1246) C 1772 dL_law_1246 rfl (fun _ => ?_) (fun c9 => absurd rfl c9)
        refine gl_iinc (v := nI (i + 6)) (ls' := [(4, .int (nI (i + 6))), (3, .ref 170), (2, .ref 147), (1, .ref 0), (0, .ref 2000)]) (pc := 1772) C 0 dL_law_1772 rfl (nI_add i 6) (by decide) rfl ?_
        refine gl_goto (pc := 1775) C 23 dL_law_1775 rfl ?_
        exact ih (i + 6) k z _ _ (by omega) (by omega) (by omega) (by omega) hI2
      by_cases c28 : w = (28 : Int32)
      · refine gl_tabIn (pc := 40) C 1251 dL_law_40 (by rw [c28]; decide) (by rw [c28]; decide) (off := 1211) (by rw [c28]; decide) rfl ?_
        obtain ⟨v, M1, M2, e1, e2, hI2⟩ := s_timetable M L hI a1 a2
        refine gl_aload_n (pc := 1251) C 3 dL_law_1251 rfl rfl ?_
        refine gl_aload_n (pc := 1252) C 4 dL_law_1252 rfl rfl ?_
        refine gl_iload (pc := 1253) C 0 dL_law_1253 rfl ?_
        refine gl_iconst (w := (1)) (pc := 1255) C dL_law_1255 rfl ?_
        refine gl_iadd (pc := 1256) C dL_law_1256 ?_
        refine gl_sld (pc := 1257) C dL_law_1257 h1 ea1 ?_
        refine gl_aload_n (pc := 1258) C 4 dL_law_1258 rfl rfl ?_
        refine gl_iload (pc := 1259) C 0 dL_law_1259 rfl ?_
        refine gl_iconst (w := (2)) (pc := 1261) C dL_law_1261 rfl ?_
        refine gl_iadd (pc := 1262) C dL_law_1262 ?_
        refine gl_sld (pc := 1263) C dL_law_1263 h2 ea2 ?_
        refine gl_callVi (pc := 1264) C [.int a1, .int a2] dL_law_1264 ml_L_145 wy_X11_timetable (a_X11_timetable _ e1) (by decide) sh_0 (by decide) rfl rfl (Nat.le_of_ble_eq_true rfl) rfl (by omega) (by omega) ?_
        refine gl_aload_n (pc := 1267) C 2 dL_law_1267 rfl rfl ?_
        refine gl_aload_n (pc := 1268) C 4 dL_law_1268 rfl rfl ?_
        refine gl_iload (pc := 1269) C 0 dL_law_1269 rfl ?_
        refine gl_iconst (w := (1)) (pc := 1271) C dL_law_1271 rfl ?_
        refine gl_iadd (pc := 1272) C dL_law_1272 ?_
        refine gl_sld (pc := 1273) C dL_law_1273 h1 ea1 ?_
        refine gl_aload_n (pc := 1274) C 4 dL_law_1274 rfl rfl ?_
        refine gl_iload (pc := 1275) C 0 dL_law_1275 rfl ?_
        refine gl_iconst (w := (2)) (pc := 1277) C dL_law_1277 rfl ?_
        refine gl_iadd (pc := 1278) C dL_law_1278 ?_
        refine gl_sld (pc := 1279) C dL_law_1279 h2 ea2 ?_
        refine gl_callVi (pc := 1280) C [.int a1, .int a2] dL_law_1280 ml_L_148 wy_X12_timetable (a_X12_timetable _ e2) (by decide) sh_147 (by decide) rfl rfl (Nat.le_of_ble_eq_true rfl) rfl (by omega) (by omega) ?_
        refine gl_icmp_eq (pc := 1283) C 1772 dL_law_1283 rfl (fun _ => ?_) (fun c9 => absurd rfl c9)
        refine gl_iinc (v := nI (i + 6)) (ls' := [(4, .int (nI (i + 6))), (3, .ref 170), (2, .ref 147), (1, .ref 0), (0, .ref 2000)]) (pc := 1772) C 0 dL_law_1772 rfl (nI_add i 6) (by decide) rfl ?_
        refine gl_goto (pc := 1775) C 23 dL_law_1775 rfl ?_
        exact ih (i + 6) k z _ _ (by omega) (by omega) (by omega) (by omega) hI2
      by_cases c29 : w = (29 : Int32)
      · refine gl_tabIn (pc := 40) C 1288 dL_law_40 (by rw [c29]; decide) (by rw [c29]; decide) (off := 1248) (by rw [c29]; decide) rfl ?_
        obtain ⟨v, M1, M2, e1, e2, hI2⟩ := s_couple M L hI a1 a2 a3 a4
        refine gl_aload_n (pc := 1288) C 3 dL_law_1288 rfl rfl ?_
        refine gl_aload_n (pc := 1289) C 4 dL_law_1289 rfl rfl ?_
        refine gl_iload (pc := 1290) C 0 dL_law_1290 rfl ?_
        refine gl_iconst (w := (1)) (pc := 1292) C dL_law_1292 rfl ?_
        refine gl_iadd (pc := 1293) C dL_law_1293 ?_
        refine gl_sld (pc := 1294) C dL_law_1294 h1 ea1 ?_
        refine gl_aload_n (pc := 1295) C 4 dL_law_1295 rfl rfl ?_
        refine gl_iload (pc := 1296) C 0 dL_law_1296 rfl ?_
        refine gl_iconst (w := (2)) (pc := 1298) C dL_law_1298 rfl ?_
        refine gl_iadd (pc := 1299) C dL_law_1299 ?_
        refine gl_sld (pc := 1300) C dL_law_1300 h2 ea2 ?_
        refine gl_aload_n (pc := 1301) C 4 dL_law_1301 rfl rfl ?_
        refine gl_iload (pc := 1302) C 0 dL_law_1302 rfl ?_
        refine gl_iconst (w := (3)) (pc := 1304) C dL_law_1304 rfl ?_
        refine gl_iadd (pc := 1305) C dL_law_1305 ?_
        refine gl_sld (pc := 1306) C dL_law_1306 h3 ea3 ?_
        refine gl_aload_n (pc := 1307) C 4 dL_law_1307 rfl rfl ?_
        refine gl_iload (pc := 1308) C 0 dL_law_1308 rfl ?_
        refine gl_iconst (w := (4)) (pc := 1310) C dL_law_1310 rfl ?_
        refine gl_iadd (pc := 1311) C dL_law_1311 ?_
        refine gl_sld (pc := 1312) C dL_law_1312 h4 ea4 ?_
        refine gl_callVi (pc := 1313) C [.int a1, .int a2, .int a3, .int a4] dL_law_1313 ml_L_149 wy_X11_couple (a_X11_couple _ e1) (by decide) sh_0 (by decide) rfl rfl (Nat.le_of_ble_eq_true rfl) rfl (by omega) (by omega) ?_
        refine gl_aload_n (pc := 1316) C 2 dL_law_1316 rfl rfl ?_
        refine gl_aload_n (pc := 1317) C 4 dL_law_1317 rfl rfl ?_
        refine gl_iload (pc := 1318) C 0 dL_law_1318 rfl ?_
        refine gl_iconst (w := (1)) (pc := 1320) C dL_law_1320 rfl ?_
        refine gl_iadd (pc := 1321) C dL_law_1321 ?_
        refine gl_sld (pc := 1322) C dL_law_1322 h1 ea1 ?_
        refine gl_aload_n (pc := 1323) C 4 dL_law_1323 rfl rfl ?_
        refine gl_iload (pc := 1324) C 0 dL_law_1324 rfl ?_
        refine gl_iconst (w := (2)) (pc := 1326) C dL_law_1326 rfl ?_
        refine gl_iadd (pc := 1327) C dL_law_1327 ?_
        refine gl_sld (pc := 1328) C dL_law_1328 h2 ea2 ?_
        refine gl_aload_n (pc := 1329) C 4 dL_law_1329 rfl rfl ?_
        refine gl_iload (pc := 1330) C 0 dL_law_1330 rfl ?_
        refine gl_iconst (w := (3)) (pc := 1332) C dL_law_1332 rfl ?_
        refine gl_iadd (pc := 1333) C dL_law_1333 ?_
        refine gl_sld (pc := 1334) C dL_law_1334 h3 ea3 ?_
        refine gl_aload_n (pc := 1335) C 4 dL_law_1335 rfl rfl ?_
        refine gl_iload (pc := 1336) C 0 dL_law_1336 rfl ?_
        refine gl_iconst (w := (4)) (pc := 1338) C dL_law_1338 rfl ?_
        refine gl_iadd (pc := 1339) C dL_law_1339 ?_
        refine gl_sld (pc := 1340) C dL_law_1340 h4 ea4 ?_
        refine gl_callVi (pc := 1341) C [.int a1, .int a2, .int a3, .int a4] dL_law_1341 ml_L_153 wy_X12_couple (a_X12_couple _ e2) (by decide) sh_147 (by decide) rfl rfl (Nat.le_of_ble_eq_true rfl) rfl (by omega) (by omega) ?_
        refine gl_icmp_eq (pc := 1344) C 1772 dL_law_1344 rfl (fun _ => ?_) (fun c9 => absurd rfl c9)
        refine gl_iinc (v := nI (i + 6)) (ls' := [(4, .int (nI (i + 6))), (3, .ref 170), (2, .ref 147), (1, .ref 0), (0, .ref 2000)]) (pc := 1772) C 0 dL_law_1772 rfl (nI_add i 6) (by decide) rfl ?_
        refine gl_goto (pc := 1775) C 23 dL_law_1775 rfl ?_
        exact ih (i + 6) k z _ _ (by omega) (by omega) (by omega) (by omega) hI2
      by_cases c30 : w = (30 : Int32)
      · refine gl_tabIn (pc := 40) C 1349 dL_law_40 (by rw [c30]; decide) (by rw [c30]; decide) (off := 1309) (by rw [c30]; decide) rfl ?_
        obtain ⟨v, M1, M2, e1, e2, hI2⟩ := s_rests M L hI a1 a2
        refine gl_aload_n (pc := 1349) C 3 dL_law_1349 rfl rfl ?_
        refine gl_aload_n (pc := 1350) C 4 dL_law_1350 rfl rfl ?_
        refine gl_iload (pc := 1351) C 0 dL_law_1351 rfl ?_
        refine gl_iconst (w := (1)) (pc := 1353) C dL_law_1353 rfl ?_
        refine gl_iadd (pc := 1354) C dL_law_1354 ?_
        refine gl_sld (pc := 1355) C dL_law_1355 h1 ea1 ?_
        refine gl_aload_n (pc := 1356) C 4 dL_law_1356 rfl rfl ?_
        refine gl_iload (pc := 1357) C 0 dL_law_1357 rfl ?_
        refine gl_iconst (w := (2)) (pc := 1359) C dL_law_1359 rfl ?_
        refine gl_iadd (pc := 1360) C dL_law_1360 ?_
        refine gl_sld (pc := 1361) C dL_law_1361 h2 ea2 ?_
        refine gl_callVi (pc := 1362) C [.int a1, .int a2] dL_law_1362 ml_L_154 wy_X11_rests (a_X11_rests _ e1) (by decide) sh_0 (by decide) rfl rfl (Nat.le_of_ble_eq_true rfl) rfl (by omega) (by omega) ?_
        refine gl_aload_n (pc := 1365) C 2 dL_law_1365 rfl rfl ?_
        refine gl_aload_n (pc := 1366) C 4 dL_law_1366 rfl rfl ?_
        refine gl_iload (pc := 1367) C 0 dL_law_1367 rfl ?_
        refine gl_iconst (w := (1)) (pc := 1369) C dL_law_1369 rfl ?_
        refine gl_iadd (pc := 1370) C dL_law_1370 ?_
        refine gl_sld (pc := 1371) C dL_law_1371 h1 ea1 ?_
        refine gl_aload_n (pc := 1372) C 4 dL_law_1372 rfl rfl ?_
        refine gl_iload (pc := 1373) C 0 dL_law_1373 rfl ?_
        refine gl_iconst (w := (2)) (pc := 1375) C dL_law_1375 rfl ?_
        refine gl_iadd (pc := 1376) C dL_law_1376 ?_
        refine gl_sld (pc := 1377) C dL_law_1377 h2 ea2 ?_
        refine gl_callVi (pc := 1378) C [.int a1, .int a2] dL_law_1378 ml_L_157 wy_X12_rests (a_X12_rests _ e2) (by decide) sh_147 (by decide) rfl rfl (Nat.le_of_ble_eq_true rfl) rfl (by omega) (by omega) ?_
        refine gl_icmp_eq (pc := 1381) C 1772 dL_law_1381 rfl (fun _ => ?_) (fun c9 => absurd rfl c9)
        refine gl_iinc (v := nI (i + 6)) (ls' := [(4, .int (nI (i + 6))), (3, .ref 170), (2, .ref 147), (1, .ref 0), (0, .ref 2000)]) (pc := 1772) C 0 dL_law_1772 rfl (nI_add i 6) (by decide) rfl ?_
        refine gl_goto (pc := 1775) C 23 dL_law_1775 rfl ?_
        exact ih (i + 6) k z _ _ (by omega) (by omega) (by omega) (by omega) hI2
      by_cases c31 : w = (31 : Int32)
      · refine gl_tabIn (pc := 40) C 1386 dL_law_40 (by rw [c31]; decide) (by rw [c31]; decide) (off := 1346) (by rw [c31]; decide) rfl ?_
        obtain ⟨v, M1, M2, e1, e2, hI2⟩ := s_candle M L hI a1 a2 a3
        refine gl_aload_n (pc := 1386) C 3 dL_law_1386 rfl rfl ?_
        refine gl_aload_n (pc := 1387) C 4 dL_law_1387 rfl rfl ?_
        refine gl_iload (pc := 1388) C 0 dL_law_1388 rfl ?_
        refine gl_iconst (w := (1)) (pc := 1390) C dL_law_1390 rfl ?_
        refine gl_iadd (pc := 1391) C dL_law_1391 ?_
        refine gl_sld (pc := 1392) C dL_law_1392 h1 ea1 ?_
        refine gl_aload_n (pc := 1393) C 4 dL_law_1393 rfl rfl ?_
        refine gl_iload (pc := 1394) C 0 dL_law_1394 rfl ?_
        refine gl_iconst (w := (2)) (pc := 1396) C dL_law_1396 rfl ?_
        refine gl_iadd (pc := 1397) C dL_law_1397 ?_
        refine gl_sld (pc := 1398) C dL_law_1398 h2 ea2 ?_
        refine gl_aload_n (pc := 1399) C 4 dL_law_1399 rfl rfl ?_
        refine gl_iload (pc := 1400) C 0 dL_law_1400 rfl ?_
        refine gl_iconst (w := (3)) (pc := 1402) C dL_law_1402 rfl ?_
        refine gl_iadd (pc := 1403) C dL_law_1403 ?_
        refine gl_sld (pc := 1404) C dL_law_1404 h3 ea3 ?_
        refine gl_callVi (pc := 1405) C [.int a1, .int a2, .int a3] dL_law_1405 ml_L_158 wy_X11_candle (a_X11_candle _ e1) (by decide) sh_0 (by decide) rfl rfl (Nat.le_of_ble_eq_true rfl) rfl (by omega) (by omega) ?_
        refine gl_aload_n (pc := 1408) C 2 dL_law_1408 rfl rfl ?_
        refine gl_aload_n (pc := 1409) C 4 dL_law_1409 rfl rfl ?_
        refine gl_iload (pc := 1410) C 0 dL_law_1410 rfl ?_
        refine gl_iconst (w := (1)) (pc := 1412) C dL_law_1412 rfl ?_
        refine gl_iadd (pc := 1413) C dL_law_1413 ?_
        refine gl_sld (pc := 1414) C dL_law_1414 h1 ea1 ?_
        refine gl_aload_n (pc := 1415) C 4 dL_law_1415 rfl rfl ?_
        refine gl_iload (pc := 1416) C 0 dL_law_1416 rfl ?_
        refine gl_iconst (w := (2)) (pc := 1418) C dL_law_1418 rfl ?_
        refine gl_iadd (pc := 1419) C dL_law_1419 ?_
        refine gl_sld (pc := 1420) C dL_law_1420 h2 ea2 ?_
        refine gl_aload_n (pc := 1421) C 4 dL_law_1421 rfl rfl ?_
        refine gl_iload (pc := 1422) C 0 dL_law_1422 rfl ?_
        refine gl_iconst (w := (3)) (pc := 1424) C dL_law_1424 rfl ?_
        refine gl_iadd (pc := 1425) C dL_law_1425 ?_
        refine gl_sld (pc := 1426) C dL_law_1426 h3 ea3 ?_
        refine gl_callVi (pc := 1427) C [.int a1, .int a2, .int a3] dL_law_1427 ml_L_162 wy_X12_candle (a_X12_candle _ e2) (by decide) sh_147 (by decide) rfl rfl (Nat.le_of_ble_eq_true rfl) rfl (by omega) (by omega) ?_
        refine gl_icmp_eq (pc := 1430) C 1772 dL_law_1430 rfl (fun _ => ?_) (fun c9 => absurd rfl c9)
        refine gl_iinc (v := nI (i + 6)) (ls' := [(4, .int (nI (i + 6))), (3, .ref 170), (2, .ref 147), (1, .ref 0), (0, .ref 2000)]) (pc := 1772) C 0 dL_law_1772 rfl (nI_add i 6) (by decide) rfl ?_
        refine gl_goto (pc := 1775) C 23 dL_law_1775 rfl ?_
        exact ih (i + 6) k z _ _ (by omega) (by omega) (by omega) (by omega) hI2
      by_cases c32 : w = (32 : Int32)
      · refine gl_tabIn (pc := 40) C 1435 dL_law_40 (by rw [c32]; decide) (by rw [c32]; decide) (off := 1395) (by rw [c32]; decide) rfl ?_
        obtain ⟨v, M1, M2, e1, e2, hI2⟩ := s_likeliest M L hI a1 a2
        refine gl_aload_n (pc := 1435) C 3 dL_law_1435 rfl rfl ?_
        refine gl_aload_n (pc := 1436) C 4 dL_law_1436 rfl rfl ?_
        refine gl_iload (pc := 1437) C 0 dL_law_1437 rfl ?_
        refine gl_iconst (w := (1)) (pc := 1439) C dL_law_1439 rfl ?_
        refine gl_iadd (pc := 1440) C dL_law_1440 ?_
        refine gl_sld (pc := 1441) C dL_law_1441 h1 ea1 ?_
        refine gl_aload_n (pc := 1442) C 4 dL_law_1442 rfl rfl ?_
        refine gl_iload (pc := 1443) C 0 dL_law_1443 rfl ?_
        refine gl_iconst (w := (2)) (pc := 1445) C dL_law_1445 rfl ?_
        refine gl_iadd (pc := 1446) C dL_law_1446 ?_
        refine gl_sld (pc := 1447) C dL_law_1447 h2 ea2 ?_
        refine gl_callVi (pc := 1448) C [.int a1, .int a2] dL_law_1448 ml_L_163 wy_X11_likeliest (a_X11_likeliest _ e1) (by decide) sh_0 (by decide) rfl rfl (Nat.le_of_ble_eq_true rfl) rfl (by omega) (by omega) ?_
        refine gl_aload_n (pc := 1451) C 2 dL_law_1451 rfl rfl ?_
        refine gl_aload_n (pc := 1452) C 4 dL_law_1452 rfl rfl ?_
        refine gl_iload (pc := 1453) C 0 dL_law_1453 rfl ?_
        refine gl_iconst (w := (1)) (pc := 1455) C dL_law_1455 rfl ?_
        refine gl_iadd (pc := 1456) C dL_law_1456 ?_
        refine gl_sld (pc := 1457) C dL_law_1457 h1 ea1 ?_
        refine gl_aload_n (pc := 1458) C 4 dL_law_1458 rfl rfl ?_
        refine gl_iload (pc := 1459) C 0 dL_law_1459 rfl ?_
        refine gl_iconst (w := (2)) (pc := 1461) C dL_law_1461 rfl ?_
        refine gl_iadd (pc := 1462) C dL_law_1462 ?_
        refine gl_sld (pc := 1463) C dL_law_1463 h2 ea2 ?_
        refine gl_callVi (pc := 1464) C [.int a1, .int a2] dL_law_1464 ml_L_166 wy_X12_likeliest (a_X12_likeliest _ e2) (by decide) sh_147 (by decide) rfl rfl (Nat.le_of_ble_eq_true rfl) rfl (by omega) (by omega) ?_
        refine gl_icmp_eq (pc := 1467) C 1772 dL_law_1467 rfl (fun _ => ?_) (fun c9 => absurd rfl c9)
        refine gl_iinc (v := nI (i + 6)) (ls' := [(4, .int (nI (i + 6))), (3, .ref 170), (2, .ref 147), (1, .ref 0), (0, .ref 2000)]) (pc := 1772) C 0 dL_law_1772 rfl (nI_add i 6) (by decide) rfl ?_
        refine gl_goto (pc := 1775) C 23 dL_law_1775 rfl ?_
        exact ih (i + 6) k z _ _ (by omega) (by omega) (by omega) (by omega) hI2
      by_cases c33 : w = (33 : Int32)
      · refine gl_tabIn (pc := 40) C 1472 dL_law_40 (by rw [c33]; decide) (by rw [c33]; decide) (off := 1432) (by rw [c33]; decide) rfl ?_
        obtain ⟨v, M1, M2, e1, e2, hI2⟩ := s_wronged M L hI a1
        refine gl_aload_n (pc := 1472) C 3 dL_law_1472 rfl rfl ?_
        refine gl_aload_n (pc := 1473) C 4 dL_law_1473 rfl rfl ?_
        refine gl_iload (pc := 1474) C 0 dL_law_1474 rfl ?_
        refine gl_iconst (w := (1)) (pc := 1476) C dL_law_1476 rfl ?_
        refine gl_iadd (pc := 1477) C dL_law_1477 ?_
        refine gl_sld (pc := 1478) C dL_law_1478 h1 ea1 ?_
        refine gl_callVi (pc := 1479) C [.int a1] dL_law_1479 ml_L_167 wy_X11_wronged (a_X11_wronged _ e1) (by decide) sh_0 (by decide) rfl rfl (Nat.le_of_ble_eq_true rfl) rfl (by omega) (by omega) ?_
        refine gl_aload_n (pc := 1482) C 2 dL_law_1482 rfl rfl ?_
        refine gl_aload_n (pc := 1483) C 4 dL_law_1483 rfl rfl ?_
        refine gl_iload (pc := 1484) C 0 dL_law_1484 rfl ?_
        refine gl_iconst (w := (1)) (pc := 1486) C dL_law_1486 rfl ?_
        refine gl_iadd (pc := 1487) C dL_law_1487 ?_
        refine gl_sld (pc := 1488) C dL_law_1488 h1 ea1 ?_
        refine gl_callVi (pc := 1489) C [.int a1] dL_law_1489 ml_L_170 wy_X12_wronged (a_X12_wronged _ e2) (by decide) sh_147 (by decide) rfl rfl (Nat.le_of_ble_eq_true rfl) rfl (by omega) (by omega) ?_
        refine gl_icmp_eq (pc := 1492) C 1772 dL_law_1492 rfl (fun _ => ?_) (fun c9 => absurd rfl c9)
        refine gl_iinc (v := nI (i + 6)) (ls' := [(4, .int (nI (i + 6))), (3, .ref 170), (2, .ref 147), (1, .ref 0), (0, .ref 2000)]) (pc := 1772) C 0 dL_law_1772 rfl (nI_add i 6) (by decide) rfl ?_
        refine gl_goto (pc := 1775) C 23 dL_law_1775 rfl ?_
        exact ih (i + 6) k z _ _ (by omega) (by omega) (by omega) (by omega) hI2
      by_cases c34 : w = (34 : Int32)
      · refine gl_tabIn (pc := 40) C 1497 dL_law_40 (by rw [c34]; decide) (by rw [c34]; decide) (off := 1457) (by rw [c34]; decide) rfl ?_
        obtain ⟨v, M1, M2, e1, e2, hI2⟩ := s_better M L hI 
        refine gl_aload_n (pc := 1497) C 3 dL_law_1497 rfl rfl ?_
        refine gl_callVi (pc := 1498) C [] dL_law_1498 ml_L_171 wy_X11_better (a_X11_better _ e1) (by decide) sh_0 (by decide) rfl rfl (Nat.le_of_ble_eq_true rfl) rfl (by omega) (by omega) ?_
        refine gl_aload_n (pc := 1501) C 2 dL_law_1501 rfl rfl ?_
        refine gl_callVi (pc := 1502) C [] dL_law_1502 ml_L_174 wy_X12_better (a_X12_better _ e2) (by decide) sh_147 (by decide) rfl rfl (Nat.le_of_ble_eq_true rfl) rfl (by omega) (by omega) ?_
        refine gl_icmp_eq (pc := 1505) C 1772 dL_law_1505 rfl (fun _ => ?_) (fun c9 => absurd rfl c9)
        refine gl_iinc (v := nI (i + 6)) (ls' := [(4, .int (nI (i + 6))), (3, .ref 170), (2, .ref 147), (1, .ref 0), (0, .ref 2000)]) (pc := 1772) C 0 dL_law_1772 rfl (nI_add i 6) (by decide) rfl ?_
        refine gl_goto (pc := 1775) C 23 dL_law_1775 rfl ?_
        exact ih (i + 6) k z _ _ (by omega) (by omega) (by omega) (by omega) hI2
      by_cases c35 : w = (35 : Int32)
      · refine gl_tabIn (pc := 40) C 1510 dL_law_40 (by rw [c35]; decide) (by rw [c35]; decide) (off := 1470) (by rw [c35]; decide) rfl ?_
        obtain ⟨v, M1, M2, e1, e2, hI2⟩ := s_most M L hI a1
        refine gl_aload_n (pc := 1510) C 3 dL_law_1510 rfl rfl ?_
        refine gl_aload_n (pc := 1511) C 4 dL_law_1511 rfl rfl ?_
        refine gl_iload (pc := 1512) C 0 dL_law_1512 rfl ?_
        refine gl_iconst (w := (1)) (pc := 1514) C dL_law_1514 rfl ?_
        refine gl_iadd (pc := 1515) C dL_law_1515 ?_
        refine gl_sld (pc := 1516) C dL_law_1516 h1 ea1 ?_
        refine gl_callVi (pc := 1517) C [.int a1] dL_law_1517 ml_L_175 wy_X11_most (a_X11_most _ e1) (by decide) sh_0 (by decide) rfl rfl (Nat.le_of_ble_eq_true rfl) rfl (by omega) (by omega) ?_
        refine gl_aload_n (pc := 1520) C 2 dL_law_1520 rfl rfl ?_
        refine gl_aload_n (pc := 1521) C 4 dL_law_1521 rfl rfl ?_
        refine gl_iload (pc := 1522) C 0 dL_law_1522 rfl ?_
        refine gl_iconst (w := (1)) (pc := 1524) C dL_law_1524 rfl ?_
        refine gl_iadd (pc := 1525) C dL_law_1525 ?_
        refine gl_sld (pc := 1526) C dL_law_1526 h1 ea1 ?_
        refine gl_callVi (pc := 1527) C [.int a1] dL_law_1527 ml_L_178 wy_X12_most (a_X12_most _ e2) (by decide) sh_147 (by decide) rfl rfl (Nat.le_of_ble_eq_true rfl) rfl (by omega) (by omega) ?_
        refine gl_icmp_eq (pc := 1530) C 1772 dL_law_1530 rfl (fun _ => ?_) (fun c9 => absurd rfl c9)
        refine gl_iinc (v := nI (i + 6)) (ls' := [(4, .int (nI (i + 6))), (3, .ref 170), (2, .ref 147), (1, .ref 0), (0, .ref 2000)]) (pc := 1772) C 0 dL_law_1772 rfl (nI_add i 6) (by decide) rfl ?_
        refine gl_goto (pc := 1775) C 23 dL_law_1775 rfl ?_
        exact ih (i + 6) k z _ _ (by omega) (by omega) (by omega) (by omega) hI2
      by_cases c36 : w = (36 : Int32)
      · refine gl_tabIn (pc := 40) C 1535 dL_law_40 (by rw [c36]; decide) (by rw [c36]; decide) (off := 1495) (by rw [c36]; decide) rfl ?_
        obtain ⟨v, M1, M2, e1, e2, hI2⟩ := s_people M L hI a1
        refine gl_aload_n (pc := 1535) C 3 dL_law_1535 rfl rfl ?_
        refine gl_aload_n (pc := 1536) C 4 dL_law_1536 rfl rfl ?_
        refine gl_iload (pc := 1537) C 0 dL_law_1537 rfl ?_
        refine gl_iconst (w := (1)) (pc := 1539) C dL_law_1539 rfl ?_
        refine gl_iadd (pc := 1540) C dL_law_1540 ?_
        refine gl_sld (pc := 1541) C dL_law_1541 h1 ea1 ?_
        refine gl_callVi (pc := 1542) C [.int a1] dL_law_1542 ml_L_179 wy_X11_people (a_X11_people _ e1) (by decide) sh_0 (by decide) rfl rfl (Nat.le_of_ble_eq_true rfl) rfl (by omega) (by omega) ?_
        refine gl_aload_n (pc := 1545) C 2 dL_law_1545 rfl rfl ?_
        refine gl_aload_n (pc := 1546) C 4 dL_law_1546 rfl rfl ?_
        refine gl_iload (pc := 1547) C 0 dL_law_1547 rfl ?_
        refine gl_iconst (w := (1)) (pc := 1549) C dL_law_1549 rfl ?_
        refine gl_iadd (pc := 1550) C dL_law_1550 ?_
        refine gl_sld (pc := 1551) C dL_law_1551 h1 ea1 ?_
        refine gl_callVi (pc := 1552) C [.int a1] dL_law_1552 ml_L_182 wy_X12_people (a_X12_people _ e2) (by decide) sh_147 (by decide) rfl rfl (Nat.le_of_ble_eq_true rfl) rfl (by omega) (by omega) ?_
        refine gl_icmp_eq (pc := 1555) C 1772 dL_law_1555 rfl (fun _ => ?_) (fun c9 => absurd rfl c9)
        refine gl_iinc (v := nI (i + 6)) (ls' := [(4, .int (nI (i + 6))), (3, .ref 170), (2, .ref 147), (1, .ref 0), (0, .ref 2000)]) (pc := 1772) C 0 dL_law_1772 rfl (nI_add i 6) (by decide) rfl ?_
        refine gl_goto (pc := 1775) C 23 dL_law_1775 rfl ?_
        exact ih (i + 6) k z _ _ (by omega) (by omega) (by omega) (by omega) hI2
      by_cases c37 : w = (37 : Int32)
      · refine gl_tabIn (pc := 40) C 1560 dL_law_40 (by rw [c37]; decide) (by rw [c37]; decide) (off := 1520) (by rw [c37]; decide) rfl ?_
        obtain ⟨v, M1, M2, e1, e2, hI2⟩ := s_cries M L hI a1
        refine gl_aload_n (pc := 1560) C 3 dL_law_1560 rfl rfl ?_
        refine gl_aload_n (pc := 1561) C 4 dL_law_1561 rfl rfl ?_
        refine gl_iload (pc := 1562) C 0 dL_law_1562 rfl ?_
        refine gl_iconst (w := (1)) (pc := 1564) C dL_law_1564 rfl ?_
        refine gl_iadd (pc := 1565) C dL_law_1565 ?_
        refine gl_sld (pc := 1566) C dL_law_1566 h1 ea1 ?_
        refine gl_callVi (pc := 1567) C [.int a1] dL_law_1567 ml_L_183 wy_X11_cries (a_X11_cries _ e1) (by decide) sh_0 (by decide) rfl rfl (Nat.le_of_ble_eq_true rfl) rfl (by omega) (by omega) ?_
        refine gl_aload_n (pc := 1570) C 2 dL_law_1570 rfl rfl ?_
        refine gl_aload_n (pc := 1571) C 4 dL_law_1571 rfl rfl ?_
        refine gl_iload (pc := 1572) C 0 dL_law_1572 rfl ?_
        refine gl_iconst (w := (1)) (pc := 1574) C dL_law_1574 rfl ?_
        refine gl_iadd (pc := 1575) C dL_law_1575 ?_
        refine gl_sld (pc := 1576) C dL_law_1576 h1 ea1 ?_
        refine gl_callVi (pc := 1577) C [.int a1] dL_law_1577 ml_L_186 wy_X12_cries (a_X12_cries _ e2) (by decide) sh_147 (by decide) rfl rfl (Nat.le_of_ble_eq_true rfl) rfl (by omega) (by omega) ?_
        refine gl_icmp_eq (pc := 1580) C 1772 dL_law_1580 rfl (fun _ => ?_) (fun c9 => absurd rfl c9)
        refine gl_iinc (v := nI (i + 6)) (ls' := [(4, .int (nI (i + 6))), (3, .ref 170), (2, .ref 147), (1, .ref 0), (0, .ref 2000)]) (pc := 1772) C 0 dL_law_1772 rfl (nI_add i 6) (by decide) rfl ?_
        refine gl_goto (pc := 1775) C 23 dL_law_1775 rfl ?_
        exact ih (i + 6) k z _ _ (by omega) (by omega) (by omega) (by omega) hI2
      by_cases c38 : w = (38 : Int32)
      · refine gl_tabIn (pc := 40) C 1585 dL_law_40 (by rw [c38]; decide) (by rw [c38]; decide) (off := 1545) (by rw [c38]; decide) rfl ?_
        obtain ⟨v, M1, M2, e1, e2, hI2⟩ := s_booked M L hI a1 a2
        refine gl_aload_n (pc := 1585) C 3 dL_law_1585 rfl rfl ?_
        refine gl_aload_n (pc := 1586) C 4 dL_law_1586 rfl rfl ?_
        refine gl_iload (pc := 1587) C 0 dL_law_1587 rfl ?_
        refine gl_iconst (w := (1)) (pc := 1589) C dL_law_1589 rfl ?_
        refine gl_iadd (pc := 1590) C dL_law_1590 ?_
        refine gl_sld (pc := 1591) C dL_law_1591 h1 ea1 ?_
        refine gl_aload_n (pc := 1592) C 4 dL_law_1592 rfl rfl ?_
        refine gl_iload (pc := 1593) C 0 dL_law_1593 rfl ?_
        refine gl_iconst (w := (2)) (pc := 1595) C dL_law_1595 rfl ?_
        refine gl_iadd (pc := 1596) C dL_law_1596 ?_
        refine gl_sld (pc := 1597) C dL_law_1597 h2 ea2 ?_
        refine gl_callVi (pc := 1598) C [.int a1, .int a2] dL_law_1598 ml_L_187 wy_X11_booked (a_X11_booked _ e1) (by decide) sh_0 (by decide) rfl rfl (Nat.le_of_ble_eq_true rfl) rfl (by omega) (by omega) ?_
        refine gl_aload_n (pc := 1601) C 2 dL_law_1601 rfl rfl ?_
        refine gl_aload_n (pc := 1602) C 4 dL_law_1602 rfl rfl ?_
        refine gl_iload (pc := 1603) C 0 dL_law_1603 rfl ?_
        refine gl_iconst (w := (1)) (pc := 1605) C dL_law_1605 rfl ?_
        refine gl_iadd (pc := 1606) C dL_law_1606 ?_
        refine gl_sld (pc := 1607) C dL_law_1607 h1 ea1 ?_
        refine gl_aload_n (pc := 1608) C 4 dL_law_1608 rfl rfl ?_
        refine gl_iload (pc := 1609) C 0 dL_law_1609 rfl ?_
        refine gl_iconst (w := (2)) (pc := 1611) C dL_law_1611 rfl ?_
        refine gl_iadd (pc := 1612) C dL_law_1612 ?_
        refine gl_sld (pc := 1613) C dL_law_1613 h2 ea2 ?_
        refine gl_callVi (pc := 1614) C [.int a1, .int a2] dL_law_1614 ml_L_190 wy_X12_booked (a_X12_booked _ e2) (by decide) sh_147 (by decide) rfl rfl (Nat.le_of_ble_eq_true rfl) rfl (by omega) (by omega) ?_
        refine gl_icmp_eq (pc := 1617) C 1772 dL_law_1617 rfl (fun _ => ?_) (fun c9 => absurd rfl c9)
        refine gl_iinc (v := nI (i + 6)) (ls' := [(4, .int (nI (i + 6))), (3, .ref 170), (2, .ref 147), (1, .ref 0), (0, .ref 2000)]) (pc := 1772) C 0 dL_law_1772 rfl (nI_add i 6) (by decide) rfl ?_
        refine gl_goto (pc := 1775) C 23 dL_law_1775 rfl ?_
        exact ih (i + 6) k z _ _ (by omega) (by omega) (by omega) (by omega) hI2
      by_cases c39 : w = (39 : Int32)
      · refine gl_tabIn (pc := 40) C 1622 dL_law_40 (by rw [c39]; decide) (by rw [c39]; decide) (off := 1582) (by rw [c39]; decide) rfl ?_
        obtain ⟨v, M1, M2, e1, e2, hI2⟩ := s_meet M L hI a1 a2
        refine gl_aload_n (pc := 1622) C 3 dL_law_1622 rfl rfl ?_
        refine gl_aload_n (pc := 1623) C 4 dL_law_1623 rfl rfl ?_
        refine gl_iload (pc := 1624) C 0 dL_law_1624 rfl ?_
        refine gl_iconst (w := (1)) (pc := 1626) C dL_law_1626 rfl ?_
        refine gl_iadd (pc := 1627) C dL_law_1627 ?_
        refine gl_sld (pc := 1628) C dL_law_1628 h1 ea1 ?_
        refine gl_aload_n (pc := 1629) C 4 dL_law_1629 rfl rfl ?_
        refine gl_iload (pc := 1630) C 0 dL_law_1630 rfl ?_
        refine gl_iconst (w := (2)) (pc := 1632) C dL_law_1632 rfl ?_
        refine gl_iadd (pc := 1633) C dL_law_1633 ?_
        refine gl_sld (pc := 1634) C dL_law_1634 h2 ea2 ?_
        refine gl_callVi (pc := 1635) C [.int a1, .int a2] dL_law_1635 ml_L_191 wy_X11_meet (a_X11_meet _ e1) (by decide) sh_0 (by decide) rfl rfl (Nat.le_of_ble_eq_true rfl) rfl (by omega) (by omega) ?_
        refine gl_aload_n (pc := 1638) C 2 dL_law_1638 rfl rfl ?_
        refine gl_aload_n (pc := 1639) C 4 dL_law_1639 rfl rfl ?_
        refine gl_iload (pc := 1640) C 0 dL_law_1640 rfl ?_
        refine gl_iconst (w := (1)) (pc := 1642) C dL_law_1642 rfl ?_
        refine gl_iadd (pc := 1643) C dL_law_1643 ?_
        refine gl_sld (pc := 1644) C dL_law_1644 h1 ea1 ?_
        refine gl_aload_n (pc := 1645) C 4 dL_law_1645 rfl rfl ?_
        refine gl_iload (pc := 1646) C 0 dL_law_1646 rfl ?_
        refine gl_iconst (w := (2)) (pc := 1648) C dL_law_1648 rfl ?_
        refine gl_iadd (pc := 1649) C dL_law_1649 ?_
        refine gl_sld (pc := 1650) C dL_law_1650 h2 ea2 ?_
        refine gl_callVi (pc := 1651) C [.int a1, .int a2] dL_law_1651 ml_L_194 wy_X12_meet (a_X12_meet _ e2) (by decide) sh_147 (by decide) rfl rfl (Nat.le_of_ble_eq_true rfl) rfl (by omega) (by omega) ?_
        refine gl_icmp_eq (pc := 1654) C 1772 dL_law_1654 rfl (fun _ => ?_) (fun c9 => absurd rfl c9)
        refine gl_iinc (v := nI (i + 6)) (ls' := [(4, .int (nI (i + 6))), (3, .ref 170), (2, .ref 147), (1, .ref 0), (0, .ref 2000)]) (pc := 1772) C 0 dL_law_1772 rfl (nI_add i 6) (by decide) rfl ?_
        refine gl_goto (pc := 1775) C 23 dL_law_1775 rfl ?_
        exact ih (i + 6) k z _ _ (by omega) (by omega) (by omega) (by omega) hI2
      by_cases c40 : w = (40 : Int32)
      · refine gl_tabIn (pc := 40) C 1659 dL_law_40 (by rw [c40]; decide) (by rw [c40]; decide) (off := 1619) (by rw [c40]; decide) rfl ?_
        obtain ⟨v, M1, M2, e1, e2, hI2⟩ := s_needs M L hI a1 a2 a3
        refine gl_aload_n (pc := 1659) C 3 dL_law_1659 rfl rfl ?_
        refine gl_aload_n (pc := 1660) C 4 dL_law_1660 rfl rfl ?_
        refine gl_iload (pc := 1661) C 0 dL_law_1661 rfl ?_
        refine gl_iconst (w := (1)) (pc := 1663) C dL_law_1663 rfl ?_
        refine gl_iadd (pc := 1664) C dL_law_1664 ?_
        refine gl_sld (pc := 1665) C dL_law_1665 h1 ea1 ?_
        refine gl_aload_n (pc := 1666) C 4 dL_law_1666 rfl rfl ?_
        refine gl_iload (pc := 1667) C 0 dL_law_1667 rfl ?_
        refine gl_iconst (w := (2)) (pc := 1669) C dL_law_1669 rfl ?_
        refine gl_iadd (pc := 1670) C dL_law_1670 ?_
        refine gl_sld (pc := 1671) C dL_law_1671 h2 ea2 ?_
        refine gl_aload_n (pc := 1672) C 4 dL_law_1672 rfl rfl ?_
        refine gl_iload (pc := 1673) C 0 dL_law_1673 rfl ?_
        refine gl_iconst (w := (3)) (pc := 1675) C dL_law_1675 rfl ?_
        refine gl_iadd (pc := 1676) C dL_law_1676 ?_
        refine gl_sld (pc := 1677) C dL_law_1677 h3 ea3 ?_
        refine gl_callVi (pc := 1678) C [.int a1, .int a2, .int a3] dL_law_1678 ml_L_195 wy_X11_needs (a_X11_needs _ e1) (by decide) sh_0 (by decide) rfl rfl (Nat.le_of_ble_eq_true rfl) rfl (by omega) (by omega) ?_
        refine gl_aload_n (pc := 1681) C 2 dL_law_1681 rfl rfl ?_
        refine gl_aload_n (pc := 1682) C 4 dL_law_1682 rfl rfl ?_
        refine gl_iload (pc := 1683) C 0 dL_law_1683 rfl ?_
        refine gl_iconst (w := (1)) (pc := 1685) C dL_law_1685 rfl ?_
        refine gl_iadd (pc := 1686) C dL_law_1686 ?_
        refine gl_sld (pc := 1687) C dL_law_1687 h1 ea1 ?_
        refine gl_aload_n (pc := 1688) C 4 dL_law_1688 rfl rfl ?_
        refine gl_iload (pc := 1689) C 0 dL_law_1689 rfl ?_
        refine gl_iconst (w := (2)) (pc := 1691) C dL_law_1691 rfl ?_
        refine gl_iadd (pc := 1692) C dL_law_1692 ?_
        refine gl_sld (pc := 1693) C dL_law_1693 h2 ea2 ?_
        refine gl_aload_n (pc := 1694) C 4 dL_law_1694 rfl rfl ?_
        refine gl_iload (pc := 1695) C 0 dL_law_1695 rfl ?_
        refine gl_iconst (w := (3)) (pc := 1697) C dL_law_1697 rfl ?_
        refine gl_iadd (pc := 1698) C dL_law_1698 ?_
        refine gl_sld (pc := 1699) C dL_law_1699 h3 ea3 ?_
        refine gl_callVi (pc := 1700) C [.int a1, .int a2, .int a3] dL_law_1700 ml_L_198 wy_X12_needs (a_X12_needs _ e2) (by decide) sh_147 (by decide) rfl rfl (Nat.le_of_ble_eq_true rfl) rfl (by omega) (by omega) ?_
        refine gl_icmp_eq (pc := 1703) C 1772 dL_law_1703 rfl (fun _ => ?_) (fun c9 => absurd rfl c9)
        refine gl_iinc (v := nI (i + 6)) (ls' := [(4, .int (nI (i + 6))), (3, .ref 170), (2, .ref 147), (1, .ref 0), (0, .ref 2000)]) (pc := 1772) C 0 dL_law_1772 rfl (nI_add i 6) (by decide) rfl ?_
        refine gl_goto (pc := 1775) C 23 dL_law_1775 rfl ?_
        exact ih (i + 6) k z _ _ (by omega) (by omega) (by omega) (by omega) hI2
      by_cases c41 : w = (41 : Int32)
      · refine gl_tabIn (pc := 40) C 1708 dL_law_40 (by rw [c41]; decide) (by rw [c41]; decide) (off := 1668) (by rw [c41]; decide) rfl ?_
        obtain ⟨v, M1, M2, e1, e2, hI2⟩ := s_line M L hI 
        refine gl_aload_n (pc := 1708) C 3 dL_law_1708 rfl rfl ?_
        refine gl_callVi (pc := 1709) C [] dL_law_1709 ml_L_199 wy_X11_line (a_X11_line _ e1) (by decide) sh_0 (by decide) rfl rfl (Nat.le_of_ble_eq_true rfl) rfl (by omega) (by omega) ?_
        refine gl_aload_n (pc := 1712) C 2 dL_law_1712 rfl rfl ?_
        refine gl_callVi (pc := 1713) C [] dL_law_1713 ml_L_202 wy_X12_line (a_X12_line _ e2) (by decide) sh_147 (by decide) rfl rfl (Nat.le_of_ble_eq_true rfl) rfl (by omega) (by omega) ?_
        refine gl_icmp_eq (pc := 1716) C 1772 dL_law_1716 rfl (fun _ => ?_) (fun c9 => absurd rfl c9)
        refine gl_iinc (v := nI (i + 6)) (ls' := [(4, .int (nI (i + 6))), (3, .ref 170), (2, .ref 147), (1, .ref 0), (0, .ref 2000)]) (pc := 1772) C 0 dL_law_1772 rfl (nI_add i 6) (by decide) rfl ?_
        refine gl_goto (pc := 1775) C 23 dL_law_1775 rfl ?_
        exact ih (i + 6) k z _ _ (by omega) (by omega) (by omega) (by omega) hI2
      by_cases c42 : w = (42 : Int32)
      · refine gl_tabIn (pc := 40) C 1721 dL_law_40 (by rw [c42]; decide) (by rw [c42]; decide) (off := 1681) (by rw [c42]; decide) rfl ?_
        obtain ⟨v, M1, M2, e1, e2, hI2⟩ := s_image M L hI 
        refine gl_aload_n (pc := 1721) C 3 dL_law_1721 rfl rfl ?_
        refine gl_callVi (pc := 1722) C [] dL_law_1722 ml_L_203 wy_X11_image (a_X11_image _ e1) (by decide) sh_0 (by decide) rfl rfl (Nat.le_of_ble_eq_true rfl) rfl (by omega) (by omega) ?_
        refine gl_aload_n (pc := 1725) C 2 dL_law_1725 rfl rfl ?_
        refine gl_callVi (pc := 1726) C [] dL_law_1726 ml_L_206 wy_X12_image (a_X12_image _ e2) (by decide) sh_147 (by decide) rfl rfl (Nat.le_of_ble_eq_true rfl) rfl (by omega) (by omega) ?_
        refine gl_icmp_eq (pc := 1729) C 1772 dL_law_1729 rfl (fun _ => ?_) (fun c9 => absurd rfl c9)
        refine gl_iinc (v := nI (i + 6)) (ls' := [(4, .int (nI (i + 6))), (3, .ref 170), (2, .ref 147), (1, .ref 0), (0, .ref 2000)]) (pc := 1772) C 0 dL_law_1772 rfl (nI_add i 6) (by decide) rfl ?_
        refine gl_goto (pc := 1775) C 23 dL_law_1775 rfl ?_
        exact ih (i + 6) k z _ _ (by omega) (by omega) (by omega) (by omega) hI2
      by_cases c43 : w = (43 : Int32)
      · refine gl_tabIn (pc := 40) C 1734 dL_law_40 (by rw [c43]; decide) (by rw [c43]; decide) (off := 1694) (by rw [c43]; decide) rfl ?_
        obtain ⟨v, M1, M2, e1, e2, hI2⟩ := s_back M L hI 
        refine gl_aload_n (pc := 1734) C 3 dL_law_1734 rfl rfl ?_
        refine gl_callVi (pc := 1735) C [] dL_law_1735 ml_L_207 wy_X11_back (a_X11_back _ e1) (by decide) sh_0 (by decide) rfl rfl (Nat.le_of_ble_eq_true rfl) rfl (by omega) (by omega) ?_
        refine gl_aload_n (pc := 1738) C 2 dL_law_1738 rfl rfl ?_
        refine gl_callVi (pc := 1739) C [] dL_law_1739 ml_L_210 wy_X12_back (a_X12_back _ e2) (by decide) sh_147 (by decide) rfl rfl (Nat.le_of_ble_eq_true rfl) rfl (by omega) (by omega) ?_
        refine gl_icmp_eq (pc := 1742) C 1772 dL_law_1742 rfl (fun _ => ?_) (fun c9 => absurd rfl c9)
        refine gl_iinc (v := nI (i + 6)) (ls' := [(4, .int (nI (i + 6))), (3, .ref 170), (2, .ref 147), (1, .ref 0), (0, .ref 2000)]) (pc := 1772) C 0 dL_law_1772 rfl (nI_add i 6) (by decide) rfl ?_
        refine gl_goto (pc := 1775) C 23 dL_law_1775 rfl ?_
        exact ih (i + 6) k z _ _ (by omega) (by omega) (by omega) (by omega) hI2
      by_cases c44 : w = (44 : Int32)
      · refine gl_tabIn (pc := 40) C 1747 dL_law_40 (by rw [c44]; decide) (by rw [c44]; decide) (off := 1707) (by rw [c44]; decide) rfl ?_
        obtain ⟨v, M2, e1, e2, hI2⟩ := s_count M L hI a1
        refine gl_aload_n (pc := 1747) C 3 dL_law_1747 rfl rfl ?_
        refine gl_aload_n (pc := 1748) C 4 dL_law_1748 rfl rfl ?_
        refine gl_iload (pc := 1749) C 0 dL_law_1749 rfl ?_
        refine gl_iconst (w := (1)) (pc := 1751) C dL_law_1751 rfl ?_
        refine gl_iadd (pc := 1752) C dL_law_1752 ?_
        refine gl_sld (pc := 1753) C dL_law_1753 h1 ea1 ?_
        refine gl_callVi (pc := 1754) C [.int a1] dL_law_1754 ml_L_211 wy_X11_count (a_X11_count _ e1) (by decide) sh_0 (by decide) rfl rfl (Nat.le_of_ble_eq_true rfl) rfl (by omega) (by omega) ?_
        refine gl_aload_n (pc := 1757) C 2 dL_law_1757 rfl rfl ?_
        refine gl_aload_n (pc := 1758) C 4 dL_law_1758 rfl rfl ?_
        refine gl_iload (pc := 1759) C 0 dL_law_1759 rfl ?_
        refine gl_iconst (w := (1)) (pc := 1761) C dL_law_1761 rfl ?_
        refine gl_iadd (pc := 1762) C dL_law_1762 ?_
        refine gl_sld (pc := 1763) C dL_law_1763 h1 ea1 ?_
        refine gl_callVi (pc := 1764) C [.int a1] dL_law_1764 ml_L_214 wy_X12_count (a_X12_count _ e2) (by decide) sh_147 (by decide) rfl rfl (Nat.le_of_ble_eq_true rfl) rfl (by omega) (by omega) ?_
        refine gl_icmp_eq (pc := 1767) C 1772 dL_law_1767 rfl (fun _ => ?_) (fun c9 => absurd rfl c9)
        refine gl_iinc (v := nI (i + 6)) (ls' := [(4, .int (nI (i + 6))), (3, .ref 170), (2, .ref 147), (1, .ref 0), (0, .ref 2000)]) (pc := 1772) C 0 dL_law_1772 rfl (nI_add i 6) (by decide) rfl ?_
        refine gl_goto (pc := 1775) C 23 dL_law_1775 rfl ?_
        exact ih (i + 6) k z _ _ (by omega) (by omega) (by omega) (by omega) hI2
      refine gl_tabOut (pc := 40) C 1772 dL_law_40 (gs_swOut (vs := [0, 1, 2, 3, 4, 5, 6, 7, 8, 9, 10, 11, 12, 13, 14, 15, 16, 17, 18, 19, 20, 21, 22, 23, 24, 25, 26, 27, 28, 29, 30, 31, 32, 33, 34, 35, 36, 37, 38, 39, 40, 41, 42, 43, 44]) 0 45 (by decide) (List.forall_mem_cons.mpr ⟨c0, List.forall_mem_cons.mpr ⟨c1, List.forall_mem_cons.mpr ⟨c2, List.forall_mem_cons.mpr ⟨c3, List.forall_mem_cons.mpr ⟨c4, List.forall_mem_cons.mpr ⟨c5, List.forall_mem_cons.mpr ⟨c6, List.forall_mem_cons.mpr ⟨c7, List.forall_mem_cons.mpr ⟨c8, List.forall_mem_cons.mpr ⟨c9, List.forall_mem_cons.mpr ⟨c10, List.forall_mem_cons.mpr ⟨c11, List.forall_mem_cons.mpr ⟨c12, List.forall_mem_cons.mpr ⟨c13, List.forall_mem_cons.mpr ⟨c14, List.forall_mem_cons.mpr ⟨c15, List.forall_mem_cons.mpr ⟨c16, List.forall_mem_cons.mpr ⟨c17, List.forall_mem_cons.mpr ⟨c18, List.forall_mem_cons.mpr ⟨c19, List.forall_mem_cons.mpr ⟨c20, List.forall_mem_cons.mpr ⟨c21, List.forall_mem_cons.mpr ⟨c22, List.forall_mem_cons.mpr ⟨c23, List.forall_mem_cons.mpr ⟨c24, List.forall_mem_cons.mpr ⟨c25, List.forall_mem_cons.mpr ⟨c26, List.forall_mem_cons.mpr ⟨c27, List.forall_mem_cons.mpr ⟨c28, List.forall_mem_cons.mpr ⟨c29, List.forall_mem_cons.mpr ⟨c30, List.forall_mem_cons.mpr ⟨c31, List.forall_mem_cons.mpr ⟨c32, List.forall_mem_cons.mpr ⟨c33, List.forall_mem_cons.mpr ⟨c34, List.forall_mem_cons.mpr ⟨c35, List.forall_mem_cons.mpr ⟨c36, List.forall_mem_cons.mpr ⟨c37, List.forall_mem_cons.mpr ⟨c38, List.forall_mem_cons.mpr ⟨c39, List.forall_mem_cons.mpr ⟨c40, List.forall_mem_cons.mpr ⟨c41, List.forall_mem_cons.mpr ⟨c42, List.forall_mem_cons.mpr ⟨c43, List.forall_mem_cons.mpr ⟨c44, fun _ h => absurd h List.not_mem_nil⟩⟩⟩⟩⟩⟩⟩⟩⟩⟩⟩⟩⟩⟩⟩⟩⟩⟩⟩⟩⟩⟩⟩⟩⟩⟩⟩⟩⟩⟩⟩⟩⟩⟩⟩⟩⟩⟩⟩⟩⟩⟩⟩⟩⟩)) rfl ?_
      refine gl_iinc (v := nI (i + 6)) (ls' := [(4, .int (nI (i + 6))), (3, .ref 170), (2, .ref 147), (1, .ref 0), (0, .ref 2000)]) (pc := 1772) C 0 dL_law_1772 rfl (nI_add i 6) (by decide) rfl ?_
      refine gl_goto (pc := 1775) C 23 dL_law_1775 rfl ?_
      exact ih (i + 6) k z _ _ (by omega) (by omega) (by omega) (by omega) hI
