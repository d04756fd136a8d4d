theorem gc_wo1 : Cond.instanceMethod Lib.objectInit ∈ gs_W := gs_w1 32 rfl rfl
theorem gc_wo2 : Cond.code Lib.objectInit ⟨#[0xb1]⟩ 1 none ∈ gs_W := gs_w1 33 (by decide +kernel) rfl
def gs_Fc (own : String) (idx ci k : Nat) (ty : FieldType) : Prop := ∃ q : vw_C, vwCl[ci]? = some q ∧ k < q.2.2 ∧ (Cond.fieldLink own idx q.1 (q.2.1 k).2.1 (q.2.1 k).2.2.1 ∈ gs_W ∧ q.1 = own) ∧ (q.2.1 k).1 = q.1 ∧ parseFieldDescriptor (q.2.1 k).2.2.1 = some ty
theorem va_nd_of : ∀ l : List Nat, l.Nodup → va_nd l = true
  | [], _ => rfl
  | a :: l, h => by
    have h2 := List.nodup_cons.mp h
    simp [va_nd, h2.1, va_nd_of l h2.2]
theorem va_nd_range (n : Nat) : va_nd (List.range n) = true := va_nd_of _ List.nodup_range
theorem ml_X11_1 : Cond.methodLink RX11 1 Lib.objectInit ∈ gs_W := gs_w1 31 rfl rfl
theorem ml_X11_38 : Cond.methodLink RX11 38 yX0_init ∈ gs_W := gs_w1 85 rfl rfl
theorem ml_X11_59 : Cond.methodLink RX11 59 yX3_init ∈ gs_W := gs_w1 151 rfl rfl
theorem ml_X11_68 : Cond.methodLink RX11 68 yX4_init ∈ gs_W := gs_w1 164 rfl rfl
theorem ml_X11_77 : Cond.methodLink RX11 77 yX5_init ∈ gs_W := gs_w1 192 rfl rfl
theorem ml_X11_86 : Cond.methodLink RX11 86 yX1_init ∈ gs_W := gs_w1 217 rfl rfl
theorem ml_X11_95 : Cond.methodLink RX11 95 yX8_init ∈ gs_W := gs_w2 16 rfl rfl
theorem ml_X0_3 : Cond.methodLink RX0 3 Lib.objectInit ∈ gs_W := gs_w1 88 rfl rfl
theorem ml_X1_3 : Cond.methodLink RX1 3 Lib.objectInit ∈ gs_W := gs_w1 220 rfl rfl
theorem ml_X2_1 : Cond.methodLink RX2 1 Lib.objectInit ∈ gs_W := gs_w1 126 rfl rfl
theorem ml_X3_3 : Cond.methodLink RX3 3 Lib.objectInit ∈ gs_W := gs_w1 154 rfl rfl
theorem ml_X4_3 : Cond.methodLink RX4 3 Lib.objectInit ∈ gs_W := gs_w1 167 rfl rfl
theorem ml_X5_3 : Cond.methodLink RX5 3 Lib.objectInit ∈ gs_W := gs_w1 195 rfl rfl
theorem ml_X6_5 : Cond.methodLink RX6 5 Lib.objectInit ∈ gs_W := gs_w1 78 rfl rfl
theorem ml_X7_3 : Cond.methodLink RX7 3 Lib.objectInit ∈ gs_W := gs_w1 39 rfl rfl
theorem ml_X8_3 : Cond.methodLink RX8 3 Lib.objectInit ∈ gs_W := gs_w2 19 rfl rfl
theorem ml_X9_3 : Cond.methodLink RX9 3 Lib.objectInit ∈ gs_W := gs_w1 59 rfl rfl
theorem ml_X10_3 : Cond.methodLink RX10 3 Lib.objectInit ∈ gs_W := gs_w1 107 rfl rfl
theorem ml_L_15 : Cond.methodLink RL 15 yX11_init ∈ gs_W := gs_w1 28 rfl rfl
theorem ml_L_18 : Cond.methodLink RL 18 yX12_init ∈ gs_W := gs_w6 108 rfl rfl
theorem ml_X12_3 : Cond.methodLink RX12 3 Lib.objectInit ∈ gs_W := gs_w6 111 rfl rfl
theorem wy_X11_init : gs_Y yX11_init cX11_init 1 none 0 ∧ Cond.instanceMethod yX11_init ∈ gs_W := ⟨⟨gs_w1 30 rfl rfl, gs_w1 1 rfl rfl, by decide +kernel, by decide⟩, gs_w1 29 rfl rfl⟩
theorem wy_X0_init : gs_Y yX0_init cX0_init 2 none 0 ∧ Cond.instanceMethod yX0_init ∈ gs_W := ⟨⟨gs_w1 87 rfl rfl, gs_w1 5 rfl rfl, by decide +kernel, by decide⟩, gs_w1 86 rfl rfl⟩
theorem wy_X1_init : gs_Y yX1_init cX1_init 3 none 2 ∧ Cond.instanceMethod yX1_init ∈ gs_W := ⟨⟨gs_w1 219 rfl rfl, gs_w1 11 rfl rfl, by decide +kernel, by decide⟩, gs_w1 218 rfl rfl⟩
theorem wy_X2_init : gs_Y yX2_init cX2_init 1 none 0 ∧ Cond.instanceMethod yX2_init ∈ gs_W := ⟨⟨gs_w1 125 rfl rfl, gs_w1 7 rfl rfl, by decide +kernel, by decide⟩, gs_w1 124 rfl rfl⟩
theorem wy_X3_init : gs_Y yX3_init cX3_init 3 none 2 ∧ Cond.instanceMethod yX3_init ∈ gs_W := ⟨⟨gs_w1 153 rfl rfl, gs_w1 8 rfl rfl, by decide +kernel, by decide⟩, gs_w1 152 rfl rfl⟩
theorem wy_X4_init : gs_Y yX4_init cX4_init 4 none 2 ∧ Cond.instanceMethod yX4_init ∈ gs_W := ⟨⟨gs_w1 166 rfl rfl, gs_w1 9 rfl rfl, by decide +kernel, by decide⟩, gs_w1 165 rfl rfl⟩
theorem wy_X5_init : gs_Y yX5_init cX5_init 5 none 4 ∧ Cond.instanceMethod yX5_init ∈ gs_W := ⟨⟨gs_w1 194 rfl rfl, gs_w1 10 rfl rfl, by decide +kernel, by decide⟩, gs_w1 193 rfl rfl⟩
theorem wy_X6_init : gs_Y yX6_init cX6_init 1 none 0 ∧ Cond.instanceMethod yX6_init ∈ gs_W := ⟨⟨gs_w1 77 rfl rfl, gs_w1 4 rfl rfl, by decide +kernel, by decide⟩, gs_w1 76 rfl rfl⟩
theorem wy_X7_init : gs_Y yX7_init cX7_init 1 none 0 ∧ Cond.instanceMethod yX7_init ∈ gs_W := ⟨⟨gs_w1 38 rfl rfl, gs_w1 2 rfl rfl, by decide +kernel, by decide⟩, gs_w1 37 rfl rfl⟩
theorem wy_X8_init : gs_Y yX8_init cX8_init 4 none 3 ∧ Cond.instanceMethod yX8_init ∈ gs_W := ⟨⟨gs_w2 18 rfl rfl, gs_w1 12 rfl rfl, by decide +kernel, by decide⟩, gs_w2 17 rfl rfl⟩
theorem wy_X9_init : gs_Y yX9_init cX9_init 1 none 0 ∧ Cond.instanceMethod yX9_init ∈ gs_W := ⟨⟨gs_w1 58 rfl rfl, gs_w1 3 rfl rfl, by decide +kernel, by decide⟩, gs_w1 57 rfl rfl⟩
theorem wy_X10_init : gs_Y yX10_init cX10_init 1 none 0 ∧ Cond.instanceMethod yX10_init ∈ gs_W := ⟨⟨gs_w1 106 rfl rfl, gs_w1 6 rfl rfl, by decide +kernel, by decide⟩, gs_w1 105 rfl rfl⟩
theorem wy_X12_init : gs_Y yX12_init cX12_init 1 none 0 ∧ Cond.instanceMethod yX12_init ∈ gs_W := ⟨⟨gs_w6 110 rfl rfl, gs_w1 13 rfl rfl, by decide +kernel, by decide⟩, gs_w6 109 rfl rfl⟩
theorem cl_X11_7 : Cond.classLink RX11 7 RX7 ∈ gs_W := gs_w1 34 rfl rfl
theorem cl_X11_16 : Cond.classLink RX11 16 RX9 ∈ gs_W := gs_w1 54 rfl rfl
theorem cl_X11_26 : Cond.classLink RX11 26 RX6 ∈ gs_W := gs_w1 73 rfl rfl
theorem cl_X11_36 : Cond.classLink RX11 36 RX0 ∈ gs_W := gs_w1 83 rfl rfl
theorem cl_X11_43 : Cond.classLink RX11 43 RX10 ∈ gs_W := gs_w1 102 rfl rfl
theorem cl_X11_50 : Cond.classLink RX11 50 RX2 ∈ gs_W := gs_w1 121 rfl rfl
theorem cl_X11_57 : Cond.classLink RX11 57 RX3 ∈ gs_W := gs_w1 149 rfl rfl
theorem cl_X11_66 : Cond.classLink RX11 66 RX4 ∈ gs_W := gs_w1 162 rfl rfl
theorem cl_X11_75 : Cond.classLink RX11 75 RX5 ∈ gs_W := gs_w1 190 rfl rfl
theorem cl_X11_84 : Cond.classLink RX11 84 RX1 ∈ gs_W := gs_w1 215 rfl rfl
theorem cl_X11_93 : Cond.classLink RX11 93 RX8 ∈ gs_W := gs_w2 14 rfl rfl
theorem cl_X0_11 : Cond.classLink RX0 11 RX6 ∈ gs_W := gs_w1 89 rfl rfl
theorem cl_X4_9 : Cond.classLink RX4 9 RX2 ∈ gs_W := gs_w1 168 rfl rfl
theorem cl_L_8 : Cond.classLink RL 8 RX11 ∈ gs_W := gs_w1 26 rfl rfl
theorem cl_L_16 : Cond.classLink RL 16 RX12 ∈ gs_W := gs_w6 106 rfl rfl
theorem in_0 : Cond.instantiable RX0 3 ∈ gs_W := gs_w1 84 rfl rfl
theorem it_0 : Cond.initialized RX0 ∈ gs_W := gs_w1 5 rfl rfl
theorem uw_0 : ∀ w ∈ u_ws RX0 TX0 3, w ∈ gs_W := (gs_hin gk_0 rfl).1
def nv_0 : List Value := [.null, .int 0, .int 0]
theorem nv_0_ok : ∀ j, j < 3 → defaultValue (tyX0 j) = vp_V nv_0 j := by decide +kernel
theorem in_1 : Cond.instantiable RX1 10 ∈ gs_W := gs_w1 216 rfl rfl
theorem it_1 : Cond.initialized RX1 ∈ gs_W := gs_w1 11 rfl rfl
theorem uw_1 : ∀ w ∈ u_ws RX1 TX1 10, w ∈ gs_W := (gs_hin gk_1 rfl).1
def nv_1 : List Value := [.null, .null, .null, .null, .null, .null, .null, .int 0, .int 0, .int 0]
theorem nv_1_ok : ∀ j, j < 10 → defaultValue (tyX1 j) = vp_V nv_1 j := by decide +kernel
theorem in_2 : Cond.instantiable RX2 7 ∈ gs_W := gs_w1 122 rfl rfl
theorem it_2 : Cond.initialized RX2 ∈ gs_W := gs_w1 7 rfl rfl
theorem uw_2 : ∀ w ∈ u_ws RX2 TX2 7, w ∈ gs_W := (gs_hin gk_2 rfl).1
def nv_2 : List Value := [.null, .null, .null, .null, .null, .int 0, .int 0]
theorem nv_2_ok : ∀ j, j < 7 → defaultValue (tyX2 j) = vp_V nv_2 j := by decide +kernel
theorem in_3 : Cond.instantiable RX3 2 ∈ gs_W := gs_w1 150 rfl rfl
theorem it_3 : Cond.initialized RX3 ∈ gs_W := gs_w1 8 rfl rfl
theorem uw_3 : ∀ w ∈ u_ws RX3 TX3 2, w ∈ gs_W := (gs_hin gk_3 rfl).1
def nv_3 : List Value := [.null, .null]
theorem nv_3_ok : ∀ j, j < 2 → defaultValue (tyX3 j) = vp_V nv_3 j := by decide +kernel
theorem in_4 : Cond.instantiable RX4 6 ∈ gs_W := gs_w1 163 rfl rfl
theorem it_4 : Cond.initialized RX4 ∈ gs_W := gs_w1 9 rfl rfl
theorem uw_4 : ∀ w ∈ u_ws RX4 TX4 6, w ∈ gs_W := (gs_hin gk_4 rfl).1
def nv_4 : List Value := [.null, .null, .null, .null, .int 0, .int 0]
theorem nv_4_ok : ∀ j, j < 6 → defaultValue (tyX4 j) = vp_V nv_4 j := by decide +kernel
theorem in_5 : Cond.instantiable RX5 6 ∈ gs_W := gs_w1 191 rfl rfl
theorem it_5 : Cond.initialized RX5 ∈ gs_W := gs_w1 10 rfl rfl
theorem uw_5 : ∀ w ∈ u_ws RX5 TX5 6, w ∈ gs_W := (gs_hin gk_5 rfl).1
def nv_5 : List Value := [.null, .null, .null, .null, .null, .long 0]
theorem nv_5_ok : ∀ j, j < 6 → defaultValue (tyX5 j) = vp_V nv_5 j := by decide +kernel
theorem in_6 : Cond.instantiable RX6 1 ∈ gs_W := gs_w1 74 rfl rfl
theorem it_6 : Cond.initialized RX6 ∈ gs_W := gs_w1 4 rfl rfl
theorem uw_6 : ∀ w ∈ u_ws RX6 TX6 1, w ∈ gs_W := (gs_hin gk_6 rfl).1
def nv_6 : List Value := [.null]
theorem nv_6_ok : ∀ j, j < 1 → defaultValue (tyX6 j) = vp_V nv_6 j := by decide +kernel
theorem in_7 : Cond.instantiable RX7 4 ∈ gs_W := gs_w1 35 rfl rfl
theorem it_7 : Cond.initialized RX7 ∈ gs_W := gs_w1 2 rfl rfl
theorem uw_7 : ∀ w ∈ u_ws RX7 TX7 4, w ∈ gs_W := (gs_hin gk_7 rfl).1
def nv_7 : List Value := [.null, .int 0, .int 0, .int 0]
theorem nv_7_ok : ∀ j, j < 4 → defaultValue (tyX7 j) = vp_V nv_7 j := by decide +kernel
theorem in_8 : Cond.instantiable RX8 10 ∈ gs_W := gs_w2 15 rfl rfl
theorem it_8 : Cond.initialized RX8 ∈ gs_W := gs_w1 12 rfl rfl
theorem uw_8 : ∀ w ∈ u_ws RX8 TX8 10, w ∈ gs_W := (gs_hin gk_8 rfl).1
def nv_8 : List Value := [.null, .null, .null, .null, .null, .null, .null, .null, .int 0, .int 0]
theorem nv_8_ok : ∀ j, j < 10 → defaultValue (tyX8 j) = vp_V nv_8 j := by decide +kernel
theorem in_9 : Cond.instantiable RX9 4 ∈ gs_W := gs_w1 55 rfl rfl
theorem it_9 : Cond.initialized RX9 ∈ gs_W := gs_w1 3 rfl rfl
theorem uw_9 : ∀ w ∈ u_ws RX9 TX9 4, w ∈ gs_W := (gs_hin gk_9 rfl).1
def nv_9 : List Value := [.null, .null, .int 0, .int 0]
theorem nv_9_ok : ∀ j, j < 4 → defaultValue (tyX9 j) = vp_V nv_9 j := by decide +kernel
theorem in_10 : Cond.instantiable RX10 4 ∈ gs_W := gs_w1 103 rfl rfl
theorem it_10 : Cond.initialized RX10 ∈ gs_W := gs_w1 6 rfl rfl
theorem uw_10 : ∀ w ∈ u_ws RX10 TX10 4, w ∈ gs_W := (gs_hin gk_10 rfl).1
def nv_10 : List Value := [.null, .null, .int 0, .int 0]
theorem nv_10_ok : ∀ j, j < 4 → defaultValue (tyX10 j) = vp_V nv_10 j := by decide +kernel
theorem in_11 : Cond.instantiable RX11 16 ∈ gs_W := gs_w1 27 rfl rfl
theorem it_11 : Cond.initialized RX11 ∈ gs_W := gs_w1 1 rfl rfl
theorem uw_11 : ∀ w ∈ u_ws RX11 TX11 16, w ∈ gs_W := (gs_hin gk_11 rfl).1
def nv_11 : List Value := [.null, .null, .null, .null, .null, .null, .null, .null, .null, .null, .null, .null, .null, .null, .int 0, .int 0]
theorem nv_11_ok : ∀ j, j < 16 → defaultValue (tyX11 j) = vp_V nv_11 j := by decide +kernel
theorem in_12 : Cond.instantiable RX12 47 ∈ gs_W := gs_w6 107 rfl rfl
theorem it_12 : Cond.initialized RX12 ∈ gs_W := gs_w1 13 rfl rfl
theorem uw_12 : ∀ w ∈ u_ws RX12 TX12 47, w ∈ gs_W := (gs_hin gk_12 rfl).1
def nv_12 : List Value := [.int 0, .null, .null, .null, .null, .null, .int 0, .int 0, .int 0, .int 0, .int 0, .int 0, .int 0, .int 0, .int 0, .null, .null, .int 0, .null, .null, .null, .null, .null, .null, .int 0, .int 0, .int 0, .int 0, .null, .int 0, .int 0, .int 0, .long 0, .null, .null, .int 0, .null, .null, .null, .null, .int 0, .null, .null, .null, .null, .null, .int 0]
theorem nv_12_ok : ∀ j, j < 47 → defaultValue (tyX12 j) = vp_V nv_12 j := by decide +kernel
theorem ar_int : Cond.arrayClass .int ∈ gs_W := gs_w1 53 rfl rfl
theorem ar_long : Cond.arrayClass .long ∈ gs_W := gs_w2 13 rfl rfl
theorem ar_byte : Cond.arrayClass .byte ∈ gs_W := gs_w3 135 rfl rfl
theorem ar_boolean : Cond.arrayClass .boolean ∈ gs_W := gs_w2 12 rfl rfl
theorem fc_X11_10 : gs_Fc RX11 10 11 0 (.object "GuiltySleep$Tape") := ⟨(RX11, TX11, 16), rfl, by decide, ⟨gs_w2 51 rfl rfl, rfl⟩, rfl, by decide +kernel⟩
theorem fc_X11_19 : gs_Fc RX11 19 11 1 (.object "GuiltySleep$Town") := ⟨(RX11, TX11, 16), rfl, by decide, ⟨gs_w2 52 rfl rfl, rfl⟩, rfl, by decide +kernel⟩
theorem fc_X11_23 : gs_Fc RX11 23 11 2 (.object "GuiltySleep$Town") := ⟨(RX11, TX11, 16), rfl, by decide, ⟨gs_w2 53 rfl rfl, rfl⟩, rfl, by decide +kernel⟩
theorem fc_X11_29 : gs_Fc RX11 29 11 3 (.object "GuiltySleep$State") := ⟨(RX11, TX11, 16), rfl, by decide, ⟨gs_w2 54 rfl rfl, rfl⟩, rfl, by decide +kernel⟩
theorem fc_X11_33 : gs_Fc RX11 33 11 4 (.object "GuiltySleep$State") := ⟨(RX11, TX11, 16), rfl, by decide, ⟨gs_w2 55 rfl rfl, rfl⟩, rfl, by decide +kernel⟩
theorem fc_X11_39 : gs_Fc RX11 39 11 5 (.object "GuiltySleep$Acts") := ⟨(RX11, TX11, 16), rfl, by decide, ⟨gs_w2 56 rfl rfl, rfl⟩, rfl, by decide +kernel⟩
theorem fc_X11_46 : gs_Fc RX11 46 11 6 (.object "GuiltySleep$Watches") := ⟨(RX11, TX11, 16), rfl, by decide, ⟨gs_w2 57 rfl rfl, rfl⟩, rfl, by decide +kernel⟩
theorem fc_X11_53 : gs_Fc RX11 53 11 8 (.object "GuiltySleep$Law") := ⟨(RX11, TX11, 16), rfl, by decide, ⟨gs_w2 59 rfl rfl, rfl⟩, rfl, by decide +kernel⟩
theorem fc_X11_62 : gs_Fc RX11 62 11 7 (.object "GuiltySleep$LawReader") := ⟨(RX11, TX11, 16), rfl, by decide, ⟨gs_w2 58 rfl rfl, rfl⟩, rfl, by decide +kernel⟩
theorem fc_X11_71 : gs_Fc RX11 71 11 9 (.object "GuiltySleep$Mind") := ⟨(RX11, TX11, 16), rfl, by decide, ⟨gs_w2 60 rfl rfl, rfl⟩, rfl, by decide +kernel⟩
theorem fc_X11_80 : gs_Fc RX11 80 11 10 (.object "GuiltySleep$Nights") := ⟨(RX11, TX11, 16), rfl, by decide, ⟨gs_w2 61 rfl rfl, rfl⟩, rfl, by decide +kernel⟩
theorem fc_X11_89 : gs_Fc RX11 89 11 11 (.object "GuiltySleep$Lamps") := ⟨(RX11, TX11, 16), rfl, by decide, ⟨gs_w2 62 rfl rfl, rfl⟩, rfl, by decide +kernel⟩
theorem fc_X11_98 : gs_Fc RX11 98 11 12 (.object "GuiltySleep$Timetable") := ⟨(RX11, TX11, 16), rfl, by decide, ⟨gs_w2 63 rfl rfl, rfl⟩, rfl, by decide +kernel⟩
theorem fc_X11_102 : gs_Fc RX11 102 11 13 (.array .int) := ⟨(RX11, TX11, 16), rfl, by decide, ⟨gs_w2 64 rfl rfl, rfl⟩, rfl, by decide +kernel⟩
theorem fc_X11_106 : gs_Fc RX11 106 11 14 .boolean := ⟨(RX11, TX11, 16), rfl, by decide, ⟨gs_w2 65 rfl rfl, rfl⟩, rfl, by decide +kernel⟩
theorem fc_X11_110 : gs_Fc RX11 110 11 15 .int := ⟨(RX11, TX11, 16), rfl, by decide, ⟨gs_w2 66 rfl rfl, rfl⟩, rfl, by decide +kernel⟩
theorem fc_X0_13 : gs_Fc RX0 13 0 0 (.array (.object "GuiltySleep$State")) := ⟨(RX0, TX0, 3), rfl, by decide, ⟨gs_w1 92 rfl rfl, rfl⟩, rfl, by decide +kernel⟩
theorem fc_X0_18 : gs_Fc RX0 18 0 2 .int := ⟨(RX0, TX0, 3), rfl, by decide, ⟨gs_w1 94 rfl rfl, rfl⟩, rfl, by decide +kernel⟩
theorem fc_X0_22 : gs_Fc RX0 22 0 1 .int := ⟨(RX0, TX0, 3), rfl, by decide, ⟨gs_w1 93 rfl rfl, rfl⟩, rfl, by decide +kernel⟩
theorem fc_X1_11 : gs_Fc RX1 11 1 2 (.array .int) := ⟨(RX1, TX1, 10), rfl, by decide, ⟨gs_w1 223 rfl rfl, rfl⟩, rfl, by decide +kernel⟩
theorem fc_X1_15 : gs_Fc RX1 15 1 3 (.array .int) := ⟨(RX1, TX1, 10), rfl, by decide, ⟨gs_w1 224 rfl rfl, rfl⟩, rfl, by decide +kernel⟩
theorem fc_X1_18 : gs_Fc RX1 18 1 4 (.array .boolean) := ⟨(RX1, TX1, 10), rfl, by decide, ⟨gs_w1 225 rfl rfl, rfl⟩, rfl, by decide +kernel⟩
theorem fc_X1_22 : gs_Fc RX1 22 1 5 (.array .long) := ⟨(RX1, TX1, 10), rfl, by decide, ⟨gs_w1 226 rfl rfl, rfl⟩, rfl, by decide +kernel⟩
theorem fc_X1_26 : gs_Fc RX1 26 1 6 (.array .int) := ⟨(RX1, TX1, 10), rfl, by decide, ⟨gs_w1 227 rfl rfl, rfl⟩, rfl, by decide +kernel⟩
theorem fc_X1_29 : gs_Fc RX1 29 1 0 (.object "GuiltySleep$Town") := ⟨(RX1, TX1, 10), rfl, by decide, ⟨gs_w1 221 rfl rfl, rfl⟩, rfl, by decide +kernel⟩
theorem fc_X1_33 : gs_Fc RX1 33 1 1 (.object "GuiltySleep$Mind") := ⟨(RX1, TX1, 10), rfl, by decide, ⟨gs_w1 222 rfl rfl, rfl⟩, rfl, by decide +kernel⟩
theorem fc_X1_37 : gs_Fc RX1 37 1 7 .int := ⟨(RX1, TX1, 10), rfl, by decide, ⟨gs_w1 228 rfl rfl, rfl⟩, rfl, by decide +kernel⟩
theorem fc_X1_74 : gs_Fc RX1 74 1 8 .int := ⟨(RX1, TX1, 10), rfl, by decide, ⟨gs_w1 229 rfl rfl, rfl⟩, rfl, by decide +kernel⟩
theorem fc_X1_77 : gs_Fc RX1 77 1 9 .int := ⟨(RX1, TX1, 10), rfl, by decide, ⟨gs_w1 230 rfl rfl, rfl⟩, rfl, by decide +kernel⟩
theorem fc_X2_9 : gs_Fc RX2 9 2 0 (.array .int) := ⟨(RX2, TX2, 7), rfl, by decide, ⟨gs_w1 127 rfl rfl, rfl⟩, rfl, by decide +kernel⟩
theorem fc_X2_15 : gs_Fc RX2 15 2 1 (.array .int) := ⟨(RX2, TX2, 7), rfl, by decide, ⟨gs_w1 128 rfl rfl, rfl⟩, rfl, by decide +kernel⟩
theorem fc_X2_18 : gs_Fc RX2 18 2 2 (.array .int) := ⟨(RX2, TX2, 7), rfl, by decide, ⟨gs_w1 129 rfl rfl, rfl⟩, rfl, by decide +kernel⟩
theorem fc_X2_21 : gs_Fc RX2 21 2 3 (.array .int) := ⟨(RX2, TX2, 7), rfl, by decide, ⟨gs_w1 130 rfl rfl, rfl⟩, rfl, by decide +kernel⟩
theorem fc_X2_24 : gs_Fc RX2 24 2 4 (.array .int) := ⟨(RX2, TX2, 7), rfl, by decide, ⟨gs_w1 131 rfl rfl, rfl⟩, rfl, by decide +kernel⟩
theorem fc_X2_27 : gs_Fc RX2 27 2 5 .int := ⟨(RX2, TX2, 7), rfl, by decide, ⟨gs_w1 132 rfl rfl, rfl⟩, rfl, by decide +kernel⟩
theorem fc_X2_31 : gs_Fc RX2 31 2 6 .int := ⟨(RX2, TX2, 7), rfl, by decide, ⟨gs_w1 133 rfl rfl, rfl⟩, rfl, by decide +kernel⟩
theorem fc_X3_9 : gs_Fc RX3 9 3 0 (.object "GuiltySleep$Tape") := ⟨(RX3, TX3, 2), rfl, by decide, ⟨gs_w1 155 rfl rfl, rfl⟩, rfl, by decide +kernel⟩
theorem fc_X3_15 : gs_Fc RX3 15 3 1 (.object "GuiltySleep$Law") := ⟨(RX3, TX3, 2), rfl, by decide, ⟨gs_w1 156 rfl rfl, rfl⟩, rfl, by decide +kernel⟩
theorem fc_X4_11 : gs_Fc RX4 11 4 2 (.array (.object "GuiltySleep$Law")) := ⟨(RX4, TX4, 6), rfl, by decide, ⟨gs_w1 173 rfl rfl, rfl⟩, rfl, by decide +kernel⟩
theorem fc_X4_17 : gs_Fc RX4 17 4 3 (.array .int) := ⟨(RX4, TX4, 6), rfl, by decide, ⟨gs_w1 174 rfl rfl, rfl⟩, rfl, by decide +kernel⟩
theorem fc_X4_21 : gs_Fc RX4 21 4 5 .int := ⟨(RX4, TX4, 6), rfl, by decide, ⟨gs_w1 176 rfl rfl, rfl⟩, rfl, by decide +kernel⟩
theorem fc_X4_25 : gs_Fc RX4 25 4 0 (.object "GuiltySleep$Town") := ⟨(RX4, TX4, 6), rfl, by decide, ⟨gs_w1 171 rfl rfl, rfl⟩, rfl, by decide +kernel⟩
theorem fc_X4_29 : gs_Fc RX4 29 4 1 (.object "GuiltySleep$State") := ⟨(RX4, TX4, 6), rfl, by decide, ⟨gs_w1 172 rfl rfl, rfl⟩, rfl, by decide +kernel⟩
theorem fc_X4_34 : gs_Fc RX4 34 4 4 .int := ⟨(RX4, TX4, 6), rfl, by decide, ⟨gs_w1 175 rfl rfl, rfl⟩, rfl, by decide +kernel⟩
theorem fc_X5_9 : gs_Fc RX5 9 5 4 (.array .int) := ⟨(RX5, TX5, 6), rfl, by decide, ⟨gs_w1 200 rfl rfl, rfl⟩, rfl, by decide +kernel⟩
theorem fc_X5_15 : gs_Fc RX5 15 5 0 (.object "GuiltySleep$Town") := ⟨(RX5, TX5, 6), rfl, by decide, ⟨gs_w1 196 rfl rfl, rfl⟩, rfl, by decide +kernel⟩
theorem fc_X5_19 : gs_Fc RX5 19 5 1 (.object "GuiltySleep$State") := ⟨(RX5, TX5, 6), rfl, by decide, ⟨gs_w1 197 rfl rfl, rfl⟩, rfl, by decide +kernel⟩
theorem fc_X5_23 : gs_Fc RX5 23 5 2 (.object "GuiltySleep$Mind") := ⟨(RX5, TX5, 6), rfl, by decide, ⟨gs_w1 198 rfl rfl, rfl⟩, rfl, by decide +kernel⟩
theorem fc_X5_27 : gs_Fc RX5 27 5 3 (.object "GuiltySleep$Watches") := ⟨(RX5, TX5, 6), rfl, by decide, ⟨gs_w1 199 rfl rfl, rfl⟩, rfl, by decide +kernel⟩
theorem fc_X5_31 : gs_Fc RX5 31 5 5 .long := ⟨(RX5, TX5, 6), rfl, by decide, ⟨gs_w1 201 rfl rfl, rfl⟩, rfl, by decide +kernel⟩
theorem fc_X6_11 : gs_Fc RX6 11 6 0 (.array .int) := ⟨(RX6, TX6, 1), rfl, by decide, ⟨gs_w1 79 rfl rfl, rfl⟩, rfl, by decide +kernel⟩
theorem fc_X7_11 : gs_Fc RX7 11 7 0 (.array .int) := ⟨(RX7, TX7, 4), rfl, by decide, ⟨gs_w1 40 rfl rfl, rfl⟩, rfl, by decide +kernel⟩
theorem fc_X7_15 : gs_Fc RX7 15 7 1 .int := ⟨(RX7, TX7, 4), rfl, by decide, ⟨gs_w1 41 rfl rfl, rfl⟩, rfl, by decide +kernel⟩
theorem fc_X7_19 : gs_Fc RX7 19 7 2 .int := ⟨(RX7, TX7, 4), rfl, by decide, ⟨gs_w1 42 rfl rfl, rfl⟩, rfl, by decide +kernel⟩
theorem fc_X7_22 : gs_Fc RX7 22 7 3 .int := ⟨(RX7, TX7, 4), rfl, by decide, ⟨gs_w1 43 rfl rfl, rfl⟩, rfl, by decide +kernel⟩
theorem fc_X8_11 : gs_Fc RX8 11 8 3 (.array .int) := ⟨(RX8, TX8, 10), rfl, by decide, ⟨gs_w2 23 rfl rfl, rfl⟩, rfl, by decide +kernel⟩
theorem fc_X8_15 : gs_Fc RX8 15 8 4 (.array .int) := ⟨(RX8, TX8, 10), rfl, by decide, ⟨gs_w2 24 rfl rfl, rfl⟩, rfl, by decide +kernel⟩
theorem fc_X8_18 : gs_Fc RX8 18 8 5 (.array .int) := ⟨(RX8, TX8, 10), rfl, by decide, ⟨gs_w2 25 rfl rfl, rfl⟩, rfl, by decide +kernel⟩
theorem fc_X8_21 : gs_Fc RX8 21 8 6 (.array .int) := ⟨(RX8, TX8, 10), rfl, by decide, ⟨gs_w2 26 rfl rfl, rfl⟩, rfl, by decide +kernel⟩
theorem fc_X8_24 : gs_Fc RX8 24 8 7 (.array .int) := ⟨(RX8, TX8, 10), rfl, by decide, ⟨gs_w2 27 rfl rfl, rfl⟩, rfl, by decide +kernel⟩
theorem fc_X8_27 : gs_Fc RX8 27 8 9 .int := ⟨(RX8, TX8, 10), rfl, by decide, ⟨gs_w2 29 rfl rfl, rfl⟩, rfl, by decide +kernel⟩
theorem fc_X8_31 : gs_Fc RX8 31 8 0 (.object "GuiltySleep$Town") := ⟨(RX8, TX8, 10), rfl, by decide, ⟨gs_w2 20 rfl rfl, rfl⟩, rfl, by decide +kernel⟩
theorem fc_X8_35 : gs_Fc RX8 35 8 1 (.object "GuiltySleep$State") := ⟨(RX8, TX8, 10), rfl, by decide, ⟨gs_w2 21 rfl rfl, rfl⟩, rfl, by decide +kernel⟩
theorem fc_X8_39 : gs_Fc RX8 39 8 2 (.object "GuiltySleep$Mind") := ⟨(RX8, TX8, 10), rfl, by decide, ⟨gs_w2 22 rfl rfl, rfl⟩, rfl, by decide +kernel⟩
theorem fc_X8_51 : gs_Fc RX8 51 8 8 .int := ⟨(RX8, TX8, 10), rfl, by decide, ⟨gs_w2 28 rfl rfl, rfl⟩, rfl, by decide +kernel⟩
theorem fc_X9_11 : gs_Fc RX9 11 9 0 (.array .int) := ⟨(RX9, TX9, 4), rfl, by decide, ⟨gs_w1 60 rfl rfl, rfl⟩, rfl, by decide +kernel⟩
theorem fc_X9_15 : gs_Fc RX9 15 9 1 (.array .int) := ⟨(RX9, TX9, 4), rfl, by decide, ⟨gs_w1 61 rfl rfl, rfl⟩, rfl, by decide +kernel⟩
theorem fc_X9_18 : gs_Fc RX9 18 9 2 .int := ⟨(RX9, TX9, 4), rfl, by decide, ⟨gs_w1 62 rfl rfl, rfl⟩, rfl, by decide +kernel⟩
theorem fc_X9_33 : gs_Fc RX9 33 9 3 .boolean := ⟨(RX9, TX9, 4), rfl, by decide, ⟨gs_w1 63 rfl rfl, rfl⟩, rfl, by decide +kernel⟩
theorem fc_X10_9 : gs_Fc RX10 9 10 0 (.array .int) := ⟨(RX10, TX10, 4), rfl, by decide, ⟨gs_w1 108 rfl rfl, rfl⟩, rfl, by decide +kernel⟩
theorem fc_X10_15 : gs_Fc RX10 15 10 1 (.array .int) := ⟨(RX10, TX10, 4), rfl, by decide, ⟨gs_w1 109 rfl rfl, rfl⟩, rfl, by decide +kernel⟩
theorem fc_X10_18 : gs_Fc RX10 18 10 3 .int := ⟨(RX10, TX10, 4), rfl, by decide, ⟨gs_w1 111 rfl rfl, rfl⟩, rfl, by decide +kernel⟩
theorem fc_X10_22 : gs_Fc RX10 22 10 2 .int := ⟨(RX10, TX10, 4), rfl, by decide, ⟨gs_w1 110 rfl rfl, rfl⟩, rfl, by decide +kernel⟩
theorem fc_X12_9 : gs_Fc RX12 9 12 1 (.array .byte) := ⟨(RX12, TX12, 47), rfl, by decide, ⟨gs_w6 115 rfl rfl, rfl⟩, rfl, by decide +kernel⟩
theorem fc_X12_13 : gs_Fc RX12 13 12 2 (.array .byte) := ⟨(RX12, TX12, 47), rfl, by decide, ⟨gs_w6 116 rfl rfl, rfl⟩, rfl, by decide +kernel⟩
theorem fc_X12_16 : gs_Fc RX12 16 12 3 (.array .int) := ⟨(RX12, TX12, 47), rfl, by decide, ⟨gs_w6 117 rfl rfl, rfl⟩, rfl, by decide +kernel⟩
theorem fc_X12_20 : gs_Fc RX12 20 12 4 (.array .int) := ⟨(RX12, TX12, 47), rfl, by decide, ⟨gs_w6 118 rfl rfl, rfl⟩, rfl, by decide +kernel⟩
theorem fc_X12_23 : gs_Fc RX12 23 12 5 (.array .byte) := ⟨(RX12, TX12, 47), rfl, by decide, ⟨gs_w6 119 rfl rfl, rfl⟩, rfl, by decide +kernel⟩
theorem fc_X12_28 : gs_Fc RX12 28 12 15 (.object "java/lang/String") := ⟨(RX12, TX12, 47), rfl, by decide, ⟨gs_w6 129 rfl rfl, rfl⟩, rfl, by decide +kernel⟩
theorem fc_X12_34 : gs_Fc RX12 34 12 16 (.object "java/lang/String") := ⟨(RX12, TX12, 47), rfl, by decide, ⟨gs_w6 130 rfl rfl, rfl⟩, rfl, by decide +kernel⟩
theorem fc_X12_37 : gs_Fc RX12 37 12 18 (.array .int) := ⟨(RX12, TX12, 47), rfl, by decide, ⟨gs_w6 132 rfl rfl, rfl⟩, rfl, by decide +kernel⟩
theorem fc_X12_40 : gs_Fc RX12 40 12 19 (.array .int) := ⟨(RX12, TX12, 47), rfl, by decide, ⟨gs_w6 133 rfl rfl, rfl⟩, rfl, by decide +kernel⟩
theorem fc_X12_43 : gs_Fc RX12 43 12 20 (.array .int) := ⟨(RX12, TX12, 47), rfl, by decide, ⟨gs_w6 134 rfl rfl, rfl⟩, rfl, by decide +kernel⟩
theorem fc_X12_46 : gs_Fc RX12 46 12 21 (.array .int) := ⟨(RX12, TX12, 47), rfl, by decide, ⟨gs_w6 135 rfl rfl, rfl⟩, rfl, by decide +kernel⟩
theorem fc_X12_49 : gs_Fc RX12 49 12 22 (.array .int) := ⟨(RX12, TX12, 47), rfl, by decide, ⟨gs_w6 136 rfl rfl, rfl⟩, rfl, by decide +kernel⟩
theorem fc_X12_52 : gs_Fc RX12 52 12 23 (.array .int) := ⟨(RX12, TX12, 47), rfl, by decide, ⟨gs_w6 137 rfl rfl, rfl⟩, rfl, by decide +kernel⟩
theorem fc_X12_55 : gs_Fc RX12 55 12 28 (.array .int) := ⟨(RX12, TX12, 47), rfl, by decide, ⟨gs_w6 142 rfl rfl, rfl⟩, rfl, by decide +kernel⟩
theorem fc_X12_58 : gs_Fc RX12 58 12 29 .int := ⟨(RX12, TX12, 47), rfl, by decide, ⟨gs_w6 143 rfl rfl, rfl⟩, rfl, by decide +kernel⟩
theorem fc_X12_62 : gs_Fc RX12 62 12 30 .int := ⟨(RX12, TX12, 47), rfl, by decide, ⟨gs_w6 144 rfl rfl, rfl⟩, rfl, by decide +kernel⟩
theorem fc_X12_65 : gs_Fc RX12 65 12 33 (.array .int) := ⟨(RX12, TX12, 47), rfl, by decide, ⟨gs_w6 147 rfl rfl, rfl⟩, rfl, by decide +kernel⟩
theorem fc_X12_68 : gs_Fc RX12 68 12 34 (.array .int) := ⟨(RX12, TX12, 47), rfl, by decide, ⟨gs_w6 148 rfl rfl, rfl⟩, rfl, by decide +kernel⟩
theorem fc_X12_71 : gs_Fc RX12 71 12 36 (.array .long) := ⟨(RX12, TX12, 47), rfl, by decide, ⟨gs_w6 150 rfl rfl, rfl⟩, rfl, by decide +kernel⟩
theorem fc_X12_75 : gs_Fc RX12 75 12 37 (.array .int) := ⟨(RX12, TX12, 47), rfl, by decide, ⟨gs_w6 151 rfl rfl, rfl⟩, rfl, by decide +kernel⟩
theorem fc_X12_78 : gs_Fc RX12 78 12 38 (.array .int) := ⟨(RX12, TX12, 47), rfl, by decide, ⟨gs_w6 152 rfl rfl, rfl⟩, rfl, by decide +kernel⟩
theorem fc_X12_81 : gs_Fc RX12 81 12 39 (.array .boolean) := ⟨(RX12, TX12, 47), rfl, by decide, ⟨gs_w6 153 rfl rfl, rfl⟩, rfl, by decide +kernel⟩
theorem fc_X12_85 : gs_Fc RX12 85 12 41 (.array .int) := ⟨(RX12, TX12, 47), rfl, by decide, ⟨gs_w6 155 rfl rfl, rfl⟩, rfl, by decide +kernel⟩
theorem fc_X12_88 : gs_Fc RX12 88 12 42 (.array .int) := ⟨(RX12, TX12, 47), rfl, by decide, ⟨gs_w6 156 rfl rfl, rfl⟩, rfl, by decide +kernel⟩
theorem fc_X12_91 : gs_Fc RX12 91 12 43 (.array .int) := ⟨(RX12, TX12, 47), rfl, by decide, ⟨gs_w6 157 rfl rfl, rfl⟩, rfl, by decide +kernel⟩
theorem fc_X12_94 : gs_Fc RX12 94 12 44 (.array .int) := ⟨(RX12, TX12, 47), rfl, by decide, ⟨gs_w6 158 rfl rfl, rfl⟩, rfl, by decide +kernel⟩
theorem fc_X12_97 : gs_Fc RX12 97 12 45 (.array .int) := ⟨(RX12, TX12, 47), rfl, by decide, ⟨gs_w6 159 rfl rfl, rfl⟩, rfl, by decide +kernel⟩
theorem fc_X12_100 : gs_Fc RX12 100 12 0 .int := ⟨(RX12, TX12, 47), rfl, by decide, ⟨gs_w6 114 rfl rfl, rfl⟩, rfl, by decide +kernel⟩
theorem fc_X12_113 : gs_Fc RX12 113 12 6 .int := ⟨(RX12, TX12, 47), rfl, by decide, ⟨gs_w6 120 rfl rfl, rfl⟩, rfl, by decide +kernel⟩
theorem fc_X12_123 : gs_Fc RX12 123 12 10 .int := ⟨(RX12, TX12, 47), rfl, by decide, ⟨gs_w6 124 rfl rfl, rfl⟩, rfl, by decide +kernel⟩
theorem fc_X12_126 : gs_Fc RX12 126 12 9 .int := ⟨(RX12, TX12, 47), rfl, by decide, ⟨gs_w6 123 rfl rfl, rfl⟩, rfl, by decide +kernel⟩
theorem fc_X12_129 : gs_Fc RX12 129 12 8 .int := ⟨(RX12, TX12, 47), rfl, by decide, ⟨gs_w6 122 rfl rfl, rfl⟩, rfl, by decide +kernel⟩
theorem fc_X12_132 : gs_Fc RX12 132 12 11 .int := ⟨(RX12, TX12, 47), rfl, by decide, ⟨gs_w6 125 rfl rfl, rfl⟩, rfl, by decide +kernel⟩
theorem fc_X12_135 : gs_Fc RX12 135 12 12 .int := ⟨(RX12, TX12, 47), rfl, by decide, ⟨gs_w6 126 rfl rfl, rfl⟩, rfl, by decide +kernel⟩
theorem fc_X12_201 : gs_Fc RX12 201 12 17 .boolean := ⟨(RX12, TX12, 47), rfl, by decide, ⟨gs_w6 131 rfl rfl, rfl⟩, rfl, by decide +kernel⟩
theorem fc_X12_205 : gs_Fc RX12 205 12 13 .int := ⟨(RX12, TX12, 47), rfl, by decide, ⟨gs_w6 127 rfl rfl, rfl⟩, rfl, by decide +kernel⟩
theorem fc_X12_208 : gs_Fc RX12 208 12 14 .int := ⟨(RX12, TX12, 47), rfl, by decide, ⟨gs_w6 128 rfl rfl, rfl⟩, rfl, by decide +kernel⟩
theorem fc_X12_246 : gs_Fc RX12 246 12 27 .boolean := ⟨(RX12, TX12, 47), rfl, by decide, ⟨gs_w6 141 rfl rfl, rfl⟩, rfl, by decide +kernel⟩
theorem fc_X12_249 : gs_Fc RX12 249 12 25 .int := ⟨(RX12, TX12, 47), rfl, by decide, ⟨gs_w6 139 rfl rfl, rfl⟩, rfl, by decide +kernel⟩
theorem fc_X12_278 : gs_Fc RX12 278 12 7 .int := ⟨(RX12, TX12, 47), rfl, by decide, ⟨gs_w6 121 rfl rfl, rfl⟩, rfl, by decide +kernel⟩
theorem fc_X12_281 : gs_Fc RX12 281 12 26 .int := ⟨(RX12, TX12, 47), rfl, by decide, ⟨gs_w6 140 rfl rfl, rfl⟩, rfl, by decide +kernel⟩
theorem fc_X12_286 : gs_Fc RX12 286 12 24 .int := ⟨(RX12, TX12, 47), rfl, by decide, ⟨gs_w6 138 rfl rfl, rfl⟩, rfl, by decide +kernel⟩
theorem fc_X12_289 : gs_Fc RX12 289 12 40 .int := ⟨(RX12, TX12, 47), rfl, by decide, ⟨gs_w6 154 rfl rfl, rfl⟩, rfl, by decide +kernel⟩
theorem fc_X12_292 : gs_Fc RX12 292 12 35 .int := ⟨(RX12, TX12, 47), rfl, by decide, ⟨gs_w6 149 rfl rfl, rfl⟩, rfl, by decide +kernel⟩
theorem fc_X12_295 : gs_Fc RX12 295 12 46 .boolean := ⟨(RX12, TX12, 47), rfl, by decide, ⟨gs_w6 160 rfl rfl, rfl⟩, rfl, by decide +kernel⟩
theorem fc_X12_326 : gs_Fc RX12 326 12 32 .long := ⟨(RX12, TX12, 47), rfl, by decide, ⟨gs_w6 146 rfl rfl, rfl⟩, rfl, by decide +kernel⟩
theorem fc_X12_363 : gs_Fc RX12 363 12 31 .int := ⟨(RX12, TX12, 47), rfl, by decide, ⟨gs_w6 145 rfl rfl, rfl⟩, rfl, by decide +kernel⟩
/-! the constructors: a walk over worlds that grow -/
abbrev gc_X : Type := Program × Launch × Env × Room × State × MethodId × Array Value × List Frame × Method × Code × (State → Prop) × (Nat → Prop) × va_G × (Nat → ClassId) × Nat × Nat
def gc_nest : List (String × Nat × MethodName × String) := [(RX11, 9, yX7_init, "GuiltySleep"), (RX11, 18, yX9_init, "GuiltySleep"), (RX11, 28, yX6_init, "GuiltySleep"), (RX0, 17, yX6_init, "GuiltySleep"), (RX11, 45, yX10_init, "GuiltySleep"), (RX11, 52, yX2_init, "GuiltySleep"), (RX4, 33, yX2_init, "GuiltySleep")]
def gc_U (D : va_G) (dA : Nat → ClassId) (sa sb : Nat) (U : State) : Prop := va_K D vwCl (gs_tys dA) U ∧ (∀ q ∈ gc_nest, va_Nw (.methodLinkNest q.1 q.2.1 q.2.2.1 q.2.2.2) U) ∧ va_AO "GuiltySleep$State" U ∧ va_AO "GuiltySleep$Law" U ∧ vk_R "GuiltySleepModel" 26 "yv" sa U ∧ vk_R "GuiltySleepModel" 32 "gcwtha" sb U
theorem gc_U.warm {D : va_G} {dA : Nat → ClassId} {sa sb : Nat} {s U : State} (hW : s.WarmedH U.vm) (h : gc_U D dA sa sb s) : gc_U D dA sa sb U :=
  ⟨va_K.moved hW.alike h.1, fun q hq => va_Nw.warmM hW (h.2.1 q hq), va_AO.moved hW.alike h.2.2.1, va_AO.moved hW.alike h.2.2.2.1, vk_R.warm hW h.2.2.2.2.1, vk_R.warm hW h.2.2.2.2.2⟩
theorem gc_U.same {D : va_G} {dA : Nat → ClassId} {sa sb : Nat} {s U : State} (hv : s.vm = U.vm) (h : gc_U D dA sa sb s) : gc_U D dA sa sb U :=
  ⟨va_K.moved (by rw [hv]; exact Vm.Alike.refl _) h.1, fun q hq => va_Nw.same rfl hv (h.2.1 q hq), va_AO.moved (by rw [hv]; exact Vm.Alike.refl _) h.2.2.1, va_AO.moved (by rw [hv]; exact Vm.Alike.refl _) h.2.2.2.1, vk_R.same hv.symm h.2.2.2.2.1, vk_R.same hv.symm h.2.2.2.2.2⟩
def gc_room (n mc ms : Nat) : Room := { frames := n + 1, cells := mc, slots := ms, locals := 80 * (n + 1) }
def gc_AW (X : gc_X) (k z : Nat) (pc : Nat) (ls : List (Nat × Value)) (st : List Value) (ws : va_W) : Prop :=
  match X with
  | (p, l, e, R, s, m, args, below, meth, c, Q, A, D, dA, sa, sb) => ∀ (H : Heap) (locs : List Loc) (la : Array Slot), lv_has la c.maxLocals ls → va_P D vwCl ws H → va_D A ws → va_S A s.heap H locs → W p l e R s m args below meth c H locs k z Q (F0 m pc la st)
def gc_C (X : gc_X) (own : String) (cc : ByteArray) (nL : Nat) (n mc ms : Nat) : Prop :=
  match X with
  | (p, l, e, R, s, m, args, below, meth, c, Q, A, D, dA, sa, sb) => p.tables.exec = Jvm.exec ∧ c.code = cc ∧ c.maxLocals = nL ∧ s.vm.findClass own = some m.cls ∧ (∀ w ∈ gs_W, w.before args s = true) ∧ gc_U D dA sa sb s ∧ (∀ q : Nat, s.heap.size ≤ q → A q) ∧ meth.name = "<init>" ∧ meth.sig.returnType = none ∧ meth.locks = false ∧ R = gc_room n mc ms
def gc_Qc (D : va_G) (dA : Nat → ClassId) (A : Nat → Prop) (ws1 : (Nat → ClassId) → (Nat → Nat) → va_W) : Array Value → State → Outcome → State → Prop := fun _ st oc t => oc = .returned none ∧ (∃ f : Nat → Nat, va_P D vwCl (ws1 dA f) t.heap ∧ va_D A (ws1 dA f)) ∧ va_F A st t
def gc_Met (l : Launch) (n : Nat) (y : MethodName) (cb : ByteArray) (mL : Nat) (av : Nat → Nat → List Value) (wc : va_W) (ws1 : Nat → Nat → (Nat → ClassId) → (Nat → Nat) → va_W) (mc ms : Nat) : Prop :=
  ∀ (D : va_G) (dA : Nat → ClassId) (sa sb sz : Nat), Met l y (Cond.code y cb mL none :: gs_W) (gc_room n mc ms) (va_Pc (av sa sb) (fun U => U.heap.size = sz ∧ va_P D vwCl wc U.heap ∧ gc_U D dA sa sb U ∧ va_D (fun _ => True) wc)) (gc_Qc D dA (va_A wc sz) (ws1 sa sb)) mc ms (va_A wc sz)
def gc_E (X : gc_X) (wc : va_W) (ws1 : Nat → Nat → (Nat → ClassId) → (Nat → Nat) → va_W) (mc ms : Nat) : Prop :=
  match X with
  | (p, l, e, R, s, m, args, below, meth, c, Q, A, D, dA, sa, sb) => A = va_A wc s.heap.size ∧ Q = MQ below (gc_Qc D dA A (ws1 sa sb)) args s mc ms A
abbrev gc_dA (X : gc_X) : Nat → ClassId := X.2.2.2.2.2.2.2.2.2.2.2.2.2.1
abbrev gc_sa (X : gc_X) : Nat := X.2.2.2.2.2.2.2.2.2.2.2.2.2.2.1
abbrev gc_sb (X : gc_X) : Nat := X.2.2.2.2.2.2.2.2.2.2.2.2.2.2.2
theorem gc_of {l : Launch} {n : Nat} {y : MethodName} {cb : ByteArray} {mL : Nat} {av : List Value} {wc : va_W} {ws1 : Nat → Nat → (Nat → ClassId) → (Nat → Nat) → va_W} {mc ms : Nat} (own : String) (hy : plainName y.cls = true) (hown : y.cls = own) (hnm : y.name = "<init>") (hlen : (lg_sl av).length ≤ mL)
    (body : ∀ X : gc_X, gc_C X own cb mL n mc ms → gc_E X wc ws1 mc ms → gc_AW X 0 0 0 (lv_args 0 av) [] wc) : gc_Met l n y cb mL (fun _ _ => av) wc ws1 mc ms := by
  intro D dA sa sb sz
  refine Met.ofW (cc := cb) (maxL := mL) (ret := none) hy rfl ?_
  intro p e s m args below meth c s₁ B hml hv
  obtain ⟨rfl, rfl, hP, hU, hD0⟩ := hv
  have hts := atoms_spec (ws := Cond.code y cb mL none :: gs_W) B.pre
  have hfc : s.vm.findClass own = some m.cls := by rw [← hown]; exact findClass_of_methodNamed B.named
  have hin : meth.name = "<init>" := by rw [← hnm]; exact (name_of_methodNamed B.named B.method).1
  have hl := lv_entry av (n := mL) hlen
  rw [lg_entry_eq]
  exact body (p, l, e, gc_room n mc ms, s, m, av.toArray, below, meth, c, _, va_A wc s.heap.size, D, dA, sa, sb) ⟨B.exec, B.bytes, hml, hfc, fun w hw => hts w (List.mem_cons_of_mem _ hw), hU, fun q h => Or.inr h, hin, B.returns, B.notSynchronized, rfl⟩ ⟨rfl, rfl⟩ s.heap [] _ (by rw [hml]; exact hl) hP (hD0.self (sz := s.heap.size)) va_S.rf
section CRows
variable {X : gc_X} {own : String} {cc : ByteArray} {nL n mc ms k z : Nat} {ls ls' : List (Nat × Value)} {st : List Value} {ws : va_W}
theorem gc_iconst (C : gc_C X own cc nL n mc ms) {pc : Nat} {v : Int} {w : Int32} (hd : decode cc pc = .ok (.iconst v, 1)) (hv : Int32.ofInt v = w) (kk : gc_AW X k z (pc + 1) ls (.int w :: st) ws) : gc_AW X k z pc ls st ws := by
  obtain ⟨p, l, e, R, s, m, args, below, meth, c, Q, A, D, dA, sa, sb⟩ := X
  obtain ⟨hx, hb, hml, hown, hts, hU, hA, hnm, hr, hlk, hR⟩ := C
  intro H locs la hl hP hD hS
  exact lv_iconst hx hb hd hv (kk H locs la hl hP hD hS)
theorem gc_bipush (C : gc_C X own cc nL n mc ms) {pc : Nat} {v : Int} {w : Int32} (hd : decode cc pc = .ok (.bipush v, 2)) (hv : (Int8.ofInt v).toInt32 = w) (kk : gc_AW X k z (pc + 2) ls (.int w :: st) ws) : gc_AW X k z pc ls st ws := by
  obtain ⟨p, l, e, R, s, m, args, below, meth, c, Q, A, D, dA, sa, sb⟩ := X
  obtain ⟨hx, hb, hml, hown, hts, hU, hA, hnm, hr, hlk, hR⟩ := C
  intro H locs la hl hP hD hS
  exact lv_bipush hx hb hd hv (kk H locs la hl hP hD hS)
theorem gc_sipush (C : gc_C X own cc nL n mc ms) {pc : Nat} {v : Int} {w : Int32} (hd : decode cc pc = .ok (.sipush v, 3)) (hv : (Int16.ofInt v).toInt32 = w) (kk : gc_AW X k z (pc + 3) ls (.int w :: st) ws) : gc_AW X k z pc ls st ws := by
  obtain ⟨p, l, e, R, s, m, args, below, meth, c, Q, A, D, dA, sa, sb⟩ := X
  obtain ⟨hx, hb, hml, hown, hts, hU, hA, hnm, hr, hlk, hR⟩ := C
  intro H locs la hl hP hD hS
  exact lv_sipush hx hb hd hv (kk H locs la hl hP hD hS)
theorem gc_iload_n (C : gc_C X own cc nL n mc ms) {pc : Nat} {i : Fin 4} {j : Nat} (q : Nat) {x : Int32} (hd : decode cc pc = .ok (.iload_n i, 1)) (hi : (i : Nat) = j) (hq : ls[q]? = some (j, .int x)) (kk : gc_AW X k z (pc + 1) ls (.int x :: st) ws) : gc_AW X k z pc ls st ws := by
  obtain ⟨p, l, e, R, s, m, args, below, meth, c, Q, A, D, dA, sa, sb⟩ := X
  obtain ⟨hx, hb, hml, hown, hts, hU, hA, hnm, hr, hlk, hR⟩ := C
  intro H locs la hl hP hD hS
  exact lv_iload_n hx hb hd hi (lv_at hl q hq) (kk H locs la hl hP hD hS)
theorem gc_aload_n (C : gc_C X own cc nL n mc ms) {pc : Nat} {i : Fin 4} {j : Nat} (q : Nat) {x : Nat} (hd : decode cc pc = .ok (.aload_n i, 1)) (hi : (i : Nat) = j) (hq : ls[q]? = some (j, .ref x)) (kk : gc_AW X k z (pc + 1) ls (.ref x :: st) ws) : gc_AW X k z pc ls st ws := by
  obtain ⟨p, l, e, R, s, m, args, below, meth, c, Q, A, D, dA, sa, sb⟩ := X
  obtain ⟨hx, hb, hml, hown, hts, hU, hA, hnm, hr, hlk, hR⟩ := C
  intro H locs la hl hP hD hS
  exact lv_aload_n hx hb hd hi (lv_at hl q hq) (kk H locs la hl hP hD hS)
theorem gc_aload (C : gc_C X own cc nL n mc ms) {pc : Nat} {j : Nat} (q : Nat) {x : Nat} (hd : decode cc pc = .ok (.aload j, 2)) (hq : ls[q]? = some (j, .ref x)) (kk : gc_AW X k z (pc + 2) ls (.ref x :: st) ws) : gc_AW X k z pc ls st ws := by
  obtain ⟨p, l, e, R, s, m, args, below, meth, c, Q, A, D, dA, sa, sb⟩ := X
  obtain ⟨hx, hb, hml, hown, hts, hU, hA, hnm, hr, hlk, hR⟩ := C
  intro H locs la hl hP hD hS
  exact lv_aload hx hb hd (lv_at hl q hq) (kk H locs la hl hP hD hS)
theorem gc_istore_n (C : gc_C X own cc nL n mc ms) {pc : Nat} {i : Fin 4} {j : Nat} {x : Int32} (hd : decode cc pc = .ok (.istore_n i, 1)) (hi : (i : Nat) = j) (hj : j < nL) (h : (j, Value.int x) :: ls.filter (fun q => !(q.1 == j) && !(q.1 + 1 == j && q.2.category == 2)) = ls') (kk : gc_AW X k z (pc + 1) ls' st ws) : gc_AW X k z pc ls (.int x :: st) ws := by
  obtain ⟨p, l, e, R, s, m, args, below, meth, c, Q, A, D, dA, sa, sb⟩ := X
  obtain ⟨hx, hb, hml, hown, hts, hU, hA, hnm, hr, hlk, hR⟩ := C
  intro H locs la hl hP hD hS
  exact lv_istore_n hx hb hd hi hl (by rw [hml]; exact hj) h (fun la hl => kk H locs la hl hP hD hS)
theorem gc_iinc (C : gc_C X own cc nL n mc ms) {pc : Nat} {j : Nat} {y : Int} (q : Nat) {x v : Int32} (hd : decode cc pc = .ok (.iinc j y, 3)) (hq : ls[q]? = some (j, .int x)) (hv : x + Int32.ofInt y = v) (hj : j < nL) (h : (j, Value.int v) :: ls.filter (fun q => !(q.1 == j) && !(q.1 + 1 == j && q.2.category == 2)) = ls') (kk : gc_AW X k z (pc + 3) ls' st ws) : gc_AW X k z pc ls st ws := by
  obtain ⟨p, l, e, R, s, m, args, below, meth, c, Q, A, D, dA, sa, sb⟩ := X
  obtain ⟨hx, hb, hml, hown, hts, hU, hA, hnm, hr, hlk, hR⟩ := C
  intro H locs la hl hP hD hS
  exact lv_iinc (k := q) hx hb hd hl hq hv (by rw [hml]; exact hj) h (fun la hl => kk H locs la hl hP hD hS)
theorem gc_dup (C : gc_C X own cc nL n mc ms) {pc : Nat} {v : Value} (hd : decode cc pc = .ok (.dup, 1)) (hv : v.category = 1) (kk : gc_AW X k z (pc + 1) ls (v :: v :: st) ws) : gc_AW X k z pc ls (v :: st) ws := by
  obtain ⟨p, l, e, R, s, m, args, below, meth, c, Q, A, D, dA, sa, sb⟩ := X
  obtain ⟨hx, hb, hml, hown, hts, hU, hA, hnm, hr, hlk, hR⟩ := C
  intro H locs la hl hP hD hS
  exact lv_dup hx hb hd hv (kk H locs la hl hP hD hS)
theorem gc_goto (C : gc_C X own cc nL n mc ms) {pc : Nat} {y : Int} (t : Nat) (hd : decode cc pc = .ok (.goto y, 3)) (ht : (pc : Int) + y = (t : Int)) (kk : gc_AW X k z t ls st ws) : gc_AW X k z pc ls st ws := by
  obtain ⟨p, l, e, R, s, m, args, below, meth, c, Q, A, D, dA, sa, sb⟩ := X
  obtain ⟨hx, hb, hml, hown, hts, hU, hA, hnm, hr, hlk, hR⟩ := C
  intro H locs la hl hP hD hS
  exact lv_goto hx hb hd ht (kk H locs la hl hP hD hS)
theorem gc_ge (C : gc_C X own cc nL n mc ms) {pc : Nat} {z9 : Int} {x y : Int32} (t : Nat) (hd : decode cc pc = .ok (.if_icmp .ge z9, 3)) (ht : (pc : Int) + z9 = (t : Int)) (kt : y ≤ x → gc_AW X k z t ls st ws) (kf : ¬ (y ≤ x) → gc_AW X k z (pc + 3) ls st ws) : gc_AW X k z pc ls (.int y :: .int x :: st) ws := by
  obtain ⟨p, l, e, R, s, m, args, below, meth, c, Q, A, D, dA, sa, sb⟩ := X
  obtain ⟨hx, hb, hml, hown, hts, hU, hA, hnm, hr, hlk, hR⟩ := C
  intro H locs la hl hP hD hS
  exact lv_icmp_ge hx hb hd ht (fun h => kt h H locs la hl hP hD hS) (fun h => kf h H locs la hl hP hD hS)
theorem gc_ldcA (C : gc_C X own cc nL n mc ms) {pc : Nat} (ho : own = "GuiltySleepModel") (hd : decode cc pc = .ok (.ldc 26, 2)) (kk : gc_AW X k z (pc + 2) ls (.ref (gc_sa X) :: st) ws) : gc_AW X k z pc ls st ws := by
  obtain ⟨p, l, e, R, s, m, args, below, meth, c, Q, A, D, dA, sa, sb⟩ := X
  obtain ⟨hx, hb, hml, hown, hts, hU, hA, hnm, hr, hlk, hR⟩ := C
  intro H locs la hl hP hD hS
  exact va_ldcS hx hb (by rw [ho] at hown; exact hown) hU.2.2.2.2.1 hd (kk H locs la hl hP hD hS)
theorem gc_ldcB (C : gc_C X own cc nL n mc ms) {pc : Nat} (ho : own = "GuiltySleepModel") (hd : decode cc pc = .ok (.ldc 32, 2)) (kk : gc_AW X k z (pc + 2) ls (.ref (gc_sb X) :: st) ws) : gc_AW X k z pc ls st ws := by
  obtain ⟨p, l, e, R, s, m, args, below, meth, c, Q, A, D, dA, sa, sb⟩ := X
  obtain ⟨hx, hb, hml, hown, hts, hU, hA, hnm, hr, hlk, hR⟩ := C
  intro H locs la hl hP hD hS
  exact va_ldcS hx hb (by rw [ho] at hown; exact hown) hU.2.2.2.2.2 hd (kk H locs la hl hP hD hS)
theorem gc_obj (C : gc_C X own cc nL n mc ms) {pc i a : Nat} (hd : decode cc pc = .ok (.invokespecial i, 3)) (hm : Cond.methodLink own i Lib.objectInit ∈ gs_W) (hst : (st.map fun v => v.category).sum ≤ 8) (kk : gc_AW X k z (pc + 3) ls st ws) : gc_AW X k z pc ls (.ref a :: st) ws := by
  obtain ⟨p, l, e, R, s, m, args, below, meth, c, Q, A, D, dA, sa, sb⟩ := X
  obtain ⟨hx, hb, hml, hown, hts, hU, hA, hnm, hr, hlk, hR⟩ := C
  intro H locs la hl hP hD hS
  subst hR
  refine W.objInit hx hb hown (hts _ hm) (hts _ gc_wo1) (hts _ gc_wo2) rfl hl.1 rfl hd ?_ ?_ (kk H locs la hl hP hD hS)
  · show 1 ≤ n + 1
    omega
  · show 2 * 0 + _ + 12 ≤ 80 * (n + 1)
    omega
theorem gc_ret (C : gc_C X own cc nL n mc ms) {pc : Nat} {wc : va_W} {ws1 : Nat → Nat → (Nat → ClassId) → (Nat → Nat) → va_W} (f : Nat → Nat) (hd : decode cc pc = .ok (.return_, 1)) (E : gc_E X wc ws1 mc ms) (hk : k ≤ mc) (hz : z ≤ ms) (hw : ws1 (gc_sa X) (gc_sb X) (gc_dA X) f = ws) : gc_AW X k z pc ls [] ws := by
  obtain ⟨p, l, e, R, s, m, args, below, meth, c, Q, A, D, dA, sa, sb⟩ := X
  obtain ⟨hx, hb, hml, hown, hts, hU, hA, hnm, hr, hlk, hR⟩ := C
  intro H locs la hl hP hD hS
  obtain ⟨hAe, hQ⟩ := E
  subst hQ
  subst hw
  exact W.widen hk hz (W.vret hx hb hr (fun t ht _ => ⟨rfl, ⟨f, by rw [ht]; exact hP, hD⟩, hS.F ht⟩) hS.2.2 hd hlk)

theorem gc_new (C : gc_C X own cc nL n mc ms) {pc i ci N : Nat} {Cn : String} {T : u_T} {fs : List Value} (ty : Nat → FieldType) (hty : ∀ k, k < N → parseFieldDescriptor (T k).2.2.1 = some (ty k)) (hd : decode cc pc = .ok (.new i, 3)) (hc : vwCl[ci]? = some (Cn, T, N)) (hw : ∀ w ∈ u_ws Cn T N, w ∈ gs_W) (h1 : Cond.classLink own i Cn ∈ gs_W) (h2 : Cond.instantiable Cn N ∈ gs_W) (h3 : Cond.initialized Cn ∈ gs_W) (hfs : ∀ j, j < N → defaultValue (ty j) = vp_V fs j) (hk : k + 1 ≤ mc) (hz : z + N ≤ ms)
    (kk : ∀ q : Nat, gc_AW X (k + 1) (z + N) (pc + 3) ls (.ref q :: st) (ws ++ [(q, .inr (ci, fs))])) : gc_AW X k z pc ls st ws := by
  obtain ⟨p, l, e, R, s, m, args, below, meth, c, Q, A, D, dA, sa, sb⟩ := X
  obtain ⟨hx, hb, hml, hown, hts, hU, hA, hnm, hr, hlk, hR⟩ := C
  intro H locs la hl hP hD hS
  subst hR
  exact va_new hx hb hts hw ty hty hown (hts _ h1) (hts _ h2) (hts _ h3) hU.1 hP hD hS hA hc hfs hk hz hd (fun q H1 hP1 hD1 hS1 => kk q H1 locs la hl hP1 hD1 hS1)
theorem gc_newa (C : gc_C X own cc nL n mc ms) {pc N t : Nat} {w : Int32} {atype : ArrayType} {ty : FieldType} {a0 : (Nat → Int32) ⊕ (Nat → Int64) ⊕ (Nat → UInt32) ⊕ (Nat → UInt64) ⊕ (Nat → Option Nat)} (hty : newarray.typeOf atype = ty) (ht : ∀ dA, (gs_tys dA)[t]? = some (dA t, ty)) (hra : ∀ (U : State) (c : ClassId), va_RA U c ty → U.vm.findClass ("[" ++ ty.toString) = some c) (ha : ∀ cA : ClassId, vp_cell cA (N, a0) = arrV cA N (fun _ => defaultValue ty)) (hd : decode cc pc = .ok (.newarray atype, 2)) (harr : Cond.arrayClass ty ∈ gs_W) (hn : ¬ w < 0) (hN : w.toNatClampNeg = N) (hb9 : N * componentBytes ty ≤ 536870912) (hk : k + 1 ≤ mc) (hz : z + N ≤ ms)
    (kk : ∀ q : Nat, gc_AW X (k + 1) (z + N) (pc + 2) ls (.ref q :: st) (ws ++ [(q, .inl (gc_dA X t, N, a0))])) : gc_AW X k z pc ls (.int w :: st) ws := by
  obtain ⟨p, l, e, R, s, m, args, below, meth, c, Q, A, D, dA, sa, sb⟩ := X
  obtain ⟨hx, hb, hml, hown, hts, hU, hA, hnm, hr, hlk, hR⟩ := C
  intro H locs la hl hP hD hS
  subst hR
  subst hty
  refine va_newa (tys := gs_tys dA) (a0 := (N, a0)) hx hb (hts _ harr) rfl hU.1 hP hD hS hA ha hn hN hb9 hk hz hd (fun q cA H1 hK1 hP1 hD1 hS1 => ?_)
  have e1 : cA = dA t := by
    have g1 := hra _ _ (hK1.2 6 (cA, _) rfl).2
    have g2 := hra _ _ (hU.1.2 t _ (ht dA)).2
    rw [g1] at g2
    exact Option.some.inj g2
  subst e1
  exact kk q H1 locs la hl hP1 hD1 hS1
theorem gc_newq (C : gc_C X own cc nL n mc ms) {pc i N t : Nat} {w : Int32} {Cn : String} (ht : (t = 4 ∧ Cn = "GuiltySleep$State") ∨ (t = 5 ∧ Cn = "GuiltySleep$Law")) (hd : decode cc pc = .ok (.anewarray i, 3)) (h1 : Cond.classLink own i Cn ∈ gs_W) (hn : ¬ w < 0) (hN : w.toNatClampNeg = N) (hb9 : N * 4 ≤ 536870912) (hk : k + 1 ≤ mc) (hz : z + N ≤ ms)
    (kk : ∀ q : Nat, gc_AW X (k + 1) (z + N) (pc + 3) ls (.ref q :: st) (ws ++ [(q, .inl (gc_dA X t, N, .inr (.inr (.inr (.inr (fun _ => none))))))])) : gc_AW X k z pc ls (.int w :: st) ws := by
  obtain ⟨p, l, e, R, s, m, args, below, meth, c, Q, A, D, dA, sa, sb⟩ := X
  obtain ⟨hx, hb, hml, hown, hts, hU, hA, hnm, hr, hlk, hR⟩ := C
  intro H locs la hl hP hD hS
  subst hR
  have hao : va_AO Cn s := by
    rcases ht with ⟨-, rfl⟩ | ⟨-, rfl⟩
    · exact hU.2.2.1
    · exact hU.2.2.2.1
  have htt : (gs_tys dA)[t]? = some (dA t, .object Cn) := by
    rcases ht with ⟨rfl, rfl⟩ | ⟨rfl, rfl⟩ <;> rfl
  refine va_newq (tys := gs_tys dA) hx hb hown (hts _ h1) hao hU.1 hP hD hS hA hn hN hb9 hk hz hd (fun q cA H1 hK1 hP1 hD1 hS1 => ?_)
  have e1 : cA = dA t := by
    obtain ⟨_, _, _, _, _, g1⟩ := (hK1.2 6 (cA, _) rfl).2
    obtain ⟨_, _, _, _, _, g2⟩ := (hU.1.2 t _ htt).2
    rw [g1] at g2
    exact Option.some.inj g2
  subst e1
  exact kk q H1 locs la hl hP1 hD1 hS1
theorem gc_put (C : gc_C X own cc nL n mc ms) {pc i ci a : Nat} {fs : List Value} {ty : FieldType} {v : Value} (hK9 : gs_K ci) (q0 kf : Nat) (hd : decode cc pc = .ok (.putfield i, 3)) (he : ws[q0]? = some (a, .inr (ci, fs))) (hf : gs_Fc own i ci kf ty) (hn : narrow ty v = v) (hfit : fits ty v = true) (hl9 : kf < fs.length) (kk : gc_AW X k z (pc + 3) ls st (ws.set q0 (a, .inr (ci, fs.set kf v)))) : gc_AW X k z pc ls (v :: .ref a :: st) ws := by
  obtain ⟨p, l, e, R, s, m, args, below, meth, c, Q, A, D, dA, sa, sb⟩ := X
  obtain ⟨hx, hb, hml, hown, hts, hU, hA, hnm, hr, hlk, hR⟩ := C
  intro H locs la hl hP hD hS
  obtain ⟨w, h1, h2, h3, h4, h6⟩ := hf
  obtain ⟨g1, ⟨ty0, g2⟩, g3⟩ := gs_hin hK9 h1
  by_cases hfin : (w.2.1 kf).2.2.2 = true
  · exact va_putF (C := w.1) (T := w.2.1) (N := w.2.2) hx hb hts g1 ty0 g2 g3 hown hU.1 hP hD hS q0 he h1 kf h2 (hts _ h3.1) (by rw [h4]; exact fun _ h => h) hfin hnm (by rw [h4]; exact h3.2) h6 hn hfit hl9 hd (fun H1 locs1 hP1 hD1 hS1 => kk H1 locs1 la hl hP1 hD1 hS1)
  · exact va_put (C := w.1) (T := w.2.1) (N := w.2.2) hx hb hts g1 ty0 g2 g3 hown hU.1 hP hD hS q0 he h1 kf h2 (hts _ h3.1) (by rw [h4]; exact fun _ h => h) (by simpa using hfin) h6 hn hfit hl9 hd (fun H1 locs1 hP1 hD1 hS1 => kk H1 locs1 la hl hP1 hD1 hS1)
theorem gc_getq (C : gc_C X own cc nL n mc ms) {pc i ci a kf : Nat} {fs : List Value} {v : Value} (hK9 : gs_K ci) (q0 : Nat) (hd : decode cc pc = .ok (.getfield i, 3)) (he : ws[q0]? = some (a, .inr (ci, fs))) (hf : gs_F own i ci kf) (hv : fs[kf]? = some v) (kk : gc_AW X k z (pc + 3) ls (v :: st) ws) : gc_AW X k z pc ls (.ref a :: st) ws := by
  obtain ⟨p, l, e, R, s, m, args, below, meth, c, Q, A, D, dA, sa, sb⟩ := X
  obtain ⟨hx, hb, hml, hown, hts, hU, hA, hnm, hr, hlk, hR⟩ := C
  intro H locs la hl hP hD hS
  obtain ⟨w, h1, h2, h3, h4⟩ := hf
  obtain ⟨g1, -, -⟩ := gs_hin hK9 h1
  exact va_get (C := w.1) (T := w.2.1) (N := w.2.2) hx hb hts g1 hown hU.1 hP q0 he h1 kf h2 (hts _ h3) (by rw [h4]; exact fun _ h => h) hv hd (kk H locs la hl hP hD hS)
theorem gc_aast (C : gc_C X own cc nL n mc ms) {pc a v ci t N : Nat} {vs : List Value} {r : vw_C} {i : Int32} {f : Nat → Option Nat} (q0 qk : Nat) (hd : decode cc pc = .ok (.aastore, 1)) (ha : ws[q0]? = some (a, .inl (gc_dA X t, N, .inr (.inr (.inr (.inr f)))))) (ht : ∀ dA, (gs_tys dA)[t]? = some (dA t, .object r.1)) (hv : ws[qk]? = some (v, .inr (ci, vs))) (hc : vwCl[ci]? = some r) (hin : ¬ (i < 0 ∨ N ≤ i.toNatClampNeg)) (kk : gc_AW X k z (pc + 1) ls st (ws.set q0 (a, .inl (gc_dA X t, N, .inr (.inr (.inr (.inr (va_up f i.toNatClampNeg (some v))))))))) : gc_AW X k z pc ls (.ref v :: .int i :: .ref a :: st) ws := by
  obtain ⟨p, l, e, R, s, m, args, below, meth, c, Q, A, D, dA, sa, sb⟩ := X
  obtain ⟨hx, hb, hml, hown, hts, hU, hA, hnm, hr, hlk, hR⟩ := C
  intro H locs la hl hP hD hS
  exact va_astq hx hb hU.1 hP hD hS q0 t qk ci ha (ht dA) hv hc hin hd (fun H1 locs1 hP1 hD1 hS1 => kk H1 locs1 la hl hP1 hD1 hS1)

theorem gc_after {p : Program} {l : Launch} {e : Env} {R : Room} {s : State} {m : MethodId} {args : Array Value} {below : List Frame} {meth : Method} {c : Code} {H : Heap} {locs : List Loc} {Q : State → Prop} {A : Nat → Prop} {D : va_G} {dA : Nat → ClassId} {wr : va_W} {h0 : Nat} {c0 : va_E} {ws1 : (Nat → ClassId) → (Nat → Nat) → va_W} {a : Array Value} {pc k z mc ms : Nat} {la : Array Slot} {st0 rest : List Value}
    (hr : va_Run p l e R s m args below meth c H locs k z mc ms (F0 m pc la st0) rest (gc_Qc D dA (va_A [(h0, c0)] H.size) ws1 a) (va_A [(h0, c0)] H.size)) (hP : va_P D vwCl (wr ++ [(h0, c0)]) H) (hD : va_D A (wr ++ [(h0, c0)])) (hA : ∀ q : Nat, s.heap.size ≤ q → A q) (hS : va_S A s.heap H locs)
    (kk : ∀ (f : Nat → Nat) (H1 : Heap) (locs1 : List Loc), va_P D vwCl (wr ++ ws1 dA f) H1 → va_D A (wr ++ ws1 dA f) → va_S A s.heap H1 locs1 → W p l e R s m args below meth c H1 locs1 (k + mc) (z + ms) Q (F0 m (pc + 3) la rest)) : W p l e R s m args below meth c H locs k z Q (F0 m pc la st0) := by
  have hF : ∀ q, va_A [(h0, c0)] H.size q → A q := by
    intro q h
    rcases h with ⟨i, e9, h⟩ | h
    · have hi : i < 1 := (List.getElem?_eq_some_iff.mp h).1
      have hi0 : i = 0 := by omega
      subst hi0
      cases h
      exact hD.2 wr.length (h0, c0) (by simp)
    · exact hA q (Nat.le_trans hS.1 h)
  intro T hT X
  obtain ⟨v, st₀, t, T', L9, h9, X', hL, e1, e2, ⟨hv, ⟨f, hp, hd⟩, hz, hk⟩, st⟩ := hr T hT X
  have hv' : v = none := by injection hv
  subst hv'
  rw [h9] at hz hk
  have hj := va_join (wr := wr) (wc := [(h0, c0)]) (w1 := ws1 dA f) hP hD [wr.length] (List.range wr.length) (by simp) (by
      apply List.ext_getElem?
      intro i
      by_cases hi : i < wr.length
      · simp [hi, List.getElem?_append_left hi]
      · rw [List.getElem?_eq_none (by simp; omega), List.getElem?_eq_none (by simp; omega)]) (by
      apply va_nd_range) (by
      intro i hi hc
      have := List.mem_range.mp hi
      have := List.mem_singleton.mp hc
      omega) hk hF hp hd
  obtain ⟨t2, a1, b1⟩ := kk f T'.heap (locs ++ L9) (by rw [e1]; exact hj.1) hj.2 ⟨Nat.le_trans hS.1 (by rw [e1]; exact hz), fun q h1 h2 => by rw [e1, hk q (Nat.lt_of_lt_of_le h1 hS.1) (fun z9 => h2 (hF q z9))]; exact hS.2.1 q h1 h2, fun q hq => by
      rcases List.mem_append.mp hq with h | h
      · exact hS.2.2 q h
      · exact hF _ (hL q h)⟩ T' rfl X'
  exact ⟨t2, st t2 a1, b1⟩
theorem gc_blind {D : va_G} {dA : Nat → ClassId} {sa sb sz : Nat} {wc : va_W} {av : List Value} : FrameBlind (va_Pc av (fun U => U.heap.size = sz ∧ va_P D vwCl wc U.heap ∧ gc_U D dA sa sb U ∧ va_D (fun _ => True) wc)) := by
  intro a U g mk h
  obtain ⟨h1, h2, h3, h4, h5⟩ := h
  exact ⟨h1, h2, h3, h4.same rfl, h5⟩
/-- the constructor of the object that was just made: it lies last -/
theorem gc_ctor (C : gc_C X own cc nL n mc ms) {pc i h0 n' np mL mc' ms' : Nat} {y : MethodName} {cb : ByteArray} {c0 : va_E} {wr : va_W} {av : Nat → Nat → List Value} {ws1 : Nat → Nat → (Nat → ClassId) → (Nat → Nat) → va_W} {st0 : List Value} (As : List Value) (hd : decode cc pc = .ok (.invokespecial i, 3)) (hm : Cond.methodLink own i y ∈ gs_W ∨ (own, i, y, "GuiltySleep") ∈ gc_nest) (hY : gs_Y y cb mL none np) (hi : Cond.instanceMethod y ∈ gs_W) (hyn : y.name = "<init>") (hM : gc_Met X.2.1 n' y cb mL av [(h0, c0)] ws1 mc' ms') (hav : av (gc_sa X) (gc_sb X) = .ref h0 :: As) (hn : n' < n) (hlen : As.length = np) (hst : (st.map fun v => v.category).sum ≤ 8) (h00 : st0 = As.reverse ++ .ref h0 :: st) (hk : k + mc' ≤ mc) (hz : z + ms' ≤ ms)
    (kk : ∀ f : Nat → Nat, gc_AW X (k + mc') (z + ms') (pc + 3) ls st (wr ++ ws1 (gc_sa X) (gc_sb X) (gc_dA X) f)) : gc_AW X k z pc ls st0 (wr ++ [(h0, c0)]) := by
  obtain ⟨p, l, e, R, s, m, args, below, meth, c, Q, A, D, dA, sa, sb⟩ := X
  obtain ⟨hx, hb, hml, hown, hts, hU, hA, hnm, hr, hlk, hR⟩ := C
  intro H locs la hl hP hD hS
  subst hR
  subst h00
  obtain ⟨h1, h2, h3, h4⟩ := hY
  have hP0 : va_P D vwCl [(h0, c0)] H := hP.sub [wr.length] (by simp)
  have hD0 : va_D (fun _ => True) [(h0, c0)] := ⟨fun i j x y hx hy _ => by
    have := (List.getElem?_eq_some_iff.mp hx).1
    have := (List.getElem?_eq_some_iff.mp hy).1
    simp at *
    omega, fun _ _ _ => trivial⟩
  have hG : GoodIn gs_W (Cond.code y cb mL none :: gs_W) := gs_Wg (by
    intro w hw
    rcases List.mem_cons.mp hw with rfl | hw
    · exact h1
    · exact hw)
  have hrm : (gc_room n' mc' ms').frames + 1 ≤ (gc_room n mc ms).frames ∧ 8 + (mL + 11) + (gc_room n' mc' ms').locals ≤ (gc_room n mc ms).locals := by
    refine ⟨?_, ?_⟩
    · show n' + 1 + 1 ≤ n + 1
      omega
    · show 8 + (mL + 11) + 80 * (n' + 1) ≤ 80 * (n + 1)
      omega
  have hpre : PreS s H (va_Pc (av sa sb) (fun U => U.heap.size = H.size ∧ va_P D vwCl [(h0, c0)] U.heap ∧ gc_U D dA sa sb U ∧ va_D (fun _ => True) [(h0, c0)])) (.ref h0 :: As) := ⟨gc_blind, fun U hU9 hW => ⟨by rw [← hav], by rw [hU9], by rw [hU9]; exact hP0, hU.warm hW, hD0⟩⟩
  rcases hm with hm | hm
  · exact gc_after (va_runI (As := As) (b := h0) (rest := st) ⟨hx, hb, hml, hown, hts⟩ (hM D dA sa sb H.size) (cwI np hts hG rfl rfl rfl (hts _ h2) (hts _ hm) (hts _ hi) hyn h3 hrm) hpre rfl hlen (hl.1.trans hml) rfl (lv_room hst) hd ⟨hk, hz⟩) hP hD hA hS (fun f H1 locs1 hP1 hD1 hS1 => kk f H1 locs1 la hl hP1 hD1 hS1)
  · exact gc_after (va_runIN (As := As) (b := h0) (rest := st) ⟨hx, hb, hml, hown, hts⟩ (hM D dA sa sb H.size) ⟨va_cnB np hts hG rfl rfl rfl (hU.2.1 _ hm) (hts _ h2) h3 hrm, hyn, hts _ hi⟩ hpre rfl hlen (hl.1.trans hml) rfl (lv_room hst) hd ⟨hk, hz⟩) hP hD hA hS (fun f H1 locs1 hP1 hD1 hS1 => kk f H1 locs1 la hl hP1 hD1 hS1)
end CRows
