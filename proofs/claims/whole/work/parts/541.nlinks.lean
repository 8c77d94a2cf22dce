set_option maxRecDepth 100000 in
theorem ini_X5 : Cond.initialized RX5 ∈ lw_ws := ws_at 114 rfl rfl
set_option maxRecDepth 100000 in
theorem oi_i : Cond.instanceMethod Lib.objectInit ∈ lw_ws := ws_at 121 rfl rfl
set_option maxRecDepth 100000 in
theorem oi_c : Cond.code Lib.objectInit ⟨#[0xb1]⟩ 1 none ∈ lw_ws := ws_at 122 rfl rfl
set_option maxRecDepth 100000 in
theorem ac_i : Cond.arrayClass .int ∈ lw_ws := ws_at 152 rfl rfl
set_option maxRecDepth 100000 in
theorem lk_L_i9 : Cond.methodLink RL 9 yX9_init ∈ lw_ws := ws_at 117 rfl rfl
set_option maxRecDepth 100000 in
theorem lk_X9_oi : Cond.methodLink RX9 3 Lib.objectInit ∈ lw_ws := ws_at 120 rfl rfl
set_option maxRecDepth 100000 in
theorem lk_X9_i42 : Cond.methodLink RX9 42 yX0_init ∈ lw_ws := ws_at 125 rfl rfl
set_option maxRecDepth 100000 in
theorem lk_X0_oi : Cond.methodLink RX0 3 Lib.objectInit ∈ lw_ws := ws_at 128 rfl rfl
set_option maxRecDepth 100000 in
theorem lk_X1_oi : Cond.methodLink RX1 3 Lib.objectInit ∈ lw_ws := ws_at 158 rfl rfl
set_option maxRecDepth 100000 in
theorem lk_X8_oi : Cond.methodLink RX8 3 Lib.objectInit ∈ lw_ws := ws_at 164 rfl rfl
set_option maxRecDepth 100000 in
theorem lk_X6_oi : Cond.methodLink RX6 3 Lib.objectInit ∈ lw_ws := ws_at 170 rfl rfl
set_option maxRecDepth 100000 in
theorem lk_X3_oi : Cond.methodLink RX3 3 Lib.objectInit ∈ lw_ws := ws_at 255 rfl rfl
set_option maxRecDepth 100000 in
theorem lk_X7_oi : Cond.methodLink RX7 3 Lib.objectInit ∈ lw_ws := ws_at 273 rfl rfl
set_option maxRecDepth 100000 in
theorem lk_X5_oi : Cond.methodLink RX5 3 Lib.objectInit ∈ lw_ws := ws_at 642 rfl rfl
set_option maxRecDepth 100000 in
theorem lk_L_i12 : Cond.methodLink RL 12 yX10_init ∈ lw_ws := ws_at 887 rfl rfl
set_option maxRecDepth 100000 in
theorem lk_X10_oi : Cond.methodLink RX10 1 Lib.objectInit ∈ lw_ws := ws_at 890 rfl rfl
set_option maxRecDepth 100000 in
theorem nw_X9_i49 : Cond.methodLinkNest RX9 49 yX1_init "PackedPages" ∈ zNW := by decide +kernel
set_option maxRecDepth 100000 in
theorem nw_X1_i27 : Cond.methodLinkNest RX1 27 yX8_init "PackedPages" ∈ zNW := by decide +kernel
set_option maxRecDepth 100000 in
theorem nw_X8_i11 : Cond.methodLinkNest RX8 11 yX6_init "PackedPages" ∈ zNW := by decide +kernel
set_option maxRecDepth 100000 in
theorem nw_X9_i56 : Cond.methodLinkNest RX9 56 yX8_init "PackedPages" ∈ zNW := by decide +kernel
set_option maxRecDepth 100000 in
theorem nw_X9_i63 : Cond.methodLinkNest RX9 63 yX3_init "PackedPages" ∈ zNW := by decide +kernel
set_option maxRecDepth 100000 in
theorem nw_X9_i70 : Cond.methodLinkNest RX9 70 yX7_init "PackedPages" ∈ zNW := by decide +kernel
set_option maxRecDepth 100000 in
theorem nw_X7_i24 : Cond.methodLinkNest RX7 24 yX5_init "PackedPages" ∈ zNW := by decide +kernel
set_option maxRecDepth 100000 in
theorem cl_L_7 : Cond.classLink RL 7 RX9 ∈ lw_ws := ws_at 115 rfl rfl
set_option maxRecDepth 100000 in
theorem cl_X9_40 : Cond.classLink RX9 40 RX0 ∈ lw_ws := ws_at 123 rfl rfl
set_option maxRecDepth 100000 in
theorem cl_X9_47 : Cond.classLink RX9 47 RX1 ∈ lw_ws := ws_at 153 rfl rfl
set_option maxRecDepth 100000 in
theorem cl_X1_25 : Cond.classLink RX1 25 RX8 ∈ lw_ws := ws_at 159 rfl rfl
set_option maxRecDepth 100000 in
theorem cl_X8_9 : Cond.classLink RX8 9 RX6 ∈ lw_ws := ws_at 165 rfl rfl
set_option maxRecDepth 100000 in
theorem cl_X9_54 : Cond.classLink RX9 54 RX8 ∈ lw_ws := ws_at 248 rfl rfl
set_option maxRecDepth 100000 in
theorem cl_X9_61 : Cond.classLink RX9 61 RX3 ∈ lw_ws := ws_at 250 rfl rfl
set_option maxRecDepth 100000 in
theorem cl_X9_68 : Cond.classLink RX9 68 RX7 ∈ lw_ws := ws_at 268 rfl rfl
set_option maxRecDepth 100000 in
theorem cl_X7_15 : Cond.classLink RX7 15 RX5 ∈ lw_ws := ws_at 274 rfl rfl
set_option maxRecDepth 100000 in
theorem cl_L_10 : Cond.classLink RL 10 RX10 ∈ lw_ws := ws_at 885 rfl rfl
set_option maxRecDepth 100000 in
theorem it_X9 : Cond.instantiable RX9 14 ∈ lw_ws := ws_at 116 rfl rfl
set_option maxRecDepth 100000 in
theorem it_X0 : Cond.instantiable RX0 5 ∈ lw_ws := ws_at 124 rfl rfl
set_option maxRecDepth 100000 in
theorem it_X1 : Cond.instantiable RX1 8 ∈ lw_ws := ws_at 154 rfl rfl
set_option maxRecDepth 100000 in
theorem it_X8 : Cond.instantiable RX8 4 ∈ lw_ws := ws_at 160 rfl rfl
set_option maxRecDepth 100000 in
theorem it_X6 : Cond.instantiable RX6 8 ∈ lw_ws := ws_at 166 rfl rfl
set_option maxRecDepth 100000 in
theorem it_X3 : Cond.instantiable RX3 3 ∈ lw_ws := ws_at 251 rfl rfl
set_option maxRecDepth 100000 in
theorem it_X7 : Cond.instantiable RX7 3 ∈ lw_ws := ws_at 269 rfl rfl
set_option maxRecDepth 100000 in
theorem it_X5 : Cond.instantiable RX5 4 ∈ lw_ws := ws_at 638 rfl rfl
set_option maxRecDepth 100000 in
theorem it_X10 : Cond.instantiable RX10 40 ∈ lw_ws := ws_at 886 rfl rfl
set_option maxRecDepth 100000 in
theorem iv_X0_init : Cond.instanceMethod yX0_init ∈ lw_ws := ws_at 126 rfl rfl
set_option maxRecDepth 100000 in
theorem ks_X0_init : zKs yX0_init cX0_init 1 none 0 := ⟨ws_at 127 rfl rfl, ini_X0, by decide +kernel⟩
set_option maxRecDepth 100000 in
theorem iv_X1_init : Cond.instanceMethod yX1_init ∈ lw_ws := ws_at 156 rfl rfl
set_option maxRecDepth 100000 in
theorem ks_X1_init : zKs yX1_init cX1_init 1 none 0 := ⟨ws_at 157 rfl rfl, ini_X1, by decide +kernel⟩
set_option maxRecDepth 100000 in
theorem iv_X3_init : Cond.instanceMethod yX3_init ∈ lw_ws := ws_at 253 rfl rfl
set_option maxRecDepth 100000 in
theorem ks_X3_init : zKs yX3_init cX3_init 1 none 0 := ⟨ws_at 254 rfl rfl, ini_X3, by decide +kernel⟩
set_option maxRecDepth 100000 in
theorem iv_X5_init : Cond.instanceMethod yX5_init ∈ lw_ws := ws_at 640 rfl rfl
set_option maxRecDepth 100000 in
theorem ks_X5_init : zKs yX5_init cX5_init 1 none 0 := ⟨ws_at 641 rfl rfl, ini_X5, by decide +kernel⟩
set_option maxRecDepth 100000 in
theorem iv_X6_init : Cond.instanceMethod yX6_init ∈ lw_ws := ws_at 168 rfl rfl
set_option maxRecDepth 100000 in
theorem ks_X6_init : zKs yX6_init cX6_init 1 none 0 := ⟨ws_at 169 rfl rfl, ini_X6, by decide +kernel⟩
set_option maxRecDepth 100000 in
theorem iv_X7_init : Cond.instanceMethod yX7_init ∈ lw_ws := ws_at 271 rfl rfl
set_option maxRecDepth 100000 in
theorem ks_X7_init : zKs yX7_init cX7_init 1 none 0 := ⟨ws_at 272 rfl rfl, ini_X7, by decide +kernel⟩
set_option maxRecDepth 100000 in
theorem iv_X8_init : Cond.instanceMethod yX8_init ∈ lw_ws := ws_at 162 rfl rfl
set_option maxRecDepth 100000 in
theorem ks_X8_init : zKs yX8_init cX8_init 1 none 0 := ⟨ws_at 163 rfl rfl, ini_X8, by decide +kernel⟩
set_option maxRecDepth 100000 in
theorem iv_X9_init : Cond.instanceMethod yX9_init ∈ lw_ws := ws_at 118 rfl rfl
set_option maxRecDepth 100000 in
theorem ks_X9_init : zKs yX9_init cX9_init 1 none 0 := ⟨ws_at 119 rfl rfl, ini_X9, by decide +kernel⟩
set_option maxRecDepth 100000 in
theorem iv_X10_init : Cond.instanceMethod yX10_init ∈ lw_ws := ws_at 888 rfl rfl
set_option maxRecDepth 100000 in
theorem ks_X10_init : zKs yX10_init cX10_init 1 none 0 := ⟨ws_at 889 rfl rfl, ini_X10, by decide +kernel⟩
