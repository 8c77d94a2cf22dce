set_option maxRecDepth 100000 in
theorem lk_X9_9 : Cond.fieldLink RX9 9 "PackedPages" "settings" "[I" ∈ lw_ws := ws_at 287 rfl rfl
set_option maxRecDepth 100000 in
theorem lk_X9_13 : Cond.fieldLink RX9 13 "PackedPages" "learned" "[I" ∈ lw_ws := ws_at 288 rfl rfl
set_option maxRecDepth 100000 in
theorem lk_X9_16 : Cond.fieldLink RX9 16 "PackedPages" "tapeBytes" "[I" ∈ lw_ws := ws_at 289 rfl rfl
set_option maxRecDepth 100000 in
theorem lk_X9_19 : Cond.fieldLink RX9 19 "PackedPages" "tapeSize" "I" ∈ lw_ws := ws_at 290 rfl rfl
set_option maxRecDepth 100000 in
theorem lk_X9_25 : Cond.fieldLink RX9 25 "PackedPages" "single" "[I" ∈ lw_ws := ws_at 291 rfl rfl
set_option maxRecDepth 100000 in
theorem lk_X9_28 : Cond.fieldLink RX9 28 "PackedPages" "refusals" "[I" ∈ lw_ws := ws_at 292 rfl rfl
set_option maxRecDepth 100000 in
theorem lk_X9_31 : Cond.fieldLink RX9 31 "PackedPages" "latestStatus" "I" ∈ lw_ws := ws_at 293 rfl rfl
set_option maxRecDepth 100000 in
theorem lk_X9_34 : Cond.fieldLink RX9 34 "PackedPages" "latestFlaw" "I" ∈ lw_ws := ws_at 294 rfl rfl
set_option maxRecDepth 100000 in
theorem lk_X9_37 : Cond.fieldLink RX9 37 "PackedPages" "rehearsedFlaw" "I" ∈ lw_ws := ws_at 295 rfl rfl
set_option maxRecDepth 100000 in
theorem lk_X9_43 : Cond.fieldLink RX9 43 "PackedPages" "disk" "LPackedPages$Disk;" ∈ lw_ws := ws_at 296 rfl rfl
set_option maxRecDepth 100000 in
theorem lk_X9_50 : Cond.fieldLink RX9 50 "PackedPages" "draft" "LPackedPages$Draft;" ∈ lw_ws := ws_at 297 rfl rfl
set_option maxRecDepth 100000 in
theorem lk_X9_57 : Cond.fieldLink RX9 57 "PackedPages" "paper" "LPackedPages$Records;" ∈ lw_ws := ws_at 298 rfl rfl
set_option maxRecDepth 100000 in
theorem lk_X9_64 : Cond.fieldLink RX9 64 "PackedPages" "frames" "LPackedPages$Frames;" ∈ lw_ws := ws_at 299 rfl rfl
set_option maxRecDepth 100000 in
theorem lk_X9_71 : Cond.fieldLink RX9 71 "PackedPages" "past" "LPackedPages$Past;" ∈ lw_ws := ws_at 300 rfl rfl
set_option maxRecDepth 100000 in
theorem lk_X9_75 : Cond.fieldLink RX9 75 "PackedPages" "TERM_LOWEST" "[I" ∈ lw_ws := ws_at 334 rfl rfl
set_option maxRecDepth 100000 in
theorem lk_X9_78 : Cond.fieldLink RX9 78 "PackedPages" "TERM_HIGHEST" "[I" ∈ lw_ws := ws_at 336 rfl rfl
set_option maxRecDepth 100000 in
theorem lk_X9_95 : Cond.fieldLink RX9 95 "PackedPages$Records" "packer" "LPackedPages$Packer;" ∈ lw_ws := ws_at 203 rfl rfl
set_option maxRecDepth 100000 in
theorem lk_X9_109 : Cond.fieldLink RX9 109 "PackedPages$Packer" "packed" "[I" ∈ lw_ws := ws_at 172 rfl rfl
set_option maxRecDepth 100000 in
theorem lk_X9_120 : Cond.fieldLink RX9 120 "PackedPages$Packer" "flawPlace" "I" ∈ lw_ws := ws_at 178 rfl rfl
set_option maxRecDepth 100000 in
theorem lk_X9_123 : Cond.fieldLink RX9 123 "PackedPages$Packer" "plain" "[I" ∈ lw_ws := ws_at 176 rfl rfl
set_option maxRecDepth 100000 in
theorem lk_X9_138 : Cond.fieldLink RX9 138 "PackedPages$Disk" "down" "Z" ∈ lw_ws := ws_at 136 rfl rfl
set_option maxRecDepth 100000 in
theorem lk_X9_149 : Cond.fieldLink RX9 149 "PackedPages$Disk" "row" "[I" ∈ lw_ws := ws_at 131 rfl rfl
set_option maxRecDepth 100000 in
theorem lk_X9_159 : Cond.fieldLink RX9 159 "PackedPages$Disk" "fuseLeft" "I" ∈ lw_ws := ws_at 133 rfl rfl
set_option maxRecDepth 100000 in
theorem lk_X9_172 : Cond.fieldLink RX9 172 "PackedPages$Disk" "blown" "Z" ∈ lw_ws := ws_at 138 rfl rfl
set_option maxRecDepth 100000 in
theorem lk_X9_178 : Cond.fieldLink RX9 178 "PackedPages$Disk" "wrote" "I" ∈ lw_ws := ws_at 140 rfl rfl
set_option maxRecDepth 100000 in
theorem lk_X9_197 : Cond.fieldLink RX9 197 "PackedPages$Past" "size" "I" ∈ lw_ws := ws_at 277 rfl rfl
set_option maxRecDepth 100000 in
theorem lk_X9_243 : Cond.fieldLink RX9 243 "PackedPages$Records" "laidOut" "[I" ∈ lw_ws := ws_at 207 rfl rfl
set_option maxRecDepth 100000 in
theorem lk_X9_261 : Cond.fieldLink RX9 261 "PackedPages$Draft" "learned" "[I" ∈ lw_ws := ws_at 222 rfl rfl
set_option maxRecDepth 100000 in
theorem lk_X9_262 : Cond.fieldLink RX9 262 "PackedPages$Draft" "row" "[I" ∈ lw_ws := ws_at 220 rfl rfl
set_option maxRecDepth 100000 in
theorem lk_X9_270 : Cond.fieldLink RX9 270 "PackedPages$Frames" "size" "I" ∈ lw_ws := ws_at 257 rfl rfl
set_option maxRecDepth 100000 in
theorem lk_X9_271 : Cond.fieldLink RX9 271 "PackedPages$Frames" "unpacked" "I" ∈ lw_ws := ws_at 259 rfl rfl
set_option maxRecDepth 100000 in
theorem lk_X9_294 : Cond.fieldLink RX9 294 "PackedPages$Draft" "loggedAt" "I" ∈ lw_ws := ws_at 226 rfl rfl
set_option maxRecDepth 100000 in
theorem lk_X9_304 : Cond.fieldLink RX9 304 "PackedPages$Draft" "anew" "[I" ∈ lw_ws := ws_at 224 rfl rfl
set_option maxRecDepth 100000 in
theorem lk_X0_9 : Cond.fieldLink RX0 9 "PackedPages$Disk" "row" "[I" ∈ lw_ws := ws_at 129 rfl rfl
set_option maxRecDepth 100000 in
theorem lk_X0_15 : Cond.fieldLink RX0 15 "PackedPages$Disk" "fuseLeft" "I" ∈ lw_ws := ws_at 132 rfl rfl
set_option maxRecDepth 100000 in
theorem lk_X0_19 : Cond.fieldLink RX0 19 "PackedPages$Disk" "down" "Z" ∈ lw_ws := ws_at 134 rfl rfl
set_option maxRecDepth 100000 in
theorem lk_X0_23 : Cond.fieldLink RX0 23 "PackedPages$Disk" "blown" "Z" ∈ lw_ws := ws_at 137 rfl rfl
set_option maxRecDepth 100000 in
theorem lk_X0_26 : Cond.fieldLink RX0 26 "PackedPages$Disk" "wrote" "I" ∈ lw_ws := ws_at 139 rfl rfl
set_option maxRecDepth 100000 in
theorem lk_X1_9 : Cond.fieldLink RX1 9 "PackedPages$Draft" "row" "[I" ∈ lw_ws := ws_at 219 rfl rfl
set_option maxRecDepth 100000 in
theorem lk_X1_15 : Cond.fieldLink RX1 15 "PackedPages$Draft" "learned" "[I" ∈ lw_ws := ws_at 221 rfl rfl
set_option maxRecDepth 100000 in
theorem lk_X1_18 : Cond.fieldLink RX1 18 "PackedPages$Draft" "anew" "[I" ∈ lw_ws := ws_at 223 rfl rfl
set_option maxRecDepth 100000 in
theorem lk_X1_21 : Cond.fieldLink RX1 21 "PackedPages$Draft" "loggedAt" "I" ∈ lw_ws := ws_at 225 rfl rfl
set_option maxRecDepth 100000 in
theorem lk_X1_28 : Cond.fieldLink RX1 28 "PackedPages$Draft" "records" "LPackedPages$Records;" ∈ lw_ws := ws_at 227 rfl rfl
set_option maxRecDepth 100000 in
theorem lk_X1_32 : Cond.fieldLink RX1 32 "PackedPages$Draft" "settings" "[I" ∈ lw_ws := ws_at 228 rfl rfl
set_option maxRecDepth 100000 in
theorem lk_X1_35 : Cond.fieldLink RX1 35 "PackedPages$Draft" "ends" "[I" ∈ lw_ws := ws_at 229 rfl rfl
set_option maxRecDepth 100000 in
theorem lk_X1_38 : Cond.fieldLink RX1 38 "PackedPages$Draft" "shapeSize" "I" ∈ lw_ws := ws_at 230 rfl rfl
set_option maxRecDepth 100000 in
theorem lk_X1_125 : Cond.fieldLink RX1 125 "PackedPages$Records" "packer" "LPackedPages$Packer;" ∈ lw_ws := ws_at 204 rfl rfl
set_option maxRecDepth 100000 in
theorem lk_X1_129 : Cond.fieldLink RX1 129 "PackedPages$Records" "laidOut" "[I" ∈ lw_ws := ws_at 206 rfl rfl
set_option maxRecDepth 100000 in
theorem lk_X1_156 : Cond.fieldLink RX1 156 "PackedPages$Packer" "bestFilter" "I" ∈ lw_ws := ws_at 180 rfl rfl
set_option maxRecDepth 100000 in
theorem lk_X1_159 : Cond.fieldLink RX1 159 "PackedPages$Packer" "packed" "[I" ∈ lw_ws := ws_at 173 rfl rfl
set_option maxRecDepth 100000 in
theorem lk_X3_9 : Cond.fieldLink RX3 9 "PackedPages$Frames" "size" "I" ∈ lw_ws := ws_at 256 rfl rfl
set_option maxRecDepth 100000 in
theorem lk_X3_15 : Cond.fieldLink RX3 15 "PackedPages$Frames" "unpacked" "I" ∈ lw_ws := ws_at 258 rfl rfl
set_option maxRecDepth 100000 in
theorem lk_X3_18 : Cond.fieldLink RX3 18 "PackedPages$Frames" "pages" "[I" ∈ lw_ws := ws_at 260 rfl rfl
set_option maxRecDepth 100000 in
theorem lk_X5_9 : Cond.fieldLink RX5 9 "PackedPages$Moment" "act" "I" ∈ lw_ws := ws_at 643 rfl rfl
set_option maxRecDepth 100000 in
theorem lk_X5_15 : Cond.fieldLink RX5 15 "PackedPages$Moment" "down" "Z" ∈ lw_ws := ws_at 645 rfl rfl
set_option maxRecDepth 100000 in
theorem lk_X5_19 : Cond.fieldLink RX5 19 "PackedPages$Moment" "row" "[I" ∈ lw_ws := ws_at 647 rfl rfl
set_option maxRecDepth 100000 in
theorem lk_X5_23 : Cond.fieldLink RX5 23 "PackedPages$Moment" "learned" "[I" ∈ lw_ws := ws_at 649 rfl rfl
set_option maxRecDepth 100000 in
theorem lk_X6_9 : Cond.fieldLink RX6 9 "PackedPages$Packer" "packed" "[I" ∈ lw_ws := ws_at 171 rfl rfl
set_option maxRecDepth 100000 in
theorem lk_X6_15 : Cond.fieldLink RX6 15 "PackedPages$Packer" "plain" "[I" ∈ lw_ws := ws_at 174 rfl rfl
set_option maxRecDepth 100000 in
theorem lk_X6_18 : Cond.fieldLink RX6 18 "PackedPages$Packer" "flawPlace" "I" ∈ lw_ws := ws_at 177 rfl rfl
set_option maxRecDepth 100000 in
theorem lk_X6_22 : Cond.fieldLink RX6 22 "PackedPages$Packer" "bestFilter" "I" ∈ lw_ws := ws_at 179 rfl rfl
set_option maxRecDepth 100000 in
theorem lk_X6_25 : Cond.fieldLink RX6 25 "PackedPages$Packer" "filtered" "[I" ∈ lw_ws := ws_at 181 rfl rfl
set_option maxRecDepth 100000 in
theorem lk_X6_28 : Cond.fieldLink RX6 28 "PackedPages$Packer" "sameAhead" "[I" ∈ lw_ws := ws_at 182 rfl rfl
set_option maxRecDepth 100000 in
theorem lk_X6_31 : Cond.fieldLink RX6 31 "PackedPages$Packer" "latestOf" "[I" ∈ lw_ws := ws_at 183 rfl rfl
set_option maxRecDepth 100000 in
theorem lk_X6_34 : Cond.fieldLink RX6 34 "PackedPages$Packer" "likeDistance" "I" ∈ lw_ws := ws_at 184 rfl rfl
set_option maxRecDepth 100000 in
theorem lk_X7_9 : Cond.fieldLink RX7 9 "PackedPages$Past" "size" "I" ∈ lw_ws := ws_at 276 rfl rfl
set_option maxRecDepth 100000 in
theorem lk_X7_17 : Cond.fieldLink RX7 17 "PackedPages$Past" "moments" "[LPackedPages$Moment;" ∈ lw_ws := ws_at 278 rfl rfl
set_option maxRecDepth 100000 in
theorem lk_X7_21 : Cond.fieldLink RX7 21 "PackedPages$Past" "nextSlot" "I" ∈ lw_ws := ws_at 279 rfl rfl
set_option maxRecDepth 100000 in
theorem lk_X7_25 : Cond.fieldLink RX7 25 "PackedPages$Moment" "act" "I" ∈ lw_ws := ws_at 644 rfl rfl
set_option maxRecDepth 100000 in
theorem lk_X7_28 : Cond.fieldLink RX7 28 "PackedPages$Disk" "down" "Z" ∈ lw_ws := ws_at 135 rfl rfl
set_option maxRecDepth 100000 in
theorem lk_X7_34 : Cond.fieldLink RX7 34 "PackedPages$Moment" "down" "Z" ∈ lw_ws := ws_at 646 rfl rfl
set_option maxRecDepth 100000 in
theorem lk_X7_35 : Cond.fieldLink RX7 35 "PackedPages$Disk" "row" "[I" ∈ lw_ws := ws_at 130 rfl rfl
set_option maxRecDepth 100000 in
theorem lk_X7_39 : Cond.fieldLink RX7 39 "PackedPages$Moment" "row" "[I" ∈ lw_ws := ws_at 648 rfl rfl
set_option maxRecDepth 100000 in
theorem lk_X7_46 : Cond.fieldLink RX7 46 "PackedPages$Moment" "learned" "[I" ∈ lw_ws := ws_at 650 rfl rfl
set_option maxRecDepth 100000 in
theorem lk_X8_12 : Cond.fieldLink RX8 12 "PackedPages$Records" "packer" "LPackedPages$Packer;" ∈ lw_ws := ws_at 202 rfl rfl
set_option maxRecDepth 100000 in
theorem lk_X8_18 : Cond.fieldLink RX8 18 "PackedPages$Records" "laidOut" "[I" ∈ lw_ws := ws_at 205 rfl rfl
set_option maxRecDepth 100000 in
theorem lk_X8_22 : Cond.fieldLink RX8 22 "PackedPages$Records" "sizes" "[I" ∈ lw_ws := ws_at 208 rfl rfl
set_option maxRecDepth 100000 in
theorem lk_X8_25 : Cond.fieldLink RX8 25 "PackedPages$Records" "bytes" "[I" ∈ lw_ws := ws_at 209 rfl rfl
set_option maxRecDepth 100000 in
theorem lk_X8_71 : Cond.fieldLink RX8 71 "PackedPages$Packer" "plain" "[I" ∈ lw_ws := ws_at 175 rfl rfl
set_option maxRecDepth 100000 in
theorem lk_X10_7 : Cond.fieldLink RX10 7 "PackedPagesModel" "refusals" "[I" ∈ lw_ws := ws_at 893 rfl rfl
set_option maxRecDepth 100000 in
theorem lk_X10_13 : Cond.fieldLink RX10 13 "PackedPagesModel" "terms" "[I" ∈ lw_ws := ws_at 894 rfl rfl
set_option maxRecDepth 100000 in
theorem lk_X10_16 : Cond.fieldLink RX10 16 "PackedPagesModel" "least" "[I" ∈ lw_ws := ws_at 895 rfl rfl
set_option maxRecDepth 100000 in
theorem lk_X10_19 : Cond.fieldLink RX10 19 "PackedPagesModel" "most" "[I" ∈ lw_ws := ws_at 896 rfl rfl
set_option maxRecDepth 100000 in
theorem lk_X10_22 : Cond.fieldLink RX10 22 "PackedPagesModel" "now" "[I" ∈ lw_ws := ws_at 897 rfl rfl
set_option maxRecDepth 100000 in
theorem lk_X10_25 : Cond.fieldLink RX10 25 "PackedPagesModel" "draft" "[I" ∈ lw_ws := ws_at 898 rfl rfl
set_option maxRecDepth 100000 in
theorem lk_X10_28 : Cond.fieldLink RX10 28 "PackedPagesModel" "tape" "[I" ∈ lw_ws := ws_at 899 rfl rfl
set_option maxRecDepth 100000 in
theorem lk_X10_31 : Cond.fieldLink RX10 31 "PackedPagesModel" "flawAt" "I" ∈ lw_ws := ws_at 901 rfl rfl
set_option maxRecDepth 100000 in
theorem lk_X10_35 : Cond.fieldLink RX10 35 "PackedPagesModel" "fuse" "I" ∈ lw_ws := ws_at 902 rfl rfl
set_option maxRecDepth 100000 in
theorem lk_X10_38 : Cond.fieldLink RX10 38 "PackedPagesModel" "plain" "[I" ∈ lw_ws := ws_at 905 rfl rfl
set_option maxRecDepth 100000 in
theorem lk_X10_41 : Cond.fieldLink RX10 41 "PackedPagesModel" "filtered" "[I" ∈ lw_ws := ws_at 907 rfl rfl
set_option maxRecDepth 100000 in
theorem lk_X10_44 : Cond.fieldLink RX10 44 "PackedPagesModel" "packed" "[I" ∈ lw_ws := ws_at 908 rfl rfl
set_option maxRecDepth 100000 in
theorem lk_X10_47 : Cond.fieldLink RX10 47 "PackedPagesModel" "lengths" "[I" ∈ lw_ws := ws_at 911 rfl rfl
set_option maxRecDepth 100000 in
theorem lk_X10_50 : Cond.fieldLink RX10 50 "PackedPagesModel" "bytes" "[I" ∈ lw_ws := ws_at 912 rfl rfl
set_option maxRecDepth 100000 in
theorem lk_X10_53 : Cond.fieldLink RX10 53 "PackedPagesModel" "partLow" "[I" ∈ lw_ws := ws_at 913 rfl rfl
set_option maxRecDepth 100000 in
theorem lk_X10_56 : Cond.fieldLink RX10 56 "PackedPagesModel" "partHigh" "[I" ∈ lw_ws := ws_at 914 rfl rfl
set_option maxRecDepth 100000 in
theorem lk_X10_59 : Cond.fieldLink RX10 59 "PackedPagesModel" "waitLow" "[I" ∈ lw_ws := ws_at 916 rfl rfl
set_option maxRecDepth 100000 in
theorem lk_X10_62 : Cond.fieldLink RX10 62 "PackedPagesModel" "waitHigh" "[I" ∈ lw_ws := ws_at 917 rfl rfl
set_option maxRecDepth 100000 in
theorem lk_X10_65 : Cond.fieldLink RX10 65 "PackedPagesModel" "undone" "[I" ∈ lw_ws := ws_at 922 rfl rfl
set_option maxRecDepth 100000 in
theorem lk_X10_68 : Cond.fieldLink RX10 68 "PackedPagesModel" "undoneWhat" "[I" ∈ lw_ws := ws_at 923 rfl rfl
set_option maxRecDepth 100000 in
theorem lk_X10_71 : Cond.fieldLink RX10 71 "PackedPagesModel" "held" "[I" ∈ lw_ws := ws_at 926 rfl rfl
set_option maxRecDepth 100000 in
theorem lk_X10_74 : Cond.fieldLink RX10 74 "PackedPagesModel" "entry" "[I" ∈ lw_ws := ws_at 929 rfl rfl
set_option maxRecDepth 100000 in
theorem lk_X10_77 : Cond.fieldLink RX10 77 "PackedPagesModel" "thrown" "I" ∈ lw_ws := ws_at 891 rfl rfl
set_option maxRecDepth 100000 in
theorem lk_X10_80 : Cond.fieldLink RX10 80 "PackedPagesModel" "status" "I" ∈ lw_ws := ws_at 892 rfl rfl
set_option maxRecDepth 100000 in
theorem lk_X10_91 : Cond.fieldLink RX10 91 "PackedPagesModel" "heldMany" "I" ∈ lw_ws := ws_at 927 rfl rfl
set_option maxRecDepth 100000 in
theorem lk_X10_101 : Cond.fieldLink RX10 101 "PackedPagesModel" "taped" "I" ∈ lw_ws := ws_at 900 rfl rfl
set_option maxRecDepth 100000 in
theorem lk_X10_107 : Cond.fieldLink RX10 107 "PackedPagesModel" "plainMany" "I" ∈ lw_ws := ws_at 906 rfl rfl
set_option maxRecDepth 100000 in
theorem lk_X10_110 : Cond.fieldLink RX10 110 "PackedPagesModel" "packedMany" "I" ∈ lw_ws := ws_at 909 rfl rfl
set_option maxRecDepth 100000 in
theorem lk_X10_137 : Cond.fieldLink RX10 137 "PackedPagesModel" "flaw" "I" ∈ lw_ws := ws_at 910 rfl rfl
set_option maxRecDepth 100000 in
theorem lk_X10_192 : Cond.fieldLink RX10 192 "PackedPagesModel" "waitMany" "I" ∈ lw_ws := ws_at 918 rfl rfl
set_option maxRecDepth 100000 in
theorem lk_X10_215 : Cond.fieldLink RX10 215 "PackedPagesModel" "partMany" "I" ∈ lw_ws := ws_at 915 rfl rfl
set_option maxRecDepth 100000 in
theorem lk_X10_221 : Cond.fieldLink RX10 221 "PackedPagesModel" "anew" "I" ∈ lw_ws := ws_at 921 rfl rfl
set_option maxRecDepth 100000 in
theorem lk_X10_239 : Cond.fieldLink RX10 239 "PackedPagesModel" "loggedAt" "I" ∈ lw_ws := ws_at 919 rfl rfl
set_option maxRecDepth 100000 in
theorem lk_X10_242 : Cond.fieldLink RX10 242 "PackedPagesModel" "loggedMany" "I" ∈ lw_ws := ws_at 920 rfl rfl
set_option maxRecDepth 100000 in
theorem lk_X10_264 : Cond.fieldLink RX10 264 "PackedPagesModel" "isOut" "Z" ∈ lw_ws := ws_at 904 rfl rfl
set_option maxRecDepth 100000 in
theorem lk_X10_268 : Cond.fieldLink RX10 268 "PackedPagesModel" "writtenMany" "I" ∈ lw_ws := ws_at 903 rfl rfl
set_option maxRecDepth 100000 in
theorem lk_X10_277 : Cond.fieldLink RX10 277 "PackedPagesModel" "newest" "I" ∈ lw_ws := ws_at 925 rfl rfl
set_option maxRecDepth 100000 in
theorem lk_X10_280 : Cond.fieldLink RX10 280 "PackedPagesModel" "undoMany" "I" ∈ lw_ws := ws_at 924 rfl rfl
set_option maxRecDepth 100000 in
theorem lk_X10_286 : Cond.fieldLink RX10 286 "PackedPagesModel" "unpackedMany" "I" ∈ lw_ws := ws_at 928 rfl rfl
set_option maxRecDepth 100000 in
theorem lk_X10_330 : Cond.fieldLink RX10 330 "PackedPagesModel" "failedAt" "I" ∈ lw_ws := ws_at 930 rfl rfl
set_option maxRecDepth 100000 in
theorem lk_X9_42 : Cond.methodLink RX9 42 yX0_init ∈ lw_ws := ws_at 125 rfl rfl
set_option maxRecDepth 100000 in
theorem lk_X9_81 : Cond.methodLink RX9 81 yX9_refuse ∈ lw_ws := ws_at 338 rfl rfl
set_option maxRecDepth 100000 in
theorem lk_X9_85 : Cond.methodLink RX9 85 yX3_shrinkTo ∈ lw_ws := ws_at 342 rfl rfl
set_option maxRecDepth 100000 in
theorem lk_X9_89 : Cond.methodLink RX9 89 yX9_accept ∈ lw_ws := ws_at 353 rfl rfl
set_option maxRecDepth 100000 in
theorem lk_X9_92 : Cond.methodLink RX9 92 yX9_addFour ∈ lw_ws := ws_at 361 rfl rfl
set_option maxRecDepth 100000 in
theorem lk_X9_99 : Cond.methodLink RX9 99 yX6_packBest ∈ lw_ws := ws_at 377 rfl rfl
set_option maxRecDepth 100000 in
theorem lk_X9_105 : Cond.methodLink RX9 105 yX6_packRow ∈ lw_ws := ws_at 407 rfl rfl
set_option maxRecDepth 100000 in
theorem lk_X9_112 : Cond.methodLink RX9 112 yX9_takeTape ∈ lw_ws := ws_at 408 rfl rfl
set_option maxRecDepth 100000 in
theorem lk_X9_116 : Cond.methodLink RX9 116 yX6_unpackRow ∈ lw_ws := ws_at 417 rfl rfl
set_option maxRecDepth 100000 in
theorem lk_X9_126 : Cond.methodLink RX9 126 yX9_isByte ∈ lw_ws := ws_at 442 rfl rfl
set_option maxRecDepth 100000 in
theorem lk_X9_130 : Cond.methodLink RX9 130 yX9_layFromTape ∈ lw_ws := ws_at 445 rfl rfl
set_option maxRecDepth 100000 in
theorem lk_X9_134 : Cond.methodLink RX9 134 yX9_editAlone ∈ lw_ws := ws_at 450 rfl rfl
set_option maxRecDepth 100000 in
theorem lk_X9_142 : Cond.methodLink RX9 142 yX9_rehearse ∈ lw_ws := ws_at 717 rfl rfl
set_option maxRecDepth 100000 in
theorem lk_X9_146 : Cond.methodLink RX9 146 yX9_carryOut ∈ lw_ws := ws_at 626 rfl rfl
set_option maxRecDepth 100000 in
theorem lk_X9_152 : Cond.methodLink RX9 152 yX1_begin ∈ lw_ws := ws_at 479 rfl rfl
set_option maxRecDepth 100000 in
theorem lk_X9_156 : Cond.methodLink RX9 156 yX1_compactAll ∈ lw_ws := ws_at 735 rfl rfl
set_option maxRecDepth 100000 in
theorem lk_X9_162 : Cond.methodLink RX9 162 yX7_keep ∈ lw_ws := ws_at 634 rfl rfl
set_option maxRecDepth 100000 in
theorem lk_X9_166 : Cond.methodLink RX9 166 yX0_restoreOrder ∈ lw_ws := ws_at 766 rfl rfl
set_option maxRecDepth 100000 in
theorem lk_X9_169 : Cond.methodLink RX9 169 yX3_giveUpAll ∈ lw_ws := ws_at 683 rfl rfl
set_option maxRecDepth 100000 in
theorem lk_X9_175 : Cond.methodLink RX9 175 yX9_tellCutOff ∈ lw_ws := ws_at 687 rfl rfl
set_option maxRecDepth 100000 in
theorem lk_X9_181 : Cond.methodLink RX9 181 yX9_pageFor ∈ lw_ws := ws_at 454 rfl rfl
set_option maxRecDepth 100000 in
theorem lk_X9_184 : Cond.methodLink RX9 184 yX3_hold ∈ lw_ws := ws_at 470 rfl rfl
set_option maxRecDepth 100000 in
theorem lk_X9_187 : Cond.methodLink RX9 187 yX8_loadOnly ∈ lw_ws := ws_at 790 rfl rfl
set_option maxRecDepth 100000 in
theorem lk_X9_191 : Cond.methodLink RX9 191 yX8_sizeOf ∈ lw_ws := ws_at 791 rfl rfl
set_option maxRecDepth 100000 in
theorem lk_X9_194 : Cond.methodLink RX9 194 yX8_byteOf ∈ lw_ws := ws_at 792 rfl rfl
set_option maxRecDepth 100000 in
theorem lk_X9_200 : Cond.methodLink RX9 200 yX7_takeBack ∈ lw_ws := ws_at 801 rfl rfl
set_option maxRecDepth 100000 in
theorem lk_X9_204 : Cond.methodLink RX9 204 yX8_loadAll ∈ lw_ws := ws_at 813 rfl rfl
set_option maxRecDepth 100000 in
theorem lk_X9_208 : Cond.methodLink RX9 208 yX8_lowestIn ∈ lw_ws := ws_at 814 rfl rfl
set_option maxRecDepth 100000 in
theorem lk_X9_211 : Cond.methodLink RX9 211 yX9_isOrder ∈ lw_ws := ws_at 819 rfl rfl
set_option maxRecDepth 100000 in
theorem lk_X9_214 : Cond.methodLink RX9 214 yX4_pageAt ∈ lw_ws := ws_at 467 rfl rfl
set_option maxRecDepth 100000 in
theorem lk_X9_219 : Cond.methodLink RX9 219 yX4_fenceAt ∈ lw_ws := ws_at 824 rfl rfl
set_option maxRecDepth 100000 in
theorem lk_X9_222 : Cond.methodLink RX9 222 yX8_countIn ∈ lw_ws := ws_at 825 rfl rfl
set_option maxRecDepth 100000 in
theorem lk_X9_225 : Cond.methodLink RX9 225 yX8_plainSize ∈ lw_ws := ws_at 826 rfl rfl
set_option maxRecDepth 100000 in
theorem lk_X9_228 : Cond.methodLink RX9 228 yX4_entryCount ∈ lw_ws := ws_at 827 rfl rfl
set_option maxRecDepth 100000 in
theorem lk_X9_231 : Cond.methodLink RX9 231 yX4_logEnd ∈ lw_ws := ws_at 831 rfl rfl
set_option maxRecDepth 100000 in
theorem lk_X9_234 : Cond.methodLink RX9 234 yX4_logStart ∈ lw_ws := ws_at 832 rfl rfl
set_option maxRecDepth 100000 in
theorem lk_X9_237 : Cond.methodLink RX9 237 yX3_holds ∈ lw_ws := ws_at 833 rfl rfl
set_option maxRecDepth 100000 in
theorem lk_X9_240 : Cond.methodLink RX9 240 yX8_layOut ∈ lw_ws := ws_at 841 rfl rfl
set_option maxRecDepth 100000 in
theorem lk_X9_246 : Cond.methodLink RX9 246 yX4_placeBehind ∈ lw_ws := ws_at 846 rfl rfl
set_option maxRecDepth 100000 in
theorem lk_X9_249 : Cond.methodLink RX9 249 yX2_kindOf ∈ lw_ws := ws_at 847 rfl rfl
set_option maxRecDepth 100000 in
theorem lk_X9_252 : Cond.methodLink RX9 252 yX2_numberOf ∈ lw_ws := ws_at 848 rfl rfl
set_option maxRecDepth 100000 in
theorem lk_X9_255 : Cond.methodLink RX9 255 yX2_sizeBy ∈ lw_ws := ws_at 726 rfl rfl
set_option maxRecDepth 100000 in
theorem lk_X9_258 : Cond.methodLink RX9 258 yX1_bytesThroughJournal ∈ lw_ws := ws_at 857 rfl rfl
set_option maxRecDepth 100000 in
theorem lk_X9_263 : Cond.methodLink RX9 263 yX4_inUse ∈ lw_ws := ws_at 823 rfl rfl
set_option maxRecDepth 100000 in
theorem lk_X9_267 : Cond.methodLink RX9 267 yX9_countOnDisk ∈ lw_ws := ws_at 877 rfl rfl
set_option maxRecDepth 100000 in
theorem lk_X9_274 : Cond.methodLink RX9 274 yX4_orderFor ∈ lw_ws := ws_at 458 rfl rfl
set_option maxRecDepth 100000 in
theorem lk_X9_277 : Cond.methodLink RX9 277 arraycopyName ∈ lw_ws := ws_at 412 rfl rfl
set_option maxRecDepth 100000 in
theorem lk_X9_283 : Cond.methodLink RX9 283 Lib.Math.min.name ∈ lw_ws := ws_at 449 rfl rfl
set_option maxRecDepth 100000 in
theorem lk_X9_288 : Cond.methodLink RX9 288 yX1_edit ∈ lw_ws := ws_at 485 rfl rfl
set_option maxRecDepth 100000 in
theorem lk_X9_291 : Cond.methodLink RX9 291 yX9_keepAndLearn ∈ lw_ws := ws_at 630 rfl rfl
set_option maxRecDepth 100000 in
theorem lk_X9_297 : Cond.methodLink RX9 297 yX0_writeEntry ∈ lw_ws := ws_at 696 rfl rfl
set_option maxRecDepth 100000 in
theorem lk_X9_301 : Cond.methodLink RX9 301 yX9_tellOutcome ∈ lw_ws := ws_at 679 rfl rfl
set_option maxRecDepth 100000 in
theorem lk_X9_307 : Cond.methodLink RX9 307 yX0_writeThroughJournal ∈ lw_ws := ws_at 662 rfl rfl
set_option maxRecDepth 100000 in
theorem lk_X9_311 : Cond.methodLink RX9 311 yX3_giveUpFree ∈ lw_ws := ws_at 691 rfl rfl
set_option maxRecDepth 100000 in
theorem lk_X9_314 : Cond.methodLink RX9 314 yX9_firstUnreadable ∈ lw_ws := ws_at 721 rfl rfl
set_option maxRecDepth 100000 in
theorem lk_X9_317 : Cond.methodLink RX9 317 yX1_markDifferent ∈ lw_ws := ws_at 727 rfl rfl
set_option maxRecDepth 100000 in
theorem lk_X9_320 : Cond.methodLink RX9 320 yX2_sizeAt ∈ lw_ws := ws_at 725 rfl rfl
set_option maxRecDepth 100000 in
theorem lk_X0_29 : Cond.methodLink RX0 29 yX0_startAct ∈ lw_ws := ws_at 666 rfl rfl
set_option maxRecDepth 100000 in
theorem lk_X0_32 : Cond.methodLink RX0 32 yX2_sizeAt ∈ lw_ws := ws_at 700 rfl rfl
set_option maxRecDepth 100000 in
theorem lk_X0_38 : Cond.methodLink RX0 38 yX0_write ∈ lw_ws := ws_at 671 rfl rfl
set_option maxRecDepth 100000 in
theorem lk_X0_42 : Cond.methodLink RX0 42 yX4_inUse ∈ lw_ws := ws_at 670 rfl rfl
set_option maxRecDepth 100000 in
theorem lk_X0_48 : Cond.methodLink RX0 48 yX0_copyIn ∈ lw_ws := ws_at 675 rfl rfl
set_option maxRecDepth 100000 in
theorem lk_X0_52 : Cond.methodLink RX0 52 yX0_doJournalAgain ∈ lw_ws := ws_at 770 rfl rfl
set_option maxRecDepth 100000 in
theorem lk_X0_55 : Cond.methodLink RX0 55 yX0_clearBehindLogs ∈ lw_ws := ws_at 776 rfl rfl
set_option maxRecDepth 100000 in
theorem lk_X0_58 : Cond.methodLink RX0 58 Lib.Math.min.name ∈ lw_ws := ws_at 774 rfl rfl
set_option maxRecDepth 100000 in
theorem lk_X0_64 : Cond.methodLink RX0 64 Lib.Math.max.name ∈ lw_ws := ws_at 775 rfl rfl
set_option maxRecDepth 100000 in
theorem lk_X0_67 : Cond.methodLink RX0 67 yX4_pageAt ∈ lw_ws := ws_at 780 rfl rfl
set_option maxRecDepth 100000 in
theorem lk_X0_71 : Cond.methodLink RX0 71 yX4_logEnd ∈ lw_ws := ws_at 781 rfl rfl
set_option maxRecDepth 100000 in
theorem lk_X1_41 : Cond.methodLink RX1 41 arraycopyName ∈ lw_ws := ws_at 483 rfl rfl
set_option maxRecDepth 100000 in
theorem lk_X1_47 : Cond.methodLink RX1 47 yJ7_fill_53178 ∈ lw_ws := ws_at 484 rfl rfl
set_option maxRecDepth 100000 in
theorem lk_X1_53 : Cond.methodLink RX1 53 yX2_sizeAt ∈ lw_ws := ws_at 489 rfl rfl
set_option maxRecDepth 100000 in
theorem lk_X1_59 : Cond.methodLink RX1 59 yX4_orderFor ∈ lw_ws := ws_at 501 rfl rfl
set_option maxRecDepth 100000 in
theorem lk_X1_65 : Cond.methodLink RX1 65 yX4_pageAt ∈ lw_ws := ws_at 502 rfl rfl
set_option maxRecDepth 100000 in
theorem lk_X1_68 : Cond.methodLink RX1 68 yX8_loadOnly ∈ lw_ws := ws_at 503 rfl rfl
set_option maxRecDepth 100000 in
theorem lk_X1_72 : Cond.methodLink RX1 72 yX8_refusalOf ∈ lw_ws := ws_at 537 rfl rfl
set_option maxRecDepth 100000 in
theorem lk_X1_75 : Cond.methodLink RX1 75 yX8_plainSize ∈ lw_ws := ws_at 545 rfl rfl
set_option maxRecDepth 100000 in
theorem lk_X1_79 : Cond.methodLink RX1 79 yX8_apply ∈ lw_ws := ws_at 549 rfl rfl
set_option maxRecDepth 100000 in
theorem lk_X1_82 : Cond.methodLink RX1 82 yX2_kindOf ∈ lw_ws := ws_at 550 rfl rfl
set_option maxRecDepth 100000 in
theorem lk_X1_86 : Cond.methodLink RX1 86 yX4_fenceAt ∈ lw_ws := ws_at 551 rfl rfl
set_option maxRecDepth 100000 in
theorem lk_X1_89 : Cond.methodLink RX1 89 yX1_removeFromDirectory ∈ lw_ws := ws_at 552 rfl rfl
set_option maxRecDepth 100000 in
theorem lk_X1_93 : Cond.methodLink RX1 93 yX4_logEnd ∈ lw_ws := ws_at 557 rfl rfl
set_option maxRecDepth 100000 in
theorem lk_X1_96 : Cond.methodLink RX1 96 yX1_full ∈ lw_ws := ws_at 565 rfl rfl
set_option maxRecDepth 100000 in
theorem lk_X1_100 : Cond.methodLink RX1 100 yX1_spread ∈ lw_ws := ws_at 569 rfl rfl
set_option maxRecDepth 100000 in
theorem lk_X1_103 : Cond.methodLink RX1 103 yX1_tryShape ∈ lw_ws := ws_at 573 rfl rfl
set_option maxRecDepth 100000 in
theorem lk_X1_107 : Cond.methodLink RX1 107 yX8_lowestIn ∈ lw_ws := ws_at 596 rfl rfl
set_option maxRecDepth 100000 in
theorem lk_X1_110 : Cond.methodLink RX1 110 yX1_insertIntoDirectory ∈ lw_ws := ws_at 600 rfl rfl
set_option maxRecDepth 100000 in
theorem lk_X1_113 : Cond.methodLink RX1 113 yX1_writeBlock ∈ lw_ws := ws_at 611 rfl rfl
set_option maxRecDepth 100000 in
theorem lk_X1_116 : Cond.methodLink RX1 116 yX8_cutOf ∈ lw_ws := ws_at 621 rfl rfl
set_option maxRecDepth 100000 in
theorem lk_X1_119 : Cond.methodLink RX1 119 yX8_countIn ∈ lw_ws := ws_at 577 rfl rfl
set_option maxRecDepth 100000 in
theorem lk_X1_122 : Cond.methodLink RX1 122 yX8_layOut ∈ lw_ws := ws_at 581 rfl rfl
set_option maxRecDepth 100000 in
theorem lk_X1_132 : Cond.methodLink RX1 132 yX6_packBest ∈ lw_ws := ws_at 585 rfl rfl
set_option maxRecDepth 100000 in
theorem lk_X1_137 : Cond.methodLink RX1 137 yX1_fitsWith ∈ lw_ws := ws_at 586 rfl rfl
set_option maxRecDepth 100000 in
theorem lk_X1_141 : Cond.methodLink RX1 141 yX1_learnFromTry ∈ lw_ws := ws_at 590 rfl rfl
set_option maxRecDepth 100000 in
theorem lk_X1_145 : Cond.methodLink RX1 145 Lib.Math.min.name ∈ lw_ws := ws_at 594 rfl rfl
set_option maxRecDepth 100000 in
theorem lk_X1_150 : Cond.methodLink RX1 150 Lib.Math.max.name ∈ lw_ws := ws_at 595 rfl rfl
set_option maxRecDepth 100000 in
theorem lk_X1_153 : Cond.methodLink RX1 153 yJ7_fill_fda19 ∈ lw_ws := ws_at 615 rfl rfl
set_option maxRecDepth 100000 in
theorem lk_X1_162 : Cond.methodLink RX1 162 yX4_inUse ∈ lw_ws := ws_at 556 rfl rfl
set_option maxRecDepth 100000 in
theorem lk_X1_166 : Cond.methodLink RX1 166 yX4_lowestFree ∈ lw_ws := ws_at 604 rfl rfl
set_option maxRecDepth 100000 in
theorem lk_X1_169 : Cond.methodLink RX1 169 yX8_loadAll ∈ lw_ws := ws_at 739 rfl rfl
set_option maxRecDepth 100000 in
theorem lk_X1_173 : Cond.methodLink RX1 173 yX1_farthestEnd ∈ lw_ws := ws_at 745 rfl rfl
set_option maxRecDepth 100000 in
theorem lk_X1_176 : Cond.methodLink RX1 176 yX8_sizeOf ∈ lw_ws := ws_at 749 rfl rfl
set_option maxRecDepth 100000 in
theorem lk_X1_179 : Cond.methodLink RX1 179 yX1_fitsByAny ∈ lw_ws := ws_at 753 rfl rfl
set_option maxRecDepth 100000 in
theorem lk_X1_182 : Cond.methodLink RX1 182 yX6_packRow ∈ lw_ws := ws_at 757 rfl rfl
set_option maxRecDepth 100000 in
theorem lk_X2_9 : Cond.methodLink RX2 9 yX2_numberOf ∈ lw_ws := ws_at 495 rfl rfl
set_option maxRecDepth 100000 in
theorem lk_X2_15 : Cond.methodLink RX2 15 yX2_kindOf ∈ lw_ws := ws_at 498 rfl rfl
set_option maxRecDepth 100000 in
theorem lk_X2_18 : Cond.methodLink RX2 18 yX2_sizeBy ∈ lw_ws := ws_at 492 rfl rfl
set_option maxRecDepth 100000 in
theorem lk_X3_22 : Cond.methodLink RX3 22 yX3_placeOf ∈ lw_ws := ws_at 474 rfl rfl
set_option maxRecDepth 100000 in
theorem lk_X3_26 : Cond.methodLink RX3 26 yX3_shrinkTo ∈ lw_ws := ws_at 478 rfl rfl
set_option maxRecDepth 100000 in
theorem lk_X3_30 : Cond.methodLink RX3 30 yX3_giveUp ∈ lw_ws := ws_at 346 rfl rfl
set_option maxRecDepth 100000 in
theorem lk_X3_33 : Cond.methodLink RX3 33 arraycopyName ∈ lw_ws := ws_at 350 rfl rfl
set_option maxRecDepth 100000 in
theorem lk_X3_39 : Cond.methodLink RX3 39 yX4_isUsed ∈ lw_ws := ws_at 695 rfl rfl
set_option maxRecDepth 100000 in
theorem lk_X4_9 : Cond.methodLink RX4 9 yX4_inUse ∈ lw_ws := ws_at 461 rfl rfl
set_option maxRecDepth 100000 in
theorem lk_X4_15 : Cond.methodLink RX4 15 yX4_fenceAt ∈ lw_ws := ws_at 464 rfl rfl
set_option maxRecDepth 100000 in
theorem lk_X4_19 : Cond.methodLink RX4 19 yX4_pageAt ∈ lw_ws := ws_at 610 rfl rfl
set_option maxRecDepth 100000 in
theorem lk_X4_22 : Cond.methodLink RX4 22 yX4_isUsed ∈ lw_ws := ws_at 607 rfl rfl
set_option maxRecDepth 100000 in
theorem lk_X4_26 : Cond.methodLink RX4 26 Lib.Math.min.name ∈ lw_ws := ws_at 515 rfl rfl
set_option maxRecDepth 100000 in
theorem lk_X4_32 : Cond.methodLink RX4 32 Lib.Math.max.name ∈ lw_ws := ws_at 516 rfl rfl
set_option maxRecDepth 100000 in
theorem lk_X4_35 : Cond.methodLink RX4 35 yX4_packedSize ∈ lw_ws := ws_at 529 rfl rfl
set_option maxRecDepth 100000 in
theorem lk_X4_38 : Cond.methodLink RX4 38 yX4_placeBehind ∈ lw_ws := ws_at 560 rfl rfl
set_option maxRecDepth 100000 in
theorem lk_X4_42 : Cond.methodLink RX4 42 yX4_logStart ∈ lw_ws := ws_at 563 rfl rfl
set_option maxRecDepth 100000 in
theorem lk_X4_45 : Cond.methodLink RX4 45 yX2_sizeAt ∈ lw_ws := ws_at 564 rfl rfl
set_option maxRecDepth 100000 in
theorem lk_X4_50 : Cond.methodLink RX4 50 yX2_sizeBy ∈ lw_ws := ws_at 830 rfl rfl
set_option maxRecDepth 100000 in
theorem lk_X6_37 : Cond.methodLink RX6 37 yX6_packRow ∈ lw_ws := ws_at 381 rfl rfl
set_option maxRecDepth 100000 in
theorem lk_X6_41 : Cond.methodLink RX6 41 Lib.Math.min.name ∈ lw_ws := ws_at 385 rfl rfl
set_option maxRecDepth 100000 in
theorem lk_X6_47 : Cond.methodLink RX6 47 yX6_filterRow ∈ lw_ws := ws_at 388 rfl rfl
set_option maxRecDepth 100000 in
theorem lk_X6_51 : Cond.methodLink RX6 51 yJ7_fill_53178 ∈ lw_ws := ws_at 392 rfl rfl
set_option maxRecDepth 100000 in
theorem lk_X6_57 : Cond.methodLink RX6 57 yX6_linkSame ∈ lw_ws := ws_at 395 rfl rfl
set_option maxRecDepth 100000 in
theorem lk_X6_61 : Cond.methodLink RX6 61 yX6_longestLike ∈ lw_ws := ws_at 399 rfl rfl
set_option maxRecDepth 100000 in
theorem lk_X6_64 : Cond.methodLink RX6 64 yX6_tellSingles ∈ lw_ws := ws_at 403 rfl rfl
set_option maxRecDepth 100000 in
theorem lk_X6_68 : Cond.methodLink RX6 68 yX6_unpackSingles ∈ lw_ws := ws_at 421 rfl rfl
set_option maxRecDepth 100000 in
theorem lk_X6_72 : Cond.methodLink RX6 72 yX6_unpackLike ∈ lw_ws := ws_at 426 rfl rfl
set_option maxRecDepth 100000 in
theorem lk_X6_75 : Cond.methodLink RX6 75 yX6_turnBack ∈ lw_ws := ws_at 430 rfl rfl
set_option maxRecDepth 100000 in
theorem lk_X6_79 : Cond.methodLink RX6 79 arraycopyName ∈ lw_ws := ws_at 425 rfl rfl
set_option maxRecDepth 100000 in
theorem lk_X7_40 : Cond.methodLink RX7 40 arraycopyName ∈ lw_ws := ws_at 660 rfl rfl
set_option maxRecDepth 100000 in
theorem lk_X7_49 : Cond.methodLink RX7 49 Lib.Math.min.name ∈ lw_ws := ws_at 661 rfl rfl
set_option maxRecDepth 100000 in
theorem lk_X8_28 : Cond.methodLink RX8 28 yJ7_fill_53178 ∈ lw_ws := ws_at 507 rfl rfl
set_option maxRecDepth 100000 in
theorem lk_X8_34 : Cond.methodLink RX8 34 yX8_addPage ∈ lw_ws := ws_at 508 rfl rfl
set_option maxRecDepth 100000 in
theorem lk_X8_38 : Cond.methodLink RX8 38 yX4_inUse ∈ lw_ws := ws_at 743 rfl rfl
set_option maxRecDepth 100000 in
theorem lk_X8_44 : Cond.methodLink RX8 44 yX4_pageAt ∈ lw_ws := ws_at 744 rfl rfl
set_option maxRecDepth 100000 in
theorem lk_X8_48 : Cond.methodLink RX8 48 yX4_packedSize ∈ lw_ws := ws_at 512 rfl rfl
set_option maxRecDepth 100000 in
theorem lk_X8_51 : Cond.methodLink RX8 51 yX6_unpackRow ∈ lw_ws := ws_at 519 rfl rfl
set_option maxRecDepth 100000 in
theorem lk_X8_55 : Cond.methodLink RX8 55 yX8_takePlain ∈ lw_ws := ws_at 520 rfl rfl
set_option maxRecDepth 100000 in
theorem lk_X8_59 : Cond.methodLink RX8 59 yX4_logStart ∈ lw_ws := ws_at 526 rfl rfl
set_option maxRecDepth 100000 in
theorem lk_X8_62 : Cond.methodLink RX8 62 yX2_sizeAt ∈ lw_ws := ws_at 530 rfl rfl
set_option maxRecDepth 100000 in
theorem lk_X8_68 : Cond.methodLink RX8 68 yX8_apply ∈ lw_ws := ws_at 531 rfl rfl
set_option maxRecDepth 100000 in
theorem lk_X8_78 : Cond.methodLink RX8 78 arraycopyName ∈ lw_ws := ws_at 525 rfl rfl
set_option maxRecDepth 100000 in
theorem lk_X8_84 : Cond.methodLink RX8 84 yX2_kindOf ∈ lw_ws := ws_at 535 rfl rfl
set_option maxRecDepth 100000 in
theorem lk_X8_88 : Cond.methodLink RX8 88 yX2_numberOf ∈ lw_ws := ws_at 536 rfl rfl
set_option maxRecDepth 100000 in
theorem lk_X8_91 : Cond.methodLink RX8 91 yX8_holdsBytes ∈ lw_ws := ws_at 541 rfl rfl
set_option maxRecDepth 100000 in
theorem lk_X8_95 : Cond.methodLink RX8 95 yX8_sizeOf ∈ lw_ws := ws_at 796 rfl rfl
set_option maxRecDepth 100000 in
theorem lk_X8_98 : Cond.methodLink RX8 98 yX8_countIn ∈ lw_ws := ws_at 625 rfl rfl
set_option maxRecDepth 100000 in
theorem lk_L_9 : Cond.methodLink RL 9 yX9_init ∈ lw_ws := ws_at 117 rfl rfl
set_option maxRecDepth 100000 in
theorem lk_L_12 : Cond.methodLink RL 12 yX10_init ∈ lw_ws := ws_at 887 rfl rfl
set_option maxRecDepth 100000 in
theorem lk_L_13 : Cond.methodLink RL 13 yX9_terms ∈ lw_ws := ws_at 330 rfl rfl
set_option maxRecDepth 100000 in
theorem lk_L_17 : Cond.methodLink RL 17 yX10_terms ∈ lw_ws := ws_at 1012 rfl rfl
set_option maxRecDepth 100000 in
theorem lk_L_18 : Cond.methodLink RL 18 yX9_feed ∈ lw_ws := ws_at 357 rfl rfl
set_option maxRecDepth 100000 in
theorem lk_L_22 : Cond.methodLink RL 22 yX10_feed ∈ lw_ws := ws_at 1031 rfl rfl
set_option maxRecDepth 100000 in
theorem lk_L_23 : Cond.methodLink RL 23 yX9_end ∈ lw_ws := ws_at 365 rfl rfl
set_option maxRecDepth 100000 in
theorem lk_L_27 : Cond.methodLink RL 27 yX10_end ∈ lw_ws := ws_at 1039 rfl rfl
set_option maxRecDepth 100000 in
theorem lk_L_28 : Cond.methodLink RL 28 yX9_tape ∈ lw_ws := ws_at 369 rfl rfl
set_option maxRecDepth 100000 in
theorem lk_L_31 : Cond.methodLink RL 31 yX10_tape ∈ lw_ws := ws_at 1043 rfl rfl
set_option maxRecDepth 100000 in
theorem lk_L_32 : Cond.methodLink RL 32 yX9_pack ∈ lw_ws := ws_at 373 rfl rfl
set_option maxRecDepth 100000 in
theorem lk_L_35 : Cond.methodLink RL 35 yX10_pack ∈ lw_ws := ws_at 1047 rfl rfl
set_option maxRecDepth 100000 in
theorem lk_L_36 : Cond.methodLink RL 36 yX9_unpack ∈ lw_ws := ws_at 413 rfl rfl
set_option maxRecDepth 100000 in
theorem lk_L_39 : Cond.methodLink RL 39 yX10_unpack ∈ lw_ws := ws_at 1075 rfl rfl
set_option maxRecDepth 100000 in
theorem lk_L_40 : Cond.methodLink RL 40 yX9_flaw ∈ lw_ws := ws_at 434 rfl rfl
set_option maxRecDepth 100000 in
theorem lk_L_44 : Cond.methodLink RL 44 yX10_flaw ∈ lw_ws := ws_at 1091 rfl rfl
set_option maxRecDepth 100000 in
theorem lk_L_45 : Cond.methodLink RL 45 yX9_put ∈ lw_ws := ws_at 438 rfl rfl
set_option maxRecDepth 100000 in
theorem lk_L_48 : Cond.methodLink RL 48 yX10_put ∈ lw_ws := ws_at 1099 rfl rfl
set_option maxRecDepth 100000 in
theorem lk_L_49 : Cond.methodLink RL 49 yX9_grow ∈ lw_ws := ws_at 701 rfl rfl
set_option maxRecDepth 100000 in
theorem lk_L_52 : Cond.methodLink RL 52 yX10_grow ∈ lw_ws := ws_at 1282 rfl rfl
set_option maxRecDepth 100000 in
theorem lk_L_53 : Cond.methodLink RL 53 yX9_alter ∈ lw_ws := ws_at 705 rfl rfl
set_option maxRecDepth 100000 in
theorem lk_L_57 : Cond.methodLink RL 57 yX10_alter ∈ lw_ws := ws_at 1286 rfl rfl
set_option maxRecDepth 100000 in
theorem lk_L_58 : Cond.methodLink RL 58 yX9_erase ∈ lw_ws := ws_at 709 rfl rfl
set_option maxRecDepth 100000 in
theorem lk_L_61 : Cond.methodLink RL 61 yX10_erase ∈ lw_ws := ws_at 1290 rfl rfl
set_option maxRecDepth 100000 in
theorem lk_L_62 : Cond.methodLink RL 62 yX9_group ∈ lw_ws := ws_at 713 rfl rfl
set_option maxRecDepth 100000 in
theorem lk_L_65 : Cond.methodLink RL 65 yX10_group ∈ lw_ws := ws_at 1294 rfl rfl
set_option maxRecDepth 100000 in
theorem lk_L_66 : Cond.methodLink RL 66 yX9_compact ∈ lw_ws := ws_at 731 rfl rfl
set_option maxRecDepth 100000 in
theorem lk_L_69 : Cond.methodLink RL 69 yX10_compact ∈ lw_ws := ws_at 1309 rfl rfl
set_option maxRecDepth 100000 in
theorem lk_L_70 : Cond.methodLink RL 70 yX9_fuse ∈ lw_ws := ws_at 758 rfl rfl
set_option maxRecDepth 100000 in
theorem lk_L_73 : Cond.methodLink RL 73 yX10_fuse ∈ lw_ws := ws_at 1321 rfl rfl
set_option maxRecDepth 100000 in
theorem lk_L_74 : Cond.methodLink RL 74 yX9_recover ∈ lw_ws := ws_at 762 rfl rfl
set_option maxRecDepth 100000 in
theorem lk_L_77 : Cond.methodLink RL 77 yX10_recover ∈ lw_ws := ws_at 1325 rfl rfl
set_option maxRecDepth 100000 in
theorem lk_L_78 : Cond.methodLink RL 78 yX9_written ∈ lw_ws := ws_at 782 rfl rfl
set_option maxRecDepth 100000 in
theorem lk_L_81 : Cond.methodLink RL 81 yX10_written ∈ lw_ws := ws_at 1337 rfl rfl
set_option maxRecDepth 100000 in
theorem lk_L_82 : Cond.methodLink RL 82 yX9_fetch ∈ lw_ws := ws_at 786 rfl rfl
set_option maxRecDepth 100000 in
theorem lk_L_85 : Cond.methodLink RL 85 yX10_fetch ∈ lw_ws := ws_at 1341 rfl rfl
set_option maxRecDepth 100000 in
theorem lk_L_86 : Cond.methodLink RL 86 yX9_undo ∈ lw_ws := ws_at 797 rfl rfl
set_option maxRecDepth 100000 in
theorem lk_L_89 : Cond.methodLink RL 89 yX10_undo ∈ lw_ws := ws_at 1095 rfl rfl
set_option maxRecDepth 100000 in
theorem lk_L_90 : Cond.methodLink RL 90 yX9_value ∈ lw_ws := ws_at 805 rfl rfl
set_option maxRecDepth 100000 in
theorem lk_L_93 : Cond.methodLink RL 93 yX10_value ∈ lw_ws := ws_at 1345 rfl rfl
set_option maxRecDepth 100000 in
theorem lk_L_94 : Cond.methodLink RL 94 yX9_next ∈ lw_ws := ws_at 809 rfl rfl
set_option maxRecDepth 100000 in
theorem lk_L_97 : Cond.methodLink RL 97 yX10_next ∈ lw_ws := ws_at 1349 rfl rfl
set_option maxRecDepth 100000 in
theorem lk_L_98 : Cond.methodLink RL 98 yX9_page ∈ lw_ws := ws_at 815 rfl rfl
set_option maxRecDepth 100000 in
theorem lk_L_101 : Cond.methodLink RL 101 yX10_page ∈ lw_ws := ws_at 1353 rfl rfl
set_option maxRecDepth 100000 in
theorem lk_L_102 : Cond.methodLink RL 102 yX9_packing ∈ lw_ws := ws_at 837 rfl rfl
set_option maxRecDepth 100000 in
theorem lk_L_105 : Cond.methodLink RL 105 yX10_packing ∈ lw_ws := ws_at 1364 rfl rfl
set_option maxRecDepth 100000 in
theorem lk_L_106 : Cond.methodLink RL 106 yX9_entry ∈ lw_ws := ws_at 842 rfl rfl
set_option maxRecDepth 100000 in
theorem lk_L_109 : Cond.methodLink RL 109 yX10_entry ∈ lw_ws := ws_at 1368 rfl rfl
set_option maxRecDepth 100000 in
theorem lk_L_110 : Cond.methodLink RL 110 yX9_behind ∈ lw_ws := ws_at 849 rfl rfl
set_option maxRecDepth 100000 in
theorem lk_L_113 : Cond.methodLink RL 113 yX10_behind ∈ lw_ws := ws_at 1372 rfl rfl
set_option maxRecDepth 100000 in
theorem lk_L_114 : Cond.methodLink RL 114 yX9_would ∈ lw_ws := ws_at 853 rfl rfl
set_option maxRecDepth 100000 in
theorem lk_L_117 : Cond.methodLink RL 117 yX10_would ∈ lw_ws := ws_at 1305 rfl rfl
set_option maxRecDepth 100000 in
theorem lk_L_118 : Cond.methodLink RL 118 yX9_block ∈ lw_ws := ws_at 861 rfl rfl
set_option maxRecDepth 100000 in
theorem lk_L_121 : Cond.methodLink RL 121 yX10_block ∈ lw_ws := ws_at 1376 rfl rfl
set_option maxRecDepth 100000 in
theorem lk_L_122 : Cond.methodLink RL 122 yX9_directory ∈ lw_ws := ws_at 865 rfl rfl
set_option maxRecDepth 100000 in
theorem lk_L_125 : Cond.methodLink RL 125 yX10_directory ∈ lw_ws := ws_at 1380 rfl rfl
set_option maxRecDepth 100000 in
theorem lk_L_126 : Cond.methodLink RL 126 yX9_journal ∈ lw_ws := ws_at 869 rfl rfl
set_option maxRecDepth 100000 in
theorem lk_L_129 : Cond.methodLink RL 129 yX10_journal ∈ lw_ws := ws_at 1384 rfl rfl
set_option maxRecDepth 100000 in
theorem lk_L_130 : Cond.methodLink RL 130 yX9_count ∈ lw_ws := ws_at 873 rfl rfl
set_option maxRecDepth 100000 in
theorem lk_L_133 : Cond.methodLink RL 133 yX10_count ∈ lw_ws := ws_at 1388 rfl rfl
set_option maxRecDepth 100000 in
theorem lk_L_134 : Cond.methodLink RL 134 yX9_status ∈ lw_ws := ws_at 881 rfl rfl
set_option maxRecDepth 100000 in
theorem lk_L_137 : Cond.methodLink RL 137 yX10_status ∈ lw_ws := ws_at 1396 rfl rfl
set_option maxRecDepth 100000 in
theorem lk_X10_83 : Cond.methodLink RX10 83 yX10_isIn ∈ lw_ws := ws_at 1016 rfl rfl
set_option maxRecDepth 100000 in
theorem lk_X10_87 : Cond.methodLink RX10 87 yX10_refuses ∈ lw_ws := ws_at 1019 rfl rfl
set_option maxRecDepth 100000 in
theorem lk_X10_94 : Cond.methodLink RX10 94 yX10_lets ∈ lw_ws := ws_at 1023 rfl rfl
set_option maxRecDepth 100000 in
theorem lk_X10_98 : Cond.methodLink RX10 98 yX10_tells ∈ lw_ws := ws_at 1027 rfl rfl
set_option maxRecDepth 100000 in
theorem lk_X10_104 : Cond.methodLink RX10 104 yX10_types ∈ lw_ws := ws_at 1035 rfl rfl
set_option maxRecDepth 100000 in
theorem lk_X10_113 : Cond.methodLink RX10 113 yX10_emits ∈ lw_ws := ws_at 1071 rfl rfl
set_option maxRecDepth 100000 in
theorem lk_X10_116 : Cond.methodLink RX10 116 yX10_filteredAt ∈ lw_ws := ws_at 1059 rfl rfl
set_option maxRecDepth 100000 in
theorem lk_X10_120 : Cond.methodLink RX10 120 yX10_likeFrom ∈ lw_ws := ws_at 1063 rfl rfl
set_option maxRecDepth 100000 in
theorem lk_X10_123 : Cond.methodLink RX10 123 yX10_emitsSingle ∈ lw_ws := ws_at 1067 rfl rfl
set_option maxRecDepth 100000 in
theorem lk_X10_127 : Cond.methodLink RX10 127 yX10_packs ∈ lw_ws := ws_at 1055 rfl rfl
set_option maxRecDepth 100000 in
theorem lk_X10_130 : Cond.methodLink RX10 130 yX10_flawed ∈ lw_ws := ws_at 1083 rfl rfl
set_option maxRecDepth 100000 in
theorem lk_X10_134 : Cond.methodLink RX10 134 yX10_comesOut ∈ lw_ws := ws_at 1087 rfl rfl
set_option maxRecDepth 100000 in
theorem lk_X10_140 : Cond.methodLink RX10 140 yX10_shapeOf ∈ lw_ws := ws_at 1051 rfl rfl
set_option maxRecDepth 100000 in
theorem lk_X10_144 : Cond.methodLink RX10 144 yX10_unpacks ∈ lw_ws := ws_at 1079 rfl rfl
set_option maxRecDepth 100000 in
theorem lk_X10_148 : Cond.methodLink RX10 148 yX10_kindOf ∈ lw_ws := ws_at 1146 rfl rfl
set_option maxRecDepth 100000 in
theorem lk_X10_151 : Cond.methodLink RX10 151 yX10_pagesOf ∈ lw_ws := ws_at 1125 rfl rfl
set_option maxRecDepth 100000 in
theorem lk_X10_155 : Cond.methodLink RX10 155 yX10_fenceOf ∈ lw_ws := ws_at 1128 rfl rfl
set_option maxRecDepth 100000 in
theorem lk_X10_159 : Cond.methodLink RX10 159 yX10_lengthOf ∈ lw_ws := ws_at 1168 rfl rfl
set_option maxRecDepth 100000 in
theorem lk_X10_162 : Cond.methodLink RX10 162 yX10_entryAt ∈ lw_ws := ws_at 1165 rfl rfl
set_option maxRecDepth 100000 in
theorem lk_X10_166 : Cond.methodLink RX10 166 yX10_endOf ∈ lw_ws := ws_at 1191 rfl rfl
set_option maxRecDepth 100000 in
theorem lk_X10_169 : Cond.methodLink RX10 169 yX10_laysPacked ∈ lw_ws := ws_at 1161 rfl rfl
set_option maxRecDepth 100000 in
theorem lk_X10_173 : Cond.methodLink RX10 173 yX10_does ∈ lw_ws := ws_at 1171 rfl rfl
set_option maxRecDepth 100000 in
theorem lk_X10_176 : Cond.methodLink RX10 176 yX10_clears ∈ lw_ws := ws_at 1153 rfl rfl
set_option maxRecDepth 100000 in
theorem lk_X10_179 : Cond.methodLink RX10 179 yX10_lays ∈ lw_ws := ws_at 1157 rfl rfl
set_option maxRecDepth 100000 in
theorem lk_X10_183 : Cond.methodLink RX10 183 yX10_numberOf ∈ lw_ws := ws_at 1131 rfl rfl
set_option maxRecDepth 100000 in
theorem lk_X10_186 : Cond.methodLink RX10 186 yX10_keysFrom ∈ lw_ws := ws_at 1214 rfl rfl
set_option maxRecDepth 100000 in
theorem lk_X10_189 : Cond.methodLink RX10 189 yX10_laysPlain ∈ lw_ws := ws_at 1222 rfl rfl
set_option maxRecDepth 100000 in
theorem lk_X10_195 : Cond.methodLink RX10 195 yX10_plainOf ∈ lw_ws := ws_at 1179 rfl rfl
set_option maxRecDepth 100000 in
theorem lk_X10_198 : Cond.methodLink RX10 198 yX10_full ∈ lw_ws := ws_at 1194 rfl rfl
set_option maxRecDepth 100000 in
theorem lk_X10_201 : Cond.methodLink RX10 201 yX10_fits ∈ lw_ws := ws_at 1218 rfl rfl
set_option maxRecDepth 100000 in
theorem lk_X10_205 : Cond.methodLink RX10 205 yX10_learns ∈ lw_ws := ws_at 1226 rfl rfl
set_option maxRecDepth 100000 in
theorem lk_X10_209 : Cond.methodLink RX10 209 yX10_waits ∈ lw_ws := ws_at 1206 rfl rfl
set_option maxRecDepth 100000 in
theorem lk_X10_212 : Cond.methodLink RX10 212 yX10_isPart ∈ lw_ws := ws_at 1210 rfl rfl
set_option maxRecDepth 100000 in
theorem lk_X10_218 : Cond.methodLink RX10 218 yX10_middleOf ∈ lw_ws := ws_at 1230 rfl rfl
set_option maxRecDepth 100000 in
theorem lk_X10_224 : Cond.methodLink RX10 224 yX10_placeFor ∈ lw_ws := ws_at 1122 rfl rfl
set_option maxRecDepth 100000 in
theorem lk_X10_227 : Cond.methodLink RX10 227 yX10_laysAlone ∈ lw_ws := ws_at 1149 rfl rfl
set_option maxRecDepth 100000 in
theorem lk_X10_230 : Cond.methodLink RX10 230 yX10_cant ∈ lw_ws := ws_at 1175 rfl rfl
set_option maxRecDepth 100000 in
theorem lk_X10_233 : Cond.methodLink RX10 233 yX10_recordMany ∈ lw_ws := ws_at 1183 rfl rfl
set_option maxRecDepth 100000 in
theorem lk_X10_236 : Cond.methodLink RX10 236 yX10_goes ∈ lw_ws := ws_at 1187 rfl rfl
set_option maxRecDepth 100000 in
theorem lk_X10_245 : Cond.methodLink RX10 245 yX10_spreadsPage ∈ lw_ws := ws_at 1198 rfl rfl
set_option maxRecDepth 100000 in
theorem lk_X10_248 : Cond.methodLink RX10 248 yX10_spreads ∈ lw_ws := ws_at 1202 rfl rfl
set_option maxRecDepth 100000 in
theorem lk_X10_251 : Cond.methodLink RX10 251 yX10_lowestFree ∈ lw_ws := ws_at 1234 rfl rfl
set_option maxRecDepth 100000 in
theorem lk_X10_254 : Cond.methodLink RX10 254 yX10_shapes ∈ lw_ws := ws_at 1238 rfl rfl
set_option maxRecDepth 100000 in
theorem lk_X10_258 : Cond.methodLink RX10 258 yX10_lowestKey ∈ lw_ws := ws_at 1242 rfl rfl
set_option maxRecDepth 100000 in
theorem lk_X10_261 : Cond.methodLink RX10 261 yX10_comes ∈ lw_ws := ws_at 1246 rfl rfl
set_option maxRecDepth 100000 in
theorem lk_X10_271 : Cond.methodLink RX10 271 yX10_writes ∈ lw_ws := ws_at 1258 rfl rfl
set_option maxRecDepth 100000 in
theorem lk_X10_274 : Cond.methodLink RX10 274 yX10_directoryMany ∈ lw_ws := ws_at 1266 rfl rfl
set_option maxRecDepth 100000 in
theorem lk_X10_283 : Cond.methodLink RX10 283 yX10_placeHeld ∈ lw_ws := ws_at 1134 rfl rfl
set_option maxRecDepth 100000 in
theorem lk_X10_289 : Cond.methodLink RX10 289 yX10_isInUse ∈ lw_ws := ws_at 1278 rfl rfl
set_option maxRecDepth 100000 in
theorem lk_X10_292 : Cond.methodLink RX10 292 yX10_isDown ∈ lw_ws := ws_at 1114 rfl rfl
set_option maxRecDepth 100000 in
theorem lk_X10_296 : Cond.methodLink RX10 296 yX10_uses ∈ lw_ws := ws_at 1118 rfl rfl
set_option maxRecDepth 100000 in
theorem lk_X10_299 : Cond.methodLink RX10 299 yX10_drafts ∈ lw_ws := ws_at 1138 rfl rfl
set_option maxRecDepth 100000 in
theorem lk_X10_302 : Cond.methodLink RX10 302 yX10_edits ∈ lw_ws := ws_at 1142 rfl rfl
set_option maxRecDepth 100000 in
theorem lk_X10_305 : Cond.methodLink RX10 305 yX10_keeps ∈ lw_ws := ws_at 1250 rfl rfl
set_option maxRecDepth 100000 in
theorem lk_X10_308 : Cond.methodLink RX10 308 yX10_beginsWriting ∈ lw_ws := ws_at 1254 rfl rfl
set_option maxRecDepth 100000 in
theorem lk_X10_311 : Cond.methodLink RX10 311 yX10_throughJournal ∈ lw_ws := ws_at 1262 rfl rfl
set_option maxRecDepth 100000 in
theorem lk_X10_314 : Cond.methodLink RX10 314 yX10_ends ∈ lw_ws := ws_at 1270 rfl rfl
set_option maxRecDepth 100000 in
theorem lk_X10_317 : Cond.methodLink RX10 317 yX10_letsFree ∈ lw_ws := ws_at 1274 rfl rfl
set_option maxRecDepth 100000 in
theorem lk_X10_320 : Cond.methodLink RX10 320 yX10_alone ∈ lw_ws := ws_at 1110 rfl rfl
set_option maxRecDepth 100000 in
theorem lk_X10_323 : Cond.methodLink RX10 323 yX10_isKey ∈ lw_ws := ws_at 1103 rfl rfl
set_option maxRecDepth 100000 in
theorem lk_X10_326 : Cond.methodLink RX10 326 yX10_byTape ∈ lw_ws := ws_at 1106 rfl rfl
set_option maxRecDepth 100000 in
theorem lk_X10_333 : Cond.methodLink RX10 333 yX10_isEntry ∈ lw_ws := ws_at 1302 rfl rfl
set_option maxRecDepth 100000 in
theorem lk_X10_336 : Cond.methodLink RX10 336 yX10_drafted ∈ lw_ws := ws_at 1298 rfl rfl
set_option maxRecDepth 100000 in
theorem lk_X10_339 : Cond.methodLink RX10 339 yX10_laysAll ∈ lw_ws := ws_at 1313 rfl rfl
set_option maxRecDepth 100000 in
theorem lk_X10_343 : Cond.methodLink RX10 343 yX10_lastTogether ∈ lw_ws := ws_at 1317 rfl rfl
set_option maxRecDepth 100000 in
theorem lk_X10_346 : Cond.methodLink RX10 346 yX10_comesBack ∈ lw_ws := ws_at 1329 rfl rfl
set_option maxRecDepth 100000 in
theorem lk_X10_349 : Cond.methodLink RX10 349 yX10_wipes ∈ lw_ws := ws_at 1333 rfl rfl
set_option maxRecDepth 100000 in
theorem lk_X10_352 : Cond.methodLink RX10 352 yX10_isPlace ∈ lw_ws := ws_at 1357 rfl rfl
set_option maxRecDepth 100000 in
theorem lk_X10_355 : Cond.methodLink RX10 355 yX10_entriesOf ∈ lw_ws := ws_at 1361 rfl rfl
set_option maxRecDepth 100000 in
theorem lk_X10_358 : Cond.methodLink RX10 358 yX10_ofAll ∈ lw_ws := ws_at 1392 rfl rfl
set_option maxRecDepth 100000 in
theorem lk_J7_13 : Cond.methodLink RJ7 13 yJ7_rangeCheck_23922 ∈ lw_ws := ws_at 618 rfl rfl
set_option maxRecDepth 100000 in
theorem na_copy : Cond.native arraycopyName ∈ lw_ws := ws_at 352 rfl rfl
set_option maxRecDepth 100000 in
theorem st_copy : Cond.static arraycopyName ∈ lw_ws := ws_at 351 rfl rfl
set_option maxRecDepth 100000 in
theorem in_System : Cond.initialized "java/lang/System" ∈ lw_ws := ws_at 109 rfl rfl
set_option maxRecDepth 100000 in
theorem in_Math : Cond.initialized "java/lang/Math" ∈ lw_ws := ws_at 110 rfl rfl
set_option maxRecDepth 100000 in
theorem st_min : Cond.static Lib.Math.min.name ∈ lw_ws := ws_at 386 rfl rfl
set_option maxRecDepth 100000 in
theorem co_min : Cond.code Lib.Math.min.name Lib.Math.min.code 2 (some .int) ∈ lw_ws := ws_at 387 rfl rfl
set_option maxRecDepth 100000 in
theorem st_max : Cond.static Lib.Math.max.name ∈ lw_ws := ws_at 517 rfl rfl
set_option maxRecDepth 100000 in
theorem co_max : Cond.code Lib.Math.max.name Lib.Math.max.code 2 (some .int) ∈ lw_ws := ws_at 518 rfl rfl
set_option maxRecDepth 100000 in
theorem ini_X9 : Cond.initialized RX9 ∈ lw_ws := ws_at 101 rfl rfl
set_option maxRecDepth 100000 in
theorem ini_X0 : Cond.initialized RX0 ∈ lw_ws := ws_at 102 rfl rfl
set_option maxRecDepth 100000 in
theorem ini_X1 : Cond.initialized RX1 ∈ lw_ws := ws_at 103 rfl rfl
set_option maxRecDepth 100000 in
theorem ini_X2 : Cond.initialized RX2 ∈ lw_ws := ws_at 113 rfl rfl
set_option maxRecDepth 100000 in
theorem ini_X3 : Cond.initialized RX3 ∈ lw_ws := ws_at 106 rfl rfl
set_option maxRecDepth 100000 in
theorem ini_X4 : Cond.initialized RX4 ∈ lw_ws := ws_at 112 rfl rfl
set_option maxRecDepth 100000 in
theorem ini_X6 : Cond.initialized RX6 ∈ lw_ws := ws_at 105 rfl rfl
set_option maxRecDepth 100000 in
theorem ini_X7 : Cond.initialized RX7 ∈ lw_ws := ws_at 107 rfl rfl
set_option maxRecDepth 100000 in
theorem ini_X8 : Cond.initialized RX8 ∈ lw_ws := ws_at 104 rfl rfl
set_option maxRecDepth 100000 in
theorem ini_X10 : Cond.initialized RX10 ∈ lw_ws := ws_at 108 rfl rfl
set_option maxRecDepth 100000 in
theorem ini_J9 : Cond.initialized RJ9 ∈ lw_ws := ws_at 110 rfl rfl
set_option maxRecDepth 100000 in
theorem ini_J7 : Cond.initialized RJ7 ∈ lw_ws := ws_at 111 rfl rfl
set_option maxRecDepth 100000 in
theorem cd_X0_startAct : Cond.code yX0_startAct cX0_startAct 1 none ∈ lw_ws := ws_at 669 rfl rfl
set_option maxRecDepth 100000 in
theorem iv_X0_startAct : Cond.instanceMethod yX0_startAct ∈ lw_ws ∧ Cond.selects yX0_startAct.cls yX0_startAct yX0_startAct ∈ lw_ws := ⟨ws_at 668 rfl rfl, ws_at 29 rfl rfl⟩
set_option maxRecDepth 100000 in
theorem cd_X0_write : Cond.code yX0_write cX0_write 3 none ∈ lw_ws := ws_at 674 rfl rfl
set_option maxRecDepth 100000 in
theorem iv_X0_write : Cond.instanceMethod yX0_write ∈ lw_ws ∧ Cond.selects yX0_write.cls yX0_write yX0_write ∈ lw_ws := ⟨ws_at 673 rfl rfl, ws_at 30 rfl rfl⟩
set_option maxRecDepth 100000 in
theorem cd_X0_writeEntry : Cond.code yX0_writeEntry cX0_writeEntry 5 none ∈ lw_ws := ws_at 699 rfl rfl
set_option maxRecDepth 100000 in
theorem iv_X0_writeEntry : Cond.instanceMethod yX0_writeEntry ∈ lw_ws ∧ Cond.selects yX0_writeEntry.cls yX0_writeEntry yX0_writeEntry ∈ lw_ws := ⟨ws_at 697 rfl rfl, ws_at 698 rfl rfl⟩
set_option maxRecDepth 100000 in
theorem cd_X0_writeThroughJournal : Cond.code yX0_writeThroughJournal cX0_writeThroughJournal 7 none ∈ lw_ws := ws_at 665 rfl rfl
set_option maxRecDepth 100000 in
theorem iv_X0_writeThroughJournal : Cond.instanceMethod yX0_writeThroughJournal ∈ lw_ws ∧ Cond.selects yX0_writeThroughJournal.cls yX0_writeThroughJournal yX0_writeThroughJournal ∈ lw_ws := ⟨ws_at 663 rfl rfl, ws_at 664 rfl rfl⟩
set_option maxRecDepth 100000 in
theorem cd_X0_copyIn : Cond.code yX0_copyIn cX0_copyIn 6 none ∈ lw_ws := ws_at 678 rfl rfl
set_option maxRecDepth 100000 in
theorem iv_X0_copyIn : Cond.instanceMethod yX0_copyIn ∈ lw_ws ∧ Cond.selects yX0_copyIn.cls yX0_copyIn yX0_copyIn ∈ lw_ws := ⟨ws_at 677 rfl rfl, ws_at 31 rfl rfl⟩
set_option maxRecDepth 100000 in
theorem cd_X0_restoreOrder : Cond.code yX0_restoreOrder cX0_restoreOrder 1 none ∈ lw_ws := ws_at 769 rfl rfl
set_option maxRecDepth 100000 in
theorem iv_X0_restoreOrder : Cond.instanceMethod yX0_restoreOrder ∈ lw_ws ∧ Cond.selects yX0_restoreOrder.cls yX0_restoreOrder yX0_restoreOrder ∈ lw_ws := ⟨ws_at 767 rfl rfl, ws_at 768 rfl rfl⟩
set_option maxRecDepth 100000 in
theorem cd_X0_doJournalAgain : Cond.code yX0_doJournalAgain cX0_doJournalAgain 4 none ∈ lw_ws := ws_at 773 rfl rfl
set_option maxRecDepth 100000 in
theorem iv_X0_doJournalAgain : Cond.instanceMethod yX0_doJournalAgain ∈ lw_ws ∧ Cond.selects yX0_doJournalAgain.cls yX0_doJournalAgain yX0_doJournalAgain ∈ lw_ws := ⟨ws_at 772 rfl rfl, ws_at 38 rfl rfl⟩
set_option maxRecDepth 100000 in
theorem cd_X0_clearBehindLogs : Cond.code yX0_clearBehindLogs cX0_clearBehindLogs 5 none ∈ lw_ws := ws_at 779 rfl rfl
set_option maxRecDepth 100000 in
theorem iv_X0_clearBehindLogs : Cond.instanceMethod yX0_clearBehindLogs ∈ lw_ws ∧ Cond.selects yX0_clearBehindLogs.cls yX0_clearBehindLogs yX0_clearBehindLogs ∈ lw_ws := ⟨ws_at 778 rfl rfl, ws_at 39 rfl rfl⟩
set_option maxRecDepth 100000 in
theorem cd_X1_begin : Cond.code yX1_begin cX1_begin 4 none ∈ lw_ws := ws_at 482 rfl rfl
set_option maxRecDepth 100000 in
theorem iv_X1_begin : Cond.instanceMethod yX1_begin ∈ lw_ws ∧ Cond.selects yX1_begin.cls yX1_begin yX1_begin ∈ lw_ws := ⟨ws_at 480 rfl rfl, ws_at 481 rfl rfl⟩
set_option maxRecDepth 100000 in
theorem cd_X1_edit : Cond.code yX1_edit cX1_edit 13 (some .int) ∈ lw_ws := ws_at 488 rfl rfl
set_option maxRecDepth 100000 in
theorem iv_X1_edit : Cond.instanceMethod yX1_edit ∈ lw_ws ∧ Cond.selects yX1_edit.cls yX1_edit yX1_edit ∈ lw_ws := ⟨ws_at 486 rfl rfl, ws_at 487 rfl rfl⟩
set_option maxRecDepth 100000 in
theorem cd_X1_full : Cond.code yX1_full cX1_full 1 (some .int) ∈ lw_ws := ws_at 568 rfl rfl
set_option maxRecDepth 100000 in
theorem iv_X1_full : Cond.instanceMethod yX1_full ∈ lw_ws ∧ Cond.selects yX1_full.cls yX1_full yX1_full ∈ lw_ws := ⟨ws_at 567 rfl rfl, ws_at 20 rfl rfl⟩
set_option maxRecDepth 100000 in
theorem cd_X1_spread : Cond.code yX1_spread cX1_spread 7 (some .int) ∈ lw_ws := ws_at 572 rfl rfl
set_option maxRecDepth 100000 in
theorem iv_X1_spread : Cond.instanceMethod yX1_spread ∈ lw_ws ∧ Cond.selects yX1_spread.cls yX1_spread yX1_spread ∈ lw_ws := ⟨ws_at 571 rfl rfl, ws_at 21 rfl rfl⟩
set_option maxRecDepth 100000 in
theorem cd_X1_tryShape : Cond.code yX1_tryShape cX1_tryShape 6 (some .boolean) ∈ lw_ws := ws_at 576 rfl rfl
set_option maxRecDepth 100000 in
theorem iv_X1_tryShape : Cond.instanceMethod yX1_tryShape ∈ lw_ws ∧ Cond.selects yX1_tryShape.cls yX1_tryShape yX1_tryShape ∈ lw_ws := ⟨ws_at 575 rfl rfl, ws_at 22 rfl rfl⟩
set_option maxRecDepth 100000 in
theorem cd_X1_fitsWith : Cond.code yX1_fitsWith cX1_fitsWith 2 (some .boolean) ∈ lw_ws := ws_at 589 rfl rfl
set_option maxRecDepth 100000 in
theorem iv_X1_fitsWith : Cond.instanceMethod yX1_fitsWith ∈ lw_ws ∧ Cond.selects yX1_fitsWith.cls yX1_fitsWith yX1_fitsWith ∈ lw_ws := ⟨ws_at 588 rfl rfl, ws_at 23 rfl rfl⟩
set_option maxRecDepth 100000 in
theorem cd_X1_learnFromTry : Cond.code yX1_learnFromTry cX1_learnFromTry 2 none ∈ lw_ws := ws_at 593 rfl rfl
set_option maxRecDepth 100000 in
theorem iv_X1_learnFromTry : Cond.instanceMethod yX1_learnFromTry ∈ lw_ws ∧ Cond.selects yX1_learnFromTry.cls yX1_learnFromTry yX1_learnFromTry ∈ lw_ws := ⟨ws_at 592 rfl rfl, ws_at 24 rfl rfl⟩
set_option maxRecDepth 100000 in
theorem cd_X1_writeBlock : Cond.code yX1_writeBlock cX1_writeBlock 4 none ∈ lw_ws := ws_at 614 rfl rfl
set_option maxRecDepth 100000 in
theorem iv_X1_writeBlock : Cond.instanceMethod yX1_writeBlock ∈ lw_ws ∧ Cond.selects yX1_writeBlock.cls yX1_writeBlock yX1_writeBlock ∈ lw_ws := ⟨ws_at 613 rfl rfl, ws_at 26 rfl rfl⟩
set_option maxRecDepth 100000 in
theorem cd_X1_insertIntoDirectory : Cond.code yX1_insertIntoDirectory cX1_insertIntoDirectory 6 (some .boolean) ∈ lw_ws := ws_at 603 rfl rfl
set_option maxRecDepth 100000 in
theorem iv_X1_insertIntoDirectory : Cond.instanceMethod yX1_insertIntoDirectory ∈ lw_ws ∧ Cond.selects yX1_insertIntoDirectory.cls yX1_insertIntoDirectory yX1_insertIntoDirectory ∈ lw_ws := ⟨ws_at 602 rfl rfl, ws_at 25 rfl rfl⟩
set_option maxRecDepth 100000 in
theorem cd_X1_removeFromDirectory : Cond.code yX1_removeFromDirectory cX1_removeFromDirectory 4 none ∈ lw_ws := ws_at 555 rfl rfl
set_option maxRecDepth 100000 in
theorem iv_X1_removeFromDirectory : Cond.instanceMethod yX1_removeFromDirectory ∈ lw_ws ∧ Cond.selects yX1_removeFromDirectory.cls yX1_removeFromDirectory yX1_removeFromDirectory ∈ lw_ws := ⟨ws_at 554 rfl rfl, ws_at 19 rfl rfl⟩
set_option maxRecDepth 100000 in
theorem cd_X1_compactAll : Cond.code yX1_compactAll cX1_compactAll 5 (some .int) ∈ lw_ws := ws_at 738 rfl rfl
set_option maxRecDepth 100000 in
theorem iv_X1_compactAll : Cond.instanceMethod yX1_compactAll ∈ lw_ws ∧ Cond.selects yX1_compactAll.cls yX1_compactAll yX1_compactAll ∈ lw_ws := ⟨ws_at 736 rfl rfl, ws_at 737 rfl rfl⟩
set_option maxRecDepth 100000 in
theorem cd_X1_farthestEnd : Cond.code yX1_farthestEnd cX1_farthestEnd 5 (some .int) ∈ lw_ws := ws_at 748 rfl rfl
set_option maxRecDepth 100000 in
theorem iv_X1_farthestEnd : Cond.instanceMethod yX1_farthestEnd ∈ lw_ws ∧ Cond.selects yX1_farthestEnd.cls yX1_farthestEnd yX1_farthestEnd ∈ lw_ws := ⟨ws_at 747 rfl rfl, ws_at 36 rfl rfl⟩
set_option maxRecDepth 100000 in
theorem cd_X1_fitsByAny : Cond.code yX1_fitsByAny cX1_fitsByAny 5 (some .boolean) ∈ lw_ws := ws_at 756 rfl rfl
set_option maxRecDepth 100000 in
theorem iv_X1_fitsByAny : Cond.instanceMethod yX1_fitsByAny ∈ lw_ws ∧ Cond.selects yX1_fitsByAny.cls yX1_fitsByAny yX1_fitsByAny ∈ lw_ws := ⟨ws_at 755 rfl rfl, ws_at 37 rfl rfl⟩
set_option maxRecDepth 100000 in
theorem cd_X1_markDifferent : Cond.code yX1_markDifferent cX1_markDifferent 4 none ∈ lw_ws := ws_at 730 rfl rfl
set_option maxRecDepth 100000 in
theorem iv_X1_markDifferent : Cond.instanceMethod yX1_markDifferent ∈ lw_ws ∧ Cond.selects yX1_markDifferent.cls yX1_markDifferent yX1_markDifferent ∈ lw_ws := ⟨ws_at 728 rfl rfl, ws_at 729 rfl rfl⟩
set_option maxRecDepth 100000 in
theorem cd_X1_bytesThroughJournal : Cond.code yX1_bytesThroughJournal cX1_bytesThroughJournal 5 (some .int) ∈ lw_ws := ws_at 860 rfl rfl
set_option maxRecDepth 100000 in
theorem iv_X1_bytesThroughJournal : Cond.instanceMethod yX1_bytesThroughJournal ∈ lw_ws ∧ Cond.selects yX1_bytesThroughJournal.cls yX1_bytesThroughJournal yX1_bytesThroughJournal ∈ lw_ws := ⟨ws_at 858 rfl rfl, ws_at 859 rfl rfl⟩
set_option maxRecDepth 100000 in
theorem cd_X2_kindOf : Cond.code yX2_kindOf cX2_kindOf 1 (some .int) ∈ lw_ws := ws_at 500 rfl rfl
set_option maxRecDepth 100000 in
theorem st_X2_kindOf : Cond.static yX2_kindOf ∈ lw_ws := ws_at 499 rfl rfl
set_option maxRecDepth 100000 in
theorem cd_X2_numberOf : Cond.code yX2_numberOf cX2_numberOf 1 (some .int) ∈ lw_ws := ws_at 497 rfl rfl
set_option maxRecDepth 100000 in
theorem st_X2_numberOf : Cond.static yX2_numberOf ∈ lw_ws := ws_at 496 rfl rfl
set_option maxRecDepth 100000 in
theorem cd_X2_sizeBy : Cond.code yX2_sizeBy cX2_sizeBy 2 (some .int) ∈ lw_ws := ws_at 494 rfl rfl
set_option maxRecDepth 100000 in
theorem st_X2_sizeBy : Cond.static yX2_sizeBy ∈ lw_ws := ws_at 493 rfl rfl
set_option maxRecDepth 100000 in
theorem cd_X2_sizeAt : Cond.code yX2_sizeAt cX2_sizeAt 4 (some .int) ∈ lw_ws := ws_at 491 rfl rfl
set_option maxRecDepth 100000 in
theorem st_X2_sizeAt : Cond.static yX2_sizeAt ∈ lw_ws := ws_at 490 rfl rfl
set_option maxRecDepth 100000 in
theorem cd_X3_holds : Cond.code yX3_holds cX3_holds 2 (some .boolean) ∈ lw_ws := ws_at 836 rfl rfl
set_option maxRecDepth 100000 in
theorem iv_X3_holds : Cond.instanceMethod yX3_holds ∈ lw_ws ∧ Cond.selects yX3_holds.cls yX3_holds yX3_holds ∈ lw_ws := ⟨ws_at 834 rfl rfl, ws_at 835 rfl rfl⟩
set_option maxRecDepth 100000 in
theorem cd_X3_placeOf : Cond.code yX3_placeOf cX3_placeOf 3 (some .int) ∈ lw_ws := ws_at 477 rfl rfl
set_option maxRecDepth 100000 in
theorem iv_X3_placeOf : Cond.instanceMethod yX3_placeOf ∈ lw_ws ∧ Cond.selects yX3_placeOf.cls yX3_placeOf yX3_placeOf ∈ lw_ws := ⟨ws_at 476 rfl rfl, ws_at 15 rfl rfl⟩
set_option maxRecDepth 100000 in
theorem cd_X3_hold : Cond.code yX3_hold cX3_hold 4 none ∈ lw_ws := ws_at 473 rfl rfl
set_option maxRecDepth 100000 in
theorem iv_X3_hold : Cond.instanceMethod yX3_hold ∈ lw_ws ∧ Cond.selects yX3_hold.cls yX3_hold yX3_hold ∈ lw_ws := ⟨ws_at 471 rfl rfl, ws_at 472 rfl rfl⟩
set_option maxRecDepth 100000 in
theorem cd_X3_giveUp : Cond.code yX3_giveUp cX3_giveUp 2 none ∈ lw_ws := ws_at 349 rfl rfl
set_option maxRecDepth 100000 in
theorem iv_X3_giveUp : Cond.instanceMethod yX3_giveUp ∈ lw_ws ∧ Cond.selects yX3_giveUp.cls yX3_giveUp yX3_giveUp ∈ lw_ws := ⟨ws_at 348 rfl rfl, ws_at 1 rfl rfl⟩
set_option maxRecDepth 100000 in
theorem cd_X3_shrinkTo : Cond.code yX3_shrinkTo cX3_shrinkTo 3 none ∈ lw_ws := ws_at 345 rfl rfl
set_option maxRecDepth 100000 in
theorem iv_X3_shrinkTo : Cond.instanceMethod yX3_shrinkTo ∈ lw_ws ∧ Cond.selects yX3_shrinkTo.cls yX3_shrinkTo yX3_shrinkTo ∈ lw_ws := ⟨ws_at 343 rfl rfl, ws_at 344 rfl rfl⟩
set_option maxRecDepth 100000 in
theorem cd_X3_giveUpFree : Cond.code yX3_giveUpFree cX3_giveUpFree 3 none ∈ lw_ws := ws_at 694 rfl rfl
set_option maxRecDepth 100000 in
theorem iv_X3_giveUpFree : Cond.instanceMethod yX3_giveUpFree ∈ lw_ws ∧ Cond.selects yX3_giveUpFree.cls yX3_giveUpFree yX3_giveUpFree ∈ lw_ws := ⟨ws_at 692 rfl rfl, ws_at 693 rfl rfl⟩
set_option maxRecDepth 100000 in
theorem cd_X3_giveUpAll : Cond.code yX3_giveUpAll cX3_giveUpAll 1 none ∈ lw_ws := ws_at 686 rfl rfl
set_option maxRecDepth 100000 in
theorem iv_X3_giveUpAll : Cond.instanceMethod yX3_giveUpAll ∈ lw_ws ∧ Cond.selects yX3_giveUpAll.cls yX3_giveUpAll yX3_giveUpAll ∈ lw_ws := ⟨ws_at 684 rfl rfl, ws_at 685 rfl rfl⟩
set_option maxRecDepth 100000 in
theorem cd_X4_inUse : Cond.code yX4_inUse cX4_inUse 2 (some .int) ∈ lw_ws := ws_at 463 rfl rfl
set_option maxRecDepth 100000 in
theorem st_X4_inUse : Cond.static yX4_inUse ∈ lw_ws := ws_at 462 rfl rfl
set_option maxRecDepth 100000 in
theorem cd_X4_pageAt : Cond.code yX4_pageAt cX4_pageAt 3 (some .int) ∈ lw_ws := ws_at 469 rfl rfl
set_option maxRecDepth 100000 in
theorem st_X4_pageAt : Cond.static yX4_pageAt ∈ lw_ws := ws_at 468 rfl rfl
set_option maxRecDepth 100000 in
theorem cd_X4_fenceAt : Cond.code yX4_fenceAt cX4_fenceAt 2 (some .int) ∈ lw_ws := ws_at 466 rfl rfl
set_option maxRecDepth 100000 in
theorem st_X4_fenceAt : Cond.static yX4_fenceAt ∈ lw_ws := ws_at 465 rfl rfl
set_option maxRecDepth 100000 in
theorem cd_X4_orderFor : Cond.code yX4_orderFor cX4_orderFor 5 (some .int) ∈ lw_ws := ws_at 460 rfl rfl
set_option maxRecDepth 100000 in
theorem st_X4_orderFor : Cond.static yX4_orderFor ∈ lw_ws := ws_at 459 rfl rfl
set_option maxRecDepth 100000 in
theorem cd_X4_isUsed : Cond.code yX4_isUsed cX4_isUsed 4 (some .boolean) ∈ lw_ws := ws_at 609 rfl rfl
set_option maxRecDepth 100000 in
theorem st_X4_isUsed : Cond.static yX4_isUsed ∈ lw_ws := ws_at 608 rfl rfl
set_option maxRecDepth 100000 in
theorem cd_X4_lowestFree : Cond.code yX4_lowestFree cX4_lowestFree 2 (some .int) ∈ lw_ws := ws_at 606 rfl rfl
set_option maxRecDepth 100000 in
theorem st_X4_lowestFree : Cond.static yX4_lowestFree ∈ lw_ws := ws_at 605 rfl rfl
set_option maxRecDepth 100000 in
theorem cd_X4_packedSize : Cond.code yX4_packedSize cX4_packedSize 2 (some .int) ∈ lw_ws := ws_at 514 rfl rfl
set_option maxRecDepth 100000 in
theorem st_X4_packedSize : Cond.static yX4_packedSize ∈ lw_ws := ws_at 513 rfl rfl
set_option maxRecDepth 100000 in
theorem cd_X4_logStart : Cond.code yX4_logStart cX4_logStart 2 (some .int) ∈ lw_ws := ws_at 528 rfl rfl
set_option maxRecDepth 100000 in
theorem st_X4_logStart : Cond.static yX4_logStart ∈ lw_ws := ws_at 527 rfl rfl
set_option maxRecDepth 100000 in
theorem cd_X4_logEnd : Cond.code yX4_logEnd cX4_logEnd 2 (some .int) ∈ lw_ws := ws_at 559 rfl rfl
set_option maxRecDepth 100000 in
theorem st_X4_logEnd : Cond.static yX4_logEnd ∈ lw_ws := ws_at 558 rfl rfl
set_option maxRecDepth 100000 in
theorem cd_X4_placeBehind : Cond.code yX4_placeBehind cX4_placeBehind 7 (some .int) ∈ lw_ws := ws_at 562 rfl rfl
set_option maxRecDepth 100000 in
theorem st_X4_placeBehind : Cond.static yX4_placeBehind ∈ lw_ws := ws_at 561 rfl rfl
set_option maxRecDepth 100000 in
theorem cd_X4_entryCount : Cond.code yX4_entryCount cX4_entryCount 5 (some .int) ∈ lw_ws := ws_at 829 rfl rfl
set_option maxRecDepth 100000 in
theorem st_X4_entryCount : Cond.static yX4_entryCount ∈ lw_ws := ws_at 828 rfl rfl
set_option maxRecDepth 100000 in
theorem cd_X6_packBest : Cond.code yX6_packBest cX6_packBest 6 (some .int) ∈ lw_ws := ws_at 380 rfl rfl
set_option maxRecDepth 100000 in
theorem iv_X6_packBest : Cond.instanceMethod yX6_packBest ∈ lw_ws ∧ Cond.selects yX6_packBest.cls yX6_packBest yX6_packBest ∈ lw_ws := ⟨ws_at 378 rfl rfl, ws_at 379 rfl rfl⟩
set_option maxRecDepth 100000 in
theorem cd_X6_packRow : Cond.code yX6_packRow cX6_packRow 10 (some .int) ∈ lw_ws := ws_at 384 rfl rfl
set_option maxRecDepth 100000 in
theorem iv_X6_packRow : Cond.instanceMethod yX6_packRow ∈ lw_ws ∧ Cond.selects yX6_packRow.cls yX6_packRow yX6_packRow ∈ lw_ws := ⟨ws_at 382 rfl rfl, ws_at 383 rfl rfl⟩
set_option maxRecDepth 100000 in
theorem cd_X6_filterRow : Cond.code yX6_filterRow cX6_filterRow 8 none ∈ lw_ws := ws_at 391 rfl rfl
set_option maxRecDepth 100000 in
theorem iv_X6_filterRow : Cond.instanceMethod yX6_filterRow ∈ lw_ws ∧ Cond.selects yX6_filterRow.cls yX6_filterRow yX6_filterRow ∈ lw_ws := ⟨ws_at 390 rfl rfl, ws_at 4 rfl rfl⟩
set_option maxRecDepth 100000 in
theorem cd_X6_linkSame : Cond.code yX6_linkSame cX6_linkSame 3 none ∈ lw_ws := ws_at 398 rfl rfl
set_option maxRecDepth 100000 in
theorem iv_X6_linkSame : Cond.instanceMethod yX6_linkSame ∈ lw_ws ∧ Cond.selects yX6_linkSame.cls yX6_linkSame yX6_linkSame ∈ lw_ws := ⟨ws_at 397 rfl rfl, ws_at 5 rfl rfl⟩
set_option maxRecDepth 100000 in
theorem cd_X6_longestLike : Cond.code yX6_longestLike cX6_longestLike 8 (some .int) ∈ lw_ws := ws_at 402 rfl rfl
set_option maxRecDepth 100000 in
theorem iv_X6_longestLike : Cond.instanceMethod yX6_longestLike ∈ lw_ws ∧ Cond.selects yX6_longestLike.cls yX6_longestLike yX6_longestLike ∈ lw_ws := ⟨ws_at 401 rfl rfl, ws_at 6 rfl rfl⟩
set_option maxRecDepth 100000 in
theorem cd_X6_tellSingles : Cond.code yX6_tellSingles cX6_tellSingles 6 (some .int) ∈ lw_ws := ws_at 406 rfl rfl
set_option maxRecDepth 100000 in
theorem iv_X6_tellSingles : Cond.instanceMethod yX6_tellSingles ∈ lw_ws ∧ Cond.selects yX6_tellSingles.cls yX6_tellSingles yX6_tellSingles ∈ lw_ws := ⟨ws_at 405 rfl rfl, ws_at 7 rfl rfl⟩
set_option maxRecDepth 100000 in
theorem cd_X6_unpackRow : Cond.code yX6_unpackRow cX6_unpackRow 10 (some .int) ∈ lw_ws := ws_at 420 rfl rfl
set_option maxRecDepth 100000 in
theorem iv_X6_unpackRow : Cond.instanceMethod yX6_unpackRow ∈ lw_ws ∧ Cond.selects yX6_unpackRow.cls yX6_unpackRow yX6_unpackRow ∈ lw_ws := ⟨ws_at 418 rfl rfl, ws_at 419 rfl rfl⟩
set_option maxRecDepth 100000 in
theorem cd_X6_unpackSingles : Cond.code yX6_unpackSingles cX6_unpackSingles 6 (some .int) ∈ lw_ws := ws_at 424 rfl rfl
set_option maxRecDepth 100000 in
theorem iv_X6_unpackSingles : Cond.instanceMethod yX6_unpackSingles ∈ lw_ws ∧ Cond.selects yX6_unpackSingles.cls yX6_unpackSingles yX6_unpackSingles ∈ lw_ws := ⟨ws_at 423 rfl rfl, ws_at 9 rfl rfl⟩
set_option maxRecDepth 100000 in
theorem cd_X6_unpackLike : Cond.code yX6_unpackLike cX6_unpackLike 8 (some .int) ∈ lw_ws := ws_at 429 rfl rfl
set_option maxRecDepth 100000 in
theorem iv_X6_unpackLike : Cond.instanceMethod yX6_unpackLike ∈ lw_ws ∧ Cond.selects yX6_unpackLike.cls yX6_unpackLike yX6_unpackLike ∈ lw_ws := ⟨ws_at 428 rfl rfl, ws_at 10 rfl rfl⟩
set_option maxRecDepth 100000 in
theorem cd_X6_turnBack : Cond.code yX6_turnBack cX6_turnBack 7 none ∈ lw_ws := ws_at 433 rfl rfl
set_option maxRecDepth 100000 in
theorem iv_X6_turnBack : Cond.instanceMethod yX6_turnBack ∈ lw_ws ∧ Cond.selects yX6_turnBack.cls yX6_turnBack yX6_turnBack ∈ lw_ws := ⟨ws_at 432 rfl rfl, ws_at 11 rfl rfl⟩
set_option maxRecDepth 100000 in
theorem cd_X7_keep : Cond.code yX7_keep cX7_keep 5 none ∈ lw_ws := ws_at 637 rfl rfl
set_option maxRecDepth 100000 in
theorem iv_X7_keep : Cond.instanceMethod yX7_keep ∈ lw_ws ∧ Cond.selects yX7_keep.cls yX7_keep yX7_keep ∈ lw_ws := ⟨ws_at 635 rfl rfl, ws_at 636 rfl rfl⟩
set_option maxRecDepth 100000 in
theorem cd_X7_takeBack : Cond.code yX7_takeBack cX7_takeBack 5 (some .int) ∈ lw_ws := ws_at 804 rfl rfl
set_option maxRecDepth 100000 in
theorem iv_X7_takeBack : Cond.instanceMethod yX7_takeBack ∈ lw_ws ∧ Cond.selects yX7_takeBack.cls yX7_takeBack yX7_takeBack ∈ lw_ws := ⟨ws_at 802 rfl rfl, ws_at 803 rfl rfl⟩
set_option maxRecDepth 100000 in
theorem cd_X8_loadOnly : Cond.code yX8_loadOnly cX8_loadOnly 4 none ∈ lw_ws := ws_at 506 rfl rfl
set_option maxRecDepth 100000 in
theorem iv_X8_loadOnly : Cond.instanceMethod yX8_loadOnly ∈ lw_ws ∧ Cond.selects yX8_loadOnly.cls yX8_loadOnly yX8_loadOnly ∈ lw_ws := ⟨ws_at 504 rfl rfl, ws_at 505 rfl rfl⟩
set_option maxRecDepth 100000 in
theorem cd_X8_loadAll : Cond.code yX8_loadAll cX8_loadAll 4 none ∈ lw_ws := ws_at 742 rfl rfl
set_option maxRecDepth 100000 in
theorem iv_X8_loadAll : Cond.instanceMethod yX8_loadAll ∈ lw_ws ∧ Cond.selects yX8_loadAll.cls yX8_loadAll yX8_loadAll ∈ lw_ws := ⟨ws_at 740 rfl rfl, ws_at 741 rfl rfl⟩
set_option maxRecDepth 100000 in
theorem cd_X8_addPage : Cond.code yX8_addPage cX8_addPage 9 none ∈ lw_ws := ws_at 511 rfl rfl
set_option maxRecDepth 100000 in
theorem iv_X8_addPage : Cond.instanceMethod yX8_addPage ∈ lw_ws ∧ Cond.selects yX8_addPage.cls yX8_addPage yX8_addPage ∈ lw_ws := ⟨ws_at 510 rfl rfl, ws_at 16 rfl rfl⟩
set_option maxRecDepth 100000 in
theorem cd_X8_takePlain : Cond.code yX8_takePlain cX8_takePlain 7 none ∈ lw_ws := ws_at 523 rfl rfl
set_option maxRecDepth 100000 in
theorem iv_X8_takePlain : Cond.instanceMethod yX8_takePlain ∈ lw_ws ∧ Cond.selects yX8_takePlain.cls yX8_takePlain yX8_takePlain ∈ lw_ws := ⟨ws_at 522 rfl rfl, ws_at 17 rfl rfl⟩
set_option maxRecDepth 100000 in
theorem cd_X8_refusalOf : Cond.code yX8_refusalOf cX8_refusalOf 7 (some .int) ∈ lw_ws := ws_at 540 rfl rfl
set_option maxRecDepth 100000 in
theorem iv_X8_refusalOf : Cond.instanceMethod yX8_refusalOf ∈ lw_ws ∧ Cond.selects yX8_refusalOf.cls yX8_refusalOf yX8_refusalOf ∈ lw_ws := ⟨ws_at 538 rfl rfl, ws_at 539 rfl rfl⟩
set_option maxRecDepth 100000 in
theorem cd_X8_holdsBytes : Cond.code yX8_holdsBytes cX8_holdsBytes 5 (some .boolean) ∈ lw_ws := ws_at 544 rfl rfl
set_option maxRecDepth 100000 in
theorem iv_X8_holdsBytes : Cond.instanceMethod yX8_holdsBytes ∈ lw_ws ∧ Cond.selects yX8_holdsBytes.cls yX8_holdsBytes yX8_holdsBytes ∈ lw_ws := ⟨ws_at 543 rfl rfl, ws_at 18 rfl rfl⟩
set_option maxRecDepth 100000 in
theorem cd_X8_apply : Cond.code yX8_apply cX8_apply 7 none ∈ lw_ws := ws_at 534 rfl rfl
set_option maxRecDepth 100000 in
theorem iv_X8_apply : Cond.instanceMethod yX8_apply ∈ lw_ws ∧ Cond.selects yX8_apply.cls yX8_apply yX8_apply ∈ lw_ws := ⟨ws_at 532 rfl rfl, ws_at 533 rfl rfl⟩
set_option maxRecDepth 100000 in
theorem cd_X8_sizeOf : Cond.code yX8_sizeOf cX8_sizeOf 2 (some .int) ∈ lw_ws := ws_at 752 rfl rfl
set_option maxRecDepth 100000 in
theorem iv_X8_sizeOf : Cond.instanceMethod yX8_sizeOf ∈ lw_ws ∧ Cond.selects yX8_sizeOf.cls yX8_sizeOf yX8_sizeOf ∈ lw_ws := ⟨ws_at 750 rfl rfl, ws_at 751 rfl rfl⟩
set_option maxRecDepth 100000 in
theorem cd_X8_byteOf : Cond.code yX8_byteOf cX8_byteOf 3 (some .int) ∈ lw_ws := ws_at 795 rfl rfl
set_option maxRecDepth 100000 in
theorem iv_X8_byteOf : Cond.instanceMethod yX8_byteOf ∈ lw_ws ∧ Cond.selects yX8_byteOf.cls yX8_byteOf yX8_byteOf ∈ lw_ws := ⟨ws_at 793 rfl rfl, ws_at 794 rfl rfl⟩
set_option maxRecDepth 100000 in
theorem cd_X8_countIn : Cond.code yX8_countIn cX8_countIn 5 (some .int) ∈ lw_ws := ws_at 580 rfl rfl
set_option maxRecDepth 100000 in
theorem iv_X8_countIn : Cond.instanceMethod yX8_countIn ∈ lw_ws ∧ Cond.selects yX8_countIn.cls yX8_countIn yX8_countIn ∈ lw_ws := ⟨ws_at 578 rfl rfl, ws_at 579 rfl rfl⟩
set_option maxRecDepth 100000 in
theorem cd_X8_plainSize : Cond.code yX8_plainSize cX8_plainSize 5 (some .int) ∈ lw_ws := ws_at 548 rfl rfl
set_option maxRecDepth 100000 in
theorem iv_X8_plainSize : Cond.instanceMethod yX8_plainSize ∈ lw_ws ∧ Cond.selects yX8_plainSize.cls yX8_plainSize yX8_plainSize ∈ lw_ws := ⟨ws_at 546 rfl rfl, ws_at 547 rfl rfl⟩
set_option maxRecDepth 100000 in
theorem cd_X8_lowestIn : Cond.code yX8_lowestIn cX8_lowestIn 4 (some .int) ∈ lw_ws := ws_at 599 rfl rfl
set_option maxRecDepth 100000 in
theorem iv_X8_lowestIn : Cond.instanceMethod yX8_lowestIn ∈ lw_ws ∧ Cond.selects yX8_lowestIn.cls yX8_lowestIn yX8_lowestIn ∈ lw_ws := ⟨ws_at 597 rfl rfl, ws_at 598 rfl rfl⟩
set_option maxRecDepth 100000 in
theorem cd_X8_cutOf : Cond.code yX8_cutOf cX8_cutOf 6 (some .int) ∈ lw_ws := ws_at 624 rfl rfl
set_option maxRecDepth 100000 in
theorem iv_X8_cutOf : Cond.instanceMethod yX8_cutOf ∈ lw_ws ∧ Cond.selects yX8_cutOf.cls yX8_cutOf yX8_cutOf ∈ lw_ws := ⟨ws_at 622 rfl rfl, ws_at 623 rfl rfl⟩
set_option maxRecDepth 100000 in
theorem cd_X8_layOut : Cond.code yX8_layOut cX8_layOut 6 (some .int) ∈ lw_ws := ws_at 584 rfl rfl
set_option maxRecDepth 100000 in
theorem iv_X8_layOut : Cond.instanceMethod yX8_layOut ∈ lw_ws ∧ Cond.selects yX8_layOut.cls yX8_layOut yX8_layOut ∈ lw_ws := ⟨ws_at 582 rfl rfl, ws_at 583 rfl rfl⟩
set_option maxRecDepth 100000 in
theorem cd_X9_terms : Cond.code yX9_terms cX9_terms 4 (some .int) ∈ lw_ws := ws_at 333 rfl rfl
set_option maxRecDepth 100000 in
theorem iv_X9_terms : Cond.instanceMethod yX9_terms ∈ lw_ws ∧ Cond.selects yX9_terms.cls yX9_terms yX9_terms ∈ lw_ws := ⟨ws_at 331 rfl rfl, ws_at 332 rfl rfl⟩
set_option maxRecDepth 100000 in
theorem cd_X9_feed : Cond.code yX9_feed cX9_feed 6 (some .int) ∈ lw_ws := ws_at 360 rfl rfl
set_option maxRecDepth 100000 in
theorem iv_X9_feed : Cond.instanceMethod yX9_feed ∈ lw_ws ∧ Cond.selects yX9_feed.cls yX9_feed yX9_feed ∈ lw_ws := ⟨ws_at 358 rfl rfl, ws_at 359 rfl rfl⟩
set_option maxRecDepth 100000 in
theorem cd_X9_end : Cond.code yX9_end cX9_end 2 (some .int) ∈ lw_ws := ws_at 368 rfl rfl
set_option maxRecDepth 100000 in
theorem iv_X9_end : Cond.instanceMethod yX9_end ∈ lw_ws ∧ Cond.selects yX9_end.cls yX9_end yX9_end ∈ lw_ws := ⟨ws_at 366 rfl rfl, ws_at 367 rfl rfl⟩
set_option maxRecDepth 100000 in
theorem cd_X9_tape : Cond.code yX9_tape cX9_tape 2 (some .int) ∈ lw_ws := ws_at 372 rfl rfl
set_option maxRecDepth 100000 in
theorem iv_X9_tape : Cond.instanceMethod yX9_tape ∈ lw_ws ∧ Cond.selects yX9_tape.cls yX9_tape yX9_tape ∈ lw_ws := ⟨ws_at 370 rfl rfl, ws_at 371 rfl rfl⟩
set_option maxRecDepth 100000 in
theorem cd_X9_pack : Cond.code yX9_pack cX9_pack 4 (some .int) ∈ lw_ws := ws_at 376 rfl rfl
set_option maxRecDepth 100000 in
theorem iv_X9_pack : Cond.instanceMethod yX9_pack ∈ lw_ws ∧ Cond.selects yX9_pack.cls yX9_pack yX9_pack ∈ lw_ws := ⟨ws_at 374 rfl rfl, ws_at 375 rfl rfl⟩
set_option maxRecDepth 100000 in
theorem cd_X9_unpack : Cond.code yX9_unpack cX9_unpack 4 (some .int) ∈ lw_ws := ws_at 416 rfl rfl
set_option maxRecDepth 100000 in
theorem iv_X9_unpack : Cond.instanceMethod yX9_unpack ∈ lw_ws ∧ Cond.selects yX9_unpack.cls yX9_unpack yX9_unpack ∈ lw_ws := ⟨ws_at 414 rfl rfl, ws_at 415 rfl rfl⟩
set_option maxRecDepth 100000 in
theorem cd_X9_flaw : Cond.code yX9_flaw cX9_flaw 1 (some .int) ∈ lw_ws := ws_at 437 rfl rfl
set_option maxRecDepth 100000 in
theorem iv_X9_flaw : Cond.instanceMethod yX9_flaw ∈ lw_ws ∧ Cond.selects yX9_flaw.cls yX9_flaw yX9_flaw ∈ lw_ws := ⟨ws_at 435 rfl rfl, ws_at 436 rfl rfl⟩
set_option maxRecDepth 100000 in
theorem cd_X9_put : Cond.code yX9_put cX9_put 2 (some .int) ∈ lw_ws := ws_at 441 rfl rfl
set_option maxRecDepth 100000 in
theorem iv_X9_put : Cond.instanceMethod yX9_put ∈ lw_ws ∧ Cond.selects yX9_put.cls yX9_put yX9_put ∈ lw_ws := ⟨ws_at 439 rfl rfl, ws_at 440 rfl rfl⟩
set_option maxRecDepth 100000 in
theorem cd_X9_grow : Cond.code yX9_grow cX9_grow 2 (some .int) ∈ lw_ws := ws_at 704 rfl rfl
set_option maxRecDepth 100000 in
theorem iv_X9_grow : Cond.instanceMethod yX9_grow ∈ lw_ws ∧ Cond.selects yX9_grow.cls yX9_grow yX9_grow ∈ lw_ws := ⟨ws_at 702 rfl rfl, ws_at 703 rfl rfl⟩
set_option maxRecDepth 100000 in
theorem cd_X9_alter : Cond.code yX9_alter cX9_alter 4 (some .int) ∈ lw_ws := ws_at 708 rfl rfl
set_option maxRecDepth 100000 in
theorem iv_X9_alter : Cond.instanceMethod yX9_alter ∈ lw_ws ∧ Cond.selects yX9_alter.cls yX9_alter yX9_alter ∈ lw_ws := ⟨ws_at 706 rfl rfl, ws_at 707 rfl rfl⟩
set_option maxRecDepth 100000 in
theorem cd_X9_erase : Cond.code yX9_erase cX9_erase 2 (some .int) ∈ lw_ws := ws_at 712 rfl rfl
set_option maxRecDepth 100000 in
theorem iv_X9_erase : Cond.instanceMethod yX9_erase ∈ lw_ws ∧ Cond.selects yX9_erase.cls yX9_erase yX9_erase ∈ lw_ws := ⟨ws_at 710 rfl rfl, ws_at 711 rfl rfl⟩
set_option maxRecDepth 100000 in
theorem cd_X9_group : Cond.code yX9_group cX9_group 2 (some .int) ∈ lw_ws := ws_at 716 rfl rfl
set_option maxRecDepth 100000 in
theorem iv_X9_group : Cond.instanceMethod yX9_group ∈ lw_ws ∧ Cond.selects yX9_group.cls yX9_group yX9_group ∈ lw_ws := ⟨ws_at 714 rfl rfl, ws_at 715 rfl rfl⟩
set_option maxRecDepth 100000 in
theorem cd_X9_compact : Cond.code yX9_compact cX9_compact 2 (some .int) ∈ lw_ws := ws_at 734 rfl rfl
set_option maxRecDepth 100000 in
theorem iv_X9_compact : Cond.instanceMethod yX9_compact ∈ lw_ws ∧ Cond.selects yX9_compact.cls yX9_compact yX9_compact ∈ lw_ws := ⟨ws_at 732 rfl rfl, ws_at 733 rfl rfl⟩
set_option maxRecDepth 100000 in
theorem cd_X9_fuse : Cond.code yX9_fuse cX9_fuse 3 (some .int) ∈ lw_ws := ws_at 761 rfl rfl
set_option maxRecDepth 100000 in
theorem iv_X9_fuse : Cond.instanceMethod yX9_fuse ∈ lw_ws ∧ Cond.selects yX9_fuse.cls yX9_fuse yX9_fuse ∈ lw_ws := ⟨ws_at 759 rfl rfl, ws_at 760 rfl rfl⟩
set_option maxRecDepth 100000 in
theorem cd_X9_recover : Cond.code yX9_recover cX9_recover 1 (some .int) ∈ lw_ws := ws_at 765 rfl rfl
set_option maxRecDepth 100000 in
theorem iv_X9_recover : Cond.instanceMethod yX9_recover ∈ lw_ws ∧ Cond.selects yX9_recover.cls yX9_recover yX9_recover ∈ lw_ws := ⟨ws_at 763 rfl rfl, ws_at 764 rfl rfl⟩
set_option maxRecDepth 100000 in
theorem cd_X9_written : Cond.code yX9_written cX9_written 1 (some .int) ∈ lw_ws := ws_at 785 rfl rfl
set_option maxRecDepth 100000 in
theorem iv_X9_written : Cond.instanceMethod yX9_written ∈ lw_ws ∧ Cond.selects yX9_written.cls yX9_written yX9_written ∈ lw_ws := ⟨ws_at 783 rfl rfl, ws_at 784 rfl rfl⟩
set_option maxRecDepth 100000 in
theorem cd_X9_fetch : Cond.code yX9_fetch cX9_fetch 5 (some .int) ∈ lw_ws := ws_at 789 rfl rfl
set_option maxRecDepth 100000 in
theorem iv_X9_fetch : Cond.instanceMethod yX9_fetch ∈ lw_ws ∧ Cond.selects yX9_fetch.cls yX9_fetch yX9_fetch ∈ lw_ws := ⟨ws_at 787 rfl rfl, ws_at 788 rfl rfl⟩
set_option maxRecDepth 100000 in
theorem cd_X9_undo : Cond.code yX9_undo cX9_undo 2 (some .int) ∈ lw_ws := ws_at 800 rfl rfl
set_option maxRecDepth 100000 in
theorem iv_X9_undo : Cond.instanceMethod yX9_undo ∈ lw_ws ∧ Cond.selects yX9_undo.cls yX9_undo yX9_undo ∈ lw_ws := ⟨ws_at 798 rfl rfl, ws_at 799 rfl rfl⟩
set_option maxRecDepth 100000 in
theorem cd_X9_value : Cond.code yX9_value cX9_value 4 (some .int) ∈ lw_ws := ws_at 808 rfl rfl
set_option maxRecDepth 100000 in
theorem iv_X9_value : Cond.instanceMethod yX9_value ∈ lw_ws ∧ Cond.selects yX9_value.cls yX9_value yX9_value ∈ lw_ws := ⟨ws_at 806 rfl rfl, ws_at 807 rfl rfl⟩
set_option maxRecDepth 100000 in
theorem cd_X9_next : Cond.code yX9_next cX9_next 2 (some .int) ∈ lw_ws := ws_at 812 rfl rfl
set_option maxRecDepth 100000 in
theorem iv_X9_next : Cond.instanceMethod yX9_next ∈ lw_ws ∧ Cond.selects yX9_next.cls yX9_next yX9_next ∈ lw_ws := ⟨ws_at 810 rfl rfl, ws_at 811 rfl rfl⟩
set_option maxRecDepth 100000 in
theorem cd_X9_page : Cond.code yX9_page cX9_page 4 (some .int) ∈ lw_ws := ws_at 818 rfl rfl
set_option maxRecDepth 100000 in
theorem iv_X9_page : Cond.instanceMethod yX9_page ∈ lw_ws ∧ Cond.selects yX9_page.cls yX9_page yX9_page ∈ lw_ws := ⟨ws_at 816 rfl rfl, ws_at 817 rfl rfl⟩
set_option maxRecDepth 100000 in
theorem cd_X9_packing : Cond.code yX9_packing cX9_packing 4 (some .int) ∈ lw_ws := ws_at 840 rfl rfl
set_option maxRecDepth 100000 in
theorem iv_X9_packing : Cond.instanceMethod yX9_packing ∈ lw_ws ∧ Cond.selects yX9_packing.cls yX9_packing yX9_packing ∈ lw_ws := ⟨ws_at 838 rfl rfl, ws_at 839 rfl rfl⟩
set_option maxRecDepth 100000 in
theorem cd_X9_entry : Cond.code yX9_entry cX9_entry 7 (some .int) ∈ lw_ws := ws_at 845 rfl rfl
set_option maxRecDepth 100000 in
theorem iv_X9_entry : Cond.instanceMethod yX9_entry ∈ lw_ws ∧ Cond.selects yX9_entry.cls yX9_entry yX9_entry ∈ lw_ws := ⟨ws_at 843 rfl rfl, ws_at 844 rfl rfl⟩
set_option maxRecDepth 100000 in
theorem cd_X9_behind : Cond.code yX9_behind cX9_behind 5 (some .int) ∈ lw_ws := ws_at 852 rfl rfl
set_option maxRecDepth 100000 in
theorem iv_X9_behind : Cond.instanceMethod yX9_behind ∈ lw_ws ∧ Cond.selects yX9_behind.cls yX9_behind yX9_behind ∈ lw_ws := ⟨ws_at 850 rfl rfl, ws_at 851 rfl rfl⟩
set_option maxRecDepth 100000 in
theorem cd_X9_would : Cond.code yX9_would cX9_would 4 (some .int) ∈ lw_ws := ws_at 856 rfl rfl
set_option maxRecDepth 100000 in
theorem iv_X9_would : Cond.instanceMethod yX9_would ∈ lw_ws ∧ Cond.selects yX9_would.cls yX9_would yX9_would ∈ lw_ws := ⟨ws_at 854 rfl rfl, ws_at 855 rfl rfl⟩
set_option maxRecDepth 100000 in
theorem cd_X9_block : Cond.code yX9_block cX9_block 3 (some .int) ∈ lw_ws := ws_at 864 rfl rfl
set_option maxRecDepth 100000 in
theorem iv_X9_block : Cond.instanceMethod yX9_block ∈ lw_ws ∧ Cond.selects yX9_block.cls yX9_block yX9_block ∈ lw_ws := ⟨ws_at 862 rfl rfl, ws_at 863 rfl rfl⟩
set_option maxRecDepth 100000 in
theorem cd_X9_directory : Cond.code yX9_directory cX9_directory 2 (some .int) ∈ lw_ws := ws_at 868 rfl rfl
set_option maxRecDepth 100000 in
theorem iv_X9_directory : Cond.instanceMethod yX9_directory ∈ lw_ws ∧ Cond.selects yX9_directory.cls yX9_directory yX9_directory ∈ lw_ws := ⟨ws_at 866 rfl rfl, ws_at 867 rfl rfl⟩
set_option maxRecDepth 100000 in
theorem cd_X9_journal : Cond.code yX9_journal cX9_journal 2 (some .int) ∈ lw_ws := ws_at 872 rfl rfl
set_option maxRecDepth 100000 in
theorem iv_X9_journal : Cond.instanceMethod yX9_journal ∈ lw_ws ∧ Cond.selects yX9_journal.cls yX9_journal yX9_journal ∈ lw_ws := ⟨ws_at 870 rfl rfl, ws_at 871 rfl rfl⟩
set_option maxRecDepth 100000 in
theorem cd_X9_count : Cond.code yX9_count cX9_count 2 (some .int) ∈ lw_ws := ws_at 876 rfl rfl
set_option maxRecDepth 100000 in
theorem iv_X9_count : Cond.instanceMethod yX9_count ∈ lw_ws ∧ Cond.selects yX9_count.cls yX9_count yX9_count ∈ lw_ws := ⟨ws_at 874 rfl rfl, ws_at 875 rfl rfl⟩
set_option maxRecDepth 100000 in
theorem cd_X9_status : Cond.code yX9_status cX9_status 1 (some .int) ∈ lw_ws := ws_at 884 rfl rfl
set_option maxRecDepth 100000 in
theorem iv_X9_status : Cond.instanceMethod yX9_status ∈ lw_ws ∧ Cond.selects yX9_status.cls yX9_status yX9_status ∈ lw_ws := ⟨ws_at 882 rfl rfl, ws_at 883 rfl rfl⟩
set_option maxRecDepth 100000 in
theorem cd_X9_isByte : Cond.code yX9_isByte cX9_isByte 1 (some .boolean) ∈ lw_ws := ws_at 444 rfl rfl
set_option maxRecDepth 100000 in
theorem st_X9_isByte : Cond.static yX9_isByte ∈ lw_ws := ws_at 443 rfl rfl
set_option maxRecDepth 100000 in
theorem cd_X9_isOrder : Cond.code yX9_isOrder cX9_isOrder 2 (some .boolean) ∈ lw_ws := ws_at 822 rfl rfl
set_option maxRecDepth 100000 in
theorem iv_X9_isOrder : Cond.instanceMethod yX9_isOrder ∈ lw_ws ∧ Cond.selects yX9_isOrder.cls yX9_isOrder yX9_isOrder ∈ lw_ws := ⟨ws_at 821 rfl rfl, ws_at 40 rfl rfl⟩
set_option maxRecDepth 100000 in
theorem cd_X9_pageFor : Cond.code yX9_pageFor cX9_pageFor 2 (some .int) ∈ lw_ws := ws_at 457 rfl rfl
set_option maxRecDepth 100000 in
theorem iv_X9_pageFor : Cond.instanceMethod yX9_pageFor ∈ lw_ws ∧ Cond.selects yX9_pageFor.cls yX9_pageFor yX9_pageFor ∈ lw_ws := ⟨ws_at 456 rfl rfl, ws_at 14 rfl rfl⟩
set_option maxRecDepth 100000 in
theorem cd_X9_accept : Cond.code yX9_accept cX9_accept 2 (some .int) ∈ lw_ws := ws_at 356 rfl rfl
set_option maxRecDepth 100000 in
theorem iv_X9_accept : Cond.instanceMethod yX9_accept ∈ lw_ws ∧ Cond.selects yX9_accept.cls yX9_accept yX9_accept ∈ lw_ws := ⟨ws_at 355 rfl rfl, ws_at 2 rfl rfl⟩
set_option maxRecDepth 100000 in
theorem cd_X9_refuse : Cond.code yX9_refuse cX9_refuse 3 (some .int) ∈ lw_ws := ws_at 341 rfl rfl
set_option maxRecDepth 100000 in
theorem iv_X9_refuse : Cond.instanceMethod yX9_refuse ∈ lw_ws ∧ Cond.selects yX9_refuse.cls yX9_refuse yX9_refuse ∈ lw_ws := ⟨ws_at 340 rfl rfl, ws_at 0 rfl rfl⟩
set_option maxRecDepth 100000 in
theorem cd_X9_tellCutOff : Cond.code yX9_tellCutOff cX9_tellCutOff 1 (some .int) ∈ lw_ws := ws_at 690 rfl rfl
set_option maxRecDepth 100000 in
theorem iv_X9_tellCutOff : Cond.instanceMethod yX9_tellCutOff ∈ lw_ws ∧ Cond.selects yX9_tellCutOff.cls yX9_tellCutOff yX9_tellCutOff ∈ lw_ws := ⟨ws_at 689 rfl rfl, ws_at 33 rfl rfl⟩
set_option maxRecDepth 100000 in
theorem cd_X9_addFour : Cond.code yX9_addFour cX9_addFour 3 none ∈ lw_ws := ws_at 364 rfl rfl
set_option maxRecDepth 100000 in
theorem iv_X9_addFour : Cond.instanceMethod yX9_addFour ∈ lw_ws ∧ Cond.selects yX9_addFour.cls yX9_addFour yX9_addFour ∈ lw_ws := ⟨ws_at 363 rfl rfl, ws_at 3 rfl rfl⟩
set_option maxRecDepth 100000 in
theorem cd_X9_takeTape : Cond.code yX9_takeTape cX9_takeTape 3 none ∈ lw_ws := ws_at 411 rfl rfl
set_option maxRecDepth 100000 in
theorem iv_X9_takeTape : Cond.instanceMethod yX9_takeTape ∈ lw_ws ∧ Cond.selects yX9_takeTape.cls yX9_takeTape yX9_takeTape ∈ lw_ws := ⟨ws_at 410 rfl rfl, ws_at 8 rfl rfl⟩
set_option maxRecDepth 100000 in
theorem cd_X9_layFromTape : Cond.code yX9_layFromTape cX9_layFromTape 4 none ∈ lw_ws := ws_at 448 rfl rfl
set_option maxRecDepth 100000 in
theorem iv_X9_layFromTape : Cond.instanceMethod yX9_layFromTape ∈ lw_ws ∧ Cond.selects yX9_layFromTape.cls yX9_layFromTape yX9_layFromTape ∈ lw_ws := ⟨ws_at 447 rfl rfl, ws_at 12 rfl rfl⟩
set_option maxRecDepth 100000 in
theorem cd_X9_editAlone : Cond.code yX9_editAlone cX9_editAlone 4 (some .int) ∈ lw_ws := ws_at 453 rfl rfl
set_option maxRecDepth 100000 in
theorem iv_X9_editAlone : Cond.instanceMethod yX9_editAlone ∈ lw_ws ∧ Cond.selects yX9_editAlone.cls yX9_editAlone yX9_editAlone ∈ lw_ws := ⟨ws_at 452 rfl rfl, ws_at 13 rfl rfl⟩
set_option maxRecDepth 100000 in
theorem cd_X9_carryOut : Cond.code yX9_carryOut cX9_carryOut 3 (some .int) ∈ lw_ws := ws_at 629 rfl rfl
set_option maxRecDepth 100000 in
theorem iv_X9_carryOut : Cond.instanceMethod yX9_carryOut ∈ lw_ws ∧ Cond.selects yX9_carryOut.cls yX9_carryOut yX9_carryOut ∈ lw_ws := ⟨ws_at 628 rfl rfl, ws_at 27 rfl rfl⟩
set_option maxRecDepth 100000 in
theorem cd_X9_keepAndLearn : Cond.code yX9_keepAndLearn cX9_keepAndLearn 2 none ∈ lw_ws := ws_at 633 rfl rfl
set_option maxRecDepth 100000 in
theorem iv_X9_keepAndLearn : Cond.instanceMethod yX9_keepAndLearn ∈ lw_ws ∧ Cond.selects yX9_keepAndLearn.cls yX9_keepAndLearn yX9_keepAndLearn ∈ lw_ws := ⟨ws_at 632 rfl rfl, ws_at 28 rfl rfl⟩
set_option maxRecDepth 100000 in
theorem cd_X9_tellOutcome : Cond.code yX9_tellOutcome cX9_tellOutcome 3 (some .int) ∈ lw_ws := ws_at 682 rfl rfl
set_option maxRecDepth 100000 in
theorem iv_X9_tellOutcome : Cond.instanceMethod yX9_tellOutcome ∈ lw_ws ∧ Cond.selects yX9_tellOutcome.cls yX9_tellOutcome yX9_tellOutcome ∈ lw_ws := ⟨ws_at 681 rfl rfl, ws_at 32 rfl rfl⟩
set_option maxRecDepth 100000 in
theorem cd_X9_rehearse : Cond.code yX9_rehearse cX9_rehearse 4 (some .int) ∈ lw_ws := ws_at 720 rfl rfl
set_option maxRecDepth 100000 in
theorem iv_X9_rehearse : Cond.instanceMethod yX9_rehearse ∈ lw_ws ∧ Cond.selects yX9_rehearse.cls yX9_rehearse yX9_rehearse ∈ lw_ws := ⟨ws_at 719 rfl rfl, ws_at 34 rfl rfl⟩
set_option maxRecDepth 100000 in
theorem cd_X9_firstUnreadable : Cond.code yX9_firstUnreadable cX9_firstUnreadable 4 (some .int) ∈ lw_ws := ws_at 724 rfl rfl
set_option maxRecDepth 100000 in
theorem iv_X9_firstUnreadable : Cond.instanceMethod yX9_firstUnreadable ∈ lw_ws ∧ Cond.selects yX9_firstUnreadable.cls yX9_firstUnreadable yX9_firstUnreadable ∈ lw_ws := ⟨ws_at 723 rfl rfl, ws_at 35 rfl rfl⟩
set_option maxRecDepth 100000 in
theorem cd_X9_countOnDisk : Cond.code yX9_countOnDisk cX9_countOnDisk 5 (some .int) ∈ lw_ws := ws_at 880 rfl rfl
set_option maxRecDepth 100000 in
theorem iv_X9_countOnDisk : Cond.instanceMethod yX9_countOnDisk ∈ lw_ws ∧ Cond.selects yX9_countOnDisk.cls yX9_countOnDisk yX9_countOnDisk ∈ lw_ws := ⟨ws_at 879 rfl rfl, ws_at 41 rfl rfl⟩
set_option maxRecDepth 100000 in
theorem cd_X10_refuses : Cond.code yX10_refuses cX10_refuses 2 (some .int) ∈ lw_ws := ws_at 1022 rfl rfl
set_option maxRecDepth 100000 in
theorem iv_X10_refuses : Cond.instanceMethod yX10_refuses ∈ lw_ws ∧ Cond.selects yX10_refuses.cls yX10_refuses yX10_refuses ∈ lw_ws := ⟨ws_at 1021 rfl rfl, ws_at 42 rfl rfl⟩
set_option maxRecDepth 100000 in
theorem cd_X10_tells : Cond.code yX10_tells cX10_tells 2 (some .int) ∈ lw_ws := ws_at 1030 rfl rfl
set_option maxRecDepth 100000 in
theorem iv_X10_tells : Cond.instanceMethod yX10_tells ∈ lw_ws ∧ Cond.selects yX10_tells.cls yX10_tells yX10_tells ∈ lw_ws := ⟨ws_at 1029 rfl rfl, ws_at 44 rfl rfl⟩
set_option maxRecDepth 100000 in
theorem cd_X10_isIn : Cond.code yX10_isIn cX10_isIn 3 (some .boolean) ∈ lw_ws := ws_at 1018 rfl rfl
set_option maxRecDepth 100000 in
theorem st_X10_isIn : Cond.static yX10_isIn ∈ lw_ws := ws_at 1017 rfl rfl
set_option maxRecDepth 100000 in
theorem cd_X10_isDown : Cond.code yX10_isDown cX10_isDown 1 (some .boolean) ∈ lw_ws := ws_at 1117 rfl rfl
set_option maxRecDepth 100000 in
theorem iv_X10_isDown : Cond.instanceMethod yX10_isDown ∈ lw_ws ∧ Cond.selects yX10_isDown.cls yX10_isDown yX10_isDown ∈ lw_ws := ⟨ws_at 1116 rfl rfl, ws_at 57 rfl rfl⟩
set_option maxRecDepth 100000 in
theorem cd_X10_terms : Cond.code yX10_terms cX10_terms 4 (some .int) ∈ lw_ws := ws_at 1015 rfl rfl
set_option maxRecDepth 100000 in
theorem iv_X10_terms : Cond.instanceMethod yX10_terms ∈ lw_ws ∧ Cond.selects yX10_terms.cls yX10_terms yX10_terms ∈ lw_ws := ⟨ws_at 1013 rfl rfl, ws_at 1014 rfl rfl⟩
set_option maxRecDepth 100000 in
theorem cd_X10_types : Cond.code yX10_types cX10_types 3 none ∈ lw_ws := ws_at 1038 rfl rfl
set_option maxRecDepth 100000 in
theorem iv_X10_types : Cond.instanceMethod yX10_types ∈ lw_ws ∧ Cond.selects yX10_types.cls yX10_types yX10_types ∈ lw_ws := ⟨ws_at 1037 rfl rfl, ws_at 45 rfl rfl⟩
set_option maxRecDepth 100000 in
theorem cd_X10_feed : Cond.code yX10_feed cX10_feed 6 (some .int) ∈ lw_ws := ws_at 1034 rfl rfl
set_option maxRecDepth 100000 in
theorem iv_X10_feed : Cond.instanceMethod yX10_feed ∈ lw_ws ∧ Cond.selects yX10_feed.cls yX10_feed yX10_feed ∈ lw_ws := ⟨ws_at 1032 rfl rfl, ws_at 1033 rfl rfl⟩
set_option maxRecDepth 100000 in
theorem cd_X10_end : Cond.code yX10_end cX10_end 2 (some .int) ∈ lw_ws := ws_at 1042 rfl rfl
set_option maxRecDepth 100000 in
theorem iv_X10_end : Cond.instanceMethod yX10_end ∈ lw_ws ∧ Cond.selects yX10_end.cls yX10_end yX10_end ∈ lw_ws := ⟨ws_at 1040 rfl rfl, ws_at 1041 rfl rfl⟩
set_option maxRecDepth 100000 in
theorem cd_X10_tape : Cond.code yX10_tape cX10_tape 2 (some .int) ∈ lw_ws := ws_at 1046 rfl rfl
set_option maxRecDepth 100000 in
theorem iv_X10_tape : Cond.instanceMethod yX10_tape ∈ lw_ws ∧ Cond.selects yX10_tape.cls yX10_tape yX10_tape ∈ lw_ws := ⟨ws_at 1044 rfl rfl, ws_at 1045 rfl rfl⟩
set_option maxRecDepth 100000 in
theorem cd_X10_filteredAt : Cond.code yX10_filteredAt cX10_filteredAt 5 (some .int) ∈ lw_ws := ws_at 1062 rfl rfl
set_option maxRecDepth 100000 in
theorem iv_X10_filteredAt : Cond.instanceMethod yX10_filteredAt ∈ lw_ws ∧ Cond.selects yX10_filteredAt.cls yX10_filteredAt yX10_filteredAt ∈ lw_ws := ⟨ws_at 1061 rfl rfl, ws_at 48 rfl rfl⟩
set_option maxRecDepth 100000 in
theorem cd_X10_likeFrom : Cond.code yX10_likeFrom cX10_likeFrom 4 (some .int) ∈ lw_ws := ws_at 1066 rfl rfl
set_option maxRecDepth 100000 in
theorem iv_X10_likeFrom : Cond.instanceMethod yX10_likeFrom ∈ lw_ws ∧ Cond.selects yX10_likeFrom.cls yX10_likeFrom yX10_likeFrom ∈ lw_ws := ⟨ws_at 1065 rfl rfl, ws_at 49 rfl rfl⟩
set_option maxRecDepth 100000 in
theorem cd_X10_emits : Cond.code yX10_emits cX10_emits 2 none ∈ lw_ws := ws_at 1074 rfl rfl
set_option maxRecDepth 100000 in
theorem iv_X10_emits : Cond.instanceMethod yX10_emits ∈ lw_ws ∧ Cond.selects yX10_emits.cls yX10_emits yX10_emits ∈ lw_ws := ⟨ws_at 1073 rfl rfl, ws_at 51 rfl rfl⟩
set_option maxRecDepth 100000 in
theorem cd_X10_emitsSingle : Cond.code yX10_emitsSingle cX10_emitsSingle 6 none ∈ lw_ws := ws_at 1070 rfl rfl
set_option maxRecDepth 100000 in
theorem iv_X10_emitsSingle : Cond.instanceMethod yX10_emitsSingle ∈ lw_ws ∧ Cond.selects yX10_emitsSingle.cls yX10_emitsSingle yX10_emitsSingle ∈ lw_ws := ⟨ws_at 1069 rfl rfl, ws_at 50 rfl rfl⟩
set_option maxRecDepth 100000 in
theorem cd_X10_packs : Cond.code yX10_packs cX10_packs 8 (some .int) ∈ lw_ws := ws_at 1058 rfl rfl
set_option maxRecDepth 100000 in
theorem iv_X10_packs : Cond.instanceMethod yX10_packs ∈ lw_ws ∧ Cond.selects yX10_packs.cls yX10_packs yX10_packs ∈ lw_ws := ⟨ws_at 1057 rfl rfl, ws_at 47 rfl rfl⟩
set_option maxRecDepth 100000 in
theorem cd_X10_shapeOf : Cond.code yX10_shapeOf cX10_shapeOf 5 (some .int) ∈ lw_ws := ws_at 1054 rfl rfl
set_option maxRecDepth 100000 in
theorem iv_X10_shapeOf : Cond.instanceMethod yX10_shapeOf ∈ lw_ws ∧ Cond.selects yX10_shapeOf.cls yX10_shapeOf yX10_shapeOf ∈ lw_ws := ⟨ws_at 1053 rfl rfl, ws_at 46 rfl rfl⟩
set_option maxRecDepth 100000 in
theorem cd_X10_unpacks : Cond.code yX10_unpacks cX10_unpacks 10 (some .boolean) ∈ lw_ws := ws_at 1082 rfl rfl
set_option maxRecDepth 100000 in
theorem iv_X10_unpacks : Cond.instanceMethod yX10_unpacks ∈ lw_ws ∧ Cond.selects yX10_unpacks.cls yX10_unpacks yX10_unpacks ∈ lw_ws := ⟨ws_at 1081 rfl rfl, ws_at 52 rfl rfl⟩
set_option maxRecDepth 100000 in
theorem cd_X10_comesOut : Cond.code yX10_comesOut cX10_comesOut 2 none ∈ lw_ws := ws_at 1090 rfl rfl
set_option maxRecDepth 100000 in
theorem iv_X10_comesOut : Cond.instanceMethod yX10_comesOut ∈ lw_ws ∧ Cond.selects yX10_comesOut.cls yX10_comesOut yX10_comesOut ∈ lw_ws := ⟨ws_at 1089 rfl rfl, ws_at 54 rfl rfl⟩
set_option maxRecDepth 100000 in
theorem cd_X10_flawed : Cond.code yX10_flawed cX10_flawed 2 (some .boolean) ∈ lw_ws := ws_at 1086 rfl rfl
set_option maxRecDepth 100000 in
theorem iv_X10_flawed : Cond.instanceMethod yX10_flawed ∈ lw_ws ∧ Cond.selects yX10_flawed.cls yX10_flawed yX10_flawed ∈ lw_ws := ⟨ws_at 1085 rfl rfl, ws_at 53 rfl rfl⟩
set_option maxRecDepth 100000 in
theorem cd_X10_pack : Cond.code yX10_pack cX10_pack 3 (some .int) ∈ lw_ws := ws_at 1050 rfl rfl
set_option maxRecDepth 100000 in
theorem iv_X10_pack : Cond.instanceMethod yX10_pack ∈ lw_ws ∧ Cond.selects yX10_pack.cls yX10_pack yX10_pack ∈ lw_ws := ⟨ws_at 1048 rfl rfl, ws_at 1049 rfl rfl⟩
set_option maxRecDepth 100000 in
theorem cd_X10_unpack : Cond.code yX10_unpack cX10_unpack 4 (some .int) ∈ lw_ws := ws_at 1078 rfl rfl
set_option maxRecDepth 100000 in
theorem iv_X10_unpack : Cond.instanceMethod yX10_unpack ∈ lw_ws ∧ Cond.selects yX10_unpack.cls yX10_unpack yX10_unpack ∈ lw_ws := ⟨ws_at 1076 rfl rfl, ws_at 1077 rfl rfl⟩
set_option maxRecDepth 100000 in
theorem cd_X10_flaw : Cond.code yX10_flaw cX10_flaw 1 (some .int) ∈ lw_ws := ws_at 1094 rfl rfl
set_option maxRecDepth 100000 in
theorem iv_X10_flaw : Cond.instanceMethod yX10_flaw ∈ lw_ws ∧ Cond.selects yX10_flaw.cls yX10_flaw yX10_flaw ∈ lw_ws := ⟨ws_at 1092 rfl rfl, ws_at 1093 rfl rfl⟩
set_option maxRecDepth 100000 in
theorem cd_X10_clears : Cond.code yX10_clears cX10_clears 2 none ∈ lw_ws := ws_at 1156 rfl rfl
set_option maxRecDepth 100000 in
theorem iv_X10_clears : Cond.instanceMethod yX10_clears ∈ lw_ws ∧ Cond.selects yX10_clears.cls yX10_clears yX10_clears ∈ lw_ws := ⟨ws_at 1155 rfl rfl, ws_at 63 rfl rfl⟩
set_option maxRecDepth 100000 in
theorem cd_X10_recordMany : Cond.code yX10_recordMany cX10_recordMany 3 (some .int) ∈ lw_ws := ws_at 1186 rfl rfl
set_option maxRecDepth 100000 in
theorem iv_X10_recordMany : Cond.instanceMethod yX10_recordMany ∈ lw_ws ∧ Cond.selects yX10_recordMany.cls yX10_recordMany yX10_recordMany ∈ lw_ws := ⟨ws_at 1185 rfl rfl, ws_at 69 rfl rfl⟩
set_option maxRecDepth 100000 in
theorem cd_X10_plainOf : Cond.code yX10_plainOf cX10_plainOf 5 (some .int) ∈ lw_ws := ws_at 1182 rfl rfl
set_option maxRecDepth 100000 in
theorem iv_X10_plainOf : Cond.instanceMethod yX10_plainOf ∈ lw_ws ∧ Cond.selects yX10_plainOf.cls yX10_plainOf yX10_plainOf ∈ lw_ws := ⟨ws_at 1181 rfl rfl, ws_at 68 rfl rfl⟩
set_option maxRecDepth 100000 in
theorem cd_X10_laysPlain : Cond.code yX10_laysPlain cX10_laysPlain 5 none ∈ lw_ws := ws_at 1225 rfl rfl
set_option maxRecDepth 100000 in
theorem iv_X10_laysPlain : Cond.instanceMethod yX10_laysPlain ∈ lw_ws ∧ Cond.selects yX10_laysPlain.cls yX10_laysPlain yX10_laysPlain ∈ lw_ws := ⟨ws_at 1224 rfl rfl, ws_at 78 rfl rfl⟩
set_option maxRecDepth 100000 in
theorem cd_X10_kindOf : Cond.code yX10_kindOf cX10_kindOf 1 (some .int) ∈ lw_ws := ws_at 1148 rfl rfl
set_option maxRecDepth 100000 in
theorem st_X10_kindOf : Cond.static yX10_kindOf ∈ lw_ws := ws_at 1147 rfl rfl
set_option maxRecDepth 100000 in
theorem cd_X10_lengthOf : Cond.code yX10_lengthOf cX10_lengthOf 2 (some .int) ∈ lw_ws := ws_at 1170 rfl rfl
set_option maxRecDepth 100000 in
theorem st_X10_lengthOf : Cond.static yX10_lengthOf ∈ lw_ws := ws_at 1169 rfl rfl
set_option maxRecDepth 100000 in
theorem cd_X10_isEntry : Cond.code yX10_isEntry cX10_isEntry 2 (some .boolean) ∈ lw_ws := ws_at 1304 rfl rfl
set_option maxRecDepth 100000 in
theorem st_X10_isEntry : Cond.static yX10_isEntry ∈ lw_ws := ws_at 1303 rfl rfl
set_option maxRecDepth 100000 in
theorem cd_X10_does : Cond.code yX10_does cX10_does 8 none ∈ lw_ws := ws_at 1174 rfl rfl
set_option maxRecDepth 100000 in
theorem iv_X10_does : Cond.instanceMethod yX10_does ∈ lw_ws ∧ Cond.selects yX10_does.cls yX10_does yX10_does ∈ lw_ws := ⟨ws_at 1173 rfl rfl, ws_at 66 rfl rfl⟩
set_option maxRecDepth 100000 in
theorem cd_X10_cant : Cond.code yX10_cant cX10_cant 7 (some .int) ∈ lw_ws := ws_at 1178 rfl rfl
set_option maxRecDepth 100000 in
theorem iv_X10_cant : Cond.instanceMethod yX10_cant ∈ lw_ws ∧ Cond.selects yX10_cant.cls yX10_cant yX10_cant ∈ lw_ws := ⟨ws_at 1177 rfl rfl, ws_at 67 rfl rfl⟩
set_option maxRecDepth 100000 in
theorem cd_X10_pagesOf : Cond.code yX10_pagesOf cX10_pagesOf 1 (some .int) ∈ lw_ws := ws_at 1127 rfl rfl
set_option maxRecDepth 100000 in
theorem st_X10_pagesOf : Cond.static yX10_pagesOf ∈ lw_ws := ws_at 1126 rfl rfl
set_option maxRecDepth 100000 in
theorem cd_X10_numberOf : Cond.code yX10_numberOf cX10_numberOf 2 (some .int) ∈ lw_ws := ws_at 1133 rfl rfl
set_option maxRecDepth 100000 in
theorem st_X10_numberOf : Cond.static yX10_numberOf ∈ lw_ws := ws_at 1132 rfl rfl
set_option maxRecDepth 100000 in
theorem cd_X10_fenceOf : Cond.code yX10_fenceOf cX10_fenceOf 2 (some .int) ∈ lw_ws := ws_at 1130 rfl rfl
set_option maxRecDepth 100000 in
theorem st_X10_fenceOf : Cond.static yX10_fenceOf ∈ lw_ws := ws_at 1129 rfl rfl
set_option maxRecDepth 100000 in
theorem cd_X10_placeFor : Cond.code yX10_placeFor cX10_placeFor 3 (some .int) ∈ lw_ws := ws_at 1124 rfl rfl
set_option maxRecDepth 100000 in
theorem st_X10_placeFor : Cond.static yX10_placeFor ∈ lw_ws := ws_at 1123 rfl rfl
set_option maxRecDepth 100000 in
theorem cd_X10_laysPacked : Cond.code yX10_laysPacked cX10_laysPacked 8 none ∈ lw_ws := ws_at 1164 rfl rfl
set_option maxRecDepth 100000 in
theorem iv_X10_laysPacked : Cond.instanceMethod yX10_laysPacked ∈ lw_ws ∧ Cond.selects yX10_laysPacked.cls yX10_laysPacked yX10_laysPacked ∈ lw_ws := ⟨ws_at 1163 rfl rfl, ws_at 65 rfl rfl⟩
set_option maxRecDepth 100000 in
theorem cd_X10_entryAt : Cond.code yX10_entryAt cX10_entryAt 6 (some .int) ∈ lw_ws := ws_at 1167 rfl rfl
set_option maxRecDepth 100000 in
theorem st_X10_entryAt : Cond.static yX10_entryAt ∈ lw_ws := ws_at 1166 rfl rfl
set_option maxRecDepth 100000 in
theorem cd_X10_endOf : Cond.code yX10_endOf cX10_endOf 2 (some .int) ∈ lw_ws := ws_at 1193 rfl rfl
set_option maxRecDepth 100000 in
theorem st_X10_endOf : Cond.static yX10_endOf ∈ lw_ws := ws_at 1192 rfl rfl
set_option maxRecDepth 100000 in
theorem cd_X10_entriesOf : Cond.code yX10_entriesOf cX10_entriesOf 4 (some .int) ∈ lw_ws := ws_at 1363 rfl rfl
set_option maxRecDepth 100000 in
theorem st_X10_entriesOf : Cond.static yX10_entriesOf ∈ lw_ws := ws_at 1362 rfl rfl
set_option maxRecDepth 100000 in
theorem cd_X10_lays : Cond.code yX10_lays cX10_lays 6 none ∈ lw_ws := ws_at 1160 rfl rfl
set_option maxRecDepth 100000 in
theorem iv_X10_lays : Cond.instanceMethod yX10_lays ∈ lw_ws ∧ Cond.selects yX10_lays.cls yX10_lays yX10_lays ∈ lw_ws := ⟨ws_at 1159 rfl rfl, ws_at 64 rfl rfl⟩
set_option maxRecDepth 100000 in
theorem cd_X10_laysAlone : Cond.code yX10_laysAlone cX10_laysAlone 3 none ∈ lw_ws := ws_at 1152 rfl rfl
set_option maxRecDepth 100000 in
theorem iv_X10_laysAlone : Cond.instanceMethod yX10_laysAlone ∈ lw_ws ∧ Cond.selects yX10_laysAlone.cls yX10_laysAlone yX10_laysAlone ∈ lw_ws := ⟨ws_at 1151 rfl rfl, ws_at 62 rfl rfl⟩
set_option maxRecDepth 100000 in
theorem cd_X10_laysAll : Cond.code yX10_laysAll cX10_laysAll 3 none ∈ lw_ws := ws_at 1316 rfl rfl
set_option maxRecDepth 100000 in
theorem iv_X10_laysAll : Cond.instanceMethod yX10_laysAll ∈ lw_ws ∧ Cond.selects yX10_laysAll.cls yX10_laysAll yX10_laysAll ∈ lw_ws := ⟨ws_at 1315 rfl rfl, ws_at 94 rfl rfl⟩
set_option maxRecDepth 100000 in
theorem cd_X10_full : Cond.code yX10_full cX10_full 1 (some .int) ∈ lw_ws := ws_at 1197 rfl rfl
set_option maxRecDepth 100000 in
theorem iv_X10_full : Cond.instanceMethod yX10_full ∈ lw_ws ∧ Cond.selects yX10_full.cls yX10_full yX10_full ∈ lw_ws := ⟨ws_at 1196 rfl rfl, ws_at 71 rfl rfl⟩
set_option maxRecDepth 100000 in
theorem cd_X10_keysFrom : Cond.code yX10_keysFrom cX10_keysFrom 5 (some .int) ∈ lw_ws := ws_at 1217 rfl rfl
set_option maxRecDepth 100000 in
theorem iv_X10_keysFrom : Cond.instanceMethod yX10_keysFrom ∈ lw_ws ∧ Cond.selects yX10_keysFrom.cls yX10_keysFrom yX10_keysFrom ∈ lw_ws := ⟨ws_at 1216 rfl rfl, ws_at 76 rfl rfl⟩
set_option maxRecDepth 100000 in
theorem cd_X10_fits : Cond.code yX10_fits cX10_fits 4 (some .boolean) ∈ lw_ws := ws_at 1221 rfl rfl
set_option maxRecDepth 100000 in
theorem iv_X10_fits : Cond.instanceMethod yX10_fits ∈ lw_ws ∧ Cond.selects yX10_fits.cls yX10_fits yX10_fits ∈ lw_ws := ⟨ws_at 1220 rfl rfl, ws_at 77 rfl rfl⟩
set_option maxRecDepth 100000 in
theorem cd_X10_learns : Cond.code yX10_learns cX10_learns 3 none ∈ lw_ws := ws_at 1229 rfl rfl
set_option maxRecDepth 100000 in
theorem iv_X10_learns : Cond.instanceMethod yX10_learns ∈ lw_ws ∧ Cond.selects yX10_learns.cls yX10_learns yX10_learns ∈ lw_ws := ⟨ws_at 1228 rfl rfl, ws_at 79 rfl rfl⟩
set_option maxRecDepth 100000 in
theorem cd_X10_waits : Cond.code yX10_waits cX10_waits 3 none ∈ lw_ws := ws_at 1209 rfl rfl
set_option maxRecDepth 100000 in
theorem iv_X10_waits : Cond.instanceMethod yX10_waits ∈ lw_ws ∧ Cond.selects yX10_waits.cls yX10_waits yX10_waits ∈ lw_ws := ⟨ws_at 1208 rfl rfl, ws_at 74 rfl rfl⟩
set_option maxRecDepth 100000 in
theorem cd_X10_isPart : Cond.code yX10_isPart cX10_isPart 4 (some .boolean) ∈ lw_ws := ws_at 1213 rfl rfl
set_option maxRecDepth 100000 in
theorem iv_X10_isPart : Cond.instanceMethod yX10_isPart ∈ lw_ws ∧ Cond.selects yX10_isPart.cls yX10_isPart yX10_isPart ∈ lw_ws := ⟨ws_at 1212 rfl rfl, ws_at 75 rfl rfl⟩
set_option maxRecDepth 100000 in
theorem cd_X10_middleOf : Cond.code yX10_middleOf cX10_middleOf 6 (some .int) ∈ lw_ws := ws_at 1233 rfl rfl
set_option maxRecDepth 100000 in
theorem iv_X10_middleOf : Cond.instanceMethod yX10_middleOf ∈ lw_ws ∧ Cond.selects yX10_middleOf.cls yX10_middleOf yX10_middleOf ∈ lw_ws := ⟨ws_at 1232 rfl rfl, ws_at 80 rfl rfl⟩
set_option maxRecDepth 100000 in
theorem cd_X10_spreads : Cond.code yX10_spreads cX10_spreads 4 none ∈ lw_ws := ws_at 1205 rfl rfl
set_option maxRecDepth 100000 in
theorem iv_X10_spreads : Cond.instanceMethod yX10_spreads ∈ lw_ws ∧ Cond.selects yX10_spreads.cls yX10_spreads yX10_spreads ∈ lw_ws := ⟨ws_at 1204 rfl rfl, ws_at 73 rfl rfl⟩
set_option maxRecDepth 100000 in
theorem cd_X10_lowestKey : Cond.code yX10_lowestKey cX10_lowestKey 4 (some .int) ∈ lw_ws := ws_at 1245 rfl rfl
set_option maxRecDepth 100000 in
theorem iv_X10_lowestKey : Cond.instanceMethod yX10_lowestKey ∈ lw_ws ∧ Cond.selects yX10_lowestKey.cls yX10_lowestKey yX10_lowestKey ∈ lw_ws := ⟨ws_at 1244 rfl rfl, ws_at 83 rfl rfl⟩
set_option maxRecDepth 100000 in
theorem cd_X10_shapes : Cond.code yX10_shapes cX10_shapes 6 none ∈ lw_ws := ws_at 1241 rfl rfl
set_option maxRecDepth 100000 in
theorem iv_X10_shapes : Cond.instanceMethod yX10_shapes ∈ lw_ws ∧ Cond.selects yX10_shapes.cls yX10_shapes yX10_shapes ∈ lw_ws := ⟨ws_at 1240 rfl rfl, ws_at 82 rfl rfl⟩
set_option maxRecDepth 100000 in
theorem cd_X10_lowestFree : Cond.code yX10_lowestFree cX10_lowestFree 4 (some .int) ∈ lw_ws := ws_at 1237 rfl rfl
set_option maxRecDepth 100000 in
theorem iv_X10_lowestFree : Cond.instanceMethod yX10_lowestFree ∈ lw_ws ∧ Cond.selects yX10_lowestFree.cls yX10_lowestFree yX10_lowestFree ∈ lw_ws := ⟨ws_at 1236 rfl rfl, ws_at 81 rfl rfl⟩
set_option maxRecDepth 100000 in
theorem cd_X10_goes : Cond.code yX10_goes cX10_goes 3 none ∈ lw_ws := ws_at 1190 rfl rfl
set_option maxRecDepth 100000 in
theorem iv_X10_goes : Cond.instanceMethod yX10_goes ∈ lw_ws ∧ Cond.selects yX10_goes.cls yX10_goes yX10_goes ∈ lw_ws := ⟨ws_at 1189 rfl rfl, ws_at 70 rfl rfl⟩
set_option maxRecDepth 100000 in
theorem cd_X10_comes : Cond.code yX10_comes cX10_comes 5 none ∈ lw_ws := ws_at 1249 rfl rfl
set_option maxRecDepth 100000 in
theorem iv_X10_comes : Cond.instanceMethod yX10_comes ∈ lw_ws ∧ Cond.selects yX10_comes.cls yX10_comes yX10_comes ∈ lw_ws := ⟨ws_at 1248 rfl rfl, ws_at 84 rfl rfl⟩
set_option maxRecDepth 100000 in
theorem cd_X10_drafts : Cond.code yX10_drafts cX10_drafts 2 none ∈ lw_ws := ws_at 1141 rfl rfl
set_option maxRecDepth 100000 in
theorem iv_X10_drafts : Cond.instanceMethod yX10_drafts ∈ lw_ws ∧ Cond.selects yX10_drafts.cls yX10_drafts yX10_drafts ∈ lw_ws := ⟨ws_at 1140 rfl rfl, ws_at 60 rfl rfl⟩
set_option maxRecDepth 100000 in
theorem cd_X10_edits : Cond.code yX10_edits cX10_edits 13 (some .int) ∈ lw_ws := ws_at 1145 rfl rfl
set_option maxRecDepth 100000 in
theorem iv_X10_edits : Cond.instanceMethod yX10_edits ∈ lw_ws ∧ Cond.selects yX10_edits.cls yX10_edits yX10_edits ∈ lw_ws := ⟨ws_at 1144 rfl rfl, ws_at 61 rfl rfl⟩
set_option maxRecDepth 100000 in
theorem cd_X10_spreadsPage : Cond.code yX10_spreadsPage cX10_spreadsPage 5 (some .int) ∈ lw_ws := ws_at 1201 rfl rfl
set_option maxRecDepth 100000 in
theorem iv_X10_spreadsPage : Cond.instanceMethod yX10_spreadsPage ∈ lw_ws ∧ Cond.selects yX10_spreadsPage.cls yX10_spreadsPage yX10_spreadsPage ∈ lw_ws := ⟨ws_at 1200 rfl rfl, ws_at 72 rfl rfl⟩
set_option maxRecDepth 100000 in
theorem cd_X10_writes : Cond.code yX10_writes cX10_writes 3 none ∈ lw_ws := ws_at 1261 rfl rfl
set_option maxRecDepth 100000 in
theorem iv_X10_writes : Cond.instanceMethod yX10_writes ∈ lw_ws ∧ Cond.selects yX10_writes.cls yX10_writes yX10_writes ∈ lw_ws := ⟨ws_at 1260 rfl rfl, ws_at 87 rfl rfl⟩
set_option maxRecDepth 100000 in
theorem cd_X10_beginsWriting : Cond.code yX10_beginsWriting cX10_beginsWriting 1 none ∈ lw_ws := ws_at 1257 rfl rfl
set_option maxRecDepth 100000 in
theorem iv_X10_beginsWriting : Cond.instanceMethod yX10_beginsWriting ∈ lw_ws ∧ Cond.selects yX10_beginsWriting.cls yX10_beginsWriting yX10_beginsWriting ∈ lw_ws := ⟨ws_at 1256 rfl rfl, ws_at 86 rfl rfl⟩
set_option maxRecDepth 100000 in
theorem cd_X10_ends : Cond.code yX10_ends cX10_ends 3 (some .int) ∈ lw_ws := ws_at 1273 rfl rfl
set_option maxRecDepth 100000 in
theorem iv_X10_ends : Cond.instanceMethod yX10_ends ∈ lw_ws ∧ Cond.selects yX10_ends.cls yX10_ends yX10_ends ∈ lw_ws := ⟨ws_at 1272 rfl rfl, ws_at 90 rfl rfl⟩
set_option maxRecDepth 100000 in
theorem cd_X10_directoryMany : Cond.code yX10_directoryMany cX10_directoryMany 2 (some .int) ∈ lw_ws := ws_at 1269 rfl rfl
set_option maxRecDepth 100000 in
theorem iv_X10_directoryMany : Cond.instanceMethod yX10_directoryMany ∈ lw_ws ∧ Cond.selects yX10_directoryMany.cls yX10_directoryMany yX10_directoryMany ∈ lw_ws := ⟨ws_at 1268 rfl rfl, ws_at 89 rfl rfl⟩
set_option maxRecDepth 100000 in
theorem cd_X10_throughJournal : Cond.code yX10_throughJournal cX10_throughJournal 5 none ∈ lw_ws := ws_at 1265 rfl rfl
set_option maxRecDepth 100000 in
theorem iv_X10_throughJournal : Cond.instanceMethod yX10_throughJournal ∈ lw_ws ∧ Cond.selects yX10_throughJournal.cls yX10_throughJournal yX10_throughJournal ∈ lw_ws := ⟨ws_at 1264 rfl rfl, ws_at 88 rfl rfl⟩
set_option maxRecDepth 100000 in
theorem cd_X10_keeps : Cond.code yX10_keeps cX10_keeps 3 none ∈ lw_ws := ws_at 1253 rfl rfl
set_option maxRecDepth 100000 in
theorem iv_X10_keeps : Cond.instanceMethod yX10_keeps ∈ lw_ws ∧ Cond.selects yX10_keeps.cls yX10_keeps yX10_keeps ∈ lw_ws := ⟨ws_at 1252 rfl rfl, ws_at 85 rfl rfl⟩
set_option maxRecDepth 100000 in
theorem cd_X10_undo : Cond.code yX10_undo cX10_undo 2 (some .int) ∈ lw_ws := ws_at 1098 rfl rfl
set_option maxRecDepth 100000 in
theorem iv_X10_undo : Cond.instanceMethod yX10_undo ∈ lw_ws ∧ Cond.selects yX10_undo.cls yX10_undo yX10_undo ∈ lw_ws := ⟨ws_at 1096 rfl rfl, ws_at 1097 rfl rfl⟩
set_option maxRecDepth 100000 in
theorem cd_X10_lets : Cond.code yX10_lets cX10_lets 3 none ∈ lw_ws := ws_at 1026 rfl rfl
set_option maxRecDepth 100000 in
theorem iv_X10_lets : Cond.instanceMethod yX10_lets ∈ lw_ws ∧ Cond.selects yX10_lets.cls yX10_lets yX10_lets ∈ lw_ws := ⟨ws_at 1025 rfl rfl, ws_at 43 rfl rfl⟩
set_option maxRecDepth 100000 in
theorem cd_X10_placeHeld : Cond.code yX10_placeHeld cX10_placeHeld 3 (some .int) ∈ lw_ws := ws_at 1137 rfl rfl
set_option maxRecDepth 100000 in
theorem iv_X10_placeHeld : Cond.instanceMethod yX10_placeHeld ∈ lw_ws ∧ Cond.selects yX10_placeHeld.cls yX10_placeHeld yX10_placeHeld ∈ lw_ws := ⟨ws_at 1136 rfl rfl, ws_at 59 rfl rfl⟩
set_option maxRecDepth 100000 in
theorem cd_X10_uses : Cond.code yX10_uses cX10_uses 4 none ∈ lw_ws := ws_at 1121 rfl rfl
set_option maxRecDepth 100000 in
theorem iv_X10_uses : Cond.instanceMethod yX10_uses ∈ lw_ws ∧ Cond.selects yX10_uses.cls yX10_uses yX10_uses ∈ lw_ws := ⟨ws_at 1120 rfl rfl, ws_at 58 rfl rfl⟩
set_option maxRecDepth 100000 in
theorem cd_X10_isInUse : Cond.code yX10_isInUse cX10_isInUse 3 (some .boolean) ∈ lw_ws := ws_at 1281 rfl rfl
set_option maxRecDepth 100000 in
theorem iv_X10_isInUse : Cond.instanceMethod yX10_isInUse ∈ lw_ws ∧ Cond.selects yX10_isInUse.cls yX10_isInUse yX10_isInUse ∈ lw_ws := ⟨ws_at 1280 rfl rfl, ws_at 92 rfl rfl⟩
set_option maxRecDepth 100000 in
theorem cd_X10_letsFree : Cond.code yX10_letsFree cX10_letsFree 2 none ∈ lw_ws := ws_at 1277 rfl rfl
set_option maxRecDepth 100000 in
theorem iv_X10_letsFree : Cond.instanceMethod yX10_letsFree ∈ lw_ws ∧ Cond.selects yX10_letsFree.cls yX10_letsFree yX10_letsFree ∈ lw_ws := ⟨ws_at 1276 rfl rfl, ws_at 91 rfl rfl⟩
set_option maxRecDepth 100000 in
theorem cd_X10_alone : Cond.code yX10_alone cX10_alone 4 (some .int) ∈ lw_ws := ws_at 1113 rfl rfl
set_option maxRecDepth 100000 in
theorem iv_X10_alone : Cond.instanceMethod yX10_alone ∈ lw_ws ∧ Cond.selects yX10_alone.cls yX10_alone yX10_alone ∈ lw_ws := ⟨ws_at 1112 rfl rfl, ws_at 56 rfl rfl⟩
set_option maxRecDepth 100000 in
theorem cd_X10_byTape : Cond.code yX10_byTape cX10_byTape 5 (some .int) ∈ lw_ws := ws_at 1109 rfl rfl
set_option maxRecDepth 100000 in
theorem iv_X10_byTape : Cond.instanceMethod yX10_byTape ∈ lw_ws ∧ Cond.selects yX10_byTape.cls yX10_byTape yX10_byTape ∈ lw_ws := ⟨ws_at 1108 rfl rfl, ws_at 55 rfl rfl⟩
set_option maxRecDepth 100000 in
theorem cd_X10_isKey : Cond.code yX10_isKey cX10_isKey 1 (some .boolean) ∈ lw_ws := ws_at 1105 rfl rfl
set_option maxRecDepth 100000 in
theorem st_X10_isKey : Cond.static yX10_isKey ∈ lw_ws := ws_at 1104 rfl rfl
set_option maxRecDepth 100000 in
theorem cd_X10_put : Cond.code yX10_put cX10_put 2 (some .int) ∈ lw_ws := ws_at 1102 rfl rfl
set_option maxRecDepth 100000 in
theorem iv_X10_put : Cond.instanceMethod yX10_put ∈ lw_ws ∧ Cond.selects yX10_put.cls yX10_put yX10_put ∈ lw_ws := ⟨ws_at 1100 rfl rfl, ws_at 1101 rfl rfl⟩
set_option maxRecDepth 100000 in
theorem cd_X10_grow : Cond.code yX10_grow cX10_grow 2 (some .int) ∈ lw_ws := ws_at 1285 rfl rfl
set_option maxRecDepth 100000 in
theorem iv_X10_grow : Cond.instanceMethod yX10_grow ∈ lw_ws ∧ Cond.selects yX10_grow.cls yX10_grow yX10_grow ∈ lw_ws := ⟨ws_at 1283 rfl rfl, ws_at 1284 rfl rfl⟩
set_option maxRecDepth 100000 in
theorem cd_X10_alter : Cond.code yX10_alter cX10_alter 4 (some .int) ∈ lw_ws := ws_at 1289 rfl rfl
set_option maxRecDepth 100000 in
theorem iv_X10_alter : Cond.instanceMethod yX10_alter ∈ lw_ws ∧ Cond.selects yX10_alter.cls yX10_alter yX10_alter ∈ lw_ws := ⟨ws_at 1287 rfl rfl, ws_at 1288 rfl rfl⟩
set_option maxRecDepth 100000 in
theorem cd_X10_erase : Cond.code yX10_erase cX10_erase 2 (some .int) ∈ lw_ws := ws_at 1293 rfl rfl
set_option maxRecDepth 100000 in
theorem iv_X10_erase : Cond.instanceMethod yX10_erase ∈ lw_ws ∧ Cond.selects yX10_erase.cls yX10_erase yX10_erase ∈ lw_ws := ⟨ws_at 1291 rfl rfl, ws_at 1292 rfl rfl⟩
set_option maxRecDepth 100000 in
theorem cd_X10_drafted : Cond.code yX10_drafted cX10_drafted 5 (some .int) ∈ lw_ws := ws_at 1301 rfl rfl
set_option maxRecDepth 100000 in
theorem iv_X10_drafted : Cond.instanceMethod yX10_drafted ∈ lw_ws ∧ Cond.selects yX10_drafted.cls yX10_drafted yX10_drafted ∈ lw_ws := ⟨ws_at 1300 rfl rfl, ws_at 93 rfl rfl⟩
set_option maxRecDepth 100000 in
theorem cd_X10_group : Cond.code yX10_group cX10_group 3 (some .int) ∈ lw_ws := ws_at 1297 rfl rfl
set_option maxRecDepth 100000 in
theorem iv_X10_group : Cond.instanceMethod yX10_group ∈ lw_ws ∧ Cond.selects yX10_group.cls yX10_group yX10_group ∈ lw_ws := ⟨ws_at 1295 rfl rfl, ws_at 1296 rfl rfl⟩
set_option maxRecDepth 100000 in
theorem cd_X10_would : Cond.code yX10_would cX10_would 5 (some .int) ∈ lw_ws := ws_at 1308 rfl rfl
set_option maxRecDepth 100000 in
theorem iv_X10_would : Cond.instanceMethod yX10_would ∈ lw_ws ∧ Cond.selects yX10_would.cls yX10_would yX10_would ∈ lw_ws := ⟨ws_at 1306 rfl rfl, ws_at 1307 rfl rfl⟩
set_option maxRecDepth 100000 in
theorem cd_X10_lastTogether : Cond.code yX10_lastTogether cX10_lastTogether 4 (some .int) ∈ lw_ws := ws_at 1320 rfl rfl
set_option maxRecDepth 100000 in
theorem iv_X10_lastTogether : Cond.instanceMethod yX10_lastTogether ∈ lw_ws ∧ Cond.selects yX10_lastTogether.cls yX10_lastTogether yX10_lastTogether ∈ lw_ws := ⟨ws_at 1319 rfl rfl, ws_at 95 rfl rfl⟩
set_option maxRecDepth 100000 in
theorem cd_X10_compact : Cond.code yX10_compact cX10_compact 3 (some .int) ∈ lw_ws := ws_at 1312 rfl rfl
set_option maxRecDepth 100000 in
theorem iv_X10_compact : Cond.instanceMethod yX10_compact ∈ lw_ws ∧ Cond.selects yX10_compact.cls yX10_compact yX10_compact ∈ lw_ws := ⟨ws_at 1310 rfl rfl, ws_at 1311 rfl rfl⟩
set_option maxRecDepth 100000 in
theorem cd_X10_fuse : Cond.code yX10_fuse cX10_fuse 3 (some .int) ∈ lw_ws := ws_at 1324 rfl rfl
set_option maxRecDepth 100000 in
theorem iv_X10_fuse : Cond.instanceMethod yX10_fuse ∈ lw_ws ∧ Cond.selects yX10_fuse.cls yX10_fuse yX10_fuse ∈ lw_ws := ⟨ws_at 1322 rfl rfl, ws_at 1323 rfl rfl⟩
set_option maxRecDepth 100000 in
theorem cd_X10_comesBack : Cond.code yX10_comesBack cX10_comesBack 6 none ∈ lw_ws := ws_at 1332 rfl rfl
set_option maxRecDepth 100000 in
theorem iv_X10_comesBack : Cond.instanceMethod yX10_comesBack ∈ lw_ws ∧ Cond.selects yX10_comesBack.cls yX10_comesBack yX10_comesBack ∈ lw_ws := ⟨ws_at 1331 rfl rfl, ws_at 96 rfl rfl⟩
set_option maxRecDepth 100000 in
theorem cd_X10_wipes : Cond.code yX10_wipes cX10_wipes 3 none ∈ lw_ws := ws_at 1336 rfl rfl
set_option maxRecDepth 100000 in
theorem iv_X10_wipes : Cond.instanceMethod yX10_wipes ∈ lw_ws ∧ Cond.selects yX10_wipes.cls yX10_wipes yX10_wipes ∈ lw_ws := ⟨ws_at 1335 rfl rfl, ws_at 97 rfl rfl⟩
set_option maxRecDepth 100000 in
theorem cd_X10_recover : Cond.code yX10_recover cX10_recover 2 (some .int) ∈ lw_ws := ws_at 1328 rfl rfl
set_option maxRecDepth 100000 in
theorem iv_X10_recover : Cond.instanceMethod yX10_recover ∈ lw_ws ∧ Cond.selects yX10_recover.cls yX10_recover yX10_recover ∈ lw_ws := ⟨ws_at 1326 rfl rfl, ws_at 1327 rfl rfl⟩
set_option maxRecDepth 100000 in
theorem cd_X10_written : Cond.code yX10_written cX10_written 1 (some .int) ∈ lw_ws := ws_at 1340 rfl rfl
set_option maxRecDepth 100000 in
theorem iv_X10_written : Cond.instanceMethod yX10_written ∈ lw_ws ∧ Cond.selects yX10_written.cls yX10_written yX10_written ∈ lw_ws := ⟨ws_at 1338 rfl rfl, ws_at 1339 rfl rfl⟩
set_option maxRecDepth 100000 in
theorem cd_X10_fetch : Cond.code yX10_fetch cX10_fetch 3 (some .int) ∈ lw_ws := ws_at 1344 rfl rfl
set_option maxRecDepth 100000 in
theorem iv_X10_fetch : Cond.instanceMethod yX10_fetch ∈ lw_ws ∧ Cond.selects yX10_fetch.cls yX10_fetch yX10_fetch ∈ lw_ws := ⟨ws_at 1342 rfl rfl, ws_at 1343 rfl rfl⟩
set_option maxRecDepth 100000 in
theorem cd_X10_value : Cond.code yX10_value cX10_value 4 (some .int) ∈ lw_ws := ws_at 1348 rfl rfl
set_option maxRecDepth 100000 in
theorem iv_X10_value : Cond.instanceMethod yX10_value ∈ lw_ws ∧ Cond.selects yX10_value.cls yX10_value yX10_value ∈ lw_ws := ⟨ws_at 1346 rfl rfl, ws_at 1347 rfl rfl⟩
set_option maxRecDepth 100000 in
theorem cd_X10_next : Cond.code yX10_next cX10_next 3 (some .int) ∈ lw_ws := ws_at 1352 rfl rfl
set_option maxRecDepth 100000 in
theorem iv_X10_next : Cond.instanceMethod yX10_next ∈ lw_ws ∧ Cond.selects yX10_next.cls yX10_next yX10_next ∈ lw_ws := ⟨ws_at 1350 rfl rfl, ws_at 1351 rfl rfl⟩
set_option maxRecDepth 100000 in
theorem cd_X10_isPlace : Cond.code yX10_isPlace cX10_isPlace 2 (some .boolean) ∈ lw_ws := ws_at 1360 rfl rfl
set_option maxRecDepth 100000 in
theorem iv_X10_isPlace : Cond.instanceMethod yX10_isPlace ∈ lw_ws ∧ Cond.selects yX10_isPlace.cls yX10_isPlace yX10_isPlace ∈ lw_ws := ⟨ws_at 1359 rfl rfl, ws_at 98 rfl rfl⟩
set_option maxRecDepth 100000 in
theorem cd_X10_page : Cond.code yX10_page cX10_page 5 (some .int) ∈ lw_ws := ws_at 1356 rfl rfl
set_option maxRecDepth 100000 in
theorem iv_X10_page : Cond.instanceMethod yX10_page ∈ lw_ws ∧ Cond.selects yX10_page.cls yX10_page yX10_page ∈ lw_ws := ⟨ws_at 1354 rfl rfl, ws_at 1355 rfl rfl⟩
set_option maxRecDepth 100000 in
theorem cd_X10_packing : Cond.code yX10_packing cX10_packing 3 (some .int) ∈ lw_ws := ws_at 1367 rfl rfl
set_option maxRecDepth 100000 in
theorem iv_X10_packing : Cond.instanceMethod yX10_packing ∈ lw_ws ∧ Cond.selects yX10_packing.cls yX10_packing yX10_packing ∈ lw_ws := ⟨ws_at 1365 rfl rfl, ws_at 1366 rfl rfl⟩
set_option maxRecDepth 100000 in
theorem cd_X10_entry : Cond.code yX10_entry cX10_entry 6 (some .int) ∈ lw_ws := ws_at 1371 rfl rfl
set_option maxRecDepth 100000 in
theorem iv_X10_entry : Cond.instanceMethod yX10_entry ∈ lw_ws ∧ Cond.selects yX10_entry.cls yX10_entry yX10_entry ∈ lw_ws := ⟨ws_at 1369 rfl rfl, ws_at 1370 rfl rfl⟩
set_option maxRecDepth 100000 in
theorem cd_X10_behind : Cond.code yX10_behind cX10_behind 5 (some .int) ∈ lw_ws := ws_at 1375 rfl rfl
set_option maxRecDepth 100000 in
theorem iv_X10_behind : Cond.instanceMethod yX10_behind ∈ lw_ws ∧ Cond.selects yX10_behind.cls yX10_behind yX10_behind ∈ lw_ws := ⟨ws_at 1373 rfl rfl, ws_at 1374 rfl rfl⟩
set_option maxRecDepth 100000 in
theorem cd_X10_block : Cond.code yX10_block cX10_block 3 (some .int) ∈ lw_ws := ws_at 1379 rfl rfl
set_option maxRecDepth 100000 in
theorem iv_X10_block : Cond.instanceMethod yX10_block ∈ lw_ws ∧ Cond.selects yX10_block.cls yX10_block yX10_block ∈ lw_ws := ⟨ws_at 1377 rfl rfl, ws_at 1378 rfl rfl⟩
set_option maxRecDepth 100000 in
theorem cd_X10_directory : Cond.code yX10_directory cX10_directory 2 (some .int) ∈ lw_ws := ws_at 1383 rfl rfl
set_option maxRecDepth 100000 in
theorem iv_X10_directory : Cond.instanceMethod yX10_directory ∈ lw_ws ∧ Cond.selects yX10_directory.cls yX10_directory yX10_directory ∈ lw_ws := ⟨ws_at 1381 rfl rfl, ws_at 1382 rfl rfl⟩
set_option maxRecDepth 100000 in
theorem cd_X10_journal : Cond.code yX10_journal cX10_journal 2 (some .int) ∈ lw_ws := ws_at 1387 rfl rfl
set_option maxRecDepth 100000 in
theorem iv_X10_journal : Cond.instanceMethod yX10_journal ∈ lw_ws ∧ Cond.selects yX10_journal.cls yX10_journal yX10_journal ∈ lw_ws := ⟨ws_at 1385 rfl rfl, ws_at 1386 rfl rfl⟩
set_option maxRecDepth 100000 in
theorem cd_X10_ofAll : Cond.code yX10_ofAll cX10_ofAll 4 (some .int) ∈ lw_ws := ws_at 1395 rfl rfl
set_option maxRecDepth 100000 in
theorem iv_X10_ofAll : Cond.instanceMethod yX10_ofAll ∈ lw_ws ∧ Cond.selects yX10_ofAll.cls yX10_ofAll yX10_ofAll ∈ lw_ws := ⟨ws_at 1394 rfl rfl, ws_at 99 rfl rfl⟩
set_option maxRecDepth 100000 in
theorem cd_X10_count : Cond.code yX10_count cX10_count 2 (some .int) ∈ lw_ws := ws_at 1391 rfl rfl
set_option maxRecDepth 100000 in
theorem iv_X10_count : Cond.instanceMethod yX10_count ∈ lw_ws ∧ Cond.selects yX10_count.cls yX10_count yX10_count ∈ lw_ws := ⟨ws_at 1389 rfl rfl, ws_at 1390 rfl rfl⟩
set_option maxRecDepth 100000 in
theorem cd_X10_status : Cond.code yX10_status cX10_status 1 (some .int) ∈ lw_ws := ws_at 1399 rfl rfl
set_option maxRecDepth 100000 in
theorem iv_X10_status : Cond.instanceMethod yX10_status ∈ lw_ws ∧ Cond.selects yX10_status.cls yX10_status yX10_status ∈ lw_ws := ⟨ws_at 1397 rfl rfl, ws_at 1398 rfl rfl⟩
set_option maxRecDepth 100000 in
theorem cd_J9_max_7cf53 : Cond.code yJ9_max_7cf53 cJ9_max_7cf53 2 (some .int) ∈ lw_ws := ws_at 518 rfl rfl
set_option maxRecDepth 100000 in
theorem st_J9_max_7cf53 : Cond.static yJ9_max_7cf53 ∈ lw_ws := ws_at 517 rfl rfl
set_option maxRecDepth 100000 in
theorem cd_J9_min_7cf53 : Cond.code yJ9_min_7cf53 cJ9_min_7cf53 2 (some .int) ∈ lw_ws := ws_at 387 rfl rfl
set_option maxRecDepth 100000 in
theorem st_J9_min_7cf53 : Cond.static yJ9_min_7cf53 ∈ lw_ws := ws_at 386 rfl rfl
set_option maxRecDepth 100000 in
theorem cd_J7_rangeCheck_23922 : Cond.code yJ7_rangeCheck_23922 cJ7_rangeCheck_23922 3 none ∈ lw_ws := ws_at 620 rfl rfl
set_option maxRecDepth 100000 in
theorem st_J7_rangeCheck_23922 : Cond.static yJ7_rangeCheck_23922 ∈ lw_ws := ws_at 619 rfl rfl
set_option maxRecDepth 100000 in
theorem cd_J7_fill_53178 : Cond.code yJ7_fill_53178 cJ7_fill_53178 4 none ∈ lw_ws := ws_at 394 rfl rfl
set_option maxRecDepth 100000 in
theorem st_J7_fill_53178 : Cond.static yJ7_fill_53178 ∈ lw_ws := ws_at 393 rfl rfl
set_option maxRecDepth 100000 in
theorem cd_J7_fill_fda19 : Cond.code yJ7_fill_fda19 cJ7_fill_fda19 5 none ∈ lw_ws := ws_at 617 rfl rfl
set_option maxRecDepth 100000 in
theorem st_J7_fill_fda19 : Cond.static yJ7_fill_fda19 ∈ lw_ws := ws_at 616 rfl rfl
