theorem ini_L : Cond.initialized RL ∈ kT := k_mem 28 (by decide +kernel) rfl
theorem ini_X4 : Cond.initialized RX4 ∈ kT := k_mem 29 (by decide +kernel) rfl
theorem ini_X1 : Cond.initialized RX1 ∈ kT := k_mem 30 (by decide +kernel) rfl
theorem ini_X0 : Cond.initialized RX0 ∈ kT := k_mem 31 (by decide +kernel) rfl
theorem ini_X2 : Cond.initialized RX2 ∈ kT := k_mem 32 (by decide +kernel) rfl
theorem ini_J7 : Cond.initialized RJ7 ∈ kT := k_mem 33 (by decide +kernel) rfl
theorem ini_X3 : Cond.initialized RX3 ∈ kT := k_mem 34 (by decide +kernel) rfl
theorem ini_X5 : Cond.initialized RX5 ∈ kT := k_mem 35 (by decide +kernel) rfl
theorem ini_J9 : Cond.initialized "java/lang/Math" ∈ kT := k_mem 36 (by decide +kernel) rfl
theorem ini_J10 : Cond.initialized "java/lang/System" ∈ kT := k_mem 37 (by decide +kernel) rfl
theorem cl_L_7 : Cond.classLink RL 7 RX4 ∈ kT := k_mem 38 (by decide +kernel) rfl
theorem ins_X4 : Cond.instantiable RX4 9 ∈ kT := k_mem 39 (by decide +kernel) rfl
theorem ml_L_9 : Cond.methodLink RL 9 yX4_init ∈ kT := k_mem 40 (by decide +kernel) rfl
theorem im_X4_init : Cond.instanceMethod yX4_init ∈ kT := k_mem 41 (by decide +kernel) rfl
set_option maxRecDepth 40000 in
theorem co_X4_init : Cond.code yX4_init cX4_init 1 none ∈ kT := k_mem 42 rfl rfl
theorem ml_X4_3 : Cond.methodLink RX4 3 objectInit ∈ kT := k_mem 43 (by decide +kernel) rfl
theorem im_objInit : Cond.instanceMethod objectInit ∈ kT := k_mem 44 (by decide +kernel) rfl
set_option maxRecDepth 40000 in
theorem co_objInit : Cond.code objectInit ⟨#[0xb1]⟩ 1 none ∈ kT := k_mem 45 rfl rfl
theorem cl_X4_9 : Cond.classLink RX4 9 RX1 ∈ kT := k_mem 46 (by decide +kernel) rfl
theorem ins_X1 : Cond.instantiable RX1 3 ∈ kT := k_mem 47 (by decide +kernel) rfl
theorem ml_X4_11 : Cond.methodLink RX4 11 yX1_init ∈ kT := k_mem 48 (by decide +kernel) rfl
theorem im_X1_init : Cond.instanceMethod yX1_init ∈ kT := k_mem 49 (by decide +kernel) rfl
set_option maxRecDepth 40000 in
theorem co_X1_init : Cond.code yX1_init cX1_init 2 none ∈ kT := k_mem 50 rfl rfl
theorem ml_X1_3 : Cond.methodLink RX1 3 objectInit ∈ kT := k_mem 51 (by decide +kernel) rfl
theorem fl_X1_9 : Cond.fieldLink RX1 9 "DeltaSync$Row" "most" "I" ∈ kT := k_mem 52 (by decide +kernel) rfl
theorem fl_X1_15 : Cond.fieldLink RX1 15 "DeltaSync$Row" "cells" "[I" ∈ kT := k_mem 53 (by decide +kernel) rfl
theorem fl_X1_19 : Cond.fieldLink RX1 19 "DeltaSync$Row" "used" "I" ∈ kT := k_mem 54 (by decide +kernel) rfl
theorem ac_int : Cond.arrayClass .int ∈ kT := k_mem 62 (by decide +kernel) rfl
theorem cl_X4_27 : Cond.classLink RX4 27 RX0 ∈ kT := k_mem 63 (by decide +kernel) rfl
theorem ins_X0 : Cond.instantiable RX0 2 ∈ kT := k_mem 64 (by decide +kernel) rfl
theorem ml_X4_29 : Cond.methodLink RX4 29 yX0_init ∈ kT := k_mem 65 (by decide +kernel) rfl
theorem im_X0_init : Cond.instanceMethod yX0_init ∈ kT := k_mem 66 (by decide +kernel) rfl
set_option maxRecDepth 40000 in
theorem co_X0_init : Cond.code yX0_init cX0_init 1 none ∈ kT := k_mem 67 rfl rfl
theorem ml_X0_3 : Cond.methodLink RX0 3 objectInit ∈ kT := k_mem 68 (by decide +kernel) rfl
theorem fl_X0_9 : Cond.fieldLink RX0 9 "DeltaSync$Md5" "words" "[I" ∈ kT := k_mem 69 (by decide +kernel) rfl
theorem fl_X0_15 : Cond.fieldLink RX0 15 "DeltaSync$Md5" "state" "[I" ∈ kT := k_mem 70 (by decide +kernel) rfl
theorem cl_X4_34 : Cond.classLink RX4 34 RX2 ∈ kT := k_mem 76 (by decide +kernel) rfl
theorem ins_X2 : Cond.instantiable RX2 7 ∈ kT := k_mem 77 (by decide +kernel) rfl
theorem ml_X4_36 : Cond.methodLink RX4 36 yX2_init ∈ kT := k_mem 78 (by decide +kernel) rfl
theorem im_X2_init : Cond.instanceMethod yX2_init ∈ kT := k_mem 79 (by decide +kernel) rfl
set_option maxRecDepth 40000 in
theorem co_X2_init : Cond.code yX2_init cX2_init 1 none ∈ kT := k_mem 80 rfl rfl
theorem ml_X2_3 : Cond.methodLink RX2 3 objectInit ∈ kT := k_mem 81 (by decide +kernel) rfl
theorem ml_X2_35 : Cond.methodLink RX2 35 yJ7_fill_53178 ∈ kT := k_mem 82 (by decide +kernel) rfl
theorem sm_J7_fill_53178 : Cond.static yJ7_fill_53178 ∈ kT := k_mem 83 (by decide +kernel) rfl
set_option maxRecDepth 40000 in
theorem co_J7_fill_53178 : Cond.code yJ7_fill_53178 cJ7_fill_53178 4 none ∈ kT := k_mem 84 rfl rfl
theorem fl_X2_9 : Cond.fieldLink RX2 9 "DeltaSync$Signature" "blockSize" "I" ∈ kT := k_mem 85 (by decide +kernel) rfl
theorem fl_X2_15 : Cond.fieldLink RX2 15 "DeltaSync$Signature" "width" "I" ∈ kT := k_mem 86 (by decide +kernel) rfl
theorem fl_X2_18 : Cond.fieldLink RX2 18 "DeltaSync$Signature" "blocks" "I" ∈ kT := k_mem 87 (by decide +kernel) rfl
theorem fl_X2_21 : Cond.fieldLink RX2 21 "DeltaSync$Signature" "sums" "[I" ∈ kT := k_mem 88 (by decide +kernel) rfl
theorem fl_X2_25 : Cond.fieldLink RX2 25 "DeltaSync$Signature" "digests" "[B" ∈ kT := k_mem 89 (by decide +kernel) rfl
theorem fl_X2_32 : Cond.fieldLink RX2 32 "DeltaSync$Signature" "heads" "[I" ∈ kT := k_mem 90 (by decide +kernel) rfl
theorem fl_X2_29 : Cond.fieldLink RX2 29 "DeltaSync$Signature" "nexts" "[I" ∈ kT := k_mem 91 (by decide +kernel) rfl
theorem ac_byte : Cond.arrayClass .byte ∈ kT := k_mem 107 (by decide +kernel) rfl
theorem cl_X4_41 : Cond.classLink RX4 41 RX3 ∈ kT := k_mem 108 (by decide +kernel) rfl
theorem ins_X3 : Cond.instantiable RX3 11 ∈ kT := k_mem 109 (by decide +kernel) rfl
theorem ml_X4_43 : Cond.methodLink RX4 43 yX3_init ∈ kT := k_mem 110 (by decide +kernel) rfl
theorem im_X3_init : Cond.instanceMethod yX3_init ∈ kT := k_mem 111 (by decide +kernel) rfl
set_option maxRecDepth 40000 in
theorem co_X3_init : Cond.code yX3_init cX3_init 5 none ∈ kT := k_mem 112 rfl rfl
theorem ml_X3_3 : Cond.methodLink RX3 3 objectInit ∈ kT := k_mem 113 (by decide +kernel) rfl
theorem ml_X3_26 : Cond.methodLink RX3 26 yX3_startAnew ∈ kT := k_mem 114 (by decide +kernel) rfl
theorem im_X3_startAnew : Cond.instanceMethod yX3_startAnew ∈ kT := k_mem 116 (by decide +kernel) rfl
set_option maxRecDepth 40000 in
theorem co_X3_startAnew : Cond.code yX3_startAnew cX3_startAnew 1 none ∈ kT := k_mem 117 rfl rfl
theorem fl_X3_9 : Cond.fieldLink RX3 9 "DeltaSync$Teller" "source" "LDeltaSync$Row;" ∈ kT := k_mem 118 (by decide +kernel) rfl
theorem fl_X3_15 : Cond.fieldLink RX3 15 "DeltaSync$Teller" "target" "LDeltaSync$Row;" ∈ kT := k_mem 119 (by decide +kernel) rfl
theorem fl_X3_18 : Cond.fieldLink RX3 18 "DeltaSync$Teller" "signature" "LDeltaSync$Signature;" ∈ kT := k_mem 120 (by decide +kernel) rfl
theorem fl_X3_22 : Cond.fieldLink RX3 22 "DeltaSync$Teller" "hasher" "LDeltaSync$Md5;" ∈ kT := k_mem 121 (by decide +kernel) rfl
theorem fl_X3_29 : Cond.fieldLink RX3 29 "DeltaSync$Teller" "references" "I" ∈ kT := k_mem 122 (by decide +kernel) rfl
theorem fl_X3_33 : Cond.fieldLink RX3 33 "DeltaSync$Teller" "literals" "I" ∈ kT := k_mem 123 (by decide +kernel) rfl
theorem fl_X3_36 : Cond.fieldLink RX3 36 "DeltaSync$Teller" "rows" "I" ∈ kT := k_mem 124 (by decide +kernel) rfl
theorem fl_X3_39 : Cond.fieldLink RX3 39 "DeltaSync$Teller" "alarms" "I" ∈ kT := k_mem 125 (by decide +kernel) rfl
theorem fl_X3_82 : Cond.fieldLink RX3 82 "DeltaSync$Teller" "inRow" "I" ∈ kT := k_mem 126 (by decide +kernel) rfl
theorem fl_X3_85 : Cond.fieldLink RX3 85 "DeltaSync$Teller" "inRowAt" "I" ∈ kT := k_mem 127 (by decide +kernel) rfl
theorem fl_X3_88 : Cond.fieldLink RX3 88 "DeltaSync$Teller" "lastBlock" "I" ∈ kT := k_mem 128 (by decide +kernel) rfl
theorem fl_X4_14 : Cond.fieldLink RX4 14 "DeltaSync" "oldFile" "LDeltaSync$Row;" ∈ kT := k_mem 152 (by decide +kernel) rfl
theorem fl_X4_18 : Cond.fieldLink RX4 18 "DeltaSync" "newFile" "LDeltaSync$Row;" ∈ kT := k_mem 153 (by decide +kernel) rfl
theorem fl_X4_21 : Cond.fieldLink RX4 21 "DeltaSync" "told" "LDeltaSync$Row;" ∈ kT := k_mem 154 (by decide +kernel) rfl
theorem fl_X4_24 : Cond.fieldLink RX4 24 "DeltaSync" "result" "LDeltaSync$Row;" ∈ kT := k_mem 155 (by decide +kernel) rfl
theorem fl_X4_30 : Cond.fieldLink RX4 30 "DeltaSync" "hasher" "LDeltaSync$Md5;" ∈ kT := k_mem 156 (by decide +kernel) rfl
theorem fl_X4_37 : Cond.fieldLink RX4 37 "DeltaSync" "signature" "LDeltaSync$Signature;" ∈ kT := k_mem 157 (by decide +kernel) rfl
theorem fl_X4_46 : Cond.fieldLink RX4 46 "DeltaSync" "teller" "LDeltaSync$Teller;" ∈ kT := k_mem 158 (by decide +kernel) rfl
theorem fl_X4_50 : Cond.fieldLink RX4 50 "DeltaSync" "nextBlockSize" "I" ∈ kT := k_mem 159 (by decide +kernel) rfl
theorem fl_X4_54 : Cond.fieldLink RX4 54 "DeltaSync" "nextWidth" "I" ∈ kT := k_mem 160 (by decide +kernel) rfl
theorem ml_L_13 : Cond.methodLink RL 13 yX4_feed ∈ kT := k_mem 180 (by decide +kernel) rfl
theorem im_X4_feed : Cond.instanceMethod yX4_feed ∈ kT := k_mem 181 (by decide +kernel) rfl
theorem se_X4_feed : Cond.selects RX4 yX4_feed yX4_feed ∈ kT := k_mem 182 (by decide +kernel) rfl
set_option maxRecDepth 40000 in
theorem co_X4_feed : Cond.code yX4_feed cX4_feed 5 (some .int) ∈ kT := k_mem 183 rfl rfl
theorem ml_X4_57 : Cond.methodLink RX4 57 yX4_fileOf ∈ kT := k_mem 184 (by decide +kernel) rfl
theorem im_X4_fileOf : Cond.instanceMethod yX4_fileOf ∈ kT := k_mem 186 (by decide +kernel) rfl
set_option maxRecDepth 40000 in
theorem co_X4_fileOf : Cond.code yX4_fileOf cX4_fileOf 2 (some (.object "DeltaSync$Row")) ∈ kT := k_mem 187 rfl rfl
theorem ml_X4_104 : Cond.methodLink RX4 104 yX4_rowOf ∈ kT := k_mem 188 (by decide +kernel) rfl
theorem im_X4_rowOf : Cond.instanceMethod yX4_rowOf ∈ kT := k_mem 190 (by decide +kernel) rfl
set_option maxRecDepth 40000 in
theorem co_X4_rowOf : Cond.code yX4_rowOf cX4_rowOf 2 (some (.object "DeltaSync$Row")) ∈ kT := k_mem 191 rfl rfl
theorem ml_X4_61 : Cond.methodLink RX4 61 yX1_room ∈ kT := k_mem 192 (by decide +kernel) rfl
theorem im_X1_room : Cond.instanceMethod yX1_room ∈ kT := k_mem 193 (by decide +kernel) rfl
theorem se_X1_room : Cond.selects RX1 yX1_room yX1_room ∈ kT := k_mem 194 (by decide +kernel) rfl
set_option maxRecDepth 40000 in
theorem co_X1_room : Cond.code yX1_room cX1_room 1 (some .int) ∈ kT := k_mem 195 rfl rfl
theorem ml_X4_65 : Cond.methodLink RX4 65 yX1_add ∈ kT := k_mem 196 (by decide +kernel) rfl
theorem im_X1_add : Cond.instanceMethod yX1_add ∈ kT := k_mem 197 (by decide +kernel) rfl
theorem se_X1_add : Cond.selects RX1 yX1_add yX1_add ∈ kT := k_mem 198 (by decide +kernel) rfl
set_option maxRecDepth 40000 in
theorem co_X1_add : Cond.code yX1_add cX1_add 2 (some .boolean) ∈ kT := k_mem 199 rfl rfl
theorem ml_X1_22 : Cond.methodLink RX1 22 yX1_isByte ∈ kT := k_mem 200 (by decide +kernel) rfl
theorem sm_X1_isByte : Cond.static yX1_isByte ∈ kT := k_mem 201 (by decide +kernel) rfl
set_option maxRecDepth 40000 in
theorem co_X1_isByte : Cond.code yX1_isByte cX1_isByte 1 (some .boolean) ∈ kT := k_mem 202 rfl rfl
theorem ml_X1_26 : Cond.methodLink RX1 26 yX1_makeCells ∈ kT := k_mem 203 (by decide +kernel) rfl
theorem im_X1_makeCells : Cond.instanceMethod yX1_makeCells ∈ kT := k_mem 205 (by decide +kernel) rfl
set_option maxRecDepth 40000 in
theorem co_X1_makeCells : Cond.code yX1_makeCells cX1_makeCells 2 none ∈ kT := k_mem 206 rfl rfl
theorem ml_X1_49 : Cond.methodLink RX1 49 Lib.Math.min.name ∈ kT := k_mem 207 (by decide +kernel) rfl
theorem sm_Mmin : Cond.static Lib.Math.min.name ∈ kT := k_mem 208 (by decide +kernel) rfl
set_option maxRecDepth 40000 in
theorem co_Mmin : Cond.code Lib.Math.min.name Lib.Math.min.code 2 (some .int) ∈ kT := k_mem 209 rfl rfl
theorem ml_X1_54 : Cond.methodLink RX1 54 Lib.Math.max.name ∈ kT := k_mem 210 (by decide +kernel) rfl
theorem sm_Mmax : Cond.static Lib.Math.max.name ∈ kT := k_mem 211 (by decide +kernel) rfl
set_option maxRecDepth 40000 in
theorem co_Mmax : Cond.code Lib.Math.max.name Lib.Math.max.code 2 (some .int) ∈ kT := k_mem 212 rfl rfl
theorem ml_X1_57 : Cond.methodLink RX1 57 yJ7_copyOf_59c91 ∈ kT := k_mem 213 (by decide +kernel) rfl
theorem sm_J7_copyOf_59c91 : Cond.static yJ7_copyOf_59c91 ∈ kT := k_mem 214 (by decide +kernel) rfl
set_option maxRecDepth 40000 in
theorem co_J7_copyOf_59c91 : Cond.code yJ7_copyOf_59c91 cJ7_copyOf_59c91 3 (some (.array .int)) ∈ kT := k_mem 215 rfl rfl
theorem cl_J7_317 : Cond.classLink RJ7 317 "[I" ∈ kT := k_mem 222 (by decide +kernel) rfl
theorem ml_J7_304 : Cond.methodLink RJ7 304 Lib.Math.min.name ∈ kT := k_mem 223 (by decide +kernel) rfl
theorem ml_J7_150 : Cond.methodLink RJ7 150 arraycopyName ∈ kT := k_mem 224 (by decide +kernel) rfl
theorem sm_arraycopy : Cond.static arraycopyName ∈ kT := k_mem 225 (by decide +kernel) rfl
theorem nt_arraycopy : Cond.native arraycopyName ∈ kT := k_mem 226 (by decide +kernel) rfl
theorem ml_X4_69 : Cond.methodLink RX4 69 yX1_length ∈ kT := k_mem 227 (by decide +kernel) rfl
theorem im_X1_length : Cond.instanceMethod yX1_length ∈ kT := k_mem 228 (by decide +kernel) rfl
theorem se_X1_length : Cond.selects RX1 yX1_length yX1_length ∈ kT := k_mem 229 (by decide +kernel) rfl
set_option maxRecDepth 40000 in
theorem co_X1_length : Cond.code yX1_length cX1_length 1 (some .int) ∈ kT := k_mem 230 rfl rfl
theorem ml_L_18 : Cond.methodLink RL 18 yX4_cut ∈ kT := k_mem 231 (by decide +kernel) rfl
theorem im_X4_cut : Cond.instanceMethod yX4_cut ∈ kT := k_mem 232 (by decide +kernel) rfl
theorem se_X4_cut : Cond.selects RX4 yX4_cut yX4_cut ∈ kT := k_mem 233 (by decide +kernel) rfl
set_option maxRecDepth 40000 in
theorem co_X4_cut : Cond.code yX4_cut cX4_cut 4 (some .boolean) ∈ kT := k_mem 234 rfl rfl
theorem ml_X4_72 : Cond.methodLink RX4 72 yX1_shorten ∈ kT := k_mem 235 (by decide +kernel) rfl
theorem im_X1_shorten : Cond.instanceMethod yX1_shorten ∈ kT := k_mem 236 (by decide +kernel) rfl
theorem se_X1_shorten : Cond.selects RX1 yX1_shorten yX1_shorten ∈ kT := k_mem 237 (by decide +kernel) rfl
set_option maxRecDepth 40000 in
theorem co_X1_shorten : Cond.code yX1_shorten cX1_shorten 2 (some .boolean) ∈ kT := k_mem 238 rfl rfl
theorem ml_L_23 : Cond.methodLink RL 23 yX4_put ∈ kT := k_mem 239 (by decide +kernel) rfl
theorem im_X4_put : Cond.instanceMethod yX4_put ∈ kT := k_mem 240 (by decide +kernel) rfl
theorem se_X4_put : Cond.selects RX4 yX4_put yX4_put ∈ kT := k_mem 241 (by decide +kernel) rfl
set_option maxRecDepth 40000 in
theorem co_X4_put : Cond.code yX4_put cX4_put 5 (some .boolean) ∈ kT := k_mem 242 rfl rfl
theorem ml_X4_75 : Cond.methodLink RX4 75 yX1_set ∈ kT := k_mem 243 (by decide +kernel) rfl
theorem im_X1_set : Cond.instanceMethod yX1_set ∈ kT := k_mem 244 (by decide +kernel) rfl
theorem se_X1_set : Cond.selects RX1 yX1_set yX1_set ∈ kT := k_mem 245 (by decide +kernel) rfl
set_option maxRecDepth 40000 in
theorem co_X1_set : Cond.code yX1_set cX1_set 3 (some .boolean) ∈ kT := k_mem 246 rfl rfl
theorem ml_L_28 : Cond.methodLink RL 28 yX4_shape ∈ kT := k_mem 247 (by decide +kernel) rfl
theorem im_X4_shape : Cond.instanceMethod yX4_shape ∈ kT := k_mem 248 (by decide +kernel) rfl
theorem se_X4_shape : Cond.selects RX4 yX4_shape yX4_shape ∈ kT := k_mem 249 (by decide +kernel) rfl
set_option maxRecDepth 40000 in
theorem co_X4_shape : Cond.code yX4_shape cX4_shape 3 (some .boolean) ∈ kT := k_mem 250 rfl rfl
theorem ml_L_32 : Cond.methodLink RL 32 yX4_sign ∈ kT := k_mem 251 (by decide +kernel) rfl
theorem im_X4_sign : Cond.instanceMethod yX4_sign ∈ kT := k_mem 252 (by decide +kernel) rfl
theorem se_X4_sign : Cond.selects RX4 yX4_sign yX4_sign ∈ kT := k_mem 253 (by decide +kernel) rfl
set_option maxRecDepth 40000 in
theorem co_X4_sign : Cond.code yX4_sign cX4_sign 1 (some .int) ∈ kT := k_mem 254 rfl rfl
theorem ml_X4_79 : Cond.methodLink RX4 79 yX2_make ∈ kT := k_mem 255 (by decide +kernel) rfl
theorem im_X2_make : Cond.instanceMethod yX2_make ∈ kT := k_mem 256 (by decide +kernel) rfl
theorem se_X2_make : Cond.selects RX2 yX2_make yX2_make ∈ kT := k_mem 257 (by decide +kernel) rfl
set_option maxRecDepth 40000 in
theorem co_X2_make : Cond.code yX2_make cX2_make 8 none ∈ kT := k_mem 258 rfl rfl
theorem ml_X2_45 : Cond.methodLink RX2 45 yX1_length ∈ kT := k_mem 259 (by decide +kernel) rfl
theorem ml_X2_51 : Cond.methodLink RX2 51 yX2_makeRoom ∈ kT := k_mem 260 (by decide +kernel) rfl
theorem im_X2_makeRoom : Cond.instanceMethod yX2_makeRoom ∈ kT := k_mem 262 (by decide +kernel) rfl
set_option maxRecDepth 40000 in
theorem co_X2_makeRoom : Cond.code yX2_makeRoom cX2_makeRoom 2 none ∈ kT := k_mem 263 rfl rfl
theorem ml_X2_83 : Cond.methodLink RX2 83 Lib.Math.min.name ∈ kT := k_mem 264 (by decide +kernel) rfl
theorem ml_X2_88 : Cond.methodLink RX2 88 Lib.Math.max.name ∈ kT := k_mem 265 (by decide +kernel) rfl
theorem ml_X2_54 : Cond.methodLink RX2 54 yX1_sumFrom ∈ kT := k_mem 266 (by decide +kernel) rfl
theorem im_X1_sumFrom : Cond.instanceMethod yX1_sumFrom ∈ kT := k_mem 267 (by decide +kernel) rfl
theorem se_X1_sumFrom : Cond.selects RX1 yX1_sumFrom yX1_sumFrom ∈ kT := k_mem 268 (by decide +kernel) rfl
set_option maxRecDepth 40000 in
theorem co_X1_sumFrom : Cond.code yX1_sumFrom cX1_sumFrom 6 (some .int) ∈ kT := k_mem 269 rfl rfl
theorem ml_X1_30 : Cond.methodLink RX1 30 yX1_holds ∈ kT := k_mem 270 (by decide +kernel) rfl
theorem im_X1_holds : Cond.instanceMethod yX1_holds ∈ kT := k_mem 271 (by decide +kernel) rfl
theorem se_X1_holds : Cond.selects RX1 yX1_holds yX1_holds ∈ kT := k_mem 272 (by decide +kernel) rfl
set_option maxRecDepth 40000 in
theorem co_X1_holds : Cond.code yX1_holds cX1_holds 3 (some .boolean) ∈ kT := k_mem 273 rfl rfl
theorem ml_X1_44 : Cond.methodLink RX1 44 yX1_joined ∈ kT := k_mem 274 (by decide +kernel) rfl
theorem sm_X1_joined : Cond.static yX1_joined ∈ kT := k_mem 275 (by decide +kernel) rfl
set_option maxRecDepth 40000 in
theorem co_X1_joined : Cond.code yX1_joined cX1_joined 2 (some .int) ∈ kT := k_mem 276 rfl rfl
theorem kc_X1_48 : Cond.constant RX1 48 (65535) ∈ kT := k_mem 277 (by decide +kernel) rfl
theorem ml_X2_58 : Cond.methodLink RX2 58 yX0_take ∈ kT := k_mem 278 (by decide +kernel) rfl
theorem im_X0_take : Cond.instanceMethod yX0_take ∈ kT := k_mem 279 (by decide +kernel) rfl
theorem se_X0_take : Cond.selects RX0 yX0_take yX0_take ∈ kT := k_mem 280 (by decide +kernel) rfl
set_option maxRecDepth 40000 in
theorem co_X0_take : Cond.code yX0_take cX0_take 6 none ∈ kT := k_mem 281 rfl rfl
theorem kc_X0_18 : Cond.constant RX0 18 (1732584193) ∈ kT := k_mem 282 (by decide +kernel) rfl
theorem kc_X0_19 : Cond.constant RX0 19 (-271733879) ∈ kT := k_mem 283 (by decide +kernel) rfl
theorem kc_X0_20 : Cond.constant RX0 20 (-1732584194) ∈ kT := k_mem 284 (by decide +kernel) rfl
theorem kc_X0_21 : Cond.constant RX0 21 (271733878) ∈ kT := k_mem 285 (by decide +kernel) rfl
theorem ml_X0_22 : Cond.methodLink RX0 22 yX1_holds ∈ kT := k_mem 286 (by decide +kernel) rfl
theorem ml_X0_28 : Cond.methodLink RX0 28 yX0_fillWords ∈ kT := k_mem 287 (by decide +kernel) rfl
theorem im_X0_fillWords : Cond.instanceMethod yX0_fillWords ∈ kT := k_mem 289 (by decide +kernel) rfl
set_option maxRecDepth 40000 in
theorem co_X0_fillWords : Cond.code yX0_fillWords cX0_fillWords 7 none ∈ kT := k_mem 290 rfl rfl
theorem ml_X0_35 : Cond.methodLink RX0 35 yJ7_fill_53178 ∈ kT := k_mem 291 (by decide +kernel) rfl
theorem ml_X0_41 : Cond.methodLink RX0 41 Lib.Math.min.name ∈ kT := k_mem 292 (by decide +kernel) rfl
theorem ml_X0_47 : Cond.methodLink RX0 47 yX1_get ∈ kT := k_mem 293 (by decide +kernel) rfl
theorem im_X1_get : Cond.instanceMethod yX1_get ∈ kT := k_mem 294 (by decide +kernel) rfl
theorem se_X1_get : Cond.selects RX1 yX1_get yX1_get ∈ kT := k_mem 295 (by decide +kernel) rfl
set_option maxRecDepth 40000 in
theorem co_X1_get : Cond.code yX1_get cX1_get 2 (some .int) ∈ kT := k_mem 296 rfl rfl
theorem ml_X0_32 : Cond.methodLink RX0 32 yX0_mixWords ∈ kT := k_mem 297 (by decide +kernel) rfl
theorem im_X0_mixWords : Cond.instanceMethod yX0_mixWords ∈ kT := k_mem 299 (by decide +kernel) rfl
set_option maxRecDepth 40000 in
theorem co_X0_mixWords : Cond.code yX0_mixWords cX0_mixWords 9 none ∈ kT := k_mem 300 rfl rfl
theorem ml_X0_51 : Cond.methodLink RX0 51 yX0_mixed ∈ kT := k_mem 301 (by decide +kernel) rfl
theorem sm_X0_mixed : Cond.static yX0_mixed ∈ kT := k_mem 302 (by decide +kernel) rfl
set_option maxRecDepth 40000 in
theorem co_X0_mixed : Cond.code yX0_mixed cX0_mixed 4 (some .int) ∈ kT := k_mem 303 rfl rfl
theorem fl_X0_55 : Cond.fieldLink RX0 55 "DeltaSync$Md5" "SINES" "[I" ∈ kT := k_mem 304 (by decide +kernel) rfl
theorem ml_X0_58 : Cond.methodLink RX0 58 yX0_wordFor ∈ kT := k_mem 306 (by decide +kernel) rfl
theorem sm_X0_wordFor : Cond.static yX0_wordFor ∈ kT := k_mem 307 (by decide +kernel) rfl
set_option maxRecDepth 40000 in
theorem co_X0_wordFor : Cond.code yX0_wordFor cX0_wordFor 2 (some .int) ∈ kT := k_mem 308 rfl rfl
theorem fl_X0_61 : Cond.fieldLink RX0 61 "DeltaSync$Md5" "TURNS" "[I" ∈ kT := k_mem 309 (by decide +kernel) rfl
theorem ml_X2_64 : Cond.methodLink RX2 64 yX0_digestByte ∈ kT := k_mem 311 (by decide +kernel) rfl
theorem im_X0_digestByte : Cond.instanceMethod yX0_digestByte ∈ kT := k_mem 312 (by decide +kernel) rfl
theorem se_X0_digestByte : Cond.selects RX0 yX0_digestByte yX0_digestByte ∈ kT := k_mem 313 (by decide +kernel) rfl
set_option maxRecDepth 40000 in
theorem co_X0_digestByte : Cond.code yX0_digestByte cX0_digestByte 2 (some .int) ∈ kT := k_mem 314 rfl rfl
theorem ml_X2_68 : Cond.methodLink RX2 68 yX2_chainBlocks ∈ kT := k_mem 315 (by decide +kernel) rfl
theorem im_X2_chainBlocks : Cond.instanceMethod yX2_chainBlocks ∈ kT := k_mem 317 (by decide +kernel) rfl
set_option maxRecDepth 40000 in
theorem co_X2_chainBlocks : Cond.code yX2_chainBlocks cX2_chainBlocks 3 none ∈ kT := k_mem 318 rfl rfl
theorem ml_X2_71 : Cond.methodLink RX2 71 yX2_chainOf ∈ kT := k_mem 319 (by decide +kernel) rfl
theorem sm_X2_chainOf : Cond.static yX2_chainOf ∈ kT := k_mem 320 (by decide +kernel) rfl
set_option maxRecDepth 40000 in
theorem co_X2_chainOf : Cond.code yX2_chainOf cX2_chainOf 1 (some .int) ∈ kT := k_mem 321 rfl rfl
theorem kc_X2_91 : Cond.constant RX2 91 (-1640531535) ∈ kT := k_mem 322 (by decide +kernel) rfl
theorem ml_X4_83 : Cond.methodLink RX4 83 yX2_blocks ∈ kT := k_mem 323 (by decide +kernel) rfl
theorem im_X2_blocks : Cond.instanceMethod yX2_blocks ∈ kT := k_mem 324 (by decide +kernel) rfl
theorem se_X2_blocks : Cond.selects RX2 yX2_blocks yX2_blocks ∈ kT := k_mem 325 (by decide +kernel) rfl
set_option maxRecDepth 40000 in
theorem co_X2_blocks : Cond.code yX2_blocks cX2_blocks 1 (some .int) ∈ kT := k_mem 326 rfl rfl
theorem ml_L_37 : Cond.methodLink RL 37 yX4_sum ∈ kT := k_mem 327 (by decide +kernel) rfl
theorem im_X4_sum : Cond.instanceMethod yX4_sum ∈ kT := k_mem 328 (by decide +kernel) rfl
theorem se_X4_sum : Cond.selects RX4 yX4_sum yX4_sum ∈ kT := k_mem 329 (by decide +kernel) rfl
set_option maxRecDepth 40000 in
theorem co_X4_sum : Cond.code yX4_sum cX4_sum 2 (some .int) ∈ kT := k_mem 330 rfl rfl
theorem ml_X4_86 : Cond.methodLink RX4 86 yX2_sumOf ∈ kT := k_mem 331 (by decide +kernel) rfl
theorem im_X2_sumOf : Cond.instanceMethod yX2_sumOf ∈ kT := k_mem 332 (by decide +kernel) rfl
theorem se_X2_sumOf : Cond.selects RX2 yX2_sumOf yX2_sumOf ∈ kT := k_mem 333 (by decide +kernel) rfl
set_option maxRecDepth 40000 in
theorem co_X2_sumOf : Cond.code yX2_sumOf cX2_sumOf 2 (some .int) ∈ kT := k_mem 334 rfl rfl
theorem ml_X2_41 : Cond.methodLink RX2 41 yX2_has ∈ kT := k_mem 335 (by decide +kernel) rfl
theorem im_X2_has : Cond.instanceMethod yX2_has ∈ kT := k_mem 337 (by decide +kernel) rfl
set_option maxRecDepth 40000 in
theorem co_X2_has : Cond.code yX2_has cX2_has 2 (some .boolean) ∈ kT := k_mem 338 rfl rfl
theorem ml_L_42 : Cond.methodLink RL 42 yX4_digest ∈ kT := k_mem 339 (by decide +kernel) rfl
theorem im_X4_digest : Cond.instanceMethod yX4_digest ∈ kT := k_mem 340 (by decide +kernel) rfl
theorem se_X4_digest : Cond.selects RX4 yX4_digest yX4_digest ∈ kT := k_mem 341 (by decide +kernel) rfl
set_option maxRecDepth 40000 in
theorem co_X4_digest : Cond.code yX4_digest cX4_digest 3 (some .int) ∈ kT := k_mem 342 rfl rfl
theorem ml_X4_90 : Cond.methodLink RX4 90 yX2_digestByte ∈ kT := k_mem 343 (by decide +kernel) rfl
theorem im_X2_digestByte : Cond.instanceMethod yX2_digestByte ∈ kT := k_mem 344 (by decide +kernel) rfl
theorem se_X2_digestByte : Cond.selects RX2 yX2_digestByte yX2_digestByte ∈ kT := k_mem 345 (by decide +kernel) rfl
set_option maxRecDepth 40000 in
theorem co_X2_digestByte : Cond.code yX2_digestByte cX2_digestByte 3 (some .int) ∈ kT := k_mem 346 rfl rfl
theorem ml_L_46 : Cond.methodLink RL 46 yX4_delta ∈ kT := k_mem 347 (by decide +kernel) rfl
theorem im_X4_delta : Cond.instanceMethod yX4_delta ∈ kT := k_mem 348 (by decide +kernel) rfl
theorem se_X4_delta : Cond.selects RX4 yX4_delta yX4_delta ∈ kT := k_mem 349 (by decide +kernel) rfl
set_option maxRecDepth 40000 in
theorem co_X4_delta : Cond.code yX4_delta cX4_delta 1 (some .int) ∈ kT := k_mem 350 rfl rfl
theorem ml_X4_94 : Cond.methodLink RX4 94 yX3_tell ∈ kT := k_mem 351 (by decide +kernel) rfl
theorem im_X3_tell : Cond.instanceMethod yX3_tell ∈ kT := k_mem 352 (by decide +kernel) rfl
theorem se_X3_tell : Cond.selects RX3 yX3_tell yX3_tell ∈ kT := k_mem 353 (by decide +kernel) rfl
set_option maxRecDepth 40000 in
theorem co_X3_tell : Cond.code yX3_tell cX3_tell 7 none ∈ kT := k_mem 354 rfl rfl
theorem ml_X3_42 : Cond.methodLink RX3 42 yX1_clear ∈ kT := k_mem 355 (by decide +kernel) rfl
theorem im_X1_clear : Cond.instanceMethod yX1_clear ∈ kT := k_mem 356 (by decide +kernel) rfl
theorem se_X1_clear : Cond.selects RX1 yX1_clear yX1_clear ∈ kT := k_mem 357 (by decide +kernel) rfl
set_option maxRecDepth 40000 in
theorem co_X1_clear : Cond.code yX1_clear cX1_clear 1 none ∈ kT := k_mem 358 rfl rfl
theorem ml_X3_47 : Cond.methodLink RX3 47 yX2_blockSize ∈ kT := k_mem 359 (by decide +kernel) rfl
theorem im_X2_blockSize : Cond.instanceMethod yX2_blockSize ∈ kT := k_mem 360 (by decide +kernel) rfl
theorem se_X2_blockSize : Cond.selects RX2 yX2_blockSize yX2_blockSize ∈ kT := k_mem 361 (by decide +kernel) rfl
set_option maxRecDepth 40000 in
theorem co_X2_blockSize : Cond.code yX2_blockSize cX2_blockSize 1 (some .int) ∈ kT := k_mem 362 rfl rfl
theorem ml_X3_53 : Cond.methodLink RX3 53 yX1_length ∈ kT := k_mem 363 (by decide +kernel) rfl
theorem ml_X3_56 : Cond.methodLink RX3 56 yX1_sumFrom ∈ kT := k_mem 364 (by decide +kernel) rfl
theorem ml_X3_60 : Cond.methodLink RX3 60 yX1_holds ∈ kT := k_mem 365 (by decide +kernel) rfl
theorem ml_X3_64 : Cond.methodLink RX3 64 yX3_blockFor ∈ kT := k_mem 366 (by decide +kernel) rfl
theorem im_X3_blockFor : Cond.instanceMethod yX3_blockFor ∈ kT := k_mem 368 (by decide +kernel) rfl
set_option maxRecDepth 40000 in
theorem co_X3_blockFor : Cond.code yX3_blockFor cX3_blockFor 6 (some .int) ∈ kT := k_mem 369 rfl rfl
theorem ml_X3_91 : Cond.methodLink RX3 91 yX2_hasSum ∈ kT := k_mem 370 (by decide +kernel) rfl
theorem im_X2_hasSum : Cond.instanceMethod yX2_hasSum ∈ kT := k_mem 371 (by decide +kernel) rfl
theorem se_X2_hasSum : Cond.selects RX2 yX2_hasSum yX2_hasSum ∈ kT := k_mem 372 (by decide +kernel) rfl
set_option maxRecDepth 40000 in
theorem co_X2_hasSum : Cond.code yX2_hasSum cX2_hasSum 2 (some .boolean) ∈ kT := k_mem 373 rfl rfl
theorem ml_X2_74 : Cond.methodLink RX2 74 yX2_firstInChain ∈ kT := k_mem 374 (by decide +kernel) rfl
theorem im_X2_firstInChain : Cond.instanceMethod yX2_firstInChain ∈ kT := k_mem 376 (by decide +kernel) rfl
set_option maxRecDepth 40000 in
theorem co_X2_firstInChain : Cond.code yX2_firstInChain cX2_firstInChain 5 (some .int) ∈ kT := k_mem 377 rfl rfl
theorem ml_X3_95 : Cond.methodLink RX3 95 yX0_take ∈ kT := k_mem 378 (by decide +kernel) rfl
theorem ml_X3_101 : Cond.methodLink RX3 101 yX2_find ∈ kT := k_mem 379 (by decide +kernel) rfl
theorem im_X2_find : Cond.instanceMethod yX2_find ∈ kT := k_mem 380 (by decide +kernel) rfl
theorem se_X2_find : Cond.selects RX2 yX2_find yX2_find ∈ kT := k_mem 381 (by decide +kernel) rfl
set_option maxRecDepth 40000 in
theorem co_X2_find : Cond.code yX2_find cX2_find 6 (some .int) ∈ kT := k_mem 382 rfl rfl
theorem ml_X2_77 : Cond.methodLink RX2 77 yX2_hasDigest ∈ kT := k_mem 383 (by decide +kernel) rfl
theorem im_X2_hasDigest : Cond.instanceMethod yX2_hasDigest ∈ kT := k_mem 385 (by decide +kernel) rfl
set_option maxRecDepth 40000 in
theorem co_X2_hasDigest : Cond.code yX2_hasDigest cX2_hasDigest 4 (some .boolean) ∈ kT := k_mem 386 rfl rfl
theorem ml_X2_81 : Cond.methodLink RX2 81 yX2_digestByte ∈ kT := k_mem 387 (by decide +kernel) rfl
theorem ml_X3_68 : Cond.methodLink RX3 68 yX1_get ∈ kT := k_mem 388 (by decide +kernel) rfl
theorem ml_X3_72 : Cond.methodLink RX3 72 yX3_writeLiteral ∈ kT := k_mem 389 (by decide +kernel) rfl
theorem im_X3_writeLiteral : Cond.instanceMethod yX3_writeLiteral ∈ kT := k_mem 391 (by decide +kernel) rfl
set_option maxRecDepth 40000 in
theorem co_X3_writeLiteral : Cond.code yX3_writeLiteral cX3_writeLiteral 3 none ∈ kT := k_mem 392 rfl rfl
theorem ml_X3_109 : Cond.methodLink RX3 109 yX3_growRow ∈ kT := k_mem 393 (by decide +kernel) rfl
theorem im_X3_growRow : Cond.instanceMethod yX3_growRow ∈ kT := k_mem 395 (by decide +kernel) rfl
set_option maxRecDepth 40000 in
theorem co_X3_growRow : Cond.code yX3_growRow cX3_growRow 1 none ∈ kT := k_mem 396 rfl rfl
theorem ml_X3_118 : Cond.methodLink RX3 118 yX1_set ∈ kT := k_mem 397 (by decide +kernel) rfl
theorem ml_X3_112 : Cond.methodLink RX3 112 yX1_add ∈ kT := k_mem 398 (by decide +kernel) rfl
theorem ml_X3_115 : Cond.methodLink RX3 115 yX3_openRow ∈ kT := k_mem 399 (by decide +kernel) rfl
theorem im_X3_openRow : Cond.instanceMethod yX3_openRow ∈ kT := k_mem 401 (by decide +kernel) rfl
set_option maxRecDepth 40000 in
theorem co_X3_openRow : Cond.code yX3_openRow cX3_openRow 1 none ∈ kT := k_mem 402 rfl rfl
theorem ml_X3_76 : Cond.methodLink RX3 76 yX3_rolled ∈ kT := k_mem 403 (by decide +kernel) rfl
theorem im_X3_rolled : Cond.instanceMethod yX3_rolled ∈ kT := k_mem 405 (by decide +kernel) rfl
set_option maxRecDepth 40000 in
theorem co_X3_rolled : Cond.code yX3_rolled cX3_rolled 7 (some .int) ∈ kT := k_mem 406 rfl rfl
theorem kc_X3_105 : Cond.constant RX3 105 (65535) ∈ kT := k_mem 407 (by decide +kernel) rfl
theorem ml_X3_106 : Cond.methodLink RX3 106 yX1_joined ∈ kT := k_mem 408 (by decide +kernel) rfl
theorem ml_X3_79 : Cond.methodLink RX3 79 yX3_writeReference ∈ kT := k_mem 409 (by decide +kernel) rfl
theorem im_X3_writeReference : Cond.instanceMethod yX3_writeReference ∈ kT := k_mem 411 (by decide +kernel) rfl
set_option maxRecDepth 40000 in
theorem co_X3_writeReference : Cond.code yX3_writeReference cX3_writeReference 3 none ∈ kT := k_mem 412 rfl rfl
theorem ml_L_50 : Cond.methodLink RL 50 yX4_apply ∈ kT := k_mem 413 (by decide +kernel) rfl
theorem im_X4_apply : Cond.instanceMethod yX4_apply ∈ kT := k_mem 414 (by decide +kernel) rfl
theorem se_X4_apply : Cond.selects RX4 yX4_apply yX4_apply ∈ kT := k_mem 415 (by decide +kernel) rfl
set_option maxRecDepth 40000 in
theorem co_X4_apply : Cond.code yX4_apply cX4_apply 1 (some .int) ∈ kT := k_mem 416 rfl rfl
theorem ml_X4_97 : Cond.methodLink RX4 97 yX1_clear ∈ kT := k_mem 417 (by decide +kernel) rfl
theorem ml_X4_100 : Cond.methodLink RX4 100 yX4_allRowsApplied ∈ kT := k_mem 418 (by decide +kernel) rfl
theorem im_X4_allRowsApplied : Cond.instanceMethod yX4_allRowsApplied ∈ kT := k_mem 420 (by decide +kernel) rfl
set_option maxRecDepth 40000 in
theorem co_X4_allRowsApplied : Cond.code yX4_allRowsApplied cX4_allRowsApplied 5 (some .boolean) ∈ kT := k_mem 421 rfl rfl
theorem ml_X4_141 : Cond.methodLink RX4 141 yX4_applyRow ∈ kT := k_mem 422 (by decide +kernel) rfl
theorem im_X4_applyRow : Cond.instanceMethod yX4_applyRow ∈ kT := k_mem 424 (by decide +kernel) rfl
set_option maxRecDepth 40000 in
theorem co_X4_applyRow : Cond.code yX4_applyRow cX4_applyRow 2 (some .int) ∈ kT := k_mem 425 rfl rfl
theorem ml_X4_107 : Cond.methodLink RX4 107 yX1_get ∈ kT := k_mem 426 (by decide +kernel) rfl
theorem ml_X4_144 : Cond.methodLink RX4 144 yX4_applyLiterals ∈ kT := k_mem 427 (by decide +kernel) rfl
theorem im_X4_applyLiterals : Cond.instanceMethod yX4_applyLiterals ∈ kT := k_mem 429 (by decide +kernel) rfl
set_option maxRecDepth 40000 in
theorem co_X4_applyLiterals : Cond.code yX4_applyLiterals cX4_applyLiterals 3 (some .int) ∈ kT := k_mem 430 rfl rfl
theorem ml_X4_150 : Cond.methodLink RX4 150 yX1_addFrom ∈ kT := k_mem 431 (by decide +kernel) rfl
theorem im_X1_addFrom : Cond.instanceMethod yX1_addFrom ∈ kT := k_mem 432 (by decide +kernel) rfl
theorem se_X1_addFrom : Cond.selects RX1 yX1_addFrom yX1_addFrom ∈ kT := k_mem 433 (by decide +kernel) rfl
set_option maxRecDepth 40000 in
theorem co_X1_addFrom : Cond.code yX1_addFrom cX1_addFrom 4 (some .boolean) ∈ kT := k_mem 434 rfl rfl
theorem ml_X1_34 : Cond.methodLink RX1 34 yX1_room ∈ kT := k_mem 435 (by decide +kernel) rfl
theorem ml_X1_38 : Cond.methodLink RX1 38 arraycopyName ∈ kT := k_mem 436 (by decide +kernel) rfl
theorem ml_X4_147 : Cond.methodLink RX4 147 yX4_applyReferences ∈ kT := k_mem 437 (by decide +kernel) rfl
theorem im_X4_applyReferences : Cond.instanceMethod yX4_applyReferences ∈ kT := k_mem 439 (by decide +kernel) rfl
set_option maxRecDepth 40000 in
theorem co_X4_applyReferences : Cond.code yX4_applyReferences cX4_applyReferences 5 (some .int) ∈ kT := k_mem 440 rfl rfl
theorem ml_X4_154 : Cond.methodLink RX4 154 yX1_holds ∈ kT := k_mem 441 (by decide +kernel) rfl
theorem ml_X4_135 : Cond.methodLink RX4 135 yX2_blockSize ∈ kT := k_mem 442 (by decide +kernel) rfl
theorem ml_L_54 : Cond.methodLink RL 54 yX4_at ∈ kT := k_mem 443 (by decide +kernel) rfl
theorem im_X4_at : Cond.instanceMethod yX4_at ∈ kT := k_mem 444 (by decide +kernel) rfl
theorem se_X4_at : Cond.selects RX4 yX4_at yX4_at ∈ kT := k_mem 445 (by decide +kernel) rfl
set_option maxRecDepth 40000 in
theorem co_X4_at : Cond.code yX4_at cX4_at 4 (some .int) ∈ kT := k_mem 446 rfl rfl
theorem ml_L_58 : Cond.methodLink RL 58 yX4_size ∈ kT := k_mem 447 (by decide +kernel) rfl
theorem im_X4_size : Cond.instanceMethod yX4_size ∈ kT := k_mem 448 (by decide +kernel) rfl
theorem se_X4_size : Cond.selects RX4 yX4_size yX4_size ∈ kT := k_mem 449 (by decide +kernel) rfl
set_option maxRecDepth 40000 in
theorem co_X4_size : Cond.code yX4_size cX4_size 3 (some .int) ∈ kT := k_mem 450 rfl rfl
theorem ml_L_62 : Cond.methodLink RL 62 yX4_change ∈ kT := k_mem 451 (by decide +kernel) rfl
theorem im_X4_change : Cond.instanceMethod yX4_change ∈ kT := k_mem 452 (by decide +kernel) rfl
theorem se_X4_change : Cond.selects RX4 yX4_change yX4_change ∈ kT := k_mem 453 (by decide +kernel) rfl
set_option maxRecDepth 40000 in
theorem co_X4_change : Cond.code yX4_change cX4_change 3 (some .boolean) ∈ kT := k_mem 454 rfl rfl
theorem ml_L_66 : Cond.methodLink RL 66 yX4_push ∈ kT := k_mem 455 (by decide +kernel) rfl
theorem im_X4_push : Cond.instanceMethod yX4_push ∈ kT := k_mem 456 (by decide +kernel) rfl
theorem se_X4_push : Cond.selects RX4 yX4_push yX4_push ∈ kT := k_mem 457 (by decide +kernel) rfl
set_option maxRecDepth 40000 in
theorem co_X4_push : Cond.code yX4_push cX4_push 2 (some .boolean) ∈ kT := k_mem 458 rfl rfl
theorem ml_L_71 : Cond.methodLink RL 71 yX4_keep ∈ kT := k_mem 459 (by decide +kernel) rfl
theorem im_X4_keep : Cond.instanceMethod yX4_keep ∈ kT := k_mem 460 (by decide +kernel) rfl
theorem se_X4_keep : Cond.selects RX4 yX4_keep yX4_keep ∈ kT := k_mem 461 (by decide +kernel) rfl
set_option maxRecDepth 40000 in
theorem co_X4_keep : Cond.code yX4_keep cX4_keep 2 (some .boolean) ∈ kT := k_mem 462 rfl rfl
theorem ml_L_75 : Cond.methodLink RL 75 yX4_sumAt ∈ kT := k_mem 463 (by decide +kernel) rfl
theorem im_X4_sumAt : Cond.instanceMethod yX4_sumAt ∈ kT := k_mem 464 (by decide +kernel) rfl
theorem se_X4_sumAt : Cond.selects RX4 yX4_sumAt yX4_sumAt ∈ kT := k_mem 465 (by decide +kernel) rfl
set_option maxRecDepth 40000 in
theorem co_X4_sumAt : Cond.code yX4_sumAt cX4_sumAt 5 (some .int) ∈ kT := k_mem 466 rfl rfl
theorem ml_X4_110 : Cond.methodLink RX4 110 yX1_sumFrom ∈ kT := k_mem 467 (by decide +kernel) rfl
theorem ml_L_80 : Cond.methodLink RL 80 yX4_md5 ∈ kT := k_mem 468 (by decide +kernel) rfl
theorem im_X4_md5 : Cond.instanceMethod yX4_md5 ∈ kT := k_mem 469 (by decide +kernel) rfl
theorem se_X4_md5 : Cond.selects RX4 yX4_md5 yX4_md5 ∈ kT := k_mem 470 (by decide +kernel) rfl
set_option maxRecDepth 40000 in
theorem co_X4_md5 : Cond.code yX4_md5 cX4_md5 4 (some .int) ∈ kT := k_mem 471 rfl rfl
theorem ml_X4_113 : Cond.methodLink RX4 113 yX0_take ∈ kT := k_mem 472 (by decide +kernel) rfl
theorem ml_X4_117 : Cond.methodLink RX4 117 yX0_digestByte ∈ kT := k_mem 473 (by decide +kernel) rfl
theorem ml_L_84 : Cond.methodLink RL 84 yX4_same ∈ kT := k_mem 474 (by decide +kernel) rfl
theorem im_X4_same : Cond.instanceMethod yX4_same ∈ kT := k_mem 475 (by decide +kernel) rfl
theorem se_X4_same : Cond.selects RX4 yX4_same yX4_same ∈ kT := k_mem 476 (by decide +kernel) rfl
set_option maxRecDepth 40000 in
theorem co_X4_same : Cond.code yX4_same cX4_same 1 (some .boolean) ∈ kT := k_mem 477 rfl rfl
theorem ml_X4_119 : Cond.methodLink RX4 119 yX1_equalTo ∈ kT := k_mem 478 (by decide +kernel) rfl
theorem im_X1_equalTo : Cond.instanceMethod yX1_equalTo ∈ kT := k_mem 479 (by decide +kernel) rfl
theorem se_X1_equalTo : Cond.selects RX1 yX1_equalTo yX1_equalTo ∈ kT := k_mem 480 (by decide +kernel) rfl
set_option maxRecDepth 40000 in
theorem co_X1_equalTo : Cond.code yX1_equalTo cX1_equalTo 3 (some .boolean) ∈ kT := k_mem 481 rfl rfl
theorem ml_L_89 : Cond.methodLink RL 89 yX4_count ∈ kT := k_mem 482 (by decide +kernel) rfl
theorem im_X4_count : Cond.instanceMethod yX4_count ∈ kT := k_mem 483 (by decide +kernel) rfl
theorem se_X4_count : Cond.selects RX4 yX4_count yX4_count ∈ kT := k_mem 484 (by decide +kernel) rfl
set_option maxRecDepth 40000 in
theorem co_X4_count : Cond.code yX4_count cX4_count 2 (some .int) ∈ kT := k_mem 485 rfl rfl
theorem ml_X4_123 : Cond.methodLink RX4 123 yX3_references ∈ kT := k_mem 486 (by decide +kernel) rfl
theorem im_X3_references : Cond.instanceMethod yX3_references ∈ kT := k_mem 487 (by decide +kernel) rfl
theorem se_X3_references : Cond.selects RX3 yX3_references yX3_references ∈ kT := k_mem 488 (by decide +kernel) rfl
set_option maxRecDepth 40000 in
theorem co_X3_references : Cond.code yX3_references cX3_references 1 (some .int) ∈ kT := k_mem 489 rfl rfl
theorem ml_X4_126 : Cond.methodLink RX4 126 yX3_literals ∈ kT := k_mem 490 (by decide +kernel) rfl
theorem im_X3_literals : Cond.instanceMethod yX3_literals ∈ kT := k_mem 491 (by decide +kernel) rfl
theorem se_X3_literals : Cond.selects RX3 yX3_literals yX3_literals ∈ kT := k_mem 492 (by decide +kernel) rfl
set_option maxRecDepth 40000 in
theorem co_X3_literals : Cond.code yX3_literals cX3_literals 1 (some .int) ∈ kT := k_mem 493 rfl rfl
theorem ml_X4_129 : Cond.methodLink RX4 129 yX3_rows ∈ kT := k_mem 494 (by decide +kernel) rfl
theorem im_X3_rows : Cond.instanceMethod yX3_rows ∈ kT := k_mem 495 (by decide +kernel) rfl
theorem se_X3_rows : Cond.selects RX3 yX3_rows yX3_rows ∈ kT := k_mem 496 (by decide +kernel) rfl
set_option maxRecDepth 40000 in
theorem co_X3_rows : Cond.code yX3_rows cX3_rows 1 (some .int) ∈ kT := k_mem 497 rfl rfl
theorem ml_X4_132 : Cond.methodLink RX4 132 yX3_alarms ∈ kT := k_mem 498 (by decide +kernel) rfl
theorem im_X3_alarms : Cond.instanceMethod yX3_alarms ∈ kT := k_mem 499 (by decide +kernel) rfl
theorem se_X3_alarms : Cond.selects RX3 yX3_alarms yX3_alarms ∈ kT := k_mem 500 (by decide +kernel) rfl
set_option maxRecDepth 40000 in
theorem co_X3_alarms : Cond.code yX3_alarms cX3_alarms 1 (some .int) ∈ kT := k_mem 501 rfl rfl
theorem ml_X4_138 : Cond.methodLink RX4 138 yX2_width ∈ kT := k_mem 502 (by decide +kernel) rfl
theorem im_X2_width : Cond.instanceMethod yX2_width ∈ kT := k_mem 503 (by decide +kernel) rfl
theorem se_X2_width : Cond.selects RX2 yX2_width yX2_width ∈ kT := k_mem 504 (by decide +kernel) rfl
set_option maxRecDepth 40000 in
theorem co_X2_width : Cond.code yX2_width cX2_width 1 (some .int) ∈ kT := k_mem 505 rfl rfl
theorem cl_L_10 : Cond.classLink RL 10 RX5 ∈ kT := k_mem 506 (by decide +kernel) rfl
theorem ins_X5 : Cond.instantiable RX5 22 ∈ kT := k_mem 507 (by decide +kernel) rfl
theorem ml_L_12 : Cond.methodLink RL 12 yX5_init ∈ kT := k_mem 508 (by decide +kernel) rfl
theorem im_X5_init : Cond.instanceMethod yX5_init ∈ kT := k_mem 509 (by decide +kernel) rfl
set_option maxRecDepth 40000 in
theorem co_X5_init : Cond.code yX5_init cX5_init 1 none ∈ kT := k_mem 510 rfl rfl
theorem ml_X5_1 : Cond.methodLink RX5 1 objectInit ∈ kT := k_mem 511 (by decide +kernel) rfl
theorem kc_X5_48 : Cond.constant RX5 48 (-680876936) ∈ kT := k_mem 512 (by decide +kernel) rfl
theorem kc_X5_49 : Cond.constant RX5 49 (-389564586) ∈ kT := k_mem 513 (by decide +kernel) rfl
theorem kc_X5_50 : Cond.constant RX5 50 (606105819) ∈ kT := k_mem 514 (by decide +kernel) rfl
theorem kc_X5_51 : Cond.constant RX5 51 (-1044525330) ∈ kT := k_mem 515 (by decide +kernel) rfl
theorem kc_X5_52 : Cond.constant RX5 52 (-176418897) ∈ kT := k_mem 516 (by decide +kernel) rfl
theorem kc_X5_53 : Cond.constant RX5 53 (1200080426) ∈ kT := k_mem 517 (by decide +kernel) rfl
theorem kc_X5_54 : Cond.constant RX5 54 (-1473231341) ∈ kT := k_mem 518 (by decide +kernel) rfl
theorem kc_X5_55 : Cond.constant RX5 55 (-45705983) ∈ kT := k_mem 519 (by decide +kernel) rfl
theorem kc_X5_56 : Cond.constant RX5 56 (1770035416) ∈ kT := k_mem 520 (by decide +kernel) rfl
theorem kc_X5_57 : Cond.constant RX5 57 (-1958414417) ∈ kT := k_mem 521 (by decide +kernel) rfl
theorem kc_X5_58 : Cond.constant RX5 58 (-42063) ∈ kT := k_mem 522 (by decide +kernel) rfl
theorem kc_X5_59 : Cond.constant RX5 59 (-1990404162) ∈ kT := k_mem 523 (by decide +kernel) rfl
theorem kc_X5_60 : Cond.constant RX5 60 (1804603682) ∈ kT := k_mem 524 (by decide +kernel) rfl
theorem kc_X5_61 : Cond.constant RX5 61 (-40341101) ∈ kT := k_mem 525 (by decide +kernel) rfl
theorem kc_X5_62 : Cond.constant RX5 62 (-1502002290) ∈ kT := k_mem 526 (by decide +kernel) rfl
theorem kc_X5_63 : Cond.constant RX5 63 (1236535329) ∈ kT := k_mem 527 (by decide +kernel) rfl
theorem kc_X5_64 : Cond.constant RX5 64 (-165796510) ∈ kT := k_mem 528 (by decide +kernel) rfl
theorem kc_X5_65 : Cond.constant RX5 65 (-1069501632) ∈ kT := k_mem 529 (by decide +kernel) rfl
theorem kc_X5_66 : Cond.constant RX5 66 (643717713) ∈ kT := k_mem 530 (by decide +kernel) rfl
theorem kc_X5_67 : Cond.constant RX5 67 (-373897302) ∈ kT := k_mem 531 (by decide +kernel) rfl
theorem kc_X5_68 : Cond.constant RX5 68 (-701558691) ∈ kT := k_mem 532 (by decide +kernel) rfl
theorem kc_X5_69 : Cond.constant RX5 69 (38016083) ∈ kT := k_mem 533 (by decide +kernel) rfl
theorem kc_X5_70 : Cond.constant RX5 70 (-660478335) ∈ kT := k_mem 534 (by decide +kernel) rfl
theorem kc_X5_71 : Cond.constant RX5 71 (-405537848) ∈ kT := k_mem 535 (by decide +kernel) rfl
theorem kc_X5_72 : Cond.constant RX5 72 (568446438) ∈ kT := k_mem 536 (by decide +kernel) rfl
theorem kc_X5_73 : Cond.constant RX5 73 (-1019803690) ∈ kT := k_mem 537 (by decide +kernel) rfl
theorem kc_X5_74 : Cond.constant RX5 74 (-187363961) ∈ kT := k_mem 538 (by decide +kernel) rfl
theorem kc_X5_75 : Cond.constant RX5 75 (1163531501) ∈ kT := k_mem 539 (by decide +kernel) rfl
theorem kc_X5_76 : Cond.constant RX5 76 (-1444681467) ∈ kT := k_mem 540 (by decide +kernel) rfl
theorem kc_X5_77 : Cond.constant RX5 77 (-51403784) ∈ kT := k_mem 541 (by decide +kernel) rfl
theorem kc_X5_78 : Cond.constant RX5 78 (1735328473) ∈ kT := k_mem 542 (by decide +kernel) rfl
theorem kc_X5_79 : Cond.constant RX5 79 (-1926607734) ∈ kT := k_mem 543 (by decide +kernel) rfl
theorem kc_X5_80 : Cond.constant RX5 80 (-378558) ∈ kT := k_mem 544 (by decide +kernel) rfl
theorem kc_X5_81 : Cond.constant RX5 81 (-2022574463) ∈ kT := k_mem 545 (by decide +kernel) rfl
theorem kc_X5_82 : Cond.constant RX5 82 (1839030562) ∈ kT := k_mem 546 (by decide +kernel) rfl
theorem kc_X5_83 : Cond.constant RX5 83 (-35309556) ∈ kT := k_mem 547 (by decide +kernel) rfl
theorem kc_X5_84 : Cond.constant RX5 84 (-1530992060) ∈ kT := k_mem 548 (by decide +kernel) rfl
theorem kc_X5_85 : Cond.constant RX5 85 (1272893353) ∈ kT := k_mem 549 (by decide +kernel) rfl
theorem kc_X5_86 : Cond.constant RX5 86 (-155497632) ∈ kT := k_mem 550 (by decide +kernel) rfl
theorem kc_X5_87 : Cond.constant RX5 87 (-1094730640) ∈ kT := k_mem 551 (by decide +kernel) rfl
theorem kc_X5_88 : Cond.constant RX5 88 (681279174) ∈ kT := k_mem 552 (by decide +kernel) rfl
theorem kc_X5_89 : Cond.constant RX5 89 (-358537222) ∈ kT := k_mem 553 (by decide +kernel) rfl
theorem kc_X5_90 : Cond.constant RX5 90 (-722521979) ∈ kT := k_mem 554 (by decide +kernel) rfl
theorem kc_X5_91 : Cond.constant RX5 91 (76029189) ∈ kT := k_mem 555 (by decide +kernel) rfl
theorem kc_X5_92 : Cond.constant RX5 92 (-640364487) ∈ kT := k_mem 556 (by decide +kernel) rfl
theorem kc_X5_93 : Cond.constant RX5 93 (-421815835) ∈ kT := k_mem 557 (by decide +kernel) rfl
theorem kc_X5_94 : Cond.constant RX5 94 (530742520) ∈ kT := k_mem 558 (by decide +kernel) rfl
theorem kc_X5_95 : Cond.constant RX5 95 (-995338651) ∈ kT := k_mem 559 (by decide +kernel) rfl
theorem kc_X5_96 : Cond.constant RX5 96 (-198630844) ∈ kT := k_mem 560 (by decide +kernel) rfl
theorem kc_X5_97 : Cond.constant RX5 97 (1126891415) ∈ kT := k_mem 561 (by decide +kernel) rfl
theorem kc_X5_98 : Cond.constant RX5 98 (-1416354905) ∈ kT := k_mem 562 (by decide +kernel) rfl
theorem kc_X5_99 : Cond.constant RX5 99 (-57434055) ∈ kT := k_mem 563 (by decide +kernel) rfl
theorem kc_X5_100 : Cond.constant RX5 100 (1700485571) ∈ kT := k_mem 564 (by decide +kernel) rfl
theorem kc_X5_101 : Cond.constant RX5 101 (-1894986606) ∈ kT := k_mem 565 (by decide +kernel) rfl
theorem kc_X5_102 : Cond.constant RX5 102 (-1051523) ∈ kT := k_mem 566 (by decide +kernel) rfl
theorem kc_X5_103 : Cond.constant RX5 103 (-2054922799) ∈ kT := k_mem 567 (by decide +kernel) rfl
theorem kc_X5_104 : Cond.constant RX5 104 (1873313359) ∈ kT := k_mem 568 (by decide +kernel) rfl
theorem kc_X5_105 : Cond.constant RX5 105 (-30611744) ∈ kT := k_mem 569 (by decide +kernel) rfl
theorem kc_X5_106 : Cond.constant RX5 106 (-1560198380) ∈ kT := k_mem 570 (by decide +kernel) rfl
theorem kc_X5_107 : Cond.constant RX5 107 (1309151649) ∈ kT := k_mem 571 (by decide +kernel) rfl
theorem kc_X5_108 : Cond.constant RX5 108 (-145523070) ∈ kT := k_mem 572 (by decide +kernel) rfl
theorem kc_X5_109 : Cond.constant RX5 109 (-1120210379) ∈ kT := k_mem 573 (by decide +kernel) rfl
theorem kc_X5_110 : Cond.constant RX5 110 (718787259) ∈ kT := k_mem 574 (by decide +kernel) rfl
theorem kc_X5_111 : Cond.constant RX5 111 (-343485551) ∈ kT := k_mem 575 (by decide +kernel) rfl
theorem fl_X5_7 : Cond.fieldLink RX5 7 "DeltaSyncModel" "bytes" "[B" ∈ kT := k_mem 576 (by decide +kernel) rfl
theorem fl_X5_13 : Cond.fieldLink RX5 13 "DeltaSyncModel" "sizes" "[I" ∈ kT := k_mem 577 (by decide +kernel) rfl
theorem fl_X5_17 : Cond.fieldLink RX5 17 "DeltaSyncModel" "delta" "[B" ∈ kT := k_mem 578 (by decide +kernel) rfl
theorem fl_X5_157 : Cond.fieldLink RX5 157 "DeltaSyncModel" "deltaSize" "I" ∈ kT := k_mem 579 (by decide +kernel) rfl
theorem fl_X5_20 : Cond.fieldLink RX5 20 "DeltaSyncModel" "size" "I" ∈ kT := k_mem 580 (by decide +kernel) rfl
theorem fl_X5_24 : Cond.fieldLink RX5 24 "DeltaSyncModel" "width" "I" ∈ kT := k_mem 581 (by decide +kernel) rfl
theorem fl_X5_136 : Cond.fieldLink RX5 136 "DeltaSyncModel" "blocks" "I" ∈ kT := k_mem 582 (by decide +kernel) rfl
theorem fl_X5_27 : Cond.fieldLink RX5 27 "DeltaSyncModel" "signedSize" "I" ∈ kT := k_mem 583 (by decide +kernel) rfl
theorem fl_X5_30 : Cond.fieldLink RX5 30 "DeltaSyncModel" "signedWidth" "I" ∈ kT := k_mem 584 (by decide +kernel) rfl
theorem fl_X5_33 : Cond.fieldLink RX5 33 "DeltaSyncModel" "sums" "[I" ∈ kT := k_mem 585 (by decide +kernel) rfl
theorem fl_X5_36 : Cond.fieldLink RX5 36 "DeltaSyncModel" "digests" "[B" ∈ kT := k_mem 586 (by decide +kernel) rfl
theorem fl_X5_160 : Cond.fieldLink RX5 160 "DeltaSyncModel" "references" "I" ∈ kT := k_mem 587 (by decide +kernel) rfl
theorem fl_X5_163 : Cond.fieldLink RX5 163 "DeltaSyncModel" "literals" "I" ∈ kT := k_mem 588 (by decide +kernel) rfl
theorem fl_X5_166 : Cond.fieldLink RX5 166 "DeltaSyncModel" "rows" "I" ∈ kT := k_mem 589 (by decide +kernel) rfl
theorem fl_X5_154 : Cond.fieldLink RX5 154 "DeltaSyncModel" "alarms" "I" ∈ kT := k_mem 590 (by decide +kernel) rfl
theorem fl_X5_39 : Cond.fieldLink RX5 39 "DeltaSyncModel" "filled" "[B" ∈ kT := k_mem 591 (by decide +kernel) rfl
theorem fl_X5_42 : Cond.fieldLink RX5 42 "DeltaSyncModel" "state" "[I" ∈ kT := k_mem 592 (by decide +kernel) rfl
theorem fl_X5_45 : Cond.fieldLink RX5 45 "DeltaSyncModel" "words" "[I" ∈ kT := k_mem 593 (by decide +kernel) rfl
theorem fl_X5_112 : Cond.fieldLink RX5 112 "DeltaSyncModel" "sines" "[I" ∈ kT := k_mem 594 (by decide +kernel) rfl
theorem fl_X5_115 : Cond.fieldLink RX5 115 "DeltaSyncModel" "turns" "[I" ∈ kT := k_mem 595 (by decide +kernel) rfl
theorem fl_X5_118 : Cond.fieldLink RX5 118 "DeltaSyncModel" "told" "[I" ∈ kT := k_mem 596 (by decide +kernel) rfl
theorem fl_X5_169 : Cond.fieldLink RX5 169 "DeltaSyncModel" "tolds" "I" ∈ kT := k_mem 597 (by decide +kernel) rfl
theorem ml_L_17 : Cond.methodLink RL 17 yX5_feed ∈ kT := k_mem 643 (by decide +kernel) rfl
theorem im_X5_feed : Cond.instanceMethod yX5_feed ∈ kT := k_mem 644 (by decide +kernel) rfl
theorem se_X5_feed : Cond.selects RX5 yX5_feed yX5_feed ∈ kT := k_mem 645 (by decide +kernel) rfl
set_option maxRecDepth 40000 in
theorem co_X5_feed : Cond.code yX5_feed cX5_feed 4 (some .int) ∈ kT := k_mem 646 rfl rfl
theorem ml_X5_121 : Cond.methodLink RX5 121 yX5_isFile ∈ kT := k_mem 647 (by decide +kernel) rfl
theorem sm_X5_isFile : Cond.static yX5_isFile ∈ kT := k_mem 648 (by decide +kernel) rfl
set_option maxRecDepth 40000 in
theorem co_X5_isFile : Cond.code yX5_isFile cX5_isFile 1 (some .boolean) ∈ kT := k_mem 649 rfl rfl
theorem ml_L_22 : Cond.methodLink RL 22 yX5_cut ∈ kT := k_mem 650 (by decide +kernel) rfl
theorem im_X5_cut : Cond.instanceMethod yX5_cut ∈ kT := k_mem 651 (by decide +kernel) rfl
theorem se_X5_cut : Cond.selects RX5 yX5_cut yX5_cut ∈ kT := k_mem 652 (by decide +kernel) rfl
set_option maxRecDepth 40000 in
theorem co_X5_cut : Cond.code yX5_cut cX5_cut 3 (some .boolean) ∈ kT := k_mem 653 rfl rfl
theorem ml_L_27 : Cond.methodLink RL 27 yX5_put ∈ kT := k_mem 654 (by decide +kernel) rfl
theorem im_X5_put : Cond.instanceMethod yX5_put ∈ kT := k_mem 655 (by decide +kernel) rfl
theorem se_X5_put : Cond.selects RX5 yX5_put yX5_put ∈ kT := k_mem 656 (by decide +kernel) rfl
set_option maxRecDepth 40000 in
theorem co_X5_put : Cond.code yX5_put cX5_put 4 (some .boolean) ∈ kT := k_mem 657 rfl rfl
theorem ml_L_31 : Cond.methodLink RL 31 yX5_shape ∈ kT := k_mem 658 (by decide +kernel) rfl
theorem im_X5_shape : Cond.instanceMethod yX5_shape ∈ kT := k_mem 659 (by decide +kernel) rfl
theorem se_X5_shape : Cond.selects RX5 yX5_shape yX5_shape ∈ kT := k_mem 660 (by decide +kernel) rfl
set_option maxRecDepth 40000 in
theorem co_X5_shape : Cond.code yX5_shape cX5_shape 3 (some .boolean) ∈ kT := k_mem 661 rfl rfl
theorem ml_L_36 : Cond.methodLink RL 36 yX5_sign ∈ kT := k_mem 662 (by decide +kernel) rfl
theorem im_X5_sign : Cond.instanceMethod yX5_sign ∈ kT := k_mem 663 (by decide +kernel) rfl
theorem se_X5_sign : Cond.selects RX5 yX5_sign yX5_sign ∈ kT := k_mem 664 (by decide +kernel) rfl
set_option maxRecDepth 40000 in
theorem co_X5_sign : Cond.code yX5_sign cX5_sign 3 (some .int) ∈ kT := k_mem 665 rfl rfl
theorem ml_X5_139 : Cond.methodLink RX5 139 yX5_sumOf ∈ kT := k_mem 666 (by decide +kernel) rfl
theorem im_X5_sumOf : Cond.instanceMethod yX5_sumOf ∈ kT := k_mem 668 (by decide +kernel) rfl
set_option maxRecDepth 40000 in
theorem co_X5_sumOf : Cond.code yX5_sumOf cX5_sumOf 7 (some .int) ∈ kT := k_mem 669 rfl rfl
theorem kc_X5_125 : Cond.constant RX5 125 (65535) ∈ kT := k_mem 670 (by decide +kernel) rfl
theorem ml_X5_143 : Cond.methodLink RX5 143 yX5_digestOf ∈ kT := k_mem 671 (by decide +kernel) rfl
theorem im_X5_digestOf : Cond.instanceMethod yX5_digestOf ∈ kT := k_mem 673 (by decide +kernel) rfl
set_option maxRecDepth 40000 in
theorem co_X5_digestOf : Cond.code yX5_digestOf cX5_digestOf 7 none ∈ kT := k_mem 674 rfl rfl
theorem kc_X5_126 : Cond.constantLong RX5 126 (8) ∈ kT := k_mem 675 (by decide +kernel) rfl
theorem kc_X5_128 : Cond.constant RX5 128 (1732584193) ∈ kT := k_mem 676 (by decide +kernel) rfl
theorem kc_X5_129 : Cond.constant RX5 129 (-271733879) ∈ kT := k_mem 677 (by decide +kernel) rfl
theorem kc_X5_130 : Cond.constant RX5 130 (-1732584194) ∈ kT := k_mem 678 (by decide +kernel) rfl
theorem kc_X5_131 : Cond.constant RX5 131 (271733878) ∈ kT := k_mem 679 (by decide +kernel) rfl
theorem ml_X5_132 : Cond.methodLink RX5 132 yX5_mix ∈ kT := k_mem 680 (by decide +kernel) rfl
theorem im_X5_mix : Cond.instanceMethod yX5_mix ∈ kT := k_mem 682 (by decide +kernel) rfl
set_option maxRecDepth 40000 in
theorem co_X5_mix : Cond.code yX5_mix cX5_mix 12 none ∈ kT := k_mem 683 rfl rfl
theorem ml_X5_147 : Cond.methodLink RX5 147 yX5_digestByte ∈ kT := k_mem 684 (by decide +kernel) rfl
theorem im_X5_digestByte : Cond.instanceMethod yX5_digestByte ∈ kT := k_mem 686 (by decide +kernel) rfl
set_option maxRecDepth 40000 in
theorem co_X5_digestByte : Cond.code yX5_digestByte cX5_digestByte 2 (some .int) ∈ kT := k_mem 687 rfl rfl
theorem ml_L_41 : Cond.methodLink RL 41 yX5_sum ∈ kT := k_mem 688 (by decide +kernel) rfl
theorem im_X5_sum : Cond.instanceMethod yX5_sum ∈ kT := k_mem 689 (by decide +kernel) rfl
theorem se_X5_sum : Cond.selects RX5 yX5_sum yX5_sum ∈ kT := k_mem 690 (by decide +kernel) rfl
set_option maxRecDepth 40000 in
theorem co_X5_sum : Cond.code yX5_sum cX5_sum 2 (some .int) ∈ kT := k_mem 691 rfl rfl
theorem ml_L_45 : Cond.methodLink RL 45 yX5_digest ∈ kT := k_mem 692 (by decide +kernel) rfl
theorem im_X5_digest : Cond.instanceMethod yX5_digest ∈ kT := k_mem 693 (by decide +kernel) rfl
theorem se_X5_digest : Cond.selects RX5 yX5_digest yX5_digest ∈ kT := k_mem 694 (by decide +kernel) rfl
set_option maxRecDepth 40000 in
theorem co_X5_digest : Cond.code yX5_digest cX5_digest 3 (some .int) ∈ kT := k_mem 695 rfl rfl
theorem ml_L_49 : Cond.methodLink RL 49 yX5_delta ∈ kT := k_mem 696 (by decide +kernel) rfl
theorem im_X5_delta : Cond.instanceMethod yX5_delta ∈ kT := k_mem 697 (by decide +kernel) rfl
theorem se_X5_delta : Cond.selects RX5 yX5_delta yX5_delta ∈ kT := k_mem 698 (by decide +kernel) rfl
set_option maxRecDepth 40000 in
theorem co_X5_delta : Cond.code yX5_delta cX5_delta 7 (some .int) ∈ kT := k_mem 699 rfl rfl
theorem ml_X5_172 : Cond.methodLink RX5 172 yX5_blockAt ∈ kT := k_mem 700 (by decide +kernel) rfl
theorem im_X5_blockAt : Cond.instanceMethod yX5_blockAt ∈ kT := k_mem 702 (by decide +kernel) rfl
set_option maxRecDepth 40000 in
theorem co_X5_blockAt : Cond.code yX5_blockAt cX5_blockAt 7 (some .int) ∈ kT := k_mem 703 rfl rfl
theorem ml_X5_151 : Cond.methodLink RX5 151 yX5_isDigest ∈ kT := k_mem 704 (by decide +kernel) rfl
theorem im_X5_isDigest : Cond.instanceMethod yX5_isDigest ∈ kT := k_mem 706 (by decide +kernel) rfl
set_option maxRecDepth 40000 in
theorem co_X5_isDigest : Cond.code yX5_isDigest cX5_isDigest 4 (some .boolean) ∈ kT := k_mem 707 rfl rfl
theorem ml_X5_175 : Cond.methodLink RX5 175 yX5_add ∈ kT := k_mem 708 (by decide +kernel) rfl
theorem im_X5_add : Cond.instanceMethod yX5_add ∈ kT := k_mem 710 (by decide +kernel) rfl
set_option maxRecDepth 40000 in
theorem co_X5_add : Cond.code yX5_add cX5_add 2 none ∈ kT := k_mem 711 rfl rfl
theorem ml_L_53 : Cond.methodLink RL 53 yX5_apply ∈ kT := k_mem 712 (by decide +kernel) rfl
theorem im_X5_apply : Cond.instanceMethod yX5_apply ∈ kT := k_mem 713 (by decide +kernel) rfl
theorem se_X5_apply : Cond.selects RX5 yX5_apply yX5_apply ∈ kT := k_mem 714 (by decide +kernel) rfl
set_option maxRecDepth 40000 in
theorem co_X5_apply : Cond.code yX5_apply cX5_apply 10 (some .int) ∈ kT := k_mem 715 rfl rfl
theorem ml_L_57 : Cond.methodLink RL 57 yX5_at ∈ kT := k_mem 716 (by decide +kernel) rfl
theorem im_X5_at : Cond.instanceMethod yX5_at ∈ kT := k_mem 717 (by decide +kernel) rfl
theorem se_X5_at : Cond.selects RX5 yX5_at yX5_at ∈ kT := k_mem 718 (by decide +kernel) rfl
set_option maxRecDepth 40000 in
theorem co_X5_at : Cond.code yX5_at cX5_at 3 (some .int) ∈ kT := k_mem 719 rfl rfl
theorem ml_X5_178 : Cond.methodLink RX5 178 yX5_size ∈ kT := k_mem 720 (by decide +kernel) rfl
theorem im_X5_size : Cond.instanceMethod yX5_size ∈ kT := k_mem 721 (by decide +kernel) rfl
theorem se_X5_size : Cond.selects RX5 yX5_size yX5_size ∈ kT := k_mem 722 (by decide +kernel) rfl
set_option maxRecDepth 40000 in
theorem co_X5_size : Cond.code yX5_size cX5_size 2 (some .int) ∈ kT := k_mem 723 rfl rfl
theorem ml_L_61 : Cond.methodLink RL 61 yX5_size ∈ kT := k_mem 724 (by decide +kernel) rfl
theorem ml_L_65 : Cond.methodLink RL 65 yX5_change ∈ kT := k_mem 725 (by decide +kernel) rfl
theorem im_X5_change : Cond.instanceMethod yX5_change ∈ kT := k_mem 726 (by decide +kernel) rfl
theorem se_X5_change : Cond.selects RX5 yX5_change yX5_change ∈ kT := k_mem 727 (by decide +kernel) rfl
set_option maxRecDepth 40000 in
theorem co_X5_change : Cond.code yX5_change cX5_change 3 (some .boolean) ∈ kT := k_mem 728 rfl rfl
theorem ml_L_70 : Cond.methodLink RL 70 yX5_push ∈ kT := k_mem 729 (by decide +kernel) rfl
theorem im_X5_push : Cond.instanceMethod yX5_push ∈ kT := k_mem 730 (by decide +kernel) rfl
theorem se_X5_push : Cond.selects RX5 yX5_push yX5_push ∈ kT := k_mem 731 (by decide +kernel) rfl
set_option maxRecDepth 40000 in
theorem co_X5_push : Cond.code yX5_push cX5_push 2 (some .boolean) ∈ kT := k_mem 732 rfl rfl
theorem ml_L_74 : Cond.methodLink RL 74 yX5_keep ∈ kT := k_mem 733 (by decide +kernel) rfl
theorem im_X5_keep : Cond.instanceMethod yX5_keep ∈ kT := k_mem 734 (by decide +kernel) rfl
theorem se_X5_keep : Cond.selects RX5 yX5_keep yX5_keep ∈ kT := k_mem 735 (by decide +kernel) rfl
set_option maxRecDepth 40000 in
theorem co_X5_keep : Cond.code yX5_keep cX5_keep 2 (some .boolean) ∈ kT := k_mem 736 rfl rfl
theorem ml_L_79 : Cond.methodLink RL 79 yX5_sumAt ∈ kT := k_mem 737 (by decide +kernel) rfl
theorem im_X5_sumAt : Cond.instanceMethod yX5_sumAt ∈ kT := k_mem 738 (by decide +kernel) rfl
theorem se_X5_sumAt : Cond.selects RX5 yX5_sumAt yX5_sumAt ∈ kT := k_mem 739 (by decide +kernel) rfl
set_option maxRecDepth 40000 in
theorem co_X5_sumAt : Cond.code yX5_sumAt cX5_sumAt 4 (some .int) ∈ kT := k_mem 740 rfl rfl
theorem ml_L_83 : Cond.methodLink RL 83 yX5_md5 ∈ kT := k_mem 741 (by decide +kernel) rfl
theorem im_X5_md5 : Cond.instanceMethod yX5_md5 ∈ kT := k_mem 742 (by decide +kernel) rfl
theorem se_X5_md5 : Cond.selects RX5 yX5_md5 yX5_md5 ∈ kT := k_mem 743 (by decide +kernel) rfl
set_option maxRecDepth 40000 in
theorem co_X5_md5 : Cond.code yX5_md5 cX5_md5 3 (some .int) ∈ kT := k_mem 744 rfl rfl
theorem ml_L_88 : Cond.methodLink RL 88 yX5_same ∈ kT := k_mem 745 (by decide +kernel) rfl
theorem im_X5_same : Cond.instanceMethod yX5_same ∈ kT := k_mem 746 (by decide +kernel) rfl
theorem se_X5_same : Cond.selects RX5 yX5_same yX5_same ∈ kT := k_mem 747 (by decide +kernel) rfl
set_option maxRecDepth 40000 in
theorem co_X5_same : Cond.code yX5_same cX5_same 3 (some .boolean) ∈ kT := k_mem 748 rfl rfl
theorem ml_L_92 : Cond.methodLink RL 92 yX5_count ∈ kT := k_mem 749 (by decide +kernel) rfl
theorem im_X5_count : Cond.instanceMethod yX5_count ∈ kT := k_mem 750 (by decide +kernel) rfl
theorem se_X5_count : Cond.selects RX5 yX5_count yX5_count ∈ kT := k_mem 751 (by decide +kernel) rfl
set_option maxRecDepth 40000 in
theorem co_X5_count : Cond.code yX5_count cX5_count 2 (some .int) ∈ kT := k_mem 752 rfl rfl
theorem se_X3_startAnew : Cond.selects RX3 yX3_startAnew yX3_startAnew ∈ kT := k_mem 0 (by decide +kernel) rfl
theorem se_X4_fileOf : Cond.selects RX4 yX4_fileOf yX4_fileOf ∈ kT := k_mem 1 (by decide +kernel) rfl
theorem se_X4_rowOf : Cond.selects RX4 yX4_rowOf yX4_rowOf ∈ kT := k_mem 2 (by decide +kernel) rfl
theorem se_X1_makeCells : Cond.selects RX1 yX1_makeCells yX1_makeCells ∈ kT := k_mem 3 (by decide +kernel) rfl
theorem se_X2_makeRoom : Cond.selects RX2 yX2_makeRoom yX2_makeRoom ∈ kT := k_mem 4 (by decide +kernel) rfl
theorem se_X0_fillWords : Cond.selects RX0 yX0_fillWords yX0_fillWords ∈ kT := k_mem 5 (by decide +kernel) rfl
theorem se_X0_mixWords : Cond.selects RX0 yX0_mixWords yX0_mixWords ∈ kT := k_mem 6 (by decide +kernel) rfl
theorem se_X2_chainBlocks : Cond.selects RX2 yX2_chainBlocks yX2_chainBlocks ∈ kT := k_mem 7 (by decide +kernel) rfl
theorem se_X2_has : Cond.selects RX2 yX2_has yX2_has ∈ kT := k_mem 8 (by decide +kernel) rfl
theorem se_X3_blockFor : Cond.selects RX3 yX3_blockFor yX3_blockFor ∈ kT := k_mem 9 (by decide +kernel) rfl
theorem se_X2_firstInChain : Cond.selects RX2 yX2_firstInChain yX2_firstInChain ∈ kT := k_mem 10 (by decide +kernel) rfl
theorem se_X2_hasDigest : Cond.selects RX2 yX2_hasDigest yX2_hasDigest ∈ kT := k_mem 11 (by decide +kernel) rfl
theorem se_X3_writeLiteral : Cond.selects RX3 yX3_writeLiteral yX3_writeLiteral ∈ kT := k_mem 12 (by decide +kernel) rfl
theorem se_X3_growRow : Cond.selects RX3 yX3_growRow yX3_growRow ∈ kT := k_mem 13 (by decide +kernel) rfl
theorem se_X3_openRow : Cond.selects RX3 yX3_openRow yX3_openRow ∈ kT := k_mem 14 (by decide +kernel) rfl
theorem se_X3_rolled : Cond.selects RX3 yX3_rolled yX3_rolled ∈ kT := k_mem 15 (by decide +kernel) rfl
theorem se_X3_writeReference : Cond.selects RX3 yX3_writeReference yX3_writeReference ∈ kT := k_mem 16 (by decide +kernel) rfl
theorem se_X4_allRowsApplied : Cond.selects RX4 yX4_allRowsApplied yX4_allRowsApplied ∈ kT := k_mem 17 (by decide +kernel) rfl
theorem se_X4_applyRow : Cond.selects RX4 yX4_applyRow yX4_applyRow ∈ kT := k_mem 18 (by decide +kernel) rfl
theorem se_X4_applyLiterals : Cond.selects RX4 yX4_applyLiterals yX4_applyLiterals ∈ kT := k_mem 19 (by decide +kernel) rfl
theorem se_X4_applyReferences : Cond.selects RX4 yX4_applyReferences yX4_applyReferences ∈ kT := k_mem 20 (by decide +kernel) rfl
theorem se_X5_sumOf : Cond.selects RX5 yX5_sumOf yX5_sumOf ∈ kT := k_mem 21 (by decide +kernel) rfl
theorem se_X5_digestOf : Cond.selects RX5 yX5_digestOf yX5_digestOf ∈ kT := k_mem 22 (by decide +kernel) rfl
theorem se_X5_mix : Cond.selects RX5 yX5_mix yX5_mix ∈ kT := k_mem 23 (by decide +kernel) rfl
theorem se_X5_digestByte : Cond.selects RX5 yX5_digestByte yX5_digestByte ∈ kT := k_mem 24 (by decide +kernel) rfl
theorem se_X5_blockAt : Cond.selects RX5 yX5_blockAt yX5_blockAt ∈ kT := k_mem 25 (by decide +kernel) rfl
theorem se_X5_isDigest : Cond.selects RX5 yX5_isDigest yX5_isDigest ∈ kT := k_mem 26 (by decide +kernel) rfl
theorem se_X5_add : Cond.selects RX5 yX5_add yX5_add ∈ kT := k_mem 27 (by decide +kernel) rfl
theorem in_X0 : ∀ w ∈ u_ws RX0 TX0 2, w ∈ kT := fun w hw => List.mem_filter.mpr (show w ∈ lw_tbl ∧ goodWord w = true from (by decide +kernel : ∀ w ∈ u_ws RX0 TX0 2, w ∈ lw_tbl ∧ goodWord w = true) w hw)
theorem in_X1 : ∀ w ∈ u_ws RX1 TX1 3, w ∈ kT := fun w hw => List.mem_filter.mpr (show w ∈ lw_tbl ∧ goodWord w = true from (by decide +kernel : ∀ w ∈ u_ws RX1 TX1 3, w ∈ lw_tbl ∧ goodWord w = true) w hw)
theorem in_X2 : ∀ w ∈ u_ws RX2 TX2 7, w ∈ kT := fun w hw => List.mem_filter.mpr (show w ∈ lw_tbl ∧ goodWord w = true from (by decide +kernel : ∀ w ∈ u_ws RX2 TX2 7, w ∈ lw_tbl ∧ goodWord w = true) w hw)
theorem in_X3 : ∀ w ∈ u_ws RX3 TX3 11, w ∈ kT := fun w hw => List.mem_filter.mpr (show w ∈ lw_tbl ∧ goodWord w = true from (by decide +kernel : ∀ w ∈ u_ws RX3 TX3 11, w ∈ lw_tbl ∧ goodWord w = true) w hw)
theorem in_X4 : ∀ w ∈ u_ws RX4 TX4 9, w ∈ kT := fun w hw => List.mem_filter.mpr (show w ∈ lw_tbl ∧ goodWord w = true from (by decide +kernel : ∀ w ∈ u_ws RX4 TX4 9, w ∈ lw_tbl ∧ goodWord w = true) w hw)
theorem in_X5 : ∀ w ∈ u_ws RX5 TX5 22, w ∈ kT := fun w hw => List.mem_filter.mpr (show w ∈ lw_tbl ∧ goodWord w = true from (by decide +kernel : ∀ w ∈ u_ws RX5 TX5 22, w ∈ lw_tbl ∧ goodWord w = true) w hw)
