theorem wt_L : Cond.initialized RL ∈ TW := inTW 54 (by decide +kernel) rfl
theorem wt_X5 : Cond.initialized RX5 ∈ TW := inTW 55 (by decide +kernel) rfl
theorem wt_X0 : Cond.initialized RX0 ∈ TW := inTW 56 (by decide +kernel) rfl
theorem wt_X1 : Cond.initialized RX1 ∈ TW := inTW 57 (by decide +kernel) rfl
theorem wt_X2 : Cond.initialized RX2 ∈ TW := inTW 58 (by decide +kernel) rfl
theorem wt_X3 : Cond.initialized RX3 ∈ TW := inTW 59 (by decide +kernel) rfl
theorem wt_X4 : Cond.initialized RX4 ∈ TW := inTW 60 (by decide +kernel) rfl
theorem wt_X6 : Cond.initialized RX6 ∈ TW := inTW 61 (by decide +kernel) rfl
theorem wt_J9 : Cond.initialized RJ9 ∈ TW := inTW 62 (by decide +kernel) rfl
theorem wt_J10 : Cond.initialized RJ10 ∈ TW := inTW 63 (by decide +kernel) rfl
theorem wt_J0 : Cond.initialized RJ0 ∈ TW := inTW 64 (by decide +kernel) rfl
theorem wt_J1 : Cond.initialized RJ1 ∈ TW := inTW 65 (by decide +kernel) rfl
theorem wt_J3 : Cond.initialized RJ3 ∈ TW := inTW 66 (by decide +kernel) rfl
theorem wt_J2 : Cond.initialized RJ2 ∈ TW := inTW 67 (by decide +kernel) rfl
theorem wc_L_7 : Cond.classLink RL 7 RX5 ∈ TW := inTW 68 (by decide +kernel) rfl
theorem wi_X5 : Cond.instantiable RX5 6 ∈ TW := inTW 69 (by decide +kernel) rfl
theorem wc_X5_7 : Cond.classLink RX5 7 RX0 ∈ TW := inTW 76 (by decide +kernel) rfl
theorem wi_X0 : Cond.instantiable RX0 6 ∈ TW := inTW 77 (by decide +kernel) rfl
theorem wn_X0_9 : Cond.fieldLinkNest RX0 9 RX5 "FIRST_SETTINGS" "[I" RX5 ∈ jNest := by decide +kernel
theorem wc_X0_14 : Cond.classLink RX0 14 "[I" ∈ TW := inTW 90 (by decide +kernel) rfl
theorem wc_X0_23 : Cond.classLink RX0 23 RX1 ∈ TW := inTW 91 (by decide +kernel) rfl
theorem wi_X1 : Cond.instantiable RX1 10 ∈ TW := inTW 93 (by decide +kernel) rfl
theorem wf_X1_9 : Cond.fieldLink RX1 9 "PlugPins$Board" "code" "I" ∈ TW := inTW 98 (by decide +kernel) rfl
theorem wf_X0_67 : Cond.fieldLink RX0 67 "PlugPins$Board" "code" "I" ∈ TW := inTW 99 (by decide +kernel) rfl
theorem wf_X1_15 : Cond.fieldLink RX1 15 "PlugPins$Board" "current" "I" ∈ TW := inTW 100 (by decide +kernel) rfl
theorem wf_X0_70 : Cond.fieldLink RX0 70 "PlugPins$Board" "current" "I" ∈ TW := inTW 101 (by decide +kernel) rfl
theorem wf_X1_18 : Cond.fieldLink RX1 18 "PlugPins$Board" "slot" "I" ∈ TW := inTW 102 (by decide +kernel) rfl
theorem wf_X0_60 : Cond.fieldLink RX0 60 "PlugPins$Board" "slot" "I" ∈ TW := inTW 103 (by decide +kernel) rfl
theorem wf_X5_160 : Cond.fieldLink RX5 160 "PlugPins$Board" "slot" "I" ∈ TW := inTW 104 (by decide +kernel) rfl
theorem wf_X1_21 : Cond.fieldLink RX1 21 "PlugPins$Board" "depth" "I" ∈ TW := inTW 105 (by decide +kernel) rfl
theorem wf_X0_87 : Cond.fieldLink RX0 87 "PlugPins$Board" "depth" "I" ∈ TW := inTW 106 (by decide +kernel) rfl
theorem wf_X1_24 : Cond.fieldLink RX1 24 "PlugPins$Board" "speed" "I" ∈ TW := inTW 107 (by decide +kernel) rfl
theorem wf_X0_90 : Cond.fieldLink RX0 90 "PlugPins$Board" "speed" "I" ∈ TW := inTW 108 (by decide +kernel) rfl
theorem wf_X1_27 : Cond.fieldLink RX1 27 "PlugPins$Board" "power" "I" ∈ TW := inTW 109 (by decide +kernel) rfl
theorem wf_X0_73 : Cond.fieldLink RX0 73 "PlugPins$Board" "power" "I" ∈ TW := inTW 110 (by decide +kernel) rfl
theorem wf_X1_30 : Cond.fieldLink RX1 30 "PlugPins$Board" "isKnown" "Z" ∈ TW := inTW 111 (by decide +kernel) rfl
theorem wf_X0_63 : Cond.fieldLink RX0 63 "PlugPins$Board" "isKnown" "Z" ∈ TW := inTW 112 (by decide +kernel) rfl
theorem wf_X1_34 : Cond.fieldLink RX1 34 "PlugPins$Board" "hasAsked" "Z" ∈ TW := inTW 113 (by decide +kernel) rfl
theorem wf_X0_93 : Cond.fieldLink RX0 93 "PlugPins$Board" "hasAsked" "Z" ∈ TW := inTW 114 (by decide +kernel) rfl
theorem wf_X1_37 : Cond.fieldLink RX1 37 "PlugPins$Board" "greeted" "I" ∈ TW := inTW 115 (by decide +kernel) rfl
theorem wf_X0_96 : Cond.fieldLink RX0 96 "PlugPins$Board" "greeted" "I" ∈ TW := inTW 116 (by decide +kernel) rfl
theorem wf_X1_40 : Cond.fieldLink RX1 40 "PlugPins$Board" "pulledTooSoon" "I" ∈ TW := inTW 117 (by decide +kernel) rfl
theorem wf_X0_76 : Cond.fieldLink RX0 76 "PlugPins$Board" "pulledTooSoon" "I" ∈ TW := inTW 118 (by decide +kernel) rfl
theorem wa_int : Cond.arrayClass .int ∈ TW := inTW 140 (by decide +kernel) rfl
theorem wc_X0_30 : Cond.classLink RX0 30 RX2 ∈ TW := inTW 141 (by decide +kernel) rfl
theorem wi_X2 : Cond.instantiable RX2 12 ∈ TW := inTW 142 (by decide +kernel) rfl
theorem wf_X2_9 : Cond.fieldLink RX2 9 "PlugPins$Bus" "senders" "[I" ∈ TW := inTW 147 (by decide +kernel) rfl
theorem wf_X2_15 : Cond.fieldLink RX2 15 "PlugPins$Bus" "receivers" "[I" ∈ TW := inTW 148 (by decide +kernel) rfl
theorem wf_X2_18 : Cond.fieldLink RX2 18 "PlugPins$Bus" "conditions" "[I" ∈ TW := inTW 149 (by decide +kernel) rfl
theorem wf_X2_21 : Cond.fieldLink RX2 21 "PlugPins$Bus" "hurts" "[I" ∈ TW := inTW 150 (by decide +kernel) rfl
theorem wf_X2_31 : Cond.fieldLink RX2 31 "PlugPins$Bus" "sent" "I" ∈ TW := inTW 151 (by decide +kernel) rfl
theorem wf_X5_108 : Cond.fieldLink RX5 108 "PlugPins$Bus" "sent" "I" ∈ TW := inTW 152 (by decide +kernel) rfl
theorem wf_X2_24 : Cond.fieldLink RX2 24 "PlugPins$Bus" "queue" "[I" ∈ TW := inTW 153 (by decide +kernel) rfl
theorem wf_X2_40 : Cond.fieldLink RX2 40 "PlugPins$Bus" "queued" "I" ∈ TW := inTW 154 (by decide +kernel) rfl
theorem wf_X2_27 : Cond.fieldLink RX2 27 "PlugPins$Bus" "onBus" "I" ∈ TW := inTW 155 (by decide +kernel) rfl
theorem wf_X5_117 : Cond.fieldLink RX5 117 "PlugPins$Bus" "onBus" "I" ∈ TW := inTW 156 (by decide +kernel) rfl
theorem wf_X0_167 : Cond.fieldLink RX0 167 "PlugPins$Bus" "onBus" "I" ∈ TW := inTW 157 (by decide +kernel) rfl
theorem wf_X2_43 : Cond.fieldLink RX2 43 "PlugPins$Bus" "ticksLeft" "I" ∈ TW := inTW 158 (by decide +kernel) rfl
theorem wf_X2_46 : Cond.fieldLink RX2 46 "PlugPins$Bus" "delivered" "I" ∈ TW := inTW 159 (by decide +kernel) rfl
theorem wf_X5_111 : Cond.fieldLink RX5 111 "PlugPins$Bus" "delivered" "I" ∈ TW := inTW 160 (by decide +kernel) rfl
theorem wf_X0_138 : Cond.fieldLink RX0 138 "PlugPins$Bus" "delivered" "I" ∈ TW := inTW 161 (by decide +kernel) rfl
theorem wf_X2_49 : Cond.fieldLink RX2 49 "PlugPins$Bus" "lost" "I" ∈ TW := inTW 162 (by decide +kernel) rfl
theorem wf_X5_114 : Cond.fieldLink RX5 114 "PlugPins$Bus" "lost" "I" ∈ TW := inTW 163 (by decide +kernel) rfl
theorem wf_X2_52 : Cond.fieldLink RX2 52 "PlugPins$Bus" "hurtSoFar" "I" ∈ TW := inTW 164 (by decide +kernel) rfl
theorem wf_X5_130 : Cond.fieldLink RX5 130 "PlugPins$Bus" "hurtSoFar" "I" ∈ TW := inTW 165 (by decide +kernel) rfl
theorem wf_X0_148 : Cond.fieldLink RX0 148 "PlugPins$Bus" "hurtSoFar" "I" ∈ TW := inTW 166 (by decide +kernel) rfl
theorem wf_X0_18 : Cond.fieldLink RX0 18 "PlugPins$Backplane" "settings" "[I" ∈ TW := inTW 192 (by decide +kernel) rfl
theorem wf_X5_136 : Cond.fieldLink RX5 136 "PlugPins$Backplane" "settings" "[I" ∈ TW := inTW 193 (by decide +kernel) rfl
theorem wf_X0_25 : Cond.fieldLink RX0 25 "PlugPins$Backplane" "boards" "[LPlugPins$Board;" ∈ TW := inTW 194 (by decide +kernel) rfl
theorem wf_X0_33 : Cond.fieldLink RX0 33 "PlugPins$Backplane" "bus" "LPlugPins$Bus;" ∈ TW := inTW 195 (by decide +kernel) rfl
theorem wf_X5_82 : Cond.fieldLink RX5 82 "PlugPins$Backplane" "bus" "LPlugPins$Bus;" ∈ TW := inTW 196 (by decide +kernel) rfl
theorem wf_X0_43 : Cond.fieldLink RX0 43 "PlugPins$Backplane" "boardCount" "I" ∈ TW := inTW 197 (by decide +kernel) rfl
theorem wf_X5_206 : Cond.fieldLink RX5 206 "PlugPins$Backplane" "boardCount" "I" ∈ TW := inTW 198 (by decide +kernel) rfl
theorem wf_X0_54 : Cond.fieldLink RX0 54 "PlugPins$Backplane" "time" "I" ∈ TW := inTW 199 (by decide +kernel) rfl
theorem wf_X5_94 : Cond.fieldLink RX5 94 "PlugPins$Backplane" "time" "I" ∈ TW := inTW 200 (by decide +kernel) rfl
theorem wf_X0_57 : Cond.fieldLink RX0 57 "PlugPins$Backplane" "plugs" "I" ∈ TW := inTW 201 (by decide +kernel) rfl
theorem wf_X5_127 : Cond.fieldLink RX5 127 "PlugPins$Backplane" "plugs" "I" ∈ TW := inTW 202 (by decide +kernel) rfl
theorem wc_X5_19 : Cond.classLink RX5 19 RX3 ∈ TW := inTW 216 (by decide +kernel) rfl
theorem wi_X3 : Cond.instantiable RX3 3 ∈ TW := inTW 217 (by decide +kernel) rfl
theorem wc_X3_11 : Cond.classLink RX3 11 RX0 ∈ TW := inTW 222 (by decide +kernel) rfl
theorem wf_X3_13 : Cond.fieldLink RX3 13 "PlugPins$History" "states" "[LPlugPins$Backplane;" ∈ TW := inTW 225 (by decide +kernel) rfl
theorem wf_X3_18 : Cond.fieldLink RX3 18 "PlugPins$History" "oldest" "I" ∈ TW := inTW 226 (by decide +kernel) rfl
theorem wf_X3_28 : Cond.fieldLink RX3 28 "PlugPins$History" "size" "I" ∈ TW := inTW 227 (by decide +kernel) rfl
theorem wf_X5_143 : Cond.fieldLink RX5 143 "PlugPins$History" "size" "I" ∈ TW := inTW 228 (by decide +kernel) rfl
theorem wc_X5_26 : Cond.classLink RX5 26 RX4 ∈ TW := inTW 236 (by decide +kernel) rfl
theorem wi_X4 : Cond.instantiable RX4 5 ∈ TW := inTW 237 (by decide +kernel) rfl
theorem wf_X4_9 : Cond.fieldLink RX4 9 "PlugPins$Pad" "signs" "[I" ∈ TW := inTW 242 (by decide +kernel) rfl
theorem wf_X4_22 : Cond.fieldLink RX4 22 "PlugPins$Pad" "length" "I" ∈ TW := inTW 243 (by decide +kernel) rfl
theorem wf_X5_140 : Cond.fieldLink RX5 140 "PlugPins$Pad" "length" "I" ∈ TW := inTW 244 (by decide +kernel) rfl
theorem wf_X4_39 : Cond.fieldLink RX4 39 "PlugPins$Pad" "place" "I" ∈ TW := inTW 245 (by decide +kernel) rfl
theorem wf_X4_53 : Cond.fieldLink RX4 53 "PlugPins$Pad" "kind" "I" ∈ TW := inTW 246 (by decide +kernel) rfl
theorem wf_X5_215 : Cond.fieldLink RX5 215 "PlugPins$Pad" "kind" "I" ∈ TW := inTW 247 (by decide +kernel) rfl
theorem wf_X4_15 : Cond.fieldLink RX4 15 "PlugPins$Pad" "values" "[I" ∈ TW := inTW 248 (by decide +kernel) rfl
theorem wf_X5_212 : Cond.fieldLink RX5 212 "PlugPins$Pad" "values" "[I" ∈ TW := inTW 249 (by decide +kernel) rfl
theorem wf_X5_10 : Cond.fieldLink RX5 10 "PlugPins" "backplane" "LPlugPins$Backplane;" ∈ TW := inTW 261 (by decide +kernel) rfl
theorem wf_X5_16 : Cond.fieldLink RX5 16 "PlugPins" "trial" "LPlugPins$Backplane;" ∈ TW := inTW 262 (by decide +kernel) rfl
theorem wf_X5_22 : Cond.fieldLink RX5 22 "PlugPins" "history" "LPlugPins$History;" ∈ TW := inTW 263 (by decide +kernel) rfl
theorem wf_X5_29 : Cond.fieldLink RX5 29 "PlugPins" "pad" "LPlugPins$Pad;" ∈ TW := inTW 264 (by decide +kernel) rfl
theorem wf_X5_33 : Cond.fieldLink RX5 33 "PlugPins" "saved" "[LPlugPins$Backplane;" ∈ TW := inTW 265 (by decide +kernel) rfl
theorem wf_X5_37 : Cond.fieldLink RX5 37 "PlugPins" "isSaved" "[Z" ∈ TW := inTW 266 (by decide +kernel) rfl
theorem wa_boolean : Cond.arrayClass .boolean ∈ TW := inTW 280 (by decide +kernel) rfl
theorem wn_X0_107 : Cond.fieldLinkNest RX0 107 RX5 "LOWEST_SETTINGS" "[I" RX5 ∈ jNest := by decide +kernel
theorem wn_X0_110 : Cond.fieldLinkNest RX0 110 RX5 "HIGHEST_SETTINGS" "[I" RX5 ∈ jNest := by decide +kernel
theorem wl_X4_26 : Cond.constantLong RX4 26 255 ∈ TW := inTW 623 (by decide +kernel) rfl
theorem wf_J0_38 : Cond.fieldLink RJ0 38 "java/lang/String" "COMPACT_STRINGS" "Z" ∈ TW := inTW 675 (by decide +kernel) rfl
theorem wf_J0_1053 : Cond.fieldLink RJ0 1053 "jdk/internal/util/Preconditions" "SIOOBE_FORMATTER" "Ljava/util/function/BiFunction;" ∈ TW := inTW 691 (by decide +kernel) rfl
theorem wf_J2_44 : Cond.fieldLink RJ2 44 "java/lang/StringUTF16" "$assertionsDisabled" "Z" ∈ TW := inTW 709 (by decide +kernel) rfl
theorem wf_J2_59 : Cond.fieldLink RJ2 59 "java/lang/StringUTF16" "HI_BYTE_SHIFT" "I" ∈ TW := inTW 711 (by decide +kernel) rfl
theorem wf_J2_63 : Cond.fieldLink RJ2 63 "java/lang/StringUTF16" "LO_BYTE_SHIFT" "I" ∈ TW := inTW 713 (by decide +kernel) rfl
theorem wa_byte : Cond.arrayClass .byte ∈ TW := inTW 731 (by decide +kernel) rfl
theorem wc_L_10 : Cond.classLink RL 10 RX6 ∈ TW := inTW 759 (by decide +kernel) rfl
theorem wi_X6 : Cond.instantiable RX6 14 ∈ TW := inTW 760 (by decide +kernel) rfl
theorem wf_X6_7 : Cond.fieldLink RX6 7 "PlugPinsModel" "s" "[I" ∈ TW := inTW 765 (by decide +kernel) rfl
theorem wf_X6_13 : Cond.fieldLink RX6 13 "PlugPinsModel" "aside" "[I" ∈ TW := inTW 766 (by decide +kernel) rfl
theorem wf_X6_16 : Cond.fieldLink RX6 16 "PlugPinsModel" "history" "[I" ∈ TW := inTW 767 (by decide +kernel) rfl
theorem wf_X6_51 : Cond.fieldLink RX6 51 "PlugPinsModel" "known" "I" ∈ TW := inTW 768 (by decide +kernel) rfl
theorem wf_X6_19 : Cond.fieldLink RX6 19 "PlugPinsModel" "slots" "[I" ∈ TW := inTW 769 (by decide +kernel) rfl
theorem wf_X6_206 : Cond.fieldLink RX6 206 "PlugPinsModel" "kept" "I" ∈ TW := inTW 770 (by decide +kernel) rfl
theorem wf_X6_22 : Cond.fieldLink RX6 22 "PlugPinsModel" "pad" "[I" ∈ TW := inTW 771 (by decide +kernel) rfl
theorem wf_X6_152 : Cond.fieldLink RX6 152 "PlugPinsModel" "length" "I" ∈ TW := inTW 772 (by decide +kernel) rfl
theorem wf_X6_167 : Cond.fieldLink RX6 167 "PlugPinsModel" "spot" "I" ∈ TW := inTW 773 (by decide +kernel) rfl
theorem wf_X6_163 : Cond.fieldLink RX6 163 "PlugPinsModel" "isFaulty" "Z" ∈ TW := inTW 774 (by decide +kernel) rfl
theorem wf_X6_176 : Cond.fieldLink RX6 176 "PlugPinsModel" "letter" "I" ∈ TW := inTW 775 (by decide +kernel) rfl
theorem wf_X6_182 : Cond.fieldLink RX6 182 "PlugPinsModel" "first" "I" ∈ TW := inTW 776 (by decide +kernel) rfl
theorem wf_X6_188 : Cond.fieldLink RX6 188 "PlugPinsModel" "second" "I" ∈ TW := inTW 777 (by decide +kernel) rfl
theorem wf_X6_191 : Cond.fieldLink RX6 191 "PlugPinsModel" "third" "I" ∈ TW := inTW 778 (by decide +kernel) rfl
theorem wl_X6_161 : Cond.constantLong RX6 161 255 ∈ TW := inTW 1035 (by decide +kernel) rfl
theorem wl_L_89 : Cond.constantLong RL 89 4294967295 ∈ TW := inTW 1088 (by decide +kernel) rfl
theorem wf_J0_9 : Cond.fieldLink RJ0 9 "java/lang/String" "value" "[B" ∈ TW := inTW 1089 (by decide +kernel) rfl
theorem wf_J0_15 : Cond.fieldLink RJ0 15 "java/lang/String" "coder" "B" ∈ TW := inTW 1090 (by decide +kernel) rfl
theorem wk_same : Cond.sameMethod "[I" "java/lang/Object" "clone" "()Ljava/lang/Object;" ∈ TW := inTW 85 (by decide +kernel) rfl
theorem wk_nat : Cond.native ⟨"java/lang/Object", "clone", "()Ljava/lang/Object;"⟩ ∈ TW := inTW 86 (by decide +kernel) rfl
theorem wk_inst : Cond.instanceMethod ⟨"java/lang/Object", "clone", "()Ljava/lang/Object;"⟩ ∈ TW := inTW 87 (by decide +kernel) rfl
theorem wk_sel : Cond.selects "[I" ⟨"[I", "clone", "()Ljava/lang/Object;"⟩ ⟨"java/lang/Object", "clone", "()Ljava/lang/Object;"⟩ ∈ TW := inTW 88 (by decide +kernel) rfl
theorem wk_acn : Cond.native arraycopyName ∈ TW := inTW 302 (by decide +kernel) rfl
theorem wk_acs : Cond.static arraycopyName ∈ TW := inTW 301 (by decide +kernel) rfl
theorem wk_sys : Cond.initialized "java/lang/System" ∈ TW := wt_J10
theorem wk_math : Cond.initialized "java/lang/Math" ∈ TW := wt_J9
theorem wk_obi : Cond.instanceMethod Lib.objectInit ∈ TW := inTW 74 (by decide +kernel) rfl
set_option maxRecDepth 1000000 in
theorem wk_obc : Cond.code Lib.objectInit ⟨#[0xb1]⟩ 1 none ∈ TW := inTW 75 rfl rfl
theorem wk_maxs : Cond.static Lib.Math.max.name ∈ TW := inTW 439 (by decide +kernel) rfl
set_option maxRecDepth 1000000 in
theorem wk_maxc : Cond.code Lib.Math.max.name Lib.Math.max.code 2 (some .int) ∈ TW := inTW 440 rfl rfl
theorem wk_mins : Cond.static Lib.Math.min.name ∈ TW := inTW 436 (by decide +kernel) rfl
set_option maxRecDepth 1000000 in
theorem wk_minc : Cond.code Lib.Math.min.name Lib.Math.min.code 2 (some .int) ∈ TW := inTW 437 rfl rfl
theorem wm_X0_3 : Cond.methodLink RX0 3 Lib.objectInit ∈ TW := inTW 81 (by decide +kernel) rfl
theorem wm_X0_13 : Cond.methodLink RX0 13 ⟨"[I", "clone", "()Ljava/lang/Object;"⟩ ∈ TW := inTW 84 (by decide +kernel) rfl
set_option maxRecDepth 1000000 in
theorem wj_X0_29 : jWIN RX0 29 yX1_init cX1_init 1 0 := ⟨⟨by decide +kernel, inTW 95 (by decide +kernel) rfl, wt_X1, inTW 96 rfl rfl⟩, by decide +kernel, by decide +kernel, rfl⟩
set_option maxRecDepth 1000000 in
theorem wj_X0_32 : jWI RX0 32 yX2_init cX2_init 1 0 := ⟨⟨inTW 143 (by decide +kernel) rfl, inTW 144 (by decide +kernel) rfl, wt_X2, inTW 145 rfl rfl⟩, by decide +kernel, by decide +kernel, rfl⟩
theorem wm_X0_37 : Cond.methodLink RX0 37 arraycopyName ∈ TW := inTW 300 (by decide +kernel) rfl
set_option maxRecDepth 1000000 in
theorem wv_X0_47 : jWV RX0 47 RX1 yX1_copyFrom cX1_copyFrom 2 (none) 1 := ⟨⟨inTW 303 (by decide +kernel) rfl, inTW 304 (by decide +kernel) rfl, inTW 305 (by decide +kernel) rfl, wt_X1, inTW 306 rfl rfl⟩, by decide +kernel, by decide +kernel⟩
set_option maxRecDepth 1000000 in
theorem wv_X0_51 : jWV RX0 51 RX2 yX2_copyFrom cX2_copyFrom 2 (none) 1 := ⟨⟨inTW 307 (by decide +kernel) rfl, inTW 308 (by decide +kernel) rfl, inTW 309 (by decide +kernel) rfl, wt_X2, inTW 310 rfl rfl⟩, by decide +kernel, by decide +kernel⟩
set_option maxRecDepth 1000000 in
theorem wv_X0_79 : jWV RX0 79 RX1 yX1_holdsBus cX1_holdsBus 1 (some .boolean) 0 := ⟨⟨inTW 491 (by decide +kernel) rfl, inTW 492 (by decide +kernel) rfl, inTW 493 (by decide +kernel) rfl, wt_X1, inTW 494 rfl rfl⟩, by decide +kernel, by decide +kernel⟩
set_option maxRecDepth 1000000 in
theorem wv_X0_83 : jWV RX0 83 RX0 yX0_boardAt cX0_boardAt 2 (some (.object "PlugPins$Board")) 1 := ⟨⟨inTW 351 (by decide +kernel) rfl, inTW 352 (by decide +kernel) rfl, inTW 353 (by decide +kernel) rfl, wt_X0, inTW 354 rfl rfl⟩, by decide +kernel, by decide +kernel⟩
set_option maxRecDepth 1000000 in
theorem wv_X0_99 : jWV RX0 99 RX2 yX2_deliveredFrom cX2_deliveredFrom 4 (some .int) 1 := ⟨⟨inTW 518 (by decide +kernel) rfl, inTW 519 (by decide +kernel) rfl, inTW 520 (by decide +kernel) rfl, wt_X2, inTW 521 rfl rfl⟩, by decide +kernel, by decide +kernel⟩
set_option maxRecDepth 1000000 in
theorem ws_X0_103 : jWSN RX0 103 yX5_isIn cX5_isIn 3 (some .boolean) 3 := ⟨⟨by decide +kernel, inTW 317 (by decide +kernel) rfl, wt_X5, inTW 318 rfl rfl⟩, by decide +kernel, by decide +kernel⟩
set_option maxRecDepth 1000000 in
theorem wv_X0_113 : jWV RX0 113 RX1 yX1_begin cX1_begin 3 (none) 2 := ⟨⟨inTW 335 (by decide +kernel) rfl, inTW 336 (by decide +kernel) rfl, inTW 337 (by decide +kernel) rfl, wt_X1, inTW 338 rfl rfl⟩, by decide +kernel, by decide +kernel⟩
set_option maxRecDepth 1000000 in
theorem ws_X0_117 : jWSN RX0 117 yX5_isSlot cX5_isSlot 1 (some .boolean) 1 := ⟨⟨by decide +kernel, inTW 356 (by decide +kernel) rfl, wt_X5, inTW 357 rfl rfl⟩, by decide +kernel, by decide +kernel⟩
set_option maxRecDepth 1000000 in
theorem wv_X0_121 : jWV RX0 121 RX0 yX0_boardIn cX0_boardIn 3 (some .int) 1 := ⟨⟨inTW 359 (by decide +kernel) rfl, inTW 360 (by decide +kernel) rfl, inTW 361 (by decide +kernel) rfl, wt_X0, inTW 362 rfl rfl⟩, by decide +kernel, by decide +kernel⟩
set_option maxRecDepth 1000000 in
theorem wv_X0_124 : jWV RX0 124 RX0 yX0_inwardError cX0_inwardError 8 (some .int) 3 := ⟨⟨inTW 347 (by decide +kernel) rfl, inTW 348 (by decide +kernel) rfl, inTW 349 (by decide +kernel) rfl, wt_X0, inTW 350 rfl rfl⟩, by decide +kernel, by decide +kernel⟩
set_option maxRecDepth 1000000 in
theorem wv_X0_128 : jWV RX0 128 RX2 yX2_openWordsOf cX2_openWordsOf 4 (some .int) 1 := ⟨⟨inTW 379 (by decide +kernel) rfl, inTW 380 (by decide +kernel) rfl, inTW 381 (by decide +kernel) rfl, wt_X2, inTW 382 rfl rfl⟩, by decide +kernel, by decide +kernel⟩
set_option maxRecDepth 1000000 in
theorem wv_X0_131 : jWV RX0 131 RX0 yX0_whyNot cX0_whyNot 5 (some .int) 2 := ⟨⟨inTW 395 (by decide +kernel) rfl, inTW 396 (by decide +kernel) rfl, inTW 397 (by decide +kernel) rfl, wt_X0, inTW 398 rfl rfl⟩, by decide +kernel, by decide +kernel⟩
set_option maxRecDepth 1000000 in
theorem wv_X0_135 : jWV RX0 135 RX2 yX2_queueWord cX2_queueWord 4 (some .int) 2 := ⟨⟨inTW 399 (by decide +kernel) rfl, inTW 400 (by decide +kernel) rfl, inTW 401 (by decide +kernel) rfl, wt_X2, inTW 402 rfl rfl⟩, by decide +kernel, by decide +kernel⟩
set_option maxRecDepth 1000000 in
theorem wv_X0_141 : jWV RX0 141 RX0 yX0_tick cX0_tick 2 (none) 0 := ⟨⟨inTW 419 (by decide +kernel) rfl, inTW 420 (by decide +kernel) rfl, inTW 421 (by decide +kernel) rfl, wt_X0, inTW 422 rfl rfl⟩, by decide +kernel, by decide +kernel⟩
set_option maxRecDepth 1000000 in
theorem wv_X0_144 : jWV RX0 144 RX2 yX2_openWords cX2_openWords 1 (some .int) 0 := ⟨⟨inTW 611 (by decide +kernel) rfl, inTW 404 (by decide +kernel) rfl, inTW 405 (by decide +kernel) rfl, wt_X2, inTW 406 rfl rfl⟩, by decide +kernel, by decide +kernel⟩
set_option maxRecDepth 1000000 in
theorem wv_X0_151 : jWV RX0 151 RX0 yX0_moveBoards cX0_moveBoards 4 (some .boolean) 0 := ⟨⟨inTW 423 (by decide +kernel) rfl, inTW 425 (by decide +kernel) rfl, inTW 1 (by decide +kernel) rfl, wt_X0, inTW 426 rfl rfl⟩, by decide +kernel, by decide +kernel⟩
set_option maxRecDepth 1000000 in
theorem wv_X0_154 : jWV RX0 154 RX0 yX0_powerBoards cX0_powerBoards 3 (none) 0 := ⟨⟨inTW 445 (by decide +kernel) rfl, inTW 447 (by decide +kernel) rfl, inTW 3 (by decide +kernel) rfl, wt_X0, inTW 448 rfl rfl⟩, by decide +kernel, by decide +kernel⟩
set_option maxRecDepth 1000000 in
theorem wv_X0_157 : jWV RX0 157 RX0 yX0_greetBoards cX0_greetBoards 2 (none) 0 := ⟨⟨inTW 459 (by decide +kernel) rfl, inTW 461 (by decide +kernel) rfl, inTW 5 (by decide +kernel) rfl, wt_X0, inTW 462 rfl rfl⟩, by decide +kernel, by decide +kernel⟩
set_option maxRecDepth 1000000 in
theorem wv_X0_160 : jWV RX0 160 RX2 yX2_hurtWordOnBus cX2_hurtWordOnBus 2 (none) 1 := ⟨⟨inTW 479 (by decide +kernel) rfl, inTW 480 (by decide +kernel) rfl, inTW 481 (by decide +kernel) rfl, wt_X2, inTW 482 rfl rfl⟩, by decide +kernel, by decide +kernel⟩
set_option maxRecDepth 1000000 in
theorem wv_X0_164 : jWV RX0 164 RX2 yX2_carryWordOnBus cX2_carryWordOnBus 1 (none) 0 := ⟨⟨inTW 483 (by decide +kernel) rfl, inTW 484 (by decide +kernel) rfl, inTW 485 (by decide +kernel) rfl, wt_X2, inTW 486 rfl rfl⟩, by decide +kernel, by decide +kernel⟩
set_option maxRecDepth 1000000 in
theorem wv_X0_170 : jWV RX0 170 RX0 yX0_isHeld cX0_isHeld 2 (some .boolean) 0 := ⟨⟨inTW 487 (by decide +kernel) rfl, inTW 488 (by decide +kernel) rfl, inTW 489 (by decide +kernel) rfl, wt_X0, inTW 490 rfl rfl⟩, by decide +kernel, by decide +kernel⟩
set_option maxRecDepth 1000000 in
theorem wv_X0_173 : jWV RX0 173 RX0 yX0_knownSet cX0_knownSet 3 (some .int) 0 := ⟨⟨inTW 495 (by decide +kernel) rfl, inTW 496 (by decide +kernel) rfl, inTW 497 (by decide +kernel) rfl, wt_X0, inTW 498 rfl rfl⟩, by decide +kernel, by decide +kernel⟩
set_option maxRecDepth 1000000 in
theorem wv_X0_176 : jWV RX0 176 RX2 yX2_takeNextWord cX2_takeNextWord 5 (none) 2 := ⟨⟨inTW 499 (by decide +kernel) rfl, inTW 500 (by decide +kernel) rfl, inTW 501 (by decide +kernel) rfl, wt_X2, inTW 502 rfl rfl⟩, by decide +kernel, by decide +kernel⟩
set_option maxRecDepth 1000000 in
theorem wv_X0_179 : jWV RX0 179 RX1 yX1_move cX1_move 2 (some .boolean) 0 := ⟨⟨inTW 427 (by decide +kernel) rfl, inTW 428 (by decide +kernel) rfl, inTW 429 (by decide +kernel) rfl, wt_X1, inTW 430 rfl rfl⟩, by decide +kernel, by decide +kernel⟩
set_option maxRecDepth 1000000 in
theorem wv_X0_182 : jWV RX0 182 RX0 yX0_powerBoard cX0_powerBoard 3 (none) 1 := ⟨⟨inTW 449 (by decide +kernel) rfl, inTW 451 (by decide +kernel) rfl, inTW 4 (by decide +kernel) rfl, wt_X0, inTW 452 rfl rfl⟩, by decide +kernel, by decide +kernel⟩
set_option maxRecDepth 1000000 in
theorem wv_X0_185 : jWV RX0 185 RX1 yX1_touches cX1_touches 2 (some .boolean) 1 := ⟨⟨inTW 453 (by decide +kernel) rfl, inTW 432 (by decide +kernel) rfl, inTW 433 (by decide +kernel) rfl, wt_X1, inTW 434 rfl rfl⟩, by decide +kernel, by decide +kernel⟩
theorem wm_X0_188 : Cond.methodLink RX0 188 Lib.Math.min.name ∈ TW := inTW 454 (by decide +kernel) rfl
set_option maxRecDepth 1000000 in
theorem wv_X0_193 : jWV RX0 193 RX0 yX0_drawn cX0_drawn 3 (some .int) 0 := ⟨⟨inTW 455 (by decide +kernel) rfl, inTW 456 (by decide +kernel) rfl, inTW 457 (by decide +kernel) rfl, wt_X0, inTW 458 rfl rfl⟩, by decide +kernel, by decide +kernel⟩
set_option maxRecDepth 1000000 in
theorem wv_X0_196 : jWV RX0 196 RX1 yX1_greetForTick cX1_greetForTick 2 (none) 1 := ⟨⟨inTW 463 (by decide +kernel) rfl, inTW 464 (by decide +kernel) rfl, inTW 465 (by decide +kernel) rfl, wt_X1, inTW 466 rfl rfl⟩, by decide +kernel, by decide +kernel⟩
set_option maxRecDepth 1000000 in
theorem wv_X0_199 : jWV RX0 199 RX2 yX2_loseWordsOf cX2_loseWordsOf 5 (none) 1 := ⟨⟨inTW 467 (by decide +kernel) rfl, inTW 468 (by decide +kernel) rfl, inTW 469 (by decide +kernel) rfl, wt_X2, inTW 470 rfl rfl⟩, by decide +kernel, by decide +kernel⟩
set_option maxRecDepth 1000000 in
theorem wv_X0_202 : jWV RX0 202 RX1 yX1_becomeUnknown cX1_becomeUnknown 1 (none) 0 := ⟨⟨inTW 475 (by decide +kernel) rfl, inTW 476 (by decide +kernel) rfl, inTW 477 (by decide +kernel) rfl, wt_X1, inTW 478 rfl rfl⟩, by decide +kernel, by decide +kernel⟩
theorem wm_X1_3 : Cond.methodLink RX1 3 Lib.objectInit ∈ TW := inTW 97 (by decide +kernel) rfl
set_option maxRecDepth 1000000 in
theorem wv_X1_43 : jWV RX1 43 RX1 yX1_touches cX1_touches 2 (some .boolean) 1 := ⟨⟨inTW 431 (by decide +kernel) rfl, inTW 432 (by decide +kernel) rfl, inTW 433 (by decide +kernel) rfl, wt_X1, inTW 434 rfl rfl⟩, by decide +kernel, by decide +kernel⟩
theorem wm_X1_47 : Cond.methodLink RX1 47 Lib.Math.min.name ∈ TW := inTW 435 (by decide +kernel) rfl
theorem wm_X1_53 : Cond.methodLink RX1 53 Lib.Math.max.name ∈ TW := inTW 438 (by decide +kernel) rfl
set_option maxRecDepth 1000000 in
theorem wv_X1_56 : jWV RX1 56 RX1 yX1_leaveSlot cX1_leaveSlot 1 (none) 0 := ⟨⟨inTW 441 (by decide +kernel) rfl, inTW 443 (by decide +kernel) rfl, inTW 2 (by decide +kernel) rfl, wt_X1, inTW 444 rfl rfl⟩, by decide +kernel, by decide +kernel⟩
theorem wm_X2_3 : Cond.methodLink RX2 3 Lib.objectInit ∈ TW := inTW 146 (by decide +kernel) rfl
theorem wm_X2_34 : Cond.methodLink RX2 34 arraycopyName ∈ TW := inTW 311 (by decide +kernel) rfl
set_option maxRecDepth 1000000 in
theorem wv_X2_55 : jWV RX2 55 RX2 yX2_isWord cX2_isWord 2 (some .boolean) 1 := ⟨⟨inTW 407 (by decide +kernel) rfl, inTW 408 (by decide +kernel) rfl, inTW 409 (by decide +kernel) rfl, wt_X2, inTW 410 rfl rfl⟩, by decide +kernel, by decide +kernel⟩
set_option maxRecDepth 1000000 in
theorem wv_X2_59 : jWV RX2 59 RX2 yX2_isBetween cX2_isBetween 3 (some .boolean) 2 := ⟨⟨inTW 383 (by decide +kernel) rfl, inTW 384 (by decide +kernel) rfl, inTW 385 (by decide +kernel) rfl, wt_X2, inTW 386 rfl rfl⟩, by decide +kernel, by decide +kernel⟩
set_option maxRecDepth 1000000 in
theorem wv_X2_63 : jWV RX2 63 RX2 yX2_openWords cX2_openWords 1 (some .int) 0 := ⟨⟨inTW 403 (by decide +kernel) rfl, inTW 404 (by decide +kernel) rfl, inTW 405 (by decide +kernel) rfl, wt_X2, inTW 406 rfl rfl⟩, by decide +kernel, by decide +kernel⟩
set_option maxRecDepth 1000000 in
theorem wv_X2_67 : jWV RX2 67 RX2 yX2_freeBus cX2_freeBus 2 (none) 1 := ⟨⟨inTW 471 (by decide +kernel) rfl, inTW 473 (by decide +kernel) rfl, inTW 6 (by decide +kernel) rfl, wt_X2, inTW 474 rfl rfl⟩, by decide +kernel, by decide +kernel⟩
set_option maxRecDepth 1000000 in
theorem ws_X2_71 : jWS RX2 71 yX2_isInSet cX2_isInSet 2 (some .boolean) 2 := ⟨⟨inTW 503 (by decide +kernel) rfl, inTW 504 (by decide +kernel) rfl, wt_X2, inTW 505 rfl rfl⟩, by decide +kernel, by decide +kernel⟩
set_option maxRecDepth 1000000 in
theorem wv_X2_74 : jWV RX2 74 RX2 yX2_removeFromQueue cX2_removeFromQueue 3 (none) 1 := ⟨⟨inTW 506 (by decide +kernel) rfl, inTW 508 (by decide +kernel) rfl, inTW 7 (by decide +kernel) rfl, wt_X2, inTW 509 rfl rfl⟩, by decide +kernel, by decide +kernel⟩
theorem wm_X3_3 : Cond.methodLink RX3 3 Lib.objectInit ∈ TW := inTW 221 (by decide +kernel) rfl
set_option maxRecDepth 1000000 in
theorem wj_X3_17 : jWI RX3 17 yX0_init cX0_init 2 0 := ⟨⟨inTW 224 (by decide +kernel) rfl, inTW 79 (by decide +kernel) rfl, wt_X0, inTW 80 rfl rfl⟩, by decide +kernel, by decide +kernel, rfl⟩
set_option maxRecDepth 1000000 in
theorem ws_X3_22 : jWS RX3 22 yJ9_floorMod_7cf53 cJ9_floorMod_7cf53 3 (some .int) 2 := ⟨⟨inTW 293 (by decide +kernel) rfl, inTW 294 (by decide +kernel) rfl, wt_J9, inTW 295 rfl rfl⟩, by decide +kernel, by decide +kernel⟩
set_option maxRecDepth 1000000 in
theorem wv_X3_31 : jWV RX3 31 RX3 yX3_stateAt cX3_stateAt 2 (some (.object "PlugPins$Backplane")) 1 := ⟨⟨inTW 289 (by decide +kernel) rfl, inTW 291 (by decide +kernel) rfl, inTW 0 (by decide +kernel) rfl, wt_X3, inTW 292 rfl rfl⟩, by decide +kernel, by decide +kernel⟩
set_option maxRecDepth 1000000 in
theorem wv_X3_35 : jWV RX3 35 RX0 yX0_copyFrom cX0_copyFrom 3 (none) 1 := ⟨⟨inTW 296 (by decide +kernel) rfl, inTW 297 (by decide +kernel) rfl, inTW 298 (by decide +kernel) rfl, wt_X0, inTW 299 rfl rfl⟩, by decide +kernel, by decide +kernel⟩
theorem wm_X4_3 : Cond.methodLink RX4 3 Lib.objectInit ∈ TW := inTW 241 (by decide +kernel) rfl
set_option maxRecDepth 1000000 in
theorem ws_X4_18 : jWS RX4 18 yX4_charactersIn cX4_charactersIn 5 (some .int) 1 := ⟨⟨inTW 620 (by decide +kernel) rfl, inTW 621 (by decide +kernel) rfl, wt_X4, inTW 622 rfl rfl⟩, by decide +kernel, by decide +kernel⟩
set_option maxRecDepth 1000000 in
theorem ws_X4_28 : jWSN RX4 28 yX5_isIn cX5_isIn 3 (some .boolean) 3 := ⟨⟨by decide +kernel, inTW 317 (by decide +kernel) rfl, wt_X5, inTW 318 rfl rfl⟩, by decide +kernel, by decide +kernel⟩
set_option maxRecDepth 1000000 in
theorem wv_X4_32 : jWV RX4 32 RX4 yX4_startReading cX4_startReading 1 (none) 0 := ⟨⟨inTW 641 (by decide +kernel) rfl, inTW 642 (by decide +kernel) rfl, inTW 643 (by decide +kernel) rfl, wt_X4, inTW 644 rfl rfl⟩, by decide +kernel, by decide +kernel⟩
set_option maxRecDepth 1000000 in
theorem wv_X4_35 : jWV RX4 35 RX4 yX4_readOrder cX4_readOrder 6 (some .boolean) 0 := ⟨⟨inTW 645 (by decide +kernel) rfl, inTW 646 (by decide +kernel) rfl, inTW 647 (by decide +kernel) rfl, wt_X4, inTW 648 rfl rfl⟩, by decide +kernel, by decide +kernel⟩
set_option maxRecDepth 1000000 in
theorem wv_X4_42 : jWV RX4 42 RX4 yX4_readSeparator cX4_readSeparator 1 (some .boolean) 0 := ⟨⟨inTW 727 (by decide +kernel) rfl, inTW 728 (by decide +kernel) rfl, inTW 729 (by decide +kernel) rfl, wt_X4, inTW 730 rfl rfl⟩, by decide +kernel, by decide +kernel⟩
set_option maxRecDepth 1000000 in
theorem wv_X4_45 : jWV RX4 45 RX4 yX4_readSign cX4_readSign 2 (some .boolean) 1 := ⟨⟨inTW 715 (by decide +kernel) rfl, inTW 717 (by decide +kernel) rfl, inTW 10 (by decide +kernel) rfl, wt_X4, inTW 718 rfl rfl⟩, by decide +kernel, by decide +kernel⟩
set_option maxRecDepth 1000000 in
theorem wv_X4_49 : jWV RX4 49 RX4 yX4_signHere cX4_signHere 1 (some .int) 0 := ⟨⟨inTW 649 (by decide +kernel) rfl, inTW 651 (by decide +kernel) rfl, inTW 9 (by decide +kernel) rfl, wt_X4, inTW 652 rfl rfl⟩, by decide +kernel, by decide +kernel⟩
set_option maxRecDepth 1000000 in
theorem ws_X4_56 : jWS RX4 56 yX4_formOf cX4_formOf 1 (some (.object "java/lang/String")) 1 := ⟨⟨inTW 653 (by decide +kernel) rfl, inTW 654 (by decide +kernel) rfl, wt_X4, inTW 655 rfl rfl⟩, by decide +kernel, by decide +kernel⟩
set_option maxRecDepth 1000000 in
theorem wv_X4_60 : jWV RX4 60 "java/lang/String" yJ0_isEmpty_aae02 cJ0_isEmpty_aae02 1 (some .boolean) 0 := ⟨⟨inTW 663 (by decide +kernel) rfl, inTW 664 (by decide +kernel) rfl, inTW 665 (by decide +kernel) rfl, wt_J0, inTW 666 rfl rfl⟩, by decide +kernel, by decide +kernel⟩
set_option maxRecDepth 1000000 in
theorem wv_X4_65 : jWV RX4 65 "java/lang/String" yJ0_length_8abf5 cJ0_length_8abf5 1 (some .int) 0 := ⟨⟨inTW 667 (by decide +kernel) rfl, inTW 668 (by decide +kernel) rfl, inTW 669 (by decide +kernel) rfl, wt_J0, inTW 670 rfl rfl⟩, by decide +kernel, by decide +kernel⟩
set_option maxRecDepth 1000000 in
theorem wv_X4_67 : jWV RX4 67 "java/lang/String" yJ0_charAt_5068e cJ0_charAt_5068e 2 (some .char) 1 := ⟨⟨inTW 677 (by decide +kernel) rfl, inTW 678 (by decide +kernel) rfl, inTW 679 (by decide +kernel) rfl, wt_J0, inTW 680 rfl rfl⟩, by decide +kernel, by decide +kernel⟩
set_option maxRecDepth 1000000 in
theorem wv_X4_71 : jWV RX4 71 RX4 yX4_readDigit cX4_readDigit 2 (some .int) 0 := ⟨⟨inTW 719 (by decide +kernel) rfl, inTW 721 (by decide +kernel) rfl, inTW 11 (by decide +kernel) rfl, wt_X4, inTW 722 rfl rfl⟩, by decide +kernel, by decide +kernel⟩
set_option maxRecDepth 1000000 in
theorem wv_X4_74 : jWV RX4 74 RX4 yX4_readNumber cX4_readNumber 3 (some .int) 0 := ⟨⟨inTW 723 (by decide +kernel) rfl, inTW 725 (by decide +kernel) rfl, inTW 12 (by decide +kernel) rfl, wt_X4, inTW 726 rfl rfl⟩, by decide +kernel, by decide +kernel⟩
theorem wm_X5_1 : Cond.methodLink RX5 1 Lib.objectInit ∈ TW := inTW 73 (by decide +kernel) rfl
set_option maxRecDepth 1000000 in
theorem wj_X5_9 : jWI RX5 9 yX0_init cX0_init 2 0 := ⟨⟨inTW 78 (by decide +kernel) rfl, inTW 79 (by decide +kernel) rfl, wt_X0, inTW 80 rfl rfl⟩, by decide +kernel, by decide +kernel, rfl⟩
set_option maxRecDepth 1000000 in
theorem wj_X5_21 : jWI RX5 21 yX3_init cX3_init 2 0 := ⟨⟨inTW 218 (by decide +kernel) rfl, inTW 219 (by decide +kernel) rfl, wt_X3, inTW 220 rfl rfl⟩, by decide +kernel, by decide +kernel, rfl⟩
set_option maxRecDepth 1000000 in
theorem wj_X5_28 : jWI RX5 28 yX4_init cX4_init 1 0 := ⟨⟨inTW 238 (by decide +kernel) rfl, inTW 239 (by decide +kernel) rfl, wt_X4, inTW 240 rfl rfl⟩, by decide +kernel, by decide +kernel, rfl⟩
set_option maxRecDepth 1000000 in
theorem wv_X5_41 : jWV RX5 41 RX3 yX3_prepare cX3_prepare 2 (none) 1 := ⟨⟨inTW 285 (by decide +kernel) rfl, inTW 286 (by decide +kernel) rfl, inTW 287 (by decide +kernel) rfl, wt_X3, inTW 288 rfl rfl⟩, by decide +kernel, by decide +kernel⟩
set_option maxRecDepth 1000000 in
theorem wv_X5_45 : jWV RX5 45 RX0 yX0_changeSetting cX0_changeSetting 4 (some .int) 2 := ⟨⟨inTW 312 (by decide +kernel) rfl, inTW 313 (by decide +kernel) rfl, inTW 314 (by decide +kernel) rfl, wt_X0, inTW 315 rfl rfl⟩, by decide +kernel, by decide +kernel⟩
set_option maxRecDepth 1000000 in
theorem wv_X5_49 : jWV RX5 49 RX3 yX3_settle cX3_settle 2 (some .int) 1 := ⟨⟨inTW 323 (by decide +kernel) rfl, inTW 324 (by decide +kernel) rfl, inTW 325 (by decide +kernel) rfl, wt_X3, inTW 326 rfl rfl⟩, by decide +kernel, by decide +kernel⟩
set_option maxRecDepth 1000000 in
theorem wv_X5_53 : jWV RX5 53 RX0 yX0_addBoard cX0_addBoard 4 (some .int) 2 := ⟨⟨inTW 331 (by decide +kernel) rfl, inTW 332 (by decide +kernel) rfl, inTW 333 (by decide +kernel) rfl, wt_X0, inTW 334 rfl rfl⟩, by decide +kernel, by decide +kernel⟩
set_option maxRecDepth 1000000 in
theorem wv_X5_56 : jWV RX5 56 RX0 yX0_moveInward cX0_moveInward 6 (some .int) 3 := ⟨⟨inTW 343 (by decide +kernel) rfl, inTW 344 (by decide +kernel) rfl, inTW 345 (by decide +kernel) rfl, wt_X0, inTW 346 rfl rfl⟩, by decide +kernel, by decide +kernel⟩
set_option maxRecDepth 1000000 in
theorem wv_X5_60 : jWV RX5 60 RX0 yX0_moveOutward cX0_moveOutward 4 (some .int) 2 := ⟨⟨inTW 367 (by decide +kernel) rfl, inTW 368 (by decide +kernel) rfl, inTW 369 (by decide +kernel) rfl, wt_X0, inTW 370 rfl rfl⟩, by decide +kernel, by decide +kernel⟩
set_option maxRecDepth 1000000 in
theorem wv_X5_63 : jWV RX5 63 RX0 yX0_askToLeave cX0_askToLeave 3 (some .int) 1 := ⟨⟨inTW 375 (by decide +kernel) rfl, inTW 376 (by decide +kernel) rfl, inTW 377 (by decide +kernel) rfl, wt_X0, inTW 378 rfl rfl⟩, by decide +kernel, by decide +kernel⟩
set_option maxRecDepth 1000000 in
theorem wv_X5_66 : jWV RX5 66 RX0 yX0_sendWord cX0_sendWord 4 (some .int) 2 := ⟨⟨inTW 391 (by decide +kernel) rfl, inTW 392 (by decide +kernel) rfl, inTW 393 (by decide +kernel) rfl, wt_X0, inTW 394 rfl rfl⟩, by decide +kernel, by decide +kernel⟩
set_option maxRecDepth 1000000 in
theorem wv_X5_69 : jWV RX5 69 RX0 yX0_passTicks cX0_passTicks 4 (some .int) 1 := ⟨⟨inTW 415 (by decide +kernel) rfl, inTW 416 (by decide +kernel) rfl, inTW 417 (by decide +kernel) rfl, wt_X0, inTW 418 rfl rfl⟩, by decide +kernel, by decide +kernel⟩
set_option maxRecDepth 1000000 in
theorem wv_X5_72 : jWV RX5 72 RX0 yX0_aboutBoard cX0_aboutBoard 4 (some .int) 2 := ⟨⟨inTW 514 (by decide +kernel) rfl, inTW 515 (by decide +kernel) rfl, inTW 516 (by decide +kernel) rfl, wt_X0, inTW 517 rfl rfl⟩, by decide +kernel, by decide +kernel⟩
set_option maxRecDepth 1000000 in
theorem ws_X5_75 : jWS RX5 75 yX5_isSlot cX5_isSlot 1 (some .boolean) 1 := ⟨⟨inTW 526 (by decide +kernel) rfl, inTW 356 (by decide +kernel) rfl, wt_X5, inTW 357 rfl rfl⟩, by decide +kernel, by decide +kernel⟩
set_option maxRecDepth 1000000 in
theorem wv_X5_79 : jWV RX5 79 RX0 yX0_boardIn cX0_boardIn 3 (some .int) 1 := ⟨⟨inTW 527 (by decide +kernel) rfl, inTW 360 (by decide +kernel) rfl, inTW 361 (by decide +kernel) rfl, wt_X0, inTW 362 rfl rfl⟩, by decide +kernel, by decide +kernel⟩
set_option maxRecDepth 1000000 in
theorem wv_X5_86 : jWV RX5 86 RX2 yX2_aboutWord cX2_aboutWord 3 (some .int) 2 := ⟨⟨inTW 532 (by decide +kernel) rfl, inTW 533 (by decide +kernel) rfl, inTW 534 (by decide +kernel) rfl, wt_X2, inTW 535 rfl rfl⟩, by decide +kernel, by decide +kernel⟩
set_option maxRecDepth 1000000 in
theorem wv_X5_91 : jWV RX5 91 RX2 yX2_wordAtRank cX2_wordAtRank 2 (some .int) 1 := ⟨⟨inTW 540 (by decide +kernel) rfl, inTW 541 (by decide +kernel) rfl, inTW 542 (by decide +kernel) rfl, wt_X2, inTW 543 rfl rfl⟩, by decide +kernel, by decide +kernel⟩
set_option maxRecDepth 1000000 in
theorem wv_X5_98 : jWV RX5 98 RX0 yX0_boardSet cX0_boardSet 1 (some .int) 0 := ⟨⟨inTW 548 (by decide +kernel) rfl, inTW 549 (by decide +kernel) rfl, inTW 550 (by decide +kernel) rfl, wt_X0, inTW 551 rfl rfl⟩, by decide +kernel, by decide +kernel⟩
set_option maxRecDepth 1000000 in
theorem wv_X5_102 : jWV RX5 102 RX0 yX0_pluggedSet cX0_pluggedSet 3 (some .int) 0 := ⟨⟨inTW 552 (by decide +kernel) rfl, inTW 553 (by decide +kernel) rfl, inTW 554 (by decide +kernel) rfl, wt_X0, inTW 555 rfl rfl⟩, by decide +kernel, by decide +kernel⟩
set_option maxRecDepth 1000000 in
theorem wv_X5_105 : jWV RX5 105 RX0 yX0_knownSet cX0_knownSet 3 (some .int) 0 := ⟨⟨inTW 556 (by decide +kernel) rfl, inTW 496 (by decide +kernel) rfl, inTW 497 (by decide +kernel) rfl, wt_X0, inTW 498 rfl rfl⟩, by decide +kernel, by decide +kernel⟩
set_option maxRecDepth 1000000 in
theorem wv_X5_120 : jWV RX5 120 RX0 yX0_isHeld cX0_isHeld 2 (some .boolean) 0 := ⟨⟨inTW 557 (by decide +kernel) rfl, inTW 488 (by decide +kernel) rfl, inTW 489 (by decide +kernel) rfl, wt_X0, inTW 490 rfl rfl⟩, by decide +kernel, by decide +kernel⟩
set_option maxRecDepth 1000000 in
theorem wv_X5_124 : jWV RX5 124 RX0 yX0_drawn cX0_drawn 3 (some .int) 0 := ⟨⟨inTW 558 (by decide +kernel) rfl, inTW 456 (by decide +kernel) rfl, inTW 457 (by decide +kernel) rfl, wt_X0, inTW 458 rfl rfl⟩, by decide +kernel, by decide +kernel⟩
set_option maxRecDepth 1000000 in
theorem wv_X5_133 : jWV RX5 133 RX0 yX0_pulledTooSoon cX0_pulledTooSoon 3 (some .int) 0 := ⟨⟨inTW 559 (by decide +kernel) rfl, inTW 560 (by decide +kernel) rfl, inTW 561 (by decide +kernel) rfl, wt_X0, inTW 562 rfl rfl⟩, by decide +kernel, by decide +kernel⟩
set_option maxRecDepth 1000000 in
theorem ws_X5_146 : jWS RX5 146 yX5_isIn cX5_isIn 3 (some .boolean) 3 := ⟨⟨inTW 358 (by decide +kernel) rfl, inTW 317 (by decide +kernel) rfl, wt_X5, inTW 318 rfl rfl⟩, by decide +kernel, by decide +kernel⟩
set_option maxRecDepth 1000000 in
theorem wv_X5_150 : jWV RX5 150 RX0 yX0_knownWithCode cX0_knownWithCode 3 (some .int) 1 := ⟨⟨inTW 567 (by decide +kernel) rfl, inTW 568 (by decide +kernel) rfl, inTW 569 (by decide +kernel) rfl, wt_X0, inTW 570 rfl rfl⟩, by decide +kernel, by decide +kernel⟩
set_option maxRecDepth 1000000 in
theorem wv_X5_153 : jWV RX5 153 RX0 yX0_whyNot cX0_whyNot 5 (some .int) 2 := ⟨⟨inTW 575 (by decide +kernel) rfl, inTW 396 (by decide +kernel) rfl, inTW 397 (by decide +kernel) rfl, wt_X0, inTW 398 rfl rfl⟩, by decide +kernel, by decide +kernel⟩
set_option maxRecDepth 1000000 in
theorem wv_X5_156 : jWV RX5 156 RX0 yX0_boardAt cX0_boardAt 2 (some (.object "PlugPins$Board")) 1 := ⟨⟨inTW 580 (by decide +kernel) rfl, inTW 352 (by decide +kernel) rfl, inTW 353 (by decide +kernel) rfl, wt_X0, inTW 354 rfl rfl⟩, by decide +kernel, by decide +kernel⟩
set_option maxRecDepth 1000000 in
theorem wv_X5_165 : jWV RX5 165 RX0 yX0_copyFrom cX0_copyFrom 3 (none) 1 := ⟨⟨inTW 581 (by decide +kernel) rfl, inTW 297 (by decide +kernel) rfl, inTW 298 (by decide +kernel) rfl, wt_X0, inTW 299 rfl rfl⟩, by decide +kernel, by decide +kernel⟩
set_option maxRecDepth 1000000 in
theorem wv_X5_168 : jWV RX5 168 RX0 yX0_ticksUntilKnown cX0_ticksUntilKnown 4 (some .int) 1 := ⟨⟨inTW 582 (by decide +kernel) rfl, inTW 583 (by decide +kernel) rfl, inTW 584 (by decide +kernel) rfl, wt_X0, inTW 585 rfl rfl⟩, by decide +kernel, by decide +kernel⟩
set_option maxRecDepth 1000000 in
theorem wv_X5_171 : jWV RX5 171 RX0 yX0_inwardError cX0_inwardError 8 (some .int) 3 := ⟨⟨inTW 590 (by decide +kernel) rfl, inTW 348 (by decide +kernel) rfl, inTW 349 (by decide +kernel) rfl, wt_X0, inTW 350 rfl rfl⟩, by decide +kernel, by decide +kernel⟩
set_option maxRecDepth 1000000 in
theorem wv_X5_174 : jWV RX5 174 RX5 yX5_hurtsByPlug cX5_hurtsByPlug 4 (some .int) 3 := ⟨⟨inTW 591 (by decide +kernel) rfl, inTW 593 (by decide +kernel) rfl, inTW 8 (by decide +kernel) rfl, wt_X5, inTW 594 rfl rfl⟩, by decide +kernel, by decide +kernel⟩
set_option maxRecDepth 1000000 in
theorem wv_X5_177 : jWV RX5 177 RX0 yX0_ticksUntilQuiet cX0_ticksUntilQuiet 2 (some .int) 0 := ⟨⟨inTW 607 (by decide +kernel) rfl, inTW 608 (by decide +kernel) rfl, inTW 609 (by decide +kernel) rfl, wt_X0, inTW 610 rfl rfl⟩, by decide +kernel, by decide +kernel⟩
set_option maxRecDepth 1000000 in
theorem wv_X5_180 : jWV RX5 180 RX4 yX4_append cX4_append 5 (some .int) 1 := ⟨⟨inTW 616 (by decide +kernel) rfl, inTW 617 (by decide +kernel) rfl, inTW 618 (by decide +kernel) rfl, wt_X4, inTW 619 rfl rfl⟩, by decide +kernel, by decide +kernel⟩
set_option maxRecDepth 1000000 in
theorem wv_X5_184 : jWV RX5 184 RX4 yX4_clear cX4_clear 2 (some .int) 0 := ⟨⟨inTW 629 (by decide +kernel) rfl, inTW 630 (by decide +kernel) rfl, inTW 631 (by decide +kernel) rfl, wt_X4, inTW 632 rfl rfl⟩, by decide +kernel, by decide +kernel⟩
set_option maxRecDepth 1000000 in
theorem wv_X5_187 : jWV RX5 187 RX4 yX4_faultPlace cX4_faultPlace 2 (some .int) 0 := ⟨⟨inTW 637 (by decide +kernel) rfl, inTW 638 (by decide +kernel) rfl, inTW 639 (by decide +kernel) rfl, wt_X4, inTW 640 rfl rfl⟩, by decide +kernel, by decide +kernel⟩
set_option maxRecDepth 1000000 in
theorem wv_X5_190 : jWV RX5 190 RX4 yX4_startReading cX4_startReading 1 (none) 0 := ⟨⟨inTW 736 (by decide +kernel) rfl, inTW 642 (by decide +kernel) rfl, inTW 643 (by decide +kernel) rfl, wt_X4, inTW 644 rfl rfl⟩, by decide +kernel, by decide +kernel⟩
set_option maxRecDepth 1000000 in
theorem wv_X5_193 : jWV RX5 193 RX4 yX4_readOrder cX4_readOrder 6 (some .boolean) 0 := ⟨⟨inTW 737 (by decide +kernel) rfl, inTW 646 (by decide +kernel) rfl, inTW 647 (by decide +kernel) rfl, wt_X4, inTW 648 rfl rfl⟩, by decide +kernel, by decide +kernel⟩
set_option maxRecDepth 1000000 in
theorem wv_X5_196 : jWV RX5 196 RX5 yX5_carryOutOrder cX5_carryOutOrder 4 (some .int) 0 := ⟨⟨inTW 738 (by decide +kernel) rfl, inTW 740 (by decide +kernel) rfl, inTW 13 (by decide +kernel) rfl, wt_X5, inTW 741 rfl rfl⟩, by decide +kernel, by decide +kernel⟩
set_option maxRecDepth 1000000 in
theorem wv_X5_199 : jWV RX5 199 RX4 yX4_readSeparator cX4_readSeparator 1 (some .boolean) 0 := ⟨⟨inTW 742 (by decide +kernel) rfl, inTW 728 (by decide +kernel) rfl, inTW 729 (by decide +kernel) rfl, wt_X4, inTW 730 rfl rfl⟩, by decide +kernel, by decide +kernel⟩
set_option maxRecDepth 1000000 in
theorem wv_X5_202 : jWV RX5 202 RX3 yX3_takeBack cX3_takeBack 2 (some .int) 1 := ⟨⟨inTW 747 (by decide +kernel) rfl, inTW 748 (by decide +kernel) rfl, inTW 749 (by decide +kernel) rfl, wt_X3, inTW 750 rfl rfl⟩, by decide +kernel, by decide +kernel⟩
set_option maxRecDepth 1000000 in
theorem wv_X5_209 : jWV RX5 209 RX0 yX0_hurtsUntilStanding cX0_hurtsUntilStanding 5 (some .int) 1 := ⟨⟨inTW 595 (by decide +kernel) rfl, inTW 596 (by decide +kernel) rfl, inTW 597 (by decide +kernel) rfl, wt_X0, inTW 598 rfl rfl⟩, by decide +kernel, by decide +kernel⟩
theorem wm_X6_1 : Cond.methodLink RX6 1 Lib.objectInit ∈ TW := inTW 764 (by decide +kernel) rfl
set_option maxRecDepth 1000000 in
theorem ws_X6_25 : jWS RX6 25 yX6_in cX6_in 3 (some .boolean) 3 := ⟨⟨inTW 816 (by decide +kernel) rfl, inTW 817 (by decide +kernel) rfl, wt_X6, inTW 818 rfl rfl⟩, by decide +kernel, by decide +kernel⟩
set_option maxRecDepth 1000000 in
theorem wv_X6_29 : jWV RX6 29 RX6 yX6_stateOf cX6_stateOf 2 (some .int) 1 := ⟨⟨inTW 887 (by decide +kernel) rfl, inTW 889 (by decide +kernel) rfl, inTW 25 (by decide +kernel) rfl, wt_X6, inTW 890 rfl rfl⟩, by decide +kernel, by decide +kernel⟩
set_option maxRecDepth 1000000 in
theorem wv_X6_33 : jWV RX6 33 RX6 yX6_fromOf cX6_fromOf 2 (some .int) 1 := ⟨⟨inTW 895 (by decide +kernel) rfl, inTW 897 (by decide +kernel) rfl, inTW 27 (by decide +kernel) rfl, wt_X6, inTW 898 rfl rfl⟩, by decide +kernel, by decide +kernel⟩
set_option maxRecDepth 1000000 in
theorem wv_X6_36 : jWV RX6 36 RX6 yX6_toOf cX6_toOf 2 (some .int) 1 := ⟨⟨inTW 899 (by decide +kernel) rfl, inTW 901 (by decide +kernel) rfl, inTW 28 (by decide +kernel) rfl, wt_X6, inTW 902 rfl rfl⟩, by decide +kernel, by decide +kernel⟩
set_option maxRecDepth 1000000 in
theorem wv_X6_39 : jWV RX6 39 RX6 yX6_becomes cX6_becomes 3 (none) 2 := ⟨⟨inTW 951 (by decide +kernel) rfl, inTW 953 (by decide +kernel) rfl, inTW 39 (by decide +kernel) rfl, wt_X6, inTW 954 rfl rfl⟩, by decide +kernel, by decide +kernel⟩
set_option maxRecDepth 1000000 in
theorem wv_X6_43 : jWV RX6 43 RX6 yX6_isGoing cX6_isGoing 2 (some .boolean) 1 := ⟨⟨inTW 883 (by decide +kernel) rfl, inTW 885 (by decide +kernel) rfl, inTW 24 (by decide +kernel) rfl, wt_X6, inTW 886 rfl rfl⟩, by decide +kernel, by decide +kernel⟩
set_option maxRecDepth 1000000 in
theorem wv_X6_47 : jWV RX6 47 RX6 yX6_isOf cX6_isOf 3 (some .boolean) 2 := ⟨⟨inTW 891 (by decide +kernel) rfl, inTW 893 (by decide +kernel) rfl, inTW 26 (by decide +kernel) rfl, wt_X6, inTW 894 rfl rfl⟩, by decide +kernel, by decide +kernel⟩
set_option maxRecDepth 1000000 in
theorem wv_X6_55 : jWV RX6 55 RX6 yX6_record cX6_record 2 (none) 0 := ⟨⟨inTW 829 (by decide +kernel) rfl, inTW 831 (by decide +kernel) rfl, inTW 16 (by decide +kernel) rfl, wt_X6, inTW 832 rfl rfl⟩, by decide +kernel, by decide +kernel⟩
set_option maxRecDepth 1000000 in
theorem ws_X6_58 : jWS RX6 58 yX6_ofBoard cX6_ofBoard 2 (some .int) 2 := ⟨⟨inTW 841 (by decide +kernel) rfl, inTW 842 (by decide +kernel) rfl, wt_X6, inTW 843 rfl rfl⟩, by decide +kernel, by decide +kernel⟩
set_option maxRecDepth 1000000 in
theorem wv_X6_62 : jWV RX6 62 RX6 yX6_draw cX6_draw 3 (some .int) 0 := ⟨⟨inTW 935 (by decide +kernel) rfl, inTW 937 (by decide +kernel) rfl, inTW 35 (by decide +kernel) rfl, wt_X6, inTW 938 rfl rfl⟩, by decide +kernel, by decide +kernel⟩
set_option maxRecDepth 1000000 in
theorem wv_X6_66 : jWV RX6 66 RX6 yX6_isLost cX6_isLost 2 (none) 1 := ⟨⟨inTW 947 (by decide +kernel) rfl, inTW 949 (by decide +kernel) rfl, inTW 38 (by decide +kernel) rfl, wt_X6, inTW 950 rfl rfl⟩, by decide +kernel, by decide +kernel⟩
set_option maxRecDepth 1000000 in
theorem wv_X6_70 : jWV RX6 70 RX6 yX6_forgets cX6_forgets 3 (none) 1 := ⟨⟨inTW 943 (by decide +kernel) rfl, inTW 945 (by decide +kernel) rfl, inTW 37 (by decide +kernel) rfl, wt_X6, inTW 946 rfl rfl⟩, by decide +kernel, by decide +kernel⟩
set_option maxRecDepth 1000000 in
theorem wv_X6_73 : jWV RX6 73 RX6 yX6_isReady cX6_isReady 2 (some .boolean) 1 := ⟨⟨inTW 967 (by decide +kernel) rfl, inTW 969 (by decide +kernel) rfl, inTW 43 (by decide +kernel) rfl, wt_X6, inTW 970 rfl rfl⟩, by decide +kernel, by decide +kernel⟩
set_option maxRecDepth 1000000 in
theorem wv_X6_76 : jWV RX6 76 RX6 yX6_boardIn cX6_boardIn 4 (some .int) 1 := ⟨⟨inTW 859 (by decide +kernel) rfl, inTW 861 (by decide +kernel) rfl, inTW 20 (by decide +kernel) rfl, wt_X6, inTW 862 rfl rfl⟩, by decide +kernel, by decide +kernel⟩
set_option maxRecDepth 1000000 in
theorem wv_X6_79 : jWV RX6 79 RX6 yX6_goes cX6_goes 4 (some .boolean) 1 := ⟨⟨inTW 927 (by decide +kernel) rfl, inTW 929 (by decide +kernel) rfl, inTW 33 (by decide +kernel) rfl, wt_X6, inTW 930 rfl rfl⟩, by decide +kernel, by decide +kernel⟩
set_option maxRecDepth 1000000 in
theorem wv_X6_82 : jWV RX6 82 RX6 yX6_powers cX6_powers 3 (none) 1 := ⟨⟨inTW 931 (by decide +kernel) rfl, inTW 933 (by decide +kernel) rfl, inTW 34 (by decide +kernel) rfl, wt_X6, inTW 934 rfl rfl⟩, by decide +kernel, by decide +kernel⟩
set_option maxRecDepth 1000000 in
theorem wv_X6_85 : jWV RX6 85 RX6 yX6_greets cX6_greets 5 (none) 1 := ⟨⟨inTW 939 (by decide +kernel) rfl, inTW 941 (by decide +kernel) rfl, inTW 36 (by decide +kernel) rfl, wt_X6, inTW 942 rfl rfl⟩, by decide +kernel, by decide +kernel⟩
set_option maxRecDepth 1000000 in
theorem wv_X6_88 : jWV RX6 88 RX6 yX6_serves cX6_serves 3 (none) 1 := ⟨⟨inTW 955 (by decide +kernel) rfl, inTW 957 (by decide +kernel) rfl, inTW 40 (by decide +kernel) rfl, wt_X6, inTW 958 rfl rfl⟩, by decide +kernel, by decide +kernel⟩
set_option maxRecDepth 1000000 in
theorem wv_X6_92 : jWV RX6 92 RX6 yX6_isHeld cX6_isHeld 5 (some .boolean) 0 := ⟨⟨inTW 959 (by decide +kernel) rfl, inTW 961 (by decide +kernel) rfl, inTW 41 (by decide +kernel) rfl, wt_X6, inTW 962 rfl rfl⟩, by decide +kernel, by decide +kernel⟩
set_option maxRecDepth 1000000 in
theorem wv_X6_96 : jWV RX6 96 RX6 yX6_getsOn cX6_getsOn 3 (none) 0 := ⟨⟨inTW 963 (by decide +kernel) rfl, inTW 965 (by decide +kernel) rfl, inTW 42 (by decide +kernel) rfl, wt_X6, inTW 966 rfl rfl⟩, by decide +kernel, by decide +kernel⟩
set_option maxRecDepth 1000000 in
theorem wv_X6_99 : jWV RX6 99 RX6 yX6_tick cX6_tick 5 (none) 0 := ⟨⟨inTW 923 (by decide +kernel) rfl, inTW 925 (by decide +kernel) rfl, inTW 32 (by decide +kernel) rfl, wt_X6, inTW 926 rfl rfl⟩, by decide +kernel, by decide +kernel⟩
set_option maxRecDepth 1000000 in
theorem wv_X6_102 : jWV RX6 102 RX6 yX6_putAside cX6_putAside 2 (none) 0 := ⟨⟨inTW 812 (by decide +kernel) rfl, inTW 814 (by decide +kernel) rfl, inTW 14 (by decide +kernel) rfl, wt_X6, inTW 815 rfl rfl⟩, by decide +kernel, by decide +kernel⟩
set_option maxRecDepth 1000000 in
theorem ws_X6_105 : jWS RX6 105 yX6_least cX6_least 1 (some .int) 1 := ⟨⟨inTW 819 (by decide +kernel) rfl, inTW 820 (by decide +kernel) rfl, wt_X6, inTW 821 rfl rfl⟩, by decide +kernel, by decide +kernel⟩
set_option maxRecDepth 1000000 in
theorem ws_X6_108 : jWS RX6 108 yX6_most cX6_most 1 (some .int) 1 := ⟨⟨inTW 822 (by decide +kernel) rfl, inTW 823 (by decide +kernel) rfl, wt_X6, inTW 824 rfl rfl⟩, by decide +kernel, by decide +kernel⟩
set_option maxRecDepth 1000000 in
theorem wv_X6_111 : jWV RX6 111 RX6 yX6_changed cX6_changed 2 (some .int) 1 := ⟨⟨inTW 825 (by decide +kernel) rfl, inTW 827 (by decide +kernel) rfl, inTW 15 (by decide +kernel) rfl, wt_X6, inTW 828 rfl rfl⟩, by decide +kernel, by decide +kernel⟩
set_option maxRecDepth 1000000 in
theorem wv_X6_114 : jWV RX6 114 RX6 yX6_comes cX6_comes 4 (some .int) 2 := ⟨⟨inTW 837 (by decide +kernel) rfl, inTW 839 (by decide +kernel) rfl, inTW 17 (by decide +kernel) rfl, wt_X6, inTW 840 rfl rfl⟩, by decide +kernel, by decide +kernel⟩
set_option maxRecDepth 1000000 in
theorem wv_X6_117 : jWV RX6 117 RX6 yX6_isBoard cX6_isBoard 2 (some .boolean) 1 := ⟨⟨inTW 852 (by decide +kernel) rfl, inTW 854 (by decide +kernel) rfl, inTW 19 (by decide +kernel) rfl, wt_X6, inTW 855 rfl rfl⟩, by decide +kernel, by decide +kernel⟩
set_option maxRecDepth 1000000 in
theorem ws_X6_120 : jWS RX6 120 yX6_isSlot cX6_isSlot 1 (some .boolean) 1 := ⟨⟨inTW 856 (by decide +kernel) rfl, inTW 857 (by decide +kernel) rfl, wt_X6, inTW 858 rfl rfl⟩, by decide +kernel, by decide +kernel⟩
set_option maxRecDepth 1000000 in
theorem wv_X6_123 : jWV RX6 123 RX6 yX6_plugs cX6_plugs 7 (some .int) 3 := ⟨⟨inTW 848 (by decide +kernel) rfl, inTW 850 (by decide +kernel) rfl, inTW 18 (by decide +kernel) rfl, wt_X6, inTW 851 rfl rfl⟩, by decide +kernel, by decide +kernel⟩
set_option maxRecDepth 1000000 in
theorem wv_X6_127 : jWV RX6 127 RX6 yX6_pulls cX6_pulls 3 (some .int) 2 := ⟨⟨inTW 867 (by decide +kernel) rfl, inTW 869 (by decide +kernel) rfl, inTW 21 (by decide +kernel) rfl, wt_X6, inTW 870 rfl rfl⟩, by decide +kernel, by decide +kernel⟩
set_option maxRecDepth 1000000 in
theorem wv_X6_130 : jWV RX6 130 RX6 yX6_going cX6_going 4 (some .int) 1 := ⟨⟨inTW 879 (by decide +kernel) rfl, inTW 881 (by decide +kernel) rfl, inTW 23 (by decide +kernel) rfl, wt_X6, inTW 882 rfl rfl⟩, by decide +kernel, by decide +kernel⟩
set_option maxRecDepth 1000000 in
theorem wv_X6_133 : jWV RX6 133 RX6 yX6_asks cX6_asks 2 (some .int) 1 := ⟨⟨inTW 875 (by decide +kernel) rfl, inTW 877 (by decide +kernel) rfl, inTW 22 (by decide +kernel) rfl, wt_X6, inTW 878 rfl rfl⟩, by decide +kernel, by decide +kernel⟩
set_option maxRecDepth 1000000 in
theorem wv_X6_136 : jWV RX6 136 RX6 yX6_hindrance cX6_hindrance 3 (some .int) 2 := ⟨⟨inTW 911 (by decide +kernel) rfl, inTW 913 (by decide +kernel) rfl, inTW 30 (by decide +kernel) rfl, wt_X6, inTW 914 rfl rfl⟩, by decide +kernel, by decide +kernel⟩
set_option maxRecDepth 1000000 in
theorem wv_X6_139 : jWV RX6 139 RX6 yX6_sends cX6_sends 4 (some .int) 2 := ⟨⟨inTW 907 (by decide +kernel) rfl, inTW 909 (by decide +kernel) rfl, inTW 29 (by decide +kernel) rfl, wt_X6, inTW 910 rfl rfl⟩, by decide +kernel, by decide +kernel⟩
set_option maxRecDepth 1000000 in
theorem wv_X6_142 : jWV RX6 142 RX6 yX6_passes cX6_passes 4 (some .int) 1 := ⟨⟨inTW 919 (by decide +kernel) rfl, inTW 921 (by decide +kernel) rfl, inTW 31 (by decide +kernel) rfl, wt_X6, inTW 922 rfl rfl⟩, by decide +kernel, by decide +kernel⟩
set_option maxRecDepth 1000000 in
theorem wv_X6_145 : jWV RX6 145 RX6 yX6_boards cX6_boards 5 (some .int) 1 := ⟨⟨inTW 991 (by decide +kernel) rfl, inTW 993 (by decide +kernel) rfl, inTW 44 (by decide +kernel) rfl, wt_X6, inTW 994 rfl rfl⟩, by decide +kernel, by decide +kernel⟩
set_option maxRecDepth 1000000 in
theorem wv_X6_149 : jWV RX6 149 RX6 yX6_tooSoon cX6_tooSoon 3 (some .int) 0 := ⟨⟨inTW 995 (by decide +kernel) rfl, inTW 997 (by decide +kernel) rfl, inTW 45 (by decide +kernel) rfl, wt_X6, inTW 998 rfl rfl⟩, by decide +kernel, by decide +kernel⟩
set_option maxRecDepth 1000000 in
theorem wv_X6_155 : jWV RX6 155 RX6 yX6_putBack cX6_putBack 2 (none) 0 := ⟨⟨inTW 1011 (by decide +kernel) rfl, inTW 1013 (by decide +kernel) rfl, inTW 46 (by decide +kernel) rfl, wt_X6, inTW 1014 rfl rfl⟩, by decide +kernel, by decide +kernel⟩
set_option maxRecDepth 1000000 in
theorem wv_X6_158 : jWV RX6 158 RX6 yX6_hurtsBy cX6_hurtsBy 7 (some .int) 3 := ⟨⟨inTW 1019 (by decide +kernel) rfl, inTW 1021 (by decide +kernel) rfl, inTW 47 (by decide +kernel) rfl, wt_X6, inTW 1022 rfl rfl⟩, by decide +kernel, by decide +kernel⟩
set_option maxRecDepth 1000000 in
theorem wv_X6_170 : jWV RX6 170 RX6 yX6_isNext cX6_isNext 3 (some .boolean) 2 := ⟨⟨inTW 1060 (by decide +kernel) rfl, inTW 1062 (by decide +kernel) rfl, inTW 52 (by decide +kernel) rfl, wt_X6, inTW 1063 rfl rfl⟩, by decide +kernel, by decide +kernel⟩
set_option maxRecDepth 1000000 in
theorem wv_X6_173 : jWV RX6 173 RX6 yX6_takes cX6_takes 5 (some .int) 2 := ⟨⟨inTW 1056 (by decide +kernel) rfl, inTW 1058 (by decide +kernel) rfl, inTW 51 (by decide +kernel) rfl, wt_X6, inTW 1059 rfl rfl⟩, by decide +kernel, by decide +kernel⟩
set_option maxRecDepth 1000000 in
theorem wv_X6_179 : jWV RX6 179 RX6 yX6_number cX6_number 2 (some .int) 0 := ⟨⟨inTW 1052 (by decide +kernel) rfl, inTW 1054 (by decide +kernel) rfl, inTW 50 (by decide +kernel) rfl, wt_X6, inTW 1055 rfl rfl⟩, by decide +kernel, by decide +kernel⟩
set_option maxRecDepth 1000000 in
theorem ws_X6_185 : jWS RX6 185 yX6_between cX6_between 1 (some .int) 1 := ⟨⟨inTW 1064 (by decide +kernel) rfl, inTW 1065 (by decide +kernel) rfl, wt_X6, inTW 1066 rfl rfl⟩, by decide +kernel, by decide +kernel⟩
set_option maxRecDepth 1000000 in
theorem wv_X6_194 : jWV RX6 194 RX6 yX6_readOrder cX6_readOrder 2 (none) 0 := ⟨⟨inTW 1048 (by decide +kernel) rfl, inTW 1050 (by decide +kernel) rfl, inTW 49 (by decide +kernel) rfl, wt_X6, inTW 1051 rfl rfl⟩, by decide +kernel, by decide +kernel⟩
set_option maxRecDepth 1000000 in
theorem wv_X6_197 : jWV RX6 197 RX6 yX6_does cX6_does 1 (some .int) 0 := ⟨⟨inTW 1067 (by decide +kernel) rfl, inTW 1069 (by decide +kernel) rfl, inTW 53 (by decide +kernel) rfl, wt_X6, inTW 1070 rfl rfl⟩, by decide +kernel, by decide +kernel⟩
set_option maxRecDepth 1000000 in
theorem wv_X6_200 : jWV RX6 200 RX6 yX6_goesThrough cX6_goesThrough 5 (some .int) 1 := ⟨⟨inTW 1044 (by decide +kernel) rfl, inTW 1046 (by decide +kernel) rfl, inTW 48 (by decide +kernel) rfl, wt_X6, inTW 1047 rfl rfl⟩, by decide +kernel, by decide +kernel⟩
set_option maxRecDepth 1000000 in
theorem wv_X6_203 : jWV RX6 203 RX6 yX6_fault cX6_fault 2 (some .int) 0 := ⟨⟨inTW 1075 (by decide +kernel) rfl, inTW 1041 (by decide +kernel) rfl, inTW 1042 (by decide +kernel) rfl, wt_X6, inTW 1043 rfl rfl⟩, by decide +kernel, by decide +kernel⟩
set_option maxRecDepth 1000000 in
theorem wv_J0_335 : jWV RJ0 335 "java/lang/String" yJ0_coder_7d493 cJ0_coder_7d493 1 (some .byte) 0 := ⟨⟨inTW 671 (by decide +kernel) rfl, inTW 672 (by decide +kernel) rfl, inTW 673 (by decide +kernel) rfl, wt_J0, inTW 674 rfl rfl⟩, by decide +kernel, by decide +kernel⟩
set_option maxRecDepth 1000000 in
theorem wv_J0_492 : jWV RJ0 492 "java/lang/String" yJ0_isLatin1_aae02 cJ0_isLatin1_aae02 1 (some .boolean) 0 := ⟨⟨inTW 681 (by decide +kernel) rfl, inTW 682 (by decide +kernel) rfl, inTW 683 (by decide +kernel) rfl, wt_J0, inTW 684 rfl rfl⟩, by decide +kernel, by decide +kernel⟩
set_option maxRecDepth 1000000 in
theorem ws_J0_495 : jWS RJ0 495 yJ1_charAt_3b067 cJ1_charAt_3b067 2 (some .char) 2 := ⟨⟨inTW 685 (by decide +kernel) rfl, inTW 686 (by decide +kernel) rfl, wt_J1, inTW 687 rfl rfl⟩, by decide +kernel, by decide +kernel⟩
set_option maxRecDepth 1000000 in
theorem ws_J0_498 : jWS RJ0 498 yJ2_charAt_3b067 cJ2_charAt_3b067 2 (some .char) 2 := ⟨⟨inTW 696 (by decide +kernel) rfl, inTW 697 (by decide +kernel) rfl, wt_J2, inTW 698 rfl rfl⟩, by decide +kernel, by decide +kernel⟩
set_option maxRecDepth 1000000 in
theorem ws_J0_1059 : jWS RJ0 1059 yJ3_checkIndex_8e157 cJ3_checkIndex_8e157 3 (some .int) 3 := ⟨⟨inTW 693 (by decide +kernel) rfl, inTW 694 (by decide +kernel) rfl, wt_J3, inTW 695 rfl rfl⟩, by decide +kernel, by decide +kernel⟩
set_option maxRecDepth 1000000 in
theorem ws_J1_9 : jWS RJ1 9 yJ0_checkIndex_df160 cJ0_checkIndex_df160 2 (none) 2 := ⟨⟨inTW 688 (by decide +kernel) rfl, inTW 689 (by decide +kernel) rfl, wt_J0, inTW 690 rfl rfl⟩, by decide +kernel, by decide +kernel⟩
set_option maxRecDepth 1000000 in
theorem ws_J2_48 : jWS RJ2 48 yJ2_length_9d52b cJ2_length_9d52b 1 (some .int) 1 := ⟨⟨inTW 702 (by decide +kernel) rfl, inTW 703 (by decide +kernel) rfl, wt_J2, inTW 704 rfl rfl⟩, by decide +kernel, by decide +kernel⟩
set_option maxRecDepth 1000000 in
theorem ws_J2_67 : jWS RJ2 67 yJ2_checkIndex_2214a cJ2_checkIndex_2214a 2 (none) 2 := ⟨⟨inTW 699 (by decide +kernel) rfl, inTW 700 (by decide +kernel) rfl, wt_J2, inTW 701 rfl rfl⟩, by decide +kernel, by decide +kernel⟩
set_option maxRecDepth 1000000 in
theorem ws_J2_71 : jWS RJ2 71 yJ2_getChar_3b067 cJ2_getChar_3b067 2 (some .char) 2 := ⟨⟨inTW 706 (by decide +kernel) rfl, inTW 707 (by decide +kernel) rfl, wt_J2, inTW 708 rfl rfl⟩, by decide +kernel, by decide +kernel⟩
set_option maxRecDepth 1000000 in
theorem ws_J2_414 : jWS RJ2 414 yJ0_checkIndex_df160 cJ0_checkIndex_df160 2 (none) 2 := ⟨⟨inTW 705 (by decide +kernel) rfl, inTW 689 (by decide +kernel) rfl, wt_J0, inTW 690 rfl rfl⟩, by decide +kernel, by decide +kernel⟩
set_option maxRecDepth 1000000 in
theorem wj_L_9 : jWI RL 9 yX5_init cX5_init 2 0 := ⟨⟨inTW 70 (by decide +kernel) rfl, inTW 71 (by decide +kernel) rfl, wt_X5, inTW 72 rfl rfl⟩, by decide +kernel, by decide +kernel, rfl⟩
set_option maxRecDepth 1000000 in
theorem wj_L_12 : jWI RL 12 yX6_init cX6_init 1 0 := ⟨⟨inTW 761 (by decide +kernel) rfl, inTW 762 (by decide +kernel) rfl, wt_X6, inTW 763 rfl rfl⟩, by decide +kernel, by decide +kernel, rfl⟩
set_option maxRecDepth 1000000 in
theorem wv_L_13 : jWV RL 13 RX5 yX5_set cX5_set 3 (some .int) 2 := ⟨⟨inTW 281 (by decide +kernel) rfl, inTW 282 (by decide +kernel) rfl, inTW 283 (by decide +kernel) rfl, wt_X5, inTW 284 rfl rfl⟩, by decide +kernel, by decide +kernel⟩
set_option maxRecDepth 1000000 in
theorem wv_L_17 : jWV RL 17 RX6 yX6_set cX6_set 4 (some .int) 2 := ⟨⟨inTW 808 (by decide +kernel) rfl, inTW 809 (by decide +kernel) rfl, inTW 810 (by decide +kernel) rfl, wt_X6, inTW 811 rfl rfl⟩, by decide +kernel, by decide +kernel⟩
set_option maxRecDepth 1000000 in
theorem wv_L_18 : jWV RL 18 RX5 yX5_board cX5_board 3 (some .int) 2 := ⟨⟨inTW 327 (by decide +kernel) rfl, inTW 328 (by decide +kernel) rfl, inTW 329 (by decide +kernel) rfl, wt_X5, inTW 330 rfl rfl⟩, by decide +kernel, by decide +kernel⟩
set_option maxRecDepth 1000000 in
theorem wv_L_21 : jWV RL 21 RX6 yX6_board cX6_board 3 (some .int) 2 := ⟨⟨inTW 833 (by decide +kernel) rfl, inTW 834 (by decide +kernel) rfl, inTW 835 (by decide +kernel) rfl, wt_X6, inTW 836 rfl rfl⟩, by decide +kernel, by decide +kernel⟩
set_option maxRecDepth 1000000 in
theorem wv_L_22 : jWV RL 22 RX5 yX5_plug cX5_plug 4 (some .int) 3 := ⟨⟨inTW 339 (by decide +kernel) rfl, inTW 340 (by decide +kernel) rfl, inTW 341 (by decide +kernel) rfl, wt_X5, inTW 342 rfl rfl⟩, by decide +kernel, by decide +kernel⟩
set_option maxRecDepth 1000000 in
theorem wv_L_26 : jWV RL 26 RX6 yX6_plug cX6_plug 4 (some .int) 3 := ⟨⟨inTW 844 (by decide +kernel) rfl, inTW 845 (by decide +kernel) rfl, inTW 846 (by decide +kernel) rfl, wt_X6, inTW 847 rfl rfl⟩, by decide +kernel, by decide +kernel⟩
set_option maxRecDepth 1000000 in
theorem wv_L_27 : jWV RL 27 RX5 yX5_pull cX5_pull 3 (some .int) 2 := ⟨⟨inTW 363 (by decide +kernel) rfl, inTW 364 (by decide +kernel) rfl, inTW 365 (by decide +kernel) rfl, wt_X5, inTW 366 rfl rfl⟩, by decide +kernel, by decide +kernel⟩
set_option maxRecDepth 1000000 in
theorem wv_L_30 : jWV RL 30 RX6 yX6_pull cX6_pull 3 (some .int) 2 := ⟨⟨inTW 863 (by decide +kernel) rfl, inTW 864 (by decide +kernel) rfl, inTW 865 (by decide +kernel) rfl, wt_X6, inTW 866 rfl rfl⟩, by decide +kernel, by decide +kernel⟩
set_option maxRecDepth 1000000 in
theorem wv_L_31 : jWV RL 31 RX5 yX5_ask cX5_ask 2 (some .int) 1 := ⟨⟨inTW 371 (by decide +kernel) rfl, inTW 372 (by decide +kernel) rfl, inTW 373 (by decide +kernel) rfl, wt_X5, inTW 374 rfl rfl⟩, by decide +kernel, by decide +kernel⟩
set_option maxRecDepth 1000000 in
theorem wv_L_35 : jWV RL 35 RX6 yX6_ask cX6_ask 2 (some .int) 1 := ⟨⟨inTW 871 (by decide +kernel) rfl, inTW 872 (by decide +kernel) rfl, inTW 873 (by decide +kernel) rfl, wt_X6, inTW 874 rfl rfl⟩, by decide +kernel, by decide +kernel⟩
set_option maxRecDepth 1000000 in
theorem wv_L_36 : jWV RL 36 RX5 yX5_send cX5_send 3 (some .int) 2 := ⟨⟨inTW 387 (by decide +kernel) rfl, inTW 388 (by decide +kernel) rfl, inTW 389 (by decide +kernel) rfl, wt_X5, inTW 390 rfl rfl⟩, by decide +kernel, by decide +kernel⟩
set_option maxRecDepth 1000000 in
theorem wv_L_39 : jWV RL 39 RX6 yX6_send cX6_send 3 (some .int) 2 := ⟨⟨inTW 903 (by decide +kernel) rfl, inTW 904 (by decide +kernel) rfl, inTW 905 (by decide +kernel) rfl, wt_X6, inTW 906 rfl rfl⟩, by decide +kernel, by decide +kernel⟩
set_option maxRecDepth 1000000 in
theorem wv_L_40 : jWV RL 40 RX5 yX5_pass cX5_pass 2 (some .int) 1 := ⟨⟨inTW 411 (by decide +kernel) rfl, inTW 412 (by decide +kernel) rfl, inTW 413 (by decide +kernel) rfl, wt_X5, inTW 414 rfl rfl⟩, by decide +kernel, by decide +kernel⟩
set_option maxRecDepth 1000000 in
theorem wv_L_43 : jWV RL 43 RX6 yX6_pass cX6_pass 2 (some .int) 1 := ⟨⟨inTW 915 (by decide +kernel) rfl, inTW 916 (by decide +kernel) rfl, inTW 917 (by decide +kernel) rfl, wt_X6, inTW 918 rfl rfl⟩, by decide +kernel, by decide +kernel⟩
set_option maxRecDepth 1000000 in
theorem wv_L_44 : jWV RL 44 RX5 yX5_of cX5_of 3 (some .int) 2 := ⟨⟨inTW 510 (by decide +kernel) rfl, inTW 511 (by decide +kernel) rfl, inTW 512 (by decide +kernel) rfl, wt_X5, inTW 513 rfl rfl⟩, by decide +kernel, by decide +kernel⟩
set_option maxRecDepth 1000000 in
theorem wv_L_47 : jWV RL 47 RX6 yX6_of cX6_of 3 (some .int) 2 := ⟨⟨inTW 971 (by decide +kernel) rfl, inTW 972 (by decide +kernel) rfl, inTW 973 (by decide +kernel) rfl, wt_X6, inTW 974 rfl rfl⟩, by decide +kernel, by decide +kernel⟩
set_option maxRecDepth 1000000 in
theorem wv_L_48 : jWV RL 48 RX5 yX5_slot cX5_slot 2 (some .int) 1 := ⟨⟨inTW 522 (by decide +kernel) rfl, inTW 523 (by decide +kernel) rfl, inTW 524 (by decide +kernel) rfl, wt_X5, inTW 525 rfl rfl⟩, by decide +kernel, by decide +kernel⟩
set_option maxRecDepth 1000000 in
theorem wv_L_51 : jWV RL 51 RX6 yX6_slot cX6_slot 2 (some .int) 1 := ⟨⟨inTW 975 (by decide +kernel) rfl, inTW 976 (by decide +kernel) rfl, inTW 977 (by decide +kernel) rfl, wt_X6, inTW 978 rfl rfl⟩, by decide +kernel, by decide +kernel⟩
set_option maxRecDepth 1000000 in
theorem wv_L_52 : jWV RL 52 RX5 yX5_word cX5_word 3 (some .int) 2 := ⟨⟨inTW 528 (by decide +kernel) rfl, inTW 529 (by decide +kernel) rfl, inTW 530 (by decide +kernel) rfl, wt_X5, inTW 531 rfl rfl⟩, by decide +kernel, by decide +kernel⟩
set_option maxRecDepth 1000000 in
theorem wv_L_55 : jWV RL 55 RX6 yX6_word cX6_word 3 (some .int) 2 := ⟨⟨inTW 979 (by decide +kernel) rfl, inTW 980 (by decide +kernel) rfl, inTW 981 (by decide +kernel) rfl, wt_X6, inTW 982 rfl rfl⟩, by decide +kernel, by decide +kernel⟩
set_option maxRecDepth 1000000 in
theorem wv_L_56 : jWV RL 56 RX5 yX5_waiting cX5_waiting 3 (some .int) 1 := ⟨⟨inTW 536 (by decide +kernel) rfl, inTW 537 (by decide +kernel) rfl, inTW 538 (by decide +kernel) rfl, wt_X5, inTW 539 rfl rfl⟩, by decide +kernel, by decide +kernel⟩
set_option maxRecDepth 1000000 in
theorem wv_L_59 : jWV RL 59 RX6 yX6_waiting cX6_waiting 6 (some .int) 1 := ⟨⟨inTW 983 (by decide +kernel) rfl, inTW 984 (by decide +kernel) rfl, inTW 985 (by decide +kernel) rfl, wt_X6, inTW 986 rfl rfl⟩, by decide +kernel, by decide +kernel⟩
set_option maxRecDepth 1000000 in
theorem wv_L_60 : jWV RL 60 RX5 yX5_count cX5_count 2 (some .int) 1 := ⟨⟨inTW 544 (by decide +kernel) rfl, inTW 545 (by decide +kernel) rfl, inTW 546 (by decide +kernel) rfl, wt_X5, inTW 547 rfl rfl⟩, by decide +kernel, by decide +kernel⟩
set_option maxRecDepth 1000000 in
theorem wv_L_63 : jWV RL 63 RX6 yX6_count cX6_count 2 (some .int) 1 := ⟨⟨inTW 987 (by decide +kernel) rfl, inTW 988 (by decide +kernel) rfl, inTW 989 (by decide +kernel) rfl, wt_X6, inTW 990 rfl rfl⟩, by decide +kernel, by decide +kernel⟩
set_option maxRecDepth 1000000 in
theorem wv_L_64 : jWV RL 64 RX5 yX5_known cX5_known 2 (some .int) 1 := ⟨⟨inTW 563 (by decide +kernel) rfl, inTW 564 (by decide +kernel) rfl, inTW 565 (by decide +kernel) rfl, wt_X5, inTW 566 rfl rfl⟩, by decide +kernel, by decide +kernel⟩
set_option maxRecDepth 1000000 in
theorem wv_L_67 : jWV RL 67 RX6 yX6_known cX6_known 4 (some .int) 1 := ⟨⟨inTW 999 (by decide +kernel) rfl, inTW 1000 (by decide +kernel) rfl, inTW 1001 (by decide +kernel) rfl, wt_X6, inTW 1002 rfl rfl⟩, by decide +kernel, by decide +kernel⟩
set_option maxRecDepth 1000000 in
theorem wv_L_68 : jWV RL 68 RX5 yX5_why cX5_why 3 (some .int) 2 := ⟨⟨inTW 571 (by decide +kernel) rfl, inTW 572 (by decide +kernel) rfl, inTW 573 (by decide +kernel) rfl, wt_X5, inTW 574 rfl rfl⟩, by decide +kernel, by decide +kernel⟩
set_option maxRecDepth 1000000 in
theorem wv_L_71 : jWV RL 71 RX6 yX6_why cX6_why 3 (some .int) 2 := ⟨⟨inTW 1003 (by decide +kernel) rfl, inTW 1004 (by decide +kernel) rfl, inTW 1005 (by decide +kernel) rfl, wt_X6, inTW 1006 rfl rfl⟩, by decide +kernel, by decide +kernel⟩
set_option maxRecDepth 1000000 in
theorem wv_L_72 : jWV RL 72 RX5 yX5_knownIn cX5_knownIn 3 (some .int) 1 := ⟨⟨inTW 576 (by decide +kernel) rfl, inTW 577 (by decide +kernel) rfl, inTW 578 (by decide +kernel) rfl, wt_X5, inTW 579 rfl rfl⟩, by decide +kernel, by decide +kernel⟩
set_option maxRecDepth 1000000 in
theorem wv_L_75 : jWV RL 75 RX6 yX6_knownIn cX6_knownIn 3 (some .int) 1 := ⟨⟨inTW 1007 (by decide +kernel) rfl, inTW 1008 (by decide +kernel) rfl, inTW 1009 (by decide +kernel) rfl, wt_X6, inTW 1010 rfl rfl⟩, by decide +kernel, by decide +kernel⟩
set_option maxRecDepth 1000000 in
theorem wv_L_76 : jWV RL 76 RX5 yX5_wouldHurt cX5_wouldHurt 5 (some .int) 3 := ⟨⟨inTW 586 (by decide +kernel) rfl, inTW 587 (by decide +kernel) rfl, inTW 588 (by decide +kernel) rfl, wt_X5, inTW 589 rfl rfl⟩, by decide +kernel, by decide +kernel⟩
set_option maxRecDepth 1000000 in
theorem wv_L_79 : jWV RL 79 RX6 yX6_wouldHurt cX6_wouldHurt 4 (some .int) 3 := ⟨⟨inTW 1015 (by decide +kernel) rfl, inTW 1016 (by decide +kernel) rfl, inTW 1017 (by decide +kernel) rfl, wt_X6, inTW 1018 rfl rfl⟩, by decide +kernel, by decide +kernel⟩
set_option maxRecDepth 1000000 in
theorem wv_L_80 : jWV RL 80 RX5 yX5_safeSpeed cX5_safeSpeed 5 (some .int) 2 := ⟨⟨inTW 599 (by decide +kernel) rfl, inTW 600 (by decide +kernel) rfl, inTW 601 (by decide +kernel) rfl, wt_X5, inTW 602 rfl rfl⟩, by decide +kernel, by decide +kernel⟩
set_option maxRecDepth 1000000 in
theorem wv_L_83 : jWV RL 83 RX6 yX6_safeSpeed cX6_safeSpeed 6 (some .int) 2 := ⟨⟨inTW 1023 (by decide +kernel) rfl, inTW 1024 (by decide +kernel) rfl, inTW 1025 (by decide +kernel) rfl, wt_X6, inTW 1026 rfl rfl⟩, by decide +kernel, by decide +kernel⟩
set_option maxRecDepth 1000000 in
theorem wv_L_84 : jWV RL 84 RX5 yX5_quietIn cX5_quietIn 1 (some .int) 0 := ⟨⟨inTW 603 (by decide +kernel) rfl, inTW 604 (by decide +kernel) rfl, inTW 605 (by decide +kernel) rfl, wt_X5, inTW 606 rfl rfl⟩, by decide +kernel, by decide +kernel⟩
set_option maxRecDepth 1000000 in
theorem wv_L_88 : jWV RL 88 RX6 yX6_quietIn cX6_quietIn 2 (some .int) 0 := ⟨⟨inTW 1027 (by decide +kernel) rfl, inTW 1028 (by decide +kernel) rfl, inTW 1029 (by decide +kernel) rfl, wt_X6, inTW 1030 rfl rfl⟩, by decide +kernel, by decide +kernel⟩
set_option maxRecDepth 1000000 in
theorem wv_L_91 : jWV RL 91 RX5 yX5_put cX5_put 3 (some .int) 1 := ⟨⟨inTW 612 (by decide +kernel) rfl, inTW 613 (by decide +kernel) rfl, inTW 614 (by decide +kernel) rfl, wt_X5, inTW 615 rfl rfl⟩, by decide +kernel, by decide +kernel⟩
set_option maxRecDepth 1000000 in
theorem wv_L_95 : jWV RL 95 RX6 yX6_put cX6_put 8 (some .int) 1 := ⟨⟨inTW 1031 (by decide +kernel) rfl, inTW 1032 (by decide +kernel) rfl, inTW 1033 (by decide +kernel) rfl, wt_X6, inTW 1034 rfl rfl⟩, by decide +kernel, by decide +kernel⟩
set_option maxRecDepth 1000000 in
theorem wv_L_96 : jWV RL 96 RX5 yX5_wipe cX5_wipe 1 (some .int) 0 := ⟨⟨inTW 625 (by decide +kernel) rfl, inTW 626 (by decide +kernel) rfl, inTW 627 (by decide +kernel) rfl, wt_X5, inTW 628 rfl rfl⟩, by decide +kernel, by decide +kernel⟩
set_option maxRecDepth 1000000 in
theorem wv_L_99 : jWV RL 99 RX6 yX6_wipe cX6_wipe 2 (some .int) 0 := ⟨⟨inTW 1036 (by decide +kernel) rfl, inTW 1037 (by decide +kernel) rfl, inTW 1038 (by decide +kernel) rfl, wt_X6, inTW 1039 rfl rfl⟩, by decide +kernel, by decide +kernel⟩
set_option maxRecDepth 1000000 in
theorem wv_L_100 : jWV RL 100 RX5 yX5_fault cX5_fault 1 (some .int) 0 := ⟨⟨inTW 633 (by decide +kernel) rfl, inTW 634 (by decide +kernel) rfl, inTW 635 (by decide +kernel) rfl, wt_X5, inTW 636 rfl rfl⟩, by decide +kernel, by decide +kernel⟩
set_option maxRecDepth 1000000 in
theorem wv_L_103 : jWV RL 103 RX6 yX6_fault cX6_fault 2 (some .int) 0 := ⟨⟨inTW 1040 (by decide +kernel) rfl, inTW 1041 (by decide +kernel) rfl, inTW 1042 (by decide +kernel) rfl, wt_X6, inTW 1043 rfl rfl⟩, by decide +kernel, by decide +kernel⟩
set_option maxRecDepth 1000000 in
theorem wv_L_104 : jWV RL 104 RX5 yX5_carryOut cX5_carryOut 2 (some .int) 0 := ⟨⟨inTW 732 (by decide +kernel) rfl, inTW 733 (by decide +kernel) rfl, inTW 734 (by decide +kernel) rfl, wt_X5, inTW 735 rfl rfl⟩, by decide +kernel, by decide +kernel⟩
set_option maxRecDepth 1000000 in
theorem wv_L_107 : jWV RL 107 RX6 yX6_carryOut cX6_carryOut 2 (some .int) 0 := ⟨⟨inTW 1071 (by decide +kernel) rfl, inTW 1072 (by decide +kernel) rfl, inTW 1073 (by decide +kernel) rfl, wt_X6, inTW 1074 rfl rfl⟩, by decide +kernel, by decide +kernel⟩
set_option maxRecDepth 1000000 in
theorem wv_L_108 : jWV RL 108 RX5 yX5_undo cX5_undo 1 (some .int) 0 := ⟨⟨inTW 743 (by decide +kernel) rfl, inTW 744 (by decide +kernel) rfl, inTW 745 (by decide +kernel) rfl, wt_X5, inTW 746 rfl rfl⟩, by decide +kernel, by decide +kernel⟩
set_option maxRecDepth 1000000 in
theorem wv_L_111 : jWV RL 111 RX6 yX6_undo cX6_undo 2 (some .int) 0 := ⟨⟨inTW 1076 (by decide +kernel) rfl, inTW 1077 (by decide +kernel) rfl, inTW 1078 (by decide +kernel) rfl, wt_X6, inTW 1079 rfl rfl⟩, by decide +kernel, by decide +kernel⟩
set_option maxRecDepth 1000000 in
theorem wv_L_112 : jWV RL 112 RX5 yX5_save cX5_save 2 (some .int) 1 := ⟨⟨inTW 751 (by decide +kernel) rfl, inTW 752 (by decide +kernel) rfl, inTW 753 (by decide +kernel) rfl, wt_X5, inTW 754 rfl rfl⟩, by decide +kernel, by decide +kernel⟩
set_option maxRecDepth 1000000 in
theorem wv_L_115 : jWV RL 115 RX6 yX6_save cX6_save 3 (some .int) 1 := ⟨⟨inTW 1080 (by decide +kernel) rfl, inTW 1081 (by decide +kernel) rfl, inTW 1082 (by decide +kernel) rfl, wt_X6, inTW 1083 rfl rfl⟩, by decide +kernel, by decide +kernel⟩
set_option maxRecDepth 1000000 in
theorem wv_L_116 : jWV RL 116 RX5 yX5_restore cX5_restore 2 (some .int) 1 := ⟨⟨inTW 755 (by decide +kernel) rfl, inTW 756 (by decide +kernel) rfl, inTW 757 (by decide +kernel) rfl, wt_X5, inTW 758 rfl rfl⟩, by decide +kernel, by decide +kernel⟩
set_option maxRecDepth 1000000 in
theorem wv_L_119 : jWV RL 119 RX6 yX6_restore cX6_restore 3 (some .int) 1 := ⟨⟨inTW 1084 (by decide +kernel) rfl, inTW 1085 (by decide +kernel) rfl, inTW 1086 (by decide +kernel) rfl, wt_X6, inTW 1087 rfl rfl⟩, by decide +kernel, by decide +kernel⟩
