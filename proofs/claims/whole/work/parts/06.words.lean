theorem x_0 : Cond.selects RX8 yX8_readSigns yX8_readSigns ∈ gtb := mem_g 0 (by decide +kernel) (by decide +kernel)
theorem x_1 : Cond.selects RX9 yX9_readLine yX9_readLine ∈ gtb := mem_g 1 (by decide +kernel) (by decide +kernel)
theorem x_2 : Cond.selects RX9 yX9_takeOnce yX9_takeOnce ∈ gtb := mem_g 2 (by decide +kernel) (by decide +kernel)
theorem x_3 : Cond.selects RX9 yX9_readCar yX9_readCar ∈ gtb := mem_g 3 (by decide +kernel) (by decide +kernel)
theorem x_4 : Cond.selects RX9 yX9_kindHere yX9_kindHere ∈ gtb := mem_g 4 (by decide +kernel) (by decide +kernel)
theorem x_5 : Cond.selects RX9 yX9_readOptions yX9_readOptions ∈ gtb := mem_g 5 (by decide +kernel) (by decide +kernel)
theorem x_6 : Cond.selects RX9 yX9_optionHere yX9_optionHere ∈ gtb := mem_g 6 (by decide +kernel) (by decide +kernel)
theorem x_7 : Cond.selects RX9 yX9_takeStuck yX9_takeStuck ∈ gtb := mem_g 7 (by decide +kernel) (by decide +kernel)
theorem x_8 : Cond.selects RX3 yX3_readStep yX3_readStep ∈ gtb := mem_g 8 (by decide +kernel) (by decide +kernel)
theorem x_9 : Cond.selects RX3 yX3_actHere yX3_actHere ∈ gtb := mem_g 9 (by decide +kernel) (by decide +kernel)
theorem x_10 : Cond.selects RX0 yX0_work yX0_work ∈ gtb := mem_g 10 (by decide +kernel) (by decide +kernel)
theorem x_11 : Cond.selects RX0 yX0_flow yX0_flow ∈ gtb := mem_g 11 (by decide +kernel) (by decide +kernel)
theorem x_12 : Cond.selects RX0 yX0_moveValve yX0_moveValve ∈ gtb := mem_g 12 (by decide +kernel) (by decide +kernel)
theorem x_13 : Cond.selects RX0 yX0_samePressure yX0_samePressure ∈ gtb := mem_g 13 (by decide +kernel) (by decide +kernel)
theorem x_14 : Cond.selects RX6 yX6_gainBy yX6_gainBy ∈ gtb := mem_g 14 (by decide +kernel) (by decide +kernel)
theorem x_15 : Cond.selects RX10 yX10_firstOrder yX10_firstOrder ∈ gtb := mem_g 15 (by decide +kernel) (by decide +kernel)
theorem x_16 : Cond.selects RX10 yX10_keepOrder yX10_keepOrder ∈ gtb := mem_g 16 (by decide +kernel) (by decide +kernel)
theorem x_17 : Cond.selects RX10 yX10_layOrder yX10_layOrder ∈ gtb := mem_g 17 (by decide +kernel) (by decide +kernel)
theorem x_18 : Cond.selects RX10 yX10_spanOfBent yX10_spanOfBent ∈ gtb := mem_g 18 (by decide +kernel) (by decide +kernel)
theorem x_19 : Cond.selects RX10 yX10_nextOrder yX10_nextOrder ∈ gtb := mem_g 19 (by decide +kernel) (by decide +kernel)
theorem x_20 : Cond.selects RX10 yX10_swap yX10_swap ∈ gtb := mem_g 20 (by decide +kernel) (by decide +kernel)
theorem x_21 : Cond.selects RX10 yX10_findBraked yX10_findBraked ∈ gtb := mem_g 21 (by decide +kernel) (by decide +kernel)
theorem x_22 : Cond.selects RX10 yX10_stopsWithout yX10_stopsWithout ∈ gtb := mem_g 22 (by decide +kernel) (by decide +kernel)
theorem x_23 : Cond.selects RX2 yX2_tryGuess yX2_tryGuess ∈ gtb := mem_g 23 (by decide +kernel) (by decide +kernel)
theorem x_24 : Cond.selects RX2 yX2_bendBy yX2_bendBy ∈ gtb := mem_g 24 (by decide +kernel) (by decide +kernel)
theorem x_25 : Cond.selects RX2 yX2_doesFit yX2_doesFit ∈ gtb := mem_g 25 (by decide +kernel) (by decide +kernel)
theorem x_26 : Cond.selects RX2 yX2_agrees yX2_agrees ∈ gtb := mem_g 26 (by decide +kernel) (by decide +kernel)
theorem x_27 : Cond.selects RX2 yX2_addHotSet yX2_addHotSet ∈ gtb := mem_g 27 (by decide +kernel) (by decide +kernel)
theorem x_28 : Cond.selects RX2 yX2_leastWalk yX2_leastWalk ∈ gtb := mem_g 28 (by decide +kernel) (by decide +kernel)
theorem x_29 : Cond.selects RX2 yX2_usefulCars yX2_usefulCars ∈ gtb := mem_g 29 (by decide +kernel) (by decide +kernel)
theorem x_30 : Cond.selects RX2 yX2_partsAll yX2_partsAll ∈ gtb := mem_g 30 (by decide +kernel) (by decide +kernel)
theorem x_31 : Cond.selects RX1 yX1_latestStart yX1_latestStart ∈ gtb := mem_g 31 (by decide +kernel) (by decide +kernel)
theorem x_32 : Cond.selects RX1 yX1_explains yX1_explains ∈ gtb := mem_g 32 (by decide +kernel) (by decide +kernel)
theorem x_33 : Cond.selects RX1 yX1_isBadStill yX1_isBadStill ∈ gtb := mem_g 33 (by decide +kernel) (by decide +kernel)
theorem x_34 : Cond.selects "java/lang/Throwable" ⟨"java/lang/Throwable", "fillInStackTrace", "(I)Ljava/lang/Throwable;"⟩ ⟨"java/lang/Throwable", "fillInStackTrace", "(I)Ljava/lang/Throwable;"⟩ ∈ gtb := mem_g 34 (by decide +kernel) (by decide +kernel)
theorem x_35 : Cond.selects RX12 yX12_come yX12_come ∈ gtb := mem_g 35 (by decide +kernel) (by decide +kernel)
theorem x_36 : Cond.selects RX12 yX12_lay yX12_lay ∈ gtb := mem_g 36 (by decide +kernel) (by decide +kernel)
theorem x_37 : Cond.selects RX12 yX12_take yX12_take ∈ gtb := mem_g 37 (by decide +kernel) (by decide +kernel)
theorem x_38 : Cond.selects RX12 yX12_go yX12_go ∈ gtb := mem_g 38 (by decide +kernel) (by decide +kernel)
theorem x_39 : Cond.selects RX12 yX12_byteAt yX12_byteAt ∈ gtb := mem_g 39 (by decide +kernel) (by decide +kernel)
theorem x_40 : Cond.selects RX12 yX12_readLine yX12_readLine ∈ gtb := mem_g 40 (by decide +kernel) (by decide +kernel)
theorem x_41 : Cond.selects RX12 yX12_isCar yX12_isCar ∈ gtb := mem_g 41 (by decide +kernel) (by decide +kernel)
theorem x_42 : Cond.selects RX12 yX12_isKey yX12_isKey ∈ gtb := mem_g 42 (by decide +kernel) (by decide +kernel)
theorem x_43 : Cond.selects RX12 yX12_readCar yX12_readCar ∈ gtb := mem_g 43 (by decide +kernel) (by decide +kernel)
theorem x_44 : Cond.selects RX12 yX12_bad yX12_bad ∈ gtb := mem_g 44 (by decide +kernel) (by decide +kernel)
theorem x_45 : Cond.selects RX12 yX12_readNumber yX12_readNumber ∈ gtb := mem_g 45 (by decide +kernel) (by decide +kernel)
theorem x_46 : Cond.selects RX12 yX12_optionAtHand yX12_optionAtHand ∈ gtb := mem_g 46 (by decide +kernel) (by decide +kernel)
theorem x_47 : Cond.selects RX12 yX12_readOption yX12_readOption ∈ gtb := mem_g 47 (by decide +kernel) (by decide +kernel)
theorem x_48 : Cond.selects RX12 yX12_readEnd yX12_readEnd ∈ gtb := mem_g 48 (by decide +kernel) (by decide +kernel)
theorem x_49 : Cond.selects RX12 yX12_isFull yX12_isFull ∈ gtb := mem_g 49 (by decide +kernel) (by decide +kernel)
theorem x_50 : Cond.selects RX12 yX12_isFeed yX12_isFeed ∈ gtb := mem_g 50 (by decide +kernel) (by decide +kernel)
theorem x_51 : Cond.selects RX12 yX12_readStep yX12_readStep ∈ gtb := mem_g 51 (by decide +kernel) (by decide +kernel)
theorem x_52 : Cond.selects RX12 yX12_refuse yX12_refuse ∈ gtb := mem_g 52 (by decide +kernel) (by decide +kernel)
theorem x_53 : Cond.selects RX12 yX12_take_ yX12_take_ ∈ gtb := mem_g 53 (by decide +kernel) (by decide +kernel)
theorem x_54 : Cond.selects RX12 yX12_playTo yX12_playTo ∈ gtb := mem_g 54 (by decide +kernel) (by decide +kernel)
theorem x_55 : Cond.selects RX12 yX12_begin yX12_begin ∈ gtb := mem_g 55 (by decide +kernel) (by decide +kernel)
theorem x_56 : Cond.selects RX12 yX12_tick yX12_tick ∈ gtb := mem_g 56 (by decide +kernel) (by decide +kernel)
theorem x_57 : Cond.selects RX12 yX12_stepAt yX12_stepAt ∈ gtb := mem_g 57 (by decide +kernel) (by decide +kernel)
theorem x_58 : Cond.selects RX12 yX12_act yX12_act ∈ gtb := mem_g 58 (by decide +kernel) (by decide +kernel)
theorem x_59 : Cond.selects RX12 yX12_valve yX12_valve ∈ gtb := mem_g 59 (by decide +kernel) (by decide +kernel)
theorem x_60 : Cond.selects RX12 yX12_span yX12_span ∈ gtb := mem_g 60 (by decide +kernel) (by decide +kernel)
theorem x_61 : Cond.selects RX12 yX12_goOn yX12_goOn ∈ gtb := mem_g 61 (by decide +kernel) (by decide +kernel)
theorem x_62 : Cond.selects RX12 yX12_exchange yX12_exchange ∈ gtb := mem_g 62 (by decide +kernel) (by decide +kernel)
theorem x_63 : Cond.selects RX12 yX12_two yX12_two ∈ gtb := mem_g 63 (by decide +kernel) (by decide +kernel)
theorem x_64 : Cond.selects RX12 yX12_guess yX12_guess ∈ gtb := mem_g 64 (by decide +kernel) (by decide +kernel)
theorem x_65 : Cond.selects RX12 yX12_fitsGauges yX12_fitsGauges ∈ gtb := mem_g 65 (by decide +kernel) (by decide +kernel)
theorem x_66 : Cond.selects RX12 yX12_hotNow yX12_hotNow ∈ gtb := mem_g 66 (by decide +kernel) (by decide +kernel)
theorem x_67 : Cond.selects RX12 yX12_parts yX12_parts ∈ gtb := mem_g 67 (by decide +kernel) (by decide +kernel)
theorem x_68 : Cond.selects RX12 yX12_wagons yX12_wagons ∈ gtb := mem_g 68 (by decide +kernel) (by decide +kernel)
theorem x_69 : Cond.selects RX12 yX12_latest yX12_latest ∈ gtb := mem_g 69 (by decide +kernel) (by decide +kernel)
theorem x_70 : Cond.selects RX12 yX12_makes yX12_makes ∈ gtb := mem_g 70 (by decide +kernel) (by decide +kernel)
theorem x_71 : Cond.initialized "TrainPipeLaw" ∈ gtb := mem_g 71 (by decide +kernel) (by decide +kernel)
theorem x_72 : Cond.initialized RX11 ∈ gtb := mem_g 72 (by decide +kernel) (by decide +kernel)
theorem x_73 : Cond.initialized RX7 ∈ gtb := mem_g 73 (by decide +kernel) (by decide +kernel)
theorem x_74 : Cond.initialized RX8 ∈ gtb := mem_g 74 (by decide +kernel) (by decide +kernel)
theorem x_75 : Cond.initialized RX9 ∈ gtb := mem_g 75 (by decide +kernel) (by decide +kernel)
theorem x_76 : Cond.initialized RX5 ∈ gtb := mem_g 76 (by decide +kernel) (by decide +kernel)
theorem x_77 : Cond.initialized RX3 ∈ gtb := mem_g 77 (by decide +kernel) (by decide +kernel)
theorem x_78 : Cond.initialized RX4 ∈ gtb := mem_g 78 (by decide +kernel) (by decide +kernel)
theorem x_79 : Cond.initialized RX0 ∈ gtb := mem_g 79 (by decide +kernel) (by decide +kernel)
theorem x_80 : Cond.initialized RX6 ∈ gtb := mem_g 80 (by decide +kernel) (by decide +kernel)
theorem x_81 : Cond.initialized RX10 ∈ gtb := mem_g 81 (by decide +kernel) (by decide +kernel)
theorem x_82 : Cond.initialized RX2 ∈ gtb := mem_g 82 (by decide +kernel) (by decide +kernel)
theorem x_83 : Cond.initialized RX1 ∈ gtb := mem_g 83 (by decide +kernel) (by decide +kernel)
theorem x_84 : Cond.initialized RX12 ∈ gtb := mem_g 84 (by decide +kernel) (by decide +kernel)
theorem x_85 : Cond.initialized "java/lang/Math" ∈ gtb := mem_g 85 (by decide +kernel) (by decide +kernel)
theorem x_86 : Cond.initialized "java/lang/String" ∈ gtb := mem_g 86 (by decide +kernel) (by decide +kernel)
theorem x_87 : Cond.initialized "java/lang/StringLatin1" ∈ gtb := mem_g 87 (by decide +kernel) (by decide +kernel)
theorem x_88 : Cond.initialized "jdk/internal/util/Preconditions" ∈ gtb := mem_g 88 (by decide +kernel) (by decide +kernel)
theorem x_89 : Cond.initialized "java/lang/StringUTF16" ∈ gtb := mem_g 89 (by decide +kernel) (by decide +kernel)
theorem x_90 : Cond.initialized "java/lang/System" ∈ gtb := mem_g 90 (by decide +kernel) (by decide +kernel)
theorem x_91 : Cond.initialized "java/lang/Throwable" ∈ gtb := mem_g 91 (by decide +kernel) (by decide +kernel)
theorem x_92 : Cond.initialized "java/lang/Exception" ∈ gtb := mem_g 92 (by decide +kernel) (by decide +kernel)
theorem x_93 : Cond.initialized "java/lang/RuntimeException" ∈ gtb := mem_g 93 (by decide +kernel) (by decide +kernel)
theorem x_94 : Cond.initialized "java/util/NoSuchElementException" ∈ gtb := mem_g 94 (by decide +kernel) (by decide +kernel)
theorem x_95 : Cond.initialized RJ6 ∈ gtb := mem_g 95 (by decide +kernel) (by decide +kernel)
theorem x_98 : Cond.methodLink "TrainPipeLaw" 19 yX11_init ∈ gtb := mem_g 98 (by decide +kernel) (by decide +kernel)
theorem x_99 : Cond.instanceMethod yX11_init ∈ gtb := mem_g 99 (by decide +kernel) (by decide +kernel)
set_option maxRecDepth 100000 in
theorem x_100 : Cond.code yX11_init cX11_init 1 none ∈ gtb := mem_g 100 (by rfl) (by decide +kernel)
theorem x_101 : Cond.methodLink RX11 3 ⟨"java/lang/Object", "<init>", "()V"⟩ ∈ gtb := mem_g 101 (by decide +kernel) (by decide +kernel)
theorem x_102 : Cond.instanceMethod ⟨"java/lang/Object", "<init>", "()V"⟩ ∈ gtb := mem_g 102 (by decide +kernel) (by decide +kernel)
set_option maxRecDepth 100000 in
theorem x_103 : Cond.code ⟨"java/lang/Object", "<init>", "()V"⟩ object_method_1_code 1 none ∈ gtb := mem_g 103 (by rfl) (by decide +kernel)
theorem x_107 : Cond.instanceMethod yX7_init ∈ gtb := mem_g 107 (by decide +kernel) (by decide +kernel)
set_option maxRecDepth 100000 in
theorem x_108 : Cond.code yX7_init cX7_init 1 none ∈ gtb := mem_g 108 (by rfl) (by decide +kernel)
theorem x_109 : Cond.methodLink RX7 3 ⟨"java/lang/Object", "<init>", "()V"⟩ ∈ gtb := mem_g 109 (by decide +kernel) (by decide +kernel)
theorem x_110 : Cond.fieldLink RX7 11 "TrainPipe$Tape" "bytes" "[I" ∈ gtb := mem_g 110 (by decide +kernel) (by decide +kernel)
theorem x_111 : Cond.fieldLink RX8 61 "TrainPipe$Tape" "bytes" "[I" ∈ gtb := mem_g 111 (by decide +kernel) (by decide +kernel)
theorem x_112 : Cond.fieldLink RX7 15 "TrainPipe$Tape" "size" "I" ∈ gtb := mem_g 112 (by decide +kernel) (by decide +kernel)
theorem x_113 : Cond.fieldLink RX2 77 "TrainPipe$Tape" "size" "I" ∈ gtb := mem_g 113 (by decide +kernel) (by decide +kernel)
theorem x_114 : Cond.fieldLink RX1 33 "TrainPipe$Tape" "size" "I" ∈ gtb := mem_g 114 (by decide +kernel) (by decide +kernel)
theorem x_115 : Cond.fieldLink RX8 37 "TrainPipe$Tape" "size" "I" ∈ gtb := mem_g 115 (by decide +kernel) (by decide +kernel)
theorem x_116 : Cond.fieldLink RX11 112 "TrainPipe$Tape" "size" "I" ∈ gtb := mem_g 116 (by decide +kernel) (by decide +kernel)
theorem x_125 : Cond.methodLink RX11 18 yX8_init ∈ gtb := mem_g 125 (by decide +kernel) (by decide +kernel)
theorem x_126 : Cond.instanceMethod yX8_init ∈ gtb := mem_g 126 (by decide +kernel) (by decide +kernel)
set_option maxRecDepth 100000 in
theorem x_127 : Cond.code yX8_init cX8_init 2 none ∈ gtb := mem_g 127 (by rfl) (by decide +kernel)
theorem x_128 : Cond.methodLink RX8 3 ⟨"java/lang/Object", "<init>", "()V"⟩ ∈ gtb := mem_g 128 (by decide +kernel) (by decide +kernel)
theorem x_129 : Cond.fieldLink RX8 33 "TrainPipe$Tokens" "tape" "LTrainPipe$Tape;" ∈ gtb := mem_g 129 (by decide +kernel) (by decide +kernel)
theorem x_130 : Cond.fieldLink RX8 9 "TrainPipe$Tokens" "limit" "I" ∈ gtb := mem_g 130 (by decide +kernel) (by decide +kernel)
theorem x_131 : Cond.fieldLink RX8 15 "TrainPipe$Tokens" "form" "I" ∈ gtb := mem_g 131 (by decide +kernel) (by decide +kernel)
theorem x_132 : Cond.fieldLink RX8 18 "TrainPipe$Tokens" "start" "I" ∈ gtb := mem_g 132 (by decide +kernel) (by decide +kernel)
theorem x_133 : Cond.fieldLink RX8 21 "TrainPipe$Tokens" "stop" "I" ∈ gtb := mem_g 133 (by decide +kernel) (by decide +kernel)
theorem x_134 : Cond.fieldLink RX8 24 "TrainPipe$Tokens" "value" "I" ∈ gtb := mem_g 134 (by decide +kernel) (by decide +kernel)
theorem x_135 : Cond.fieldLink RX8 27 "TrainPipe$Tokens" "fault" "I" ∈ gtb := mem_g 135 (by decide +kernel) (by decide +kernel)
theorem x_136 : Cond.fieldLink RX11 122 "TrainPipe$Tokens" "fault" "I" ∈ gtb := mem_g 136 (by decide +kernel) (by decide +kernel)
theorem x_137 : Cond.fieldLink RX8 30 "TrainPipe$Tokens" "faultPlace" "I" ∈ gtb := mem_g 137 (by decide +kernel) (by decide +kernel)
theorem x_138 : Cond.fieldLink RX11 125 "TrainPipe$Tokens" "faultPlace" "I" ∈ gtb := mem_g 138 (by decide +kernel) (by decide +kernel)
theorem x_158 : Cond.methodLink RX11 27 yX9_init ∈ gtb := mem_g 158 (by decide +kernel) (by decide +kernel)
theorem x_159 : Cond.instanceMethod yX9_init ∈ gtb := mem_g 159 (by decide +kernel) (by decide +kernel)
set_option maxRecDepth 100000 in
theorem x_160 : Cond.code yX9_init cX9_init 2 none ∈ gtb := mem_g 160 (by rfl) (by decide +kernel)
theorem x_161 : Cond.methodLink RX9 3 ⟨"java/lang/Object", "<init>", "()V"⟩ ∈ gtb := mem_g 161 (by decide +kernel) (by decide +kernel)
theorem x_165 : Cond.instanceMethod yX5_init ∈ gtb := mem_g 165 (by decide +kernel) (by decide +kernel)
set_option maxRecDepth 100000 in
theorem x_166 : Cond.code yX5_init cX5_init 1 none ∈ gtb := mem_g 166 (by rfl) (by decide +kernel)
theorem x_167 : Cond.methodLink RX5 3 ⟨"java/lang/Object", "<init>", "()V"⟩ ∈ gtb := mem_g 167 (by decide +kernel) (by decide +kernel)
theorem x_168 : Cond.fieldLink RX5 9 "TrainPipe$Rake" "size" "I" ∈ gtb := mem_g 168 (by decide +kernel) (by decide +kernel)
theorem x_169 : Cond.fieldLink RX9 53 "TrainPipe$Rake" "size" "I" ∈ gtb := mem_g 169 (by decide +kernel) (by decide +kernel)
theorem x_170 : Cond.fieldLink RX2 92 "TrainPipe$Rake" "size" "I" ∈ gtb := mem_g 170 (by decide +kernel) (by decide +kernel)
theorem x_171 : Cond.fieldLink RX0 55 "TrainPipe$Rake" "size" "I" ∈ gtb := mem_g 171 (by decide +kernel) (by decide +kernel)
theorem x_172 : Cond.fieldLink RX6 55 "TrainPipe$Rake" "size" "I" ∈ gtb := mem_g 172 (by decide +kernel) (by decide +kernel)
theorem x_173 : Cond.fieldLink RX10 128 "TrainPipe$Rake" "size" "I" ∈ gtb := mem_g 173 (by decide +kernel) (by decide +kernel)
theorem x_174 : Cond.fieldLink RX11 198 "TrainPipe$Rake" "size" "I" ∈ gtb := mem_g 174 (by decide +kernel) (by decide +kernel)
theorem x_175 : Cond.fieldLink RX5 15 "TrainPipe$Rake" "full" "I" ∈ gtb := mem_g 175 (by decide +kernel) (by decide +kernel)
theorem x_176 : Cond.fieldLink RX0 44 "TrainPipe$Rake" "full" "I" ∈ gtb := mem_g 176 (by decide +kernel) (by decide +kernel)
theorem x_177 : Cond.fieldLink RX9 60 "TrainPipe$Rake" "full" "I" ∈ gtb := mem_g 177 (by decide +kernel) (by decide +kernel)
theorem x_178 : Cond.fieldLink RX5 18 "TrainPipe$Rake" "feed" "I" ∈ gtb := mem_g 178 (by decide +kernel) (by decide +kernel)
theorem x_179 : Cond.fieldLink RX9 63 "TrainPipe$Rake" "feed" "I" ∈ gtb := mem_g 179 (by decide +kernel) (by decide +kernel)
theorem x_180 : Cond.fieldLink RX0 96 "TrainPipe$Rake" "feed" "I" ∈ gtb := mem_g 180 (by decide +kernel) (by decide +kernel)
theorem x_181 : Cond.fieldLink RX5 21 "TrainPipe$Rake" "kind" "[I" ∈ gtb := mem_g 181 (by decide +kernel) (by decide +kernel)
theorem x_182 : Cond.fieldLink RX0 111 "TrainPipe$Rake" "kind" "[I" ∈ gtb := mem_g 182 (by decide +kernel) (by decide +kernel)
theorem x_183 : Cond.fieldLink RX5 25 "TrainPipe$Rake" "weight" "[I" ∈ gtb := mem_g 183 (by decide +kernel) (by decide +kernel)
theorem x_184 : Cond.fieldLink RX5 28 "TrainPipe$Rake" "out" "[I" ∈ gtb := mem_g 184 (by decide +kernel) (by decide +kernel)
theorem x_185 : Cond.fieldLink RX6 58 "TrainPipe$Rake" "out" "[I" ∈ gtb := mem_g 185 (by decide +kernel) (by decide +kernel)
theorem x_186 : Cond.fieldLink RX0 85 "TrainPipe$Rake" "out" "[I" ∈ gtb := mem_g 186 (by decide +kernel) (by decide +kernel)
theorem x_187 : Cond.fieldLink RX10 158 "TrainPipe$Rake" "out" "[I" ∈ gtb := mem_g 187 (by decide +kernel) (by decide +kernel)
theorem x_188 : Cond.fieldLink RX5 31 "TrainPipe$Rake" "keep" "[I" ∈ gtb := mem_g 188 (by decide +kernel) (by decide +kernel)
theorem x_189 : Cond.fieldLink RX0 117 "TrainPipe$Rake" "keep" "[I" ∈ gtb := mem_g 189 (by decide +kernel) (by decide +kernel)
theorem x_190 : Cond.fieldLink RX5 34 "TrainPipe$Rake" "leak" "[I" ∈ gtb := mem_g 190 (by decide +kernel) (by decide +kernel)
theorem x_191 : Cond.fieldLink RX0 82 "TrainPipe$Rake" "leak" "[I" ∈ gtb := mem_g 191 (by decide +kernel) (by decide +kernel)
theorem x_192 : Cond.fieldLink RX5 37 "TrainPipe$Rake" "hose" "[I" ∈ gtb := mem_g 192 (by decide +kernel) (by decide +kernel)
theorem x_193 : Cond.fieldLink RX0 108 "TrainPipe$Rake" "hose" "[I" ∈ gtb := mem_g 193 (by decide +kernel) (by decide +kernel)
theorem x_194 : Cond.fieldLink RX5 40 "TrainPipe$Rake" "stuck" "[I" ∈ gtb := mem_g 194 (by decide +kernel) (by decide +kernel)
theorem x_195 : Cond.fieldLink RX0 114 "TrainPipe$Rake" "stuck" "[I" ∈ gtb := mem_g 195 (by decide +kernel) (by decide +kernel)
theorem x_217 : Cond.fieldLink RX9 25 "TrainPipe$TrainText" "tokens" "LTrainPipe$Tokens;" ∈ gtb := mem_g 217 (by decide +kernel) (by decide +kernel)
theorem x_218 : Cond.fieldLink RX9 12 "TrainPipe$TrainText" "draft" "LTrainPipe$Rake;" ∈ gtb := mem_g 218 (by decide +kernel) (by decide +kernel)
theorem x_219 : Cond.fieldLink RX11 128 "TrainPipe$TrainText" "draft" "LTrainPipe$Rake;" ∈ gtb := mem_g 219 (by decide +kernel) (by decide +kernel)
theorem x_220 : Cond.fieldLink RX9 18 "TrainPipe$TrainText" "fullTold" "I" ∈ gtb := mem_g 220 (by decide +kernel) (by decide +kernel)
theorem x_221 : Cond.fieldLink RX9 22 "TrainPipe$TrainText" "feedTold" "I" ∈ gtb := mem_g 221 (by decide +kernel) (by decide +kernel)
theorem x_233 : Cond.methodLink RX11 36 yX3_init ∈ gtb := mem_g 233 (by decide +kernel) (by decide +kernel)
theorem x_234 : Cond.instanceMethod yX3_init ∈ gtb := mem_g 234 (by decide +kernel) (by decide +kernel)
set_option maxRecDepth 100000 in
theorem x_235 : Cond.code yX3_init cX3_init 2 none ∈ gtb := mem_g 235 (by rfl) (by decide +kernel)
theorem x_236 : Cond.methodLink RX3 3 ⟨"java/lang/Object", "<init>", "()V"⟩ ∈ gtb := mem_g 236 (by decide +kernel) (by decide +kernel)
theorem x_240 : Cond.instanceMethod yX4_init ∈ gtb := mem_g 240 (by decide +kernel) (by decide +kernel)
set_option maxRecDepth 100000 in
theorem x_241 : Cond.code yX4_init cX4_init 1 none ∈ gtb := mem_g 241 (by rfl) (by decide +kernel)
theorem x_242 : Cond.methodLink RX4 3 ⟨"java/lang/Object", "<init>", "()V"⟩ ∈ gtb := mem_g 242 (by decide +kernel) (by decide +kernel)
theorem x_243 : Cond.fieldLink RX4 9 "TrainPipe$Lever" "size" "I" ∈ gtb := mem_g 243 (by decide +kernel) (by decide +kernel)
theorem x_244 : Cond.fieldLink RX3 60 "TrainPipe$Lever" "size" "I" ∈ gtb := mem_g 244 (by decide +kernel) (by decide +kernel)
theorem x_245 : Cond.fieldLink RX11 261 "TrainPipe$Lever" "size" "I" ∈ gtb := mem_g 245 (by decide +kernel) (by decide +kernel)
theorem x_246 : Cond.fieldLink RX4 15 "TrainPipe$Lever" "both" "Z" ∈ gtb := mem_g 246 (by decide +kernel) (by decide +kernel)
theorem x_247 : Cond.fieldLink RX3 44 "TrainPipe$Lever" "both" "Z" ∈ gtb := mem_g 247 (by decide +kernel) (by decide +kernel)
theorem x_248 : Cond.fieldLink RX0 75 "TrainPipe$Lever" "both" "Z" ∈ gtb := mem_g 248 (by decide +kernel) (by decide +kernel)
theorem x_249 : Cond.fieldLink RX4 19 "TrainPipe$Lever" "acts" "[I" ∈ gtb := mem_g 249 (by decide +kernel) (by decide +kernel)
theorem x_250 : Cond.fieldLink RX4 23 "TrainPipe$Lever" "amounts" "[I" ∈ gtb := mem_g 250 (by decide +kernel) (by decide +kernel)
theorem x_251 : Cond.fieldLink RX4 26 "TrainPipe$Lever" "lastTicks" "[I" ∈ gtb := mem_g 251 (by decide +kernel) (by decide +kernel)
theorem x_263 : Cond.fieldLink RX3 18 "TrainPipe$HandleText" "tokens" "LTrainPipe$Tokens;" ∈ gtb := mem_g 263 (by decide +kernel) (by decide +kernel)
theorem x_264 : Cond.fieldLink RX3 12 "TrainPipe$HandleText" "draft" "LTrainPipe$Lever;" ∈ gtb := mem_g 264 (by decide +kernel) (by decide +kernel)
theorem x_265 : Cond.fieldLink RX11 136 "TrainPipe$HandleText" "draft" "LTrainPipe$Lever;" ∈ gtb := mem_g 265 (by decide +kernel) (by decide +kernel)
theorem x_278 : Cond.instanceMethod yX0_init ∈ gtb := mem_g 278 (by decide +kernel) (by decide +kernel)
set_option maxRecDepth 100000 in
theorem x_279 : Cond.code yX0_init cX0_init 1 none ∈ gtb := mem_g 279 (by rfl) (by decide +kernel)
theorem x_280 : Cond.methodLink RX0 3 ⟨"java/lang/Object", "<init>", "()V"⟩ ∈ gtb := mem_g 280 (by decide +kernel) (by decide +kernel)
theorem x_281 : Cond.fieldLink RX0 9 "TrainPipe$Air" "pressure" "[I" ∈ gtb := mem_g 281 (by decide +kernel) (by decide +kernel)
theorem x_282 : Cond.fieldLink RX0 15 "TrainPipe$Air" "before" "[I" ∈ gtb := mem_g 282 (by decide +kernel) (by decide +kernel)
theorem x_283 : Cond.fieldLink RX0 18 "TrainPipe$Air" "tank" "[I" ∈ gtb := mem_g 283 (by decide +kernel) (by decide +kernel)
theorem x_284 : Cond.fieldLink RX0 21 "TrainPipe$Air" "cylinder" "[I" ∈ gtb := mem_g 284 (by decide +kernel) (by decide +kernel)
theorem x_285 : Cond.fieldLink RX6 62 "TrainPipe$Air" "cylinder" "[I" ∈ gtb := mem_g 285 (by decide +kernel) (by decide +kernel)
theorem x_286 : Cond.fieldLink RX0 24 "TrainPipe$Air" "tick" "I" ∈ gtb := mem_g 286 (by decide +kernel) (by decide +kernel)
theorem x_287 : Cond.fieldLink RX0 28 "TrainPipe$Air" "step" "I" ∈ gtb := mem_g 287 (by decide +kernel) (by decide +kernel)
theorem x_288 : Cond.fieldLink RX0 31 "TrainPipe$Air" "dumping" "Z" ∈ gtb := mem_g 288 (by decide +kernel) (by decide +kernel)
theorem x_289 : Cond.fieldLink RX0 35 "TrainPipe$Air" "brokenCell" "I" ∈ gtb := mem_g 289 (by decide +kernel) (by decide +kernel)
theorem x_290 : Cond.fieldLink RX0 38 "TrainPipe$Air" "brokenTick" "I" ∈ gtb := mem_g 290 (by decide +kernel) (by decide +kernel)
theorem x_291 : Cond.fieldLink RX0 41 "TrainPipe$Air" "still" "Z" ∈ gtb := mem_g 291 (by decide +kernel) (by decide +kernel)
theorem x_292 : Cond.fieldLink RX6 33 "TrainPipe$Air" "still" "Z" ∈ gtb := mem_g 292 (by decide +kernel) (by decide +kernel)
theorem x_317 : Cond.instanceMethod yX6_init ∈ gtb := mem_g 317 (by decide +kernel) (by decide +kernel)
set_option maxRecDepth 100000 in
theorem x_318 : Cond.code yX6_init cX6_init 1 none ∈ gtb := mem_g 318 (by rfl) (by decide +kernel)
theorem x_319 : Cond.methodLink RX6 3 ⟨"java/lang/Object", "<init>", "()V"⟩ ∈ gtb := mem_g 319 (by decide +kernel) (by decide +kernel)
theorem x_320 : Cond.fieldLink RX6 9 "TrainPipe$Ride" "grade" "I" ∈ gtb := mem_g 320 (by decide +kernel) (by decide +kernel)
theorem x_321 : Cond.fieldLink RX6 15 "TrainPipe$Ride" "snow" "I" ∈ gtb := mem_g 321 (by decide +kernel) (by decide +kernel)
theorem x_322 : Cond.fieldLink RX6 18 "TrainPipe$Ride" "gain" "I" ∈ gtb := mem_g 322 (by decide +kernel) (by decide +kernel)
theorem x_323 : Cond.fieldLink RX6 21 "TrainPipe$Ride" "way" "I" ∈ gtb := mem_g 323 (by decide +kernel) (by decide +kernel)
theorem x_324 : Cond.fieldLink RX6 24 "TrainPipe$Ride" "speed" "I" ∈ gtb := mem_g 324 (by decide +kernel) (by decide +kernel)
theorem x_325 : Cond.fieldLink RX11 188 "TrainPipe$Ride" "speed" "I" ∈ gtb := mem_g 325 (by decide +kernel) (by decide +kernel)
theorem x_326 : Cond.fieldLink RX6 27 "TrainPipe$Ride" "ticks" "I" ∈ gtb := mem_g 326 (by decide +kernel) (by decide +kernel)
theorem x_327 : Cond.fieldLink RX11 182 "TrainPipe$Ride" "ticks" "I" ∈ gtb := mem_g 327 (by decide +kernel) (by decide +kernel)
theorem x_328 : Cond.fieldLink RX6 30 "TrainPipe$Ride" "fastest" "I" ∈ gtb := mem_g 328 (by decide +kernel) (by decide +kernel)
theorem x_329 : Cond.fieldLink RX11 185 "TrainPipe$Ride" "fastest" "I" ∈ gtb := mem_g 329 (by decide +kernel) (by decide +kernel)
theorem x_347 : Cond.methodLink RX11 71 yX10_init ∈ gtb := mem_g 347 (by decide +kernel) (by decide +kernel)
theorem x_348 : Cond.instanceMethod yX10_init ∈ gtb := mem_g 348 (by decide +kernel) (by decide +kernel)
set_option maxRecDepth 100000 in
theorem x_349 : Cond.code yX10_init cX10_init 3 none ∈ gtb := mem_g 349 (by rfl) (by decide +kernel)
theorem x_350 : Cond.methodLink RX10 3 ⟨"java/lang/Object", "<init>", "()V"⟩ ∈ gtb := mem_g 350 (by decide +kernel) (by decide +kernel)
theorem x_357 : Cond.fieldLink RX10 61 "TrainPipe$Trials" "told" "LTrainPipe$Rake;" ∈ gtb := mem_g 357 (by decide +kernel) (by decide +kernel)
theorem x_358 : Cond.fieldLink RX10 64 "TrainPipe$Trials" "lever" "LTrainPipe$Lever;" ∈ gtb := mem_g 358 (by decide +kernel) (by decide +kernel)
theorem x_359 : Cond.fieldLink RX10 12 "TrainPipe$Trials" "bent" "LTrainPipe$Rake;" ∈ gtb := mem_g 359 (by decide +kernel) (by decide +kernel)
theorem x_360 : Cond.fieldLink RX10 21 "TrainPipe$Trials" "air" "LTrainPipe$Air;" ∈ gtb := mem_g 360 (by decide +kernel) (by decide +kernel)
theorem x_361 : Cond.fieldLink RX10 25 "TrainPipe$Trials" "baseAir" "LTrainPipe$Air;" ∈ gtb := mem_g 361 (by decide +kernel) (by decide +kernel)
theorem x_362 : Cond.fieldLink RX10 31 "TrainPipe$Trials" "ride" "LTrainPipe$Ride;" ∈ gtb := mem_g 362 (by decide +kernel) (by decide +kernel)
theorem x_363 : Cond.fieldLink RX10 35 "TrainPipe$Trials" "baseRide" "LTrainPipe$Ride;" ∈ gtb := mem_g 363 (by decide +kernel) (by decide +kernel)
theorem x_364 : Cond.fieldLink RX10 38 "TrainPipe$Trials" "tried" "[I" ∈ gtb := mem_g 364 (by decide +kernel) (by decide +kernel)
theorem x_365 : Cond.fieldLink RX10 42 "TrainPipe$Trials" "best" "[I" ∈ gtb := mem_g 365 (by decide +kernel) (by decide +kernel)
theorem x_366 : Cond.fieldLink RX10 45 "TrainPipe$Trials" "bestSize" "I" ∈ gtb := mem_g 366 (by decide +kernel) (by decide +kernel)
theorem x_367 : Cond.fieldLink RX10 49 "TrainPipe$Trials" "braked" "[I" ∈ gtb := mem_g 367 (by decide +kernel) (by decide +kernel)
theorem x_368 : Cond.fieldLink RX10 52 "TrainPipe$Trials" "grade" "I" ∈ gtb := mem_g 368 (by decide +kernel) (by decide +kernel)
theorem x_369 : Cond.fieldLink RX10 55 "TrainPipe$Trials" "speed" "I" ∈ gtb := mem_g 369 (by decide +kernel) (by decide +kernel)
theorem x_370 : Cond.fieldLink RX10 58 "TrainPipe$Trials" "snow" "I" ∈ gtb := mem_g 370 (by decide +kernel) (by decide +kernel)
theorem x_402 : Cond.methodLink RX11 80 yX2_init ∈ gtb := mem_g 402 (by decide +kernel) (by decide +kernel)
theorem x_403 : Cond.instanceMethod yX2_init ∈ gtb := mem_g 403 (by decide +kernel) (by decide +kernel)
set_option maxRecDepth 100000 in
theorem x_404 : Cond.code yX2_init cX2_init 3 none ∈ gtb := mem_g 404 (by rfl) (by decide +kernel)
theorem x_405 : Cond.methodLink RX2 5 ⟨"java/lang/Object", "<init>", "()V"⟩ ∈ gtb := mem_g 405 (by decide +kernel) (by decide +kernel)
theorem x_410 : Cond.fieldLink RX2 70 "TrainPipe$Guesses" "told" "LTrainPipe$Rake;" ∈ gtb := mem_g 410 (by decide +kernel) (by decide +kernel)
theorem x_411 : Cond.fieldLink RX2 73 "TrainPipe$Guesses" "lever" "LTrainPipe$Lever;" ∈ gtb := mem_g 411 (by decide +kernel) (by decide +kernel)
theorem x_412 : Cond.fieldLink RX2 14 "TrainPipe$Guesses" "bent" "LTrainPipe$Rake;" ∈ gtb := mem_g 412 (by decide +kernel) (by decide +kernel)
theorem x_413 : Cond.fieldLink RX2 21 "TrainPipe$Guesses" "air" "LTrainPipe$Air;" ∈ gtb := mem_g 413 (by decide +kernel) (by decide +kernel)
theorem x_414 : Cond.fieldLink RX2 25 "TrainPipe$Guesses" "gaugeTick" "[I" ∈ gtb := mem_g 414 (by decide +kernel) (by decide +kernel)
theorem x_415 : Cond.fieldLink RX2 29 "TrainPipe$Guesses" "gaugeFront" "[I" ∈ gtb := mem_g 415 (by decide +kernel) (by decide +kernel)
theorem x_416 : Cond.fieldLink RX2 32 "TrainPipe$Guesses" "gaugeBack" "[I" ∈ gtb := mem_g 416 (by decide +kernel) (by decide +kernel)
theorem x_417 : Cond.fieldLink RX2 35 "TrainPipe$Guesses" "gauges" "I" ∈ gtb := mem_g 417 (by decide +kernel) (by decide +kernel)
theorem x_418 : Cond.fieldLink RX2 39 "TrainPipe$Guesses" "greatestTick" "I" ∈ gtb := mem_g 418 (by decide +kernel) (by decide +kernel)
theorem x_419 : Cond.fieldLink RX2 42 "TrainPipe$Guesses" "fitting" "[I" ∈ gtb := mem_g 419 (by decide +kernel) (by decide +kernel)
theorem x_420 : Cond.fieldLink RX2 45 "TrainPipe$Guesses" "fittingSize" "I" ∈ gtb := mem_g 420 (by decide +kernel) (by decide +kernel)
theorem x_421 : Cond.fieldLink RX2 48 "TrainPipe$Guesses" "fittedCars" "I" ∈ gtb := mem_g 421 (by decide +kernel) (by decide +kernel)
theorem x_422 : Cond.fieldLink RX2 51 "TrainPipe$Guesses" "hotSets" "[I" ∈ gtb := mem_g 422 (by decide +kernel) (by decide +kernel)
theorem x_423 : Cond.fieldLink RX2 54 "TrainPipe$Guesses" "hotTimes" "[I" ∈ gtb := mem_g 423 (by decide +kernel) (by decide +kernel)
theorem x_424 : Cond.fieldLink RX2 57 "TrainPipe$Guesses" "hotSize" "I" ∈ gtb := mem_g 424 (by decide +kernel) (by decide +kernel)
theorem x_425 : Cond.fieldLink RX2 60 "TrainPipe$Guesses" "hasWalked" "Z" ∈ gtb := mem_g 425 (by decide +kernel) (by decide +kernel)
theorem x_426 : Cond.fieldLink RX11 231 "TrainPipe$Guesses" "hasWalked" "Z" ∈ gtb := mem_g 426 (by decide +kernel) (by decide +kernel)
theorem x_427 : Cond.fieldLink RX2 64 "TrainPipe$Guesses" "walkSet" "I" ∈ gtb := mem_g 427 (by decide +kernel) (by decide +kernel)
theorem x_428 : Cond.fieldLink RX11 234 "TrainPipe$Guesses" "walkSet" "I" ∈ gtb := mem_g 428 (by decide +kernel) (by decide +kernel)
theorem x_429 : Cond.fieldLink RX2 67 "TrainPipe$Guesses" "unparted" "I" ∈ gtb := mem_g 429 (by decide +kernel) (by decide +kernel)
theorem x_430 : Cond.fieldLink RX11 237 "TrainPipe$Guesses" "unparted" "I" ∈ gtb := mem_g 430 (by decide +kernel) (by decide +kernel)
theorem x_471 : Cond.instanceMethod yX1_init ∈ gtb := mem_g 471 (by decide +kernel) (by decide +kernel)
set_option maxRecDepth 100000 in
theorem x_472 : Cond.code yX1_init cX1_init 1 none ∈ gtb := mem_g 472 (by rfl) (by decide +kernel)
theorem x_473 : Cond.methodLink RX1 3 ⟨"java/lang/Object", "<init>", "()V"⟩ ∈ gtb := mem_g 473 (by decide +kernel) (by decide +kernel)
theorem x_474 : Cond.fieldLink RX1 9 "TrainPipe$Book" "days" "I" ∈ gtb := mem_g 474 (by decide +kernel) (by decide +kernel)
theorem x_475 : Cond.fieldLink RX11 262 "TrainPipe$Book" "days" "I" ∈ gtb := mem_g 475 (by decide +kernel) (by decide +kernel)
theorem x_476 : Cond.fieldLink RX1 15 "TrainPipe$Book" "rows" "[J" ∈ gtb := mem_g 476 (by decide +kernel) (by decide +kernel)
theorem x_477 : Cond.fieldLink RX1 19 "TrainPipe$Book" "mends" "[J" ∈ gtb := mem_g 477 (by decide +kernel) (by decide +kernel)
theorem x_478 : Cond.fieldLink RX1 22 "TrainPipe$Book" "hots" "[Z" ∈ gtb := mem_g 478 (by decide +kernel) (by decide +kernel)
theorem x_479 : Cond.fieldLink RX1 26 "TrainPipe$Book" "found" "[I" ∈ gtb := mem_g 479 (by decide +kernel) (by decide +kernel)
theorem x_480 : Cond.fieldLink RX1 30 "TrainPipe$Book" "foundSize" "I" ∈ gtb := mem_g 480 (by decide +kernel) (by decide +kernel)
theorem x_496 : Cond.methodLink RX11 100 yX5_addCar ∈ gtb := mem_g 496 (by decide +kernel) (by decide +kernel)
theorem x_497 : Cond.instanceMethod yX5_addCar ∈ gtb := mem_g 497 (by decide +kernel) (by decide +kernel)
theorem x_498 : Cond.selects RX5 yX5_addCar yX5_addCar ∈ gtb := mem_g 498 (by decide +kernel) (by decide +kernel)
set_option maxRecDepth 100000 in
theorem x_499 : Cond.code yX5_addCar cX5_addCar 3 none ∈ gtb := mem_g 499 (by rfl) (by decide +kernel)
theorem x_500 : Cond.fieldLink RX11 12 "TrainPipe" "tape" "LTrainPipe$Tape;" ∈ gtb := mem_g 500 (by decide +kernel) (by decide +kernel)
theorem x_501 : Cond.fieldLink RX11 21 "TrainPipe" "tokens" "LTrainPipe$Tokens;" ∈ gtb := mem_g 501 (by decide +kernel) (by decide +kernel)
theorem x_502 : Cond.fieldLink RX11 30 "TrainPipe" "trainText" "LTrainPipe$TrainText;" ∈ gtb := mem_g 502 (by decide +kernel) (by decide +kernel)
theorem x_503 : Cond.fieldLink RX11 37 "TrainPipe" "handleText" "LTrainPipe$HandleText;" ∈ gtb := mem_g 503 (by decide +kernel) (by decide +kernel)
theorem x_504 : Cond.fieldLink RX11 44 "TrainPipe" "rake" "LTrainPipe$Rake;" ∈ gtb := mem_g 504 (by decide +kernel) (by decide +kernel)
theorem x_505 : Cond.fieldLink RX11 51 "TrainPipe" "lever" "LTrainPipe$Lever;" ∈ gtb := mem_g 505 (by decide +kernel) (by decide +kernel)
theorem x_506 : Cond.fieldLink RX11 58 "TrainPipe" "air" "LTrainPipe$Air;" ∈ gtb := mem_g 506 (by decide +kernel) (by decide +kernel)
theorem x_507 : Cond.fieldLink RX11 65 "TrainPipe" "ride" "LTrainPipe$Ride;" ∈ gtb := mem_g 507 (by decide +kernel) (by decide +kernel)
theorem x_508 : Cond.fieldLink RX11 74 "TrainPipe" "trials" "LTrainPipe$Trials;" ∈ gtb := mem_g 508 (by decide +kernel) (by decide +kernel)
theorem x_509 : Cond.fieldLink RX11 81 "TrainPipe" "guesses" "LTrainPipe$Guesses;" ∈ gtb := mem_g 509 (by decide +kernel) (by decide +kernel)
theorem x_510 : Cond.fieldLink RX11 88 "TrainPipe" "book" "LTrainPipe$Book;" ∈ gtb := mem_g 510 (by decide +kernel) (by decide +kernel)
theorem x_511 : Cond.fieldLink RX11 92 "TrainPipe" "latestFault" "I" ∈ gtb := mem_g 511 (by decide +kernel) (by decide +kernel)
theorem x_512 : Cond.fieldLink RX11 96 "TrainPipe" "hasRun" "Z" ∈ gtb := mem_g 512 (by decide +kernel) (by decide +kernel)
theorem x_540 : Cond.methodLink "TrainPipeLaw" 23 yX11_feed ∈ gtb := mem_g 540 (by decide +kernel) (by decide +kernel)
theorem x_541 : Cond.instanceMethod yX11_feed ∈ gtb := mem_g 541 (by decide +kernel) (by decide +kernel)
theorem x_542 : Cond.selects RX11 yX11_feed yX11_feed ∈ gtb := mem_g 542 (by decide +kernel) (by decide +kernel)
set_option maxRecDepth 100000 in
theorem x_543 : Cond.code yX11_feed cX11_feed 6 (some .int) ∈ gtb := mem_g 543 (by rfl) (by decide +kernel)
theorem x_544 : Cond.methodLink RX11 104 yX7_hasRoom ∈ gtb := mem_g 544 (by decide +kernel) (by decide +kernel)
theorem x_545 : Cond.instanceMethod yX7_hasRoom ∈ gtb := mem_g 545 (by decide +kernel) (by decide +kernel)
theorem x_546 : Cond.selects RX7 yX7_hasRoom yX7_hasRoom ∈ gtb := mem_g 546 (by decide +kernel) (by decide +kernel)
set_option maxRecDepth 100000 in
theorem x_547 : Cond.code yX7_hasRoom cX7_hasRoom 2 (some .boolean) ∈ gtb := mem_g 547 (by rfl) (by decide +kernel)
theorem x_548 : Cond.methodLink RX11 108 yX7_putNumber ∈ gtb := mem_g 548 (by decide +kernel) (by decide +kernel)
theorem x_549 : Cond.instanceMethod yX7_putNumber ∈ gtb := mem_g 549 (by decide +kernel) (by decide +kernel)
theorem x_550 : Cond.selects RX7 yX7_putNumber yX7_putNumber ∈ gtb := mem_g 550 (by decide +kernel) (by decide +kernel)
set_option maxRecDepth 100000 in
theorem x_551 : Cond.code yX7_putNumber cX7_putNumber 3 none ∈ gtb := mem_g 551 (by rfl) (by decide +kernel)
theorem x_552 : Cond.methodLink "TrainPipeLaw" 28 yX11_end ∈ gtb := mem_g 552 (by decide +kernel) (by decide +kernel)
theorem x_553 : Cond.instanceMethod yX11_end ∈ gtb := mem_g 553 (by decide +kernel) (by decide +kernel)
theorem x_554 : Cond.selects RX11 yX11_end yX11_end ∈ gtb := mem_g 554 (by decide +kernel) (by decide +kernel)
set_option maxRecDepth 100000 in
theorem x_555 : Cond.code yX11_end cX11_end 2 (some .boolean) ∈ gtb := mem_g 555 (by rfl) (by decide +kernel)
theorem x_556 : Cond.methodLink RX11 115 yX7_keepFirst ∈ gtb := mem_g 556 (by decide +kernel) (by decide +kernel)
theorem x_557 : Cond.instanceMethod yX7_keepFirst ∈ gtb := mem_g 557 (by decide +kernel) (by decide +kernel)
theorem x_558 : Cond.selects RX7 yX7_keepFirst yX7_keepFirst ∈ gtb := mem_g 558 (by decide +kernel) (by decide +kernel)
set_option maxRecDepth 100000 in
theorem x_559 : Cond.code yX7_keepFirst cX7_keepFirst 2 (some .boolean) ∈ gtb := mem_g 559 (by rfl) (by decide +kernel)
theorem x_560 : Cond.methodLink "TrainPipeLaw" 33 yX11_train ∈ gtb := mem_g 560 (by decide +kernel) (by decide +kernel)
theorem x_561 : Cond.instanceMethod yX11_train ∈ gtb := mem_g 561 (by decide +kernel) (by decide +kernel)
theorem x_562 : Cond.selects RX11 yX11_train yX11_train ∈ gtb := mem_g 562 (by decide +kernel) (by decide +kernel)
set_option maxRecDepth 100000 in
theorem x_563 : Cond.code yX11_train cX11_train 2 (some .int) ∈ gtb := mem_g 563 (by rfl) (by decide +kernel)
theorem x_564 : Cond.methodLink RX11 118 yX9_readTape ∈ gtb := mem_g 564 (by decide +kernel) (by decide +kernel)
theorem x_565 : Cond.instanceMethod yX9_readTape ∈ gtb := mem_g 565 (by decide +kernel) (by decide +kernel)
theorem x_566 : Cond.selects RX9 yX9_readTape yX9_readTape ∈ gtb := mem_g 566 (by decide +kernel) (by decide +kernel)
set_option maxRecDepth 100000 in
theorem x_567 : Cond.code yX9_readTape cX9_readTape 2 (some .int) ∈ gtb := mem_g 567 (by rfl) (by decide +kernel)
theorem x_568 : Cond.methodLink RX9 29 yX5_clear ∈ gtb := mem_g 568 (by decide +kernel) (by decide +kernel)
theorem x_569 : Cond.instanceMethod yX5_clear ∈ gtb := mem_g 569 (by decide +kernel) (by decide +kernel)
theorem x_570 : Cond.selects RX5 yX5_clear yX5_clear ∈ gtb := mem_g 570 (by decide +kernel) (by decide +kernel)
set_option maxRecDepth 100000 in
theorem x_571 : Cond.code yX5_clear cX5_clear 1 none ∈ gtb := mem_g 571 (by rfl) (by decide +kernel)
theorem x_572 : Cond.methodLink RX9 32 yX8_open ∈ gtb := mem_g 572 (by decide +kernel) (by decide +kernel)
theorem x_573 : Cond.instanceMethod yX8_open ∈ gtb := mem_g 573 (by decide +kernel) (by decide +kernel)
theorem x_574 : Cond.selects RX8 yX8_open yX8_open ∈ gtb := mem_g 574 (by decide +kernel) (by decide +kernel)
set_option maxRecDepth 100000 in
theorem x_575 : Cond.code yX8_open cX8_open 2 none ∈ gtb := mem_g 575 (by rfl) (by decide +kernel)
theorem x_576 : Cond.methodLink RX8 42 ⟨"java/lang/Math", "min", "(II)I"⟩ ∈ gtb := mem_g 576 (by decide +kernel) (by decide +kernel)
theorem x_577 : Cond.static ⟨"java/lang/Math", "min", "(II)I"⟩ ∈ gtb := mem_g 577 (by decide +kernel) (by decide +kernel)
set_option maxRecDepth 100000 in
theorem x_578 : Cond.code ⟨"java/lang/Math", "min", "(II)I"⟩ prog_20_method_69_code 2 (some .int) ∈ gtb := mem_g 578 (by rfl) (by decide +kernel)
theorem x_579 : Cond.methodLink RX8 48 yX8_read ∈ gtb := mem_g 579 (by decide +kernel) (by decide +kernel)
theorem x_580 : Cond.instanceMethod yX8_read ∈ gtb := mem_g 580 (by decide +kernel) (by decide +kernel)
theorem x_581 : Cond.selects RX8 yX8_read yX8_read ∈ gtb := mem_g 581 (by decide +kernel) (by decide +kernel)
set_option maxRecDepth 100000 in
theorem x_582 : Cond.code yX8_read cX8_read 1 none ∈ gtb := mem_g 582 (by rfl) (by decide +kernel)
theorem x_583 : Cond.methodLink RX8 51 yX7_byteAt ∈ gtb := mem_g 583 (by decide +kernel) (by decide +kernel)
theorem x_584 : Cond.instanceMethod yX7_byteAt ∈ gtb := mem_g 584 (by decide +kernel) (by decide +kernel)
theorem x_585 : Cond.selects RX7 yX7_byteAt yX7_byteAt ∈ gtb := mem_g 585 (by decide +kernel) (by decide +kernel)
set_option maxRecDepth 100000 in
theorem x_586 : Cond.code yX7_byteAt cX7_byteAt 2 (some .int) ∈ gtb := mem_g 586 (by rfl) (by decide +kernel)
theorem x_587 : Cond.methodLink RX8 55 yX8_readSigns ∈ gtb := mem_g 587 (by decide +kernel) (by decide +kernel)
theorem x_589 : Cond.instanceMethod yX8_readSigns ∈ gtb := mem_g 589 (by decide +kernel) (by decide +kernel)
set_option maxRecDepth 100000 in
theorem x_590 : Cond.code yX8_readSigns cX8_readSigns 4 none ∈ gtb := mem_g 590 (by rfl) (by decide +kernel)
theorem x_591 : Cond.methodLink RX8 58 ⟨"java/lang/Math", "max", "(II)I"⟩ ∈ gtb := mem_g 591 (by decide +kernel) (by decide +kernel)
theorem x_592 : Cond.static ⟨"java/lang/Math", "max", "(II)I"⟩ ∈ gtb := mem_g 592 (by decide +kernel) (by decide +kernel)
set_option maxRecDepth 100000 in
theorem x_593 : Cond.code ⟨"java/lang/Math", "max", "(II)I"⟩ prog_20_method_65_code 2 (some .int) ∈ gtb := mem_g 593 (by rfl) (by decide +kernel)
theorem x_594 : Cond.methodLink RX9 40 yX8_atEnd ∈ gtb := mem_g 594 (by decide +kernel) (by decide +kernel)
theorem x_595 : Cond.instanceMethod yX8_atEnd ∈ gtb := mem_g 595 (by decide +kernel) (by decide +kernel)
theorem x_596 : Cond.selects RX8 yX8_atEnd yX8_atEnd ∈ gtb := mem_g 596 (by decide +kernel) (by decide +kernel)
set_option maxRecDepth 100000 in
theorem x_597 : Cond.code yX8_atEnd cX8_atEnd 1 (some .boolean) ∈ gtb := mem_g 597 (by rfl) (by decide +kernel)
theorem x_598 : Cond.methodLink RX9 44 yX9_readLine ∈ gtb := mem_g 598 (by decide +kernel) (by decide +kernel)
theorem x_600 : Cond.instanceMethod yX9_readLine ∈ gtb := mem_g 600 (by decide +kernel) (by decide +kernel)
set_option maxRecDepth 100000 in
theorem x_601 : Cond.code yX9_readLine cX9_readLine 1 (some .boolean) ∈ gtb := mem_g 601 (by rfl) (by decide +kernel)
theorem x_603 : Cond.methodLink RX9 67 yX8_isWord ∈ gtb := mem_g 603 (by decide +kernel) (by decide +kernel)
theorem x_604 : Cond.instanceMethod yX8_isWord ∈ gtb := mem_g 604 (by decide +kernel) (by decide +kernel)
theorem x_605 : Cond.selects RX8 yX8_isWord yX8_isWord ∈ gtb := mem_g 605 (by decide +kernel) (by decide +kernel)
set_option maxRecDepth 100000 in
theorem x_606 : Cond.code yX8_isWord cX8_isWord 3 (some .boolean) ∈ gtb := mem_g 606 (by rfl) (by decide +kernel)
theorem x_607 : Cond.methodLink RX8 65 ⟨"java/lang/String", "length", "()I"⟩ ∈ gtb := mem_g 607 (by decide +kernel) (by decide +kernel)
theorem x_608 : Cond.instanceMethod ⟨"java/lang/String", "length", "()I"⟩ ∈ gtb := mem_g 608 (by decide +kernel) (by decide +kernel)
theorem x_609 : Cond.selects "java/lang/String" ⟨"java/lang/String", "length", "()I"⟩ ⟨"java/lang/String", "length", "()I"⟩ ∈ gtb := mem_g 609 (by decide +kernel) (by decide +kernel)
set_option maxRecDepth 100000 in
theorem x_610 : Cond.code ⟨"java/lang/String", "length", "()I"⟩ prog_22_method_54_code 1 (some .int) ∈ gtb := mem_g 610 (by rfl) (by decide +kernel)
theorem x_611 : Cond.methodLink "java/lang/String" 335 ⟨"java/lang/String", "coder", "()B"⟩ ∈ gtb := mem_g 611 (by decide +kernel) (by decide +kernel)
theorem x_612 : Cond.instanceMethod ⟨"java/lang/String", "coder", "()B"⟩ ∈ gtb := mem_g 612 (by decide +kernel) (by decide +kernel)
theorem x_613 : Cond.selects "java/lang/String" ⟨"java/lang/String", "coder", "()B"⟩ ⟨"java/lang/String", "coder", "()B"⟩ ∈ gtb := mem_g 613 (by decide +kernel) (by decide +kernel)
theorem x_615 : Cond.fieldLink "java/lang/String" 38 "java/lang/String" "COMPACT_STRINGS" "Z" ∈ gtb := mem_g 615 (by decide +kernel) (by decide +kernel)
theorem x_617 : Cond.methodLink RX8 71 ⟨"java/lang/String", "charAt", "(I)C"⟩ ∈ gtb := mem_g 617 (by decide +kernel) (by decide +kernel)
theorem x_618 : Cond.instanceMethod ⟨"java/lang/String", "charAt", "(I)C"⟩ ∈ gtb := mem_g 618 (by decide +kernel) (by decide +kernel)
theorem x_619 : Cond.selects "java/lang/String" ⟨"java/lang/String", "charAt", "(I)C"⟩ ⟨"java/lang/String", "charAt", "(I)C"⟩ ∈ gtb := mem_g 619 (by decide +kernel) (by decide +kernel)
theorem x_621 : Cond.methodLink "java/lang/String" 492 ⟨"java/lang/String", "isLatin1", "()Z"⟩ ∈ gtb := mem_g 621 (by decide +kernel) (by decide +kernel)
theorem x_622 : Cond.instanceMethod ⟨"java/lang/String", "isLatin1", "()Z"⟩ ∈ gtb := mem_g 622 (by decide +kernel) (by decide +kernel)
theorem x_623 : Cond.selects "java/lang/String" ⟨"java/lang/String", "isLatin1", "()Z"⟩ ⟨"java/lang/String", "isLatin1", "()Z"⟩ ∈ gtb := mem_g 623 (by decide +kernel) (by decide +kernel)
set_option maxRecDepth 100000 in
theorem x_624 : Cond.code ⟨"java/lang/String", "isLatin1", "()Z"⟩ prog_22_method_154_code 1 (some .boolean) ∈ gtb := mem_g 624 (by rfl) (by decide +kernel)
theorem x_625 : Cond.methodLink "java/lang/String" 495 ⟨"java/lang/StringLatin1", "charAt", "([BI)C"⟩ ∈ gtb := mem_g 625 (by decide +kernel) (by decide +kernel)
theorem x_626 : Cond.static ⟨"java/lang/StringLatin1", "charAt", "([BI)C"⟩ ∈ gtb := mem_g 626 (by decide +kernel) (by decide +kernel)
theorem x_628 : Cond.methodLink "java/lang/StringLatin1" 9 ⟨"java/lang/String", "checkIndex", "(II)V"⟩ ∈ gtb := mem_g 628 (by decide +kernel) (by decide +kernel)
theorem x_629 : Cond.static ⟨"java/lang/String", "checkIndex", "(II)V"⟩ ∈ gtb := mem_g 629 (by decide +kernel) (by decide +kernel)
set_option maxRecDepth 100000 in
theorem x_630 : Cond.code ⟨"java/lang/String", "checkIndex", "(II)V"⟩ prog_22_method_155_code 2 none ∈ gtb := mem_g 630 (by rfl) (by decide +kernel)
theorem x_631 : Cond.fieldLink "java/lang/String" 1053 "jdk/internal/util/Preconditions" "SIOOBE_FORMATTER" "Ljava/util/function/BiFunction;" ∈ gtb := mem_g 631 (by decide +kernel) (by decide +kernel)
theorem x_633 : Cond.methodLink "java/lang/String" 1059 ⟨"jdk/internal/util/Preconditions", "checkIndex", "(IILjava/util/function/BiFunction;)I"⟩ ∈ gtb := mem_g 633 (by decide +kernel) (by decide +kernel)
theorem x_634 : Cond.static ⟨"jdk/internal/util/Preconditions", "checkIndex", "(IILjava/util/function/BiFunction;)I"⟩ ∈ gtb := mem_g 634 (by decide +kernel) (by decide +kernel)
set_option maxRecDepth 100000 in
theorem x_635 : Cond.code ⟨"jdk/internal/util/Preconditions", "checkIndex", "(IILjava/util/function/BiFunction;)I"⟩ prog_30_method_11_code 3 (some .int) ∈ gtb := mem_g 635 (by rfl) (by decide +kernel)
theorem x_636 : Cond.methodLink "java/lang/String" 498 ⟨"java/lang/StringUTF16", "charAt", "([BI)C"⟩ ∈ gtb := mem_g 636 (by decide +kernel) (by decide +kernel)
theorem x_637 : Cond.static ⟨"java/lang/StringUTF16", "charAt", "([BI)C"⟩ ∈ gtb := mem_g 637 (by decide +kernel) (by decide +kernel)
theorem x_639 : Cond.methodLink "java/lang/StringUTF16" 67 ⟨"java/lang/StringUTF16", "checkIndex", "(I[B)V"⟩ ∈ gtb := mem_g 639 (by decide +kernel) (by decide +kernel)
theorem x_640 : Cond.static ⟨"java/lang/StringUTF16", "checkIndex", "(I[B)V"⟩ ∈ gtb := mem_g 640 (by decide +kernel) (by decide +kernel)
set_option maxRecDepth 100000 in
theorem x_641 : Cond.code ⟨"java/lang/StringUTF16", "checkIndex", "(I[B)V"⟩ prog_24_method_91_code 2 none ∈ gtb := mem_g 641 (by rfl) (by decide +kernel)
theorem x_642 : Cond.methodLink "java/lang/StringUTF16" 48 ⟨"java/lang/StringUTF16", "length", "([B)I"⟩ ∈ gtb := mem_g 642 (by decide +kernel) (by decide +kernel)
theorem x_643 : Cond.static ⟨"java/lang/StringUTF16", "length", "([B)I"⟩ ∈ gtb := mem_g 643 (by decide +kernel) (by decide +kernel)
set_option maxRecDepth 100000 in
theorem x_644 : Cond.code ⟨"java/lang/StringUTF16", "length", "([B)I"⟩ prog_24_method_6_code 1 (some .int) ∈ gtb := mem_g 644 (by rfl) (by decide +kernel)
theorem x_645 : Cond.methodLink "java/lang/StringUTF16" 414 ⟨"java/lang/String", "checkIndex", "(II)V"⟩ ∈ gtb := mem_g 645 (by decide +kernel) (by decide +kernel)
theorem x_646 : Cond.methodLink "java/lang/StringUTF16" 71 ⟨"java/lang/StringUTF16", "getChar", "([BI)C"⟩ ∈ gtb := mem_g 646 (by decide +kernel) (by decide +kernel)
theorem x_647 : Cond.static ⟨"java/lang/StringUTF16", "getChar", "([BI)C"⟩ ∈ gtb := mem_g 647 (by decide +kernel) (by decide +kernel)
theorem x_649 : Cond.fieldLink "java/lang/StringUTF16" 44 "java/lang/StringUTF16" "$assertionsDisabled" "Z" ∈ gtb := mem_g 649 (by decide +kernel) (by decide +kernel)
theorem x_651 : Cond.fieldLink "java/lang/StringUTF16" 59 "java/lang/StringUTF16" "HI_BYTE_SHIFT" "I" ∈ gtb := mem_g 651 (by decide +kernel) (by decide +kernel)
theorem x_653 : Cond.fieldLink "java/lang/StringUTF16" 63 "java/lang/StringUTF16" "LO_BYTE_SHIFT" "I" ∈ gtb := mem_g 653 (by decide +kernel) (by decide +kernel)
theorem x_655 : Cond.methodLink RX9 71 yX9_takeOnce ∈ gtb := mem_g 655 (by decide +kernel) (by decide +kernel)
theorem x_657 : Cond.instanceMethod yX9_takeOnce ∈ gtb := mem_g 657 (by decide +kernel) (by decide +kernel)
set_option maxRecDepth 100000 in
theorem x_658 : Cond.code yX9_takeOnce cX9_takeOnce 4 (some .int) ∈ gtb := mem_g 658 (by rfl) (by decide +kernel)
theorem x_659 : Cond.methodLink RX9 56 yX8_refuse ∈ gtb := mem_g 659 (by decide +kernel) (by decide +kernel)
theorem x_660 : Cond.instanceMethod yX8_refuse ∈ gtb := mem_g 660 (by decide +kernel) (by decide +kernel)
theorem x_661 : Cond.selects RX8 yX8_refuse yX8_refuse ∈ gtb := mem_g 661 (by decide +kernel) (by decide +kernel)
set_option maxRecDepth 100000 in
theorem x_662 : Cond.code yX8_refuse cX8_refuse 2 (some .boolean) ∈ gtb := mem_g 662 (by rfl) (by decide +kernel)
theorem x_663 : Cond.methodLink RX9 84 yX8_read ∈ gtb := mem_g 663 (by decide +kernel) (by decide +kernel)
theorem x_664 : Cond.methodLink RX9 87 yX8_takeNumber ∈ gtb := mem_g 664 (by decide +kernel) (by decide +kernel)
theorem x_665 : Cond.instanceMethod yX8_takeNumber ∈ gtb := mem_g 665 (by decide +kernel) (by decide +kernel)
theorem x_666 : Cond.selects RX8 yX8_takeNumber yX8_takeNumber ∈ gtb := mem_g 666 (by decide +kernel) (by decide +kernel)
set_option maxRecDepth 100000 in
theorem x_667 : Cond.code yX8_takeNumber cX8_takeNumber 4 (some .int) ∈ gtb := mem_g 667 (by rfl) (by decide +kernel)
theorem x_668 : Cond.methodLink RX8 75 yX8_refuse ∈ gtb := mem_g 668 (by decide +kernel) (by decide +kernel)
theorem x_671 : Cond.methodLink RX9 78 yX9_readCar ∈ gtb := mem_g 671 (by decide +kernel) (by decide +kernel)
theorem x_673 : Cond.instanceMethod yX9_readCar ∈ gtb := mem_g 673 (by decide +kernel) (by decide +kernel)
set_option maxRecDepth 100000 in
theorem x_674 : Cond.code yX9_readCar cX9_readCar 3 (some .boolean) ∈ gtb := mem_g 674 (by rfl) (by decide +kernel)
theorem x_675 : Cond.methodLink RX9 91 yX9_kindHere ∈ gtb := mem_g 675 (by decide +kernel) (by decide +kernel)
theorem x_677 : Cond.instanceMethod yX9_kindHere ∈ gtb := mem_g 677 (by decide +kernel) (by decide +kernel)
set_option maxRecDepth 100000 in
theorem x_678 : Cond.code yX9_kindHere cX9_kindHere 1 (some .int) ∈ gtb := mem_g 678 (by rfl) (by decide +kernel)
theorem x_682 : Cond.methodLink RX9 95 yX5_addCar ∈ gtb := mem_g 682 (by decide +kernel) (by decide +kernel)
theorem x_683 : Cond.methodLink RX9 81 yX9_readOptions ∈ gtb := mem_g 683 (by decide +kernel) (by decide +kernel)
theorem x_685 : Cond.instanceMethod yX9_readOptions ∈ gtb := mem_g 685 (by decide +kernel) (by decide +kernel)
set_option maxRecDepth 100000 in
theorem x_686 : Cond.code yX9_readOptions cX9_readOptions 5 (some .boolean) ∈ gtb := mem_g 686 (by rfl) (by decide +kernel)
theorem x_687 : Cond.methodLink RX9 99 yX9_optionHere ∈ gtb := mem_g 687 (by decide +kernel) (by decide +kernel)
theorem x_689 : Cond.instanceMethod yX9_optionHere ∈ gtb := mem_g 689 (by decide +kernel) (by decide +kernel)
set_option maxRecDepth 100000 in
theorem x_690 : Cond.code yX9_optionHere cX9_optionHere 1 (some .int) ∈ gtb := mem_g 690 (by rfl) (by decide +kernel)
theorem x_696 : Cond.methodLink RX9 102 yX9_takeStuck ∈ gtb := mem_g 696 (by decide +kernel) (by decide +kernel)
theorem x_698 : Cond.instanceMethod yX9_takeStuck ∈ gtb := mem_g 698 (by decide +kernel) (by decide +kernel)
set_option maxRecDepth 100000 in
theorem x_699 : Cond.code yX9_takeStuck cX9_takeStuck 2 (some .int) ∈ gtb := mem_g 699 (by rfl) (by decide +kernel)
theorem x_702 : Cond.methodLink RX9 105 yX9_mostOf ∈ gtb := mem_g 702 (by decide +kernel) (by decide +kernel)
theorem x_703 : Cond.static yX9_mostOf ∈ gtb := mem_g 703 (by decide +kernel) (by decide +kernel)
set_option maxRecDepth 100000 in
theorem x_704 : Cond.code yX9_mostOf cX9_mostOf 1 (some .int) ∈ gtb := mem_g 704 (by rfl) (by decide +kernel)
theorem x_705 : Cond.methodLink RX9 109 yX5_setFact ∈ gtb := mem_g 705 (by decide +kernel) (by decide +kernel)
theorem x_706 : Cond.instanceMethod yX5_setFact ∈ gtb := mem_g 706 (by decide +kernel) (by decide +kernel)
theorem x_707 : Cond.selects RX5 yX5_setFact yX5_setFact ∈ gtb := mem_g 707 (by decide +kernel) (by decide +kernel)
set_option maxRecDepth 100000 in
theorem x_708 : Cond.code yX5_setFact cX5_setFact 4 none ∈ gtb := mem_g 708 (by rfl) (by decide +kernel)
theorem x_709 : Cond.methodLink RX5 43 yX5_has ∈ gtb := mem_g 709 (by decide +kernel) (by decide +kernel)
theorem x_710 : Cond.instanceMethod yX5_has ∈ gtb := mem_g 710 (by decide +kernel) (by decide +kernel)
theorem x_711 : Cond.selects RX5 yX5_has yX5_has ∈ gtb := mem_g 711 (by decide +kernel) (by decide +kernel)
set_option maxRecDepth 100000 in
theorem x_712 : Cond.code yX5_has cX5_has 2 (some .boolean) ∈ gtb := mem_g 712 (by rfl) (by decide +kernel)
theorem x_713 : Cond.methodLink RX9 47 yX8_takeMark ∈ gtb := mem_g 713 (by decide +kernel) (by decide +kernel)
theorem x_714 : Cond.instanceMethod yX8_takeMark ∈ gtb := mem_g 714 (by decide +kernel) (by decide +kernel)
theorem x_715 : Cond.selects RX8 yX8_takeMark yX8_takeMark ∈ gtb := mem_g 715 (by decide +kernel) (by decide +kernel)
set_option maxRecDepth 100000 in
theorem x_716 : Cond.code yX8_takeMark cX8_takeMark 1 (some .boolean) ∈ gtb := mem_g 716 (by rfl) (by decide +kernel)
theorem x_717 : Cond.methodLink RX9 50 yX8_tooLong ∈ gtb := mem_g 717 (by decide +kernel) (by decide +kernel)
theorem x_718 : Cond.instanceMethod yX8_tooLong ∈ gtb := mem_g 718 (by decide +kernel) (by decide +kernel)
theorem x_719 : Cond.selects RX8 yX8_tooLong yX8_tooLong ∈ gtb := mem_g 719 (by decide +kernel) (by decide +kernel)
set_option maxRecDepth 100000 in
theorem x_720 : Cond.code yX8_tooLong cX8_tooLong 1 (some .boolean) ∈ gtb := mem_g 720 (by rfl) (by decide +kernel)
theorem x_721 : Cond.methodLink RX11 131 yX5_copyFrom ∈ gtb := mem_g 721 (by decide +kernel) (by decide +kernel)
theorem x_722 : Cond.instanceMethod yX5_copyFrom ∈ gtb := mem_g 722 (by decide +kernel) (by decide +kernel)
theorem x_723 : Cond.selects RX5 yX5_copyFrom yX5_copyFrom ∈ gtb := mem_g 723 (by decide +kernel) (by decide +kernel)
set_option maxRecDepth 100000 in
theorem x_724 : Cond.code yX5_copyFrom cX5_copyFrom 3 none ∈ gtb := mem_g 724 (by rfl) (by decide +kernel)
theorem x_725 : Cond.methodLink RX5 47 yX5_takeCar ∈ gtb := mem_g 725 (by decide +kernel) (by decide +kernel)
theorem x_726 : Cond.instanceMethod yX5_takeCar ∈ gtb := mem_g 726 (by decide +kernel) (by decide +kernel)
theorem x_727 : Cond.selects RX5 yX5_takeCar yX5_takeCar ∈ gtb := mem_g 727 (by decide +kernel) (by decide +kernel)
set_option maxRecDepth 100000 in
theorem x_728 : Cond.code yX5_takeCar cX5_takeCar 4 none ∈ gtb := mem_g 728 (by rfl) (by decide +kernel)
theorem x_730 : Cond.methodLink "TrainPipeLaw" 38 yX11_handle ∈ gtb := mem_g 730 (by decide +kernel) (by decide +kernel)
theorem x_731 : Cond.instanceMethod yX11_handle ∈ gtb := mem_g 731 (by decide +kernel) (by decide +kernel)
theorem x_732 : Cond.selects RX11 yX11_handle yX11_handle ∈ gtb := mem_g 732 (by decide +kernel) (by decide +kernel)
set_option maxRecDepth 100000 in
theorem x_733 : Cond.code yX11_handle cX11_handle 2 (some .int) ∈ gtb := mem_g 733 (by rfl) (by decide +kernel)
theorem x_734 : Cond.methodLink RX11 135 yX3_readTape ∈ gtb := mem_g 734 (by decide +kernel) (by decide +kernel)
theorem x_735 : Cond.instanceMethod yX3_readTape ∈ gtb := mem_g 735 (by decide +kernel) (by decide +kernel)
theorem x_736 : Cond.selects RX3 yX3_readTape yX3_readTape ∈ gtb := mem_g 736 (by decide +kernel) (by decide +kernel)
set_option maxRecDepth 100000 in
theorem x_737 : Cond.code yX3_readTape cX3_readTape 2 (some .int) ∈ gtb := mem_g 737 (by rfl) (by decide +kernel)
theorem x_738 : Cond.methodLink RX3 22 yX4_clear ∈ gtb := mem_g 738 (by decide +kernel) (by decide +kernel)
theorem x_739 : Cond.instanceMethod yX4_clear ∈ gtb := mem_g 739 (by decide +kernel) (by decide +kernel)
theorem x_740 : Cond.selects RX4 yX4_clear yX4_clear ∈ gtb := mem_g 740 (by decide +kernel) (by decide +kernel)
set_option maxRecDepth 100000 in
theorem x_741 : Cond.code yX4_clear cX4_clear 1 none ∈ gtb := mem_g 741 (by rfl) (by decide +kernel)
theorem x_742 : Cond.methodLink RX3 25 yX8_open ∈ gtb := mem_g 742 (by decide +kernel) (by decide +kernel)
theorem x_744 : Cond.methodLink RX3 33 yX8_isWord ∈ gtb := mem_g 744 (by decide +kernel) (by decide +kernel)
theorem x_745 : Cond.methodLink RX3 37 yX8_read ∈ gtb := mem_g 745 (by decide +kernel) (by decide +kernel)
theorem x_746 : Cond.methodLink RX3 40 yX8_takeMark ∈ gtb := mem_g 746 (by decide +kernel) (by decide +kernel)
theorem x_747 : Cond.methodLink RX3 47 yX8_atEnd ∈ gtb := mem_g 747 (by decide +kernel) (by decide +kernel)
theorem x_748 : Cond.methodLink RX3 50 yX3_readStep ∈ gtb := mem_g 748 (by decide +kernel) (by decide +kernel)
theorem x_750 : Cond.instanceMethod yX3_readStep ∈ gtb := mem_g 750 (by decide +kernel) (by decide +kernel)
set_option maxRecDepth 100000 in
theorem x_751 : Cond.code yX3_readStep cX3_readStep 4 (some .boolean) ∈ gtb := mem_g 751 (by rfl) (by decide +kernel)
theorem x_752 : Cond.methodLink RX3 64 yX3_actHere ∈ gtb := mem_g 752 (by decide +kernel) (by decide +kernel)
theorem x_754 : Cond.instanceMethod yX3_actHere ∈ gtb := mem_g 754 (by decide +kernel) (by decide +kernel)
set_option maxRecDepth 100000 in
theorem x_755 : Cond.code yX3_actHere cX3_actHere 1 (some .int) ∈ gtb := mem_g 755 (by rfl) (by decide +kernel)
theorem x_760 : Cond.methodLink RX3 56 yX8_refuse ∈ gtb := mem_g 760 (by decide +kernel) (by decide +kernel)
theorem x_761 : Cond.methodLink RX3 68 yX8_takeNumber ∈ gtb := mem_g 761 (by decide +kernel) (by decide +kernel)
theorem x_762 : Cond.methodLink RX3 72 yX4_addStep ∈ gtb := mem_g 762 (by decide +kernel) (by decide +kernel)
theorem x_763 : Cond.instanceMethod yX4_addStep ∈ gtb := mem_g 763 (by decide +kernel) (by decide +kernel)
theorem x_764 : Cond.selects RX4 yX4_addStep yX4_addStep ∈ gtb := mem_g 764 (by decide +kernel) (by decide +kernel)
set_option maxRecDepth 100000 in
theorem x_765 : Cond.code yX4_addStep cX4_addStep 5 none ∈ gtb := mem_g 765 (by rfl) (by decide +kernel)
theorem x_766 : Cond.methodLink RX4 29 yX4_allTicks ∈ gtb := mem_g 766 (by decide +kernel) (by decide +kernel)
theorem x_767 : Cond.instanceMethod yX4_allTicks ∈ gtb := mem_g 767 (by decide +kernel) (by decide +kernel)
theorem x_768 : Cond.selects RX4 yX4_allTicks yX4_allTicks ∈ gtb := mem_g 768 (by decide +kernel) (by decide +kernel)
set_option maxRecDepth 100000 in
theorem x_769 : Cond.code yX4_allTicks cX4_allTicks 1 (some .int) ∈ gtb := mem_g 769 (by rfl) (by decide +kernel)
theorem x_770 : Cond.methodLink RX3 53 yX8_tooLong ∈ gtb := mem_g 770 (by decide +kernel) (by decide +kernel)
theorem x_771 : Cond.methodLink RX11 138 yX4_copyFrom ∈ gtb := mem_g 771 (by decide +kernel) (by decide +kernel)
theorem x_772 : Cond.instanceMethod yX4_copyFrom ∈ gtb := mem_g 772 (by decide +kernel) (by decide +kernel)
theorem x_773 : Cond.selects RX4 yX4_copyFrom yX4_copyFrom ∈ gtb := mem_g 773 (by decide +kernel) (by decide +kernel)
set_option maxRecDepth 100000 in
theorem x_774 : Cond.code yX4_copyFrom cX4_copyFrom 2 none ∈ gtb := mem_g 774 (by rfl) (by decide +kernel)
theorem x_775 : Cond.methodLink RX4 33 ⟨"java/lang/System", "arraycopy", "(Ljava/lang/Object;ILjava/lang/Object;II)V"⟩ ∈ gtb := mem_g 775 (by decide +kernel) (by decide +kernel)
theorem x_776 : Cond.static ⟨"java/lang/System", "arraycopy", "(Ljava/lang/Object;ILjava/lang/Object;II)V"⟩ ∈ gtb := mem_g 776 (by decide +kernel) (by decide +kernel)
theorem x_777 : Cond.native ⟨"java/lang/System", "arraycopy", "(Ljava/lang/Object;ILjava/lang/Object;II)V"⟩ ∈ gtb := mem_g 777 (by decide +kernel) (by decide +kernel)
theorem x_778 : Cond.methodLink "TrainPipeLaw" 42 yX11_fault ∈ gtb := mem_g 778 (by decide +kernel) (by decide +kernel)
theorem x_779 : Cond.instanceMethod yX11_fault ∈ gtb := mem_g 779 (by decide +kernel) (by decide +kernel)
theorem x_780 : Cond.selects RX11 yX11_fault yX11_fault ∈ gtb := mem_g 780 (by decide +kernel) (by decide +kernel)
set_option maxRecDepth 100000 in
theorem x_781 : Cond.code yX11_fault cX11_fault 1 (some .int) ∈ gtb := mem_g 781 (by rfl) (by decide +kernel)
theorem x_782 : Cond.methodLink "TrainPipeLaw" 59 yX11_hears ∈ gtb := mem_g 782 (by decide +kernel) (by decide +kernel)
theorem x_783 : Cond.instanceMethod yX11_hears ∈ gtb := mem_g 783 (by decide +kernel) (by decide +kernel)
theorem x_784 : Cond.selects RX11 yX11_hears yX11_hears ∈ gtb := mem_g 784 (by decide +kernel) (by decide +kernel)
set_option maxRecDepth 100000 in
theorem x_785 : Cond.code yX11_hears cX11_hears 3 (some .int) ∈ gtb := mem_g 785 (by rfl) (by decide +kernel)
theorem x_786 : Cond.methodLink RX11 141 yX5_has ∈ gtb := mem_g 786 (by decide +kernel) (by decide +kernel)
theorem x_787 : Cond.methodLink RX11 157 yX0_start ∈ gtb := mem_g 787 (by decide +kernel) (by decide +kernel)
theorem x_788 : Cond.instanceMethod yX0_start ∈ gtb := mem_g 788 (by decide +kernel) (by decide +kernel)
theorem x_789 : Cond.selects RX0 yX0_start yX0_start ∈ gtb := mem_g 789 (by decide +kernel) (by decide +kernel)
set_option maxRecDepth 100000 in
theorem x_790 : Cond.code yX0_start cX0_start 3 none ∈ gtb := mem_g 790 (by rfl) (by decide +kernel)
theorem x_791 : Cond.methodLink RX11 160 yX0_advance ∈ gtb := mem_g 791 (by decide +kernel) (by decide +kernel)
theorem x_792 : Cond.instanceMethod yX0_advance ∈ gtb := mem_g 792 (by decide +kernel) (by decide +kernel)
theorem x_793 : Cond.selects RX0 yX0_advance yX0_advance ∈ gtb := mem_g 793 (by decide +kernel) (by decide +kernel)
set_option maxRecDepth 100000 in
theorem x_794 : Cond.code yX0_advance cX0_advance 8 none ∈ gtb := mem_g 794 (by rfl) (by decide +kernel)
theorem x_795 : Cond.methodLink RX0 58 yX4_isOver ∈ gtb := mem_g 795 (by decide +kernel) (by decide +kernel)
theorem x_796 : Cond.instanceMethod yX4_isOver ∈ gtb := mem_g 796 (by decide +kernel) (by decide +kernel)
theorem x_797 : Cond.selects RX4 yX4_isOver yX4_isOver ∈ gtb := mem_g 797 (by decide +kernel) (by decide +kernel)
set_option maxRecDepth 100000 in
theorem x_798 : Cond.code yX4_isOver cX4_isOver 3 (some .boolean) ∈ gtb := mem_g 798 (by rfl) (by decide +kernel)
theorem x_799 : Cond.methodLink RX0 49 ⟨"java/lang/System", "arraycopy", "(Ljava/lang/Object;ILjava/lang/Object;II)V"⟩ ∈ gtb := mem_g 799 (by decide +kernel) (by decide +kernel)
theorem x_800 : Cond.methodLink RX0 64 yX4_actOf ∈ gtb := mem_g 800 (by decide +kernel) (by decide +kernel)
theorem x_801 : Cond.instanceMethod yX4_actOf ∈ gtb := mem_g 801 (by decide +kernel) (by decide +kernel)
theorem x_802 : Cond.selects RX4 yX4_actOf yX4_actOf ∈ gtb := mem_g 802 (by decide +kernel) (by decide +kernel)
set_option maxRecDepth 100000 in
theorem x_803 : Cond.code yX4_actOf cX4_actOf 2 (some .int) ∈ gtb := mem_g 803 (by rfl) (by decide +kernel)
theorem x_804 : Cond.methodLink RX0 68 yX4_amountOf ∈ gtb := mem_g 804 (by decide +kernel) (by decide +kernel)
theorem x_805 : Cond.instanceMethod yX4_amountOf ∈ gtb := mem_g 805 (by decide +kernel) (by decide +kernel)
theorem x_806 : Cond.selects RX4 yX4_amountOf yX4_amountOf ∈ gtb := mem_g 806 (by decide +kernel) (by decide +kernel)
set_option maxRecDepth 100000 in
theorem x_807 : Cond.code yX4_amountOf cX4_amountOf 2 (some .int) ∈ gtb := mem_g 807 (by rfl) (by decide +kernel)
theorem x_808 : Cond.methodLink RX0 71 yX0_work ∈ gtb := mem_g 808 (by decide +kernel) (by decide +kernel)
theorem x_810 : Cond.instanceMethod yX0_work ∈ gtb := mem_g 810 (by decide +kernel) (by decide +kernel)
set_option maxRecDepth 100000 in
theorem x_811 : Cond.code yX0_work cX0_work 5 none ∈ gtb := mem_g 811 (by rfl) (by decide +kernel)
theorem x_812 : Cond.methodLink RX0 99 ⟨"java/lang/Math", "min", "(II)I"⟩ ∈ gtb := mem_g 812 (by decide +kernel) (by decide +kernel)
theorem x_813 : Cond.methodLink RX0 105 ⟨"java/lang/Math", "max", "(II)I"⟩ ∈ gtb := mem_g 813 (by decide +kernel) (by decide +kernel)
theorem x_814 : Cond.methodLink RX0 78 yX0_flow ∈ gtb := mem_g 814 (by decide +kernel) (by decide +kernel)
theorem x_816 : Cond.instanceMethod yX0_flow ∈ gtb := mem_g 816 (by decide +kernel) (by decide +kernel)
set_option maxRecDepth 100000 in
theorem x_817 : Cond.code yX0_flow cX0_flow 7 none ∈ gtb := mem_g 817 (by rfl) (by decide +kernel)
theorem x_818 : Cond.methodLink RX0 88 yX0_moveValve ∈ gtb := mem_g 818 (by decide +kernel) (by decide +kernel)
theorem x_820 : Cond.instanceMethod yX0_moveValve ∈ gtb := mem_g 820 (by decide +kernel) (by decide +kernel)
set_option maxRecDepth 100000 in
theorem x_821 : Cond.code yX0_moveValve cX0_moveValve 8 (some .boolean) ∈ gtb := mem_g 821 (by rfl) (by decide +kernel)
theorem x_822 : Cond.methodLink RX0 92 yX0_samePressure ∈ gtb := mem_g 822 (by decide +kernel) (by decide +kernel)
theorem x_824 : Cond.instanceMethod yX0_samePressure ∈ gtb := mem_g 824 (by decide +kernel) (by decide +kernel)
set_option maxRecDepth 100000 in
theorem x_825 : Cond.code yX0_samePressure cX0_samePressure 3 (some .boolean) ∈ gtb := mem_g 825 (by rfl) (by decide +kernel)
theorem x_826 : Cond.methodLink RX11 163 yX0_measure ∈ gtb := mem_g 826 (by decide +kernel) (by decide +kernel)
theorem x_827 : Cond.instanceMethod yX0_measure ∈ gtb := mem_g 827 (by decide +kernel) (by decide +kernel)
theorem x_828 : Cond.selects RX0 yX0_measure yX0_measure ∈ gtb := mem_g 828 (by decide +kernel) (by decide +kernel)
set_option maxRecDepth 100000 in
theorem x_829 : Cond.code yX0_measure cX0_measure 3 (some .int) ∈ gtb := mem_g 829 (by rfl) (by decide +kernel)
theorem x_830 : Cond.methodLink "TrainPipeLaw" 64 yX11_easy ∈ gtb := mem_g 830 (by decide +kernel) (by decide +kernel)
theorem x_831 : Cond.instanceMethod yX11_easy ∈ gtb := mem_g 831 (by decide +kernel) (by decide +kernel)
theorem x_832 : Cond.selects RX11 yX11_easy yX11_easy ∈ gtb := mem_g 832 (by decide +kernel) (by decide +kernel)
set_option maxRecDepth 100000 in
theorem x_833 : Cond.code yX11_easy cX11_easy 4 (some .int) ∈ gtb := mem_g 833 (by rfl) (by decide +kernel)
theorem x_834 : Cond.methodLink RX11 166 yX0_anyHears ∈ gtb := mem_g 834 (by decide +kernel) (by decide +kernel)
theorem x_835 : Cond.instanceMethod yX0_anyHears ∈ gtb := mem_g 835 (by decide +kernel) (by decide +kernel)
theorem x_836 : Cond.selects RX0 yX0_anyHears yX0_anyHears ∈ gtb := mem_g 836 (by decide +kernel) (by decide +kernel)
set_option maxRecDepth 100000 in
theorem x_837 : Cond.code yX0_anyHears cX0_anyHears 3 (some .boolean) ∈ gtb := mem_g 837 (by rfl) (by decide +kernel)
theorem x_838 : Cond.methodLink "TrainPipeLaw" 68 yX11_run ∈ gtb := mem_g 838 (by decide +kernel) (by decide +kernel)
theorem x_839 : Cond.instanceMethod yX11_run ∈ gtb := mem_g 839 (by decide +kernel) (by decide +kernel)
theorem x_840 : Cond.selects RX11 yX11_run yX11_run ∈ gtb := mem_g 840 (by decide +kernel) (by decide +kernel)
set_option maxRecDepth 100000 in
theorem x_841 : Cond.code yX11_run cX11_run 4 (some .int) ∈ gtb := mem_g 841 (by rfl) (by decide +kernel)
theorem x_842 : Cond.methodLink RX11 170 yX11_isRun ∈ gtb := mem_g 842 (by decide +kernel) (by decide +kernel)
theorem x_843 : Cond.static yX11_isRun ∈ gtb := mem_g 843 (by decide +kernel) (by decide +kernel)
set_option maxRecDepth 100000 in
theorem x_844 : Cond.code yX11_isRun cX11_isRun 3 (some .boolean) ∈ gtb := mem_g 844 (by rfl) (by decide +kernel)
theorem x_845 : Cond.methodLink RX11 174 yX6_start ∈ gtb := mem_g 845 (by decide +kernel) (by decide +kernel)
theorem x_846 : Cond.instanceMethod yX6_start ∈ gtb := mem_g 846 (by decide +kernel) (by decide +kernel)
theorem x_847 : Cond.selects RX6 yX6_start yX6_start ∈ gtb := mem_g 847 (by decide +kernel) (by decide +kernel)
set_option maxRecDepth 100000 in
theorem x_848 : Cond.code yX6_start cX6_start 4 none ∈ gtb := mem_g 848 (by rfl) (by decide +kernel)
theorem x_849 : Cond.constant RX11 177 (2147483647 : Int32) ∈ gtb := mem_g 849 (by decide +kernel) (by decide +kernel)
theorem x_850 : Cond.methodLink RX11 178 yX6_spanWithin ∈ gtb := mem_g 850 (by decide +kernel) (by decide +kernel)
theorem x_851 : Cond.instanceMethod yX6_spanWithin ∈ gtb := mem_g 851 (by decide +kernel) (by decide +kernel)
theorem x_852 : Cond.selects RX6 yX6_spanWithin yX6_spanWithin ∈ gtb := mem_g 852 (by decide +kernel) (by decide +kernel)
set_option maxRecDepth 100000 in
theorem x_853 : Cond.code yX6_spanWithin cX6_spanWithin 6 (some .int) ∈ gtb := mem_g 853 (by rfl) (by decide +kernel)
theorem x_854 : Cond.methodLink RX6 65 yX6_isStopped ∈ gtb := mem_g 854 (by decide +kernel) (by decide +kernel)
theorem x_855 : Cond.instanceMethod yX6_isStopped ∈ gtb := mem_g 855 (by decide +kernel) (by decide +kernel)
theorem x_856 : Cond.selects RX6 yX6_isStopped yX6_isStopped ∈ gtb := mem_g 856 (by decide +kernel) (by decide +kernel)
set_option maxRecDepth 100000 in
theorem x_857 : Cond.code yX6_isStopped cX6_isStopped 1 (some .boolean) ∈ gtb := mem_g 857 (by rfl) (by decide +kernel)
theorem x_858 : Cond.methodLink RX6 69 yX6_isWithin ∈ gtb := mem_g 858 (by decide +kernel) (by decide +kernel)
theorem x_859 : Cond.instanceMethod yX6_isWithin ∈ gtb := mem_g 859 (by decide +kernel) (by decide +kernel)
theorem x_860 : Cond.selects RX6 yX6_isWithin yX6_isWithin ∈ gtb := mem_g 860 (by decide +kernel) (by decide +kernel)
set_option maxRecDepth 100000 in
theorem x_861 : Cond.code yX6_isWithin cX6_isWithin 2 (some .boolean) ∈ gtb := mem_g 861 (by rfl) (by decide +kernel)
theorem x_862 : Cond.methodLink RX6 73 yX0_advance ∈ gtb := mem_g 862 (by decide +kernel) (by decide +kernel)
theorem x_863 : Cond.methodLink RX6 77 yX6_roll ∈ gtb := mem_g 863 (by decide +kernel) (by decide +kernel)
theorem x_864 : Cond.instanceMethod yX6_roll ∈ gtb := mem_g 864 (by decide +kernel) (by decide +kernel)
theorem x_865 : Cond.selects RX6 yX6_roll yX6_roll ∈ gtb := mem_g 865 (by decide +kernel) (by decide +kernel)
set_option maxRecDepth 100000 in
theorem x_866 : Cond.code yX6_roll cX6_roll 3 none ∈ gtb := mem_g 866 (by rfl) (by decide +kernel)
theorem x_867 : Cond.methodLink RX6 39 yX6_gainBy ∈ gtb := mem_g 867 (by decide +kernel) (by decide +kernel)
theorem x_869 : Cond.instanceMethod yX6_gainBy ∈ gtb := mem_g 869 (by decide +kernel) (by decide +kernel)
set_option maxRecDepth 100000 in
theorem x_870 : Cond.code yX6_gainBy cX6_gainBy 6 (some .int) ∈ gtb := mem_g 870 (by rfl) (by decide +kernel)
theorem x_871 : Cond.methodLink RX6 49 yX5_wholeWeight ∈ gtb := mem_g 871 (by decide +kernel) (by decide +kernel)
theorem x_872 : Cond.instanceMethod yX5_wholeWeight ∈ gtb := mem_g 872 (by decide +kernel) (by decide +kernel)
theorem x_873 : Cond.selects RX5 yX5_wholeWeight yX5_wholeWeight ∈ gtb := mem_g 873 (by decide +kernel) (by decide +kernel)
set_option maxRecDepth 100000 in
theorem x_874 : Cond.code yX5_wholeWeight cX5_wholeWeight 3 (some .int) ∈ gtb := mem_g 874 (by rfl) (by decide +kernel)
theorem x_875 : Cond.methodLink RX6 43 ⟨"java/lang/Math", "max", "(II)I"⟩ ∈ gtb := mem_g 875 (by decide +kernel) (by decide +kernel)
theorem x_876 : Cond.methodLink "TrainPipeLaw" 72 yX11_ran ∈ gtb := mem_g 876 (by decide +kernel) (by decide +kernel)
theorem x_877 : Cond.instanceMethod yX11_ran ∈ gtb := mem_g 877 (by decide +kernel) (by decide +kernel)
theorem x_878 : Cond.selects RX11 yX11_ran yX11_ran ∈ gtb := mem_g 878 (by decide +kernel) (by decide +kernel)
set_option maxRecDepth 100000 in
theorem x_879 : Cond.code yX11_ran cX11_ran 2 (some .int) ∈ gtb := mem_g 879 (by rfl) (by decide +kernel)
theorem x_880 : Cond.methodLink "TrainPipeLaw" 76 yX11_help ∈ gtb := mem_g 880 (by decide +kernel) (by decide +kernel)
theorem x_881 : Cond.instanceMethod yX11_help ∈ gtb := mem_g 881 (by decide +kernel) (by decide +kernel)
theorem x_882 : Cond.selects RX11 yX11_help yX11_help ∈ gtb := mem_g 882 (by decide +kernel) (by decide +kernel)
set_option maxRecDepth 100000 in
theorem x_883 : Cond.code yX11_help cX11_help 5 (some .int) ∈ gtb := mem_g 883 (by rfl) (by decide +kernel)
theorem x_884 : Cond.methodLink RX11 191 yX10_tell ∈ gtb := mem_g 884 (by decide +kernel) (by decide +kernel)
theorem x_885 : Cond.instanceMethod yX10_tell ∈ gtb := mem_g 885 (by decide +kernel) (by decide +kernel)
theorem x_886 : Cond.selects RX10 yX10_tell yX10_tell ∈ gtb := mem_g 886 (by decide +kernel) (by decide +kernel)
set_option maxRecDepth 100000 in
theorem x_887 : Cond.code yX10_tell cX10_tell 4 none ∈ gtb := mem_g 887 (by rfl) (by decide +kernel)
theorem x_888 : Cond.methodLink RX11 194 yX10_lastHelp ∈ gtb := mem_g 888 (by decide +kernel) (by decide +kernel)
theorem x_889 : Cond.instanceMethod yX10_lastHelp ∈ gtb := mem_g 889 (by decide +kernel) (by decide +kernel)
theorem x_890 : Cond.selects RX10 yX10_lastHelp yX10_lastHelp ∈ gtb := mem_g 890 (by decide +kernel) (by decide +kernel)
set_option maxRecDepth 100000 in
theorem x_891 : Cond.code yX10_lastHelp cX10_lastHelp 4 (some .int) ∈ gtb := mem_g 891 (by rfl) (by decide +kernel)
theorem x_892 : Cond.methodLink RX10 68 yX0_start ∈ gtb := mem_g 892 (by decide +kernel) (by decide +kernel)
theorem x_893 : Cond.methodLink RX10 72 yX6_start ∈ gtb := mem_g 893 (by decide +kernel) (by decide +kernel)
theorem x_894 : Cond.methodLink RX10 75 yX6_isWithin ∈ gtb := mem_g 894 (by decide +kernel) (by decide +kernel)
theorem x_895 : Cond.methodLink RX10 79 yX6_isStopped ∈ gtb := mem_g 895 (by decide +kernel) (by decide +kernel)
theorem x_896 : Cond.methodLink RX10 83 yX0_copyFrom ∈ gtb := mem_g 896 (by decide +kernel) (by decide +kernel)
theorem x_897 : Cond.instanceMethod yX0_copyFrom ∈ gtb := mem_g 897 (by decide +kernel) (by decide +kernel)
theorem x_898 : Cond.selects RX0 yX0_copyFrom yX0_copyFrom ∈ gtb := mem_g 898 (by decide +kernel) (by decide +kernel)
set_option maxRecDepth 100000 in
theorem x_899 : Cond.code yX0_copyFrom cX0_copyFrom 2 none ∈ gtb := mem_g 899 (by rfl) (by decide +kernel)
theorem x_900 : Cond.methodLink RX10 87 yX0_dumpFromNowOn ∈ gtb := mem_g 900 (by decide +kernel) (by decide +kernel)
theorem x_901 : Cond.instanceMethod yX0_dumpFromNowOn ∈ gtb := mem_g 901 (by decide +kernel) (by decide +kernel)
theorem x_902 : Cond.selects RX0 yX0_dumpFromNowOn yX0_dumpFromNowOn ∈ gtb := mem_g 902 (by decide +kernel) (by decide +kernel)
set_option maxRecDepth 100000 in
theorem x_903 : Cond.code yX0_dumpFromNowOn cX0_dumpFromNowOn 1 none ∈ gtb := mem_g 903 (by rfl) (by decide +kernel)
theorem x_904 : Cond.methodLink RX10 90 yX6_copyFrom ∈ gtb := mem_g 904 (by decide +kernel) (by decide +kernel)
theorem x_905 : Cond.instanceMethod yX6_copyFrom ∈ gtb := mem_g 905 (by decide +kernel) (by decide +kernel)
theorem x_906 : Cond.selects RX6 yX6_copyFrom yX6_copyFrom ∈ gtb := mem_g 906 (by decide +kernel) (by decide +kernel)
set_option maxRecDepth 100000 in
theorem x_907 : Cond.code yX6_copyFrom cX6_copyFrom 2 none ∈ gtb := mem_g 907 (by rfl) (by decide +kernel)
theorem x_908 : Cond.methodLink RX10 93 yX6_spanWithin ∈ gtb := mem_g 908 (by decide +kernel) (by decide +kernel)
theorem x_909 : Cond.methodLink RX10 97 yX0_advance ∈ gtb := mem_g 909 (by decide +kernel) (by decide +kernel)
theorem x_910 : Cond.methodLink RX10 101 yX6_roll ∈ gtb := mem_g 910 (by decide +kernel) (by decide +kernel)
theorem x_911 : Cond.methodLink "TrainPipeLaw" 81 yX11_parted ∈ gtb := mem_g 911 (by decide +kernel) (by decide +kernel)
theorem x_912 : Cond.instanceMethod yX11_parted ∈ gtb := mem_g 912 (by decide +kernel) (by decide +kernel)
theorem x_913 : Cond.selects RX11 yX11_parted yX11_parted ∈ gtb := mem_g 913 (by decide +kernel) (by decide +kernel)
set_option maxRecDepth 100000 in
theorem x_914 : Cond.code yX11_parted cX11_parted 7 (some .int) ∈ gtb := mem_g 914 (by rfl) (by decide +kernel)
theorem x_915 : Cond.methodLink RX11 199 yX10_spanParted ∈ gtb := mem_g 915 (by decide +kernel) (by decide +kernel)
theorem x_916 : Cond.instanceMethod yX10_spanParted ∈ gtb := mem_g 916 (by decide +kernel) (by decide +kernel)
theorem x_917 : Cond.selects RX10 yX10_spanParted yX10_spanParted ∈ gtb := mem_g 917 (by decide +kernel) (by decide +kernel)
set_option maxRecDepth 100000 in
theorem x_918 : Cond.code yX10_spanParted cX10_spanParted 3 (some .int) ∈ gtb := mem_g 918 (by rfl) (by decide +kernel)
theorem x_919 : Cond.methodLink RX10 105 yX0_partBehind ∈ gtb := mem_g 919 (by decide +kernel) (by decide +kernel)
theorem x_920 : Cond.instanceMethod yX0_partBehind ∈ gtb := mem_g 920 (by decide +kernel) (by decide +kernel)
theorem x_921 : Cond.selects RX0 yX0_partBehind yX0_partBehind ∈ gtb := mem_g 921 (by decide +kernel) (by decide +kernel)
set_option maxRecDepth 100000 in
theorem x_922 : Cond.code yX0_partBehind cX0_partBehind 3 none ∈ gtb := mem_g 922 (by rfl) (by decide +kernel)
theorem x_923 : Cond.constant RX10 109 (2147483647 : Int32) ∈ gtb := mem_g 923 (by decide +kernel) (by decide +kernel)
theorem x_924 : Cond.methodLink "TrainPipeLaw" 85 yX11_order ∈ gtb := mem_g 924 (by decide +kernel) (by decide +kernel)
theorem x_925 : Cond.instanceMethod yX11_order ∈ gtb := mem_g 925 (by decide +kernel) (by decide +kernel)
theorem x_926 : Cond.selects RX11 yX11_order yX11_order ∈ gtb := mem_g 926 (by decide +kernel) (by decide +kernel)
set_option maxRecDepth 100000 in
theorem x_927 : Cond.code yX11_order cX11_order 6 (some .int) ∈ gtb := mem_g 927 (by rfl) (by decide +kernel)
theorem x_928 : Cond.methodLink RX11 202 yX10_leastOrder ∈ gtb := mem_g 928 (by decide +kernel) (by decide +kernel)
theorem x_929 : Cond.instanceMethod yX10_leastOrder ∈ gtb := mem_g 929 (by decide +kernel) (by decide +kernel)
theorem x_930 : Cond.selects RX10 yX10_leastOrder yX10_leastOrder ∈ gtb := mem_g 930 (by decide +kernel) (by decide +kernel)
set_option maxRecDepth 100000 in
theorem x_931 : Cond.code yX10_leastOrder cX10_leastOrder 4 (some .int) ∈ gtb := mem_g 931 (by rfl) (by decide +kernel)
theorem x_932 : Cond.methodLink RX10 110 yX10_firstOrder ∈ gtb := mem_g 932 (by decide +kernel) (by decide +kernel)
theorem x_934 : Cond.instanceMethod yX10_firstOrder ∈ gtb := mem_g 934 (by decide +kernel) (by decide +kernel)
set_option maxRecDepth 100000 in
theorem x_935 : Cond.code yX10_firstOrder cX10_firstOrder 2 none ∈ gtb := mem_g 935 (by rfl) (by decide +kernel)
theorem x_936 : Cond.methodLink RX10 126 yX5_copyFrom ∈ gtb := mem_g 936 (by decide +kernel) (by decide +kernel)
theorem x_937 : Cond.methodLink RX10 113 yX10_keepOrder ∈ gtb := mem_g 937 (by decide +kernel) (by decide +kernel)
theorem x_939 : Cond.instanceMethod yX10_keepOrder ∈ gtb := mem_g 939 (by decide +kernel) (by decide +kernel)
set_option maxRecDepth 100000 in
theorem x_940 : Cond.code yX10_keepOrder cX10_keepOrder 1 none ∈ gtb := mem_g 940 (by rfl) (by decide +kernel)
theorem x_941 : Cond.methodLink RX10 131 ⟨"java/lang/System", "arraycopy", "(Ljava/lang/Object;ILjava/lang/Object;II)V"⟩ ∈ gtb := mem_g 941 (by decide +kernel) (by decide +kernel)
theorem x_942 : Cond.methodLink RX10 116 yX10_layOrder ∈ gtb := mem_g 942 (by decide +kernel) (by decide +kernel)
theorem x_944 : Cond.instanceMethod yX10_layOrder ∈ gtb := mem_g 944 (by decide +kernel) (by decide +kernel)
set_option maxRecDepth 100000 in
theorem x_945 : Cond.code yX10_layOrder cX10_layOrder 2 none ∈ gtb := mem_g 945 (by rfl) (by decide +kernel)
theorem x_946 : Cond.methodLink RX10 137 yX5_takeCar ∈ gtb := mem_g 946 (by decide +kernel) (by decide +kernel)
theorem x_947 : Cond.methodLink RX10 119 yX10_spanOfBent ∈ gtb := mem_g 947 (by decide +kernel) (by decide +kernel)
theorem x_949 : Cond.instanceMethod yX10_spanOfBent ∈ gtb := mem_g 949 (by decide +kernel) (by decide +kernel)
set_option maxRecDepth 100000 in
theorem x_950 : Cond.code yX10_spanOfBent cX10_spanOfBent 2 (some .int) ∈ gtb := mem_g 950 (by rfl) (by decide +kernel)
theorem x_951 : Cond.methodLink RX10 123 yX10_nextOrder ∈ gtb := mem_g 951 (by decide +kernel) (by decide +kernel)
theorem x_953 : Cond.instanceMethod yX10_nextOrder ∈ gtb := mem_g 953 (by decide +kernel) (by decide +kernel)
set_option maxRecDepth 100000 in
theorem x_954 : Cond.code yX10_nextOrder cX10_nextOrder 5 (some .boolean) ∈ gtb := mem_g 954 (by rfl) (by decide +kernel)
theorem x_955 : Cond.methodLink RX10 141 ⟨"java/lang/Math", "min", "(II)I"⟩ ∈ gtb := mem_g 955 (by decide +kernel) (by decide +kernel)
theorem x_956 : Cond.methodLink RX10 147 yX10_swap ∈ gtb := mem_g 956 (by decide +kernel) (by decide +kernel)
theorem x_958 : Cond.instanceMethod yX10_swap ∈ gtb := mem_g 958 (by decide +kernel) (by decide +kernel)
set_option maxRecDepth 100000 in
theorem x_959 : Cond.code yX10_swap cX10_swap 4 none ∈ gtb := mem_g 959 (by rfl) (by decide +kernel)
theorem x_960 : Cond.methodLink RX11 205 yX10_greatestOrder ∈ gtb := mem_g 960 (by decide +kernel) (by decide +kernel)
theorem x_961 : Cond.instanceMethod yX10_greatestOrder ∈ gtb := mem_g 961 (by decide +kernel) (by decide +kernel)
theorem x_962 : Cond.selects RX10 yX10_greatestOrder yX10_greatestOrder ∈ gtb := mem_g 962 (by decide +kernel) (by decide +kernel)
set_option maxRecDepth 100000 in
theorem x_963 : Cond.code yX10_greatestOrder cX10_greatestOrder 4 (some .int) ∈ gtb := mem_g 963 (by rfl) (by decide +kernel)
theorem x_964 : Cond.methodLink "TrainPipeLaw" 89 yX11_ordered ∈ gtb := mem_g 964 (by decide +kernel) (by decide +kernel)
theorem x_965 : Cond.instanceMethod yX11_ordered ∈ gtb := mem_g 965 (by decide +kernel) (by decide +kernel)
theorem x_966 : Cond.selects RX11 yX11_ordered yX11_ordered ∈ gtb := mem_g 966 (by decide +kernel) (by decide +kernel)
set_option maxRecDepth 100000 in
theorem x_967 : Cond.code yX11_ordered cX11_ordered 2 (some .int) ∈ gtb := mem_g 967 (by rfl) (by decide +kernel)
theorem x_968 : Cond.methodLink RX11 208 yX10_bestAt ∈ gtb := mem_g 968 (by decide +kernel) (by decide +kernel)
theorem x_969 : Cond.instanceMethod yX10_bestAt ∈ gtb := mem_g 969 (by decide +kernel) (by decide +kernel)
theorem x_970 : Cond.selects RX10 yX10_bestAt yX10_bestAt ∈ gtb := mem_g 970 (by decide +kernel) (by decide +kernel)
set_option maxRecDepth 100000 in
theorem x_971 : Cond.code yX10_bestAt cX10_bestAt 2 (some .int) ∈ gtb := mem_g 971 (by rfl) (by decide +kernel)
theorem x_972 : Cond.methodLink "TrainPipeLaw" 93 yX11_cut ∈ gtb := mem_g 972 (by decide +kernel) (by decide +kernel)
theorem x_973 : Cond.instanceMethod yX11_cut ∈ gtb := mem_g 973 (by decide +kernel) (by decide +kernel)
theorem x_974 : Cond.selects RX11 yX11_cut yX11_cut ∈ gtb := mem_g 974 (by decide +kernel) (by decide +kernel)
set_option maxRecDepth 100000 in
theorem x_975 : Cond.code yX11_cut cX11_cut 6 (some .int) ∈ gtb := mem_g 975 (by rfl) (by decide +kernel)
theorem x_976 : Cond.methodLink RX11 211 yX10_mostCut ∈ gtb := mem_g 976 (by decide +kernel) (by decide +kernel)
theorem x_977 : Cond.instanceMethod yX10_mostCut ∈ gtb := mem_g 977 (by decide +kernel) (by decide +kernel)
theorem x_978 : Cond.selects RX10 yX10_mostCut yX10_mostCut ∈ gtb := mem_g 978 (by decide +kernel) (by decide +kernel)
set_option maxRecDepth 100000 in
theorem x_979 : Cond.code yX10_mostCut cX10_mostCut 4 (some .int) ∈ gtb := mem_g 979 (by rfl) (by decide +kernel)
theorem x_980 : Cond.methodLink RX10 150 yX10_findBraked ∈ gtb := mem_g 980 (by decide +kernel) (by decide +kernel)
theorem x_982 : Cond.instanceMethod yX10_findBraked ∈ gtb := mem_g 982 (by decide +kernel) (by decide +kernel)
set_option maxRecDepth 100000 in
theorem x_983 : Cond.code yX10_findBraked cX10_findBraked 3 (some .int) ∈ gtb := mem_g 983 (by rfl) (by decide +kernel)
theorem x_984 : Cond.methodLink RX10 154 yX10_stopsWithout ∈ gtb := mem_g 984 (by decide +kernel) (by decide +kernel)
theorem x_986 : Cond.instanceMethod yX10_stopsWithout ∈ gtb := mem_g 986 (by decide +kernel) (by decide +kernel)
set_option maxRecDepth 100000 in
theorem x_987 : Cond.code yX10_stopsWithout cX10_stopsWithout 6 (some .boolean) ∈ gtb := mem_g 987 (by rfl) (by decide +kernel)
theorem x_988 : Cond.methodLink RX10 161 yJ6_bitCount_0f7a4 ∈ gtb := mem_g 988 (by decide +kernel) (by decide +kernel)
theorem x_989 : Cond.static yJ6_bitCount_0f7a4 ∈ gtb := mem_g 989 (by decide +kernel) (by decide +kernel)
set_option maxRecDepth 100000 in
theorem x_990 : Cond.code yJ6_bitCount_0f7a4 cJ6_bitCount_0f7a4 1 (some .int) ∈ gtb := mem_g 990 (by rfl) (by decide +kernel)
theorem x_991 : Cond.constant RJ6 265 (1431655765 : Int32) ∈ gtb := mem_g 991 (by decide +kernel) (by decide +kernel)
theorem x_992 : Cond.constant RJ6 266 (858993459 : Int32) ∈ gtb := mem_g 992 (by decide +kernel) (by decide +kernel)
theorem x_993 : Cond.constant RJ6 267 (252645135 : Int32) ∈ gtb := mem_g 993 (by decide +kernel) (by decide +kernel)
theorem x_994 : Cond.methodLink RX10 166 yX5_setFact ∈ gtb := mem_g 994 (by decide +kernel) (by decide +kernel)
theorem x_995 : Cond.methodLink "TrainPipeLaw" 97 yX11_fits ∈ gtb := mem_g 995 (by decide +kernel) (by decide +kernel)
theorem x_996 : Cond.instanceMethod yX11_fits ∈ gtb := mem_g 996 (by decide +kernel) (by decide +kernel)
theorem x_997 : Cond.selects RX11 yX11_fits yX11_fits ∈ gtb := mem_g 997 (by decide +kernel) (by decide +kernel)
set_option maxRecDepth 100000 in
theorem x_998 : Cond.code yX11_fits cX11_fits 5 (some .int) ∈ gtb := mem_g 998 (by rfl) (by decide +kernel)
theorem x_999 : Cond.methodLink RX11 214 yX2_readGauges ∈ gtb := mem_g 999 (by decide +kernel) (by decide +kernel)
theorem x_1000 : Cond.instanceMethod yX2_readGauges ∈ gtb := mem_g 1000 (by decide +kernel) (by decide +kernel)
theorem x_1001 : Cond.selects RX2 yX2_readGauges yX2_readGauges ∈ gtb := mem_g 1001 (by decide +kernel) (by decide +kernel)
set_option maxRecDepth 100000 in
theorem x_1002 : Cond.code yX2_readGauges cX2_readGauges 6 (some .boolean) ∈ gtb := mem_g 1002 (by rfl) (by decide +kernel)
theorem x_1003 : Cond.methodLink RX2 82 yX7_pairAt ∈ gtb := mem_g 1003 (by decide +kernel) (by decide +kernel)
theorem x_1004 : Cond.instanceMethod yX7_pairAt ∈ gtb := mem_g 1004 (by decide +kernel) (by decide +kernel)
theorem x_1005 : Cond.selects RX7 yX7_pairAt yX7_pairAt ∈ gtb := mem_g 1005 (by decide +kernel) (by decide +kernel)
set_option maxRecDepth 100000 in
theorem x_1006 : Cond.code yX7_pairAt cX7_pairAt 2 (some .int) ∈ gtb := mem_g 1006 (by rfl) (by decide +kernel)
theorem x_1007 : Cond.methodLink RX7 19 yX7_byteAt ∈ gtb := mem_g 1007 (by decide +kernel) (by decide +kernel)
theorem x_1008 : Cond.methodLink RX2 86 ⟨"java/lang/Math", "max", "(II)I"⟩ ∈ gtb := mem_g 1008 (by decide +kernel) (by decide +kernel)
theorem x_1009 : Cond.methodLink RX11 218 yX2_findFitting ∈ gtb := mem_g 1009 (by decide +kernel) (by decide +kernel)
theorem x_1010 : Cond.instanceMethod yX2_findFitting ∈ gtb := mem_g 1010 (by decide +kernel) (by decide +kernel)
theorem x_1011 : Cond.selects RX2 yX2_findFitting yX2_findFitting ∈ gtb := mem_g 1011 (by decide +kernel) (by decide +kernel)
set_option maxRecDepth 100000 in
theorem x_1012 : Cond.code yX2_findFitting cX2_findFitting 5 (some .int) ∈ gtb := mem_g 1012 (by rfl) (by decide +kernel)
theorem x_1013 : Cond.methodLink RX2 93 yX2_tryGuess ∈ gtb := mem_g 1013 (by decide +kernel) (by decide +kernel)
theorem x_1015 : Cond.instanceMethod yX2_tryGuess ∈ gtb := mem_g 1015 (by decide +kernel) (by decide +kernel)
set_option maxRecDepth 100000 in
theorem x_1016 : Cond.code yX2_tryGuess cX2_tryGuess 4 none ∈ gtb := mem_g 1016 (by rfl) (by decide +kernel)
theorem x_1017 : Cond.methodLink RX2 97 yX2_bendBy ∈ gtb := mem_g 1017 (by decide +kernel) (by decide +kernel)
theorem x_1019 : Cond.instanceMethod yX2_bendBy ∈ gtb := mem_g 1019 (by decide +kernel) (by decide +kernel)
set_option maxRecDepth 100000 in
theorem x_1020 : Cond.code yX2_bendBy cX2_bendBy 3 none ∈ gtb := mem_g 1020 (by rfl) (by decide +kernel)
theorem x_1021 : Cond.methodLink RX2 105 yX5_copyFrom ∈ gtb := mem_g 1021 (by decide +kernel) (by decide +kernel)
theorem x_1022 : Cond.methodLink RX2 109 yX5_setFact ∈ gtb := mem_g 1022 (by decide +kernel) (by decide +kernel)
theorem x_1023 : Cond.methodLink RX2 101 yX2_doesFit ∈ gtb := mem_g 1023 (by decide +kernel) (by decide +kernel)
theorem x_1025 : Cond.instanceMethod yX2_doesFit ∈ gtb := mem_g 1025 (by decide +kernel) (by decide +kernel)
set_option maxRecDepth 100000 in
theorem x_1026 : Cond.code yX2_doesFit cX2_doesFit 4 (some .boolean) ∈ gtb := mem_g 1026 (by rfl) (by decide +kernel)
theorem x_1027 : Cond.methodLink RX2 112 yX0_start ∈ gtb := mem_g 1027 (by decide +kernel) (by decide +kernel)
theorem x_1028 : Cond.methodLink RX2 115 yX0_advance ∈ gtb := mem_g 1028 (by decide +kernel) (by decide +kernel)
theorem x_1029 : Cond.methodLink RX2 119 yX2_agrees ∈ gtb := mem_g 1029 (by decide +kernel) (by decide +kernel)
theorem x_1031 : Cond.instanceMethod yX2_agrees ∈ gtb := mem_g 1031 (by decide +kernel) (by decide +kernel)
set_option maxRecDepth 100000 in
theorem x_1032 : Cond.code yX2_agrees cX2_agrees 6 (some .boolean) ∈ gtb := mem_g 1032 (by rfl) (by decide +kernel)
theorem x_1033 : Cond.methodLink RX2 126 yX0_measure ∈ gtb := mem_g 1033 (by decide +kernel) (by decide +kernel)
theorem x_1034 : Cond.methodLink RX2 129 ⟨"java/lang/Math", "abs", "(I)I"⟩ ∈ gtb := mem_g 1034 (by decide +kernel) (by decide +kernel)
theorem x_1035 : Cond.static ⟨"java/lang/Math", "abs", "(I)I"⟩ ∈ gtb := mem_g 1035 (by decide +kernel) (by decide +kernel)
set_option maxRecDepth 100000 in
theorem x_1036 : Cond.code ⟨"java/lang/Math", "abs", "(I)I"⟩ prog_20_method_59_code 1 (some .int) ∈ gtb := mem_g 1036 (by rfl) (by decide +kernel)
theorem x_1037 : Cond.methodLink RX2 122 yX0_hotSet ∈ gtb := mem_g 1037 (by decide +kernel) (by decide +kernel)
theorem x_1038 : Cond.instanceMethod yX0_hotSet ∈ gtb := mem_g 1038 (by decide +kernel) (by decide +kernel)
theorem x_1039 : Cond.selects RX0 yX0_hotSet yX0_hotSet ∈ gtb := mem_g 1039 (by decide +kernel) (by decide +kernel)
set_option maxRecDepth 100000 in
theorem x_1040 : Cond.code yX0_hotSet cX0_hotSet 4 (some .int) ∈ gtb := mem_g 1040 (by rfl) (by decide +kernel)
theorem x_1041 : Cond.methodLink "TrainPipeLaw" 101 yX11_fitAt ∈ gtb := mem_g 1041 (by decide +kernel) (by decide +kernel)
theorem x_1042 : Cond.instanceMethod yX11_fitAt ∈ gtb := mem_g 1042 (by decide +kernel) (by decide +kernel)
theorem x_1043 : Cond.selects RX11 yX11_fitAt yX11_fitAt ∈ gtb := mem_g 1043 (by decide +kernel) (by decide +kernel)
set_option maxRecDepth 100000 in
theorem x_1044 : Cond.code yX11_fitAt cX11_fitAt 2 (some .int) ∈ gtb := mem_g 1044 (by rfl) (by decide +kernel)
theorem x_1045 : Cond.methodLink RX11 221 yX2_fittingAt ∈ gtb := mem_g 1045 (by decide +kernel) (by decide +kernel)
theorem x_1046 : Cond.instanceMethod yX2_fittingAt ∈ gtb := mem_g 1046 (by decide +kernel) (by decide +kernel)
theorem x_1047 : Cond.selects RX2 yX2_fittingAt yX2_fittingAt ∈ gtb := mem_g 1047 (by decide +kernel) (by decide +kernel)
set_option maxRecDepth 100000 in
theorem x_1048 : Cond.code yX2_fittingAt cX2_fittingAt 2 (some .int) ∈ gtb := mem_g 1048 (by rfl) (by decide +kernel)
theorem x_1049 : Cond.methodLink "TrainPipeLaw" 105 yX11_walks ∈ gtb := mem_g 1049 (by decide +kernel) (by decide +kernel)
theorem x_1050 : Cond.instanceMethod yX11_walks ∈ gtb := mem_g 1050 (by decide +kernel) (by decide +kernel)
theorem x_1051 : Cond.selects RX11 yX11_walks yX11_walks ∈ gtb := mem_g 1051 (by decide +kernel) (by decide +kernel)
set_option maxRecDepth 100000 in
theorem x_1052 : Cond.code yX11_walks cX11_walks 2 (some .int) ∈ gtb := mem_g 1052 (by rfl) (by decide +kernel)
theorem x_1053 : Cond.methodLink RX11 224 yX2_canWalk ∈ gtb := mem_g 1053 (by decide +kernel) (by decide +kernel)
theorem x_1054 : Cond.instanceMethod yX2_canWalk ∈ gtb := mem_g 1054 (by decide +kernel) (by decide +kernel)
theorem x_1055 : Cond.selects RX2 yX2_canWalk yX2_canWalk ∈ gtb := mem_g 1055 (by decide +kernel) (by decide +kernel)
set_option maxRecDepth 100000 in
theorem x_1056 : Cond.code yX2_canWalk cX2_canWalk 1 (some .boolean) ∈ gtb := mem_g 1056 (by rfl) (by decide +kernel)
theorem x_1057 : Cond.methodLink RX11 228 yX2_findWalk ∈ gtb := mem_g 1057 (by decide +kernel) (by decide +kernel)
theorem x_1058 : Cond.instanceMethod yX2_findWalk ∈ gtb := mem_g 1058 (by decide +kernel) (by decide +kernel)
theorem x_1059 : Cond.selects RX2 yX2_findWalk yX2_findWalk ∈ gtb := mem_g 1059 (by decide +kernel) (by decide +kernel)
set_option maxRecDepth 100000 in
theorem x_1060 : Cond.code yX2_findWalk cX2_findWalk 4 (some .int) ∈ gtb := mem_g 1060 (by rfl) (by decide +kernel)
theorem x_1061 : Cond.methodLink RX2 132 yX2_addHotSet ∈ gtb := mem_g 1061 (by decide +kernel) (by decide +kernel)
theorem x_1063 : Cond.instanceMethod yX2_addHotSet ∈ gtb := mem_g 1063 (by decide +kernel) (by decide +kernel)
set_option maxRecDepth 100000 in
theorem x_1064 : Cond.code yX2_addHotSet cX2_addHotSet 3 none ∈ gtb := mem_g 1064 (by rfl) (by decide +kernel)
theorem x_1065 : Cond.methodLink RX2 135 yX2_leastWalk ∈ gtb := mem_g 1065 (by decide +kernel) (by decide +kernel)
theorem x_1067 : Cond.instanceMethod yX2_leastWalk ∈ gtb := mem_g 1067 (by decide +kernel) (by decide +kernel)
set_option maxRecDepth 100000 in
theorem x_1068 : Cond.code yX2_leastWalk cX2_leastWalk 5 (some .int) ∈ gtb := mem_g 1068 (by rfl) (by decide +kernel)
theorem x_1069 : Cond.methodLink RX2 144 yX2_usefulCars ∈ gtb := mem_g 1069 (by decide +kernel) (by decide +kernel)
theorem x_1071 : Cond.instanceMethod yX2_usefulCars ∈ gtb := mem_g 1071 (by decide +kernel) (by decide +kernel)
set_option maxRecDepth 100000 in
theorem x_1072 : Cond.code yX2_usefulCars cX2_usefulCars 3 (some .int) ∈ gtb := mem_g 1072 (by rfl) (by decide +kernel)
theorem x_1073 : Cond.methodLink RX2 139 yJ6_bitCount_0f7a4 ∈ gtb := mem_g 1073 (by decide +kernel) (by decide +kernel)
theorem x_1074 : Cond.methodLink RX2 147 yX2_partsAll ∈ gtb := mem_g 1074 (by decide +kernel) (by decide +kernel)
theorem x_1076 : Cond.instanceMethod yX2_partsAll ∈ gtb := mem_g 1076 (by decide +kernel) (by decide +kernel)
set_option maxRecDepth 100000 in
theorem x_1077 : Cond.code yX2_partsAll cX2_partsAll 4 (some .boolean) ∈ gtb := mem_g 1077 (by rfl) (by decide +kernel)
theorem x_1078 : Cond.methodLink "TrainPipeLaw" 109 yX11_walked ∈ gtb := mem_g 1078 (by decide +kernel) (by decide +kernel)
theorem x_1079 : Cond.instanceMethod yX11_walked ∈ gtb := mem_g 1079 (by decide +kernel) (by decide +kernel)
theorem x_1080 : Cond.selects RX11 yX11_walked yX11_walked ∈ gtb := mem_g 1080 (by decide +kernel) (by decide +kernel)
set_option maxRecDepth 100000 in
theorem x_1081 : Cond.code yX11_walked cX11_walked 2 (some .int) ∈ gtb := mem_g 1081 (by rfl) (by decide +kernel)
theorem x_1082 : Cond.methodLink "TrainPipeLaw" 113 yX11_day ∈ gtb := mem_g 1082 (by decide +kernel) (by decide +kernel)
theorem x_1083 : Cond.instanceMethod yX11_day ∈ gtb := mem_g 1083 (by decide +kernel) (by decide +kernel)
theorem x_1084 : Cond.selects RX11 yX11_day yX11_day ∈ gtb := mem_g 1084 (by decide +kernel) (by decide +kernel)
set_option maxRecDepth 100000 in
theorem x_1085 : Cond.code yX11_day cX11_day 4 (some .int) ∈ gtb := mem_g 1085 (by rfl) (by decide +kernel)
theorem x_1086 : Cond.methodLink RX11 240 yX1_rowOf ∈ gtb := mem_g 1086 (by decide +kernel) (by decide +kernel)
theorem x_1087 : Cond.instanceMethod yX1_rowOf ∈ gtb := mem_g 1087 (by decide +kernel) (by decide +kernel)
theorem x_1088 : Cond.selects RX1 yX1_rowOf yX1_rowOf ∈ gtb := mem_g 1088 (by decide +kernel) (by decide +kernel)
set_option maxRecDepth 100000 in
theorem x_1089 : Cond.code yX1_rowOf cX1_rowOf 6 (some .long) ∈ gtb := mem_g 1089 (by rfl) (by decide +kernel)
theorem x_1090 : Cond.methodLink RX1 38 yX7_byteAt ∈ gtb := mem_g 1090 (by decide +kernel) (by decide +kernel)
theorem x_1091 : Cond.methodLink RX1 42 yX1_isWagon ∈ gtb := mem_g 1091 (by decide +kernel) (by decide +kernel)
theorem x_1092 : Cond.static yX1_isWagon ∈ gtb := mem_g 1092 (by decide +kernel) (by decide +kernel)
set_option maxRecDepth 100000 in
theorem x_1093 : Cond.code yX1_isWagon cX1_isWagon 1 (some .boolean) ∈ gtb := mem_g 1093 (by rfl) (by decide +kernel)
theorem x_1094 : Cond.methodLink RX1 46 yX1_isIn ∈ gtb := mem_g 1094 (by decide +kernel) (by decide +kernel)
theorem x_1095 : Cond.static yX1_isIn ∈ gtb := mem_g 1095 (by decide +kernel) (by decide +kernel)
set_option maxRecDepth 100000 in
theorem x_1096 : Cond.code yX1_isIn cX1_isIn 3 (some .boolean) ∈ gtb := mem_g 1096 (by rfl) (by decide +kernel)
theorem x_1097 : Cond.methodLink RX11 244 yX1_addDay ∈ gtb := mem_g 1097 (by decide +kernel) (by decide +kernel)
theorem x_1098 : Cond.instanceMethod yX1_addDay ∈ gtb := mem_g 1098 (by decide +kernel) (by decide +kernel)
theorem x_1099 : Cond.selects RX1 yX1_addDay yX1_addDay ∈ gtb := mem_g 1099 (by decide +kernel) (by decide +kernel)
set_option maxRecDepth 100000 in
theorem x_1100 : Cond.code yX1_addDay cX1_addDay 4 (some .int) ∈ gtb := mem_g 1100 (by rfl) (by decide +kernel)
theorem x_1101 : Cond.methodLink "TrainPipeLaw" 118 yX11_mended ∈ gtb := mem_g 1101 (by decide +kernel) (by decide +kernel)
theorem x_1102 : Cond.instanceMethod yX11_mended ∈ gtb := mem_g 1102 (by decide +kernel) (by decide +kernel)
theorem x_1103 : Cond.selects RX11 yX11_mended yX11_mended ∈ gtb := mem_g 1103 (by decide +kernel) (by decide +kernel)
set_option maxRecDepth 100000 in
theorem x_1104 : Cond.code yX11_mended cX11_mended 2 (some .boolean) ∈ gtb := mem_g 1104 (by rfl) (by decide +kernel)
theorem x_1105 : Cond.methodLink RX11 248 yX1_mend ∈ gtb := mem_g 1105 (by decide +kernel) (by decide +kernel)
theorem x_1106 : Cond.instanceMethod yX1_mend ∈ gtb := mem_g 1106 (by decide +kernel) (by decide +kernel)
theorem x_1107 : Cond.selects RX1 yX1_mend yX1_mend ∈ gtb := mem_g 1107 (by decide +kernel) (by decide +kernel)
set_option maxRecDepth 100000 in
theorem x_1108 : Cond.code yX1_mend cX1_mend 2 (some .boolean) ∈ gtb := mem_g 1108 (by rfl) (by decide +kernel)
theorem x_1109 : Cond.methodLink "TrainPipeLaw" 122 yX11_suspects ∈ gtb := mem_g 1109 (by decide +kernel) (by decide +kernel)
theorem x_1110 : Cond.instanceMethod yX11_suspects ∈ gtb := mem_g 1110 (by decide +kernel) (by decide +kernel)
theorem x_1111 : Cond.selects RX11 yX11_suspects yX11_suspects ∈ gtb := mem_g 1111 (by decide +kernel) (by decide +kernel)
set_option maxRecDepth 100000 in
theorem x_1112 : Cond.code yX11_suspects cX11_suspects 2 (some .int) ∈ gtb := mem_g 1112 (by rfl) (by decide +kernel)
theorem x_1113 : Cond.methodLink RX11 251 yX1_findSuspects ∈ gtb := mem_g 1113 (by decide +kernel) (by decide +kernel)
theorem x_1114 : Cond.instanceMethod yX1_findSuspects ∈ gtb := mem_g 1114 (by decide +kernel) (by decide +kernel)
theorem x_1115 : Cond.selects RX1 yX1_findSuspects yX1_findSuspects ∈ gtb := mem_g 1115 (by decide +kernel) (by decide +kernel)
set_option maxRecDepth 100000 in
theorem x_1116 : Cond.code yX1_findSuspects cX1_findSuspects 3 (some .int) ∈ gtb := mem_g 1116 (by rfl) (by decide +kernel)
theorem x_1117 : Cond.methodLink RX1 50 yX1_latestStart ∈ gtb := mem_g 1117 (by decide +kernel) (by decide +kernel)
theorem x_1119 : Cond.instanceMethod yX1_latestStart ∈ gtb := mem_g 1119 (by decide +kernel) (by decide +kernel)
set_option maxRecDepth 100000 in
theorem x_1120 : Cond.code yX1_latestStart cX1_latestStart 4 (some .int) ∈ gtb := mem_g 1120 (by rfl) (by decide +kernel)
theorem x_1121 : Cond.methodLink RX1 54 yX1_explains ∈ gtb := mem_g 1121 (by decide +kernel) (by decide +kernel)
theorem x_1123 : Cond.instanceMethod yX1_explains ∈ gtb := mem_g 1123 (by decide +kernel) (by decide +kernel)
set_option maxRecDepth 100000 in
theorem x_1124 : Cond.code yX1_explains cX1_explains 6 (some .boolean) ∈ gtb := mem_g 1124 (by rfl) (by decide +kernel)
theorem x_1125 : Cond.methodLink "TrainPipeLaw" 126 yX11_suspect ∈ gtb := mem_g 1125 (by decide +kernel) (by decide +kernel)
theorem x_1126 : Cond.instanceMethod yX11_suspect ∈ gtb := mem_g 1126 (by decide +kernel) (by decide +kernel)
theorem x_1127 : Cond.selects RX11 yX11_suspect yX11_suspect ∈ gtb := mem_g 1127 (by decide +kernel) (by decide +kernel)
set_option maxRecDepth 100000 in
theorem x_1128 : Cond.code yX11_suspect cX11_suspect 2 (some .int) ∈ gtb := mem_g 1128 (by rfl) (by decide +kernel)
theorem x_1129 : Cond.methodLink RX11 254 yX1_foundAt ∈ gtb := mem_g 1129 (by decide +kernel) (by decide +kernel)
theorem x_1130 : Cond.instanceMethod yX1_foundAt ∈ gtb := mem_g 1130 (by decide +kernel) (by decide +kernel)
theorem x_1131 : Cond.selects RX1 yX1_foundAt yX1_foundAt ∈ gtb := mem_g 1131 (by decide +kernel) (by decide +kernel)
set_option maxRecDepth 100000 in
theorem x_1132 : Cond.code yX1_foundAt cX1_foundAt 2 (some .int) ∈ gtb := mem_g 1132 (by rfl) (by decide +kernel)
theorem x_1133 : Cond.methodLink "TrainPipeLaw" 130 yX11_next ∈ gtb := mem_g 1133 (by decide +kernel) (by decide +kernel)
theorem x_1134 : Cond.instanceMethod yX11_next ∈ gtb := mem_g 1134 (by decide +kernel) (by decide +kernel)
theorem x_1135 : Cond.selects RX11 yX11_next yX11_next ∈ gtb := mem_g 1135 (by decide +kernel) (by decide +kernel)
set_option maxRecDepth 100000 in
theorem x_1136 : Cond.code yX11_next cX11_next 3 (some .int) ∈ gtb := mem_g 1136 (by rfl) (by decide +kernel)
theorem x_1137 : Cond.methodLink RX11 257 yX1_foresee ∈ gtb := mem_g 1137 (by decide +kernel) (by decide +kernel)
theorem x_1138 : Cond.instanceMethod yX1_foresee ∈ gtb := mem_g 1138 (by decide +kernel) (by decide +kernel)
theorem x_1139 : Cond.selects RX1 yX1_foresee yX1_foresee ∈ gtb := mem_g 1139 (by decide +kernel) (by decide +kernel)
set_option maxRecDepth 100000 in
theorem x_1140 : Cond.code yX1_foresee cX1_foresee 7 (some .int) ∈ gtb := mem_g 1140 (by rfl) (by decide +kernel)
theorem x_1141 : Cond.methodLink RX1 63 yX1_isBadStill ∈ gtb := mem_g 1141 (by decide +kernel) (by decide +kernel)
theorem x_1143 : Cond.instanceMethod yX1_isBadStill ∈ gtb := mem_g 1143 (by decide +kernel) (by decide +kernel)
set_option maxRecDepth 100000 in
theorem x_1144 : Cond.code yX1_isBadStill cX1_isBadStill 4 (some .boolean) ∈ gtb := mem_g 1144 (by rfl) (by decide +kernel)
theorem x_1145 : Cond.methodLink RX1 58 ⟨"java/lang/Math", "max", "(II)I"⟩ ∈ gtb := mem_g 1145 (by decide +kernel) (by decide +kernel)
theorem x_1146 : Cond.methodLink "TrainPipeLaw" 134 yX11_count ∈ gtb := mem_g 1146 (by decide +kernel) (by decide +kernel)
theorem x_1147 : Cond.instanceMethod yX11_count ∈ gtb := mem_g 1147 (by decide +kernel) (by decide +kernel)
theorem x_1148 : Cond.selects RX11 yX11_count yX11_count ∈ gtb := mem_g 1148 (by decide +kernel) (by decide +kernel)
set_option maxRecDepth 100000 in
theorem x_1149 : Cond.code yX11_count cX11_count 2 (some .int) ∈ gtb := mem_g 1149 (by rfl) (by decide +kernel)
theorem x_1150 : Cond.methodLink RX11 265 yX4_allTicks ∈ gtb := mem_g 1150 (by decide +kernel) (by decide +kernel)
theorem x_1151 : Cond.methodLink "TrainPipeLaw" 46 ⟨"TrainPipeLaw", "car", "(LTrainPipe;II[J)I"⟩ ∈ gtb := mem_g 1151 (by decide +kernel) (by decide +kernel)
theorem x_1152 : Cond.static ⟨"TrainPipeLaw", "car", "(LTrainPipe;II[J)I"⟩ ∈ gtb := mem_g 1152 (by decide +kernel) (by decide +kernel)
theorem x_1155 : Cond.methodLink "TrainPipeLaw" 7 yX11_car ∈ gtb := mem_g 1155 (by decide +kernel) (by decide +kernel)
theorem x_1156 : Cond.instanceMethod yX11_car ∈ gtb := mem_g 1156 (by decide +kernel) (by decide +kernel)
theorem x_1157 : Cond.selects RX11 yX11_car yX11_car ∈ gtb := mem_g 1157 (by decide +kernel) (by decide +kernel)
set_option maxRecDepth 100000 in
theorem x_1158 : Cond.code yX11_car cX11_car 3 (some .int) ∈ gtb := mem_g 1158 (by rfl) (by decide +kernel)
theorem x_1182 : Cond.instanceMethod ⟨"java/lang/Throwable", "<init>", "()V"⟩ ∈ gtb := mem_g 1182 (by decide +kernel) (by decide +kernel)
set_option maxRecDepth 100000 in
theorem x_1183 : Cond.code ⟨"java/lang/Throwable", "<init>", "()V"⟩ prog_26_method_1_code 1 none ∈ gtb := mem_g 1183 (by rfl) (by decide +kernel)
theorem x_1184 : Cond.methodLink "java/lang/Throwable" 1 ⟨"java/lang/Object", "<init>", "()V"⟩ ∈ gtb := mem_g 1184 (by decide +kernel) (by decide +kernel)
theorem x_1185 : Cond.fieldLink "java/lang/Throwable" 13 "java/lang/Throwable" "UNASSIGNED_STACK" "[Ljava/lang/StackTraceElement;" ∈ gtb := mem_g 1185 (by decide +kernel) (by decide +kernel)
theorem x_1187 : Cond.fieldLink "java/lang/Throwable" 20 "java/lang/Throwable" "SUPPRESSED_SENTINEL" "Ljava/util/List;" ∈ gtb := mem_g 1187 (by decide +kernel) (by decide +kernel)
theorem x_1189 : Cond.methodLink "java/lang/Throwable" 27 ⟨"java/lang/Throwable", "fillInStackTrace", "()Ljava/lang/Throwable;"⟩ ∈ gtb := mem_g 1189 (by decide +kernel) (by decide +kernel)
theorem x_1190 : Cond.instanceMethod ⟨"java/lang/Throwable", "fillInStackTrace", "()Ljava/lang/Throwable;"⟩ ∈ gtb := mem_g 1190 (by decide +kernel) (by decide +kernel)
theorem x_1193 : Cond.methodLink "java/lang/Throwable" 202 ⟨"java/lang/Throwable", "fillInStackTrace", "(I)Ljava/lang/Throwable;"⟩ ∈ gtb := mem_g 1193 (by decide +kernel) (by decide +kernel)
theorem x_1195 : Cond.instanceMethod ⟨"java/lang/Throwable", "fillInStackTrace", "(I)Ljava/lang/Throwable;"⟩ ∈ gtb := mem_g 1195 (by decide +kernel) (by decide +kernel)
theorem x_1197 : Cond.native ⟨"java/lang/Throwable", "fillInStackTrace", "(I)Ljava/lang/Throwable;"⟩ ∈ gtb := mem_g 1197 (by decide +kernel) (by decide +kernel)
theorem x_1199 : Cond.methodLink RX11 148 ⟨"java/util/NoSuchElementException", "<init>", "(Ljava/lang/String;)V"⟩ ∈ gtb := mem_g 1199 (by decide +kernel) (by decide +kernel)
theorem x_1200 : Cond.instanceMethod ⟨"java/util/NoSuchElementException", "<init>", "(Ljava/lang/String;)V"⟩ ∈ gtb := mem_g 1200 (by decide +kernel) (by decide +kernel)
set_option maxRecDepth 100000 in
theorem x_1201 : Cond.code ⟨"java/util/NoSuchElementException", "<init>", "(Ljava/lang/String;)V"⟩ prog_29_method_4_code 2 none ∈ gtb := mem_g 1201 (by rfl) (by decide +kernel)
theorem x_1202 : Cond.methodLink "java/util/NoSuchElementException" 13 ⟨"java/lang/RuntimeException", "<init>", "(Ljava/lang/String;)V"⟩ ∈ gtb := mem_g 1202 (by decide +kernel) (by decide +kernel)
theorem x_1203 : Cond.instanceMethod ⟨"java/lang/RuntimeException", "<init>", "(Ljava/lang/String;)V"⟩ ∈ gtb := mem_g 1203 (by decide +kernel) (by decide +kernel)
set_option maxRecDepth 100000 in
theorem x_1204 : Cond.code ⟨"java/lang/RuntimeException", "<init>", "(Ljava/lang/String;)V"⟩ prog_21_method_2_code 2 none ∈ gtb := mem_g 1204 (by rfl) (by decide +kernel)
theorem x_1205 : Cond.methodLink "java/lang/RuntimeException" 7 ⟨"java/lang/Exception", "<init>", "(Ljava/lang/String;)V"⟩ ∈ gtb := mem_g 1205 (by decide +kernel) (by decide +kernel)
theorem x_1206 : Cond.instanceMethod ⟨"java/lang/Exception", "<init>", "(Ljava/lang/String;)V"⟩ ∈ gtb := mem_g 1206 (by decide +kernel) (by decide +kernel)
set_option maxRecDepth 100000 in
theorem x_1207 : Cond.code ⟨"java/lang/Exception", "<init>", "(Ljava/lang/String;)V"⟩ prog_18_method_2_code 2 none ∈ gtb := mem_g 1207 (by rfl) (by decide +kernel)
theorem x_1208 : Cond.methodLink "java/lang/Exception" 7 ⟨"java/lang/Throwable", "<init>", "(Ljava/lang/String;)V"⟩ ∈ gtb := mem_g 1208 (by decide +kernel) (by decide +kernel)
theorem x_1209 : Cond.instanceMethod ⟨"java/lang/Throwable", "<init>", "(Ljava/lang/String;)V"⟩ ∈ gtb := mem_g 1209 (by decide +kernel) (by decide +kernel)
set_option maxRecDepth 100000 in
theorem x_1210 : Cond.code ⟨"java/lang/Throwable", "<init>", "(Ljava/lang/String;)V"⟩ prog_26_method_2_code 2 none ∈ gtb := mem_g 1210 (by rfl) (by decide +kernel)
theorem x_1211 : Cond.fieldLink "java/lang/Throwable" 198 "java/lang/Throwable" "backtrace" "Ljava/lang/Object;" ∈ gtb := mem_g 1211 (by decide +kernel) (by decide +kernel)
theorem x_1212 : Cond.fieldLink "java/lang/Throwable" 31 "java/lang/Throwable" "detailMessage" "Ljava/lang/String;" ∈ gtb := mem_g 1212 (by decide +kernel) (by decide +kernel)
theorem x_1213 : Cond.fieldLink "java/lang/Throwable" 7 "java/lang/Throwable" "cause" "Ljava/lang/Throwable;" ∈ gtb := mem_g 1213 (by decide +kernel) (by decide +kernel)
theorem x_1214 : Cond.fieldLink "java/lang/Throwable" 17 "java/lang/Throwable" "stackTrace" "[Ljava/lang/StackTraceElement;" ∈ gtb := mem_g 1214 (by decide +kernel) (by decide +kernel)
theorem x_1215 : Cond.fieldLink "java/lang/Throwable" 24 "java/lang/Throwable" "suppressedExceptions" "Ljava/util/List;" ∈ gtb := mem_g 1215 (by decide +kernel) (by decide +kernel)
theorem x_1224 : Cond.methodLink RX11 151 yX5_fact ∈ gtb := mem_g 1224 (by decide +kernel) (by decide +kernel)
theorem x_1225 : Cond.instanceMethod yX5_fact ∈ gtb := mem_g 1225 (by decide +kernel) (by decide +kernel)
theorem x_1226 : Cond.selects RX5 yX5_fact yX5_fact ∈ gtb := mem_g 1226 (by decide +kernel) (by decide +kernel)
set_option maxRecDepth 100000 in
theorem x_1227 : Cond.code yX5_fact cX5_fact 3 (some .int) ∈ gtb := mem_g 1227 (by rfl) (by decide +kernel)
theorem x_1228 : Cond.methodLink "TrainPipeLaw" 55 ⟨"TrainPipeLaw", "at", "(LTrainPipe;III[J)I"⟩ ∈ gtb := mem_g 1228 (by decide +kernel) (by decide +kernel)
theorem x_1229 : Cond.static ⟨"TrainPipeLaw", "at", "(LTrainPipe;III[J)I"⟩ ∈ gtb := mem_g 1229 (by decide +kernel) (by decide +kernel)
theorem x_1231 : Cond.methodLink "TrainPipeLaw" 15 yX11_at ∈ gtb := mem_g 1231 (by decide +kernel) (by decide +kernel)
theorem x_1232 : Cond.instanceMethod yX11_at ∈ gtb := mem_g 1232 (by decide +kernel) (by decide +kernel)
theorem x_1233 : Cond.selects RX11 yX11_at yX11_at ∈ gtb := mem_g 1233 (by decide +kernel) (by decide +kernel)
set_option maxRecDepth 100000 in
theorem x_1234 : Cond.code yX11_at cX11_at 6 (some .int) ∈ gtb := mem_g 1234 (by rfl) (by decide +kernel)
theorem x_1238 : Cond.methodLink "TrainPipeLaw" 22 yX12_init ∈ gtb := mem_g 1238 (by decide +kernel) (by decide +kernel)
theorem x_1239 : Cond.instanceMethod yX12_init ∈ gtb := mem_g 1239 (by decide +kernel) (by decide +kernel)
set_option maxRecDepth 100000 in
theorem x_1240 : Cond.code yX12_init cX12_init 1 none ∈ gtb := mem_g 1240 (by rfl) (by decide +kernel)
theorem x_1241 : Cond.methodLink RX12 1 ⟨"java/lang/Object", "<init>", "()V"⟩ ∈ gtb := mem_g 1241 (by decide +kernel) (by decide +kernel)
theorem x_1242 : Cond.fieldLink RX12 106 "TrainPipeModel" "thrown" "I" ∈ gtb := mem_g 1242 (by decide +kernel) (by decide +kernel)
theorem x_1243 : Cond.fieldLink RX12 7 "TrainPipeModel" "tape" "[I" ∈ gtb := mem_g 1243 (by decide +kernel) (by decide +kernel)
theorem x_1244 : Cond.fieldLink RX12 109 "TrainPipeModel" "taped" "I" ∈ gtb := mem_g 1244 (by decide +kernel) (by decide +kernel)
theorem x_1245 : Cond.fieldLink RX12 116 "TrainPipeModel" "size" "I" ∈ gtb := mem_g 1245 (by decide +kernel) (by decide +kernel)
theorem x_1246 : Cond.fieldLink RX12 125 "TrainPipeModel" "limit" "I" ∈ gtb := mem_g 1246 (by decide +kernel) (by decide +kernel)
theorem x_1247 : Cond.fieldLink RX12 119 "TrainPipeModel" "to" "I" ∈ gtb := mem_g 1247 (by decide +kernel) (by decide +kernel)
theorem x_1248 : Cond.fieldLink RX12 122 "TrainPipeModel" "from" "I" ∈ gtb := mem_g 1248 (by decide +kernel) (by decide +kernel)
theorem x_1249 : Cond.fieldLink RX12 128 "TrainPipeModel" "kind" "I" ∈ gtb := mem_g 1249 (by decide +kernel) (by decide +kernel)
theorem x_1250 : Cond.fieldLink RX12 142 "TrainPipeModel" "number" "I" ∈ gtb := mem_g 1250 (by decide +kernel) (by decide +kernel)
theorem x_1251 : Cond.fieldLink RX12 153 "TrainPipeModel" "fault" "I" ∈ gtb := mem_g 1251 (by decide +kernel) (by decide +kernel)
theorem x_1252 : Cond.fieldLink RX12 156 "TrainPipeModel" "place" "I" ∈ gtb := mem_g 1252 (by decide +kernel) (by decide +kernel)
theorem x_1253 : Cond.fieldLink RX12 138 "TrainPipeModel" "word" "J" ∈ gtb := mem_g 1253 (by decide +kernel) (by decide +kernel)
theorem x_1254 : Cond.fieldLink RX12 166 "TrainPipeModel" "told" "I" ∈ gtb := mem_g 1254 (by decide +kernel) (by decide +kernel)
theorem x_1255 : Cond.fieldLink RX12 13 "TrainPipeModel" "told7" "[I" ∈ gtb := mem_g 1255 (by decide +kernel) (by decide +kernel)
theorem x_1256 : Cond.fieldLink RX12 16 "TrainPipeModel" "cars" "I" ∈ gtb := mem_g 1256 (by decide +kernel) (by decide +kernel)
theorem x_1257 : Cond.fieldLink RX12 20 "TrainPipeModel" "full" "I" ∈ gtb := mem_g 1257 (by decide +kernel) (by decide +kernel)
theorem x_1258 : Cond.fieldLink RX12 23 "TrainPipeModel" "fed" "I" ∈ gtb := mem_g 1258 (by decide +kernel) (by decide +kernel)
theorem x_1259 : Cond.fieldLink RX12 184 "TrainPipeModel" "readCars" "I" ∈ gtb := mem_g 1259 (by decide +kernel) (by decide +kernel)
theorem x_1260 : Cond.fieldLink RX12 204 "TrainPipeModel" "readFull" "I" ∈ gtb := mem_g 1260 (by decide +kernel) (by decide +kernel)
theorem x_1261 : Cond.fieldLink RX12 207 "TrainPipeModel" "readFed" "I" ∈ gtb := mem_g 1261 (by decide +kernel) (by decide +kernel)
theorem x_1262 : Cond.fieldLink RX12 172 "TrainPipeModel" "isLaid" "Z" ∈ gtb := mem_g 1262 (by decide +kernel) (by decide +kernel)
theorem x_1263 : Cond.fieldLink RX12 26 "TrainPipeModel" "stepWhat" "[I" ∈ gtb := mem_g 1263 (by decide +kernel) (by decide +kernel)
theorem x_1264 : Cond.fieldLink RX12 29 "TrainPipeModel" "stepDraw" "[I" ∈ gtb := mem_g 1264 (by decide +kernel) (by decide +kernel)
theorem x_1265 : Cond.fieldLink RX12 32 "TrainPipeModel" "stepLong" "[I" ∈ gtb := mem_g 1265 (by decide +kernel) (by decide +kernel)
theorem x_1266 : Cond.fieldLink RX12 238 "TrainPipeModel" "steps" "I" ∈ gtb := mem_g 1266 (by decide +kernel) (by decide +kernel)
theorem x_1267 : Cond.fieldLink RX12 229 "TrainPipeModel" "readSteps" "I" ∈ gtb := mem_g 1267 (by decide +kernel) (by decide +kernel)
theorem x_1268 : Cond.fieldLink RX12 241 "TrainPipeModel" "both" "Z" ∈ gtb := mem_g 1268 (by decide +kernel) (by decide +kernel)
theorem x_1269 : Cond.fieldLink RX12 232 "TrainPipeModel" "readBoth" "Z" ∈ gtb := mem_g 1269 (by decide +kernel) (by decide +kernel)
theorem x_1270 : Cond.fieldLink RX12 35 "TrainPipeModel" "sort" "[I" ∈ gtb := mem_g 1270 (by decide +kernel) (by decide +kernel)
theorem x_1271 : Cond.fieldLink RX12 38 "TrainPipeModel" "out" "[I" ∈ gtb := mem_g 1271 (by decide +kernel) (by decide +kernel)
theorem x_1272 : Cond.fieldLink RX12 41 "TrainPipeModel" "keep" "[I" ∈ gtb := mem_g 1272 (by decide +kernel) (by decide +kernel)
theorem x_1273 : Cond.fieldLink RX12 44 "TrainPipeModel" "leak" "[I" ∈ gtb := mem_g 1273 (by decide +kernel) (by decide +kernel)
theorem x_1274 : Cond.fieldLink RX12 47 "TrainPipeModel" "hose" "[I" ∈ gtb := mem_g 1274 (by decide +kernel) (by decide +kernel)
theorem x_1275 : Cond.fieldLink RX12 50 "TrainPipeModel" "stuck" "[I" ∈ gtb := mem_g 1275 (by decide +kernel) (by decide +kernel)
theorem x_1276 : Cond.fieldLink RX12 53 "TrainPipeModel" "pressure" "[I" ∈ gtb := mem_g 1276 (by decide +kernel) (by decide +kernel)
theorem x_1277 : Cond.fieldLink RX12 56 "TrainPipeModel" "tank" "[I" ∈ gtb := mem_g 1277 (by decide +kernel) (by decide +kernel)
theorem x_1278 : Cond.fieldLink RX12 59 "TrainPipeModel" "cylinder" "[I" ∈ gtb := mem_g 1278 (by decide +kernel) (by decide +kernel)
theorem x_1279 : Cond.fieldLink RX12 62 "TrainPipeModel" "flow" "[I" ∈ gtb := mem_g 1279 (by decide +kernel) (by decide +kernel)
theorem x_1280 : Cond.fieldLink RX12 247 "TrainPipeModel" "weight" "I" ∈ gtb := mem_g 1280 (by decide +kernel) (by decide +kernel)
theorem x_1281 : Cond.fieldLink RX12 250 "TrainPipeModel" "dumpFrom" "I" ∈ gtb := mem_g 1281 (by decide +kernel) (by decide +kernel)
theorem x_1282 : Cond.fieldLink RX12 256 "TrainPipeModel" "partAfter" "I" ∈ gtb := mem_g 1282 (by decide +kernel) (by decide +kernel)
theorem x_1283 : Cond.fieldLink RX12 253 "TrainPipeModel" "partFrom" "I" ∈ gtb := mem_g 1283 (by decide +kernel) (by decide +kernel)
theorem x_1284 : Cond.fieldLink RX12 65 "TrainPipeModel" "asTold" "[I" ∈ gtb := mem_g 1284 (by decide +kernel) (by decide +kernel)
theorem x_1285 : Cond.fieldLink RX12 293 "TrainPipeModel" "ranTicks" "I" ∈ gtb := mem_g 1285 (by decide +kernel) (by decide +kernel)
theorem x_1286 : Cond.fieldLink RX12 290 "TrainPipeModel" "ranMost" "I" ∈ gtb := mem_g 1286 (by decide +kernel) (by decide +kernel)
theorem x_1287 : Cond.fieldLink RX12 296 "TrainPipeModel" "ranSpeed" "I" ∈ gtb := mem_g 1287 (by decide +kernel) (by decide +kernel)
theorem x_1288 : Cond.fieldLink RX12 309 "TrainPipeModel" "lastTicks" "I" ∈ gtb := mem_g 1288 (by decide +kernel) (by decide +kernel)
theorem x_1289 : Cond.fieldLink RX12 312 "TrainPipeModel" "lastMost" "I" ∈ gtb := mem_g 1289 (by decide +kernel) (by decide +kernel)
theorem x_1290 : Cond.fieldLink RX12 315 "TrainPipeModel" "lastSpeed" "I" ∈ gtb := mem_g 1290 (by decide +kernel) (by decide +kernel)
theorem x_1291 : Cond.fieldLink RX12 306 "TrainPipeModel" "hasRun" "Z" ∈ gtb := mem_g 1291 (by decide +kernel) (by decide +kernel)
theorem x_1292 : Cond.fieldLink RX12 68 "TrainPipeModel" "order" "[I" ∈ gtb := mem_g 1292 (by decide +kernel) (by decide +kernel)
theorem x_1293 : Cond.fieldLink RX12 71 "TrainPipeModel" "best" "[I" ∈ gtb := mem_g 1293 (by decide +kernel) (by decide +kernel)
theorem x_1294 : Cond.fieldLink RX12 321 "TrainPipeModel" "bestMany" "I" ∈ gtb := mem_g 1294 (by decide +kernel) (by decide +kernel)
theorem x_1295 : Cond.fieldLink RX12 74 "TrainPipeModel" "fails" "[Z" ∈ gtb := mem_g 1295 (by decide +kernel) (by decide +kernel)
theorem x_1296 : Cond.fieldLink RX12 78 "TrainPipeModel" "gaugeTick" "[I" ∈ gtb := mem_g 1296 (by decide +kernel) (by decide +kernel)
theorem x_1297 : Cond.fieldLink RX12 81 "TrainPipeModel" "gaugeHead" "[I" ∈ gtb := mem_g 1297 (by decide +kernel) (by decide +kernel)
theorem x_1298 : Cond.fieldLink RX12 84 "TrainPipeModel" "gaugeTail" "[I" ∈ gtb := mem_g 1298 (by decide +kernel) (by decide +kernel)
theorem x_1299 : Cond.fieldLink RX12 87 "TrainPipeModel" "fit" "[I" ∈ gtb := mem_g 1299 (by decide +kernel) (by decide +kernel)
theorem x_1300 : Cond.fieldLink RX12 90 "TrainPipeModel" "hotOf" "[I" ∈ gtb := mem_g 1300 (by decide +kernel) (by decide +kernel)
theorem x_1301 : Cond.fieldLink RX12 332 "TrainPipeModel" "gauges" "I" ∈ gtb := mem_g 1301 (by decide +kernel) (by decide +kernel)
theorem x_1302 : Cond.fieldLink RX12 344 "TrainPipeModel" "fitMany" "I" ∈ gtb := mem_g 1302 (by decide +kernel) (by decide +kernel)
theorem x_1303 : Cond.fieldLink RX12 356 "TrainPipeModel" "fitCars" "I" ∈ gtb := mem_g 1303 (by decide +kernel) (by decide +kernel)
theorem x_1304 : Cond.fieldLink RX12 353 "TrainPipeModel" "hasFits" "Z" ∈ gtb := mem_g 1304 (by decide +kernel) (by decide +kernel)
theorem x_1305 : Cond.fieldLink RX12 371 "TrainPipeModel" "walkedSet" "I" ∈ gtb := mem_g 1305 (by decide +kernel) (by decide +kernel)
theorem x_1306 : Cond.fieldLink RX12 359 "TrainPipeModel" "walkedPairs" "I" ∈ gtb := mem_g 1306 (by decide +kernel) (by decide +kernel)
theorem x_1307 : Cond.fieldLink RX12 368 "TrainPipeModel" "hasWalked" "Z" ∈ gtb := mem_g 1307 (by decide +kernel) (by decide +kernel)
theorem x_1308 : Cond.fieldLink RX12 93 "TrainPipeModel" "went" "[J" ∈ gtb := mem_g 1308 (by decide +kernel) (by decide +kernel)
theorem x_1309 : Cond.fieldLink RX12 97 "TrainPipeModel" "mendedAt" "[J" ∈ gtb := mem_g 1309 (by decide +kernel) (by decide +kernel)
theorem x_1310 : Cond.fieldLink RX12 100 "TrainPipeModel" "hotDay" "[Z" ∈ gtb := mem_g 1310 (by decide +kernel) (by decide +kernel)
theorem x_1311 : Cond.fieldLink RX12 378 "TrainPipeModel" "days" "I" ∈ gtb := mem_g 1311 (by decide +kernel) (by decide +kernel)
theorem x_1312 : Cond.fieldLink RX12 103 "TrainPipeModel" "suspect" "[I" ∈ gtb := mem_g 1312 (by decide +kernel) (by decide +kernel)
theorem x_1313 : Cond.fieldLink RX12 384 "TrainPipeModel" "suspectMany" "I" ∈ gtb := mem_g 1313 (by decide +kernel) (by decide +kernel)
theorem x_1459 : Cond.methodLink "TrainPipeLaw" 52 yX12_thrown ∈ gtb := mem_g 1459 (by decide +kernel) (by decide +kernel)
theorem x_1460 : Cond.instanceMethod yX12_thrown ∈ gtb := mem_g 1460 (by decide +kernel) (by decide +kernel)
theorem x_1461 : Cond.selects RX12 yX12_thrown yX12_thrown ∈ gtb := mem_g 1461 (by decide +kernel) (by decide +kernel)
set_option maxRecDepth 100000 in
theorem x_1462 : Cond.code yX12_thrown cX12_thrown 1 (some .int) ∈ gtb := mem_g 1462 (by rfl) (by decide +kernel)
theorem x_1463 : Cond.methodLink "TrainPipeLaw" 27 yX12_feed ∈ gtb := mem_g 1463 (by decide +kernel) (by decide +kernel)
theorem x_1464 : Cond.instanceMethod yX12_feed ∈ gtb := mem_g 1464 (by decide +kernel) (by decide +kernel)
theorem x_1465 : Cond.selects RX12 yX12_feed yX12_feed ∈ gtb := mem_g 1465 (by decide +kernel) (by decide +kernel)
set_option maxRecDepth 100000 in
theorem x_1466 : Cond.code yX12_feed cX12_feed 6 (some .int) ∈ gtb := mem_g 1466 (by rfl) (by decide +kernel)
theorem x_1467 : Cond.methodLink RX12 112 yX12_come ∈ gtb := mem_g 1467 (by decide +kernel) (by decide +kernel)
theorem x_1469 : Cond.instanceMethod yX12_come ∈ gtb := mem_g 1469 (by decide +kernel) (by decide +kernel)
set_option maxRecDepth 100000 in
theorem x_1470 : Cond.code yX12_come cX12_come 3 none ∈ gtb := mem_g 1470 (by rfl) (by decide +kernel)
theorem x_1471 : Cond.methodLink "TrainPipeLaw" 32 yX12_end ∈ gtb := mem_g 1471 (by decide +kernel) (by decide +kernel)
theorem x_1472 : Cond.instanceMethod yX12_end ∈ gtb := mem_g 1472 (by decide +kernel) (by decide +kernel)
theorem x_1473 : Cond.selects RX12 yX12_end yX12_end ∈ gtb := mem_g 1473 (by decide +kernel) (by decide +kernel)
set_option maxRecDepth 100000 in
theorem x_1474 : Cond.code yX12_end cX12_end 2 (some .boolean) ∈ gtb := mem_g 1474 (by rfl) (by decide +kernel)
theorem x_1475 : Cond.methodLink "TrainPipeLaw" 37 yX12_train ∈ gtb := mem_g 1475 (by decide +kernel) (by decide +kernel)
theorem x_1476 : Cond.instanceMethod yX12_train ∈ gtb := mem_g 1476 (by decide +kernel) (by decide +kernel)
theorem x_1477 : Cond.selects RX12 yX12_train yX12_train ∈ gtb := mem_g 1477 (by decide +kernel) (by decide +kernel)
set_option maxRecDepth 100000 in
theorem x_1478 : Cond.code yX12_train cX12_train 4 (some .int) ∈ gtb := mem_g 1478 (by rfl) (by decide +kernel)
theorem x_1479 : Cond.methodLink RX12 198 yX12_lay ∈ gtb := mem_g 1479 (by decide +kernel) (by decide +kernel)
theorem x_1481 : Cond.instanceMethod yX12_lay ∈ gtb := mem_g 1481 (by decide +kernel) (by decide +kernel)
set_option maxRecDepth 100000 in
theorem x_1482 : Cond.code yX12_lay cX12_lay 1 none ∈ gtb := mem_g 1482 (by rfl) (by decide +kernel)
theorem x_1483 : Cond.methodLink RX12 201 yX12_take ∈ gtb := mem_g 1483 (by decide +kernel) (by decide +kernel)
theorem x_1485 : Cond.instanceMethod yX12_take ∈ gtb := mem_g 1485 (by decide +kernel) (by decide +kernel)
set_option maxRecDepth 100000 in
theorem x_1486 : Cond.code yX12_take cX12_take 2 (some .int) ∈ gtb := mem_g 1486 (by rfl) (by decide +kernel)
theorem x_1487 : Cond.methodLink RX12 169 yX12_go ∈ gtb := mem_g 1487 (by decide +kernel) (by decide +kernel)
theorem x_1489 : Cond.instanceMethod yX12_go ∈ gtb := mem_g 1489 (by decide +kernel) (by decide +kernel)
set_option maxRecDepth 100000 in
theorem x_1490 : Cond.code yX12_go cX12_go 5 none ∈ gtb := mem_g 1490 (by rfl) (by decide +kernel)
theorem x_1491 : Cond.methodLink RX12 131 yX12_isLetter ∈ gtb := mem_g 1491 (by decide +kernel) (by decide +kernel)
theorem x_1492 : Cond.static yX12_isLetter ∈ gtb := mem_g 1492 (by decide +kernel) (by decide +kernel)
set_option maxRecDepth 100000 in
theorem x_1493 : Cond.code yX12_isLetter cX12_isLetter 1 (some .boolean) ∈ gtb := mem_g 1493 (by rfl) (by decide +kernel)
theorem x_1494 : Cond.methodLink RX12 135 yX12_isDigit ∈ gtb := mem_g 1494 (by decide +kernel) (by decide +kernel)
theorem x_1495 : Cond.static yX12_isDigit ∈ gtb := mem_g 1495 (by decide +kernel) (by decide +kernel)
set_option maxRecDepth 100000 in
theorem x_1496 : Cond.code yX12_isDigit cX12_isDigit 1 (some .boolean) ∈ gtb := mem_g 1496 (by rfl) (by decide +kernel)
theorem x_1497 : Cond.methodLink RX12 145 yX12_byteAt ∈ gtb := mem_g 1497 (by decide +kernel) (by decide +kernel)
theorem x_1499 : Cond.instanceMethod yX12_byteAt ∈ gtb := mem_g 1499 (by decide +kernel) (by decide +kernel)
set_option maxRecDepth 100000 in
theorem x_1500 : Cond.code yX12_byteAt cX12_byteAt 2 (some .int) ∈ gtb := mem_g 1500 (by rfl) (by decide +kernel)
theorem x_1501 : Cond.constantLong RX12 149 (27 : Int64) ∈ gtb := mem_g 1501 (by decide +kernel) (by decide +kernel)
theorem x_1502 : Cond.constantLong RX12 151 (96 : Int64) ∈ gtb := mem_g 1502 (by decide +kernel) (by decide +kernel)
theorem x_1503 : Cond.methodLink RX12 210 yX12_readLine ∈ gtb := mem_g 1503 (by decide +kernel) (by decide +kernel)
theorem x_1505 : Cond.instanceMethod yX12_readLine ∈ gtb := mem_g 1505 (by decide +kernel) (by decide +kernel)
set_option maxRecDepth 100000 in
theorem x_1506 : Cond.code yX12_readLine cX12_readLine 2 (some .boolean) ∈ gtb := mem_g 1506 (by rfl) (by decide +kernel)
theorem x_1507 : Cond.methodLink RX12 214 yX12_isCar ∈ gtb := mem_g 1507 (by decide +kernel) (by decide +kernel)
theorem x_1509 : Cond.instanceMethod yX12_isCar ∈ gtb := mem_g 1509 (by decide +kernel) (by decide +kernel)
set_option maxRecDepth 100000 in
theorem x_1510 : Cond.code yX12_isCar cX12_isCar 1 (some .boolean) ∈ gtb := mem_g 1510 (by rfl) (by decide +kernel)
theorem x_1511 : Cond.methodLink RX12 176 yX12_spelt ∈ gtb := mem_g 1511 (by decide +kernel) (by decide +kernel)
theorem x_1512 : Cond.static yX12_spelt ∈ gtb := mem_g 1512 (by decide +kernel) (by decide +kernel)
set_option maxRecDepth 100000 in
theorem x_1513 : Cond.code yX12_spelt cX12_spelt 7 (some .long) ∈ gtb := mem_g 1513 (by rfl) (by decide +kernel)
theorem x_1514 : Cond.methodLink RX12 180 yX12_isKey ∈ gtb := mem_g 1514 (by decide +kernel) (by decide +kernel)
theorem x_1516 : Cond.instanceMethod yX12_isKey ∈ gtb := mem_g 1516 (by decide +kernel) (by decide +kernel)
set_option maxRecDepth 100000 in
theorem x_1517 : Cond.code yX12_isKey cX12_isKey 3 (some .boolean) ∈ gtb := mem_g 1517 (by rfl) (by decide +kernel)
theorem x_1518 : Cond.methodLink RX12 217 yX12_readCar ∈ gtb := mem_g 1518 (by decide +kernel) (by decide +kernel)
theorem x_1520 : Cond.instanceMethod yX12_readCar ∈ gtb := mem_g 1520 (by decide +kernel) (by decide +kernel)
set_option maxRecDepth 100000 in
theorem x_1521 : Cond.code yX12_readCar cX12_readCar 6 (some .boolean) ∈ gtb := mem_g 1521 (by rfl) (by decide +kernel)
theorem x_1522 : Cond.methodLink RX12 159 yX12_bad ∈ gtb := mem_g 1522 (by decide +kernel) (by decide +kernel)
theorem x_1524 : Cond.instanceMethod yX12_bad ∈ gtb := mem_g 1524 (by decide +kernel) (by decide +kernel)
set_option maxRecDepth 100000 in
theorem x_1525 : Cond.code yX12_bad cX12_bad 2 (some .boolean) ∈ gtb := mem_g 1525 (by rfl) (by decide +kernel)
theorem x_1526 : Cond.methodLink RX12 187 yX12_readNumber ∈ gtb := mem_g 1526 (by decide +kernel) (by decide +kernel)
theorem x_1528 : Cond.instanceMethod yX12_readNumber ∈ gtb := mem_g 1528 (by decide +kernel) (by decide +kernel)
set_option maxRecDepth 100000 in
theorem x_1529 : Cond.code yX12_readNumber cX12_readNumber 3 (some .boolean) ∈ gtb := mem_g 1529 (by rfl) (by decide +kernel)
theorem x_1530 : Cond.methodLink RX12 162 yX12_isIn ∈ gtb := mem_g 1530 (by decide +kernel) (by decide +kernel)
theorem x_1531 : Cond.static yX12_isIn ∈ gtb := mem_g 1531 (by decide +kernel) (by decide +kernel)
set_option maxRecDepth 100000 in
theorem x_1532 : Cond.code yX12_isIn cX12_isIn 3 (some .boolean) ∈ gtb := mem_g 1532 (by rfl) (by decide +kernel)
theorem x_1533 : Cond.methodLink RX12 191 yX12_optionAtHand ∈ gtb := mem_g 1533 (by decide +kernel) (by decide +kernel)
theorem x_1535 : Cond.instanceMethod yX12_optionAtHand ∈ gtb := mem_g 1535 (by decide +kernel) (by decide +kernel)
set_option maxRecDepth 100000 in
theorem x_1536 : Cond.code yX12_optionAtHand cX12_optionAtHand 1 (some .int) ∈ gtb := mem_g 1536 (by rfl) (by decide +kernel)
theorem x_1537 : Cond.methodLink RX12 195 yX12_readOption ∈ gtb := mem_g 1537 (by decide +kernel) (by decide +kernel)
theorem x_1539 : Cond.instanceMethod yX12_readOption ∈ gtb := mem_g 1539 (by decide +kernel) (by decide +kernel)
set_option maxRecDepth 100000 in
theorem x_1540 : Cond.code yX12_readOption cX12_readOption 4 (some .boolean) ∈ gtb := mem_g 1540 (by rfl) (by decide +kernel)
theorem x_1541 : Cond.methodLink RX12 220 yX12_readEnd ∈ gtb := mem_g 1541 (by decide +kernel) (by decide +kernel)
theorem x_1543 : Cond.instanceMethod yX12_readEnd ∈ gtb := mem_g 1543 (by decide +kernel) (by decide +kernel)
set_option maxRecDepth 100000 in
theorem x_1544 : Cond.code yX12_readEnd cX12_readEnd 1 (some .boolean) ∈ gtb := mem_g 1544 (by rfl) (by decide +kernel)
theorem x_1545 : Cond.methodLink RX12 223 yX12_isFull ∈ gtb := mem_g 1545 (by decide +kernel) (by decide +kernel)
theorem x_1547 : Cond.instanceMethod yX12_isFull ∈ gtb := mem_g 1547 (by decide +kernel) (by decide +kernel)
set_option maxRecDepth 100000 in
theorem x_1548 : Cond.code yX12_isFull cX12_isFull 1 (some .boolean) ∈ gtb := mem_g 1548 (by rfl) (by decide +kernel)
theorem x_1549 : Cond.methodLink RX12 226 yX12_isFeed ∈ gtb := mem_g 1549 (by decide +kernel) (by decide +kernel)
theorem x_1551 : Cond.instanceMethod yX12_isFeed ∈ gtb := mem_g 1551 (by decide +kernel) (by decide +kernel)
set_option maxRecDepth 100000 in
theorem x_1552 : Cond.code yX12_isFeed cX12_isFeed 1 (some .boolean) ∈ gtb := mem_g 1552 (by rfl) (by decide +kernel)
theorem x_1553 : Cond.methodLink "TrainPipeLaw" 41 yX12_handle ∈ gtb := mem_g 1553 (by decide +kernel) (by decide +kernel)
theorem x_1554 : Cond.instanceMethod yX12_handle ∈ gtb := mem_g 1554 (by decide +kernel) (by decide +kernel)
theorem x_1555 : Cond.selects RX12 yX12_handle yX12_handle ∈ gtb := mem_g 1555 (by decide +kernel) (by decide +kernel)
set_option maxRecDepth 100000 in
theorem x_1556 : Cond.code yX12_handle cX12_handle 2 (some .int) ∈ gtb := mem_g 1556 (by rfl) (by decide +kernel)
theorem x_1557 : Cond.methodLink RX12 235 yX12_readStep ∈ gtb := mem_g 1557 (by decide +kernel) (by decide +kernel)
theorem x_1559 : Cond.instanceMethod yX12_readStep ∈ gtb := mem_g 1559 (by decide +kernel) (by decide +kernel)
set_option maxRecDepth 100000 in
theorem x_1560 : Cond.code yX12_readStep cX12_readStep 4 (some .boolean) ∈ gtb := mem_g 1560 (by rfl) (by decide +kernel)
theorem x_1561 : Cond.methodLink "TrainPipeLaw" 45 yX12_fault ∈ gtb := mem_g 1561 (by decide +kernel) (by decide +kernel)
theorem x_1562 : Cond.instanceMethod yX12_fault ∈ gtb := mem_g 1562 (by decide +kernel) (by decide +kernel)
theorem x_1563 : Cond.selects RX12 yX12_fault yX12_fault ∈ gtb := mem_g 1563 (by decide +kernel) (by decide +kernel)
set_option maxRecDepth 100000 in
theorem x_1564 : Cond.code yX12_fault cX12_fault 1 (some .int) ∈ gtb := mem_g 1564 (by rfl) (by decide +kernel)
theorem x_1565 : Cond.methodLink "TrainPipeLaw" 51 yX12_car ∈ gtb := mem_g 1565 (by decide +kernel) (by decide +kernel)
theorem x_1566 : Cond.instanceMethod yX12_car ∈ gtb := mem_g 1566 (by decide +kernel) (by decide +kernel)
theorem x_1567 : Cond.selects RX12 yX12_car yX12_car ∈ gtb := mem_g 1567 (by decide +kernel) (by decide +kernel)
set_option maxRecDepth 100000 in
theorem x_1568 : Cond.code yX12_car cX12_car 3 (some .int) ∈ gtb := mem_g 1568 (by rfl) (by decide +kernel)
theorem x_1569 : Cond.methodLink RX12 244 yX12_refuse ∈ gtb := mem_g 1569 (by decide +kernel) (by decide +kernel)
theorem x_1571 : Cond.instanceMethod yX12_refuse ∈ gtb := mem_g 1571 (by decide +kernel) (by decide +kernel)
set_option maxRecDepth 100000 in
theorem x_1572 : Cond.code yX12_refuse cX12_refuse 1 (some .int) ∈ gtb := mem_g 1572 (by rfl) (by decide +kernel)
theorem x_1573 : Cond.methodLink "TrainPipeLaw" 58 yX12_at ∈ gtb := mem_g 1573 (by decide +kernel) (by decide +kernel)
theorem x_1574 : Cond.instanceMethod yX12_at ∈ gtb := mem_g 1574 (by decide +kernel) (by decide +kernel)
theorem x_1575 : Cond.selects RX12 yX12_at yX12_at ∈ gtb := mem_g 1575 (by decide +kernel) (by decide +kernel)
set_option maxRecDepth 100000 in
theorem x_1576 : Cond.code yX12_at cX12_at 4 (some .int) ∈ gtb := mem_g 1576 (by rfl) (by decide +kernel)
theorem x_1577 : Cond.methodLink RX12 284 yX12_take_ ∈ gtb := mem_g 1577 (by decide +kernel) (by decide +kernel)
theorem x_1579 : Cond.instanceMethod yX12_take_ ∈ gtb := mem_g 1579 (by decide +kernel) (by decide +kernel)
set_option maxRecDepth 100000 in
theorem x_1580 : Cond.code yX12_take_ cX12_take_ 4 none ∈ gtb := mem_g 1580 (by rfl) (by decide +kernel)
theorem x_1581 : Cond.methodLink RX12 287 yX12_playTo ∈ gtb := mem_g 1581 (by decide +kernel) (by decide +kernel)
theorem x_1583 : Cond.instanceMethod yX12_playTo ∈ gtb := mem_g 1583 (by decide +kernel) (by decide +kernel)
set_option maxRecDepth 100000 in
theorem x_1584 : Cond.code yX12_playTo cX12_playTo 3 none ∈ gtb := mem_g 1584 (by rfl) (by decide +kernel)
theorem x_1585 : Cond.methodLink RX12 278 yX12_begin ∈ gtb := mem_g 1585 (by decide +kernel) (by decide +kernel)
theorem x_1587 : Cond.instanceMethod yX12_begin ∈ gtb := mem_g 1587 (by decide +kernel) (by decide +kernel)
set_option maxRecDepth 100000 in
theorem x_1588 : Cond.code yX12_begin cX12_begin 2 none ∈ gtb := mem_g 1588 (by rfl) (by decide +kernel)
theorem x_1589 : Cond.methodLink RX12 281 yX12_tick ∈ gtb := mem_g 1589 (by decide +kernel) (by decide +kernel)
theorem x_1591 : Cond.instanceMethod yX12_tick ∈ gtb := mem_g 1591 (by decide +kernel) (by decide +kernel)
set_option maxRecDepth 100000 in
theorem x_1592 : Cond.code yX12_tick cX12_tick 6 none ∈ gtb := mem_g 1592 (by rfl) (by decide +kernel)
theorem x_1593 : Cond.methodLink RX12 268 yX12_stepAt ∈ gtb := mem_g 1593 (by decide +kernel) (by decide +kernel)
theorem x_1595 : Cond.instanceMethod yX12_stepAt ∈ gtb := mem_g 1595 (by decide +kernel) (by decide +kernel)
set_option maxRecDepth 100000 in
theorem x_1596 : Cond.code yX12_stepAt cX12_stepAt 4 (some .int) ∈ gtb := mem_g 1596 (by rfl) (by decide +kernel)
theorem x_1597 : Cond.methodLink RX12 271 yX12_act ∈ gtb := mem_g 1597 (by decide +kernel) (by decide +kernel)
theorem x_1599 : Cond.instanceMethod yX12_act ∈ gtb := mem_g 1599 (by decide +kernel) (by decide +kernel)
set_option maxRecDepth 100000 in
theorem x_1600 : Cond.code yX12_act cX12_act 4 none ∈ gtb := mem_g 1600 (by rfl) (by decide +kernel)
theorem x_1601 : Cond.methodLink RX12 275 yX12_valve ∈ gtb := mem_g 1601 (by decide +kernel) (by decide +kernel)
theorem x_1603 : Cond.instanceMethod yX12_valve ∈ gtb := mem_g 1603 (by decide +kernel) (by decide +kernel)
set_option maxRecDepth 100000 in
theorem x_1604 : Cond.code yX12_valve cX12_valve 6 none ∈ gtb := mem_g 1604 (by rfl) (by decide +kernel)
theorem x_1605 : Cond.methodLink RX12 259 yX12_sense ∈ gtb := mem_g 1605 (by decide +kernel) (by decide +kernel)
theorem x_1606 : Cond.static yX12_sense ∈ gtb := mem_g 1606 (by decide +kernel) (by decide +kernel)
set_option maxRecDepth 100000 in
theorem x_1607 : Cond.code yX12_sense cX12_sense 1 (some .int) ∈ gtb := mem_g 1607 (by rfl) (by decide +kernel)
theorem x_1608 : Cond.methodLink RX12 262 yX12_rate ∈ gtb := mem_g 1608 (by decide +kernel) (by decide +kernel)
theorem x_1609 : Cond.static yX12_rate ∈ gtb := mem_g 1609 (by decide +kernel) (by decide +kernel)
set_option maxRecDepth 100000 in
theorem x_1610 : Cond.code yX12_rate cX12_rate 1 (some .int) ∈ gtb := mem_g 1610 (by rfl) (by decide +kernel)
theorem x_1611 : Cond.methodLink RX12 265 yX12_ease ∈ gtb := mem_g 1611 (by decide +kernel) (by decide +kernel)
theorem x_1612 : Cond.static yX12_ease ∈ gtb := mem_g 1612 (by decide +kernel) (by decide +kernel)
set_option maxRecDepth 100000 in
theorem x_1613 : Cond.code yX12_ease cX12_ease 1 (some .int) ∈ gtb := mem_g 1613 (by rfl) (by decide +kernel)
theorem x_1614 : Cond.methodLink "TrainPipeLaw" 63 yX12_hears ∈ gtb := mem_g 1614 (by decide +kernel) (by decide +kernel)
theorem x_1615 : Cond.instanceMethod yX12_hears ∈ gtb := mem_g 1615 (by decide +kernel) (by decide +kernel)
theorem x_1616 : Cond.selects RX12 yX12_hears yX12_hears ∈ gtb := mem_g 1616 (by decide +kernel) (by decide +kernel)
set_option maxRecDepth 100000 in
theorem x_1617 : Cond.code yX12_hears cX12_hears 3 (some .int) ∈ gtb := mem_g 1617 (by rfl) (by decide +kernel)
theorem x_1618 : Cond.methodLink "TrainPipeLaw" 67 yX12_easy ∈ gtb := mem_g 1618 (by decide +kernel) (by decide +kernel)
theorem x_1619 : Cond.instanceMethod yX12_easy ∈ gtb := mem_g 1619 (by decide +kernel) (by decide +kernel)
theorem x_1620 : Cond.selects RX12 yX12_easy yX12_easy ∈ gtb := mem_g 1620 (by decide +kernel) (by decide +kernel)
set_option maxRecDepth 100000 in
theorem x_1621 : Cond.code yX12_easy cX12_easy 5 (some .int) ∈ gtb := mem_g 1621 (by rfl) (by decide +kernel)
theorem x_1622 : Cond.methodLink "TrainPipeLaw" 71 yX12_run ∈ gtb := mem_g 1622 (by decide +kernel) (by decide +kernel)
theorem x_1623 : Cond.instanceMethod yX12_run ∈ gtb := mem_g 1623 (by decide +kernel) (by decide +kernel)
theorem x_1624 : Cond.selects RX12 yX12_run yX12_run ∈ gtb := mem_g 1624 (by decide +kernel) (by decide +kernel)
set_option maxRecDepth 100000 in
theorem x_1625 : Cond.code yX12_run cX12_run 5 (some .int) ∈ gtb := mem_g 1625 (by rfl) (by decide +kernel)
theorem x_1626 : Cond.methodLink RX12 299 yX12_isRun ∈ gtb := mem_g 1626 (by decide +kernel) (by decide +kernel)
theorem x_1627 : Cond.static yX12_isRun ∈ gtb := mem_g 1627 (by decide +kernel) (by decide +kernel)
set_option maxRecDepth 100000 in
theorem x_1628 : Cond.code yX12_isRun cX12_isRun 3 (some .boolean) ∈ gtb := mem_g 1628 (by rfl) (by decide +kernel)
theorem x_1629 : Cond.methodLink RX12 302 yX12_span ∈ gtb := mem_g 1629 (by decide +kernel) (by decide +kernel)
theorem x_1631 : Cond.instanceMethod yX12_span ∈ gtb := mem_g 1631 (by decide +kernel) (by decide +kernel)
set_option maxRecDepth 100000 in
theorem x_1632 : Cond.code yX12_span cX12_span 8 (some .int) ∈ gtb := mem_g 1632 (by rfl) (by decide +kernel)
theorem x_1633 : Cond.methodLink "TrainPipeLaw" 75 yX12_ran ∈ gtb := mem_g 1633 (by decide +kernel) (by decide +kernel)
theorem x_1634 : Cond.instanceMethod yX12_ran ∈ gtb := mem_g 1634 (by decide +kernel) (by decide +kernel)
theorem x_1635 : Cond.selects RX12 yX12_ran yX12_ran ∈ gtb := mem_g 1635 (by decide +kernel) (by decide +kernel)
set_option maxRecDepth 100000 in
theorem x_1636 : Cond.code yX12_ran cX12_ran 2 (some .int) ∈ gtb := mem_g 1636 (by rfl) (by decide +kernel)
theorem x_1637 : Cond.methodLink "TrainPipeLaw" 80 yX12_help ∈ gtb := mem_g 1637 (by decide +kernel) (by decide +kernel)
theorem x_1638 : Cond.instanceMethod yX12_help ∈ gtb := mem_g 1638 (by decide +kernel) (by decide +kernel)
theorem x_1639 : Cond.selects RX12 yX12_help yX12_help ∈ gtb := mem_g 1639 (by decide +kernel) (by decide +kernel)
set_option maxRecDepth 100000 in
theorem x_1640 : Cond.code yX12_help cX12_help 6 (some .int) ∈ gtb := mem_g 1640 (by rfl) (by decide +kernel)
theorem x_1641 : Cond.methodLink RX12 318 yX12_isWithin ∈ gtb := mem_g 1641 (by decide +kernel) (by decide +kernel)
theorem x_1642 : Cond.static yX12_isWithin ∈ gtb := mem_g 1642 (by decide +kernel) (by decide +kernel)
set_option maxRecDepth 100000 in
theorem x_1643 : Cond.code yX12_isWithin cX12_isWithin 2 (some .boolean) ∈ gtb := mem_g 1643 (by rfl) (by decide +kernel)
theorem x_1644 : Cond.methodLink "TrainPipeLaw" 84 yX12_parted ∈ gtb := mem_g 1644 (by decide +kernel) (by decide +kernel)
theorem x_1645 : Cond.instanceMethod yX12_parted ∈ gtb := mem_g 1645 (by decide +kernel) (by decide +kernel)
theorem x_1646 : Cond.selects RX12 yX12_parted yX12_parted ∈ gtb := mem_g 1646 (by decide +kernel) (by decide +kernel)
set_option maxRecDepth 100000 in
theorem x_1647 : Cond.code yX12_parted cX12_parted 6 (some .int) ∈ gtb := mem_g 1647 (by rfl) (by decide +kernel)
theorem x_1648 : Cond.methodLink "TrainPipeLaw" 88 yX12_order ∈ gtb := mem_g 1648 (by decide +kernel) (by decide +kernel)
theorem x_1649 : Cond.instanceMethod yX12_order ∈ gtb := mem_g 1649 (by decide +kernel) (by decide +kernel)
theorem x_1650 : Cond.selects RX12 yX12_order yX12_order ∈ gtb := mem_g 1650 (by decide +kernel) (by decide +kernel)
set_option maxRecDepth 100000 in
theorem x_1651 : Cond.code yX12_order cX12_order 9 (some .int) ∈ gtb := mem_g 1651 (by rfl) (by decide +kernel)
theorem x_1652 : Cond.constant RX12 324 (1000000000 : Int32) ∈ gtb := mem_g 1652 (by decide +kernel) (by decide +kernel)
theorem x_1653 : Cond.methodLink RX12 325 yX12_goOn ∈ gtb := mem_g 1653 (by decide +kernel) (by decide +kernel)
theorem x_1655 : Cond.instanceMethod yX12_goOn ∈ gtb := mem_g 1655 (by decide +kernel) (by decide +kernel)
set_option maxRecDepth 100000 in
theorem x_1656 : Cond.code yX12_goOn cX12_goOn 5 (some .boolean) ∈ gtb := mem_g 1656 (by rfl) (by decide +kernel)
theorem x_1657 : Cond.methodLink RX12 328 yX12_exchange ∈ gtb := mem_g 1657 (by decide +kernel) (by decide +kernel)
theorem x_1659 : Cond.instanceMethod yX12_exchange ∈ gtb := mem_g 1659 (by decide +kernel) (by decide +kernel)
set_option maxRecDepth 100000 in
theorem x_1660 : Cond.code yX12_exchange cX12_exchange 4 none ∈ gtb := mem_g 1660 (by rfl) (by decide +kernel)
theorem x_1661 : Cond.methodLink "TrainPipeLaw" 92 yX12_ordered ∈ gtb := mem_g 1661 (by decide +kernel) (by decide +kernel)
theorem x_1662 : Cond.instanceMethod yX12_ordered ∈ gtb := mem_g 1662 (by decide +kernel) (by decide +kernel)
theorem x_1663 : Cond.selects RX12 yX12_ordered yX12_ordered ∈ gtb := mem_g 1663 (by decide +kernel) (by decide +kernel)
set_option maxRecDepth 100000 in
theorem x_1664 : Cond.code yX12_ordered cX12_ordered 2 (some .int) ∈ gtb := mem_g 1664 (by rfl) (by decide +kernel)
theorem x_1665 : Cond.methodLink "TrainPipeLaw" 96 yX12_cut ∈ gtb := mem_g 1665 (by decide +kernel) (by decide +kernel)
theorem x_1666 : Cond.instanceMethod yX12_cut ∈ gtb := mem_g 1666 (by decide +kernel) (by decide +kernel)
theorem x_1667 : Cond.selects RX12 yX12_cut yX12_cut ∈ gtb := mem_g 1667 (by decide +kernel) (by decide +kernel)
set_option maxRecDepth 100000 in
theorem x_1668 : Cond.code yX12_cut cX12_cut 11 (some .int) ∈ gtb := mem_g 1668 (by rfl) (by decide +kernel)
theorem x_1669 : Cond.methodLink "TrainPipeLaw" 100 yX12_fits ∈ gtb := mem_g 1669 (by decide +kernel) (by decide +kernel)
theorem x_1670 : Cond.instanceMethod yX12_fits ∈ gtb := mem_g 1670 (by decide +kernel) (by decide +kernel)
theorem x_1671 : Cond.selects RX12 yX12_fits yX12_fits ∈ gtb := mem_g 1671 (by decide +kernel) (by decide +kernel)
set_option maxRecDepth 100000 in
theorem x_1672 : Cond.code yX12_fits cX12_fits 5 (some .int) ∈ gtb := mem_g 1672 (by rfl) (by decide +kernel)
theorem x_1673 : Cond.methodLink RX12 341 yX12_two ∈ gtb := mem_g 1673 (by decide +kernel) (by decide +kernel)
theorem x_1675 : Cond.instanceMethod yX12_two ∈ gtb := mem_g 1675 (by decide +kernel) (by decide +kernel)
set_option maxRecDepth 100000 in
theorem x_1676 : Cond.code yX12_two cX12_two 2 (some .int) ∈ gtb := mem_g 1676 (by rfl) (by decide +kernel)
theorem x_1677 : Cond.methodLink RX12 347 yX12_guess ∈ gtb := mem_g 1677 (by decide +kernel) (by decide +kernel)
theorem x_1679 : Cond.instanceMethod yX12_guess ∈ gtb := mem_g 1679 (by decide +kernel) (by decide +kernel)
set_option maxRecDepth 100000 in
theorem x_1680 : Cond.code yX12_guess cX12_guess 4 none ∈ gtb := mem_g 1680 (by rfl) (by decide +kernel)
theorem x_1681 : Cond.methodLink RX12 350 yX12_fitsGauges ∈ gtb := mem_g 1681 (by decide +kernel) (by decide +kernel)
theorem x_1683 : Cond.instanceMethod yX12_fitsGauges ∈ gtb := mem_g 1683 (by decide +kernel) (by decide +kernel)
set_option maxRecDepth 100000 in
theorem x_1684 : Cond.code yX12_fitsGauges cX12_fitsGauges 6 (some .boolean) ∈ gtb := mem_g 1684 (by rfl) (by decide +kernel)
theorem x_1685 : Cond.methodLink RX12 335 yX12_isNear ∈ gtb := mem_g 1685 (by decide +kernel) (by decide +kernel)
theorem x_1686 : Cond.static yX12_isNear ∈ gtb := mem_g 1686 (by decide +kernel) (by decide +kernel)
set_option maxRecDepth 100000 in
theorem x_1687 : Cond.code yX12_isNear cX12_isNear 3 (some .boolean) ∈ gtb := mem_g 1687 (by rfl) (by decide +kernel)
theorem x_1688 : Cond.methodLink RX12 338 yX12_hotNow ∈ gtb := mem_g 1688 (by decide +kernel) (by decide +kernel)
theorem x_1690 : Cond.instanceMethod yX12_hotNow ∈ gtb := mem_g 1690 (by decide +kernel) (by decide +kernel)
set_option maxRecDepth 100000 in
theorem x_1691 : Cond.code yX12_hotNow cX12_hotNow 3 (some .int) ∈ gtb := mem_g 1691 (by rfl) (by decide +kernel)
theorem x_1692 : Cond.methodLink "TrainPipeLaw" 104 yX12_fitAt ∈ gtb := mem_g 1692 (by decide +kernel) (by decide +kernel)
theorem x_1693 : Cond.instanceMethod yX12_fitAt ∈ gtb := mem_g 1693 (by decide +kernel) (by decide +kernel)
theorem x_1694 : Cond.selects RX12 yX12_fitAt yX12_fitAt ∈ gtb := mem_g 1694 (by decide +kernel) (by decide +kernel)
set_option maxRecDepth 100000 in
theorem x_1695 : Cond.code yX12_fitAt cX12_fitAt 2 (some .int) ∈ gtb := mem_g 1695 (by rfl) (by decide +kernel)
theorem x_1696 : Cond.methodLink "TrainPipeLaw" 108 yX12_walks ∈ gtb := mem_g 1696 (by decide +kernel) (by decide +kernel)
theorem x_1697 : Cond.instanceMethod yX12_walks ∈ gtb := mem_g 1697 (by decide +kernel) (by decide +kernel)
theorem x_1698 : Cond.selects RX12 yX12_walks yX12_walks ∈ gtb := mem_g 1698 (by decide +kernel) (by decide +kernel)
set_option maxRecDepth 100000 in
theorem x_1699 : Cond.code yX12_walks cX12_walks 5 (some .int) ∈ gtb := mem_g 1699 (by rfl) (by decide +kernel)
theorem x_1700 : Cond.methodLink RX12 362 yX12_bits ∈ gtb := mem_g 1700 (by decide +kernel) (by decide +kernel)
theorem x_1701 : Cond.static yX12_bits ∈ gtb := mem_g 1701 (by decide +kernel) (by decide +kernel)
set_option maxRecDepth 100000 in
theorem x_1702 : Cond.code yX12_bits cX12_bits 3 (some .int) ∈ gtb := mem_g 1702 (by rfl) (by decide +kernel)
theorem x_1703 : Cond.methodLink RX12 365 yX12_parts ∈ gtb := mem_g 1703 (by decide +kernel) (by decide +kernel)
theorem x_1705 : Cond.instanceMethod yX12_parts ∈ gtb := mem_g 1705 (by decide +kernel) (by decide +kernel)
set_option maxRecDepth 100000 in
theorem x_1706 : Cond.code yX12_parts cX12_parts 4 (some .boolean) ∈ gtb := mem_g 1706 (by rfl) (by decide +kernel)
theorem x_1707 : Cond.methodLink "TrainPipeLaw" 112 yX12_walked ∈ gtb := mem_g 1707 (by decide +kernel) (by decide +kernel)
theorem x_1708 : Cond.instanceMethod yX12_walked ∈ gtb := mem_g 1708 (by decide +kernel) (by decide +kernel)
theorem x_1709 : Cond.selects RX12 yX12_walked yX12_walked ∈ gtb := mem_g 1709 (by decide +kernel) (by decide +kernel)
set_option maxRecDepth 100000 in
theorem x_1710 : Cond.code yX12_walked cX12_walked 2 (some .int) ∈ gtb := mem_g 1710 (by rfl) (by decide +kernel)
theorem x_1711 : Cond.methodLink "TrainPipeLaw" 117 yX12_day ∈ gtb := mem_g 1711 (by decide +kernel) (by decide +kernel)
theorem x_1712 : Cond.instanceMethod yX12_day ∈ gtb := mem_g 1712 (by decide +kernel) (by decide +kernel)
theorem x_1713 : Cond.selects RX12 yX12_day yX12_day ∈ gtb := mem_g 1713 (by decide +kernel) (by decide +kernel)
set_option maxRecDepth 100000 in
theorem x_1714 : Cond.code yX12_day cX12_day 4 (some .int) ∈ gtb := mem_g 1714 (by rfl) (by decide +kernel)
theorem x_1715 : Cond.methodLink RX12 374 yX12_wagons ∈ gtb := mem_g 1715 (by decide +kernel) (by decide +kernel)
theorem x_1717 : Cond.instanceMethod yX12_wagons ∈ gtb := mem_g 1717 (by decide +kernel) (by decide +kernel)
set_option maxRecDepth 100000 in
theorem x_1718 : Cond.code yX12_wagons cX12_wagons 5 (some .long) ∈ gtb := mem_g 1718 (by rfl) (by decide +kernel)
theorem x_1719 : Cond.methodLink "TrainPipeLaw" 121 yX12_mended ∈ gtb := mem_g 1719 (by decide +kernel) (by decide +kernel)
theorem x_1720 : Cond.instanceMethod yX12_mended ∈ gtb := mem_g 1720 (by decide +kernel) (by decide +kernel)
theorem x_1721 : Cond.selects RX12 yX12_mended yX12_mended ∈ gtb := mem_g 1721 (by decide +kernel) (by decide +kernel)
set_option maxRecDepth 100000 in
theorem x_1722 : Cond.code yX12_mended cX12_mended 2 (some .boolean) ∈ gtb := mem_g 1722 (by rfl) (by decide +kernel)
theorem x_1723 : Cond.methodLink "TrainPipeLaw" 125 yX12_suspects ∈ gtb := mem_g 1723 (by decide +kernel) (by decide +kernel)
theorem x_1724 : Cond.instanceMethod yX12_suspects ∈ gtb := mem_g 1724 (by decide +kernel) (by decide +kernel)
theorem x_1725 : Cond.selects RX12 yX12_suspects yX12_suspects ∈ gtb := mem_g 1725 (by decide +kernel) (by decide +kernel)
set_option maxRecDepth 100000 in
theorem x_1726 : Cond.code yX12_suspects cX12_suspects 3 (some .int) ∈ gtb := mem_g 1726 (by rfl) (by decide +kernel)
theorem x_1727 : Cond.methodLink RX12 387 yX12_latest ∈ gtb := mem_g 1727 (by decide +kernel) (by decide +kernel)
theorem x_1729 : Cond.instanceMethod yX12_latest ∈ gtb := mem_g 1729 (by decide +kernel) (by decide +kernel)
set_option maxRecDepth 100000 in
theorem x_1730 : Cond.code yX12_latest cX12_latest 4 (some .int) ∈ gtb := mem_g 1730 (by rfl) (by decide +kernel)
theorem x_1731 : Cond.methodLink RX12 381 yX12_makes ∈ gtb := mem_g 1731 (by decide +kernel) (by decide +kernel)
theorem x_1733 : Cond.instanceMethod yX12_makes ∈ gtb := mem_g 1733 (by decide +kernel) (by decide +kernel)
set_option maxRecDepth 100000 in
theorem x_1734 : Cond.code yX12_makes cX12_makes 8 (some .boolean) ∈ gtb := mem_g 1734 (by rfl) (by decide +kernel)
theorem x_1735 : Cond.methodLink "TrainPipeLaw" 129 yX12_suspect ∈ gtb := mem_g 1735 (by decide +kernel) (by decide +kernel)
theorem x_1736 : Cond.instanceMethod yX12_suspect ∈ gtb := mem_g 1736 (by decide +kernel) (by decide +kernel)
theorem x_1737 : Cond.selects RX12 yX12_suspect yX12_suspect ∈ gtb := mem_g 1737 (by decide +kernel) (by decide +kernel)
set_option maxRecDepth 100000 in
theorem x_1738 : Cond.code yX12_suspect cX12_suspect 2 (some .int) ∈ gtb := mem_g 1738 (by rfl) (by decide +kernel)
theorem x_1739 : Cond.methodLink "TrainPipeLaw" 133 yX12_next ∈ gtb := mem_g 1739 (by decide +kernel) (by decide +kernel)
theorem x_1740 : Cond.instanceMethod yX12_next ∈ gtb := mem_g 1740 (by decide +kernel) (by decide +kernel)
theorem x_1741 : Cond.selects RX12 yX12_next yX12_next ∈ gtb := mem_g 1741 (by decide +kernel) (by decide +kernel)
set_option maxRecDepth 100000 in
theorem x_1742 : Cond.code yX12_next cX12_next 9 (some .int) ∈ gtb := mem_g 1742 (by rfl) (by decide +kernel)
theorem x_1743 : Cond.methodLink "TrainPipeLaw" 137 yX12_count ∈ gtb := mem_g 1743 (by decide +kernel) (by decide +kernel)
theorem x_1744 : Cond.instanceMethod yX12_count ∈ gtb := mem_g 1744 (by decide +kernel) (by decide +kernel)
theorem x_1745 : Cond.selects RX12 yX12_count yX12_count ∈ gtb := mem_g 1745 (by decide +kernel) (by decide +kernel)
set_option maxRecDepth 100000 in
theorem x_1746 : Cond.code yX12_count cX12_count 4 (some .int) ∈ gtb := mem_g 1746 (by rfl) (by decide +kernel)
theorem x_1764 : Cond.fieldLink "java/lang/String" 9 "java/lang/String" "value" "[B" ∈ gtb := mem_g 1764 (by decide +kernel) (by decide +kernel)
theorem x_1765 : Cond.fieldLink "java/lang/String" 15 "java/lang/String" "coder" "B" ∈ gtb := mem_g 1765 (by decide +kernel) (by decide +kernel)
def M_X0_start : Md := (yX0_start, cX0_start, 3, none, { frames := 0, cells := 0, slots := 0, locals := 0 })
theorem m_X0_start : M_X0_start.ok := ⟨by decide, by decide, by decide, x_79, x_790, rfl, rfl⟩
def M_X0_copyFrom : Md := (yX0_copyFrom, cX0_copyFrom, 2, none, { frames := 1, cells := 0, slots := 0, locals := 26 })
theorem m_X0_copyFrom : M_X0_copyFrom.ok := ⟨by decide, by decide, by decide, x_79, x_899, rfl, rfl⟩
def M_X0_dumpFromNowOn : Md := (yX0_dumpFromNowOn, cX0_dumpFromNowOn, 1, none, { frames := 0, cells := 0, slots := 0, locals := 0 })
theorem m_X0_dumpFromNowOn : M_X0_dumpFromNowOn.ok := ⟨by decide, by decide, by decide, x_79, x_903, rfl, rfl⟩
def M_X0_partBehind : Md := (yX0_partBehind, cX0_partBehind, 3, none, { frames := 0, cells := 0, slots := 0, locals := 0 })
theorem m_X0_partBehind : M_X0_partBehind.ok := ⟨by decide, by decide, by decide, x_79, x_922, rfl, rfl⟩
def M_X0_measure : Md := (yX0_measure, cX0_measure, 3, (some .int), { frames := 0, cells := 0, slots := 0, locals := 0 })
theorem m_X0_measure : M_X0_measure.ok := ⟨by decide, by decide, by decide, x_79, x_829, rfl, rfl⟩
def M_X0_anyHears : Md := (yX0_anyHears, cX0_anyHears, 3, (some .boolean), { frames := 0, cells := 0, slots := 0, locals := 0 })
theorem m_X0_anyHears : M_X0_anyHears.ok := ⟨by decide, by decide, by decide, x_79, x_837, rfl, rfl⟩
def M_X0_hotSet : Md := (yX0_hotSet, cX0_hotSet, 4, (some .int), { frames := 0, cells := 0, slots := 0, locals := 0 })
theorem m_X0_hotSet : M_X0_hotSet.ok := ⟨by decide, by decide, by decide, x_79, x_1040, rfl, rfl⟩
def M_X0_advance : Md := (yX0_advance, cX0_advance, 8, none, { frames := 2, cells := 0, slots := 0, locals := 48 })
theorem m_X0_advance : M_X0_advance.ok := ⟨by decide, by decide, by decide, x_79, x_794, rfl, rfl⟩
def M_X0_work : Md := (yX0_work, cX0_work, 5, none, { frames := 1, cells := 0, slots := 0, locals := 21 })
theorem m_X0_work : M_X0_work.ok := ⟨by decide, by decide, by decide, x_79, x_811, rfl, rfl⟩
def M_X0_flow : Md := (yX0_flow, cX0_flow, 7, none, { frames := 0, cells := 0, slots := 0, locals := 0 })
theorem m_X0_flow : M_X0_flow.ok := ⟨by decide, by decide, by decide, x_79, x_817, rfl, rfl⟩
def M_X0_moveValve : Md := (yX0_moveValve, cX0_moveValve, 8, (some .boolean), { frames := 1, cells := 0, slots := 0, locals := 21 })
theorem m_X0_moveValve : M_X0_moveValve.ok := ⟨by decide, by decide, by decide, x_79, x_821, rfl, rfl⟩
def M_X0_samePressure : Md := (yX0_samePressure, cX0_samePressure, 3, (some .boolean), { frames := 0, cells := 0, slots := 0, locals := 0 })
theorem m_X0_samePressure : M_X0_samePressure.ok := ⟨by decide, by decide, by decide, x_79, x_825, rfl, rfl⟩
def M_X1_rowOf : Md := (yX1_rowOf, cX1_rowOf, 6, (some .long), { frames := 1, cells := 0, slots := 0, locals := 22 })
theorem m_X1_rowOf : M_X1_rowOf.ok := ⟨by decide, by decide, by decide, x_83, x_1089, rfl, rfl⟩
def M_X1_isWagon : Md := (yX1_isWagon, cX1_isWagon, 1, (some .boolean), { frames := 0, cells := 0, slots := 0, locals := 0 })
theorem m_X1_isWagon : M_X1_isWagon.ok := ⟨by decide, by decide, by decide, x_83, x_1093, rfl, rfl⟩
def M_X1_isIn : Md := (yX1_isIn, cX1_isIn, 3, (some .boolean), { frames := 0, cells := 0, slots := 0, locals := 0 })
theorem m_X1_isIn : M_X1_isIn.ok := ⟨by decide, by decide, by decide, x_83, x_1096, rfl, rfl⟩
def M_X1_addDay : Md := (yX1_addDay, cX1_addDay, 4, (some .int), { frames := 0, cells := 0, slots := 0, locals := 0 })
theorem m_X1_addDay : M_X1_addDay.ok := ⟨by decide, by decide, by decide, x_83, x_1100, rfl, rfl⟩
def M_X1_mend : Md := (yX1_mend, cX1_mend, 2, (some .boolean), { frames := 1, cells := 0, slots := 0, locals := 20 })
theorem m_X1_mend : M_X1_mend.ok := ⟨by decide, by decide, by decide, x_83, x_1108, rfl, rfl⟩
def M_X1_findSuspects : Md := (yX1_findSuspects, cX1_findSuspects, 3, (some .int), { frames := 3, cells := 0, slots := 0, locals := 70 })
theorem m_X1_findSuspects : M_X1_findSuspects.ok := ⟨by decide, by decide, by decide, x_83, x_1116, rfl, rfl⟩
def M_X1_foundAt : Md := (yX1_foundAt, cX1_foundAt, 2, (some .int), { frames := 0, cells := 0, slots := 0, locals := 0 })
theorem m_X1_foundAt : M_X1_foundAt.ok := ⟨by decide, by decide, by decide, x_83, x_1132, rfl, rfl⟩
def M_X1_latestStart : Md := (yX1_latestStart, cX1_latestStart, 4, (some .int), { frames := 2, cells := 0, slots := 0, locals := 47 })
theorem m_X1_latestStart : M_X1_latestStart.ok := ⟨by decide, by decide, by decide, x_83, x_1120, rfl, rfl⟩
def M_X1_explains : Md := (yX1_explains, cX1_explains, 6, (some .boolean), { frames := 1, cells := 0, slots := 0, locals := 22 })
theorem m_X1_explains : M_X1_explains.ok := ⟨by decide, by decide, by decide, x_83, x_1124, rfl, rfl⟩
def M_X1_isBadStill : Md := (yX1_isBadStill, cX1_isBadStill, 4, (some .boolean), { frames := 1, cells := 0, slots := 0, locals := 22 })
theorem m_X1_isBadStill : M_X1_isBadStill.ok := ⟨by decide, by decide, by decide, x_83, x_1144, rfl, rfl⟩
def M_X1_foresee : Md := (yX1_foresee, cX1_foresee, 7, (some .int), { frames := 3, cells := 0, slots := 0, locals := 70 })
theorem m_X1_foresee : M_X1_foresee.ok := ⟨by decide, by decide, by decide, x_83, x_1140, rfl, rfl⟩
def M_X2_readGauges : Md := (yX2_readGauges, cX2_readGauges, 6, (some .boolean), { frames := 2, cells := 0, slots := 0, locals := 42 })
theorem m_X2_readGauges : M_X2_readGauges.ok := ⟨by decide, by decide, by decide, x_82, x_1002, rfl, rfl⟩
def M_X2_findFitting : Md := (yX2_findFitting, cX2_findFitting, 5, (some .int), { frames := 5, cells := 0, slots := 0, locals := 121 })
theorem m_X2_findFitting : M_X2_findFitting.ok := ⟨by decide, by decide, by decide, x_82, x_1012, rfl, rfl⟩
def M_X2_tryGuess : Md := (yX2_tryGuess, cX2_tryGuess, 4, none, { frames := 4, cells := 0, slots := 0, locals := 98 })
theorem m_X2_tryGuess : M_X2_tryGuess.ok := ⟨by decide, by decide, by decide, x_82, x_1016, rfl, rfl⟩
def M_X2_bendBy : Md := (yX2_bendBy, cX2_bendBy, 3, none, { frames := 3, cells := 0, slots := 0, locals := 66 })
theorem m_X2_bendBy : M_X2_bendBy.ok := ⟨by decide, by decide, by decide, x_82, x_1020, rfl, rfl⟩
def M_X2_doesFit : Md := (yX2_doesFit, cX2_doesFit, 4, (some .boolean), { frames := 3, cells := 0, slots := 0, locals := 75 })
theorem m_X2_doesFit : M_X2_doesFit.ok := ⟨by decide, by decide, by decide, x_82, x_1026, rfl, rfl⟩
def M_X2_agrees : Md := (yX2_agrees, cX2_agrees, 6, (some .boolean), { frames := 1, cells := 0, slots := 0, locals := 22 })
theorem m_X2_agrees : M_X2_agrees.ok := ⟨by decide, by decide, by decide, x_82, x_1032, rfl, rfl⟩
def M_X2_fittingAt : Md := (yX2_fittingAt, cX2_fittingAt, 2, (some .int), { frames := 0, cells := 0, slots := 0, locals := 0 })
theorem m_X2_fittingAt : M_X2_fittingAt.ok := ⟨by decide, by decide, by decide, x_82, x_1048, rfl, rfl⟩
def M_X2_canWalk : Md := (yX2_canWalk, cX2_canWalk, 1, (some .boolean), { frames := 0, cells := 0, slots := 0, locals := 0 })
theorem m_X2_canWalk : M_X2_canWalk.ok := ⟨by decide, by decide, by decide, x_82, x_1056, rfl, rfl⟩
def M_X2_findWalk : Md := (yX2_findWalk, cX2_findWalk, 4, (some .int), { frames := 4, cells := 0, slots := 0, locals := 88 })
theorem m_X2_findWalk : M_X2_findWalk.ok := ⟨by decide, by decide, by decide, x_82, x_1060, rfl, rfl⟩
def M_X2_addHotSet : Md := (yX2_addHotSet, cX2_addHotSet, 3, none, { frames := 0, cells := 0, slots := 0, locals := 0 })
theorem m_X2_addHotSet : M_X2_addHotSet.ok := ⟨by decide, by decide, by decide, x_82, x_1064, rfl, rfl⟩
def M_X2_leastWalk : Md := (yX2_leastWalk, cX2_leastWalk, 5, (some .int), { frames := 1, cells := 0, slots := 0, locals := 23 })
theorem m_X2_leastWalk : M_X2_leastWalk.ok := ⟨by decide, by decide, by decide, x_82, x_1068, rfl, rfl⟩
def M_X2_usefulCars : Md := (yX2_usefulCars, cX2_usefulCars, 3, (some .int), { frames := 0, cells := 0, slots := 0, locals := 0 })
theorem m_X2_usefulCars : M_X2_usefulCars.ok := ⟨by decide, by decide, by decide, x_82, x_1072, rfl, rfl⟩
def M_X2_partsAll : Md := (yX2_partsAll, cX2_partsAll, 4, (some .boolean), { frames := 0, cells := 0, slots := 0, locals := 0 })
theorem m_X2_partsAll : M_X2_partsAll.ok := ⟨by decide, by decide, by decide, x_82, x_1077, rfl, rfl⟩
def M_X3_readTape : Md := (yX3_readTape, cX3_readTape, 2, (some .int), { frames := 9, cells := 0, slots := 0, locals := 265 })
theorem m_X3_readTape : M_X3_readTape.ok := ⟨by decide, by decide, by decide, x_77, x_737, rfl, rfl⟩
def M_X3_readStep : Md := (yX3_readStep, cX3_readStep, 4, (some .boolean), { frames := 8, cells := 0, slots := 0, locals := 242 })
theorem m_X3_readStep : M_X3_readStep.ok := ⟨by decide, by decide, by decide, x_77, x_751, rfl, rfl⟩
def M_X3_actHere : Md := (yX3_actHere, cX3_actHere, 1, (some .int), { frames := 7, cells := 0, slots := 0, locals := 222 })
theorem m_X3_actHere : M_X3_actHere.ok := ⟨by decide, by decide, by decide, x_77, x_755, rfl, rfl⟩
def M_X4_clear : Md := (yX4_clear, cX4_clear, 1, none, { frames := 0, cells := 0, slots := 0, locals := 0 })
theorem m_X4_clear : M_X4_clear.ok := ⟨by decide, by decide, by decide, x_78, x_741, rfl, rfl⟩
def M_X4_addStep : Md := (yX4_addStep, cX4_addStep, 5, none, { frames := 1, cells := 0, slots := 0, locals := 20 })
theorem m_X4_addStep : M_X4_addStep.ok := ⟨by decide, by decide, by decide, x_78, x_765, rfl, rfl⟩
def M_X4_copyFrom : Md := (yX4_copyFrom, cX4_copyFrom, 2, none, { frames := 1, cells := 0, slots := 0, locals := 26 })
theorem m_X4_copyFrom : M_X4_copyFrom.ok := ⟨by decide, by decide, by decide, x_78, x_774, rfl, rfl⟩
def M_X4_allTicks : Md := (yX4_allTicks, cX4_allTicks, 1, (some .int), { frames := 0, cells := 0, slots := 0, locals := 0 })
theorem m_X4_allTicks : M_X4_allTicks.ok := ⟨by decide, by decide, by decide, x_78, x_769, rfl, rfl⟩
def M_X4_actOf : Md := (yX4_actOf, cX4_actOf, 2, (some .int), { frames := 0, cells := 0, slots := 0, locals := 0 })
theorem m_X4_actOf : M_X4_actOf.ok := ⟨by decide, by decide, by decide, x_78, x_803, rfl, rfl⟩
def M_X4_amountOf : Md := (yX4_amountOf, cX4_amountOf, 2, (some .int), { frames := 0, cells := 0, slots := 0, locals := 0 })
theorem m_X4_amountOf : M_X4_amountOf.ok := ⟨by decide, by decide, by decide, x_78, x_807, rfl, rfl⟩
def M_X4_isOver : Md := (yX4_isOver, cX4_isOver, 3, (some .boolean), { frames := 0, cells := 0, slots := 0, locals := 0 })
theorem m_X4_isOver : M_X4_isOver.ok := ⟨by decide, by decide, by decide, x_78, x_798, rfl, rfl⟩
def M_X5_has : Md := (yX5_has, cX5_has, 2, (some .boolean), { frames := 0, cells := 0, slots := 0, locals := 0 })
theorem m_X5_has : M_X5_has.ok := ⟨by decide, by decide, by decide, x_76, x_712, rfl, rfl⟩
def M_X5_clear : Md := (yX5_clear, cX5_clear, 1, none, { frames := 0, cells := 0, slots := 0, locals := 0 })
theorem m_X5_clear : M_X5_clear.ok := ⟨by decide, by decide, by decide, x_76, x_571, rfl, rfl⟩
def M_X5_addCar : Md := (yX5_addCar, cX5_addCar, 3, none, { frames := 0, cells := 0, slots := 0, locals := 0 })
theorem m_X5_addCar : M_X5_addCar.ok := ⟨by decide, by decide, by decide, x_76, x_499, rfl, rfl⟩
def M_X5_fact : Md := (yX5_fact, cX5_fact, 3, (some .int), { frames := 1, cells := 0, slots := 0, locals := 21 })
theorem m_X5_fact : M_X5_fact.ok := ⟨by decide, by decide, by decide, x_76, x_1227, rfl, rfl⟩
def M_X5_setFact : Md := (yX5_setFact, cX5_setFact, 4, none, { frames := 1, cells := 0, slots := 0, locals := 21 })
theorem m_X5_setFact : M_X5_setFact.ok := ⟨by decide, by decide, by decide, x_76, x_708, rfl, rfl⟩
def M_X5_copyFrom : Md := (yX5_copyFrom, cX5_copyFrom, 3, none, { frames := 2, cells := 0, slots := 0, locals := 44 })
theorem m_X5_copyFrom : M_X5_copyFrom.ok := ⟨by decide, by decide, by decide, x_76, x_724, rfl, rfl⟩
def M_X5_takeCar : Md := (yX5_takeCar, cX5_takeCar, 4, none, { frames := 1, cells := 0, slots := 0, locals := 21 })
theorem m_X5_takeCar : M_X5_takeCar.ok := ⟨by decide, by decide, by decide, x_76, x_728, rfl, rfl⟩
def M_X5_wholeWeight : Md := (yX5_wholeWeight, cX5_wholeWeight, 3, (some .int), { frames := 0, cells := 0, slots := 0, locals := 0 })
theorem m_X5_wholeWeight : M_X5_wholeWeight.ok := ⟨by decide, by decide, by decide, x_76, x_874, rfl, rfl⟩
def M_X6_start : Md := (yX6_start, cX6_start, 4, none, { frames := 0, cells := 0, slots := 0, locals := 0 })
theorem m_X6_start : M_X6_start.ok := ⟨by decide, by decide, by decide, x_80, x_848, rfl, rfl⟩
def M_X6_copyFrom : Md := (yX6_copyFrom, cX6_copyFrom, 2, none, { frames := 0, cells := 0, slots := 0, locals := 0 })
theorem m_X6_copyFrom : M_X6_copyFrom.ok := ⟨by decide, by decide, by decide, x_80, x_907, rfl, rfl⟩
def M_X6_isStopped : Md := (yX6_isStopped, cX6_isStopped, 1, (some .boolean), { frames := 0, cells := 0, slots := 0, locals := 0 })
theorem m_X6_isStopped : M_X6_isStopped.ok := ⟨by decide, by decide, by decide, x_80, x_857, rfl, rfl⟩
def M_X6_isWithin : Md := (yX6_isWithin, cX6_isWithin, 2, (some .boolean), { frames := 0, cells := 0, slots := 0, locals := 0 })
theorem m_X6_isWithin : M_X6_isWithin.ok := ⟨by decide, by decide, by decide, x_80, x_861, rfl, rfl⟩
def M_X6_roll : Md := (yX6_roll, cX6_roll, 3, none, { frames := 2, cells := 0, slots := 0, locals := 47 })
theorem m_X6_roll : M_X6_roll.ok := ⟨by decide, by decide, by decide, x_80, x_866, rfl, rfl⟩
def M_X6_gainBy : Md := (yX6_gainBy, cX6_gainBy, 6, (some .int), { frames := 1, cells := 0, slots := 0, locals := 22 })
theorem m_X6_gainBy : M_X6_gainBy.ok := ⟨by decide, by decide, by decide, x_80, x_870, rfl, rfl⟩
def M_X6_spanWithin : Md := (yX6_spanWithin, cX6_spanWithin, 6, (some .int), { frames := 3, cells := 0, slots := 0, locals := 75 })
theorem m_X6_spanWithin : M_X6_spanWithin.ok := ⟨by decide, by decide, by decide, x_80, x_853, rfl, rfl⟩
def M_X7_hasRoom : Md := (yX7_hasRoom, cX7_hasRoom, 2, (some .boolean), { frames := 0, cells := 0, slots := 0, locals := 0 })
theorem m_X7_hasRoom : M_X7_hasRoom.ok := ⟨by decide, by decide, by decide, x_73, x_547, rfl, rfl⟩
def M_X7_putNumber : Md := (yX7_putNumber, cX7_putNumber, 3, none, { frames := 0, cells := 0, slots := 0, locals := 0 })
theorem m_X7_putNumber : M_X7_putNumber.ok := ⟨by decide, by decide, by decide, x_73, x_551, rfl, rfl⟩
def M_X7_keepFirst : Md := (yX7_keepFirst, cX7_keepFirst, 2, (some .boolean), { frames := 0, cells := 0, slots := 0, locals := 0 })
theorem m_X7_keepFirst : M_X7_keepFirst.ok := ⟨by decide, by decide, by decide, x_73, x_559, rfl, rfl⟩
def M_X7_byteAt : Md := (yX7_byteAt, cX7_byteAt, 2, (some .int), { frames := 0, cells := 0, slots := 0, locals := 0 })
theorem m_X7_byteAt : M_X7_byteAt.ok := ⟨by decide, by decide, by decide, x_73, x_586, rfl, rfl⟩
def M_X7_pairAt : Md := (yX7_pairAt, cX7_pairAt, 2, (some .int), { frames := 1, cells := 0, slots := 0, locals := 21 })
theorem m_X7_pairAt : M_X7_pairAt.ok := ⟨by decide, by decide, by decide, x_73, x_1006, rfl, rfl⟩
def M_X8_open : Md := (yX8_open, cX8_open, 2, none, { frames := 3, cells := 0, slots := 0, locals := 64 })
theorem m_X8_open : M_X8_open.ok := ⟨by decide, by decide, by decide, x_74, x_575, rfl, rfl⟩
def M_X8_atEnd : Md := (yX8_atEnd, cX8_atEnd, 1, (some .boolean), { frames := 0, cells := 0, slots := 0, locals := 0 })
theorem m_X8_atEnd : M_X8_atEnd.ok := ⟨by decide, by decide, by decide, x_74, x_597, rfl, rfl⟩
def M_X8_tooLong : Md := (yX8_tooLong, cX8_tooLong, 1, (some .boolean), { frames := 0, cells := 0, slots := 0, locals := 0 })
theorem m_X8_tooLong : M_X8_tooLong.ok := ⟨by decide, by decide, by decide, x_74, x_720, rfl, rfl⟩
def M_X8_read : Md := (yX8_read, cX8_read, 1, none, { frames := 2, cells := 0, slots := 0, locals := 44 })
theorem m_X8_read : M_X8_read.ok := ⟨by decide, by decide, by decide, x_74, x_582, rfl, rfl⟩
def M_X8_readSigns : Md := (yX8_readSigns, cX8_readSigns, 4, none, { frames := 1, cells := 0, slots := 0, locals := 21 })
theorem m_X8_readSigns : M_X8_readSigns.ok := ⟨by decide, by decide, by decide, x_74, x_590, rfl, rfl⟩
def M_X8_isWord : Md := (yX8_isWord, cX8_isWord, 3, (some .boolean), { frames := 6, cells := 0, slots := 0, locals := 200 })
theorem m_X8_isWord : M_X8_isWord.ok := ⟨by decide, by decide, by decide, x_74, x_606, rfl, rfl⟩
def M_X8_takeNumber : Md := (yX8_takeNumber, cX8_takeNumber, 4, (some .int), { frames := 3, cells := 0, slots := 0, locals := 64 })
theorem m_X8_takeNumber : M_X8_takeNumber.ok := ⟨by decide, by decide, by decide, x_74, x_667, rfl, rfl⟩
def M_X8_takeMark : Md := (yX8_takeMark, cX8_takeMark, 1, (some .boolean), { frames := 3, cells := 0, slots := 0, locals := 64 })
theorem m_X8_takeMark : M_X8_takeMark.ok := ⟨by decide, by decide, by decide, x_74, x_716, rfl, rfl⟩
def M_X8_refuse : Md := (yX8_refuse, cX8_refuse, 2, (some .boolean), { frames := 0, cells := 0, slots := 0, locals := 0 })
theorem m_X8_refuse : M_X8_refuse.ok := ⟨by decide, by decide, by decide, x_74, x_662, rfl, rfl⟩
def M_X9_readTape : Md := (yX9_readTape, cX9_readTape, 2, (some .int), { frames := 10, cells := 0, slots := 0, locals := 287 })
theorem m_X9_readTape : M_X9_readTape.ok := ⟨by decide, by decide, by decide, x_75, x_567, rfl, rfl⟩
def M_X9_readLine : Md := (yX9_readLine, cX9_readLine, 1, (some .boolean), { frames := 9, cells := 0, slots := 0, locals := 267 })
theorem m_X9_readLine : M_X9_readLine.ok := ⟨by decide, by decide, by decide, x_75, x_601, rfl, rfl⟩
def M_X9_takeOnce : Md := (yX9_takeOnce, cX9_takeOnce, 4, (some .int), { frames := 4, cells := 0, slots := 0, locals := 87 })
theorem m_X9_takeOnce : M_X9_takeOnce.ok := ⟨by decide, by decide, by decide, x_75, x_658, rfl, rfl⟩
def M_X9_readCar : Md := (yX9_readCar, cX9_readCar, 3, (some .boolean), { frames := 8, cells := 0, slots := 0, locals := 242 })
theorem m_X9_readCar : M_X9_readCar.ok := ⟨by decide, by decide, by decide, x_75, x_674, rfl, rfl⟩
def M_X9_readOptions : Md := (yX9_readOptions, cX9_readOptions, 5, (some .boolean), { frames := 8, cells := 0, slots := 0, locals := 243 })
theorem m_X9_readOptions : M_X9_readOptions.ok := ⟨by decide, by decide, by decide, x_75, x_686, rfl, rfl⟩
def M_X9_kindHere : Md := (yX9_kindHere, cX9_kindHere, 1, (some .int), { frames := 7, cells := 0, slots := 0, locals := 222 })
theorem m_X9_kindHere : M_X9_kindHere.ok := ⟨by decide, by decide, by decide, x_75, x_678, rfl, rfl⟩
def M_X9_optionHere : Md := (yX9_optionHere, cX9_optionHere, 1, (some .int), { frames := 7, cells := 0, slots := 0, locals := 222 })
theorem m_X9_optionHere : M_X9_optionHere.ok := ⟨by decide, by decide, by decide, x_75, x_690, rfl, rfl⟩
def M_X9_mostOf : Md := (yX9_mostOf, cX9_mostOf, 1, (some .int), { frames := 0, cells := 0, slots := 0, locals := 0 })
theorem m_X9_mostOf : M_X9_mostOf.ok := ⟨by decide, by decide, by decide, x_75, x_704, rfl, rfl⟩
def M_X9_takeStuck : Md := (yX9_takeStuck, cX9_takeStuck, 2, (some .int), { frames := 7, cells := 0, slots := 0, locals := 222 })
theorem m_X9_takeStuck : M_X9_takeStuck.ok := ⟨by decide, by decide, by decide, x_75, x_699, rfl, rfl⟩
def M_X10_tell : Md := (yX10_tell, cX10_tell, 4, none, { frames := 0, cells := 0, slots := 0, locals := 0 })
theorem m_X10_tell : M_X10_tell.ok := ⟨by decide, by decide, by decide, x_81, x_887, rfl, rfl⟩
def M_X10_lastHelp : Md := (yX10_lastHelp, cX10_lastHelp, 4, (some .int), { frames := 4, cells := 0, slots := 0, locals := 100 })
theorem m_X10_lastHelp : M_X10_lastHelp.ok := ⟨by decide, by decide, by decide, x_81, x_891, rfl, rfl⟩
def M_X10_spanParted : Md := (yX10_spanParted, cX10_spanParted, 3, (some .int), { frames := 4, cells := 0, slots := 0, locals := 100 })
theorem m_X10_spanParted : M_X10_spanParted.ok := ⟨by decide, by decide, by decide, x_81, x_918, rfl, rfl⟩
def M_X10_leastOrder : Md := (yX10_leastOrder, cX10_leastOrder, 4, (some .int), { frames := 5, cells := 0, slots := 0, locals := 121 })
theorem m_X10_leastOrder : M_X10_leastOrder.ok := ⟨by decide, by decide, by decide, x_81, x_931, rfl, rfl⟩
def M_X10_greatestOrder : Md := (yX10_greatestOrder, cX10_greatestOrder, 4, (some .int), { frames := 5, cells := 0, slots := 0, locals := 121 })
theorem m_X10_greatestOrder : M_X10_greatestOrder.ok := ⟨by decide, by decide, by decide, x_81, x_963, rfl, rfl⟩
def M_X10_bestAt : Md := (yX10_bestAt, cX10_bestAt, 2, (some .int), { frames := 0, cells := 0, slots := 0, locals := 0 })
theorem m_X10_bestAt : M_X10_bestAt.ok := ⟨by decide, by decide, by decide, x_81, x_971, rfl, rfl⟩
def M_X10_firstOrder : Md := (yX10_firstOrder, cX10_firstOrder, 2, none, { frames := 3, cells := 0, slots := 0, locals := 66 })
theorem m_X10_firstOrder : M_X10_firstOrder.ok := ⟨by decide, by decide, by decide, x_81, x_935, rfl, rfl⟩
def M_X10_keepOrder : Md := (yX10_keepOrder, cX10_keepOrder, 1, none, { frames := 1, cells := 0, slots := 0, locals := 26 })
theorem m_X10_keepOrder : M_X10_keepOrder.ok := ⟨by decide, by decide, by decide, x_81, x_940, rfl, rfl⟩
def M_X10_layOrder : Md := (yX10_layOrder, cX10_layOrder, 2, none, { frames := 2, cells := 0, slots := 0, locals := 44 })
theorem m_X10_layOrder : M_X10_layOrder.ok := ⟨by decide, by decide, by decide, x_81, x_945, rfl, rfl⟩
def M_X10_spanOfBent : Md := (yX10_spanOfBent, cX10_spanOfBent, 2, (some .int), { frames := 4, cells := 0, slots := 0, locals := 100 })
theorem m_X10_spanOfBent : M_X10_spanOfBent.ok := ⟨by decide, by decide, by decide, x_81, x_950, rfl, rfl⟩
def M_X10_nextOrder : Md := (yX10_nextOrder, cX10_nextOrder, 5, (some .boolean), { frames := 1, cells := 0, slots := 0, locals := 23 })
theorem m_X10_nextOrder : M_X10_nextOrder.ok := ⟨by decide, by decide, by decide, x_81, x_954, rfl, rfl⟩
def M_X10_swap : Md := (yX10_swap, cX10_swap, 4, none, { frames := 0, cells := 0, slots := 0, locals := 0 })
theorem m_X10_swap : M_X10_swap.ok := ⟨by decide, by decide, by decide, x_81, x_959, rfl, rfl⟩
def M_X10_mostCut : Md := (yX10_mostCut, cX10_mostCut, 4, (some .int), { frames := 6, cells := 0, slots := 0, locals := 146 })
theorem m_X10_mostCut : M_X10_mostCut.ok := ⟨by decide, by decide, by decide, x_81, x_979, rfl, rfl⟩
def M_X10_findBraked : Md := (yX10_findBraked, cX10_findBraked, 3, (some .int), { frames := 0, cells := 0, slots := 0, locals := 0 })
theorem m_X10_findBraked : M_X10_findBraked.ok := ⟨by decide, by decide, by decide, x_81, x_983, rfl, rfl⟩
def M_X10_stopsWithout : Md := (yX10_stopsWithout, cX10_stopsWithout, 6, (some .boolean), { frames := 5, cells := 0, slots := 0, locals := 121 })
theorem m_X10_stopsWithout : M_X10_stopsWithout.ok := ⟨by decide, by decide, by decide, x_81, x_987, rfl, rfl⟩
def M_X11_feed : Md := (yX11_feed, cX11_feed, 6, (some .int), { frames := 1, cells := 0, slots := 0, locals := 22 })
theorem m_X11_feed : M_X11_feed.ok := ⟨by decide, by decide, by decide, x_72, x_543, rfl, rfl⟩
def M_X11_end : Md := (yX11_end, cX11_end, 2, (some .boolean), { frames := 1, cells := 0, slots := 0, locals := 21 })
theorem m_X11_end : M_X11_end.ok := ⟨by decide, by decide, by decide, x_72, x_555, rfl, rfl⟩
def M_X11_train : Md := (yX11_train, cX11_train, 2, (some .int), { frames := 11, cells := 0, slots := 0, locals := 308 })
theorem m_X11_train : M_X11_train.ok := ⟨by decide, by decide, by decide, x_72, x_563, rfl, rfl⟩
def M_X11_handle : Md := (yX11_handle, cX11_handle, 2, (some .int), { frames := 10, cells := 0, slots := 0, locals := 286 })
theorem m_X11_handle : M_X11_handle.ok := ⟨by decide, by decide, by decide, x_72, x_733, rfl, rfl⟩
def M_X11_fault : Md := (yX11_fault, cX11_fault, 1, (some .int), { frames := 0, cells := 0, slots := 0, locals := 0 })
theorem m_X11_fault : M_X11_fault.ok := ⟨by decide, by decide, by decide, x_72, x_781, rfl, rfl⟩
def M_X11_car : Md := (yX11_car, cX11_car, 3, (some .int), { frames := 6, cells := 0, slots := 0, locals := 200 })
theorem m_X11_car : M_X11_car.ok := ⟨by decide, by decide, by decide, x_72, x_1158, rfl, rfl⟩
def M_X11_at : Md := (yX11_at, cX11_at, 6, (some .int), { frames := 6, cells := 0, slots := 0, locals := 200 })
theorem m_X11_at : M_X11_at.ok := ⟨by decide, by decide, by decide, x_72, x_1234, rfl, rfl⟩
def M_X11_hears : Md := (yX11_hears, cX11_hears, 3, (some .int), { frames := 3, cells := 0, slots := 0, locals := 75 })
theorem m_X11_hears : M_X11_hears.ok := ⟨by decide, by decide, by decide, x_72, x_785, rfl, rfl⟩
def M_X11_easy : Md := (yX11_easy, cX11_easy, 4, (some .int), { frames := 3, cells := 0, slots := 0, locals := 75 })
theorem m_X11_easy : M_X11_easy.ok := ⟨by decide, by decide, by decide, x_72, x_833, rfl, rfl⟩
def M_X11_run : Md := (yX11_run, cX11_run, 4, (some .int), { frames := 4, cells := 0, slots := 0, locals := 100 })
theorem m_X11_run : M_X11_run.ok := ⟨by decide, by decide, by decide, x_72, x_841, rfl, rfl⟩
def M_X11_ran : Md := (yX11_ran, cX11_ran, 2, (some .int), { frames := 0, cells := 0, slots := 0, locals := 0 })
theorem m_X11_ran : M_X11_ran.ok := ⟨by decide, by decide, by decide, x_72, x_879, rfl, rfl⟩
def M_X11_help : Md := (yX11_help, cX11_help, 5, (some .int), { frames := 5, cells := 0, slots := 0, locals := 123 })
theorem m_X11_help : M_X11_help.ok := ⟨by decide, by decide, by decide, x_72, x_883, rfl, rfl⟩
def M_X11_parted : Md := (yX11_parted, cX11_parted, 7, (some .int), { frames := 5, cells := 0, slots := 0, locals := 122 })
theorem m_X11_parted : M_X11_parted.ok := ⟨by decide, by decide, by decide, x_72, x_914, rfl, rfl⟩
def M_X11_order : Md := (yX11_order, cX11_order, 6, (some .int), { frames := 6, cells := 0, slots := 0, locals := 144 })
theorem m_X11_order : M_X11_order.ok := ⟨by decide, by decide, by decide, x_72, x_927, rfl, rfl⟩
def M_X11_ordered : Md := (yX11_ordered, cX11_ordered, 2, (some .int), { frames := 1, cells := 0, slots := 0, locals := 21 })
theorem m_X11_ordered : M_X11_ordered.ok := ⟨by decide, by decide, by decide, x_72, x_967, rfl, rfl⟩
def M_X11_cut : Md := (yX11_cut, cX11_cut, 6, (some .int), { frames := 7, cells := 0, slots := 0, locals := 169 })
theorem m_X11_cut : M_X11_cut.ok := ⟨by decide, by decide, by decide, x_72, x_975, rfl, rfl⟩
def M_X11_fits : Md := (yX11_fits, cX11_fits, 5, (some .int), { frames := 6, cells := 0, slots := 0, locals := 145 })
theorem m_X11_fits : M_X11_fits.ok := ⟨by decide, by decide, by decide, x_72, x_998, rfl, rfl⟩
def M_X11_fitAt : Md := (yX11_fitAt, cX11_fitAt, 2, (some .int), { frames := 1, cells := 0, slots := 0, locals := 21 })
theorem m_X11_fitAt : M_X11_fitAt.ok := ⟨by decide, by decide, by decide, x_72, x_1044, rfl, rfl⟩
def M_X11_walks : Md := (yX11_walks, cX11_walks, 2, (some .int), { frames := 5, cells := 0, slots := 0, locals := 111 })
theorem m_X11_walks : M_X11_walks.ok := ⟨by decide, by decide, by decide, x_72, x_1052, rfl, rfl⟩
def M_X11_walked : Md := (yX11_walked, cX11_walked, 2, (some .int), { frames := 0, cells := 0, slots := 0, locals := 0 })
theorem m_X11_walked : M_X11_walked.ok := ⟨by decide, by decide, by decide, x_72, x_1081, rfl, rfl⟩
def M_X11_day : Md := (yX11_day, cX11_day, 4, (some .int), { frames := 2, cells := 0, slots := 0, locals := 47 })
theorem m_X11_day : M_X11_day.ok := ⟨by decide, by decide, by decide, x_72, x_1085, rfl, rfl⟩
def M_X11_mended : Md := (yX11_mended, cX11_mended, 2, (some .boolean), { frames := 2, cells := 0, slots := 0, locals := 41 })
theorem m_X11_mended : M_X11_mended.ok := ⟨by decide, by decide, by decide, x_72, x_1104, rfl, rfl⟩
def M_X11_suspects : Md := (yX11_suspects, cX11_suspects, 2, (some .int), { frames := 4, cells := 0, slots := 0, locals := 92 })
theorem m_X11_suspects : M_X11_suspects.ok := ⟨by decide, by decide, by decide, x_72, x_1112, rfl, rfl⟩
def M_X11_suspect : Md := (yX11_suspect, cX11_suspect, 2, (some .int), { frames := 1, cells := 0, slots := 0, locals := 21 })
theorem m_X11_suspect : M_X11_suspect.ok := ⟨by decide, by decide, by decide, x_72, x_1128, rfl, rfl⟩
def M_X11_next : Md := (yX11_next, cX11_next, 3, (some .int), { frames := 4, cells := 0, slots := 0, locals := 96 })
theorem m_X11_next : M_X11_next.ok := ⟨by decide, by decide, by decide, x_72, x_1136, rfl, rfl⟩
def M_X11_count : Md := (yX11_count, cX11_count, 2, (some .int), { frames := 1, cells := 0, slots := 0, locals := 20 })
theorem m_X11_count : M_X11_count.ok := ⟨by decide, by decide, by decide, x_72, x_1149, rfl, rfl⟩
def M_X11_isRun : Md := (yX11_isRun, cX11_isRun, 3, (some .boolean), { frames := 0, cells := 0, slots := 0, locals := 0 })
theorem m_X11_isRun : M_X11_isRun.ok := ⟨by decide, by decide, by decide, x_72, x_844, rfl, rfl⟩
def M_X12_thrown : Md := (yX12_thrown, cX12_thrown, 1, (some .int), { frames := 0, cells := 0, slots := 0, locals := 0 })
theorem m_X12_thrown : M_X12_thrown.ok := ⟨by decide, by decide, by decide, x_84, x_1462, rfl, rfl⟩
def M_X12_refuse : Md := (yX12_refuse, cX12_refuse, 1, (some .int), { frames := 0, cells := 0, slots := 0, locals := 0 })
theorem m_X12_refuse : M_X12_refuse.ok := ⟨by decide, by decide, by decide, x_84, x_1572, rfl, rfl⟩
def M_X12_come : Md := (yX12_come, cX12_come, 3, none, { frames := 0, cells := 0, slots := 0, locals := 0 })
theorem m_X12_come : M_X12_come.ok := ⟨by decide, by decide, by decide, x_84, x_1470, rfl, rfl⟩
def M_X12_feed : Md := (yX12_feed, cX12_feed, 6, (some .int), { frames := 1, cells := 0, slots := 0, locals := 22 })
theorem m_X12_feed : M_X12_feed.ok := ⟨by decide, by decide, by decide, x_84, x_1466, rfl, rfl⟩
def M_X12_end : Md := (yX12_end, cX12_end, 2, (some .boolean), { frames := 0, cells := 0, slots := 0, locals := 0 })
theorem m_X12_end : M_X12_end.ok := ⟨by decide, by decide, by decide, x_84, x_1474, rfl, rfl⟩
def M_X12_take : Md := (yX12_take, cX12_take, 2, (some .int), { frames := 0, cells := 0, slots := 0, locals := 0 })
theorem m_X12_take : M_X12_take.ok := ⟨by decide, by decide, by decide, x_84, x_1486, rfl, rfl⟩
def M_X12_isIn : Md := (yX12_isIn, cX12_isIn, 3, (some .boolean), { frames := 0, cells := 0, slots := 0, locals := 0 })
theorem m_X12_isIn : M_X12_isIn.ok := ⟨by decide, by decide, by decide, x_84, x_1532, rfl, rfl⟩
def M_X12_byteAt : Md := (yX12_byteAt, cX12_byteAt, 2, (some .int), { frames := 0, cells := 0, slots := 0, locals := 0 })
theorem m_X12_byteAt : M_X12_byteAt.ok := ⟨by decide, by decide, by decide, x_84, x_1500, rfl, rfl⟩
def M_X12_isDigit : Md := (yX12_isDigit, cX12_isDigit, 1, (some .boolean), { frames := 0, cells := 0, slots := 0, locals := 0 })
theorem m_X12_isDigit : M_X12_isDigit.ok := ⟨by decide, by decide, by decide, x_84, x_1496, rfl, rfl⟩
def M_X12_isLetter : Md := (yX12_isLetter, cX12_isLetter, 1, (some .boolean), { frames := 0, cells := 0, slots := 0, locals := 0 })
theorem m_X12_isLetter : M_X12_isLetter.ok := ⟨by decide, by decide, by decide, x_84, x_1493, rfl, rfl⟩
def M_X12_go : Md := (yX12_go, cX12_go, 5, none, { frames := 1, cells := 0, slots := 0, locals := 21 })
theorem m_X12_go : M_X12_go.ok := ⟨by decide, by decide, by decide, x_84, x_1490, rfl, rfl⟩
def M_X12_spelt : Md := (yX12_spelt, cX12_spelt, 7, (some .long), { frames := 0, cells := 0, slots := 0, locals := 0 })
theorem m_X12_spelt : M_X12_spelt.ok := ⟨by decide, by decide, by decide, x_84, x_1513, rfl, rfl⟩
def M_X12_isKey : Md := (yX12_isKey, cX12_isKey, 3, (some .boolean), { frames := 0, cells := 0, slots := 0, locals := 0 })
theorem m_X12_isKey : M_X12_isKey.ok := ⟨by decide, by decide, by decide, x_84, x_1517, rfl, rfl⟩
def M_X12_bad : Md := (yX12_bad, cX12_bad, 2, (some .boolean), { frames := 0, cells := 0, slots := 0, locals := 0 })
theorem m_X12_bad : M_X12_bad.ok := ⟨by decide, by decide, by decide, x_84, x_1525, rfl, rfl⟩
def M_X12_readNumber : Md := (yX12_readNumber, cX12_readNumber, 3, (some .boolean), { frames := 2, cells := 0, slots := 0, locals := 45 })
theorem m_X12_readNumber : M_X12_readNumber.ok := ⟨by decide, by decide, by decide, x_84, x_1529, rfl, rfl⟩
def M_X12_readEnd : Md := (yX12_readEnd, cX12_readEnd, 1, (some .boolean), { frames := 2, cells := 0, slots := 0, locals := 45 })
theorem m_X12_readEnd : M_X12_readEnd.ok := ⟨by decide, by decide, by decide, x_84, x_1544, rfl, rfl⟩
def M_X12_lay : Md := (yX12_lay, cX12_lay, 1, none, { frames := 0, cells := 0, slots := 0, locals := 0 })
theorem m_X12_lay : M_X12_lay.ok := ⟨by decide, by decide, by decide, x_84, x_1482, rfl, rfl⟩
def M_X12_isFull : Md := (yX12_isFull, cX12_isFull, 1, (some .boolean), { frames := 1, cells := 0, slots := 0, locals := 26 })
theorem m_X12_isFull : M_X12_isFull.ok := ⟨by decide, by decide, by decide, x_84, x_1548, rfl, rfl⟩
def M_X12_isFeed : Md := (yX12_isFeed, cX12_isFeed, 1, (some .boolean), { frames := 1, cells := 0, slots := 0, locals := 26 })
theorem m_X12_isFeed : M_X12_isFeed.ok := ⟨by decide, by decide, by decide, x_84, x_1552, rfl, rfl⟩
def M_X12_isCar : Md := (yX12_isCar, cX12_isCar, 1, (some .boolean), { frames := 1, cells := 0, slots := 0, locals := 26 })
theorem m_X12_isCar : M_X12_isCar.ok := ⟨by decide, by decide, by decide, x_84, x_1510, rfl, rfl⟩
def M_X12_optionAtHand : Md := (yX12_optionAtHand, cX12_optionAtHand, 1, (some .int), { frames := 1, cells := 0, slots := 0, locals := 26 })
theorem m_X12_optionAtHand : M_X12_optionAtHand.ok := ⟨by decide, by decide, by decide, x_84, x_1536, rfl, rfl⟩
def M_X12_readCar : Md := (yX12_readCar, cX12_readCar, 6, (some .boolean), { frames := 4, cells := 0, slots := 0, locals := 90 })
theorem m_X12_readCar : M_X12_readCar.ok := ⟨by decide, by decide, by decide, x_84, x_1521, rfl, rfl⟩
def M_X12_readOption : Md := (yX12_readOption, cX12_readOption, 4, (some .boolean), { frames := 3, cells := 0, slots := 0, locals := 67 })
theorem m_X12_readOption : M_X12_readOption.ok := ⟨by decide, by decide, by decide, x_84, x_1540, rfl, rfl⟩
def M_X12_train : Md := (yX12_train, cX12_train, 4, (some .int), { frames := 6, cells := 0, slots := 0, locals := 136 })
theorem m_X12_train : M_X12_train.ok := ⟨by decide, by decide, by decide, x_84, x_1478, rfl, rfl⟩
def M_X12_readLine : Md := (yX12_readLine, cX12_readLine, 2, (some .boolean), { frames := 5, cells := 0, slots := 0, locals := 115 })
theorem m_X12_readLine : M_X12_readLine.ok := ⟨by decide, by decide, by decide, x_84, x_1506, rfl, rfl⟩
def M_X12_readStep : Md := (yX12_readStep, cX12_readStep, 4, (some .boolean), { frames := 3, cells := 0, slots := 0, locals := 67 })
theorem m_X12_readStep : M_X12_readStep.ok := ⟨by decide, by decide, by decide, x_84, x_1560, rfl, rfl⟩
def M_X12_handle : Md := (yX12_handle, cX12_handle, 2, (some .int), { frames := 4, cells := 0, slots := 0, locals := 90 })
theorem m_X12_handle : M_X12_handle.ok := ⟨by decide, by decide, by decide, x_84, x_1556, rfl, rfl⟩
def M_X12_fault : Md := (yX12_fault, cX12_fault, 1, (some .int), { frames := 0, cells := 0, slots := 0, locals := 0 })
theorem m_X12_fault : M_X12_fault.ok := ⟨by decide, by decide, by decide, x_84, x_1564, rfl, rfl⟩
def M_X12_car : Md := (yX12_car, cX12_car, 3, (some .int), { frames := 1, cells := 0, slots := 0, locals := 22 })
theorem m_X12_car : M_X12_car.ok := ⟨by decide, by decide, by decide, x_84, x_1568, rfl, rfl⟩
def M_X12_take_ : Md := (yX12_take_, cX12_take_, 4, none, { frames := 1, cells := 0, slots := 0, locals := 20 })
theorem m_X12_take_ : M_X12_take_.ok := ⟨by decide, by decide, by decide, x_84, x_1580, rfl, rfl⟩
def M_X12_begin : Md := (yX12_begin, cX12_begin, 2, none, { frames := 0, cells := 0, slots := 0, locals := 0 })
theorem m_X12_begin : M_X12_begin.ok := ⟨by decide, by decide, by decide, x_84, x_1588, rfl, rfl⟩
def M_X12_stepAt : Md := (yX12_stepAt, cX12_stepAt, 4, (some .int), { frames := 0, cells := 0, slots := 0, locals := 0 })
theorem m_X12_stepAt : M_X12_stepAt.ok := ⟨by decide, by decide, by decide, x_84, x_1596, rfl, rfl⟩
def M_X12_act : Md := (yX12_act, cX12_act, 4, none, { frames := 0, cells := 0, slots := 0, locals := 0 })
theorem m_X12_act : M_X12_act.ok := ⟨by decide, by decide, by decide, x_84, x_1600, rfl, rfl⟩
def M_X12_sense : Md := (yX12_sense, cX12_sense, 1, (some .int), { frames := 0, cells := 0, slots := 0, locals := 0 })
theorem m_X12_sense : M_X12_sense.ok := ⟨by decide, by decide, by decide, x_84, x_1607, rfl, rfl⟩
def M_X12_rate : Md := (yX12_rate, cX12_rate, 1, (some .int), { frames := 0, cells := 0, slots := 0, locals := 0 })
theorem m_X12_rate : M_X12_rate.ok := ⟨by decide, by decide, by decide, x_84, x_1610, rfl, rfl⟩
def M_X12_ease : Md := (yX12_ease, cX12_ease, 1, (some .int), { frames := 0, cells := 0, slots := 0, locals := 0 })
theorem m_X12_ease : M_X12_ease.ok := ⟨by decide, by decide, by decide, x_84, x_1613, rfl, rfl⟩
def M_X12_valve : Md := (yX12_valve, cX12_valve, 6, none, { frames := 1, cells := 0, slots := 0, locals := 20 })
theorem m_X12_valve : M_X12_valve.ok := ⟨by decide, by decide, by decide, x_84, x_1604, rfl, rfl⟩
def M_X12_tick : Md := (yX12_tick, cX12_tick, 6, none, { frames := 2, cells := 0, slots := 0, locals := 45 })
theorem m_X12_tick : M_X12_tick.ok := ⟨by decide, by decide, by decide, x_84, x_1592, rfl, rfl⟩
def M_X12_playTo : Md := (yX12_playTo, cX12_playTo, 3, none, { frames := 3, cells := 0, slots := 0, locals := 70 })
theorem m_X12_playTo : M_X12_playTo.ok := ⟨by decide, by decide, by decide, x_84, x_1584, rfl, rfl⟩
def M_X12_at : Md := (yX12_at, cX12_at, 4, (some .int), { frames := 4, cells := 0, slots := 0, locals := 92 })
theorem m_X12_at : M_X12_at.ok := ⟨by decide, by decide, by decide, x_84, x_1576, rfl, rfl⟩
def M_X12_hears : Md := (yX12_hears, cX12_hears, 3, (some .int), { frames := 3, cells := 0, slots := 0, locals := 70 })
theorem m_X12_hears : M_X12_hears.ok := ⟨by decide, by decide, by decide, x_84, x_1617, rfl, rfl⟩
def M_X12_easy : Md := (yX12_easy, cX12_easy, 5, (some .int), { frames := 3, cells := 0, slots := 0, locals := 70 })
theorem m_X12_easy : M_X12_easy.ok := ⟨by decide, by decide, by decide, x_84, x_1621, rfl, rfl⟩
def M_X12_isRun : Md := (yX12_isRun, cX12_isRun, 3, (some .boolean), { frames := 1, cells := 0, slots := 0, locals := 22 })
theorem m_X12_isRun : M_X12_isRun.ok := ⟨by decide, by decide, by decide, x_84, x_1628, rfl, rfl⟩
def M_X12_span : Md := (yX12_span, cX12_span, 8, (some .int), { frames := 3, cells := 0, slots := 0, locals := 70 })
theorem m_X12_span : M_X12_span.ok := ⟨by decide, by decide, by decide, x_84, x_1632, rfl, rfl⟩
def M_X12_run : Md := (yX12_run, cX12_run, 5, (some .int), { frames := 4, cells := 0, slots := 0, locals := 97 })
theorem m_X12_run : M_X12_run.ok := ⟨by decide, by decide, by decide, x_84, x_1625, rfl, rfl⟩
def M_X12_ran : Md := (yX12_ran, cX12_ran, 2, (some .int), { frames := 0, cells := 0, slots := 0, locals := 0 })
theorem m_X12_ran : M_X12_ran.ok := ⟨by decide, by decide, by decide, x_84, x_1636, rfl, rfl⟩
def M_X12_isWithin : Md := (yX12_isWithin, cX12_isWithin, 2, (some .boolean), { frames := 0, cells := 0, slots := 0, locals := 0 })
theorem m_X12_isWithin : M_X12_isWithin.ok := ⟨by decide, by decide, by decide, x_84, x_1643, rfl, rfl⟩
def M_X12_help : Md := (yX12_help, cX12_help, 6, (some .int), { frames := 4, cells := 0, slots := 0, locals := 97 })
theorem m_X12_help : M_X12_help.ok := ⟨by decide, by decide, by decide, x_84, x_1640, rfl, rfl⟩
def M_X12_parted : Md := (yX12_parted, cX12_parted, 6, (some .int), { frames := 4, cells := 0, slots := 0, locals := 97 })
theorem m_X12_parted : M_X12_parted.ok := ⟨by decide, by decide, by decide, x_84, x_1647, rfl, rfl⟩
def M_X12_order : Md := (yX12_order, cX12_order, 9, (some .int), { frames := 4, cells := 0, slots := 0, locals := 97 })
theorem m_X12_order : M_X12_order.ok := ⟨by decide, by decide, by decide, x_84, x_1651, rfl, rfl⟩
def M_X12_goOn : Md := (yX12_goOn, cX12_goOn, 5, (some .boolean), { frames := 1, cells := 0, slots := 0, locals := 23 })
theorem m_X12_goOn : M_X12_goOn.ok := ⟨by decide, by decide, by decide, x_84, x_1656, rfl, rfl⟩
def M_X12_exchange : Md := (yX12_exchange, cX12_exchange, 4, none, { frames := 0, cells := 0, slots := 0, locals := 0 })
theorem m_X12_exchange : M_X12_exchange.ok := ⟨by decide, by decide, by decide, x_84, x_1660, rfl, rfl⟩
def M_X12_ordered : Md := (yX12_ordered, cX12_ordered, 2, (some .int), { frames := 0, cells := 0, slots := 0, locals := 0 })
theorem m_X12_ordered : M_X12_ordered.ok := ⟨by decide, by decide, by decide, x_84, x_1664, rfl, rfl⟩
def M_X12_cut : Md := (yX12_cut, cX12_cut, 11, (some .int), { frames := 4, cells := 0, slots := 0, locals := 97 })
theorem m_X12_cut : M_X12_cut.ok := ⟨by decide, by decide, by decide, x_84, x_1668, rfl, rfl⟩
def M_X12_guess : Md := (yX12_guess, cX12_guess, 4, none, { frames := 2, cells := 0, slots := 0, locals := 43 })
theorem m_X12_guess : M_X12_guess.ok := ⟨by decide, by decide, by decide, x_84, x_1680, rfl, rfl⟩
def M_X12_hotNow : Md := (yX12_hotNow, cX12_hotNow, 3, (some .int), { frames := 0, cells := 0, slots := 0, locals := 0 })
theorem m_X12_hotNow : M_X12_hotNow.ok := ⟨by decide, by decide, by decide, x_84, x_1691, rfl, rfl⟩
def M_X12_isNear : Md := (yX12_isNear, cX12_isNear, 3, (some .boolean), { frames := 0, cells := 0, slots := 0, locals := 0 })
theorem m_X12_isNear : M_X12_isNear.ok := ⟨by decide, by decide, by decide, x_84, x_1687, rfl, rfl⟩
def M_X12_fitsGauges : Md := (yX12_fitsGauges, cX12_fitsGauges, 6, (some .boolean), { frames := 3, cells := 0, slots := 0, locals := 70 })
theorem m_X12_fitsGauges : M_X12_fitsGauges.ok := ⟨by decide, by decide, by decide, x_84, x_1684, rfl, rfl⟩
def M_X12_two : Md := (yX12_two, cX12_two, 2, (some .int), { frames := 0, cells := 0, slots := 0, locals := 0 })
theorem m_X12_two : M_X12_two.ok := ⟨by decide, by decide, by decide, x_84, x_1676, rfl, rfl⟩
def M_X12_fits : Md := (yX12_fits, cX12_fits, 5, (some .int), { frames := 4, cells := 0, slots := 0, locals := 95 })
theorem m_X12_fits : M_X12_fits.ok := ⟨by decide, by decide, by decide, x_84, x_1672, rfl, rfl⟩
def M_X12_fitAt : Md := (yX12_fitAt, cX12_fitAt, 2, (some .int), { frames := 0, cells := 0, slots := 0, locals := 0 })
theorem m_X12_fitAt : M_X12_fitAt.ok := ⟨by decide, by decide, by decide, x_84, x_1695, rfl, rfl⟩
def M_X12_bits : Md := (yX12_bits, cX12_bits, 3, (some .int), { frames := 0, cells := 0, slots := 0, locals := 0 })
theorem m_X12_bits : M_X12_bits.ok := ⟨by decide, by decide, by decide, x_84, x_1702, rfl, rfl⟩
def M_X12_parts : Md := (yX12_parts, cX12_parts, 4, (some .boolean), { frames := 0, cells := 0, slots := 0, locals := 0 })
theorem m_X12_parts : M_X12_parts.ok := ⟨by decide, by decide, by decide, x_84, x_1706, rfl, rfl⟩
def M_X12_walks : Md := (yX12_walks, cX12_walks, 5, (some .int), { frames := 4, cells := 0, slots := 0, locals := 92 })
theorem m_X12_walks : M_X12_walks.ok := ⟨by decide, by decide, by decide, x_84, x_1699, rfl, rfl⟩
def M_X12_walked : Md := (yX12_walked, cX12_walked, 2, (some .int), { frames := 0, cells := 0, slots := 0, locals := 0 })
theorem m_X12_walked : M_X12_walked.ok := ⟨by decide, by decide, by decide, x_84, x_1710, rfl, rfl⟩
def M_X12_wagons : Md := (yX12_wagons, cX12_wagons, 5, (some .long), { frames := 1, cells := 0, slots := 0, locals := 22 })
theorem m_X12_wagons : M_X12_wagons.ok := ⟨by decide, by decide, by decide, x_84, x_1718, rfl, rfl⟩
def M_X12_day : Md := (yX12_day, cX12_day, 4, (some .int), { frames := 2, cells := 0, slots := 0, locals := 46 })
theorem m_X12_day : M_X12_day.ok := ⟨by decide, by decide, by decide, x_84, x_1714, rfl, rfl⟩
def M_X12_mended : Md := (yX12_mended, cX12_mended, 2, (some .boolean), { frames := 1, cells := 0, slots := 0, locals := 22 })
theorem m_X12_mended : M_X12_mended.ok := ⟨by decide, by decide, by decide, x_84, x_1722, rfl, rfl⟩
def M_X12_makes : Md := (yX12_makes, cX12_makes, 8, (some .boolean), { frames := 0, cells := 0, slots := 0, locals := 0 })
theorem m_X12_makes : M_X12_makes.ok := ⟨by decide, by decide, by decide, x_84, x_1734, rfl, rfl⟩
def M_X12_latest : Md := (yX12_latest, cX12_latest, 4, (some .int), { frames := 1, cells := 0, slots := 0, locals := 27 })
theorem m_X12_latest : M_X12_latest.ok := ⟨by decide, by decide, by decide, x_84, x_1730, rfl, rfl⟩
def M_X12_suspects : Md := (yX12_suspects, cX12_suspects, 3, (some .int), { frames := 2, cells := 0, slots := 0, locals := 50 })
theorem m_X12_suspects : M_X12_suspects.ok := ⟨by decide, by decide, by decide, x_84, x_1726, rfl, rfl⟩
def M_X12_suspect : Md := (yX12_suspect, cX12_suspect, 2, (some .int), { frames := 0, cells := 0, slots := 0, locals := 0 })
theorem m_X12_suspect : M_X12_suspect.ok := ⟨by decide, by decide, by decide, x_84, x_1738, rfl, rfl⟩
def M_X12_next : Md := (yX12_next, cX12_next, 9, (some .int), { frames := 2, cells := 0, slots := 0, locals := 50 })
theorem m_X12_next : M_X12_next.ok := ⟨by decide, by decide, by decide, x_84, x_1742, rfl, rfl⟩
def M_X12_count : Md := (yX12_count, cX12_count, 4, (some .int), { frames := 0, cells := 0, slots := 0, locals := 0 })
theorem m_X12_count : M_X12_count.ok := ⟨by decide, by decide, by decide, x_84, x_1746, rfl, rfl⟩
def M_J6_bitCount_0f7a4 : Md := (yJ6_bitCount_0f7a4, cJ6_bitCount_0f7a4, 1, (some .int), { frames := 0, cells := 0, slots := 0, locals := 0 })
theorem m_J6_bitCount_0f7a4 : M_J6_bitCount_0f7a4.ok := ⟨by decide, by decide, by decide, x_95, x_990, rfl, rfl⟩
